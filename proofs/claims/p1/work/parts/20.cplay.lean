theorem dX1_play_44 : decode cX1_play 44 = .ok (.iload_n 3, 1) := by decide +kernel
theorem dX1_play_45 : decode cX1_play 45 = .ok (.iload_n 2, 1) := by decide +kernel
theorem dX1_play_46 : decode cX1_play 46 = .ok (.if_icmp .gt 14, 3) := by decide +kernel
theorem dX1_play_60 : decode cX1_play 60 = .ok (.return_, 1) := by decide +kernel
theorem dX1_play_49 : decode cX1_play 49 = .ok (.aload_n 0, 1) := by decide +kernel
theorem dX1_play_50 : decode cX1_play 50 = .ok (.iload_n 3, 1) := by decide +kernel
theorem dX1_play_51 : decode cX1_play 51 = .ok (.invokevirtual 49, 3) := by decide +kernel
theorem dX1_play_54 : decode cX1_play 54 = .ok (.iinc 3 1, 3) := by decide +kernel
theorem dX1_play_57 : decode cX1_play 57 = .ok (.goto (-13), 3) := by decide +kernel
theorem dX1_play_7 : decode cX1_play 7 = .ok (.iload_n 3, 1) := by decide +kernel
theorem dX1_play_8 : decode cX1_play 8 = .ok (.bipush 25, 2) := by decide +kernel
theorem dX1_play_10 : decode cX1_play 10 = .ok (.if_icmp .ge 32, 3) := by decide +kernel
theorem dX1_play_42 : decode cX1_play 42 = .ok (.iconst 1, 1) := by decide +kernel
theorem dX1_play_43 : decode cX1_play 43 = .ok (.istore_n 3, 1) := by decide +kernel
theorem dX1_play_13 : decode cX1_play 13 = .ok (.aload_n 0, 1) := by decide +kernel
theorem dX1_play_14 : decode cX1_play 14 = .ok (.getfield 18, 3) := by decide +kernel
theorem dX1_play_17 : decode cX1_play 17 = .ok (.iload_n 3, 1) := by decide +kernel
theorem dX1_play_18 : decode cX1_play 18 = .ok (.iconst 1, 1) := by decide +kernel
theorem dX1_play_19 : decode cX1_play 19 = .ok (.bastore, 1) := by decide +kernel
theorem dX1_play_20 : decode cX1_play 20 = .ok (.aload_n 0, 1) := by decide +kernel
theorem dX1_play_21 : decode cX1_play 21 = .ok (.getfield 22, 3) := by decide +kernel
theorem dX1_play_24 : decode cX1_play 24 = .ok (.iload_n 3, 1) := by decide +kernel
theorem dX1_play_25 : decode cX1_play 25 = .ok (.bipush (-2), 2) := by decide +kernel
theorem dX1_play_27 : decode cX1_play 27 = .ok (.iastore, 1) := by decide +kernel
theorem dX1_play_28 : decode cX1_play 28 = .ok (.aload_n 0, 1) := by decide +kernel
theorem dX1_play_29 : decode cX1_play 29 = .ok (.getfield 25, 3) := by decide +kernel
theorem dX1_play_32 : decode cX1_play 32 = .ok (.iload_n 3, 1) := by decide +kernel
theorem dX1_play_33 : decode cX1_play 33 = .ok (.bipush 31, 2) := by decide +kernel
theorem dX1_play_35 : decode cX1_play 35 = .ok (.iastore, 1) := by decide +kernel
theorem dX1_play_36 : decode cX1_play 36 = .ok (.iinc 3 1, 3) := by decide +kernel
theorem dX1_play_39 : decode cX1_play 39 = .ok (.goto (-32), 3) := by decide +kernel
theorem dX1_play_0 : decode cX1_play 0 = .ok (.aload_n 0, 1) := by decide +kernel
theorem dX1_play_1 : decode cX1_play 1 = .ok (.iload_n 1, 1) := by decide +kernel
theorem dX1_play_2 : decode cX1_play 2 = .ok (.putfield 46, 3) := by decide +kernel
theorem dX1_play_5 : decode cX1_play 5 = .ok (.iconst 0, 1) := by decide +kernel
theorem dX1_play_6 : decode cX1_play 6 = .ok (.istore_n 3, 1) := by decide +kernel
def fI : Nat → Nat → fS → fS
  | 0, _, S => S
  | m + 1, k, S => fI m (k + 1) (S.1, upd S.2.1 k 1, upd S.2.2.1 k (-2), upd S.2.2.2 k 31)
/-- the field behind n minutes from a seed -/
def fF (seed : Int32) (n : Nat) : fS := fM n 1 (fI 25 0 (seed, fun _ => 0, fun _ => 0, fun _ => 0))
set_option maxRecDepth 1000000 in
theorem zC_38 : z_M 38 = fun _ => 0 := by with_unfolding_all rfl
set_option maxRecDepth 1000000 in
theorem zC_39 : z_M 39 = fun _ => 0 := by with_unfolding_all rfl
set_option maxRecDepth 1000000 in
theorem zC_40 : z_M 40 = fun _ => 0 := by with_unfolding_all rfl
set_option maxRecDepth 1000000 in
theorem zR_77 : z_M 77 = fun _ => 0 := by with_unfolding_all rfl
set_option maxRecDepth 1000000 in
theorem zR_78 : z_M 78 = fun _ => 0 := by with_unfolding_all rfl
set_option maxRecDepth 1000000 in
theorem zR_79 : z_M 79 = fun _ => 0 := by with_unfolding_all rfl
theorem FC_z : FC z_M := ⟨mi_36, by decide +kernel, Fr_z⟩
set_option maxRecDepth 100000 in
set_option maxHeartbeats 4000000 in
theorem pl_l {seed : Int32} {N : Nat} (hN : N ≤ 30) {l : Launch} {G : xG} {J : xJ} : ∀ (m k : Nat) (M : xM), k + m = N + 1 → FC M → x_X l G fX1_play 3 0 0 (fun v s2 M2 J2 => v = none ∧ s2 = x_SH ∧ J = J2 ∧ fC M2 = fM m k (fC M) ∧ FC M2) 44 [(3, .int (nI (k))), (2, .int (nI (N))), (1, .int (seed)), (0, .ref (35))] [] x_SH M J 0 0 := by
  intro m
  induction m with
  | zero =>
    intro k M hk e
    refine xr_iload_n dX1_play_44 0 rfl ?_
    refine xr_iload_n dX1_play_45 1 rfl ?_
    refine xr_icmp_gt (tgt := 60) dX1_play_46 rfl (fun _ => ?_) (fun c => absurd (nI_lt (a := N) (b := k) (by omega) (by omega)) c)
    exact xr_vret dX1_play_60 rfl (⟨rfl, rfl, rfl, rfl, e⟩)
  | succ m ih =>
    intro k M hk e
    refine xr_iload_n dX1_play_44 0 rfl ?_
    refine xr_iload_n dX1_play_45 1 rfl ?_
    refine xr_icmp_gt (tgt := 60) dX1_play_46 rfl (fun c => absurd c (nI_nlt (a := N) (b := k) (by omega) (by omega))) (fun _ => ?_)
    refine xr_aload_n dX1_play_49 3 rfl ?_
    refine xr_iload_n dX1_play_50 0 rfl ?_
    refine xr_callV (As := [.int (nI (k))]) (rest := []) mlX1_49 (pm_M (nI (k)) e) dX1_play_51 s_35 rfl rfl (Nat.le_of_ble_eq_true rfl) (by decide) ⟨by decide, by decide⟩ (fun v s2 M1 J2 hq => ?_)
    obtain ⟨rfl, rfl, rfl, hqS, e2⟩ := hq
    try dsimp only [Option.toList, List.cons_append, List.nil_append]
    refine xr_iinc (v := nI (k + 1)) (ls2 := [(3, .int (nI (k + 1))), (2, .int (nI (N))), (1, .int (seed)), (0, .ref (35))]) dX1_play_54 0 rfl (nI_1 _) (by decide) rfl ?_
    refine xr_goto (tgt := 44) dX1_play_57 rfl ?_
    refine xb_ls (ls2 := [(3, .int (nI (k + 1))), (2, .int (nI (N))), (1, .int (seed)), (0, .ref (35))]) [0, 1, 2, 3] rfl ?_
    refine x_Q (Q := fun v s2 M2 J2 => v = none ∧ s2 = x_SH ∧ J = J2 ∧ fC M2 = fM m (k + 1) (fC M1) ∧ FC M2) (by rw [hqS]; rfl) ?_
    exact ih (k + 1) _ (by omega) e2
set_option maxRecDepth 100000 in
set_option maxHeartbeats 4000000 in
theorem pi_l {seed : Int32} {N : Nat} (hN : N ≤ 30) {l : Launch} {G : xG} {J : xJ} : ∀ (m k : Nat) (M : xM), k + m = 25 → FC M → x_X l G fX1_play 3 0 0 (fun v s2 M2 J2 => v = none ∧ s2 = x_SH ∧ J = J2 ∧ fC M2 = fM N 1 (fI m k (fC M)) ∧ FC M2) 7 [(3, .int (nI (k))), (2, .int (nI (N))), (1, .int (seed)), (0, .ref (35))] [] x_SH M J 0 0 := by
  intro m
  induction m with
  | zero =>
    intro k M hk e
    refine xr_iload_n dX1_play_7 0 rfl ?_
    refine xr_bipush (v := 25) dX1_play_8 rfl ?_
    refine xr_icmp_ge (tgt := 42) dX1_play_10 rfl (fun _ => ?_) (fun c => absurd (nI_le (a := 25) (b := k) (by omega) (by omega)) c)
    refine xr_iconst (v := 1) dX1_play_42 rfl ?_
    refine xr_istore_n (ls2 := [(3, .int (1)), (2, .int (nI (N))), (1, .int (seed)), (0, .ref (35))]) dX1_play_43 (by decide) rfl ?_
    refine xb_ls (ls2 := [(3, .int (nI (1))), (2, .int (nI (N))), (1, .int (seed)), (0, .ref (35))]) [0, 1, 2, 3] rfl ?_
    exact pl_l hN N 1 M (by omega) e
  | succ m ih =>
    intro k M hk e
    have hk5 : k < 25 := by omega
    refine xr_iload_n dX1_play_7 0 rfl ?_
    refine xr_bipush (v := 25) dX1_play_8 rfl ?_
    refine xr_icmp_ge (tgt := 42) dX1_play_10 rfl (fun c => absurd c (nI_ge (a := k) (b := 25) (by omega) (by omega))) (fun _ => ?_)
    refine xr_aload_n dX1_play_13 3 rfl ?_
    refine xr_getR flX1_18 dX1_play_14 s_35 rfl ?_
    refine xr_iload_n dX1_play_17 0 rfl ?_
    refine xr_iconst (v := 1) dX1_play_18 rfl ?_
    refine xb_zast (j := k) (w := 1) dX1_play_19 s_38 hk5 (by decide) rfl ?_
    refine xr_aload_n dX1_play_20 3 rfl ?_
    refine xr_getR flX1_22 dX1_play_21 s_35 rfl ?_
    refine xr_iload_n dX1_play_24 0 rfl ?_
    refine xr_bipush (v := -2) dX1_play_25 rfl ?_
    refine xb_iast (j := k) dX1_play_27 s_39 hk5 (by decide) ?_
    refine xr_aload_n dX1_play_28 3 rfl ?_
    refine xr_getR flX1_25 dX1_play_29 s_35 rfl ?_
    refine xr_iload_n dX1_play_32 0 rfl ?_
    refine xr_bipush (v := 31) dX1_play_33 rfl ?_
    refine xb_iast (j := k) dX1_play_35 s_40 hk5 (by decide) ?_
    refine xr_iinc (v := nI (k + 1)) (ls2 := [(3, .int (nI (k + 1))), (2, .int (nI (N))), (1, .int (seed)), (0, .ref (35))]) dX1_play_36 0 rfl (nI_1 _) (by decide) rfl ?_
    refine xr_goto (tgt := 7) dX1_play_39 rfl ?_
    refine xb_ls (ls2 := [(3, .int (nI (k + 1))), (2, .int (nI (N))), (1, .int (seed)), (0, .ref (35))]) [0, 1, 2, 3] rfl ?_
    exact ih (k + 1) (x_up (x_up (x_up M 38 k 1) 39 k (-2)) 40 k 31) (by omega) (FC_up ⟨by decide, by decide, fun q => absurd q.1 (by decide)⟩ (FC_up ⟨by decide, by decide, fun q => absurd q.1 (by decide)⟩ (FC_up ⟨by decide, by decide, fun q => absurd q.1 (by decide)⟩ e)))
set_option maxRecDepth 100000 in
set_option maxHeartbeats 4000000 in
theorem play_M {l : Launch} {G : xG} {M : xM} {J : xJ} (seed : Int32) {N : Nat} (hN : N ≤ 30) (e : FC M) : x_M l G fX1_play 3 0 0 [.ref 35, .int (seed), .int (nI (N))] x_SH M J (fun v s2 M2 J2 => v = none ∧ s2 = x_SH ∧ J = J2 ∧ fC M2 = fM N 1 (fI 25 0 (seed, M 38, M 39, M 40)) ∧ FC M2) := by
  refine xb_of pX1 (Nat.le_of_ble_eq_true rfl) rfl ?_
  refine xr_aload_n dX1_play_0 0 rfl ?_
  refine xr_iload_n dX1_play_1 1 rfl ?_
  refine xr_putI fpX1_46 dX1_play_2 s_35 rfl rfl rfl ?_
  refine xr_iconst (v := 0) dX1_play_5 rfl ?_
  refine xr_istore_n (ls2 := [(3, .int (0)), (0, .ref (35)), (1, .int (seed)), (2, .int (nI (N)))]) dX1_play_6 (by decide) rfl ?_
  refine xb_ls (ls2 := [(3, .int (nI (0))), (2, .int (nI (N))), (1, .int (seed)), (0, .ref (35))]) [0, 3, 2, 1] rfl ?_
  exact pi_l hN 25 0 (x_up M 35 6 seed) (by omega) (FC_up (by decide) e)
theorem play_z {l : Launch} {G : xG} (seed : Int32) {N : Nat} (hN : N ≤ 30) : x_M l G fX1_play 3 0 0 [.ref 35, .int (seed), .int (nI (N))] x_SH z_M x_J0 (fun v s2 M2 J2 => v = none ∧ s2 = x_SH ∧ x_J0 = J2 ∧ fC M2 = fF seed N ∧ FC M2) := by
  have h := play_M (l := l) (G := G) (J := x_J0) seed hN FC_z
  rw [zC_38, zC_39, zC_40] at h
  exact h
