theorem dX1_knockFrom_0 : decode cX1_knockFrom 0 = .ok (.iconst 0, 1) := by decide +kernel
theorem dX1_knockFrom_1 : decode cX1_knockFrom 1 = .ok (.istore_n 3, 1) := by decide +kernel
theorem dX1_playMinute_2 : decode cX1_playMinute 2 = .ok (.iload_n 2, 1) := by decide +kernel
theorem dX1_playMinute_3 : decode cX1_playMinute 3 = .ok (.bipush 25, 2) := by decide +kernel
theorem dX1_playMinute_5 : decode cX1_playMinute 5 = .ok (.if_icmp .ge 45, 3) := by decide +kernel
theorem dX1_playMinute_50 : decode cX1_playMinute 50 = .ok (.return_, 1) := by decide +kernel
theorem dX1_playMinute_8 : decode cX1_playMinute 8 = .ok (.aload_n 0, 1) := by decide +kernel
theorem dX1_playMinute_9 : decode cX1_playMinute 9 = .ok (.getfield 18, 3) := by decide +kernel
theorem dX1_playMinute_12 : decode cX1_playMinute 12 = .ok (.iload_n 2, 1) := by decide +kernel
theorem dX1_playMinute_13 : decode cX1_playMinute 13 = .ok (.baload, 1) := by decide +kernel
theorem dX1_playMinute_14 : decode cX1_playMinute 14 = .ok (.ifCond .eq 30, 3) := by decide +kernel
theorem dX1_playMinute_44 : decode cX1_playMinute 44 = .ok (.iinc 2 1, 3) := by decide +kernel
theorem dX1_playMinute_47 : decode cX1_playMinute 47 = .ok (.goto (-45), 3) := by decide +kernel
theorem dX1_playMinute_17 : decode cX1_playMinute 17 = .ok (.aload_n 0, 1) := by decide +kernel
theorem dX1_playMinute_18 : decode cX1_playMinute 18 = .ok (.invokevirtual 53, 3) := by decide +kernel
theorem dX1_playMinute_21 : decode cX1_playMinute 21 = .ok (.aload_n 0, 1) := by decide +kernel
theorem dX1_playMinute_22 : decode cX1_playMinute 22 = .ok (.getfield 9, 3) := by decide +kernel
theorem dX1_playMinute_25 : decode cX1_playMinute 25 = .ok (.iload_n 2, 1) := by decide +kernel
theorem dX1_playMinute_26 : decode cX1_playMinute 26 = .ok (.iaload, 1) := by decide +kernel
theorem dX1_playMinute_27 : decode cX1_playMinute 27 = .ok (.if_icmp .lt 17, 3) := by decide +kernel
theorem dX1_playMinute_30 : decode cX1_playMinute 30 = .ok (.aload_n 0, 1) := by decide +kernel
theorem dX1_playMinute_31 : decode cX1_playMinute 31 = .ok (.iload_n 2, 1) := by decide +kernel
theorem dX1_playMinute_32 : decode cX1_playMinute 32 = .ok (.bipush (-2), 2) := by decide +kernel
theorem dX1_playMinute_34 : decode cX1_playMinute 34 = .ok (.iload_n 1, 1) := by decide +kernel
theorem dX1_playMinute_35 : decode cX1_playMinute 35 = .ok (.invokevirtual 57, 3) := by decide +kernel
theorem dX1_playMinute_38 : decode cX1_playMinute 38 = .ok (.aload_n 0, 1) := by decide +kernel
theorem dX1_playMinute_39 : decode cX1_playMinute 39 = .ok (.iload_n 2, 1) := by decide +kernel
theorem dX1_playMinute_40 : decode cX1_playMinute 40 = .ok (.iload_n 1, 1) := by decide +kernel
theorem dX1_playMinute_41 : decode cX1_playMinute 41 = .ok (.invokevirtual 61, 3) := by decide +kernel
theorem dX1_playMinute_0 : decode cX1_playMinute 0 = .ok (.iconst 0, 1) := by decide +kernel
theorem dX1_playMinute_1 : decode cX1_playMinute 1 = .ok (.istore_n 2, 1) := by decide +kernel
set_option maxRecDepth 100000 in
set_option maxHeartbeats 4000000 in
theorem kn_M {l : Launch} {G : xG} {M : xM} {J : xJ} {g : Nat} (hg : g < 25) (mi : Int32) (e : FC M) : x_M l G fX1_knockFrom 1 0 0 [.ref 35, .int (nI (g)), .int (mi)] x_SH M J (fun v s2 M2 J2 => v = none ∧ s2 = x_SH ∧ J = J2 ∧ fC M2 = fK0 g mi (fC M) ∧ FC M2) := by
  refine xb_of pX1 (Nat.le_of_ble_eq_true rfl) rfl ?_
  refine xr_iconst (v := 0) dX1_knockFrom_0 rfl ?_
  refine xr_istore_n (ls2 := [(3, .int (0)), (0, .ref (35)), (1, .int (nI (g))), (2, .int (mi))]) dX1_knockFrom_1 (by decide) rfl ?_
  refine xb_ls (ls2 := [(3, .int (0)), (2, .int (mi)), (1, .int (nI (g))), (0, .ref (35))]) [0, 3, 2, 1] rfl ?_
  exact kn_0 hg mi e
set_option maxRecDepth 100000 in
set_option maxHeartbeats 4000000 in
theorem pm_l {mi : Int32} {l : Launch} {G : xG} {J : xJ} : ∀ (m k : Nat) (M : xM), k + m = 25 → FC M → x_X l G fX1_playMinute 2 0 0 (fun v s2 M2 J2 => v = none ∧ s2 = x_SH ∧ J = J2 ∧ fC M2 = fG mi m k (fC M) ∧ FC M2) 2 [(2, .int (nI (k))), (1, .int (mi)), (0, .ref (35))] [] x_SH M J 0 0 := by
  intro m
  induction m with
  | zero =>
    intro k M hk e
    refine xr_iload_n dX1_playMinute_2 0 rfl ?_
    refine xr_bipush (v := 25) dX1_playMinute_3 rfl ?_
    refine xr_icmp_ge (tgt := 50) dX1_playMinute_5 rfl (fun _ => ?_) (fun c => absurd (nI_le (a := 25) (b := k) (by omega) (by omega)) c)
    exact xr_vret dX1_playMinute_50 rfl (⟨rfl, rfl, rfl, rfl, e⟩)
  | succ m ih =>
    intro k M hk e
    have hk5 : k < 25 := by omega
    refine xr_iload_n dX1_playMinute_2 0 rfl ?_
    refine xr_bipush (v := 25) dX1_playMinute_3 rfl ?_
    refine xr_icmp_ge (tgt := 50) dX1_playMinute_5 rfl (fun c => absurd c (nI_ge (a := k) (b := 25) (by omega) (by omega))) (fun _ => ?_)
    refine xr_aload_n dX1_playMinute_8 2 rfl ?_
    refine xr_getR flX1_18 dX1_playMinute_9 s_35 rfl ?_
    refine xr_iload_n dX1_playMinute_12 0 rfl ?_
    refine xb_zald (j := k) (v := M 38 k) dX1_playMinute_13 s_38 hk5 (by decide) rfl ?_
    refine xr_if_eq (tgt := 44) dX1_playMinute_14 rfl (fun c1 => ?_) (fun c1 => ?_)
    · refine xr_iinc (v := nI (k + 1)) (ls2 := [(2, .int (nI (k + 1))), (1, .int (mi)), (0, .ref (35))]) dX1_playMinute_44 0 rfl (nI_1 _) (by decide) rfl ?_
      refine xr_goto (tgt := 2) dX1_playMinute_47 rfl ?_
      refine xb_ls (ls2 := [(2, .int (nI (k + 1))), (1, .int (mi)), (0, .ref (35))]) [0, 1, 2] rfl ?_
      have hS : fg k mi (fC M) = fC M := if_pos c1
      have hT : fG mi m (k + 1) (fC M) = fG mi (m + 1) k (fC M) := (congrArg (fG mi m (k + 1)) hS).symm
      refine x_Q (Q := fun v s2 M2 J2 => v = none ∧ s2 = x_SH ∧ J = J2 ∧ fC M2 = fG mi m (k + 1) (fC M) ∧ FC M2) (by rw [hT]) ?_
      exact ih (k + 1) _ (by omega) e
    · refine xr_aload_n dX1_playMinute_17 2 rfl ?_
      refine xb_cV (As := []) (rest := []) mlX1_53 (c_X1_draw) dX1_playMinute_18 s_35 rfl rfl (Nat.le_of_ble_eq_true rfl) (by decide) (by decide) ?_
      refine xr_aload_n dX1_playMinute_21 2 rfl ?_
      refine xr_getR flX1_9 dX1_playMinute_22 s_35 rfl ?_
      refine xr_iload_n dX1_playMinute_25 0 rfl ?_
      refine xb_iald (j := k) (v := 9) dX1_playMinute_26 s_36 hk5 (by decide) (Eq.trans (congrFun (x_up_n _ _ _ (by decide)) _) (e.1 k hk5)) ?_
      refine xr_icmp_lt (tgt := 44) dX1_playMinute_27 rfl (fun c2 => ?_) (fun c2 => ?_)
      · refine xr_iinc (v := nI (k + 1)) (ls2 := [(2, .int (nI (k + 1))), (1, .int (mi)), (0, .ref (35))]) dX1_playMinute_44 0 rfl (nI_1 _) (by decide) rfl ?_
        refine xr_goto (tgt := 2) dX1_playMinute_47 rfl ?_
        refine xb_ls (ls2 := [(2, .int (nI (k + 1))), (1, .int (mi)), (0, .ref (35))]) [0, 1, 2] rfl ?_
        have hS : fg k mi (fC M) = fC (x_up M 35 6 (fz (M 35 6))) := (if_neg c1).trans (if_pos c2)
        have hT : fG mi m (k + 1) (fC (x_up M 35 6 (fz (M 35 6)))) = fG mi (m + 1) k (fC M) := (congrArg (fG mi m (k + 1)) hS).symm
        refine x_Q (Q := fun v s2 M2 J2 => v = none ∧ s2 = x_SH ∧ J = J2 ∧ fC M2 = fG mi m (k + 1) (fC (x_up M 35 6 (fz (M 35 6)))) ∧ FC M2) (by rw [hT]) ?_
        exact ih (k + 1) _ (by omega) (FC_up (by decide) e)
      · refine xr_aload_n dX1_playMinute_30 2 rfl ?_
        refine xr_iload_n dX1_playMinute_31 0 rfl ?_
        refine xr_bipush (v := -2) dX1_playMinute_32 rfl ?_
        refine xr_iload_n dX1_playMinute_34 1 rfl ?_
        refine xb_cV (As := [.int (nI (k)), .int ((-2)), .int (mi)]) (rest := []) mlX1_57 (c_X1_drop hk5 (-2) mi) dX1_playMinute_35 s_35 rfl rfl (Nat.le_of_ble_eq_true rfl) (by decide) (by decide) ?_
        refine xr_aload_n dX1_playMinute_38 2 rfl ?_
        refine xr_iload_n dX1_playMinute_39 0 rfl ?_
        refine xr_iload_n dX1_playMinute_40 1 rfl ?_
        refine xr_callV (As := [.int (nI (k)), .int (mi)]) (rest := []) mlX1_61 (kn_M hk5 mi (FC_up ⟨by decide, by decide, fun q => absurd q.1 (by decide)⟩ (FC_up ⟨by decide, by decide, fun q => absurd q.1 (by decide)⟩ (FC_up ⟨by decide, by decide, fun q => absurd q.1 (by decide)⟩ (FC_up (by decide) e))))) dX1_playMinute_41 s_35 rfl rfl (Nat.le_of_ble_eq_true rfl) (by decide) ⟨by decide, by decide⟩ (fun v s2 M3 J2 hq => ?_)
        obtain ⟨rfl, rfl, rfl, hqS, e4⟩ := hq
        try dsimp only [Option.toList, List.cons_append, List.nil_append]
        refine xr_iinc (v := nI (k + 1)) (ls2 := [(2, .int (nI (k + 1))), (1, .int (mi)), (0, .ref (35))]) dX1_playMinute_44 0 rfl (nI_1 _) (by decide) rfl ?_
        refine xr_goto (tgt := 2) dX1_playMinute_47 rfl ?_
        refine xb_ls (ls2 := [(2, .int (nI (k + 1))), (1, .int (mi)), (0, .ref (35))]) [0, 1, 2] rfl ?_
        have hS : fg k mi (fC M) = fC M3 := (if_neg c1).trans ((if_neg c2).trans hqS.symm)
        have hT : fG mi m (k + 1) (fC M3) = fG mi (m + 1) k (fC M) := (congrArg (fG mi m (k + 1)) hS).symm
        refine x_Q (Q := fun v s2 M2 J2 => v = none ∧ s2 = x_SH ∧ J = J2 ∧ fC M2 = fG mi m (k + 1) (fC M3) ∧ FC M2) (by rw [hT]) ?_
        exact ih (k + 1) _ (by omega) e4
set_option maxRecDepth 100000 in
set_option maxHeartbeats 4000000 in
theorem pm_M {l : Launch} {G : xG} {M : xM} {J : xJ} (mi : Int32) (e : FC M) : x_M l G fX1_playMinute 2 0 0 [.ref 35, .int (mi)] x_SH M J (fun v s2 M2 J2 => v = none ∧ s2 = x_SH ∧ J = J2 ∧ fC M2 = fG mi 25 0 (fC M) ∧ FC M2) := by
  refine xb_of pX1 (Nat.le_of_ble_eq_true rfl) rfl ?_
  refine xr_iconst (v := 0) dX1_playMinute_0 rfl ?_
  refine xr_istore_n (ls2 := [(2, .int (0)), (0, .ref (35)), (1, .int (mi))]) dX1_playMinute_1 (by decide) rfl ?_
  refine xb_ls (ls2 := [(2, .int (nI (0))), (1, .int (mi)), (0, .ref (35))]) [0, 2, 1] rfl ?_
  exact pm_l 25 0 M (by omega) e
