theorem dX10_law_37 : decode cX10_law 37 = .ok (.iload_n 3, 1) := by decide +kernel
theorem dX10_law_38 : decode cX10_law 38 = .ok (.iload_n 2, 1) := by decide +kernel
theorem dX10_law_39 : decode cX10_law 39 = .ok (.if_icmp .ge 21, 3) := by decide +kernel
theorem dX10_law_42 : decode cX10_law 42 = .ok (.aload_n 0, 1) := by decide +kernel
theorem dX10_law_43 : decode cX10_law 43 = .ok (.getfield 31, 3) := by decide +kernel
theorem dX10_law_46 : decode cX10_law 46 = .ok (.iload_n 3, 1) := by decide +kernel
theorem dX10_law_47 : decode cX10_law 47 = .ok (.aload_n 0, 1) := by decide +kernel
theorem dX10_law_48 : decode cX10_law 48 = .ok (.getfield 28, 3) := by decide +kernel
theorem dX10_law_51 : decode cX10_law 51 = .ok (.iload_n 3, 1) := by decide +kernel
theorem dX10_law_52 : decode cX10_law 52 = .ok (.iaload, 1) := by decide +kernel
theorem dX10_law_53 : decode cX10_law 53 = .ok (.iastore, 1) := by decide +kernel
theorem dX10_law_54 : decode cX10_law 54 = .ok (.iinc 3 1, 3) := by decide +kernel
theorem dX10_law_57 : decode cX10_law 57 = .ok (.goto (-20), 3) := by decide +kernel
theorem dX10_then_46 : decode cX10_then 46 = .ok (.iload 4, 2) := by decide +kernel
theorem dX10_then_48 : decode cX10_then 48 = .ok (.iload_n 2, 1) := by decide +kernel
theorem dX10_then_49 : decode cX10_then 49 = .ok (.if_icmp .ge 20, 3) := by decide +kernel
theorem dX10_then_52 : decode cX10_then 52 = .ok (.aload_n 0, 1) := by decide +kernel
theorem dX10_then_53 : decode cX10_then 53 = .ok (.aload_n 0, 1) := by decide +kernel
theorem dX10_then_54 : decode cX10_then 54 = .ok (.getfield 151, 3) := by decide +kernel
theorem dX10_then_57 : decode cX10_then 57 = .ok (.iload 4, 2) := by decide +kernel
theorem dX10_then_59 : decode cX10_then 59 = .ok (.iadd, 1) := by decide +kernel
theorem dX10_then_60 : decode cX10_then 60 = .ok (.invokevirtual 255, 3) := by decide +kernel
theorem dX10_then_63 : decode cX10_then 63 = .ok (.iinc 4 1, 3) := by decide +kernel
theorem dX10_then_66 : decode cX10_then 66 = .ok (.goto (-20), 3) := by decide +kernel
theorem sx_n0 {v : Int32} (h : 1 ≤ v.toInt64 ∧ v.toInt64 ≤ 9) : v ≠ 0 := fun q => by subst q; exact absurd h.1 (by decide)
theorem sx_n0J {v : Int64} (h : 1 ≤ v ∧ v ≤ 9) : v.toInt32 ≠ 0 := fun q => by
  have h1 := Int64.le_iff_toInt_le.mp h.1
  have h2 := Int64.le_iff_toInt_le.mp h.2
  have h3 : (1 : Int64).toInt = 1 := rfl
  have h4 : (9 : Int64).toInt = 9 := rfl
  have h5 := congrArg Int32.toInt q
  rw [Int64.toInt_toInt32] at h5
  rw [show (0 : Int32).toInt = 0 from rfl, Int.bmod_eq_of_le (by omega) (by omega)] at h5
  omega
abbrev WLT (p k : Nat) : Prop := (p = 62 ∧ k = 11) ∨ (p = 62 ∧ k = 13) ∨ (p = 62 ∧ k = 14) ∨ (p = 62 ∧ k = 15) ∨ (p = 62 ∧ k = 16) ∨ (p = 62 ∧ k = 17) ∨ (p = 62 ∧ k = 18) ∨ (p = 70)
abbrev W70 (p k : Nat) : Prop := (p = 70)
abbrev WLI (p k : Nat) : Prop := (p = 63) ∨ (67 ≤ p ∧ p ≤ 68)
set_option maxRecDepth 100000 in
set_option maxHeartbeats 4000000 in
theorem th_l {w : Int32} {h K : Nat} (hh : h < 5) (hK : K ≤ 200) {l : Launch} {G : xG} {M : xM} {J : xJ} {Q : xQ} {hn : Nat} (h_hn : hn ≤ 5) (e_hn : M 62 6 = nI hn) (hw : ∀ k, k < hn → M 63 (5 + k) ≠ 0) (hbt : M 63 16 ≠ 0) (htx : M 62 13 = -1 ∨ ∃ n : Nat, n ≤ 120 ∧ M 62 13 = nI n) (hC : ∀ (M2 : xM), Ke WR1 M M2 → x_X l G fX10_then 62 0 0 Q 69 [(3, .int (w)), (2, .int (nI (K))), (1, .int (nI (h))), (0, .ref (62))] [] x_SH M2 J 0 0) : ∀ (m k : Nat) (M1 : xM), k + m = K → Ke WR1 M M1 → x_X l G fX10_then 62 0 0 Q 46 [(4, .int (nI (k))), (3, .int (w)), (2, .int (nI (K))), (1, .int (nI (h))), (0, .ref (62))] [] x_SH M1 J 0 0 := by
  intro m
  induction m with
  | zero =>
    intro k M1 hk hM
    refine xr_iload dX10_then_46 0 rfl ?_
    refine xr_iload_n dX10_then_48 2 rfl ?_
    refine xr_icmp_ge (tgt := 69) dX10_then_49 rfl (fun _ => ?_) (fun c => absurd (nI_le (a := K) (b := k) (by omega) (by omega)) c)
    refine xb_ls (ls2 := [(3, .int (w)), (2, .int (nI (K))), (1, .int (nI (h))), (0, .ref (62))]) [1, 2, 3, 4] rfl ?_
    exact hC _ hM
  | succ m ih =>
    intro k M1 hk hM
    have hkN : k < K := by omega
    refine xr_iload dX10_then_46 0 rfl ?_
    refine xr_iload_n dX10_then_48 2 rfl ?_
    refine xr_icmp_ge (tgt := 69) dX10_then_49 rfl (fun c => absurd c (nI_ge (a := k) (b := K) (by omega) (by omega))) (fun _ => ?_)
    refine xr_aload_n dX10_then_52 4 rfl ?_
    refine xr_aload_n dX10_then_53 4 rfl ?_
    refine xb_get (v := M1 62 9) flX10_151 dX10_then_54 s_62 rfl rfl ?_
    refine xr_iload dX10_then_57 0 rfl ?_
    refine xr_iadd dX10_then_59 ?_
    refine xr_callV (As := [.int (((M1 62 9) + (nI (k))))]) (rest := []) mlX10_255 (g_X10_tickGoes ((M1 62 9) + (nI (k))) h_hn (Eq.trans (hM 62 6 (by decide)) e_hn) (fun kw hkw => by rw [show M1 63 (5 + kw) = M 63 (5 + kw) from (Eq.trans (hM 63 (5 + kw) (by unfold WR1; omega)) rfl)]; exact hw kw hkw) (by rw [show M1 63 16 = M 63 16 from (Eq.trans (hM 63 16 (by unfold WR1; omega)) rfl)]; exact hbt) (by rw [show M1 62 13 = M 62 13 from (Eq.trans (hM 62 13 (by unfold WR1; omega)) rfl)]; exact htx)) dX10_then_60 s_62 rfl rfl (Nat.le_of_ble_eq_true rfl) (by decide) ⟨by decide, by decide⟩ (fun v s2 M1 J2 hq => ?_)
    obtain ⟨rfl, rfl, rfl, k2, _⟩ := hq
    try dsimp only [Option.toList, List.cons_append, List.nil_append]
    refine xr_iinc (v := nI (k + 1)) (ls2 := [(4, .int (nI (k + 1))), (3, .int (w)), (2, .int (nI (K))), (1, .int (nI (h))), (0, .ref (62))]) dX10_then_63 0 rfl (nI_1 _) (by decide) rfl ?_
    refine xr_goto (tgt := 46) dX10_then_66 rfl ?_
    refine xb_ls (ls2 := [(4, .int (nI (k + 1))), (3, .int (w)), (2, .int (nI (K))), (1, .int (nI (h))), (0, .ref (62))]) [0, 1, 2, 3, 4] rfl ?_
    exact ih (k + 1) M1 (by omega) (Ke.tr (fun _ _ h => h) hM k2)
