theorem dL_law_18 : decode cL_law 18 = .ok (.iload_n 3, 1) := lcD_29 (lcR_B (by decide +kernel))
theorem dL_law_19 : decode cL_law 19 = .ok (.aload_n 0, 1) := lcD_42 (lcR_B (by decide +kernel))
theorem dL_law_20 : decode cL_law 20 = .ok (.arraylength, 1) := by decide +kernel
theorem dL_law_21 : decode cL_law 21 = .ok (.bipush 6, 2) := by decide +kernel
theorem dL_law_23 : decode cL_law 23 = .ok (.isub, 1) := by decide +kernel
theorem dL_law_24 : decode cL_law 24 = .ok (.if_icmp .gt 1484, 3) := by decide +kernel
theorem dL_law_1508 : decode cL_law 1508 = .ok (.iconst 1, 1) := by decide +kernel
theorem dL_law_1509 : decode cL_law 1509 = .ok (.ireturn, 1) := by decide +kernel
theorem dL_law_27 : decode cL_law 27 = .ok (.aload_n 0, 1) := lcD_42 (lcR_B (by decide +kernel))
theorem dL_law_28 : decode cL_law 28 = .ok (.iload_n 3, 1) := lcD_29 (lcR_B (by decide +kernel))
theorem dL_law_29 : decode cL_law 29 = .ok (.iaload, 1) := lcD_46 (lcR_B (by decide +kernel))
theorem dL_law_30 : decode cL_law 30 = .ok (.bipush 63, 2) := by decide +kernel
theorem dL_law_32 : decode cL_law 32 = .ok (.iand, 1) := by decide +kernel
theorem dL_law_1502 : decode cL_law 1502 = .ok (.iinc 3 6, 3) := by decide +kernel
theorem dL_law_1505 : decode cL_law 1505 = .ok (.goto (-1487), 3) := by decide +kernel
theorem sx_and63 (a : Int32) : 0 ≤ a &&& 63 ∧ a &&& 63 ≤ 63 := by
  have h1 : (a &&& 63).toBitVec.toNat ≤ 63 := by
    rw [Int32.toBitVec_and, BitVec.toNat_and]
    exact Nat.and_le_right
  have h2 : (a &&& 63).toInt = ((a &&& 63).toBitVec.toNat : Int) := by
    rw [← Int32.toInt_toBitVec, BitVec.toInt_eq_toNat_of_lt (by omega)]
  constructor
  · rw [Int32.le_iff_toInt_le, h2]; show (0 : Int) ≤ _; omega
  · rw [Int32.le_iff_toInt_le, h2]; show _ ≤ (63 : Int); omega
theorem sx_and (a : Int32) : ∃ k : Nat, k < 64 ∧ a &&& 63 = nI k := by
  obtain ⟨k, hk, e⟩ := x_natle (v := a &&& 63) (N := 63) (by decide) rfl (sx_and63 a)
  exact ⟨k, Nat.lt_succ_of_le hk, e⟩
theorem sx_in6 {i L : Nat} (hL : L ≤ 3072) (h : i + 6 ≤ L) : ¬ nI L - 6 < nI i := by
  have e : nI L - 6 = nI (L - 6) := by rw [show nI L = nI (L - 6) + nI 6 by rw [nI_add]; congr 1; omega, show nI 6 = (6 : Int32) from rfl, Int32.add_sub_cancel]
  rw [e]; exact nI_nlt (by omega) (by omega)
theorem sx_out6 {i L : Nat} (hL : L ≤ 3072) (hi : i ≤ L) (h : ¬ i + 6 ≤ L) : nI L - 6 < nI i := by
  have e : (nI L - 6).toInt = (L : Int) - 6 := by
    rw [Int32.toInt_sub, nI_toInt (by omega)]
    exact Int.bmod_eq_of_le (by show _ ≤ (L : Int) - 6; omega) (by show (L : Int) - 6 < _; omega)
  rw [Int32.lt_iff_toInt_lt, e, nI_toInt (by omega)]; omega
set_option maxRecDepth 100000 in
set_option maxHeartbeats 4000000 in
theorem lwx_loop {l : Launch} {G : xG} (hL : G.2.2.2.2.1 ≤ 3072) (hcase : ∀ (i : Nat) (M : xM) (J : xJ), i + 6 ≤ G.2.2.2.2.1 → InvC M → InvR M → RB M → RP M → RT M → RLk M → RS M → RE J → RY M J → RX M → (∀ (M2 : xM) (J2 : xJ), InvC M2 → InvR M2 → RB M2 → RP M2 → RT M2 → RLk M2 → RS M2 → RE J2 → RY M2 J2 → RX M2 → x_X l G fL_law 200 600000 7302250 (qR (some (.int 1))) 1502 [(3, .int (nI (i))), (2, .ref (62)), (1, .ref (0)), (0, .ref (1002))] [] x_SH M2 J2 87 2934) → x_X l G fL_law 200 600000 7302250 (qR (some (.int 1))) 33 [(3, .int (nI (i))), (2, .ref (62)), (1, .ref (0)), (0, .ref (1002))] [.int (G.2.2.2.2.2 i &&& 63)] x_SH M J 87 2934) : ∀ (m i : Nat) (M : xM) (J : xJ), G.2.2.2.2.1 < i + 6 * m + 6 → i ≤ G.2.2.2.2.1 → InvC M → InvR M → RB M → RP M → RT M → RLk M → RS M → RE J → RY M J → RX M → x_X l G fL_law 200 600000 7302250 (qR (some (.int 1))) 18 [(3, .int (nI (i))), (2, .ref (62)), (1, .ref (0)), (0, .ref (1002))] [] x_SH M J 87 2934 := by
  intro m
  induction m with
  | zero =>
    intro i M J hm hi hC hR hB_ hP_ hT_ hL_ hS_ hE_ hY_ hX_
    by_cases h6 : i + 6 ≤ G.2.2.2.2.1
    · exact absurd h6 (by omega)
    · refine xr_iload_n dL_law_18 0 rfl ?_
      refine xr_aload_n dL_law_19 3 rfl ?_
      refine xr_slen rfl dL_law_20 ?_
      refine xr_bipush (v := 6) dL_law_21 rfl ?_
      refine xr_isub dL_law_23 ?_
      refine xr_icmp_gt (tgt := 1508) dL_law_24 rfl (fun _ => ?_) (fun c => absurd (sx_out6 hL hi h6) c)
      refine xr_iconst (v := 1) dL_law_1508 rfl ?_
      exact xr_iret dL_law_1509 rfl rfl (rfl)
  | succ m ih =>
    intro i M J hm hi hC hR hB_ hP_ hT_ hL_ hS_ hE_ hY_ hX_
    by_cases h6 : i + 6 ≤ G.2.2.2.2.1
    · refine xr_iload_n dL_law_18 0 rfl ?_
      refine xr_aload_n dL_law_19 3 rfl ?_
      refine xr_slen rfl dL_law_20 ?_
      refine xr_bipush (v := 6) dL_law_21 rfl ?_
      refine xr_isub dL_law_23 ?_
      refine xr_icmp_gt (tgt := 1508) dL_law_24 rfl (fun c => absurd c (sx_in6 hL h6)) (fun _ => ?_)
      refine xr_aload_n dL_law_27 3 rfl ?_
      refine xr_iload_n dL_law_28 0 rfl ?_
      refine xr_sld rfl (vp_in_nI (show i < G.2.2.2.2.1 by omega) (by omega)) dL_law_29 ?_
      refine xb_top (y := (G.2.2.2.2.2 (i))) (by rw [nI_clamp (by omega)]) ?_
      refine xr_bipush (v := 63) dL_law_30 rfl ?_
      refine xr_iand dL_law_32 ?_
      refine xb_ls (ls2 := [(3, .int (nI (i))), (2, .ref (62)), (1, .ref (0)), (0, .ref (1002))]) [0, 1, 2, 3] rfl ?_
      refine hcase i M J h6 hC hR hB_ hP_ hT_ hL_ hS_ hE_ hY_ hX_ (fun M2 J2 hC2 hR2 hB_2 hP_2 hT_2 hL_2 hS_2 hE_2 hY_2 hX_2 => ?_)
      refine xr_iinc (v := nI (i + 6)) (ls2 := [(3, .int (nI (i + 6))), (2, .ref (62)), (1, .ref (0)), (0, .ref (1002))]) dL_law_1502 0 rfl (by rw [← nI_add]; rfl) (by decide) rfl ?_
      refine xr_goto (tgt := 18) dL_law_1505 rfl ?_
      exact ih (i + 6) M2 J2 (by omega) (by omega) hC2 hR2 hB_2 hP_2 hT_2 hL_2 hS_2 hE_2 hY_2 hX_2
    · refine xr_iload_n dL_law_18 0 rfl ?_
      refine xr_aload_n dL_law_19 3 rfl ?_
      refine xr_slen rfl dL_law_20 ?_
      refine xr_bipush (v := 6) dL_law_21 rfl ?_
      refine xr_isub dL_law_23 ?_
      refine xr_icmp_gt (tgt := 1508) dL_law_24 rfl (fun _ => ?_) (fun c => absurd (sx_out6 hL hi h6) c)
      refine xr_iconst (v := 1) dL_law_1508 rfl ?_
      exact xr_iret dL_law_1509 rfl rfl (rfl)
