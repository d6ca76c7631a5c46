theorem dX10_firstFalse_10 : decode cX10_firstFalse 10 = .ok (.iload_n 3, 1) := by decide +kernel
theorem dX10_firstFalse_11 : decode cX10_firstFalse 11 = .ok (.aload_n 0, 1) := by decide +kernel
theorem dX10_firstFalse_12 : decode cX10_firstFalse 12 = .ok (.getfield 78, 3) := by decide +kernel
theorem dX10_firstFalse_15 : decode cX10_firstFalse 15 = .ok (.iload_n 1, 1) := by decide +kernel
theorem dX10_firstFalse_16 : decode cX10_firstFalse 16 = .ok (.iaload, 1) := by decide +kernel
theorem dX10_firstFalse_17 : decode cX10_firstFalse 17 = .ok (.if_icmp .ge 50, 3) := by decide +kernel
theorem dX10_firstFalse_67 : decode cX10_firstFalse 67 = .ok (.bipush (-2), 2) := by decide +kernel
theorem dX10_firstFalse_69 : decode cX10_firstFalse 69 = .ok (.ireturn, 1) := by decide +kernel
theorem dX10_firstFalse_20 : decode cX10_firstFalse 20 = .ok (.iload_n 3, 1) := by decide +kernel
theorem dX10_firstFalse_21 : decode cX10_firstFalse 21 = .ok (.sipush 200, 3) := by decide +kernel
theorem dX10_firstFalse_24 : decode cX10_firstFalse 24 = .ok (.if_icmp .ge 43, 3) := by decide +kernel
theorem dX10_firstFalse_27 : decode cX10_firstFalse 27 = .ok (.aload_n 0, 1) := by decide +kernel
theorem dX10_firstFalse_28 : decode cX10_firstFalse 28 = .ok (.aload_n 0, 1) := by decide +kernel
theorem dX10_firstFalse_29 : decode cX10_firstFalse 29 = .ok (.getfield 151, 3) := by decide +kernel
theorem dX10_firstFalse_32 : decode cX10_firstFalse 32 = .ok (.iload_n 3, 1) := by decide +kernel
theorem dX10_firstFalse_33 : decode cX10_firstFalse 33 = .ok (.iadd, 1) := by decide +kernel
theorem dX10_firstFalse_34 : decode cX10_firstFalse 34 = .ok (.invokevirtual 255, 3) := by decide +kernel
theorem dX10_firstFalse_37 : decode cX10_firstFalse 37 = .ok (.aload_n 0, 1) := by decide +kernel
theorem dX10_firstFalse_38 : decode cX10_firstFalse 38 = .ok (.getfield 81, 3) := by decide +kernel
theorem dX10_firstFalse_41 : decode cX10_firstFalse 41 = .ok (.bipush 60, 2) := by decide +kernel
theorem dX10_firstFalse_43 : decode cX10_firstFalse 43 = .ok (.iload_n 1, 1) := by decide +kernel
theorem dX10_firstFalse_44 : decode cX10_firstFalse 44 = .ok (.imul, 1) := by decide +kernel
theorem dX10_firstFalse_45 : decode cX10_firstFalse 45 = .ok (.iload_n 3, 1) := by decide +kernel
theorem dX10_firstFalse_46 : decode cX10_firstFalse 46 = .ok (.iadd, 1) := by decide +kernel
theorem dX10_firstFalse_47 : decode cX10_firstFalse 47 = .ok (.laload, 1) := by decide +kernel
theorem dX10_firstFalse_48 : decode cX10_firstFalse 48 = .ok (.aload_n 0, 1) := by decide +kernel
theorem dX10_firstFalse_49 : decode cX10_firstFalse 49 = .ok (.getfield 37, 3) := by decide +kernel
theorem dX10_firstFalse_52 : decode cX10_firstFalse 52 = .ok (.iload_n 2, 1) := by decide +kernel
theorem dX10_firstFalse_53 : decode cX10_firstFalse 53 = .ok (.iaload, 1) := by decide +kernel
theorem dX10_firstFalse_54 : decode cX10_firstFalse 54 = .ok (.i2l, 1) := by decide +kernel
theorem dX10_firstFalse_55 : decode cX10_firstFalse 55 = .ok (.lcmp, 1) := by decide +kernel
theorem dX10_firstFalse_56 : decode cX10_firstFalse 56 = .ok (.ifCond .eq 5, 3) := by decide +kernel
theorem dX10_firstFalse_61 : decode cX10_firstFalse 61 = .ok (.iinc 3 1, 3) := by decide +kernel
theorem dX10_firstFalse_64 : decode cX10_firstFalse 64 = .ok (.goto (-54), 3) := by decide +kernel
theorem dX10_firstFalse_59 : decode cX10_firstFalse 59 = .ok (.iload_n 3, 1) := by decide +kernel
theorem dX10_firstFalse_60 : decode cX10_firstFalse 60 = .ok (.ireturn, 1) := by decide +kernel
theorem dX10_firstFalse_0 : decode cX10_firstFalse 0 = .ok (.aload_n 0, 1) := by decide +kernel
theorem dX10_firstFalse_1 : decode cX10_firstFalse 1 = .ok (.aload_n 0, 1) := by decide +kernel
theorem dX10_firstFalse_2 : decode cX10_firstFalse 2 = .ok (.invokevirtual 246, 3) := by decide +kernel
theorem dX10_firstFalse_5 : decode cX10_firstFalse 5 = .ok (.invokevirtual 249, 3) := by decide +kernel
theorem dX10_firstFalse_8 : decode cX10_firstFalse 8 = .ok (.iconst 0, 1) := by decide +kernel
theorem dX10_firstFalse_9 : decode cX10_firstFalse 9 = .ok (.istore_n 3, 1) := by decide +kernel
set_option maxRecDepth 100000 in
set_option maxHeartbeats 4000000 in
theorem rff_l {h d nm : Nat} (hh : h < 5) (hd : d < 6) (hnm : nm ≤ 60) {l : Launch} {G : xG} {M : xM} {J : xJ} {Q : xQ} {hn : Nat} (h_hn : hn ≤ 5) (e_hn : M 62 6 = nI hn) (hw : ∀ k, k < hn → M 63 (5 + k) ≠ 0) (hbt : M 63 16 ≠ 0) (htx : M 62 13 = -1 ∨ ∃ n : Nat, n ≤ 120 ∧ M 62 13 = nI n) (e_nm : M 84 d = nI nm) (hR : ∀ (r : Int32) (M2 : xM), Ke WR1 M M2 → Q (some (.int r)) x_SH M2 J) : ∀ (m k : Nat) (M1 : xM), k + m = nm → Ke WR1 M M1 → x_X l G fX10_firstFalse 62 0 0 Q 10 [(3, .int (nI (k))), (2, .int (nI (h))), (1, .int (nI (d))), (0, .ref (62))] [] x_SH M1 J 0 0 := by
  intro m
  induction m with
  | zero =>
    intro k M1 hk hM
    refine xr_iload_n dX10_firstFalse_10 0 rfl ?_
    refine xr_aload_n dX10_firstFalse_11 3 rfl ?_
    refine xr_getR flX10_78 dX10_firstFalse_12 s_62 rfl ?_
    refine xr_iload_n dX10_firstFalse_15 2 rfl ?_
    refine xb_iald (j := d) (v := nI (nm)) dX10_firstFalse_16 s_84 hd (by decide) (Eq.trans (hM 84 d (by unfold WR1; omega)) e_nm) ?_
    refine xr_icmp_ge (tgt := 67) dX10_firstFalse_17 rfl (fun _ => ?_) (fun c => absurd (nI_le (a := nm) (b := k) (by omega) (by omega)) c)
    refine xr_bipush (v := -2) dX10_firstFalse_67 rfl ?_
    exact xr_iret dX10_firstFalse_69 rfl rfl (hR (-2) _ hM)
  | succ m ih =>
    intro k M1 hk hM
    refine xr_iload_n dX10_firstFalse_10 0 rfl ?_
    refine xr_aload_n dX10_firstFalse_11 3 rfl ?_
    refine xr_getR flX10_78 dX10_firstFalse_12 s_62 rfl ?_
    refine xr_iload_n dX10_firstFalse_15 2 rfl ?_
    refine xb_iald (j := d) (v := nI (nm)) dX10_firstFalse_16 s_84 hd (by decide) (Eq.trans (hM 84 d (by unfold WR1; omega)) e_nm) ?_
    refine xr_icmp_ge (tgt := 67) dX10_firstFalse_17 rfl (fun c => absurd c (nI_ge (a := k) (b := nm) (by omega) (by omega))) (fun _ => ?_)
    refine xr_iload_n dX10_firstFalse_20 0 rfl ?_
    refine xr_sipush (v := 200) dX10_firstFalse_21 rfl ?_
    refine xr_icmp_ge (tgt := 67) dX10_firstFalse_24 rfl (fun c => absurd c (nI_ge (a := k) (b := 200) (by omega) (by omega))) (fun _ => ?_)
    refine xr_aload_n dX10_firstFalse_27 3 rfl ?_
    refine xr_aload_n dX10_firstFalse_28 3 rfl ?_
    refine xb_get (v := M1 62 9) flX10_151 dX10_firstFalse_29 s_62 rfl rfl ?_
    refine xr_iload_n dX10_firstFalse_32 0 rfl ?_
    refine xr_iadd dX10_firstFalse_33 ?_
    refine xr_callV (As := [.int (((M1 62 9) + (nI (k))))]) (rest := []) mlX10_255 (g_X10_tickGoes ((M1 62 9) + (nI (k))) h_hn (Eq.trans (hM 62 6 (by decide)) e_hn) (fun kw hkw => by rw [show M1 63 (5 + kw) = M 63 (5 + kw) from (Eq.trans (hM 63 (5 + kw) (by unfold WR1; omega)) rfl)]; exact hw kw hkw) (by rw [show M1 63 16 = M 63 16 from (Eq.trans (hM 63 16 (by unfold WR1; omega)) rfl)]; exact hbt) (by rw [show M1 62 13 = M 62 13 from (Eq.trans (hM 62 13 (by unfold WR1; omega)) rfl)]; exact htx)) dX10_firstFalse_34 s_62 rfl rfl (Nat.le_of_ble_eq_true rfl) (by decide) ⟨by decide, by decide⟩ (fun v s2 M1 J2 hq => ?_)
    obtain ⟨rfl, rfl, rfl, k2, _⟩ := hq
    try dsimp only [Option.toList, List.cons_append, List.nil_append]
    refine xr_aload_n dX10_firstFalse_37 3 rfl ?_
    refine xr_getR flX10_81 dX10_firstFalse_38 s_62 rfl ?_
    refine xr_bipush (v := 60) dX10_firstFalse_41 rfl ?_
    refine xr_iload_n dX10_firstFalse_43 2 rfl ?_
    refine xr_imul dX10_firstFalse_44 ?_
    refine xb_top (y := nI (60 * d)) (nI_mulc 60 d) ?_
    refine xr_iload_n dX10_firstFalse_45 0 rfl ?_
    refine xr_iadd dX10_firstFalse_46 ?_
    refine xb_top (y := nI (60 * d + k)) (nI_add (60 * d) (k)) ?_
    refine xb_lald (j := 60 * d + k) (v := J 85 (60 * d + k)) dX10_firstFalse_47 s_85 (by omega) (by decide) rfl ?_
    refine xr_aload_n dX10_firstFalse_48 3 rfl ?_
    refine xr_getR flX10_37 dX10_firstFalse_49 s_62 rfl ?_
    refine xr_iload_n dX10_firstFalse_52 1 rfl ?_
    refine xb_iald (j := h) (v := M1 72 h) dX10_firstFalse_53 s_72 hh (by decide) rfl ?_
    refine xr_i2l dX10_firstFalse_54 ?_
    refine xr_lcmp dX10_firstFalse_55 ?_
    refine xl_eq (tgt := 61) dX10_firstFalse_56 rfl (fun c3 => ?_) (fun c3 => ?_)
    · refine xr_iinc (v := nI (k + 1)) (ls2 := [(3, .int (nI (k + 1))), (2, .int (nI (h))), (1, .int (nI (d))), (0, .ref (62))]) dX10_firstFalse_61 0 rfl (nI_1 _) (by decide) rfl ?_
      refine xr_goto (tgt := 10) dX10_firstFalse_64 rfl ?_
      refine xb_ls (ls2 := [(3, .int (nI (k + 1))), (2, .int (nI (h))), (1, .int (nI (d))), (0, .ref (62))]) [0, 1, 2, 3] rfl ?_
      exact ih (k + 1) M1 (by omega) (Ke.tr (fun _ _ h => h) hM k2)
    · refine xr_iload_n dX10_firstFalse_59 0 rfl ?_
      exact xr_iret dX10_firstFalse_60 rfl rfl (hR (nI (k)) _ (Ke.tr (fun _ _ h => h) hM k2))
set_option maxRecDepth 100000 in
set_option maxHeartbeats 4000000 in
theorem g_X10_firstFalse {h d nm : Nat} (hh : h < 5) (hd : d < 6) (hnm : nm ≤ 60) {l : Launch} {G : xG} {M : xM} {J : xJ} {hn : Nat} (h_hn : hn ≤ 5) (e_hn : M 62 6 = nI hn) (hw : ∀ k, k < hn → M 63 (5 + k) ≠ 0) (hbt : M 63 16 ≠ 0) (htx : M 62 13 = -1 ∨ ∃ n : Nat, n ≤ 120 ∧ M 62 13 = nI n) (e_nm : M 84 d = nI nm) : x_M l G fX10_firstFalse 62 0 0 [.ref (62), .int (nI (d)), .int (nI (h))] x_SH M J (qKI WR1 M J (fun r M2 => True)) := by
  refine xb_of pX10 (Nat.le_of_ble_eq_true rfl) rfl ?_
  refine xr_aload_n dX10_firstFalse_0 0 rfl ?_
  refine xr_aload_n dX10_firstFalse_1 0 rfl ?_
  refine xr_callV (As := []) (rest := [.ref (62)]) mlX10_246 (g_X10_upNow h_hn e_hn (fun kw hkw => by rw [show M 63 (5 + kw) = M 63 (5 + kw) from rfl]; exact hw kw hkw) (by rw [show M 63 16 = M 63 16 from rfl]; exact hbt) (by rw [show M 62 13 = M 62 13 from rfl]; exact htx)) dX10_firstFalse_2 s_62 rfl rfl (Nat.le_of_ble_eq_true rfl) (by decide) ⟨by decide, by decide⟩ (fun v s2 M9 J2 hq => ?_)
  obtain ⟨r1, rfl, rfl, rfl, rfl, _⟩ := hq
  try dsimp only [Option.toList, List.cons_append, List.nil_append]
  refine xr_callV (As := [.int (r1)]) (rest := []) mlX10_249 (g_X10_begins1 r1 h_hn e_hn (fun kw hkw => by rw [show M 63 (5 + kw) = M 63 (5 + kw) from rfl]; exact hw kw hkw) (by rw [show M 63 16 = M 63 16 from rfl]; exact hbt) (by rw [show M 62 13 = M 62 13 from rfl]; exact htx)) dX10_firstFalse_5 s_62 rfl rfl (Nat.le_of_ble_eq_true rfl) (by decide) ⟨by decide, by decide⟩ (fun v s2 M2 J2 hq => ?_)
  obtain ⟨rfl, rfl, rfl, k3, _⟩ := hq
  try dsimp only [Option.toList, List.cons_append, List.nil_append]
  refine xr_iconst (v := 0) dX10_firstFalse_8 rfl ?_
  refine xr_istore_n (ls2 := [(3, .int (0)), (0, .ref (62)), (1, .int (nI (d))), (2, .int (nI (h)))]) dX10_firstFalse_9 (by decide) rfl ?_
  refine xb_ls (ls2 := [(3, .int (nI (0))), (2, .int (nI (h))), (1, .int (nI (d))), (0, .ref (62))]) [0, 3, 2, 1] rfl ?_
  exact rff_l hh hd hnm h_hn (Eq.trans (k3 62 6 (by decide)) e_hn) (fun kw hkw => by rw [show M2 63 (5 + kw) = M 63 (5 + kw) from (Eq.trans (k3 63 (5 + kw) (by unfold WR1; omega)) rfl)]; exact hw kw hkw) (by rw [show M2 63 16 = M 63 16 from (Eq.trans (k3 63 16 (by unfold WR1; omega)) rfl)]; exact hbt) (by rw [show M2 62 13 = M 62 13 from (Eq.trans (k3 62 13 (by unfold WR1; omega)) rfl)]; exact htx) (Eq.trans (k3 84 d (by unfold WR1; omega)) e_nm) (fun r M2 hk => ⟨_, rfl, rfl, rfl, Ke.tr (fun _ _ h => h) (Ke.tr (fun _ _ h => h) Ke.rf k3) hk, trivial⟩) nm 0 M2 (by omega) Ke.rf
