theorem dX10_lasts_0 : decode cX10_lasts 0 = .ok (.aload_n 0, 1) := by decide +kernel
theorem dX10_lasts_1 : decode cX10_lasts 1 = .ok (.aload_n 0, 1) := by decide +kernel
theorem dX10_lasts_2 : decode cX10_lasts 2 = .ok (.invokevirtual 246, 3) := by decide +kernel
theorem dX10_lasts_5 : decode cX10_lasts 5 = .ok (.invokevirtual 267, 3) := by decide +kernel
theorem dX10_lasts_8 : decode cX10_lasts 8 = .ok (.ireturn, 1) := by decide +kernel
theorem dX10_rescue_61 : decode cX10_rescue 61 = .ok (.iload 4, 2) := by decide +kernel
theorem dX10_rescue_63 : decode cX10_rescue 63 = .ok (.bipush 100, 2) := by decide +kernel
theorem dX10_rescue_65 : decode cX10_rescue 65 = .ok (.if_icmp .ge 31, 3) := by decide +kernel
theorem dX10_rescue_68 : decode cX10_rescue 68 = .ok (.aload_n 0, 1) := by decide +kernel
theorem dX10_rescue_69 : decode cX10_rescue 69 = .ok (.iload_n 1, 1) := by decide +kernel
theorem dX10_rescue_70 : decode cX10_rescue 70 = .ok (.iload 4, 2) := by decide +kernel
theorem dX10_rescue_72 : decode cX10_rescue 72 = .ok (.iload_n 2, 1) := by decide +kernel
theorem dX10_rescue_73 : decode cX10_rescue 73 = .ok (.bipush 100, 2) := by decide +kernel
theorem dX10_rescue_75 : decode cX10_rescue 75 = .ok (.irem, 1) := by decide +kernel
theorem dX10_rescue_76 : decode cX10_rescue 76 = .ok (.iload_n 2, 1) := by decide +kernel
theorem dX10_rescue_77 : decode cX10_rescue 77 = .ok (.bipush 100, 2) := by decide +kernel
theorem dX10_rescue_79 : decode cX10_rescue 79 = .ok (.idiv, 1) := by decide +kernel
theorem dX10_rescue_80 : decode cX10_rescue 80 = .ok (.invokevirtual 281, 3) := by decide +kernel
theorem dX10_rescue_83 : decode cX10_rescue 83 = .ok (.iload_n 3, 1) := by decide +kernel
theorem dX10_rescue_84 : decode cX10_rescue 84 = .ok (.if_icmp .le 6, 3) := by decide +kernel
theorem dX10_rescue_90 : decode cX10_rescue 90 = .ok (.iinc 4 1, 3) := by decide +kernel
theorem dX10_rescue_93 : decode cX10_rescue 93 = .ok (.goto (-32), 3) := by decide +kernel
theorem dX10_rescue_87 : decode cX10_rescue 87 = .ok (.iload 4, 2) := by decide +kernel
theorem dX10_rescue_89 : decode cX10_rescue 89 = .ok (.ireturn, 1) := by decide +kernel
theorem dX10_rowIs_0 : decode cX10_rowIs 0 = .ok (.iload_n 1, 1) := by decide +kernel
theorem dX10_rowIs_1 : decode cX10_rowIs 1 = .ok (.invokestatic 125, 3) := by decide +kernel
theorem dX10_rowIs_4 : decode cX10_rowIs 4 = .ok (.ifCond .ne 7, 3) := by decide +kernel
theorem dX10_rowIs_11 : decode cX10_rowIs 11 = .ok (.aload_n 0, 1) := by decide +kernel
theorem dX10_rowIs_12 : decode cX10_rowIs 12 = .ok (.getfield 75, 3) := by decide +kernel
theorem dX10_rowIs_15 : decode cX10_rowIs 15 = .ok (.iload_n 1, 1) := by decide +kernel
theorem dX10_rowIs_16 : decode cX10_rowIs 16 = .ok (.iaload, 1) := by decide +kernel
theorem dX10_rowIs_17 : decode cX10_rowIs 17 = .ok (.ifCond .ge 8, 3) := by decide +kernel
theorem dX10_rowIs_25 : decode cX10_rowIs 25 = .ok (.aload_n 0, 1) := by decide +kernel
theorem dX10_rowIs_26 : decode cX10_rowIs 26 = .ok (.getfield 75, 3) := by decide +kernel
theorem dX10_rowIs_29 : decode cX10_rowIs 29 = .ok (.iload_n 1, 1) := by decide +kernel
theorem dX10_rowIs_30 : decode cX10_rowIs 30 = .ok (.iaload, 1) := by decide +kernel
theorem dX10_rowIs_31 : decode cX10_rowIs 31 = .ok (.bipush 50, 2) := by decide +kernel
theorem dX10_rowIs_33 : decode cX10_rowIs 33 = .ok (.if_icmp .ne 7, 3) := by decide +kernel
theorem dX10_rowIs_40 : decode cX10_rowIs 40 = .ok (.bipush (-12), 2) := by decide +kernel
theorem dX10_rowIs_42 : decode cX10_rowIs 42 = .ok (.ireturn, 1) := by decide +kernel
theorem dX10_rowIs_36 : decode cX10_rowIs 36 = .ok (.iconst 1, 1) := by decide +kernel
theorem dX10_rowIs_37 : decode cX10_rowIs 37 = .ok (.goto 5, 3) := by decide +kernel
theorem dX10_rowIs_20 : decode cX10_rowIs 20 = .ok (.bipush (-11), 2) := by decide +kernel
theorem dX10_rowIs_22 : decode cX10_rowIs 22 = .ok (.goto 20, 3) := by decide +kernel
theorem dX10_rowIs_7 : decode cX10_rowIs 7 = .ok (.iconst (-1), 1) := by decide +kernel
theorem dX10_rowIs_8 : decode cX10_rowIs 8 = .ok (.goto 34, 3) := by decide +kernel
set_option maxRecDepth 100000 in
set_option maxHeartbeats 4000000 in
theorem rr_l {wi fp : Int32} {h : Nat} (hh : h < 5) {l : Launch} {G : xG} {M : xM} {J : xJ} {Q : xQ} {hn : Nat} (h_hn : hn ≤ 5) (e_hn : M 62 6 = nI hn) (hw : ∀ k, k < hn → M 63 (5 + k) ≠ 0) (hbt : M 63 16 ≠ 0) (htx : M 62 13 = -1 ∨ ∃ n : Nat, n ≤ 120 ∧ M 62 13 = nI n) (hC : ∀ (M2 : xM), Ke WR1 M M2 → x_X l G fX10_rescue 63 0 0 Q 96 [(0, .ref (62))] [] x_SH M2 J 0 0) (hR : ∀ (r : Int32) (M2 : xM), Ke WR1 M M2 → Q (some (.int r)) x_SH M2 J) : ∀ (m k : Nat) (M1 : xM), k + m = 100 → Ke WR1 M M1 → x_X l G fX10_rescue 63 0 0 Q 61 [(4, .int (nI (k))), (3, .int (wi)), (2, .int (fp)), (1, .int (nI (h))), (0, .ref (62))] [] x_SH M1 J 0 0 := by
  intro m
  induction m with
  | zero =>
    intro k M1 hk hM
    refine xr_iload dX10_rescue_61 0 rfl ?_
    refine xr_bipush (v := 100) dX10_rescue_63 rfl ?_
    refine xr_icmp_ge (tgt := 96) dX10_rescue_65 rfl (fun _ => ?_) (fun c => absurd (nI_le (a := 100) (b := k) (by omega) (by omega)) c)
    refine xb_ls (ls2 := [(0, .ref (62))]) [4] rfl ?_
    exact hC _ hM
  | succ m ih =>
    intro k M1 hk hM
    have hkN : k < 100 := by omega
    refine xr_iload dX10_rescue_61 0 rfl ?_
    refine xr_bipush (v := 100) dX10_rescue_63 rfl ?_
    refine xr_icmp_ge (tgt := 96) dX10_rescue_65 rfl (fun c => absurd c (nI_ge (a := k) (b := 100) (by omega) (by omega))) (fun _ => ?_)
    refine xr_aload_n dX10_rescue_68 4 rfl ?_
    refine xr_iload_n dX10_rescue_69 3 rfl ?_
    refine xr_iload dX10_rescue_70 0 rfl ?_
    refine xr_iload_n dX10_rescue_72 2 rfl ?_
    refine xr_bipush (v := 100) dX10_rescue_73 rfl ?_
    refine xr_irem dX10_rescue_75 (by decide) ?_
    refine xr_iload_n dX10_rescue_76 2 rfl ?_
    refine xr_bipush (v := 100) dX10_rescue_77 rfl ?_
    refine xr_idiv dX10_rescue_79 (by decide) ?_
    refine xr_callV (As := [.int (nI (h)), .int (nI (k)), .int ((fp - fp / 100 * 100)), .int ((fp / 100))]) (rest := []) mlX10_281 (g_X10_fallWith (h := h) (by omega) (nI (k)) (fp - fp / 100 * 100) (fp / 100) h_hn (Eq.trans (hM 62 6 (by decide)) e_hn) (fun kw hkw => by rw [show M1 63 (5 + kw) = M 63 (5 + kw) from (Eq.trans (hM 63 (5 + kw) (by unfold WR1; omega)) rfl)]; exact hw kw hkw) (by rw [show M1 63 16 = M 63 16 from (Eq.trans (hM 63 16 (by unfold WR1; omega)) rfl)]; exact hbt) (by rw [show M1 62 13 = M 62 13 from (Eq.trans (hM 62 13 (by unfold WR1; omega)) rfl)]; exact htx)) dX10_rescue_80 s_62 rfl rfl (Nat.le_of_ble_eq_true rfl) (by decide) ⟨by decide, by decide⟩ (fun v s2 M1 J2 hq => ?_)
    obtain ⟨r3, rfl, rfl, rfl, k2, _⟩ := hq
    try dsimp only [Option.toList, List.cons_append, List.nil_append]
    refine xr_iload_n dX10_rescue_83 1 rfl ?_
    refine xr_icmp_le (tgt := 90) dX10_rescue_84 rfl (fun c4 => ?_) (fun c4 => ?_)
    · refine xr_iinc (v := nI (k + 1)) (ls2 := [(4, .int (nI (k + 1))), (3, .int (wi)), (2, .int (fp)), (1, .int (nI (h))), (0, .ref (62))]) dX10_rescue_90 0 rfl (nI_1 _) (by decide) rfl ?_
      refine xr_goto (tgt := 61) dX10_rescue_93 rfl ?_
      refine xb_ls (ls2 := [(4, .int (nI (k + 1))), (3, .int (wi)), (2, .int (fp)), (1, .int (nI (h))), (0, .ref (62))]) [0, 1, 2, 3, 4] rfl ?_
      exact ih (k + 1) M1 (by omega) (Ke.tr (fun _ _ h => h) hM k2)
    · refine xr_iload dX10_rescue_87 0 rfl ?_
      exact xr_iret dX10_rescue_89 rfl rfl (hR _ _ (Ke.tr (fun _ _ h => h) hM k2))
set_option maxRecDepth 100000 in
set_option maxHeartbeats 4000000 in
theorem g_X10_rowIs (d : Int32) {l : Launch} {G : xG} {M : xM} {J : xJ} : x_M l G fX10_rowIs 2 0 0 [.ref (62), .int (d)] x_SH M J (qPI M J (fun r => r < 0 ∨ 0 ≤ d ∧ d ≤ 5)) := by
  refine xb_of pX10 (Nat.le_of_ble_eq_true rfl) rfl ?_
  refine xr_iload_n dX10_rowIs_0 1 rfl ?_
  refine xb_cS (As := [.int (d)]) (rest := []) mlX10_125 (c_X10_isShelf d) dX10_rowIs_1 rfl rfl (Nat.le_of_ble_eq_true rfl) (by decide) (by decide) ?_
  refine xb_bne (tgt := 11) dX10_rowIs_4 rfl (fun c1 => ?_) (fun c1 => ?_)
  · obtain ⟨d_, hd_, rfl⟩ := x_natle (N := 5) (by decide) rfl c1
    replace hd_ := Nat.lt_succ_of_le hd_
    refine xr_aload_n dX10_rowIs_11 0 rfl ?_
    refine xr_getR flX10_75 dX10_rowIs_12 s_62 rfl ?_
    refine xr_iload_n dX10_rowIs_15 1 rfl ?_
    refine xb_iald (j := d_) (v := M 83 d_) dX10_rowIs_16 s_83 hd_ (by decide) rfl ?_
    refine xr_if_ge (tgt := 25) dX10_rowIs_17 rfl (fun c2 => ?_) (fun c2 => ?_)
    · refine xr_aload_n dX10_rowIs_25 0 rfl ?_
      refine xr_getR flX10_75 dX10_rowIs_26 s_62 rfl ?_
      refine xr_iload_n dX10_rowIs_29 1 rfl ?_
      refine xb_iald (j := d_) (v := M 83 d_) dX10_rowIs_30 s_83 hd_ (by decide) rfl ?_
      refine xr_bipush (v := 50) dX10_rowIs_31 rfl ?_
      refine xr_icmp_ne (tgt := 40) dX10_rowIs_33 rfl (fun c3 => ?_) (fun c3 => ?_)
      · refine xr_bipush (v := -12) dX10_rowIs_40 rfl ?_
        exact xr_iret dX10_rowIs_42 rfl rfl (⟨_, rfl, rfl, rfl, rfl, (Or.inl (by decide))⟩)
      · refine xr_iconst (v := 1) dX10_rowIs_36 rfl ?_
        refine xr_goto (tgt := 42) dX10_rowIs_37 rfl ?_
        exact xr_iret dX10_rowIs_42 rfl rfl (⟨_, rfl, rfl, rfl, rfl, (Or.inr ⟨nI_pos' (by omega), nI_le (a := d_) (b := 5) (by omega) (by decide)⟩)⟩)
    · refine xr_bipush (v := -11) dX10_rowIs_20 rfl ?_
      refine xr_goto (tgt := 42) dX10_rowIs_22 rfl ?_
      exact xr_iret dX10_rowIs_42 rfl rfl (⟨_, rfl, rfl, rfl, rfl, (Or.inl (by decide))⟩)
  · refine xr_iconst (v := -1) dX10_rowIs_7 rfl ?_
    refine xr_goto (tgt := 42) dX10_rowIs_8 rfl ?_
    exact xr_iret dX10_rowIs_42 rfl rfl (⟨_, rfl, rfl, rfl, rfl, (Or.inl (by decide))⟩)
