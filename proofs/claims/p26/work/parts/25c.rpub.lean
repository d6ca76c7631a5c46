theorem dX10_start_0 : decode cX10_start 0 = .ok (.aload_n 0, 1) := by decide +kernel
theorem dX10_start_1 : decode cX10_start 1 = .ok (.iload_n 1, 1) := by decide +kernel
theorem dX10_start_2 : decode cX10_start 2 = .ok (.invokevirtual 133, 3) := by decide +kernel
theorem dX10_start_5 : decode cX10_start 5 = .ok (.ifCond .ne 6, 3) := by decide +kernel
theorem dX10_start_11 : decode cX10_start 11 = .ok (.aload_n 0, 1) := by decide +kernel
theorem dX10_start_12 : decode cX10_start 12 = .ok (.getfield 25, 3) := by decide +kernel
theorem dX10_start_15 : decode cX10_start 15 = .ok (.iload_n 1, 1) := by decide +kernel
theorem dX10_start_16 : decode cX10_start 16 = .ok (.iaload, 1) := by decide +kernel
theorem dX10_start_17 : decode cX10_start 17 = .ok (.ifCond .ne 6, 3) := by decide +kernel
theorem dX10_start_23 : decode cX10_start 23 = .ok (.aload_n 0, 1) := by decide +kernel
theorem dX10_start_24 : decode cX10_start 24 = .ok (.getfield 9, 3) := by decide +kernel
theorem dX10_start_27 : decode cX10_start 27 = .ok (.bipush 10, 2) := by decide +kernel
theorem dX10_start_29 : decode cX10_start 29 = .ok (.iload_n 1, 1) := by decide +kernel
theorem dX10_start_30 : decode cX10_start 30 = .ok (.iadd, 1) := by decide +kernel
theorem dX10_start_31 : decode cX10_start 31 = .ok (.iaload, 1) := by decide +kernel
theorem dX10_start_32 : decode cX10_start 32 = .ok (.istore_n 2, 1) := by decide +kernel
theorem dX10_start_33 : decode cX10_start 33 = .ok (.ldc 140, 2) := by decide +kernel
theorem dX10_start_35 : decode cX10_start 35 = .ok (.istore_n 3, 1) := by decide +kernel
theorem dX10_start_36 : decode cX10_start 36 = .ok (.iconst (-1), 1) := by decide +kernel
theorem dX10_start_37 : decode cX10_start 37 = .ok (.istore 4, 2) := by decide +kernel
theorem dX10_start_39 : decode cX10_start 39 = .ok (.bipush (-9), 2) := by decide +kernel
theorem dX10_start_41 : decode cX10_start 41 = .ok (.istore 5, 2) := by decide +kernel
theorem dX10_start_104 : decode cX10_start 104 = .ok (.aload_n 0, 1) := by decide +kernel
theorem dX10_start_105 : decode cX10_start 105 = .ok (.getfield 9, 3) := by decide +kernel
theorem dX10_start_108 : decode cX10_start 108 = .ok (.bipush 10, 2) := by decide +kernel
theorem dX10_start_110 : decode cX10_start 110 = .ok (.iload_n 1, 1) := by decide +kernel
theorem dX10_start_111 : decode cX10_start 111 = .ok (.iadd, 1) := by decide +kernel
theorem dX10_start_112 : decode cX10_start 112 = .ok (.iload_n 2, 1) := by decide +kernel
theorem dX10_start_113 : decode cX10_start 113 = .ok (.iastore, 1) := by decide +kernel
theorem dX10_start_114 : decode cX10_start 114 = .ok (.iload_n 3, 1) := by decide +kernel
theorem dX10_start_115 : decode cX10_start 115 = .ok (.ireturn, 1) := by decide +kernel
theorem dX10_start_20 : decode cX10_start 20 = .ok (.bipush (-5), 2) := by decide +kernel
theorem dX10_start_22 : decode cX10_start 22 = .ok (.ireturn, 1) := by decide +kernel
theorem dX10_start_8 : decode cX10_start 8 = .ok (.ldc 140, 2) := by decide +kernel
theorem dX10_start_10 : decode cX10_start 10 = .ok (.ireturn, 1) := by decide +kernel
theorem dX10_judge_0 : decode cX10_judge 0 = .ok (.aload_n 0, 1) := by decide +kernel
theorem dX10_judge_1 : decode cX10_judge 1 = .ok (.iload_n 1, 1) := by decide +kernel
theorem dX10_judge_2 : decode cX10_judge 2 = .ok (.invokevirtual 285, 3) := by decide +kernel
theorem dX10_judge_5 : decode cX10_judge 5 = .ok (.iconst (-1), 1) := by decide +kernel
theorem dX10_judge_6 : decode cX10_judge 6 = .ok (.if_icmp .eq 11, 3) := by decide +kernel
theorem dX10_judge_17 : decode cX10_judge 17 = .ok (.iconst (-1), 1) := by decide +kernel
theorem dX10_judge_18 : decode cX10_judge 18 = .ok (.ireturn, 1) := by decide +kernel
theorem dX10_judge_9 : decode cX10_judge 9 = .ok (.aload_n 0, 1) := by decide +kernel
theorem dX10_judge_10 : decode cX10_judge 10 = .ok (.iload_n 2, 1) := by decide +kernel
theorem dX10_judge_11 : decode cX10_judge 11 = .ok (.invokevirtual 133, 3) := by decide +kernel
theorem dX10_judge_14 : decode cX10_judge 14 = .ok (.ifCond .ne 5, 3) := by decide +kernel
theorem dX10_judge_19 : decode cX10_judge 19 = .ok (.aload_n 0, 1) := by decide +kernel
theorem dX10_judge_20 : decode cX10_judge 20 = .ok (.iload_n 1, 1) := by decide +kernel
theorem dX10_judge_21 : decode cX10_judge 21 = .ok (.invokevirtual 285, 3) := by decide +kernel
theorem dX10_judge_24 : decode cX10_judge 24 = .ok (.ifCond .ge 11, 3) := by decide +kernel
theorem dX10_judge_35 : decode cX10_judge 35 = .ok (.aload_n 0, 1) := by decide +kernel
theorem dX10_judge_36 : decode cX10_judge 36 = .ok (.iload_n 1, 1) := by decide +kernel
theorem dX10_judge_37 : decode cX10_judge 37 = .ok (.iload_n 2, 1) := by decide +kernel
theorem dX10_judge_38 : decode cX10_judge 38 = .ok (.invokevirtual 290, 3) := by decide +kernel
theorem dX10_judge_41 : decode cX10_judge 41 = .ok (.ireturn, 1) := by decide +kernel
theorem dX10_judge_27 : decode cX10_judge 27 = .ok (.aload_n 0, 1) := by decide +kernel
theorem dX10_judge_28 : decode cX10_judge 28 = .ok (.iload_n 1, 1) := by decide +kernel
theorem dX10_judge_29 : decode cX10_judge 29 = .ok (.invokevirtual 285, 3) := by decide +kernel
theorem dX10_judge_32 : decode cX10_judge 32 = .ok (.goto 9, 3) := by decide +kernel
theorem dX10_begun_0 : decode cX10_begun 0 = .ok (.aload_n 0, 1) := by decide +kernel
theorem dX10_begun_1 : decode cX10_begun 1 = .ok (.iload_n 1, 1) := by decide +kernel
theorem dX10_begun_2 : decode cX10_begun 2 = .ok (.invokevirtual 285, 3) := by decide +kernel
theorem dX10_begun_5 : decode cX10_begun 5 = .ok (.ifCond .lt 21, 3) := by decide +kernel
theorem dX10_begun_26 : decode cX10_begun 26 = .ok (.ldc 140, 2) := by decide +kernel
theorem dX10_begun_28 : decode cX10_begun 28 = .ok (.ireturn, 1) := by decide +kernel
theorem dX10_begun_8 : decode cX10_begun 8 = .ok (.aload_n 0, 1) := by decide +kernel
theorem dX10_begun_9 : decode cX10_begun 9 = .ok (.iload_n 2, 1) := by decide +kernel
theorem dX10_begun_10 : decode cX10_begun 10 = .ok (.invokevirtual 133, 3) := by decide +kernel
theorem dX10_begun_13 : decode cX10_begun 13 = .ok (.ifCond .eq 13, 3) := by decide +kernel
theorem dX10_begun_16 : decode cX10_begun 16 = .ok (.iload_n 3, 1) := by decide +kernel
theorem dX10_begun_17 : decode cX10_begun 17 = .ok (.i2l, 1) := by decide +kernel
theorem dX10_begun_18 : decode cX10_begun 18 = .ok (.lconst 0, 1) := by decide +kernel
theorem dX10_begun_19 : decode cX10_begun 19 = .ok (.lconst 1, 1) := by decide +kernel
theorem dX10_begun_20 : decode cX10_begun 20 = .ok (.invokestatic 101, 3) := by decide +kernel
theorem dX10_begun_23 : decode cX10_begun 23 = .ok (.ifCond .ne 6, 3) := by decide +kernel
theorem dX10_begun_29 : decode cX10_begun 29 = .ok (.aload_n 0, 1) := by decide +kernel
theorem dX10_begun_30 : decode cX10_begun 30 = .ok (.getfield 9, 3) := by decide +kernel
theorem dX10_begun_33 : decode cX10_begun 33 = .ok (.bipush 10, 2) := by decide +kernel
theorem dX10_begun_35 : decode cX10_begun 35 = .ok (.iload_n 2, 1) := by decide +kernel
theorem dX10_begun_36 : decode cX10_begun 36 = .ok (.iadd, 1) := by decide +kernel
theorem dX10_begun_37 : decode cX10_begun 37 = .ok (.iaload, 1) := by decide +kernel
theorem dX10_begun_38 : decode cX10_begun 38 = .ok (.istore 4, 2) := by decide +kernel
theorem dX10_begun_40 : decode cX10_begun 40 = .ok (.aload_n 0, 1) := by decide +kernel
theorem dX10_begun_41 : decode cX10_begun 41 = .ok (.getfield 25, 3) := by decide +kernel
theorem dX10_begun_44 : decode cX10_begun 44 = .ok (.iload_n 2, 1) := by decide +kernel
theorem dX10_begun_45 : decode cX10_begun 45 = .ok (.iaload, 1) := by decide +kernel
theorem dX10_begun_46 : decode cX10_begun 46 = .ok (.ifCond .le 8, 3) := by decide +kernel
theorem dX10_begun_54 : decode cX10_begun 54 = .ok (.iconst 0, 1) := by decide +kernel
theorem dX10_begun_55 : decode cX10_begun 55 = .ok (.istore 5, 2) := by decide +kernel
theorem dX10_begun_57 : decode cX10_begun 57 = .ok (.iconst 0, 1) := by decide +kernel
theorem dX10_begun_58 : decode cX10_begun 58 = .ok (.istore 6, 2) := by decide +kernel
theorem dX10_begun_60 : decode cX10_begun 60 = .ok (.bipush (-2), 2) := by decide +kernel
theorem dX10_begun_62 : decode cX10_begun 62 = .ok (.istore 7, 2) := by decide +kernel
theorem dX10_begun_64 : decode cX10_begun 64 = .ok (.iload 5, 2) := by decide +kernel
theorem dX10_begun_66 : decode cX10_begun 66 = .ok (.ineg, 1) := by decide +kernel
theorem dX10_begun_67 : decode cX10_begun 67 = .ok (.istore 8, 2) := by decide +kernel
theorem dX10_begun_121 : decode cX10_begun 121 = .ok (.aload_n 0, 1) := by decide +kernel
theorem dX10_begun_122 : decode cX10_begun 122 = .ok (.getfield 9, 3) := by decide +kernel
theorem dX10_begun_125 : decode cX10_begun 125 = .ok (.bipush 10, 2) := by decide +kernel
theorem dX10_begun_127 : decode cX10_begun 127 = .ok (.iload_n 2, 1) := by decide +kernel
theorem dX10_begun_128 : decode cX10_begun 128 = .ok (.iadd, 1) := by decide +kernel
theorem dX10_begun_129 : decode cX10_begun 129 = .ok (.iload 4, 2) := by decide +kernel
theorem dX10_begun_131 : decode cX10_begun 131 = .ok (.iastore, 1) := by decide +kernel
theorem dX10_begun_132 : decode cX10_begun 132 = .ok (.iload_n 3, 1) := by decide +kernel
theorem dX10_begun_133 : decode cX10_begun 133 = .ok (.ifCond .ne 8, 3) := by decide +kernel
theorem dX10_begun_141 : decode cX10_begun 141 = .ok (.iload 7, 2) := by decide +kernel
theorem dX10_begun_143 : decode cX10_begun 143 = .ok (.ireturn, 1) := by decide +kernel
theorem dX10_begun_136 : decode cX10_begun 136 = .ok (.iload 6, 2) := by decide +kernel
theorem dX10_begun_138 : decode cX10_begun 138 = .ok (.goto 5, 3) := by decide +kernel
theorem dX10_begun_49 : decode cX10_begun 49 = .ok (.bipush 9, 2) := by decide +kernel
theorem dX10_begun_51 : decode cX10_begun 51 = .ok (.goto 4, 3) := by decide +kernel
set_option maxRecDepth 100000 in
set_option maxHeartbeats 4000000 in
theorem g_X10_judge (sh h : Int32) {l : Launch} {G : xG} {M : xM} {J : xJ} (hI : InvR M) : x_M l G fX10_judge 63 0 0 [.ref (62), .int (sh), .int (h)] x_SH M J (qKI WR1 M J (fun r M2 => InvR M2)) := by
  refine xb_of pX10 (Nat.le_of_ble_eq_true rfl) rfl ?_
  obtain ⟨⟨hn, h_hn, e_hn, hw⟩, hbt, ⟨un, wn, h_uw, h_wn, e_un, e_wn⟩, hch, ⟨n, h_n, e_n⟩, htx, ⟨b, h_b, e_b⟩, hkd, ⟨ra, h_ra, e_ra⟩, hsl, ⟨ic, h_ic, e_ic⟩, hS⟩ := hI
  refine xr_aload_n dX10_judge_0 0 rfl ?_
  refine xr_iload_n dX10_judge_1 1 rfl ?_
  refine xr_callV (As := [.int (sh)]) (rest := []) mlX10_285 (g_X10_rowIs sh) dX10_judge_2 s_62 rfl rfl (Nat.le_of_ble_eq_true rfl) (by decide) ⟨by decide, by decide⟩ (fun v s2 M9 J2 hq => ?_)
  obtain ⟨r2, rfl, rfl, rfl, rfl, hx1⟩ := hq
  try dsimp only [Option.toList, List.cons_append, List.nil_append]
  refine xr_iconst (v := -1) dX10_judge_5 rfl ?_
  refine xr_icmp_eq (tgt := 17) dX10_judge_6 rfl (fun c3 => ?_) (fun c3 => ?_)
  · refine xr_iconst (v := -1) dX10_judge_17 rfl ?_
    exact xr_iret dX10_judge_18 rfl rfl (⟨_, rfl, rfl, rfl, Ke.rf, ⟨⟨hn, by omega, e_hn, (fun kw hkw => by rw [show M 63 (5 + kw) = M 63 (5 + kw) from rfl]; exact hw kw hkw)⟩, (by rw [show M 63 16 = M 63 16 from rfl]; exact hbt), ⟨un, wn, by omega, by omega, e_un, e_wn⟩, (fun kk hkk => by rw [show M 64 kk = M 64 kk from rfl, show M 65 kk = M 65 kk from rfl, show M 66 kk = M 66 kk from rfl]; exact hch kk hkk), ⟨n, by omega, e_n⟩, (by rw [show M 62 13 = M 62 13 from rfl]; exact htx), ⟨b, by omega, e_b⟩, (fun j hj => by obtain ⟨q, hq, eq⟩ := hkd j hj; exact ⟨q, hq, (show M 81 j = M 81 j from rfl).trans eq⟩), ⟨ra, by omega, e_ra⟩, (fun j hj => by rw [show M 83 j = M 83 j from rfl, show M 84 j = M 84 j from rfl]; exact hsl j hj), ⟨ic, by omega, e_ic⟩, (fun j hj => by obtain ⟨q, hq, eq⟩ := hS j hj; exact ⟨q, hq, (show M 75 j = M 75 j from rfl).trans eq⟩)⟩⟩)
  · refine xr_aload_n dX10_judge_9 0 rfl ?_
    refine xr_iload_n dX10_judge_10 2 rfl ?_
    refine xb_cV (As := [.int (h)]) (rest := []) mlX10_133 (c_X10_isHoop h (by omega) e_hn) dX10_judge_11 s_62 rfl rfl (Nat.le_of_ble_eq_true rfl) (by decide) (by decide) ?_
    refine xb_bne (tgt := 19) dX10_judge_14 rfl (fun c4 => ?_) (fun c4 => ?_)
    · obtain ⟨h_, hh_, rfl⟩ := x_nat (N := hn) (by omega) rfl c4
      refine xr_aload_n dX10_judge_19 0 rfl ?_
      refine xr_iload_n dX10_judge_20 1 rfl ?_
      refine xr_callV (As := [.int (sh)]) (rest := []) mlX10_285 (g_X10_rowIs sh) dX10_judge_21 s_62 rfl rfl (Nat.le_of_ble_eq_true rfl) (by decide) ⟨by decide, by decide⟩ (fun v s2 M9 J2 hq => ?_)
      obtain ⟨r6, rfl, rfl, rfl, rfl, hx5⟩ := hq
      try dsimp only [Option.toList, List.cons_append, List.nil_append]
      refine xr_if_ge (tgt := 35) dX10_judge_24 rfl (fun c7 => ?_) (fun c7 => ?_)
      · obtain ⟨d_, hd_, rfl⟩ := x_natle (v := sh) (N := 5) (K := 5) (by decide) (by decide) (Or.resolve_left hx5 (by grind))
        obtain ⟨hd83, nm, hnm, e_nm⟩ := hsl d_ (by omega)
        refine xr_aload_n dX10_judge_35 0 rfl ?_
        refine xr_iload_n dX10_judge_36 1 rfl ?_
        refine xr_iload_n dX10_judge_37 2 rfl ?_
        refine xr_callV (As := [.int (nI (d_)), .int (nI (h_))]) (rest := []) mlX10_290 (g_X10_firstFalse (h := h_) (d := d_) (nm := nm) (by omega) (by omega) (by omega) h_hn e_hn (fun kw hkw => by rw [show M 63 (5 + kw) = M 63 (5 + kw) from rfl]; exact hw kw hkw) (by rw [show M 63 16 = M 63 16 from rfl]; exact hbt) (by rw [show M 62 13 = M 62 13 from rfl]; exact htx) e_nm) dX10_judge_38 s_62 rfl rfl (Nat.le_of_ble_eq_true rfl) (by decide) ⟨by decide, by decide⟩ (fun v s2 M8 J2 hq => ?_)
        obtain ⟨r10, rfl, rfl, rfl, k9, _⟩ := hq
        try dsimp only [Option.toList, List.cons_append, List.nil_append]
        exact xr_iret dX10_judge_41 rfl rfl (⟨_, rfl, rfl, rfl, (Ke.tr (fun _ _ h => h) Ke.rf k9), ⟨⟨hn, by omega, (Eq.trans (k9 62 6 (by decide)) e_hn), (fun kw hkw => by rw [show M8 63 (5 + kw) = M 63 (5 + kw) from (Eq.trans (k9 63 (5 + kw) (by unfold WR1; omega)) rfl)]; exact hw kw hkw)⟩, (by rw [show M8 63 16 = M 63 16 from (Eq.trans (k9 63 16 (by unfold WR1; omega)) rfl)]; exact hbt), ⟨un, wn, by omega, by omega, (Eq.trans (k9 62 5 (by decide)) e_un), (Eq.trans (k9 62 4 (by decide)) e_wn)⟩, (fun kk hkk => by rw [show M8 64 kk = M 64 kk from (Eq.trans (k9 64 kk (by unfold WR1; omega)) rfl), show M8 65 kk = M 65 kk from (Eq.trans (k9 65 kk (by unfold WR1; omega)) rfl), show M8 66 kk = M 66 kk from (Eq.trans (k9 66 kk (by unfold WR1; omega)) rfl)]; exact hch kk hkk), ⟨n, by omega, (Eq.trans (k9 62 11 (by decide)) e_n)⟩, (by rw [show M8 62 13 = M 62 13 from (Eq.trans (k9 62 13 (by unfold WR1; omega)) rfl)]; exact htx), ⟨b, by omega, (Eq.trans (k9 62 36 (by decide)) e_b)⟩, (fun j hj => by obtain ⟨q, hq, eq⟩ := hkd j hj; exact ⟨q, hq, (show M8 81 j = M 81 j from (Eq.trans (k9 81 j (by unfold WR1; omega)) rfl)).trans eq⟩), ⟨ra, by omega, (Eq.trans (k9 62 39 (by decide)) e_ra)⟩, (fun j hj => by rw [show M8 83 j = M 83 j from (Eq.trans (k9 83 j (by unfold WR1; omega)) rfl), show M8 84 j = M 84 j from (Eq.trans (k9 84 j (by unfold WR1; omega)) rfl)]; exact hsl j hj), ⟨ic, by omega, (Eq.trans (k9 62 34 (by decide)) e_ic)⟩, (fun j hj => by obtain ⟨q, hq, eq⟩ := hS j hj; exact ⟨q, hq, (show M8 75 j = M 75 j from (Eq.trans (k9 75 j (by unfold WR1; omega)) rfl)).trans eq⟩)⟩⟩)
      · refine xr_aload_n dX10_judge_27 0 rfl ?_
        refine xr_iload_n dX10_judge_28 1 rfl ?_
        refine xr_callV (As := [.int (sh)]) (rest := []) mlX10_285 (g_X10_rowIs sh) dX10_judge_29 s_62 rfl rfl (Nat.le_of_ble_eq_true rfl) (by decide) ⟨by decide, by decide⟩ (fun v s2 M9 J2 hq => ?_)
        obtain ⟨r12, rfl, rfl, rfl, rfl, hx11⟩ := hq
        try dsimp only [Option.toList, List.cons_append, List.nil_append]
        refine xr_goto (tgt := 41) dX10_judge_32 rfl ?_
        exact xr_iret dX10_judge_41 rfl rfl (⟨_, rfl, rfl, rfl, Ke.rf, ⟨⟨hn, by omega, e_hn, (fun kw hkw => by rw [show M 63 (5 + kw) = M 63 (5 + kw) from rfl]; exact hw kw hkw)⟩, (by rw [show M 63 16 = M 63 16 from rfl]; exact hbt), ⟨un, wn, by omega, by omega, e_un, e_wn⟩, (fun kk hkk => by rw [show M 64 kk = M 64 kk from rfl, show M 65 kk = M 65 kk from rfl, show M 66 kk = M 66 kk from rfl]; exact hch kk hkk), ⟨n, by omega, e_n⟩, (by rw [show M 62 13 = M 62 13 from rfl]; exact htx), ⟨b, by omega, e_b⟩, (fun j hj => by obtain ⟨q, hq, eq⟩ := hkd j hj; exact ⟨q, hq, (show M 81 j = M 81 j from rfl).trans eq⟩), ⟨ra, by omega, e_ra⟩, (fun j hj => by rw [show M 83 j = M 83 j from rfl, show M 84 j = M 84 j from rfl]; exact hsl j hj), ⟨ic, by omega, e_ic⟩, (fun j hj => by obtain ⟨q, hq, eq⟩ := hS j hj; exact ⟨q, hq, (show M 75 j = M 75 j from rfl).trans eq⟩)⟩⟩)
    · refine xr_iconst (v := -1) dX10_judge_17 rfl ?_
      exact xr_iret dX10_judge_18 rfl rfl (⟨_, rfl, rfl, rfl, Ke.rf, ⟨⟨hn, by omega, e_hn, (fun kw hkw => by rw [show M 63 (5 + kw) = M 63 (5 + kw) from rfl]; exact hw kw hkw)⟩, (by rw [show M 63 16 = M 63 16 from rfl]; exact hbt), ⟨un, wn, by omega, by omega, e_un, e_wn⟩, (fun kk hkk => by rw [show M 64 kk = M 64 kk from rfl, show M 65 kk = M 65 kk from rfl, show M 66 kk = M 66 kk from rfl]; exact hch kk hkk), ⟨n, by omega, e_n⟩, (by rw [show M 62 13 = M 62 13 from rfl]; exact htx), ⟨b, by omega, e_b⟩, (fun j hj => by obtain ⟨q, hq, eq⟩ := hkd j hj; exact ⟨q, hq, (show M 81 j = M 81 j from rfl).trans eq⟩), ⟨ra, by omega, e_ra⟩, (fun j hj => by rw [show M 83 j = M 83 j from rfl, show M 84 j = M 84 j from rfl]; exact hsl j hj), ⟨ic, by omega, e_ic⟩, (fun j hj => by obtain ⟨q, hq, eq⟩ := hS j hj; exact ⟨q, hq, (show M 75 j = M 75 j from rfl).trans eq⟩)⟩⟩)