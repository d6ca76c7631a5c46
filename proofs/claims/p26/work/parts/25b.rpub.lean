theorem dX10_falls_0 : decode cX10_falls 0 = .ok (.aload_n 0, 1) := by decide +kernel
theorem dX10_falls_1 : decode cX10_falls 1 = .ok (.iload_n 1, 1) := by decide +kernel
theorem dX10_falls_2 : decode cX10_falls 2 = .ok (.invokevirtual 133, 3) := by decide +kernel
theorem dX10_falls_5 : decode cX10_falls 5 = .ok (.ifCond .ne 5, 3) := by decide +kernel
theorem dX10_falls_10 : decode cX10_falls 10 = .ok (.aload_n 0, 1) := by decide +kernel
theorem dX10_falls_11 : decode cX10_falls 11 = .ok (.iload_n 1, 1) := by decide +kernel
theorem dX10_falls_12 : decode cX10_falls 12 = .ok (.invokevirtual 264, 3) := by decide +kernel
theorem dX10_falls_15 : decode cX10_falls 15 = .ok (.istore_n 2, 1) := by decide +kernel
theorem dX10_falls_16 : decode cX10_falls 16 = .ok (.iload_n 2, 1) := by decide +kernel
theorem dX10_falls_17 : decode cX10_falls 17 = .ok (.sipush 201, 3) := by decide +kernel
theorem dX10_falls_20 : decode cX10_falls 20 = .ok (.if_icmp .ne 8, 3) := by decide +kernel
theorem dX10_falls_28 : decode cX10_falls 28 = .ok (.iload_n 2, 1) := by decide +kernel
theorem dX10_falls_29 : decode cX10_falls 29 = .ok (.ireturn, 1) := by decide +kernel
theorem dX10_falls_23 : decode cX10_falls 23 = .ok (.bipush (-2), 2) := by decide +kernel
theorem dX10_falls_25 : decode cX10_falls 25 = .ok (.goto 4, 3) := by decide +kernel
theorem dX10_falls_8 : decode cX10_falls 8 = .ok (.iconst (-1), 1) := by decide +kernel
theorem dX10_falls_9 : decode cX10_falls 9 = .ok (.ireturn, 1) := by decide +kernel
theorem dX10_mistake_0 : decode cX10_mistake 0 = .ok (.iload_n 1, 1) := by decide +kernel
theorem dX10_mistake_1 : decode cX10_mistake 1 = .ok (.i2l, 1) := by decide +kernel
theorem dX10_mistake_2 : decode cX10_mistake 2 = .ok (.lconst 0, 1) := by decide +kernel
theorem dX10_mistake_3 : decode cX10_mistake 3 = .ok (.ldc2_w 276, 3) := by decide +kernel
theorem dX10_mistake_6 : decode cX10_mistake 6 = .ok (.invokestatic 101, 3) := by decide +kernel
theorem dX10_mistake_9 : decode cX10_mistake 9 = .ok (.ifCond .eq 13, 3) := by decide +kernel
theorem dX10_mistake_22 : decode cX10_mistake 22 = .ok (.iconst (-1), 1) := by decide +kernel
theorem dX10_mistake_23 : decode cX10_mistake 23 = .ok (.ireturn, 1) := by decide +kernel
theorem dX10_mistake_12 : decode cX10_mistake 12 = .ok (.iload_n 2, 1) := by decide +kernel
theorem dX10_mistake_13 : decode cX10_mistake 13 = .ok (.i2l, 1) := by decide +kernel
theorem dX10_mistake_14 : decode cX10_mistake 14 = .ok (.lconst 0, 1) := by decide +kernel
theorem dX10_mistake_15 : decode cX10_mistake 15 = .ok (.lconst 1, 1) := by decide +kernel
theorem dX10_mistake_16 : decode cX10_mistake 16 = .ok (.invokestatic 101, 3) := by decide +kernel
theorem dX10_mistake_19 : decode cX10_mistake 19 = .ok (.ifCond .ne 5, 3) := by decide +kernel
theorem dX10_mistake_24 : decode cX10_mistake 24 = .ok (.aload_n 0, 1) := by decide +kernel
theorem dX10_mistake_25 : decode cX10_mistake 25 = .ok (.iload_n 1, 1) := by decide +kernel
theorem dX10_mistake_26 : decode cX10_mistake 26 = .ok (.invokevirtual 278, 3) := by decide +kernel
theorem dX10_mistake_29 : decode cX10_mistake 29 = .ok (.istore_n 3, 1) := by decide +kernel
theorem dX10_mistake_30 : decode cX10_mistake 30 = .ok (.iload_n 2, 1) := by decide +kernel
theorem dX10_mistake_31 : decode cX10_mistake 31 = .ok (.ifCond .ne 7, 3) := by decide +kernel
theorem dX10_mistake_38 : decode cX10_mistake 38 = .ok (.aload_n 0, 1) := by decide +kernel
theorem dX10_mistake_39 : decode cX10_mistake 39 = .ok (.getfield 273, 3) := by decide +kernel
theorem dX10_mistake_42 : decode cX10_mistake 42 = .ok (.ireturn, 1) := by decide +kernel
theorem dX10_mistake_34 : decode cX10_mistake 34 = .ok (.iload_n 3, 1) := by decide +kernel
theorem dX10_mistake_35 : decode cX10_mistake 35 = .ok (.goto 7, 3) := by decide +kernel
theorem dX10_rescue_0 : decode cX10_rescue 0 = .ok (.aload_n 0, 1) := by decide +kernel
theorem dX10_rescue_1 : decode cX10_rescue 1 = .ok (.iload_n 1, 1) := by decide +kernel
theorem dX10_rescue_2 : decode cX10_rescue 2 = .ok (.invokevirtual 133, 3) := by decide +kernel
theorem dX10_rescue_5 : decode cX10_rescue 5 = .ok (.ifCond .eq 31, 3) := by decide +kernel
theorem dX10_rescue_36 : decode cX10_rescue 36 = .ok (.iconst (-1), 1) := by decide +kernel
theorem dX10_rescue_37 : decode cX10_rescue 37 = .ok (.ireturn, 1) := by decide +kernel
theorem dX10_rescue_8 : decode cX10_rescue 8 = .ok (.iload_n 2, 1) := by decide +kernel
theorem dX10_rescue_9 : decode cX10_rescue 9 = .ok (.ifCond .lt 27, 3) := by decide +kernel
theorem dX10_rescue_12 : decode cX10_rescue 12 = .ok (.iload_n 2, 1) := by decide +kernel
theorem dX10_rescue_13 : decode cX10_rescue 13 = .ok (.bipush 100, 2) := by decide +kernel
theorem dX10_rescue_15 : decode cX10_rescue 15 = .ok (.idiv, 1) := by decide +kernel
theorem dX10_rescue_16 : decode cX10_rescue 16 = .ok (.i2l, 1) := by decide +kernel
theorem dX10_rescue_17 : decode cX10_rescue 17 = .ok (.lconst 1, 1) := by decide +kernel
theorem dX10_rescue_18 : decode cX10_rescue 18 = .ok (.ldc2_w 129, 3) := by decide +kernel
theorem dX10_rescue_21 : decode cX10_rescue 21 = .ok (.invokestatic 101, 3) := by decide +kernel
theorem dX10_rescue_24 : decode cX10_rescue 24 = .ok (.ifCond .eq 12, 3) := by decide +kernel
theorem dX10_rescue_27 : decode cX10_rescue 27 = .ok (.iload_n 2, 1) := by decide +kernel
theorem dX10_rescue_28 : decode cX10_rescue 28 = .ok (.bipush 100, 2) := by decide +kernel
theorem dX10_rescue_30 : decode cX10_rescue 30 = .ok (.irem, 1) := by decide +kernel
theorem dX10_rescue_31 : decode cX10_rescue 31 = .ok (.bipush 24, 2) := by decide +kernel
theorem dX10_rescue_33 : decode cX10_rescue 33 = .ok (.if_icmp .lt 5, 3) := by decide +kernel
theorem dX10_rescue_38 : decode cX10_rescue 38 = .ok (.aload_n 0, 1) := by decide +kernel
theorem dX10_rescue_39 : decode cX10_rescue 39 = .ok (.iload_n 1, 1) := by decide +kernel
theorem dX10_rescue_40 : decode cX10_rescue 40 = .ok (.invokevirtual 264, 3) := by decide +kernel
theorem dX10_rescue_43 : decode cX10_rescue 43 = .ok (.istore_n 3, 1) := by decide +kernel
theorem dX10_rescue_44 : decode cX10_rescue 44 = .ok (.iload_n 3, 1) := by decide +kernel
theorem dX10_rescue_45 : decode cX10_rescue 45 = .ok (.ifCond .eq 10, 3) := by decide +kernel
theorem dX10_rescue_55 : decode cX10_rescue 55 = .ok (.bipush (-5), 2) := by decide +kernel
theorem dX10_rescue_57 : decode cX10_rescue 57 = .ok (.ireturn, 1) := by decide +kernel
theorem dX10_rescue_48 : decode cX10_rescue 48 = .ok (.iload_n 3, 1) := by decide +kernel
theorem dX10_rescue_49 : decode cX10_rescue 49 = .ok (.sipush 201, 3) := by decide +kernel
theorem dX10_rescue_52 : decode cX10_rescue 52 = .ok (.if_icmp .ne 6, 3) := by decide +kernel
theorem dX10_rescue_58 : decode cX10_rescue 58 = .ok (.iconst 0, 1) := by decide +kernel
theorem dX10_rescue_59 : decode cX10_rescue 59 = .ok (.istore 4, 2) := by decide +kernel
theorem dX10_rescue_96 : decode cX10_rescue 96 = .ok (.bipush (-2), 2) := by decide +kernel
theorem dX10_rescue_98 : decode cX10_rescue 98 = .ok (.ireturn, 1) := by decide +kernel
theorem dX10_beatFor_0 : decode cX10_beatFor 0 = .ok (.iload_n 1, 1) := by decide +kernel
theorem dX10_beatFor_1 : decode cX10_beatFor 1 = .ok (.i2l, 1) := by decide +kernel
theorem dX10_beatFor_2 : decode cX10_beatFor 2 = .ok (.lconst 0, 1) := by decide +kernel
theorem dX10_beatFor_3 : decode cX10_beatFor 3 = .ok (.lconst 1, 1) := by decide +kernel
theorem dX10_beatFor_4 : decode cX10_beatFor 4 = .ok (.invokestatic 101, 3) := by decide +kernel
theorem dX10_beatFor_7 : decode cX10_beatFor 7 = .ok (.ifCond .ne 5, 3) := by decide +kernel
theorem dX10_beatFor_12 : decode cX10_beatFor 12 = .ok (.aload_n 0, 1) := by decide +kernel
theorem dX10_beatFor_13 : decode cX10_beatFor 13 = .ok (.getfield 9, 3) := by decide +kernel
theorem dX10_beatFor_16 : decode cX10_beatFor 16 = .ok (.bipush 16, 2) := by decide +kernel
theorem dX10_beatFor_18 : decode cX10_beatFor 18 = .ok (.iaload, 1) := by decide +kernel
theorem dX10_beatFor_19 : decode cX10_beatFor 19 = .ok (.istore_n 2, 1) := by decide +kernel
theorem dX10_beatFor_20 : decode cX10_beatFor 20 = .ok (.aload_n 0, 1) := by decide +kernel
theorem dX10_beatFor_21 : decode cX10_beatFor 21 = .ok (.getfield 9, 3) := by decide +kernel
theorem dX10_beatFor_24 : decode cX10_beatFor 24 = .ok (.bipush 17, 2) := by decide +kernel
theorem dX10_beatFor_26 : decode cX10_beatFor 26 = .ok (.iaload, 1) := by decide +kernel
theorem dX10_beatFor_27 : decode cX10_beatFor 27 = .ok (.istore_n 3, 1) := by decide +kernel
theorem dX10_beatFor_28 : decode cX10_beatFor 28 = .ok (.iconst 0, 1) := by decide +kernel
theorem dX10_beatFor_29 : decode cX10_beatFor 29 = .ok (.istore 4, 2) := by decide +kernel
theorem dX10_beatFor_31 : decode cX10_beatFor 31 = .ok (.iconst (-1), 1) := by decide +kernel
theorem dX10_beatFor_32 : decode cX10_beatFor 32 = .ok (.istore 5, 2) := by decide +kernel
theorem dX10_beatFor_34 : decode cX10_beatFor 34 = .ok (.iconst 2, 1) := by decide +kernel
theorem dX10_beatFor_35 : decode cX10_beatFor 35 = .ok (.istore 6, 2) := by decide +kernel
theorem dX10_beatFor_128 : decode cX10_beatFor 128 = .ok (.aload_n 0, 1) := by decide +kernel
theorem dX10_beatFor_129 : decode cX10_beatFor 129 = .ok (.getfield 9, 3) := by decide +kernel
theorem dX10_beatFor_132 : decode cX10_beatFor 132 = .ok (.bipush 16, 2) := by decide +kernel
theorem dX10_beatFor_134 : decode cX10_beatFor 134 = .ok (.iload_n 2, 1) := by decide +kernel
theorem dX10_beatFor_135 : decode cX10_beatFor 135 = .ok (.iastore, 1) := by decide +kernel
theorem dX10_beatFor_136 : decode cX10_beatFor 136 = .ok (.aload_n 0, 1) := by decide +kernel
theorem dX10_beatFor_137 : decode cX10_beatFor 137 = .ok (.getfield 9, 3) := by decide +kernel
theorem dX10_beatFor_140 : decode cX10_beatFor 140 = .ok (.bipush 17, 2) := by decide +kernel
theorem dX10_beatFor_142 : decode cX10_beatFor 142 = .ok (.iload_n 3, 1) := by decide +kernel
theorem dX10_beatFor_143 : decode cX10_beatFor 143 = .ok (.iastore, 1) := by decide +kernel
theorem dX10_beatFor_144 : decode cX10_beatFor 144 = .ok (.iload_n 1, 1) := by decide +kernel
theorem dX10_beatFor_145 : decode cX10_beatFor 145 = .ok (.ifCond .ne 8, 3) := by decide +kernel
theorem dX10_beatFor_153 : decode cX10_beatFor 153 = .ok (.iload 5, 2) := by decide +kernel
theorem dX10_beatFor_155 : decode cX10_beatFor 155 = .ok (.ireturn, 1) := by decide +kernel
theorem dX10_beatFor_148 : decode cX10_beatFor 148 = .ok (.iload 4, 2) := by decide +kernel
theorem dX10_beatFor_150 : decode cX10_beatFor 150 = .ok (.goto 5, 3) := by decide +kernel
theorem dX10_beatFor_10 : decode cX10_beatFor 10 = .ok (.iconst (-1), 1) := by decide +kernel
theorem dX10_beatFor_11 : decode cX10_beatFor 11 = .ok (.ireturn, 1) := by decide +kernel
theorem dX10_leastPush_0 : decode cX10_leastPush 0 = .ok (.iload_n 1, 1) := by decide +kernel
theorem dX10_leastPush_1 : decode cX10_leastPush 1 = .ok (.i2l, 1) := by decide +kernel
theorem dX10_leastPush_2 : decode cX10_leastPush 2 = .ok (.lconst 1, 1) := by decide +kernel
theorem dX10_leastPush_3 : decode cX10_leastPush 3 = .ok (.ldc2_w 244, 3) := by decide +kernel
theorem dX10_leastPush_6 : decode cX10_leastPush 6 = .ok (.invokestatic 101, 3) := by decide +kernel
theorem dX10_leastPush_9 : decode cX10_leastPush 9 = .ok (.ifCond .ne 5, 3) := by decide +kernel
theorem dX10_leastPush_14 : decode cX10_leastPush 14 = .ok (.aload_n 0, 1) := by decide +kernel
theorem dX10_leastPush_15 : decode cX10_leastPush 15 = .ok (.getfield 9, 3) := by decide +kernel
theorem dX10_leastPush_18 : decode cX10_leastPush 18 = .ok (.bipush 18, 2) := by decide +kernel
theorem dX10_leastPush_20 : decode cX10_leastPush 20 = .ok (.iaload, 1) := by decide +kernel
theorem dX10_leastPush_21 : decode cX10_leastPush 21 = .ok (.istore_n 2, 1) := by decide +kernel
theorem dX10_leastPush_22 : decode cX10_leastPush 22 = .ok (.bipush (-2), 2) := by decide +kernel
theorem dX10_leastPush_24 : decode cX10_leastPush 24 = .ok (.istore_n 3, 1) := by decide +kernel
theorem dX10_leastPush_25 : decode cX10_leastPush 25 = .ok (.iconst 5, 1) := by decide +kernel
theorem dX10_leastPush_26 : decode cX10_leastPush 26 = .ok (.istore 4, 2) := by decide +kernel
theorem dX10_leastPush_63 : decode cX10_leastPush 63 = .ok (.aload_n 0, 1) := by decide +kernel
theorem dX10_leastPush_64 : decode cX10_leastPush 64 = .ok (.getfield 9, 3) := by decide +kernel
theorem dX10_leastPush_67 : decode cX10_leastPush 67 = .ok (.bipush 18, 2) := by decide +kernel
theorem dX10_leastPush_69 : decode cX10_leastPush 69 = .ok (.iload_n 2, 1) := by decide +kernel
theorem dX10_leastPush_70 : decode cX10_leastPush 70 = .ok (.iastore, 1) := by decide +kernel
theorem dX10_leastPush_71 : decode cX10_leastPush 71 = .ok (.iload_n 3, 1) := by decide +kernel
theorem dX10_leastPush_72 : decode cX10_leastPush 72 = .ok (.ireturn, 1) := by decide +kernel
theorem dX10_leastPush_12 : decode cX10_leastPush 12 = .ok (.iconst (-1), 1) := by decide +kernel
theorem dX10_leastPush_13 : decode cX10_leastPush 13 = .ok (.ireturn, 1) := by decide +kernel
theorem dX10_held_0 : decode cX10_held 0 = .ok (.iload_n 1, 1) := by decide +kernel
theorem dX10_held_1 : decode cX10_held 1 = .ok (.i2l, 1) := by decide +kernel
theorem dX10_held_2 : decode cX10_held 2 = .ok (.lconst 1, 1) := by decide +kernel
theorem dX10_held_3 : decode cX10_held 3 = .ok (.ldc2_w 244, 3) := by decide +kernel
theorem dX10_held_6 : decode cX10_held 6 = .ok (.invokestatic 101, 3) := by decide +kernel
theorem dX10_held_9 : decode cX10_held 9 = .ok (.ifCond .ne 5, 3) := by decide +kernel
theorem dX10_held_14 : decode cX10_held 14 = .ok (.aload_n 0, 1) := by decide +kernel
theorem dX10_held_15 : decode cX10_held 15 = .ok (.invokevirtual 246, 3) := by decide +kernel
theorem dX10_held_18 : decode cX10_held 18 = .ok (.istore_n 2, 1) := by decide +kernel
theorem dX10_held_19 : decode cX10_held 19 = .ok (.iconst 0, 1) := by decide +kernel
theorem dX10_held_20 : decode cX10_held 20 = .ok (.istore_n 3, 1) := by decide +kernel
theorem dX10_held_21 : decode cX10_held 21 = .ok (.iconst 1, 1) := by decide +kernel
theorem dX10_held_22 : decode cX10_held 22 = .ok (.istore 4, 2) := by decide +kernel
theorem dX10_held_12 : decode cX10_held 12 = .ok (.iconst (-1), 1) := by decide +kernel
theorem dX10_held_13 : decode cX10_held 13 = .ok (.ireturn, 1) := by decide +kernel
set_option maxRecDepth 100000 in
set_option maxHeartbeats 4000000 in
theorem g_X10_falls (h : Int32) {l : Launch} {G : xG} {M : xM} {J : xJ} (hI : InvR M) : x_M l G fX10_falls 63 0 0 [.ref (62), .int (h)] x_SH M J (qKI WR1 M J (fun r M2 => InvR M2)) := by
  refine xb_of pX10 (Nat.le_of_ble_eq_true rfl) rfl ?_
  obtain ⟨⟨hn, h_hn, e_hn, hw⟩, hbt, ⟨un, wn, h_uw, h_wn, e_un, e_wn⟩, hch, ⟨n, h_n, e_n⟩, htx, ⟨b, h_b, e_b⟩, hkd, ⟨ra, h_ra, e_ra⟩, hsl, ⟨ic, h_ic, e_ic⟩, hS⟩ := hI
  refine xr_aload_n dX10_falls_0 0 rfl ?_
  refine xr_iload_n dX10_falls_1 1 rfl ?_
  refine xb_cV (As := [.int (h)]) (rest := []) mlX10_133 (c_X10_isHoop h (by omega) e_hn) dX10_falls_2 s_62 rfl rfl (Nat.le_of_ble_eq_true rfl) (by decide) (by decide) ?_
  refine xb_bne (tgt := 10) dX10_falls_5 rfl (fun c1 => ?_) (fun c1 => ?_)
  · obtain ⟨h_, hh_, rfl⟩ := x_nat (N := hn) (by omega) rfl c1
    refine xr_aload_n dX10_falls_10 0 rfl ?_
    refine xr_iload_n dX10_falls_11 1 rfl ?_
    refine xr_callV (As := [.int (nI (h_))]) (rest := []) mlX10_264 (g_X10_fallOf (h := h_) (by omega) h_hn e_hn (fun kw hkw => by rw [show M 63 (5 + kw) = M 63 (5 + kw) from rfl]; exact hw kw hkw) (by rw [show M 63 16 = M 63 16 from rfl]; exact hbt) (by rw [show M 62 13 = M 62 13 from rfl]; exact htx)) dX10_falls_12 s_62 rfl rfl (Nat.le_of_ble_eq_true rfl) (by decide) ⟨by decide, by decide⟩ (fun v s2 M2 J2 hq => ?_)
    obtain ⟨r4, rfl, rfl, rfl, k3, _⟩ := hq
    try dsimp only [Option.toList, List.cons_append, List.nil_append]
    refine xr_istore_n (ls2 := [(2, .int (r4)), (0, .ref (62)), (1, .int (nI (h_)))]) dX10_falls_15 (by decide) rfl ?_
    refine xr_iload_n dX10_falls_16 0 rfl ?_
    refine xr_sipush (v := 201) dX10_falls_17 rfl ?_
    refine xr_icmp_ne (tgt := 28) dX10_falls_20 rfl (fun c5 => ?_) (fun c5 => ?_)
    · refine xr_iload_n dX10_falls_28 0 rfl ?_
      exact xr_iret dX10_falls_29 rfl rfl (⟨_, rfl, rfl, rfl, (Ke.tr (fun _ _ h => h) Ke.rf k3), ⟨⟨hn, by omega, (Eq.trans (k3 62 6 (by decide)) e_hn), (fun kw hkw => by rw [show M2 63 (5 + kw) = M 63 (5 + kw) from (Eq.trans (k3 63 (5 + kw) (by unfold WR1; omega)) rfl)]; exact hw kw hkw)⟩, (by rw [show M2 63 16 = M 63 16 from (Eq.trans (k3 63 16 (by unfold WR1; omega)) rfl)]; exact hbt), ⟨un, wn, by omega, by omega, (Eq.trans (k3 62 5 (by decide)) e_un), (Eq.trans (k3 62 4 (by decide)) e_wn)⟩, (fun kk hkk => by rw [show M2 64 kk = M 64 kk from (Eq.trans (k3 64 kk (by unfold WR1; omega)) rfl), show M2 65 kk = M 65 kk from (Eq.trans (k3 65 kk (by unfold WR1; omega)) rfl), show M2 66 kk = M 66 kk from (Eq.trans (k3 66 kk (by unfold WR1; omega)) rfl)]; exact hch kk hkk), ⟨n, by omega, (Eq.trans (k3 62 11 (by decide)) e_n)⟩, (by rw [show M2 62 13 = M 62 13 from (Eq.trans (k3 62 13 (by unfold WR1; omega)) rfl)]; exact htx), ⟨b, by omega, (Eq.trans (k3 62 36 (by decide)) e_b)⟩, (fun j hj => by obtain ⟨q, hq, eq⟩ := hkd j hj; exact ⟨q, hq, (show M2 81 j = M 81 j from (Eq.trans (k3 81 j (by unfold WR1; omega)) rfl)).trans eq⟩), ⟨ra, by omega, (Eq.trans (k3 62 39 (by decide)) e_ra)⟩, (fun j hj => by rw [show M2 83 j = M 83 j from (Eq.trans (k3 83 j (by unfold WR1; omega)) rfl), show M2 84 j = M 84 j from (Eq.trans (k3 84 j (by unfold WR1; omega)) rfl)]; exact hsl j hj), ⟨ic, by omega, (Eq.trans (k3 62 34 (by decide)) e_ic)⟩, (fun j hj => by obtain ⟨q, hq, eq⟩ := hS j hj; exact ⟨q, hq, (show M2 75 j = M 75 j from (Eq.trans (k3 75 j (by unfold WR1; omega)) rfl)).trans eq⟩)⟩⟩)
    · refine xr_bipush (v := -2) dX10_falls_23 rfl ?_
      refine xr_goto (tgt := 29) dX10_falls_25 rfl ?_
      exact xr_iret dX10_falls_29 rfl rfl (⟨_, rfl, rfl, rfl, (Ke.tr (fun _ _ h => h) Ke.rf k3), ⟨⟨hn, by omega, (Eq.trans (k3 62 6 (by decide)) e_hn), (fun kw hkw => by rw [show M2 63 (5 + kw) = M 63 (5 + kw) from (Eq.trans (k3 63 (5 + kw) (by unfold WR1; omega)) rfl)]; exact hw kw hkw)⟩, (by rw [show M2 63 16 = M 63 16 from (Eq.trans (k3 63 16 (by unfold WR1; omega)) rfl)]; exact hbt), ⟨un, wn, by omega, by omega, (Eq.trans (k3 62 5 (by decide)) e_un), (Eq.trans (k3 62 4 (by decide)) e_wn)⟩, (fun kk hkk => by rw [show M2 64 kk = M 64 kk from (Eq.trans (k3 64 kk (by unfold WR1; omega)) rfl), show M2 65 kk = M 65 kk from (Eq.trans (k3 65 kk (by unfold WR1; omega)) rfl), show M2 66 kk = M 66 kk from (Eq.trans (k3 66 kk (by unfold WR1; omega)) rfl)]; exact hch kk hkk), ⟨n, by omega, (Eq.trans (k3 62 11 (by decide)) e_n)⟩, (by rw [show M2 62 13 = M 62 13 from (Eq.trans (k3 62 13 (by unfold WR1; omega)) rfl)]; exact htx), ⟨b, by omega, (Eq.trans (k3 62 36 (by decide)) e_b)⟩, (fun j hj => by obtain ⟨q, hq, eq⟩ := hkd j hj; exact ⟨q, hq, (show M2 81 j = M 81 j from (Eq.trans (k3 81 j (by unfold WR1; omega)) rfl)).trans eq⟩), ⟨ra, by omega, (Eq.trans (k3 62 39 (by decide)) e_ra)⟩, (fun j hj => by rw [show M2 83 j = M 83 j from (Eq.trans (k3 83 j (by unfold WR1; omega)) rfl), show M2 84 j = M 84 j from (Eq.trans (k3 84 j (by unfold WR1; omega)) rfl)]; exact hsl j hj), ⟨ic, by omega, (Eq.trans (k3 62 34 (by decide)) e_ic)⟩, (fun j hj => by obtain ⟨q, hq, eq⟩ := hS j hj; exact ⟨q, hq, (show M2 75 j = M 75 j from (Eq.trans (k3 75 j (by unfold WR1; omega)) rfl)).trans eq⟩)⟩⟩)
  · refine xr_iconst (v := -1) dX10_falls_8 rfl ?_
    exact xr_iret dX10_falls_9 rfl rfl (⟨_, rfl, rfl, rfl, Ke.rf, ⟨⟨hn, by omega, e_hn, (fun kw hkw => by rw [show M 63 (5 + kw) = M 63 (5 + kw) from rfl]; exact hw kw hkw)⟩, (by rw [show M 63 16 = M 63 16 from rfl]; exact hbt), ⟨un, wn, by omega, by omega, e_un, e_wn⟩, (fun kk hkk => by rw [show M 64 kk = M 64 kk from rfl, show M 65 kk = M 65 kk from rfl, show M 66 kk = M 66 kk from rfl]; exact hch kk hkk), ⟨n, by omega, e_n⟩, (by rw [show M 62 13 = M 62 13 from rfl]; exact htx), ⟨b, by omega, e_b⟩, (fun j hj => by obtain ⟨q, hq, eq⟩ := hkd j hj; exact ⟨q, hq, (show M 81 j = M 81 j from rfl).trans eq⟩), ⟨ra, by omega, e_ra⟩, (fun j hj => by rw [show M 83 j = M 83 j from rfl, show M 84 j = M 84 j from rfl]; exact hsl j hj), ⟨ic, by omega, e_ic⟩, (fun j hj => by obtain ⟨q, hq, eq⟩ := hS j hj; exact ⟨q, hq, (show M 75 j = M 75 j from rfl).trans eq⟩)⟩⟩)
set_option maxRecDepth 100000 in
set_option maxHeartbeats 4000000 in
theorem g_X10_lasts {l : Launch} {G : xG} {M : xM} {J : xJ} (hI : InvR M) : x_M l G fX10_lasts 63 0 0 [.ref (62)] x_SH M J (qKI WR1 M J (fun r M2 => InvR M2)) := by
  refine xb_of pX10 (Nat.le_of_ble_eq_true rfl) rfl ?_
  obtain ⟨⟨hn, h_hn, e_hn, hw⟩, hbt, ⟨un, wn, h_uw, h_wn, e_un, e_wn⟩, hch, ⟨n, h_n, e_n⟩, htx, ⟨b, h_b, e_b⟩, hkd, ⟨ra, h_ra, e_ra⟩, hsl, ⟨ic, h_ic, e_ic⟩, hS⟩ := hI
  refine xr_aload_n dX10_lasts_0 0 rfl ?_
  refine xr_aload_n dX10_lasts_1 0 rfl ?_
  refine xr_callV (As := []) (rest := [.ref (62)]) mlX10_246 (g_X10_upNow h_hn e_hn (fun kw hkw => by rw [show M 63 (5 + kw) = M 63 (5 + kw) from rfl]; exact hw kw hkw) (by rw [show M 63 16 = M 63 16 from rfl]; exact hbt) (by rw [show M 62 13 = M 62 13 from rfl]; exact htx)) dX10_lasts_2 s_62 rfl rfl (Nat.le_of_ble_eq_true rfl) (by decide) ⟨by decide, by decide⟩ (fun v s2 M9 J2 hq => ?_)
  obtain ⟨r1, rfl, rfl, rfl, rfl, _⟩ := hq
  try dsimp only [Option.toList, List.cons_append, List.nil_append]
  refine xr_callV (As := [.int (r1)]) (rest := []) mlX10_267 (g_X10_lastsOf r1 h_hn e_hn (fun kw hkw => by rw [show M 63 (5 + kw) = M 63 (5 + kw) from rfl]; exact hw kw hkw) (by rw [show M 63 16 = M 63 16 from rfl]; exact hbt) (by rw [show M 62 13 = M 62 13 from rfl]; exact htx)) dX10_lasts_5 s_62 rfl rfl (Nat.le_of_ble_eq_true rfl) (by decide) ⟨by decide, by decide⟩ (fun v s2 M2 J2 hq => ?_)
  obtain ⟨r4, rfl, rfl, rfl, k3, _⟩ := hq
  try dsimp only [Option.toList, List.cons_append, List.nil_append]
  exact xr_iret dX10_lasts_8 rfl rfl (⟨_, rfl, rfl, rfl, (Ke.tr (fun _ _ h => h) Ke.rf k3), ⟨⟨hn, by omega, (Eq.trans (k3 62 6 (by decide)) e_hn), (fun kw hkw => by rw [show M2 63 (5 + kw) = M 63 (5 + kw) from (Eq.trans (k3 63 (5 + kw) (by unfold WR1; omega)) rfl)]; exact hw kw hkw)⟩, (by rw [show M2 63 16 = M 63 16 from (Eq.trans (k3 63 16 (by unfold WR1; omega)) rfl)]; exact hbt), ⟨un, wn, by omega, by omega, (Eq.trans (k3 62 5 (by decide)) e_un), (Eq.trans (k3 62 4 (by decide)) e_wn)⟩, (fun kk hkk => by rw [show M2 64 kk = M 64 kk from (Eq.trans (k3 64 kk (by unfold WR1; omega)) rfl), show M2 65 kk = M 65 kk from (Eq.trans (k3 65 kk (by unfold WR1; omega)) rfl), show M2 66 kk = M 66 kk from (Eq.trans (k3 66 kk (by unfold WR1; omega)) rfl)]; exact hch kk hkk), ⟨n, by omega, (Eq.trans (k3 62 11 (by decide)) e_n)⟩, (by rw [show M2 62 13 = M 62 13 from (Eq.trans (k3 62 13 (by unfold WR1; omega)) rfl)]; exact htx), ⟨b, by omega, (Eq.trans (k3 62 36 (by decide)) e_b)⟩, (fun j hj => by obtain ⟨q, hq, eq⟩ := hkd j hj; exact ⟨q, hq, (show M2 81 j = M 81 j from (Eq.trans (k3 81 j (by unfold WR1; omega)) rfl)).trans eq⟩), ⟨ra, by omega, (Eq.trans (k3 62 39 (by decide)) e_ra)⟩, (fun j hj => by rw [show M2 83 j = M 83 j from (Eq.trans (k3 83 j (by unfold WR1; omega)) rfl), show M2 84 j = M 84 j from (Eq.trans (k3 84 j (by unfold WR1; omega)) rfl)]; exact hsl j hj), ⟨ic, by omega, (Eq.trans (k3 62 34 (by decide)) e_ic)⟩, (fun j hj => by obtain ⟨q, hq, eq⟩ := hS j hj; exact ⟨q, hq, (show M2 75 j = M 75 j from (Eq.trans (k3 75 j (by unfold WR1; omega)) rfl)).trans eq⟩)⟩⟩)
set_option maxRecDepth 100000 in
set_option maxHeartbeats 4000000 in
theorem g_X10_mistake (m w : Int32) {l : Launch} {G : xG} {M : xM} {J : xJ} (hI : InvR M) : x_M l G fX10_mistake 63 0 0 [.ref (62), .int (m), .int (w)] x_SH M J (qKI WR1 M J (fun r M2 => InvR M2)) := by
  refine xb_of pX10 (Nat.le_of_ble_eq_true rfl) rfl ?_
  obtain ⟨⟨hn, h_hn, e_hn, hw⟩, hbt, ⟨un, wn, h_uw, h_wn, e_un, e_wn⟩, hch, ⟨n, h_n, e_n⟩, htx, ⟨b, h_b, e_b⟩, hkd, ⟨ra, h_ra, e_ra⟩, hsl, ⟨ic, h_ic, e_ic⟩, hS⟩ := hI
  refine xr_iload_n dX10_mistake_0 1 rfl ?_
  refine xr_i2l dX10_mistake_1 ?_
  refine xr_lconst (v := 0) dX10_mistake_2 rfl ?_
  refine xr_ldc2 coX10_276 dX10_mistake_3 ?_
  refine xb_cS (As := [.long ((m).toInt64), .long (0), .long (40)]) (rest := []) mlX10_101 (c_within32 (m) (0) (40) (by decide) (by decide)) dX10_mistake_6 rfl rfl (Nat.le_of_ble_eq_true rfl) (by decide) (by decide) ?_
  refine xb_beq (tgt := 22) dX10_mistake_9 rfl (fun c1 => ?_) (fun c1 => ?_)
  · refine xr_iconst (v := -1) dX10_mistake_22 rfl ?_
    exact xr_iret dX10_mistake_23 rfl rfl (⟨_, rfl, rfl, rfl, Ke.rf, ⟨⟨hn, by omega, e_hn, (fun kw hkw => by rw [show M 63 (5 + kw) = M 63 (5 + kw) from rfl]; exact hw kw hkw)⟩, (by rw [show M 63 16 = M 63 16 from rfl]; exact hbt), ⟨un, wn, by omega, by omega, e_un, e_wn⟩, (fun kk hkk => by rw [show M 64 kk = M 64 kk from rfl, show M 65 kk = M 65 kk from rfl, show M 66 kk = M 66 kk from rfl]; exact hch kk hkk), ⟨n, by omega, e_n⟩, (by rw [show M 62 13 = M 62 13 from rfl]; exact htx), ⟨b, by omega, e_b⟩, (fun j hj => by obtain ⟨q, hq, eq⟩ := hkd j hj; exact ⟨q, hq, (show M 81 j = M 81 j from rfl).trans eq⟩), ⟨ra, by omega, e_ra⟩, (fun j hj => by rw [show M 83 j = M 83 j from rfl, show M 84 j = M 84 j from rfl]; exact hsl j hj), ⟨ic, by omega, e_ic⟩, (fun j hj => by obtain ⟨q, hq, eq⟩ := hS j hj; exact ⟨q, hq, (show M 75 j = M 75 j from rfl).trans eq⟩)⟩⟩)
  · refine xr_iload_n dX10_mistake_12 2 rfl ?_
    refine xr_i2l dX10_mistake_13 ?_
    refine xr_lconst (v := 0) dX10_mistake_14 rfl ?_
    refine xr_lconst (v := 1) dX10_mistake_15 rfl ?_
    refine xb_cS (As := [.long ((w).toInt64), .long (0), .long (1)]) (rest := []) mlX10_101 (c_within32 (w) (0) (1) (by decide) (by decide)) dX10_mistake_16 rfl rfl (Nat.le_of_ble_eq_true rfl) (by decide) (by decide) ?_
    refine xb_bne (tgt := 24) dX10_mistake_19 rfl (fun c2 => ?_) (fun c2 => ?_)
    · refine xr_aload_n dX10_mistake_24 0 rfl ?_
      refine xr_iload_n dX10_mistake_25 1 rfl ?_
      refine xr_callV (As := [.int (m)]) (rest := []) mlX10_278 (g_X10_mistaken m h_hn e_hn (fun kw hkw => by rw [show M 63 (5 + kw) = M 63 (5 + kw) from rfl]; exact hw kw hkw) (by rw [show M 63 16 = M 63 16 from rfl]; exact hbt) (by rw [show M 62 13 = M 62 13 from rfl]; exact htx)) dX10_mistake_26 s_62 rfl rfl (Nat.le_of_ble_eq_true rfl) (by decide) ⟨by decide, by decide⟩ (fun v s2 M3 J2 hq => ?_)
      obtain ⟨r5, rfl, rfl, rfl, k4, _⟩ := hq
      try dsimp only [Option.toList, List.cons_append, List.nil_append]
      refine xr_istore_n (ls2 := [(3, .int (r5)), (0, .ref (62)), (1, .int (m)), (2, .int (w))]) dX10_mistake_29 (by decide) rfl ?_
      refine xr_iload_n dX10_mistake_30 3 rfl ?_
      refine xr_if_ne (tgt := 38) dX10_mistake_31 rfl (fun c6 => ?_) (fun c6 => ?_)
      · refine xr_aload_n dX10_mistake_38 1 rfl ?_
        refine xb_get (v := M3 62 26) flX10_273 dX10_mistake_39 s_62 rfl rfl ?_
        exact xr_iret dX10_mistake_42 rfl rfl (⟨_, rfl, rfl, rfl, (Ke.tr (fun _ _ h => h) Ke.rf k4), ⟨⟨hn, by omega, (Eq.trans (k4 62 6 (by decide)) e_hn), (fun kw hkw => by rw [show M3 63 (5 + kw) = M 63 (5 + kw) from (Eq.trans (k4 63 (5 + kw) (by unfold WR1; omega)) rfl)]; exact hw kw hkw)⟩, (by rw [show M3 63 16 = M 63 16 from (Eq.trans (k4 63 16 (by unfold WR1; omega)) rfl)]; exact hbt), ⟨un, wn, by omega, by omega, (Eq.trans (k4 62 5 (by decide)) e_un), (Eq.trans (k4 62 4 (by decide)) e_wn)⟩, (fun kk hkk => by rw [show M3 64 kk = M 64 kk from (Eq.trans (k4 64 kk (by unfold WR1; omega)) rfl), show M3 65 kk = M 65 kk from (Eq.trans (k4 65 kk (by unfold WR1; omega)) rfl), show M3 66 kk = M 66 kk from (Eq.trans (k4 66 kk (by unfold WR1; omega)) rfl)]; exact hch kk hkk), ⟨n, by omega, (Eq.trans (k4 62 11 (by decide)) e_n)⟩, (by rw [show M3 62 13 = M 62 13 from (Eq.trans (k4 62 13 (by unfold WR1; omega)) rfl)]; exact htx), ⟨b, by omega, (Eq.trans (k4 62 36 (by decide)) e_b)⟩, (fun j hj => by obtain ⟨q, hq, eq⟩ := hkd j hj; exact ⟨q, hq, (show M3 81 j = M 81 j from (Eq.trans (k4 81 j (by unfold WR1; omega)) rfl)).trans eq⟩), ⟨ra, by omega, (Eq.trans (k4 62 39 (by decide)) e_ra)⟩, (fun j hj => by rw [show M3 83 j = M 83 j from (Eq.trans (k4 83 j (by unfold WR1; omega)) rfl), show M3 84 j = M 84 j from (Eq.trans (k4 84 j (by unfold WR1; omega)) rfl)]; exact hsl j hj), ⟨ic, by omega, (Eq.trans (k4 62 34 (by decide)) e_ic)⟩, (fun j hj => by obtain ⟨q, hq, eq⟩ := hS j hj; exact ⟨q, hq, (show M3 75 j = M 75 j from (Eq.trans (k4 75 j (by unfold WR1; omega)) rfl)).trans eq⟩)⟩⟩)
      · refine xr_iload_n dX10_mistake_34 0 rfl ?_
        refine xr_goto (tgt := 42) dX10_mistake_35 rfl ?_
        exact xr_iret dX10_mistake_42 rfl rfl (⟨_, rfl, rfl, rfl, (Ke.tr (fun _ _ h => h) Ke.rf k4), ⟨⟨hn, by omega, (Eq.trans (k4 62 6 (by decide)) e_hn), (fun kw hkw => by rw [show M3 63 (5 + kw) = M 63 (5 + kw) from (Eq.trans (k4 63 (5 + kw) (by unfold WR1; omega)) rfl)]; exact hw kw hkw)⟩, (by rw [show M3 63 16 = M 63 16 from (Eq.trans (k4 63 16 (by unfold WR1; omega)) rfl)]; exact hbt), ⟨un, wn, by omega, by omega, (Eq.trans (k4 62 5 (by decide)) e_un), (Eq.trans (k4 62 4 (by decide)) e_wn)⟩, (fun kk hkk => by rw [show M3 64 kk = M 64 kk from (Eq.trans (k4 64 kk (by unfold WR1; omega)) rfl), show M3 65 kk = M 65 kk from (Eq.trans (k4 65 kk (by unfold WR1; omega)) rfl), show M3 66 kk = M 66 kk from (Eq.trans (k4 66 kk (by unfold WR1; omega)) rfl)]; exact hch kk hkk), ⟨n, by omega, (Eq.trans (k4 62 11 (by decide)) e_n)⟩, (by rw [show M3 62 13 = M 62 13 from (Eq.trans (k4 62 13 (by unfold WR1; omega)) rfl)]; exact htx), ⟨b, by omega, (Eq.trans (k4 62 36 (by decide)) e_b)⟩, (fun j hj => by obtain ⟨q, hq, eq⟩ := hkd j hj; exact ⟨q, hq, (show M3 81 j = M 81 j from (Eq.trans (k4 81 j (by unfold WR1; omega)) rfl)).trans eq⟩), ⟨ra, by omega, (Eq.trans (k4 62 39 (by decide)) e_ra)⟩, (fun j hj => by rw [show M3 83 j = M 83 j from (Eq.trans (k4 83 j (by unfold WR1; omega)) rfl), show M3 84 j = M 84 j from (Eq.trans (k4 84 j (by unfold WR1; omega)) rfl)]; exact hsl j hj), ⟨ic, by omega, (Eq.trans (k4 62 34 (by decide)) e_ic)⟩, (fun j hj => by obtain ⟨q, hq, eq⟩ := hS j hj; exact ⟨q, hq, (show M3 75 j = M 75 j from (Eq.trans (k4 75 j (by unfold WR1; omega)) rfl)).trans eq⟩)⟩⟩)
    · refine xr_iconst (v := -1) dX10_mistake_22 rfl ?_
      exact xr_iret dX10_mistake_23 rfl rfl (⟨_, rfl, rfl, rfl, Ke.rf, ⟨⟨hn, by omega, e_hn, (fun kw hkw => by rw [show M 63 (5 + kw) = M 63 (5 + kw) from rfl]; exact hw kw hkw)⟩, (by rw [show M 63 16 = M 63 16 from rfl]; exact hbt), ⟨un, wn, by omega, by omega, e_un, e_wn⟩, (fun kk hkk => by rw [show M 64 kk = M 64 kk from rfl, show M 65 kk = M 65 kk from rfl, show M 66 kk = M 66 kk from rfl]; exact hch kk hkk), ⟨n, by omega, e_n⟩, (by rw [show M 62 13 = M 62 13 from rfl]; exact htx), ⟨b, by omega, e_b⟩, (fun j hj => by obtain ⟨q, hq, eq⟩ := hkd j hj; exact ⟨q, hq, (show M 81 j = M 81 j from rfl).trans eq⟩), ⟨ra, by omega, e_ra⟩, (fun j hj => by rw [show M 83 j = M 83 j from rfl, show M 84 j = M 84 j from rfl]; exact hsl j hj), ⟨ic, by omega, e_ic⟩, (fun j hj => by obtain ⟨q, hq, eq⟩ := hS j hj; exact ⟨q, hq, (show M 75 j = M 75 j from rfl).trans eq⟩)⟩⟩)
set_option maxRecDepth 100000 in
set_option maxHeartbeats 4000000 in
theorem g_X10_rescue (h fp : Int32) {l : Launch} {G : xG} {M : xM} {J : xJ} (hI : InvR M) : x_M l G fX10_rescue 63 0 0 [.ref (62), .int (h), .int (fp)] x_SH M J (qKI WR1 M J (fun r M2 => InvR M2)) := by
  refine xb_of pX10 (Nat.le_of_ble_eq_true rfl) rfl ?_
  obtain ⟨⟨hn, h_hn, e_hn, hw⟩, hbt, ⟨un, wn, h_uw, h_wn, e_un, e_wn⟩, hch, ⟨n, h_n, e_n⟩, htx, ⟨b, h_b, e_b⟩, hkd, ⟨ra, h_ra, e_ra⟩, hsl, ⟨ic, h_ic, e_ic⟩, hS⟩ := hI
  refine xr_aload_n dX10_rescue_0 0 rfl ?_
  refine xr_iload_n dX10_rescue_1 1 rfl ?_
  refine xb_cV (As := [.int (h)]) (rest := []) mlX10_133 (c_X10_isHoop h (by omega) e_hn) dX10_rescue_2 s_62 rfl rfl (Nat.le_of_ble_eq_true rfl) (by decide) (by decide) ?_
  refine xb_beq (tgt := 36) dX10_rescue_5 rfl (fun c1 => ?_) (fun c1 => ?_)
  · refine xr_iconst (v := -1) dX10_rescue_36 rfl ?_
    exact xr_iret dX10_rescue_37 rfl rfl (⟨_, rfl, rfl, rfl, Ke.rf, ⟨⟨hn, by omega, e_hn, (fun kw hkw => by rw [show M 63 (5 + kw) = M 63 (5 + kw) from rfl]; exact hw kw hkw)⟩, (by rw [show M 63 16 = M 63 16 from rfl]; exact hbt), ⟨un, wn, by omega, by omega, e_un, e_wn⟩, (fun kk hkk => by rw [show M 64 kk = M 64 kk from rfl, show M 65 kk = M 65 kk from rfl, show M 66 kk = M 66 kk from rfl]; exact hch kk hkk), ⟨n, by omega, e_n⟩, (by rw [show M 62 13 = M 62 13 from rfl]; exact htx), ⟨b, by omega, e_b⟩, (fun j hj => by obtain ⟨q, hq, eq⟩ := hkd j hj; exact ⟨q, hq, (show M 81 j = M 81 j from rfl).trans eq⟩), ⟨ra, by omega, e_ra⟩, (fun j hj => by rw [show M 83 j = M 83 j from rfl, show M 84 j = M 84 j from rfl]; exact hsl j hj), ⟨ic, by omega, e_ic⟩, (fun j hj => by obtain ⟨q, hq, eq⟩ := hS j hj; exact ⟨q, hq, (show M 75 j = M 75 j from rfl).trans eq⟩)⟩⟩)
  · obtain ⟨h_, hh_, rfl⟩ := x_nat (N := hn) (by omega) rfl c1
    refine xr_iload_n dX10_rescue_8 2 rfl ?_
    refine xr_if_lt (tgt := 36) dX10_rescue_9 rfl (fun c2 => ?_) (fun c2 => ?_)
    · refine xr_iconst (v := -1) dX10_rescue_36 rfl ?_
      exact xr_iret dX10_rescue_37 rfl rfl (⟨_, rfl, rfl, rfl, Ke.rf, ⟨⟨hn, by omega, e_hn, (fun kw hkw => by rw [show M 63 (5 + kw) = M 63 (5 + kw) from rfl]; exact hw kw hkw)⟩, (by rw [show M 63 16 = M 63 16 from rfl]; exact hbt), ⟨un, wn, by omega, by omega, e_un, e_wn⟩, (fun kk hkk => by rw [show M 64 kk = M 64 kk from rfl, show M 65 kk = M 65 kk from rfl, show M 66 kk = M 66 kk from rfl]; exact hch kk hkk), ⟨n, by omega, e_n⟩, (by rw [show M 62 13 = M 62 13 from rfl]; exact htx), ⟨b, by omega, e_b⟩, (fun j hj => by obtain ⟨q, hq, eq⟩ := hkd j hj; exact ⟨q, hq, (show M 81 j = M 81 j from rfl).trans eq⟩), ⟨ra, by omega, e_ra⟩, (fun j hj => by rw [show M 83 j = M 83 j from rfl, show M 84 j = M 84 j from rfl]; exact hsl j hj), ⟨ic, by omega, e_ic⟩, (fun j hj => by obtain ⟨q, hq, eq⟩ := hS j hj; exact ⟨q, hq, (show M 75 j = M 75 j from rfl).trans eq⟩)⟩⟩)
    · refine xr_iload_n dX10_rescue_12 2 rfl ?_
      refine xr_bipush (v := 100) dX10_rescue_13 rfl ?_
      refine xr_idiv dX10_rescue_15 (by decide) ?_
      refine xr_i2l dX10_rescue_16 ?_
      refine xr_lconst (v := 1) dX10_rescue_17 rfl ?_
      refine xr_ldc2 coX10_129 dX10_rescue_18 ?_
      refine xb_cS (As := [.long (((fp / 100)).toInt64), .long (1), .long (5)]) (rest := []) mlX10_101 (c_within32 ((fp / 100)) (1) (5) (by decide) (by decide)) dX10_rescue_21 rfl rfl (Nat.le_of_ble_eq_true rfl) (by decide) (by decide) ?_
      refine xb_beq (tgt := 36) dX10_rescue_24 rfl (fun c3 => ?_) (fun c3 => ?_)
      · refine xr_iconst (v := -1) dX10_rescue_36 rfl ?_
        exact xr_iret dX10_rescue_37 rfl rfl (⟨_, rfl, rfl, rfl, Ke.rf, ⟨⟨hn, by omega, e_hn, (fun kw hkw => by rw [show M 63 (5 + kw) = M 63 (5 + kw) from rfl]; exact hw kw hkw)⟩, (by rw [show M 63 16 = M 63 16 from rfl]; exact hbt), ⟨un, wn, by omega, by omega, e_un, e_wn⟩, (fun kk hkk => by rw [show M 64 kk = M 64 kk from rfl, show M 65 kk = M 65 kk from rfl, show M 66 kk = M 66 kk from rfl]; exact hch kk hkk), ⟨n, by omega, e_n⟩, (by rw [show M 62 13 = M 62 13 from rfl]; exact htx), ⟨b, by omega, e_b⟩, (fun j hj => by obtain ⟨q, hq, eq⟩ := hkd j hj; exact ⟨q, hq, (show M 81 j = M 81 j from rfl).trans eq⟩), ⟨ra, by omega, e_ra⟩, (fun j hj => by rw [show M 83 j = M 83 j from rfl, show M 84 j = M 84 j from rfl]; exact hsl j hj), ⟨ic, by omega, e_ic⟩, (fun j hj => by obtain ⟨q, hq, eq⟩ := hS j hj; exact ⟨q, hq, (show M 75 j = M 75 j from rfl).trans eq⟩)⟩⟩)
      · refine xr_iload_n dX10_rescue_27 2 rfl ?_
        refine xr_bipush (v := 100) dX10_rescue_28 rfl ?_
        refine xr_irem dX10_rescue_30 (by decide) ?_
        refine xr_bipush (v := 24) dX10_rescue_31 rfl ?_
        refine xr_icmp_lt (tgt := 38) dX10_rescue_33 rfl (fun c4 => ?_) (fun c4 => ?_)
        · refine xr_aload_n dX10_rescue_38 0 rfl ?_
          refine xr_iload_n dX10_rescue_39 1 rfl ?_
          refine xr_callV (As := [.int (nI (h_))]) (rest := []) mlX10_264 (g_X10_fallOf (h := h_) (by omega) h_hn e_hn (fun kw hkw => by rw [show M 63 (5 + kw) = M 63 (5 + kw) from rfl]; exact hw kw hkw) (by rw [show M 63 16 = M 63 16 from rfl]; exact hbt) (by rw [show M 62 13 = M 62 13 from rfl]; exact htx)) dX10_rescue_40 s_62 rfl rfl (Nat.le_of_ble_eq_true rfl) (by decide) ⟨by decide, by decide⟩ (fun v s2 M5 J2 hq => ?_)
          obtain ⟨r7, rfl, rfl, rfl, k6, _⟩ := hq
          try dsimp only [Option.toList, List.cons_append, List.nil_append]
          refine xr_istore_n (ls2 := [(3, .int (r7)), (0, .ref (62)), (1, .int (nI (h_))), (2, .int (fp))]) dX10_rescue_43 (by decide) rfl ?_
          refine xr_iload_n dX10_rescue_44 0 rfl ?_
          refine xr_if_eq (tgt := 55) dX10_rescue_45 rfl (fun c8 => ?_) (fun c8 => ?_)
          · refine xr_bipush (v := -5) dX10_rescue_55 rfl ?_
            exact xr_iret dX10_rescue_57 rfl rfl (⟨_, rfl, rfl, rfl, (Ke.tr (fun _ _ h => h) Ke.rf k6), ⟨⟨hn, by omega, (Eq.trans (k6 62 6 (by decide)) e_hn), (fun kw hkw => by rw [show M5 63 (5 + kw) = M 63 (5 + kw) from (Eq.trans (k6 63 (5 + kw) (by unfold WR1; omega)) rfl)]; exact hw kw hkw)⟩, (by rw [show M5 63 16 = M 63 16 from (Eq.trans (k6 63 16 (by unfold WR1; omega)) rfl)]; exact hbt), ⟨un, wn, by omega, by omega, (Eq.trans (k6 62 5 (by decide)) e_un), (Eq.trans (k6 62 4 (by decide)) e_wn)⟩, (fun kk hkk => by rw [show M5 64 kk = M 64 kk from (Eq.trans (k6 64 kk (by unfold WR1; omega)) rfl), show M5 65 kk = M 65 kk from (Eq.trans (k6 65 kk (by unfold WR1; omega)) rfl), show M5 66 kk = M 66 kk from (Eq.trans (k6 66 kk (by unfold WR1; omega)) rfl)]; exact hch kk hkk), ⟨n, by omega, (Eq.trans (k6 62 11 (by decide)) e_n)⟩, (by rw [show M5 62 13 = M 62 13 from (Eq.trans (k6 62 13 (by unfold WR1; omega)) rfl)]; exact htx), ⟨b, by omega, (Eq.trans (k6 62 36 (by decide)) e_b)⟩, (fun j hj => by obtain ⟨q, hq, eq⟩ := hkd j hj; exact ⟨q, hq, (show M5 81 j = M 81 j from (Eq.trans (k6 81 j (by unfold WR1; omega)) rfl)).trans eq⟩), ⟨ra, by omega, (Eq.trans (k6 62 39 (by decide)) e_ra)⟩, (fun j hj => by rw [show M5 83 j = M 83 j from (Eq.trans (k6 83 j (by unfold WR1; omega)) rfl), show M5 84 j = M 84 j from (Eq.trans (k6 84 j (by unfold WR1; omega)) rfl)]; exact hsl j hj), ⟨ic, by omega, (Eq.trans (k6 62 34 (by decide)) e_ic)⟩, (fun j hj => by obtain ⟨q, hq, eq⟩ := hS j hj; exact ⟨q, hq, (show M5 75 j = M 75 j from (Eq.trans (k6 75 j (by unfold WR1; omega)) rfl)).trans eq⟩)⟩⟩)
          · refine xr_iload_n dX10_rescue_48 0 rfl ?_
            refine xr_sipush (v := 201) dX10_rescue_49 rfl ?_
            refine xr_icmp_ne (tgt := 58) dX10_rescue_52 rfl (fun c9 => ?_) (fun c9 => ?_)
            · refine xr_iconst (v := 0) dX10_rescue_58 rfl ?_
              refine xr_istore (ls2 := [(4, .int (0)), (3, .int (r7)), (0, .ref (62)), (1, .int (nI (h_))), (2, .int (fp))]) dX10_rescue_59 (by decide) rfl ?_
              refine xb_ls (ls2 := [(4, .int (nI (0))), (3, .int (r7)), (2, .int (fp)), (1, .int (nI (h_))), (0, .ref (62))]) [0, 1, 4, 3, 2] rfl ?_
              refine rr_l (by omega) h_hn (Eq.trans (k6 62 6 (by decide)) e_hn) (fun kw hkw => by rw [show M5 63 (5 + kw) = M 63 (5 + kw) from (Eq.trans (k6 63 (5 + kw) (by unfold WR1; omega)) rfl)]; exact hw kw hkw) (by rw [show M5 63 16 = M 63 16 from (Eq.trans (k6 63 16 (by unfold WR1; omega)) rfl)]; exact hbt) (by rw [show M5 62 13 = M 62 13 from (Eq.trans (k6 62 13 (by unfold WR1; omega)) rfl)]; exact htx) (fun M10 k11 => ?_) (fun r M2 hk => ⟨_, rfl, rfl, rfl, Ke.tr (fun _ _ h => h) (Ke.tr (fun _ _ h => h) Ke.rf k6) hk, ⟨⟨hn, by omega, (Eq.trans (hk 62 6 (by decide)) (Eq.trans (k6 62 6 (by decide)) e_hn)), (fun kw hkw => by rw [show M2 63 (5 + kw) = M 63 (5 + kw) from (Eq.trans (hk 63 (5 + kw) (by unfold WR1; omega)) (Eq.trans (k6 63 (5 + kw) (by unfold WR1; omega)) rfl))]; exact hw kw hkw)⟩, (by rw [show M2 63 16 = M 63 16 from (Eq.trans (hk 63 16 (by unfold WR1; omega)) (Eq.trans (k6 63 16 (by unfold WR1; omega)) rfl))]; exact hbt), ⟨un, wn, by omega, by omega, (Eq.trans (hk 62 5 (by decide)) (Eq.trans (k6 62 5 (by decide)) e_un)), (Eq.trans (hk 62 4 (by decide)) (Eq.trans (k6 62 4 (by decide)) e_wn))⟩, (fun kk hkk => by rw [show M2 64 kk = M 64 kk from (Eq.trans (hk 64 kk (by unfold WR1; omega)) (Eq.trans (k6 64 kk (by unfold WR1; omega)) rfl)), show M2 65 kk = M 65 kk from (Eq.trans (hk 65 kk (by unfold WR1; omega)) (Eq.trans (k6 65 kk (by unfold WR1; omega)) rfl)), show M2 66 kk = M 66 kk from (Eq.trans (hk 66 kk (by unfold WR1; omega)) (Eq.trans (k6 66 kk (by unfold WR1; omega)) rfl))]; exact hch kk hkk), ⟨n, by omega, (Eq.trans (hk 62 11 (by decide)) (Eq.trans (k6 62 11 (by decide)) e_n))⟩, (by rw [show M2 62 13 = M 62 13 from (Eq.trans (hk 62 13 (by unfold WR1; omega)) (Eq.trans (k6 62 13 (by unfold WR1; omega)) rfl))]; exact htx), ⟨b, by omega, (Eq.trans (hk 62 36 (by decide)) (Eq.trans (k6 62 36 (by decide)) e_b))⟩, (fun j hj => by obtain ⟨q, hq, eq⟩ := hkd j hj; exact ⟨q, hq, (show M2 81 j = M 81 j from (Eq.trans (hk 81 j (by unfold WR1; omega)) (Eq.trans (k6 81 j (by unfold WR1; omega)) rfl))).trans eq⟩), ⟨ra, by omega, (Eq.trans (hk 62 39 (by decide)) (Eq.trans (k6 62 39 (by decide)) e_ra))⟩, (fun j hj => by rw [show M2 83 j = M 83 j from (Eq.trans (hk 83 j (by unfold WR1; omega)) (Eq.trans (k6 83 j (by unfold WR1; omega)) rfl)), show M2 84 j = M 84 j from (Eq.trans (hk 84 j (by unfold WR1; omega)) (Eq.trans (k6 84 j (by unfold WR1; omega)) rfl))]; exact hsl j hj), ⟨ic, by omega, (Eq.trans (hk 62 34 (by decide)) (Eq.trans (k6 62 34 (by decide)) e_ic))⟩, (fun j hj => by obtain ⟨q, hq, eq⟩ := hS j hj; exact ⟨q, hq, (show M2 75 j = M 75 j from (Eq.trans (hk 75 j (by unfold WR1; omega)) (Eq.trans (k6 75 j (by unfold WR1; omega)) rfl))).trans eq⟩)⟩⟩) (100 - 0) 0 M5 (by omega) Ke.rf
              refine xr_bipush (v := -2) dX10_rescue_96 rfl ?_
              exact xr_iret dX10_rescue_98 rfl rfl (⟨_, rfl, rfl, rfl, (Ke.tr (fun _ _ h => h) (Ke.tr (fun _ _ h => h) Ke.rf k6) k11), ⟨⟨hn, by omega, (Eq.trans (k11 62 6 (by decide)) (Eq.trans (k6 62 6 (by decide)) e_hn)), (fun kw hkw => by rw [show M10 63 (5 + kw) = M 63 (5 + kw) from (Eq.trans (k11 63 (5 + kw) (by unfold WR1; omega)) (Eq.trans (k6 63 (5 + kw) (by unfold WR1; omega)) rfl))]; exact hw kw hkw)⟩, (by rw [show M10 63 16 = M 63 16 from (Eq.trans (k11 63 16 (by unfold WR1; omega)) (Eq.trans (k6 63 16 (by unfold WR1; omega)) rfl))]; exact hbt), ⟨un, wn, by omega, by omega, (Eq.trans (k11 62 5 (by decide)) (Eq.trans (k6 62 5 (by decide)) e_un)), (Eq.trans (k11 62 4 (by decide)) (Eq.trans (k6 62 4 (by decide)) e_wn))⟩, (fun kk hkk => by rw [show M10 64 kk = M 64 kk from (Eq.trans (k11 64 kk (by unfold WR1; omega)) (Eq.trans (k6 64 kk (by unfold WR1; omega)) rfl)), show M10 65 kk = M 65 kk from (Eq.trans (k11 65 kk (by unfold WR1; omega)) (Eq.trans (k6 65 kk (by unfold WR1; omega)) rfl)), show M10 66 kk = M 66 kk from (Eq.trans (k11 66 kk (by unfold WR1; omega)) (Eq.trans (k6 66 kk (by unfold WR1; omega)) rfl))]; exact hch kk hkk), ⟨n, by omega, (Eq.trans (k11 62 11 (by decide)) (Eq.trans (k6 62 11 (by decide)) e_n))⟩, (by rw [show M10 62 13 = M 62 13 from (Eq.trans (k11 62 13 (by unfold WR1; omega)) (Eq.trans (k6 62 13 (by unfold WR1; omega)) rfl))]; exact htx), ⟨b, by omega, (Eq.trans (k11 62 36 (by decide)) (Eq.trans (k6 62 36 (by decide)) e_b))⟩, (fun j hj => by obtain ⟨q, hq, eq⟩ := hkd j hj; exact ⟨q, hq, (show M10 81 j = M 81 j from (Eq.trans (k11 81 j (by unfold WR1; omega)) (Eq.trans (k6 81 j (by unfold WR1; omega)) rfl))).trans eq⟩), ⟨ra, by omega, (Eq.trans (k11 62 39 (by decide)) (Eq.trans (k6 62 39 (by decide)) e_ra))⟩, (fun j hj => by rw [show M10 83 j = M 83 j from (Eq.trans (k11 83 j (by unfold WR1; omega)) (Eq.trans (k6 83 j (by unfold WR1; omega)) rfl)), show M10 84 j = M 84 j from (Eq.trans (k11 84 j (by unfold WR1; omega)) (Eq.trans (k6 84 j (by unfold WR1; omega)) rfl))]; exact hsl j hj), ⟨ic, by omega, (Eq.trans (k11 62 34 (by decide)) (Eq.trans (k6 62 34 (by decide)) e_ic))⟩, (fun j hj => by obtain ⟨q, hq, eq⟩ := hS j hj; exact ⟨q, hq, (show M10 75 j = M 75 j from (Eq.trans (k11 75 j (by unfold WR1; omega)) (Eq.trans (k6 75 j (by unfold WR1; omega)) rfl))).trans eq⟩)⟩⟩)
            · refine xr_bipush (v := -5) dX10_rescue_55 rfl ?_
              exact xr_iret dX10_rescue_57 rfl rfl (⟨_, rfl, rfl, rfl, (Ke.tr (fun _ _ h => h) Ke.rf k6), ⟨⟨hn, by omega, (Eq.trans (k6 62 6 (by decide)) e_hn), (fun kw hkw => by rw [show M5 63 (5 + kw) = M 63 (5 + kw) from (Eq.trans (k6 63 (5 + kw) (by unfold WR1; omega)) rfl)]; exact hw kw hkw)⟩, (by rw [show M5 63 16 = M 63 16 from (Eq.trans (k6 63 16 (by unfold WR1; omega)) rfl)]; exact hbt), ⟨un, wn, by omega, by omega, (Eq.trans (k6 62 5 (by decide)) e_un), (Eq.trans (k6 62 4 (by decide)) e_wn)⟩, (fun kk hkk => by rw [show M5 64 kk = M 64 kk from (Eq.trans (k6 64 kk (by unfold WR1; omega)) rfl), show M5 65 kk = M 65 kk from (Eq.trans (k6 65 kk (by unfold WR1; omega)) rfl), show M5 66 kk = M 66 kk from (Eq.trans (k6 66 kk (by unfold WR1; omega)) rfl)]; exact hch kk hkk), ⟨n, by omega, (Eq.trans (k6 62 11 (by decide)) e_n)⟩, (by rw [show M5 62 13 = M 62 13 from (Eq.trans (k6 62 13 (by unfold WR1; omega)) rfl)]; exact htx), ⟨b, by omega, (Eq.trans (k6 62 36 (by decide)) e_b)⟩, (fun j hj => by obtain ⟨q, hq, eq⟩ := hkd j hj; exact ⟨q, hq, (show M5 81 j = M 81 j from (Eq.trans (k6 81 j (by unfold WR1; omega)) rfl)).trans eq⟩), ⟨ra, by omega, (Eq.trans (k6 62 39 (by decide)) e_ra)⟩, (fun j hj => by rw [show M5 83 j = M 83 j from (Eq.trans (k6 83 j (by unfold WR1; omega)) rfl), show M5 84 j = M 84 j from (Eq.trans (k6 84 j (by unfold WR1; omega)) rfl)]; exact hsl j hj), ⟨ic, by omega, (Eq.trans (k6 62 34 (by decide)) e_ic)⟩, (fun j hj => by obtain ⟨q, hq, eq⟩ := hS j hj; exact ⟨q, hq, (show M5 75 j = M 75 j from (Eq.trans (k6 75 j (by unfold WR1; omega)) rfl)).trans eq⟩)⟩⟩)
        · refine xr_iconst (v := -1) dX10_rescue_36 rfl ?_
          exact xr_iret dX10_rescue_37 rfl rfl (⟨_, rfl, rfl, rfl, Ke.rf, ⟨⟨hn, by omega, e_hn, (fun kw hkw => by rw [show M 63 (5 + kw) = M 63 (5 + kw) from rfl]; exact hw kw hkw)⟩, (by rw [show M 63 16 = M 63 16 from rfl]; exact hbt), ⟨un, wn, by omega, by omega, e_un, e_wn⟩, (fun kk hkk => by rw [show M 64 kk = M 64 kk from rfl, show M 65 kk = M 65 kk from rfl, show M 66 kk = M 66 kk from rfl]; exact hch kk hkk), ⟨n, by omega, e_n⟩, (by rw [show M 62 13 = M 62 13 from rfl]; exact htx), ⟨b, by omega, e_b⟩, (fun j hj => by obtain ⟨q, hq, eq⟩ := hkd j hj; exact ⟨q, hq, (show M 81 j = M 81 j from rfl).trans eq⟩), ⟨ra, by omega, e_ra⟩, (fun j hj => by rw [show M 83 j = M 83 j from rfl, show M 84 j = M 84 j from rfl]; exact hsl j hj), ⟨ic, by omega, e_ic⟩, (fun j hj => by obtain ⟨q, hq, eq⟩ := hS j hj; exact ⟨q, hq, (show M 75 j = M 75 j from rfl).trans eq⟩)⟩⟩)
set_option maxRecDepth 100000 in
set_option maxHeartbeats 4000000 in
theorem g_X10_held (nn : Int32) {l : Launch} {G : xG} {M : xM} {J : xJ} (hI : InvR M) : x_M l G fX10_held 63 0 0 [.ref (62), .int (nn)] x_SH M J (qKI WR1 M J (fun r M2 => InvR M2)) := by
  refine xb_of pX10 (Nat.le_of_ble_eq_true rfl) rfl ?_
  obtain ⟨⟨hn, h_hn, e_hn, hw⟩, hbt, ⟨un, wn, h_uw, h_wn, e_un, e_wn⟩, hch, ⟨n, h_n, e_n⟩, htx, ⟨b, h_b, e_b⟩, hkd, ⟨ra, h_ra, e_ra⟩, hsl, ⟨ic, h_ic, e_ic⟩, hS⟩ := hI
  refine xr_iload_n dX10_held_0 1 rfl ?_
  refine xr_i2l dX10_held_1 ?_
  refine xr_lconst (v := 1) dX10_held_2 rfl ?_
  refine xr_ldc2 coX10_244 dX10_held_3 ?_
  refine xb_cS (As := [.long ((nn).toInt64), .long (1), .long (200)]) (rest := []) mlX10_101 (c_within32 (nn) (1) (200) (by decide) (by decide)) dX10_held_6 rfl rfl (Nat.le_of_ble_eq_true rfl) (by decide) (by decide) ?_
  refine xb_bne (tgt := 14) dX10_held_9 rfl (fun c1 => ?_) (fun c1 => ?_)
  · refine xr_aload_n dX10_held_14 0 rfl ?_
    refine xr_callV (As := []) (rest := []) mlX10_246 (g_X10_upNow h_hn e_hn (fun kw hkw => by rw [show M 63 (5 + kw) = M 63 (5 + kw) from rfl]; exact hw kw hkw) (by rw [show M 63 16 = M 63 16 from rfl]; exact hbt) (by rw [show M 62 13 = M 62 13 from rfl]; exact htx)) dX10_held_15 s_62 rfl rfl (Nat.le_of_ble_eq_true rfl) (by decide) ⟨by decide, by decide⟩ (fun v s2 M9 J2 hq => ?_)
    obtain ⟨r2, rfl, rfl, rfl, rfl, _⟩ := hq
    try dsimp only [Option.toList, List.cons_append, List.nil_append]
    refine xr_istore_n (ls2 := [(2, .int (r2)), (0, .ref (62)), (1, .int (nn))]) dX10_held_18 (by decide) rfl ?_
    refine xr_iconst (v := 0) dX10_held_19 rfl ?_
    refine xr_istore_n (ls2 := [(3, .int (0)), (2, .int (r2)), (0, .ref (62)), (1, .int (nn))]) dX10_held_20 (by decide) rfl ?_
    refine xr_iconst (v := 1) dX10_held_21 rfl ?_
    refine xr_istore (ls2 := [(4, .int (1)), (3, .int (0)), (2, .int (r2)), (0, .ref (62)), (1, .int (nn))]) dX10_held_22 (by decide) rfl ?_
    refine xb_ls (ls2 := [(4, .int (nI (1))), (3, .int (0)), (2, .int (r2)), (1, .int (nn)), (0, .ref (62))]) [0, 1, 2, 4, 3] rfl ?_
    obtain ⟨P, hP⟩ : ∃ P : Nat, P = 2 ^ hn := ⟨_, rfl⟩
    have hP2 := sx_p2 h_hn hP
    refine rhd_l h_hn e_hn (fun kw hkw => by rw [show M 63 (5 + kw) = M 63 (5 + kw) from rfl]; exact hw kw hkw) (by rw [show M 63 16 = M 63 16 from rfl]; exact hbt) (by rw [show M 62 13 = M 62 13 from rfl]; exact htx) hP hP2.1 (fun r M2 hk => ⟨_, rfl, rfl, rfl, hk, ?_⟩) (P - 1) 1 _ M (by omega) Ke.rf
    exact ⟨⟨hn, by omega, (Eq.trans (hk 62 6 (by decide)) e_hn), (fun kw hkw => by rw [show M2 63 (5 + kw) = M 63 (5 + kw) from (Eq.trans (hk 63 (5 + kw) (by unfold WR1; omega)) rfl)]; exact hw kw hkw)⟩, (by rw [show M2 63 16 = M 63 16 from (Eq.trans (hk 63 16 (by unfold WR1; omega)) rfl)]; exact hbt), ⟨un, wn, by omega, by omega, (Eq.trans (hk 62 5 (by decide)) e_un), (Eq.trans (hk 62 4 (by decide)) e_wn)⟩, (fun kk hkk => by rw [show M2 64 kk = M 64 kk from (Eq.trans (hk 64 kk (by unfold WR1; omega)) rfl), show M2 65 kk = M 65 kk from (Eq.trans (hk 65 kk (by unfold WR1; omega)) rfl), show M2 66 kk = M 66 kk from (Eq.trans (hk 66 kk (by unfold WR1; omega)) rfl)]; exact hch kk hkk), ⟨n, by omega, (Eq.trans (hk 62 11 (by decide)) e_n)⟩, (by rw [show M2 62 13 = M 62 13 from (Eq.trans (hk 62 13 (by unfold WR1; omega)) rfl)]; exact htx), ⟨b, by omega, (Eq.trans (hk 62 36 (by decide)) e_b)⟩, (fun j hj => by obtain ⟨q, hq, eq⟩ := hkd j hj; exact ⟨q, hq, (show M2 81 j = M 81 j from (Eq.trans (hk 81 j (by unfold WR1; omega)) rfl)).trans eq⟩), ⟨ra, by omega, (Eq.trans (hk 62 39 (by decide)) e_ra)⟩, (fun j hj => by rw [show M2 83 j = M 83 j from (Eq.trans (hk 83 j (by unfold WR1; omega)) rfl), show M2 84 j = M 84 j from (Eq.trans (hk 84 j (by unfold WR1; omega)) rfl)]; exact hsl j hj), ⟨ic, by omega, (Eq.trans (hk 62 34 (by decide)) e_ic)⟩, (fun j hj => by obtain ⟨q, hq, eq⟩ := hS j hj; exact ⟨q, hq, (show M2 75 j = M 75 j from (Eq.trans (hk 75 j (by unfold WR1; omega)) rfl)).trans eq⟩)⟩
  · refine xr_iconst (v := -1) dX10_held_12 rfl ?_
    exact xr_iret dX10_held_13 rfl rfl (⟨_, rfl, rfl, rfl, Ke.rf, ⟨⟨hn, by omega, e_hn, (fun kw hkw => by rw [show M 63 (5 + kw) = M 63 (5 + kw) from rfl]; exact hw kw hkw)⟩, (by rw [show M 63 16 = M 63 16 from rfl]; exact hbt), ⟨un, wn, by omega, by omega, e_un, e_wn⟩, (fun kk hkk => by rw [show M 64 kk = M 64 kk from rfl, show M 65 kk = M 65 kk from rfl, show M 66 kk = M 66 kk from rfl]; exact hch kk hkk), ⟨n, by omega, e_n⟩, (by rw [show M 62 13 = M 62 13 from rfl]; exact htx), ⟨b, by omega, e_b⟩, (fun j hj => by obtain ⟨q, hq, eq⟩ := hkd j hj; exact ⟨q, hq, (show M 81 j = M 81 j from rfl).trans eq⟩), ⟨ra, by omega, e_ra⟩, (fun j hj => by rw [show M 83 j = M 83 j from rfl, show M 84 j = M 84 j from rfl]; exact hsl j hj), ⟨ic, by omega, e_ic⟩, (fun j hj => by obtain ⟨q, hq, eq⟩ := hS j hj; exact ⟨q, hq, (show M 75 j = M 75 j from rfl).trans eq⟩)⟩⟩)
