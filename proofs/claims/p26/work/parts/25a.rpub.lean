theorem dX10_hoop_0 : decode cX10_hoop 0 = .ok (.iload_n 1, 1) := by decide +kernel
theorem dX10_hoop_1 : decode cX10_hoop 1 = .ok (.ifCond .lt 22, 3) := by decide +kernel
theorem dX10_hoop_23 : decode cX10_hoop 23 = .ok (.iconst (-1), 1) := by decide +kernel
theorem dX10_hoop_24 : decode cX10_hoop 24 = .ok (.ireturn, 1) := by decide +kernel
theorem dX10_hoop_4 : decode cX10_hoop 4 = .ok (.iload_n 1, 1) := by decide +kernel
theorem dX10_hoop_5 : decode cX10_hoop 5 = .ok (.bipush 10, 2) := by decide +kernel
theorem dX10_hoop_7 : decode cX10_hoop 7 = .ok (.idiv, 1) := by decide +kernel
theorem dX10_hoop_8 : decode cX10_hoop 8 = .ok (.i2l, 1) := by decide +kernel
theorem dX10_hoop_9 : decode cX10_hoop 9 = .ok (.iload_n 1, 1) := by decide +kernel
theorem dX10_hoop_10 : decode cX10_hoop 10 = .ok (.bipush 10, 2) := by decide +kernel
theorem dX10_hoop_12 : decode cX10_hoop 12 = .ok (.irem, 1) := by decide +kernel
theorem dX10_hoop_13 : decode cX10_hoop 13 = .ok (.i2l, 1) := by decide +kernel
theorem dX10_hoop_14 : decode cX10_hoop 14 = .ok (.ldc2_w 116, 3) := by decide +kernel
theorem dX10_hoop_17 : decode cX10_hoop 17 = .ok (.invokestatic 118, 3) := by decide +kernel
theorem dX10_hoop_20 : decode cX10_hoop 20 = .ok (.ifCond .ne 5, 3) := by decide +kernel
theorem dX10_hoop_25 : decode cX10_hoop 25 = .ok (.aload_n 0, 1) := by decide +kernel
theorem dX10_hoop_26 : decode cX10_hoop 26 = .ok (.getfield 109, 3) := by decide +kernel
theorem dX10_hoop_29 : decode cX10_hoop 29 = .ok (.iconst 5, 1) := by decide +kernel
theorem dX10_hoop_30 : decode cX10_hoop 30 = .ok (.if_icmp .ne 6, 3) := by decide +kernel
theorem dX10_hoop_36 : decode cX10_hoop 36 = .ok (.aload_n 0, 1) := by decide +kernel
theorem dX10_hoop_37 : decode cX10_hoop 37 = .ok (.iload_n 1, 1) := by decide +kernel
theorem dX10_hoop_38 : decode cX10_hoop 38 = .ok (.bipush 10, 2) := by decide +kernel
theorem dX10_hoop_40 : decode cX10_hoop 40 = .ok (.idiv, 1) := by decide +kernel
theorem dX10_hoop_41 : decode cX10_hoop 41 = .ok (.iload_n 1, 1) := by decide +kernel
theorem dX10_hoop_42 : decode cX10_hoop 42 = .ok (.bipush 10, 2) := by decide +kernel
theorem dX10_hoop_44 : decode cX10_hoop 44 = .ok (.irem, 1) := by decide +kernel
theorem dX10_hoop_45 : decode cX10_hoop 45 = .ok (.iconst 4, 1) := by decide +kernel
theorem dX10_hoop_46 : decode cX10_hoop 46 = .ok (.invokevirtual 121, 3) := by decide +kernel
theorem dX10_hoop_49 : decode cX10_hoop 49 = .ok (.aload_n 0, 1) := by decide +kernel
theorem dX10_hoop_50 : decode cX10_hoop 50 = .ok (.getfield 109, 3) := by decide +kernel
theorem dX10_hoop_53 : decode cX10_hoop 53 = .ok (.iconst 1, 1) := by decide +kernel
theorem dX10_hoop_54 : decode cX10_hoop 54 = .ok (.isub, 1) := by decide +kernel
theorem dX10_hoop_55 : decode cX10_hoop 55 = .ok (.ireturn, 1) := by decide +kernel
theorem dX10_hoop_33 : decode cX10_hoop 33 = .ok (.bipush (-3), 2) := by decide +kernel
theorem dX10_hoop_35 : decode cX10_hoop 35 = .ok (.ireturn, 1) := by decide +kernel
theorem dX10_feed_0 : decode cX10_feed 0 = .ok (.iload_n 1, 1) := by decide +kernel
theorem dX10_feed_1 : decode cX10_feed 1 = .ok (.i2l, 1) := by decide +kernel
theorem dX10_feed_2 : decode cX10_feed 2 = .ok (.lconst 0, 1) := by decide +kernel
theorem dX10_feed_3 : decode cX10_feed 3 = .ok (.ldc2_w 160, 3) := by decide +kernel
theorem dX10_feed_6 : decode cX10_feed 6 = .ok (.invokestatic 101, 3) := by decide +kernel
theorem dX10_feed_9 : decode cX10_feed 9 = .ok (.ifCond .ne 5, 3) := by decide +kernel
theorem dX10_feed_14 : decode cX10_feed 14 = .ok (.aload_n 0, 1) := by decide +kernel
theorem dX10_feed_15 : decode cX10_feed 15 = .ok (.getfield 162, 3) := by decide +kernel
theorem dX10_feed_18 : decode cX10_feed 18 = .ok (.bipush 120, 2) := by decide +kernel
theorem dX10_feed_20 : decode cX10_feed 20 = .ok (.if_icmp .ne 6, 3) := by decide +kernel
theorem dX10_feed_26 : decode cX10_feed 26 = .ok (.aload_n 0, 1) := by decide +kernel
theorem dX10_feed_27 : decode cX10_feed 27 = .ok (.getfield 28, 3) := by decide +kernel
theorem dX10_feed_30 : decode cX10_feed 30 = .ok (.aload_n 0, 1) := by decide +kernel
theorem dX10_feed_31 : decode cX10_feed 31 = .ok (.getfield 162, 3) := by decide +kernel
theorem dX10_feed_34 : decode cX10_feed 34 = .ok (.iload_n 1, 1) := by decide +kernel
theorem dX10_feed_35 : decode cX10_feed 35 = .ok (.iastore, 1) := by decide +kernel
theorem dX10_feed_36 : decode cX10_feed 36 = .ok (.aload_n 0, 1) := by decide +kernel
theorem dX10_feed_37 : decode cX10_feed 37 = .ok (.dup, 1) := by decide +kernel
theorem dX10_feed_38 : decode cX10_feed 38 = .ok (.getfield 162, 3) := by decide +kernel
theorem dX10_feed_41 : decode cX10_feed 41 = .ok (.iconst 1, 1) := by decide +kernel
theorem dX10_feed_42 : decode cX10_feed 42 = .ok (.iadd, 1) := by decide +kernel
theorem dX10_feed_43 : decode cX10_feed 43 = .ok (.putfield 162, 3) := by decide +kernel
theorem dX10_feed_46 : decode cX10_feed 46 = .ok (.aload_n 0, 1) := by decide +kernel
theorem dX10_feed_47 : decode cX10_feed 47 = .ok (.getfield 162, 3) := by decide +kernel
theorem dX10_feed_50 : decode cX10_feed 50 = .ok (.ireturn, 1) := by decide +kernel
theorem dX10_feed_23 : decode cX10_feed 23 = .ok (.bipush (-3), 2) := by decide +kernel
theorem dX10_feed_25 : decode cX10_feed 25 = .ok (.ireturn, 1) := by decide +kernel
theorem dX10_feed_12 : decode cX10_feed 12 = .ok (.iconst (-1), 1) := by decide +kernel
theorem dX10_feed_13 : decode cX10_feed 13 = .ok (.ireturn, 1) := by decide +kernel
theorem dX10_law_0 : decode cX10_law 0 = .ok (.aload_n 0, 1) := by decide +kernel
theorem dX10_law_1 : decode cX10_law 1 = .ok (.iconst (-1), 1) := by decide +kernel
theorem dX10_law_2 : decode cX10_law 2 = .ok (.aload_n 0, 1) := by decide +kernel
theorem dX10_law_3 : decode cX10_law 3 = .ok (.getfield 162, 3) := by decide +kernel
theorem dX10_law_6 : decode cX10_law 6 = .ok (.invokevirtual 211, 3) := by decide +kernel
theorem dX10_law_9 : decode cX10_law 9 = .ok (.istore_n 1, 1) := by decide +kernel
theorem dX10_law_10 : decode cX10_law 10 = .ok (.aload_n 0, 1) := by decide +kernel
theorem dX10_law_11 : decode cX10_law 11 = .ok (.getfield 162, 3) := by decide +kernel
theorem dX10_law_14 : decode cX10_law 14 = .ok (.istore_n 2, 1) := by decide +kernel
theorem dX10_law_15 : decode cX10_law 15 = .ok (.aload_n 0, 1) := by decide +kernel
theorem dX10_law_16 : decode cX10_law 16 = .ok (.iconst 0, 1) := by decide +kernel
theorem dX10_law_17 : decode cX10_law 17 = .ok (.putfield 162, 3) := by decide +kernel
theorem dX10_law_20 : decode cX10_law 20 = .ok (.aload_n 0, 1) := by decide +kernel
theorem dX10_law_21 : decode cX10_law 21 = .ok (.getfield 174, 3) := by decide +kernel
theorem dX10_law_24 : decode cX10_law 24 = .ok (.ifCond .lt 11, 3) := by decide +kernel
theorem dX10_law_35 : decode cX10_law 35 = .ok (.iconst 0, 1) := by decide +kernel
theorem dX10_law_36 : decode cX10_law 36 = .ok (.istore_n 3, 1) := by decide +kernel
theorem dX10_law_60 : decode cX10_law 60 = .ok (.aload_n 0, 1) := by decide +kernel
theorem dX10_law_61 : decode cX10_law 61 = .ok (.iload_n 2, 1) := by decide +kernel
theorem dX10_law_62 : decode cX10_law 62 = .ok (.putfield 88, 3) := by decide +kernel
theorem dX10_law_65 : decode cX10_law 65 = .ok (.iconst 1, 1) := by decide +kernel
theorem dX10_law_66 : decode cX10_law 66 = .ok (.ireturn, 1) := by decide +kernel
theorem dX10_law_27 : decode cX10_law 27 = .ok (.bipush (-100), 2) := by decide +kernel
theorem dX10_law_29 : decode cX10_law 29 = .ok (.aload_n 0, 1) := by decide +kernel
theorem dX10_law_30 : decode cX10_law 30 = .ok (.getfield 174, 3) := by decide +kernel
theorem dX10_law_33 : decode cX10_law 33 = .ok (.isub, 1) := by decide +kernel
theorem dX10_law_34 : decode cX10_law 34 = .ok (.ireturn, 1) := by decide +kernel
theorem dX10_led_0 : decode cX10_led 0 = .ok (.iload_n 1, 1) := by decide +kernel
theorem dX10_led_1 : decode cX10_led 1 = .ok (.ifCond .ne 10, 3) := by decide +kernel
theorem dX10_led_11 : decode cX10_led 11 = .ok (.iload_n 1, 1) := by decide +kernel
theorem dX10_led_12 : decode cX10_led 12 = .ok (.iconst 1, 1) := by decide +kernel
theorem dX10_led_13 : decode cX10_led 13 = .ok (.if_icmp .ne 10, 3) := by decide +kernel
theorem dX10_led_23 : decode cX10_led 23 = .ok (.iconst (-1), 1) := by decide +kernel
theorem dX10_led_24 : decode cX10_led 24 = .ok (.ireturn, 1) := by decide +kernel
theorem dX10_led_16 : decode cX10_led 16 = .ok (.aload_n 0, 1) := by decide +kernel
theorem dX10_led_17 : decode cX10_led 17 = .ok (.getfield 46, 3) := by decide +kernel
theorem dX10_led_20 : decode cX10_led 20 = .ok (.goto 4, 3) := by decide +kernel
theorem dX10_led_4 : decode cX10_led 4 = .ok (.aload_n 0, 1) := by decide +kernel
theorem dX10_led_5 : decode cX10_led 5 = .ok (.getfield 258, 3) := by decide +kernel
theorem dX10_led_8 : decode cX10_led 8 = .ok (.goto 16, 3) := by decide +kernel
theorem dX10_lift_0 : decode cX10_lift 0 = .ok (.aload_n 0, 1) := by decide +kernel
theorem dX10_lift_1 : decode cX10_lift 1 = .ok (.iload_n 1, 1) := by decide +kernel
theorem dX10_lift_2 : decode cX10_lift 2 = .ok (.invokevirtual 133, 3) := by decide +kernel
theorem dX10_lift_5 : decode cX10_lift 5 = .ok (.ifCond .ne 5, 3) := by decide +kernel
theorem dX10_lift_10 : decode cX10_lift 10 = .ok (.aload_n 0, 1) := by decide +kernel
theorem dX10_lift_11 : decode cX10_lift 11 = .ok (.getfield 25, 3) := by decide +kernel
theorem dX10_lift_14 : decode cX10_lift 14 = .ok (.iload_n 1, 1) := by decide +kernel
theorem dX10_lift_15 : decode cX10_lift 15 = .ok (.iaload, 1) := by decide +kernel
theorem dX10_lift_16 : decode cX10_lift 16 = .ok (.ifCond .le 6, 3) := by decide +kernel
theorem dX10_lift_22 : decode cX10_lift 22 = .ok (.aload_n 0, 1) := by decide +kernel
theorem dX10_lift_23 : decode cX10_lift 23 = .ok (.getfield 25, 3) := by decide +kernel
theorem dX10_lift_26 : decode cX10_lift 26 = .ok (.iload_n 1, 1) := by decide +kernel
theorem dX10_lift_27 : decode cX10_lift 27 = .ok (.bipush 20, 2) := by decide +kernel
theorem dX10_lift_29 : decode cX10_lift 29 = .ok (.iastore, 1) := by decide +kernel
theorem dX10_lift_30 : decode cX10_lift 30 = .ok (.aload_n 0, 1) := by decide +kernel
theorem dX10_lift_31 : decode cX10_lift 31 = .ok (.getfield 22, 3) := by decide +kernel
theorem dX10_lift_34 : decode cX10_lift 34 = .ok (.iload_n 1, 1) := by decide +kernel
theorem dX10_lift_35 : decode cX10_lift 35 = .ok (.iconst 0, 1) := by decide +kernel
theorem dX10_lift_36 : decode cX10_lift 36 = .ok (.iastore, 1) := by decide +kernel
theorem dX10_lift_37 : decode cX10_lift 37 = .ok (.aload_n 0, 1) := by decide +kernel
theorem dX10_lift_38 : decode cX10_lift 38 = .ok (.getfield 9, 3) := by decide +kernel
theorem dX10_lift_41 : decode cX10_lift 41 = .ok (.bipush 10, 2) := by decide +kernel
theorem dX10_lift_43 : decode cX10_lift 43 = .ok (.iload_n 1, 1) := by decide +kernel
theorem dX10_lift_44 : decode cX10_lift 44 = .ok (.iadd, 1) := by decide +kernel
theorem dX10_lift_45 : decode cX10_lift 45 = .ok (.iconst 4, 1) := by decide +kernel
theorem dX10_lift_46 : decode cX10_lift 46 = .ok (.iastore, 1) := by decide +kernel
theorem dX10_lift_47 : decode cX10_lift 47 = .ok (.iload_n 1, 1) := by decide +kernel
theorem dX10_lift_48 : decode cX10_lift 48 = .ok (.ireturn, 1) := by decide +kernel
theorem dX10_lift_19 : decode cX10_lift 19 = .ok (.bipush (-5), 2) := by decide +kernel
theorem dX10_lift_21 : decode cX10_lift 21 = .ok (.ireturn, 1) := by decide +kernel
theorem dX10_lift_8 : decode cX10_lift 8 = .ok (.iconst (-1), 1) := by decide +kernel
theorem dX10_lift_9 : decode cX10_lift 9 = .ok (.ireturn, 1) := by decide +kernel
theorem dX10_then_0 : decode cX10_then 0 = .ok (.aload_n 0, 1) := by decide +kernel
theorem dX10_then_1 : decode cX10_then 1 = .ok (.iload_n 1, 1) := by decide +kernel
theorem dX10_then_2 : decode cX10_then 2 = .ok (.invokevirtual 133, 3) := by decide +kernel
theorem dX10_then_5 : decode cX10_then 5 = .ok (.ifCond .eq 27, 3) := by decide +kernel
theorem dX10_then_32 : decode cX10_then 32 = .ok (.ldc 140, 2) := by decide +kernel
theorem dX10_then_34 : decode cX10_then 34 = .ok (.ireturn, 1) := by decide +kernel
theorem dX10_then_8 : decode cX10_then 8 = .ok (.iload_n 2, 1) := by decide +kernel
theorem dX10_then_9 : decode cX10_then 9 = .ok (.i2l, 1) := by decide +kernel
theorem dX10_then_10 : decode cX10_then 10 = .ok (.lconst 0, 1) := by decide +kernel
theorem dX10_then_11 : decode cX10_then 11 = .ok (.ldc2_w 244, 3) := by decide +kernel
theorem dX10_then_14 : decode cX10_then 14 = .ok (.invokestatic 101, 3) := by decide +kernel
theorem dX10_then_17 : decode cX10_then 17 = .ok (.ifCond .eq 15, 3) := by decide +kernel
theorem dX10_then_20 : decode cX10_then 20 = .ok (.iload_n 3, 1) := by decide +kernel
theorem dX10_then_21 : decode cX10_then 21 = .ok (.i2l, 1) := by decide +kernel
theorem dX10_then_22 : decode cX10_then 22 = .ok (.lconst 0, 1) := by decide +kernel
theorem dX10_then_23 : decode cX10_then 23 = .ok (.ldc2_w 131, 3) := by decide +kernel
theorem dX10_then_26 : decode cX10_then 26 = .ok (.invokestatic 101, 3) := by decide +kernel
theorem dX10_then_29 : decode cX10_then 29 = .ok (.ifCond .ne 6, 3) := by decide +kernel
theorem dX10_then_35 : decode cX10_then 35 = .ok (.aload_n 0, 1) := by decide +kernel
theorem dX10_then_36 : decode cX10_then 36 = .ok (.aload_n 0, 1) := by decide +kernel
theorem dX10_then_37 : decode cX10_then 37 = .ok (.invokevirtual 246, 3) := by decide +kernel
theorem dX10_then_40 : decode cX10_then 40 = .ok (.invokevirtual 249, 3) := by decide +kernel
theorem dX10_then_43 : decode cX10_then 43 = .ok (.iconst 0, 1) := by decide +kernel
theorem dX10_then_44 : decode cX10_then 44 = .ok (.istore 4, 2) := by decide +kernel
theorem dX10_then_69 : decode cX10_then 69 = .ok (.iload_n 3, 1) := by decide +kernel
theorem dX10_then_70 : decode cX10_then 70 = .ok (.ifCond .ne 12, 3) := by decide +kernel
theorem dX10_then_82 : decode cX10_then 82 = .ok (.iload_n 3, 1) := by decide +kernel
theorem dX10_then_83 : decode cX10_then 83 = .ok (.iconst 1, 1) := by decide +kernel
theorem dX10_then_84 : decode cX10_then 84 = .ok (.if_icmp .ne 12, 3) := by decide +kernel
theorem dX10_then_96 : decode cX10_then 96 = .ok (.aload_n 0, 1) := by decide +kernel
theorem dX10_then_97 : decode cX10_then 97 = .ok (.getfield 43, 3) := by decide +kernel
theorem dX10_then_100 : decode cX10_then 100 = .ok (.iload_n 1, 1) := by decide +kernel
theorem dX10_then_101 : decode cX10_then 101 = .ok (.iaload, 1) := by decide +kernel
theorem dX10_then_102 : decode cX10_then 102 = .ok (.ireturn, 1) := by decide +kernel
theorem dX10_then_87 : decode cX10_then 87 = .ok (.aload_n 0, 1) := by decide +kernel
theorem dX10_then_88 : decode cX10_then 88 = .ok (.getfield 40, 3) := by decide +kernel
theorem dX10_then_91 : decode cX10_then 91 = .ok (.iload_n 1, 1) := by decide +kernel
theorem dX10_then_92 : decode cX10_then 92 = .ok (.iaload, 1) := by decide +kernel
theorem dX10_then_93 : decode cX10_then 93 = .ok (.goto 9, 3) := by decide +kernel
theorem dX10_then_73 : decode cX10_then 73 = .ok (.aload_n 0, 1) := by decide +kernel
theorem dX10_then_74 : decode cX10_then 74 = .ok (.getfield 37, 3) := by decide +kernel
theorem dX10_then_77 : decode cX10_then 77 = .ok (.iload_n 1, 1) := by decide +kernel
theorem dX10_then_78 : decode cX10_then 78 = .ok (.iaload, 1) := by decide +kernel
theorem dX10_then_79 : decode cX10_then 79 = .ok (.goto 23, 3) := by decide +kernel
set_option maxRecDepth 100000 in
set_option maxHeartbeats 4000000 in
theorem g_X10_led (w : Int32) {l : Launch} {G : xG} {M : xM} {J : xJ} (hI : InvR M) : x_M l G fX10_led 0 0 0 [.ref (62), .int (w)] x_SH M J (qPI M J (fun r => True)) := by
  refine xb_of pX10 (Nat.le_of_ble_eq_true rfl) rfl ?_
  obtain ⟨⟨hn, h_hn, e_hn, hw⟩, hbt, ⟨un, wn, h_uw, h_wn, e_un, e_wn⟩, hch, ⟨n, h_n, e_n⟩, htx, ⟨b, h_b, e_b⟩, hkd, ⟨ra, h_ra, e_ra⟩, hsl, ⟨ic, h_ic, e_ic⟩, hS⟩ := hI
  refine xr_iload_n dX10_led_0 1 rfl ?_
  refine xr_if_ne (tgt := 11) dX10_led_1 rfl (fun c1 => ?_) (fun c1 => ?_)
  · refine xr_iload_n dX10_led_11 1 rfl ?_
    refine xr_iconst (v := 1) dX10_led_12 rfl ?_
    refine xr_icmp_ne (tgt := 23) dX10_led_13 rfl (fun c2 => ?_) (fun c2 => ?_)
    · refine xr_iconst (v := -1) dX10_led_23 rfl ?_
      exact xr_iret dX10_led_24 rfl rfl (⟨_, rfl, rfl, rfl, rfl, trivial⟩)
    · refine xr_aload_n dX10_led_16 0 rfl ?_
      refine xb_get (v := M 62 25) flX10_46 dX10_led_17 s_62 rfl rfl ?_
      refine xr_goto (tgt := 24) dX10_led_20 rfl ?_
      exact xr_iret dX10_led_24 rfl rfl (⟨_, rfl, rfl, rfl, rfl, trivial⟩)
  · refine xr_aload_n dX10_led_4 0 rfl ?_
    refine xb_get (v := M 62 24) flX10_258 dX10_led_5 s_62 rfl rfl ?_
    refine xr_goto (tgt := 24) dX10_led_8 rfl ?_
    exact xr_iret dX10_led_24 rfl rfl (⟨_, rfl, rfl, rfl, rfl, trivial⟩)
set_option maxRecDepth 100000 in
set_option maxHeartbeats 4000000 in
theorem g_X10_then (h kk w : Int32) {l : Launch} {G : xG} {M : xM} {J : xJ} (hI : InvR M) : x_M l G fX10_then 62 0 0 [.ref (62), .int (h), .int (kk), .int (w)] x_SH M J (qKI WR1 M J (fun r M2 => InvR M2)) := by
  refine xb_of pX10 (Nat.le_of_ble_eq_true rfl) rfl ?_
  obtain ⟨⟨hn, h_hn, e_hn, hw⟩, hbt, ⟨un, wn, h_uw, h_wn, e_un, e_wn⟩, hch, ⟨n, h_n, e_n⟩, htx, ⟨b, h_b, e_b⟩, hkd, ⟨ra, h_ra, e_ra⟩, hsl, ⟨ic, h_ic, e_ic⟩, hS⟩ := hI
  refine xr_aload_n dX10_then_0 0 rfl ?_
  refine xr_iload_n dX10_then_1 1 rfl ?_
  refine xb_cV (As := [.int (h)]) (rest := []) mlX10_133 (c_X10_isHoop h (by omega) e_hn) dX10_then_2 s_62 rfl rfl (Nat.le_of_ble_eq_true rfl) (by decide) (by decide) ?_
  refine xb_beq (tgt := 32) dX10_then_5 rfl (fun c1 => ?_) (fun c1 => ?_)
  · refine xr_ldc coX10_140 dX10_then_32 ?_
    exact xr_iret dX10_then_34 rfl rfl (⟨_, rfl, rfl, rfl, Ke.rf, ⟨⟨hn, by omega, e_hn, (fun kw hkw => by rw [show M 63 (5 + kw) = M 63 (5 + kw) from rfl]; exact hw kw hkw)⟩, (by rw [show M 63 16 = M 63 16 from rfl]; exact hbt), ⟨un, wn, by omega, by omega, e_un, e_wn⟩, (fun kk hkk => by rw [show M 64 kk = M 64 kk from rfl, show M 65 kk = M 65 kk from rfl, show M 66 kk = M 66 kk from rfl]; exact hch kk hkk), ⟨n, by omega, e_n⟩, (by rw [show M 62 13 = M 62 13 from rfl]; exact htx), ⟨b, by omega, e_b⟩, (fun j hj => by obtain ⟨q, hq, eq⟩ := hkd j hj; exact ⟨q, hq, (show M 81 j = M 81 j from rfl).trans eq⟩), ⟨ra, by omega, e_ra⟩, (fun j hj => by rw [show M 83 j = M 83 j from rfl, show M 84 j = M 84 j from rfl]; exact hsl j hj), ⟨ic, by omega, e_ic⟩, (fun j hj => by obtain ⟨q, hq, eq⟩ := hS j hj; exact ⟨q, hq, (show M 75 j = M 75 j from rfl).trans eq⟩)⟩⟩)
  · obtain ⟨h_, hh_, rfl⟩ := x_nat (N := hn) (by omega) rfl c1
    refine xr_iload_n dX10_then_8 2 rfl ?_
    refine xr_i2l dX10_then_9 ?_
    refine xr_lconst (v := 0) dX10_then_10 rfl ?_
    refine xr_ldc2 coX10_244 dX10_then_11 ?_
    refine xb_cS (As := [.long ((kk).toInt64), .long (0), .long (200)]) (rest := []) mlX10_101 (c_within32 (kk) (0) (200) (by decide) (by decide)) dX10_then_14 rfl rfl (Nat.le_of_ble_eq_true rfl) (by decide) (by decide) ?_
    refine xb_beq (tgt := 32) dX10_then_17 rfl (fun c2 => ?_) (fun c2 => ?_)
    · refine xr_ldc coX10_140 dX10_then_32 ?_
      exact xr_iret dX10_then_34 rfl rfl (⟨_, rfl, rfl, rfl, Ke.rf, ⟨⟨hn, by omega, e_hn, (fun kw hkw => by rw [show M 63 (5 + kw) = M 63 (5 + kw) from rfl]; exact hw kw hkw)⟩, (by rw [show M 63 16 = M 63 16 from rfl]; exact hbt), ⟨un, wn, by omega, by omega, e_un, e_wn⟩, (fun kk hkk => by rw [show M 64 kk = M 64 kk from rfl, show M 65 kk = M 65 kk from rfl, show M 66 kk = M 66 kk from rfl]; exact hch kk hkk), ⟨n, by omega, e_n⟩, (by rw [show M 62 13 = M 62 13 from rfl]; exact htx), ⟨b, by omega, e_b⟩, (fun j hj => by obtain ⟨q, hq, eq⟩ := hkd j hj; exact ⟨q, hq, (show M 81 j = M 81 j from rfl).trans eq⟩), ⟨ra, by omega, e_ra⟩, (fun j hj => by rw [show M 83 j = M 83 j from rfl, show M 84 j = M 84 j from rfl]; exact hsl j hj), ⟨ic, by omega, e_ic⟩, (fun j hj => by obtain ⟨q, hq, eq⟩ := hS j hj; exact ⟨q, hq, (show M 75 j = M 75 j from rfl).trans eq⟩)⟩⟩)
    · refine xr_iload_n dX10_then_20 3 rfl ?_
      refine xr_i2l dX10_then_21 ?_
      refine xr_lconst (v := 0) dX10_then_22 rfl ?_
      refine xr_ldc2 coX10_131 dX10_then_23 ?_
      refine xb_cS (As := [.long ((w).toInt64), .long (0), .long (2)]) (rest := []) mlX10_101 (c_within32 (w) (0) (2) (by decide) (by decide)) dX10_then_26 rfl rfl (Nat.le_of_ble_eq_true rfl) (by decide) (by decide) ?_
      refine xb_bne (tgt := 35) dX10_then_29 rfl (fun c3 => ?_) (fun c3 => ?_)
      · obtain ⟨K, hK, rfl⟩ := x_natle (v := kk) (N := 200) (K := 200) (by decide) (by decide) ⟨by grind, c2.2⟩
        refine xr_aload_n dX10_then_35 0 rfl ?_
        refine xr_aload_n dX10_then_36 0 rfl ?_
        refine xr_callV (As := []) (rest := [.ref (62)]) mlX10_246 (g_X10_upNow h_hn e_hn (fun kw hkw => by rw [show M 63 (5 + kw) = M 63 (5 + kw) from rfl]; exact hw kw hkw) (by rw [show M 63 16 = M 63 16 from rfl]; exact hbt) (by rw [show M 62 13 = M 62 13 from rfl]; exact htx)) dX10_then_37 s_62 rfl rfl (Nat.le_of_ble_eq_true rfl) (by decide) ⟨by decide, by decide⟩ (fun v s2 M9 J2 hq => ?_)
        obtain ⟨r4, rfl, rfl, rfl, rfl, _⟩ := hq
        try dsimp only [Option.toList, List.cons_append, List.nil_append]
        refine xr_callV (As := [.int (r4)]) (rest := []) mlX10_249 (g_X10_begins1 r4 h_hn e_hn (fun kw hkw => by rw [show M 63 (5 + kw) = M 63 (5 + kw) from rfl]; exact hw kw hkw) (by rw [show M 63 16 = M 63 16 from rfl]; exact hbt) (by rw [show M 62 13 = M 62 13 from rfl]; exact htx)) dX10_then_40 s_62 rfl rfl (Nat.le_of_ble_eq_true rfl) (by decide) ⟨by decide, by decide⟩ (fun v s2 M5 J2 hq => ?_)
        obtain ⟨rfl, rfl, rfl, k6, _⟩ := hq
        try dsimp only [Option.toList, List.cons_append, List.nil_append]
        refine xr_iconst (v := 0) dX10_then_43 rfl ?_
        refine xr_istore (ls2 := [(4, .int (0)), (0, .ref (62)), (1, .int (nI (h_))), (2, .int (nI (K))), (3, .int (w))]) dX10_then_44 (by decide) rfl ?_
        refine xb_ls (ls2 := [(4, .int (nI (0))), (3, .int (w)), (2, .int (nI (K))), (1, .int (nI (h_))), (0, .ref (62))]) [0, 4, 3, 2, 1] rfl ?_
        refine th_l (by omega) (by omega) h_hn (Eq.trans (k6 62 6 (by decide)) e_hn) (fun kw hkw => by rw [show M5 63 (5 + kw) = M 63 (5 + kw) from (Eq.trans (k6 63 (5 + kw) (by unfold WR1; omega)) rfl)]; exact hw kw hkw) (by rw [show M5 63 16 = M 63 16 from (Eq.trans (k6 63 16 (by unfold WR1; omega)) rfl)]; exact hbt) (by rw [show M5 62 13 = M 62 13 from (Eq.trans (k6 62 13 (by unfold WR1; omega)) rfl)]; exact htx) (fun M7 k8 => ?_) (K - 0) 0 M5 (by omega) Ke.rf
        refine xr_iload_n dX10_then_69 0 rfl ?_
        refine xr_if_ne (tgt := 82) dX10_then_70 rfl (fun c9 => ?_) (fun c9 => ?_)
        · refine xr_iload_n dX10_then_82 0 rfl ?_
          refine xr_iconst (v := 1) dX10_then_83 rfl ?_
          refine xr_icmp_ne (tgt := 96) dX10_then_84 rfl (fun c10 => ?_) (fun c10 => ?_)
          · refine xr_aload_n dX10_then_96 3 rfl ?_
            refine xr_getR flX10_43 dX10_then_97 s_62 rfl ?_
            refine xr_iload_n dX10_then_100 2 rfl ?_
            refine xb_iald (j := h_) (v := M7 74 h_) dX10_then_101 s_74 (by omega) (by decide) rfl ?_
            exact xr_iret dX10_then_102 rfl rfl (⟨_, rfl, rfl, rfl, (Ke.tr (fun _ _ h => h) (Ke.tr (fun _ _ h => h) Ke.rf k6) k8), ⟨⟨hn, by omega, (Eq.trans (k8 62 6 (by decide)) (Eq.trans (k6 62 6 (by decide)) e_hn)), (fun kw hkw => by rw [show M7 63 (5 + kw) = M 63 (5 + kw) from (Eq.trans (k8 63 (5 + kw) (by unfold WR1; omega)) (Eq.trans (k6 63 (5 + kw) (by unfold WR1; omega)) rfl))]; exact hw kw hkw)⟩, (by rw [show M7 63 16 = M 63 16 from (Eq.trans (k8 63 16 (by unfold WR1; omega)) (Eq.trans (k6 63 16 (by unfold WR1; omega)) rfl))]; exact hbt), ⟨un, wn, by omega, by omega, (Eq.trans (k8 62 5 (by decide)) (Eq.trans (k6 62 5 (by decide)) e_un)), (Eq.trans (k8 62 4 (by decide)) (Eq.trans (k6 62 4 (by decide)) e_wn))⟩, (fun kk hkk => by rw [show M7 64 kk = M 64 kk from (Eq.trans (k8 64 kk (by unfold WR1; omega)) (Eq.trans (k6 64 kk (by unfold WR1; omega)) rfl)), show M7 65 kk = M 65 kk from (Eq.trans (k8 65 kk (by unfold WR1; omega)) (Eq.trans (k6 65 kk (by unfold WR1; omega)) rfl)), show M7 66 kk = M 66 kk from (Eq.trans (k8 66 kk (by unfold WR1; omega)) (Eq.trans (k6 66 kk (by unfold WR1; omega)) rfl))]; exact hch kk hkk), ⟨n, by omega, (Eq.trans (k8 62 11 (by decide)) (Eq.trans (k6 62 11 (by decide)) e_n))⟩, (by rw [show M7 62 13 = M 62 13 from (Eq.trans (k8 62 13 (by unfold WR1; omega)) (Eq.trans (k6 62 13 (by unfold WR1; omega)) rfl))]; exact htx), ⟨b, by omega, (Eq.trans (k8 62 36 (by decide)) (Eq.trans (k6 62 36 (by decide)) e_b))⟩, (fun j hj => by obtain ⟨q, hq, eq⟩ := hkd j hj; exact ⟨q, hq, (show M7 81 j = M 81 j from (Eq.trans (k8 81 j (by unfold WR1; omega)) (Eq.trans (k6 81 j (by unfold WR1; omega)) rfl))).trans eq⟩), ⟨ra, by omega, (Eq.trans (k8 62 39 (by decide)) (Eq.trans (k6 62 39 (by decide)) e_ra))⟩, (fun j hj => by rw [show M7 83 j = M 83 j from (Eq.trans (k8 83 j (by unfold WR1; omega)) (Eq.trans (k6 83 j (by unfold WR1; omega)) rfl)), show M7 84 j = M 84 j from (Eq.trans (k8 84 j (by unfold WR1; omega)) (Eq.trans (k6 84 j (by unfold WR1; omega)) rfl))]; exact hsl j hj), ⟨ic, by omega, (Eq.trans (k8 62 34 (by decide)) (Eq.trans (k6 62 34 (by decide)) e_ic))⟩, (fun j hj => by obtain ⟨q, hq, eq⟩ := hS j hj; exact ⟨q, hq, (show M7 75 j = M 75 j from (Eq.trans (k8 75 j (by unfold WR1; omega)) (Eq.trans (k6 75 j (by unfold WR1; omega)) rfl))).trans eq⟩)⟩⟩)
          · refine xr_aload_n dX10_then_87 3 rfl ?_
            refine xr_getR flX10_40 dX10_then_88 s_62 rfl ?_
            refine xr_iload_n dX10_then_91 2 rfl ?_
            refine xb_iald (j := h_) (v := M7 73 h_) dX10_then_92 s_73 (by omega) (by decide) rfl ?_
            refine xr_goto (tgt := 102) dX10_then_93 rfl ?_
            exact xr_iret dX10_then_102 rfl rfl (⟨_, rfl, rfl, rfl, (Ke.tr (fun _ _ h => h) (Ke.tr (fun _ _ h => h) Ke.rf k6) k8), ⟨⟨hn, by omega, (Eq.trans (k8 62 6 (by decide)) (Eq.trans (k6 62 6 (by decide)) e_hn)), (fun kw hkw => by rw [show M7 63 (5 + kw) = M 63 (5 + kw) from (Eq.trans (k8 63 (5 + kw) (by unfold WR1; omega)) (Eq.trans (k6 63 (5 + kw) (by unfold WR1; omega)) rfl))]; exact hw kw hkw)⟩, (by rw [show M7 63 16 = M 63 16 from (Eq.trans (k8 63 16 (by unfold WR1; omega)) (Eq.trans (k6 63 16 (by unfold WR1; omega)) rfl))]; exact hbt), ⟨un, wn, by omega, by omega, (Eq.trans (k8 62 5 (by decide)) (Eq.trans (k6 62 5 (by decide)) e_un)), (Eq.trans (k8 62 4 (by decide)) (Eq.trans (k6 62 4 (by decide)) e_wn))⟩, (fun kk hkk => by rw [show M7 64 kk = M 64 kk from (Eq.trans (k8 64 kk (by unfold WR1; omega)) (Eq.trans (k6 64 kk (by unfold WR1; omega)) rfl)), show M7 65 kk = M 65 kk from (Eq.trans (k8 65 kk (by unfold WR1; omega)) (Eq.trans (k6 65 kk (by unfold WR1; omega)) rfl)), show M7 66 kk = M 66 kk from (Eq.trans (k8 66 kk (by unfold WR1; omega)) (Eq.trans (k6 66 kk (by unfold WR1; omega)) rfl))]; exact hch kk hkk), ⟨n, by omega, (Eq.trans (k8 62 11 (by decide)) (Eq.trans (k6 62 11 (by decide)) e_n))⟩, (by rw [show M7 62 13 = M 62 13 from (Eq.trans (k8 62 13 (by unfold WR1; omega)) (Eq.trans (k6 62 13 (by unfold WR1; omega)) rfl))]; exact htx), ⟨b, by omega, (Eq.trans (k8 62 36 (by decide)) (Eq.trans (k6 62 36 (by decide)) e_b))⟩, (fun j hj => by obtain ⟨q, hq, eq⟩ := hkd j hj; exact ⟨q, hq, (show M7 81 j = M 81 j from (Eq.trans (k8 81 j (by unfold WR1; omega)) (Eq.trans (k6 81 j (by unfold WR1; omega)) rfl))).trans eq⟩), ⟨ra, by omega, (Eq.trans (k8 62 39 (by decide)) (Eq.trans (k6 62 39 (by decide)) e_ra))⟩, (fun j hj => by rw [show M7 83 j = M 83 j from (Eq.trans (k8 83 j (by unfold WR1; omega)) (Eq.trans (k6 83 j (by unfold WR1; omega)) rfl)), show M7 84 j = M 84 j from (Eq.trans (k8 84 j (by unfold WR1; omega)) (Eq.trans (k6 84 j (by unfold WR1; omega)) rfl))]; exact hsl j hj), ⟨ic, by omega, (Eq.trans (k8 62 34 (by decide)) (Eq.trans (k6 62 34 (by decide)) e_ic))⟩, (fun j hj => by obtain ⟨q, hq, eq⟩ := hS j hj; exact ⟨q, hq, (show M7 75 j = M 75 j from (Eq.trans (k8 75 j (by unfold WR1; omega)) (Eq.trans (k6 75 j (by unfold WR1; omega)) rfl))).trans eq⟩)⟩⟩)
        · refine xr_aload_n dX10_then_73 3 rfl ?_
          refine xr_getR flX10_37 dX10_then_74 s_62 rfl ?_
          refine xr_iload_n dX10_then_77 2 rfl ?_
          refine xb_iald (j := h_) (v := M7 72 h_) dX10_then_78 s_72 (by omega) (by decide) rfl ?_
          refine xr_goto (tgt := 102) dX10_then_79 rfl ?_
          exact xr_iret dX10_then_102 rfl rfl (⟨_, rfl, rfl, rfl, (Ke.tr (fun _ _ h => h) (Ke.tr (fun _ _ h => h) Ke.rf k6) k8), ⟨⟨hn, by omega, (Eq.trans (k8 62 6 (by decide)) (Eq.trans (k6 62 6 (by decide)) e_hn)), (fun kw hkw => by rw [show M7 63 (5 + kw) = M 63 (5 + kw) from (Eq.trans (k8 63 (5 + kw) (by unfold WR1; omega)) (Eq.trans (k6 63 (5 + kw) (by unfold WR1; omega)) rfl))]; exact hw kw hkw)⟩, (by rw [show M7 63 16 = M 63 16 from (Eq.trans (k8 63 16 (by unfold WR1; omega)) (Eq.trans (k6 63 16 (by unfold WR1; omega)) rfl))]; exact hbt), ⟨un, wn, by omega, by omega, (Eq.trans (k8 62 5 (by decide)) (Eq.trans (k6 62 5 (by decide)) e_un)), (Eq.trans (k8 62 4 (by decide)) (Eq.trans (k6 62 4 (by decide)) e_wn))⟩, (fun kk hkk => by rw [show M7 64 kk = M 64 kk from (Eq.trans (k8 64 kk (by unfold WR1; omega)) (Eq.trans (k6 64 kk (by unfold WR1; omega)) rfl)), show M7 65 kk = M 65 kk from (Eq.trans (k8 65 kk (by unfold WR1; omega)) (Eq.trans (k6 65 kk (by unfold WR1; omega)) rfl)), show M7 66 kk = M 66 kk from (Eq.trans (k8 66 kk (by unfold WR1; omega)) (Eq.trans (k6 66 kk (by unfold WR1; omega)) rfl))]; exact hch kk hkk), ⟨n, by omega, (Eq.trans (k8 62 11 (by decide)) (Eq.trans (k6 62 11 (by decide)) e_n))⟩, (by rw [show M7 62 13 = M 62 13 from (Eq.trans (k8 62 13 (by unfold WR1; omega)) (Eq.trans (k6 62 13 (by unfold WR1; omega)) rfl))]; exact htx), ⟨b, by omega, (Eq.trans (k8 62 36 (by decide)) (Eq.trans (k6 62 36 (by decide)) e_b))⟩, (fun j hj => by obtain ⟨q, hq, eq⟩ := hkd j hj; exact ⟨q, hq, (show M7 81 j = M 81 j from (Eq.trans (k8 81 j (by unfold WR1; omega)) (Eq.trans (k6 81 j (by unfold WR1; omega)) rfl))).trans eq⟩), ⟨ra, by omega, (Eq.trans (k8 62 39 (by decide)) (Eq.trans (k6 62 39 (by decide)) e_ra))⟩, (fun j hj => by rw [show M7 83 j = M 83 j from (Eq.trans (k8 83 j (by unfold WR1; omega)) (Eq.trans (k6 83 j (by unfold WR1; omega)) rfl)), show M7 84 j = M 84 j from (Eq.trans (k8 84 j (by unfold WR1; omega)) (Eq.trans (k6 84 j (by unfold WR1; omega)) rfl))]; exact hsl j hj), ⟨ic, by omega, (Eq.trans (k8 62 34 (by decide)) (Eq.trans (k6 62 34 (by decide)) e_ic))⟩, (fun j hj => by obtain ⟨q, hq, eq⟩ := hS j hj; exact ⟨q, hq, (show M7 75 j = M 75 j from (Eq.trans (k8 75 j (by unfold WR1; omega)) (Eq.trans (k6 75 j (by unfold WR1; omega)) rfl))).trans eq⟩)⟩⟩)
      · refine xr_ldc coX10_140 dX10_then_32 ?_
        exact xr_iret dX10_then_34 rfl rfl (⟨_, rfl, rfl, rfl, Ke.rf, ⟨⟨hn, by omega, e_hn, (fun kw hkw => by rw [show M 63 (5 + kw) = M 63 (5 + kw) from rfl]; exact hw kw hkw)⟩, (by rw [show M 63 16 = M 63 16 from rfl]; exact hbt), ⟨un, wn, by omega, by omega, e_un, e_wn⟩, (fun kk hkk => by rw [show M 64 kk = M 64 kk from rfl, show M 65 kk = M 65 kk from rfl, show M 66 kk = M 66 kk from rfl]; exact hch kk hkk), ⟨n, by omega, e_n⟩, (by rw [show M 62 13 = M 62 13 from rfl]; exact htx), ⟨b, by omega, e_b⟩, (fun j hj => by obtain ⟨q, hq, eq⟩ := hkd j hj; exact ⟨q, hq, (show M 81 j = M 81 j from rfl).trans eq⟩), ⟨ra, by omega, e_ra⟩, (fun j hj => by rw [show M 83 j = M 83 j from rfl, show M 84 j = M 84 j from rfl]; exact hsl j hj), ⟨ic, by omega, e_ic⟩, (fun j hj => by obtain ⟨q, hq, eq⟩ := hS j hj; exact ⟨q, hq, (show M 75 j = M 75 j from rfl).trans eq⟩)⟩⟩)
