theorem dX10_hoop_0 : decode cX10_hoop 0 = .ok (.iload_n 1, 1) := by decide +kernel
theorem dX10_hoop_1 : decode cX10_hoop 1 = .ok (.ifCond .lt 22, 3) := by decide +kernel
theorem dX10_hoop_23 : decode cX10_hoop 23 = .ok (.iconst (-1), 1) := by decide +kernel
theorem dX10_hoop_24 : decode cX10_hoop 24 = .ok (.ireturn, 1) := by decide +kernel
theorem dX10_hoop_4 : decode cX10_hoop 4 = .ok (.iload_n 1, 1) := by decide +kernel
theorem dX10_hoop_5 : decode cX10_hoop 5 = .ok (.bipush 10, 2) := by decide +kernel
theorem dX10_hoop_7 : decode cX10_hoop 7 = .ok (.idiv, 1) := by decide +kernel
theorem dX10_hoop_8 : decode cX10_hoop 8 = .ok (.i2l, 1) := by decide +kernel
theorem dX10_hoop_9 : decode cX10_hoop 9 = .ok (.iload_n 1, 1) := by decide +kernel
theorem dX10_hoop_10 : decode cX10_hoop 10 = .ok (.bipush 10, 2) := by decide +kernel
theorem dX10_hoop_12 : decode cX10_hoop 12 = .ok (.irem, 1) := by decide +kernel
theorem dX10_hoop_13 : decode cX10_hoop 13 = .ok (.i2l, 1) := by decide +kernel
theorem dX10_hoop_14 : decode cX10_hoop 14 = .ok (.ldc2_w 116, 3) := by decide +kernel
theorem dX10_hoop_17 : decode cX10_hoop 17 = .ok (.invokestatic 118, 3) := by decide +kernel
theorem dX10_hoop_20 : decode cX10_hoop 20 = .ok (.ifCond .ne 5, 3) := by decide +kernel
theorem dX10_hoop_25 : decode cX10_hoop 25 = .ok (.aload_n 0, 1) := by decide +kernel
theorem dX10_hoop_26 : decode cX10_hoop 26 = .ok (.getfield 109, 3) := by decide +kernel
theorem dX10_hoop_29 : decode cX10_hoop 29 = .ok (.iconst 5, 1) := by decide +kernel
theorem dX10_hoop_30 : decode cX10_hoop 30 = .ok (.if_icmp .ne 6, 3) := by decide +kernel
theorem dX10_hoop_36 : decode cX10_hoop 36 = .ok (.aload_n 0, 1) := by decide +kernel
theorem dX10_hoop_37 : decode cX10_hoop 37 = .ok (.iload_n 1, 1) := by decide +kernel
theorem dX10_hoop_38 : decode cX10_hoop 38 = .ok (.bipush 10, 2) := by decide +kernel
theorem dX10_hoop_40 : decode cX10_hoop 40 = .ok (.idiv, 1) := by decide +kernel
theorem dX10_hoop_41 : decode cX10_hoop 41 = .ok (.iload_n 1, 1) := by decide +kernel
theorem dX10_hoop_42 : decode cX10_hoop 42 = .ok (.bipush 10, 2) := by decide +kernel
theorem dX10_hoop_44 : decode cX10_hoop 44 = .ok (.irem, 1) := by decide +kernel
theorem dX10_hoop_45 : decode cX10_hoop 45 = .ok (.iconst 4, 1) := by decide +kernel
theorem dX10_hoop_46 : decode cX10_hoop 46 = .ok (.invokevirtual 121, 3) := by decide +kernel
theorem dX10_hoop_49 : decode cX10_hoop 49 = .ok (.aload_n 0, 1) := by decide +kernel
theorem dX10_hoop_50 : decode cX10_hoop 50 = .ok (.getfield 109, 3) := by decide +kernel
theorem dX10_hoop_53 : decode cX10_hoop 53 = .ok (.iconst 1, 1) := by decide +kernel
theorem dX10_hoop_54 : decode cX10_hoop 54 = .ok (.isub, 1) := by decide +kernel
theorem dX10_hoop_55 : decode cX10_hoop 55 = .ok (.ireturn, 1) := by decide +kernel
theorem dX10_hoop_33 : decode cX10_hoop 33 = .ok (.bipush (-3), 2) := by decide +kernel
theorem dX10_hoop_35 : decode cX10_hoop 35 = .ok (.ireturn, 1) := by decide +kernel
theorem dX10_feed_0 : decode cX10_feed 0 = .ok (.iload_n 1, 1) := by decide +kernel
theorem dX10_feed_1 : decode cX10_feed 1 = .ok (.i2l, 1) := by decide +kernel
theorem dX10_feed_2 : decode cX10_feed 2 = .ok (.lconst 0, 1) := by decide +kernel
theorem dX10_feed_3 : decode cX10_feed 3 = .ok (.ldc2_w 160, 3) := by decide +kernel
theorem dX10_feed_6 : decode cX10_feed 6 = .ok (.invokestatic 101, 3) := by decide +kernel
theorem dX10_feed_9 : decode cX10_feed 9 = .ok (.ifCond .ne 5, 3) := by decide +kernel
theorem dX10_feed_14 : decode cX10_feed 14 = .ok (.aload_n 0, 1) := by decide +kernel
theorem dX10_feed_15 : decode cX10_feed 15 = .ok (.getfield 162, 3) := by decide +kernel
theorem dX10_feed_18 : decode cX10_feed 18 = .ok (.bipush 120, 2) := by decide +kernel
theorem dX10_feed_20 : decode cX10_feed 20 = .ok (.if_icmp .ne 6, 3) := by decide +kernel
theorem dX10_feed_26 : decode cX10_feed 26 = .ok (.aload_n 0, 1) := by decide +kernel
theorem dX10_feed_27 : decode cX10_feed 27 = .ok (.getfield 28, 3) := by decide +kernel
theorem dX10_feed_30 : decode cX10_feed 30 = .ok (.aload_n 0, 1) := by decide +kernel
theorem dX10_feed_31 : decode cX10_feed 31 = .ok (.getfield 162, 3) := by decide +kernel
theorem dX10_feed_34 : decode cX10_feed 34 = .ok (.iload_n 1, 1) := by decide +kernel
theorem dX10_feed_35 : decode cX10_feed 35 = .ok (.iastore, 1) := by decide +kernel
theorem dX10_feed_36 : decode cX10_feed 36 = .ok (.aload_n 0, 1) := by decide +kernel
theorem dX10_feed_37 : decode cX10_feed 37 = .ok (.dup, 1) := by decide +kernel
theorem dX10_feed_38 : decode cX10_feed 38 = .ok (.getfield 162, 3) := by decide +kernel
theorem dX10_feed_41 : decode cX10_feed 41 = .ok (.iconst 1, 1) := by decide +kernel
theorem dX10_feed_42 : decode cX10_feed 42 = .ok (.iadd, 1) := by decide +kernel
theorem dX10_feed_43 : decode cX10_feed 43 = .ok (.putfield 162, 3) := by decide +kernel
theorem dX10_feed_46 : decode cX10_feed 46 = .ok (.aload_n 0, 1) := by decide +kernel
theorem dX10_feed_47 : decode cX10_feed 47 = .ok (.getfield 162, 3) := by decide +kernel
theorem dX10_feed_50 : decode cX10_feed 50 = .ok (.ireturn, 1) := by decide +kernel
theorem dX10_feed_23 : decode cX10_feed 23 = .ok (.bipush (-3), 2) := by decide +kernel
theorem dX10_feed_25 : decode cX10_feed 25 = .ok (.ireturn, 1) := by decide +kernel
theorem dX10_feed_12 : decode cX10_feed 12 = .ok (.iconst (-1), 1) := by decide +kernel
theorem dX10_feed_13 : decode cX10_feed 13 = .ok (.ireturn, 1) := by decide +kernel
theorem dX10_law_0 : decode cX10_law 0 = .ok (.aload_n 0, 1) := by decide +kernel
theorem dX10_law_1 : decode cX10_law 1 = .ok (.iconst (-1), 1) := by decide +kernel
theorem dX10_law_2 : decode cX10_law 2 = .ok (.aload_n 0, 1) := by decide +kernel
theorem dX10_law_3 : decode cX10_law 3 = .ok (.getfield 162, 3) := by decide +kernel
theorem dX10_law_6 : decode cX10_law 6 = .ok (.invokevirtual 211, 3) := by decide +kernel
theorem dX10_law_9 : decode cX10_law 9 = .ok (.istore_n 1, 1) := by decide +kernel
theorem dX10_law_10 : decode cX10_law 10 = .ok (.aload_n 0, 1) := by decide +kernel
theorem dX10_law_11 : decode cX10_law 11 = .ok (.getfield 162, 3) := by decide +kernel
theorem dX10_law_14 : decode cX10_law 14 = .ok (.istore_n 2, 1) := by decide +kernel
theorem dX10_law_15 : decode cX10_law 15 = .ok (.aload_n 0, 1) := by decide +kernel
theorem dX10_law_16 : decode cX10_law 16 = .ok (.iconst 0, 1) := by decide +kernel
theorem dX10_law_17 : decode cX10_law 17 = .ok (.putfield 162, 3) := by decide +kernel
theorem dX10_law_20 : decode cX10_law 20 = .ok (.aload_n 0, 1) := by decide +kernel
theorem dX10_law_21 : decode cX10_law 21 = .ok (.getfield 174, 3) := by decide +kernel
theorem dX10_law_24 : decode cX10_law 24 = .ok (.ifCond .lt 11, 3) := by decide +kernel
theorem dX10_law_35 : decode cX10_law 35 = .ok (.iconst 0, 1) := by decide +kernel
theorem dX10_law_36 : decode cX10_law 36 = .ok (.istore_n 3, 1) := by decide +kernel
theorem dX10_law_60 : decode cX10_law 60 = .ok (.aload_n 0, 1) := by decide +kernel
theorem dX10_law_61 : decode cX10_law 61 = .ok (.iload_n 2, 1) := by decide +kernel
theorem dX10_law_62 : decode cX10_law 62 = .ok (.putfield 88, 3) := by decide +kernel
theorem dX10_law_65 : decode cX10_law 65 = .ok (.iconst 1, 1) := by decide +kernel
theorem dX10_law_66 : decode cX10_law 66 = .ok (.ireturn, 1) := by decide +kernel
theorem dX10_law_27 : decode cX10_law 27 = .ok (.bipush (-100), 2) := by decide +kernel
theorem dX10_law_29 : decode cX10_law 29 = .ok (.aload_n 0, 1) := by decide +kernel
theorem dX10_law_30 : decode cX10_law 30 = .ok (.getfield 174, 3) := by decide +kernel
theorem dX10_law_33 : decode cX10_law 33 = .ok (.isub, 1) := by decide +kernel
theorem dX10_law_34 : decode cX10_law 34 = .ok (.ireturn, 1) := by decide +kernel
theorem dX10_led_0 : decode cX10_led 0 = .ok (.iload_n 1, 1) := by decide +kernel
theorem dX10_led_1 : decode cX10_led 1 = .ok (.ifCond .ne 10, 3) := by decide +kernel
theorem dX10_led_11 : decode cX10_led 11 = .ok (.iload_n 1, 1) := by decide +kernel
theorem dX10_led_12 : decode cX10_led 12 = .ok (.iconst 1, 1) := by decide +kernel
theorem dX10_led_13 : decode cX10_led 13 = .ok (.if_icmp .ne 10, 3) := by decide +kernel
theorem dX10_led_23 : decode cX10_led 23 = .ok (.iconst (-1), 1) := by decide +kernel
theorem dX10_led_24 : decode cX10_led 24 = .ok (.ireturn, 1) := by decide +kernel
theorem dX10_led_16 : decode cX10_led 16 = .ok (.aload_n 0, 1) := by decide +kernel
theorem dX10_led_17 : decode cX10_led 17 = .ok (.getfield 46, 3) := by decide +kernel
theorem dX10_led_20 : decode cX10_led 20 = .ok (.goto 4, 3) := by decide +kernel
theorem dX10_led_4 : decode cX10_led 4 = .ok (.aload_n 0, 1) := by decide +kernel
theorem dX10_led_5 : decode cX10_led 5 = .ok (.getfield 258, 3) := by decide +kernel
theorem dX10_led_8 : decode cX10_led 8 = .ok (.goto 16, 3) := by decide +kernel
theorem dX10_lift_0 : decode cX10_lift 0 = .ok (.aload_n 0, 1) := by decide +kernel
theorem dX10_lift_1 : decode cX10_lift 1 = .ok (.iload_n 1, 1) := by decide +kernel
theorem dX10_lift_2 : decode cX10_lift 2 = .ok (.invokevirtual 133, 3) := by decide +kernel
theorem dX10_lift_5 : decode cX10_lift 5 = .ok (.ifCond .ne 5, 3) := by decide +kernel
theorem dX10_lift_10 : decode cX10_lift 10 = .ok (.aload_n 0, 1) := by decide +kernel
theorem dX10_lift_11 : decode cX10_lift 11 = .ok (.getfield 25, 3) := by decide +kernel
theorem dX10_lift_14 : decode cX10_lift 14 = .ok (.iload_n 1, 1) := by decide +kernel
theorem dX10_lift_15 : decode cX10_lift 15 = .ok (.iaload, 1) := by decide +kernel
theorem dX10_lift_16 : decode cX10_lift 16 = .ok (.ifCond .le 6, 3) := by decide +kernel
theorem dX10_lift_22 : decode cX10_lift 22 = .ok (.aload_n 0, 1) := by decide +kernel
theorem dX10_lift_23 : decode cX10_lift 23 = .ok (.getfield 25, 3) := by decide +kernel
theorem dX10_lift_26 : decode cX10_lift 26 = .ok (.iload_n 1, 1) := by decide +kernel
theorem dX10_lift_27 : decode cX10_lift 27 = .ok (.bipush 20, 2) := by decide +kernel
theorem dX10_lift_29 : decode cX10_lift 29 = .ok (.iastore, 1) := by decide +kernel
theorem dX10_lift_30 : decode cX10_lift 30 = .ok (.aload_n 0, 1) := by decide +kernel
theorem dX10_lift_31 : decode cX10_lift 31 = .ok (.getfield 22, 3) := by decide +kernel
theorem dX10_lift_34 : decode cX10_lift 34 = .ok (.iload_n 1, 1) := by decide +kernel
theorem dX10_lift_35 : decode cX10_lift 35 = .ok (.iconst 0, 1) := by decide +kernel
theorem dX10_lift_36 : decode cX10_lift 36 = .ok (.iastore, 1) := by decide +kernel
theorem dX10_lift_37 : decode cX10_lift 37 = .ok (.aload_n 0, 1) := by decide +kernel
theorem dX10_lift_38 : decode cX10_lift 38 = .ok (.getfield 9, 3) := by decide +kernel
theorem dX10_lift_41 : decode cX10_lift 41 = .ok (.bipush 10, 2) := by decide +kernel
theorem dX10_lift_43 : decode cX10_lift 43 = .ok (.iload_n 1, 1) := by decide +kernel
theorem dX10_lift_44 : decode cX10_lift 44 = .ok (.iadd, 1) := by decide +kernel
theorem dX10_lift_45 : decode cX10_lift 45 = .ok (.iconst 4, 1) := by decide +kernel
theorem dX10_lift_46 : decode cX10_lift 46 = .ok (.iastore, 1) := by decide +kernel
theorem dX10_lift_47 : decode cX10_lift 47 = .ok (.iload_n 1, 1) := by decide +kernel
theorem dX10_lift_48 : decode cX10_lift 48 = .ok (.ireturn, 1) := by decide +kernel
theorem dX10_lift_19 : decode cX10_lift 19 = .ok (.bipush (-5), 2) := by decide +kernel
theorem dX10_lift_21 : decode cX10_lift 21 = .ok (.ireturn, 1) := by decide +kernel
theorem dX10_lift_8 : decode cX10_lift 8 = .ok (.iconst (-1), 1) := by decide +kernel
theorem dX10_lift_9 : decode cX10_lift 9 = .ok (.ireturn, 1) := by decide +kernel
theorem dX10_then_0 : decode cX10_then 0 = .ok (.aload_n 0, 1) := by decide +kernel
theorem dX10_then_1 : decode cX10_then 1 = .ok (.iload_n 1, 1) := by decide +kernel
theorem dX10_then_2 : decode cX10_then 2 = .ok (.invokevirtual 133, 3) := by decide +kernel
theorem dX10_then_5 : decode cX10_then 5 = .ok (.ifCond .eq 27, 3) := by decide +kernel
theorem dX10_then_32 : decode cX10_then 32 = .ok (.ldc 140, 2) := by decide +kernel
theorem dX10_then_34 : decode cX10_then 34 = .ok (.ireturn, 1) := by decide +kernel
theorem dX10_then_8 : decode cX10_then 8 = .ok (.iload_n 2, 1) := by decide +kernel
theorem dX10_then_9 : decode cX10_then 9 = .ok (.i2l, 1) := by decide +kernel
theorem dX10_then_10 : decode cX10_then 10 = .ok (.lconst 0, 1) := by decide +kernel
theorem dX10_then_11 : decode cX10_then 11 = .ok (.ldc2_w 244, 3) := by decide +kernel
theorem dX10_then_14 : decode cX10_then 14 = .ok (.invokestatic 101, 3) := by decide +kernel
theorem dX10_then_17 : decode cX10_then 17 = .ok (.ifCond .eq 15, 3) := by decide +kernel
theorem dX10_then_20 : decode cX10_then 20 = .ok (.iload_n 3, 1) := by decide +kernel
theorem dX10_then_21 : decode cX10_then 21 = .ok (.i2l, 1) := by decide +kernel
theorem dX10_then_22 : decode cX10_then 22 = .ok (.lconst 0, 1) := by decide +kernel
theorem dX10_then_23 : decode cX10_then 23 = .ok (.ldc2_w 131, 3) := by decide +kernel
theorem dX10_then_26 : decode cX10_then 26 = .ok (.invokestatic 101, 3) := by decide +kernel
theorem dX10_then_29 : decode cX10_then 29 = .ok (.ifCond .ne 6, 3) := by decide +kernel
theorem dX10_then_35 : decode cX10_then 35 = .ok (.aload_n 0, 1) := by decide +kernel
theorem dX10_then_36 : decode cX10_then 36 = .ok (.aload_n 0, 1) := by decide +kernel
theorem dX10_then_37 : decode cX10_then 37 = .ok (.invokevirtual 246, 3) := by decide +kernel
theorem dX10_then_40 : decode cX10_then 40 = .ok (.invokevirtual 249, 3) := by decide +kernel
theorem dX10_then_43 : decode cX10_then 43 = .ok (.iconst 0, 1) := by decide +kernel
theorem dX10_then_44 : decode cX10_then 44 = .ok (.istore 4, 2) := by decide +kernel
theorem dX10_then_69 : decode cX10_then 69 = .ok (.iload_n 3, 1) := by decide +kernel
theorem dX10_then_70 : decode cX10_then 70 = .ok (.ifCond .ne 12, 3) := by decide +kernel
theorem dX10_then_82 : decode cX10_then 82 = .ok (.iload_n 3, 1) := by decide +kernel
theorem dX10_then_83 : decode cX10_then 83 = .ok (.iconst 1, 1) := by decide +kernel
theorem dX10_then_84 : decode cX10_then 84 = .ok (.if_icmp .ne 12, 3) := by decide +kernel
theorem dX10_then_96 : decode cX10_then 96 = .ok (.aload_n 0, 1) := by decide +kernel
theorem dX10_then_97 : decode cX10_then 97 = .ok (.getfield 43, 3) := by decide +kernel
theorem dX10_then_100 : decode cX10_then 100 = .ok (.iload_n 1, 1) := by decide +kernel
theorem dX10_then_101 : decode cX10_then 101 = .ok (.iaload, 1) := by decide +kernel
theorem dX10_then_102 : decode cX10_then 102 = .ok (.ireturn, 1) := by decide +kernel
theorem dX10_then_87 : decode cX10_then 87 = .ok (.aload_n 0, 1) := by decide +kernel
theorem dX10_then_88 : decode cX10_then 88 = .ok (.getfield 40, 3) := by decide +kernel
theorem dX10_then_91 : decode cX10_then 91 = .ok (.iload_n 1, 1) := by decide +kernel
theorem dX10_then_92 : decode cX10_then 92 = .ok (.iaload, 1) := by decide +kernel
theorem dX10_then_93 : decode cX10_then 93 = .ok (.goto 9, 3) := by decide +kernel
theorem dX10_then_73 : decode cX10_then 73 = .ok (.aload_n 0, 1) := by decide +kernel
theorem dX10_then_74 : decode cX10_then 74 = .ok (.getfield 37, 3) := by decide +kernel
theorem dX10_then_77 : decode cX10_then 77 = .ok (.iload_n 1, 1) := by decide +kernel
theorem dX10_then_78 : decode cX10_then 78 = .ok (.iaload, 1) := by decide +kernel
theorem dX10_then_79 : decode cX10_then 79 = .ok (.goto 23, 3) := by decide +kernel
set_option maxRecDepth 100000 in
set_option maxHeartbeats 4000000 in
theorem g_X10_led (w : Int32) {l : Launch} {G : xG} {M : xM} {J : xJ} (hI : InvR M) : x_M l G fX10_led 0 0 0 [.ref (62), .int (w)] x_SH M J (qPI M J (fun r => True)) := by
  refine xb_of pX10 (Nat.le_of_ble_eq_true rfl) rfl ?_
  obtain ⟨⟨hn, h_hn, e_hn, hw⟩, hbt, ⟨un, wn, h_uw, h_wn, e_un, e_wn⟩, hch, ⟨n, h_n, e_n⟩, htx, ⟨b, h_b, e_b⟩, hkd, ⟨ra, h_ra, e_ra⟩, hsl, ⟨ic, h_ic, e_ic⟩, hS⟩ := hI
  refine xr_iload_n dX10_led_0 1 rfl ?_
  refine xr_if_ne (tgt := 11) dX10_led_1 rfl (fun c1 => ?_) (fun c1 => ?_)
  · refine xr_iload_n dX10_led_11 1 rfl ?_
    refine xr_iconst (v := 1) dX10_led_12 rfl ?_
    refine xr_icmp_ne (tgt := 23) dX10_led_13 rfl (fun c2 => ?_) (fun c2 => ?_)
    · refine xr_iconst (v := -1) dX10_led_23 rfl ?_
      exact xr_iret dX10_led_24 rfl rfl (⟨_, rfl, rfl, rfl, rfl, trivial⟩)
    · refine xr_aload_n dX10_led_16 0 rfl ?_
      refine xb_get (v := M 62 25) flX10_46 dX10_led_17 s_62 rfl rfl ?_
      refine xr_goto (tgt := 24) dX10_led_20 rfl ?_
      exact xr_iret dX10_led_24 rfl rfl (⟨_, rfl, rfl, rfl, rfl, trivial⟩)
  · refine xr_aload_n dX10_led_4 0 rfl ?_
    refine xb_get (v := M 62 24) flX10_258 dX10_led_5 s_62 rfl rfl ?_
    refine xr_goto (tgt := 24) dX10_led_8 rfl ?_
    exact xr_iret dX10_led_24 rfl rfl (⟨_, rfl, rfl, rfl, rfl, trivial⟩)