theorem dX10_isOne_0 : decode cX10_isOne 0 = .ok (.lload_n 0, 1) := by decide +kernel
theorem dX10_isOne_1 : decode cX10_isOne 1 = .ok (.lconst 1, 1) := by decide +kernel
theorem dX10_isOne_2 : decode cX10_isOne 2 = .ok (.ldc2_w 112, 3) := by decide +kernel
theorem dX10_isOne_5 : decode cX10_isOne 5 = .ok (.invokestatic 101, 3) := by decide +kernel
theorem dX10_isOne_8 : decode cX10_isOne 8 = .ok (.ifCond .eq 32, 3) := by decide +kernel
theorem dX10_isOne_40 : decode cX10_isOne 40 = .ok (.iconst 0, 1) := by decide +kernel
theorem dX10_isOne_41 : decode cX10_isOne 41 = .ok (.ireturn, 1) := by decide +kernel
theorem dX10_isOne_11 : decode cX10_isOne 11 = .ok (.lload_n 2, 1) := by decide +kernel
theorem dX10_isOne_12 : decode cX10_isOne 12 = .ok (.lconst 1, 1) := by decide +kernel
theorem dX10_isOne_13 : decode cX10_isOne 13 = .ok (.ldc2_w 112, 3) := by decide +kernel
theorem dX10_isOne_16 : decode cX10_isOne 16 = .ok (.invokestatic 101, 3) := by decide +kernel
theorem dX10_isOne_19 : decode cX10_isOne 19 = .ok (.ifCond .eq 21, 3) := by decide +kernel
theorem dX10_isOne_22 : decode cX10_isOne 22 = .ok (.lload 4, 2) := by decide +kernel
theorem dX10_isOne_24 : decode cX10_isOne 24 = .ok (.ldc2_w 114, 3) := by decide +kernel
theorem dX10_isOne_27 : decode cX10_isOne 27 = .ok (.ldc2_w 112, 3) := by decide +kernel
theorem dX10_isOne_30 : decode cX10_isOne 30 = .ok (.invokestatic 101, 3) := by decide +kernel
theorem dX10_isOne_33 : decode cX10_isOne 33 = .ok (.ifCond .eq 7, 3) := by decide +kernel
theorem dX10_isOne_36 : decode cX10_isOne 36 = .ok (.iconst 1, 1) := by decide +kernel
theorem dX10_isOne_37 : decode cX10_isOne 37 = .ok (.goto 4, 3) := by decide +kernel
theorem dX10_isHoop_0 : decode cX10_isHoop 0 = .ok (.iload_n 1, 1) := by decide +kernel
theorem dX10_isHoop_1 : decode cX10_isHoop 1 = .ok (.i2l, 1) := by decide +kernel
theorem dX10_isHoop_2 : decode cX10_isHoop 2 = .ok (.lconst 0, 1) := by decide +kernel
theorem dX10_isHoop_3 : decode cX10_isHoop 3 = .ok (.aload_n 0, 1) := by decide +kernel
theorem dX10_isHoop_4 : decode cX10_isHoop 4 = .ok (.getfield 109, 3) := by decide +kernel
theorem dX10_isHoop_7 : decode cX10_isHoop 7 = .ok (.iconst 1, 1) := by decide +kernel
theorem dX10_isHoop_8 : decode cX10_isHoop 8 = .ok (.isub, 1) := by decide +kernel
theorem dX10_isHoop_9 : decode cX10_isHoop 9 = .ok (.i2l, 1) := by decide +kernel
theorem dX10_isHoop_10 : decode cX10_isHoop 10 = .ok (.invokestatic 101, 3) := by decide +kernel
theorem dX10_isHoop_13 : decode cX10_isHoop 13 = .ok (.ireturn, 1) := by decide +kernel
theorem dX10_isBody_0 : decode cX10_isBody 0 = .ok (.iload_n 1, 1) := by decide +kernel
theorem dX10_isBody_1 : decode cX10_isBody 1 = .ok (.i2l, 1) := by decide +kernel
theorem dX10_isBody_2 : decode cX10_isBody 2 = .ok (.lconst 0, 1) := by decide +kernel
theorem dX10_isBody_3 : decode cX10_isBody 3 = .ok (.aload_n 0, 1) := by decide +kernel
theorem dX10_isBody_4 : decode cX10_isBody 4 = .ok (.getfield 334, 3) := by decide +kernel
theorem dX10_isBody_7 : decode cX10_isBody 7 = .ok (.iconst 1, 1) := by decide +kernel
theorem dX10_isBody_8 : decode cX10_isBody 8 = .ok (.isub, 1) := by decide +kernel
theorem dX10_isBody_9 : decode cX10_isBody 9 = .ok (.i2l, 1) := by decide +kernel
theorem dX10_isBody_10 : decode cX10_isBody 10 = .ok (.invokestatic 101, 3) := by decide +kernel
theorem dX10_isBody_13 : decode cX10_isBody 13 = .ok (.ireturn, 1) := by decide +kernel
theorem dX10_adds_0 : decode cX10_adds 0 = .ok (.aload_n 0, 1) := by decide +kernel
theorem dX10_adds_1 : decode cX10_adds 1 = .ok (.getfield 9, 3) := by decide +kernel
theorem dX10_adds_4 : decode cX10_adds 4 = .ok (.aload_n 0, 1) := by decide +kernel
theorem dX10_adds_5 : decode cX10_adds 5 = .ok (.getfield 109, 3) := by decide +kernel
theorem dX10_adds_8 : decode cX10_adds 8 = .ok (.iload_n 1, 1) := by decide +kernel
theorem dX10_adds_9 : decode cX10_adds 9 = .ok (.iastore, 1) := by decide +kernel
theorem dX10_adds_10 : decode cX10_adds 10 = .ok (.aload_n 0, 1) := by decide +kernel
theorem dX10_adds_11 : decode cX10_adds 11 = .ok (.getfield 9, 3) := by decide +kernel
theorem dX10_adds_14 : decode cX10_adds 14 = .ok (.iconst 5, 1) := by decide +kernel
theorem dX10_adds_15 : decode cX10_adds 15 = .ok (.aload_n 0, 1) := by decide +kernel
theorem dX10_adds_16 : decode cX10_adds 16 = .ok (.getfield 109, 3) := by decide +kernel
theorem dX10_adds_19 : decode cX10_adds 19 = .ok (.iadd, 1) := by decide +kernel
theorem dX10_adds_20 : decode cX10_adds 20 = .ok (.iload_n 2, 1) := by decide +kernel
theorem dX10_adds_21 : decode cX10_adds 21 = .ok (.iastore, 1) := by decide +kernel
theorem dX10_adds_22 : decode cX10_adds 22 = .ok (.aload_n 0, 1) := by decide +kernel
theorem dX10_adds_23 : decode cX10_adds 23 = .ok (.getfield 9, 3) := by decide +kernel
theorem dX10_adds_26 : decode cX10_adds 26 = .ok (.bipush 10, 2) := by decide +kernel
theorem dX10_adds_28 : decode cX10_adds 28 = .ok (.aload_n 0, 1) := by decide +kernel
theorem dX10_adds_29 : decode cX10_adds 29 = .ok (.getfield 109, 3) := by decide +kernel
theorem dX10_adds_32 : decode cX10_adds 32 = .ok (.iadd, 1) := by decide +kernel
theorem dX10_adds_33 : decode cX10_adds 33 = .ok (.iload_n 3, 1) := by decide +kernel
theorem dX10_adds_34 : decode cX10_adds 34 = .ok (.iastore, 1) := by decide +kernel
theorem dX10_adds_35 : decode cX10_adds 35 = .ok (.aload_n 0, 1) := by decide +kernel
theorem dX10_adds_36 : decode cX10_adds 36 = .ok (.getfield 22, 3) := by decide +kernel
theorem dX10_adds_39 : decode cX10_adds 39 = .ok (.aload_n 0, 1) := by decide +kernel
theorem dX10_adds_40 : decode cX10_adds 40 = .ok (.getfield 109, 3) := by decide +kernel
theorem dX10_adds_43 : decode cX10_adds 43 = .ok (.iconst 0, 1) := by decide +kernel
theorem dX10_adds_44 : decode cX10_adds 44 = .ok (.iastore, 1) := by decide +kernel
theorem dX10_adds_45 : decode cX10_adds 45 = .ok (.aload_n 0, 1) := by decide +kernel
theorem dX10_adds_46 : decode cX10_adds 46 = .ok (.getfield 25, 3) := by decide +kernel
theorem dX10_adds_49 : decode cX10_adds 49 = .ok (.aload_n 0, 1) := by decide +kernel
theorem dX10_adds_50 : decode cX10_adds 50 = .ok (.getfield 109, 3) := by decide +kernel
theorem dX10_adds_53 : decode cX10_adds 53 = .ok (.bipush 20, 2) := by decide +kernel
theorem dX10_adds_55 : decode cX10_adds 55 = .ok (.iastore, 1) := by decide +kernel
theorem dX10_adds_56 : decode cX10_adds 56 = .ok (.aload_n 0, 1) := by decide +kernel
theorem dX10_adds_57 : decode cX10_adds 57 = .ok (.dup, 1) := by decide +kernel
theorem dX10_adds_58 : decode cX10_adds 58 = .ok (.getfield 109, 3) := by decide +kernel
theorem dX10_adds_61 : decode cX10_adds 61 = .ok (.iconst 1, 1) := by decide +kernel
theorem dX10_adds_62 : decode cX10_adds 62 = .ok (.iadd, 1) := by decide +kernel
theorem dX10_adds_63 : decode cX10_adds 63 = .ok (.putfield 109, 3) := by decide +kernel
theorem dX10_adds_66 : decode cX10_adds 66 = .ok (.return_, 1) := by decide +kernel
theorem dX10_hoop_0 : decode cX10_hoop 0 = .ok (.iload_n 1, 1) := by decide +kernel
theorem dX10_hoop_1 : decode cX10_hoop 1 = .ok (.ifCond .lt 22, 3) := by decide +kernel
theorem dX10_hoop_23 : decode cX10_hoop 23 = .ok (.iconst (-1), 1) := by decide +kernel
theorem dX10_hoop_24 : decode cX10_hoop 24 = .ok (.ireturn, 1) := by decide +kernel
theorem dX10_hoop_4 : decode cX10_hoop 4 = .ok (.iload_n 1, 1) := by decide +kernel
theorem dX10_hoop_5 : decode cX10_hoop 5 = .ok (.bipush 10, 2) := by decide +kernel
theorem dX10_hoop_7 : decode cX10_hoop 7 = .ok (.idiv, 1) := by decide +kernel
theorem dX10_hoop_8 : decode cX10_hoop 8 = .ok (.i2l, 1) := by decide +kernel
theorem dX10_hoop_9 : decode cX10_hoop 9 = .ok (.iload_n 1, 1) := by decide +kernel
theorem dX10_hoop_10 : decode cX10_hoop 10 = .ok (.bipush 10, 2) := by decide +kernel
theorem dX10_hoop_12 : decode cX10_hoop 12 = .ok (.irem, 1) := by decide +kernel
theorem dX10_hoop_13 : decode cX10_hoop 13 = .ok (.i2l, 1) := by decide +kernel
theorem dX10_hoop_14 : decode cX10_hoop 14 = .ok (.ldc2_w 116, 3) := by decide +kernel
theorem dX10_hoop_17 : decode cX10_hoop 17 = .ok (.invokestatic 118, 3) := by decide +kernel
theorem dX10_hoop_20 : decode cX10_hoop 20 = .ok (.ifCond .ne 5, 3) := by decide +kernel
theorem dX10_hoop_25 : decode cX10_hoop 25 = .ok (.aload_n 0, 1) := by decide +kernel
theorem dX10_hoop_26 : decode cX10_hoop 26 = .ok (.getfield 109, 3) := by decide +kernel
theorem dX10_hoop_29 : decode cX10_hoop 29 = .ok (.iconst 5, 1) := by decide +kernel
theorem dX10_hoop_30 : decode cX10_hoop 30 = .ok (.if_icmp .ne 6, 3) := by decide +kernel
theorem dX10_hoop_36 : decode cX10_hoop 36 = .ok (.aload_n 0, 1) := by decide +kernel
theorem dX10_hoop_37 : decode cX10_hoop 37 = .ok (.iload_n 1, 1) := by decide +kernel
theorem dX10_hoop_38 : decode cX10_hoop 38 = .ok (.bipush 10, 2) := by decide +kernel
theorem dX10_hoop_40 : decode cX10_hoop 40 = .ok (.idiv, 1) := by decide +kernel
theorem dX10_hoop_41 : decode cX10_hoop 41 = .ok (.iload_n 1, 1) := by decide +kernel
theorem dX10_hoop_42 : decode cX10_hoop 42 = .ok (.bipush 10, 2) := by decide +kernel
theorem dX10_hoop_44 : decode cX10_hoop 44 = .ok (.irem, 1) := by decide +kernel
theorem dX10_hoop_45 : decode cX10_hoop 45 = .ok (.iconst 4, 1) := by decide +kernel
theorem dX10_hoop_46 : decode cX10_hoop 46 = .ok (.invokevirtual 121, 3) := by decide +kernel
theorem dX10_hoop_49 : decode cX10_hoop 49 = .ok (.aload_n 0, 1) := by decide +kernel
theorem dX10_hoop_50 : decode cX10_hoop 50 = .ok (.getfield 109, 3) := by decide +kernel
theorem dX10_hoop_53 : decode cX10_hoop 53 = .ok (.iconst 1, 1) := by decide +kernel
theorem dX10_hoop_54 : decode cX10_hoop 54 = .ok (.isub, 1) := by decide +kernel
theorem dX10_hoop_55 : decode cX10_hoop 55 = .ok (.ireturn, 1) := by decide +kernel
theorem dX10_hoops_0 : decode cX10_hoops 0 = .ok (.iload_n 1, 1) := by decide +kernel
theorem dX10_hoops_1 : decode cX10_hoops 1 = .ok (.invokestatic 125, 3) := by decide +kernel
theorem dX10_hoops_4 : decode cX10_hoops 4 = .ok (.ifCond .eq 15, 3) := by decide +kernel
theorem dX10_hoops_19 : decode cX10_hoops 19 = .ok (.iconst (-1), 1) := by decide +kernel
theorem dX10_hoops_20 : decode cX10_hoops 20 = .ok (.ireturn, 1) := by decide +kernel
theorem dX10_hoops_7 : decode cX10_hoops 7 = .ok (.iload_n 3, 1) := by decide +kernel
theorem dX10_hoops_8 : decode cX10_hoops 8 = .ok (.i2l, 1) := by decide +kernel
theorem dX10_hoops_9 : decode cX10_hoops 9 = .ok (.lconst 1, 1) := by decide +kernel
theorem dX10_hoops_10 : decode cX10_hoops 10 = .ok (.ldc2_w 129, 3) := by decide +kernel
theorem dX10_hoops_13 : decode cX10_hoops 13 = .ok (.invokestatic 101, 3) := by decide +kernel
theorem dX10_hoops_16 : decode cX10_hoops 16 = .ok (.ifCond .ne 5, 3) := by decide +kernel
theorem dX10_hoops_21 : decode cX10_hoops 21 = .ok (.aload_n 0, 1) := by decide +kernel
theorem dX10_hoops_22 : decode cX10_hoops 22 = .ok (.getfield 75, 3) := by decide +kernel
theorem dX10_hoops_25 : decode cX10_hoops 25 = .ok (.iload_n 1, 1) := by decide +kernel
theorem dX10_hoops_26 : decode cX10_hoops 26 = .ok (.iaload, 1) := by decide +kernel
theorem dX10_hoops_27 : decode cX10_hoops 27 = .ok (.ifCond .lt 17, 3) := by decide +kernel
theorem dX10_hoops_44 : decode cX10_hoops 44 = .ok (.iconst 0, 1) := by decide +kernel
theorem dX10_hoops_45 : decode cX10_hoops 45 = .ok (.istore 4, 2) := by decide +kernel
theorem dX10_hoops_47 : decode cX10_hoops 47 = .ok (.aload_n 0, 1) := by decide +kernel
theorem dX10_hoops_48 : decode cX10_hoops 48 = .ok (.getfield 75, 3) := by decide +kernel
theorem dX10_hoops_51 : decode cX10_hoops 51 = .ok (.iload_n 1, 1) := by decide +kernel
theorem dX10_hoops_52 : decode cX10_hoops 52 = .ok (.iaload, 1) := by decide +kernel
theorem dX10_hoops_53 : decode cX10_hoops 53 = .ok (.bipush 50, 2) := by decide +kernel
theorem dX10_hoops_55 : decode cX10_hoops 55 = .ok (.if_icmp .ne 11, 3) := by decide +kernel
theorem dX10_hoops_66 : decode cX10_hoops 66 = .ok (.iconst 0, 1) := by decide +kernel
theorem dX10_hoops_67 : decode cX10_hoops 67 = .ok (.istore 5, 2) := by decide +kernel
theorem dX10_hoops_69 : decode cX10_hoops 69 = .ok (.iload 5, 2) := by decide +kernel
theorem dX10_hoops_71 : decode cX10_hoops 71 = .ok (.ifCond .eq 140, 3) := by decide +kernel
theorem dX10_hoops_211 : decode cX10_hoops 211 = .ok (.iload 4, 2) := by decide +kernel
theorem dX10_hoops_213 : decode cX10_hoops 213 = .ok (.ireturn, 1) := by decide +kernel
theorem dX10_led_0 : decode cX10_led 0 = .ok (.iload_n 1, 1) := by decide +kernel
theorem dX10_led_1 : decode cX10_led 1 = .ok (.ifCond .ne 10, 3) := by decide +kernel
theorem dX10_led_11 : decode cX10_led 11 = .ok (.iload_n 1, 1) := by decide +kernel
theorem dX10_led_12 : decode cX10_led 12 = .ok (.iconst 1, 1) := by decide +kernel
theorem dX10_led_13 : decode cX10_led 13 = .ok (.if_icmp .ne 10, 3) := by decide +kernel
theorem dX10_led_23 : decode cX10_led 23 = .ok (.iconst (-1), 1) := by decide +kernel
theorem dX10_led_24 : decode cX10_led 24 = .ok (.ireturn, 1) := by decide +kernel
theorem dX10_led_16 : decode cX10_led 16 = .ok (.aload_n 0, 1) := by decide +kernel
theorem dX10_led_17 : decode cX10_led 17 = .ok (.getfield 46, 3) := by decide +kernel
theorem dX10_led_20 : decode cX10_led 20 = .ok (.goto 4, 3) := by decide +kernel
theorem dX10_led_4 : decode cX10_led 4 = .ok (.aload_n 0, 1) := by decide +kernel
theorem dX10_led_5 : decode cX10_led 5 = .ok (.getfield 258, 3) := by decide +kernel
theorem dX10_led_8 : decode cX10_led 8 = .ok (.goto 16, 3) := by decide +kernel
theorem dX10_lift_0 : decode cX10_lift 0 = .ok (.aload_n 0, 1) := by decide +kernel
theorem dX10_lift_1 : decode cX10_lift 1 = .ok (.iload_n 1, 1) := by decide +kernel
theorem dX10_lift_2 : decode cX10_lift 2 = .ok (.invokevirtual 133, 3) := by decide +kernel
theorem dX10_lift_5 : decode cX10_lift 5 = .ok (.ifCond .ne 5, 3) := by decide +kernel
theorem dX10_lift_8 : decode cX10_lift 8 = .ok (.iconst (-1), 1) := by decide +kernel
theorem dX10_lift_9 : decode cX10_lift 9 = .ok (.ireturn, 1) := by decide +kernel
theorem dX10_then_0 : decode cX10_then 0 = .ok (.aload_n 0, 1) := by decide +kernel
theorem dX10_then_1 : decode cX10_then 1 = .ok (.iload_n 1, 1) := by decide +kernel
theorem dX10_then_2 : decode cX10_then 2 = .ok (.invokevirtual 133, 3) := by decide +kernel
theorem dX10_then_5 : decode cX10_then 5 = .ok (.ifCond .eq 27, 3) := by decide +kernel
theorem dX10_then_32 : decode cX10_then 32 = .ok (.ldc 140, 2) := by decide +kernel
theorem dX10_then_34 : decode cX10_then 34 = .ok (.ireturn, 1) := by decide +kernel
theorem dX10_falls_0 : decode cX10_falls 0 = .ok (.aload_n 0, 1) := by decide +kernel
theorem dX10_falls_1 : decode cX10_falls 1 = .ok (.iload_n 1, 1) := by decide +kernel
theorem dX10_falls_2 : decode cX10_falls 2 = .ok (.invokevirtual 133, 3) := by decide +kernel
theorem dX10_falls_5 : decode cX10_falls 5 = .ok (.ifCond .ne 5, 3) := by decide +kernel
theorem dX10_falls_8 : decode cX10_falls 8 = .ok (.iconst (-1), 1) := by decide +kernel
theorem dX10_falls_9 : decode cX10_falls 9 = .ok (.ireturn, 1) := by decide +kernel
theorem dX10_rescue_0 : decode cX10_rescue 0 = .ok (.aload_n 0, 1) := by decide +kernel
theorem dX10_rescue_1 : decode cX10_rescue 1 = .ok (.iload_n 1, 1) := by decide +kernel
theorem dX10_rescue_2 : decode cX10_rescue 2 = .ok (.invokevirtual 133, 3) := by decide +kernel
theorem dX10_rescue_5 : decode cX10_rescue 5 = .ok (.ifCond .eq 31, 3) := by decide +kernel
theorem dX10_rescue_36 : decode cX10_rescue 36 = .ok (.iconst (-1), 1) := by decide +kernel
theorem dX10_rescue_37 : decode cX10_rescue 37 = .ok (.ireturn, 1) := by decide +kernel
theorem dX10_start_0 : decode cX10_start 0 = .ok (.aload_n 0, 1) := by decide +kernel
theorem dX10_start_1 : decode cX10_start 1 = .ok (.iload_n 1, 1) := by decide +kernel
theorem dX10_start_2 : decode cX10_start 2 = .ok (.invokevirtual 133, 3) := by decide +kernel
theorem dX10_start_5 : decode cX10_start 5 = .ok (.ifCond .ne 6, 3) := by decide +kernel
theorem dX10_start_8 : decode cX10_start 8 = .ok (.ldc 140, 2) := by decide +kernel
theorem dX10_start_10 : decode cX10_start 10 = .ok (.ireturn, 1) := by decide +kernel
theorem dX10_rowIs_0 : decode cX10_rowIs 0 = .ok (.iload_n 1, 1) := by decide +kernel
theorem dX10_rowIs_1 : decode cX10_rowIs 1 = .ok (.invokestatic 125, 3) := by decide +kernel
theorem dX10_rowIs_4 : decode cX10_rowIs 4 = .ok (.ifCond .ne 7, 3) := by decide +kernel
theorem dX10_rowIs_11 : decode cX10_rowIs 11 = .ok (.aload_n 0, 1) := by decide +kernel
theorem dX10_rowIs_12 : decode cX10_rowIs 12 = .ok (.getfield 75, 3) := by decide +kernel
theorem dX10_rowIs_15 : decode cX10_rowIs 15 = .ok (.iload_n 1, 1) := by decide +kernel
theorem dX10_rowIs_16 : decode cX10_rowIs 16 = .ok (.iaload, 1) := by decide +kernel
theorem dX10_rowIs_17 : decode cX10_rowIs 17 = .ok (.ifCond .ge 8, 3) := by decide +kernel
theorem dX10_rowIs_20 : decode cX10_rowIs 20 = .ok (.bipush (-11), 2) := by decide +kernel
theorem dX10_rowIs_22 : decode cX10_rowIs 22 = .ok (.goto 20, 3) := by decide +kernel
theorem dX10_rowIs_42 : decode cX10_rowIs 42 = .ok (.ireturn, 1) := by decide +kernel
theorem dX10_rowIs_7 : decode cX10_rowIs 7 = .ok (.iconst (-1), 1) := by decide +kernel
theorem dX10_rowIs_8 : decode cX10_rowIs 8 = .ok (.goto 34, 3) := by decide +kernel
theorem dX10_music_0 : decode cX10_music 0 = .ok (.aload_n 0, 1) := by decide +kernel
theorem dX10_music_1 : decode cX10_music 1 = .ok (.iload_n 1, 1) := by decide +kernel
theorem dX10_music_2 : decode cX10_music 2 = .ok (.invokevirtual 285, 3) := by decide +kernel
theorem dX10_music_5 : decode cX10_music 5 = .ok (.ifCond .ge 9, 3) := by decide +kernel
theorem dX10_music_8 : decode cX10_music 8 = .ok (.aload_n 0, 1) := by decide +kernel
theorem dX10_music_9 : decode cX10_music 9 = .ok (.iload_n 1, 1) := by decide +kernel
theorem dX10_music_10 : decode cX10_music 10 = .ok (.invokevirtual 285, 3) := by decide +kernel
theorem dX10_music_13 : decode cX10_music 13 = .ok (.ireturn, 1) := by decide +kernel
theorem dX10_judge_0 : decode cX10_judge 0 = .ok (.aload_n 0, 1) := by decide +kernel
theorem dX10_judge_1 : decode cX10_judge 1 = .ok (.iload_n 1, 1) := by decide +kernel
theorem dX10_judge_2 : decode cX10_judge 2 = .ok (.invokevirtual 285, 3) := by decide +kernel
theorem dX10_judge_5 : decode cX10_judge 5 = .ok (.iconst (-1), 1) := by decide +kernel
theorem dX10_judge_6 : decode cX10_judge 6 = .ok (.if_icmp .eq 11, 3) := by decide +kernel
theorem dX10_judge_17 : decode cX10_judge 17 = .ok (.iconst (-1), 1) := by decide +kernel
theorem dX10_judge_18 : decode cX10_judge 18 = .ok (.ireturn, 1) := by decide +kernel
theorem dX10_judge_9 : decode cX10_judge 9 = .ok (.aload_n 0, 1) := by decide +kernel
theorem dX10_judge_10 : decode cX10_judge 10 = .ok (.iload_n 2, 1) := by decide +kernel
theorem dX10_judge_11 : decode cX10_judge 11 = .ok (.invokevirtual 133, 3) := by decide +kernel
theorem dX10_judge_14 : decode cX10_judge 14 = .ok (.ifCond .ne 5, 3) := by decide +kernel
theorem dX10_begun_0 : decode cX10_begun 0 = .ok (.aload_n 0, 1) := by decide +kernel
theorem dX10_begun_1 : decode cX10_begun 1 = .ok (.iload_n 1, 1) := by decide +kernel
theorem dX10_begun_2 : decode cX10_begun 2 = .ok (.invokevirtual 285, 3) := by decide +kernel
theorem dX10_begun_5 : decode cX10_begun 5 = .ok (.ifCond .lt 21, 3) := by decide +kernel
theorem dX10_begun_26 : decode cX10_begun 26 = .ok (.ldc 140, 2) := by decide +kernel
theorem dX10_begun_28 : decode cX10_begun 28 = .ok (.ireturn, 1) := by decide +kernel
theorem dX10_skill_0 : decode cX10_skill 0 = .ok (.iload_n 1, 1) := by decide +kernel
theorem dX10_skill_1 : decode cX10_skill 1 = .ok (.invokestatic 293, 3) := by decide +kernel
theorem dX10_skill_4 : decode cX10_skill 4 = .ok (.ifCond .eq 15, 3) := by decide +kernel
theorem dX10_skill_19 : decode cX10_skill 19 = .ok (.iconst (-1), 1) := by decide +kernel
theorem dX10_skill_20 : decode cX10_skill 20 = .ok (.ireturn, 1) := by decide +kernel
theorem dX10_skill_7 : decode cX10_skill 7 = .ok (.iload_n 2, 1) := by decide +kernel
theorem dX10_skill_8 : decode cX10_skill 8 = .ok (.i2l, 1) := by decide +kernel
theorem dX10_skill_9 : decode cX10_skill 9 = .ok (.lconst 0, 1) := by decide +kernel
theorem dX10_skill_10 : decode cX10_skill 10 = .ok (.ldc2_w 296, 3) := by decide +kernel
theorem dX10_skill_13 : decode cX10_skill 13 = .ok (.invokestatic 101, 3) := by decide +kernel
theorem dX10_skill_16 : decode cX10_skill 16 = .ok (.ifCond .ne 5, 3) := by decide +kernel
theorem dX10_skill_21 : decode cX10_skill 21 = .ok (.aload_n 0, 1) := by decide +kernel
theorem dX10_skill_22 : decode cX10_skill 22 = .ok (.getfield 50, 3) := by decide +kernel
theorem dX10_skill_25 : decode cX10_skill 25 = .ok (.iload_n 1, 1) := by decide +kernel
theorem dX10_skill_26 : decode cX10_skill 26 = .ok (.iaload, 1) := by decide +kernel
theorem dX10_skill_27 : decode cX10_skill 27 = .ok (.istore_n 3, 1) := by decide +kernel
theorem dX10_skill_28 : decode cX10_skill 28 = .ok (.aload_n 0, 1) := by decide +kernel
theorem dX10_skill_29 : decode cX10_skill 29 = .ok (.getfield 50, 3) := by decide +kernel
theorem dX10_skill_32 : decode cX10_skill 32 = .ok (.iload_n 1, 1) := by decide +kernel
theorem dX10_skill_33 : decode cX10_skill 33 = .ok (.iload_n 2, 1) := by decide +kernel
theorem dX10_skill_34 : decode cX10_skill 34 = .ok (.iastore, 1) := by decide +kernel
theorem dX10_skill_35 : decode cX10_skill 35 = .ok (.aload_n 0, 1) := by decide +kernel
theorem dX10_skill_36 : decode cX10_skill 36 = .ok (.getfield 53, 3) := by decide +kernel
theorem dX10_skill_39 : decode cX10_skill 39 = .ok (.iload_n 1, 1) := by decide +kernel
theorem dX10_skill_40 : decode cX10_skill 40 = .ok (.iconst 0, 1) := by decide +kernel
theorem dX10_skill_41 : decode cX10_skill 41 = .ok (.iastore, 1) := by decide +kernel
theorem dX10_skill_42 : decode cX10_skill 42 = .ok (.iload_n 3, 1) := by decide +kernel
theorem dX10_skill_43 : decode cX10_skill 43 = .ok (.ireturn, 1) := by decide +kernel
theorem dX10_image_0 : decode cX10_image 0 = .ok (.aload_n 0, 1) := by decide +kernel
theorem dX10_image_1 : decode cX10_image 1 = .ok (.iconst 1, 1) := by decide +kernel
theorem dX10_image_2 : decode cX10_image 2 = .ok (.putfield 327, 3) := by decide +kernel
theorem dX10_image_5 : decode cX10_image 5 = .ok (.aload_n 0, 1) := by decide +kernel
theorem dX10_image_6 : decode cX10_image 6 = .ok (.aload_n 0, 1) := by decide +kernel
theorem dX10_image_7 : decode cX10_image 7 = .ok (.getfield 109, 3) := by decide +kernel
theorem dX10_image_10 : decode cX10_image 10 = .ok (.putfield 331, 3) := by decide +kernel
theorem dX10_image_13 : decode cX10_image 13 = .ok (.aload_n 0, 1) := by decide +kernel
theorem dX10_image_14 : decode cX10_image 14 = .ok (.getfield 66, 3) := by decide +kernel
theorem dX10_image_17 : decode cX10_image 17 = .ok (.iconst 0, 1) := by decide +kernel
theorem dX10_image_18 : decode cX10_image 18 = .ok (.aload_n 0, 1) := by decide +kernel
theorem dX10_image_19 : decode cX10_image 19 = .ok (.getfield 151, 3) := by decide +kernel
theorem dX10_image_22 : decode cX10_image 22 = .ok (.iastore, 1) := by decide +kernel
theorem dX10_image_23 : decode cX10_image 23 = .ok (.aload_n 0, 1) := by decide +kernel
theorem dX10_image_24 : decode cX10_image 24 = .ok (.getfield 66, 3) := by decide +kernel
theorem dX10_image_27 : decode cX10_image 27 = .ok (.iconst 1, 1) := by decide +kernel
theorem dX10_image_28 : decode cX10_image 28 = .ok (.aload_n 0, 1) := by decide +kernel
theorem dX10_image_29 : decode cX10_image 29 = .ok (.getfield 258, 3) := by decide +kernel
theorem dX10_image_32 : decode cX10_image 32 = .ok (.iastore, 1) := by decide +kernel
theorem dX10_image_33 : decode cX10_image 33 = .ok (.aload_n 0, 1) := by decide +kernel
theorem dX10_image_34 : decode cX10_image 34 = .ok (.getfield 66, 3) := by decide +kernel
theorem dX10_image_37 : decode cX10_image 37 = .ok (.iconst 2, 1) := by decide +kernel
theorem dX10_image_38 : decode cX10_image 38 = .ok (.aload_n 0, 1) := by decide +kernel
theorem dX10_image_39 : decode cX10_image 39 = .ok (.getfield 46, 3) := by decide +kernel
theorem dX10_image_42 : decode cX10_image 42 = .ok (.iastore, 1) := by decide +kernel
theorem dX10_image_43 : decode cX10_image 43 = .ok (.iconst 0, 1) := by decide +kernel
theorem dX10_image_44 : decode cX10_image 44 = .ok (.istore_n 1, 1) := by decide +kernel
theorem dX10_image_45 : decode cX10_image 45 = .ok (.iload_n 1, 1) := by decide +kernel
theorem dX10_image_46 : decode cX10_image 46 = .ok (.aload_n 0, 1) := by decide +kernel
theorem dX10_image_47 : decode cX10_image 47 = .ok (.getfield 109, 3) := by decide +kernel
theorem dX10_image_50 : decode cX10_image 50 = .ok (.if_icmp .ge 60, 3) := by decide +kernel
theorem dX10_image_110 : decode cX10_image 110 = .ok (.aload_n 0, 1) := by decide +kernel
theorem dX10_image_111 : decode cX10_image 111 = .ok (.getfield 151, 3) := by decide +kernel
theorem dX10_image_114 : decode cX10_image 114 = .ok (.ireturn, 1) := by decide +kernel
theorem dX10_back_0 : decode cX10_back 0 = .ok (.aload_n 0, 1) := by decide +kernel
theorem dX10_back_1 : decode cX10_back 1 = .ok (.getfield 327, 3) := by decide +kernel
theorem dX10_back_4 : decode cX10_back 4 = .ok (.ifCond .ne 6, 3) := by decide +kernel
theorem dX10_back_7 : decode cX10_back 7 = .ok (.bipush (-5), 2) := by decide +kernel
theorem dX10_back_9 : decode cX10_back 9 = .ok (.ireturn, 1) := by decide +kernel
theorem dX10_undo_0 : decode cX10_undo 0 = .ok (.aload_n 0, 1) := by decide +kernel
theorem dX10_undo_1 : decode cX10_undo 1 = .ok (.getfield 91, 3) := by decide +kernel
theorem dX10_undo_4 : decode cX10_undo 4 = .ok (.ifCond .ne 6, 3) := by decide +kernel
theorem dX10_undo_7 : decode cX10_undo 7 = .ok (.bipush (-5), 2) := by decide +kernel
theorem dX10_undo_9 : decode cX10_undo 9 = .ok (.ireturn, 1) := by decide +kernel
theorem dX10_redo_0 : decode cX10_redo 0 = .ok (.aload_n 0, 1) := by decide +kernel
theorem dX10_redo_1 : decode cX10_redo 1 = .ok (.getfield 91, 3) := by decide +kernel
theorem dX10_redo_4 : decode cX10_redo 4 = .ok (.aload_n 0, 1) := by decide +kernel
theorem dX10_redo_5 : decode cX10_redo 5 = .ok (.getfield 94, 3) := by decide +kernel
theorem dX10_redo_8 : decode cX10_redo 8 = .ok (.if_icmp .ne 6, 3) := by decide +kernel
theorem dX10_redo_11 : decode cX10_redo 11 = .ok (.bipush (-5), 2) := by decide +kernel
theorem dX10_redo_13 : decode cX10_redo 13 = .ok (.ireturn, 1) := by decide +kernel
theorem dX10_body_0 : decode cX10_body 0 = .ok (.iload_n 1, 1) := by decide +kernel
theorem dX10_body_1 : decode cX10_body 1 = .ok (.i2l, 1) := by decide +kernel
theorem dX10_body_2 : decode cX10_body 2 = .ok (.lconst 0, 1) := by decide +kernel
theorem dX10_body_3 : decode cX10_body 3 = .ok (.ldc2_w 143, 3) := by decide +kernel
theorem dX10_body_6 : decode cX10_body 6 = .ok (.invokestatic 101, 3) := by decide +kernel
theorem dX10_body_9 : decode cX10_body 9 = .ok (.ifCond .ne 5, 3) := by decide +kernel
theorem dX10_body_14 : decode cX10_body 14 = .ok (.aload_n 0, 1) := by decide +kernel
theorem dX10_body_15 : decode cX10_body 15 = .ok (.getfield 334, 3) := by decide +kernel
theorem dX10_body_18 : decode cX10_body 18 = .ok (.bipush 50, 2) := by decide +kernel
theorem dX10_body_20 : decode cX10_body 20 = .ok (.if_icmp .ne 6, 3) := by decide +kernel
theorem dX10_body_26 : decode cX10_body 26 = .ok (.aload_n 0, 1) := by decide +kernel
theorem dX10_body_27 : decode cX10_body 27 = .ok (.getfield 69, 3) := by decide +kernel
theorem dX10_body_30 : decode cX10_body 30 = .ok (.aload_n 0, 1) := by decide +kernel
theorem dX10_body_31 : decode cX10_body 31 = .ok (.getfield 334, 3) := by decide +kernel
theorem dX10_body_34 : decode cX10_body 34 = .ok (.iload_n 1, 1) := by decide +kernel
theorem dX10_body_35 : decode cX10_body 35 = .ok (.iastore, 1) := by decide +kernel
theorem dX10_body_36 : decode cX10_body 36 = .ok (.aload_n 0, 1) := by decide +kernel
theorem dX10_body_37 : decode cX10_body 37 = .ok (.dup, 1) := by decide +kernel
theorem dX10_body_38 : decode cX10_body 38 = .ok (.getfield 334, 3) := by decide +kernel
theorem dX10_body_41 : decode cX10_body 41 = .ok (.iconst 1, 1) := by decide +kernel
theorem dX10_body_42 : decode cX10_body 42 = .ok (.iadd, 1) := by decide +kernel
theorem dX10_body_43 : decode cX10_body 43 = .ok (.putfield 334, 3) := by decide +kernel
theorem dX10_body_46 : decode cX10_body 46 = .ok (.aload_n 0, 1) := by decide +kernel
theorem dX10_body_47 : decode cX10_body 47 = .ok (.getfield 334, 3) := by decide +kernel
theorem dX10_body_50 : decode cX10_body 50 = .ok (.iconst 1, 1) := by decide +kernel
theorem dX10_body_51 : decode cX10_body 51 = .ok (.isub, 1) := by decide +kernel
theorem dX10_body_52 : decode cX10_body 52 = .ok (.ireturn, 1) := by decide +kernel
theorem dX10_body_12 : decode cX10_body 12 = .ok (.iconst (-1), 1) := by decide +kernel
theorem dX10_body_13 : decode cX10_body 13 = .ok (.ireturn, 1) := by decide +kernel
theorem dX10_act_0 : decode cX10_act 0 = .ok (.aload_n 0, 1) := by decide +kernel
theorem dX10_act_1 : decode cX10_act 1 = .ok (.iconst 0, 1) := by decide +kernel
theorem dX10_act_2 : decode cX10_act 2 = .ok (.putfield 337, 3) := by decide +kernel
theorem dX10_act_5 : decode cX10_act 5 = .ok (.aload_n 0, 1) := by decide +kernel
theorem dX10_act_6 : decode cX10_act 6 = .ok (.iload_n 1, 1) := by decide +kernel
theorem dX10_act_7 : decode cX10_act 7 = .ok (.invokevirtual 361, 3) := by decide +kernel
theorem dX10_act_10 : decode cX10_act 10 = .ok (.ifCond .ne 5, 3) := by decide +kernel
theorem dX10_act_13 : decode cX10_act 13 = .ok (.iconst 0, 1) := by decide +kernel
theorem dX10_act_14 : decode cX10_act 14 = .ok (.ireturn, 1) := by decide +kernel
theorem dX10_keep_0 : decode cX10_keep 0 = .ok (.iload_n 1, 1) := by decide +kernel
theorem dX10_keep_1 : decode cX10_keep 1 = .ok (.invokestatic 125, 3) := by decide +kernel
theorem dX10_keep_4 : decode cX10_keep 4 = .ok (.ifCond .eq 16, 3) := by decide +kernel
theorem dX10_keep_20 : decode cX10_keep 20 = .ok (.iconst (-1), 1) := by decide +kernel
theorem dX10_keep_21 : decode cX10_keep 21 = .ok (.ireturn, 1) := by decide +kernel
theorem dX10_keep_7 : decode cX10_keep 7 = .ok (.iload_n 2, 1) := by decide +kernel
theorem dX10_keep_8 : decode cX10_keep 8 = .ok (.iconst (-1), 1) := by decide +kernel
theorem dX10_keep_9 : decode cX10_keep 9 = .ok (.if_icmp .eq 13, 3) := by decide +kernel
theorem dX10_keep_22 : decode cX10_keep 22 = .ok (.aload_n 0, 1) := by decide +kernel
theorem dX10_keep_23 : decode cX10_keep 23 = .ok (.getfield 75, 3) := by decide +kernel
theorem dX10_keep_26 : decode cX10_keep 26 = .ok (.iload_n 1, 1) := by decide +kernel
theorem dX10_keep_27 : decode cX10_keep 27 = .ok (.iload_n 2, 1) := by decide +kernel
theorem dX10_keep_28 : decode cX10_keep 28 = .ok (.iastore, 1) := by decide +kernel
theorem dX10_keep_29 : decode cX10_keep 29 = .ok (.aload_n 0, 1) := by decide +kernel
theorem dX10_keep_30 : decode cX10_keep 30 = .ok (.getfield 78, 3) := by decide +kernel
theorem dX10_keep_33 : decode cX10_keep 33 = .ok (.iload_n 1, 1) := by decide +kernel
theorem dX10_keep_34 : decode cX10_keep 34 = .ok (.iconst 0, 1) := by decide +kernel
theorem dX10_keep_35 : decode cX10_keep 35 = .ok (.iastore, 1) := by decide +kernel
theorem dX10_keep_36 : decode cX10_keep 36 = .ok (.iconst 1, 1) := by decide +kernel
theorem dX10_keep_37 : decode cX10_keep 37 = .ok (.ireturn, 1) := by decide +kernel
theorem dX10_keep_12 : decode cX10_keep 12 = .ok (.aload_n 0, 1) := by decide +kernel
theorem dX10_keep_13 : decode cX10_keep 13 = .ok (.iload_n 2, 1) := by decide +kernel
theorem dX10_keep_14 : decode cX10_keep 14 = .ok (.invokevirtual 361, 3) := by decide +kernel
theorem dX10_keep_17 : decode cX10_keep 17 = .ok (.ifCond .ne 5, 3) := by decide +kernel
theorem dX10_shift_0 : decode cX10_shift 0 = .ok (.iload_n 1, 1) := by decide +kernel
theorem dX10_shift_1 : decode cX10_shift 1 = .ok (.invokestatic 125, 3) := by decide +kernel
theorem dX10_shift_4 : decode cX10_shift 4 = .ok (.ifCond .eq 10, 3) := by decide +kernel
theorem dX10_shift_14 : decode cX10_shift 14 = .ok (.iconst (-1), 1) := by decide +kernel
theorem dX10_shift_15 : decode cX10_shift 15 = .ok (.ireturn, 1) := by decide +kernel
theorem dX10_shift_7 : decode cX10_shift 7 = .ok (.iload_n 3, 1) := by decide +kernel
theorem dX10_shift_8 : decode cX10_shift 8 = .ok (.invokestatic 125, 3) := by decide +kernel
theorem dX10_shift_11 : decode cX10_shift 11 = .ok (.ifCond .ne 5, 3) := by decide +kernel
theorem dX10_shift_16 : decode cX10_shift 16 = .ok (.aload_n 0, 1) := by decide +kernel
theorem dX10_shift_17 : decode cX10_shift 17 = .ok (.getfield 75, 3) := by decide +kernel
theorem dX10_shift_20 : decode cX10_shift 20 = .ok (.iload_n 1, 1) := by decide +kernel
theorem dX10_shift_21 : decode cX10_shift 21 = .ok (.iaload, 1) := by decide +kernel
theorem dX10_shift_22 : decode cX10_shift 22 = .ok (.ifCond .lt 12, 3) := by decide +kernel
theorem dX10_shift_34 : decode cX10_shift 34 = .ok (.bipush (-11), 2) := by decide +kernel
theorem dX10_shift_36 : decode cX10_shift 36 = .ok (.ireturn, 1) := by decide +kernel
theorem dX10_taken_0 : decode cX10_taken 0 = .ok (.iload_n 1, 1) := by decide +kernel
theorem dX10_taken_1 : decode cX10_taken 1 = .ok (.invokestatic 125, 3) := by decide +kernel
theorem dX10_taken_4 : decode cX10_taken 4 = .ok (.ifCond .eq 15, 3) := by decide +kernel
theorem dX10_taken_19 : decode cX10_taken 19 = .ok (.iconst (-1), 1) := by decide +kernel
theorem dX10_taken_20 : decode cX10_taken 20 = .ok (.ireturn, 1) := by decide +kernel
theorem dX10_taken_7 : decode cX10_taken 7 = .ok (.iload_n 2, 1) := by decide +kernel
theorem dX10_taken_8 : decode cX10_taken 8 = .ok (.i2l, 1) := by decide +kernel
theorem dX10_taken_9 : decode cX10_taken 9 = .ok (.lconst 0, 1) := by decide +kernel
theorem dX10_taken_10 : decode cX10_taken 10 = .ok (.ldc2_w 143, 3) := by decide +kernel
theorem dX10_taken_13 : decode cX10_taken 13 = .ok (.invokestatic 101, 3) := by decide +kernel
theorem dX10_taken_16 : decode cX10_taken 16 = .ok (.ifCond .ne 5, 3) := by decide +kernel
theorem dX10_taken_21 : decode cX10_taken 21 = .ok (.aload_n 0, 1) := by decide +kernel
theorem dX10_taken_22 : decode cX10_taken 22 = .ok (.getfield 75, 3) := by decide +kernel
theorem dX10_taken_25 : decode cX10_taken 25 = .ok (.iload_n 1, 1) := by decide +kernel
theorem dX10_taken_26 : decode cX10_taken 26 = .ok (.iaload, 1) := by decide +kernel
theorem dX10_taken_27 : decode cX10_taken 27 = .ok (.ifCond .ge 6, 3) := by decide +kernel
theorem dX10_taken_30 : decode cX10_taken 30 = .ok (.bipush (-11), 2) := by decide +kernel
theorem dX10_taken_32 : decode cX10_taken 32 = .ok (.ireturn, 1) := by decide +kernel
theorem dX10_feed_0 : decode cX10_feed 0 = .ok (.iload_n 1, 1) := by decide +kernel
theorem dX10_feed_1 : decode cX10_feed 1 = .ok (.i2l, 1) := by decide +kernel
theorem dX10_feed_2 : decode cX10_feed 2 = .ok (.lconst 0, 1) := by decide +kernel
theorem dX10_feed_3 : decode cX10_feed 3 = .ok (.ldc2_w 160, 3) := by decide +kernel
theorem dX10_feed_6 : decode cX10_feed 6 = .ok (.invokestatic 101, 3) := by decide +kernel
theorem dX10_feed_9 : decode cX10_feed 9 = .ok (.ifCond .ne 5, 3) := by decide +kernel
theorem dX10_feed_14 : decode cX10_feed 14 = .ok (.aload_n 0, 1) := by decide +kernel
theorem dX10_feed_15 : decode cX10_feed 15 = .ok (.getfield 162, 3) := by decide +kernel
theorem dX10_feed_18 : decode cX10_feed 18 = .ok (.bipush 120, 2) := by decide +kernel
theorem dX10_feed_20 : decode cX10_feed 20 = .ok (.if_icmp .ne 6, 3) := by decide +kernel
theorem dX10_feed_26 : decode cX10_feed 26 = .ok (.aload_n 0, 1) := by decide +kernel
theorem dX10_feed_27 : decode cX10_feed 27 = .ok (.getfield 28, 3) := by decide +kernel
theorem dX10_feed_30 : decode cX10_feed 30 = .ok (.aload_n 0, 1) := by decide +kernel
theorem dX10_feed_31 : decode cX10_feed 31 = .ok (.getfield 162, 3) := by decide +kernel
theorem dX10_feed_34 : decode cX10_feed 34 = .ok (.iload_n 1, 1) := by decide +kernel
theorem dX10_feed_35 : decode cX10_feed 35 = .ok (.iastore, 1) := by decide +kernel
theorem dX10_feed_36 : decode cX10_feed 36 = .ok (.aload_n 0, 1) := by decide +kernel
theorem dX10_feed_37 : decode cX10_feed 37 = .ok (.dup, 1) := by decide +kernel
theorem dX10_feed_38 : decode cX10_feed 38 = .ok (.getfield 162, 3) := by decide +kernel
theorem dX10_feed_41 : decode cX10_feed 41 = .ok (.iconst 1, 1) := by decide +kernel
theorem dX10_feed_42 : decode cX10_feed 42 = .ok (.iadd, 1) := by decide +kernel
theorem dX10_feed_43 : decode cX10_feed 43 = .ok (.putfield 162, 3) := by decide +kernel
theorem dX10_feed_46 : decode cX10_feed 46 = .ok (.aload_n 0, 1) := by decide +kernel
theorem dX10_feed_47 : decode cX10_feed 47 = .ok (.getfield 162, 3) := by decide +kernel
theorem dX10_feed_50 : decode cX10_feed 50 = .ok (.ireturn, 1) := by decide +kernel
theorem dX10_feed_12 : decode cX10_feed 12 = .ok (.iconst (-1), 1) := by decide +kernel
theorem dX10_feed_13 : decode cX10_feed 13 = .ok (.ireturn, 1) := by decide +kernel
theorem dX10_held_0 : decode cX10_held 0 = .ok (.iload_n 1, 1) := by decide +kernel
theorem dX10_held_1 : decode cX10_held 1 = .ok (.i2l, 1) := by decide +kernel
theorem dX10_held_2 : decode cX10_held 2 = .ok (.lconst 1, 1) := by decide +kernel
theorem dX10_held_3 : decode cX10_held 3 = .ok (.ldc2_w 244, 3) := by decide +kernel
theorem dX10_held_6 : decode cX10_held 6 = .ok (.invokestatic 101, 3) := by decide +kernel
theorem dX10_held_9 : decode cX10_held 9 = .ok (.ifCond .ne 5, 3) := by decide +kernel
theorem dX10_held_14 : decode cX10_held 14 = .ok (.aload_n 0, 1) := by decide +kernel
theorem dX10_held_15 : decode cX10_held 15 = .ok (.invokevirtual 246, 3) := by decide +kernel
theorem dX10_held_18 : decode cX10_held 18 = .ok (.istore_n 2, 1) := by decide +kernel
theorem dX10_held_19 : decode cX10_held 19 = .ok (.iconst 0, 1) := by decide +kernel
theorem dX10_held_20 : decode cX10_held 20 = .ok (.istore_n 3, 1) := by decide +kernel
theorem dX10_held_21 : decode cX10_held 21 = .ok (.iconst 1, 1) := by decide +kernel
theorem dX10_held_22 : decode cX10_held 22 = .ok (.istore 4, 2) := by decide +kernel
theorem dX10_held_24 : decode cX10_held 24 = .ok (.iload 4, 2) := by decide +kernel
theorem dX10_held_26 : decode cX10_held 26 = .ok (.iconst 1, 1) := by decide +kernel
theorem dX10_held_27 : decode cX10_held 27 = .ok (.aload_n 0, 1) := by decide +kernel
theorem dX10_held_28 : decode cX10_held 28 = .ok (.getfield 109, 3) := by decide +kernel
theorem dX10_held_31 : decode cX10_held 31 = .ok (.ishl, 1) := by decide +kernel
theorem dX10_held_32 : decode cX10_held 32 = .ok (.if_icmp .ge 47, 3) := by decide +kernel
theorem dX10_held_79 : decode cX10_held 79 = .ok (.iload_n 3, 1) := by decide +kernel
theorem dX10_held_80 : decode cX10_held 80 = .ok (.ifCond .ne 8, 3) := by decide +kernel
theorem dX10_held_83 : decode cX10_held 83 = .ok (.bipush (-2), 2) := by decide +kernel
theorem dX10_held_85 : decode cX10_held 85 = .ok (.goto 4, 3) := by decide +kernel
theorem dX10_held_89 : decode cX10_held 89 = .ok (.ireturn, 1) := by decide +kernel
theorem dX10_held_12 : decode cX10_held 12 = .ok (.iconst (-1), 1) := by decide +kernel
theorem dX10_held_13 : decode cX10_held 13 = .ok (.ireturn, 1) := by decide +kernel
theorem dX10_count_0 : decode cX10_count 0 = .ok (.iload_n 1, 1) := by decide +kernel
theorem dX10_count_1 : decode cX10_count 1 = .ok (.tableswitch 72 0 5 #[39, 44, 52, 57, 62, 67], 39) := by decide +kernel
theorem dX10_count_40 : decode cX10_count 40 = .ok (.aload_n 0, 1) := by decide +kernel
theorem dX10_count_41 : decode cX10_count 41 = .ok (.getfield 109, 3) := by decide +kernel
theorem dX10_count_44 : decode cX10_count 44 = .ok (.ireturn, 1) := by decide +kernel
theorem dX10_count_45 : decode cX10_count 45 = .ok (.aload_n 0, 1) := by decide +kernel
theorem dX10_count_46 : decode cX10_count 46 = .ok (.invokevirtual 246, 3) := by decide +kernel
theorem dX10_count_49 : decode cX10_count 49 = .ok (.invokestatic 261, 3) := by decide +kernel
theorem dX10_count_52 : decode cX10_count 52 = .ok (.ireturn, 1) := by decide +kernel
theorem dX10_count_53 : decode cX10_count 53 = .ok (.aload_n 0, 1) := by decide +kernel
theorem dX10_count_54 : decode cX10_count 54 = .ok (.getfield 162, 3) := by decide +kernel
theorem dX10_count_57 : decode cX10_count 57 = .ok (.ireturn, 1) := by decide +kernel
theorem dX10_count_58 : decode cX10_count 58 = .ok (.aload_n 0, 1) := by decide +kernel
theorem dX10_count_59 : decode cX10_count 59 = .ok (.getfield 91, 3) := by decide +kernel
theorem dX10_count_62 : decode cX10_count 62 = .ok (.ireturn, 1) := by decide +kernel
theorem dX10_count_63 : decode cX10_count 63 = .ok (.aload_n 0, 1) := by decide +kernel
theorem dX10_count_64 : decode cX10_count 64 = .ok (.getfield 334, 3) := by decide +kernel
theorem dX10_count_67 : decode cX10_count 67 = .ok (.ireturn, 1) := by decide +kernel
theorem dX10_count_68 : decode cX10_count 68 = .ok (.aload_n 0, 1) := by decide +kernel
theorem dX10_count_69 : decode cX10_count 69 = .ok (.getfield 337, 3) := by decide +kernel
theorem dX10_count_72 : decode cX10_count 72 = .ok (.ireturn, 1) := by decide +kernel
theorem dX10_count_73 : decode cX10_count 73 = .ok (.iconst (-1), 1) := by decide +kernel
theorem dX10_count_74 : decode cX10_count 74 = .ok (.ireturn, 1) := by decide +kernel
theorem dX10_trace_0 : decode cX10_trace 0 = .ok (.iload_n 1, 1) := by decide +kernel
theorem dX10_trace_1 : decode cX10_trace 1 = .ok (.ifCond .lt 26, 3) := by decide +kernel
theorem dX10_trace_27 : decode cX10_trace 27 = .ok (.iconst (-1), 1) := by decide +kernel
theorem dX10_trace_28 : decode cX10_trace 28 = .ok (.ireturn, 1) := by decide +kernel
theorem dX10_trace_4 : decode cX10_trace 4 = .ok (.iload_n 1, 1) := by decide +kernel
theorem dX10_trace_5 : decode cX10_trace 5 = .ok (.aload_n 0, 1) := by decide +kernel
theorem dX10_trace_6 : decode cX10_trace 6 = .ok (.getfield 337, 3) := by decide +kernel
theorem dX10_trace_9 : decode cX10_trace 9 = .ok (.if_icmp .ge 18, 3) := by decide +kernel
theorem dX10_trace_12 : decode cX10_trace 12 = .ok (.iload_n 1, 1) := by decide +kernel
theorem dX10_trace_13 : decode cX10_trace 13 = .ok (.bipush 24, 2) := by decide +kernel
theorem dX10_trace_15 : decode cX10_trace 15 = .ok (.if_icmp .ge 12, 3) := by decide +kernel
theorem dX10_refusal_0 : decode cX10_refusal 0 = .ok (.iload_n 1, 1) := by decide +kernel
theorem dX10_refusal_1 : decode cX10_refusal 1 = .ok (.invokestatic 125, 3) := by decide +kernel
theorem dX10_refusal_4 : decode cX10_refusal 4 = .ok (.ifCond .ne 5, 3) := by decide +kernel
theorem dX10_refusal_9 : decode cX10_refusal 9 = .ok (.aload_n 0, 1) := by decide +kernel
theorem dX10_refusal_10 : decode cX10_refusal 10 = .ok (.getfield 75, 3) := by decide +kernel
theorem dX10_refusal_13 : decode cX10_refusal 13 = .ok (.iload_n 1, 1) := by decide +kernel
theorem dX10_refusal_14 : decode cX10_refusal 14 = .ok (.iaload, 1) := by decide +kernel
theorem dX10_refusal_15 : decode cX10_refusal 15 = .ok (.ifCond .ge 6, 3) := by decide +kernel
theorem dX10_refusal_18 : decode cX10_refusal 18 = .ok (.bipush (-11), 2) := by decide +kernel
theorem dX10_refusal_20 : decode cX10_refusal 20 = .ok (.ireturn, 1) := by decide +kernel
theorem dX10_refusal_7 : decode cX10_refusal 7 = .ok (.iconst (-1), 1) := by decide +kernel
theorem dX10_refusal_8 : decode cX10_refusal 8 = .ok (.ireturn, 1) := by decide +kernel
theorem dX10_put_0 : decode cX10_put 0 = .ok (.aload_n 0, 1) := by decide +kernel
theorem dX10_put_1 : decode cX10_put 1 = .ok (.iload_n 1, 1) := by decide +kernel
theorem dX10_put_2 : decode cX10_put 2 = .ok (.iload_n 2, 1) := by decide +kernel
theorem dX10_put_3 : decode cX10_put 3 = .ok (.invokevirtual 364, 3) := by decide +kernel
theorem dX10_put_6 : decode cX10_put 6 = .ok (.istore 5, 2) := by decide +kernel
theorem dX10_put_8 : decode cX10_put 8 = .ok (.iload 5, 2) := by decide +kernel
theorem dX10_put_10 : decode cX10_put 10 = .ok (.ifCond .ne 27, 3) := by decide +kernel
theorem dX10_put_37 : decode cX10_put 37 = .ok (.iload 5, 2) := by decide +kernel
theorem dX10_put_39 : decode cX10_put 39 = .ok (.ifCond .ne 7, 3) := by decide +kernel
theorem dX10_put_46 : decode cX10_put 46 = .ok (.iload 5, 2) := by decide +kernel
theorem dX10_put_48 : decode cX10_put 48 = .ok (.ireturn, 1) := by decide +kernel
theorem dX10_element_0 : decode cX10_element 0 = .ok (.aload_n 0, 1) := by decide +kernel
theorem dX10_element_1 : decode cX10_element 1 = .ok (.iload_n 1, 1) := by decide +kernel
theorem dX10_element_2 : decode cX10_element 2 = .ok (.iload_n 2, 1) := by decide +kernel
theorem dX10_element_3 : decode cX10_element 3 = .ok (.invokevirtual 364, 3) := by decide +kernel
theorem dX10_element_6 : decode cX10_element 6 = .ok (.ifCond .eq 9, 3) := by decide +kernel
theorem dX10_element_9 : decode cX10_element 9 = .ok (.ldc2_w 320, 3) := by decide +kernel
theorem dX10_element_12 : decode cX10_element 12 = .ok (.goto 14, 3) := by decide +kernel
theorem dX10_element_26 : decode cX10_element 26 = .ok (.lreturn, 1) := by decide +kernel
theorem dX10_of_0 : decode cX10_of 0 = .ok (.iload_n 2, 1) := by decide +kernel
theorem dX10_of_1 : decode cX10_of 1 = .ok (.i2l, 1) := by decide +kernel
theorem dX10_of_2 : decode cX10_of 2 = .ok (.lconst 0, 1) := by decide +kernel
theorem dX10_of_3 : decode cX10_of 3 = .ok (.ldc2_w 129, 3) := by decide +kernel
theorem dX10_of_6 : decode cX10_of 6 = .ok (.invokestatic 101, 3) := by decide +kernel
theorem dX10_of_9 : decode cX10_of 9 = .ok (.ifCond .eq 66, 3) := by decide +kernel
theorem dX10_of_75 : decode cX10_of 75 = .ok (.iload_n 2, 1) := by decide +kernel
theorem dX10_of_76 : decode cX10_of 76 = .ok (.i2l, 1) := by decide +kernel
theorem dX10_of_77 : decode cX10_of 77 = .ok (.ldc2_w 97, 3) := by decide +kernel
theorem dX10_of_80 : decode cX10_of 80 = .ok (.ldc2_w 149, 3) := by decide +kernel
theorem dX10_of_83 : decode cX10_of 83 = .ok (.invokestatic 101, 3) := by decide +kernel
theorem dX10_of_86 : decode cX10_of 86 = .ok (.ifCond .eq 38, 3) := by decide +kernel
theorem dX10_of_124 : decode cX10_of 124 = .ok (.iload_n 2, 1) := by decide +kernel
theorem dX10_of_125 : decode cX10_of 125 = .ok (.i2l, 1) := by decide +kernel
theorem dX10_of_126 : decode cX10_of 126 = .ok (.ldc2_w 154, 3) := by decide +kernel
theorem dX10_of_129 : decode cX10_of 129 = .ok (.ldc2_w 156, 3) := by decide +kernel
theorem dX10_of_132 : decode cX10_of 132 = .ok (.invokestatic 101, 3) := by decide +kernel
theorem dX10_of_135 : decode cX10_of 135 = .ok (.ifCond .eq 15, 3) := by decide +kernel
theorem dX10_of_150 : decode cX10_of 150 = .ok (.ldc 140, 2) := by decide +kernel
theorem dX10_of_152 : decode cX10_of 152 = .ok (.goto 24, 3) := by decide +kernel
theorem dX10_of_176 : decode cX10_of 176 = .ok (.ireturn, 1) := by decide +kernel
theorem dX10_of_138 : decode cX10_of 138 = .ok (.iload_n 1, 1) := by decide +kernel
theorem dX10_of_139 : decode cX10_of 139 = .ok (.i2l, 1) := by decide +kernel
theorem dX10_of_140 : decode cX10_of 140 = .ok (.lconst 0, 1) := by decide +kernel
theorem dX10_of_141 : decode cX10_of 141 = .ok (.ldc2_w 158, 3) := by decide +kernel
theorem dX10_of_144 : decode cX10_of 144 = .ok (.invokestatic 101, 3) := by decide +kernel
theorem dX10_of_147 : decode cX10_of 147 = .ok (.ifCond .ne 8, 3) := by decide +kernel
theorem dX10_of_155 : decode cX10_of 155 = .ok (.iload_n 2, 1) := by decide +kernel
theorem dX10_of_156 : decode cX10_of 156 = .ok (.bipush 20, 2) := by decide +kernel
theorem dX10_of_158 : decode cX10_of 158 = .ok (.if_icmp .ne 12, 3) := by decide +kernel
theorem dX10_of_170 : decode cX10_of 170 = .ok (.aload_n 0, 1) := by decide +kernel
theorem dX10_of_171 : decode cX10_of 171 = .ok (.getfield 53, 3) := by decide +kernel
theorem dX10_of_174 : decode cX10_of 174 = .ok (.iload_n 1, 1) := by decide +kernel
theorem dX10_of_175 : decode cX10_of 175 = .ok (.iaload, 1) := by decide +kernel
theorem dX10_of_161 : decode cX10_of 161 = .ok (.aload_n 0, 1) := by decide +kernel
theorem dX10_of_162 : decode cX10_of 162 = .ok (.getfield 50, 3) := by decide +kernel
theorem dX10_of_165 : decode cX10_of 165 = .ok (.iload_n 1, 1) := by decide +kernel
theorem dX10_of_166 : decode cX10_of 166 = .ok (.iaload, 1) := by decide +kernel
theorem dX10_of_167 : decode cX10_of 167 = .ok (.goto 9, 3) := by decide +kernel
theorem dX10_of_89 : decode cX10_of 89 = .ok (.iload_n 1, 1) := by decide +kernel
theorem dX10_of_90 : decode cX10_of 90 = .ok (.ifCond .eq 8, 3) := by decide +kernel
theorem dX10_of_98 : decode cX10_of 98 = .ok (.iload_n 2, 1) := by decide +kernel
theorem dX10_of_99 : decode cX10_of 99 = .ok (.bipush 15, 2) := by decide +kernel
theorem dX10_of_101 : decode cX10_of 101 = .ok (.if_icmp .ne 10, 3) := by decide +kernel
theorem dX10_of_111 : decode cX10_of 111 = .ok (.aload_n 0, 1) := by decide +kernel
theorem dX10_of_112 : decode cX10_of 112 = .ok (.getfield 9, 3) := by decide +kernel
theorem dX10_of_115 : decode cX10_of 115 = .ok (.bipush 15, 2) := by decide +kernel
theorem dX10_of_117 : decode cX10_of 117 = .ok (.iload_n 2, 1) := by decide +kernel
theorem dX10_of_118 : decode cX10_of 118 = .ok (.iadd, 1) := by decide +kernel
theorem dX10_of_119 : decode cX10_of 119 = .ok (.bipush 10, 2) := by decide +kernel
theorem dX10_of_121 : decode cX10_of 121 = .ok (.isub, 1) := by decide +kernel
theorem dX10_of_122 : decode cX10_of 122 = .ok (.iaload, 1) := by decide +kernel
theorem dX10_of_123 : decode cX10_of 123 = .ok (.ireturn, 1) := by decide +kernel
theorem dX10_of_104 : decode cX10_of 104 = .ok (.aload_n 0, 1) := by decide +kernel
theorem dX10_of_105 : decode cX10_of 105 = .ok (.getfield 151, 3) := by decide +kernel
theorem dX10_of_108 : decode cX10_of 108 = .ok (.goto 15, 3) := by decide +kernel
theorem dX10_of_93 : decode cX10_of 93 = .ok (.ldc 140, 2) := by decide +kernel
theorem dX10_of_95 : decode cX10_of 95 = .ok (.goto 28, 3) := by decide +kernel
theorem dX10_of_12 : decode cX10_of 12 = .ok (.aload_n 0, 1) := by decide +kernel
theorem dX10_of_13 : decode cX10_of 13 = .ok (.iload_n 1, 1) := by decide +kernel
theorem dX10_of_14 : decode cX10_of 14 = .ok (.invokevirtual 133, 3) := by decide +kernel
theorem dX10_of_17 : decode cX10_of 17 = .ok (.ifCond .ne 6, 3) := by decide +kernel
theorem dX10_of_20 : decode cX10_of 20 = .ok (.ldc 140, 2) := by decide +kernel
theorem dX10_of_22 : decode cX10_of 22 = .ok (.ireturn, 1) := by decide +kernel
theorem dX10_needsOf_0 : decode cX10_needsOf 0 = .ok (.iload_n 0, 1) := by decide +kernel
theorem dX10_needsOf_1 : decode cX10_needsOf 1 = .ok (.iconst 1, 1) := by decide +kernel
theorem dX10_needsOf_2 : decode cX10_needsOf 2 = .ok (.if_icmp .ge 7, 3) := by decide +kernel
theorem dX10_needsOf_9 : decode cX10_needsOf 9 = .ok (.iload_n 0, 1) := by decide +kernel
theorem dX10_needsOf_10 : decode cX10_needsOf 10 = .ok (.ireturn, 1) := by decide +kernel
theorem dX10_needsOf_5 : decode cX10_needsOf 5 = .ok (.iconst 1, 1) := by decide +kernel
theorem dX10_needsOf_6 : decode cX10_needsOf 6 = .ok (.goto 4, 3) := by decide +kernel
theorem dX10_till_0 : decode cX10_till 0 = .ok (.iload_n 1, 1) := by decide +kernel
theorem dX10_till_1 : decode cX10_till 1 = .ok (.invokestatic 293, 3) := by decide +kernel
theorem dX10_till_4 : decode cX10_till 4 = .ok (.ifCond .eq 15, 3) := by decide +kernel
theorem dX10_till_19 : decode cX10_till 19 = .ok (.iconst (-1), 1) := by decide +kernel
theorem dX10_till_20 : decode cX10_till 20 = .ok (.ireturn, 1) := by decide +kernel
theorem dX10_till_7 : decode cX10_till 7 = .ok (.iload_n 2, 1) := by decide +kernel
theorem dX10_till_8 : decode cX10_till 8 = .ok (.i2l, 1) := by decide +kernel
theorem dX10_till_9 : decode cX10_till 9 = .ok (.lconst 0, 1) := by decide +kernel
theorem dX10_till_10 : decode cX10_till 10 = .ok (.ldc2_w 296, 3) := by decide +kernel
theorem dX10_till_13 : decode cX10_till 13 = .ok (.invokestatic 101, 3) := by decide +kernel
theorem dX10_till_16 : decode cX10_till 16 = .ok (.ifCond .ne 5, 3) := by decide +kernel
theorem dX10_till_21 : decode cX10_till 21 = .ok (.aload_n 0, 1) := by decide +kernel
theorem dX10_till_22 : decode cX10_till 22 = .ok (.getfield 50, 3) := by decide +kernel
theorem dX10_till_25 : decode cX10_till 25 = .ok (.iload_n 1, 1) := by decide +kernel
theorem dX10_till_26 : decode cX10_till 26 = .ok (.iaload, 1) := by decide +kernel
theorem dX10_till_27 : decode cX10_till 27 = .ok (.iload_n 2, 1) := by decide +kernel
theorem dX10_till_28 : decode cX10_till 28 = .ok (.if_icmp .ge 13, 3) := by decide +kernel
theorem dX10_till_41 : decode cX10_till 41 = .ok (.iconst 0, 1) := by decide +kernel
theorem dX10_till_42 : decode cX10_till 42 = .ok (.istore_n 3, 1) := by decide +kernel
theorem dX10_till_43 : decode cX10_till 43 = .ok (.aload_n 0, 1) := by decide +kernel
theorem dX10_till_44 : decode cX10_till 44 = .ok (.getfield 50, 3) := by decide +kernel
theorem dX10_till_47 : decode cX10_till 47 = .ok (.iload_n 1, 1) := by decide +kernel
theorem dX10_till_48 : decode cX10_till 48 = .ok (.iaload, 1) := by decide +kernel
theorem dX10_till_49 : decode cX10_till 49 = .ok (.istore 4, 2) := by decide +kernel
theorem dX10_till_51 : decode cX10_till 51 = .ok (.iload 4, 2) := by decide +kernel
theorem dX10_till_53 : decode cX10_till 53 = .ok (.iload_n 2, 1) := by decide +kernel
theorem dX10_till_54 : decode cX10_till 54 = .ok (.if_icmp .ge 17, 3) := by decide +kernel
theorem dX10_till_71 : decode cX10_till 71 = .ok (.iload_n 3, 1) := by decide +kernel
theorem dX10_till_72 : decode cX10_till 72 = .ok (.ireturn, 1) := by decide +kernel
theorem dX10_till_31 : decode cX10_till 31 = .ok (.aload_n 0, 1) := by decide +kernel
theorem dX10_till_32 : decode cX10_till 32 = .ok (.getfield 53, 3) := by decide +kernel
theorem dX10_till_35 : decode cX10_till 35 = .ok (.iload_n 1, 1) := by decide +kernel
theorem dX10_till_36 : decode cX10_till 36 = .ok (.iaload, 1) := by decide +kernel
theorem dX10_till_37 : decode cX10_till 37 = .ok (.ineg, 1) := by decide +kernel
theorem dX10_till_38 : decode cX10_till 38 = .ok (.goto 4, 3) := by decide +kernel
theorem dX10_till_57 : decode cX10_till 57 = .ok (.iload_n 3, 1) := by decide +kernel
theorem dX10_till_58 : decode cX10_till 58 = .ok (.iload 4, 2) := by decide +kernel
theorem dX10_till_60 : decode cX10_till 60 = .ok (.invokestatic 324, 3) := by decide +kernel
theorem dX10_till_63 : decode cX10_till 63 = .ok (.iadd, 1) := by decide +kernel
theorem dX10_till_64 : decode cX10_till 64 = .ok (.istore_n 3, 1) := by decide +kernel
theorem dX10_till_65 : decode cX10_till 65 = .ok (.iinc 4 1, 3) := by decide +kernel
theorem dX10_till_68 : decode cX10_till 68 = .ok (.goto (-17), 3) := by decide +kernel
theorem dX10_alone_0 : decode cX10_alone 0 = .ok (.iload_n 1, 1) := by decide +kernel
theorem dX10_alone_1 : decode cX10_alone 1 = .ok (.invokestatic 293, 3) := by decide +kernel
theorem dX10_alone_4 : decode cX10_alone 4 = .ok (.ifCond .eq 25, 3) := by decide +kernel
theorem dX10_alone_29 : decode cX10_alone 29 = .ok (.ldc2_w 320, 3) := by decide +kernel
theorem dX10_alone_32 : decode cX10_alone 32 = .ok (.lreturn, 1) := by decide +kernel
theorem dX10_alone_7 : decode cX10_alone 7 = .ok (.iload_n 2, 1) := by decide +kernel
theorem dX10_alone_8 : decode cX10_alone 8 = .ok (.i2l, 1) := by decide +kernel
theorem dX10_alone_9 : decode cX10_alone 9 = .ok (.lconst 0, 1) := by decide +kernel
theorem dX10_alone_10 : decode cX10_alone 10 = .ok (.ldc2_w 316, 3) := by decide +kernel
theorem dX10_alone_13 : decode cX10_alone 13 = .ok (.invokestatic 101, 3) := by decide +kernel
theorem dX10_alone_16 : decode cX10_alone 16 = .ok (.ifCond .eq 13, 3) := by decide +kernel
theorem dX10_alone_19 : decode cX10_alone 19 = .ok (.iload_n 3, 1) := by decide +kernel
theorem dX10_alone_20 : decode cX10_alone 20 = .ok (.i2l, 1) := by decide +kernel
theorem dX10_alone_21 : decode cX10_alone 21 = .ok (.lconst 0, 1) := by decide +kernel
theorem dX10_alone_22 : decode cX10_alone 22 = .ok (.lconst 1, 1) := by decide +kernel
theorem dX10_alone_23 : decode cX10_alone 23 = .ok (.invokestatic 101, 3) := by decide +kernel
theorem dX10_alone_26 : decode cX10_alone 26 = .ok (.ifCond .ne 7, 3) := by decide +kernel
theorem dX10_alone_33 : decode cX10_alone 33 = .ok (.lconst 1, 1) := by decide +kernel
theorem dX10_alone_34 : decode cX10_alone 34 = .ok (.lstore 4, 2) := by decide +kernel
theorem dX10_alone_36 : decode cX10_alone 36 = .ok (.lconst 1, 1) := by decide +kernel
theorem dX10_alone_37 : decode cX10_alone 37 = .ok (.lstore 6, 2) := by decide +kernel
theorem dX10_alone_39 : decode cX10_alone 39 = .ok (.iconst 0, 1) := by decide +kernel
theorem dX10_alone_40 : decode cX10_alone 40 = .ok (.istore 8, 2) := by decide +kernel
theorem dX10_alone_42 : decode cX10_alone 42 = .ok (.iload 8, 2) := by decide +kernel
theorem dX10_alone_44 : decode cX10_alone 44 = .ok (.iload_n 2, 1) := by decide +kernel
theorem dX10_alone_45 : decode cX10_alone 45 = .ok (.if_icmp .ge 29, 3) := by decide +kernel
theorem dX10_alone_74 : decode cX10_alone 74 = .ok (.lload 4, 2) := by decide +kernel
theorem dX10_alone_76 : decode cX10_alone 76 = .ok (.lconst 0, 1) := by decide +kernel
theorem dX10_alone_77 : decode cX10_alone 77 = .ok (.lcmp, 1) := by decide +kernel
theorem dX10_alone_78 : decode cX10_alone 78 = .ok (.ifCond .ne 6, 3) := by decide +kernel
theorem dX10_alone_84 : decode cX10_alone 84 = .ok (.lload 6, 2) := by decide +kernel
theorem dX10_alone_86 : decode cX10_alone 86 = .ok (.lstore 8, 2) := by decide +kernel
theorem dX10_alone_88 : decode cX10_alone 88 = .ok (.lload 4, 2) := by decide +kernel
theorem dX10_alone_90 : decode cX10_alone 90 = .ok (.lstore 10, 2) := by decide +kernel
theorem dX10_alone_92 : decode cX10_alone 92 = .ok (.lload 10, 2) := by decide +kernel
theorem dX10_alone_94 : decode cX10_alone 94 = .ok (.lconst 0, 1) := by decide +kernel
theorem dX10_alone_95 : decode cX10_alone 95 = .ok (.lcmp, 1) := by decide +kernel
theorem dX10_alone_96 : decode cX10_alone 96 = .ok (.ifCond .eq 21, 3) := by decide +kernel
theorem dX10_alone_99 : decode cX10_alone 99 = .ok (.lload 8, 2) := by decide +kernel
theorem dX10_alone_101 : decode cX10_alone 101 = .ok (.lload 10, 2) := by decide +kernel
theorem dX10_alone_103 : decode cX10_alone 103 = .ok (.lrem, 1) := by decide +kernel
theorem dX10_alone_104 : decode cX10_alone 104 = .ok (.lstore 12, 2) := by decide +kernel
theorem dX10_alone_106 : decode cX10_alone 106 = .ok (.lload 10, 2) := by decide +kernel
theorem dX10_alone_108 : decode cX10_alone 108 = .ok (.lstore 8, 2) := by decide +kernel
theorem dX10_alone_110 : decode cX10_alone 110 = .ok (.lload 12, 2) := by decide +kernel
theorem dX10_alone_112 : decode cX10_alone 112 = .ok (.lstore 10, 2) := by decide +kernel
theorem dX10_alone_114 : decode cX10_alone 114 = .ok (.goto (-22), 3) := by decide +kernel
theorem dX10_alone_117 : decode cX10_alone 117 = .ok (.iload_n 3, 1) := by decide +kernel
theorem dX10_alone_118 : decode cX10_alone 118 = .ok (.ifCond .ne 11, 3) := by decide +kernel
theorem dX10_alone_129 : decode cX10_alone 129 = .ok (.lload 6, 2) := by decide +kernel
theorem dX10_alone_131 : decode cX10_alone 131 = .ok (.lload 8, 2) := by decide +kernel
theorem dX10_alone_133 : decode cX10_alone 133 = .ok (.ldiv, 1) := by decide +kernel
theorem dX10_alone_134 : decode cX10_alone 134 = .ok (.lreturn, 1) := by decide +kernel
theorem dX10_alone_121 : decode cX10_alone 121 = .ok (.lload 4, 2) := by decide +kernel
theorem dX10_alone_123 : decode cX10_alone 123 = .ok (.lload 8, 2) := by decide +kernel
theorem dX10_alone_125 : decode cX10_alone 125 = .ok (.ldiv, 1) := by decide +kernel
theorem dX10_alone_126 : decode cX10_alone 126 = .ok (.goto 8, 3) := by decide +kernel
theorem dX10_alone_48 : decode cX10_alone 48 = .ok (.lload 4, 2) := by decide +kernel
theorem dX10_alone_50 : decode cX10_alone 50 = .ok (.aload_n 0, 1) := by decide +kernel
theorem dX10_alone_51 : decode cX10_alone 51 = .ok (.getfield 50, 3) := by decide +kernel
theorem dX10_alone_54 : decode cX10_alone 54 = .ok (.iload_n 1, 1) := by decide +kernel
theorem dX10_alone_55 : decode cX10_alone 55 = .ok (.iaload, 1) := by decide +kernel
theorem dX10_alone_56 : decode cX10_alone 56 = .ok (.i2l, 1) := by decide +kernel
theorem dX10_alone_57 : decode cX10_alone 57 = .ok (.lmul, 1) := by decide +kernel
theorem dX10_alone_58 : decode cX10_alone 58 = .ok (.lstore 4, 2) := by decide +kernel
theorem dX10_alone_60 : decode cX10_alone 60 = .ok (.lload 6, 2) := by decide +kernel
theorem dX10_alone_62 : decode cX10_alone 62 = .ok (.ldc2_w 296, 3) := by decide +kernel
theorem dX10_alone_65 : decode cX10_alone 65 = .ok (.lmul, 1) := by decide +kernel
theorem dX10_alone_66 : decode cX10_alone 66 = .ok (.lstore 6, 2) := by decide +kernel
theorem dX10_alone_68 : decode cX10_alone 68 = .ok (.iinc 8 1, 3) := by decide +kernel
theorem dX10_alone_71 : decode cX10_alone 71 = .ok (.goto (-29), 3) := by decide +kernel
theorem dX10_leastPush_0 : decode cX10_leastPush 0 = .ok (.iload_n 1, 1) := by decide +kernel
theorem dX10_leastPush_1 : decode cX10_leastPush 1 = .ok (.i2l, 1) := by decide +kernel
theorem dX10_leastPush_2 : decode cX10_leastPush 2 = .ok (.lconst 1, 1) := by decide +kernel
theorem dX10_leastPush_3 : decode cX10_leastPush 3 = .ok (.ldc2_w 244, 3) := by decide +kernel
theorem dX10_leastPush_6 : decode cX10_leastPush 6 = .ok (.invokestatic 101, 3) := by decide +kernel
theorem dX10_leastPush_9 : decode cX10_leastPush 9 = .ok (.ifCond .ne 5, 3) := by decide +kernel
theorem dX10_leastPush_14 : decode cX10_leastPush 14 = .ok (.aload_n 0, 1) := by decide +kernel
theorem dX10_leastPush_15 : decode cX10_leastPush 15 = .ok (.getfield 9, 3) := by decide +kernel
theorem dX10_leastPush_18 : decode cX10_leastPush 18 = .ok (.bipush 18, 2) := by decide +kernel
theorem dX10_leastPush_20 : decode cX10_leastPush 20 = .ok (.iaload, 1) := by decide +kernel
theorem dX10_leastPush_21 : decode cX10_leastPush 21 = .ok (.istore_n 2, 1) := by decide +kernel
theorem dX10_leastPush_22 : decode cX10_leastPush 22 = .ok (.bipush (-2), 2) := by decide +kernel
theorem dX10_leastPush_24 : decode cX10_leastPush 24 = .ok (.istore_n 3, 1) := by decide +kernel
theorem dX10_leastPush_25 : decode cX10_leastPush 25 = .ok (.iconst 5, 1) := by decide +kernel
theorem dX10_leastPush_26 : decode cX10_leastPush 26 = .ok (.istore 4, 2) := by decide +kernel
theorem dX10_leastPush_28 : decode cX10_leastPush 28 = .ok (.iload 4, 2) := by decide +kernel
theorem dX10_leastPush_30 : decode cX10_leastPush 30 = .ok (.ifCond .lt 33, 3) := by decide +kernel
theorem dX10_leastPush_33 : decode cX10_leastPush 33 = .ok (.aload_n 0, 1) := by decide +kernel
theorem dX10_leastPush_34 : decode cX10_leastPush 34 = .ok (.getfield 9, 3) := by decide +kernel
theorem dX10_leastPush_37 : decode cX10_leastPush 37 = .ok (.bipush 18, 2) := by decide +kernel
theorem dX10_leastPush_39 : decode cX10_leastPush 39 = .ok (.iload 4, 2) := by decide +kernel
theorem dX10_leastPush_41 : decode cX10_leastPush 41 = .ok (.iastore, 1) := by decide +kernel
theorem dX10_leastPush_42 : decode cX10_leastPush 42 = .ok (.aload_n 0, 1) := by decide +kernel
theorem dX10_leastPush_43 : decode cX10_leastPush 43 = .ok (.invokevirtual 270, 3) := by decide +kernel
theorem dX10_leastPush_46 : decode cX10_leastPush 46 = .ok (.iload_n 1, 1) := by decide +kernel
theorem dX10_leastPush_47 : decode cX10_leastPush 47 = .ok (.if_icmp .lt 8, 3) := by decide +kernel
theorem dX10_leastPush_50 : decode cX10_leastPush 50 = .ok (.iload 4, 2) := by decide +kernel
theorem dX10_leastPush_52 : decode cX10_leastPush 52 = .ok (.goto 4, 3) := by decide +kernel
theorem dX10_leastPush_56 : decode cX10_leastPush 56 = .ok (.istore_n 3, 1) := by decide +kernel
theorem dX10_leastPush_57 : decode cX10_leastPush 57 = .ok (.iinc 4 (-1), 3) := by decide +kernel
theorem dX10_leastPush_60 : decode cX10_leastPush 60 = .ok (.goto (-32), 3) := by decide +kernel
theorem dX10_leastPush_63 : decode cX10_leastPush 63 = .ok (.aload_n 0, 1) := by decide +kernel
theorem dX10_leastPush_64 : decode cX10_leastPush 64 = .ok (.getfield 9, 3) := by decide +kernel
theorem dX10_leastPush_67 : decode cX10_leastPush 67 = .ok (.bipush 18, 2) := by decide +kernel
theorem dX10_leastPush_69 : decode cX10_leastPush 69 = .ok (.iload_n 2, 1) := by decide +kernel
theorem dX10_leastPush_70 : decode cX10_leastPush 70 = .ok (.iastore, 1) := by decide +kernel
theorem dX10_leastPush_71 : decode cX10_leastPush 71 = .ok (.iload_n 3, 1) := by decide +kernel
theorem dX10_leastPush_72 : decode cX10_leastPush 72 = .ok (.ireturn, 1) := by decide +kernel
theorem dX10_leastPush_12 : decode cX10_leastPush 12 = .ok (.iconst (-1), 1) := by decide +kernel
theorem dX10_leastPush_13 : decode cX10_leastPush 13 = .ok (.ireturn, 1) := by decide +kernel
theorem dX10_becomes_0 : decode cX10_becomes 0 = .ok (.aload_n 0, 1) := by decide +kernel
theorem dX10_becomes_1 : decode cX10_becomes 1 = .ok (.getfield 9, 3) := by decide +kernel
theorem dX10_becomes_4 : decode cX10_becomes 4 = .ok (.iload_n 1, 1) := by decide +kernel
theorem dX10_becomes_5 : decode cX10_becomes 5 = .ok (.iaload, 1) := by decide +kernel
theorem dX10_becomes_6 : decode cX10_becomes 6 = .ok (.istore_n 3, 1) := by decide +kernel
theorem dX10_becomes_7 : decode cX10_becomes 7 = .ok (.iload_n 3, 1) := by decide +kernel
theorem dX10_becomes_8 : decode cX10_becomes 8 = .ok (.iload_n 2, 1) := by decide +kernel
theorem dX10_becomes_9 : decode cX10_becomes 9 = .ok (.if_icmp .ne 5, 3) := by decide +kernel
theorem dX10_becomes_14 : decode cX10_becomes 14 = .ok (.aload_n 0, 1) := by decide +kernel
theorem dX10_becomes_15 : decode cX10_becomes 15 = .ok (.getfield 91, 3) := by decide +kernel
theorem dX10_becomes_18 : decode cX10_becomes 18 = .ok (.bipush 40, 2) := by decide +kernel
theorem dX10_becomes_20 : decode cX10_becomes 20 = .ok (.if_icmp .ne 77, 3) := by decide +kernel
theorem dX10_becomes_97 : decode cX10_becomes 97 = .ok (.aload_n 0, 1) := by decide +kernel
theorem dX10_becomes_98 : decode cX10_becomes 98 = .ok (.getfield 13, 3) := by decide +kernel
theorem dX10_becomes_101 : decode cX10_becomes 101 = .ok (.aload_n 0, 1) := by decide +kernel
theorem dX10_becomes_102 : decode cX10_becomes 102 = .ok (.getfield 91, 3) := by decide +kernel
theorem dX10_becomes_105 : decode cX10_becomes 105 = .ok (.iload_n 1, 1) := by decide +kernel
theorem dX10_becomes_106 : decode cX10_becomes 106 = .ok (.iastore, 1) := by decide +kernel
theorem dX10_becomes_107 : decode cX10_becomes 107 = .ok (.aload_n 0, 1) := by decide +kernel
theorem dX10_becomes_108 : decode cX10_becomes 108 = .ok (.getfield 16, 3) := by decide +kernel
theorem dX10_becomes_111 : decode cX10_becomes 111 = .ok (.aload_n 0, 1) := by decide +kernel
theorem dX10_becomes_112 : decode cX10_becomes 112 = .ok (.getfield 91, 3) := by decide +kernel
theorem dX10_becomes_115 : decode cX10_becomes 115 = .ok (.iload_n 3, 1) := by decide +kernel
theorem dX10_becomes_116 : decode cX10_becomes 116 = .ok (.iastore, 1) := by decide +kernel
theorem dX10_becomes_117 : decode cX10_becomes 117 = .ok (.aload_n 0, 1) := by decide +kernel
theorem dX10_becomes_118 : decode cX10_becomes 118 = .ok (.getfield 19, 3) := by decide +kernel
theorem dX10_becomes_121 : decode cX10_becomes 121 = .ok (.aload_n 0, 1) := by decide +kernel
theorem dX10_becomes_122 : decode cX10_becomes 122 = .ok (.getfield 91, 3) := by decide +kernel
theorem dX10_becomes_125 : decode cX10_becomes 125 = .ok (.iload_n 2, 1) := by decide +kernel
theorem dX10_becomes_126 : decode cX10_becomes 126 = .ok (.iastore, 1) := by decide +kernel
theorem dX10_becomes_127 : decode cX10_becomes 127 = .ok (.aload_n 0, 1) := by decide +kernel
theorem dX10_becomes_128 : decode cX10_becomes 128 = .ok (.dup, 1) := by decide +kernel
theorem dX10_becomes_129 : decode cX10_becomes 129 = .ok (.getfield 91, 3) := by decide +kernel
theorem dX10_becomes_132 : decode cX10_becomes 132 = .ok (.iconst 1, 1) := by decide +kernel
theorem dX10_becomes_133 : decode cX10_becomes 133 = .ok (.iadd, 1) := by decide +kernel
theorem dX10_becomes_134 : decode cX10_becomes 134 = .ok (.putfield 91, 3) := by decide +kernel
theorem dX10_becomes_137 : decode cX10_becomes 137 = .ok (.aload_n 0, 1) := by decide +kernel
theorem dX10_becomes_138 : decode cX10_becomes 138 = .ok (.aload_n 0, 1) := by decide +kernel
theorem dX10_becomes_139 : decode cX10_becomes 139 = .ok (.getfield 91, 3) := by decide +kernel
theorem dX10_becomes_142 : decode cX10_becomes 142 = .ok (.putfield 94, 3) := by decide +kernel
theorem dX10_becomes_145 : decode cX10_becomes 145 = .ok (.aload_n 0, 1) := by decide +kernel
theorem dX10_becomes_146 : decode cX10_becomes 146 = .ok (.getfield 9, 3) := by decide +kernel
theorem dX10_becomes_149 : decode cX10_becomes 149 = .ok (.iload_n 1, 1) := by decide +kernel
theorem dX10_becomes_150 : decode cX10_becomes 150 = .ok (.iload_n 2, 1) := by decide +kernel
theorem dX10_becomes_151 : decode cX10_becomes 151 = .ok (.iastore, 1) := by decide +kernel
theorem dX10_becomes_152 : decode cX10_becomes 152 = .ok (.iload_n 3, 1) := by decide +kernel
theorem dX10_becomes_153 : decode cX10_becomes 153 = .ok (.ireturn, 1) := by decide +kernel
theorem dX10_becomes_12 : decode cX10_becomes 12 = .ok (.iload_n 3, 1) := by decide +kernel
theorem dX10_becomes_13 : decode cX10_becomes 13 = .ok (.ireturn, 1) := by decide +kernel
theorem dX10_mend_0 : decode cX10_mend 0 = .ok (.iload_n 2, 1) := by decide +kernel
theorem dX10_mend_1 : decode cX10_mend 1 = .ok (.i2l, 1) := by decide +kernel
theorem dX10_mend_2 : decode cX10_mend 2 = .ok (.lconst 0, 1) := by decide +kernel
theorem dX10_mend_3 : decode cX10_mend 3 = .ok (.ldc2_w 131, 3) := by decide +kernel
theorem dX10_mend_6 : decode cX10_mend 6 = .ok (.invokestatic 101, 3) := by decide +kernel
theorem dX10_mend_9 : decode cX10_mend 9 = .ok (.ifCond .eq 86, 3) := by decide +kernel
theorem dX10_mend_95 : decode cX10_mend 95 = .ok (.iload_n 1, 1) := by decide +kernel
theorem dX10_mend_96 : decode cX10_mend 96 = .ok (.ifCond .ne 17, 3) := by decide +kernel
theorem dX10_mend_113 : decode cX10_mend 113 = .ok (.ldc 140, 2) := by decide +kernel
theorem dX10_mend_115 : decode cX10_mend 115 = .ok (.ireturn, 1) := by decide +kernel
theorem dX10_mend_99 : decode cX10_mend 99 = .ok (.iload_n 2, 1) := by decide +kernel
theorem dX10_mend_100 : decode cX10_mend 100 = .ok (.i2l, 1) := by decide +kernel
theorem dX10_mend_101 : decode cX10_mend 101 = .ok (.ldc2_w 141, 3) := by decide +kernel
theorem dX10_mend_104 : decode cX10_mend 104 = .ok (.ldc2_w 143, 3) := by decide +kernel
theorem dX10_mend_107 : decode cX10_mend 107 = .ok (.invokestatic 101, 3) := by decide +kernel
theorem dX10_mend_110 : decode cX10_mend 110 = .ok (.ifCond .ne 6, 3) := by decide +kernel
theorem dX10_mend_116 : decode cX10_mend 116 = .ok (.iload_n 2, 1) := by decide +kernel
theorem dX10_mend_117 : decode cX10_mend 117 = .ok (.iconst 4, 1) := by decide +kernel
theorem dX10_mend_118 : decode cX10_mend 118 = .ok (.if_icmp .ne 7, 3) := by decide +kernel
theorem dX10_mend_125 : decode cX10_mend 125 = .ok (.iconst 0, 1) := by decide +kernel
theorem dX10_mend_126 : decode cX10_mend 126 = .ok (.istore 4, 2) := by decide +kernel
theorem dX10_mend_128 : decode cX10_mend 128 = .ok (.iload_n 2, 1) := by decide +kernel
theorem dX10_mend_129 : decode cX10_mend 129 = .ok (.iconst 3, 1) := by decide +kernel
theorem dX10_mend_130 : decode cX10_mend 130 = .ok (.if_icmp .ne 7, 3) := by decide +kernel
theorem dX10_mend_133 : decode cX10_mend 133 = .ok (.iconst 3, 1) := by decide +kernel
theorem dX10_mend_134 : decode cX10_mend 134 = .ok (.goto 42, 3) := by decide +kernel
theorem dX10_mend_176 : decode cX10_mend 176 = .ok (.istore 5, 2) := by decide +kernel
theorem dX10_mend_178 : decode cX10_mend 178 = .ok (.iload_n 3, 1) := by decide +kernel
theorem dX10_mend_179 : decode cX10_mend 179 = .ok (.i2l, 1) := by decide +kernel
theorem dX10_mend_180 : decode cX10_mend 180 = .ok (.iload 4, 2) := by decide +kernel
theorem dX10_mend_182 : decode cX10_mend 182 = .ok (.i2l, 1) := by decide +kernel
theorem dX10_mend_183 : decode cX10_mend 183 = .ok (.iload 5, 2) := by decide +kernel
theorem dX10_mend_185 : decode cX10_mend 185 = .ok (.i2l, 1) := by decide +kernel
theorem dX10_mend_186 : decode cX10_mend 186 = .ok (.invokestatic 101, 3) := by decide +kernel
theorem dX10_mend_189 : decode cX10_mend 189 = .ok (.ifCond .eq 17, 3) := by decide +kernel
theorem dX10_mend_206 : decode cX10_mend 206 = .ok (.ldc 140, 2) := by decide +kernel
theorem dX10_mend_208 : decode cX10_mend 208 = .ok (.ireturn, 1) := by decide +kernel
theorem dX10_mend_192 : decode cX10_mend 192 = .ok (.aload_n 0, 1) := by decide +kernel
theorem dX10_mend_193 : decode cX10_mend 193 = .ok (.bipush 15, 2) := by decide +kernel
theorem dX10_mend_195 : decode cX10_mend 195 = .ok (.iload_n 2, 1) := by decide +kernel
theorem dX10_mend_196 : decode cX10_mend 196 = .ok (.iadd, 1) := by decide +kernel
theorem dX10_mend_197 : decode cX10_mend 197 = .ok (.iconst 3, 1) := by decide +kernel
theorem dX10_mend_198 : decode cX10_mend 198 = .ok (.isub, 1) := by decide +kernel
theorem dX10_mend_199 : decode cX10_mend 199 = .ok (.iload_n 3, 1) := by decide +kernel
theorem dX10_mend_200 : decode cX10_mend 200 = .ok (.invokevirtual 136, 3) := by decide +kernel
theorem dX10_mend_203 : decode cX10_mend 203 = .ok (.goto 5, 3) := by decide +kernel
theorem dX10_mend_121 : decode cX10_mend 121 = .ok (.iconst 2, 1) := by decide +kernel
theorem dX10_mend_122 : decode cX10_mend 122 = .ok (.goto 4, 3) := by decide +kernel
theorem dX10_mend_137 : decode cX10_mend 137 = .ok (.iload_n 2, 1) := by decide +kernel
theorem dX10_mend_138 : decode cX10_mend 138 = .ok (.iconst 4, 1) := by decide +kernel
theorem dX10_mend_139 : decode cX10_mend 139 = .ok (.if_icmp .ne 8, 3) := by decide +kernel
theorem dX10_mend_142 : decode cX10_mend 142 = .ok (.bipush 24, 2) := by decide +kernel
theorem dX10_mend_144 : decode cX10_mend 144 = .ok (.goto 32, 3) := by decide +kernel
theorem dX10_mend_147 : decode cX10_mend 147 = .ok (.iload_n 2, 1) := by decide +kernel
theorem dX10_mend_148 : decode cX10_mend 148 = .ok (.iconst 5, 1) := by decide +kernel
theorem dX10_mend_149 : decode cX10_mend 149 = .ok (.if_icmp .ne 15, 3) := by decide +kernel
theorem dX10_mend_152 : decode cX10_mend 152 = .ok (.aload_n 0, 1) := by decide +kernel
theorem dX10_mend_153 : decode cX10_mend 153 = .ok (.getfield 9, 3) := by decide +kernel
theorem dX10_mend_156 : decode cX10_mend 156 = .ok (.bipush 16, 2) := by decide +kernel
theorem dX10_mend_158 : decode cX10_mend 158 = .ok (.iaload, 1) := by decide +kernel
theorem dX10_mend_159 : decode cX10_mend 159 = .ok (.iconst 1, 1) := by decide +kernel
theorem dX10_mend_160 : decode cX10_mend 160 = .ok (.isub, 1) := by decide +kernel
theorem dX10_mend_161 : decode cX10_mend 161 = .ok (.goto 15, 3) := by decide +kernel
theorem dX10_mend_164 : decode cX10_mend 164 = .ok (.iload_n 2, 1) := by decide +kernel
theorem dX10_mend_165 : decode cX10_mend 165 = .ok (.bipush 6, 2) := by decide +kernel
theorem dX10_mend_167 : decode cX10_mend 167 = .ok (.if_icmp .ne 7, 3) := by decide +kernel
theorem dX10_mend_170 : decode cX10_mend 170 = .ok (.iconst 5, 1) := by decide +kernel
theorem dX10_mend_171 : decode cX10_mend 171 = .ok (.goto 5, 3) := by decide +kernel
theorem dX10_mend_174 : decode cX10_mend 174 = .ok (.bipush 12, 2) := by decide +kernel
theorem dX10_mend_12 : decode cX10_mend 12 = .ok (.aload_n 0, 1) := by decide +kernel
theorem dX10_mend_13 : decode cX10_mend 13 = .ok (.iload_n 1, 1) := by decide +kernel
theorem dX10_mend_14 : decode cX10_mend 14 = .ok (.invokevirtual 133, 3) := by decide +kernel
theorem dX10_mend_17 : decode cX10_mend 17 = .ok (.ifCond .eq 54, 3) := by decide +kernel
theorem dX10_mend_71 : decode cX10_mend 71 = .ok (.iconst 0, 1) := by decide +kernel
theorem dX10_mend_72 : decode cX10_mend 72 = .ok (.istore 4, 2) := by decide +kernel
theorem dX10_mend_74 : decode cX10_mend 74 = .ok (.iload 4, 2) := by decide +kernel
theorem dX10_mend_76 : decode cX10_mend 76 = .ok (.ifCond .eq 16, 3) := by decide +kernel
theorem dX10_mend_92 : decode cX10_mend 92 = .ok (.ldc 140, 2) := by decide +kernel
theorem dX10_mend_94 : decode cX10_mend 94 = .ok (.ireturn, 1) := by decide +kernel
theorem dX10_row_57 : decode cX10_row 57 = .ok (.iload 4, 2) := by decide +kernel
theorem dX10_row_59 : decode cX10_row 59 = .ok (.bipush 60, 2) := by decide +kernel
theorem dX10_row_61 : decode cX10_row 61 = .ok (.iload_n 1, 1) := by decide +kernel
theorem dX10_row_62 : decode cX10_row 62 = .ok (.imul, 1) := by decide +kernel
theorem dX10_row_63 : decode cX10_row 63 = .ok (.bipush 60, 2) := by decide +kernel
theorem dX10_row_65 : decode cX10_row 65 = .ok (.iadd, 1) := by decide +kernel
theorem dX10_row_66 : decode cX10_row 66 = .ok (.if_icmp .ge 17, 3) := by decide +kernel
theorem dX10_row_83 : decode cX10_row 83 = .ok (.iconst 1, 1) := by decide +kernel
theorem dX10_row_84 : decode cX10_row 84 = .ok (.ireturn, 1) := by decide +kernel
theorem dX10_row_69 : decode cX10_row 69 = .ok (.aload_n 0, 1) := by decide +kernel
theorem dX10_row_70 : decode cX10_row 70 = .ok (.getfield 81, 3) := by decide +kernel
theorem dX10_row_73 : decode cX10_row 73 = .ok (.iload 4, 2) := by decide +kernel
theorem dX10_row_75 : decode cX10_row 75 = .ok (.lconst 0, 1) := by decide +kernel
theorem dX10_row_76 : decode cX10_row 76 = .ok (.lastore, 1) := by decide +kernel
theorem dX10_row_77 : decode cX10_row 77 = .ok (.iinc 4 1, 3) := by decide +kernel
theorem dX10_row_80 : decode cX10_row 80 = .ok (.goto (-23), 3) := by decide +kernel
theorem dX10_row_0 : decode cX10_row 0 = .ok (.iload_n 1, 1) := by decide +kernel
theorem dX10_row_1 : decode cX10_row 1 = .ok (.invokestatic 125, 3) := by decide +kernel
theorem dX10_row_4 : decode cX10_row 4 = .ok (.ifCond .eq 21, 3) := by decide +kernel
theorem dX10_row_25 : decode cX10_row 25 = .ok (.iconst (-1), 1) := by decide +kernel
theorem dX10_row_26 : decode cX10_row 26 = .ok (.ireturn, 1) := by decide +kernel
theorem dX10_row_7 : decode cX10_row 7 = .ok (.iload_n 2, 1) := by decide +kernel
theorem dX10_row_8 : decode cX10_row 8 = .ok (.i2l, 1) := by decide +kernel
theorem dX10_row_9 : decode cX10_row 9 = .ok (.lconst 0, 1) := by decide +kernel
theorem dX10_row_10 : decode cX10_row 10 = .ok (.ldc2_w 116, 3) := by decide +kernel
theorem dX10_row_13 : decode cX10_row 13 = .ok (.invokestatic 101, 3) := by decide +kernel
theorem dX10_row_16 : decode cX10_row 16 = .ok (.ifCond .eq 9, 3) := by decide +kernel
theorem dX10_row_19 : decode cX10_row 19 = .ok (.iload_n 3, 1) := by decide +kernel
theorem dX10_row_20 : decode cX10_row 20 = .ok (.bipush 60, 2) := by decide +kernel
theorem dX10_row_22 : decode cX10_row 22 = .ok (.if_icmp .le 5, 3) := by decide +kernel
theorem dX10_row_27 : decode cX10_row 27 = .ok (.iload_n 3, 1) := by decide +kernel
theorem dX10_row_28 : decode cX10_row 28 = .ok (.ifCond .ge 6, 3) := by decide +kernel
theorem dX10_row_34 : decode cX10_row 34 = .ok (.aload_n 0, 1) := by decide +kernel
theorem dX10_row_35 : decode cX10_row 35 = .ok (.getfield 75, 3) := by decide +kernel
theorem dX10_row_38 : decode cX10_row 38 = .ok (.iload_n 1, 1) := by decide +kernel
theorem dX10_row_39 : decode cX10_row 39 = .ok (.bipush 50, 2) := by decide +kernel
theorem dX10_row_41 : decode cX10_row 41 = .ok (.iload_n 2, 1) := by decide +kernel
theorem dX10_row_42 : decode cX10_row 42 = .ok (.iadd, 1) := by decide +kernel
theorem dX10_row_43 : decode cX10_row 43 = .ok (.iastore, 1) := by decide +kernel
theorem dX10_row_44 : decode cX10_row 44 = .ok (.aload_n 0, 1) := by decide +kernel
theorem dX10_row_45 : decode cX10_row 45 = .ok (.getfield 78, 3) := by decide +kernel
theorem dX10_row_48 : decode cX10_row 48 = .ok (.iload_n 1, 1) := by decide +kernel
theorem dX10_row_49 : decode cX10_row 49 = .ok (.iload_n 3, 1) := by decide +kernel
theorem dX10_row_50 : decode cX10_row 50 = .ok (.iastore, 1) := by decide +kernel
theorem dX10_row_51 : decode cX10_row 51 = .ok (.bipush 60, 2) := by decide +kernel
theorem dX10_row_53 : decode cX10_row 53 = .ok (.iload_n 1, 1) := by decide +kernel
theorem dX10_row_54 : decode cX10_row 54 = .ok (.imul, 1) := by decide +kernel
theorem dX10_row_55 : decode cX10_row 55 = .ok (.istore 4, 2) := by decide +kernel
theorem dX10_row_31 : decode cX10_row 31 = .ok (.bipush (-14), 2) := by decide +kernel
theorem dX10_row_33 : decode cX10_row 33 = .ok (.ireturn, 1) := by decide +kernel
theorem dX10_go_31 : decode cX10_go 31 = .ok (.iload_n 3, 1) := by decide +kernel
theorem dX10_go_32 : decode cX10_go 32 = .ok (.iload_n 1, 1) := by decide +kernel
theorem dX10_go_33 : decode cX10_go 33 = .ok (.if_icmp .ge 59, 3) := by decide +kernel
theorem dX10_go_92 : decode cX10_go 92 = .ok (.aload_n 0, 1) := by decide +kernel
theorem dX10_go_93 : decode cX10_go 93 = .ok (.dup, 1) := by decide +kernel
theorem dX10_go_94 : decode cX10_go 94 = .ok (.getfield 258, 3) := by decide +kernel
theorem dX10_go_97 : decode cX10_go 97 = .ok (.aload_n 0, 1) := by decide +kernel
theorem dX10_go_98 : decode cX10_go 98 = .ok (.getfield 237, 3) := by decide +kernel
theorem dX10_go_101 : decode cX10_go 101 = .ok (.iadd, 1) := by decide +kernel
theorem dX10_go_102 : decode cX10_go 102 = .ok (.putfield 258, 3) := by decide +kernel
theorem dX10_go_105 : decode cX10_go 105 = .ok (.iconst 0, 1) := by decide +kernel
theorem dX10_go_106 : decode cX10_go 106 = .ok (.istore_n 3, 1) := by decide +kernel
theorem dX10_go_107 : decode cX10_go 107 = .ok (.iload_n 3, 1) := by decide +kernel
theorem dX10_go_108 : decode cX10_go 108 = .ok (.aload_n 0, 1) := by decide +kernel
theorem dX10_go_109 : decode cX10_go 109 = .ok (.getfield 109, 3) := by decide +kernel
theorem dX10_go_112 : decode cX10_go 112 = .ok (.if_icmp .ge 48, 3) := by decide +kernel
theorem dX10_go_160 : decode cX10_go 160 = .ok (.aload_n 0, 1) := by decide +kernel
theorem dX10_go_161 : decode cX10_go 161 = .ok (.invokevirtual 246, 3) := by decide +kernel
theorem dX10_go_164 : decode cX10_go 164 = .ok (.invokestatic 261, 3) := by decide +kernel
theorem dX10_go_167 : decode cX10_go 167 = .ok (.ireturn, 1) := by decide +kernel
theorem dX10_go_36 : decode cX10_go 36 = .ok (.aload_n 0, 1) := by decide +kernel
theorem dX10_go_37 : decode cX10_go 37 = .ok (.iload_n 2, 1) := by decide +kernel
theorem dX10_go_38 : decode cX10_go 38 = .ok (.invokevirtual 252, 3) := by decide +kernel
theorem dX10_go_41 : decode cX10_go 41 = .ok (.istore 4, 2) := by decide +kernel
theorem dX10_go_43 : decode cX10_go 43 = .ok (.aload_n 0, 1) := by decide +kernel
theorem dX10_go_44 : decode cX10_go 44 = .ok (.aload_n 0, 1) := by decide +kernel
theorem dX10_go_45 : decode cX10_go 45 = .ok (.getfield 151, 3) := by decide +kernel
theorem dX10_go_48 : decode cX10_go 48 = .ok (.invokevirtual 255, 3) := by decide +kernel
theorem dX10_go_51 : decode cX10_go 51 = .ok (.aload_n 0, 1) := by decide +kernel
theorem dX10_go_52 : decode cX10_go 52 = .ok (.aload_n 0, 1) := by decide +kernel
theorem dX10_go_53 : decode cX10_go 53 = .ok (.iload_n 2, 1) := by decide +kernel
theorem dX10_go_54 : decode cX10_go 54 = .ok (.invokevirtual 252, 3) := by decide +kernel
theorem dX10_go_57 : decode cX10_go 57 = .ok (.iload 4, 2) := by decide +kernel
theorem dX10_go_59 : decode cX10_go 59 = .ok (.if_icmp .le 10, 3) := by decide +kernel
theorem dX10_go_69 : decode cX10_go 69 = .ok (.aload_n 0, 1) := by decide +kernel
theorem dX10_go_70 : decode cX10_go 70 = .ok (.getfield 46, 3) := by decide +kernel
theorem dX10_go_73 : decode cX10_go 73 = .ok (.putfield 46, 3) := by decide +kernel
theorem dX10_go_76 : decode cX10_go 76 = .ok (.aload_n 0, 1) := by decide +kernel
theorem dX10_go_77 : decode cX10_go 77 = .ok (.dup, 1) := by decide +kernel
theorem dX10_go_78 : decode cX10_go 78 = .ok (.getfield 151, 3) := by decide +kernel
theorem dX10_go_81 : decode cX10_go 81 = .ok (.iconst 1, 1) := by decide +kernel
theorem dX10_go_82 : decode cX10_go 82 = .ok (.iadd, 1) := by decide +kernel
theorem dX10_go_83 : decode cX10_go 83 = .ok (.putfield 151, 3) := by decide +kernel
theorem dX10_go_86 : decode cX10_go 86 = .ok (.iinc 3 1, 3) := by decide +kernel
theorem dX10_go_89 : decode cX10_go 89 = .ok (.goto (-58), 3) := by decide +kernel
theorem dX10_go_0 : decode cX10_go 0 = .ok (.iload_n 1, 1) := by decide +kernel
theorem dX10_go_1 : decode cX10_go 1 = .ok (.i2l, 1) := by decide +kernel
theorem dX10_go_2 : decode cX10_go 2 = .ok (.lconst 1, 1) := by decide +kernel
theorem dX10_go_3 : decode cX10_go 3 = .ok (.ldc2_w 244, 3) := by decide +kernel
theorem dX10_go_6 : decode cX10_go 6 = .ok (.invokestatic 101, 3) := by decide +kernel
theorem dX10_go_9 : decode cX10_go 9 = .ok (.ifCond .ne 5, 3) := by decide +kernel
theorem dX10_go_14 : decode cX10_go 14 = .ok (.aload_n 0, 1) := by decide +kernel
theorem dX10_go_15 : decode cX10_go 15 = .ok (.invokevirtual 246, 3) := by decide +kernel
theorem dX10_go_18 : decode cX10_go 18 = .ok (.istore_n 2, 1) := by decide +kernel
theorem dX10_go_19 : decode cX10_go 19 = .ok (.aload_n 0, 1) := by decide +kernel
theorem dX10_go_20 : decode cX10_go 20 = .ok (.iload_n 2, 1) := by decide +kernel
theorem dX10_go_21 : decode cX10_go 21 = .ok (.invokevirtual 249, 3) := by decide +kernel
theorem dX10_go_24 : decode cX10_go 24 = .ok (.aload_n 0, 1) := by decide +kernel
theorem dX10_go_25 : decode cX10_go 25 = .ok (.iconst 0, 1) := by decide +kernel
theorem dX10_go_26 : decode cX10_go 26 = .ok (.putfield 237, 3) := by decide +kernel
theorem dX10_go_29 : decode cX10_go 29 = .ok (.iconst 0, 1) := by decide +kernel
theorem dX10_go_30 : decode cX10_go 30 = .ok (.istore_n 3, 1) := by decide +kernel
theorem dX10_go_12 : decode cX10_go 12 = .ok (.iconst (-1), 1) := by decide +kernel
theorem dX10_go_13 : decode cX10_go 13 = .ok (.ireturn, 1) := by decide +kernel
theorem dX10_learn_23 : decode cX10_learn 23 = .ok (.iload_n 3, 1) := by decide +kernel
theorem dX10_learn_24 : decode cX10_learn 24 = .ok (.iload_n 2, 1) := by decide +kernel
theorem dX10_learn_25 : decode cX10_learn 25 = .ok (.if_icmp .ge 65, 3) := by decide +kernel
theorem dX10_learn_90 : decode cX10_learn 90 = .ok (.aload_n 0, 1) := by decide +kernel
theorem dX10_learn_91 : decode cX10_learn 91 = .ok (.getfield 50, 3) := by decide +kernel
theorem dX10_learn_94 : decode cX10_learn 94 = .ok (.iload_n 1, 1) := by decide +kernel
theorem dX10_learn_95 : decode cX10_learn 95 = .ok (.iaload, 1) := by decide +kernel
theorem dX10_learn_96 : decode cX10_learn 96 = .ok (.ireturn, 1) := by decide +kernel
theorem dX10_learn_28 : decode cX10_learn 28 = .ok (.aload_n 0, 1) := by decide +kernel
theorem dX10_learn_29 : decode cX10_learn 29 = .ok (.getfield 50, 3) := by decide +kernel
theorem dX10_learn_32 : decode cX10_learn 32 = .ok (.iload_n 1, 1) := by decide +kernel
theorem dX10_learn_33 : decode cX10_learn 33 = .ok (.iaload, 1) := by decide +kernel
theorem dX10_learn_34 : decode cX10_learn 34 = .ok (.bipush 12, 2) := by decide +kernel
theorem dX10_learn_36 : decode cX10_learn 36 = .ok (.if_icmp .ge 54, 3) := by decide +kernel
theorem dX10_learn_39 : decode cX10_learn 39 = .ok (.aload_n 0, 1) := by decide +kernel
theorem dX10_learn_40 : decode cX10_learn 40 = .ok (.getfield 53, 3) := by decide +kernel
theorem dX10_learn_43 : decode cX10_learn 43 = .ok (.iload_n 1, 1) := by decide +kernel
theorem dX10_learn_44 : decode cX10_learn 44 = .ok (.dup2, 1) := by decide +kernel
theorem dX10_learn_45 : decode cX10_learn 45 = .ok (.iaload, 1) := by decide +kernel
theorem dX10_learn_46 : decode cX10_learn 46 = .ok (.iconst 1, 1) := by decide +kernel
theorem dX10_learn_47 : decode cX10_learn 47 = .ok (.iadd, 1) := by decide +kernel
theorem dX10_learn_48 : decode cX10_learn 48 = .ok (.iastore, 1) := by decide +kernel
theorem dX10_learn_49 : decode cX10_learn 49 = .ok (.aload_n 0, 1) := by decide +kernel
theorem dX10_learn_50 : decode cX10_learn 50 = .ok (.getfield 53, 3) := by decide +kernel
theorem dX10_learn_53 : decode cX10_learn 53 = .ok (.iload_n 1, 1) := by decide +kernel
theorem dX10_learn_54 : decode cX10_learn 54 = .ok (.iaload, 1) := by decide +kernel
theorem dX10_learn_55 : decode cX10_learn 55 = .ok (.aload_n 0, 1) := by decide +kernel
theorem dX10_learn_56 : decode cX10_learn 56 = .ok (.getfield 50, 3) := by decide +kernel
theorem dX10_learn_59 : decode cX10_learn 59 = .ok (.iload_n 1, 1) := by decide +kernel
theorem dX10_learn_60 : decode cX10_learn 60 = .ok (.iaload, 1) := by decide +kernel
theorem dX10_learn_61 : decode cX10_learn 61 = .ok (.invokestatic 324, 3) := by decide +kernel
theorem dX10_learn_64 : decode cX10_learn 64 = .ok (.if_icmp .ne 20, 3) := by decide +kernel
theorem dX10_learn_84 : decode cX10_learn 84 = .ok (.iinc 3 1, 3) := by decide +kernel
theorem dX10_learn_87 : decode cX10_learn 87 = .ok (.goto (-64), 3) := by decide +kernel
theorem dX10_learn_67 : decode cX10_learn 67 = .ok (.aload_n 0, 1) := by decide +kernel
theorem dX10_learn_68 : decode cX10_learn 68 = .ok (.getfield 50, 3) := by decide +kernel
theorem dX10_learn_71 : decode cX10_learn 71 = .ok (.iload_n 1, 1) := by decide +kernel
theorem dX10_learn_72 : decode cX10_learn 72 = .ok (.dup2, 1) := by decide +kernel
theorem dX10_learn_73 : decode cX10_learn 73 = .ok (.iaload, 1) := by decide +kernel
theorem dX10_learn_74 : decode cX10_learn 74 = .ok (.iconst 1, 1) := by decide +kernel
theorem dX10_learn_75 : decode cX10_learn 75 = .ok (.iadd, 1) := by decide +kernel
theorem dX10_learn_76 : decode cX10_learn 76 = .ok (.iastore, 1) := by decide +kernel
theorem dX10_learn_77 : decode cX10_learn 77 = .ok (.aload_n 0, 1) := by decide +kernel
theorem dX10_learn_78 : decode cX10_learn 78 = .ok (.getfield 53, 3) := by decide +kernel
theorem dX10_learn_81 : decode cX10_learn 81 = .ok (.iload_n 1, 1) := by decide +kernel
theorem dX10_learn_82 : decode cX10_learn 82 = .ok (.iconst 0, 1) := by decide +kernel
theorem dX10_learn_83 : decode cX10_learn 83 = .ok (.iastore, 1) := by decide +kernel
theorem dX10_learn_0 : decode cX10_learn 0 = .ok (.iload_n 1, 1) := by decide +kernel
theorem dX10_learn_1 : decode cX10_learn 1 = .ok (.invokestatic 293, 3) := by decide +kernel
theorem dX10_learn_4 : decode cX10_learn 4 = .ok (.ifCond .eq 15, 3) := by decide +kernel
theorem dX10_learn_19 : decode cX10_learn 19 = .ok (.iconst (-1), 1) := by decide +kernel
theorem dX10_learn_20 : decode cX10_learn 20 = .ok (.ireturn, 1) := by decide +kernel
theorem dX10_learn_7 : decode cX10_learn 7 = .ok (.iload_n 2, 1) := by decide +kernel
theorem dX10_learn_8 : decode cX10_learn 8 = .ok (.i2l, 1) := by decide +kernel
theorem dX10_learn_9 : decode cX10_learn 9 = .ok (.lconst 1, 1) := by decide +kernel
theorem dX10_learn_10 : decode cX10_learn 10 = .ok (.ldc2_w 322, 3) := by decide +kernel
theorem dX10_learn_13 : decode cX10_learn 13 = .ok (.invokestatic 101, 3) := by decide +kernel
theorem dX10_learn_16 : decode cX10_learn 16 = .ok (.ifCond .ne 5, 3) := by decide +kernel
theorem dX10_learn_21 : decode cX10_learn 21 = .ok (.iconst 0, 1) := by decide +kernel
theorem dX10_learn_22 : decode cX10_learn 22 = .ok (.istore_n 3, 1) := by decide +kernel
set_option maxRecDepth 100000 in
set_option maxHeartbeats 4000000 in
theorem c_isOne4 (a b : Int32) {l : Launch} {G : xG} {sh : List xS} {M : xM} {J : xJ} : x_M l G fX10_isOne 1 0 0 [.long ((a).toInt64), .long ((b).toInt64), .long (4)] sh M J (qE (some (.int (bI ((1 ≤ a ∧ a ≤ 9) ∧ 1 ≤ b ∧ b ≤ 9)))) sh M J) := by
  refine xb_of pX10 (Nat.le_of_ble_eq_true rfl) rfl ?_
  refine xr_lload_n dX10_isOne_0 0 rfl ?_
  refine xr_lconst (v := 1) dX10_isOne_1 rfl ?_
  refine xr_ldc2 coX10_112 dX10_isOne_2 ?_
  refine xb_cS (As := [.long ((a).toInt64), .long (1), .long (9)]) (rest := []) mlX10_101 (c_within32 (a) (1) (9) (by decide) (by decide)) dX10_isOne_5 rfl rfl (Nat.le_of_ble_eq_true rfl) (by decide) (by decide) ?_
  refine xb_beq (tgt := 40) dX10_isOne_8 rfl (fun c1 => ?_) (fun c1 => ?_)
  · refine xr_iconst (v := 0) dX10_isOne_40 rfl ?_
    exact xr_iret dX10_isOne_41 rfl rfl (⟨congrArg (fun z => some (Value.int z)) (bI_f (by grind)).symm, rfl, rfl, rfl⟩)
  · refine xr_lload_n dX10_isOne_11 1 rfl ?_
    refine xr_lconst (v := 1) dX10_isOne_12 rfl ?_
    refine xr_ldc2 coX10_112 dX10_isOne_13 ?_
    refine xb_cS (As := [.long ((b).toInt64), .long (1), .long (9)]) (rest := []) mlX10_101 (c_within32 (b) (1) (9) (by decide) (by decide)) dX10_isOne_16 rfl rfl (Nat.le_of_ble_eq_true rfl) (by decide) (by decide) ?_
    refine xb_beq (tgt := 40) dX10_isOne_19 rfl (fun c2 => ?_) (fun c2 => ?_)
    · refine xr_iconst (v := 0) dX10_isOne_40 rfl ?_
      exact xr_iret dX10_isOne_41 rfl rfl (⟨congrArg (fun z => some (Value.int z)) (bI_f (by grind)).symm, rfl, rfl, rfl⟩)
    · refine xr_lload dX10_isOne_22 2 rfl ?_
      refine xr_ldc2 coX10_114 dX10_isOne_24 ?_
      refine xr_ldc2 coX10_112 dX10_isOne_27 ?_
      refine xb_cS (As := [.long (4), .long ((-9)), .long (9)]) (rest := []) mlX10_101 (c_X10_within 4 (-9) 9) dX10_isOne_30 rfl rfl (Nat.le_of_ble_eq_true rfl) (by decide) (by decide) ?_
      refine xb_beq (tgt := 40) dX10_isOne_33 rfl (fun c3 => ?_) (fun c3 => ?_)
      · refine xr_iconst (v := 0) dX10_isOne_40 rfl ?_
        exact xr_iret dX10_isOne_41 rfl rfl (⟨congrArg (fun z => some (Value.int z)) (bI_f (by grind)).symm, rfl, rfl, rfl⟩)
      · refine xr_iconst (v := 1) dX10_isOne_36 rfl ?_
        refine xr_goto (tgt := 41) dX10_isOne_37 rfl ?_
        exact xr_iret dX10_isOne_41 rfl rfl (⟨congrArg (fun z => some (Value.int z)) (bI_t (by grind)).symm, rfl, rfl, rfl⟩)
set_option maxRecDepth 100000 in
set_option maxHeartbeats 4000000 in
theorem r_isHoop {M : xM} {J : xJ} (h : Int32) (hb : M 62 6 = 0) {l : Launch} {G : xG}  : x_M l G fX10_isHoop 1 0 0 [.ref (62), .int (h)] x_SH M J (qE (some (.int 0)) x_SH M J) := by
  refine xb_of pX10 (Nat.le_of_ble_eq_true rfl) rfl ?_
  refine xr_iload_n dX10_isHoop_0 1 rfl ?_
  refine xr_i2l dX10_isHoop_1 ?_
  refine xr_lconst (v := 0) dX10_isHoop_2 rfl ?_
  refine xr_aload_n dX10_isHoop_3 0 rfl ?_
  refine xb_get (v := 0) flX10_109 dX10_isHoop_4 s_62 rfl hb ?_
  refine xr_iconst (v := 1) dX10_isHoop_7 rfl ?_
  refine xr_isub dX10_isHoop_8 ?_
  refine xb_top (y := (-1)) (by decide) ?_
  refine xr_i2l dX10_isHoop_9 ?_
  refine xb_topJ (y := (-1)) (by decide) ?_
  refine xb_cS (As := [.long ((h).toInt64), .long (0), .long ((-1))]) (rest := []) mlX10_101 (c_within32 (h) (0) ((-1)) (by decide) (by decide)) dX10_isHoop_10 rfl rfl (Nat.le_of_ble_eq_true rfl) (by decide) (by decide) ?_
  exact xr_iret dX10_isHoop_13 rfl (bI_n _) (⟨congrArg (fun z => some (Value.int z)) (bI_f (by grind)), rfl, rfl, rfl⟩)
set_option maxRecDepth 100000 in
set_option maxHeartbeats 4000000 in
theorem r_isBody {M : xM} {J : xJ} (h : Int32) (hb : M 62 36 = 0) {l : Launch} {G : xG}  : x_M l G fX10_isBody 1 0 0 [.ref (62), .int (h)] x_SH M J (qE (some (.int 0)) x_SH M J) := by
  refine xb_of pX10 (Nat.le_of_ble_eq_true rfl) rfl ?_
  refine xr_iload_n dX10_isBody_0 1 rfl ?_
  refine xr_i2l dX10_isBody_1 ?_
  refine xr_lconst (v := 0) dX10_isBody_2 rfl ?_
  refine xr_aload_n dX10_isBody_3 0 rfl ?_
  refine xb_get (v := 0) flX10_334 dX10_isBody_4 s_62 rfl hb ?_
  refine xr_iconst (v := 1) dX10_isBody_7 rfl ?_
  refine xr_isub dX10_isBody_8 ?_
  refine xb_top (y := (-1)) (by decide) ?_
  refine xr_i2l dX10_isBody_9 ?_
  refine xb_topJ (y := (-1)) (by decide) ?_
  refine xb_cS (As := [.long ((h).toInt64), .long (0), .long ((-1))]) (rest := []) mlX10_101 (c_within32 (h) (0) ((-1)) (by decide) (by decide)) dX10_isBody_10 rfl rfl (Nat.le_of_ble_eq_true rfl) (by decide) (by decide) ?_
  exact xr_iret dX10_isBody_13 rfl (bI_n _) (⟨congrArg (fun z => some (Value.int z)) (bI_f (by grind)), rfl, rfl, rfl⟩)
set_option maxRecDepth 100000 in
set_option maxHeartbeats 4000000 in
theorem r_adds (a b c : Int32) {l : Launch} {G : xG} {M : xM} {J : xJ} (hF : Fr M)  : x_M l G fX10_adds 0 0 0 [.ref 62, .int a, .int b, .int c] x_SH M J (qE none x_SH (x_up (x_up (x_up (x_up (x_up (x_up M 63 0 a) 63 5 b) 63 10 c) 67 0 0) 68 0 20) 62 6 1) J) := by
  refine xb_of pX10 (Nat.le_of_ble_eq_true rfl) rfl ?_
  refine xr_aload_n dX10_adds_0 0 rfl ?_
  refine xr_getR flX10_9 dX10_adds_1 s_62 rfl ?_
  refine xr_aload_n dX10_adds_4 0 rfl ?_
  refine xb_get (v := 0) flX10_109 dX10_adds_5 s_62 rfl (Fr_r hF (by decide) (by decide +kernel)) ?_
  refine xr_iload_n dX10_adds_8 1 rfl ?_
  refine xb_iast (j := 0) dX10_adds_9 s_63 (by decide) (by decide) ?_
  refine xr_aload_n dX10_adds_10 0 rfl ?_
  refine xr_getR flX10_9 dX10_adds_11 s_62 rfl ?_
  refine xr_iconst (v := 5) dX10_adds_14 rfl ?_
  refine xr_aload_n dX10_adds_15 0 rfl ?_
  refine xb_get (v := 0) flX10_109 dX10_adds_16 s_62 rfl (Eq.trans (congrFun (x_up_n _ _ _ (by decide)) _) (Fr_r hF (by decide) (by decide +kernel))) ?_
  refine xr_iadd dX10_adds_19 ?_
  refine xb_top (y := 5) (by decide) ?_
  refine xr_iload_n dX10_adds_20 2 rfl ?_
  refine xb_iast (j := 5) dX10_adds_21 s_63 (by decide) (by decide) ?_
  refine xr_aload_n dX10_adds_22 0 rfl ?_
  refine xr_getR flX10_9 dX10_adds_23 s_62 rfl ?_
  refine xr_bipush (v := 10) dX10_adds_26 rfl ?_
  refine xr_aload_n dX10_adds_28 0 rfl ?_
  refine xb_get (v := 0) flX10_109 dX10_adds_29 s_62 rfl (Eq.trans (congrFun (x_up_n _ _ _ (by decide)) _) (Eq.trans (congrFun (x_up_n _ _ _ (by decide)) _) (Fr_r hF (by decide) (by decide +kernel)))) ?_
  refine xr_iadd dX10_adds_32 ?_
  refine xb_top (y := 10) (by decide) ?_
  refine xr_iload_n dX10_adds_33 3 rfl ?_
  refine xb_iast (j := 10) dX10_adds_34 s_63 (by decide) (by decide) ?_
  refine xr_aload_n dX10_adds_35 0 rfl ?_
  refine xr_getR flX10_22 dX10_adds_36 s_62 rfl ?_
  refine xr_aload_n dX10_adds_39 0 rfl ?_
  refine xb_get (v := 0) flX10_109 dX10_adds_40 s_62 rfl (Eq.trans (congrFun (x_up_n _ _ _ (by decide)) _) (Eq.trans (congrFun (x_up_n _ _ _ (by decide)) _) (Eq.trans (congrFun (x_up_n _ _ _ (by decide)) _) (Fr_r hF (by decide) (by decide +kernel))))) ?_
  refine xr_iconst (v := 0) dX10_adds_43 rfl ?_
  refine xb_iast (j := 0) dX10_adds_44 s_67 (by decide) (by decide) ?_
  refine xr_aload_n dX10_adds_45 0 rfl ?_
  refine xr_getR flX10_25 dX10_adds_46 s_62 rfl ?_
  refine xr_aload_n dX10_adds_49 0 rfl ?_
  refine xb_get (v := 0) flX10_109 dX10_adds_50 s_62 rfl (Eq.trans (congrFun (x_up_n _ _ _ (by decide)) _) (Eq.trans (congrFun (x_up_n _ _ _ (by decide)) _) (Eq.trans (congrFun (x_up_n _ _ _ (by decide)) _) (Eq.trans (congrFun (x_up_n _ _ _ (by decide)) _) (Fr_r hF (by decide) (by decide +kernel)))))) ?_
  refine xr_bipush (v := 20) dX10_adds_53 rfl ?_
  refine xb_iast (j := 0) dX10_adds_55 s_68 (by decide) (by decide) ?_
  refine xr_aload_n dX10_adds_56 0 rfl ?_
  refine xr_dup dX10_adds_57 rfl ?_
  refine xb_get (v := 0) flX10_109 dX10_adds_58 s_62 rfl (Eq.trans (congrFun (x_up_n _ _ _ (by decide)) _) (Eq.trans (congrFun (x_up_n _ _ _ (by decide)) _) (Eq.trans (congrFun (x_up_n _ _ _ (by decide)) _) (Eq.trans (congrFun (x_up_n _ _ _ (by decide)) _) (Eq.trans (congrFun (x_up_n _ _ _ (by decide)) _) (Fr_r hF (by decide) (by decide +kernel))))))) ?_
  refine xr_iconst (v := 1) dX10_adds_61 rfl ?_
  refine xr_iadd dX10_adds_62 ?_
  refine xb_top (y := 1) (by decide) ?_
  refine xr_putI fpX10_109 dX10_adds_63 s_62 rfl rfl rfl ?_
  exact xr_vret dX10_adds_66 rfl (⟨rfl, rfl, rfl, rfl⟩)
set_option maxRecDepth 100000 in
set_option maxHeartbeats 4000000 in
theorem p_X10_hoop (sh : Int32) {l : Launch} {G : xG} {M : xM} {J : xJ} (hF : Fr M)  : x_M l G fX10_hoop 4 0 0 [.ref (62), .int (sh)] x_SH M J (qR (some (.int (if 0 ≤ sh ∧ (1 ≤ sh / 10 ∧ sh / 10 ≤ 9) ∧ (1 ≤ sh - sh / 10 * 10 ∧ sh - sh / 10 * 10 ≤ 9) then 0 else -1)))) := by
  refine xb_of pX10 (Nat.le_of_ble_eq_true rfl) rfl ?_
  refine xr_iload_n dX10_hoop_0 1 rfl ?_
  refine xr_if_lt (tgt := 23) dX10_hoop_1 rfl (fun c1 => ?_) (fun c1 => ?_)
  · refine xr_iconst (v := -1) dX10_hoop_23 rfl ?_
    exact xr_iret dX10_hoop_24 rfl rfl (by first | rfl | (refine congrArg (fun z => some (Value.int z)) ?_; first | exact (if_neg (by assumption)).symm | exact (if_pos (by assumption)).symm | grind))
  · refine xr_iload_n dX10_hoop_4 1 rfl ?_
    refine xr_bipush (v := 10) dX10_hoop_5 rfl ?_
    refine xr_idiv dX10_hoop_7 (by decide) ?_
    refine xr_i2l dX10_hoop_8 ?_
    refine xr_iload_n dX10_hoop_9 1 rfl ?_
    refine xr_bipush (v := 10) dX10_hoop_10 rfl ?_
    refine xr_irem dX10_hoop_12 (by decide) ?_
    refine xr_i2l dX10_hoop_13 ?_
    refine xr_ldc2 coX10_116 dX10_hoop_14 ?_
    refine xb_cS (As := [.long (((sh / 10)).toInt64), .long (((sh - sh / 10 * 10)).toInt64), .long (4)]) (rest := []) mlX10_118 (c_isOne4 (sh / 10) (sh - sh / 10 * 10)) dX10_hoop_17 rfl rfl (Nat.le_of_ble_eq_true rfl) (by decide) (by decide) ?_
    refine xb_bne (tgt := 25) dX10_hoop_20 rfl (fun c2 => ?_) (fun c2 => ?_)
    · refine xr_aload_n dX10_hoop_25 0 rfl ?_
      refine xb_get (v := 0) flX10_109 dX10_hoop_26 s_62 rfl (Fr_r hF (by decide) (by decide +kernel)) ?_
      refine xr_iconst (v := 5) dX10_hoop_29 rfl ?_
      refine xr_icmp_ne (tgt := 36) dX10_hoop_30 rfl (fun _ => ?_) (fun c => absurd c (by decide))
      refine xr_aload_n dX10_hoop_36 0 rfl ?_
      refine xr_iload_n dX10_hoop_37 1 rfl ?_
      refine xr_bipush (v := 10) dX10_hoop_38 rfl ?_
      refine xr_idiv dX10_hoop_40 (by decide) ?_
      refine xr_iload_n dX10_hoop_41 1 rfl ?_
      refine xr_bipush (v := 10) dX10_hoop_42 rfl ?_
      refine xr_irem dX10_hoop_44 (by decide) ?_
      refine xr_iconst (v := 4) dX10_hoop_45 rfl ?_
      refine xb_cV (As := [.int ((sh / 10)), .int ((sh - sh / 10 * 10)), .int (4)]) (rest := []) mlX10_121 (r_adds (sh / 10) (sh - sh / 10 * 10) 4 hF) dX10_hoop_46 s_62 rfl rfl (Nat.le_of_ble_eq_true rfl) (by decide) (by decide) ?_
      refine xr_aload_n dX10_hoop_49 0 rfl ?_
      refine xb_get (v := 1) flX10_109 dX10_hoop_50 s_62 rfl (x_up_s _ _ _ _) ?_
      refine xr_iconst (v := 1) dX10_hoop_53 rfl ?_
      refine xr_isub dX10_hoop_54 ?_
      refine xb_top (y := 0) (by decide) ?_
      exact xr_iret dX10_hoop_55 rfl rfl (by first | rfl | (refine congrArg (fun z => some (Value.int z)) ?_; first | exact (if_neg (by assumption)).symm | exact (if_pos (by assumption)).symm | grind))
    · refine xr_iconst (v := -1) dX10_hoop_23 rfl ?_
      exact xr_iret dX10_hoop_24 rfl rfl (by first | rfl | (refine congrArg (fun z => some (Value.int z)) ?_; first | exact (if_neg (by assumption)).symm | exact (if_pos (by assumption)).symm | grind))
set_option maxRecDepth 100000 in
set_option maxHeartbeats 4000000 in
theorem p_X10_hoops (shelf i n : Int32) {l : Launch} {G : xG} {M : xM} {J : xJ} (hF : Fr M)  : x_M l G fX10_hoops 4 0 0 [.ref (62), .int (shelf), .int (i), .int (n)] x_SH M J (qR (some (.int (if (0 ≤ shelf ∧ shelf < 6) ∧ 1 ≤ n ∧ n ≤ 5 then 0 else -1)))) := by
  refine xb_of pX10 (Nat.le_of_ble_eq_true rfl) rfl ?_
  refine xr_iload_n dX10_hoops_0 1 rfl ?_
  refine xb_cS (As := [.int (shelf)]) (rest := []) mlX10_125 (c_X10_isShelf shelf) dX10_hoops_1 rfl rfl (Nat.le_of_ble_eq_true rfl) (by decide) (by decide) ?_
  refine xb_beq (tgt := 19) dX10_hoops_4 rfl (fun c1 => ?_) (fun c1 => ?_)
  · refine xr_iconst (v := -1) dX10_hoops_19 rfl ?_
    exact xr_iret dX10_hoops_20 rfl rfl (by first | rfl | (refine congrArg (fun z => some (Value.int z)) ?_; first | exact (if_neg (by assumption)).symm | exact (if_pos (by assumption)).symm | grind))
  · obtain ⟨j, hj, rfl⟩ := x_natle (N := 5) (by decide) rfl c1
    replace hj := Nat.lt_succ_of_le hj
    refine xr_iload_n dX10_hoops_7 3 rfl ?_
    refine xr_i2l dX10_hoops_8 ?_
    refine xr_lconst (v := 1) dX10_hoops_9 rfl ?_
    refine xr_ldc2 coX10_129 dX10_hoops_10 ?_
    refine xb_cS (As := [.long ((n).toInt64), .long (1), .long (5)]) (rest := []) mlX10_101 (c_within32 (n) (1) (5) (by decide) (by decide)) dX10_hoops_13 rfl rfl (Nat.le_of_ble_eq_true rfl) (by decide) (by decide) ?_
    refine xb_bne (tgt := 21) dX10_hoops_16 rfl (fun c2 => ?_) (fun c2 => ?_)
    · refine xr_aload_n dX10_hoops_21 0 rfl ?_
      refine xr_getR flX10_75 dX10_hoops_22 s_62 rfl ?_
      refine xr_iload_n dX10_hoops_25 1 rfl ?_
      refine xb_iald (j := j) (v := (-1)) dX10_hoops_26 s_83 hj (by decide) (mi_83 hF j hj) ?_
      refine xr_if_lt (tgt := 44) dX10_hoops_27 rfl (fun _ => ?_) (fun c => absurd (by decide) c)
      refine xr_iconst (v := 0) dX10_hoops_44 rfl ?_
      refine xr_istore (ls2 := [(4, .int (0)), (0, .ref (62)), (1, .int (nI (j))), (2, .int (i)), (3, .int (n))]) dX10_hoops_45 (by decide) rfl ?_
      refine xr_aload_n dX10_hoops_47 1 rfl ?_
      refine xr_getR flX10_75 dX10_hoops_48 s_62 rfl ?_
      refine xr_iload_n dX10_hoops_51 2 rfl ?_
      refine xb_iald (j := j) (v := (-1)) dX10_hoops_52 s_83 hj (by decide) (mi_83 hF j hj) ?_
      refine xr_bipush (v := 50) dX10_hoops_53 rfl ?_
      refine xr_icmp_ne (tgt := 66) dX10_hoops_55 rfl (fun _ => ?_) (fun c => absurd c (by decide))
      refine xr_iconst (v := 0) dX10_hoops_66 rfl ?_
      refine xr_istore (ls2 := [(5, .int (0)), (4, .int (0)), (0, .ref (62)), (1, .int (nI (j))), (2, .int (i)), (3, .int (n))]) dX10_hoops_67 (by decide) rfl ?_
      refine xr_iload dX10_hoops_69 0 rfl ?_
      refine xr_if_eq (tgt := 211) dX10_hoops_71 rfl (fun _ => ?_) (fun c => absurd (by decide) c)
      refine xr_iload dX10_hoops_211 1 rfl ?_
      exact xr_iret dX10_hoops_213 rfl rfl (by first | rfl | (refine congrArg (fun z => some (Value.int z)) ?_; first | exact (if_neg (by assumption)).symm | exact (if_pos (by assumption)).symm | grind))
    · refine xr_iconst (v := -1) dX10_hoops_19 rfl ?_
      exact xr_iret dX10_hoops_20 rfl rfl (by first | rfl | (refine congrArg (fun z => some (Value.int z)) ?_; first | exact (if_neg (by assumption)).symm | exact (if_pos (by assumption)).symm | grind))
set_option maxRecDepth 100000 in
set_option maxHeartbeats 4000000 in
theorem p_X10_led (what : Int32) {l : Launch} {G : xG} {M : xM} {J : xJ} (hF : Fr M)  : x_M l G fX10_led 4 0 0 [.ref (62), .int (what)] x_SH M J (qR (some (.int (if what = 0 then 0 else if what = 1 then -2 else -1)))) := by
  refine xb_of pX10 (Nat.le_of_ble_eq_true rfl) rfl ?_
  refine xr_iload_n dX10_led_0 1 rfl ?_
  refine xr_if_ne (tgt := 11) dX10_led_1 rfl (fun c1 => ?_) (fun c1 => ?_)
  · refine xr_iload_n dX10_led_11 1 rfl ?_
    refine xr_iconst (v := 1) dX10_led_12 rfl ?_
    refine xr_icmp_ne (tgt := 23) dX10_led_13 rfl (fun c2 => ?_) (fun c2 => ?_)
    · refine xr_iconst (v := -1) dX10_led_23 rfl ?_
      exact xr_iret dX10_led_24 rfl rfl (by first | rfl | (refine congrArg (fun z => some (Value.int z)) ?_; first | exact (if_neg (by assumption)).symm | exact (if_pos (by assumption)).symm | grind))
    · refine xr_aload_n dX10_led_16 0 rfl ?_
      refine xb_get (v := (-2)) flX10_46 dX10_led_17 s_62 rfl (Fr_r hF (by decide) (by decide +kernel)) ?_
      refine xr_goto (tgt := 24) dX10_led_20 rfl ?_
      exact xr_iret dX10_led_24 rfl rfl (by first | rfl | (refine congrArg (fun z => some (Value.int z)) ?_; first | exact (if_neg (by assumption)).symm | exact (if_pos (by assumption)).symm | grind))
  · refine xr_aload_n dX10_led_4 0 rfl ?_
    refine xb_get (v := 0) flX10_258 dX10_led_5 s_62 rfl (Fr_r hF (by decide) (by decide +kernel)) ?_
    refine xr_goto (tgt := 24) dX10_led_8 rfl ?_
    exact xr_iret dX10_led_24 rfl rfl (by first | rfl | (refine congrArg (fun z => some (Value.int z)) ?_; first | exact (if_neg (by assumption)).symm | exact (if_pos (by assumption)).symm | grind))
set_option maxRecDepth 100000 in
set_option maxHeartbeats 4000000 in
theorem p_X10_lift (hoop : Int32) {l : Launch} {G : xG} {M : xM} {J : xJ} (hF : Fr M)  : x_M l G fX10_lift 4 0 0 [.ref (62), .int (hoop)] x_SH M J (qR (some (.int (-1)))) := by
  refine xb_of pX10 (Nat.le_of_ble_eq_true rfl) rfl ?_
  refine xr_aload_n dX10_lift_0 0 rfl ?_
  refine xr_iload_n dX10_lift_1 1 rfl ?_
  refine xb_cV (As := [.int (hoop)]) (rest := []) mlX10_133 (r_isHoop hoop (Fr_r hF (by decide) (by decide +kernel))) dX10_lift_2 s_62 rfl rfl (Nat.le_of_ble_eq_true rfl) (by decide) (by decide) ?_
  refine xr_if_ne (tgt := 10) dX10_lift_5 rfl (fun c => absurd (by decide) c) (fun _ => ?_)
  refine xr_iconst (v := -1) dX10_lift_8 rfl ?_
  exact xr_iret dX10_lift_9 rfl rfl (by first | rfl | (refine congrArg (fun z => some (Value.int z)) ?_; first | exact (if_neg (by assumption)).symm | exact (if_pos (by assumption)).symm | grind))
set_option maxRecDepth 100000 in
set_option maxHeartbeats 4000000 in
theorem p_X10_then (hoop k what : Int32) {l : Launch} {G : xG} {M : xM} {J : xJ} (hF : Fr M)  : x_M l G fX10_then 4 0 0 [.ref (62), .int (hoop), .int (k), .int (what)] x_SH M J (qR (some (.int (-2000000000)))) := by
  refine xb_of pX10 (Nat.le_of_ble_eq_true rfl) rfl ?_
  refine xr_aload_n dX10_then_0 0 rfl ?_
  refine xr_iload_n dX10_then_1 1 rfl ?_
  refine xb_cV (As := [.int (hoop)]) (rest := []) mlX10_133 (r_isHoop hoop (Fr_r hF (by decide) (by decide +kernel))) dX10_then_2 s_62 rfl rfl (Nat.le_of_ble_eq_true rfl) (by decide) (by decide) ?_
  refine xr_if_eq (tgt := 32) dX10_then_5 rfl (fun _ => ?_) (fun c => absurd (by decide) c)
  refine xr_ldc coX10_140 dX10_then_32 ?_
  exact xr_iret dX10_then_34 rfl rfl (by first | rfl | (refine congrArg (fun z => some (Value.int z)) ?_; first | exact (if_neg (by assumption)).symm | exact (if_pos (by assumption)).symm | grind))
set_option maxRecDepth 100000 in
set_option maxHeartbeats 4000000 in
theorem p_X10_falls (hoop : Int32) {l : Launch} {G : xG} {M : xM} {J : xJ} (hF : Fr M)  : x_M l G fX10_falls 4 0 0 [.ref (62), .int (hoop)] x_SH M J (qR (some (.int (-1)))) := by
  refine xb_of pX10 (Nat.le_of_ble_eq_true rfl) rfl ?_
  refine xr_aload_n dX10_falls_0 0 rfl ?_
  refine xr_iload_n dX10_falls_1 1 rfl ?_
  refine xb_cV (As := [.int (hoop)]) (rest := []) mlX10_133 (r_isHoop hoop (Fr_r hF (by decide) (by decide +kernel))) dX10_falls_2 s_62 rfl rfl (Nat.le_of_ble_eq_true rfl) (by decide) (by decide) ?_
  refine xr_if_ne (tgt := 10) dX10_falls_5 rfl (fun c => absurd (by decide) c) (fun _ => ?_)
  refine xr_iconst (v := -1) dX10_falls_8 rfl ?_
  exact xr_iret dX10_falls_9 rfl rfl (by first | rfl | (refine congrArg (fun z => some (Value.int z)) ?_; first | exact (if_neg (by assumption)).symm | exact (if_pos (by assumption)).symm | grind))
set_option maxRecDepth 100000 in
set_option maxHeartbeats 4000000 in
theorem p_X10_rescue (hoop fp : Int32) {l : Launch} {G : xG} {M : xM} {J : xJ} (hF : Fr M)  : x_M l G fX10_rescue 4 0 0 [.ref (62), .int (hoop), .int (fp)] x_SH M J (qR (some (.int (-1)))) := by
  refine xb_of pX10 (Nat.le_of_ble_eq_true rfl) rfl ?_
  refine xr_aload_n dX10_rescue_0 0 rfl ?_
  refine xr_iload_n dX10_rescue_1 1 rfl ?_
  refine xb_cV (As := [.int (hoop)]) (rest := []) mlX10_133 (r_isHoop hoop (Fr_r hF (by decide) (by decide +kernel))) dX10_rescue_2 s_62 rfl rfl (Nat.le_of_ble_eq_true rfl) (by decide) (by decide) ?_
  refine xr_if_eq (tgt := 36) dX10_rescue_5 rfl (fun _ => ?_) (fun c => absurd (by decide) c)
  refine xr_iconst (v := -1) dX10_rescue_36 rfl ?_
  exact xr_iret dX10_rescue_37 rfl rfl (by first | rfl | (refine congrArg (fun z => some (Value.int z)) ?_; first | exact (if_neg (by assumption)).symm | exact (if_pos (by assumption)).symm | grind))
set_option maxRecDepth 100000 in
set_option maxHeartbeats 4000000 in
theorem p_X10_start (hoop : Int32) {l : Launch} {G : xG} {M : xM} {J : xJ} (hF : Fr M)  : x_M l G fX10_start 4 0 0 [.ref (62), .int (hoop)] x_SH M J (qR (some (.int (-2000000000)))) := by
  refine xb_of pX10 (Nat.le_of_ble_eq_true rfl) rfl ?_
  refine xr_aload_n dX10_start_0 0 rfl ?_
  refine xr_iload_n dX10_start_1 1 rfl ?_
  refine xb_cV (As := [.int (hoop)]) (rest := []) mlX10_133 (r_isHoop hoop (Fr_r hF (by decide) (by decide +kernel))) dX10_start_2 s_62 rfl rfl (Nat.le_of_ble_eq_true rfl) (by decide) (by decide) ?_
  refine xr_if_ne (tgt := 11) dX10_start_5 rfl (fun c => absurd (by decide) c) (fun _ => ?_)
  refine xr_ldc coX10_140 dX10_start_8 ?_
  exact xr_iret dX10_start_10 rfl rfl (by first | rfl | (refine congrArg (fun z => some (Value.int z)) ?_; first | exact (if_neg (by assumption)).symm | exact (if_pos (by assumption)).symm | grind))
set_option maxRecDepth 100000 in
set_option maxHeartbeats 4000000 in
theorem r_rowIs (d : Int32) {l : Launch} {G : xG} {M : xM} {J : xJ} (hF : Fr M)  : x_M l G fX10_rowIs 3 0 0 [.ref (62), .int (d)] x_SH M J (qE (some (.int (if 0 ≤ d ∧ d < 6 then -11 else -1))) x_SH M J) := by
  refine xb_of pX10 (Nat.le_of_ble_eq_true rfl) rfl ?_
  refine xr_iload_n dX10_rowIs_0 1 rfl ?_
  refine xb_cS (As := [.int (d)]) (rest := []) mlX10_125 (c_X10_isShelf d) dX10_rowIs_1 rfl rfl (Nat.le_of_ble_eq_true rfl) (by decide) (by decide) ?_
  refine xb_bne (tgt := 11) dX10_rowIs_4 rfl (fun c1 => ?_) (fun c1 => ?_)
  · obtain ⟨j, hj, rfl⟩ := x_natle (N := 5) (by decide) rfl c1
    replace hj := Nat.lt_succ_of_le hj
    refine xr_aload_n dX10_rowIs_11 0 rfl ?_
    refine xr_getR flX10_75 dX10_rowIs_12 s_62 rfl ?_
    refine xr_iload_n dX10_rowIs_15 1 rfl ?_
    refine xb_iald (j := j) (v := (-1)) dX10_rowIs_16 s_83 hj (by decide) (mi_83 hF j hj) ?_
    refine xr_if_ge (tgt := 25) dX10_rowIs_17 rfl (fun c => absurd c (by decide)) (fun _ => ?_)
    refine xr_bipush (v := -11) dX10_rowIs_20 rfl ?_
    refine xr_goto (tgt := 42) dX10_rowIs_22 rfl ?_
    exact xr_iret dX10_rowIs_42 rfl rfl (⟨by first | rfl | grind, rfl, rfl, rfl⟩)
  · refine xr_iconst (v := -1) dX10_rowIs_7 rfl ?_
    refine xr_goto (tgt := 42) dX10_rowIs_8 rfl ?_
    exact xr_iret dX10_rowIs_42 rfl rfl (⟨by first | rfl | grind, rfl, rfl, rfl⟩)
set_option maxRecDepth 100000 in
set_option maxHeartbeats 4000000 in
theorem p_X10_music (shelf : Int32) {l : Launch} {G : xG} {M : xM} {J : xJ} (hF : Fr M)  : x_M l G fX10_music 4 0 0 [.ref (62), .int (shelf)] x_SH M J (qR (some (.int (if 0 ≤ shelf ∧ shelf < 6 then -11 else -1)))) := by
  refine xb_of pX10 (Nat.le_of_ble_eq_true rfl) rfl ?_
  refine xr_aload_n dX10_music_0 0 rfl ?_
  refine xr_iload_n dX10_music_1 1 rfl ?_
  refine xb_cV (As := [.int (shelf)]) (rest := []) mlX10_285 (r_rowIs shelf hF) dX10_music_2 s_62 rfl rfl (Nat.le_of_ble_eq_true rfl) (by decide) (by decide) ?_
  refine xr_if_ge (tgt := 14) dX10_music_5 rfl (fun c => absurd c (by split <;> decide)) (fun _ => ?_)
  refine xr_aload_n dX10_music_8 0 rfl ?_
  refine xr_iload_n dX10_music_9 1 rfl ?_
  refine xb_cV (As := [.int (shelf)]) (rest := []) mlX10_285 (r_rowIs shelf hF) dX10_music_10 s_62 rfl rfl (Nat.le_of_ble_eq_true rfl) (by decide) (by decide) ?_
  exact xr_iret dX10_music_13 rfl rfl (by first | rfl | (refine congrArg (fun z => some (Value.int z)) ?_; first | exact (if_neg (by assumption)).symm | exact (if_pos (by assumption)).symm | grind))
set_option maxRecDepth 100000 in
set_option maxHeartbeats 4000000 in
theorem p_X10_judge (shelf hoop : Int32) {l : Launch} {G : xG} {M : xM} {J : xJ} (hF : Fr M)  : x_M l G fX10_judge 4 0 0 [.ref (62), .int (shelf), .int (hoop)] x_SH M J (qR (some (.int (-1)))) := by
  refine xb_of pX10 (Nat.le_of_ble_eq_true rfl) rfl ?_
  refine xr_aload_n dX10_judge_0 0 rfl ?_
  refine xr_iload_n dX10_judge_1 1 rfl ?_
  refine xb_cV (As := [.int (shelf)]) (rest := []) mlX10_285 (r_rowIs shelf hF) dX10_judge_2 s_62 rfl rfl (Nat.le_of_ble_eq_true rfl) (by decide) (by decide) ?_
  refine xr_iconst (v := -1) dX10_judge_5 rfl ?_
  refine xr_icmp_eq (tgt := 17) dX10_judge_6 rfl (fun c1 => ?_) (fun c1 => ?_)
  · refine xr_iconst (v := -1) dX10_judge_17 rfl ?_
    exact xr_iret dX10_judge_18 rfl rfl (by first | rfl | (refine congrArg (fun z => some (Value.int z)) ?_; first | exact (if_neg (by assumption)).symm | exact (if_pos (by assumption)).symm | grind))
  · refine xr_aload_n dX10_judge_9 0 rfl ?_
    refine xr_iload_n dX10_judge_10 2 rfl ?_
    refine xb_cV (As := [.int (hoop)]) (rest := []) mlX10_133 (r_isHoop hoop (Fr_r hF (by decide) (by decide +kernel))) dX10_judge_11 s_62 rfl rfl (Nat.le_of_ble_eq_true rfl) (by decide) (by decide) ?_
    refine xr_if_ne (tgt := 19) dX10_judge_14 rfl (fun c => absurd (by decide) c) (fun _ => ?_)
    refine xr_iconst (v := -1) dX10_judge_17 rfl ?_
    exact xr_iret dX10_judge_18 rfl rfl (by first | rfl | (refine congrArg (fun z => some (Value.int z)) ?_; first | exact (if_neg (by assumption)).symm | exact (if_pos (by assumption)).symm | grind))
set_option maxRecDepth 100000 in
set_option maxHeartbeats 4000000 in
theorem p_X10_begun (shelf hoop what : Int32) {l : Launch} {G : xG} {M : xM} {J : xJ} (hF : Fr M)  : x_M l G fX10_begun 4 0 0 [.ref (62), .int (shelf), .int (hoop), .int (what)] x_SH M J (qR (some (.int (-2000000000)))) := by
  refine xb_of pX10 (Nat.le_of_ble_eq_true rfl) rfl ?_
  refine xr_aload_n dX10_begun_0 0 rfl ?_
  refine xr_iload_n dX10_begun_1 1 rfl ?_
  refine xb_cV (As := [.int (shelf)]) (rest := []) mlX10_285 (r_rowIs shelf hF) dX10_begun_2 s_62 rfl rfl (Nat.le_of_ble_eq_true rfl) (by decide) (by decide) ?_
  refine xr_if_lt (tgt := 26) dX10_begun_5 rfl (fun _ => ?_) (fun c => absurd (by split <;> decide) c)
  refine xr_ldc coX10_140 dX10_begun_26 ?_
  exact xr_iret dX10_begun_28 rfl rfl (by first | rfl | (refine congrArg (fun z => some (Value.int z)) ?_; first | exact (if_neg (by assumption)).symm | exact (if_pos (by assumption)).symm | grind))
set_option maxRecDepth 100000 in
set_option maxHeartbeats 4000000 in
theorem p_X10_skill (girl v : Int32) {l : Launch} {G : xG} {M : xM} {J : xJ} (hF : Fr M)  : x_M l G fX10_skill 4 0 0 [.ref (62), .int (girl), .int (v)] x_SH M J (qR (some (.int (if (0 ≤ girl ∧ girl < 25) ∧ (0 ≤ v ∧ v ≤ 12) then 9 else -1)))) := by
  refine xb_of pX10 (Nat.le_of_ble_eq_true rfl) rfl ?_
  refine xr_iload_n dX10_skill_0 1 rfl ?_
  refine xb_cS (As := [.int (girl)]) (rest := []) mlX10_293 (c_X10_isGirl girl) dX10_skill_1 rfl rfl (Nat.le_of_ble_eq_true rfl) (by decide) (by decide) ?_
  refine xb_beq (tgt := 19) dX10_skill_4 rfl (fun c1 => ?_) (fun c1 => ?_)
  · refine xr_iconst (v := -1) dX10_skill_19 rfl ?_
    exact xr_iret dX10_skill_20 rfl rfl (by first | rfl | (refine congrArg (fun z => some (Value.int z)) ?_; first | exact (if_neg (by assumption)).symm | exact (if_pos (by assumption)).symm | grind))
  · obtain ⟨j, hj, rfl⟩ := x_natle (N := 24) (by decide) rfl c1
    replace hj := Nat.lt_succ_of_le hj
    refine xr_iload_n dX10_skill_7 2 rfl ?_
    refine xr_i2l dX10_skill_8 ?_
    refine xr_lconst (v := 0) dX10_skill_9 rfl ?_
    refine xr_ldc2 coX10_296 dX10_skill_10 ?_
    refine xb_cS (As := [.long ((v).toInt64), .long (0), .long (12)]) (rest := []) mlX10_101 (c_within32 (v) (0) (12) (by decide) (by decide)) dX10_skill_13 rfl rfl (Nat.le_of_ble_eq_true rfl) (by decide) (by decide) ?_
    refine xb_bne (tgt := 21) dX10_skill_16 rfl (fun c2 => ?_) (fun c2 => ?_)
    · refine xr_aload_n dX10_skill_21 0 rfl ?_
      refine xr_getR flX10_50 dX10_skill_22 s_62 rfl ?_
      refine xr_iload_n dX10_skill_25 1 rfl ?_
      refine xb_iald (j := j) (v := 9) dX10_skill_26 s_75 hj (by decide) (mi_75 hF j hj) ?_
      refine xr_istore_n (ls2 := [(3, .int (9)), (0, .ref (62)), (1, .int (nI (j))), (2, .int (v))]) dX10_skill_27 (by decide) rfl ?_
      refine xr_aload_n dX10_skill_28 1 rfl ?_
      refine xr_getR flX10_50 dX10_skill_29 s_62 rfl ?_
      refine xr_iload_n dX10_skill_32 2 rfl ?_
      refine xr_iload_n dX10_skill_33 3 rfl ?_
      refine xb_iast (j := j) dX10_skill_34 s_75 hj (by decide) ?_
      refine xr_aload_n dX10_skill_35 1 rfl ?_
      refine xr_getR flX10_53 dX10_skill_36 s_62 rfl ?_
      refine xr_iload_n dX10_skill_39 2 rfl ?_
      refine xr_iconst (v := 0) dX10_skill_40 rfl ?_
      refine xb_iast (j := j) dX10_skill_41 s_76 hj (by decide) ?_
      refine xr_iload_n dX10_skill_42 0 rfl ?_
      exact xr_iret dX10_skill_43 rfl rfl (by first | rfl | (refine congrArg (fun z => some (Value.int z)) ?_; first | exact (if_neg (by assumption)).symm | exact (if_pos (by assumption)).symm | grind))
    · refine xr_iconst (v := -1) dX10_skill_19 rfl ?_
      exact xr_iret dX10_skill_20 rfl rfl (by first | rfl | (refine congrArg (fun z => some (Value.int z)) ?_; first | exact (if_neg (by assumption)).symm | exact (if_pos (by assumption)).symm | grind))
set_option maxRecDepth 100000 in
set_option maxHeartbeats 4000000 in
theorem p_X10_image {l : Launch} {G : xG} {M : xM} {J : xJ} (hF : Fr M)  : x_M l G fX10_image 4 0 0 [.ref (62)] x_SH M J (qR (some (.int 0))) := by
  refine xb_of pX10 (Nat.le_of_ble_eq_true rfl) rfl ?_
  refine xr_aload_n dX10_image_0 0 rfl ?_
  refine xr_iconst (v := 1) dX10_image_1 rfl ?_
  refine xr_putI fpX10_327 dX10_image_2 s_62 rfl rfl rfl ?_
  refine xr_aload_n dX10_image_5 0 rfl ?_
  refine xr_aload_n dX10_image_6 0 rfl ?_
  refine xb_get (v := 0) flX10_109 dX10_image_7 s_62 rfl (Eq.trans (x_up_k _ _ _ (by decide)) (Fr_r hF (by decide) (by decide +kernel))) ?_
  refine xr_putI fpX10_331 dX10_image_10 s_62 rfl rfl rfl ?_
  refine xr_aload_n dX10_image_13 0 rfl ?_
  refine xr_getR flX10_66 dX10_image_14 s_62 rfl ?_
  refine xr_iconst (v := 0) dX10_image_17 rfl ?_
  refine xr_aload_n dX10_image_18 0 rfl ?_
  refine xb_get (v := 0) flX10_151 dX10_image_19 s_62 rfl (Eq.trans (x_up_k _ _ _ (by decide)) (Eq.trans (x_up_k _ _ _ (by decide)) (Fr_r hF (by decide) (by decide +kernel)))) ?_
  refine xb_iast (j := 0) dX10_image_22 s_80 (by decide) (by decide) ?_
  refine xr_aload_n dX10_image_23 0 rfl ?_
  refine xr_getR flX10_66 dX10_image_24 s_62 rfl ?_
  refine xr_iconst (v := 1) dX10_image_27 rfl ?_
  refine xr_aload_n dX10_image_28 0 rfl ?_
  refine xb_get (v := 0) flX10_258 dX10_image_29 s_62 rfl (Eq.trans (congrFun (x_up_n _ _ _ (by decide)) _) (Eq.trans (x_up_k _ _ _ (by decide)) (Eq.trans (x_up_k _ _ _ (by decide)) (Fr_r hF (by decide) (by decide +kernel))))) ?_
  refine xb_iast (j := 1) dX10_image_32 s_80 (by decide) (by decide) ?_
  refine xr_aload_n dX10_image_33 0 rfl ?_
  refine xr_getR flX10_66 dX10_image_34 s_62 rfl ?_
  refine xr_iconst (v := 2) dX10_image_37 rfl ?_
  refine xr_aload_n dX10_image_38 0 rfl ?_
  refine xb_get (v := (-2)) flX10_46 dX10_image_39 s_62 rfl (Eq.trans (congrFun (x_up_n _ _ _ (by decide)) _) (Eq.trans (congrFun (x_up_n _ _ _ (by decide)) _) (Eq.trans (x_up_k _ _ _ (by decide)) (Eq.trans (x_up_k _ _ _ (by decide)) (Fr_r hF (by decide) (by decide +kernel)))))) ?_
  refine xb_iast (j := 2) dX10_image_42 s_80 (by decide) (by decide) ?_
  refine xr_iconst (v := 0) dX10_image_43 rfl ?_
  refine xr_istore_n (ls2 := [(1, .int (0)), (0, .ref (62))]) dX10_image_44 (by decide) rfl ?_
  refine xr_iload_n dX10_image_45 0 rfl ?_
  refine xr_aload_n dX10_image_46 1 rfl ?_
  refine xb_get (v := 0) flX10_109 dX10_image_47 s_62 rfl (Eq.trans (congrFun (x_up_n _ _ _ (by decide)) _) (Eq.trans (congrFun (x_up_n _ _ _ (by decide)) _) (Eq.trans (congrFun (x_up_n _ _ _ (by decide)) _) (Eq.trans (x_up_k _ _ _ (by decide)) (Eq.trans (x_up_k _ _ _ (by decide)) (Fr_r hF (by decide) (by decide +kernel))))))) ?_
  refine xr_icmp_ge (tgt := 110) dX10_image_50 rfl (fun _ => ?_) (fun c => absurd (by decide) c)
  refine xr_aload_n dX10_image_110 1 rfl ?_
  refine xb_get (v := 0) flX10_151 dX10_image_111 s_62 rfl (Eq.trans (congrFun (x_up_n _ _ _ (by decide)) _) (Eq.trans (congrFun (x_up_n _ _ _ (by decide)) _) (Eq.trans (congrFun (x_up_n _ _ _ (by decide)) _) (Eq.trans (x_up_k _ _ _ (by decide)) (Eq.trans (x_up_k _ _ _ (by decide)) (Fr_r hF (by decide) (by decide +kernel))))))) ?_
  exact xr_iret dX10_image_114 rfl rfl (by first | rfl | (refine congrArg (fun z => some (Value.int z)) ?_; first | exact (if_neg (by assumption)).symm | exact (if_pos (by assumption)).symm | grind))
set_option maxRecDepth 100000 in
set_option maxHeartbeats 4000000 in
theorem p_X10_back {l : Launch} {G : xG} {M : xM} {J : xJ} (hF : Fr M)  : x_M l G fX10_back 4 0 0 [.ref (62)] x_SH M J (qR (some (.int (-5)))) := by
  refine xb_of pX10 (Nat.le_of_ble_eq_true rfl) rfl ?_
  refine xr_aload_n dX10_back_0 0 rfl ?_
  refine xb_get (v := 0) flX10_327 dX10_back_1 s_62 rfl (Fr_r hF (by decide) (by decide +kernel)) ?_
  refine xr_if_ne (tgt := 10) dX10_back_4 rfl (fun c => absurd (by decide) c) (fun _ => ?_)
  refine xr_bipush (v := -5) dX10_back_7 rfl ?_
  exact xr_iret dX10_back_9 rfl rfl (by first | rfl | (refine congrArg (fun z => some (Value.int z)) ?_; first | exact (if_neg (by assumption)).symm | exact (if_pos (by assumption)).symm | grind))
set_option maxRecDepth 100000 in
set_option maxHeartbeats 4000000 in
theorem p_X10_undo {l : Launch} {G : xG} {M : xM} {J : xJ} (hF : Fr M)  : x_M l G fX10_undo 4 0 0 [.ref (62)] x_SH M J (qR (some (.int (-5)))) := by
  refine xb_of pX10 (Nat.le_of_ble_eq_true rfl) rfl ?_
  refine xr_aload_n dX10_undo_0 0 rfl ?_
  refine xb_get (v := 0) flX10_91 dX10_undo_1 s_62 rfl (Fr_r hF (by decide) (by decide +kernel)) ?_
  refine xr_if_ne (tgt := 10) dX10_undo_4 rfl (fun c => absurd (by decide) c) (fun _ => ?_)
  refine xr_bipush (v := -5) dX10_undo_7 rfl ?_
  exact xr_iret dX10_undo_9 rfl rfl (by first | rfl | (refine congrArg (fun z => some (Value.int z)) ?_; first | exact (if_neg (by assumption)).symm | exact (if_pos (by assumption)).symm | grind))
set_option maxRecDepth 100000 in
set_option maxHeartbeats 4000000 in
theorem p_X10_redo {l : Launch} {G : xG} {M : xM} {J : xJ} (hF : Fr M)  : x_M l G fX10_redo 4 0 0 [.ref (62)] x_SH M J (qR (some (.int (-5)))) := by
  refine xb_of pX10 (Nat.le_of_ble_eq_true rfl) rfl ?_
  refine xr_aload_n dX10_redo_0 0 rfl ?_
  refine xb_get (v := 0) flX10_91 dX10_redo_1 s_62 rfl (Fr_r hF (by decide) (by decide +kernel)) ?_
  refine xr_aload_n dX10_redo_4 0 rfl ?_
  refine xb_get (v := 0) flX10_94 dX10_redo_5 s_62 rfl (Fr_r hF (by decide) (by decide +kernel)) ?_
  refine xr_icmp_ne (tgt := 14) dX10_redo_8 rfl (fun c => absurd (by decide) c) (fun _ => ?_)
  refine xr_bipush (v := -5) dX10_redo_11 rfl ?_
  exact xr_iret dX10_redo_13 rfl rfl (by first | rfl | (refine congrArg (fun z => some (Value.int z)) ?_; first | exact (if_neg (by assumption)).symm | exact (if_pos (by assumption)).symm | grind))
set_option maxRecDepth 100000 in
set_option maxHeartbeats 4000000 in
theorem p_X10_body (kind : Int32) {l : Launch} {G : xG} {M : xM} {J : xJ} (hF : Fr M)  : x_M l G fX10_body 4 0 0 [.ref (62), .int (kind)] x_SH M J (qR (some (.int (if 0 ≤ kind ∧ kind < 8 then 0 else -1)))) := by
  refine xb_of pX10 (Nat.le_of_ble_eq_true rfl) rfl ?_
  refine xr_iload_n dX10_body_0 1 rfl ?_
  refine xr_i2l dX10_body_1 ?_
  refine xr_lconst (v := 0) dX10_body_2 rfl ?_
  refine xr_ldc2 coX10_143 dX10_body_3 ?_
  refine xb_cS (As := [.long ((kind).toInt64), .long (0), .long (7)]) (rest := []) mlX10_101 (c_within32 (kind) (0) (7) (by decide) (by decide)) dX10_body_6 rfl rfl (Nat.le_of_ble_eq_true rfl) (by decide) (by decide) ?_
  refine xb_bne (tgt := 14) dX10_body_9 rfl (fun c1 => ?_) (fun c1 => ?_)
  · refine xr_aload_n dX10_body_14 0 rfl ?_
    refine xb_get (v := 0) flX10_334 dX10_body_15 s_62 rfl (Fr_r hF (by decide) (by decide +kernel)) ?_
    refine xr_bipush (v := 50) dX10_body_18 rfl ?_
    refine xr_icmp_ne (tgt := 26) dX10_body_20 rfl (fun _ => ?_) (fun c => absurd c (by decide))
    refine xr_aload_n dX10_body_26 0 rfl ?_
    refine xr_getR flX10_69 dX10_body_27 s_62 rfl ?_
    refine xr_aload_n dX10_body_30 0 rfl ?_
    refine xb_get (v := 0) flX10_334 dX10_body_31 s_62 rfl (Fr_r hF (by decide) (by decide +kernel)) ?_
    refine xr_iload_n dX10_body_34 1 rfl ?_
    refine xb_iast (j := 0) dX10_body_35 s_81 (by decide) (by decide) ?_
    refine xr_aload_n dX10_body_36 0 rfl ?_
    refine xr_dup dX10_body_37 rfl ?_
    refine xb_get (v := 0) flX10_334 dX10_body_38 s_62 rfl (Eq.trans (congrFun (x_up_n _ _ _ (by decide)) _) (Fr_r hF (by decide) (by decide +kernel))) ?_
    refine xr_iconst (v := 1) dX10_body_41 rfl ?_
    refine xr_iadd dX10_body_42 ?_
    refine xb_top (y := 1) (by decide) ?_
    refine xr_putI fpX10_334 dX10_body_43 s_62 rfl rfl rfl ?_
    refine xr_aload_n dX10_body_46 0 rfl ?_
    refine xb_get (v := 1) flX10_334 dX10_body_47 s_62 rfl (x_up_s _ _ _ _) ?_
    refine xr_iconst (v := 1) dX10_body_50 rfl ?_
    refine xr_isub dX10_body_51 ?_
    refine xb_top (y := 0) (by decide) ?_
    exact xr_iret dX10_body_52 rfl rfl (by first | rfl | (refine congrArg (fun z => some (Value.int z)) ?_; first | exact (if_neg (by assumption)).symm | exact (if_pos (by assumption)).symm | grind))
  · refine xr_iconst (v := -1) dX10_body_12 rfl ?_
    exact xr_iret dX10_body_13 rfl rfl (by first | rfl | (refine congrArg (fun z => some (Value.int z)) ?_; first | exact (if_neg (by assumption)).symm | exact (if_pos (by assumption)).symm | grind))
set_option maxRecDepth 100000 in
set_option maxHeartbeats 4000000 in
theorem p_X10_act (body act x : Int32) {l : Launch} {G : xG} {M : xM} {J : xJ} (hF : Fr M)  : x_M l G fX10_act 4 0 0 [.ref (62), .int (body), .int (act), .int (x)] x_SH M J (qR (some (.int 0))) := by
  refine xb_of pX10 (Nat.le_of_ble_eq_true rfl) rfl ?_
  refine xr_aload_n dX10_act_0 0 rfl ?_
  refine xr_iconst (v := 0) dX10_act_1 rfl ?_
  refine xr_putI fpX10_337 dX10_act_2 s_62 rfl rfl rfl ?_
  refine xr_aload_n dX10_act_5 0 rfl ?_
  refine xr_iload_n dX10_act_6 1 rfl ?_
  refine xb_cV (As := [.int (body)]) (rest := []) mlX10_361 (r_isBody body (Eq.trans (x_up_k _ _ _ (by decide)) (Fr_r hF (by decide) (by decide +kernel)))) dX10_act_7 s_62 rfl rfl (Nat.le_of_ble_eq_true rfl) (by decide) (by decide) ?_
  refine xr_if_ne (tgt := 15) dX10_act_10 rfl (fun c => absurd (by decide) c) (fun _ => ?_)
  refine xr_iconst (v := 0) dX10_act_13 rfl ?_
  exact xr_iret dX10_act_14 rfl rfl (by first | rfl | (refine congrArg (fun z => some (Value.int z)) ?_; first | exact (if_neg (by assumption)).symm | exact (if_pos (by assumption)).symm | grind))
set_option maxRecDepth 100000 in
set_option maxHeartbeats 4000000 in
theorem p_X10_keep (shelf body : Int32) {l : Launch} {G : xG} {M : xM} {J : xJ} (hF : Fr M)  : x_M l G fX10_keep 4 0 0 [.ref (62), .int (shelf), .int (body)] x_SH M J (qR (some (.int (if (0 ≤ shelf ∧ shelf < 6) ∧ body = -1 then 1 else -1)))) := by
  refine xb_of pX10 (Nat.le_of_ble_eq_true rfl) rfl ?_
  refine xr_iload_n dX10_keep_0 1 rfl ?_
  refine xb_cS (As := [.int (shelf)]) (rest := []) mlX10_125 (c_X10_isShelf shelf) dX10_keep_1 rfl rfl (Nat.le_of_ble_eq_true rfl) (by decide) (by decide) ?_
  refine xb_beq (tgt := 20) dX10_keep_4 rfl (fun c1 => ?_) (fun c1 => ?_)
  · refine xr_iconst (v := -1) dX10_keep_20 rfl ?_
    exact xr_iret dX10_keep_21 rfl rfl (by first | rfl | (refine congrArg (fun z => some (Value.int z)) ?_; first | exact (if_neg (by assumption)).symm | exact (if_pos (by assumption)).symm | grind))
  · obtain ⟨j, hj, rfl⟩ := x_natle (N := 5) (by decide) rfl c1
    replace hj := Nat.lt_succ_of_le hj
    refine xr_iload_n dX10_keep_7 2 rfl ?_
    refine xr_iconst (v := -1) dX10_keep_8 rfl ?_
    refine xr_icmp_eq (tgt := 22) dX10_keep_9 rfl (fun c2 => ?_) (fun c2 => ?_)
    · refine xr_aload_n dX10_keep_22 0 rfl ?_
      refine xr_getR flX10_75 dX10_keep_23 s_62 rfl ?_
      refine xr_iload_n dX10_keep_26 1 rfl ?_
      refine xr_iload_n dX10_keep_27 2 rfl ?_
      refine xb_iast (j := j) dX10_keep_28 s_83 hj (by decide) ?_
      refine xr_aload_n dX10_keep_29 0 rfl ?_
      refine xr_getR flX10_78 dX10_keep_30 s_62 rfl ?_
      refine xr_iload_n dX10_keep_33 1 rfl ?_
      refine xr_iconst (v := 0) dX10_keep_34 rfl ?_
      refine xb_iast (j := j) dX10_keep_35 s_84 hj (by decide) ?_
      refine xr_iconst (v := 1) dX10_keep_36 rfl ?_
      exact xr_iret dX10_keep_37 rfl rfl (by first | rfl | (refine congrArg (fun z => some (Value.int z)) ?_; first | exact (if_neg (by assumption)).symm | exact (if_pos (by assumption)).symm | grind))
    · refine xr_aload_n dX10_keep_12 0 rfl ?_
      refine xr_iload_n dX10_keep_13 2 rfl ?_
      refine xb_cV (As := [.int (body)]) (rest := []) mlX10_361 (r_isBody body (Fr_r hF (by decide) (by decide +kernel))) dX10_keep_14 s_62 rfl rfl (Nat.le_of_ble_eq_true rfl) (by decide) (by decide) ?_
      refine xr_if_ne (tgt := 22) dX10_keep_17 rfl (fun c => absurd (by decide) c) (fun _ => ?_)
      refine xr_iconst (v := -1) dX10_keep_20 rfl ?_
      exact xr_iret dX10_keep_21 rfl rfl (by first | rfl | (refine congrArg (fun z => some (Value.int z)) ?_; first | exact (if_neg (by assumption)).symm | exact (if_pos (by assumption)).symm | grind))
set_option maxRecDepth 100000 in
set_option maxHeartbeats 4000000 in
theorem p_X10_shift (shelf i other j0 n : Int32) {l : Launch} {G : xG} {M : xM} {J : xJ} (hF : Fr M)  : x_M l G fX10_shift 4 0 0 [.ref (62), .int (shelf), .int (i), .int (other), .int (j0), .int (n)] x_SH M J (qR (some (.int (if (0 ≤ shelf ∧ shelf < 6) ∧ (0 ≤ other ∧ other < 6) then -11 else -1)))) := by
  refine xb_of pX10 (Nat.le_of_ble_eq_true rfl) rfl ?_
  refine xr_iload_n dX10_shift_0 1 rfl ?_
  refine xb_cS (As := [.int (shelf)]) (rest := []) mlX10_125 (c_X10_isShelf shelf) dX10_shift_1 rfl rfl (Nat.le_of_ble_eq_true rfl) (by decide) (by decide) ?_
  refine xb_beq (tgt := 14) dX10_shift_4 rfl (fun c1 => ?_) (fun c1 => ?_)
  · refine xr_iconst (v := -1) dX10_shift_14 rfl ?_
    exact xr_iret dX10_shift_15 rfl rfl (by first | rfl | (refine congrArg (fun z => some (Value.int z)) ?_; first | exact (if_neg (by assumption)).symm | exact (if_pos (by assumption)).symm | grind))
  · obtain ⟨j, hj, rfl⟩ := x_natle (N := 5) (by decide) rfl c1
    replace hj := Nat.lt_succ_of_le hj
    refine xr_iload_n dX10_shift_7 3 rfl ?_
    refine xb_cS (As := [.int (other)]) (rest := []) mlX10_125 (c_X10_isShelf other) dX10_shift_8 rfl rfl (Nat.le_of_ble_eq_true rfl) (by decide) (by decide) ?_
    refine xb_bne (tgt := 16) dX10_shift_11 rfl (fun c2 => ?_) (fun c2 => ?_)
    · obtain ⟨j2, hj2, rfl⟩ := x_natle (N := 5) (by decide) rfl c2
      replace hj2 := Nat.lt_succ_of_le hj2
      refine xr_aload_n dX10_shift_16 0 rfl ?_
      refine xr_getR flX10_75 dX10_shift_17 s_62 rfl ?_
      refine xr_iload_n dX10_shift_20 1 rfl ?_
      refine xb_iald (j := j) (v := (-1)) dX10_shift_21 s_83 hj (by decide) (mi_83 hF j hj) ?_
      refine xr_if_lt (tgt := 34) dX10_shift_22 rfl (fun _ => ?_) (fun c => absurd (by decide) c)
      refine xr_bipush (v := -11) dX10_shift_34 rfl ?_
      exact xr_iret dX10_shift_36 rfl rfl (by first | rfl | (refine congrArg (fun z => some (Value.int z)) ?_; first | exact (if_neg (by assumption)).symm | exact (if_pos (by assumption)).symm | grind))
    · refine xr_iconst (v := -1) dX10_shift_14 rfl ?_
      exact xr_iret dX10_shift_15 rfl rfl (by first | rfl | (refine congrArg (fun z => some (Value.int z)) ?_; first | exact (if_neg (by assumption)).symm | exact (if_pos (by assumption)).symm | grind))
set_option maxRecDepth 100000 in
set_option maxHeartbeats 4000000 in
theorem p_X10_taken (shelf k : Int32) {l : Launch} {G : xG} {M : xM} {J : xJ} (hF : Fr M)  : x_M l G fX10_taken 4 0 0 [.ref (62), .int (shelf), .int (k)] x_SH M J (qR (some (.int (if (0 ≤ shelf ∧ shelf < 6) ∧ (0 ≤ k ∧ k < 8) then -11 else -1)))) := by
  refine xb_of pX10 (Nat.le_of_ble_eq_true rfl) rfl ?_
  refine xr_iload_n dX10_taken_0 1 rfl ?_
  refine xb_cS (As := [.int (shelf)]) (rest := []) mlX10_125 (c_X10_isShelf shelf) dX10_taken_1 rfl rfl (Nat.le_of_ble_eq_true rfl) (by decide) (by decide) ?_
  refine xb_beq (tgt := 19) dX10_taken_4 rfl (fun c1 => ?_) (fun c1 => ?_)
  · refine xr_iconst (v := -1) dX10_taken_19 rfl ?_
    exact xr_iret dX10_taken_20 rfl rfl (by first | rfl | (refine congrArg (fun z => some (Value.int z)) ?_; first | exact (if_neg (by assumption)).symm | exact (if_pos (by assumption)).symm | grind))
  · obtain ⟨j, hj, rfl⟩ := x_natle (N := 5) (by decide) rfl c1
    replace hj := Nat.lt_succ_of_le hj
    refine xr_iload_n dX10_taken_7 2 rfl ?_
    refine xr_i2l dX10_taken_8 ?_
    refine xr_lconst (v := 0) dX10_taken_9 rfl ?_
    refine xr_ldc2 coX10_143 dX10_taken_10 ?_
    refine xb_cS (As := [.long ((k).toInt64), .long (0), .long (7)]) (rest := []) mlX10_101 (c_within32 (k) (0) (7) (by decide) (by decide)) dX10_taken_13 rfl rfl (Nat.le_of_ble_eq_true rfl) (by decide) (by decide) ?_
    refine xb_bne (tgt := 21) dX10_taken_16 rfl (fun c2 => ?_) (fun c2 => ?_)
    · refine xr_aload_n dX10_taken_21 0 rfl ?_
      refine xr_getR flX10_75 dX10_taken_22 s_62 rfl ?_
      refine xr_iload_n dX10_taken_25 1 rfl ?_
      refine xb_iald (j := j) (v := (-1)) dX10_taken_26 s_83 hj (by decide) (mi_83 hF j hj) ?_
      refine xr_if_ge (tgt := 33) dX10_taken_27 rfl (fun c => absurd c (by decide)) (fun _ => ?_)
      refine xr_bipush (v := -11) dX10_taken_30 rfl ?_
      exact xr_iret dX10_taken_32 rfl rfl (by first | rfl | (refine congrArg (fun z => some (Value.int z)) ?_; first | exact (if_neg (by assumption)).symm | exact (if_pos (by assumption)).symm | grind))
    · refine xr_iconst (v := -1) dX10_taken_19 rfl ?_
      exact xr_iret dX10_taken_20 rfl rfl (by first | rfl | (refine congrArg (fun z => some (Value.int z)) ?_; first | exact (if_neg (by assumption)).symm | exact (if_pos (by assumption)).symm | grind))
set_option maxRecDepth 100000 in
set_option maxHeartbeats 4000000 in
theorem p_X10_feed (letter : Int32) {l : Launch} {G : xG} {M : xM} {J : xJ} (hF : Fr M)  : x_M l G fX10_feed 4 0 0 [.ref (62), .int (letter)] x_SH M J (qR (some (.int (if 0 ≤ letter ∧ letter ≤ 255 then 1 else -1)))) := by
  refine xb_of pX10 (Nat.le_of_ble_eq_true rfl) rfl ?_
  refine xr_iload_n dX10_feed_0 1 rfl ?_
  refine xr_i2l dX10_feed_1 ?_
  refine xr_lconst (v := 0) dX10_feed_2 rfl ?_
  refine xr_ldc2 coX10_160 dX10_feed_3 ?_
  refine xb_cS (As := [.long ((letter).toInt64), .long (0), .long (255)]) (rest := []) mlX10_101 (c_within32 (letter) (0) (255) (by decide) (by decide)) dX10_feed_6 rfl rfl (Nat.le_of_ble_eq_true rfl) (by decide) (by decide) ?_
  refine xb_bne (tgt := 14) dX10_feed_9 rfl (fun c1 => ?_) (fun c1 => ?_)
  · refine xr_aload_n dX10_feed_14 0 rfl ?_
    refine xb_get (v := 0) flX10_162 dX10_feed_15 s_62 rfl (Fr_r hF (by decide) (by decide +kernel)) ?_
    refine xr_bipush (v := 120) dX10_feed_18 rfl ?_
    refine xr_icmp_ne (tgt := 26) dX10_feed_20 rfl (fun _ => ?_) (fun c => absurd c (by decide))
    refine xr_aload_n dX10_feed_26 0 rfl ?_
    refine xr_getR flX10_28 dX10_feed_27 s_62 rfl ?_
    refine xr_aload_n dX10_feed_30 0 rfl ?_
    refine xb_get (v := 0) flX10_162 dX10_feed_31 s_62 rfl (Fr_r hF (by decide) (by decide +kernel)) ?_
    refine xr_iload_n dX10_feed_34 1 rfl ?_
    refine xb_iast (j := 0) dX10_feed_35 s_69 (by decide) (by decide) ?_
    refine xr_aload_n dX10_feed_36 0 rfl ?_
    refine xr_dup dX10_feed_37 rfl ?_
    refine xb_get (v := 0) flX10_162 dX10_feed_38 s_62 rfl (Eq.trans (congrFun (x_up_n _ _ _ (by decide)) _) (Fr_r hF (by decide) (by decide +kernel))) ?_
    refine xr_iconst (v := 1) dX10_feed_41 rfl ?_
    refine xr_iadd dX10_feed_42 ?_
    refine xb_top (y := 1) (by decide) ?_
    refine xr_putI fpX10_162 dX10_feed_43 s_62 rfl rfl rfl ?_
    refine xr_aload_n dX10_feed_46 0 rfl ?_
    refine xb_get (v := 1) flX10_162 dX10_feed_47 s_62 rfl (x_up_s _ _ _ _) ?_
    exact xr_iret dX10_feed_50 rfl rfl (by first | rfl | (refine congrArg (fun z => some (Value.int z)) ?_; first | exact (if_neg (by assumption)).symm | exact (if_pos (by assumption)).symm | grind))
  · refine xr_iconst (v := -1) dX10_feed_12 rfl ?_
    exact xr_iret dX10_feed_13 rfl rfl (by first | rfl | (refine congrArg (fun z => some (Value.int z)) ?_; first | exact (if_neg (by assumption)).symm | exact (if_pos (by assumption)).symm | grind))
set_option maxRecDepth 100000 in
set_option maxHeartbeats 4000000 in
theorem p_X10_held (n : Int32) {l : Launch} {G : xG} {M : xM} {J : xJ} (hF : Fr M)  : x_M l G fX10_held 4 0 0 [.ref (62), .int (n)] x_SH M J (qR (some (.int (if 1 ≤ n ∧ n ≤ 200 then -2 else -1)))) := by
  refine xb_of pX10 (Nat.le_of_ble_eq_true rfl) rfl ?_
  refine xr_iload_n dX10_held_0 1 rfl ?_
  refine xr_i2l dX10_held_1 ?_
  refine xr_lconst (v := 1) dX10_held_2 rfl ?_
  refine xr_ldc2 coX10_244 dX10_held_3 ?_
  refine xb_cS (As := [.long ((n).toInt64), .long (1), .long (200)]) (rest := []) mlX10_101 (c_within32 (n) (1) (200) (by decide) (by decide)) dX10_held_6 rfl rfl (Nat.le_of_ble_eq_true rfl) (by decide) (by decide) ?_
  refine xb_bne (tgt := 14) dX10_held_9 rfl (fun c1 => ?_) (fun c1 => ?_)
  · refine xr_aload_n dX10_held_14 0 rfl ?_
    refine xb_cV (As := []) (rest := []) mlX10_246 (r0_upNow (R0_Fr hF)) dX10_held_15 s_62 rfl rfl (Nat.le_of_ble_eq_true rfl) (by decide) (by decide) ?_
    refine xr_istore_n (ls2 := [(2, .int (0)), (0, .ref (62)), (1, .int (n))]) dX10_held_18 (by decide) rfl ?_
    refine xr_iconst (v := 0) dX10_held_19 rfl ?_
    refine xr_istore_n (ls2 := [(3, .int (0)), (2, .int (0)), (0, .ref (62)), (1, .int (n))]) dX10_held_20 (by decide) rfl ?_
    refine xr_iconst (v := 1) dX10_held_21 rfl ?_
    refine xr_istore (ls2 := [(4, .int (1)), (3, .int (0)), (2, .int (0)), (0, .ref (62)), (1, .int (n))]) dX10_held_22 (by decide) rfl ?_
    refine xr_iload dX10_held_24 0 rfl ?_
    refine xr_iconst (v := 1) dX10_held_26 rfl ?_
    refine xr_aload_n dX10_held_27 3 rfl ?_
    refine xb_get (v := 0) flX10_109 dX10_held_28 s_62 rfl (Fr_r hF (by decide) (by decide +kernel)) ?_
    refine xr_ishl dX10_held_31 ?_
    refine xb_top (y := 1) (by decide) ?_
    refine xr_icmp_ge (tgt := 79) dX10_held_32 rfl (fun _ => ?_) (fun c => absurd (by decide) c)
    refine xr_iload_n dX10_held_79 1 rfl ?_
    refine xr_if_ne (tgt := 88) dX10_held_80 rfl (fun c => absurd (by decide) c) (fun _ => ?_)
    refine xr_bipush (v := -2) dX10_held_83 rfl ?_
    refine xr_goto (tgt := 89) dX10_held_85 rfl ?_
    exact xr_iret dX10_held_89 rfl rfl (by first | rfl | (refine congrArg (fun z => some (Value.int z)) ?_; first | exact (if_neg (by assumption)).symm | exact (if_pos (by assumption)).symm | grind))
  · refine xr_iconst (v := -1) dX10_held_12 rfl ?_
    exact xr_iret dX10_held_13 rfl rfl (by first | rfl | (refine congrArg (fun z => some (Value.int z)) ?_; first | exact (if_neg (by assumption)).symm | exact (if_pos (by assumption)).symm | grind))
set_option maxRecDepth 100000 in
set_option maxHeartbeats 4000000 in
theorem p_X10_count (what : Int32) {l : Launch} {G : xG} {M : xM} {J : xJ} (hF : Fr M)  : x_M l G fX10_count 4 0 0 [.ref (62), .int (what)] x_SH M J (qR (some (.int (if 0 ≤ what ∧ what ≤ 5 then 0 else -1)))) := by
  refine xb_of pX10 (Nat.le_of_ble_eq_true rfl) rfl ?_
  refine xr_iload_n dX10_count_0 1 rfl ?_
  by_cases n0 : what = 0
  · subst n0
    refine xr_tableIn (tgt := 40) dX10_count_1 (by decide) (by decide) rfl rfl ?_
    refine xr_aload_n dX10_count_40 0 rfl ?_
    refine xb_get (v := 0) flX10_109 dX10_count_41 s_62 rfl (Fr_r hF (by decide) (by decide +kernel)) ?_
    exact xr_iret dX10_count_44 rfl rfl (by first | rfl | (refine congrArg (fun z => some (Value.int z)) ?_; first | exact (if_neg (by assumption)).symm | exact (if_pos (by assumption)).symm | grind))
  by_cases n1 : what = 1
  · subst n1
    refine xr_tableIn (tgt := 45) dX10_count_1 (by decide) (by decide) rfl rfl ?_
    refine xr_aload_n dX10_count_45 0 rfl ?_
    refine xb_cV (As := []) (rest := []) mlX10_246 (r0_upNow (R0_Fr hF)) dX10_count_46 s_62 rfl rfl (Nat.le_of_ble_eq_true rfl) (by decide) (by decide) ?_
    refine xb_cS (As := [.int (0)]) (rest := []) mlX10_261 (c_bits0) dX10_count_49 rfl rfl (Nat.le_of_ble_eq_true rfl) (by decide) (by decide) ?_
    exact xr_iret dX10_count_52 rfl rfl (by first | rfl | (refine congrArg (fun z => some (Value.int z)) ?_; first | exact (if_neg (by assumption)).symm | exact (if_pos (by assumption)).symm | grind))
  by_cases n2 : what = 2
  · subst n2
    refine xr_tableIn (tgt := 53) dX10_count_1 (by decide) (by decide) rfl rfl ?_
    refine xr_aload_n dX10_count_53 0 rfl ?_
    refine xb_get (v := 0) flX10_162 dX10_count_54 s_62 rfl (Fr_r hF (by decide) (by decide +kernel)) ?_
    exact xr_iret dX10_count_57 rfl rfl (by first | rfl | (refine congrArg (fun z => some (Value.int z)) ?_; first | exact (if_neg (by assumption)).symm | exact (if_pos (by assumption)).symm | grind))
  by_cases n3 : what = 3
  · subst n3
    refine xr_tableIn (tgt := 58) dX10_count_1 (by decide) (by decide) rfl rfl ?_
    refine xr_aload_n dX10_count_58 0 rfl ?_
    refine xb_get (v := 0) flX10_91 dX10_count_59 s_62 rfl (Fr_r hF (by decide) (by decide +kernel)) ?_
    exact xr_iret dX10_count_62 rfl rfl (by first | rfl | (refine congrArg (fun z => some (Value.int z)) ?_; first | exact (if_neg (by assumption)).symm | exact (if_pos (by assumption)).symm | grind))
  by_cases n4 : what = 4
  · subst n4
    refine xr_tableIn (tgt := 63) dX10_count_1 (by decide) (by decide) rfl rfl ?_
    refine xr_aload_n dX10_count_63 0 rfl ?_
    refine xb_get (v := 0) flX10_334 dX10_count_64 s_62 rfl (Fr_r hF (by decide) (by decide +kernel)) ?_
    exact xr_iret dX10_count_67 rfl rfl (by first | rfl | (refine congrArg (fun z => some (Value.int z)) ?_; first | exact (if_neg (by assumption)).symm | exact (if_pos (by assumption)).symm | grind))
  by_cases n5 : what = 5
  · subst n5
    refine xr_tableIn (tgt := 68) dX10_count_1 (by decide) (by decide) rfl rfl ?_
    refine xr_aload_n dX10_count_68 0 rfl ?_
    refine xb_get (v := 0) flX10_337 dX10_count_69 s_62 rfl (Fr_r hF (by decide) (by decide +kernel)) ?_
    exact xr_iret dX10_count_72 rfl rfl (by first | rfl | (refine congrArg (fun z => some (Value.int z)) ?_; first | exact (if_neg (by assumption)).symm | exact (if_pos (by assumption)).symm | grind))
  refine xr_tableOut (tgt := 73) dX10_count_1 (by have q0 := lv_neT (a := 0) n0 (by decide); have q1 := lv_neT (a := 1) n1 (by decide); have q2 := lv_neT (a := 2) n2 (by decide); have q3 := lv_neT (a := 3) n3 (by decide); have q4 := lv_neT (a := 4) n4 (by decide); have q5 := lv_neT (a := 5) n5 (by decide); omega) rfl ?_
  refine xr_iconst (v := -1) dX10_count_73 rfl ?_
  exact xr_iret dX10_count_74 rfl rfl (by first | rfl | (refine congrArg (fun z => some (Value.int z)) ?_; first | exact (if_neg (by assumption)).symm | exact (if_pos (by assumption)).symm | grind))
set_option maxRecDepth 100000 in
set_option maxHeartbeats 4000000 in
theorem p_X10_trace (i : Int32) {l : Launch} {G : xG} {M : xM} {J : xJ} (hF : Fr M)  : x_M l G fX10_trace 4 0 0 [.ref (62), .int (i)] x_SH M J (qR (some (.int (-1)))) := by
  refine xb_of pX10 (Nat.le_of_ble_eq_true rfl) rfl ?_
  refine xr_iload_n dX10_trace_0 1 rfl ?_
  refine xr_if_lt (tgt := 27) dX10_trace_1 rfl (fun c1 => ?_) (fun c1 => ?_)
  · refine xr_iconst (v := -1) dX10_trace_27 rfl ?_
    exact xr_iret dX10_trace_28 rfl rfl (by first | rfl | (refine congrArg (fun z => some (Value.int z)) ?_; first | exact (if_neg (by assumption)).symm | exact (if_pos (by assumption)).symm | grind))
  · refine xr_iload_n dX10_trace_4 1 rfl ?_
    refine xr_aload_n dX10_trace_5 0 rfl ?_
    refine xb_get (v := 0) flX10_337 dX10_trace_6 s_62 rfl (Fr_r hF (by decide) (by decide +kernel)) ?_
    refine xr_icmp_ge (tgt := 27) dX10_trace_9 rfl (fun c2 => ?_) (fun c2 => ?_)
    · refine xr_iconst (v := -1) dX10_trace_27 rfl ?_
      exact xr_iret dX10_trace_28 rfl rfl (by first | rfl | (refine congrArg (fun z => some (Value.int z)) ?_; first | exact (if_neg (by assumption)).symm | exact (if_pos (by assumption)).symm | grind))
    · refine xr_iload_n dX10_trace_12 1 rfl ?_
      refine xr_bipush (v := 24) dX10_trace_13 rfl ?_
      refine xr_icmp_ge (tgt := 27) dX10_trace_15 rfl (fun c3 => ?_) (fun c3 => ?_)
      · refine xr_iconst (v := -1) dX10_trace_27 rfl ?_
        exact xr_iret dX10_trace_28 rfl rfl (by first | rfl | (refine congrArg (fun z => some (Value.int z)) ?_; first | exact (if_neg (by assumption)).symm | exact (if_pos (by assumption)).symm | grind))
      · exfalso
        grind
set_option maxRecDepth 100000 in
set_option maxHeartbeats 4000000 in
theorem r_refusal (d i : Int32) {l : Launch} {G : xG} {M : xM} {J : xJ} (hF : Fr M)  : x_M l G fX10_refusal 3 0 0 [.ref (62), .int (d), .int (i)] x_SH M J (qE (some (.int (if 0 ≤ d ∧ d < 6 then -11 else -1))) x_SH M J) := by
  refine xb_of pX10 (Nat.le_of_ble_eq_true rfl) rfl ?_
  refine xr_iload_n dX10_refusal_0 1 rfl ?_
  refine xb_cS (As := [.int (d)]) (rest := []) mlX10_125 (c_X10_isShelf d) dX10_refusal_1 rfl rfl (Nat.le_of_ble_eq_true rfl) (by decide) (by decide) ?_
  refine xb_bne (tgt := 9) dX10_refusal_4 rfl (fun c1 => ?_) (fun c1 => ?_)
  · obtain ⟨j, hj, rfl⟩ := x_natle (N := 5) (by decide) rfl c1
    replace hj := Nat.lt_succ_of_le hj
    refine xr_aload_n dX10_refusal_9 0 rfl ?_
    refine xr_getR flX10_75 dX10_refusal_10 s_62 rfl ?_
    refine xr_iload_n dX10_refusal_13 1 rfl ?_
    refine xb_iald (j := j) (v := (-1)) dX10_refusal_14 s_83 hj (by decide) (mi_83 hF j hj) ?_
    refine xr_if_ge (tgt := 21) dX10_refusal_15 rfl (fun c => absurd c (by decide)) (fun _ => ?_)
    refine xr_bipush (v := -11) dX10_refusal_18 rfl ?_
    exact xr_iret dX10_refusal_20 rfl rfl (⟨by first | rfl | grind, rfl, rfl, rfl⟩)
  · refine xr_iconst (v := -1) dX10_refusal_7 rfl ?_
    exact xr_iret dX10_refusal_8 rfl rfl (⟨by first | rfl | grind, rfl, rfl, rfl⟩)
set_option maxRecDepth 100000 in
set_option maxHeartbeats 4000000 in
theorem p_X10_put (shelf i : Int32) (v : Int64) {l : Launch} {G : xG} {M : xM} {J : xJ} (hF : Fr M)  : x_M l G fX10_put 4 0 0 [.ref (62), .int (shelf), .int (i), .long (v)] x_SH M J (qR (some (.int (if 0 ≤ shelf ∧ shelf < 6 then -11 else -1)))) := by
  refine xb_of pX10 (Nat.le_of_ble_eq_true rfl) rfl ?_
  refine xr_aload_n dX10_put_0 0 rfl ?_
  refine xr_iload_n dX10_put_1 1 rfl ?_
  refine xr_iload_n dX10_put_2 2 rfl ?_
  refine xb_cV (As := [.int (shelf), .int (i)]) (rest := []) mlX10_364 (r_refusal shelf i hF) dX10_put_3 s_62 rfl rfl (Nat.le_of_ble_eq_true rfl) (by decide) (by decide) ?_
  refine xr_istore (ls2 := [(5, .int ((if 0 ≤ shelf ∧ shelf < 6 then -11 else -1))), (0, .ref (62)), (1, .int (shelf)), (2, .int (i)), (3, .long (v))]) dX10_put_6 (by decide) rfl ?_
  refine xr_iload dX10_put_8 0 rfl ?_
  refine xr_if_ne (tgt := 37) dX10_put_10 rfl (fun _ => ?_) (fun c => absurd c (by split <;> decide))
  refine xr_iload dX10_put_37 0 rfl ?_
  refine xr_if_ne (tgt := 46) dX10_put_39 rfl (fun _ => ?_) (fun c => absurd c (by split <;> decide))
  refine xr_iload dX10_put_46 0 rfl ?_
  exact xr_iret dX10_put_48 rfl rfl (by first | rfl | (refine congrArg (fun z => some (Value.int z)) ?_; first | exact (if_neg (by assumption)).symm | exact (if_pos (by assumption)).symm | grind))
set_option maxRecDepth 100000 in
set_option maxHeartbeats 4000000 in
theorem p_X10_element (shelf i : Int32) {l : Launch} {G : xG} {M : xM} {J : xJ} (hF : Fr M)  : x_M l G fX10_element 4 0 0 [.ref (62), .int (shelf), .int (i)] x_SH M J (qR (some (.long (-9223372036854775808)))) := by
  refine xb_of pX10 (Nat.le_of_ble_eq_true rfl) rfl ?_
  refine xr_aload_n dX10_element_0 0 rfl ?_
  refine xr_iload_n dX10_element_1 1 rfl ?_
  refine xr_iload_n dX10_element_2 2 rfl ?_
  refine xb_cV (As := [.int (shelf), .int (i)]) (rest := []) mlX10_364 (r_refusal shelf i hF) dX10_element_3 s_62 rfl rfl (Nat.le_of_ble_eq_true rfl) (by decide) (by decide) ?_
  refine xr_if_eq (tgt := 15) dX10_element_6 rfl (fun c => absurd c (by split <;> decide)) (fun _ => ?_)
  refine xr_ldc2 coX10_320 dX10_element_9 ?_
  refine xr_goto (tgt := 26) dX10_element_12 rfl ?_
  exact xr_lret dX10_element_26 rfl (by first | rfl | (refine congrArg (fun z => some (Value.long z)) ?_; first | exact (if_neg (by assumption)).symm | exact (if_pos (by assumption)).symm | grind))
set_option maxRecDepth 100000 in
set_option maxHeartbeats 4000000 in
theorem p_X10_of (number what : Int32) {l : Launch} {G : xG} {M : xM} {J : xJ} (hF : Fr M)  : x_M l G fX10_of 4 0 0 [.ref (62), .int (number), .int (what)] x_SH M J (qR (some (.int (if number = 0 ∧ 10 ≤ what ∧ what ≤ 15 then (if what = 10 then 1 else if what = 11 then 6 else if what = 12 then 0 else if what = 13 then 2 else if what = 14 then 1 else 0) else if (0 ≤ number ∧ number < 25) ∧ what = 20 then 9 else if (0 ≤ number ∧ number < 25) ∧ what = 21 then 0 else -2000000000)))) := by
  refine xb_of pX10 (Nat.le_of_ble_eq_true rfl) rfl ?_
  refine xr_iload_n dX10_of_0 2 rfl ?_
  refine xr_i2l dX10_of_1 ?_
  refine xr_lconst (v := 0) dX10_of_2 rfl ?_
  refine xr_ldc2 coX10_129 dX10_of_3 ?_
  refine xb_cS (As := [.long ((what).toInt64), .long (0), .long (5)]) (rest := []) mlX10_101 (c_within32 (what) (0) (5) (by decide) (by decide)) dX10_of_6 rfl rfl (Nat.le_of_ble_eq_true rfl) (by decide) (by decide) ?_
  refine xb_beq (tgt := 75) dX10_of_9 rfl (fun c1 => ?_) (fun c1 => ?_)
  · refine xr_iload_n dX10_of_75 2 rfl ?_
    refine xr_i2l dX10_of_76 ?_
    refine xr_ldc2 coX10_97 dX10_of_77 ?_
    refine xr_ldc2 coX10_149 dX10_of_80 ?_
    refine xb_cS (As := [.long ((what).toInt64), .long (10), .long (15)]) (rest := []) mlX10_101 (c_within32 (what) (10) (15) (by decide) (by decide)) dX10_of_83 rfl rfl (Nat.le_of_ble_eq_true rfl) (by decide) (by decide) ?_
    refine xb_beq (tgt := 124) dX10_of_86 rfl (fun c2 => ?_) (fun c2 => ?_)
    · refine xr_iload_n dX10_of_124 2 rfl ?_
      refine xr_i2l dX10_of_125 ?_
      refine xr_ldc2 coX10_154 dX10_of_126 ?_
      refine xr_ldc2 coX10_156 dX10_of_129 ?_
      refine xb_cS (As := [.long ((what).toInt64), .long (20), .long (21)]) (rest := []) mlX10_101 (c_within32 (what) (20) (21) (by decide) (by decide)) dX10_of_132 rfl rfl (Nat.le_of_ble_eq_true rfl) (by decide) (by decide) ?_
      refine xb_beq (tgt := 150) dX10_of_135 rfl (fun c3 => ?_) (fun c3 => ?_)
      · refine xr_ldc coX10_140 dX10_of_150 ?_
        refine xr_goto (tgt := 176) dX10_of_152 rfl ?_
        exact xr_iret dX10_of_176 rfl rfl (by first | rfl | (refine congrArg (fun z => some (Value.int z)) ?_; first | exact (if_neg (by assumption)).symm | exact (if_pos (by assumption)).symm | grind))
      · refine xr_iload_n dX10_of_138 1 rfl ?_
        refine xr_i2l dX10_of_139 ?_
        refine xr_lconst (v := 0) dX10_of_140 rfl ?_
        refine xr_ldc2 coX10_158 dX10_of_141 ?_
        refine xb_cS (As := [.long ((number).toInt64), .long (0), .long (24)]) (rest := []) mlX10_101 (c_within32 (number) (0) (24) (by decide) (by decide)) dX10_of_144 rfl rfl (Nat.le_of_ble_eq_true rfl) (by decide) (by decide) ?_
        refine xb_bne (tgt := 155) dX10_of_147 rfl (fun c4 => ?_) (fun c4 => ?_)
        · obtain ⟨j, hj, rfl⟩ := x_natle (N := 24) (by decide) rfl c4
          replace hj := Nat.lt_succ_of_le hj
          refine xr_iload_n dX10_of_155 2 rfl ?_
          refine xr_bipush (v := 20) dX10_of_156 rfl ?_
          refine xr_icmp_ne (tgt := 170) dX10_of_158 rfl (fun c5 => ?_) (fun c5 => ?_)
          · refine xr_aload_n dX10_of_170 0 rfl ?_
            refine xr_getR flX10_53 dX10_of_171 s_62 rfl ?_
            refine xr_iload_n dX10_of_174 1 rfl ?_
            refine xb_iald (j := j) (v := 0) dX10_of_175 s_76 hj (by decide) (mi_76 hF j hj) ?_
            exact xr_iret dX10_of_176 rfl rfl (by first | rfl | (refine congrArg (fun z => some (Value.int z)) ?_; first | exact (if_neg (by assumption)).symm | exact (if_pos (by assumption)).symm | grind))
          · refine xr_aload_n dX10_of_161 0 rfl ?_
            refine xr_getR flX10_50 dX10_of_162 s_62 rfl ?_
            refine xr_iload_n dX10_of_165 1 rfl ?_
            refine xb_iald (j := j) (v := 9) dX10_of_166 s_75 hj (by decide) (mi_75 hF j hj) ?_
            refine xr_goto (tgt := 176) dX10_of_167 rfl ?_
            exact xr_iret dX10_of_176 rfl rfl (by first | rfl | (refine congrArg (fun z => some (Value.int z)) ?_; first | exact (if_neg (by assumption)).symm | exact (if_pos (by assumption)).symm | grind))
        · refine xr_ldc coX10_140 dX10_of_150 ?_
          refine xr_goto (tgt := 176) dX10_of_152 rfl ?_
          exact xr_iret dX10_of_176 rfl rfl (by first | rfl | (refine congrArg (fun z => some (Value.int z)) ?_; first | exact (if_neg (by assumption)).symm | exact (if_pos (by assumption)).symm | grind))
    · refine xr_iload_n dX10_of_89 1 rfl ?_
      refine xr_if_eq (tgt := 98) dX10_of_90 rfl (fun c6 => ?_) (fun c6 => ?_)
      · refine xr_iload_n dX10_of_98 2 rfl ?_
        refine xr_bipush (v := 15) dX10_of_99 rfl ?_
        refine xr_icmp_ne (tgt := 111) dX10_of_101 rfl (fun c7 => ?_) (fun c7 => ?_)
        · rcases (show what = 10 ∨ what = 11 ∨ what = 12 ∨ what = 13 ∨ what = 14 by grind) with rfl | rfl | rfl | rfl | rfl
          · refine xr_aload_n dX10_of_111 0 rfl ?_
            refine xr_getR flX10_9 dX10_of_112 s_62 rfl ?_
            refine xr_bipush (v := 15) dX10_of_115 rfl ?_
            refine xr_iload_n dX10_of_117 2 rfl ?_
            refine xr_iadd dX10_of_118 ?_
            refine xb_top (y := 25) (by decide) ?_
            refine xr_bipush (v := 10) dX10_of_119 rfl ?_
            refine xr_isub dX10_of_121 ?_
            refine xb_top (y := 15) (by decide) ?_
            refine xb_iald (j := 15) (v := 1) dX10_of_122 s_63 (by decide) (by decide) (Fr_r hF (by decide) (by decide +kernel)) ?_
            exact xr_iret dX10_of_123 rfl rfl (by first | rfl | (refine congrArg (fun z => some (Value.int z)) ?_; first | exact (if_neg (by assumption)).symm | exact (if_pos (by assumption)).symm | grind))
          · refine xr_aload_n dX10_of_111 0 rfl ?_
            refine xr_getR flX10_9 dX10_of_112 s_62 rfl ?_
            refine xr_bipush (v := 15) dX10_of_115 rfl ?_
            refine xr_iload_n dX10_of_117 2 rfl ?_
            refine xr_iadd dX10_of_118 ?_
            refine xb_top (y := 26) (by decide) ?_
            refine xr_bipush (v := 10) dX10_of_119 rfl ?_
            refine xr_isub dX10_of_121 ?_
            refine xb_top (y := 16) (by decide) ?_
            refine xb_iald (j := 16) (v := 6) dX10_of_122 s_63 (by decide) (by decide) (Fr_r hF (by decide) (by decide +kernel)) ?_
            exact xr_iret dX10_of_123 rfl rfl (by first | rfl | (refine congrArg (fun z => some (Value.int z)) ?_; first | exact (if_neg (by assumption)).symm | exact (if_pos (by assumption)).symm | grind))
          · refine xr_aload_n dX10_of_111 0 rfl ?_
            refine xr_getR flX10_9 dX10_of_112 s_62 rfl ?_
            refine xr_bipush (v := 15) dX10_of_115 rfl ?_
            refine xr_iload_n dX10_of_117 2 rfl ?_
            refine xr_iadd dX10_of_118 ?_
            refine xb_top (y := 27) (by decide) ?_
            refine xr_bipush (v := 10) dX10_of_119 rfl ?_
            refine xr_isub dX10_of_121 ?_
            refine xb_top (y := 17) (by decide) ?_
            refine xb_iald (j := 17) (v := 0) dX10_of_122 s_63 (by decide) (by decide) (Fr_r hF (by decide) (by decide +kernel)) ?_
            exact xr_iret dX10_of_123 rfl rfl (by first | rfl | (refine congrArg (fun z => some (Value.int z)) ?_; first | exact (if_neg (by assumption)).symm | exact (if_pos (by assumption)).symm | grind))
          · refine xr_aload_n dX10_of_111 0 rfl ?_
            refine xr_getR flX10_9 dX10_of_112 s_62 rfl ?_
            refine xr_bipush (v := 15) dX10_of_115 rfl ?_
            refine xr_iload_n dX10_of_117 2 rfl ?_
            refine xr_iadd dX10_of_118 ?_
            refine xb_top (y := 28) (by decide) ?_
            refine xr_bipush (v := 10) dX10_of_119 rfl ?_
            refine xr_isub dX10_of_121 ?_
            refine xb_top (y := 18) (by decide) ?_
            refine xb_iald (j := 18) (v := 2) dX10_of_122 s_63 (by decide) (by decide) (Fr_r hF (by decide) (by decide +kernel)) ?_
            exact xr_iret dX10_of_123 rfl rfl (by first | rfl | (refine congrArg (fun z => some (Value.int z)) ?_; first | exact (if_neg (by assumption)).symm | exact (if_pos (by assumption)).symm | grind))
          · refine xr_aload_n dX10_of_111 0 rfl ?_
            refine xr_getR flX10_9 dX10_of_112 s_62 rfl ?_
            refine xr_bipush (v := 15) dX10_of_115 rfl ?_
            refine xr_iload_n dX10_of_117 2 rfl ?_
            refine xr_iadd dX10_of_118 ?_
            refine xb_top (y := 29) (by decide) ?_
            refine xr_bipush (v := 10) dX10_of_119 rfl ?_
            refine xr_isub dX10_of_121 ?_
            refine xb_top (y := 19) (by decide) ?_
            refine xb_iald (j := 19) (v := 1) dX10_of_122 s_63 (by decide) (by decide) (Fr_r hF (by decide) (by decide +kernel)) ?_
            exact xr_iret dX10_of_123 rfl rfl (by first | rfl | (refine congrArg (fun z => some (Value.int z)) ?_; first | exact (if_neg (by assumption)).symm | exact (if_pos (by assumption)).symm | grind))
        · refine xr_aload_n dX10_of_104 0 rfl ?_
          refine xb_get (v := 0) flX10_151 dX10_of_105 s_62 rfl (Fr_r hF (by decide) (by decide +kernel)) ?_
          refine xr_goto (tgt := 123) dX10_of_108 rfl ?_
          exact xr_iret dX10_of_123 rfl rfl (by first | rfl | (refine congrArg (fun z => some (Value.int z)) ?_; first | exact (if_neg (by assumption)).symm | exact (if_pos (by assumption)).symm | grind))
      · refine xr_ldc coX10_140 dX10_of_93 ?_
        refine xr_goto (tgt := 123) dX10_of_95 rfl ?_
        exact xr_iret dX10_of_123 rfl rfl (by first | rfl | (refine congrArg (fun z => some (Value.int z)) ?_; first | exact (if_neg (by assumption)).symm | exact (if_pos (by assumption)).symm | grind))
  · refine xr_aload_n dX10_of_12 0 rfl ?_
    refine xr_iload_n dX10_of_13 1 rfl ?_
    refine xb_cV (As := [.int (number)]) (rest := []) mlX10_133 (r_isHoop number (Fr_r hF (by decide) (by decide +kernel))) dX10_of_14 s_62 rfl rfl (Nat.le_of_ble_eq_true rfl) (by decide) (by decide) ?_
    refine xr_if_ne (tgt := 23) dX10_of_17 rfl (fun c => absurd (by decide) c) (fun _ => ?_)
    refine xr_ldc coX10_140 dX10_of_20 ?_
    exact xr_iret dX10_of_22 rfl rfl (by first | rfl | (refine congrArg (fun z => some (Value.int z)) ?_; first | exact (if_neg (by assumption)).symm | exact (if_pos (by assumption)).symm | grind))
set_option maxRecDepth 100000 in
set_option maxHeartbeats 4000000 in
theorem c_needsOf {l : Launch} {G : xG} {sh : List xS} {M : xM} {J : xJ} {s : Nat} (hs : s < 2 ^ 31)  : x_M l G fX10_needsOf 0 0 0 [.int (nI (s))] sh M J (qE (some (.int (nI (max 1 s)))) sh M J) := by
  refine xb_of pX10 (Nat.le_of_ble_eq_true rfl) rfl ?_
  refine xr_iload_n dX10_needsOf_0 0 rfl ?_
  refine xr_iconst (v := 1) dX10_needsOf_1 rfl ?_
  refine xr_icmp_ge (tgt := 9) dX10_needsOf_2 rfl (fun c1 => ?_) (fun c1 => ?_)
  · have nc1 : 1 ≤ s := (nI_leI (a := 1) (b := s) (by omega) (by omega)).mp c1
    refine xr_iload_n dX10_needsOf_9 0 rfl ?_
    exact xr_iret dX10_needsOf_10 rfl rfl (⟨congrArg (fun z => some (Value.int z)) (show nI (s) = nI (max 1 s) from congrArg nI (by omega)), rfl, rfl, rfl⟩)
  · have nc1 : ¬ (1 ≤ s) := fun q => c1 ((nI_leI (a := 1) (b := s) (by omega) (by omega)).mpr q)
    refine xr_iconst (v := 1) dX10_needsOf_5 rfl ?_
    refine xr_goto (tgt := 10) dX10_needsOf_6 rfl ?_
    exact xr_iret dX10_needsOf_10 rfl rfl (⟨congrArg (fun z => some (Value.int z)) (show nI (1) = nI (max 1 s) from congrArg nI (by omega)), rfl, rfl, rfl⟩)
set_option maxRecDepth 100000 in
set_option maxHeartbeats 4000000 in
theorem p_X10_till (girl v : Int32) {l : Launch} {G : xG} {M : xM} {J : xJ} (hF : Fr M)  : x_M l G fX10_till 4 0 0 [.ref (62), .int (girl), .int (v)] x_SH M J (qR (some (.int (if (0 ≤ girl ∧ girl < 25) ∧ (0 ≤ v ∧ v ≤ 12) then (if v ≤ 9 then 0 else if v = 10 then 9 else if v = 11 then 19 else 30) else -1)))) := by
  refine xb_of pX10 (Nat.le_of_ble_eq_true rfl) rfl ?_
  refine xr_iload_n dX10_till_0 1 rfl ?_
  refine xb_cS (As := [.int (girl)]) (rest := []) mlX10_293 (c_X10_isGirl girl) dX10_till_1 rfl rfl (Nat.le_of_ble_eq_true rfl) (by decide) (by decide) ?_
  refine xb_beq (tgt := 19) dX10_till_4 rfl (fun c1 => ?_) (fun c1 => ?_)
  · refine xr_iconst (v := -1) dX10_till_19 rfl ?_
    exact xr_iret dX10_till_20 rfl rfl (by first | rfl | (refine congrArg (fun z => some (Value.int z)) ?_; first | exact (if_neg (by assumption)).symm | exact (if_pos (by assumption)).symm | grind))
  · obtain ⟨j, hj, rfl⟩ := x_natle (N := 24) (by decide) rfl c1
    replace hj := Nat.lt_succ_of_le hj
    refine xr_iload_n dX10_till_7 2 rfl ?_
    refine xr_i2l dX10_till_8 ?_
    refine xr_lconst (v := 0) dX10_till_9 rfl ?_
    refine xr_ldc2 coX10_296 dX10_till_10 ?_
    refine xb_cS (As := [.long ((v).toInt64), .long (0), .long (12)]) (rest := []) mlX10_101 (c_within32 (v) (0) (12) (by decide) (by decide)) dX10_till_13 rfl rfl (Nat.le_of_ble_eq_true rfl) (by decide) (by decide) ?_
    refine xb_bne (tgt := 21) dX10_till_16 rfl (fun c2 => ?_) (fun c2 => ?_)
    · refine xr_aload_n dX10_till_21 0 rfl ?_
      refine xr_getR flX10_50 dX10_till_22 s_62 rfl ?_
      refine xr_iload_n dX10_till_25 1 rfl ?_
      refine xb_iald (j := j) (v := 9) dX10_till_26 s_75 hj (by decide) (mi_75 hF j hj) ?_
      refine xr_iload_n dX10_till_27 2 rfl ?_
      refine xr_icmp_ge (tgt := 41) dX10_till_28 rfl (fun c3 => ?_) (fun c3 => ?_)
      · refine xr_iconst (v := 0) dX10_till_41 rfl ?_
        refine xr_istore_n (ls2 := [(3, .int (0)), (0, .ref (62)), (1, .int (nI (j))), (2, .int (v))]) dX10_till_42 (by decide) rfl ?_
        refine xr_aload_n dX10_till_43 1 rfl ?_
        refine xr_getR flX10_50 dX10_till_44 s_62 rfl ?_
        refine xr_iload_n dX10_till_47 2 rfl ?_
        refine xb_iald (j := j) (v := 9) dX10_till_48 s_75 hj (by decide) (mi_75 hF j hj) ?_
        refine xr_istore (ls2 := [(4, .int (9)), (3, .int (0)), (0, .ref (62)), (1, .int (nI (j))), (2, .int (v))]) dX10_till_49 (by decide) rfl ?_
        refine xr_iload dX10_till_51 0 rfl ?_
        refine xr_iload_n dX10_till_53 4 rfl ?_
        refine xr_icmp_ge (tgt := 71) dX10_till_54 rfl (fun _ => ?_) (fun c => absurd c3 c)
        refine xr_iload_n dX10_till_71 1 rfl ?_
        exact xr_iret dX10_till_72 rfl rfl (by first | rfl | (refine congrArg (fun z => some (Value.int z)) ?_; first | exact (if_neg (by assumption)).symm | exact (if_pos (by assumption)).symm | grind))
      · rcases (show v = 10 ∨ v = 11 ∨ v = 12 by grind) with rfl | rfl | rfl
        · refine xr_aload_n dX10_till_31 0 rfl ?_
          refine xr_getR flX10_53 dX10_till_32 s_62 rfl ?_
          refine xr_iload_n dX10_till_35 1 rfl ?_
          refine xb_iald (j := j) (v := 0) dX10_till_36 s_76 hj (by decide) (mi_76 hF j hj) ?_
          refine xr_ineg dX10_till_37 ?_
          refine xb_top (y := 0) (by decide) ?_
          refine xr_goto (tgt := 42) dX10_till_38 rfl ?_
          refine xr_istore_n (ls2 := [(3, .int (0)), (0, .ref (62)), (1, .int (nI (j))), (2, .int (10))]) dX10_till_42 (by decide) rfl ?_
          refine xr_aload_n dX10_till_43 1 rfl ?_
          refine xr_getR flX10_50 dX10_till_44 s_62 rfl ?_
          refine xr_iload_n dX10_till_47 2 rfl ?_
          refine xb_iald (j := j) (v := 9) dX10_till_48 s_75 hj (by decide) (mi_75 hF j hj) ?_
          refine xr_istore (ls2 := [(4, .int (9)), (3, .int (0)), (0, .ref (62)), (1, .int (nI (j))), (2, .int (10))]) dX10_till_49 (by decide) rfl ?_
          refine xr_iload dX10_till_51 0 rfl ?_
          refine xr_iload_n dX10_till_53 4 rfl ?_
          refine xr_icmp_ge (tgt := 71) dX10_till_54 rfl (fun c => absurd c (by decide)) (fun _ => ?_)
          refine xr_iload_n dX10_till_57 1 rfl ?_
          refine xr_iload dX10_till_58 0 rfl ?_
          refine xb_cS (As := [.int (9)]) (rest := [.int (0)]) mlX10_324 (c_needsOf (s := 9) (by decide)) dX10_till_60 rfl rfl (Nat.le_of_ble_eq_true rfl) (by decide) (by decide) ?_
          refine xb_top (y := 9) (by decide) ?_
          refine xr_iadd dX10_till_63 ?_
          refine xb_top (y := 9) (by decide) ?_
          refine xr_istore_n (ls2 := [(3, .int (9)), (4, .int (9)), (0, .ref (62)), (1, .int (nI (j))), (2, .int (10))]) dX10_till_64 (by decide) rfl ?_
          refine xr_iinc (v := 10) (ls2 := [(4, .int (10)), (3, .int (9)), (0, .ref (62)), (1, .int (nI (j))), (2, .int (10))]) dX10_till_65 1 rfl rfl (by decide) rfl ?_
          refine xr_goto (tgt := 51) dX10_till_68 rfl ?_
          refine xr_iload dX10_till_51 0 rfl ?_
          refine xr_iload_n dX10_till_53 4 rfl ?_
          refine xr_icmp_ge (tgt := 71) dX10_till_54 rfl (fun _ => ?_) (fun c => absurd (by decide) c)
          refine xr_iload_n dX10_till_71 1 rfl ?_
          exact xr_iret dX10_till_72 rfl rfl (by first | rfl | (refine congrArg (fun z => some (Value.int z)) ?_; first | exact (if_neg (by assumption)).symm | exact (if_pos (by assumption)).symm | grind))
        · refine xr_aload_n dX10_till_31 0 rfl ?_
          refine xr_getR flX10_53 dX10_till_32 s_62 rfl ?_
          refine xr_iload_n dX10_till_35 1 rfl ?_
          refine xb_iald (j := j) (v := 0) dX10_till_36 s_76 hj (by decide) (mi_76 hF j hj) ?_
          refine xr_ineg dX10_till_37 ?_
          refine xb_top (y := 0) (by decide) ?_
          refine xr_goto (tgt := 42) dX10_till_38 rfl ?_
          refine xr_istore_n (ls2 := [(3, .int (0)), (0, .ref (62)), (1, .int (nI (j))), (2, .int (11))]) dX10_till_42 (by decide) rfl ?_
          refine xr_aload_n dX10_till_43 1 rfl ?_
          refine xr_getR flX10_50 dX10_till_44 s_62 rfl ?_
          refine xr_iload_n dX10_till_47 2 rfl ?_
          refine xb_iald (j := j) (v := 9) dX10_till_48 s_75 hj (by decide) (mi_75 hF j hj) ?_
          refine xr_istore (ls2 := [(4, .int (9)), (3, .int (0)), (0, .ref (62)), (1, .int (nI (j))), (2, .int (11))]) dX10_till_49 (by decide) rfl ?_
          refine xr_iload dX10_till_51 0 rfl ?_
          refine xr_iload_n dX10_till_53 4 rfl ?_
          refine xr_icmp_ge (tgt := 71) dX10_till_54 rfl (fun c => absurd c (by decide)) (fun _ => ?_)
          refine xr_iload_n dX10_till_57 1 rfl ?_
          refine xr_iload dX10_till_58 0 rfl ?_
          refine xb_cS (As := [.int (9)]) (rest := [.int (0)]) mlX10_324 (c_needsOf (s := 9) (by decide)) dX10_till_60 rfl rfl (Nat.le_of_ble_eq_true rfl) (by decide) (by decide) ?_
          refine xb_top (y := 9) (by decide) ?_
          refine xr_iadd dX10_till_63 ?_
          refine xb_top (y := 9) (by decide) ?_
          refine xr_istore_n (ls2 := [(3, .int (9)), (4, .int (9)), (0, .ref (62)), (1, .int (nI (j))), (2, .int (11))]) dX10_till_64 (by decide) rfl ?_
          refine xr_iinc (v := 10) (ls2 := [(4, .int (10)), (3, .int (9)), (0, .ref (62)), (1, .int (nI (j))), (2, .int (11))]) dX10_till_65 1 rfl rfl (by decide) rfl ?_
          refine xr_goto (tgt := 51) dX10_till_68 rfl ?_
          refine xr_iload dX10_till_51 0 rfl ?_
          refine xr_iload_n dX10_till_53 4 rfl ?_
          refine xr_icmp_ge (tgt := 71) dX10_till_54 rfl (fun c => absurd c (by decide)) (fun _ => ?_)
          refine xr_iload_n dX10_till_57 1 rfl ?_
          refine xr_iload dX10_till_58 0 rfl ?_
          refine xb_cS (As := [.int (10)]) (rest := [.int (9)]) mlX10_324 (c_needsOf (s := 10) (by decide)) dX10_till_60 rfl rfl (Nat.le_of_ble_eq_true rfl) (by decide) (by decide) ?_
          refine xb_top (y := 10) (by decide) ?_
          refine xr_iadd dX10_till_63 ?_
          refine xb_top (y := 19) (by decide) ?_
          refine xr_istore_n (ls2 := [(3, .int (19)), (4, .int (10)), (0, .ref (62)), (1, .int (nI (j))), (2, .int (11))]) dX10_till_64 (by decide) rfl ?_
          refine xr_iinc (v := 11) (ls2 := [(4, .int (11)), (3, .int (19)), (0, .ref (62)), (1, .int (nI (j))), (2, .int (11))]) dX10_till_65 1 rfl rfl (by decide) rfl ?_
          refine xr_goto (tgt := 51) dX10_till_68 rfl ?_
          refine xr_iload dX10_till_51 0 rfl ?_
          refine xr_iload_n dX10_till_53 4 rfl ?_
          refine xr_icmp_ge (tgt := 71) dX10_till_54 rfl (fun _ => ?_) (fun c => absurd (by decide) c)
          refine xr_iload_n dX10_till_71 1 rfl ?_
          exact xr_iret dX10_till_72 rfl rfl (by first | rfl | (refine congrArg (fun z => some (Value.int z)) ?_; first | exact (if_neg (by assumption)).symm | exact (if_pos (by assumption)).symm | grind))
        · refine xr_aload_n dX10_till_31 0 rfl ?_
          refine xr_getR flX10_53 dX10_till_32 s_62 rfl ?_
          refine xr_iload_n dX10_till_35 1 rfl ?_
          refine xb_iald (j := j) (v := 0) dX10_till_36 s_76 hj (by decide) (mi_76 hF j hj) ?_
          refine xr_ineg dX10_till_37 ?_
          refine xb_top (y := 0) (by decide) ?_
          refine xr_goto (tgt := 42) dX10_till_38 rfl ?_
          refine xr_istore_n (ls2 := [(3, .int (0)), (0, .ref (62)), (1, .int (nI (j))), (2, .int (12))]) dX10_till_42 (by decide) rfl ?_
          refine xr_aload_n dX10_till_43 1 rfl ?_
          refine xr_getR flX10_50 dX10_till_44 s_62 rfl ?_
          refine xr_iload_n dX10_till_47 2 rfl ?_
          refine xb_iald (j := j) (v := 9) dX10_till_48 s_75 hj (by decide) (mi_75 hF j hj) ?_
          refine xr_istore (ls2 := [(4, .int (9)), (3, .int (0)), (0, .ref (62)), (1, .int (nI (j))), (2, .int (12))]) dX10_till_49 (by decide) rfl ?_
          refine xr_iload dX10_till_51 0 rfl ?_
          refine xr_iload_n dX10_till_53 4 rfl ?_
          refine xr_icmp_ge (tgt := 71) dX10_till_54 rfl (fun c => absurd c (by decide)) (fun _ => ?_)
          refine xr_iload_n dX10_till_57 1 rfl ?_
          refine xr_iload dX10_till_58 0 rfl ?_
          refine xb_cS (As := [.int (9)]) (rest := [.int (0)]) mlX10_324 (c_needsOf (s := 9) (by decide)) dX10_till_60 rfl rfl (Nat.le_of_ble_eq_true rfl) (by decide) (by decide) ?_
          refine xb_top (y := 9) (by decide) ?_
          refine xr_iadd dX10_till_63 ?_
          refine xb_top (y := 9) (by decide) ?_
          refine xr_istore_n (ls2 := [(3, .int (9)), (4, .int (9)), (0, .ref (62)), (1, .int (nI (j))), (2, .int (12))]) dX10_till_64 (by decide) rfl ?_
          refine xr_iinc (v := 10) (ls2 := [(4, .int (10)), (3, .int (9)), (0, .ref (62)), (1, .int (nI (j))), (2, .int (12))]) dX10_till_65 1 rfl rfl (by decide) rfl ?_
          refine xr_goto (tgt := 51) dX10_till_68 rfl ?_
          refine xr_iload dX10_till_51 0 rfl ?_
          refine xr_iload_n dX10_till_53 4 rfl ?_
          refine xr_icmp_ge (tgt := 71) dX10_till_54 rfl (fun c => absurd c (by decide)) (fun _ => ?_)
          refine xr_iload_n dX10_till_57 1 rfl ?_
          refine xr_iload dX10_till_58 0 rfl ?_
          refine xb_cS (As := [.int (10)]) (rest := [.int (9)]) mlX10_324 (c_needsOf (s := 10) (by decide)) dX10_till_60 rfl rfl (Nat.le_of_ble_eq_true rfl) (by decide) (by decide) ?_
          refine xb_top (y := 10) (by decide) ?_
          refine xr_iadd dX10_till_63 ?_
          refine xb_top (y := 19) (by decide) ?_
          refine xr_istore_n (ls2 := [(3, .int (19)), (4, .int (10)), (0, .ref (62)), (1, .int (nI (j))), (2, .int (12))]) dX10_till_64 (by decide) rfl ?_
          refine xr_iinc (v := 11) (ls2 := [(4, .int (11)), (3, .int (19)), (0, .ref (62)), (1, .int (nI (j))), (2, .int (12))]) dX10_till_65 1 rfl rfl (by decide) rfl ?_
          refine xr_goto (tgt := 51) dX10_till_68 rfl ?_
          refine xr_iload dX10_till_51 0 rfl ?_
          refine xr_iload_n dX10_till_53 4 rfl ?_
          refine xr_icmp_ge (tgt := 71) dX10_till_54 rfl (fun c => absurd c (by decide)) (fun _ => ?_)
          refine xr_iload_n dX10_till_57 1 rfl ?_
          refine xr_iload dX10_till_58 0 rfl ?_
          refine xb_cS (As := [.int (11)]) (rest := [.int (19)]) mlX10_324 (c_needsOf (s := 11) (by decide)) dX10_till_60 rfl rfl (Nat.le_of_ble_eq_true rfl) (by decide) (by decide) ?_
          refine xb_top (y := 11) (by decide) ?_
          refine xr_iadd dX10_till_63 ?_
          refine xb_top (y := 30) (by decide) ?_
          refine xr_istore_n (ls2 := [(3, .int (30)), (4, .int (11)), (0, .ref (62)), (1, .int (nI (j))), (2, .int (12))]) dX10_till_64 (by decide) rfl ?_
          refine xr_iinc (v := 12) (ls2 := [(4, .int (12)), (3, .int (30)), (0, .ref (62)), (1, .int (nI (j))), (2, .int (12))]) dX10_till_65 1 rfl rfl (by decide) rfl ?_
          refine xr_goto (tgt := 51) dX10_till_68 rfl ?_
          refine xr_iload dX10_till_51 0 rfl ?_
          refine xr_iload_n dX10_till_53 4 rfl ?_
          refine xr_icmp_ge (tgt := 71) dX10_till_54 rfl (fun _ => ?_) (fun c => absurd (by decide) c)
          refine xr_iload_n dX10_till_71 1 rfl ?_
          exact xr_iret dX10_till_72 rfl rfl (by first | rfl | (refine congrArg (fun z => some (Value.int z)) ?_; first | exact (if_neg (by assumption)).symm | exact (if_pos (by assumption)).symm | grind))
    · refine xr_iconst (v := -1) dX10_till_19 rfl ?_
      exact xr_iret dX10_till_20 rfl rfl (by first | rfl | (refine congrArg (fun z => some (Value.int z)) ?_; first | exact (if_neg (by assumption)).symm | exact (if_pos (by assumption)).symm | grind))
set_option maxRecDepth 100000 in
set_option maxHeartbeats 4000000 in
theorem p_X10_alone (girl y part : Int32) {l : Launch} {G : xG} {M : xM} {J : xJ} (hF : Fr M)  : x_M l G fX10_alone 4 0 0 [.ref (62), .int (girl), .int (y), .int (part)] x_SH M J (qR (some (.long (if (0 ≤ girl ∧ girl < 25) ∧ (0 ≤ y ∧ y ≤ 8) ∧ 0 ≤ part ∧ part ≤ 1 then (if part = 0 then z_p3 y else z_p4 y) else -9223372036854775808)))) := by
  refine xb_of pX10 (Nat.le_of_ble_eq_true rfl) rfl ?_
  refine xr_iload_n dX10_alone_0 1 rfl ?_
  refine xb_cS (As := [.int (girl)]) (rest := []) mlX10_293 (c_X10_isGirl girl) dX10_alone_1 rfl rfl (Nat.le_of_ble_eq_true rfl) (by decide) (by decide) ?_
  refine xb_beq (tgt := 29) dX10_alone_4 rfl (fun c1 => ?_) (fun c1 => ?_)
  · refine xr_ldc2 coX10_320 dX10_alone_29 ?_
    exact xr_lret dX10_alone_32 rfl (congrArg (fun z => some (Value.long z)) (if_neg (by grind)).symm)
  · obtain ⟨j, hj, rfl⟩ := x_natle (N := 24) (by decide) rfl c1
    replace hj := Nat.lt_succ_of_le hj
    refine xr_iload_n dX10_alone_7 2 rfl ?_
    refine xr_i2l dX10_alone_8 ?_
    refine xr_lconst (v := 0) dX10_alone_9 rfl ?_
    refine xr_ldc2 coX10_316 dX10_alone_10 ?_
    refine xb_cS (As := [.long ((y).toInt64), .long (0), .long (8)]) (rest := []) mlX10_101 (c_within32 (y) (0) (8) (by decide) (by decide)) dX10_alone_13 rfl rfl (Nat.le_of_ble_eq_true rfl) (by decide) (by decide) ?_
    refine xb_beq (tgt := 29) dX10_alone_16 rfl (fun c2 => ?_) (fun c2 => ?_)
    · refine xr_ldc2 coX10_320 dX10_alone_29 ?_
      exact xr_lret dX10_alone_32 rfl (congrArg (fun z => some (Value.long z)) (if_neg (by grind)).symm)
    · refine xr_iload_n dX10_alone_19 3 rfl ?_
      refine xr_i2l dX10_alone_20 ?_
      refine xr_lconst (v := 0) dX10_alone_21 rfl ?_
      refine xr_lconst (v := 1) dX10_alone_22 rfl ?_
      refine xb_cS (As := [.long ((part).toInt64), .long (0), .long (1)]) (rest := []) mlX10_101 (c_within32 (part) (0) (1) (by decide) (by decide)) dX10_alone_23 rfl rfl (Nat.le_of_ble_eq_true rfl) (by decide) (by decide) ?_
      refine xb_bne (tgt := 33) dX10_alone_26 rfl (fun c3 => ?_) (fun c3 => ?_)
      · refine xr_lconst (v := 1) dX10_alone_33 rfl ?_
        refine xr_lstore (ls2 := [(4, .long (1)), (0, .ref (62)), (1, .int (nI (j))), (2, .int (y)), (3, .int (part))]) dX10_alone_34 (by decide) rfl ?_
        refine xr_lconst (v := 1) dX10_alone_36 rfl ?_
        refine xr_lstore (ls2 := [(6, .long (1)), (4, .long (1)), (0, .ref (62)), (1, .int (nI (j))), (2, .int (y)), (3, .int (part))]) dX10_alone_37 (by decide) rfl ?_
        refine xr_iconst (v := 0) dX10_alone_39 rfl ?_
        refine xr_istore (ls2 := [(8, .int (0)), (6, .long (1)), (4, .long (1)), (0, .ref (62)), (1, .int (nI (j))), (2, .int (y)), (3, .int (part))]) dX10_alone_40 (by decide) rfl ?_
        rcases (show y = 0 ∨ y = 1 ∨ y = 2 ∨ y = 3 ∨ y = 4 ∨ y = 5 ∨ y = 6 ∨ y = 7 ∨ y = 8 by grind) with rfl | rfl | rfl | rfl | rfl | rfl | rfl | rfl | rfl
        · refine xr_iload dX10_alone_42 0 rfl ?_
          refine xr_iload_n dX10_alone_44 5 rfl ?_
          refine xr_icmp_ge (tgt := 74) dX10_alone_45 rfl (fun _ => ?_) (fun c => absurd (by decide) c)
          refine xr_lload dX10_alone_74 2 rfl ?_
          refine xr_lconst (v := 0) dX10_alone_76 rfl ?_
          refine xr_lcmp dX10_alone_77 ?_
          refine xl_ne (tgt := 84) dX10_alone_78 rfl (fun _ => ?_) (fun c => absurd c (by decide))
          refine xr_lload dX10_alone_84 1 rfl ?_
          refine xr_lstore (ls2 := [(8, .long (1)), (6, .long (1)), (4, .long (1)), (0, .ref (62)), (1, .int (nI (j))), (2, .int (0)), (3, .int (part))]) dX10_alone_86 (by decide) rfl ?_
          refine xr_lload dX10_alone_88 2 rfl ?_
          refine xr_lstore (ls2 := [(10, .long (1)), (8, .long (1)), (6, .long (1)), (4, .long (1)), (0, .ref (62)), (1, .int (nI (j))), (2, .int (0)), (3, .int (part))]) dX10_alone_90 (by decide) rfl ?_
          refine xr_lload dX10_alone_92 0 rfl ?_
          refine xr_lconst (v := 0) dX10_alone_94 rfl ?_
          refine xr_lcmp dX10_alone_95 ?_
          refine xl_eq (tgt := 117) dX10_alone_96 rfl (fun c => absurd c (by decide)) (fun _ => ?_)
          refine xr_lload dX10_alone_99 1 rfl ?_
          refine xr_lload dX10_alone_101 0 rfl ?_
          refine xr_lrem dX10_alone_103 (by decide) ?_
          refine xb_topJ (y := 0) (by decide) ?_
          refine xr_lstore (ls2 := [(12, .long (0)), (10, .long (1)), (8, .long (1)), (6, .long (1)), (4, .long (1)), (0, .ref (62)), (1, .int (nI (j))), (2, .int (0)), (3, .int (part))]) dX10_alone_104 (by decide) rfl ?_
          refine xr_lload dX10_alone_106 1 rfl ?_
          refine xr_lstore (ls2 := [(8, .long (1)), (12, .long (0)), (10, .long (1)), (6, .long (1)), (4, .long (1)), (0, .ref (62)), (1, .int (nI (j))), (2, .int (0)), (3, .int (part))]) dX10_alone_108 (by decide) rfl ?_
          refine xr_lload dX10_alone_110 1 rfl ?_
          refine xr_lstore (ls2 := [(10, .long (0)), (8, .long (1)), (12, .long (0)), (6, .long (1)), (4, .long (1)), (0, .ref (62)), (1, .int (nI (j))), (2, .int (0)), (3, .int (part))]) dX10_alone_112 (by decide) rfl ?_
          refine xr_goto (tgt := 92) dX10_alone_114 rfl ?_
          refine xr_lload dX10_alone_92 0 rfl ?_
          refine xr_lconst (v := 0) dX10_alone_94 rfl ?_
          refine xr_lcmp dX10_alone_95 ?_
          refine xl_eq (tgt := 117) dX10_alone_96 rfl (fun _ => ?_) (fun c => absurd (by decide) c)
          refine xr_iload_n dX10_alone_117 8 rfl ?_
          refine xr_if_ne (tgt := 129) dX10_alone_118 rfl (fun c4 => ?_) (fun c4 => ?_)
          · refine xr_lload dX10_alone_129 3 rfl ?_
            refine xr_lload dX10_alone_131 1 rfl ?_
            refine xr_ldiv dX10_alone_133 (by decide) ?_
            refine xb_topJ (y := 1) (by decide) ?_
            exact xr_lret dX10_alone_134 rfl (congrArg (fun z => some (Value.long z)) (Eq.symm (Eq.trans (if_pos ⟨by constructor <;> grind, by decide, by grind, by grind⟩) (Eq.trans (if_neg (by assumption)) (by decide)))))
          · refine xr_lload dX10_alone_121 4 rfl ?_
            refine xr_lload dX10_alone_123 1 rfl ?_
            refine xr_ldiv dX10_alone_125 (by decide) ?_
            refine xb_topJ (y := 1) (by decide) ?_
            refine xr_goto (tgt := 134) dX10_alone_126 rfl ?_
            exact xr_lret dX10_alone_134 rfl (congrArg (fun z => some (Value.long z)) (Eq.symm (Eq.trans (if_pos ⟨by constructor <;> grind, by decide, by grind, by grind⟩) (Eq.trans (if_pos (by assumption)) (by decide)))))
        · refine xr_iload dX10_alone_42 0 rfl ?_
          refine xr_iload_n dX10_alone_44 5 rfl ?_
          refine xr_icmp_ge (tgt := 74) dX10_alone_45 rfl (fun c => absurd c (by decide)) (fun _ => ?_)
          refine xr_lload dX10_alone_48 2 rfl ?_
          refine xr_aload_n dX10_alone_50 3 rfl ?_
          refine xr_getR flX10_50 dX10_alone_51 s_62 rfl ?_
          refine xr_iload_n dX10_alone_54 4 rfl ?_
          refine xb_iald (j := j) (v := 9) dX10_alone_55 s_75 hj (by decide) (mi_75 hF j hj) ?_
          refine xr_i2l dX10_alone_56 ?_
          refine xb_topJ (y := 9) (by decide) ?_
          refine xr_lmul dX10_alone_57 ?_
          refine xb_topJ (y := 9) (by decide) ?_
          refine xr_lstore (ls2 := [(4, .long (9)), (8, .int (0)), (6, .long (1)), (0, .ref (62)), (1, .int (nI (j))), (2, .int (1)), (3, .int (part))]) dX10_alone_58 (by decide) rfl ?_
          refine xr_lload dX10_alone_60 2 rfl ?_
          refine xr_ldc2 coX10_296 dX10_alone_62 ?_
          refine xr_lmul dX10_alone_65 ?_
          refine xb_topJ (y := 12) (by decide) ?_
          refine xr_lstore (ls2 := [(6, .long (12)), (4, .long (9)), (8, .int (0)), (0, .ref (62)), (1, .int (nI (j))), (2, .int (1)), (3, .int (part))]) dX10_alone_66 (by decide) rfl ?_
          refine xr_iinc (v := 1) (ls2 := [(8, .int (1)), (6, .long (12)), (4, .long (9)), (0, .ref (62)), (1, .int (nI (j))), (2, .int (1)), (3, .int (part))]) dX10_alone_68 2 rfl rfl (by decide) rfl ?_
          refine xr_goto (tgt := 42) dX10_alone_71 rfl ?_
          refine xr_iload dX10_alone_42 0 rfl ?_
          refine xr_iload_n dX10_alone_44 5 rfl ?_
          refine xr_icmp_ge (tgt := 74) dX10_alone_45 rfl (fun _ => ?_) (fun c => absurd (by decide) c)
          refine xr_lload dX10_alone_74 2 rfl ?_
          refine xr_lconst (v := 0) dX10_alone_76 rfl ?_
          refine xr_lcmp dX10_alone_77 ?_
          refine xl_ne (tgt := 84) dX10_alone_78 rfl (fun _ => ?_) (fun c => absurd c (by decide))
          refine xr_lload dX10_alone_84 1 rfl ?_
          refine xr_lstore (ls2 := [(8, .long (12)), (6, .long (12)), (4, .long (9)), (0, .ref (62)), (1, .int (nI (j))), (2, .int (1)), (3, .int (part))]) dX10_alone_86 (by decide) rfl ?_
          refine xr_lload dX10_alone_88 2 rfl ?_
          refine xr_lstore (ls2 := [(10, .long (9)), (8, .long (12)), (6, .long (12)), (4, .long (9)), (0, .ref (62)), (1, .int (nI (j))), (2, .int (1)), (3, .int (part))]) dX10_alone_90 (by decide) rfl ?_
          refine xr_lload dX10_alone_92 0 rfl ?_
          refine xr_lconst (v := 0) dX10_alone_94 rfl ?_
          refine xr_lcmp dX10_alone_95 ?_
          refine xl_eq (tgt := 117) dX10_alone_96 rfl (fun c => absurd c (by decide)) (fun _ => ?_)
          refine xr_lload dX10_alone_99 1 rfl ?_
          refine xr_lload dX10_alone_101 0 rfl ?_
          refine xr_lrem dX10_alone_103 (by decide) ?_
          refine xb_topJ (y := 3) (by decide) ?_
          refine xr_lstore (ls2 := [(12, .long (3)), (10, .long (9)), (8, .long (12)), (6, .long (12)), (4, .long (9)), (0, .ref (62)), (1, .int (nI (j))), (2, .int (1)), (3, .int (part))]) dX10_alone_104 (by decide) rfl ?_
          refine xr_lload dX10_alone_106 1 rfl ?_
          refine xr_lstore (ls2 := [(8, .long (9)), (12, .long (3)), (10, .long (9)), (6, .long (12)), (4, .long (9)), (0, .ref (62)), (1, .int (nI (j))), (2, .int (1)), (3, .int (part))]) dX10_alone_108 (by decide) rfl ?_
          refine xr_lload dX10_alone_110 1 rfl ?_
          refine xr_lstore (ls2 := [(10, .long (3)), (8, .long (9)), (12, .long (3)), (6, .long (12)), (4, .long (9)), (0, .ref (62)), (1, .int (nI (j))), (2, .int (1)), (3, .int (part))]) dX10_alone_112 (by decide) rfl ?_
          refine xr_goto (tgt := 92) dX10_alone_114 rfl ?_
          refine xr_lload dX10_alone_92 0 rfl ?_
          refine xr_lconst (v := 0) dX10_alone_94 rfl ?_
          refine xr_lcmp dX10_alone_95 ?_
          refine xl_eq (tgt := 117) dX10_alone_96 rfl (fun c => absurd c (by decide)) (fun _ => ?_)
          refine xr_lload dX10_alone_99 1 rfl ?_
          refine xr_lload dX10_alone_101 0 rfl ?_
          refine xr_lrem dX10_alone_103 (by decide) ?_
          refine xb_topJ (y := 0) (by decide) ?_
          refine xr_lstore (ls2 := [(12, .long (0)), (10, .long (3)), (8, .long (9)), (6, .long (12)), (4, .long (9)), (0, .ref (62)), (1, .int (nI (j))), (2, .int (1)), (3, .int (part))]) dX10_alone_104 (by decide) rfl ?_
          refine xr_lload dX10_alone_106 1 rfl ?_
          refine xr_lstore (ls2 := [(8, .long (3)), (12, .long (0)), (10, .long (3)), (6, .long (12)), (4, .long (9)), (0, .ref (62)), (1, .int (nI (j))), (2, .int (1)), (3, .int (part))]) dX10_alone_108 (by decide) rfl ?_
          refine xr_lload dX10_alone_110 1 rfl ?_
          refine xr_lstore (ls2 := [(10, .long (0)), (8, .long (3)), (12, .long (0)), (6, .long (12)), (4, .long (9)), (0, .ref (62)), (1, .int (nI (j))), (2, .int (1)), (3, .int (part))]) dX10_alone_112 (by decide) rfl ?_
          refine xr_goto (tgt := 92) dX10_alone_114 rfl ?_
          refine xr_lload dX10_alone_92 0 rfl ?_
          refine xr_lconst (v := 0) dX10_alone_94 rfl ?_
          refine xr_lcmp dX10_alone_95 ?_
          refine xl_eq (tgt := 117) dX10_alone_96 rfl (fun _ => ?_) (fun c => absurd (by decide) c)
          refine xr_iload_n dX10_alone_117 8 rfl ?_
          refine xr_if_ne (tgt := 129) dX10_alone_118 rfl (fun c5 => ?_) (fun c5 => ?_)
          · refine xr_lload dX10_alone_129 3 rfl ?_
            refine xr_lload dX10_alone_131 1 rfl ?_
            refine xr_ldiv dX10_alone_133 (by decide) ?_
            refine xb_topJ (y := 4) (by decide) ?_
            exact xr_lret dX10_alone_134 rfl (congrArg (fun z => some (Value.long z)) (Eq.symm (Eq.trans (if_pos ⟨by constructor <;> grind, by decide, by grind, by grind⟩) (Eq.trans (if_neg (by assumption)) (by decide)))))
          · refine xr_lload dX10_alone_121 4 rfl ?_
            refine xr_lload dX10_alone_123 1 rfl ?_
            refine xr_ldiv dX10_alone_125 (by decide) ?_
            refine xb_topJ (y := 3) (by decide) ?_
            refine xr_goto (tgt := 134) dX10_alone_126 rfl ?_
            exact xr_lret dX10_alone_134 rfl (congrArg (fun z => some (Value.long z)) (Eq.symm (Eq.trans (if_pos ⟨by constructor <;> grind, by decide, by grind, by grind⟩) (Eq.trans (if_pos (by assumption)) (by decide)))))
        · refine xr_iload dX10_alone_42 0 rfl ?_
          refine xr_iload_n dX10_alone_44 5 rfl ?_
          refine xr_icmp_ge (tgt := 74) dX10_alone_45 rfl (fun c => absurd c (by decide)) (fun _ => ?_)
          refine xr_lload dX10_alone_48 2 rfl ?_
          refine xr_aload_n dX10_alone_50 3 rfl ?_
          refine xr_getR flX10_50 dX10_alone_51 s_62 rfl ?_
          refine xr_iload_n dX10_alone_54 4 rfl ?_
          refine xb_iald (j := j) (v := 9) dX10_alone_55 s_75 hj (by decide) (mi_75 hF j hj) ?_
          refine xr_i2l dX10_alone_56 ?_
          refine xb_topJ (y := 9) (by decide) ?_
          refine xr_lmul dX10_alone_57 ?_
          refine xb_topJ (y := 9) (by decide) ?_
          refine xr_lstore (ls2 := [(4, .long (9)), (8, .int (0)), (6, .long (1)), (0, .ref (62)), (1, .int (nI (j))), (2, .int (2)), (3, .int (part))]) dX10_alone_58 (by decide) rfl ?_
          refine xr_lload dX10_alone_60 2 rfl ?_
          refine xr_ldc2 coX10_296 dX10_alone_62 ?_
          refine xr_lmul dX10_alone_65 ?_
          refine xb_topJ (y := 12) (by decide) ?_
          refine xr_lstore (ls2 := [(6, .long (12)), (4, .long (9)), (8, .int (0)), (0, .ref (62)), (1, .int (nI (j))), (2, .int (2)), (3, .int (part))]) dX10_alone_66 (by decide) rfl ?_
          refine xr_iinc (v := 1) (ls2 := [(8, .int (1)), (6, .long (12)), (4, .long (9)), (0, .ref (62)), (1, .int (nI (j))), (2, .int (2)), (3, .int (part))]) dX10_alone_68 2 rfl rfl (by decide) rfl ?_
          refine xr_goto (tgt := 42) dX10_alone_71 rfl ?_
          refine xr_iload dX10_alone_42 0 rfl ?_
          refine xr_iload_n dX10_alone_44 5 rfl ?_
          refine xr_icmp_ge (tgt := 74) dX10_alone_45 rfl (fun c => absurd c (by decide)) (fun _ => ?_)
          refine xr_lload dX10_alone_48 2 rfl ?_
          refine xr_aload_n dX10_alone_50 3 rfl ?_
          refine xr_getR flX10_50 dX10_alone_51 s_62 rfl ?_
          refine xr_iload_n dX10_alone_54 4 rfl ?_
          refine xb_iald (j := j) (v := 9) dX10_alone_55 s_75 hj (by decide) (mi_75 hF j hj) ?_
          refine xr_i2l dX10_alone_56 ?_
          refine xb_topJ (y := 9) (by decide) ?_
          refine xr_lmul dX10_alone_57 ?_
          refine xb_topJ (y := 81) (by decide) ?_
          refine xr_lstore (ls2 := [(4, .long (81)), (8, .int (1)), (6, .long (12)), (0, .ref (62)), (1, .int (nI (j))), (2, .int (2)), (3, .int (part))]) dX10_alone_58 (by decide) rfl ?_
          refine xr_lload dX10_alone_60 2 rfl ?_
          refine xr_ldc2 coX10_296 dX10_alone_62 ?_
          refine xr_lmul dX10_alone_65 ?_
          refine xb_topJ (y := 144) (by decide) ?_
          refine xr_lstore (ls2 := [(6, .long (144)), (4, .long (81)), (8, .int (1)), (0, .ref (62)), (1, .int (nI (j))), (2, .int (2)), (3, .int (part))]) dX10_alone_66 (by decide) rfl ?_
          refine xr_iinc (v := 2) (ls2 := [(8, .int (2)), (6, .long (144)), (4, .long (81)), (0, .ref (62)), (1, .int (nI (j))), (2, .int (2)), (3, .int (part))]) dX10_alone_68 2 rfl rfl (by decide) rfl ?_
          refine xr_goto (tgt := 42) dX10_alone_71 rfl ?_
          refine xr_iload dX10_alone_42 0 rfl ?_
          refine xr_iload_n dX10_alone_44 5 rfl ?_
          refine xr_icmp_ge (tgt := 74) dX10_alone_45 rfl (fun _ => ?_) (fun c => absurd (by decide) c)
          refine xr_lload dX10_alone_74 2 rfl ?_
          refine xr_lconst (v := 0) dX10_alone_76 rfl ?_
          refine xr_lcmp dX10_alone_77 ?_
          refine xl_ne (tgt := 84) dX10_alone_78 rfl (fun _ => ?_) (fun c => absurd c (by decide))
          refine xr_lload dX10_alone_84 1 rfl ?_
          refine xr_lstore (ls2 := [(8, .long (144)), (6, .long (144)), (4, .long (81)), (0, .ref (62)), (1, .int (nI (j))), (2, .int (2)), (3, .int (part))]) dX10_alone_86 (by decide) rfl ?_
          refine xr_lload dX10_alone_88 2 rfl ?_
          refine xr_lstore (ls2 := [(10, .long (81)), (8, .long (144)), (6, .long (144)), (4, .long (81)), (0, .ref (62)), (1, .int (nI (j))), (2, .int (2)), (3, .int (part))]) dX10_alone_90 (by decide) rfl ?_
          refine xr_lload dX10_alone_92 0 rfl ?_
          refine xr_lconst (v := 0) dX10_alone_94 rfl ?_
          refine xr_lcmp dX10_alone_95 ?_
          refine xl_eq (tgt := 117) dX10_alone_96 rfl (fun c => absurd c (by decide)) (fun _ => ?_)
          refine xr_lload dX10_alone_99 1 rfl ?_
          refine xr_lload dX10_alone_101 0 rfl ?_
          refine xr_lrem dX10_alone_103 (by decide) ?_
          refine xb_topJ (y := 63) (by decide) ?_
          refine xr_lstore (ls2 := [(12, .long (63)), (10, .long (81)), (8, .long (144)), (6, .long (144)), (4, .long (81)), (0, .ref (62)), (1, .int (nI (j))), (2, .int (2)), (3, .int (part))]) dX10_alone_104 (by decide) rfl ?_
          refine xr_lload dX10_alone_106 1 rfl ?_
          refine xr_lstore (ls2 := [(8, .long (81)), (12, .long (63)), (10, .long (81)), (6, .long (144)), (4, .long (81)), (0, .ref (62)), (1, .int (nI (j))), (2, .int (2)), (3, .int (part))]) dX10_alone_108 (by decide) rfl ?_
          refine xr_lload dX10_alone_110 1 rfl ?_
          refine xr_lstore (ls2 := [(10, .long (63)), (8, .long (81)), (12, .long (63)), (6, .long (144)), (4, .long (81)), (0, .ref (62)), (1, .int (nI (j))), (2, .int (2)), (3, .int (part))]) dX10_alone_112 (by decide) rfl ?_
          refine xr_goto (tgt := 92) dX10_alone_114 rfl ?_
          refine xr_lload dX10_alone_92 0 rfl ?_
          refine xr_lconst (v := 0) dX10_alone_94 rfl ?_
          refine xr_lcmp dX10_alone_95 ?_
          refine xl_eq (tgt := 117) dX10_alone_96 rfl (fun c => absurd c (by decide)) (fun _ => ?_)
          refine xr_lload dX10_alone_99 1 rfl ?_
          refine xr_lload dX10_alone_101 0 rfl ?_
          refine xr_lrem dX10_alone_103 (by decide) ?_
          refine xb_topJ (y := 18) (by decide) ?_
          refine xr_lstore (ls2 := [(12, .long (18)), (10, .long (63)), (8, .long (81)), (6, .long (144)), (4, .long (81)), (0, .ref (62)), (1, .int (nI (j))), (2, .int (2)), (3, .int (part))]) dX10_alone_104 (by decide) rfl ?_
          refine xr_lload dX10_alone_106 1 rfl ?_
          refine xr_lstore (ls2 := [(8, .long (63)), (12, .long (18)), (10, .long (63)), (6, .long (144)), (4, .long (81)), (0, .ref (62)), (1, .int (nI (j))), (2, .int (2)), (3, .int (part))]) dX10_alone_108 (by decide) rfl ?_
          refine xr_lload dX10_alone_110 1 rfl ?_
          refine xr_lstore (ls2 := [(10, .long (18)), (8, .long (63)), (12, .long (18)), (6, .long (144)), (4, .long (81)), (0, .ref (62)), (1, .int (nI (j))), (2, .int (2)), (3, .int (part))]) dX10_alone_112 (by decide) rfl ?_
          refine xr_goto (tgt := 92) dX10_alone_114 rfl ?_
          refine xr_lload dX10_alone_92 0 rfl ?_
          refine xr_lconst (v := 0) dX10_alone_94 rfl ?_
          refine xr_lcmp dX10_alone_95 ?_
          refine xl_eq (tgt := 117) dX10_alone_96 rfl (fun c => absurd c (by decide)) (fun _ => ?_)
          refine xr_lload dX10_alone_99 1 rfl ?_
          refine xr_lload dX10_alone_101 0 rfl ?_
          refine xr_lrem dX10_alone_103 (by decide) ?_
          refine xb_topJ (y := 9) (by decide) ?_
          refine xr_lstore (ls2 := [(12, .long (9)), (10, .long (18)), (8, .long (63)), (6, .long (144)), (4, .long (81)), (0, .ref (62)), (1, .int (nI (j))), (2, .int (2)), (3, .int (part))]) dX10_alone_104 (by decide) rfl ?_
          refine xr_lload dX10_alone_106 1 rfl ?_
          refine xr_lstore (ls2 := [(8, .long (18)), (12, .long (9)), (10, .long (18)), (6, .long (144)), (4, .long (81)), (0, .ref (62)), (1, .int (nI (j))), (2, .int (2)), (3, .int (part))]) dX10_alone_108 (by decide) rfl ?_
          refine xr_lload dX10_alone_110 1 rfl ?_
          refine xr_lstore (ls2 := [(10, .long (9)), (8, .long (18)), (12, .long (9)), (6, .long (144)), (4, .long (81)), (0, .ref (62)), (1, .int (nI (j))), (2, .int (2)), (3, .int (part))]) dX10_alone_112 (by decide) rfl ?_
          refine xr_goto (tgt := 92) dX10_alone_114 rfl ?_
          refine xr_lload dX10_alone_92 0 rfl ?_
          refine xr_lconst (v := 0) dX10_alone_94 rfl ?_
          refine xr_lcmp dX10_alone_95 ?_
          refine xl_eq (tgt := 117) dX10_alone_96 rfl (fun c => absurd c (by decide)) (fun _ => ?_)
          refine xr_lload dX10_alone_99 1 rfl ?_
          refine xr_lload dX10_alone_101 0 rfl ?_
          refine xr_lrem dX10_alone_103 (by decide) ?_
          refine xb_topJ (y := 0) (by decide) ?_
          refine xr_lstore (ls2 := [(12, .long (0)), (10, .long (9)), (8, .long (18)), (6, .long (144)), (4, .long (81)), (0, .ref (62)), (1, .int (nI (j))), (2, .int (2)), (3, .int (part))]) dX10_alone_104 (by decide) rfl ?_
          refine xr_lload dX10_alone_106 1 rfl ?_
          refine xr_lstore (ls2 := [(8, .long (9)), (12, .long (0)), (10, .long (9)), (6, .long (144)), (4, .long (81)), (0, .ref (62)), (1, .int (nI (j))), (2, .int (2)), (3, .int (part))]) dX10_alone_108 (by decide) rfl ?_
          refine xr_lload dX10_alone_110 1 rfl ?_
          refine xr_lstore (ls2 := [(10, .long (0)), (8, .long (9)), (12, .long (0)), (6, .long (144)), (4, .long (81)), (0, .ref (62)), (1, .int (nI (j))), (2, .int (2)), (3, .int (part))]) dX10_alone_112 (by decide) rfl ?_
          refine xr_goto (tgt := 92) dX10_alone_114 rfl ?_
          refine xr_lload dX10_alone_92 0 rfl ?_
          refine xr_lconst (v := 0) dX10_alone_94 rfl ?_
          refine xr_lcmp dX10_alone_95 ?_
          refine xl_eq (tgt := 117) dX10_alone_96 rfl (fun _ => ?_) (fun c => absurd (by decide) c)
          refine xr_iload_n dX10_alone_117 8 rfl ?_
          refine xr_if_ne (tgt := 129) dX10_alone_118 rfl (fun c6 => ?_) (fun c6 => ?_)
          · refine xr_lload dX10_alone_129 3 rfl ?_
            refine xr_lload dX10_alone_131 1 rfl ?_
            refine xr_ldiv dX10_alone_133 (by decide) ?_
            refine xb_topJ (y := 16) (by decide) ?_
            exact xr_lret dX10_alone_134 rfl (congrArg (fun z => some (Value.long z)) (Eq.symm (Eq.trans (if_pos ⟨by constructor <;> grind, by decide, by grind, by grind⟩) (Eq.trans (if_neg (by assumption)) (by decide)))))
          · refine xr_lload dX10_alone_121 4 rfl ?_
            refine xr_lload dX10_alone_123 1 rfl ?_
            refine xr_ldiv dX10_alone_125 (by decide) ?_
            refine xb_topJ (y := 9) (by decide) ?_
            refine xr_goto (tgt := 134) dX10_alone_126 rfl ?_
            exact xr_lret dX10_alone_134 rfl (congrArg (fun z => some (Value.long z)) (Eq.symm (Eq.trans (if_pos ⟨by constructor <;> grind, by decide, by grind, by grind⟩) (Eq.trans (if_pos (by assumption)) (by decide)))))
        · refine xr_iload dX10_alone_42 0 rfl ?_
          refine xr_iload_n dX10_alone_44 5 rfl ?_
          refine xr_icmp_ge (tgt := 74) dX10_alone_45 rfl (fun c => absurd c (by decide)) (fun _ => ?_)
          refine xr_lload dX10_alone_48 2 rfl ?_
          refine xr_aload_n dX10_alone_50 3 rfl ?_
          refine xr_getR flX10_50 dX10_alone_51 s_62 rfl ?_
          refine xr_iload_n dX10_alone_54 4 rfl ?_
          refine xb_iald (j := j) (v := 9) dX10_alone_55 s_75 hj (by decide) (mi_75 hF j hj) ?_
          refine xr_i2l dX10_alone_56 ?_
          refine xb_topJ (y := 9) (by decide) ?_
          refine xr_lmul dX10_alone_57 ?_
          refine xb_topJ (y := 9) (by decide) ?_
          refine xr_lstore (ls2 := [(4, .long (9)), (8, .int (0)), (6, .long (1)), (0, .ref (62)), (1, .int (nI (j))), (2, .int (3)), (3, .int (part))]) dX10_alone_58 (by decide) rfl ?_
          refine xr_lload dX10_alone_60 2 rfl ?_
          refine xr_ldc2 coX10_296 dX10_alone_62 ?_
          refine xr_lmul dX10_alone_65 ?_
          refine xb_topJ (y := 12) (by decide) ?_
          refine xr_lstore (ls2 := [(6, .long (12)), (4, .long (9)), (8, .int (0)), (0, .ref (62)), (1, .int (nI (j))), (2, .int (3)), (3, .int (part))]) dX10_alone_66 (by decide) rfl ?_
          refine xr_iinc (v := 1) (ls2 := [(8, .int (1)), (6, .long (12)), (4, .long (9)), (0, .ref (62)), (1, .int (nI (j))), (2, .int (3)), (3, .int (part))]) dX10_alone_68 2 rfl rfl (by decide) rfl ?_
          refine xr_goto (tgt := 42) dX10_alone_71 rfl ?_
          refine xr_iload dX10_alone_42 0 rfl ?_
          refine xr_iload_n dX10_alone_44 5 rfl ?_
          refine xr_icmp_ge (tgt := 74) dX10_alone_45 rfl (fun c => absurd c (by decide)) (fun _ => ?_)
          refine xr_lload dX10_alone_48 2 rfl ?_
          refine xr_aload_n dX10_alone_50 3 rfl ?_
          refine xr_getR flX10_50 dX10_alone_51 s_62 rfl ?_
          refine xr_iload_n dX10_alone_54 4 rfl ?_
          refine xb_iald (j := j) (v := 9) dX10_alone_55 s_75 hj (by decide) (mi_75 hF j hj) ?_
          refine xr_i2l dX10_alone_56 ?_
          refine xb_topJ (y := 9) (by decide) ?_
          refine xr_lmul dX10_alone_57 ?_
          refine xb_topJ (y := 81) (by decide) ?_
          refine xr_lstore (ls2 := [(4, .long (81)), (8, .int (1)), (6, .long (12)), (0, .ref (62)), (1, .int (nI (j))), (2, .int (3)), (3, .int (part))]) dX10_alone_58 (by decide) rfl ?_
          refine xr_lload dX10_alone_60 2 rfl ?_
          refine xr_ldc2 coX10_296 dX10_alone_62 ?_
          refine xr_lmul dX10_alone_65 ?_
          refine xb_topJ (y := 144) (by decide) ?_
          refine xr_lstore (ls2 := [(6, .long (144)), (4, .long (81)), (8, .int (1)), (0, .ref (62)), (1, .int (nI (j))), (2, .int (3)), (3, .int (part))]) dX10_alone_66 (by decide) rfl ?_
          refine xr_iinc (v := 2) (ls2 := [(8, .int (2)), (6, .long (144)), (4, .long (81)), (0, .ref (62)), (1, .int (nI (j))), (2, .int (3)), (3, .int (part))]) dX10_alone_68 2 rfl rfl (by decide) rfl ?_
          refine xr_goto (tgt := 42) dX10_alone_71 rfl ?_
          refine xr_iload dX10_alone_42 0 rfl ?_
          refine xr_iload_n dX10_alone_44 5 rfl ?_
          refine xr_icmp_ge (tgt := 74) dX10_alone_45 rfl (fun c => absurd c (by decide)) (fun _ => ?_)
          refine xr_lload dX10_alone_48 2 rfl ?_
          refine xr_aload_n dX10_alone_50 3 rfl ?_
          refine xr_getR flX10_50 dX10_alone_51 s_62 rfl ?_
          refine xr_iload_n dX10_alone_54 4 rfl ?_
          refine xb_iald (j := j) (v := 9) dX10_alone_55 s_75 hj (by decide) (mi_75 hF j hj) ?_
          refine xr_i2l dX10_alone_56 ?_
          refine xb_topJ (y := 9) (by decide) ?_
          refine xr_lmul dX10_alone_57 ?_
          refine xb_topJ (y := 729) (by decide) ?_
          refine xr_lstore (ls2 := [(4, .long (729)), (8, .int (2)), (6, .long (144)), (0, .ref (62)), (1, .int (nI (j))), (2, .int (3)), (3, .int (part))]) dX10_alone_58 (by decide) rfl ?_
          refine xr_lload dX10_alone_60 2 rfl ?_
          refine xr_ldc2 coX10_296 dX10_alone_62 ?_
          refine xr_lmul dX10_alone_65 ?_
          refine xb_topJ (y := 1728) (by decide) ?_
          refine xr_lstore (ls2 := [(6, .long (1728)), (4, .long (729)), (8, .int (2)), (0, .ref (62)), (1, .int (nI (j))), (2, .int (3)), (3, .int (part))]) dX10_alone_66 (by decide) rfl ?_
          refine xr_iinc (v := 3) (ls2 := [(8, .int (3)), (6, .long (1728)), (4, .long (729)), (0, .ref (62)), (1, .int (nI (j))), (2, .int (3)), (3, .int (part))]) dX10_alone_68 2 rfl rfl (by decide) rfl ?_
          refine xr_goto (tgt := 42) dX10_alone_71 rfl ?_
          refine xr_iload dX10_alone_42 0 rfl ?_
          refine xr_iload_n dX10_alone_44 5 rfl ?_
          refine xr_icmp_ge (tgt := 74) dX10_alone_45 rfl (fun _ => ?_) (fun c => absurd (by decide) c)
          refine xr_lload dX10_alone_74 2 rfl ?_
          refine xr_lconst (v := 0) dX10_alone_76 rfl ?_
          refine xr_lcmp dX10_alone_77 ?_
          refine xl_ne (tgt := 84) dX10_alone_78 rfl (fun _ => ?_) (fun c => absurd c (by decide))
          refine xr_lload dX10_alone_84 1 rfl ?_
          refine xr_lstore (ls2 := [(8, .long (1728)), (6, .long (1728)), (4, .long (729)), (0, .ref (62)), (1, .int (nI (j))), (2, .int (3)), (3, .int (part))]) dX10_alone_86 (by decide) rfl ?_
          refine xr_lload dX10_alone_88 2 rfl ?_
          refine xr_lstore (ls2 := [(10, .long (729)), (8, .long (1728)), (6, .long (1728)), (4, .long (729)), (0, .ref (62)), (1, .int (nI (j))), (2, .int (3)), (3, .int (part))]) dX10_alone_90 (by decide) rfl ?_
          refine xr_lload dX10_alone_92 0 rfl ?_
          refine xr_lconst (v := 0) dX10_alone_94 rfl ?_
          refine xr_lcmp dX10_alone_95 ?_
          refine xl_eq (tgt := 117) dX10_alone_96 rfl (fun c => absurd c (by decide)) (fun _ => ?_)
          refine xr_lload dX10_alone_99 1 rfl ?_
          refine xr_lload dX10_alone_101 0 rfl ?_
          refine xr_lrem dX10_alone_103 (by decide) ?_
          refine xb_topJ (y := 270) (by decide) ?_
          refine xr_lstore (ls2 := [(12, .long (270)), (10, .long (729)), (8, .long (1728)), (6, .long (1728)), (4, .long (729)), (0, .ref (62)), (1, .int (nI (j))), (2, .int (3)), (3, .int (part))]) dX10_alone_104 (by decide) rfl ?_
          refine xr_lload dX10_alone_106 1 rfl ?_
          refine xr_lstore (ls2 := [(8, .long (729)), (12, .long (270)), (10, .long (729)), (6, .long (1728)), (4, .long (729)), (0, .ref (62)), (1, .int (nI (j))), (2, .int (3)), (3, .int (part))]) dX10_alone_108 (by decide) rfl ?_
          refine xr_lload dX10_alone_110 1 rfl ?_
          refine xr_lstore (ls2 := [(10, .long (270)), (8, .long (729)), (12, .long (270)), (6, .long (1728)), (4, .long (729)), (0, .ref (62)), (1, .int (nI (j))), (2, .int (3)), (3, .int (part))]) dX10_alone_112 (by decide) rfl ?_
          refine xr_goto (tgt := 92) dX10_alone_114 rfl ?_
          refine xr_lload dX10_alone_92 0 rfl ?_
          refine xr_lconst (v := 0) dX10_alone_94 rfl ?_
          refine xr_lcmp dX10_alone_95 ?_
          refine xl_eq (tgt := 117) dX10_alone_96 rfl (fun c => absurd c (by decide)) (fun _ => ?_)
          refine xr_lload dX10_alone_99 1 rfl ?_
          refine xr_lload dX10_alone_101 0 rfl ?_
          refine xr_lrem dX10_alone_103 (by decide) ?_
          refine xb_topJ (y := 189) (by decide) ?_
          refine xr_lstore (ls2 := [(12, .long (189)), (10, .long (270)), (8, .long (729)), (6, .long (1728)), (4, .long (729)), (0, .ref (62)), (1, .int (nI (j))), (2, .int (3)), (3, .int (part))]) dX10_alone_104 (by decide) rfl ?_
          refine xr_lload dX10_alone_106 1 rfl ?_
          refine xr_lstore (ls2 := [(8, .long (270)), (12, .long (189)), (10, .long (270)), (6, .long (1728)), (4, .long (729)), (0, .ref (62)), (1, .int (nI (j))), (2, .int (3)), (3, .int (part))]) dX10_alone_108 (by decide) rfl ?_
          refine xr_lload dX10_alone_110 1 rfl ?_
          refine xr_lstore (ls2 := [(10, .long (189)), (8, .long (270)), (12, .long (189)), (6, .long (1728)), (4, .long (729)), (0, .ref (62)), (1, .int (nI (j))), (2, .int (3)), (3, .int (part))]) dX10_alone_112 (by decide) rfl ?_
          refine xr_goto (tgt := 92) dX10_alone_114 rfl ?_
          refine xr_lload dX10_alone_92 0 rfl ?_
          refine xr_lconst (v := 0) dX10_alone_94 rfl ?_
          refine xr_lcmp dX10_alone_95 ?_
          refine xl_eq (tgt := 117) dX10_alone_96 rfl (fun c => absurd c (by decide)) (fun _ => ?_)
          refine xr_lload dX10_alone_99 1 rfl ?_
          refine xr_lload dX10_alone_101 0 rfl ?_
          refine xr_lrem dX10_alone_103 (by decide) ?_
          refine xb_topJ (y := 81) (by decide) ?_
          refine xr_lstore (ls2 := [(12, .long (81)), (10, .long (189)), (8, .long (270)), (6, .long (1728)), (4, .long (729)), (0, .ref (62)), (1, .int (nI (j))), (2, .int (3)), (3, .int (part))]) dX10_alone_104 (by decide) rfl ?_
          refine xr_lload dX10_alone_106 1 rfl ?_
          refine xr_lstore (ls2 := [(8, .long (189)), (12, .long (81)), (10, .long (189)), (6, .long (1728)), (4, .long (729)), (0, .ref (62)), (1, .int (nI (j))), (2, .int (3)), (3, .int (part))]) dX10_alone_108 (by decide) rfl ?_
          refine xr_lload dX10_alone_110 1 rfl ?_
          refine xr_lstore (ls2 := [(10, .long (81)), (8, .long (189)), (12, .long (81)), (6, .long (1728)), (4, .long (729)), (0, .ref (62)), (1, .int (nI (j))), (2, .int (3)), (3, .int (part))]) dX10_alone_112 (by decide) rfl ?_
          refine xr_goto (tgt := 92) dX10_alone_114 rfl ?_
          refine xr_lload dX10_alone_92 0 rfl ?_
          refine xr_lconst (v := 0) dX10_alone_94 rfl ?_
          refine xr_lcmp dX10_alone_95 ?_
          refine xl_eq (tgt := 117) dX10_alone_96 rfl (fun c => absurd c (by decide)) (fun _ => ?_)
          refine xr_lload dX10_alone_99 1 rfl ?_
          refine xr_lload dX10_alone_101 0 rfl ?_
          refine xr_lrem dX10_alone_103 (by decide) ?_
          refine xb_topJ (y := 27) (by decide) ?_
          refine xr_lstore (ls2 := [(12, .long (27)), (10, .long (81)), (8, .long (189)), (6, .long (1728)), (4, .long (729)), (0, .ref (62)), (1, .int (nI (j))), (2, .int (3)), (3, .int (part))]) dX10_alone_104 (by decide) rfl ?_
          refine xr_lload dX10_alone_106 1 rfl ?_
          refine xr_lstore (ls2 := [(8, .long (81)), (12, .long (27)), (10, .long (81)), (6, .long (1728)), (4, .long (729)), (0, .ref (62)), (1, .int (nI (j))), (2, .int (3)), (3, .int (part))]) dX10_alone_108 (by decide) rfl ?_
          refine xr_lload dX10_alone_110 1 rfl ?_
          refine xr_lstore (ls2 := [(10, .long (27)), (8, .long (81)), (12, .long (27)), (6, .long (1728)), (4, .long (729)), (0, .ref (62)), (1, .int (nI (j))), (2, .int (3)), (3, .int (part))]) dX10_alone_112 (by decide) rfl ?_
          refine xr_goto (tgt := 92) dX10_alone_114 rfl ?_
          refine xr_lload dX10_alone_92 0 rfl ?_
          refine xr_lconst (v := 0) dX10_alone_94 rfl ?_
          refine xr_lcmp dX10_alone_95 ?_
          refine xl_eq (tgt := 117) dX10_alone_96 rfl (fun c => absurd c (by decide)) (fun _ => ?_)
          refine xr_lload dX10_alone_99 1 rfl ?_
          refine xr_lload dX10_alone_101 0 rfl ?_
          refine xr_lrem dX10_alone_103 (by decide) ?_
          refine xb_topJ (y := 0) (by decide) ?_
          refine xr_lstore (ls2 := [(12, .long (0)), (10, .long (27)), (8, .long (81)), (6, .long (1728)), (4, .long (729)), (0, .ref (62)), (1, .int (nI (j))), (2, .int (3)), (3, .int (part))]) dX10_alone_104 (by decide) rfl ?_
          refine xr_lload dX10_alone_106 1 rfl ?_
          refine xr_lstore (ls2 := [(8, .long (27)), (12, .long (0)), (10, .long (27)), (6, .long (1728)), (4, .long (729)), (0, .ref (62)), (1, .int (nI (j))), (2, .int (3)), (3, .int (part))]) dX10_alone_108 (by decide) rfl ?_
          refine xr_lload dX10_alone_110 1 rfl ?_
          refine xr_lstore (ls2 := [(10, .long (0)), (8, .long (27)), (12, .long (0)), (6, .long (1728)), (4, .long (729)), (0, .ref (62)), (1, .int (nI (j))), (2, .int (3)), (3, .int (part))]) dX10_alone_112 (by decide) rfl ?_
          refine xr_goto (tgt := 92) dX10_alone_114 rfl ?_
          refine xr_lload dX10_alone_92 0 rfl ?_
          refine xr_lconst (v := 0) dX10_alone_94 rfl ?_
          refine xr_lcmp dX10_alone_95 ?_
          refine xl_eq (tgt := 117) dX10_alone_96 rfl (fun _ => ?_) (fun c => absurd (by decide) c)
          refine xr_iload_n dX10_alone_117 8 rfl ?_
          refine xr_if_ne (tgt := 129) dX10_alone_118 rfl (fun c7 => ?_) (fun c7 => ?_)
          · refine xr_lload dX10_alone_129 3 rfl ?_
            refine xr_lload dX10_alone_131 1 rfl ?_
            refine xr_ldiv dX10_alone_133 (by decide) ?_
            refine xb_topJ (y := 64) (by decide) ?_
            exact xr_lret dX10_alone_134 rfl (congrArg (fun z => some (Value.long z)) (Eq.symm (Eq.trans (if_pos ⟨by constructor <;> grind, by decide, by grind, by grind⟩) (Eq.trans (if_neg (by assumption)) (by decide)))))
          · refine xr_lload dX10_alone_121 4 rfl ?_
            refine xr_lload dX10_alone_123 1 rfl ?_
            refine xr_ldiv dX10_alone_125 (by decide) ?_
            refine xb_topJ (y := 27) (by decide) ?_
            refine xr_goto (tgt := 134) dX10_alone_126 rfl ?_
            exact xr_lret dX10_alone_134 rfl (congrArg (fun z => some (Value.long z)) (Eq.symm (Eq.trans (if_pos ⟨by constructor <;> grind, by decide, by grind, by grind⟩) (Eq.trans (if_pos (by assumption)) (by decide)))))
        · refine xr_iload dX10_alone_42 0 rfl ?_
          refine xr_iload_n dX10_alone_44 5 rfl ?_
          refine xr_icmp_ge (tgt := 74) dX10_alone_45 rfl (fun c => absurd c (by decide)) (fun _ => ?_)
          refine xr_lload dX10_alone_48 2 rfl ?_
          refine xr_aload_n dX10_alone_50 3 rfl ?_
          refine xr_getR flX10_50 dX10_alone_51 s_62 rfl ?_
          refine xr_iload_n dX10_alone_54 4 rfl ?_
          refine xb_iald (j := j) (v := 9) dX10_alone_55 s_75 hj (by decide) (mi_75 hF j hj) ?_
          refine xr_i2l dX10_alone_56 ?_
          refine xb_topJ (y := 9) (by decide) ?_
          refine xr_lmul dX10_alone_57 ?_
          refine xb_topJ (y := 9) (by decide) ?_
          refine xr_lstore (ls2 := [(4, .long (9)), (8, .int (0)), (6, .long (1)), (0, .ref (62)), (1, .int (nI (j))), (2, .int (4)), (3, .int (part))]) dX10_alone_58 (by decide) rfl ?_
          refine xr_lload dX10_alone_60 2 rfl ?_
          refine xr_ldc2 coX10_296 dX10_alone_62 ?_
          refine xr_lmul dX10_alone_65 ?_
          refine xb_topJ (y := 12) (by decide) ?_
          refine xr_lstore (ls2 := [(6, .long (12)), (4, .long (9)), (8, .int (0)), (0, .ref (62)), (1, .int (nI (j))), (2, .int (4)), (3, .int (part))]) dX10_alone_66 (by decide) rfl ?_
          refine xr_iinc (v := 1) (ls2 := [(8, .int (1)), (6, .long (12)), (4, .long (9)), (0, .ref (62)), (1, .int (nI (j))), (2, .int (4)), (3, .int (part))]) dX10_alone_68 2 rfl rfl (by decide) rfl ?_
          refine xr_goto (tgt := 42) dX10_alone_71 rfl ?_
          refine xr_iload dX10_alone_42 0 rfl ?_
          refine xr_iload_n dX10_alone_44 5 rfl ?_
          refine xr_icmp_ge (tgt := 74) dX10_alone_45 rfl (fun c => absurd c (by decide)) (fun _ => ?_)
          refine xr_lload dX10_alone_48 2 rfl ?_
          refine xr_aload_n dX10_alone_50 3 rfl ?_
          refine xr_getR flX10_50 dX10_alone_51 s_62 rfl ?_
          refine xr_iload_n dX10_alone_54 4 rfl ?_
          refine xb_iald (j := j) (v := 9) dX10_alone_55 s_75 hj (by decide) (mi_75 hF j hj) ?_
          refine xr_i2l dX10_alone_56 ?_
          refine xb_topJ (y := 9) (by decide) ?_
          refine xr_lmul dX10_alone_57 ?_
          refine xb_topJ (y := 81) (by decide) ?_
          refine xr_lstore (ls2 := [(4, .long (81)), (8, .int (1)), (6, .long (12)), (0, .ref (62)), (1, .int (nI (j))), (2, .int (4)), (3, .int (part))]) dX10_alone_58 (by decide) rfl ?_
          refine xr_lload dX10_alone_60 2 rfl ?_
          refine xr_ldc2 coX10_296 dX10_alone_62 ?_
          refine xr_lmul dX10_alone_65 ?_
          refine xb_topJ (y := 144) (by decide) ?_
          refine xr_lstore (ls2 := [(6, .long (144)), (4, .long (81)), (8, .int (1)), (0, .ref (62)), (1, .int (nI (j))), (2, .int (4)), (3, .int (part))]) dX10_alone_66 (by decide) rfl ?_
          refine xr_iinc (v := 2) (ls2 := [(8, .int (2)), (6, .long (144)), (4, .long (81)), (0, .ref (62)), (1, .int (nI (j))), (2, .int (4)), (3, .int (part))]) dX10_alone_68 2 rfl rfl (by decide) rfl ?_
          refine xr_goto (tgt := 42) dX10_alone_71 rfl ?_
          refine xr_iload dX10_alone_42 0 rfl ?_
          refine xr_iload_n dX10_alone_44 5 rfl ?_
          refine xr_icmp_ge (tgt := 74) dX10_alone_45 rfl (fun c => absurd c (by decide)) (fun _ => ?_)
          refine xr_lload dX10_alone_48 2 rfl ?_
          refine xr_aload_n dX10_alone_50 3 rfl ?_
          refine xr_getR flX10_50 dX10_alone_51 s_62 rfl ?_
          refine xr_iload_n dX10_alone_54 4 rfl ?_
          refine xb_iald (j := j) (v := 9) dX10_alone_55 s_75 hj (by decide) (mi_75 hF j hj) ?_
          refine xr_i2l dX10_alone_56 ?_
          refine xb_topJ (y := 9) (by decide) ?_
          refine xr_lmul dX10_alone_57 ?_
          refine xb_topJ (y := 729) (by decide) ?_
          refine xr_lstore (ls2 := [(4, .long (729)), (8, .int (2)), (6, .long (144)), (0, .ref (62)), (1, .int (nI (j))), (2, .int (4)), (3, .int (part))]) dX10_alone_58 (by decide) rfl ?_
          refine xr_lload dX10_alone_60 2 rfl ?_
          refine xr_ldc2 coX10_296 dX10_alone_62 ?_
          refine xr_lmul dX10_alone_65 ?_
          refine xb_topJ (y := 1728) (by decide) ?_
          refine xr_lstore (ls2 := [(6, .long (1728)), (4, .long (729)), (8, .int (2)), (0, .ref (62)), (1, .int (nI (j))), (2, .int (4)), (3, .int (part))]) dX10_alone_66 (by decide) rfl ?_
          refine xr_iinc (v := 3) (ls2 := [(8, .int (3)), (6, .long (1728)), (4, .long (729)), (0, .ref (62)), (1, .int (nI (j))), (2, .int (4)), (3, .int (part))]) dX10_alone_68 2 rfl rfl (by decide) rfl ?_
          refine xr_goto (tgt := 42) dX10_alone_71 rfl ?_
          refine xr_iload dX10_alone_42 0 rfl ?_
          refine xr_iload_n dX10_alone_44 5 rfl ?_
          refine xr_icmp_ge (tgt := 74) dX10_alone_45 rfl (fun c => absurd c (by decide)) (fun _ => ?_)
          refine xr_lload dX10_alone_48 2 rfl ?_
          refine xr_aload_n dX10_alone_50 3 rfl ?_
          refine xr_getR flX10_50 dX10_alone_51 s_62 rfl ?_
          refine xr_iload_n dX10_alone_54 4 rfl ?_
          refine xb_iald (j := j) (v := 9) dX10_alone_55 s_75 hj (by decide) (mi_75 hF j hj) ?_
          refine xr_i2l dX10_alone_56 ?_
          refine xb_topJ (y := 9) (by decide) ?_
          refine xr_lmul dX10_alone_57 ?_
          refine xb_topJ (y := 6561) (by decide) ?_
          refine xr_lstore (ls2 := [(4, .long (6561)), (8, .int (3)), (6, .long (1728)), (0, .ref (62)), (1, .int (nI (j))), (2, .int (4)), (3, .int (part))]) dX10_alone_58 (by decide) rfl ?_
          refine xr_lload dX10_alone_60 2 rfl ?_
          refine xr_ldc2 coX10_296 dX10_alone_62 ?_
          refine xr_lmul dX10_alone_65 ?_
          refine xb_topJ (y := 20736) (by decide) ?_
          refine xr_lstore (ls2 := [(6, .long (20736)), (4, .long (6561)), (8, .int (3)), (0, .ref (62)), (1, .int (nI (j))), (2, .int (4)), (3, .int (part))]) dX10_alone_66 (by decide) rfl ?_
          refine xr_iinc (v := 4) (ls2 := [(8, .int (4)), (6, .long (20736)), (4, .long (6561)), (0, .ref (62)), (1, .int (nI (j))), (2, .int (4)), (3, .int (part))]) dX10_alone_68 2 rfl rfl (by decide) rfl ?_
          refine xr_goto (tgt := 42) dX10_alone_71 rfl ?_
          refine xr_iload dX10_alone_42 0 rfl ?_
          refine xr_iload_n dX10_alone_44 5 rfl ?_
          refine xr_icmp_ge (tgt := 74) dX10_alone_45 rfl (fun _ => ?_) (fun c => absurd (by decide) c)
          refine xr_lload dX10_alone_74 2 rfl ?_
          refine xr_lconst (v := 0) dX10_alone_76 rfl ?_
          refine xr_lcmp dX10_alone_77 ?_
          refine xl_ne (tgt := 84) dX10_alone_78 rfl (fun _ => ?_) (fun c => absurd c (by decide))
          refine xr_lload dX10_alone_84 1 rfl ?_
          refine xr_lstore (ls2 := [(8, .long (20736)), (6, .long (20736)), (4, .long (6561)), (0, .ref (62)), (1, .int (nI (j))), (2, .int (4)), (3, .int (part))]) dX10_alone_86 (by decide) rfl ?_
          refine xr_lload dX10_alone_88 2 rfl ?_
          refine xr_lstore (ls2 := [(10, .long (6561)), (8, .long (20736)), (6, .long (20736)), (4, .long (6561)), (0, .ref (62)), (1, .int (nI (j))), (2, .int (4)), (3, .int (part))]) dX10_alone_90 (by decide) rfl ?_
          refine xr_lload dX10_alone_92 0 rfl ?_
          refine xr_lconst (v := 0) dX10_alone_94 rfl ?_
          refine xr_lcmp dX10_alone_95 ?_
          refine xl_eq (tgt := 117) dX10_alone_96 rfl (fun c => absurd c (by decide)) (fun _ => ?_)
          refine xr_lload dX10_alone_99 1 rfl ?_
          refine xr_lload dX10_alone_101 0 rfl ?_
          refine xr_lrem dX10_alone_103 (by decide) ?_
          refine xb_topJ (y := 1053) (by decide) ?_
          refine xr_lstore (ls2 := [(12, .long (1053)), (10, .long (6561)), (8, .long (20736)), (6, .long (20736)), (4, .long (6561)), (0, .ref (62)), (1, .int (nI (j))), (2, .int (4)), (3, .int (part))]) dX10_alone_104 (by decide) rfl ?_
          refine xr_lload dX10_alone_106 1 rfl ?_
          refine xr_lstore (ls2 := [(8, .long (6561)), (12, .long (1053)), (10, .long (6561)), (6, .long (20736)), (4, .long (6561)), (0, .ref (62)), (1, .int (nI (j))), (2, .int (4)), (3, .int (part))]) dX10_alone_108 (by decide) rfl ?_
          refine xr_lload dX10_alone_110 1 rfl ?_
          refine xr_lstore (ls2 := [(10, .long (1053)), (8, .long (6561)), (12, .long (1053)), (6, .long (20736)), (4, .long (6561)), (0, .ref (62)), (1, .int (nI (j))), (2, .int (4)), (3, .int (part))]) dX10_alone_112 (by decide) rfl ?_
          refine xr_goto (tgt := 92) dX10_alone_114 rfl ?_
          refine xr_lload dX10_alone_92 0 rfl ?_
          refine xr_lconst (v := 0) dX10_alone_94 rfl ?_
          refine xr_lcmp dX10_alone_95 ?_
          refine xl_eq (tgt := 117) dX10_alone_96 rfl (fun c => absurd c (by decide)) (fun _ => ?_)
          refine xr_lload dX10_alone_99 1 rfl ?_
          refine xr_lload dX10_alone_101 0 rfl ?_
          refine xr_lrem dX10_alone_103 (by decide) ?_
          refine xb_topJ (y := 243) (by decide) ?_
          refine xr_lstore (ls2 := [(12, .long (243)), (10, .long (1053)), (8, .long (6561)), (6, .long (20736)), (4, .long (6561)), (0, .ref (62)), (1, .int (nI (j))), (2, .int (4)), (3, .int (part))]) dX10_alone_104 (by decide) rfl ?_
          refine xr_lload dX10_alone_106 1 rfl ?_
          refine xr_lstore (ls2 := [(8, .long (1053)), (12, .long (243)), (10, .long (1053)), (6, .long (20736)), (4, .long (6561)), (0, .ref (62)), (1, .int (nI (j))), (2, .int (4)), (3, .int (part))]) dX10_alone_108 (by decide) rfl ?_
          refine xr_lload dX10_alone_110 1 rfl ?_
          refine xr_lstore (ls2 := [(10, .long (243)), (8, .long (1053)), (12, .long (243)), (6, .long (20736)), (4, .long (6561)), (0, .ref (62)), (1, .int (nI (j))), (2, .int (4)), (3, .int (part))]) dX10_alone_112 (by decide) rfl ?_
          refine xr_goto (tgt := 92) dX10_alone_114 rfl ?_
          refine xr_lload dX10_alone_92 0 rfl ?_
          refine xr_lconst (v := 0) dX10_alone_94 rfl ?_
          refine xr_lcmp dX10_alone_95 ?_
          refine xl_eq (tgt := 117) dX10_alone_96 rfl (fun c => absurd c (by decide)) (fun _ => ?_)
          refine xr_lload dX10_alone_99 1 rfl ?_
          refine xr_lload dX10_alone_101 0 rfl ?_
          refine xr_lrem dX10_alone_103 (by decide) ?_
          refine xb_topJ (y := 81) (by decide) ?_
          refine xr_lstore (ls2 := [(12, .long (81)), (10, .long (243)), (8, .long (1053)), (6, .long (20736)), (4, .long (6561)), (0, .ref (62)), (1, .int (nI (j))), (2, .int (4)), (3, .int (part))]) dX10_alone_104 (by decide) rfl ?_
          refine xr_lload dX10_alone_106 1 rfl ?_
          refine xr_lstore (ls2 := [(8, .long (243)), (12, .long (81)), (10, .long (243)), (6, .long (20736)), (4, .long (6561)), (0, .ref (62)), (1, .int (nI (j))), (2, .int (4)), (3, .int (part))]) dX10_alone_108 (by decide) rfl ?_
          refine xr_lload dX10_alone_110 1 rfl ?_
          refine xr_lstore (ls2 := [(10, .long (81)), (8, .long (243)), (12, .long (81)), (6, .long (20736)), (4, .long (6561)), (0, .ref (62)), (1, .int (nI (j))), (2, .int (4)), (3, .int (part))]) dX10_alone_112 (by decide) rfl ?_
          refine xr_goto (tgt := 92) dX10_alone_114 rfl ?_
          refine xr_lload dX10_alone_92 0 rfl ?_
          refine xr_lconst (v := 0) dX10_alone_94 rfl ?_
          refine xr_lcmp dX10_alone_95 ?_
          refine xl_eq (tgt := 117) dX10_alone_96 rfl (fun c => absurd c (by decide)) (fun _ => ?_)
          refine xr_lload dX10_alone_99 1 rfl ?_
          refine xr_lload dX10_alone_101 0 rfl ?_
          refine xr_lrem dX10_alone_103 (by decide) ?_
          refine xb_topJ (y := 0) (by decide) ?_
          refine xr_lstore (ls2 := [(12, .long (0)), (10, .long (81)), (8, .long (243)), (6, .long (20736)), (4, .long (6561)), (0, .ref (62)), (1, .int (nI (j))), (2, .int (4)), (3, .int (part))]) dX10_alone_104 (by decide) rfl ?_
          refine xr_lload dX10_alone_106 1 rfl ?_
          refine xr_lstore (ls2 := [(8, .long (81)), (12, .long (0)), (10, .long (81)), (6, .long (20736)), (4, .long (6561)), (0, .ref (62)), (1, .int (nI (j))), (2, .int (4)), (3, .int (part))]) dX10_alone_108 (by decide) rfl ?_
          refine xr_lload dX10_alone_110 1 rfl ?_
          refine xr_lstore (ls2 := [(10, .long (0)), (8, .long (81)), (12, .long (0)), (6, .long (20736)), (4, .long (6561)), (0, .ref (62)), (1, .int (nI (j))), (2, .int (4)), (3, .int (part))]) dX10_alone_112 (by decide) rfl ?_
          refine xr_goto (tgt := 92) dX10_alone_114 rfl ?_
          refine xr_lload dX10_alone_92 0 rfl ?_
          refine xr_lconst (v := 0) dX10_alone_94 rfl ?_
          refine xr_lcmp dX10_alone_95 ?_
          refine xl_eq (tgt := 117) dX10_alone_96 rfl (fun _ => ?_) (fun c => absurd (by decide) c)
          refine xr_iload_n dX10_alone_117 8 rfl ?_
          refine xr_if_ne (tgt := 129) dX10_alone_118 rfl (fun c8 => ?_) (fun c8 => ?_)
          · refine xr_lload dX10_alone_129 3 rfl ?_
            refine xr_lload dX10_alone_131 1 rfl ?_
            refine xr_ldiv dX10_alone_133 (by decide) ?_
            refine xb_topJ (y := 256) (by decide) ?_
            exact xr_lret dX10_alone_134 rfl (congrArg (fun z => some (Value.long z)) (Eq.symm (Eq.trans (if_pos ⟨by constructor <;> grind, by decide, by grind, by grind⟩) (Eq.trans (if_neg (by assumption)) (by decide)))))
          · refine xr_lload dX10_alone_121 4 rfl ?_
            refine xr_lload dX10_alone_123 1 rfl ?_
            refine xr_ldiv dX10_alone_125 (by decide) ?_
            refine xb_topJ (y := 81) (by decide) ?_
            refine xr_goto (tgt := 134) dX10_alone_126 rfl ?_
            exact xr_lret dX10_alone_134 rfl (congrArg (fun z => some (Value.long z)) (Eq.symm (Eq.trans (if_pos ⟨by constructor <;> grind, by decide, by grind, by grind⟩) (Eq.trans (if_pos (by assumption)) (by decide)))))
        · refine xr_iload dX10_alone_42 0 rfl ?_
          refine xr_iload_n dX10_alone_44 5 rfl ?_
          refine xr_icmp_ge (tgt := 74) dX10_alone_45 rfl (fun c => absurd c (by decide)) (fun _ => ?_)
          refine xr_lload dX10_alone_48 2 rfl ?_
          refine xr_aload_n dX10_alone_50 3 rfl ?_
          refine xr_getR flX10_50 dX10_alone_51 s_62 rfl ?_
          refine xr_iload_n dX10_alone_54 4 rfl ?_
          refine xb_iald (j := j) (v := 9) dX10_alone_55 s_75 hj (by decide) (mi_75 hF j hj) ?_
          refine xr_i2l dX10_alone_56 ?_
          refine xb_topJ (y := 9) (by decide) ?_
          refine xr_lmul dX10_alone_57 ?_
          refine xb_topJ (y := 9) (by decide) ?_
          refine xr_lstore (ls2 := [(4, .long (9)), (8, .int (0)), (6, .long (1)), (0, .ref (62)), (1, .int (nI (j))), (2, .int (5)), (3, .int (part))]) dX10_alone_58 (by decide) rfl ?_
          refine xr_lload dX10_alone_60 2 rfl ?_
          refine xr_ldc2 coX10_296 dX10_alone_62 ?_
          refine xr_lmul dX10_alone_65 ?_
          refine xb_topJ (y := 12) (by decide) ?_
          refine xr_lstore (ls2 := [(6, .long (12)), (4, .long (9)), (8, .int (0)), (0, .ref (62)), (1, .int (nI (j))), (2, .int (5)), (3, .int (part))]) dX10_alone_66 (by decide) rfl ?_
          refine xr_iinc (v := 1) (ls2 := [(8, .int (1)), (6, .long (12)), (4, .long (9)), (0, .ref (62)), (1, .int (nI (j))), (2, .int (5)), (3, .int (part))]) dX10_alone_68 2 rfl rfl (by decide) rfl ?_
          refine xr_goto (tgt := 42) dX10_alone_71 rfl ?_
          refine xr_iload dX10_alone_42 0 rfl ?_
          refine xr_iload_n dX10_alone_44 5 rfl ?_
          refine xr_icmp_ge (tgt := 74) dX10_alone_45 rfl (fun c => absurd c (by decide)) (fun _ => ?_)
          refine xr_lload dX10_alone_48 2 rfl ?_
          refine xr_aload_n dX10_alone_50 3 rfl ?_
          refine xr_getR flX10_50 dX10_alone_51 s_62 rfl ?_
          refine xr_iload_n dX10_alone_54 4 rfl ?_
          refine xb_iald (j := j) (v := 9) dX10_alone_55 s_75 hj (by decide) (mi_75 hF j hj) ?_
          refine xr_i2l dX10_alone_56 ?_
          refine xb_topJ (y := 9) (by decide) ?_
          refine xr_lmul dX10_alone_57 ?_
          refine xb_topJ (y := 81) (by decide) ?_
          refine xr_lstore (ls2 := [(4, .long (81)), (8, .int (1)), (6, .long (12)), (0, .ref (62)), (1, .int (nI (j))), (2, .int (5)), (3, .int (part))]) dX10_alone_58 (by decide) rfl ?_
          refine xr_lload dX10_alone_60 2 rfl ?_
          refine xr_ldc2 coX10_296 dX10_alone_62 ?_
          refine xr_lmul dX10_alone_65 ?_
          refine xb_topJ (y := 144) (by decide) ?_
          refine xr_lstore (ls2 := [(6, .long (144)), (4, .long (81)), (8, .int (1)), (0, .ref (62)), (1, .int (nI (j))), (2, .int (5)), (3, .int (part))]) dX10_alone_66 (by decide) rfl ?_
          refine xr_iinc (v := 2) (ls2 := [(8, .int (2)), (6, .long (144)), (4, .long (81)), (0, .ref (62)), (1, .int (nI (j))), (2, .int (5)), (3, .int (part))]) dX10_alone_68 2 rfl rfl (by decide) rfl ?_
          refine xr_goto (tgt := 42) dX10_alone_71 rfl ?_
          refine xr_iload dX10_alone_42 0 rfl ?_
          refine xr_iload_n dX10_alone_44 5 rfl ?_
          refine xr_icmp_ge (tgt := 74) dX10_alone_45 rfl (fun c => absurd c (by decide)) (fun _ => ?_)
          refine xr_lload dX10_alone_48 2 rfl ?_
          refine xr_aload_n dX10_alone_50 3 rfl ?_
          refine xr_getR flX10_50 dX10_alone_51 s_62 rfl ?_
          refine xr_iload_n dX10_alone_54 4 rfl ?_
          refine xb_iald (j := j) (v := 9) dX10_alone_55 s_75 hj (by decide) (mi_75 hF j hj) ?_
          refine xr_i2l dX10_alone_56 ?_
          refine xb_topJ (y := 9) (by decide) ?_
          refine xr_lmul dX10_alone_57 ?_
          refine xb_topJ (y := 729) (by decide) ?_
          refine xr_lstore (ls2 := [(4, .long (729)), (8, .int (2)), (6, .long (144)), (0, .ref (62)), (1, .int (nI (j))), (2, .int (5)), (3, .int (part))]) dX10_alone_58 (by decide) rfl ?_
          refine xr_lload dX10_alone_60 2 rfl ?_
          refine xr_ldc2 coX10_296 dX10_alone_62 ?_
          refine xr_lmul dX10_alone_65 ?_
          refine xb_topJ (y := 1728) (by decide) ?_
          refine xr_lstore (ls2 := [(6, .long (1728)), (4, .long (729)), (8, .int (2)), (0, .ref (62)), (1, .int (nI (j))), (2, .int (5)), (3, .int (part))]) dX10_alone_66 (by decide) rfl ?_
          refine xr_iinc (v := 3) (ls2 := [(8, .int (3)), (6, .long (1728)), (4, .long (729)), (0, .ref (62)), (1, .int (nI (j))), (2, .int (5)), (3, .int (part))]) dX10_alone_68 2 rfl rfl (by decide) rfl ?_
          refine xr_goto (tgt := 42) dX10_alone_71 rfl ?_
          refine xr_iload dX10_alone_42 0 rfl ?_
          refine xr_iload_n dX10_alone_44 5 rfl ?_
          refine xr_icmp_ge (tgt := 74) dX10_alone_45 rfl (fun c => absurd c (by decide)) (fun _ => ?_)
          refine xr_lload dX10_alone_48 2 rfl ?_
          refine xr_aload_n dX10_alone_50 3 rfl ?_
          refine xr_getR flX10_50 dX10_alone_51 s_62 rfl ?_
          refine xr_iload_n dX10_alone_54 4 rfl ?_
          refine xb_iald (j := j) (v := 9) dX10_alone_55 s_75 hj (by decide) (mi_75 hF j hj) ?_
          refine xr_i2l dX10_alone_56 ?_
          refine xb_topJ (y := 9) (by decide) ?_
          refine xr_lmul dX10_alone_57 ?_
          refine xb_topJ (y := 6561) (by decide) ?_
          refine xr_lstore (ls2 := [(4, .long (6561)), (8, .int (3)), (6, .long (1728)), (0, .ref (62)), (1, .int (nI (j))), (2, .int (5)), (3, .int (part))]) dX10_alone_58 (by decide) rfl ?_
          refine xr_lload dX10_alone_60 2 rfl ?_
          refine xr_ldc2 coX10_296 dX10_alone_62 ?_
          refine xr_lmul dX10_alone_65 ?_
          refine xb_topJ (y := 20736) (by decide) ?_
          refine xr_lstore (ls2 := [(6, .long (20736)), (4, .long (6561)), (8, .int (3)), (0, .ref (62)), (1, .int (nI (j))), (2, .int (5)), (3, .int (part))]) dX10_alone_66 (by decide) rfl ?_
          refine xr_iinc (v := 4) (ls2 := [(8, .int (4)), (6, .long (20736)), (4, .long (6561)), (0, .ref (62)), (1, .int (nI (j))), (2, .int (5)), (3, .int (part))]) dX10_alone_68 2 rfl rfl (by decide) rfl ?_
          refine xr_goto (tgt := 42) dX10_alone_71 rfl ?_
          refine xr_iload dX10_alone_42 0 rfl ?_
          refine xr_iload_n dX10_alone_44 5 rfl ?_
          refine xr_icmp_ge (tgt := 74) dX10_alone_45 rfl (fun c => absurd c (by decide)) (fun _ => ?_)
          refine xr_lload dX10_alone_48 2 rfl ?_
          refine xr_aload_n dX10_alone_50 3 rfl ?_
          refine xr_getR flX10_50 dX10_alone_51 s_62 rfl ?_
          refine xr_iload_n dX10_alone_54 4 rfl ?_
          refine xb_iald (j := j) (v := 9) dX10_alone_55 s_75 hj (by decide) (mi_75 hF j hj) ?_
          refine xr_i2l dX10_alone_56 ?_
          refine xb_topJ (y := 9) (by decide) ?_
          refine xr_lmul dX10_alone_57 ?_
          refine xb_topJ (y := 59049) (by decide) ?_
          refine xr_lstore (ls2 := [(4, .long (59049)), (8, .int (4)), (6, .long (20736)), (0, .ref (62)), (1, .int (nI (j))), (2, .int (5)), (3, .int (part))]) dX10_alone_58 (by decide) rfl ?_
          refine xr_lload dX10_alone_60 2 rfl ?_
          refine xr_ldc2 coX10_296 dX10_alone_62 ?_
          refine xr_lmul dX10_alone_65 ?_
          refine xb_topJ (y := 248832) (by decide) ?_
          refine xr_lstore (ls2 := [(6, .long (248832)), (4, .long (59049)), (8, .int (4)), (0, .ref (62)), (1, .int (nI (j))), (2, .int (5)), (3, .int (part))]) dX10_alone_66 (by decide) rfl ?_
          refine xr_iinc (v := 5) (ls2 := [(8, .int (5)), (6, .long (248832)), (4, .long (59049)), (0, .ref (62)), (1, .int (nI (j))), (2, .int (5)), (3, .int (part))]) dX10_alone_68 2 rfl rfl (by decide) rfl ?_
          refine xr_goto (tgt := 42) dX10_alone_71 rfl ?_
          refine xr_iload dX10_alone_42 0 rfl ?_
          refine xr_iload_n dX10_alone_44 5 rfl ?_
          refine xr_icmp_ge (tgt := 74) dX10_alone_45 rfl (fun _ => ?_) (fun c => absurd (by decide) c)
          refine xr_lload dX10_alone_74 2 rfl ?_
          refine xr_lconst (v := 0) dX10_alone_76 rfl ?_
          refine xr_lcmp dX10_alone_77 ?_
          refine xl_ne (tgt := 84) dX10_alone_78 rfl (fun _ => ?_) (fun c => absurd c (by decide))
          refine xr_lload dX10_alone_84 1 rfl ?_
          refine xr_lstore (ls2 := [(8, .long (248832)), (6, .long (248832)), (4, .long (59049)), (0, .ref (62)), (1, .int (nI (j))), (2, .int (5)), (3, .int (part))]) dX10_alone_86 (by decide) rfl ?_
          refine xr_lload dX10_alone_88 2 rfl ?_
          refine xr_lstore (ls2 := [(10, .long (59049)), (8, .long (248832)), (6, .long (248832)), (4, .long (59049)), (0, .ref (62)), (1, .int (nI (j))), (2, .int (5)), (3, .int (part))]) dX10_alone_90 (by decide) rfl ?_
          refine xr_lload dX10_alone_92 0 rfl ?_
          refine xr_lconst (v := 0) dX10_alone_94 rfl ?_
          refine xr_lcmp dX10_alone_95 ?_
          refine xl_eq (tgt := 117) dX10_alone_96 rfl (fun c => absurd c (by decide)) (fun _ => ?_)
          refine xr_lload dX10_alone_99 1 rfl ?_
          refine xr_lload dX10_alone_101 0 rfl ?_
          refine xr_lrem dX10_alone_103 (by decide) ?_
          refine xb_topJ (y := 12636) (by decide) ?_
          refine xr_lstore (ls2 := [(12, .long (12636)), (10, .long (59049)), (8, .long (248832)), (6, .long (248832)), (4, .long (59049)), (0, .ref (62)), (1, .int (nI (j))), (2, .int (5)), (3, .int (part))]) dX10_alone_104 (by decide) rfl ?_
          refine xr_lload dX10_alone_106 1 rfl ?_
          refine xr_lstore (ls2 := [(8, .long (59049)), (12, .long (12636)), (10, .long (59049)), (6, .long (248832)), (4, .long (59049)), (0, .ref (62)), (1, .int (nI (j))), (2, .int (5)), (3, .int (part))]) dX10_alone_108 (by decide) rfl ?_
          refine xr_lload dX10_alone_110 1 rfl ?_
          refine xr_lstore (ls2 := [(10, .long (12636)), (8, .long (59049)), (12, .long (12636)), (6, .long (248832)), (4, .long (59049)), (0, .ref (62)), (1, .int (nI (j))), (2, .int (5)), (3, .int (part))]) dX10_alone_112 (by decide) rfl ?_
          refine xr_goto (tgt := 92) dX10_alone_114 rfl ?_
          refine xr_lload dX10_alone_92 0 rfl ?_
          refine xr_lconst (v := 0) dX10_alone_94 rfl ?_
          refine xr_lcmp dX10_alone_95 ?_
          refine xl_eq (tgt := 117) dX10_alone_96 rfl (fun c => absurd c (by decide)) (fun _ => ?_)
          refine xr_lload dX10_alone_99 1 rfl ?_
          refine xr_lload dX10_alone_101 0 rfl ?_
          refine xr_lrem dX10_alone_103 (by decide) ?_
          refine xb_topJ (y := 8505) (by decide) ?_
          refine xr_lstore (ls2 := [(12, .long (8505)), (10, .long (12636)), (8, .long (59049)), (6, .long (248832)), (4, .long (59049)), (0, .ref (62)), (1, .int (nI (j))), (2, .int (5)), (3, .int (part))]) dX10_alone_104 (by decide) rfl ?_
          refine xr_lload dX10_alone_106 1 rfl ?_
          refine xr_lstore (ls2 := [(8, .long (12636)), (12, .long (8505)), (10, .long (12636)), (6, .long (248832)), (4, .long (59049)), (0, .ref (62)), (1, .int (nI (j))), (2, .int (5)), (3, .int (part))]) dX10_alone_108 (by decide) rfl ?_
          refine xr_lload dX10_alone_110 1 rfl ?_
          refine xr_lstore (ls2 := [(10, .long (8505)), (8, .long (12636)), (12, .long (8505)), (6, .long (248832)), (4, .long (59049)), (0, .ref (62)), (1, .int (nI (j))), (2, .int (5)), (3, .int (part))]) dX10_alone_112 (by decide) rfl ?_
          refine xr_goto (tgt := 92) dX10_alone_114 rfl ?_
          refine xr_lload dX10_alone_92 0 rfl ?_
          refine xr_lconst (v := 0) dX10_alone_94 rfl ?_
          refine xr_lcmp dX10_alone_95 ?_
          refine xl_eq (tgt := 117) dX10_alone_96 rfl (fun c => absurd c (by decide)) (fun _ => ?_)
          refine xr_lload dX10_alone_99 1 rfl ?_
          refine xr_lload dX10_alone_101 0 rfl ?_
          refine xr_lrem dX10_alone_103 (by decide) ?_
          refine xb_topJ (y := 4131) (by decide) ?_
          refine xr_lstore (ls2 := [(12, .long (4131)), (10, .long (8505)), (8, .long (12636)), (6, .long (248832)), (4, .long (59049)), (0, .ref (62)), (1, .int (nI (j))), (2, .int (5)), (3, .int (part))]) dX10_alone_104 (by decide) rfl ?_
          refine xr_lload dX10_alone_106 1 rfl ?_
          refine xr_lstore (ls2 := [(8, .long (8505)), (12, .long (4131)), (10, .long (8505)), (6, .long (248832)), (4, .long (59049)), (0, .ref (62)), (1, .int (nI (j))), (2, .int (5)), (3, .int (part))]) dX10_alone_108 (by decide) rfl ?_
          refine xr_lload dX10_alone_110 1 rfl ?_
          refine xr_lstore (ls2 := [(10, .long (4131)), (8, .long (8505)), (12, .long (4131)), (6, .long (248832)), (4, .long (59049)), (0, .ref (62)), (1, .int (nI (j))), (2, .int (5)), (3, .int (part))]) dX10_alone_112 (by decide) rfl ?_
          refine xr_goto (tgt := 92) dX10_alone_114 rfl ?_
          refine xr_lload dX10_alone_92 0 rfl ?_
          refine xr_lconst (v := 0) dX10_alone_94 rfl ?_
          refine xr_lcmp dX10_alone_95 ?_
          refine xl_eq (tgt := 117) dX10_alone_96 rfl (fun c => absurd c (by decide)) (fun _ => ?_)
          refine xr_lload dX10_alone_99 1 rfl ?_
          refine xr_lload dX10_alone_101 0 rfl ?_
          refine xr_lrem dX10_alone_103 (by decide) ?_
          refine xb_topJ (y := 243) (by decide) ?_
          refine xr_lstore (ls2 := [(12, .long (243)), (10, .long (4131)), (8, .long (8505)), (6, .long (248832)), (4, .long (59049)), (0, .ref (62)), (1, .int (nI (j))), (2, .int (5)), (3, .int (part))]) dX10_alone_104 (by decide) rfl ?_
          refine xr_lload dX10_alone_106 1 rfl ?_
          refine xr_lstore (ls2 := [(8, .long (4131)), (12, .long (243)), (10, .long (4131)), (6, .long (248832)), (4, .long (59049)), (0, .ref (62)), (1, .int (nI (j))), (2, .int (5)), (3, .int (part))]) dX10_alone_108 (by decide) rfl ?_
          refine xr_lload dX10_alone_110 1 rfl ?_
          refine xr_lstore (ls2 := [(10, .long (243)), (8, .long (4131)), (12, .long (243)), (6, .long (248832)), (4, .long (59049)), (0, .ref (62)), (1, .int (nI (j))), (2, .int (5)), (3, .int (part))]) dX10_alone_112 (by decide) rfl ?_
          refine xr_goto (tgt := 92) dX10_alone_114 rfl ?_
          refine xr_lload dX10_alone_92 0 rfl ?_
          refine xr_lconst (v := 0) dX10_alone_94 rfl ?_
          refine xr_lcmp dX10_alone_95 ?_
          refine xl_eq (tgt := 117) dX10_alone_96 rfl (fun c => absurd c (by decide)) (fun _ => ?_)
          refine xr_lload dX10_alone_99 1 rfl ?_
          refine xr_lload dX10_alone_101 0 rfl ?_
          refine xr_lrem dX10_alone_103 (by decide) ?_
          refine xb_topJ (y := 0) (by decide) ?_
          refine xr_lstore (ls2 := [(12, .long (0)), (10, .long (243)), (8, .long (4131)), (6, .long (248832)), (4, .long (59049)), (0, .ref (62)), (1, .int (nI (j))), (2, .int (5)), (3, .int (part))]) dX10_alone_104 (by decide) rfl ?_
          refine xr_lload dX10_alone_106 1 rfl ?_
          refine xr_lstore (ls2 := [(8, .long (243)), (12, .long (0)), (10, .long (243)), (6, .long (248832)), (4, .long (59049)), (0, .ref (62)), (1, .int (nI (j))), (2, .int (5)), (3, .int (part))]) dX10_alone_108 (by decide) rfl ?_
          refine xr_lload dX10_alone_110 1 rfl ?_
          refine xr_lstore (ls2 := [(10, .long (0)), (8, .long (243)), (12, .long (0)), (6, .long (248832)), (4, .long (59049)), (0, .ref (62)), (1, .int (nI (j))), (2, .int (5)), (3, .int (part))]) dX10_alone_112 (by decide) rfl ?_
          refine xr_goto (tgt := 92) dX10_alone_114 rfl ?_
          refine xr_lload dX10_alone_92 0 rfl ?_
          refine xr_lconst (v := 0) dX10_alone_94 rfl ?_
          refine xr_lcmp dX10_alone_95 ?_
          refine xl_eq (tgt := 117) dX10_alone_96 rfl (fun _ => ?_) (fun c => absurd (by decide) c)
          refine xr_iload_n dX10_alone_117 8 rfl ?_
          refine xr_if_ne (tgt := 129) dX10_alone_118 rfl (fun c9 => ?_) (fun c9 => ?_)
          · refine xr_lload dX10_alone_129 3 rfl ?_
            refine xr_lload dX10_alone_131 1 rfl ?_
            refine xr_ldiv dX10_alone_133 (by decide) ?_
            refine xb_topJ (y := 1024) (by decide) ?_
            exact xr_lret dX10_alone_134 rfl (congrArg (fun z => some (Value.long z)) (Eq.symm (Eq.trans (if_pos ⟨by constructor <;> grind, by decide, by grind, by grind⟩) (Eq.trans (if_neg (by assumption)) (by decide)))))
          · refine xr_lload dX10_alone_121 4 rfl ?_
            refine xr_lload dX10_alone_123 1 rfl ?_
            refine xr_ldiv dX10_alone_125 (by decide) ?_
            refine xb_topJ (y := 243) (by decide) ?_
            refine xr_goto (tgt := 134) dX10_alone_126 rfl ?_
            exact xr_lret dX10_alone_134 rfl (congrArg (fun z => some (Value.long z)) (Eq.symm (Eq.trans (if_pos ⟨by constructor <;> grind, by decide, by grind, by grind⟩) (Eq.trans (if_pos (by assumption)) (by decide)))))
        · refine xr_iload dX10_alone_42 0 rfl ?_
          refine xr_iload_n dX10_alone_44 5 rfl ?_
          refine xr_icmp_ge (tgt := 74) dX10_alone_45 rfl (fun c => absurd c (by decide)) (fun _ => ?_)
          refine xr_lload dX10_alone_48 2 rfl ?_
          refine xr_aload_n dX10_alone_50 3 rfl ?_
          refine xr_getR flX10_50 dX10_alone_51 s_62 rfl ?_
          refine xr_iload_n dX10_alone_54 4 rfl ?_
          refine xb_iald (j := j) (v := 9) dX10_alone_55 s_75 hj (by decide) (mi_75 hF j hj) ?_
          refine xr_i2l dX10_alone_56 ?_
          refine xb_topJ (y := 9) (by decide) ?_
          refine xr_lmul dX10_alone_57 ?_
          refine xb_topJ (y := 9) (by decide) ?_
          refine xr_lstore (ls2 := [(4, .long (9)), (8, .int (0)), (6, .long (1)), (0, .ref (62)), (1, .int (nI (j))), (2, .int (6)), (3, .int (part))]) dX10_alone_58 (by decide) rfl ?_
          refine xr_lload dX10_alone_60 2 rfl ?_
          refine xr_ldc2 coX10_296 dX10_alone_62 ?_
          refine xr_lmul dX10_alone_65 ?_
          refine xb_topJ (y := 12) (by decide) ?_
          refine xr_lstore (ls2 := [(6, .long (12)), (4, .long (9)), (8, .int (0)), (0, .ref (62)), (1, .int (nI (j))), (2, .int (6)), (3, .int (part))]) dX10_alone_66 (by decide) rfl ?_
          refine xr_iinc (v := 1) (ls2 := [(8, .int (1)), (6, .long (12)), (4, .long (9)), (0, .ref (62)), (1, .int (nI (j))), (2, .int (6)), (3, .int (part))]) dX10_alone_68 2 rfl rfl (by decide) rfl ?_
          refine xr_goto (tgt := 42) dX10_alone_71 rfl ?_
          refine xr_iload dX10_alone_42 0 rfl ?_
          refine xr_iload_n dX10_alone_44 5 rfl ?_
          refine xr_icmp_ge (tgt := 74) dX10_alone_45 rfl (fun c => absurd c (by decide)) (fun _ => ?_)
          refine xr_lload dX10_alone_48 2 rfl ?_
          refine xr_aload_n dX10_alone_50 3 rfl ?_
          refine xr_getR flX10_50 dX10_alone_51 s_62 rfl ?_
          refine xr_iload_n dX10_alone_54 4 rfl ?_
          refine xb_iald (j := j) (v := 9) dX10_alone_55 s_75 hj (by decide) (mi_75 hF j hj) ?_
          refine xr_i2l dX10_alone_56 ?_
          refine xb_topJ (y := 9) (by decide) ?_
          refine xr_lmul dX10_alone_57 ?_
          refine xb_topJ (y := 81) (by decide) ?_
          refine xr_lstore (ls2 := [(4, .long (81)), (8, .int (1)), (6, .long (12)), (0, .ref (62)), (1, .int (nI (j))), (2, .int (6)), (3, .int (part))]) dX10_alone_58 (by decide) rfl ?_
          refine xr_lload dX10_alone_60 2 rfl ?_
          refine xr_ldc2 coX10_296 dX10_alone_62 ?_
          refine xr_lmul dX10_alone_65 ?_
          refine xb_topJ (y := 144) (by decide) ?_
          refine xr_lstore (ls2 := [(6, .long (144)), (4, .long (81)), (8, .int (1)), (0, .ref (62)), (1, .int (nI (j))), (2, .int (6)), (3, .int (part))]) dX10_alone_66 (by decide) rfl ?_
          refine xr_iinc (v := 2) (ls2 := [(8, .int (2)), (6, .long (144)), (4, .long (81)), (0, .ref (62)), (1, .int (nI (j))), (2, .int (6)), (3, .int (part))]) dX10_alone_68 2 rfl rfl (by decide) rfl ?_
          refine xr_goto (tgt := 42) dX10_alone_71 rfl ?_
          refine xr_iload dX10_alone_42 0 rfl ?_
          refine xr_iload_n dX10_alone_44 5 rfl ?_
          refine xr_icmp_ge (tgt := 74) dX10_alone_45 rfl (fun c => absurd c (by decide)) (fun _ => ?_)
          refine xr_lload dX10_alone_48 2 rfl ?_
          refine xr_aload_n dX10_alone_50 3 rfl ?_
          refine xr_getR flX10_50 dX10_alone_51 s_62 rfl ?_
          refine xr_iload_n dX10_alone_54 4 rfl ?_
          refine xb_iald (j := j) (v := 9) dX10_alone_55 s_75 hj (by decide) (mi_75 hF j hj) ?_
          refine xr_i2l dX10_alone_56 ?_
          refine xb_topJ (y := 9) (by decide) ?_
          refine xr_lmul dX10_alone_57 ?_
          refine xb_topJ (y := 729) (by decide) ?_
          refine xr_lstore (ls2 := [(4, .long (729)), (8, .int (2)), (6, .long (144)), (0, .ref (62)), (1, .int (nI (j))), (2, .int (6)), (3, .int (part))]) dX10_alone_58 (by decide) rfl ?_
          refine xr_lload dX10_alone_60 2 rfl ?_
          refine xr_ldc2 coX10_296 dX10_alone_62 ?_
          refine xr_lmul dX10_alone_65 ?_
          refine xb_topJ (y := 1728) (by decide) ?_
          refine xr_lstore (ls2 := [(6, .long (1728)), (4, .long (729)), (8, .int (2)), (0, .ref (62)), (1, .int (nI (j))), (2, .int (6)), (3, .int (part))]) dX10_alone_66 (by decide) rfl ?_
          refine xr_iinc (v := 3) (ls2 := [(8, .int (3)), (6, .long (1728)), (4, .long (729)), (0, .ref (62)), (1, .int (nI (j))), (2, .int (6)), (3, .int (part))]) dX10_alone_68 2 rfl rfl (by decide) rfl ?_
          refine xr_goto (tgt := 42) dX10_alone_71 rfl ?_
          refine xr_iload dX10_alone_42 0 rfl ?_
          refine xr_iload_n dX10_alone_44 5 rfl ?_
          refine xr_icmp_ge (tgt := 74) dX10_alone_45 rfl (fun c => absurd c (by decide)) (fun _ => ?_)
          refine xr_lload dX10_alone_48 2 rfl ?_
          refine xr_aload_n dX10_alone_50 3 rfl ?_
          refine xr_getR flX10_50 dX10_alone_51 s_62 rfl ?_
          refine xr_iload_n dX10_alone_54 4 rfl ?_
          refine xb_iald (j := j) (v := 9) dX10_alone_55 s_75 hj (by decide) (mi_75 hF j hj) ?_
          refine xr_i2l dX10_alone_56 ?_
          refine xb_topJ (y := 9) (by decide) ?_
          refine xr_lmul dX10_alone_57 ?_
          refine xb_topJ (y := 6561) (by decide) ?_
          refine xr_lstore (ls2 := [(4, .long (6561)), (8, .int (3)), (6, .long (1728)), (0, .ref (62)), (1, .int (nI (j))), (2, .int (6)), (3, .int (part))]) dX10_alone_58 (by decide) rfl ?_
          refine xr_lload dX10_alone_60 2 rfl ?_
          refine xr_ldc2 coX10_296 dX10_alone_62 ?_
          refine xr_lmul dX10_alone_65 ?_
          refine xb_topJ (y := 20736) (by decide) ?_
          refine xr_lstore (ls2 := [(6, .long (20736)), (4, .long (6561)), (8, .int (3)), (0, .ref (62)), (1, .int (nI (j))), (2, .int (6)), (3, .int (part))]) dX10_alone_66 (by decide) rfl ?_
          refine xr_iinc (v := 4) (ls2 := [(8, .int (4)), (6, .long (20736)), (4, .long (6561)), (0, .ref (62)), (1, .int (nI (j))), (2, .int (6)), (3, .int (part))]) dX10_alone_68 2 rfl rfl (by decide) rfl ?_
          refine xr_goto (tgt := 42) dX10_alone_71 rfl ?_
          refine xr_iload dX10_alone_42 0 rfl ?_
          refine xr_iload_n dX10_alone_44 5 rfl ?_
          refine xr_icmp_ge (tgt := 74) dX10_alone_45 rfl (fun c => absurd c (by decide)) (fun _ => ?_)
          refine xr_lload dX10_alone_48 2 rfl ?_
          refine xr_aload_n dX10_alone_50 3 rfl ?_
          refine xr_getR flX10_50 dX10_alone_51 s_62 rfl ?_
          refine xr_iload_n dX10_alone_54 4 rfl ?_
          refine xb_iald (j := j) (v := 9) dX10_alone_55 s_75 hj (by decide) (mi_75 hF j hj) ?_
          refine xr_i2l dX10_alone_56 ?_
          refine xb_topJ (y := 9) (by decide) ?_
          refine xr_lmul dX10_alone_57 ?_
          refine xb_topJ (y := 59049) (by decide) ?_
          refine xr_lstore (ls2 := [(4, .long (59049)), (8, .int (4)), (6, .long (20736)), (0, .ref (62)), (1, .int (nI (j))), (2, .int (6)), (3, .int (part))]) dX10_alone_58 (by decide) rfl ?_
          refine xr_lload dX10_alone_60 2 rfl ?_
          refine xr_ldc2 coX10_296 dX10_alone_62 ?_
          refine xr_lmul dX10_alone_65 ?_
          refine xb_topJ (y := 248832) (by decide) ?_
          refine xr_lstore (ls2 := [(6, .long (248832)), (4, .long (59049)), (8, .int (4)), (0, .ref (62)), (1, .int (nI (j))), (2, .int (6)), (3, .int (part))]) dX10_alone_66 (by decide) rfl ?_
          refine xr_iinc (v := 5) (ls2 := [(8, .int (5)), (6, .long (248832)), (4, .long (59049)), (0, .ref (62)), (1, .int (nI (j))), (2, .int (6)), (3, .int (part))]) dX10_alone_68 2 rfl rfl (by decide) rfl ?_
          refine xr_goto (tgt := 42) dX10_alone_71 rfl ?_
          refine xr_iload dX10_alone_42 0 rfl ?_
          refine xr_iload_n dX10_alone_44 5 rfl ?_
          refine xr_icmp_ge (tgt := 74) dX10_alone_45 rfl (fun c => absurd c (by decide)) (fun _ => ?_)
          refine xr_lload dX10_alone_48 2 rfl ?_
          refine xr_aload_n dX10_alone_50 3 rfl ?_
          refine xr_getR flX10_50 dX10_alone_51 s_62 rfl ?_
          refine xr_iload_n dX10_alone_54 4 rfl ?_
          refine xb_iald (j := j) (v := 9) dX10_alone_55 s_75 hj (by decide) (mi_75 hF j hj) ?_
          refine xr_i2l dX10_alone_56 ?_
          refine xb_topJ (y := 9) (by decide) ?_
          refine xr_lmul dX10_alone_57 ?_
          refine xb_topJ (y := 531441) (by decide) ?_
          refine xr_lstore (ls2 := [(4, .long (531441)), (8, .int (5)), (6, .long (248832)), (0, .ref (62)), (1, .int (nI (j))), (2, .int (6)), (3, .int (part))]) dX10_alone_58 (by decide) rfl ?_
          refine xr_lload dX10_alone_60 2 rfl ?_
          refine xr_ldc2 coX10_296 dX10_alone_62 ?_
          refine xr_lmul dX10_alone_65 ?_
          refine xb_topJ (y := 2985984) (by decide) ?_
          refine xr_lstore (ls2 := [(6, .long (2985984)), (4, .long (531441)), (8, .int (5)), (0, .ref (62)), (1, .int (nI (j))), (2, .int (6)), (3, .int (part))]) dX10_alone_66 (by decide) rfl ?_
          refine xr_iinc (v := 6) (ls2 := [(8, .int (6)), (6, .long (2985984)), (4, .long (531441)), (0, .ref (62)), (1, .int (nI (j))), (2, .int (6)), (3, .int (part))]) dX10_alone_68 2 rfl rfl (by decide) rfl ?_
          refine xr_goto (tgt := 42) dX10_alone_71 rfl ?_
          refine xr_iload dX10_alone_42 0 rfl ?_
          refine xr_iload_n dX10_alone_44 5 rfl ?_
          refine xr_icmp_ge (tgt := 74) dX10_alone_45 rfl (fun _ => ?_) (fun c => absurd (by decide) c)
          refine xr_lload dX10_alone_74 2 rfl ?_
          refine xr_lconst (v := 0) dX10_alone_76 rfl ?_
          refine xr_lcmp dX10_alone_77 ?_
          refine xl_ne (tgt := 84) dX10_alone_78 rfl (fun _ => ?_) (fun c => absurd c (by decide))
          refine xr_lload dX10_alone_84 1 rfl ?_
          refine xr_lstore (ls2 := [(8, .long (2985984)), (6, .long (2985984)), (4, .long (531441)), (0, .ref (62)), (1, .int (nI (j))), (2, .int (6)), (3, .int (part))]) dX10_alone_86 (by decide) rfl ?_
          refine xr_lload dX10_alone_88 2 rfl ?_
          refine xr_lstore (ls2 := [(10, .long (531441)), (8, .long (2985984)), (6, .long (2985984)), (4, .long (531441)), (0, .ref (62)), (1, .int (nI (j))), (2, .int (6)), (3, .int (part))]) dX10_alone_90 (by decide) rfl ?_
          refine xr_lload dX10_alone_92 0 rfl ?_
          refine xr_lconst (v := 0) dX10_alone_94 rfl ?_
          refine xr_lcmp dX10_alone_95 ?_
          refine xl_eq (tgt := 117) dX10_alone_96 rfl (fun c => absurd c (by decide)) (fun _ => ?_)
          refine xr_lload dX10_alone_99 1 rfl ?_
          refine xr_lload dX10_alone_101 0 rfl ?_
          refine xr_lrem dX10_alone_103 (by decide) ?_
          refine xb_topJ (y := 328779) (by decide) ?_
          refine xr_lstore (ls2 := [(12, .long (328779)), (10, .long (531441)), (8, .long (2985984)), (6, .long (2985984)), (4, .long (531441)), (0, .ref (62)), (1, .int (nI (j))), (2, .int (6)), (3, .int (part))]) dX10_alone_104 (by decide) rfl ?_
          refine xr_lload dX10_alone_106 1 rfl ?_
          refine xr_lstore (ls2 := [(8, .long (531441)), (12, .long (328779)), (10, .long (531441)), (6, .long (2985984)), (4, .long (531441)), (0, .ref (62)), (1, .int (nI (j))), (2, .int (6)), (3, .int (part))]) dX10_alone_108 (by decide) rfl ?_
          refine xr_lload dX10_alone_110 1 rfl ?_
          refine xr_lstore (ls2 := [(10, .long (328779)), (8, .long (531441)), (12, .long (328779)), (6, .long (2985984)), (4, .long (531441)), (0, .ref (62)), (1, .int (nI (j))), (2, .int (6)), (3, .int (part))]) dX10_alone_112 (by decide) rfl ?_
          refine xr_goto (tgt := 92) dX10_alone_114 rfl ?_
          refine xr_lload dX10_alone_92 0 rfl ?_
          refine xr_lconst (v := 0) dX10_alone_94 rfl ?_
          refine xr_lcmp dX10_alone_95 ?_
          refine xl_eq (tgt := 117) dX10_alone_96 rfl (fun c => absurd c (by decide)) (fun _ => ?_)
          refine xr_lload dX10_alone_99 1 rfl ?_
          refine xr_lload dX10_alone_101 0 rfl ?_
          refine xr_lrem dX10_alone_103 (by decide) ?_
          refine xb_topJ (y := 202662) (by decide) ?_
          refine xr_lstore (ls2 := [(12, .long (202662)), (10, .long (328779)), (8, .long (531441)), (6, .long (2985984)), (4, .long (531441)), (0, .ref (62)), (1, .int (nI (j))), (2, .int (6)), (3, .int (part))]) dX10_alone_104 (by decide) rfl ?_
          refine xr_lload dX10_alone_106 1 rfl ?_
          refine xr_lstore (ls2 := [(8, .long (328779)), (12, .long (202662)), (10, .long (328779)), (6, .long (2985984)), (4, .long (531441)), (0, .ref (62)), (1, .int (nI (j))), (2, .int (6)), (3, .int (part))]) dX10_alone_108 (by decide) rfl ?_
          refine xr_lload dX10_alone_110 1 rfl ?_
          refine xr_lstore (ls2 := [(10, .long (202662)), (8, .long (328779)), (12, .long (202662)), (6, .long (2985984)), (4, .long (531441)), (0, .ref (62)), (1, .int (nI (j))), (2, .int (6)), (3, .int (part))]) dX10_alone_112 (by decide) rfl ?_
          refine xr_goto (tgt := 92) dX10_alone_114 rfl ?_
          refine xr_lload dX10_alone_92 0 rfl ?_
          refine xr_lconst (v := 0) dX10_alone_94 rfl ?_
          refine xr_lcmp dX10_alone_95 ?_
          refine xl_eq (tgt := 117) dX10_alone_96 rfl (fun c => absurd c (by decide)) (fun _ => ?_)
          refine xr_lload dX10_alone_99 1 rfl ?_
          refine xr_lload dX10_alone_101 0 rfl ?_
          refine xr_lrem dX10_alone_103 (by decide) ?_
          refine xb_topJ (y := 126117) (by decide) ?_
          refine xr_lstore (ls2 := [(12, .long (126117)), (10, .long (202662)), (8, .long (328779)), (6, .long (2985984)), (4, .long (531441)), (0, .ref (62)), (1, .int (nI (j))), (2, .int (6)), (3, .int (part))]) dX10_alone_104 (by decide) rfl ?_
          refine xr_lload dX10_alone_106 1 rfl ?_
          refine xr_lstore (ls2 := [(8, .long (202662)), (12, .long (126117)), (10, .long (202662)), (6, .long (2985984)), (4, .long (531441)), (0, .ref (62)), (1, .int (nI (j))), (2, .int (6)), (3, .int (part))]) dX10_alone_108 (by decide) rfl ?_
          refine xr_lload dX10_alone_110 1 rfl ?_
          refine xr_lstore (ls2 := [(10, .long (126117)), (8, .long (202662)), (12, .long (126117)), (6, .long (2985984)), (4, .long (531441)), (0, .ref (62)), (1, .int (nI (j))), (2, .int (6)), (3, .int (part))]) dX10_alone_112 (by decide) rfl ?_
          refine xr_goto (tgt := 92) dX10_alone_114 rfl ?_
          refine xr_lload dX10_alone_92 0 rfl ?_
          refine xr_lconst (v := 0) dX10_alone_94 rfl ?_
          refine xr_lcmp dX10_alone_95 ?_
          refine xl_eq (tgt := 117) dX10_alone_96 rfl (fun c => absurd c (by decide)) (fun _ => ?_)
          refine xr_lload dX10_alone_99 1 rfl ?_
          refine xr_lload dX10_alone_101 0 rfl ?_
          refine xr_lrem dX10_alone_103 (by decide) ?_
          refine xb_topJ (y := 76545) (by decide) ?_
          refine xr_lstore (ls2 := [(12, .long (76545)), (10, .long (126117)), (8, .long (202662)), (6, .long (2985984)), (4, .long (531441)), (0, .ref (62)), (1, .int (nI (j))), (2, .int (6)), (3, .int (part))]) dX10_alone_104 (by decide) rfl ?_
          refine xr_lload dX10_alone_106 1 rfl ?_
          refine xr_lstore (ls2 := [(8, .long (126117)), (12, .long (76545)), (10, .long (126117)), (6, .long (2985984)), (4, .long (531441)), (0, .ref (62)), (1, .int (nI (j))), (2, .int (6)), (3, .int (part))]) dX10_alone_108 (by decide) rfl ?_
          refine xr_lload dX10_alone_110 1 rfl ?_
          refine xr_lstore (ls2 := [(10, .long (76545)), (8, .long (126117)), (12, .long (76545)), (6, .long (2985984)), (4, .long (531441)), (0, .ref (62)), (1, .int (nI (j))), (2, .int (6)), (3, .int (part))]) dX10_alone_112 (by decide) rfl ?_
          refine xr_goto (tgt := 92) dX10_alone_114 rfl ?_
          refine xr_lload dX10_alone_92 0 rfl ?_
          refine xr_lconst (v := 0) dX10_alone_94 rfl ?_
          refine xr_lcmp dX10_alone_95 ?_
          refine xl_eq (tgt := 117) dX10_alone_96 rfl (fun c => absurd c (by decide)) (fun _ => ?_)
          refine xr_lload dX10_alone_99 1 rfl ?_
          refine xr_lload dX10_alone_101 0 rfl ?_
          refine xr_lrem dX10_alone_103 (by decide) ?_
          refine xb_topJ (y := 49572) (by decide) ?_
          refine xr_lstore (ls2 := [(12, .long (49572)), (10, .long (76545)), (8, .long (126117)), (6, .long (2985984)), (4, .long (531441)), (0, .ref (62)), (1, .int (nI (j))), (2, .int (6)), (3, .int (part))]) dX10_alone_104 (by decide) rfl ?_
          refine xr_lload dX10_alone_106 1 rfl ?_
          refine xr_lstore (ls2 := [(8, .long (76545)), (12, .long (49572)), (10, .long (76545)), (6, .long (2985984)), (4, .long (531441)), (0, .ref (62)), (1, .int (nI (j))), (2, .int (6)), (3, .int (part))]) dX10_alone_108 (by decide) rfl ?_
          refine xr_lload dX10_alone_110 1 rfl ?_
          refine xr_lstore (ls2 := [(10, .long (49572)), (8, .long (76545)), (12, .long (49572)), (6, .long (2985984)), (4, .long (531441)), (0, .ref (62)), (1, .int (nI (j))), (2, .int (6)), (3, .int (part))]) dX10_alone_112 (by decide) rfl ?_
          refine xr_goto (tgt := 92) dX10_alone_114 rfl ?_
          refine xr_lload dX10_alone_92 0 rfl ?_
          refine xr_lconst (v := 0) dX10_alone_94 rfl ?_
          refine xr_lcmp dX10_alone_95 ?_
          refine xl_eq (tgt := 117) dX10_alone_96 rfl (fun c => absurd c (by decide)) (fun _ => ?_)
          refine xr_lload dX10_alone_99 1 rfl ?_
          refine xr_lload dX10_alone_101 0 rfl ?_
          refine xr_lrem dX10_alone_103 (by decide) ?_
          refine xb_topJ (y := 26973) (by decide) ?_
          refine xr_lstore (ls2 := [(12, .long (26973)), (10, .long (49572)), (8, .long (76545)), (6, .long (2985984)), (4, .long (531441)), (0, .ref (62)), (1, .int (nI (j))), (2, .int (6)), (3, .int (part))]) dX10_alone_104 (by decide) rfl ?_
          refine xr_lload dX10_alone_106 1 rfl ?_
          refine xr_lstore (ls2 := [(8, .long (49572)), (12, .long (26973)), (10, .long (49572)), (6, .long (2985984)), (4, .long (531441)), (0, .ref (62)), (1, .int (nI (j))), (2, .int (6)), (3, .int (part))]) dX10_alone_108 (by decide) rfl ?_
          refine xr_lload dX10_alone_110 1 rfl ?_
          refine xr_lstore (ls2 := [(10, .long (26973)), (8, .long (49572)), (12, .long (26973)), (6, .long (2985984)), (4, .long (531441)), (0, .ref (62)), (1, .int (nI (j))), (2, .int (6)), (3, .int (part))]) dX10_alone_112 (by decide) rfl ?_
          refine xr_goto (tgt := 92) dX10_alone_114 rfl ?_
          refine xr_lload dX10_alone_92 0 rfl ?_
          refine xr_lconst (v := 0) dX10_alone_94 rfl ?_
          refine xr_lcmp dX10_alone_95 ?_
          refine xl_eq (tgt := 117) dX10_alone_96 rfl (fun c => absurd c (by decide)) (fun _ => ?_)
          refine xr_lload dX10_alone_99 1 rfl ?_
          refine xr_lload dX10_alone_101 0 rfl ?_
          refine xr_lrem dX10_alone_103 (by decide) ?_
          refine xb_topJ (y := 22599) (by decide) ?_
          refine xr_lstore (ls2 := [(12, .long (22599)), (10, .long (26973)), (8, .long (49572)), (6, .long (2985984)), (4, .long (531441)), (0, .ref (62)), (1, .int (nI (j))), (2, .int (6)), (3, .int (part))]) dX10_alone_104 (by decide) rfl ?_
          refine xr_lload dX10_alone_106 1 rfl ?_
          refine xr_lstore (ls2 := [(8, .long (26973)), (12, .long (22599)), (10, .long (26973)), (6, .long (2985984)), (4, .long (531441)), (0, .ref (62)), (1, .int (nI (j))), (2, .int (6)), (3, .int (part))]) dX10_alone_108 (by decide) rfl ?_
          refine xr_lload dX10_alone_110 1 rfl ?_
          refine xr_lstore (ls2 := [(10, .long (22599)), (8, .long (26973)), (12, .long (22599)), (6, .long (2985984)), (4, .long (531441)), (0, .ref (62)), (1, .int (nI (j))), (2, .int (6)), (3, .int (part))]) dX10_alone_112 (by decide) rfl ?_
          refine xr_goto (tgt := 92) dX10_alone_114 rfl ?_
          refine xr_lload dX10_alone_92 0 rfl ?_
          refine xr_lconst (v := 0) dX10_alone_94 rfl ?_
          refine xr_lcmp dX10_alone_95 ?_
          refine xl_eq (tgt := 117) dX10_alone_96 rfl (fun c => absurd c (by decide)) (fun _ => ?_)
          refine xr_lload dX10_alone_99 1 rfl ?_
          refine xr_lload dX10_alone_101 0 rfl ?_
          refine xr_lrem dX10_alone_103 (by decide) ?_
          refine xb_topJ (y := 4374) (by decide) ?_
          refine xr_lstore (ls2 := [(12, .long (4374)), (10, .long (22599)), (8, .long (26973)), (6, .long (2985984)), (4, .long (531441)), (0, .ref (62)), (1, .int (nI (j))), (2, .int (6)), (3, .int (part))]) dX10_alone_104 (by decide) rfl ?_
          refine xr_lload dX10_alone_106 1 rfl ?_
          refine xr_lstore (ls2 := [(8, .long (22599)), (12, .long (4374)), (10, .long (22599)), (6, .long (2985984)), (4, .long (531441)), (0, .ref (62)), (1, .int (nI (j))), (2, .int (6)), (3, .int (part))]) dX10_alone_108 (by decide) rfl ?_
          refine xr_lload dX10_alone_110 1 rfl ?_
          refine xr_lstore (ls2 := [(10, .long (4374)), (8, .long (22599)), (12, .long (4374)), (6, .long (2985984)), (4, .long (531441)), (0, .ref (62)), (1, .int (nI (j))), (2, .int (6)), (3, .int (part))]) dX10_alone_112 (by decide) rfl ?_
          refine xr_goto (tgt := 92) dX10_alone_114 rfl ?_
          refine xr_lload dX10_alone_92 0 rfl ?_
          refine xr_lconst (v := 0) dX10_alone_94 rfl ?_
          refine xr_lcmp dX10_alone_95 ?_
          refine xl_eq (tgt := 117) dX10_alone_96 rfl (fun c => absurd c (by decide)) (fun _ => ?_)
          refine xr_lload dX10_alone_99 1 rfl ?_
          refine xr_lload dX10_alone_101 0 rfl ?_
          refine xr_lrem dX10_alone_103 (by decide) ?_
          refine xb_topJ (y := 729) (by decide) ?_
          refine xr_lstore (ls2 := [(12, .long (729)), (10, .long (4374)), (8, .long (22599)), (6, .long (2985984)), (4, .long (531441)), (0, .ref (62)), (1, .int (nI (j))), (2, .int (6)), (3, .int (part))]) dX10_alone_104 (by decide) rfl ?_
          refine xr_lload dX10_alone_106 1 rfl ?_
          refine xr_lstore (ls2 := [(8, .long (4374)), (12, .long (729)), (10, .long (4374)), (6, .long (2985984)), (4, .long (531441)), (0, .ref (62)), (1, .int (nI (j))), (2, .int (6)), (3, .int (part))]) dX10_alone_108 (by decide) rfl ?_
          refine xr_lload dX10_alone_110 1 rfl ?_
          refine xr_lstore (ls2 := [(10, .long (729)), (8, .long (4374)), (12, .long (729)), (6, .long (2985984)), (4, .long (531441)), (0, .ref (62)), (1, .int (nI (j))), (2, .int (6)), (3, .int (part))]) dX10_alone_112 (by decide) rfl ?_
          refine xr_goto (tgt := 92) dX10_alone_114 rfl ?_
          refine xr_lload dX10_alone_92 0 rfl ?_
          refine xr_lconst (v := 0) dX10_alone_94 rfl ?_
          refine xr_lcmp dX10_alone_95 ?_
          refine xl_eq (tgt := 117) dX10_alone_96 rfl (fun c => absurd c (by decide)) (fun _ => ?_)
          refine xr_lload dX10_alone_99 1 rfl ?_
          refine xr_lload dX10_alone_101 0 rfl ?_
          refine xr_lrem dX10_alone_103 (by decide) ?_
          refine xb_topJ (y := 0) (by decide) ?_
          refine xr_lstore (ls2 := [(12, .long (0)), (10, .long (729)), (8, .long (4374)), (6, .long (2985984)), (4, .long (531441)), (0, .ref (62)), (1, .int (nI (j))), (2, .int (6)), (3, .int (part))]) dX10_alone_104 (by decide) rfl ?_
          refine xr_lload dX10_alone_106 1 rfl ?_
          refine xr_lstore (ls2 := [(8, .long (729)), (12, .long (0)), (10, .long (729)), (6, .long (2985984)), (4, .long (531441)), (0, .ref (62)), (1, .int (nI (j))), (2, .int (6)), (3, .int (part))]) dX10_alone_108 (by decide) rfl ?_
          refine xr_lload dX10_alone_110 1 rfl ?_
          refine xr_lstore (ls2 := [(10, .long (0)), (8, .long (729)), (12, .long (0)), (6, .long (2985984)), (4, .long (531441)), (0, .ref (62)), (1, .int (nI (j))), (2, .int (6)), (3, .int (part))]) dX10_alone_112 (by decide) rfl ?_
          refine xr_goto (tgt := 92) dX10_alone_114 rfl ?_
          refine xr_lload dX10_alone_92 0 rfl ?_
          refine xr_lconst (v := 0) dX10_alone_94 rfl ?_
          refine xr_lcmp dX10_alone_95 ?_
          refine xl_eq (tgt := 117) dX10_alone_96 rfl (fun _ => ?_) (fun c => absurd (by decide) c)
          refine xr_iload_n dX10_alone_117 8 rfl ?_
          refine xr_if_ne (tgt := 129) dX10_alone_118 rfl (fun c10 => ?_) (fun c10 => ?_)
          · refine xr_lload dX10_alone_129 3 rfl ?_
            refine xr_lload dX10_alone_131 1 rfl ?_
            refine xr_ldiv dX10_alone_133 (by decide) ?_
            refine xb_topJ (y := 4096) (by decide) ?_
            exact xr_lret dX10_alone_134 rfl (congrArg (fun z => some (Value.long z)) (Eq.symm (Eq.trans (if_pos ⟨by constructor <;> grind, by decide, by grind, by grind⟩) (Eq.trans (if_neg (by assumption)) (by decide)))))
          · refine xr_lload dX10_alone_121 4 rfl ?_
            refine xr_lload dX10_alone_123 1 rfl ?_
            refine xr_ldiv dX10_alone_125 (by decide) ?_
            refine xb_topJ (y := 729) (by decide) ?_
            refine xr_goto (tgt := 134) dX10_alone_126 rfl ?_
            exact xr_lret dX10_alone_134 rfl (congrArg (fun z => some (Value.long z)) (Eq.symm (Eq.trans (if_pos ⟨by constructor <;> grind, by decide, by grind, by grind⟩) (Eq.trans (if_pos (by assumption)) (by decide)))))
        · refine xr_iload dX10_alone_42 0 rfl ?_
          refine xr_iload_n dX10_alone_44 5 rfl ?_
          refine xr_icmp_ge (tgt := 74) dX10_alone_45 rfl (fun c => absurd c (by decide)) (fun _ => ?_)
          refine xr_lload dX10_alone_48 2 rfl ?_
          refine xr_aload_n dX10_alone_50 3 rfl ?_
          refine xr_getR flX10_50 dX10_alone_51 s_62 rfl ?_
          refine xr_iload_n dX10_alone_54 4 rfl ?_
          refine xb_iald (j := j) (v := 9) dX10_alone_55 s_75 hj (by decide) (mi_75 hF j hj) ?_
          refine xr_i2l dX10_alone_56 ?_
          refine xb_topJ (y := 9) (by decide) ?_
          refine xr_lmul dX10_alone_57 ?_
          refine xb_topJ (y := 9) (by decide) ?_
          refine xr_lstore (ls2 := [(4, .long (9)), (8, .int (0)), (6, .long (1)), (0, .ref (62)), (1, .int (nI (j))), (2, .int (7)), (3, .int (part))]) dX10_alone_58 (by decide) rfl ?_
          refine xr_lload dX10_alone_60 2 rfl ?_
          refine xr_ldc2 coX10_296 dX10_alone_62 ?_
          refine xr_lmul dX10_alone_65 ?_
          refine xb_topJ (y := 12) (by decide) ?_
          refine xr_lstore (ls2 := [(6, .long (12)), (4, .long (9)), (8, .int (0)), (0, .ref (62)), (1, .int (nI (j))), (2, .int (7)), (3, .int (part))]) dX10_alone_66 (by decide) rfl ?_
          refine xr_iinc (v := 1) (ls2 := [(8, .int (1)), (6, .long (12)), (4, .long (9)), (0, .ref (62)), (1, .int (nI (j))), (2, .int (7)), (3, .int (part))]) dX10_alone_68 2 rfl rfl (by decide) rfl ?_
          refine xr_goto (tgt := 42) dX10_alone_71 rfl ?_
          refine xr_iload dX10_alone_42 0 rfl ?_
          refine xr_iload_n dX10_alone_44 5 rfl ?_
          refine xr_icmp_ge (tgt := 74) dX10_alone_45 rfl (fun c => absurd c (by decide)) (fun _ => ?_)
          refine xr_lload dX10_alone_48 2 rfl ?_
          refine xr_aload_n dX10_alone_50 3 rfl ?_
          refine xr_getR flX10_50 dX10_alone_51 s_62 rfl ?_
          refine xr_iload_n dX10_alone_54 4 rfl ?_
          refine xb_iald (j := j) (v := 9) dX10_alone_55 s_75 hj (by decide) (mi_75 hF j hj) ?_
          refine xr_i2l dX10_alone_56 ?_
          refine xb_topJ (y := 9) (by decide) ?_
          refine xr_lmul dX10_alone_57 ?_
          refine xb_topJ (y := 81) (by decide) ?_
          refine xr_lstore (ls2 := [(4, .long (81)), (8, .int (1)), (6, .long (12)), (0, .ref (62)), (1, .int (nI (j))), (2, .int (7)), (3, .int (part))]) dX10_alone_58 (by decide) rfl ?_
          refine xr_lload dX10_alone_60 2 rfl ?_
          refine xr_ldc2 coX10_296 dX10_alone_62 ?_
          refine xr_lmul dX10_alone_65 ?_
          refine xb_topJ (y := 144) (by decide) ?_
          refine xr_lstore (ls2 := [(6, .long (144)), (4, .long (81)), (8, .int (1)), (0, .ref (62)), (1, .int (nI (j))), (2, .int (7)), (3, .int (part))]) dX10_alone_66 (by decide) rfl ?_
          refine xr_iinc (v := 2) (ls2 := [(8, .int (2)), (6, .long (144)), (4, .long (81)), (0, .ref (62)), (1, .int (nI (j))), (2, .int (7)), (3, .int (part))]) dX10_alone_68 2 rfl rfl (by decide) rfl ?_
          refine xr_goto (tgt := 42) dX10_alone_71 rfl ?_
          refine xr_iload dX10_alone_42 0 rfl ?_
          refine xr_iload_n dX10_alone_44 5 rfl ?_
          refine xr_icmp_ge (tgt := 74) dX10_alone_45 rfl (fun c => absurd c (by decide)) (fun _ => ?_)
          refine xr_lload dX10_alone_48 2 rfl ?_
          refine xr_aload_n dX10_alone_50 3 rfl ?_
          refine xr_getR flX10_50 dX10_alone_51 s_62 rfl ?_
          refine xr_iload_n dX10_alone_54 4 rfl ?_
          refine xb_iald (j := j) (v := 9) dX10_alone_55 s_75 hj (by decide) (mi_75 hF j hj) ?_
          refine xr_i2l dX10_alone_56 ?_
          refine xb_topJ (y := 9) (by decide) ?_
          refine xr_lmul dX10_alone_57 ?_
          refine xb_topJ (y := 729) (by decide) ?_
          refine xr_lstore (ls2 := [(4, .long (729)), (8, .int (2)), (6, .long (144)), (0, .ref (62)), (1, .int (nI (j))), (2, .int (7)), (3, .int (part))]) dX10_alone_58 (by decide) rfl ?_
          refine xr_lload dX10_alone_60 2 rfl ?_
          refine xr_ldc2 coX10_296 dX10_alone_62 ?_
          refine xr_lmul dX10_alone_65 ?_
          refine xb_topJ (y := 1728) (by decide) ?_
          refine xr_lstore (ls2 := [(6, .long (1728)), (4, .long (729)), (8, .int (2)), (0, .ref (62)), (1, .int (nI (j))), (2, .int (7)), (3, .int (part))]) dX10_alone_66 (by decide) rfl ?_
          refine xr_iinc (v := 3) (ls2 := [(8, .int (3)), (6, .long (1728)), (4, .long (729)), (0, .ref (62)), (1, .int (nI (j))), (2, .int (7)), (3, .int (part))]) dX10_alone_68 2 rfl rfl (by decide) rfl ?_
          refine xr_goto (tgt := 42) dX10_alone_71 rfl ?_
          refine xr_iload dX10_alone_42 0 rfl ?_
          refine xr_iload_n dX10_alone_44 5 rfl ?_
          refine xr_icmp_ge (tgt := 74) dX10_alone_45 rfl (fun c => absurd c (by decide)) (fun _ => ?_)
          refine xr_lload dX10_alone_48 2 rfl ?_
          refine xr_aload_n dX10_alone_50 3 rfl ?_
          refine xr_getR flX10_50 dX10_alone_51 s_62 rfl ?_
          refine xr_iload_n dX10_alone_54 4 rfl ?_
          refine xb_iald (j := j) (v := 9) dX10_alone_55 s_75 hj (by decide) (mi_75 hF j hj) ?_
          refine xr_i2l dX10_alone_56 ?_
          refine xb_topJ (y := 9) (by decide) ?_
          refine xr_lmul dX10_alone_57 ?_
          refine xb_topJ (y := 6561) (by decide) ?_
          refine xr_lstore (ls2 := [(4, .long (6561)), (8, .int (3)), (6, .long (1728)), (0, .ref (62)), (1, .int (nI (j))), (2, .int (7)), (3, .int (part))]) dX10_alone_58 (by decide) rfl ?_
          refine xr_lload dX10_alone_60 2 rfl ?_
          refine xr_ldc2 coX10_296 dX10_alone_62 ?_
          refine xr_lmul dX10_alone_65 ?_
          refine xb_topJ (y := 20736) (by decide) ?_
          refine xr_lstore (ls2 := [(6, .long (20736)), (4, .long (6561)), (8, .int (3)), (0, .ref (62)), (1, .int (nI (j))), (2, .int (7)), (3, .int (part))]) dX10_alone_66 (by decide) rfl ?_
          refine xr_iinc (v := 4) (ls2 := [(8, .int (4)), (6, .long (20736)), (4, .long (6561)), (0, .ref (62)), (1, .int (nI (j))), (2, .int (7)), (3, .int (part))]) dX10_alone_68 2 rfl rfl (by decide) rfl ?_
          refine xr_goto (tgt := 42) dX10_alone_71 rfl ?_
          refine xr_iload dX10_alone_42 0 rfl ?_
          refine xr_iload_n dX10_alone_44 5 rfl ?_
          refine xr_icmp_ge (tgt := 74) dX10_alone_45 rfl (fun c => absurd c (by decide)) (fun _ => ?_)
          refine xr_lload dX10_alone_48 2 rfl ?_
          refine xr_aload_n dX10_alone_50 3 rfl ?_
          refine xr_getR flX10_50 dX10_alone_51 s_62 rfl ?_
          refine xr_iload_n dX10_alone_54 4 rfl ?_
          refine xb_iald (j := j) (v := 9) dX10_alone_55 s_75 hj (by decide) (mi_75 hF j hj) ?_
          refine xr_i2l dX10_alone_56 ?_
          refine xb_topJ (y := 9) (by decide) ?_
          refine xr_lmul dX10_alone_57 ?_
          refine xb_topJ (y := 59049) (by decide) ?_
          refine xr_lstore (ls2 := [(4, .long (59049)), (8, .int (4)), (6, .long (20736)), (0, .ref (62)), (1, .int (nI (j))), (2, .int (7)), (3, .int (part))]) dX10_alone_58 (by decide) rfl ?_
          refine xr_lload dX10_alone_60 2 rfl ?_
          refine xr_ldc2 coX10_296 dX10_alone_62 ?_
          refine xr_lmul dX10_alone_65 ?_
          refine xb_topJ (y := 248832) (by decide) ?_
          refine xr_lstore (ls2 := [(6, .long (248832)), (4, .long (59049)), (8, .int (4)), (0, .ref (62)), (1, .int (nI (j))), (2, .int (7)), (3, .int (part))]) dX10_alone_66 (by decide) rfl ?_
          refine xr_iinc (v := 5) (ls2 := [(8, .int (5)), (6, .long (248832)), (4, .long (59049)), (0, .ref (62)), (1, .int (nI (j))), (2, .int (7)), (3, .int (part))]) dX10_alone_68 2 rfl rfl (by decide) rfl ?_
          refine xr_goto (tgt := 42) dX10_alone_71 rfl ?_
          refine xr_iload dX10_alone_42 0 rfl ?_
          refine xr_iload_n dX10_alone_44 5 rfl ?_
          refine xr_icmp_ge (tgt := 74) dX10_alone_45 rfl (fun c => absurd c (by decide)) (fun _ => ?_)
          refine xr_lload dX10_alone_48 2 rfl ?_
          refine xr_aload_n dX10_alone_50 3 rfl ?_
          refine xr_getR flX10_50 dX10_alone_51 s_62 rfl ?_
          refine xr_iload_n dX10_alone_54 4 rfl ?_
          refine xb_iald (j := j) (v := 9) dX10_alone_55 s_75 hj (by decide) (mi_75 hF j hj) ?_
          refine xr_i2l dX10_alone_56 ?_
          refine xb_topJ (y := 9) (by decide) ?_
          refine xr_lmul dX10_alone_57 ?_
          refine xb_topJ (y := 531441) (by decide) ?_
          refine xr_lstore (ls2 := [(4, .long (531441)), (8, .int (5)), (6, .long (248832)), (0, .ref (62)), (1, .int (nI (j))), (2, .int (7)), (3, .int (part))]) dX10_alone_58 (by decide) rfl ?_
          refine xr_lload dX10_alone_60 2 rfl ?_
          refine xr_ldc2 coX10_296 dX10_alone_62 ?_
          refine xr_lmul dX10_alone_65 ?_
          refine xb_topJ (y := 2985984) (by decide) ?_
          refine xr_lstore (ls2 := [(6, .long (2985984)), (4, .long (531441)), (8, .int (5)), (0, .ref (62)), (1, .int (nI (j))), (2, .int (7)), (3, .int (part))]) dX10_alone_66 (by decide) rfl ?_
          refine xr_iinc (v := 6) (ls2 := [(8, .int (6)), (6, .long (2985984)), (4, .long (531441)), (0, .ref (62)), (1, .int (nI (j))), (2, .int (7)), (3, .int (part))]) dX10_alone_68 2 rfl rfl (by decide) rfl ?_
          refine xr_goto (tgt := 42) dX10_alone_71 rfl ?_
          refine xr_iload dX10_alone_42 0 rfl ?_
          refine xr_iload_n dX10_alone_44 5 rfl ?_
          refine xr_icmp_ge (tgt := 74) dX10_alone_45 rfl (fun c => absurd c (by decide)) (fun _ => ?_)
          refine xr_lload dX10_alone_48 2 rfl ?_
          refine xr_aload_n dX10_alone_50 3 rfl ?_
          refine xr_getR flX10_50 dX10_alone_51 s_62 rfl ?_
          refine xr_iload_n dX10_alone_54 4 rfl ?_
          refine xb_iald (j := j) (v := 9) dX10_alone_55 s_75 hj (by decide) (mi_75 hF j hj) ?_
          refine xr_i2l dX10_alone_56 ?_
          refine xb_topJ (y := 9) (by decide) ?_
          refine xr_lmul dX10_alone_57 ?_
          refine xb_topJ (y := 4782969) (by decide) ?_
          refine xr_lstore (ls2 := [(4, .long (4782969)), (8, .int (6)), (6, .long (2985984)), (0, .ref (62)), (1, .int (nI (j))), (2, .int (7)), (3, .int (part))]) dX10_alone_58 (by decide) rfl ?_
          refine xr_lload dX10_alone_60 2 rfl ?_
          refine xr_ldc2 coX10_296 dX10_alone_62 ?_
          refine xr_lmul dX10_alone_65 ?_
          refine xb_topJ (y := 35831808) (by decide) ?_
          refine xr_lstore (ls2 := [(6, .long (35831808)), (4, .long (4782969)), (8, .int (6)), (0, .ref (62)), (1, .int (nI (j))), (2, .int (7)), (3, .int (part))]) dX10_alone_66 (by decide) rfl ?_
          refine xr_iinc (v := 7) (ls2 := [(8, .int (7)), (6, .long (35831808)), (4, .long (4782969)), (0, .ref (62)), (1, .int (nI (j))), (2, .int (7)), (3, .int (part))]) dX10_alone_68 2 rfl rfl (by decide) rfl ?_
          refine xr_goto (tgt := 42) dX10_alone_71 rfl ?_
          refine xr_iload dX10_alone_42 0 rfl ?_
          refine xr_iload_n dX10_alone_44 5 rfl ?_
          refine xr_icmp_ge (tgt := 74) dX10_alone_45 rfl (fun _ => ?_) (fun c => absurd (by decide) c)
          refine xr_lload dX10_alone_74 2 rfl ?_
          refine xr_lconst (v := 0) dX10_alone_76 rfl ?_
          refine xr_lcmp dX10_alone_77 ?_
          refine xl_ne (tgt := 84) dX10_alone_78 rfl (fun _ => ?_) (fun c => absurd c (by decide))
          refine xr_lload dX10_alone_84 1 rfl ?_
          refine xr_lstore (ls2 := [(8, .long (35831808)), (6, .long (35831808)), (4, .long (4782969)), (0, .ref (62)), (1, .int (nI (j))), (2, .int (7)), (3, .int (part))]) dX10_alone_86 (by decide) rfl ?_
          refine xr_lload dX10_alone_88 2 rfl ?_
          refine xr_lstore (ls2 := [(10, .long (4782969)), (8, .long (35831808)), (6, .long (35831808)), (4, .long (4782969)), (0, .ref (62)), (1, .int (nI (j))), (2, .int (7)), (3, .int (part))]) dX10_alone_90 (by decide) rfl ?_
          refine xr_lload dX10_alone_92 0 rfl ?_
          refine xr_lconst (v := 0) dX10_alone_94 rfl ?_
          refine xr_lcmp dX10_alone_95 ?_
          refine xl_eq (tgt := 117) dX10_alone_96 rfl (fun c => absurd c (by decide)) (fun _ => ?_)
          refine xr_lload dX10_alone_99 1 rfl ?_
          refine xr_lload dX10_alone_101 0 rfl ?_
          refine xr_lrem dX10_alone_103 (by decide) ?_
          refine xb_topJ (y := 2351025) (by decide) ?_
          refine xr_lstore (ls2 := [(12, .long (2351025)), (10, .long (4782969)), (8, .long (35831808)), (6, .long (35831808)), (4, .long (4782969)), (0, .ref (62)), (1, .int (nI (j))), (2, .int (7)), (3, .int (part))]) dX10_alone_104 (by decide) rfl ?_
          refine xr_lload dX10_alone_106 1 rfl ?_
          refine xr_lstore (ls2 := [(8, .long (4782969)), (12, .long (2351025)), (10, .long (4782969)), (6, .long (35831808)), (4, .long (4782969)), (0, .ref (62)), (1, .int (nI (j))), (2, .int (7)), (3, .int (part))]) dX10_alone_108 (by decide) rfl ?_
          refine xr_lload dX10_alone_110 1 rfl ?_
          refine xr_lstore (ls2 := [(10, .long (2351025)), (8, .long (4782969)), (12, .long (2351025)), (6, .long (35831808)), (4, .long (4782969)), (0, .ref (62)), (1, .int (nI (j))), (2, .int (7)), (3, .int (part))]) dX10_alone_112 (by decide) rfl ?_
          refine xr_goto (tgt := 92) dX10_alone_114 rfl ?_
          refine xr_lload dX10_alone_92 0 rfl ?_
          refine xr_lconst (v := 0) dX10_alone_94 rfl ?_
          refine xr_lcmp dX10_alone_95 ?_
          refine xl_eq (tgt := 117) dX10_alone_96 rfl (fun c => absurd c (by decide)) (fun _ => ?_)
          refine xr_lload dX10_alone_99 1 rfl ?_
          refine xr_lload dX10_alone_101 0 rfl ?_
          refine xr_lrem dX10_alone_103 (by decide) ?_
          refine xb_topJ (y := 80919) (by decide) ?_
          refine xr_lstore (ls2 := [(12, .long (80919)), (10, .long (2351025)), (8, .long (4782969)), (6, .long (35831808)), (4, .long (4782969)), (0, .ref (62)), (1, .int (nI (j))), (2, .int (7)), (3, .int (part))]) dX10_alone_104 (by decide) rfl ?_
          refine xr_lload dX10_alone_106 1 rfl ?_
          refine xr_lstore (ls2 := [(8, .long (2351025)), (12, .long (80919)), (10, .long (2351025)), (6, .long (35831808)), (4, .long (4782969)), (0, .ref (62)), (1, .int (nI (j))), (2, .int (7)), (3, .int (part))]) dX10_alone_108 (by decide) rfl ?_
          refine xr_lload dX10_alone_110 1 rfl ?_
          refine xr_lstore (ls2 := [(10, .long (80919)), (8, .long (2351025)), (12, .long (80919)), (6, .long (35831808)), (4, .long (4782969)), (0, .ref (62)), (1, .int (nI (j))), (2, .int (7)), (3, .int (part))]) dX10_alone_112 (by decide) rfl ?_
          refine xr_goto (tgt := 92) dX10_alone_114 rfl ?_
          refine xr_lload dX10_alone_92 0 rfl ?_
          refine xr_lconst (v := 0) dX10_alone_94 rfl ?_
          refine xr_lcmp dX10_alone_95 ?_
          refine xl_eq (tgt := 117) dX10_alone_96 rfl (fun c => absurd c (by decide)) (fun _ => ?_)
          refine xr_lload dX10_alone_99 1 rfl ?_
          refine xr_lload dX10_alone_101 0 rfl ?_
          refine xr_lrem dX10_alone_103 (by decide) ?_
          refine xb_topJ (y := 4374) (by decide) ?_
          refine xr_lstore (ls2 := [(12, .long (4374)), (10, .long (80919)), (8, .long (2351025)), (6, .long (35831808)), (4, .long (4782969)), (0, .ref (62)), (1, .int (nI (j))), (2, .int (7)), (3, .int (part))]) dX10_alone_104 (by decide) rfl ?_
          refine xr_lload dX10_alone_106 1 rfl ?_
          refine xr_lstore (ls2 := [(8, .long (80919)), (12, .long (4374)), (10, .long (80919)), (6, .long (35831808)), (4, .long (4782969)), (0, .ref (62)), (1, .int (nI (j))), (2, .int (7)), (3, .int (part))]) dX10_alone_108 (by decide) rfl ?_
          refine xr_lload dX10_alone_110 1 rfl ?_
          refine xr_lstore (ls2 := [(10, .long (4374)), (8, .long (80919)), (12, .long (4374)), (6, .long (35831808)), (4, .long (4782969)), (0, .ref (62)), (1, .int (nI (j))), (2, .int (7)), (3, .int (part))]) dX10_alone_112 (by decide) rfl ?_
          refine xr_goto (tgt := 92) dX10_alone_114 rfl ?_
          refine xr_lload dX10_alone_92 0 rfl ?_
          refine xr_lconst (v := 0) dX10_alone_94 rfl ?_
          refine xr_lcmp dX10_alone_95 ?_
          refine xl_eq (tgt := 117) dX10_alone_96 rfl (fun c => absurd c (by decide)) (fun _ => ?_)
          refine xr_lload dX10_alone_99 1 rfl ?_
          refine xr_lload dX10_alone_101 0 rfl ?_
          refine xr_lrem dX10_alone_103 (by decide) ?_
          refine xb_topJ (y := 2187) (by decide) ?_
          refine xr_lstore (ls2 := [(12, .long (2187)), (10, .long (4374)), (8, .long (80919)), (6, .long (35831808)), (4, .long (4782969)), (0, .ref (62)), (1, .int (nI (j))), (2, .int (7)), (3, .int (part))]) dX10_alone_104 (by decide) rfl ?_
          refine xr_lload dX10_alone_106 1 rfl ?_
          refine xr_lstore (ls2 := [(8, .long (4374)), (12, .long (2187)), (10, .long (4374)), (6, .long (35831808)), (4, .long (4782969)), (0, .ref (62)), (1, .int (nI (j))), (2, .int (7)), (3, .int (part))]) dX10_alone_108 (by decide) rfl ?_
          refine xr_lload dX10_alone_110 1 rfl ?_
          refine xr_lstore (ls2 := [(10, .long (2187)), (8, .long (4374)), (12, .long (2187)), (6, .long (35831808)), (4, .long (4782969)), (0, .ref (62)), (1, .int (nI (j))), (2, .int (7)), (3, .int (part))]) dX10_alone_112 (by decide) rfl ?_
          refine xr_goto (tgt := 92) dX10_alone_114 rfl ?_
          refine xr_lload dX10_alone_92 0 rfl ?_
          refine xr_lconst (v := 0) dX10_alone_94 rfl ?_
          refine xr_lcmp dX10_alone_95 ?_
          refine xl_eq (tgt := 117) dX10_alone_96 rfl (fun c => absurd c (by decide)) (fun _ => ?_)
          refine xr_lload dX10_alone_99 1 rfl ?_
          refine xr_lload dX10_alone_101 0 rfl ?_
          refine xr_lrem dX10_alone_103 (by decide) ?_
          refine xb_topJ (y := 0) (by decide) ?_
          refine xr_lstore (ls2 := [(12, .long (0)), (10, .long (2187)), (8, .long (4374)), (6, .long (35831808)), (4, .long (4782969)), (0, .ref (62)), (1, .int (nI (j))), (2, .int (7)), (3, .int (part))]) dX10_alone_104 (by decide) rfl ?_
          refine xr_lload dX10_alone_106 1 rfl ?_
          refine xr_lstore (ls2 := [(8, .long (2187)), (12, .long (0)), (10, .long (2187)), (6, .long (35831808)), (4, .long (4782969)), (0, .ref (62)), (1, .int (nI (j))), (2, .int (7)), (3, .int (part))]) dX10_alone_108 (by decide) rfl ?_
          refine xr_lload dX10_alone_110 1 rfl ?_
          refine xr_lstore (ls2 := [(10, .long (0)), (8, .long (2187)), (12, .long (0)), (6, .long (35831808)), (4, .long (4782969)), (0, .ref (62)), (1, .int (nI (j))), (2, .int (7)), (3, .int (part))]) dX10_alone_112 (by decide) rfl ?_
          refine xr_goto (tgt := 92) dX10_alone_114 rfl ?_
          refine xr_lload dX10_alone_92 0 rfl ?_
          refine xr_lconst (v := 0) dX10_alone_94 rfl ?_
          refine xr_lcmp dX10_alone_95 ?_
          refine xl_eq (tgt := 117) dX10_alone_96 rfl (fun _ => ?_) (fun c => absurd (by decide) c)
          refine xr_iload_n dX10_alone_117 8 rfl ?_
          refine xr_if_ne (tgt := 129) dX10_alone_118 rfl (fun c11 => ?_) (fun c11 => ?_)
          · refine xr_lload dX10_alone_129 3 rfl ?_
            refine xr_lload dX10_alone_131 1 rfl ?_
            refine xr_ldiv dX10_alone_133 (by decide) ?_
            refine xb_topJ (y := 16384) (by decide) ?_
            exact xr_lret dX10_alone_134 rfl (congrArg (fun z => some (Value.long z)) (Eq.symm (Eq.trans (if_pos ⟨by constructor <;> grind, by decide, by grind, by grind⟩) (Eq.trans (if_neg (by assumption)) (by decide)))))
          · refine xr_lload dX10_alone_121 4 rfl ?_
            refine xr_lload dX10_alone_123 1 rfl ?_
            refine xr_ldiv dX10_alone_125 (by decide) ?_
            refine xb_topJ (y := 2187) (by decide) ?_
            refine xr_goto (tgt := 134) dX10_alone_126 rfl ?_
            exact xr_lret dX10_alone_134 rfl (congrArg (fun z => some (Value.long z)) (Eq.symm (Eq.trans (if_pos ⟨by constructor <;> grind, by decide, by grind, by grind⟩) (Eq.trans (if_pos (by assumption)) (by decide)))))
        · refine xr_iload dX10_alone_42 0 rfl ?_
          refine xr_iload_n dX10_alone_44 5 rfl ?_
          refine xr_icmp_ge (tgt := 74) dX10_alone_45 rfl (fun c => absurd c (by decide)) (fun _ => ?_)
          refine xr_lload dX10_alone_48 2 rfl ?_
          refine xr_aload_n dX10_alone_50 3 rfl ?_
          refine xr_getR flX10_50 dX10_alone_51 s_62 rfl ?_
          refine xr_iload_n dX10_alone_54 4 rfl ?_
          refine xb_iald (j := j) (v := 9) dX10_alone_55 s_75 hj (by decide) (mi_75 hF j hj) ?_
          refine xr_i2l dX10_alone_56 ?_
          refine xb_topJ (y := 9) (by decide) ?_
          refine xr_lmul dX10_alone_57 ?_
          refine xb_topJ (y := 9) (by decide) ?_
          refine xr_lstore (ls2 := [(4, .long (9)), (8, .int (0)), (6, .long (1)), (0, .ref (62)), (1, .int (nI (j))), (2, .int (8)), (3, .int (part))]) dX10_alone_58 (by decide) rfl ?_
          refine xr_lload dX10_alone_60 2 rfl ?_
          refine xr_ldc2 coX10_296 dX10_alone_62 ?_
          refine xr_lmul dX10_alone_65 ?_
          refine xb_topJ (y := 12) (by decide) ?_
          refine xr_lstore (ls2 := [(6, .long (12)), (4, .long (9)), (8, .int (0)), (0, .ref (62)), (1, .int (nI (j))), (2, .int (8)), (3, .int (part))]) dX10_alone_66 (by decide) rfl ?_
          refine xr_iinc (v := 1) (ls2 := [(8, .int (1)), (6, .long (12)), (4, .long (9)), (0, .ref (62)), (1, .int (nI (j))), (2, .int (8)), (3, .int (part))]) dX10_alone_68 2 rfl rfl (by decide) rfl ?_
          refine xr_goto (tgt := 42) dX10_alone_71 rfl ?_
          refine xr_iload dX10_alone_42 0 rfl ?_
          refine xr_iload_n dX10_alone_44 5 rfl ?_
          refine xr_icmp_ge (tgt := 74) dX10_alone_45 rfl (fun c => absurd c (by decide)) (fun _ => ?_)
          refine xr_lload dX10_alone_48 2 rfl ?_
          refine xr_aload_n dX10_alone_50 3 rfl ?_
          refine xr_getR flX10_50 dX10_alone_51 s_62 rfl ?_
          refine xr_iload_n dX10_alone_54 4 rfl ?_
          refine xb_iald (j := j) (v := 9) dX10_alone_55 s_75 hj (by decide) (mi_75 hF j hj) ?_
          refine xr_i2l dX10_alone_56 ?_
          refine xb_topJ (y := 9) (by decide) ?_
          refine xr_lmul dX10_alone_57 ?_
          refine xb_topJ (y := 81) (by decide) ?_
          refine xr_lstore (ls2 := [(4, .long (81)), (8, .int (1)), (6, .long (12)), (0, .ref (62)), (1, .int (nI (j))), (2, .int (8)), (3, .int (part))]) dX10_alone_58 (by decide) rfl ?_
          refine xr_lload dX10_alone_60 2 rfl ?_
          refine xr_ldc2 coX10_296 dX10_alone_62 ?_
          refine xr_lmul dX10_alone_65 ?_
          refine xb_topJ (y := 144) (by decide) ?_
          refine xr_lstore (ls2 := [(6, .long (144)), (4, .long (81)), (8, .int (1)), (0, .ref (62)), (1, .int (nI (j))), (2, .int (8)), (3, .int (part))]) dX10_alone_66 (by decide) rfl ?_
          refine xr_iinc (v := 2) (ls2 := [(8, .int (2)), (6, .long (144)), (4, .long (81)), (0, .ref (62)), (1, .int (nI (j))), (2, .int (8)), (3, .int (part))]) dX10_alone_68 2 rfl rfl (by decide) rfl ?_
          refine xr_goto (tgt := 42) dX10_alone_71 rfl ?_
          refine xr_iload dX10_alone_42 0 rfl ?_
          refine xr_iload_n dX10_alone_44 5 rfl ?_
          refine xr_icmp_ge (tgt := 74) dX10_alone_45 rfl (fun c => absurd c (by decide)) (fun _ => ?_)
          refine xr_lload dX10_alone_48 2 rfl ?_
          refine xr_aload_n dX10_alone_50 3 rfl ?_
          refine xr_getR flX10_50 dX10_alone_51 s_62 rfl ?_
          refine xr_iload_n dX10_alone_54 4 rfl ?_
          refine xb_iald (j := j) (v := 9) dX10_alone_55 s_75 hj (by decide) (mi_75 hF j hj) ?_
          refine xr_i2l dX10_alone_56 ?_
          refine xb_topJ (y := 9) (by decide) ?_
          refine xr_lmul dX10_alone_57 ?_
          refine xb_topJ (y := 729) (by decide) ?_
          refine xr_lstore (ls2 := [(4, .long (729)), (8, .int (2)), (6, .long (144)), (0, .ref (62)), (1, .int (nI (j))), (2, .int (8)), (3, .int (part))]) dX10_alone_58 (by decide) rfl ?_
          refine xr_lload dX10_alone_60 2 rfl ?_
          refine xr_ldc2 coX10_296 dX10_alone_62 ?_
          refine xr_lmul dX10_alone_65 ?_
          refine xb_topJ (y := 1728) (by decide) ?_
          refine xr_lstore (ls2 := [(6, .long (1728)), (4, .long (729)), (8, .int (2)), (0, .ref (62)), (1, .int (nI (j))), (2, .int (8)), (3, .int (part))]) dX10_alone_66 (by decide) rfl ?_
          refine xr_iinc (v := 3) (ls2 := [(8, .int (3)), (6, .long (1728)), (4, .long (729)), (0, .ref (62)), (1, .int (nI (j))), (2, .int (8)), (3, .int (part))]) dX10_alone_68 2 rfl rfl (by decide) rfl ?_
          refine xr_goto (tgt := 42) dX10_alone_71 rfl ?_
          refine xr_iload dX10_alone_42 0 rfl ?_
          refine xr_iload_n dX10_alone_44 5 rfl ?_
          refine xr_icmp_ge (tgt := 74) dX10_alone_45 rfl (fun c => absurd c (by decide)) (fun _ => ?_)
          refine xr_lload dX10_alone_48 2 rfl ?_
          refine xr_aload_n dX10_alone_50 3 rfl ?_
          refine xr_getR flX10_50 dX10_alone_51 s_62 rfl ?_
          refine xr_iload_n dX10_alone_54 4 rfl ?_
          refine xb_iald (j := j) (v := 9) dX10_alone_55 s_75 hj (by decide) (mi_75 hF j hj) ?_
          refine xr_i2l dX10_alone_56 ?_
          refine xb_topJ (y := 9) (by decide) ?_
          refine xr_lmul dX10_alone_57 ?_
          refine xb_topJ (y := 6561) (by decide) ?_
          refine xr_lstore (ls2 := [(4, .long (6561)), (8, .int (3)), (6, .long (1728)), (0, .ref (62)), (1, .int (nI (j))), (2, .int (8)), (3, .int (part))]) dX10_alone_58 (by decide) rfl ?_
          refine xr_lload dX10_alone_60 2 rfl ?_
          refine xr_ldc2 coX10_296 dX10_alone_62 ?_
          refine xr_lmul dX10_alone_65 ?_
          refine xb_topJ (y := 20736) (by decide) ?_
          refine xr_lstore (ls2 := [(6, .long (20736)), (4, .long (6561)), (8, .int (3)), (0, .ref (62)), (1, .int (nI (j))), (2, .int (8)), (3, .int (part))]) dX10_alone_66 (by decide) rfl ?_
          refine xr_iinc (v := 4) (ls2 := [(8, .int (4)), (6, .long (20736)), (4, .long (6561)), (0, .ref (62)), (1, .int (nI (j))), (2, .int (8)), (3, .int (part))]) dX10_alone_68 2 rfl rfl (by decide) rfl ?_
          refine xr_goto (tgt := 42) dX10_alone_71 rfl ?_
          refine xr_iload dX10_alone_42 0 rfl ?_
          refine xr_iload_n dX10_alone_44 5 rfl ?_
          refine xr_icmp_ge (tgt := 74) dX10_alone_45 rfl (fun c => absurd c (by decide)) (fun _ => ?_)
          refine xr_lload dX10_alone_48 2 rfl ?_
          refine xr_aload_n dX10_alone_50 3 rfl ?_
          refine xr_getR flX10_50 dX10_alone_51 s_62 rfl ?_
          refine xr_iload_n dX10_alone_54 4 rfl ?_
          refine xb_iald (j := j) (v := 9) dX10_alone_55 s_75 hj (by decide) (mi_75 hF j hj) ?_
          refine xr_i2l dX10_alone_56 ?_
          refine xb_topJ (y := 9) (by decide) ?_
          refine xr_lmul dX10_alone_57 ?_
          refine xb_topJ (y := 59049) (by decide) ?_
          refine xr_lstore (ls2 := [(4, .long (59049)), (8, .int (4)), (6, .long (20736)), (0, .ref (62)), (1, .int (nI (j))), (2, .int (8)), (3, .int (part))]) dX10_alone_58 (by decide) rfl ?_
          refine xr_lload dX10_alone_60 2 rfl ?_
          refine xr_ldc2 coX10_296 dX10_alone_62 ?_
          refine xr_lmul dX10_alone_65 ?_
          refine xb_topJ (y := 248832) (by decide) ?_
          refine xr_lstore (ls2 := [(6, .long (248832)), (4, .long (59049)), (8, .int (4)), (0, .ref (62)), (1, .int (nI (j))), (2, .int (8)), (3, .int (part))]) dX10_alone_66 (by decide) rfl ?_
          refine xr_iinc (v := 5) (ls2 := [(8, .int (5)), (6, .long (248832)), (4, .long (59049)), (0, .ref (62)), (1, .int (nI (j))), (2, .int (8)), (3, .int (part))]) dX10_alone_68 2 rfl rfl (by decide) rfl ?_
          refine xr_goto (tgt := 42) dX10_alone_71 rfl ?_
          refine xr_iload dX10_alone_42 0 rfl ?_
          refine xr_iload_n dX10_alone_44 5 rfl ?_
          refine xr_icmp_ge (tgt := 74) dX10_alone_45 rfl (fun c => absurd c (by decide)) (fun _ => ?_)
          refine xr_lload dX10_alone_48 2 rfl ?_
          refine xr_aload_n dX10_alone_50 3 rfl ?_
          refine xr_getR flX10_50 dX10_alone_51 s_62 rfl ?_
          refine xr_iload_n dX10_alone_54 4 rfl ?_
          refine xb_iald (j := j) (v := 9) dX10_alone_55 s_75 hj (by decide) (mi_75 hF j hj) ?_
          refine xr_i2l dX10_alone_56 ?_
          refine xb_topJ (y := 9) (by decide) ?_
          refine xr_lmul dX10_alone_57 ?_
          refine xb_topJ (y := 531441) (by decide) ?_
          refine xr_lstore (ls2 := [(4, .long (531441)), (8, .int (5)), (6, .long (248832)), (0, .ref (62)), (1, .int (nI (j))), (2, .int (8)), (3, .int (part))]) dX10_alone_58 (by decide) rfl ?_
          refine xr_lload dX10_alone_60 2 rfl ?_
          refine xr_ldc2 coX10_296 dX10_alone_62 ?_
          refine xr_lmul dX10_alone_65 ?_
          refine xb_topJ (y := 2985984) (by decide) ?_
          refine xr_lstore (ls2 := [(6, .long (2985984)), (4, .long (531441)), (8, .int (5)), (0, .ref (62)), (1, .int (nI (j))), (2, .int (8)), (3, .int (part))]) dX10_alone_66 (by decide) rfl ?_
          refine xr_iinc (v := 6) (ls2 := [(8, .int (6)), (6, .long (2985984)), (4, .long (531441)), (0, .ref (62)), (1, .int (nI (j))), (2, .int (8)), (3, .int (part))]) dX10_alone_68 2 rfl rfl (by decide) rfl ?_
          refine xr_goto (tgt := 42) dX10_alone_71 rfl ?_
          refine xr_iload dX10_alone_42 0 rfl ?_
          refine xr_iload_n dX10_alone_44 5 rfl ?_
          refine xr_icmp_ge (tgt := 74) dX10_alone_45 rfl (fun c => absurd c (by decide)) (fun _ => ?_)
          refine xr_lload dX10_alone_48 2 rfl ?_
          refine xr_aload_n dX10_alone_50 3 rfl ?_
          refine xr_getR flX10_50 dX10_alone_51 s_62 rfl ?_
          refine xr_iload_n dX10_alone_54 4 rfl ?_
          refine xb_iald (j := j) (v := 9) dX10_alone_55 s_75 hj (by decide) (mi_75 hF j hj) ?_
          refine xr_i2l dX10_alone_56 ?_
          refine xb_topJ (y := 9) (by decide) ?_
          refine xr_lmul dX10_alone_57 ?_
          refine xb_topJ (y := 4782969) (by decide) ?_
          refine xr_lstore (ls2 := [(4, .long (4782969)), (8, .int (6)), (6, .long (2985984)), (0, .ref (62)), (1, .int (nI (j))), (2, .int (8)), (3, .int (part))]) dX10_alone_58 (by decide) rfl ?_
          refine xr_lload dX10_alone_60 2 rfl ?_
          refine xr_ldc2 coX10_296 dX10_alone_62 ?_
          refine xr_lmul dX10_alone_65 ?_
          refine xb_topJ (y := 35831808) (by decide) ?_
          refine xr_lstore (ls2 := [(6, .long (35831808)), (4, .long (4782969)), (8, .int (6)), (0, .ref (62)), (1, .int (nI (j))), (2, .int (8)), (3, .int (part))]) dX10_alone_66 (by decide) rfl ?_
          refine xr_iinc (v := 7) (ls2 := [(8, .int (7)), (6, .long (35831808)), (4, .long (4782969)), (0, .ref (62)), (1, .int (nI (j))), (2, .int (8)), (3, .int (part))]) dX10_alone_68 2 rfl rfl (by decide) rfl ?_
          refine xr_goto (tgt := 42) dX10_alone_71 rfl ?_
          refine xr_iload dX10_alone_42 0 rfl ?_
          refine xr_iload_n dX10_alone_44 5 rfl ?_
          refine xr_icmp_ge (tgt := 74) dX10_alone_45 rfl (fun c => absurd c (by decide)) (fun _ => ?_)
          refine xr_lload dX10_alone_48 2 rfl ?_
          refine xr_aload_n dX10_alone_50 3 rfl ?_
          refine xr_getR flX10_50 dX10_alone_51 s_62 rfl ?_
          refine xr_iload_n dX10_alone_54 4 rfl ?_
          refine xb_iald (j := j) (v := 9) dX10_alone_55 s_75 hj (by decide) (mi_75 hF j hj) ?_
          refine xr_i2l dX10_alone_56 ?_
          refine xb_topJ (y := 9) (by decide) ?_
          refine xr_lmul dX10_alone_57 ?_
          refine xb_topJ (y := 43046721) (by decide) ?_
          refine xr_lstore (ls2 := [(4, .long (43046721)), (8, .int (7)), (6, .long (35831808)), (0, .ref (62)), (1, .int (nI (j))), (2, .int (8)), (3, .int (part))]) dX10_alone_58 (by decide) rfl ?_
          refine xr_lload dX10_alone_60 2 rfl ?_
          refine xr_ldc2 coX10_296 dX10_alone_62 ?_
          refine xr_lmul dX10_alone_65 ?_
          refine xb_topJ (y := 429981696) (by decide) ?_
          refine xr_lstore (ls2 := [(6, .long (429981696)), (4, .long (43046721)), (8, .int (7)), (0, .ref (62)), (1, .int (nI (j))), (2, .int (8)), (3, .int (part))]) dX10_alone_66 (by decide) rfl ?_
          refine xr_iinc (v := 8) (ls2 := [(8, .int (8)), (6, .long (429981696)), (4, .long (43046721)), (0, .ref (62)), (1, .int (nI (j))), (2, .int (8)), (3, .int (part))]) dX10_alone_68 2 rfl rfl (by decide) rfl ?_
          refine xr_goto (tgt := 42) dX10_alone_71 rfl ?_
          refine xr_iload dX10_alone_42 0 rfl ?_
          refine xr_iload_n dX10_alone_44 5 rfl ?_
          refine xr_icmp_ge (tgt := 74) dX10_alone_45 rfl (fun _ => ?_) (fun c => absurd (by decide) c)
          refine xr_lload dX10_alone_74 2 rfl ?_
          refine xr_lconst (v := 0) dX10_alone_76 rfl ?_
          refine xr_lcmp dX10_alone_77 ?_
          refine xl_ne (tgt := 84) dX10_alone_78 rfl (fun _ => ?_) (fun c => absurd c (by decide))
          refine xr_lload dX10_alone_84 1 rfl ?_
          refine xr_lstore (ls2 := [(8, .long (429981696)), (6, .long (429981696)), (4, .long (43046721)), (0, .ref (62)), (1, .int (nI (j))), (2, .int (8)), (3, .int (part))]) dX10_alone_86 (by decide) rfl ?_
          refine xr_lload dX10_alone_88 2 rfl ?_
          refine xr_lstore (ls2 := [(10, .long (43046721)), (8, .long (429981696)), (6, .long (429981696)), (4, .long (43046721)), (0, .ref (62)), (1, .int (nI (j))), (2, .int (8)), (3, .int (part))]) dX10_alone_90 (by decide) rfl ?_
          refine xr_lload dX10_alone_92 0 rfl ?_
          refine xr_lconst (v := 0) dX10_alone_94 rfl ?_
          refine xr_lcmp dX10_alone_95 ?_
          refine xl_eq (tgt := 117) dX10_alone_96 rfl (fun c => absurd c (by decide)) (fun _ => ?_)
          refine xr_lload dX10_alone_99 1 rfl ?_
          refine xr_lload dX10_alone_101 0 rfl ?_
          refine xr_lrem dX10_alone_103 (by decide) ?_
          refine xb_topJ (y := 42561207) (by decide) ?_
          refine xr_lstore (ls2 := [(12, .long (42561207)), (10, .long (43046721)), (8, .long (429981696)), (6, .long (429981696)), (4, .long (43046721)), (0, .ref (62)), (1, .int (nI (j))), (2, .int (8)), (3, .int (part))]) dX10_alone_104 (by decide) rfl ?_
          refine xr_lload dX10_alone_106 1 rfl ?_
          refine xr_lstore (ls2 := [(8, .long (43046721)), (12, .long (42561207)), (10, .long (43046721)), (6, .long (429981696)), (4, .long (43046721)), (0, .ref (62)), (1, .int (nI (j))), (2, .int (8)), (3, .int (part))]) dX10_alone_108 (by decide) rfl ?_
          refine xr_lload dX10_alone_110 1 rfl ?_
          refine xr_lstore (ls2 := [(10, .long (42561207)), (8, .long (43046721)), (12, .long (42561207)), (6, .long (429981696)), (4, .long (43046721)), (0, .ref (62)), (1, .int (nI (j))), (2, .int (8)), (3, .int (part))]) dX10_alone_112 (by decide) rfl ?_
          refine xr_goto (tgt := 92) dX10_alone_114 rfl ?_
          refine xr_lload dX10_alone_92 0 rfl ?_
          refine xr_lconst (v := 0) dX10_alone_94 rfl ?_
          refine xr_lcmp dX10_alone_95 ?_
          refine xl_eq (tgt := 117) dX10_alone_96 rfl (fun c => absurd c (by decide)) (fun _ => ?_)
          refine xr_lload dX10_alone_99 1 rfl ?_
          refine xr_lload dX10_alone_101 0 rfl ?_
          refine xr_lrem dX10_alone_103 (by decide) ?_
          refine xb_topJ (y := 485514) (by decide) ?_
          refine xr_lstore (ls2 := [(12, .long (485514)), (10, .long (42561207)), (8, .long (43046721)), (6, .long (429981696)), (4, .long (43046721)), (0, .ref (62)), (1, .int (nI (j))), (2, .int (8)), (3, .int (part))]) dX10_alone_104 (by decide) rfl ?_
          refine xr_lload dX10_alone_106 1 rfl ?_
          refine xr_lstore (ls2 := [(8, .long (42561207)), (12, .long (485514)), (10, .long (42561207)), (6, .long (429981696)), (4, .long (43046721)), (0, .ref (62)), (1, .int (nI (j))), (2, .int (8)), (3, .int (part))]) dX10_alone_108 (by decide) rfl ?_
          refine xr_lload dX10_alone_110 1 rfl ?_
          refine xr_lstore (ls2 := [(10, .long (485514)), (8, .long (42561207)), (12, .long (485514)), (6, .long (429981696)), (4, .long (43046721)), (0, .ref (62)), (1, .int (nI (j))), (2, .int (8)), (3, .int (part))]) dX10_alone_112 (by decide) rfl ?_
          refine xr_goto (tgt := 92) dX10_alone_114 rfl ?_
          refine xr_lload dX10_alone_92 0 rfl ?_
          refine xr_lconst (v := 0) dX10_alone_94 rfl ?_
          refine xr_lcmp dX10_alone_95 ?_
          refine xl_eq (tgt := 117) dX10_alone_96 rfl (fun c => absurd c (by decide)) (fun _ => ?_)
          refine xr_lload dX10_alone_99 1 rfl ?_
          refine xr_lload dX10_alone_101 0 rfl ?_
          refine xr_lrem dX10_alone_103 (by decide) ?_
          refine xb_topJ (y := 321489) (by decide) ?_
          refine xr_lstore (ls2 := [(12, .long (321489)), (10, .long (485514)), (8, .long (42561207)), (6, .long (429981696)), (4, .long (43046721)), (0, .ref (62)), (1, .int (nI (j))), (2, .int (8)), (3, .int (part))]) dX10_alone_104 (by decide) rfl ?_
          refine xr_lload dX10_alone_106 1 rfl ?_
          refine xr_lstore (ls2 := [(8, .long (485514)), (12, .long (321489)), (10, .long (485514)), (6, .long (429981696)), (4, .long (43046721)), (0, .ref (62)), (1, .int (nI (j))), (2, .int (8)), (3, .int (part))]) dX10_alone_108 (by decide) rfl ?_
          refine xr_lload dX10_alone_110 1 rfl ?_
          refine xr_lstore (ls2 := [(10, .long (321489)), (8, .long (485514)), (12, .long (321489)), (6, .long (429981696)), (4, .long (43046721)), (0, .ref (62)), (1, .int (nI (j))), (2, .int (8)), (3, .int (part))]) dX10_alone_112 (by decide) rfl ?_
          refine xr_goto (tgt := 92) dX10_alone_114 rfl ?_
          refine xr_lload dX10_alone_92 0 rfl ?_
          refine xr_lconst (v := 0) dX10_alone_94 rfl ?_
          refine xr_lcmp dX10_alone_95 ?_
          refine xl_eq (tgt := 117) dX10_alone_96 rfl (fun c => absurd c (by decide)) (fun _ => ?_)
          refine xr_lload dX10_alone_99 1 rfl ?_
          refine xr_lload dX10_alone_101 0 rfl ?_
          refine xr_lrem dX10_alone_103 (by decide) ?_
          refine xb_topJ (y := 164025) (by decide) ?_
          refine xr_lstore (ls2 := [(12, .long (164025)), (10, .long (321489)), (8, .long (485514)), (6, .long (429981696)), (4, .long (43046721)), (0, .ref (62)), (1, .int (nI (j))), (2, .int (8)), (3, .int (part))]) dX10_alone_104 (by decide) rfl ?_
          refine xr_lload dX10_alone_106 1 rfl ?_
          refine xr_lstore (ls2 := [(8, .long (321489)), (12, .long (164025)), (10, .long (321489)), (6, .long (429981696)), (4, .long (43046721)), (0, .ref (62)), (1, .int (nI (j))), (2, .int (8)), (3, .int (part))]) dX10_alone_108 (by decide) rfl ?_
          refine xr_lload dX10_alone_110 1 rfl ?_
          refine xr_lstore (ls2 := [(10, .long (164025)), (8, .long (321489)), (12, .long (164025)), (6, .long (429981696)), (4, .long (43046721)), (0, .ref (62)), (1, .int (nI (j))), (2, .int (8)), (3, .int (part))]) dX10_alone_112 (by decide) rfl ?_
          refine xr_goto (tgt := 92) dX10_alone_114 rfl ?_
          refine xr_lload dX10_alone_92 0 rfl ?_
          refine xr_lconst (v := 0) dX10_alone_94 rfl ?_
          refine xr_lcmp dX10_alone_95 ?_
          refine xl_eq (tgt := 117) dX10_alone_96 rfl (fun c => absurd c (by decide)) (fun _ => ?_)
          refine xr_lload dX10_alone_99 1 rfl ?_
          refine xr_lload dX10_alone_101 0 rfl ?_
          refine xr_lrem dX10_alone_103 (by decide) ?_
          refine xb_topJ (y := 157464) (by decide) ?_
          refine xr_lstore (ls2 := [(12, .long (157464)), (10, .long (164025)), (8, .long (321489)), (6, .long (429981696)), (4, .long (43046721)), (0, .ref (62)), (1, .int (nI (j))), (2, .int (8)), (3, .int (part))]) dX10_alone_104 (by decide) rfl ?_
          refine xr_lload dX10_alone_106 1 rfl ?_
          refine xr_lstore (ls2 := [(8, .long (164025)), (12, .long (157464)), (10, .long (164025)), (6, .long (429981696)), (4, .long (43046721)), (0, .ref (62)), (1, .int (nI (j))), (2, .int (8)), (3, .int (part))]) dX10_alone_108 (by decide) rfl ?_
          refine xr_lload dX10_alone_110 1 rfl ?_
          refine xr_lstore (ls2 := [(10, .long (157464)), (8, .long (164025)), (12, .long (157464)), (6, .long (429981696)), (4, .long (43046721)), (0, .ref (62)), (1, .int (nI (j))), (2, .int (8)), (3, .int (part))]) dX10_alone_112 (by decide) rfl ?_
          refine xr_goto (tgt := 92) dX10_alone_114 rfl ?_
          refine xr_lload dX10_alone_92 0 rfl ?_
          refine xr_lconst (v := 0) dX10_alone_94 rfl ?_
          refine xr_lcmp dX10_alone_95 ?_
          refine xl_eq (tgt := 117) dX10_alone_96 rfl (fun c => absurd c (by decide)) (fun _ => ?_)
          refine xr_lload dX10_alone_99 1 rfl ?_
          refine xr_lload dX10_alone_101 0 rfl ?_
          refine xr_lrem dX10_alone_103 (by decide) ?_
          refine xb_topJ (y := 6561) (by decide) ?_
          refine xr_lstore (ls2 := [(12, .long (6561)), (10, .long (157464)), (8, .long (164025)), (6, .long (429981696)), (4, .long (43046721)), (0, .ref (62)), (1, .int (nI (j))), (2, .int (8)), (3, .int (part))]) dX10_alone_104 (by decide) rfl ?_
          refine xr_lload dX10_alone_106 1 rfl ?_
          refine xr_lstore (ls2 := [(8, .long (157464)), (12, .long (6561)), (10, .long (157464)), (6, .long (429981696)), (4, .long (43046721)), (0, .ref (62)), (1, .int (nI (j))), (2, .int (8)), (3, .int (part))]) dX10_alone_108 (by decide) rfl ?_
          refine xr_lload dX10_alone_110 1 rfl ?_
          refine xr_lstore (ls2 := [(10, .long (6561)), (8, .long (157464)), (12, .long (6561)), (6, .long (429981696)), (4, .long (43046721)), (0, .ref (62)), (1, .int (nI (j))), (2, .int (8)), (3, .int (part))]) dX10_alone_112 (by decide) rfl ?_
          refine xr_goto (tgt := 92) dX10_alone_114 rfl ?_
          refine xr_lload dX10_alone_92 0 rfl ?_
          refine xr_lconst (v := 0) dX10_alone_94 rfl ?_
          refine xr_lcmp dX10_alone_95 ?_
          refine xl_eq (tgt := 117) dX10_alone_96 rfl (fun c => absurd c (by decide)) (fun _ => ?_)
          refine xr_lload dX10_alone_99 1 rfl ?_
          refine xr_lload dX10_alone_101 0 rfl ?_
          refine xr_lrem dX10_alone_103 (by decide) ?_
          refine xb_topJ (y := 0) (by decide) ?_
          refine xr_lstore (ls2 := [(12, .long (0)), (10, .long (6561)), (8, .long (157464)), (6, .long (429981696)), (4, .long (43046721)), (0, .ref (62)), (1, .int (nI (j))), (2, .int (8)), (3, .int (part))]) dX10_alone_104 (by decide) rfl ?_
          refine xr_lload dX10_alone_106 1 rfl ?_
          refine xr_lstore (ls2 := [(8, .long (6561)), (12, .long (0)), (10, .long (6561)), (6, .long (429981696)), (4, .long (43046721)), (0, .ref (62)), (1, .int (nI (j))), (2, .int (8)), (3, .int (part))]) dX10_alone_108 (by decide) rfl ?_
          refine xr_lload dX10_alone_110 1 rfl ?_
          refine xr_lstore (ls2 := [(10, .long (0)), (8, .long (6561)), (12, .long (0)), (6, .long (429981696)), (4, .long (43046721)), (0, .ref (62)), (1, .int (nI (j))), (2, .int (8)), (3, .int (part))]) dX10_alone_112 (by decide) rfl ?_
          refine xr_goto (tgt := 92) dX10_alone_114 rfl ?_
          refine xr_lload dX10_alone_92 0 rfl ?_
          refine xr_lconst (v := 0) dX10_alone_94 rfl ?_
          refine xr_lcmp dX10_alone_95 ?_
          refine xl_eq (tgt := 117) dX10_alone_96 rfl (fun _ => ?_) (fun c => absurd (by decide) c)
          refine xr_iload_n dX10_alone_117 8 rfl ?_
          refine xr_if_ne (tgt := 129) dX10_alone_118 rfl (fun c12 => ?_) (fun c12 => ?_)
          · refine xr_lload dX10_alone_129 3 rfl ?_
            refine xr_lload dX10_alone_131 1 rfl ?_
            refine xr_ldiv dX10_alone_133 (by decide) ?_
            refine xb_topJ (y := 65536) (by decide) ?_
            exact xr_lret dX10_alone_134 rfl (congrArg (fun z => some (Value.long z)) (Eq.symm (Eq.trans (if_pos ⟨by constructor <;> grind, by decide, by grind, by grind⟩) (Eq.trans (if_neg (by assumption)) (by decide)))))
          · refine xr_lload dX10_alone_121 4 rfl ?_
            refine xr_lload dX10_alone_123 1 rfl ?_
            refine xr_ldiv dX10_alone_125 (by decide) ?_
            refine xb_topJ (y := 6561) (by decide) ?_
            refine xr_goto (tgt := 134) dX10_alone_126 rfl ?_
            exact xr_lret dX10_alone_134 rfl (congrArg (fun z => some (Value.long z)) (Eq.symm (Eq.trans (if_pos ⟨by constructor <;> grind, by decide, by grind, by grind⟩) (Eq.trans (if_pos (by assumption)) (by decide)))))
      · refine xr_ldc2 coX10_320 dX10_alone_29 ?_
        exact xr_lret dX10_alone_32 rfl (congrArg (fun z => some (Value.long z)) (if_neg (by grind)).symm)
set_option maxRecDepth 100000 in
set_option maxHeartbeats 4000000 in
theorem p_X10_lasts {l : Launch} {G : xG} {M : xM} {J : xJ} (hF : Fr M)  : x_M l G fX10_lasts 4 0 0 [.ref (62)] x_SH M J (qR (some (.int 200))) := by
  refine xb_of pX10 (Nat.le_of_ble_eq_true rfl) rfl ?_
  refine xr_aload_n dX10_lasts_0 0 rfl ?_
  refine xr_aload_n dX10_lasts_1 0 rfl ?_
  refine xb_cV (As := []) (rest := [.ref (62)]) mlX10_246 (r0_upNow (R0_Fr hF)) dX10_lasts_2 s_62 rfl rfl (Nat.le_of_ble_eq_true rfl) (by decide) (by decide) ?_
  refine xr_callV (As := [.int (0)]) (rest := []) mlX10_267 (r0_lastsOf 0 (R0_Fr hF)) dX10_lasts_5 s_62 rfl rfl (Nat.le_of_ble_eq_true rfl) (by decide) ⟨by decide, by decide⟩ (fun v s2 M1 J2 hq => ?_)
  obtain ⟨rfl, rfl, rfl, w2, rfl⟩ := hq
  try dsimp only [Option.toList, List.cons_append, List.nil_append]
  exact xr_iret dX10_lasts_8 rfl rfl (by first | rfl | (refine congrArg (fun z => some (Value.int z)) ?_; first | exact (if_neg (by assumption)).symm | exact (if_pos (by assumption)).symm | grind))
set_option maxRecDepth 100000 in
set_option maxHeartbeats 4000000 in
theorem p_X10_leastPush (n : Int32) {l : Launch} {G : xG} {M : xM} {J : xJ} (hF : Fr M)  : x_M l G fX10_leastPush 4 0 0 [.ref (62), .int (n)] x_SH M J (qR (some (.int (if 1 ≤ n ∧ n ≤ 200 then 0 else -1)))) := by
  refine xb_of pX10 (Nat.le_of_ble_eq_true rfl) rfl ?_
  refine xr_iload_n dX10_leastPush_0 1 rfl ?_
  refine xr_i2l dX10_leastPush_1 ?_
  refine xr_lconst (v := 1) dX10_leastPush_2 rfl ?_
  refine xr_ldc2 coX10_244 dX10_leastPush_3 ?_
  refine xb_cS (As := [.long ((n).toInt64), .long (1), .long (200)]) (rest := []) mlX10_101 (c_within32 (n) (1) (200) (by decide) (by decide)) dX10_leastPush_6 rfl rfl (Nat.le_of_ble_eq_true rfl) (by decide) (by decide) ?_
  refine xb_bne (tgt := 14) dX10_leastPush_9 rfl (fun c1 => ?_) (fun c1 => ?_)
  · refine xr_aload_n dX10_leastPush_14 0 rfl ?_
    refine xr_getR flX10_9 dX10_leastPush_15 s_62 rfl ?_
    refine xr_bipush (v := 18) dX10_leastPush_18 rfl ?_
    refine xb_iald (j := 18) (v := 2) dX10_leastPush_20 s_63 (by decide) (by decide) (Fr_r hF (by decide) (by decide +kernel)) ?_
    refine xr_istore_n (ls2 := [(2, .int (2)), (0, .ref (62)), (1, .int (n))]) dX10_leastPush_21 (by decide) rfl ?_
    refine xr_bipush (v := -2) dX10_leastPush_22 rfl ?_
    refine xr_istore_n (ls2 := [(3, .int ((-2))), (2, .int (2)), (0, .ref (62)), (1, .int (n))]) dX10_leastPush_24 (by decide) rfl ?_
    refine xr_iconst (v := 5) dX10_leastPush_25 rfl ?_
    refine xr_istore (ls2 := [(4, .int (5)), (3, .int ((-2))), (2, .int (2)), (0, .ref (62)), (1, .int (n))]) dX10_leastPush_26 (by decide) rfl ?_
    refine xr_iload dX10_leastPush_28 0 rfl ?_
    refine xr_if_lt (tgt := 63) dX10_leastPush_30 rfl (fun c => absurd c (by decide)) (fun _ => ?_)
    refine xr_aload_n dX10_leastPush_33 3 rfl ?_
    refine xr_getR flX10_9 dX10_leastPush_34 s_62 rfl ?_
    refine xr_bipush (v := 18) dX10_leastPush_37 rfl ?_
    refine xr_iload dX10_leastPush_39 0 rfl ?_
    refine xb_iast (j := 18) dX10_leastPush_41 s_63 (by decide) (by decide) ?_
    refine xr_aload_n dX10_leastPush_42 3 rfl ?_
    refine xr_callV (As := []) (rest := []) mlX10_270 (r0_lasts (R0_up ⟨by decide, fun q => absurd q (by decide)⟩ (R0_Fr hF))) dX10_leastPush_43 s_62 rfl rfl (Nat.le_of_ble_eq_true rfl) (by decide) ⟨by decide, by decide⟩ (fun v s2 M2 J2 hq => ?_)
    obtain ⟨rfl, rfl, rfl, w3, rfl⟩ := hq
    try dsimp only [Option.toList, List.cons_append, List.nil_append]
    refine xr_iload_n dX10_leastPush_46 4 rfl ?_
    refine xr_icmp_lt (tgt := 55) dX10_leastPush_47 rfl (fun c => absurd c (by grind)) (fun _ => ?_)
    refine xr_iload dX10_leastPush_50 0 rfl ?_
    refine xr_goto (tgt := 56) dX10_leastPush_52 rfl ?_
    refine xr_istore_n (ls2 := [(3, .int (5)), (4, .int (5)), (2, .int (2)), (0, .ref (62)), (1, .int (n))]) dX10_leastPush_56 (by decide) rfl ?_
    refine xr_iinc (v := 4) (ls2 := [(4, .int (4)), (3, .int (5)), (2, .int (2)), (0, .ref (62)), (1, .int (n))]) dX10_leastPush_57 1 rfl rfl (by decide) rfl ?_
    refine xr_goto (tgt := 28) dX10_leastPush_60 rfl ?_
    refine xr_iload dX10_leastPush_28 0 rfl ?_
    refine xr_if_lt (tgt := 63) dX10_leastPush_30 rfl (fun c => absurd c (by decide)) (fun _ => ?_)
    refine xr_aload_n dX10_leastPush_33 3 rfl ?_
    refine xr_getR flX10_9 dX10_leastPush_34 s_62 rfl ?_
    refine xr_bipush (v := 18) dX10_leastPush_37 rfl ?_
    refine xr_iload dX10_leastPush_39 0 rfl ?_
    refine xb_iast (j := 18) dX10_leastPush_41 s_63 (by decide) (by decide) ?_
    refine xr_aload_n dX10_leastPush_42 3 rfl ?_
    refine xr_callV (As := []) (rest := []) mlX10_270 (r0_lasts (R0_up ⟨by decide, fun q => absurd q (by decide)⟩ (R0_up ⟨by decide, fun q => absurd q (by decide)⟩ (R0_up ⟨by decide, fun q => absurd q (by decide)⟩ (R0_Fr hF))))) dX10_leastPush_43 s_62 rfl rfl (Nat.le_of_ble_eq_true rfl) (by decide) ⟨by decide, by decide⟩ (fun v s2 M4 J2 hq => ?_)
    obtain ⟨rfl, rfl, rfl, w5, rfl⟩ := hq
    try dsimp only [Option.toList, List.cons_append, List.nil_append]
    refine xr_iload_n dX10_leastPush_46 4 rfl ?_
    refine xr_icmp_lt (tgt := 55) dX10_leastPush_47 rfl (fun c => absurd c (by grind)) (fun _ => ?_)
    refine xr_iload dX10_leastPush_50 0 rfl ?_
    refine xr_goto (tgt := 56) dX10_leastPush_52 rfl ?_
    refine xr_istore_n (ls2 := [(3, .int (4)), (4, .int (4)), (2, .int (2)), (0, .ref (62)), (1, .int (n))]) dX10_leastPush_56 (by decide) rfl ?_
    refine xr_iinc (v := 3) (ls2 := [(4, .int (3)), (3, .int (4)), (2, .int (2)), (0, .ref (62)), (1, .int (n))]) dX10_leastPush_57 1 rfl rfl (by decide) rfl ?_
    refine xr_goto (tgt := 28) dX10_leastPush_60 rfl ?_
    refine xr_iload dX10_leastPush_28 0 rfl ?_
    refine xr_if_lt (tgt := 63) dX10_leastPush_30 rfl (fun c => absurd c (by decide)) (fun _ => ?_)
    refine xr_aload_n dX10_leastPush_33 3 rfl ?_
    refine xr_getR flX10_9 dX10_leastPush_34 s_62 rfl ?_
    refine xr_bipush (v := 18) dX10_leastPush_37 rfl ?_
    refine xr_iload dX10_leastPush_39 0 rfl ?_
    refine xb_iast (j := 18) dX10_leastPush_41 s_63 (by decide) (by decide) ?_
    refine xr_aload_n dX10_leastPush_42 3 rfl ?_
    refine xr_callV (As := []) (rest := []) mlX10_270 (r0_lasts (R0_up ⟨by decide, fun q => absurd q (by decide)⟩ (R0_up ⟨by decide, fun q => absurd q (by decide)⟩ (R0_up ⟨by decide, fun q => absurd q (by decide)⟩ (R0_up ⟨by decide, fun q => absurd q (by decide)⟩ (R0_up ⟨by decide, fun q => absurd q (by decide)⟩ (R0_Fr hF))))))) dX10_leastPush_43 s_62 rfl rfl (Nat.le_of_ble_eq_true rfl) (by decide) ⟨by decide, by decide⟩ (fun v s2 M6 J2 hq => ?_)
    obtain ⟨rfl, rfl, rfl, w7, rfl⟩ := hq
    try dsimp only [Option.toList, List.cons_append, List.nil_append]
    refine xr_iload_n dX10_leastPush_46 4 rfl ?_
    refine xr_icmp_lt (tgt := 55) dX10_leastPush_47 rfl (fun c => absurd c (by grind)) (fun _ => ?_)
    refine xr_iload dX10_leastPush_50 0 rfl ?_
    refine xr_goto (tgt := 56) dX10_leastPush_52 rfl ?_
    refine xr_istore_n (ls2 := [(3, .int (3)), (4, .int (3)), (2, .int (2)), (0, .ref (62)), (1, .int (n))]) dX10_leastPush_56 (by decide) rfl ?_
    refine xr_iinc (v := 2) (ls2 := [(4, .int (2)), (3, .int (3)), (2, .int (2)), (0, .ref (62)), (1, .int (n))]) dX10_leastPush_57 1 rfl rfl (by decide) rfl ?_
    refine xr_goto (tgt := 28) dX10_leastPush_60 rfl ?_
    refine xr_iload dX10_leastPush_28 0 rfl ?_
    refine xr_if_lt (tgt := 63) dX10_leastPush_30 rfl (fun c => absurd c (by decide)) (fun _ => ?_)
    refine xr_aload_n dX10_leastPush_33 3 rfl ?_
    refine xr_getR flX10_9 dX10_leastPush_34 s_62 rfl ?_
    refine xr_bipush (v := 18) dX10_leastPush_37 rfl ?_
    refine xr_iload dX10_leastPush_39 0 rfl ?_
    refine xb_iast (j := 18) dX10_leastPush_41 s_63 (by decide) (by decide) ?_
    refine xr_aload_n dX10_leastPush_42 3 rfl ?_
    refine xr_callV (As := []) (rest := []) mlX10_270 (r0_lasts (R0_up ⟨by decide, fun q => absurd q (by decide)⟩ (R0_up ⟨by decide, fun q => absurd q (by decide)⟩ (R0_up ⟨by decide, fun q => absurd q (by decide)⟩ (R0_up ⟨by decide, fun q => absurd q (by decide)⟩ (R0_up ⟨by decide, fun q => absurd q (by decide)⟩ (R0_up ⟨by decide, fun q => absurd q (by decide)⟩ (R0_up ⟨by decide, fun q => absurd q (by decide)⟩ (R0_Fr hF))))))))) dX10_leastPush_43 s_62 rfl rfl (Nat.le_of_ble_eq_true rfl) (by decide) ⟨by decide, by decide⟩ (fun v s2 M8 J2 hq => ?_)
    obtain ⟨rfl, rfl, rfl, w9, rfl⟩ := hq
    try dsimp only [Option.toList, List.cons_append, List.nil_append]
    refine xr_iload_n dX10_leastPush_46 4 rfl ?_
    refine xr_icmp_lt (tgt := 55) dX10_leastPush_47 rfl (fun c => absurd c (by grind)) (fun _ => ?_)
    refine xr_iload dX10_leastPush_50 0 rfl ?_
    refine xr_goto (tgt := 56) dX10_leastPush_52 rfl ?_
    refine xr_istore_n (ls2 := [(3, .int (2)), (4, .int (2)), (2, .int (2)), (0, .ref (62)), (1, .int (n))]) dX10_leastPush_56 (by decide) rfl ?_
    refine xr_iinc (v := 1) (ls2 := [(4, .int (1)), (3, .int (2)), (2, .int (2)), (0, .ref (62)), (1, .int (n))]) dX10_leastPush_57 1 rfl rfl (by decide) rfl ?_
    refine xr_goto (tgt := 28) dX10_leastPush_60 rfl ?_
    refine xr_iload dX10_leastPush_28 0 rfl ?_
    refine xr_if_lt (tgt := 63) dX10_leastPush_30 rfl (fun c => absurd c (by decide)) (fun _ => ?_)
    refine xr_aload_n dX10_leastPush_33 3 rfl ?_
    refine xr_getR flX10_9 dX10_leastPush_34 s_62 rfl ?_
    refine xr_bipush (v := 18) dX10_leastPush_37 rfl ?_
    refine xr_iload dX10_leastPush_39 0 rfl ?_
    refine xb_iast (j := 18) dX10_leastPush_41 s_63 (by decide) (by decide) ?_
    refine xr_aload_n dX10_leastPush_42 3 rfl ?_
    refine xr_callV (As := []) (rest := []) mlX10_270 (r0_lasts (R0_up ⟨by decide, fun q => absurd q (by decide)⟩ (R0_up ⟨by decide, fun q => absurd q (by decide)⟩ (R0_up ⟨by decide, fun q => absurd q (by decide)⟩ (R0_up ⟨by decide, fun q => absurd q (by decide)⟩ (R0_up ⟨by decide, fun q => absurd q (by decide)⟩ (R0_up ⟨by decide, fun q => absurd q (by decide)⟩ (R0_up ⟨by decide, fun q => absurd q (by decide)⟩ (R0_up ⟨by decide, fun q => absurd q (by decide)⟩ (R0_up ⟨by decide, fun q => absurd q (by decide)⟩ (R0_Fr hF))))))))))) dX10_leastPush_43 s_62 rfl rfl (Nat.le_of_ble_eq_true rfl) (by decide) ⟨by decide, by decide⟩ (fun v s2 M10 J2 hq => ?_)
    obtain ⟨rfl, rfl, rfl, w11, rfl⟩ := hq
    try dsimp only [Option.toList, List.cons_append, List.nil_append]
    refine xr_iload_n dX10_leastPush_46 4 rfl ?_
    refine xr_icmp_lt (tgt := 55) dX10_leastPush_47 rfl (fun c => absurd c (by grind)) (fun _ => ?_)
    refine xr_iload dX10_leastPush_50 0 rfl ?_
    refine xr_goto (tgt := 56) dX10_leastPush_52 rfl ?_
    refine xr_istore_n (ls2 := [(3, .int (1)), (4, .int (1)), (2, .int (2)), (0, .ref (62)), (1, .int (n))]) dX10_leastPush_56 (by decide) rfl ?_
    refine xr_iinc (v := 0) (ls2 := [(4, .int (0)), (3, .int (1)), (2, .int (2)), (0, .ref (62)), (1, .int (n))]) dX10_leastPush_57 1 rfl rfl (by decide) rfl ?_
    refine xr_goto (tgt := 28) dX10_leastPush_60 rfl ?_
    refine xr_iload dX10_leastPush_28 0 rfl ?_
    refine xr_if_lt (tgt := 63) dX10_leastPush_30 rfl (fun c => absurd c (by decide)) (fun _ => ?_)
    refine xr_aload_n dX10_leastPush_33 3 rfl ?_
    refine xr_getR flX10_9 dX10_leastPush_34 s_62 rfl ?_
    refine xr_bipush (v := 18) dX10_leastPush_37 rfl ?_
    refine xr_iload dX10_leastPush_39 0 rfl ?_
    refine xb_iast (j := 18) dX10_leastPush_41 s_63 (by decide) (by decide) ?_
    refine xr_aload_n dX10_leastPush_42 3 rfl ?_
    refine xr_callV (As := []) (rest := []) mlX10_270 (r0_lasts (R0_up ⟨by decide, fun q => absurd q (by decide)⟩ (R0_up ⟨by decide, fun q => absurd q (by decide)⟩ (R0_up ⟨by decide, fun q => absurd q (by decide)⟩ (R0_up ⟨by decide, fun q => absurd q (by decide)⟩ (R0_up ⟨by decide, fun q => absurd q (by decide)⟩ (R0_up ⟨by decide, fun q => absurd q (by decide)⟩ (R0_up ⟨by decide, fun q => absurd q (by decide)⟩ (R0_up ⟨by decide, fun q => absurd q (by decide)⟩ (R0_up ⟨by decide, fun q => absurd q (by decide)⟩ (R0_up ⟨by decide, fun q => absurd q (by decide)⟩ (R0_up ⟨by decide, fun q => absurd q (by decide)⟩ (R0_Fr hF))))))))))))) dX10_leastPush_43 s_62 rfl rfl (Nat.le_of_ble_eq_true rfl) (by decide) ⟨by decide, by decide⟩ (fun v s2 M12 J2 hq => ?_)
    obtain ⟨rfl, rfl, rfl, w13, rfl⟩ := hq
    try dsimp only [Option.toList, List.cons_append, List.nil_append]
    refine xr_iload_n dX10_leastPush_46 4 rfl ?_
    refine xr_icmp_lt (tgt := 55) dX10_leastPush_47 rfl (fun c => absurd c (by grind)) (fun _ => ?_)
    refine xr_iload dX10_leastPush_50 0 rfl ?_
    refine xr_goto (tgt := 56) dX10_leastPush_52 rfl ?_
    refine xr_istore_n (ls2 := [(3, .int (0)), (4, .int (0)), (2, .int (2)), (0, .ref (62)), (1, .int (n))]) dX10_leastPush_56 (by decide) rfl ?_
    refine xr_iinc (v := (-1)) (ls2 := [(4, .int ((-1))), (3, .int (0)), (2, .int (2)), (0, .ref (62)), (1, .int (n))]) dX10_leastPush_57 1 rfl rfl (by decide) rfl ?_
    refine xr_goto (tgt := 28) dX10_leastPush_60 rfl ?_
    refine xr_iload dX10_leastPush_28 0 rfl ?_
    refine xr_if_lt (tgt := 63) dX10_leastPush_30 rfl (fun _ => ?_) (fun c => absurd (by decide) c)
    refine xr_aload_n dX10_leastPush_63 3 rfl ?_
    refine xr_getR flX10_9 dX10_leastPush_64 s_62 rfl ?_
    refine xr_bipush (v := 18) dX10_leastPush_67 rfl ?_
    refine xr_iload_n dX10_leastPush_69 2 rfl ?_
    refine xb_iast (j := 18) dX10_leastPush_70 s_63 (by decide) (by decide) ?_
    refine xr_iload_n dX10_leastPush_71 1 rfl ?_
    exact xr_iret dX10_leastPush_72 rfl rfl (by first | rfl | (refine congrArg (fun z => some (Value.int z)) ?_; first | exact (if_neg (by assumption)).symm | exact (if_pos (by assumption)).symm | grind))
  · refine xr_iconst (v := -1) dX10_leastPush_12 rfl ?_
    exact xr_iret dX10_leastPush_13 rfl rfl (by first | rfl | (refine congrArg (fun z => some (Value.int z)) ?_; first | exact (if_neg (by assumption)).symm | exact (if_pos (by assumption)).symm | grind))
set_option maxRecDepth 100000 in
set_option maxHeartbeats 4000000 in
theorem r_becomes_15 (v : Int32) {l : Launch} {G : xG} {M : xM} {J : xJ} (hF : Fr M)  : x_M l G fX10_becomes 0 0 0 [.ref (62), .int (15), .int (v)] x_SH M J (qR (some (.int 1))) := by
  refine xb_of pX10 (Nat.le_of_ble_eq_true rfl) rfl ?_
  refine xr_aload_n dX10_becomes_0 0 rfl ?_
  refine xr_getR flX10_9 dX10_becomes_1 s_62 rfl ?_
  refine xr_iload_n dX10_becomes_4 1 rfl ?_
  refine xb_iald (j := 15) (v := 1) dX10_becomes_5 s_63 (by decide) (by decide) (Fr_r hF (by decide) (by decide +kernel)) ?_
  refine xr_istore_n (ls2 := [(3, .int (1)), (0, .ref (62)), (1, .int (15)), (2, .int (v))]) dX10_becomes_6 (by decide) rfl ?_
  refine xr_iload_n dX10_becomes_7 0 rfl ?_
  refine xr_iload_n dX10_becomes_8 3 rfl ?_
  refine xr_icmp_ne (tgt := 14) dX10_becomes_9 rfl (fun c1 => ?_) (fun c1 => ?_)
  · refine xr_aload_n dX10_becomes_14 1 rfl ?_
    refine xb_get (v := 0) flX10_91 dX10_becomes_15 s_62 rfl (Fr_r hF (by decide) (by decide +kernel)) ?_
    refine xr_bipush (v := 40) dX10_becomes_18 rfl ?_
    refine xr_icmp_ne (tgt := 97) dX10_becomes_20 rfl (fun _ => ?_) (fun c => absurd c (by decide))
    refine xr_aload_n dX10_becomes_97 1 rfl ?_
    refine xr_getR flX10_13 dX10_becomes_98 s_62 rfl ?_
    refine xr_aload_n dX10_becomes_101 1 rfl ?_
    refine xb_get (v := 0) flX10_91 dX10_becomes_102 s_62 rfl (Fr_r hF (by decide) (by decide +kernel)) ?_
    refine xr_iload_n dX10_becomes_105 2 rfl ?_
    refine xb_iast (j := 0) dX10_becomes_106 s_64 (by decide) (by decide) ?_
    refine xr_aload_n dX10_becomes_107 1 rfl ?_
    refine xr_getR flX10_16 dX10_becomes_108 s_62 rfl ?_
    refine xr_aload_n dX10_becomes_111 1 rfl ?_
    refine xb_get (v := 0) flX10_91 dX10_becomes_112 s_62 rfl (Eq.trans (congrFun (x_up_n _ _ _ (by decide)) _) (Fr_r hF (by decide) (by decide +kernel))) ?_
    refine xr_iload_n dX10_becomes_115 0 rfl ?_
    refine xb_iast (j := 0) dX10_becomes_116 s_65 (by decide) (by decide) ?_
    refine xr_aload_n dX10_becomes_117 1 rfl ?_
    refine xr_getR flX10_19 dX10_becomes_118 s_62 rfl ?_
    refine xr_aload_n dX10_becomes_121 1 rfl ?_
    refine xb_get (v := 0) flX10_91 dX10_becomes_122 s_62 rfl (Eq.trans (congrFun (x_up_n _ _ _ (by decide)) _) (Eq.trans (congrFun (x_up_n _ _ _ (by decide)) _) (Fr_r hF (by decide) (by decide +kernel)))) ?_
    refine xr_iload_n dX10_becomes_125 3 rfl ?_
    refine xb_iast (j := 0) dX10_becomes_126 s_66 (by decide) (by decide) ?_
    refine xr_aload_n dX10_becomes_127 1 rfl ?_
    refine xr_dup dX10_becomes_128 rfl ?_
    refine xb_get (v := 0) flX10_91 dX10_becomes_129 s_62 rfl (Eq.trans (congrFun (x_up_n _ _ _ (by decide)) _) (Eq.trans (congrFun (x_up_n _ _ _ (by decide)) _) (Eq.trans (congrFun (x_up_n _ _ _ (by decide)) _) (Fr_r hF (by decide) (by decide +kernel))))) ?_
    refine xr_iconst (v := 1) dX10_becomes_132 rfl ?_
    refine xr_iadd dX10_becomes_133 ?_
    refine xb_top (y := 1) (by decide) ?_
    refine xr_putI fpX10_91 dX10_becomes_134 s_62 rfl rfl rfl ?_
    refine xr_aload_n dX10_becomes_137 1 rfl ?_
    refine xr_aload_n dX10_becomes_138 1 rfl ?_
    refine xb_get (v := 1) flX10_91 dX10_becomes_139 s_62 rfl (x_up_s _ _ _ _) ?_
    refine xr_putI fpX10_94 dX10_becomes_142 s_62 rfl rfl rfl ?_
    refine xr_aload_n dX10_becomes_145 1 rfl ?_
    refine xr_getR flX10_9 dX10_becomes_146 s_62 rfl ?_
    refine xr_iload_n dX10_becomes_149 2 rfl ?_
    refine xr_iload_n dX10_becomes_150 3 rfl ?_
    refine xb_iast (j := 15) dX10_becomes_151 s_63 (by decide) (by decide) ?_
    refine xr_iload_n dX10_becomes_152 0 rfl ?_
    exact xr_iret dX10_becomes_153 rfl rfl (rfl)
  · refine xr_iload_n dX10_becomes_12 0 rfl ?_
    exact xr_iret dX10_becomes_13 rfl rfl (rfl)
set_option maxRecDepth 100000 in
set_option maxHeartbeats 4000000 in
theorem r_becomes_16 (v : Int32) {l : Launch} {G : xG} {M : xM} {J : xJ} (hF : Fr M)  : x_M l G fX10_becomes 0 0 0 [.ref (62), .int (16), .int (v)] x_SH M J (qR (some (.int 6))) := by
  refine xb_of pX10 (Nat.le_of_ble_eq_true rfl) rfl ?_
  refine xr_aload_n dX10_becomes_0 0 rfl ?_
  refine xr_getR flX10_9 dX10_becomes_1 s_62 rfl ?_
  refine xr_iload_n dX10_becomes_4 1 rfl ?_
  refine xb_iald (j := 16) (v := 6) dX10_becomes_5 s_63 (by decide) (by decide) (Fr_r hF (by decide) (by decide +kernel)) ?_
  refine xr_istore_n (ls2 := [(3, .int (6)), (0, .ref (62)), (1, .int (16)), (2, .int (v))]) dX10_becomes_6 (by decide) rfl ?_
  refine xr_iload_n dX10_becomes_7 0 rfl ?_
  refine xr_iload_n dX10_becomes_8 3 rfl ?_
  refine xr_icmp_ne (tgt := 14) dX10_becomes_9 rfl (fun c1 => ?_) (fun c1 => ?_)
  · refine xr_aload_n dX10_becomes_14 1 rfl ?_
    refine xb_get (v := 0) flX10_91 dX10_becomes_15 s_62 rfl (Fr_r hF (by decide) (by decide +kernel)) ?_
    refine xr_bipush (v := 40) dX10_becomes_18 rfl ?_
    refine xr_icmp_ne (tgt := 97) dX10_becomes_20 rfl (fun _ => ?_) (fun c => absurd c (by decide))
    refine xr_aload_n dX10_becomes_97 1 rfl ?_
    refine xr_getR flX10_13 dX10_becomes_98 s_62 rfl ?_
    refine xr_aload_n dX10_becomes_101 1 rfl ?_
    refine xb_get (v := 0) flX10_91 dX10_becomes_102 s_62 rfl (Fr_r hF (by decide) (by decide +kernel)) ?_
    refine xr_iload_n dX10_becomes_105 2 rfl ?_
    refine xb_iast (j := 0) dX10_becomes_106 s_64 (by decide) (by decide) ?_
    refine xr_aload_n dX10_becomes_107 1 rfl ?_
    refine xr_getR flX10_16 dX10_becomes_108 s_62 rfl ?_
    refine xr_aload_n dX10_becomes_111 1 rfl ?_
    refine xb_get (v := 0) flX10_91 dX10_becomes_112 s_62 rfl (Eq.trans (congrFun (x_up_n _ _ _ (by decide)) _) (Fr_r hF (by decide) (by decide +kernel))) ?_
    refine xr_iload_n dX10_becomes_115 0 rfl ?_
    refine xb_iast (j := 0) dX10_becomes_116 s_65 (by decide) (by decide) ?_
    refine xr_aload_n dX10_becomes_117 1 rfl ?_
    refine xr_getR flX10_19 dX10_becomes_118 s_62 rfl ?_
    refine xr_aload_n dX10_becomes_121 1 rfl ?_
    refine xb_get (v := 0) flX10_91 dX10_becomes_122 s_62 rfl (Eq.trans (congrFun (x_up_n _ _ _ (by decide)) _) (Eq.trans (congrFun (x_up_n _ _ _ (by decide)) _) (Fr_r hF (by decide) (by decide +kernel)))) ?_
    refine xr_iload_n dX10_becomes_125 3 rfl ?_
    refine xb_iast (j := 0) dX10_becomes_126 s_66 (by decide) (by decide) ?_
    refine xr_aload_n dX10_becomes_127 1 rfl ?_
    refine xr_dup dX10_becomes_128 rfl ?_
    refine xb_get (v := 0) flX10_91 dX10_becomes_129 s_62 rfl (Eq.trans (congrFun (x_up_n _ _ _ (by decide)) _) (Eq.trans (congrFun (x_up_n _ _ _ (by decide)) _) (Eq.trans (congrFun (x_up_n _ _ _ (by decide)) _) (Fr_r hF (by decide) (by decide +kernel))))) ?_
    refine xr_iconst (v := 1) dX10_becomes_132 rfl ?_
    refine xr_iadd dX10_becomes_133 ?_
    refine xb_top (y := 1) (by decide) ?_
    refine xr_putI fpX10_91 dX10_becomes_134 s_62 rfl rfl rfl ?_
    refine xr_aload_n dX10_becomes_137 1 rfl ?_
    refine xr_aload_n dX10_becomes_138 1 rfl ?_
    refine xb_get (v := 1) flX10_91 dX10_becomes_139 s_62 rfl (x_up_s _ _ _ _) ?_
    refine xr_putI fpX10_94 dX10_becomes_142 s_62 rfl rfl rfl ?_
    refine xr_aload_n dX10_becomes_145 1 rfl ?_
    refine xr_getR flX10_9 dX10_becomes_146 s_62 rfl ?_
    refine xr_iload_n dX10_becomes_149 2 rfl ?_
    refine xr_iload_n dX10_becomes_150 3 rfl ?_
    refine xb_iast (j := 16) dX10_becomes_151 s_63 (by decide) (by decide) ?_
    refine xr_iload_n dX10_becomes_152 0 rfl ?_
    exact xr_iret dX10_becomes_153 rfl rfl (rfl)
  · refine xr_iload_n dX10_becomes_12 0 rfl ?_
    exact xr_iret dX10_becomes_13 rfl rfl (rfl)
set_option maxRecDepth 100000 in
set_option maxHeartbeats 4000000 in
theorem r_becomes_17 (v : Int32) {l : Launch} {G : xG} {M : xM} {J : xJ} (hF : Fr M)  : x_M l G fX10_becomes 0 0 0 [.ref (62), .int (17), .int (v)] x_SH M J (qR (some (.int 0))) := by
  refine xb_of pX10 (Nat.le_of_ble_eq_true rfl) rfl ?_
  refine xr_aload_n dX10_becomes_0 0 rfl ?_
  refine xr_getR flX10_9 dX10_becomes_1 s_62 rfl ?_
  refine xr_iload_n dX10_becomes_4 1 rfl ?_
  refine xb_iald (j := 17) (v := 0) dX10_becomes_5 s_63 (by decide) (by decide) (Fr_r hF (by decide) (by decide +kernel)) ?_
  refine xr_istore_n (ls2 := [(3, .int (0)), (0, .ref (62)), (1, .int (17)), (2, .int (v))]) dX10_becomes_6 (by decide) rfl ?_
  refine xr_iload_n dX10_becomes_7 0 rfl ?_
  refine xr_iload_n dX10_becomes_8 3 rfl ?_
  refine xr_icmp_ne (tgt := 14) dX10_becomes_9 rfl (fun c1 => ?_) (fun c1 => ?_)
  · refine xr_aload_n dX10_becomes_14 1 rfl ?_
    refine xb_get (v := 0) flX10_91 dX10_becomes_15 s_62 rfl (Fr_r hF (by decide) (by decide +kernel)) ?_
    refine xr_bipush (v := 40) dX10_becomes_18 rfl ?_
    refine xr_icmp_ne (tgt := 97) dX10_becomes_20 rfl (fun _ => ?_) (fun c => absurd c (by decide))
    refine xr_aload_n dX10_becomes_97 1 rfl ?_
    refine xr_getR flX10_13 dX10_becomes_98 s_62 rfl ?_
    refine xr_aload_n dX10_becomes_101 1 rfl ?_
    refine xb_get (v := 0) flX10_91 dX10_becomes_102 s_62 rfl (Fr_r hF (by decide) (by decide +kernel)) ?_
    refine xr_iload_n dX10_becomes_105 2 rfl ?_
    refine xb_iast (j := 0) dX10_becomes_106 s_64 (by decide) (by decide) ?_
    refine xr_aload_n dX10_becomes_107 1 rfl ?_
    refine xr_getR flX10_16 dX10_becomes_108 s_62 rfl ?_
    refine xr_aload_n dX10_becomes_111 1 rfl ?_
    refine xb_get (v := 0) flX10_91 dX10_becomes_112 s_62 rfl (Eq.trans (congrFun (x_up_n _ _ _ (by decide)) _) (Fr_r hF (by decide) (by decide +kernel))) ?_
    refine xr_iload_n dX10_becomes_115 0 rfl ?_
    refine xb_iast (j := 0) dX10_becomes_116 s_65 (by decide) (by decide) ?_
    refine xr_aload_n dX10_becomes_117 1 rfl ?_
    refine xr_getR flX10_19 dX10_becomes_118 s_62 rfl ?_
    refine xr_aload_n dX10_becomes_121 1 rfl ?_
    refine xb_get (v := 0) flX10_91 dX10_becomes_122 s_62 rfl (Eq.trans (congrFun (x_up_n _ _ _ (by decide)) _) (Eq.trans (congrFun (x_up_n _ _ _ (by decide)) _) (Fr_r hF (by decide) (by decide +kernel)))) ?_
    refine xr_iload_n dX10_becomes_125 3 rfl ?_
    refine xb_iast (j := 0) dX10_becomes_126 s_66 (by decide) (by decide) ?_
    refine xr_aload_n dX10_becomes_127 1 rfl ?_
    refine xr_dup dX10_becomes_128 rfl ?_
    refine xb_get (v := 0) flX10_91 dX10_becomes_129 s_62 rfl (Eq.trans (congrFun (x_up_n _ _ _ (by decide)) _) (Eq.trans (congrFun (x_up_n _ _ _ (by decide)) _) (Eq.trans (congrFun (x_up_n _ _ _ (by decide)) _) (Fr_r hF (by decide) (by decide +kernel))))) ?_
    refine xr_iconst (v := 1) dX10_becomes_132 rfl ?_
    refine xr_iadd dX10_becomes_133 ?_
    refine xb_top (y := 1) (by decide) ?_
    refine xr_putI fpX10_91 dX10_becomes_134 s_62 rfl rfl rfl ?_
    refine xr_aload_n dX10_becomes_137 1 rfl ?_
    refine xr_aload_n dX10_becomes_138 1 rfl ?_
    refine xb_get (v := 1) flX10_91 dX10_becomes_139 s_62 rfl (x_up_s _ _ _ _) ?_
    refine xr_putI fpX10_94 dX10_becomes_142 s_62 rfl rfl rfl ?_
    refine xr_aload_n dX10_becomes_145 1 rfl ?_
    refine xr_getR flX10_9 dX10_becomes_146 s_62 rfl ?_
    refine xr_iload_n dX10_becomes_149 2 rfl ?_
    refine xr_iload_n dX10_becomes_150 3 rfl ?_
    refine xb_iast (j := 17) dX10_becomes_151 s_63 (by decide) (by decide) ?_
    refine xr_iload_n dX10_becomes_152 0 rfl ?_
    exact xr_iret dX10_becomes_153 rfl rfl (rfl)
  · refine xr_iload_n dX10_becomes_12 0 rfl ?_
    exact xr_iret dX10_becomes_13 rfl rfl (rfl)
set_option maxRecDepth 100000 in
set_option maxHeartbeats 4000000 in
theorem r_becomes_18 (v : Int32) {l : Launch} {G : xG} {M : xM} {J : xJ} (hF : Fr M)  : x_M l G fX10_becomes 0 0 0 [.ref (62), .int (18), .int (v)] x_SH M J (qR (some (.int 2))) := by
  refine xb_of pX10 (Nat.le_of_ble_eq_true rfl) rfl ?_
  refine xr_aload_n dX10_becomes_0 0 rfl ?_
  refine xr_getR flX10_9 dX10_becomes_1 s_62 rfl ?_
  refine xr_iload_n dX10_becomes_4 1 rfl ?_
  refine xb_iald (j := 18) (v := 2) dX10_becomes_5 s_63 (by decide) (by decide) (Fr_r hF (by decide) (by decide +kernel)) ?_
  refine xr_istore_n (ls2 := [(3, .int (2)), (0, .ref (62)), (1, .int (18)), (2, .int (v))]) dX10_becomes_6 (by decide) rfl ?_
  refine xr_iload_n dX10_becomes_7 0 rfl ?_
  refine xr_iload_n dX10_becomes_8 3 rfl ?_
  refine xr_icmp_ne (tgt := 14) dX10_becomes_9 rfl (fun c1 => ?_) (fun c1 => ?_)
  · refine xr_aload_n dX10_becomes_14 1 rfl ?_
    refine xb_get (v := 0) flX10_91 dX10_becomes_15 s_62 rfl (Fr_r hF (by decide) (by decide +kernel)) ?_
    refine xr_bipush (v := 40) dX10_becomes_18 rfl ?_
    refine xr_icmp_ne (tgt := 97) dX10_becomes_20 rfl (fun _ => ?_) (fun c => absurd c (by decide))
    refine xr_aload_n dX10_becomes_97 1 rfl ?_
    refine xr_getR flX10_13 dX10_becomes_98 s_62 rfl ?_
    refine xr_aload_n dX10_becomes_101 1 rfl ?_
    refine xb_get (v := 0) flX10_91 dX10_becomes_102 s_62 rfl (Fr_r hF (by decide) (by decide +kernel)) ?_
    refine xr_iload_n dX10_becomes_105 2 rfl ?_
    refine xb_iast (j := 0) dX10_becomes_106 s_64 (by decide) (by decide) ?_
    refine xr_aload_n dX10_becomes_107 1 rfl ?_
    refine xr_getR flX10_16 dX10_becomes_108 s_62 rfl ?_
    refine xr_aload_n dX10_becomes_111 1 rfl ?_
    refine xb_get (v := 0) flX10_91 dX10_becomes_112 s_62 rfl (Eq.trans (congrFun (x_up_n _ _ _ (by decide)) _) (Fr_r hF (by decide) (by decide +kernel))) ?_
    refine xr_iload_n dX10_becomes_115 0 rfl ?_
    refine xb_iast (j := 0) dX10_becomes_116 s_65 (by decide) (by decide) ?_
    refine xr_aload_n dX10_becomes_117 1 rfl ?_
    refine xr_getR flX10_19 dX10_becomes_118 s_62 rfl ?_
    refine xr_aload_n dX10_becomes_121 1 rfl ?_
    refine xb_get (v := 0) flX10_91 dX10_becomes_122 s_62 rfl (Eq.trans (congrFun (x_up_n _ _ _ (by decide)) _) (Eq.trans (congrFun (x_up_n _ _ _ (by decide)) _) (Fr_r hF (by decide) (by decide +kernel)))) ?_
    refine xr_iload_n dX10_becomes_125 3 rfl ?_
    refine xb_iast (j := 0) dX10_becomes_126 s_66 (by decide) (by decide) ?_
    refine xr_aload_n dX10_becomes_127 1 rfl ?_
    refine xr_dup dX10_becomes_128 rfl ?_
    refine xb_get (v := 0) flX10_91 dX10_becomes_129 s_62 rfl (Eq.trans (congrFun (x_up_n _ _ _ (by decide)) _) (Eq.trans (congrFun (x_up_n _ _ _ (by decide)) _) (Eq.trans (congrFun (x_up_n _ _ _ (by decide)) _) (Fr_r hF (by decide) (by decide +kernel))))) ?_
    refine xr_iconst (v := 1) dX10_becomes_132 rfl ?_
    refine xr_iadd dX10_becomes_133 ?_
    refine xb_top (y := 1) (by decide) ?_
    refine xr_putI fpX10_91 dX10_becomes_134 s_62 rfl rfl rfl ?_
    refine xr_aload_n dX10_becomes_137 1 rfl ?_
    refine xr_aload_n dX10_becomes_138 1 rfl ?_
    refine xb_get (v := 1) flX10_91 dX10_becomes_139 s_62 rfl (x_up_s _ _ _ _) ?_
    refine xr_putI fpX10_94 dX10_becomes_142 s_62 rfl rfl rfl ?_
    refine xr_aload_n dX10_becomes_145 1 rfl ?_
    refine xr_getR flX10_9 dX10_becomes_146 s_62 rfl ?_
    refine xr_iload_n dX10_becomes_149 2 rfl ?_
    refine xr_iload_n dX10_becomes_150 3 rfl ?_
    refine xb_iast (j := 18) dX10_becomes_151 s_63 (by decide) (by decide) ?_
    refine xr_iload_n dX10_becomes_152 0 rfl ?_
    exact xr_iret dX10_becomes_153 rfl rfl (rfl)
  · refine xr_iload_n dX10_becomes_12 0 rfl ?_
    exact xr_iret dX10_becomes_13 rfl rfl (rfl)
set_option maxRecDepth 100000 in
set_option maxHeartbeats 4000000 in
theorem r_becomes_19 (v : Int32) {l : Launch} {G : xG} {M : xM} {J : xJ} (hF : Fr M)  : x_M l G fX10_becomes 0 0 0 [.ref (62), .int (19), .int (v)] x_SH M J (qR (some (.int 1))) := by
  refine xb_of pX10 (Nat.le_of_ble_eq_true rfl) rfl ?_
  refine xr_aload_n dX10_becomes_0 0 rfl ?_
  refine xr_getR flX10_9 dX10_becomes_1 s_62 rfl ?_
  refine xr_iload_n dX10_becomes_4 1 rfl ?_
  refine xb_iald (j := 19) (v := 1) dX10_becomes_5 s_63 (by decide) (by decide) (Fr_r hF (by decide) (by decide +kernel)) ?_
  refine xr_istore_n (ls2 := [(3, .int (1)), (0, .ref (62)), (1, .int (19)), (2, .int (v))]) dX10_becomes_6 (by decide) rfl ?_
  refine xr_iload_n dX10_becomes_7 0 rfl ?_
  refine xr_iload_n dX10_becomes_8 3 rfl ?_
  refine xr_icmp_ne (tgt := 14) dX10_becomes_9 rfl (fun c1 => ?_) (fun c1 => ?_)
  · refine xr_aload_n dX10_becomes_14 1 rfl ?_
    refine xb_get (v := 0) flX10_91 dX10_becomes_15 s_62 rfl (Fr_r hF (by decide) (by decide +kernel)) ?_
    refine xr_bipush (v := 40) dX10_becomes_18 rfl ?_
    refine xr_icmp_ne (tgt := 97) dX10_becomes_20 rfl (fun _ => ?_) (fun c => absurd c (by decide))
    refine xr_aload_n dX10_becomes_97 1 rfl ?_
    refine xr_getR flX10_13 dX10_becomes_98 s_62 rfl ?_
    refine xr_aload_n dX10_becomes_101 1 rfl ?_
    refine xb_get (v := 0) flX10_91 dX10_becomes_102 s_62 rfl (Fr_r hF (by decide) (by decide +kernel)) ?_
    refine xr_iload_n dX10_becomes_105 2 rfl ?_
    refine xb_iast (j := 0) dX10_becomes_106 s_64 (by decide) (by decide) ?_
    refine xr_aload_n dX10_becomes_107 1 rfl ?_
    refine xr_getR flX10_16 dX10_becomes_108 s_62 rfl ?_
    refine xr_aload_n dX10_becomes_111 1 rfl ?_
    refine xb_get (v := 0) flX10_91 dX10_becomes_112 s_62 rfl (Eq.trans (congrFun (x_up_n _ _ _ (by decide)) _) (Fr_r hF (by decide) (by decide +kernel))) ?_
    refine xr_iload_n dX10_becomes_115 0 rfl ?_
    refine xb_iast (j := 0) dX10_becomes_116 s_65 (by decide) (by decide) ?_
    refine xr_aload_n dX10_becomes_117 1 rfl ?_
    refine xr_getR flX10_19 dX10_becomes_118 s_62 rfl ?_
    refine xr_aload_n dX10_becomes_121 1 rfl ?_
    refine xb_get (v := 0) flX10_91 dX10_becomes_122 s_62 rfl (Eq.trans (congrFun (x_up_n _ _ _ (by decide)) _) (Eq.trans (congrFun (x_up_n _ _ _ (by decide)) _) (Fr_r hF (by decide) (by decide +kernel)))) ?_
    refine xr_iload_n dX10_becomes_125 3 rfl ?_
    refine xb_iast (j := 0) dX10_becomes_126 s_66 (by decide) (by decide) ?_
    refine xr_aload_n dX10_becomes_127 1 rfl ?_
    refine xr_dup dX10_becomes_128 rfl ?_
    refine xb_get (v := 0) flX10_91 dX10_becomes_129 s_62 rfl (Eq.trans (congrFun (x_up_n _ _ _ (by decide)) _) (Eq.trans (congrFun (x_up_n _ _ _ (by decide)) _) (Eq.trans (congrFun (x_up_n _ _ _ (by decide)) _) (Fr_r hF (by decide) (by decide +kernel))))) ?_
    refine xr_iconst (v := 1) dX10_becomes_132 rfl ?_
    refine xr_iadd dX10_becomes_133 ?_
    refine xb_top (y := 1) (by decide) ?_
    refine xr_putI fpX10_91 dX10_becomes_134 s_62 rfl rfl rfl ?_
    refine xr_aload_n dX10_becomes_137 1 rfl ?_
    refine xr_aload_n dX10_becomes_138 1 rfl ?_
    refine xb_get (v := 1) flX10_91 dX10_becomes_139 s_62 rfl (x_up_s _ _ _ _) ?_
    refine xr_putI fpX10_94 dX10_becomes_142 s_62 rfl rfl rfl ?_
    refine xr_aload_n dX10_becomes_145 1 rfl ?_
    refine xr_getR flX10_9 dX10_becomes_146 s_62 rfl ?_
    refine xr_iload_n dX10_becomes_149 2 rfl ?_
    refine xr_iload_n dX10_becomes_150 3 rfl ?_
    refine xb_iast (j := 19) dX10_becomes_151 s_63 (by decide) (by decide) ?_
    refine xr_iload_n dX10_becomes_152 0 rfl ?_
    exact xr_iret dX10_becomes_153 rfl rfl (rfl)
  · refine xr_iload_n dX10_becomes_12 0 rfl ?_
    exact xr_iret dX10_becomes_13 rfl rfl (rfl)
set_option maxRecDepth 100000 in
set_option maxHeartbeats 4000000 in
theorem p_X10_mend (number what v : Int32) {l : Launch} {G : xG} {M : xM} {J : xJ} (hF : Fr M)  : x_M l G fX10_mend 4 0 0 [.ref (62), .int (number), .int (what), .int (v)] x_SH M J (qR (some (.int (if number = 0 ∧ ((what = 3 ∧ 0 ≤ v ∧ v ≤ 3) ∨ (what = 4 ∧ 2 ≤ v ∧ v ≤ 24) ∨ (what = 5 ∧ 0 ≤ v ∧ v < 6) ∨ (what = 6 ∧ 0 ≤ v ∧ v ≤ 5) ∨ (what = 7 ∧ 0 ≤ v ∧ v ≤ 12)) then (if what = 3 then 1 else if what = 4 then 6 else if what = 5 then 0 else if what = 6 then 2 else 1) else -2000000000)))) := by
  refine xb_of pX10 (Nat.le_of_ble_eq_true rfl) rfl ?_
  refine xr_iload_n dX10_mend_0 2 rfl ?_
  refine xr_i2l dX10_mend_1 ?_
  refine xr_lconst (v := 0) dX10_mend_2 rfl ?_
  refine xr_ldc2 coX10_131 dX10_mend_3 ?_
  refine xb_cS (As := [.long ((what).toInt64), .long (0), .long (2)]) (rest := []) mlX10_101 (c_within32 (what) (0) (2) (by decide) (by decide)) dX10_mend_6 rfl rfl (Nat.le_of_ble_eq_true rfl) (by decide) (by decide) ?_
  refine xb_beq (tgt := 95) dX10_mend_9 rfl (fun c1 => ?_) (fun c1 => ?_)
  · refine xr_iload_n dX10_mend_95 1 rfl ?_
    refine xr_if_ne (tgt := 113) dX10_mend_96 rfl (fun c2 => ?_) (fun c2 => ?_)
    · refine xr_ldc coX10_140 dX10_mend_113 ?_
      exact xr_iret dX10_mend_115 rfl rfl (by first | rfl | (refine congrArg (fun z => some (Value.int z)) ?_; first | exact (if_neg (by assumption)).symm | exact (if_pos (by assumption)).symm | grind))
    · refine xr_iload_n dX10_mend_99 2 rfl ?_
      refine xr_i2l dX10_mend_100 ?_
      refine xr_ldc2 coX10_141 dX10_mend_101 ?_
      refine xr_ldc2 coX10_143 dX10_mend_104 ?_
      refine xb_cS (As := [.long ((what).toInt64), .long (3), .long (7)]) (rest := []) mlX10_101 (c_within32 (what) (3) (7) (by decide) (by decide)) dX10_mend_107 rfl rfl (Nat.le_of_ble_eq_true rfl) (by decide) (by decide) ?_
      refine xb_bne (tgt := 116) dX10_mend_110 rfl (fun c3 => ?_) (fun c3 => ?_)
      · rcases (show what = 3 ∨ what = 4 ∨ what = 5 ∨ what = 6 ∨ what = 7 by grind) with rfl | rfl | rfl | rfl | rfl
        · refine xr_iload_n dX10_mend_116 2 rfl ?_
          refine xr_iconst (v := 4) dX10_mend_117 rfl ?_
          refine xr_icmp_ne (tgt := 125) dX10_mend_118 rfl (fun _ => ?_) (fun c => absurd c (by decide))
          refine xr_iconst (v := 0) dX10_mend_125 rfl ?_
          refine xr_istore (ls2 := [(4, .int (0)), (0, .ref (62)), (1, .int (number)), (2, .int (3)), (3, .int (v))]) dX10_mend_126 (by decide) rfl ?_
          refine xr_iload_n dX10_mend_128 3 rfl ?_
          refine xr_iconst (v := 3) dX10_mend_129 rfl ?_
          refine xr_icmp_ne (tgt := 137) dX10_mend_130 rfl (fun c => absurd (by decide) c) (fun _ => ?_)
          refine xr_iconst (v := 3) dX10_mend_133 rfl ?_
          refine xr_goto (tgt := 176) dX10_mend_134 rfl ?_
          refine xr_istore (ls2 := [(5, .int (3)), (4, .int (0)), (0, .ref (62)), (1, .int (number)), (2, .int (3)), (3, .int (v))]) dX10_mend_176 (by decide) rfl ?_
          refine xr_iload_n dX10_mend_178 5 rfl ?_
          refine xr_i2l dX10_mend_179 ?_
          refine xr_iload dX10_mend_180 1 rfl ?_
          refine xr_i2l dX10_mend_182 ?_
          refine xb_topJ (y := 0) (by decide) ?_
          refine xr_iload dX10_mend_183 0 rfl ?_
          refine xr_i2l dX10_mend_185 ?_
          refine xb_topJ (y := 3) (by decide) ?_
          refine xb_cS (As := [.long ((v).toInt64), .long (0), .long (3)]) (rest := []) mlX10_101 (c_within32 (v) (0) (3) (by decide) (by decide)) dX10_mend_186 rfl rfl (Nat.le_of_ble_eq_true rfl) (by decide) (by decide) ?_
          refine xb_beq (tgt := 206) dX10_mend_189 rfl (fun c4 => ?_) (fun c4 => ?_)
          · refine xr_ldc coX10_140 dX10_mend_206 ?_
            exact xr_iret dX10_mend_208 rfl rfl (by first | rfl | (refine congrArg (fun z => some (Value.int z)) ?_; first | exact (if_neg (by assumption)).symm | exact (if_pos (by assumption)).symm | grind))
          · refine xr_aload_n dX10_mend_192 2 rfl ?_
            refine xr_bipush (v := 15) dX10_mend_193 rfl ?_
            refine xr_iload_n dX10_mend_195 4 rfl ?_
            refine xr_iadd dX10_mend_196 ?_
            refine xb_top (y := 18) (by decide) ?_
            refine xr_iconst (v := 3) dX10_mend_197 rfl ?_
            refine xr_isub dX10_mend_198 ?_
            refine xb_top (y := 15) (by decide) ?_
            refine xr_iload_n dX10_mend_199 5 rfl ?_
            refine xr_callV (As := [.int (15), .int (v)]) (rest := []) mlX10_136 (r_becomes_15 v hF) dX10_mend_200 s_62 rfl rfl (Nat.le_of_ble_eq_true rfl) (by decide) ⟨by decide, by decide⟩ (fun v s2 M5 J2 hq => ?_)
            obtain rfl := hq
            try dsimp only [Option.toList, List.cons_append, List.nil_append]
            refine xr_goto (tgt := 208) dX10_mend_203 rfl ?_
            exact xr_iret dX10_mend_208 rfl rfl (by first | rfl | (refine congrArg (fun z => some (Value.int z)) ?_; first | exact (if_neg (by assumption)).symm | exact (if_pos (by assumption)).symm | grind))
        · refine xr_iload_n dX10_mend_116 2 rfl ?_
          refine xr_iconst (v := 4) dX10_mend_117 rfl ?_
          refine xr_icmp_ne (tgt := 125) dX10_mend_118 rfl (fun c => absurd (by decide) c) (fun _ => ?_)
          refine xr_iconst (v := 2) dX10_mend_121 rfl ?_
          refine xr_goto (tgt := 126) dX10_mend_122 rfl ?_
          refine xr_istore (ls2 := [(4, .int (2)), (0, .ref (62)), (1, .int (number)), (2, .int (4)), (3, .int (v))]) dX10_mend_126 (by decide) rfl ?_
          refine xr_iload_n dX10_mend_128 3 rfl ?_
          refine xr_iconst (v := 3) dX10_mend_129 rfl ?_
          refine xr_icmp_ne (tgt := 137) dX10_mend_130 rfl (fun _ => ?_) (fun c => absurd c (by decide))
          refine xr_iload_n dX10_mend_137 3 rfl ?_
          refine xr_iconst (v := 4) dX10_mend_138 rfl ?_
          refine xr_icmp_ne (tgt := 147) dX10_mend_139 rfl (fun c => absurd (by decide) c) (fun _ => ?_)
          refine xr_bipush (v := 24) dX10_mend_142 rfl ?_
          refine xr_goto (tgt := 176) dX10_mend_144 rfl ?_
          refine xr_istore (ls2 := [(5, .int (24)), (4, .int (2)), (0, .ref (62)), (1, .int (number)), (2, .int (4)), (3, .int (v))]) dX10_mend_176 (by decide) rfl ?_
          refine xr_iload_n dX10_mend_178 5 rfl ?_
          refine xr_i2l dX10_mend_179 ?_
          refine xr_iload dX10_mend_180 1 rfl ?_
          refine xr_i2l dX10_mend_182 ?_
          refine xb_topJ (y := 2) (by decide) ?_
          refine xr_iload dX10_mend_183 0 rfl ?_
          refine xr_i2l dX10_mend_185 ?_
          refine xb_topJ (y := 24) (by decide) ?_
          refine xb_cS (As := [.long ((v).toInt64), .long (2), .long (24)]) (rest := []) mlX10_101 (c_within32 (v) (2) (24) (by decide) (by decide)) dX10_mend_186 rfl rfl (Nat.le_of_ble_eq_true rfl) (by decide) (by decide) ?_
          refine xb_beq (tgt := 206) dX10_mend_189 rfl (fun c6 => ?_) (fun c6 => ?_)
          · refine xr_ldc coX10_140 dX10_mend_206 ?_
            exact xr_iret dX10_mend_208 rfl rfl (by first | rfl | (refine congrArg (fun z => some (Value.int z)) ?_; first | exact (if_neg (by assumption)).symm | exact (if_pos (by assumption)).symm | grind))
          · refine xr_aload_n dX10_mend_192 2 rfl ?_
            refine xr_bipush (v := 15) dX10_mend_193 rfl ?_
            refine xr_iload_n dX10_mend_195 4 rfl ?_
            refine xr_iadd dX10_mend_196 ?_
            refine xb_top (y := 19) (by decide) ?_
            refine xr_iconst (v := 3) dX10_mend_197 rfl ?_
            refine xr_isub dX10_mend_198 ?_
            refine xb_top (y := 16) (by decide) ?_
            refine xr_iload_n dX10_mend_199 5 rfl ?_
            refine xr_callV (As := [.int (16), .int (v)]) (rest := []) mlX10_136 (r_becomes_16 v hF) dX10_mend_200 s_62 rfl rfl (Nat.le_of_ble_eq_true rfl) (by decide) ⟨by decide, by decide⟩ (fun v s2 M7 J2 hq => ?_)
            obtain rfl := hq
            try dsimp only [Option.toList, List.cons_append, List.nil_append]
            refine xr_goto (tgt := 208) dX10_mend_203 rfl ?_
            exact xr_iret dX10_mend_208 rfl rfl (by first | rfl | (refine congrArg (fun z => some (Value.int z)) ?_; first | exact (if_neg (by assumption)).symm | exact (if_pos (by assumption)).symm | grind))
        · refine xr_iload_n dX10_mend_116 2 rfl ?_
          refine xr_iconst (v := 4) dX10_mend_117 rfl ?_
          refine xr_icmp_ne (tgt := 125) dX10_mend_118 rfl (fun _ => ?_) (fun c => absurd c (by decide))
          refine xr_iconst (v := 0) dX10_mend_125 rfl ?_
          refine xr_istore (ls2 := [(4, .int (0)), (0, .ref (62)), (1, .int (number)), (2, .int (5)), (3, .int (v))]) dX10_mend_126 (by decide) rfl ?_
          refine xr_iload_n dX10_mend_128 3 rfl ?_
          refine xr_iconst (v := 3) dX10_mend_129 rfl ?_
          refine xr_icmp_ne (tgt := 137) dX10_mend_130 rfl (fun _ => ?_) (fun c => absurd c (by decide))
          refine xr_iload_n dX10_mend_137 3 rfl ?_
          refine xr_iconst (v := 4) dX10_mend_138 rfl ?_
          refine xr_icmp_ne (tgt := 147) dX10_mend_139 rfl (fun _ => ?_) (fun c => absurd c (by decide))
          refine xr_iload_n dX10_mend_147 3 rfl ?_
          refine xr_iconst (v := 5) dX10_mend_148 rfl ?_
          refine xr_icmp_ne (tgt := 164) dX10_mend_149 rfl (fun c => absurd (by decide) c) (fun _ => ?_)
          refine xr_aload_n dX10_mend_152 1 rfl ?_
          refine xr_getR flX10_9 dX10_mend_153 s_62 rfl ?_
          refine xr_bipush (v := 16) dX10_mend_156 rfl ?_
          refine xb_iald (j := 16) (v := 6) dX10_mend_158 s_63 (by decide) (by decide) (Fr_r hF (by decide) (by decide +kernel)) ?_
          refine xr_iconst (v := 1) dX10_mend_159 rfl ?_
          refine xr_isub dX10_mend_160 ?_
          refine xb_top (y := 5) (by decide) ?_
          refine xr_goto (tgt := 176) dX10_mend_161 rfl ?_
          refine xr_istore (ls2 := [(5, .int (5)), (4, .int (0)), (0, .ref (62)), (1, .int (number)), (2, .int (5)), (3, .int (v))]) dX10_mend_176 (by decide) rfl ?_
          refine xr_iload_n dX10_mend_178 5 rfl ?_
          refine xr_i2l dX10_mend_179 ?_
          refine xr_iload dX10_mend_180 1 rfl ?_
          refine xr_i2l dX10_mend_182 ?_
          refine xb_topJ (y := 0) (by decide) ?_
          refine xr_iload dX10_mend_183 0 rfl ?_
          refine xr_i2l dX10_mend_185 ?_
          refine xb_topJ (y := 5) (by decide) ?_
          refine xb_cS (As := [.long ((v).toInt64), .long (0), .long (5)]) (rest := []) mlX10_101 (c_within32 (v) (0) (5) (by decide) (by decide)) dX10_mend_186 rfl rfl (Nat.le_of_ble_eq_true rfl) (by decide) (by decide) ?_
          refine xb_beq (tgt := 206) dX10_mend_189 rfl (fun c8 => ?_) (fun c8 => ?_)
          · refine xr_ldc coX10_140 dX10_mend_206 ?_
            exact xr_iret dX10_mend_208 rfl rfl (by first | rfl | (refine congrArg (fun z => some (Value.int z)) ?_; first | exact (if_neg (by assumption)).symm | exact (if_pos (by assumption)).symm | grind))
          · obtain ⟨j, hj, rfl⟩ := x_natle (N := 5) (by decide) rfl c8
            replace hj := Nat.lt_succ_of_le hj
            refine xr_aload_n dX10_mend_192 2 rfl ?_
            refine xr_bipush (v := 15) dX10_mend_193 rfl ?_
            refine xr_iload_n dX10_mend_195 4 rfl ?_
            refine xr_iadd dX10_mend_196 ?_
            refine xb_top (y := 20) (by decide) ?_
            refine xr_iconst (v := 3) dX10_mend_197 rfl ?_
            refine xr_isub dX10_mend_198 ?_
            refine xb_top (y := 17) (by decide) ?_
            refine xr_iload_n dX10_mend_199 5 rfl ?_
            refine xr_callV (As := [.int (17), .int (nI (j))]) (rest := []) mlX10_136 (r_becomes_17 (nI (j)) hF) dX10_mend_200 s_62 rfl rfl (Nat.le_of_ble_eq_true rfl) (by decide) ⟨by decide, by decide⟩ (fun v s2 M9 J2 hq => ?_)
            obtain rfl := hq
            try dsimp only [Option.toList, List.cons_append, List.nil_append]
            refine xr_goto (tgt := 208) dX10_mend_203 rfl ?_
            exact xr_iret dX10_mend_208 rfl rfl (by first | rfl | (refine congrArg (fun z => some (Value.int z)) ?_; first | exact (if_neg (by assumption)).symm | exact (if_pos (by assumption)).symm | grind))
        · refine xr_iload_n dX10_mend_116 2 rfl ?_
          refine xr_iconst (v := 4) dX10_mend_117 rfl ?_
          refine xr_icmp_ne (tgt := 125) dX10_mend_118 rfl (fun _ => ?_) (fun c => absurd c (by decide))
          refine xr_iconst (v := 0) dX10_mend_125 rfl ?_
          refine xr_istore (ls2 := [(4, .int (0)), (0, .ref (62)), (1, .int (number)), (2, .int (6)), (3, .int (v))]) dX10_mend_126 (by decide) rfl ?_
          refine xr_iload_n dX10_mend_128 3 rfl ?_
          refine xr_iconst (v := 3) dX10_mend_129 rfl ?_
          refine xr_icmp_ne (tgt := 137) dX10_mend_130 rfl (fun _ => ?_) (fun c => absurd c (by decide))
          refine xr_iload_n dX10_mend_137 3 rfl ?_
          refine xr_iconst (v := 4) dX10_mend_138 rfl ?_
          refine xr_icmp_ne (tgt := 147) dX10_mend_139 rfl (fun _ => ?_) (fun c => absurd c (by decide))
          refine xr_iload_n dX10_mend_147 3 rfl ?_
          refine xr_iconst (v := 5) dX10_mend_148 rfl ?_
          refine xr_icmp_ne (tgt := 164) dX10_mend_149 rfl (fun _ => ?_) (fun c => absurd c (by decide))
          refine xr_iload_n dX10_mend_164 3 rfl ?_
          refine xr_bipush (v := 6) dX10_mend_165 rfl ?_
          refine xr_icmp_ne (tgt := 174) dX10_mend_167 rfl (fun c => absurd (by decide) c) (fun _ => ?_)
          refine xr_iconst (v := 5) dX10_mend_170 rfl ?_
          refine xr_goto (tgt := 176) dX10_mend_171 rfl ?_
          refine xr_istore (ls2 := [(5, .int (5)), (4, .int (0)), (0, .ref (62)), (1, .int (number)), (2, .int (6)), (3, .int (v))]) dX10_mend_176 (by decide) rfl ?_
          refine xr_iload_n dX10_mend_178 5 rfl ?_
          refine xr_i2l dX10_mend_179 ?_
          refine xr_iload dX10_mend_180 1 rfl ?_
          refine xr_i2l dX10_mend_182 ?_
          refine xb_topJ (y := 0) (by decide) ?_
          refine xr_iload dX10_mend_183 0 rfl ?_
          refine xr_i2l dX10_mend_185 ?_
          refine xb_topJ (y := 5) (by decide) ?_
          refine xb_cS (As := [.long ((v).toInt64), .long (0), .long (5)]) (rest := []) mlX10_101 (c_within32 (v) (0) (5) (by decide) (by decide)) dX10_mend_186 rfl rfl (Nat.le_of_ble_eq_true rfl) (by decide) (by decide) ?_
          refine xb_beq (tgt := 206) dX10_mend_189 rfl (fun c10 => ?_) (fun c10 => ?_)
          · refine xr_ldc coX10_140 dX10_mend_206 ?_
            exact xr_iret dX10_mend_208 rfl rfl (by first | rfl | (refine congrArg (fun z => some (Value.int z)) ?_; first | exact (if_neg (by assumption)).symm | exact (if_pos (by assumption)).symm | grind))
          · obtain ⟨j, hj, rfl⟩ := x_natle (N := 5) (by decide) rfl c10
            replace hj := Nat.lt_succ_of_le hj
            refine xr_aload_n dX10_mend_192 2 rfl ?_
            refine xr_bipush (v := 15) dX10_mend_193 rfl ?_
            refine xr_iload_n dX10_mend_195 4 rfl ?_
            refine xr_iadd dX10_mend_196 ?_
            refine xb_top (y := 21) (by decide) ?_
            refine xr_iconst (v := 3) dX10_mend_197 rfl ?_
            refine xr_isub dX10_mend_198 ?_
            refine xb_top (y := 18) (by decide) ?_
            refine xr_iload_n dX10_mend_199 5 rfl ?_
            refine xr_callV (As := [.int (18), .int (nI (j))]) (rest := []) mlX10_136 (r_becomes_18 (nI (j)) hF) dX10_mend_200 s_62 rfl rfl (Nat.le_of_ble_eq_true rfl) (by decide) ⟨by decide, by decide⟩ (fun v s2 M11 J2 hq => ?_)
            obtain rfl := hq
            try dsimp only [Option.toList, List.cons_append, List.nil_append]
            refine xr_goto (tgt := 208) dX10_mend_203 rfl ?_
            exact xr_iret dX10_mend_208 rfl rfl (by first | rfl | (refine congrArg (fun z => some (Value.int z)) ?_; first | exact (if_neg (by assumption)).symm | exact (if_pos (by assumption)).symm | grind))
        · refine xr_iload_n dX10_mend_116 2 rfl ?_
          refine xr_iconst (v := 4) dX10_mend_117 rfl ?_
          refine xr_icmp_ne (tgt := 125) dX10_mend_118 rfl (fun _ => ?_) (fun c => absurd c (by decide))
          refine xr_iconst (v := 0) dX10_mend_125 rfl ?_
          refine xr_istore (ls2 := [(4, .int (0)), (0, .ref (62)), (1, .int (number)), (2, .int (7)), (3, .int (v))]) dX10_mend_126 (by decide) rfl ?_
          refine xr_iload_n dX10_mend_128 3 rfl ?_
          refine xr_iconst (v := 3) dX10_mend_129 rfl ?_
          refine xr_icmp_ne (tgt := 137) dX10_mend_130 rfl (fun _ => ?_) (fun c => absurd c (by decide))
          refine xr_iload_n dX10_mend_137 3 rfl ?_
          refine xr_iconst (v := 4) dX10_mend_138 rfl ?_
          refine xr_icmp_ne (tgt := 147) dX10_mend_139 rfl (fun _ => ?_) (fun c => absurd c (by decide))
          refine xr_iload_n dX10_mend_147 3 rfl ?_
          refine xr_iconst (v := 5) dX10_mend_148 rfl ?_
          refine xr_icmp_ne (tgt := 164) dX10_mend_149 rfl (fun _ => ?_) (fun c => absurd c (by decide))
          refine xr_iload_n dX10_mend_164 3 rfl ?_
          refine xr_bipush (v := 6) dX10_mend_165 rfl ?_
          refine xr_icmp_ne (tgt := 174) dX10_mend_167 rfl (fun _ => ?_) (fun c => absurd c (by decide))
          refine xr_bipush (v := 12) dX10_mend_174 rfl ?_
          refine xr_istore (ls2 := [(5, .int (12)), (4, .int (0)), (0, .ref (62)), (1, .int (number)), (2, .int (7)), (3, .int (v))]) dX10_mend_176 (by decide) rfl ?_
          refine xr_iload_n dX10_mend_178 5 rfl ?_
          refine xr_i2l dX10_mend_179 ?_
          refine xr_iload dX10_mend_180 1 rfl ?_
          refine xr_i2l dX10_mend_182 ?_
          refine xb_topJ (y := 0) (by decide) ?_
          refine xr_iload dX10_mend_183 0 rfl ?_
          refine xr_i2l dX10_mend_185 ?_
          refine xb_topJ (y := 12) (by decide) ?_
          refine xb_cS (As := [.long ((v).toInt64), .long (0), .long (12)]) (rest := []) mlX10_101 (c_within32 (v) (0) (12) (by decide) (by decide)) dX10_mend_186 rfl rfl (Nat.le_of_ble_eq_true rfl) (by decide) (by decide) ?_
          refine xb_beq (tgt := 206) dX10_mend_189 rfl (fun c12 => ?_) (fun c12 => ?_)
          · refine xr_ldc coX10_140 dX10_mend_206 ?_
            exact xr_iret dX10_mend_208 rfl rfl (by first | rfl | (refine congrArg (fun z => some (Value.int z)) ?_; first | exact (if_neg (by assumption)).symm | exact (if_pos (by assumption)).symm | grind))
          · refine xr_aload_n dX10_mend_192 2 rfl ?_
            refine xr_bipush (v := 15) dX10_mend_193 rfl ?_
            refine xr_iload_n dX10_mend_195 4 rfl ?_
            refine xr_iadd dX10_mend_196 ?_
            refine xb_top (y := 22) (by decide) ?_
            refine xr_iconst (v := 3) dX10_mend_197 rfl ?_
            refine xr_isub dX10_mend_198 ?_
            refine xb_top (y := 19) (by decide) ?_
            refine xr_iload_n dX10_mend_199 5 rfl ?_
            refine xr_callV (As := [.int (19), .int (v)]) (rest := []) mlX10_136 (r_becomes_19 v hF) dX10_mend_200 s_62 rfl rfl (Nat.le_of_ble_eq_true rfl) (by decide) ⟨by decide, by decide⟩ (fun v s2 M13 J2 hq => ?_)
            obtain rfl := hq
            try dsimp only [Option.toList, List.cons_append, List.nil_append]
            refine xr_goto (tgt := 208) dX10_mend_203 rfl ?_
            exact xr_iret dX10_mend_208 rfl rfl (by first | rfl | (refine congrArg (fun z => some (Value.int z)) ?_; first | exact (if_neg (by assumption)).symm | exact (if_pos (by assumption)).symm | grind))
      · refine xr_ldc coX10_140 dX10_mend_113 ?_
        exact xr_iret dX10_mend_115 rfl rfl (by first | rfl | (refine congrArg (fun z => some (Value.int z)) ?_; first | exact (if_neg (by assumption)).symm | exact (if_pos (by assumption)).symm | grind))
  · refine xr_aload_n dX10_mend_12 0 rfl ?_
    refine xr_iload_n dX10_mend_13 1 rfl ?_
    refine xb_cV (As := [.int (number)]) (rest := []) mlX10_133 (r_isHoop number (Fr_r hF (by decide) (by decide +kernel))) dX10_mend_14 s_62 rfl rfl (Nat.le_of_ble_eq_true rfl) (by decide) (by decide) ?_
    refine xr_if_eq (tgt := 71) dX10_mend_17 rfl (fun _ => ?_) (fun c => absurd (by decide) c)
    refine xr_iconst (v := 0) dX10_mend_71 rfl ?_
    refine xr_istore (ls2 := [(4, .int (0)), (0, .ref (62)), (1, .int (number)), (2, .int (what)), (3, .int (v))]) dX10_mend_72 (by decide) rfl ?_
    refine xr_iload dX10_mend_74 0 rfl ?_
    refine xr_if_eq (tgt := 92) dX10_mend_76 rfl (fun _ => ?_) (fun c => absurd (by decide) c)
    refine xr_ldc coX10_140 dX10_mend_92 ?_
    exact xr_iret dX10_mend_94 rfl rfl (by first | rfl | (refine congrArg (fun z => some (Value.int z)) ?_; first | exact (if_neg (by assumption)).symm | exact (if_pos (by assumption)).symm | grind))
set_option maxRecDepth 100000 in
set_option maxHeartbeats 4000000 in
theorem rl_row_0 {l : Launch} {G : xG} {M : xM} : ∀ (m k : Nat) (J : xJ), k + m = 60 → x_X l G fX10_row 4 0 0 (qR (some (.int 1))) 57 [(4, .int (nI (k))), (1, .int (0)), (0, .ref (62))] [] x_SH M J 0 0 := by
  intro m
  induction m with
  | zero =>
    intro k J hk
    refine xr_iload dX10_row_57 0 rfl ?_
    refine xr_bipush (v := 60) dX10_row_59 rfl ?_
    refine xr_iload_n dX10_row_61 1 rfl ?_
    refine xr_imul dX10_row_62 ?_
    refine xb_top (y := 0) (by decide) ?_
    refine xr_bipush (v := 60) dX10_row_63 rfl ?_
    refine xr_iadd dX10_row_65 ?_
    refine xb_top (y := 60) (by decide) ?_
    refine xr_icmp_ge (tgt := 83) dX10_row_66 rfl (fun _ => ?_) (fun c => absurd (nI_le (a := 60) (b := k) (by omega) (by omega)) c)
    refine xr_iconst (v := 1) dX10_row_83 rfl ?_
    exact xr_iret dX10_row_84 rfl rfl (rfl)
  | succ m ih =>
    intro k J hk
    refine xr_iload dX10_row_57 0 rfl ?_
    refine xr_bipush (v := 60) dX10_row_59 rfl ?_
    refine xr_iload_n dX10_row_61 1 rfl ?_
    refine xr_imul dX10_row_62 ?_
    refine xb_top (y := 0) (by decide) ?_
    refine xr_bipush (v := 60) dX10_row_63 rfl ?_
    refine xr_iadd dX10_row_65 ?_
    refine xb_top (y := 60) (by decide) ?_
    refine xr_icmp_ge (tgt := 83) dX10_row_66 rfl (fun c => absurd c (nI_ge (a := k) (b := 60) (by omega) (by omega))) (fun _ => ?_)
    refine xr_aload_n dX10_row_69 2 rfl ?_
    refine xr_getR flX10_81 dX10_row_70 s_62 rfl ?_
    refine xr_iload dX10_row_73 0 rfl ?_
    refine xr_lconst (v := 0) dX10_row_75 rfl ?_
    refine xb_last (j := k) dX10_row_76 s_85 (by omega) (by decide) ?_
    refine xr_iinc (v := nI (k + 1)) (ls2 := [(4, .int (nI (k + 1))), (1, .int (0)), (0, .ref (62))]) dX10_row_77 0 rfl (nI_1 _) (by decide) rfl ?_
    refine xr_goto (tgt := 57) dX10_row_80 rfl ?_
    refine xb_ls (ls2 := [(4, .int (nI (k + 1))), (1, .int (0)), (0, .ref (62))]) [0, 1, 2] rfl ?_
    exact ih (k + 1) _ (by omega)
set_option maxRecDepth 100000 in
set_option maxHeartbeats 4000000 in
theorem rl_row_1 {l : Launch} {G : xG} {M : xM} : ∀ (m k : Nat) (J : xJ), k + m = 120 → x_X l G fX10_row 4 0 0 (qR (some (.int 1))) 57 [(4, .int (nI (k))), (1, .int (1)), (0, .ref (62))] [] x_SH M J 0 0 := by
  intro m
  induction m with
  | zero =>
    intro k J hk
    refine xr_iload dX10_row_57 0 rfl ?_
    refine xr_bipush (v := 60) dX10_row_59 rfl ?_
    refine xr_iload_n dX10_row_61 1 rfl ?_
    refine xr_imul dX10_row_62 ?_
    refine xb_top (y := 60) (by decide) ?_
    refine xr_bipush (v := 60) dX10_row_63 rfl ?_
    refine xr_iadd dX10_row_65 ?_
    refine xb_top (y := 120) (by decide) ?_
    refine xr_icmp_ge (tgt := 83) dX10_row_66 rfl (fun _ => ?_) (fun c => absurd (nI_le (a := 120) (b := k) (by omega) (by omega)) c)
    refine xr_iconst (v := 1) dX10_row_83 rfl ?_
    exact xr_iret dX10_row_84 rfl rfl (rfl)
  | succ m ih =>
    intro k J hk
    refine xr_iload dX10_row_57 0 rfl ?_
    refine xr_bipush (v := 60) dX10_row_59 rfl ?_
    refine xr_iload_n dX10_row_61 1 rfl ?_
    refine xr_imul dX10_row_62 ?_
    refine xb_top (y := 60) (by decide) ?_
    refine xr_bipush (v := 60) dX10_row_63 rfl ?_
    refine xr_iadd dX10_row_65 ?_
    refine xb_top (y := 120) (by decide) ?_
    refine xr_icmp_ge (tgt := 83) dX10_row_66 rfl (fun c => absurd c (nI_ge (a := k) (b := 120) (by omega) (by omega))) (fun _ => ?_)
    refine xr_aload_n dX10_row_69 2 rfl ?_
    refine xr_getR flX10_81 dX10_row_70 s_62 rfl ?_
    refine xr_iload dX10_row_73 0 rfl ?_
    refine xr_lconst (v := 0) dX10_row_75 rfl ?_
    refine xb_last (j := k) dX10_row_76 s_85 (by omega) (by decide) ?_
    refine xr_iinc (v := nI (k + 1)) (ls2 := [(4, .int (nI (k + 1))), (1, .int (1)), (0, .ref (62))]) dX10_row_77 0 rfl (nI_1 _) (by decide) rfl ?_
    refine xr_goto (tgt := 57) dX10_row_80 rfl ?_
    refine xb_ls (ls2 := [(4, .int (nI (k + 1))), (1, .int (1)), (0, .ref (62))]) [0, 1, 2] rfl ?_
    exact ih (k + 1) _ (by omega)
set_option maxRecDepth 100000 in
set_option maxHeartbeats 4000000 in
theorem rl_row_2 {l : Launch} {G : xG} {M : xM} : ∀ (m k : Nat) (J : xJ), k + m = 180 → x_X l G fX10_row 4 0 0 (qR (some (.int 1))) 57 [(4, .int (nI (k))), (1, .int (2)), (0, .ref (62))] [] x_SH M J 0 0 := by
  intro m
  induction m with
  | zero =>
    intro k J hk
    refine xr_iload dX10_row_57 0 rfl ?_
    refine xr_bipush (v := 60) dX10_row_59 rfl ?_
    refine xr_iload_n dX10_row_61 1 rfl ?_
    refine xr_imul dX10_row_62 ?_
    refine xb_top (y := 120) (by decide) ?_
    refine xr_bipush (v := 60) dX10_row_63 rfl ?_
    refine xr_iadd dX10_row_65 ?_
    refine xb_top (y := 180) (by decide) ?_
    refine xr_icmp_ge (tgt := 83) dX10_row_66 rfl (fun _ => ?_) (fun c => absurd (nI_le (a := 180) (b := k) (by omega) (by omega)) c)
    refine xr_iconst (v := 1) dX10_row_83 rfl ?_
    exact xr_iret dX10_row_84 rfl rfl (rfl)
  | succ m ih =>
    intro k J hk
    refine xr_iload dX10_row_57 0 rfl ?_
    refine xr_bipush (v := 60) dX10_row_59 rfl ?_
    refine xr_iload_n dX10_row_61 1 rfl ?_
    refine xr_imul dX10_row_62 ?_
    refine xb_top (y := 120) (by decide) ?_
    refine xr_bipush (v := 60) dX10_row_63 rfl ?_
    refine xr_iadd dX10_row_65 ?_
    refine xb_top (y := 180) (by decide) ?_
    refine xr_icmp_ge (tgt := 83) dX10_row_66 rfl (fun c => absurd c (nI_ge (a := k) (b := 180) (by omega) (by omega))) (fun _ => ?_)
    refine xr_aload_n dX10_row_69 2 rfl ?_
    refine xr_getR flX10_81 dX10_row_70 s_62 rfl ?_
    refine xr_iload dX10_row_73 0 rfl ?_
    refine xr_lconst (v := 0) dX10_row_75 rfl ?_
    refine xb_last (j := k) dX10_row_76 s_85 (by omega) (by decide) ?_
    refine xr_iinc (v := nI (k + 1)) (ls2 := [(4, .int (nI (k + 1))), (1, .int (2)), (0, .ref (62))]) dX10_row_77 0 rfl (nI_1 _) (by decide) rfl ?_
    refine xr_goto (tgt := 57) dX10_row_80 rfl ?_
    refine xb_ls (ls2 := [(4, .int (nI (k + 1))), (1, .int (2)), (0, .ref (62))]) [0, 1, 2] rfl ?_
    exact ih (k + 1) _ (by omega)
set_option maxRecDepth 100000 in
set_option maxHeartbeats 4000000 in
theorem rl_row_3 {l : Launch} {G : xG} {M : xM} : ∀ (m k : Nat) (J : xJ), k + m = 240 → x_X l G fX10_row 4 0 0 (qR (some (.int 1))) 57 [(4, .int (nI (k))), (1, .int (3)), (0, .ref (62))] [] x_SH M J 0 0 := by
  intro m
  induction m with
  | zero =>
    intro k J hk
    refine xr_iload dX10_row_57 0 rfl ?_
    refine xr_bipush (v := 60) dX10_row_59 rfl ?_
    refine xr_iload_n dX10_row_61 1 rfl ?_
    refine xr_imul dX10_row_62 ?_
    refine xb_top (y := 180) (by decide) ?_
    refine xr_bipush (v := 60) dX10_row_63 rfl ?_
    refine xr_iadd dX10_row_65 ?_
    refine xb_top (y := 240) (by decide) ?_
    refine xr_icmp_ge (tgt := 83) dX10_row_66 rfl (fun _ => ?_) (fun c => absurd (nI_le (a := 240) (b := k) (by omega) (by omega)) c)
    refine xr_iconst (v := 1) dX10_row_83 rfl ?_
    exact xr_iret dX10_row_84 rfl rfl (rfl)
  | succ m ih =>
    intro k J hk
    refine xr_iload dX10_row_57 0 rfl ?_
    refine xr_bipush (v := 60) dX10_row_59 rfl ?_
    refine xr_iload_n dX10_row_61 1 rfl ?_
    refine xr_imul dX10_row_62 ?_
    refine xb_top (y := 180) (by decide) ?_
    refine xr_bipush (v := 60) dX10_row_63 rfl ?_
    refine xr_iadd dX10_row_65 ?_
    refine xb_top (y := 240) (by decide) ?_
    refine xr_icmp_ge (tgt := 83) dX10_row_66 rfl (fun c => absurd c (nI_ge (a := k) (b := 240) (by omega) (by omega))) (fun _ => ?_)
    refine xr_aload_n dX10_row_69 2 rfl ?_
    refine xr_getR flX10_81 dX10_row_70 s_62 rfl ?_
    refine xr_iload dX10_row_73 0 rfl ?_
    refine xr_lconst (v := 0) dX10_row_75 rfl ?_
    refine xb_last (j := k) dX10_row_76 s_85 (by omega) (by decide) ?_
    refine xr_iinc (v := nI (k + 1)) (ls2 := [(4, .int (nI (k + 1))), (1, .int (3)), (0, .ref (62))]) dX10_row_77 0 rfl (nI_1 _) (by decide) rfl ?_
    refine xr_goto (tgt := 57) dX10_row_80 rfl ?_
    refine xb_ls (ls2 := [(4, .int (nI (k + 1))), (1, .int (3)), (0, .ref (62))]) [0, 1, 2] rfl ?_
    exact ih (k + 1) _ (by omega)
set_option maxRecDepth 100000 in
set_option maxHeartbeats 4000000 in
theorem rl_row_4 {l : Launch} {G : xG} {M : xM} : ∀ (m k : Nat) (J : xJ), k + m = 300 → x_X l G fX10_row 4 0 0 (qR (some (.int 1))) 57 [(4, .int (nI (k))), (1, .int (4)), (0, .ref (62))] [] x_SH M J 0 0 := by
  intro m
  induction m with
  | zero =>
    intro k J hk
    refine xr_iload dX10_row_57 0 rfl ?_
    refine xr_bipush (v := 60) dX10_row_59 rfl ?_
    refine xr_iload_n dX10_row_61 1 rfl ?_
    refine xr_imul dX10_row_62 ?_
    refine xb_top (y := 240) (by decide) ?_
    refine xr_bipush (v := 60) dX10_row_63 rfl ?_
    refine xr_iadd dX10_row_65 ?_
    refine xb_top (y := 300) (by decide) ?_
    refine xr_icmp_ge (tgt := 83) dX10_row_66 rfl (fun _ => ?_) (fun c => absurd (nI_le (a := 300) (b := k) (by omega) (by omega)) c)
    refine xr_iconst (v := 1) dX10_row_83 rfl ?_
    exact xr_iret dX10_row_84 rfl rfl (rfl)
  | succ m ih =>
    intro k J hk
    refine xr_iload dX10_row_57 0 rfl ?_
    refine xr_bipush (v := 60) dX10_row_59 rfl ?_
    refine xr_iload_n dX10_row_61 1 rfl ?_
    refine xr_imul dX10_row_62 ?_
    refine xb_top (y := 240) (by decide) ?_
    refine xr_bipush (v := 60) dX10_row_63 rfl ?_
    refine xr_iadd dX10_row_65 ?_
    refine xb_top (y := 300) (by decide) ?_
    refine xr_icmp_ge (tgt := 83) dX10_row_66 rfl (fun c => absurd c (nI_ge (a := k) (b := 300) (by omega) (by omega))) (fun _ => ?_)
    refine xr_aload_n dX10_row_69 2 rfl ?_
    refine xr_getR flX10_81 dX10_row_70 s_62 rfl ?_
    refine xr_iload dX10_row_73 0 rfl ?_
    refine xr_lconst (v := 0) dX10_row_75 rfl ?_
    refine xb_last (j := k) dX10_row_76 s_85 (by omega) (by decide) ?_
    refine xr_iinc (v := nI (k + 1)) (ls2 := [(4, .int (nI (k + 1))), (1, .int (4)), (0, .ref (62))]) dX10_row_77 0 rfl (nI_1 _) (by decide) rfl ?_
    refine xr_goto (tgt := 57) dX10_row_80 rfl ?_
    refine xb_ls (ls2 := [(4, .int (nI (k + 1))), (1, .int (4)), (0, .ref (62))]) [0, 1, 2] rfl ?_
    exact ih (k + 1) _ (by omega)
set_option maxRecDepth 100000 in
set_option maxHeartbeats 4000000 in
theorem rl_row_5 {l : Launch} {G : xG} {M : xM} : ∀ (m k : Nat) (J : xJ), k + m = 360 → x_X l G fX10_row 4 0 0 (qR (some (.int 1))) 57 [(4, .int (nI (k))), (1, .int (5)), (0, .ref (62))] [] x_SH M J 0 0 := by
  intro m
  induction m with
  | zero =>
    intro k J hk
    refine xr_iload dX10_row_57 0 rfl ?_
    refine xr_bipush (v := 60) dX10_row_59 rfl ?_
    refine xr_iload_n dX10_row_61 1 rfl ?_
    refine xr_imul dX10_row_62 ?_
    refine xb_top (y := 300) (by decide) ?_
    refine xr_bipush (v := 60) dX10_row_63 rfl ?_
    refine xr_iadd dX10_row_65 ?_
    refine xb_top (y := 360) (by decide) ?_
    refine xr_icmp_ge (tgt := 83) dX10_row_66 rfl (fun _ => ?_) (fun c => absurd (nI_le (a := 360) (b := k) (by omega) (by omega)) c)
    refine xr_iconst (v := 1) dX10_row_83 rfl ?_
    exact xr_iret dX10_row_84 rfl rfl (rfl)
  | succ m ih =>
    intro k J hk
    refine xr_iload dX10_row_57 0 rfl ?_
    refine xr_bipush (v := 60) dX10_row_59 rfl ?_
    refine xr_iload_n dX10_row_61 1 rfl ?_
    refine xr_imul dX10_row_62 ?_
    refine xb_top (y := 300) (by decide) ?_
    refine xr_bipush (v := 60) dX10_row_63 rfl ?_
    refine xr_iadd dX10_row_65 ?_
    refine xb_top (y := 360) (by decide) ?_
    refine xr_icmp_ge (tgt := 83) dX10_row_66 rfl (fun c => absurd c (nI_ge (a := k) (b := 360) (by omega) (by omega))) (fun _ => ?_)
    refine xr_aload_n dX10_row_69 2 rfl ?_
    refine xr_getR flX10_81 dX10_row_70 s_62 rfl ?_
    refine xr_iload dX10_row_73 0 rfl ?_
    refine xr_lconst (v := 0) dX10_row_75 rfl ?_
    refine xb_last (j := k) dX10_row_76 s_85 (by omega) (by decide) ?_
    refine xr_iinc (v := nI (k + 1)) (ls2 := [(4, .int (nI (k + 1))), (1, .int (5)), (0, .ref (62))]) dX10_row_77 0 rfl (nI_1 _) (by decide) rfl ?_
    refine xr_goto (tgt := 57) dX10_row_80 rfl ?_
    refine xb_ls (ls2 := [(4, .int (nI (k + 1))), (1, .int (5)), (0, .ref (62))]) [0, 1, 2] rfl ?_
    exact ih (k + 1) _ (by omega)
theorem x_Qeq {l : Launch} {G : xG} {f} {dd kc ks pc : Nat} {ls st sh M J mc ms} {r r2 : Option Value} (h : r = r2) (X : x_X l G f dd kc ks (qR r) pc ls st sh M J mc ms) : x_X l G f dd kc ks (qR r2) pc ls st sh M J mc ms := h ▸ X
set_option maxRecDepth 100000 in
set_option maxHeartbeats 4000000 in
theorem p_X10_row (shelf sort n : Int32) {l : Launch} {G : xG} {M : xM} {J : xJ} (hF : Fr M)  : x_M l G fX10_row 4 0 0 [.ref (62), .int (shelf), .int (sort), .int (n)] x_SH M J (qR (some (.int (if (0 ≤ shelf ∧ shelf < 6) ∧ (0 ≤ sort ∧ sort ≤ 4) ∧ n ≤ 60 then (if n < 0 then -14 else 1) else -1)))) := by
  refine xb_of pX10 (Nat.le_of_ble_eq_true rfl) rfl ?_
  refine xr_iload_n dX10_row_0 1 rfl ?_
  refine xb_cS (As := [.int (shelf)]) (rest := []) mlX10_125 (c_X10_isShelf shelf) dX10_row_1 rfl rfl (Nat.le_of_ble_eq_true rfl) (by decide) (by decide) ?_
  refine xb_beq (tgt := 25) dX10_row_4 rfl (fun c1 => ?_) (fun c1 => ?_)
  · refine xr_iconst (v := -1) dX10_row_25 rfl ?_
    exact xr_iret dX10_row_26 rfl rfl (by first | rfl | (refine congrArg (fun z => some (Value.int z)) ?_; first | exact (if_neg (by assumption)).symm | exact (if_pos (by assumption)).symm | grind))
  · refine xr_iload_n dX10_row_7 2 rfl ?_
    refine xr_i2l dX10_row_8 ?_
    refine xr_lconst (v := 0) dX10_row_9 rfl ?_
    refine xr_ldc2 coX10_116 dX10_row_10 ?_
    refine xb_cS (As := [.long ((sort).toInt64), .long (0), .long (4)]) (rest := []) mlX10_101 (c_within32 (sort) (0) (4) (by decide) (by decide)) dX10_row_13 rfl rfl (Nat.le_of_ble_eq_true rfl) (by decide) (by decide) ?_
    refine xb_beq (tgt := 25) dX10_row_16 rfl (fun c2 => ?_) (fun c2 => ?_)
    · refine xr_iconst (v := -1) dX10_row_25 rfl ?_
      exact xr_iret dX10_row_26 rfl rfl (by first | rfl | (refine congrArg (fun z => some (Value.int z)) ?_; first | exact (if_neg (by assumption)).symm | exact (if_pos (by assumption)).symm | grind))
    · refine xr_iload_n dX10_row_19 3 rfl ?_
      refine xr_bipush (v := 60) dX10_row_20 rfl ?_
      refine xr_icmp_le (tgt := 27) dX10_row_22 rfl (fun c3 => ?_) (fun c3 => ?_)
      · refine xr_iload_n dX10_row_27 3 rfl ?_
        refine xr_if_ge (tgt := 34) dX10_row_28 rfl (fun c4 => ?_) (fun c4 => ?_)
        · rcases (show shelf = 0 ∨ shelf = 1 ∨ shelf = 2 ∨ shelf = 3 ∨ shelf = 4 ∨ shelf = 5 by grind) with rfl | rfl | rfl | rfl | rfl | rfl
          · refine xr_aload_n dX10_row_34 0 rfl ?_
            refine xr_getR flX10_75 dX10_row_35 s_62 rfl ?_
            refine xr_iload_n dX10_row_38 1 rfl ?_
            refine xr_bipush (v := 50) dX10_row_39 rfl ?_
            refine xr_iload_n dX10_row_41 2 rfl ?_
            refine xr_iadd dX10_row_42 ?_
            refine xb_iast (j := 0) dX10_row_43 s_83 (by decide) (by decide) ?_
            refine xr_aload_n dX10_row_44 0 rfl ?_
            refine xr_getR flX10_78 dX10_row_45 s_62 rfl ?_
            refine xr_iload_n dX10_row_48 1 rfl ?_
            refine xr_iload_n dX10_row_49 3 rfl ?_
            refine xb_iast (j := 0) dX10_row_50 s_84 (by decide) (by decide) ?_
            refine xr_bipush (v := 60) dX10_row_51 rfl ?_
            refine xr_iload_n dX10_row_53 1 rfl ?_
            refine xr_imul dX10_row_54 ?_
            refine xb_top (y := 0) (by decide) ?_
            refine xr_istore (ls2 := [(4, .int (0)), (0, .ref (62)), (1, .int (0)), (2, .int (sort)), (3, .int (n))]) dX10_row_55 (by decide) rfl ?_
            refine xb_ls (ls2 := [(4, .int (nI (0))), (1, .int (0)), (0, .ref (62))]) [0, 2, 1] rfl ?_
            refine x_Qeq (r := some (.int 1)) ?_ ?_
            · exact congrArg (fun z => some (Value.int z)) ((if_pos ⟨by decide, by grind, by grind⟩).trans (if_neg (by grind))).symm
            exact rl_row_0 60 0 _ (by omega)
          · refine xr_aload_n dX10_row_34 0 rfl ?_
            refine xr_getR flX10_75 dX10_row_35 s_62 rfl ?_
            refine xr_iload_n dX10_row_38 1 rfl ?_
            refine xr_bipush (v := 50) dX10_row_39 rfl ?_
            refine xr_iload_n dX10_row_41 2 rfl ?_
            refine xr_iadd dX10_row_42 ?_
            refine xb_iast (j := 1) dX10_row_43 s_83 (by decide) (by decide) ?_
            refine xr_aload_n dX10_row_44 0 rfl ?_
            refine xr_getR flX10_78 dX10_row_45 s_62 rfl ?_
            refine xr_iload_n dX10_row_48 1 rfl ?_
            refine xr_iload_n dX10_row_49 3 rfl ?_
            refine xb_iast (j := 1) dX10_row_50 s_84 (by decide) (by decide) ?_
            refine xr_bipush (v := 60) dX10_row_51 rfl ?_
            refine xr_iload_n dX10_row_53 1 rfl ?_
            refine xr_imul dX10_row_54 ?_
            refine xb_top (y := 60) (by decide) ?_
            refine xr_istore (ls2 := [(4, .int (60)), (0, .ref (62)), (1, .int (1)), (2, .int (sort)), (3, .int (n))]) dX10_row_55 (by decide) rfl ?_
            refine xb_ls (ls2 := [(4, .int (nI (60))), (1, .int (1)), (0, .ref (62))]) [0, 2, 1] rfl ?_
            refine x_Qeq (r := some (.int 1)) ?_ ?_
            · exact congrArg (fun z => some (Value.int z)) ((if_pos ⟨by decide, by grind, by grind⟩).trans (if_neg (by grind))).symm
            exact rl_row_1 60 60 _ (by omega)
          · refine xr_aload_n dX10_row_34 0 rfl ?_
            refine xr_getR flX10_75 dX10_row_35 s_62 rfl ?_
            refine xr_iload_n dX10_row_38 1 rfl ?_
            refine xr_bipush (v := 50) dX10_row_39 rfl ?_
            refine xr_iload_n dX10_row_41 2 rfl ?_
            refine xr_iadd dX10_row_42 ?_
            refine xb_iast (j := 2) dX10_row_43 s_83 (by decide) (by decide) ?_
            refine xr_aload_n dX10_row_44 0 rfl ?_
            refine xr_getR flX10_78 dX10_row_45 s_62 rfl ?_
            refine xr_iload_n dX10_row_48 1 rfl ?_
            refine xr_iload_n dX10_row_49 3 rfl ?_
            refine xb_iast (j := 2) dX10_row_50 s_84 (by decide) (by decide) ?_
            refine xr_bipush (v := 60) dX10_row_51 rfl ?_
            refine xr_iload_n dX10_row_53 1 rfl ?_
            refine xr_imul dX10_row_54 ?_
            refine xb_top (y := 120) (by decide) ?_
            refine xr_istore (ls2 := [(4, .int (120)), (0, .ref (62)), (1, .int (2)), (2, .int (sort)), (3, .int (n))]) dX10_row_55 (by decide) rfl ?_
            refine xb_ls (ls2 := [(4, .int (nI (120))), (1, .int (2)), (0, .ref (62))]) [0, 2, 1] rfl ?_
            refine x_Qeq (r := some (.int 1)) ?_ ?_
            · exact congrArg (fun z => some (Value.int z)) ((if_pos ⟨by decide, by grind, by grind⟩).trans (if_neg (by grind))).symm
            exact rl_row_2 60 120 _ (by omega)
          · refine xr_aload_n dX10_row_34 0 rfl ?_
            refine xr_getR flX10_75 dX10_row_35 s_62 rfl ?_
            refine xr_iload_n dX10_row_38 1 rfl ?_
            refine xr_bipush (v := 50) dX10_row_39 rfl ?_
            refine xr_iload_n dX10_row_41 2 rfl ?_
            refine xr_iadd dX10_row_42 ?_
            refine xb_iast (j := 3) dX10_row_43 s_83 (by decide) (by decide) ?_
            refine xr_aload_n dX10_row_44 0 rfl ?_
            refine xr_getR flX10_78 dX10_row_45 s_62 rfl ?_
            refine xr_iload_n dX10_row_48 1 rfl ?_
            refine xr_iload_n dX10_row_49 3 rfl ?_
            refine xb_iast (j := 3) dX10_row_50 s_84 (by decide) (by decide) ?_
            refine xr_bipush (v := 60) dX10_row_51 rfl ?_
            refine xr_iload_n dX10_row_53 1 rfl ?_
            refine xr_imul dX10_row_54 ?_
            refine xb_top (y := 180) (by decide) ?_
            refine xr_istore (ls2 := [(4, .int (180)), (0, .ref (62)), (1, .int (3)), (2, .int (sort)), (3, .int (n))]) dX10_row_55 (by decide) rfl ?_
            refine xb_ls (ls2 := [(4, .int (nI (180))), (1, .int (3)), (0, .ref (62))]) [0, 2, 1] rfl ?_
            refine x_Qeq (r := some (.int 1)) ?_ ?_
            · exact congrArg (fun z => some (Value.int z)) ((if_pos ⟨by decide, by grind, by grind⟩).trans (if_neg (by grind))).symm
            exact rl_row_3 60 180 _ (by omega)
          · refine xr_aload_n dX10_row_34 0 rfl ?_
            refine xr_getR flX10_75 dX10_row_35 s_62 rfl ?_
            refine xr_iload_n dX10_row_38 1 rfl ?_
            refine xr_bipush (v := 50) dX10_row_39 rfl ?_
            refine xr_iload_n dX10_row_41 2 rfl ?_
            refine xr_iadd dX10_row_42 ?_
            refine xb_iast (j := 4) dX10_row_43 s_83 (by decide) (by decide) ?_
            refine xr_aload_n dX10_row_44 0 rfl ?_
            refine xr_getR flX10_78 dX10_row_45 s_62 rfl ?_
            refine xr_iload_n dX10_row_48 1 rfl ?_
            refine xr_iload_n dX10_row_49 3 rfl ?_
            refine xb_iast (j := 4) dX10_row_50 s_84 (by decide) (by decide) ?_
            refine xr_bipush (v := 60) dX10_row_51 rfl ?_
            refine xr_iload_n dX10_row_53 1 rfl ?_
            refine xr_imul dX10_row_54 ?_
            refine xb_top (y := 240) (by decide) ?_
            refine xr_istore (ls2 := [(4, .int (240)), (0, .ref (62)), (1, .int (4)), (2, .int (sort)), (3, .int (n))]) dX10_row_55 (by decide) rfl ?_
            refine xb_ls (ls2 := [(4, .int (nI (240))), (1, .int (4)), (0, .ref (62))]) [0, 2, 1] rfl ?_
            refine x_Qeq (r := some (.int 1)) ?_ ?_
            · exact congrArg (fun z => some (Value.int z)) ((if_pos ⟨by decide, by grind, by grind⟩).trans (if_neg (by grind))).symm
            exact rl_row_4 60 240 _ (by omega)
          · refine xr_aload_n dX10_row_34 0 rfl ?_
            refine xr_getR flX10_75 dX10_row_35 s_62 rfl ?_
            refine xr_iload_n dX10_row_38 1 rfl ?_
            refine xr_bipush (v := 50) dX10_row_39 rfl ?_
            refine xr_iload_n dX10_row_41 2 rfl ?_
            refine xr_iadd dX10_row_42 ?_
            refine xb_iast (j := 5) dX10_row_43 s_83 (by decide) (by decide) ?_
            refine xr_aload_n dX10_row_44 0 rfl ?_
            refine xr_getR flX10_78 dX10_row_45 s_62 rfl ?_
            refine xr_iload_n dX10_row_48 1 rfl ?_
            refine xr_iload_n dX10_row_49 3 rfl ?_
            refine xb_iast (j := 5) dX10_row_50 s_84 (by decide) (by decide) ?_
            refine xr_bipush (v := 60) dX10_row_51 rfl ?_
            refine xr_iload_n dX10_row_53 1 rfl ?_
            refine xr_imul dX10_row_54 ?_
            refine xb_top (y := 300) (by decide) ?_
            refine xr_istore (ls2 := [(4, .int (300)), (0, .ref (62)), (1, .int (5)), (2, .int (sort)), (3, .int (n))]) dX10_row_55 (by decide) rfl ?_
            refine xb_ls (ls2 := [(4, .int (nI (300))), (1, .int (5)), (0, .ref (62))]) [0, 2, 1] rfl ?_
            refine x_Qeq (r := some (.int 1)) ?_ ?_
            · exact congrArg (fun z => some (Value.int z)) ((if_pos ⟨by decide, by grind, by grind⟩).trans (if_neg (by grind))).symm
            exact rl_row_5 60 300 _ (by omega)
        · refine xr_bipush (v := -14) dX10_row_31 rfl ?_
          exact xr_iret dX10_row_33 rfl rfl (by first | rfl | (refine congrArg (fun z => some (Value.int z)) ?_; first | exact (if_neg (by assumption)).symm | exact (if_pos (by assumption)).symm | grind))
      · refine xr_iconst (v := -1) dX10_row_25 rfl ?_
        exact xr_iret dX10_row_26 rfl rfl (by first | rfl | (refine congrArg (fun z => some (Value.int z)) ?_; first | exact (if_neg (by assumption)).symm | exact (if_pos (by assumption)).symm | grind))
set_option maxRecDepth 100000 in
set_option maxHeartbeats 4000000 in
theorem rl_go (N : Nat) (R : Int32) (hN : N ≤ 200) (hR : 0 = R) {l : Launch} {G : xG} {J : xJ} : ∀ (m k : Nat) (M : xM), k + m = N → R0 M → x_X l G fX10_go 4 0 0 (qR (some (.int R))) 31 [(3, .int (nI (k))), (2, .int (0)), (1, .int (nI (N))), (0, .ref (62))] [] x_SH M J 0 0 := by
  intro m
  induction m with
  | zero =>
    intro k M hk e
    refine xr_iload_n dX10_go_31 0 rfl ?_
    refine xr_iload_n dX10_go_32 2 rfl ?_
    refine xr_icmp_ge (tgt := 92) dX10_go_33 rfl (fun _ => ?_) (fun c => absurd (nI_le (a := N) (b := k) (by omega) (by omega)) c)
    refine xr_aload_n dX10_go_92 3 rfl ?_
    refine xr_dup dX10_go_93 rfl ?_
    refine xb_get (v := M 62 24) flX10_258 dX10_go_94 s_62 rfl rfl ?_
    refine xr_aload_n dX10_go_97 3 rfl ?_
    refine xb_get (v := M 62 23) flX10_237 dX10_go_98 s_62 rfl rfl ?_
    refine xr_iadd dX10_go_101 ?_
    refine xr_putI fpX10_258 dX10_go_102 s_62 rfl rfl rfl ?_
    refine xr_iconst (v := 0) dX10_go_105 rfl ?_
    refine xr_istore_n (ls2 := [(3, .int (0)), (2, .int (0)), (1, .int (nI (N))), (0, .ref (62))]) dX10_go_106 (by decide) rfl ?_
    refine xr_iload_n dX10_go_107 0 rfl ?_
    refine xr_aload_n dX10_go_108 3 rfl ?_
    refine xb_get (v := 0) flX10_109 dX10_go_109 s_62 rfl (Eq.trans (x_up_k _ _ _ (by decide)) e.1) ?_
    refine xr_icmp_ge (tgt := 160) dX10_go_112 rfl (fun _ => ?_) (fun c => absurd (by decide) c)
    refine xr_aload_n dX10_go_160 3 rfl ?_
    refine xb_cV (As := []) (rest := []) mlX10_246 (r0_upNow (R0_up ⟨by decide, fun q => absurd q (by decide)⟩ e)) dX10_go_161 s_62 rfl rfl (Nat.le_of_ble_eq_true rfl) (by decide) (by decide) ?_
    refine xb_cS (As := [.int (0)]) (rest := []) mlX10_261 (c_bits0) dX10_go_164 rfl rfl (Nat.le_of_ble_eq_true rfl) (by decide) (by decide) ?_
    exact xr_iret dX10_go_167 rfl rfl (congrArg (fun z => some (Value.int z)) hR)
  | succ m ih =>
    intro k M hk e
    refine xr_iload_n dX10_go_31 0 rfl ?_
    refine xr_iload_n dX10_go_32 2 rfl ?_
    refine xr_icmp_ge (tgt := 92) dX10_go_33 rfl (fun c => absurd c (nI_ge (a := k) (b := N) (by omega) (by omega))) (fun _ => ?_)
    refine xr_aload_n dX10_go_36 3 rfl ?_
    refine xr_iload_n dX10_go_37 1 rfl ?_
    refine xb_cV (As := [.int (0)]) (rest := []) mlX10_252 (r0_lyingOf 0 e) dX10_go_38 s_62 rfl rfl (Nat.le_of_ble_eq_true rfl) (by decide) (by decide) ?_
    refine xr_istore (ls2 := [(4, .int (0)), (3, .int (nI (k))), (2, .int (0)), (1, .int (nI (N))), (0, .ref (62))]) dX10_go_41 (by decide) rfl ?_
    refine xr_aload_n dX10_go_43 4 rfl ?_
    refine xr_aload_n dX10_go_44 4 rfl ?_
    refine xb_get (v := M 62 9) flX10_151 dX10_go_45 s_62 rfl rfl ?_
    refine xr_callV (As := [.int (M 62 9)]) (rest := []) mlX10_255 (r0_tickGoes (M 62 9) e) dX10_go_48 s_62 rfl rfl (Nat.le_of_ble_eq_true rfl) (by decide) ⟨by decide, by decide⟩ (fun v s2 M1 J2 hq => ?_)
    obtain ⟨rfl, rfl, rfl, w2, rfl⟩ := hq
    try dsimp only [Option.toList, List.cons_append, List.nil_append]
    refine xr_aload_n dX10_go_51 4 rfl ?_
    refine xr_aload_n dX10_go_52 4 rfl ?_
    refine xr_iload_n dX10_go_53 2 rfl ?_
    refine xb_cV (As := [.int (0)]) (rest := [.ref (62)]) mlX10_252 (r0_lyingOf 0 (R0_up ⟨by decide, fun q => absurd q (by decide)⟩ e)) dX10_go_54 s_62 rfl rfl (Nat.le_of_ble_eq_true rfl) (by decide) (by decide) ?_
    refine xr_iload dX10_go_57 0 rfl ?_
    refine xr_icmp_le (tgt := 69) dX10_go_59 rfl (fun _ => ?_) (fun c => absurd (by decide) c)
    refine xr_aload_n dX10_go_69 4 rfl ?_
    refine xb_get (v := M 62 25) flX10_46 dX10_go_70 s_62 rfl (Eq.trans (x_up_k _ _ _ (by decide)) rfl) ?_
    refine xr_putI fpX10_46 dX10_go_73 s_62 rfl rfl rfl ?_
    refine xr_aload_n dX10_go_76 4 rfl ?_
    refine xr_dup dX10_go_77 rfl ?_
    refine xb_get (v := M 62 9) flX10_151 dX10_go_78 s_62 rfl (Eq.trans (x_up_k _ _ _ (by decide)) (Eq.trans (x_up_k _ _ _ (by decide)) rfl)) ?_
    refine xr_iconst (v := 1) dX10_go_81 rfl ?_
    refine xr_iadd dX10_go_82 ?_
    refine xr_putI fpX10_151 dX10_go_83 s_62 rfl rfl rfl ?_
    refine xr_iinc (v := nI (k + 1)) (ls2 := [(3, .int (nI (k + 1))), (4, .int (0)), (2, .int (0)), (1, .int (nI (N))), (0, .ref (62))]) dX10_go_86 1 rfl (nI_1 _) (by decide) rfl ?_
    refine xr_goto (tgt := 31) dX10_go_89 rfl ?_
    refine xb_ls (ls2 := [(3, .int (nI (k + 1))), (2, .int (0)), (1, .int (nI (N))), (0, .ref (62))]) [0, 2, 3, 4] rfl ?_
    exact ih (k + 1) (x_up (x_up (x_up M 62 23 w2) 62 25 (M 62 25)) 62 9 ((M 62 9) + 1)) (by omega) (R0_up ⟨by decide, fun q => absurd q (by decide)⟩ (R0_up ⟨by decide, fun q => absurd q (by decide)⟩ (R0_up ⟨by decide, fun q => absurd q (by decide)⟩ e)))
set_option maxRecDepth 100000 in
set_option maxHeartbeats 4000000 in
theorem p_X10_go (n : Int32) {l : Launch} {G : xG} {M : xM} {J : xJ} (hF : Fr M)  : x_M l G fX10_go 4 0 0 [.ref (62), .int (n)] x_SH M J (qR (some (.int (if 1 ≤ n ∧ n ≤ 200 then 0 else -1)))) := by
  refine xb_of pX10 (Nat.le_of_ble_eq_true rfl) rfl ?_
  refine xr_iload_n dX10_go_0 1 rfl ?_
  refine xr_i2l dX10_go_1 ?_
  refine xr_lconst (v := 1) dX10_go_2 rfl ?_
  refine xr_ldc2 coX10_244 dX10_go_3 ?_
  refine xb_cS (As := [.long ((n).toInt64), .long (1), .long (200)]) (rest := []) mlX10_101 (c_within32 (n) (1) (200) (by decide) (by decide)) dX10_go_6 rfl rfl (Nat.le_of_ble_eq_true rfl) (by decide) (by decide) ?_
  refine xb_bne (tgt := 14) dX10_go_9 rfl (fun c1 => ?_) (fun c1 => ?_)
  · refine xr_aload_n dX10_go_14 0 rfl ?_
    refine xb_cV (As := []) (rest := []) mlX10_246 (r0_upNow (R0_Fr hF)) dX10_go_15 s_62 rfl rfl (Nat.le_of_ble_eq_true rfl) (by decide) (by decide) ?_
    refine xr_istore_n (ls2 := [(2, .int (0)), (0, .ref (62)), (1, .int (n))]) dX10_go_18 (by decide) rfl ?_
    refine xr_aload_n dX10_go_19 1 rfl ?_
    refine xr_iload_n dX10_go_20 0 rfl ?_
    refine xb_cV (As := [.int (0)]) (rest := []) mlX10_249 (r0_begins1 0 (R0_Fr hF)) dX10_go_21 s_62 rfl rfl (Nat.le_of_ble_eq_true rfl) (by decide) (by decide) ?_
    refine xr_aload_n dX10_go_24 1 rfl ?_
    refine xr_iconst (v := 0) dX10_go_25 rfl ?_
    refine xr_putI fpX10_237 dX10_go_26 s_62 rfl rfl rfl ?_
    refine xr_iconst (v := 0) dX10_go_29 rfl ?_
    refine xr_istore_n (ls2 := [(3, .int (0)), (2, .int (0)), (0, .ref (62)), (1, .int (n))]) dX10_go_30 (by decide) rfl ?_
    obtain ⟨N, hN, rfl⟩ := x_natle (v := n) (N := 200) (by decide) rfl ⟨by grind, c1.2⟩
    refine xb_ls (ls2 := [(3, .int (nI (0))), (2, .int (0)), (1, .int (nI (N))), (0, .ref (62))]) [0, 1, 3, 2] rfl ?_
    exact rl_go N _ hN (by rw [if_pos ⟨by grind, by grind⟩]) N 0 (x_up M 62 23 0) (by omega) (R0_up ⟨by decide, fun q => absurd q (by decide)⟩ (R0_Fr hF))
  · refine xr_iconst (v := -1) dX10_go_12 rfl ?_
    exact xr_iret dX10_go_13 rfl rfl (by first | rfl | (refine congrArg (fun z => some (Value.int z)) ?_; first | exact (if_neg (by assumption)).symm | exact (if_pos (by assumption)).symm | grind))
theorem z_T_lt : ∀ k, (z_T k).2 < max 1 (z_T k).1
  | 0 => by decide
  | k + 1 => by
    have h := z_T_lt k
    show (z_stp (z_T k)).2 < max 1 (z_stp (z_T k)).1
    unfold z_stp
    split
    · exact h
    · split <;> dsimp only <;> omega
theorem z_T_12 {k : Nat} (h : 12 ≤ (z_T k).1) : ∀ m, (z_T (k + m)).1 = (z_T k).1
  | 0 => rfl
  | m + 1 => by
    have q := z_T_12 h m
    show (z_stp (z_T (k + m))).1 = _
    unfold z_stp
    rw [if_pos (by rw [q]; exact h)]
    exact q
set_option maxRecDepth 100000 in
set_option maxHeartbeats 4000000 in
theorem rl_learn {j : Nat} (hj : j < 25) (N : Nat) (R : Int32) (hN : N ≤ 99) (hR : nI (z_T N).1 = R) {l : Launch} {G : xG} {J : xJ} : ∀ (m k : Nat) (M : xM), k + m = N → (M 75 j = nI (z_T k).1 ∧ M 76 j = nI (z_T k).2) → x_X l G fX10_learn 4 0 0 (qR (some (.int R))) 23 [(3, .int (nI (k))), (2, .int (nI (N))), (1, .int (nI (j))), (0, .ref (62))] [] x_SH M J 0 0 := by
  intro m
  induction m with
  | zero =>
    intro k M hk e
    have q1 := z_T_in k
    refine xr_iload_n dX10_learn_23 0 rfl ?_
    refine xr_iload_n dX10_learn_24 1 rfl ?_
    refine xr_icmp_ge (tgt := 90) dX10_learn_25 rfl (fun _ => ?_) (fun c => absurd (nI_le (a := N) (b := k) (by omega) (by omega)) c)
    refine xr_aload_n dX10_learn_90 3 rfl ?_
    refine xr_getR flX10_50 dX10_learn_91 s_62 rfl ?_
    refine xr_iload_n dX10_learn_94 2 rfl ?_
    refine xb_iald (j := j) (v := nI ((z_T k).1)) dX10_learn_95 s_75 hj (by decide) e.1 ?_
    exact xr_iret dX10_learn_96 rfl rfl ((show k = N from by omega) ▸ congrArg (fun z => some (Value.int z)) hR)
  | succ m ih =>
    intro k M hk e
    have q1 := z_T_in k
    refine xr_iload_n dX10_learn_23 0 rfl ?_
    refine xr_iload_n dX10_learn_24 1 rfl ?_
    refine xr_icmp_ge (tgt := 90) dX10_learn_25 rfl (fun c => absurd c (nI_ge (a := k) (b := N) (by omega) (by omega))) (fun _ => ?_)
    refine xr_aload_n dX10_learn_28 3 rfl ?_
    refine xr_getR flX10_50 dX10_learn_29 s_62 rfl ?_
    refine xr_iload_n dX10_learn_32 2 rfl ?_
    refine xb_iald (j := j) (v := nI ((z_T k).1)) dX10_learn_33 s_75 hj (by decide) e.1 ?_
    refine xr_bipush (v := 12) dX10_learn_34 rfl ?_
    refine xr_icmp_ge (tgt := 90) dX10_learn_36 rfl (fun c1 => ?_) (fun c1 => ?_)
    · have nc1 : 12 ≤ (z_T k).1 := (nI_leI (a := 12) (b := (z_T k).1) (by omega) (by omega)).mp c1
      refine xr_aload_n dX10_learn_90 3 rfl ?_
      refine xr_getR flX10_50 dX10_learn_91 s_62 rfl ?_
      refine xr_iload_n dX10_learn_94 2 rfl ?_
      refine xb_iald (j := j) (v := nI ((z_T k).1)) dX10_learn_95 s_75 hj (by decide) e.1 ?_
      exact xr_iret dX10_learn_96 rfl rfl (congrArg (fun z => some (Value.int z)) (Eq.trans (congrArg nI (by have q := z_T_12 (k := k) (by omega) (N - k); rw [show k + (N - k) = N by omega] at q; exact q.symm)) hR))
    · have nc1 : ¬ (12 ≤ (z_T k).1) := fun q => c1 ((nI_leI (a := 12) (b := (z_T k).1) (by omega) (by omega)).mpr q)
      refine xr_aload_n dX10_learn_39 3 rfl ?_
      refine xr_getR flX10_53 dX10_learn_40 s_62 rfl ?_
      refine xr_iload_n dX10_learn_43 2 rfl ?_
      refine xr_dup2 dX10_learn_44 rfl rfl ?_
      refine xb_iald (j := j) (v := nI ((z_T k).2)) dX10_learn_45 s_76 hj (by decide) e.2 ?_
      refine xr_iconst (v := 1) dX10_learn_46 rfl ?_
      refine xr_iadd dX10_learn_47 ?_
      refine xb_top (y := nI ((z_T k).2 + 1)) (nI_add ((z_T k).2) (1)) ?_
      refine xb_iast (j := j) dX10_learn_48 s_76 hj (by decide) ?_
      refine xr_aload_n dX10_learn_49 3 rfl ?_
      refine xr_getR flX10_53 dX10_learn_50 s_62 rfl ?_
      refine xr_iload_n dX10_learn_53 2 rfl ?_
      refine xb_iald (j := j) (v := nI ((z_T k).2 + 1)) dX10_learn_54 s_76 hj (by decide) (x_up_s _ _ _ _) ?_
      refine xr_aload_n dX10_learn_55 3 rfl ?_
      refine xr_getR flX10_50 dX10_learn_56 s_62 rfl ?_
      refine xr_iload_n dX10_learn_59 2 rfl ?_
      refine xb_iald (j := j) (v := nI ((z_T k).1)) dX10_learn_60 s_75 hj (by decide) (Eq.trans (congrFun (x_up_n _ _ _ (by decide)) _) e.1) ?_
      refine xb_cS (As := [.int (nI ((z_T k).1))]) (rest := [.int (nI ((z_T k).2 + 1))]) mlX10_324 (c_needsOf (s := (z_T k).1) (by omega)) dX10_learn_61 rfl rfl (Nat.le_of_ble_eq_true rfl) (by decide) (by decide) ?_
      refine xr_icmp_ne (tgt := 84) dX10_learn_64 rfl (fun c2 => ?_) (fun c2 => ?_)
      · have nc2 : ¬ ((z_T k).2 + 1 = max 1 ((z_T k).1)) := fun q => c2 ((nI_eq (a := (z_T k).2 + 1) (b := max 1 ((z_T k).1)) (by omega) (by omega)).mpr q)
        refine xr_iinc (v := nI (k + 1)) (ls2 := [(3, .int (nI (k + 1))), (2, .int (nI (N))), (1, .int (nI (j))), (0, .ref (62))]) dX10_learn_84 0 rfl (nI_1 _) (by decide) rfl ?_
        refine xr_goto (tgt := 23) dX10_learn_87 rfl ?_
        refine xb_ls (ls2 := [(3, .int (nI (k + 1))), (2, .int (nI (N))), (1, .int (nI (j))), (0, .ref (62))]) [0, 1, 2, 3] rfl ?_
        exact ih (k + 1) (x_up M 76 j (nI ((z_T k).2 + 1))) (by omega) ⟨Eq.trans (Eq.trans (congrFun (x_up_n _ _ _ (by decide)) _) e.1) (congrArg nI (show (z_T k).1 = (z_T (k + 1)).1 from (by have q1 := z_T_lt k; have q2 := (z_T_in k).1; show _ = (z_stp (z_T k)).1; simp only [z_stp]; (repeat' split) <;> (try dsimp only) <;> omega))), Eq.trans (x_up_s _ _ _ _) (congrArg nI (show (z_T k).2 + 1 = (z_T (k + 1)).2 from (by have q1 := z_T_lt k; have q2 := (z_T_in k).1; show _ = (z_stp (z_T k)).2; simp only [z_stp]; (repeat' split) <;> (try dsimp only) <;> omega)))⟩
      · have nc2 : (z_T k).2 + 1 = max 1 ((z_T k).1) := (nI_eq (a := (z_T k).2 + 1) (b := max 1 ((z_T k).1)) (by omega) (by omega)).mp c2
        refine xr_aload_n dX10_learn_67 3 rfl ?_
        refine xr_getR flX10_50 dX10_learn_68 s_62 rfl ?_
        refine xr_iload_n dX10_learn_71 2 rfl ?_
        refine xr_dup2 dX10_learn_72 rfl rfl ?_
        refine xb_iald (j := j) (v := nI ((z_T k).1)) dX10_learn_73 s_75 hj (by decide) (Eq.trans (congrFun (x_up_n _ _ _ (by decide)) _) e.1) ?_
        refine xr_iconst (v := 1) dX10_learn_74 rfl ?_
        refine xr_iadd dX10_learn_75 ?_
        refine xb_top (y := nI ((z_T k).1 + 1)) (nI_add ((z_T k).1) (1)) ?_
        refine xb_iast (j := j) dX10_learn_76 s_75 hj (by decide) ?_
        refine xr_aload_n dX10_learn_77 3 rfl ?_
        refine xr_getR flX10_53 dX10_learn_78 s_62 rfl ?_
        refine xr_iload_n dX10_learn_81 2 rfl ?_
        refine xr_iconst (v := 0) dX10_learn_82 rfl ?_
        refine xb_iast (j := j) dX10_learn_83 s_76 hj (by decide) ?_
        refine xr_iinc (v := nI (k + 1)) (ls2 := [(3, .int (nI (k + 1))), (2, .int (nI (N))), (1, .int (nI (j))), (0, .ref (62))]) dX10_learn_84 0 rfl (nI_1 _) (by decide) rfl ?_
        refine xr_goto (tgt := 23) dX10_learn_87 rfl ?_
        refine xb_ls (ls2 := [(3, .int (nI (k + 1))), (2, .int (nI (N))), (1, .int (nI (j))), (0, .ref (62))]) [0, 1, 2, 3] rfl ?_
        exact ih (k + 1) (x_up (x_up (x_up M 76 j (nI ((z_T k).2 + 1))) 75 j (nI ((z_T k).1 + 1))) 76 j 0) (by omega) ⟨Eq.trans (Eq.trans (congrFun (x_up_n _ _ _ (by decide)) _) (x_up_s _ _ _ _)) (congrArg nI (show (z_T k).1 + 1 = (z_T (k + 1)).1 from (by have q1 := z_T_lt k; have q2 := (z_T_in k).1; show _ = (z_stp (z_T k)).1; simp only [z_stp]; (repeat' split) <;> (try dsimp only) <;> omega))), Eq.trans (x_up_s _ _ _ _) (congrArg nI (show 0 = (z_T (k + 1)).2 from (by have q1 := z_T_lt k; have q2 := (z_T_in k).1; show _ = (z_stp (z_T k)).2; simp only [z_stp]; (repeat' split) <;> (try dsimp only) <;> omega)))⟩
set_option maxRecDepth 100000 in
set_option maxHeartbeats 4000000 in
theorem p_X10_learn (girl n : Int32) {l : Launch} {G : xG} {M : xM} {J : xJ} (hF : Fr M)  : x_M l G fX10_learn 4 0 0 [.ref (62), .int (girl), .int (n)] x_SH M J (qR (some (.int (if (0 ≤ girl ∧ girl < 25) ∧ 1 ≤ n ∧ n ≤ 99 then nI (z_T n.toNatClampNeg).1 else -1)))) := by
  refine xb_of pX10 (Nat.le_of_ble_eq_true rfl) rfl ?_
  refine xr_iload_n dX10_learn_0 1 rfl ?_
  refine xb_cS (As := [.int (girl)]) (rest := []) mlX10_293 (c_X10_isGirl girl) dX10_learn_1 rfl rfl (Nat.le_of_ble_eq_true rfl) (by decide) (by decide) ?_
  refine xb_beq (tgt := 19) dX10_learn_4 rfl (fun c1 => ?_) (fun c1 => ?_)
  · refine xr_iconst (v := -1) dX10_learn_19 rfl ?_
    exact xr_iret dX10_learn_20 rfl rfl (by first | rfl | (refine congrArg (fun z => some (Value.int z)) ?_; first | exact (if_neg (by assumption)).symm | exact (if_pos (by assumption)).symm | grind))
  · obtain ⟨j, hj, rfl⟩ := x_natle (N := 24) (by decide) rfl c1
    replace hj := Nat.lt_succ_of_le hj
    refine xr_iload_n dX10_learn_7 2 rfl ?_
    refine xr_i2l dX10_learn_8 ?_
    refine xr_lconst (v := 1) dX10_learn_9 rfl ?_
    refine xr_ldc2 coX10_322 dX10_learn_10 ?_
    refine xb_cS (As := [.long ((n).toInt64), .long (1), .long (99)]) (rest := []) mlX10_101 (c_within32 (n) (1) (99) (by decide) (by decide)) dX10_learn_13 rfl rfl (Nat.le_of_ble_eq_true rfl) (by decide) (by decide) ?_
    refine xb_bne (tgt := 21) dX10_learn_16 rfl (fun c2 => ?_) (fun c2 => ?_)
    · refine xr_iconst (v := 0) dX10_learn_21 rfl ?_
      refine xr_istore_n (ls2 := [(3, .int (0)), (0, .ref (62)), (1, .int (nI (j))), (2, .int (n))]) dX10_learn_22 (by decide) rfl ?_
      obtain ⟨N, hN, rfl⟩ := x_natle (v := n) (N := 99) (by decide) rfl ⟨by grind, c2.2⟩
      refine xb_ls (ls2 := [(3, .int (nI (0))), (2, .int (nI (N))), (1, .int (nI (j))), (0, .ref (62))]) [0, 3, 2, 1] rfl ?_
      exact rl_learn hj N _ hN (by rw [if_pos ⟨⟨by grind, by grind⟩, by grind, by grind⟩, nI_clamp (by omega)]) N 0 M (by omega) ⟨mi_75 hF j hj, mi_76 hF j hj⟩
    · refine xr_iconst (v := -1) dX10_learn_19 rfl ?_
      exact xr_iret dX10_learn_20 rfl rfl (by first | rfl | (refine congrArg (fun z => some (Value.int z)) ?_; first | exact (if_neg (by assumption)).symm | exact (if_pos (by assumption)).symm | grind))
