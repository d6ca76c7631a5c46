theorem dX9_settingOf_0 : decode cX9_settingOf 0 = .ok (.iload_n 1, 1) := by decide +kernel
theorem dX9_settingOf_1 : decode cX9_settingOf 1 = .ok (.tableswitch 87 10 15 #[39, 47, 55, 63, 71, 79], 39) := by decide +kernel
theorem dX9_settingOf_40 : decode cX9_settingOf 40 = .ok (.aload_n 0, 1) := by decide +kernel
theorem dX9_settingOf_41 : decode cX9_settingOf 41 = .ok (.getfield 28, 3) := by decide +kernel
theorem dX9_settingOf_44 : decode cX9_settingOf 44 = .ok (.getfield 410, 3) := by decide +kernel
theorem dX9_settingOf_47 : decode cX9_settingOf 47 = .ok (.ireturn, 1) := by decide +kernel
theorem dX9_settingOf_48 : decode cX9_settingOf 48 = .ok (.aload_n 0, 1) := by decide +kernel
theorem dX9_settingOf_49 : decode cX9_settingOf 49 = .ok (.getfield 28, 3) := by decide +kernel
theorem dX9_settingOf_52 : decode cX9_settingOf 52 = .ok (.getfield 202, 3) := by decide +kernel
theorem dX9_settingOf_55 : decode cX9_settingOf 55 = .ok (.ireturn, 1) := by decide +kernel
theorem dX9_settingOf_56 : decode cX9_settingOf 56 = .ok (.aload_n 0, 1) := by decide +kernel
theorem dX9_settingOf_57 : decode cX9_settingOf 57 = .ok (.getfield 28, 3) := by decide +kernel
theorem dX9_settingOf_60 : decode cX9_settingOf 60 = .ok (.getfield 205, 3) := by decide +kernel
theorem dX9_settingOf_63 : decode cX9_settingOf 63 = .ok (.ireturn, 1) := by decide +kernel
theorem dX9_settingOf_64 : decode cX9_settingOf 64 = .ok (.aload_n 0, 1) := by decide +kernel
theorem dX9_settingOf_65 : decode cX9_settingOf 65 = .ok (.getfield 28, 3) := by decide +kernel
theorem dX9_settingOf_68 : decode cX9_settingOf 68 = .ok (.getfield 208, 3) := by decide +kernel
theorem dX9_settingOf_71 : decode cX9_settingOf 71 = .ok (.ireturn, 1) := by decide +kernel
theorem dX9_settingOf_72 : decode cX9_settingOf 72 = .ok (.aload_n 0, 1) := by decide +kernel
theorem dX9_settingOf_73 : decode cX9_settingOf 73 = .ok (.getfield 47, 3) := by decide +kernel
theorem dX9_settingOf_76 : decode cX9_settingOf 76 = .ok (.getfield 413, 3) := by decide +kernel
theorem dX9_settingOf_79 : decode cX9_settingOf 79 = .ok (.ireturn, 1) := by decide +kernel
theorem dX9_settingOf_80 : decode cX9_settingOf 80 = .ok (.aload_n 0, 1) := by decide +kernel
theorem dX9_settingOf_81 : decode cX9_settingOf 81 = .ok (.getfield 28, 3) := by decide +kernel
theorem dX9_settingOf_84 : decode cX9_settingOf 84 = .ok (.getfield 303, 3) := by decide +kernel
theorem dX9_settingOf_87 : decode cX9_settingOf 87 = .ok (.ireturn, 1) := by decide +kernel
theorem dX9_settingOf_88 : decode cX9_settingOf 88 = .ok (.ldc 105, 2) := by decide +kernel
theorem dX9_settingOf_90 : decode cX9_settingOf 90 = .ok (.ireturn, 1) := by decide +kernel
theorem dX5_addHoop_0 : decode cX5_addHoop 0 = .ok (.aload_n 0, 1) := by decide +kernel
theorem dX5_addHoop_1 : decode cX5_addHoop 1 = .ok (.invokevirtual 54, 3) := by decide +kernel
theorem dX5_addHoop_4 : decode cX5_addHoop 4 = .ok (.ifCond .eq 6, 3) := by decide +kernel
theorem dX5_addHoop_10 : decode cX5_addHoop 10 = .ok (.aload_n 0, 1) := by decide +kernel
theorem dX5_addHoop_11 : decode cX5_addHoop 11 = .ok (.getfield 17, 3) := by decide +kernel
theorem dX5_addHoop_14 : decode cX5_addHoop 14 = .ok (.aload_n 0, 1) := by decide +kernel
theorem dX5_addHoop_15 : decode cX5_addHoop 15 = .ok (.getfield 35, 3) := by decide +kernel
theorem dX5_addHoop_18 : decode cX5_addHoop 18 = .ok (.aaload, 1) := by decide +kernel
theorem dX5_addHoop_19 : decode cX5_addHoop 19 = .ok (.astore 4, 2) := by decide +kernel
theorem dX5_addHoop_21 : decode cX5_addHoop 21 = .ok (.aload 4, 2) := by decide +kernel
theorem dX5_addHoop_23 : decode cX5_addHoop 23 = .ok (.iload_n 1, 1) := by decide +kernel
theorem dX5_addHoop_24 : decode cX5_addHoop 24 = .ok (.putfield 58, 3) := by decide +kernel
theorem dX5_addHoop_27 : decode cX5_addHoop 27 = .ok (.aload 4, 2) := by decide +kernel
theorem dX5_addHoop_29 : decode cX5_addHoop 29 = .ok (.iload_n 2, 1) := by decide +kernel
theorem dX5_addHoop_30 : decode cX5_addHoop 30 = .ok (.putfield 61, 3) := by decide +kernel
theorem dX5_addHoop_33 : decode cX5_addHoop 33 = .ok (.aload 4, 2) := by decide +kernel
theorem dX5_addHoop_35 : decode cX5_addHoop 35 = .ok (.invokevirtual 64, 3) := by decide +kernel
theorem dX5_addHoop_38 : decode cX5_addHoop 38 = .ok (.aload 4, 2) := by decide +kernel
theorem dX5_addHoop_40 : decode cX5_addHoop 40 = .ok (.iload_n 3, 1) := by decide +kernel
theorem dX5_addHoop_41 : decode cX5_addHoop 41 = .ok (.putfield 67, 3) := by decide +kernel
theorem dX5_addHoop_44 : decode cX5_addHoop 44 = .ok (.aload_n 0, 1) := by decide +kernel
theorem dX5_addHoop_45 : decode cX5_addHoop 45 = .ok (.dup, 1) := by decide +kernel
theorem dX5_addHoop_46 : decode cX5_addHoop 46 = .ok (.getfield 35, 3) := by decide +kernel
theorem dX5_addHoop_49 : decode cX5_addHoop 49 = .ok (.iconst 1, 1) := by decide +kernel
theorem dX5_addHoop_50 : decode cX5_addHoop 50 = .ok (.iadd, 1) := by decide +kernel
theorem dX5_addHoop_51 : decode cX5_addHoop 51 = .ok (.putfield 35, 3) := by decide +kernel
theorem dX5_addHoop_54 : decode cX5_addHoop 54 = .ok (.aload_n 0, 1) := by decide +kernel
theorem dX5_addHoop_55 : decode cX5_addHoop 55 = .ok (.getfield 35, 3) := by decide +kernel
theorem dX5_addHoop_58 : decode cX5_addHoop 58 = .ok (.iconst 1, 1) := by decide +kernel
theorem dX5_addHoop_59 : decode cX5_addHoop 59 = .ok (.isub, 1) := by decide +kernel
theorem dX5_addHoop_60 : decode cX5_addHoop 60 = .ok (.ireturn, 1) := by decide +kernel
theorem dX9_hoop_0 : decode cX9_hoop 0 = .ok (.iload_n 1, 1) := by decide +kernel
theorem dX9_hoop_1 : decode cX9_hoop 1 = .ok (.ifCond .lt 23, 3) := by decide +kernel
theorem dX9_hoop_24 : decode cX9_hoop 24 = .ok (.iconst (-1), 1) := by decide +kernel
theorem dX9_hoop_25 : decode cX9_hoop 25 = .ok (.ireturn, 1) := by decide +kernel
theorem dX9_hoop_4 : decode cX9_hoop 4 = .ok (.iload_n 1, 1) := by decide +kernel
theorem dX9_hoop_5 : decode cX9_hoop 5 = .ok (.bipush 10, 2) := by decide +kernel
theorem dX9_hoop_7 : decode cX9_hoop 7 = .ok (.idiv, 1) := by decide +kernel
theorem dX9_hoop_8 : decode cX9_hoop 8 = .ok (.invokestatic 76, 3) := by decide +kernel
theorem dX9_hoop_11 : decode cX9_hoop 11 = .ok (.ifCond .eq 13, 3) := by decide +kernel
theorem dX9_hoop_14 : decode cX9_hoop 14 = .ok (.iload_n 1, 1) := by decide +kernel
theorem dX9_hoop_15 : decode cX9_hoop 15 = .ok (.bipush 10, 2) := by decide +kernel
theorem dX9_hoop_17 : decode cX9_hoop 17 = .ok (.irem, 1) := by decide +kernel
theorem dX9_hoop_18 : decode cX9_hoop 18 = .ok (.invokestatic 76, 3) := by decide +kernel
theorem dX9_hoop_21 : decode cX9_hoop 21 = .ok (.ifCond .ne 5, 3) := by decide +kernel
theorem dX9_hoop_26 : decode cX9_hoop 26 = .ok (.aload_n 0, 1) := by decide +kernel
theorem dX9_hoop_27 : decode cX9_hoop 27 = .ok (.getfield 28, 3) := by decide +kernel
theorem dX9_hoop_30 : decode cX9_hoop 30 = .ok (.invokevirtual 80, 3) := by decide +kernel
theorem dX9_hoop_33 : decode cX9_hoop 33 = .ok (.ifCond .eq 6, 3) := by decide +kernel
theorem dX9_hoop_39 : decode cX9_hoop 39 = .ok (.aload_n 0, 1) := by decide +kernel
theorem dX9_hoop_40 : decode cX9_hoop 40 = .ok (.getfield 28, 3) := by decide +kernel
theorem dX9_hoop_43 : decode cX9_hoop 43 = .ok (.iload_n 1, 1) := by decide +kernel
theorem dX9_hoop_44 : decode cX9_hoop 44 = .ok (.bipush 10, 2) := by decide +kernel
theorem dX9_hoop_46 : decode cX9_hoop 46 = .ok (.idiv, 1) := by decide +kernel
theorem dX9_hoop_47 : decode cX9_hoop 47 = .ok (.iload_n 1, 1) := by decide +kernel
theorem dX9_hoop_48 : decode cX9_hoop 48 = .ok (.bipush 10, 2) := by decide +kernel
theorem dX9_hoop_50 : decode cX9_hoop 50 = .ok (.irem, 1) := by decide +kernel
theorem dX9_hoop_51 : decode cX9_hoop 51 = .ok (.iconst 4, 1) := by decide +kernel
theorem dX9_hoop_52 : decode cX9_hoop 52 = .ok (.invokevirtual 84, 3) := by decide +kernel
theorem dX9_hoop_55 : decode cX9_hoop 55 = .ok (.ireturn, 1) := by decide +kernel
theorem dX9_led_0 : decode cX9_led 0 = .ok (.iload_n 1, 1) := by decide +kernel
theorem dX9_led_1 : decode cX9_led 1 = .ok (.ifCond .ne 11, 3) := by decide +kernel
theorem dX9_led_12 : decode cX9_led 12 = .ok (.iload_n 1, 1) := by decide +kernel
theorem dX9_led_13 : decode cX9_led 13 = .ok (.iconst 1, 1) := by decide +kernel
theorem dX9_led_14 : decode cX9_led 14 = .ok (.if_icmp .ne 13, 3) := by decide +kernel
theorem dX9_led_27 : decode cX9_led 27 = .ok (.iconst (-1), 1) := by decide +kernel
theorem dX9_led_28 : decode cX9_led 28 = .ok (.ireturn, 1) := by decide +kernel
theorem dX9_led_17 : decode cX9_led 17 = .ok (.aload_n 0, 1) := by decide +kernel
theorem dX9_led_18 : decode cX9_led 18 = .ok (.getfield 28, 3) := by decide +kernel
theorem dX9_led_21 : decode cX9_led 21 = .ok (.getfield 176, 3) := by decide +kernel
theorem dX9_led_24 : decode cX9_led 24 = .ok (.goto 4, 3) := by decide +kernel
theorem dX9_led_4 : decode cX9_led 4 = .ok (.aload_n 0, 1) := by decide +kernel
theorem dX9_led_5 : decode cX9_led 5 = .ok (.getfield 28, 3) := by decide +kernel
theorem dX9_led_8 : decode cX9_led 8 = .ok (.getfield 173, 3) := by decide +kernel
theorem dX9_led_11 : decode cX9_led 11 = .ok (.ireturn, 1) := by decide +kernel
theorem dX9_of_0 : decode cX9_of 0 = .ok (.iload_n 2, 1) := by decide +kernel
theorem dX9_of_1 : decode cX9_of 1 = .ok (.ifCond .lt 38, 3) := by decide +kernel
theorem dX9_of_39 : decode cX9_of 39 = .ok (.iload_n 2, 1) := by decide +kernel
theorem dX9_of_40 : decode cX9_of 40 = .ok (.bipush 10, 2) := by decide +kernel
theorem dX9_of_42 : decode cX9_of 42 = .ok (.if_icmp .lt 24, 3) := by decide +kernel
theorem dX9_of_66 : decode cX9_of 66 = .ok (.iload_n 2, 1) := by decide +kernel
theorem dX9_of_67 : decode cX9_of 67 = .ok (.bipush 20, 2) := by decide +kernel
theorem dX9_of_69 : decode cX9_of 69 = .ok (.if_icmp .eq 9, 3) := by decide +kernel
theorem dX9_of_78 : decode cX9_of 78 = .ok (.iload_n 1, 1) := by decide +kernel
theorem dX9_of_79 : decode cX9_of 79 = .ok (.invokestatic 134, 3) := by decide +kernel
theorem dX9_of_82 : decode cX9_of 82 = .ok (.ifCond .eq 31, 3) := by decide +kernel
theorem dX9_of_113 : decode cX9_of 113 = .ok (.ldc 105, 2) := by decide +kernel
theorem dX9_of_115 : decode cX9_of 115 = .ok (.ireturn, 1) := by decide +kernel
theorem dX9_of_85 : decode cX9_of 85 = .ok (.iload_n 2, 1) := by decide +kernel
theorem dX9_of_86 : decode cX9_of 86 = .ok (.bipush 20, 2) := by decide +kernel
theorem dX9_of_88 : decode cX9_of 88 = .ok (.if_icmp .ne 15, 3) := by decide +kernel
theorem dX9_of_103 : decode cX9_of 103 = .ok (.aload_n 0, 1) := by decide +kernel
theorem dX9_of_104 : decode cX9_of 104 = .ok (.getfield 47, 3) := by decide +kernel
theorem dX9_of_107 : decode cX9_of 107 = .ok (.getfield 141, 3) := by decide +kernel
theorem dX9_of_110 : decode cX9_of 110 = .ok (.iload_n 1, 1) := by decide +kernel
theorem dX9_of_111 : decode cX9_of 111 = .ok (.iaload, 1) := by decide +kernel
theorem dX9_of_112 : decode cX9_of 112 = .ok (.ireturn, 1) := by decide +kernel
theorem dX9_of_91 : decode cX9_of 91 = .ok (.aload_n 0, 1) := by decide +kernel
theorem dX9_of_92 : decode cX9_of 92 = .ok (.getfield 47, 3) := by decide +kernel
theorem dX9_of_95 : decode cX9_of 95 = .ok (.getfield 137, 3) := by decide +kernel
theorem dX9_of_98 : decode cX9_of 98 = .ok (.iload_n 1, 1) := by decide +kernel
theorem dX9_of_99 : decode cX9_of 99 = .ok (.iaload, 1) := by decide +kernel
theorem dX9_of_100 : decode cX9_of 100 = .ok (.goto 12, 3) := by decide +kernel
theorem dX9_of_72 : decode cX9_of 72 = .ok (.iload_n 2, 1) := by decide +kernel
theorem dX9_of_73 : decode cX9_of 73 = .ok (.bipush 21, 2) := by decide +kernel
theorem dX9_of_75 : decode cX9_of 75 = .ok (.if_icmp .ne 38, 3) := by decide +kernel
theorem dX9_of_45 : decode cX9_of 45 = .ok (.iload_n 2, 1) := by decide +kernel
theorem dX9_of_46 : decode cX9_of 46 = .ok (.bipush 15, 2) := by decide +kernel
theorem dX9_of_48 : decode cX9_of 48 = .ok (.if_icmp .gt 18, 3) := by decide +kernel
theorem dX9_of_51 : decode cX9_of 51 = .ok (.iload_n 1, 1) := by decide +kernel
theorem dX9_of_52 : decode cX9_of 52 = .ok (.ifCond .ne 11, 3) := by decide +kernel
theorem dX9_of_63 : decode cX9_of 63 = .ok (.ldc 105, 2) := by decide +kernel
theorem dX9_of_65 : decode cX9_of 65 = .ok (.ireturn, 1) := by decide +kernel
theorem dX9_of_55 : decode cX9_of 55 = .ok (.aload_n 0, 1) := by decide +kernel
theorem dX9_of_56 : decode cX9_of 56 = .ok (.iload_n 2, 1) := by decide +kernel
theorem dX9_of_57 : decode cX9_of 57 = .ok (.invokevirtual 131, 3) := by decide +kernel
theorem dX9_of_60 : decode cX9_of 60 = .ok (.goto 5, 3) := by decide +kernel
theorem dX9_of_4 : decode cX9_of 4 = .ok (.iload_n 2, 1) := by decide +kernel
theorem dX9_of_5 : decode cX9_of 5 = .ok (.iconst 5, 1) := by decide +kernel
theorem dX9_of_6 : decode cX9_of 6 = .ok (.if_icmp .gt 33, 3) := by decide +kernel
theorem dX9_of_9 : decode cX9_of 9 = .ok (.aload_n 0, 1) := by decide +kernel
theorem dX9_of_10 : decode cX9_of 10 = .ok (.getfield 28, 3) := by decide +kernel
theorem dX9_of_13 : decode cX9_of 13 = .ok (.iload_n 1, 1) := by decide +kernel
theorem dX9_of_14 : decode cX9_of 14 = .ok (.invokevirtual 118, 3) := by decide +kernel
theorem dX9_of_17 : decode cX9_of 17 = .ok (.ifCond .eq 19, 3) := by decide +kernel
theorem dX9_of_36 : decode cX9_of 36 = .ok (.ldc 105, 2) := by decide +kernel
theorem dX9_of_38 : decode cX9_of 38 = .ok (.ireturn, 1) := by decide +kernel
theorem dX9_lift_0 : decode cX9_lift 0 = .ok (.aload_n 0, 1) := by decide +kernel
theorem dX9_lift_1 : decode cX9_lift 1 = .ok (.getfield 28, 3) := by decide +kernel
theorem dX9_lift_4 : decode cX9_lift 4 = .ok (.iload_n 1, 1) := by decide +kernel
theorem dX9_lift_5 : decode cX9_lift 5 = .ok (.invokevirtual 118, 3) := by decide +kernel
theorem dX9_lift_8 : decode cX9_lift 8 = .ok (.ifCond .ne 5, 3) := by decide +kernel
theorem dX9_lift_11 : decode cX9_lift 11 = .ok (.iconst (-1), 1) := by decide +kernel
theorem dX9_lift_12 : decode cX9_lift 12 = .ok (.ireturn, 1) := by decide +kernel
theorem dX9_then_0 : decode cX9_then 0 = .ok (.aload_n 0, 1) := by decide +kernel
theorem dX9_then_1 : decode cX9_then 1 = .ok (.getfield 28, 3) := by decide +kernel
theorem dX9_then_4 : decode cX9_then 4 = .ok (.iload_n 1, 1) := by decide +kernel
theorem dX9_then_5 : decode cX9_then 5 = .ok (.invokevirtual 118, 3) := by decide +kernel
theorem dX9_then_8 : decode cX9_then 8 = .ok (.ifCond .eq 23, 3) := by decide +kernel
theorem dX9_then_31 : decode cX9_then 31 = .ok (.ldc 105, 2) := by decide +kernel
theorem dX9_then_33 : decode cX9_then 33 = .ok (.ireturn, 1) := by decide +kernel
theorem dX9_falls_0 : decode cX9_falls 0 = .ok (.aload_n 0, 1) := by decide +kernel
theorem dX9_falls_1 : decode cX9_falls 1 = .ok (.getfield 28, 3) := by decide +kernel
theorem dX9_falls_4 : decode cX9_falls 4 = .ok (.iload_n 1, 1) := by decide +kernel
theorem dX9_falls_5 : decode cX9_falls 5 = .ok (.invokevirtual 118, 3) := by decide +kernel
theorem dX9_falls_8 : decode cX9_falls 8 = .ok (.ifCond .ne 5, 3) := by decide +kernel
theorem dX9_falls_11 : decode cX9_falls 11 = .ok (.iconst (-1), 1) := by decide +kernel
theorem dX9_falls_12 : decode cX9_falls 12 = .ok (.ireturn, 1) := by decide +kernel
theorem dX9_lasts_0 : decode cX9_lasts 0 = .ok (.aload_n 0, 1) := by decide +kernel
theorem dX9_lasts_1 : decode cX9_lasts 1 = .ok (.getfield 40, 3) := by decide +kernel
theorem dX9_lasts_4 : decode cX9_lasts 4 = .ok (.invokevirtual 192, 3) := by decide +kernel
theorem dX9_lasts_7 : decode cX9_lasts 7 = .ok (.aload_n 0, 1) := by decide +kernel
theorem dX9_lasts_8 : decode cX9_lasts 8 = .ok (.getfield 40, 3) := by decide +kernel
theorem dX9_lasts_11 : decode cX9_lasts 11 = .ok (.invokevirtual 198, 3) := by decide +kernel
theorem dX9_lasts_14 : decode cX9_lasts 14 = .ok (.ireturn, 1) := by decide +kernel
theorem dX9_leastPush_0 : decode cX9_leastPush 0 = .ok (.iload_n 1, 1) := by decide +kernel
theorem dX9_leastPush_1 : decode cX9_leastPush 1 = .ok (.iconst 1, 1) := by decide +kernel
theorem dX9_leastPush_2 : decode cX9_leastPush 2 = .ok (.if_icmp .lt 10, 3) := by decide +kernel
theorem dX9_leastPush_12 : decode cX9_leastPush 12 = .ok (.iconst (-1), 1) := by decide +kernel
theorem dX9_leastPush_13 : decode cX9_leastPush 13 = .ok (.ireturn, 1) := by decide +kernel
theorem dX9_leastPush_5 : decode cX9_leastPush 5 = .ok (.iload_n 1, 1) := by decide +kernel
theorem dX9_leastPush_6 : decode cX9_leastPush 6 = .ok (.sipush 200, 3) := by decide +kernel
theorem dX9_leastPush_9 : decode cX9_leastPush 9 = .ok (.if_icmp .le 5, 3) := by decide +kernel
theorem dX9_leastPush_14 : decode cX9_leastPush 14 = .ok (.iconst 0, 1) := by decide +kernel
theorem dX9_leastPush_15 : decode cX9_leastPush 15 = .ok (.istore_n 2, 1) := by decide +kernel
theorem dX9_leastPush_16 : decode cX9_leastPush 16 = .ok (.iload_n 2, 1) := by decide +kernel
theorem dX9_leastPush_17 : decode cX9_leastPush 17 = .ok (.iconst 5, 1) := by decide +kernel
theorem dX9_leastPush_18 : decode cX9_leastPush 18 = .ok (.if_icmp .gt 40, 3) := by decide +kernel
theorem dX9_leastPush_21 : decode cX9_leastPush 21 = .ok (.aload_n 0, 1) := by decide +kernel
theorem dX9_leastPush_22 : decode cX9_leastPush 22 = .ok (.getfield 40, 3) := by decide +kernel
theorem dX9_leastPush_25 : decode cX9_leastPush 25 = .ok (.invokevirtual 192, 3) := by decide +kernel
theorem dX9_leastPush_28 : decode cX9_leastPush 28 = .ok (.aload_n 0, 1) := by decide +kernel
theorem dX9_leastPush_29 : decode cX9_leastPush 29 = .ok (.getfield 40, 3) := by decide +kernel
theorem dX9_leastPush_32 : decode cX9_leastPush 32 = .ok (.getfield 201, 3) := by decide +kernel
theorem dX9_leastPush_35 : decode cX9_leastPush 35 = .ok (.iload_n 2, 1) := by decide +kernel
theorem dX9_leastPush_36 : decode cX9_leastPush 36 = .ok (.putfield 208, 3) := by decide +kernel
theorem dX9_leastPush_39 : decode cX9_leastPush 39 = .ok (.aload_n 0, 1) := by decide +kernel
theorem dX9_leastPush_40 : decode cX9_leastPush 40 = .ok (.getfield 40, 3) := by decide +kernel
theorem dX9_leastPush_43 : decode cX9_leastPush 43 = .ok (.invokevirtual 198, 3) := by decide +kernel
theorem dX9_leastPush_46 : decode cX9_leastPush 46 = .ok (.iload_n 1, 1) := by decide +kernel
theorem dX9_leastPush_47 : decode cX9_leastPush 47 = .ok (.if_icmp .lt 5, 3) := by decide +kernel
theorem dX9_leastPush_52 : decode cX9_leastPush 52 = .ok (.iinc 2 1, 3) := by decide +kernel
theorem dX9_leastPush_55 : decode cX9_leastPush 55 = .ok (.goto (-39), 3) := by decide +kernel
theorem dX9_leastPush_58 : decode cX9_leastPush 58 = .ok (.bipush (-2), 2) := by decide +kernel
theorem dX9_leastPush_60 : decode cX9_leastPush 60 = .ok (.ireturn, 1) := by decide +kernel
theorem dX9_leastPush_50 : decode cX9_leastPush 50 = .ok (.iload_n 2, 1) := by decide +kernel
theorem dX9_leastPush_51 : decode cX9_leastPush 51 = .ok (.ireturn, 1) := by decide +kernel
theorem dX9_mistake_0 : decode cX9_mistake 0 = .ok (.iload_n 1, 1) := by decide +kernel
theorem dX9_mistake_1 : decode cX9_mistake 1 = .ok (.ifCond .lt 18, 3) := by decide +kernel
theorem dX9_mistake_19 : decode cX9_mistake 19 = .ok (.iconst (-1), 1) := by decide +kernel
theorem dX9_mistake_20 : decode cX9_mistake 20 = .ok (.ireturn, 1) := by decide +kernel
theorem dX9_mistake_4 : decode cX9_mistake 4 = .ok (.iload_n 1, 1) := by decide +kernel
theorem dX9_mistake_5 : decode cX9_mistake 5 = .ok (.bipush 40, 2) := by decide +kernel
theorem dX9_mistake_7 : decode cX9_mistake 7 = .ok (.if_icmp .gt 12, 3) := by decide +kernel
theorem dX9_mistake_10 : decode cX9_mistake 10 = .ok (.iload_n 2, 1) := by decide +kernel
theorem dX9_mistake_11 : decode cX9_mistake 11 = .ok (.ifCond .lt 8, 3) := by decide +kernel
theorem dX9_mistake_14 : decode cX9_mistake 14 = .ok (.iload_n 2, 1) := by decide +kernel
theorem dX9_mistake_15 : decode cX9_mistake 15 = .ok (.iconst 1, 1) := by decide +kernel
theorem dX9_mistake_16 : decode cX9_mistake 16 = .ok (.if_icmp .le 5, 3) := by decide +kernel
theorem dX9_mistake_21 : decode cX9_mistake 21 = .ok (.aload_n 0, 1) := by decide +kernel
theorem dX9_mistake_22 : decode cX9_mistake 22 = .ok (.getfield 40, 3) := by decide +kernel
theorem dX9_mistake_25 : decode cX9_mistake 25 = .ok (.invokevirtual 192, 3) := by decide +kernel
theorem dX9_mistake_28 : decode cX9_mistake 28 = .ok (.aload_n 0, 1) := by decide +kernel
theorem dX9_mistake_29 : decode cX9_mistake 29 = .ok (.getfield 40, 3) := by decide +kernel
theorem dX9_mistake_32 : decode cX9_mistake 32 = .ok (.iload_n 1, 1) := by decide +kernel
theorem dX9_mistake_33 : decode cX9_mistake 33 = .ok (.invokevirtual 211, 3) := by decide +kernel
theorem dX9_mistake_36 : decode cX9_mistake 36 = .ok (.iload_n 2, 1) := by decide +kernel
theorem dX9_mistake_37 : decode cX9_mistake 37 = .ok (.ifCond .ne 13, 3) := by decide +kernel
theorem dX9_mistake_50 : decode cX9_mistake 50 = .ok (.aload_n 0, 1) := by decide +kernel
theorem dX9_mistake_51 : decode cX9_mistake 51 = .ok (.getfield 40, 3) := by decide +kernel
theorem dX9_mistake_54 : decode cX9_mistake 54 = .ok (.invokevirtual 215, 3) := by decide +kernel
theorem dX9_mistake_57 : decode cX9_mistake 57 = .ok (.ireturn, 1) := by decide +kernel
theorem dX9_mistake_40 : decode cX9_mistake 40 = .ok (.aload_n 0, 1) := by decide +kernel
theorem dX9_mistake_41 : decode cX9_mistake 41 = .ok (.getfield 40, 3) := by decide +kernel
theorem dX9_mistake_44 : decode cX9_mistake 44 = .ok (.invokevirtual 198, 3) := by decide +kernel
theorem dX9_mistake_47 : decode cX9_mistake 47 = .ok (.goto 10, 3) := by decide +kernel
theorem dX9_start_0 : decode cX9_start 0 = .ok (.aload_n 0, 1) := by decide +kernel
theorem dX9_start_1 : decode cX9_start 1 = .ok (.getfield 28, 3) := by decide +kernel
theorem dX9_start_4 : decode cX9_start 4 = .ok (.iload_n 1, 1) := by decide +kernel
theorem dX9_start_5 : decode cX9_start 5 = .ok (.invokevirtual 118, 3) := by decide +kernel
theorem dX9_start_8 : decode cX9_start 8 = .ok (.ifCond .ne 6, 3) := by decide +kernel
theorem dX9_start_11 : decode cX9_start 11 = .ok (.ldc 105, 2) := by decide +kernel
theorem dX9_start_13 : decode cX9_start 13 = .ok (.ireturn, 1) := by decide +kernel
theorem dX9_rescue_0 : decode cX9_rescue 0 = .ok (.iload_n 2, 1) := by decide +kernel
theorem dX9_rescue_1 : decode cX9_rescue 1 = .ok (.bipush 100, 2) := by decide +kernel
theorem dX9_rescue_3 : decode cX9_rescue 3 = .ok (.idiv, 1) := by decide +kernel
theorem dX9_rescue_4 : decode cX9_rescue 4 = .ok (.istore_n 3, 1) := by decide +kernel
theorem dX9_rescue_5 : decode cX9_rescue 5 = .ok (.iload_n 2, 1) := by decide +kernel
theorem dX9_rescue_6 : decode cX9_rescue 6 = .ok (.bipush 100, 2) := by decide +kernel
theorem dX9_rescue_8 : decode cX9_rescue 8 = .ok (.irem, 1) := by decide +kernel
theorem dX9_rescue_9 : decode cX9_rescue 9 = .ok (.istore 4, 2) := by decide +kernel
theorem dX9_rescue_11 : decode cX9_rescue 11 = .ok (.aload_n 0, 1) := by decide +kernel
theorem dX9_rescue_12 : decode cX9_rescue 12 = .ok (.getfield 28, 3) := by decide +kernel
theorem dX9_rescue_15 : decode cX9_rescue 15 = .ok (.iload_n 1, 1) := by decide +kernel
theorem dX9_rescue_16 : decode cX9_rescue 16 = .ok (.invokevirtual 118, 3) := by decide +kernel
theorem dX9_rescue_19 : decode cX9_rescue 19 = .ok (.ifCond .eq 25, 3) := by decide +kernel
theorem dX9_rescue_44 : decode cX9_rescue 44 = .ok (.iconst (-1), 1) := by decide +kernel
theorem dX9_rescue_45 : decode cX9_rescue 45 = .ok (.ireturn, 1) := by decide +kernel
theorem dX9_music_0 : decode cX9_music 0 = .ok (.iload_n 1, 1) := by decide +kernel
theorem dX9_music_1 : decode cX9_music 1 = .ok (.invokestatic 88, 3) := by decide +kernel
theorem dX9_music_4 : decode cX9_music 4 = .ok (.ifCond .ne 5, 3) := by decide +kernel
theorem dX9_music_9 : decode cX9_music 9 = .ok (.aload_n 0, 1) := by decide +kernel
theorem dX9_music_10 : decode cX9_music 10 = .ok (.getfield 67, 3) := by decide +kernel
theorem dX9_music_13 : decode cX9_music 13 = .ok (.iload_n 1, 1) := by decide +kernel
theorem dX9_music_14 : decode cX9_music 14 = .ok (.aaload, 1) := by decide +kernel
theorem dX9_music_15 : decode cX9_music 15 = .ok (.invokevirtual 244, 3) := by decide +kernel
theorem dX9_music_18 : decode cX9_music 18 = .ok (.istore_n 2, 1) := by decide +kernel
theorem dX9_music_19 : decode cX9_music 19 = .ok (.iload_n 2, 1) := by decide +kernel
theorem dX9_music_20 : decode cX9_music 20 = .ok (.ifCond .eq 5, 3) := by decide +kernel
theorem dX9_music_23 : decode cX9_music 23 = .ok (.iload_n 2, 1) := by decide +kernel
theorem dX9_music_24 : decode cX9_music 24 = .ok (.ireturn, 1) := by decide +kernel
theorem dX9_music_7 : decode cX9_music 7 = .ok (.iconst (-1), 1) := by decide +kernel
theorem dX9_music_8 : decode cX9_music 8 = .ok (.ireturn, 1) := by decide +kernel
theorem dX9_judge_0 : decode cX9_judge 0 = .ok (.iload_n 1, 1) := by decide +kernel
theorem dX9_judge_1 : decode cX9_judge 1 = .ok (.invokestatic 88, 3) := by decide +kernel
theorem dX9_judge_4 : decode cX9_judge 4 = .ok (.ifCond .eq 14, 3) := by decide +kernel
theorem dX9_judge_18 : decode cX9_judge 18 = .ok (.iconst (-1), 1) := by decide +kernel
theorem dX9_judge_19 : decode cX9_judge 19 = .ok (.ireturn, 1) := by decide +kernel
theorem dX9_judge_7 : decode cX9_judge 7 = .ok (.aload_n 0, 1) := by decide +kernel
theorem dX9_judge_8 : decode cX9_judge 8 = .ok (.getfield 28, 3) := by decide +kernel
theorem dX9_judge_11 : decode cX9_judge 11 = .ok (.iload_n 2, 1) := by decide +kernel
theorem dX9_judge_12 : decode cX9_judge 12 = .ok (.invokevirtual 118, 3) := by decide +kernel
theorem dX9_judge_15 : decode cX9_judge 15 = .ok (.ifCond .ne 5, 3) := by decide +kernel
theorem dX9_begun_0 : decode cX9_begun 0 = .ok (.iload_n 1, 1) := by decide +kernel
theorem dX9_begun_1 : decode cX9_begun 1 = .ok (.invokestatic 88, 3) := by decide +kernel
theorem dX9_begun_4 : decode cX9_begun 4 = .ok (.ifCond .eq 35, 3) := by decide +kernel
theorem dX9_begun_39 : decode cX9_begun 39 = .ok (.ldc 105, 2) := by decide +kernel
theorem dX9_begun_41 : decode cX9_begun 41 = .ok (.ireturn, 1) := by decide +kernel
theorem dX9_begun_7 : decode cX9_begun 7 = .ok (.aload_n 0, 1) := by decide +kernel
theorem dX9_begun_8 : decode cX9_begun 8 = .ok (.getfield 28, 3) := by decide +kernel
theorem dX9_begun_11 : decode cX9_begun 11 = .ok (.iload_n 2, 1) := by decide +kernel
theorem dX9_begun_12 : decode cX9_begun 12 = .ok (.invokevirtual 118, 3) := by decide +kernel
theorem dX9_begun_15 : decode cX9_begun 15 = .ok (.ifCond .eq 24, 3) := by decide +kernel
theorem dX9_back_0 : decode cX9_back 0 = .ok (.aload_n 0, 1) := by decide +kernel
theorem dX9_back_1 : decode cX9_back 1 = .ok (.getfield 72, 3) := by decide +kernel
theorem dX9_back_4 : decode cX9_back 4 = .ok (.ifCond .ne 6, 3) := by decide +kernel
theorem dX9_back_7 : decode cX9_back 7 = .ok (.bipush (-5), 2) := by decide +kernel
theorem dX9_back_9 : decode cX9_back 9 = .ok (.ireturn, 1) := by decide +kernel
theorem dX9_undo_0 : decode cX9_undo 0 = .ok (.aload_n 0, 1) := by decide +kernel
theorem dX9_undo_1 : decode cX9_undo 1 = .ok (.getfield 54, 3) := by decide +kernel
theorem dX9_undo_4 : decode cX9_undo 4 = .ok (.getfield 309, 3) := by decide +kernel
theorem dX9_undo_7 : decode cX9_undo 7 = .ok (.ifCond .ne 6, 3) := by decide +kernel
theorem dX9_undo_10 : decode cX9_undo 10 = .ok (.bipush (-5), 2) := by decide +kernel
theorem dX9_undo_12 : decode cX9_undo 12 = .ok (.ireturn, 1) := by decide +kernel
theorem dX9_redo_0 : decode cX9_redo 0 = .ok (.aload_n 0, 1) := by decide +kernel
theorem dX9_redo_1 : decode cX9_redo 1 = .ok (.getfield 54, 3) := by decide +kernel
theorem dX9_redo_4 : decode cX9_redo 4 = .ok (.getfield 309, 3) := by decide +kernel
theorem dX9_redo_7 : decode cX9_redo 7 = .ok (.aload_n 0, 1) := by decide +kernel
theorem dX9_redo_8 : decode cX9_redo 8 = .ok (.getfield 54, 3) := by decide +kernel
theorem dX9_redo_11 : decode cX9_redo 11 = .ok (.getfield 321, 3) := by decide +kernel
theorem dX9_redo_14 : decode cX9_redo 14 = .ok (.if_icmp .ne 6, 3) := by decide +kernel
theorem dX9_redo_17 : decode cX9_redo 17 = .ok (.bipush (-5), 2) := by decide +kernel
theorem dX9_redo_19 : decode cX9_redo 19 = .ok (.ireturn, 1) := by decide +kernel
theorem dX9_act_0 : decode cX9_act 0 = .ok (.aload_n 0, 1) := by decide +kernel
theorem dX9_act_1 : decode cX9_act 1 = .ok (.getfield 61, 3) := by decide +kernel
theorem dX9_act_4 : decode cX9_act 4 = .ok (.iconst 0, 1) := by decide +kernel
theorem dX9_act_5 : decode cX9_act 5 = .ok (.putfield 334, 3) := by decide +kernel
theorem dX9_act_8 : decode cX9_act 8 = .ok (.aload_n 0, 1) := by decide +kernel
theorem dX9_act_9 : decode cX9_act 9 = .ok (.getfield 61, 3) := by decide +kernel
theorem dX9_act_12 : decode cX9_act 12 = .ok (.iload_n 1, 1) := by decide +kernel
theorem dX9_act_13 : decode cX9_act 13 = .ok (.invokevirtual 337, 3) := by decide +kernel
theorem dX9_act_16 : decode cX9_act 16 = .ok (.ifCond .eq 12, 3) := by decide +kernel
theorem dX9_act_28 : decode cX9_act 28 = .ok (.iconst 0, 1) := by decide +kernel
theorem dX9_act_29 : decode cX9_act 29 = .ok (.ireturn, 1) := by decide +kernel
theorem dX9_trace_0 : decode cX9_trace 0 = .ok (.iload_n 1, 1) := by decide +kernel
theorem dX9_trace_1 : decode cX9_trace 1 = .ok (.ifCond .lt 20, 3) := by decide +kernel
theorem dX9_trace_21 : decode cX9_trace 21 = .ok (.iconst (-1), 1) := by decide +kernel
theorem dX9_trace_22 : decode cX9_trace 22 = .ok (.ireturn, 1) := by decide +kernel
theorem dX9_trace_4 : decode cX9_trace 4 = .ok (.iload_n 1, 1) := by decide +kernel
theorem dX9_trace_5 : decode cX9_trace 5 = .ok (.aload_n 0, 1) := by decide +kernel
theorem dX9_trace_6 : decode cX9_trace 6 = .ok (.getfield 61, 3) := by decide +kernel
theorem dX9_trace_9 : decode cX9_trace 9 = .ok (.getfield 334, 3) := by decide +kernel
theorem dX9_trace_12 : decode cX9_trace 12 = .ok (.if_icmp .ge 9, 3) := by decide +kernel
theorem dX9_count_0 : decode cX9_count 0 = .ok (.iload_n 1, 1) := by decide +kernel
theorem dX9_count_1 : decode cX9_count 1 = .ok (.tableswitch 87 0 5 #[39, 47, 55, 63, 71, 79], 39) := by decide +kernel
theorem dX9_count_40 : decode cX9_count 40 = .ok (.aload_n 0, 1) := by decide +kernel
theorem dX9_count_41 : decode cX9_count 41 = .ok (.getfield 28, 3) := by decide +kernel
theorem dX9_count_44 : decode cX9_count 44 = .ok (.getfield 218, 3) := by decide +kernel
theorem dX9_count_47 : decode cX9_count 47 = .ok (.ireturn, 1) := by decide +kernel
theorem dX9_count_48 : decode cX9_count 48 = .ok (.aload_n 0, 1) := by decide +kernel
theorem dX9_count_49 : decode cX9_count 49 = .ok (.getfield 28, 3) := by decide +kernel
theorem dX9_count_52 : decode cX9_count 52 = .ok (.invokevirtual 164, 3) := by decide +kernel
theorem dX9_count_55 : decode cX9_count 55 = .ok (.ireturn, 1) := by decide +kernel
theorem dX9_count_56 : decode cX9_count 56 = .ok (.aload_n 0, 1) := by decide +kernel
theorem dX9_count_57 : decode cX9_count 57 = .ok (.getfield 19, 3) := by decide +kernel
theorem dX9_count_60 : decode cX9_count 60 = .ok (.getfield 147, 3) := by decide +kernel
theorem dX9_count_63 : decode cX9_count 63 = .ok (.ireturn, 1) := by decide +kernel
theorem dX9_count_64 : decode cX9_count 64 = .ok (.aload_n 0, 1) := by decide +kernel
theorem dX9_count_65 : decode cX9_count 65 = .ok (.getfield 54, 3) := by decide +kernel
theorem dX9_count_68 : decode cX9_count 68 = .ok (.getfield 309, 3) := by decide +kernel
theorem dX9_count_71 : decode cX9_count 71 = .ok (.ireturn, 1) := by decide +kernel
theorem dX9_count_72 : decode cX9_count 72 = .ok (.aload_n 0, 1) := by decide +kernel
theorem dX9_count_73 : decode cX9_count 73 = .ok (.getfield 61, 3) := by decide +kernel
theorem dX9_count_76 : decode cX9_count 76 = .ok (.getfield 393, 3) := by decide +kernel
theorem dX9_count_79 : decode cX9_count 79 = .ok (.ireturn, 1) := by decide +kernel
theorem dX9_count_80 : decode cX9_count 80 = .ok (.aload_n 0, 1) := by decide +kernel
theorem dX9_count_81 : decode cX9_count 81 = .ok (.getfield 61, 3) := by decide +kernel
theorem dX9_count_84 : decode cX9_count 84 = .ok (.getfield 334, 3) := by decide +kernel
theorem dX9_count_87 : decode cX9_count 87 = .ok (.ireturn, 1) := by decide +kernel
theorem dX9_count_88 : decode cX9_count 88 = .ok (.iconst (-1), 1) := by decide +kernel
theorem dX9_count_89 : decode cX9_count 89 = .ok (.ireturn, 1) := by decide +kernel
theorem dX8_addBody_0 : decode cX8_addBody 0 = .ok (.aload_n 0, 1) := by decide +kernel
theorem dX8_addBody_1 : decode cX8_addBody 1 = .ok (.invokevirtual 22, 3) := by decide +kernel
theorem dX8_addBody_4 : decode cX8_addBody 4 = .ok (.ifCond .eq 6, 3) := by decide +kernel
theorem dX8_addBody_10 : decode cX8_addBody 10 = .ok (.aload_n 0, 1) := by decide +kernel
theorem dX8_addBody_11 : decode cX8_addBody 11 = .ok (.getfield 9, 3) := by decide +kernel
theorem dX8_addBody_14 : decode cX8_addBody 14 = .ok (.aload_n 0, 1) := by decide +kernel
theorem dX8_addBody_15 : decode cX8_addBody 15 = .ok (.getfield 18, 3) := by decide +kernel
theorem dX8_addBody_18 : decode cX8_addBody 18 = .ok (.iload_n 1, 1) := by decide +kernel
theorem dX8_addBody_19 : decode cX8_addBody 19 = .ok (.iastore, 1) := by decide +kernel
theorem dX8_addBody_20 : decode cX8_addBody 20 = .ok (.aload_n 0, 1) := by decide +kernel
theorem dX8_addBody_21 : decode cX8_addBody 21 = .ok (.dup, 1) := by decide +kernel
theorem dX8_addBody_22 : decode cX8_addBody 22 = .ok (.getfield 18, 3) := by decide +kernel
theorem dX8_addBody_25 : decode cX8_addBody 25 = .ok (.iconst 1, 1) := by decide +kernel
theorem dX8_addBody_26 : decode cX8_addBody 26 = .ok (.iadd, 1) := by decide +kernel
theorem dX8_addBody_27 : decode cX8_addBody 27 = .ok (.putfield 18, 3) := by decide +kernel
theorem dX8_addBody_30 : decode cX8_addBody 30 = .ok (.aload_n 0, 1) := by decide +kernel
theorem dX8_addBody_31 : decode cX8_addBody 31 = .ok (.getfield 18, 3) := by decide +kernel
theorem dX8_addBody_34 : decode cX8_addBody 34 = .ok (.iconst 1, 1) := by decide +kernel
theorem dX8_addBody_35 : decode cX8_addBody 35 = .ok (.isub, 1) := by decide +kernel
theorem dX8_addBody_36 : decode cX8_addBody 36 = .ok (.ireturn, 1) := by decide +kernel
theorem dX9_body_0 : decode cX9_body 0 = .ok (.iload_n 1, 1) := by decide +kernel
theorem dX9_body_1 : decode cX9_body 1 = .ok (.invokestatic 327, 3) := by decide +kernel
theorem dX9_body_4 : decode cX9_body 4 = .ok (.ifCond .ne 5, 3) := by decide +kernel
theorem dX9_body_9 : decode cX9_body 9 = .ok (.aload_n 0, 1) := by decide +kernel
theorem dX9_body_10 : decode cX9_body 10 = .ok (.getfield 61, 3) := by decide +kernel
theorem dX9_body_13 : decode cX9_body 13 = .ok (.invokevirtual 330, 3) := by decide +kernel
theorem dX9_body_16 : decode cX9_body 16 = .ok (.ifCond .eq 8, 3) := by decide +kernel
theorem dX9_body_24 : decode cX9_body 24 = .ok (.aload_n 0, 1) := by decide +kernel
theorem dX9_body_25 : decode cX9_body 25 = .ok (.getfield 61, 3) := by decide +kernel
theorem dX9_body_28 : decode cX9_body 28 = .ok (.iload_n 1, 1) := by decide +kernel
theorem dX9_body_29 : decode cX9_body 29 = .ok (.invokevirtual 331, 3) := by decide +kernel
theorem dX9_body_32 : decode cX9_body 32 = .ok (.ireturn, 1) := by decide +kernel
theorem dX9_body_7 : decode cX9_body 7 = .ok (.iconst (-1), 1) := by decide +kernel
theorem dX9_body_8 : decode cX9_body 8 = .ok (.ireturn, 1) := by decide +kernel
theorem dX9_keep_0 : decode cX9_keep 0 = .ok (.iload_n 1, 1) := by decide +kernel
theorem dX9_keep_1 : decode cX9_keep 1 = .ok (.invokestatic 88, 3) := by decide +kernel
theorem dX9_keep_4 : decode cX9_keep 4 = .ok (.ifCond .eq 19, 3) := by decide +kernel
theorem dX9_keep_23 : decode cX9_keep 23 = .ok (.iconst (-1), 1) := by decide +kernel
theorem dX9_keep_24 : decode cX9_keep 24 = .ok (.ireturn, 1) := by decide +kernel
theorem dX9_keep_7 : decode cX9_keep 7 = .ok (.iload_n 2, 1) := by decide +kernel
theorem dX9_keep_8 : decode cX9_keep 8 = .ok (.iconst (-1), 1) := by decide +kernel
theorem dX9_keep_9 : decode cX9_keep 9 = .ok (.if_icmp .eq 16, 3) := by decide +kernel
theorem dX9_keep_25 : decode cX9_keep 25 = .ok (.iload_n 2, 1) := by decide +kernel
theorem dX9_keep_26 : decode cX9_keep 26 = .ok (.iconst (-1), 1) := by decide +kernel
theorem dX9_keep_27 : decode cX9_keep 27 = .ok (.if_icmp .ne 15, 3) := by decide +kernel
theorem dX9_keep_30 : decode cX9_keep 30 = .ok (.aload_n 0, 1) := by decide +kernel
theorem dX9_keep_31 : decode cX9_keep 31 = .ok (.getfield 67, 3) := by decide +kernel
theorem dX9_keep_34 : decode cX9_keep 34 = .ok (.iload_n 1, 1) := by decide +kernel
theorem dX9_keep_35 : decode cX9_keep 35 = .ok (.aaload, 1) := by decide +kernel
theorem dX9_keep_36 : decode cX9_keep 36 = .ok (.invokevirtual 344, 3) := by decide +kernel
theorem dX9_keep_39 : decode cX9_keep 39 = .ok (.goto 13, 3) := by decide +kernel
theorem dX9_keep_52 : decode cX9_keep 52 = .ok (.iconst 1, 1) := by decide +kernel
theorem dX9_keep_53 : decode cX9_keep 53 = .ok (.ireturn, 1) := by decide +kernel
theorem dX9_keep_12 : decode cX9_keep 12 = .ok (.aload_n 0, 1) := by decide +kernel
theorem dX9_keep_13 : decode cX9_keep 13 = .ok (.getfield 61, 3) := by decide +kernel
theorem dX9_keep_16 : decode cX9_keep 16 = .ok (.iload_n 2, 1) := by decide +kernel
theorem dX9_keep_17 : decode cX9_keep 17 = .ok (.invokevirtual 337, 3) := by decide +kernel
theorem dX9_keep_20 : decode cX9_keep 20 = .ok (.ifCond .ne 5, 3) := by decide +kernel
theorem dX9_put_0 : decode cX9_put 0 = .ok (.iload_n 1, 1) := by decide +kernel
theorem dX9_put_1 : decode cX9_put 1 = .ok (.invokestatic 88, 3) := by decide +kernel
theorem dX9_put_4 : decode cX9_put 4 = .ok (.ifCond .ne 5, 3) := by decide +kernel
theorem dX9_put_9 : decode cX9_put 9 = .ok (.aload_n 0, 1) := by decide +kernel
theorem dX9_put_10 : decode cX9_put 10 = .ok (.getfield 67, 3) := by decide +kernel
theorem dX9_put_13 : decode cX9_put 13 = .ok (.iload_n 1, 1) := by decide +kernel
theorem dX9_put_14 : decode cX9_put 14 = .ok (.aaload, 1) := by decide +kernel
theorem dX9_put_15 : decode cX9_put 15 = .ok (.iload_n 2, 1) := by decide +kernel
theorem dX9_put_16 : decode cX9_put 16 = .ok (.invokevirtual 356, 3) := by decide +kernel
theorem dX9_put_19 : decode cX9_put 19 = .ok (.istore 5, 2) := by decide +kernel
theorem dX9_put_21 : decode cX9_put 21 = .ok (.iload 5, 2) := by decide +kernel
theorem dX9_put_23 : decode cX9_put 23 = .ok (.ifCond .eq 6, 3) := by decide +kernel
theorem dX9_put_26 : decode cX9_put 26 = .ok (.iload 5, 2) := by decide +kernel
theorem dX9_put_28 : decode cX9_put 28 = .ok (.ireturn, 1) := by decide +kernel
theorem dX9_put_7 : decode cX9_put 7 = .ok (.iconst (-1), 1) := by decide +kernel
theorem dX9_put_8 : decode cX9_put 8 = .ok (.ireturn, 1) := by decide +kernel
theorem dX9_element_0 : decode cX9_element 0 = .ok (.iload_n 1, 1) := by decide +kernel
theorem dX9_element_1 : decode cX9_element 1 = .ok (.invokestatic 88, 3) := by decide +kernel
theorem dX9_element_4 : decode cX9_element 4 = .ok (.ifCond .eq 16, 3) := by decide +kernel
theorem dX9_element_20 : decode cX9_element 20 = .ok (.ldc2_w 286, 3) := by decide +kernel
theorem dX9_element_23 : decode cX9_element 23 = .ok (.lreturn, 1) := by decide +kernel
theorem dX9_element_7 : decode cX9_element 7 = .ok (.aload_n 0, 1) := by decide +kernel
theorem dX9_element_8 : decode cX9_element 8 = .ok (.getfield 67, 3) := by decide +kernel
theorem dX9_element_11 : decode cX9_element 11 = .ok (.iload_n 1, 1) := by decide +kernel
theorem dX9_element_12 : decode cX9_element 12 = .ok (.aaload, 1) := by decide +kernel
theorem dX9_element_13 : decode cX9_element 13 = .ok (.iload_n 2, 1) := by decide +kernel
theorem dX9_element_14 : decode cX9_element 14 = .ok (.invokevirtual 356, 3) := by decide +kernel
theorem dX9_element_17 : decode cX9_element 17 = .ok (.ifCond .eq 7, 3) := by decide +kernel
theorem dX9_shift_0 : decode cX9_shift 0 = .ok (.iload_n 1, 1) := by decide +kernel
theorem dX9_shift_1 : decode cX9_shift 1 = .ok (.invokestatic 88, 3) := by decide +kernel
theorem dX9_shift_4 : decode cX9_shift 4 = .ok (.ifCond .eq 10, 3) := by decide +kernel
theorem dX9_shift_14 : decode cX9_shift 14 = .ok (.iconst (-1), 1) := by decide +kernel
theorem dX9_shift_15 : decode cX9_shift 15 = .ok (.ireturn, 1) := by decide +kernel
theorem dX9_shift_7 : decode cX9_shift 7 = .ok (.iload_n 3, 1) := by decide +kernel
theorem dX9_shift_8 : decode cX9_shift 8 = .ok (.invokestatic 88, 3) := by decide +kernel
theorem dX9_shift_11 : decode cX9_shift 11 = .ok (.ifCond .ne 5, 3) := by decide +kernel
theorem dX9_shift_16 : decode cX9_shift 16 = .ok (.aload_n 0, 1) := by decide +kernel
theorem dX9_shift_17 : decode cX9_shift 17 = .ok (.getfield 67, 3) := by decide +kernel
theorem dX9_shift_20 : decode cX9_shift 20 = .ok (.iload_n 1, 1) := by decide +kernel
theorem dX9_shift_21 : decode cX9_shift 21 = .ok (.aaload, 1) := by decide +kernel
theorem dX9_shift_22 : decode cX9_shift 22 = .ok (.astore 6, 2) := by decide +kernel
theorem dX9_shift_24 : decode cX9_shift 24 = .ok (.aload_n 0, 1) := by decide +kernel
theorem dX9_shift_25 : decode cX9_shift 25 = .ok (.getfield 67, 3) := by decide +kernel
theorem dX9_shift_28 : decode cX9_shift 28 = .ok (.iload_n 3, 1) := by decide +kernel
theorem dX9_shift_29 : decode cX9_shift 29 = .ok (.aaload, 1) := by decide +kernel
theorem dX9_shift_30 : decode cX9_shift 30 = .ok (.astore 7, 2) := by decide +kernel
theorem dX9_shift_32 : decode cX9_shift 32 = .ok (.aload 6, 2) := by decide +kernel
theorem dX9_shift_34 : decode cX9_shift 34 = .ok (.invokevirtual 91, 3) := by decide +kernel
theorem dX9_shift_37 : decode cX9_shift 37 = .ok (.ifCond .ne 11, 3) := by decide +kernel
theorem dX9_shift_48 : decode cX9_shift 48 = .ok (.bipush (-11), 2) := by decide +kernel
theorem dX9_shift_50 : decode cX9_shift 50 = .ok (.ireturn, 1) := by decide +kernel
theorem dX9_taken_0 : decode cX9_taken 0 = .ok (.iload_n 1, 1) := by decide +kernel
theorem dX9_taken_1 : decode cX9_taken 1 = .ok (.invokestatic 88, 3) := by decide +kernel
theorem dX9_taken_4 : decode cX9_taken 4 = .ok (.ifCond .eq 10, 3) := by decide +kernel
theorem dX9_taken_14 : decode cX9_taken 14 = .ok (.iconst (-1), 1) := by decide +kernel
theorem dX9_taken_15 : decode cX9_taken 15 = .ok (.ireturn, 1) := by decide +kernel
theorem dX9_taken_7 : decode cX9_taken 7 = .ok (.iload_n 2, 1) := by decide +kernel
theorem dX9_taken_8 : decode cX9_taken 8 = .ok (.invokestatic 327, 3) := by decide +kernel
theorem dX9_taken_11 : decode cX9_taken 11 = .ok (.ifCond .ne 5, 3) := by decide +kernel
theorem dX9_taken_16 : decode cX9_taken 16 = .ok (.aload_n 0, 1) := by decide +kernel
theorem dX9_taken_17 : decode cX9_taken 17 = .ok (.getfield 67, 3) := by decide +kernel
theorem dX9_taken_20 : decode cX9_taken 20 = .ok (.iload_n 1, 1) := by decide +kernel
theorem dX9_taken_21 : decode cX9_taken 21 = .ok (.aaload, 1) := by decide +kernel
theorem dX9_taken_22 : decode cX9_taken 22 = .ok (.astore_n 3, 1) := by decide +kernel
theorem dX9_taken_23 : decode cX9_taken 23 = .ok (.aload_n 3, 1) := by decide +kernel
theorem dX9_taken_24 : decode cX9_taken 24 = .ok (.invokevirtual 91, 3) := by decide +kernel
theorem dX9_taken_27 : decode cX9_taken 27 = .ok (.ifCond .eq 6, 3) := by decide +kernel
theorem dX9_taken_30 : decode cX9_taken 30 = .ok (.bipush (-11), 2) := by decide +kernel
theorem dX9_taken_32 : decode cX9_taken 32 = .ok (.ireturn, 1) := by decide +kernel
theorem dX9_hoopCame_0 : decode cX9_hoopCame 0 = .ok (.iload_n 2, 1) := by decide +kernel
theorem dX9_hoopCame_1 : decode cX9_hoopCame 1 = .ok (.ifCond .lt 29, 3) := by decide +kernel
theorem dX9_hoopCame_30 : decode cX9_hoopCame 30 = .ok (.iconst 0, 1) := by decide +kernel
theorem dX9_hoopCame_31 : decode cX9_hoopCame 31 = .ok (.ireturn, 1) := by decide +kernel
theorem dX9_hoopCame_4 : decode cX9_hoopCame 4 = .ok (.iload_n 2, 1) := by decide +kernel
theorem dX9_hoopCame_5 : decode cX9_hoopCame 5 = .ok (.aload_n 1, 1) := by decide +kernel
theorem dX9_hoopCame_6 : decode cX9_hoopCame 6 = .ok (.getfield 399, 3) := by decide +kernel
theorem dX9_hoopCame_9 : decode cX9_hoopCame 9 = .ok (.iconst 3, 1) := by decide +kernel
theorem dX9_hoopCame_10 : decode cX9_hoopCame 10 = .ok (.isub, 1) := by decide +kernel
theorem dX9_hoopCame_11 : decode cX9_hoopCame 11 = .ok (.if_icmp .gt 19, 3) := by decide +kernel
theorem dX9_hoops_0 : decode cX9_hoops 0 = .ok (.iload_n 1, 1) := by decide +kernel
theorem dX9_hoops_1 : decode cX9_hoops 1 = .ok (.invokestatic 88, 3) := by decide +kernel
theorem dX9_hoops_4 : decode cX9_hoops 4 = .ok (.ifCond .eq 13, 3) := by decide +kernel
theorem dX9_hoops_17 : decode cX9_hoops 17 = .ok (.iconst (-1), 1) := by decide +kernel
theorem dX9_hoops_18 : decode cX9_hoops 18 = .ok (.ireturn, 1) := by decide +kernel
theorem dX9_hoops_7 : decode cX9_hoops 7 = .ok (.iload_n 3, 1) := by decide +kernel
theorem dX9_hoops_8 : decode cX9_hoops 8 = .ok (.iconst 1, 1) := by decide +kernel
theorem dX9_hoops_9 : decode cX9_hoops 9 = .ok (.if_icmp .lt 8, 3) := by decide +kernel
theorem dX9_hoops_12 : decode cX9_hoops 12 = .ok (.iload_n 3, 1) := by decide +kernel
theorem dX9_hoops_13 : decode cX9_hoops 13 = .ok (.iconst 5, 1) := by decide +kernel
theorem dX9_hoops_14 : decode cX9_hoops 14 = .ok (.if_icmp .le 5, 3) := by decide +kernel
theorem dX9_hoops_19 : decode cX9_hoops 19 = .ok (.aload_n 0, 1) := by decide +kernel
theorem dX9_hoops_20 : decode cX9_hoops 20 = .ok (.getfield 67, 3) := by decide +kernel
theorem dX9_hoops_23 : decode cX9_hoops 23 = .ok (.iload_n 1, 1) := by decide +kernel
theorem dX9_hoops_24 : decode cX9_hoops 24 = .ok (.aaload, 1) := by decide +kernel
theorem dX9_hoops_25 : decode cX9_hoops 25 = .ok (.astore 4, 2) := by decide +kernel
theorem dX9_hoops_27 : decode cX9_hoops 27 = .ok (.aload 4, 2) := by decide +kernel
theorem dX9_hoops_29 : decode cX9_hoops 29 = .ok (.invokevirtual 91, 3) := by decide +kernel
theorem dX9_hoops_32 : decode cX9_hoops 32 = .ok (.ifCond .ne 14, 3) := by decide +kernel
theorem dX9_hoops_46 : decode cX9_hoops 46 = .ok (.iconst 0, 1) := by decide +kernel
theorem dX9_hoops_47 : decode cX9_hoops 47 = .ok (.istore 5, 2) := by decide +kernel
theorem dX9_hoops_49 : decode cX9_hoops 49 = .ok (.iload 5, 2) := by decide +kernel
theorem dX9_hoops_51 : decode cX9_hoops 51 = .ok (.iload_n 3, 1) := by decide +kernel
theorem dX9_hoops_52 : decode cX9_hoops 52 = .ok (.if_icmp .ge 24, 3) := by decide +kernel
theorem dX9_hoops_76 : decode cX9_hoops 76 = .ok (.iload 5, 2) := by decide +kernel
theorem dX9_hoops_78 : decode cX9_hoops 78 = .ok (.ireturn, 1) := by decide +kernel
theorem dX9_hoops_55 : decode cX9_hoops 55 = .ok (.aload_n 0, 1) := by decide +kernel
theorem dX9_hoops_56 : decode cX9_hoops 56 = .ok (.aload 4, 2) := by decide +kernel
theorem dX9_hoops_58 : decode cX9_hoops 58 = .ok (.iload_n 2, 1) := by decide +kernel
theorem dX9_hoops_59 : decode cX9_hoops 59 = .ok (.iconst 3, 1) := by decide +kernel
theorem dX9_hoops_60 : decode cX9_hoops 60 = .ok (.iload 5, 2) := by decide +kernel
theorem dX9_hoops_62 : decode cX9_hoops 62 = .ok (.imul, 1) := by decide +kernel
theorem dX9_hoops_63 : decode cX9_hoops 63 = .ok (.iadd, 1) := by decide +kernel
theorem dX9_hoops_64 : decode cX9_hoops 64 = .ok (.invokevirtual 97, 3) := by decide +kernel
theorem dX9_hoops_67 : decode cX9_hoops 67 = .ok (.ifCond .eq 9, 3) := by decide +kernel
theorem dX9_settingCanBecome_0 : decode cX9_settingCanBecome 0 = .ok (.iload_n 1, 1) := by decide +kernel
theorem dX9_settingCanBecome_1 : decode cX9_settingCanBecome 1 = .ok (.tableswitch 108 3 7 #[35, 50, 67, 88, 103], 35) := by decide +kernel
theorem dX9_settingCanBecome_36 : decode cX9_settingCanBecome 36 = .ok (.iload_n 2, 1) := by decide +kernel
theorem dX9_settingCanBecome_37 : decode cX9_settingCanBecome 37 = .ok (.ifCond .lt 12, 3) := by decide +kernel
theorem dX9_settingCanBecome_49 : decode cX9_settingCanBecome 49 = .ok (.iconst 0, 1) := by decide +kernel
theorem dX9_settingCanBecome_50 : decode cX9_settingCanBecome 50 = .ok (.ireturn, 1) := by decide +kernel
theorem dX9_settingCanBecome_40 : decode cX9_settingCanBecome 40 = .ok (.iload_n 2, 1) := by decide +kernel
theorem dX9_settingCanBecome_41 : decode cX9_settingCanBecome 41 = .ok (.iconst 3, 1) := by decide +kernel
theorem dX9_settingCanBecome_42 : decode cX9_settingCanBecome 42 = .ok (.if_icmp .gt 7, 3) := by decide +kernel
theorem dX9_settingCanBecome_45 : decode cX9_settingCanBecome 45 = .ok (.iconst 1, 1) := by decide +kernel
theorem dX9_settingCanBecome_46 : decode cX9_settingCanBecome 46 = .ok (.goto 4, 3) := by decide +kernel
theorem dX9_settingCanBecome_51 : decode cX9_settingCanBecome 51 = .ok (.iload_n 2, 1) := by decide +kernel
theorem dX9_settingCanBecome_52 : decode cX9_settingCanBecome 52 = .ok (.iconst 2, 1) := by decide +kernel
theorem dX9_settingCanBecome_53 : decode cX9_settingCanBecome 53 = .ok (.if_icmp .lt 13, 3) := by decide +kernel
theorem dX9_settingCanBecome_66 : decode cX9_settingCanBecome 66 = .ok (.iconst 0, 1) := by decide +kernel
theorem dX9_settingCanBecome_67 : decode cX9_settingCanBecome 67 = .ok (.ireturn, 1) := by decide +kernel
theorem dX9_settingCanBecome_56 : decode cX9_settingCanBecome 56 = .ok (.iload_n 2, 1) := by decide +kernel
theorem dX9_settingCanBecome_57 : decode cX9_settingCanBecome 57 = .ok (.bipush 24, 2) := by decide +kernel
theorem dX9_settingCanBecome_59 : decode cX9_settingCanBecome 59 = .ok (.if_icmp .gt 7, 3) := by decide +kernel
theorem dX9_settingCanBecome_62 : decode cX9_settingCanBecome 62 = .ok (.iconst 1, 1) := by decide +kernel
theorem dX9_settingCanBecome_63 : decode cX9_settingCanBecome 63 = .ok (.goto 4, 3) := by decide +kernel
theorem dX9_settingCanBecome_68 : decode cX9_settingCanBecome 68 = .ok (.iload_n 2, 1) := by decide +kernel
theorem dX9_settingCanBecome_69 : decode cX9_settingCanBecome 69 = .ok (.ifCond .lt 18, 3) := by decide +kernel
theorem dX9_settingCanBecome_87 : decode cX9_settingCanBecome 87 = .ok (.iconst 0, 1) := by decide +kernel
theorem dX9_settingCanBecome_88 : decode cX9_settingCanBecome 88 = .ok (.ireturn, 1) := by decide +kernel
theorem dX9_settingCanBecome_72 : decode cX9_settingCanBecome 72 = .ok (.iload_n 2, 1) := by decide +kernel
theorem dX9_settingCanBecome_73 : decode cX9_settingCanBecome 73 = .ok (.aload_n 0, 1) := by decide +kernel
theorem dX9_settingCanBecome_74 : decode cX9_settingCanBecome 74 = .ok (.getfield 28, 3) := by decide +kernel
theorem dX9_settingCanBecome_77 : decode cX9_settingCanBecome 77 = .ok (.getfield 202, 3) := by decide +kernel
theorem dX9_settingCanBecome_80 : decode cX9_settingCanBecome 80 = .ok (.if_icmp .ge 7, 3) := by decide +kernel
theorem dX9_settingCanBecome_83 : decode cX9_settingCanBecome 83 = .ok (.iconst 1, 1) := by decide +kernel
theorem dX9_settingCanBecome_84 : decode cX9_settingCanBecome 84 = .ok (.goto 4, 3) := by decide +kernel
theorem dX9_settingCanBecome_89 : decode cX9_settingCanBecome 89 = .ok (.iload_n 2, 1) := by decide +kernel
theorem dX9_settingCanBecome_90 : decode cX9_settingCanBecome 90 = .ok (.ifCond .lt 12, 3) := by decide +kernel
theorem dX9_settingCanBecome_102 : decode cX9_settingCanBecome 102 = .ok (.iconst 0, 1) := by decide +kernel
theorem dX9_settingCanBecome_103 : decode cX9_settingCanBecome 103 = .ok (.ireturn, 1) := by decide +kernel
theorem dX9_settingCanBecome_93 : decode cX9_settingCanBecome 93 = .ok (.iload_n 2, 1) := by decide +kernel
theorem dX9_settingCanBecome_94 : decode cX9_settingCanBecome 94 = .ok (.iconst 5, 1) := by decide +kernel
theorem dX9_settingCanBecome_95 : decode cX9_settingCanBecome 95 = .ok (.if_icmp .gt 7, 3) := by decide +kernel
theorem dX9_settingCanBecome_98 : decode cX9_settingCanBecome 98 = .ok (.iconst 1, 1) := by decide +kernel
theorem dX9_settingCanBecome_99 : decode cX9_settingCanBecome 99 = .ok (.goto 4, 3) := by decide +kernel
theorem dX9_settingCanBecome_104 : decode cX9_settingCanBecome 104 = .ok (.iload_n 2, 1) := by decide +kernel
theorem dX9_settingCanBecome_105 : decode cX9_settingCanBecome 105 = .ok (.invokestatic 255, 3) := by decide +kernel
theorem dX9_settingCanBecome_108 : decode cX9_settingCanBecome 108 = .ok (.ireturn, 1) := by decide +kernel
theorem dX9_settingCanBecome_109 : decode cX9_settingCanBecome 109 = .ok (.iconst 0, 1) := by decide +kernel
theorem dX9_settingCanBecome_110 : decode cX9_settingCanBecome 110 = .ok (.ireturn, 1) := by decide +kernel
theorem dX9_canBecome_0 : decode cX9_canBecome 0 = .ok (.iload_n 2, 1) := by decide +kernel
theorem dX9_canBecome_1 : decode cX9_canBecome 1 = .ok (.ifCond .lt 42, 3) := by decide +kernel
theorem dX9_canBecome_43 : decode cX9_canBecome 43 = .ok (.iload_n 1, 1) := by decide +kernel
theorem dX9_canBecome_44 : decode cX9_canBecome 44 = .ok (.ifCond .ne 16, 3) := by decide +kernel
theorem dX9_canBecome_60 : decode cX9_canBecome 60 = .ok (.iconst 0, 1) := by decide +kernel
theorem dX9_canBecome_61 : decode cX9_canBecome 61 = .ok (.ireturn, 1) := by decide +kernel
theorem dX9_canBecome_47 : decode cX9_canBecome 47 = .ok (.aload_n 0, 1) := by decide +kernel
theorem dX9_canBecome_48 : decode cX9_canBecome 48 = .ok (.iload_n 2, 1) := by decide +kernel
theorem dX9_canBecome_49 : decode cX9_canBecome 49 = .ok (.iload_n 3, 1) := by decide +kernel
theorem dX9_canBecome_50 : decode cX9_canBecome 50 = .ok (.invokevirtual 407, 3) := by decide +kernel
theorem dX9_canBecome_53 : decode cX9_canBecome 53 = .ok (.ifCond .eq 7, 3) := by decide +kernel
theorem dX9_canBecome_56 : decode cX9_canBecome 56 = .ok (.iconst 1, 1) := by decide +kernel
theorem dX9_canBecome_57 : decode cX9_canBecome 57 = .ok (.goto 4, 3) := by decide +kernel
theorem dX9_canBecome_4 : decode cX9_canBecome 4 = .ok (.iload_n 2, 1) := by decide +kernel
theorem dX9_canBecome_5 : decode cX9_canBecome 5 = .ok (.iconst 2, 1) := by decide +kernel
theorem dX9_canBecome_6 : decode cX9_canBecome 6 = .ok (.if_icmp .gt 37, 3) := by decide +kernel
theorem dX9_canBecome_9 : decode cX9_canBecome 9 = .ok (.aload_n 0, 1) := by decide +kernel
theorem dX9_canBecome_10 : decode cX9_canBecome 10 = .ok (.getfield 28, 3) := by decide +kernel
theorem dX9_canBecome_13 : decode cX9_canBecome 13 = .ok (.iload_n 1, 1) := by decide +kernel
theorem dX9_canBecome_14 : decode cX9_canBecome 14 = .ok (.invokevirtual 118, 3) := by decide +kernel
theorem dX9_canBecome_17 : decode cX9_canBecome 17 = .ok (.ifCond .eq 24, 3) := by decide +kernel
theorem dX9_canBecome_41 : decode cX9_canBecome 41 = .ok (.iconst 0, 1) := by decide +kernel
theorem dX9_canBecome_42 : decode cX9_canBecome 42 = .ok (.ireturn, 1) := by decide +kernel
theorem dX9_valueOf_0 : decode cX9_valueOf 0 = .ok (.iload_n 2, 1) := by decide +kernel
theorem dX9_valueOf_1 : decode cX9_valueOf 1 = .ok (.iconst 2, 1) := by decide +kernel
theorem dX9_valueOf_2 : decode cX9_valueOf 2 = .ok (.if_icmp .gt 33, 3) := by decide +kernel
theorem dX9_valueOf_35 : decode cX9_valueOf 35 = .ok (.aload_n 0, 1) := by decide +kernel
theorem dX9_valueOf_36 : decode cX9_valueOf 36 = .ok (.iload_n 2, 1) := by decide +kernel
theorem dX9_valueOf_37 : decode cX9_valueOf 37 = .ok (.bipush 7, 2) := by decide +kernel
theorem dX9_valueOf_39 : decode cX9_valueOf 39 = .ok (.iadd, 1) := by decide +kernel
theorem dX9_valueOf_40 : decode cX9_valueOf 40 = .ok (.invokevirtual 131, 3) := by decide +kernel
theorem dX9_valueOf_43 : decode cX9_valueOf 43 = .ok (.ireturn, 1) := by decide +kernel
theorem dX9_lay_0 : decode cX9_lay 0 = .ok (.iload_n 2, 1) := by decide +kernel
theorem dX9_lay_1 : decode cX9_lay 1 = .ok (.tableswitch 90 3 7 #[35, 46, 57, 68, 79], 35) := by decide +kernel
theorem dX9_lay_36 : decode cX9_lay 36 = .ok (.aload_n 0, 1) := by decide +kernel
theorem dX9_lay_37 : decode cX9_lay 37 = .ok (.getfield 28, 3) := by decide +kernel
theorem dX9_lay_40 : decode cX9_lay 40 = .ok (.iload_n 3, 1) := by decide +kernel
theorem dX9_lay_41 : decode cX9_lay 41 = .ok (.putfield 410, 3) := by decide +kernel
theorem dX9_lay_44 : decode cX9_lay 44 = .ok (.goto 72, 3) := by decide +kernel
theorem dX9_lay_116 : decode cX9_lay 116 = .ok (.return_, 1) := by decide +kernel
theorem dX9_lay_47 : decode cX9_lay 47 = .ok (.aload_n 0, 1) := by decide +kernel
theorem dX9_lay_48 : decode cX9_lay 48 = .ok (.getfield 28, 3) := by decide +kernel
theorem dX9_lay_51 : decode cX9_lay 51 = .ok (.iload_n 3, 1) := by decide +kernel
theorem dX9_lay_52 : decode cX9_lay 52 = .ok (.putfield 202, 3) := by decide +kernel
theorem dX9_lay_55 : decode cX9_lay 55 = .ok (.goto 61, 3) := by decide +kernel
theorem dX9_lay_58 : decode cX9_lay 58 = .ok (.aload_n 0, 1) := by decide +kernel
theorem dX9_lay_59 : decode cX9_lay 59 = .ok (.getfield 28, 3) := by decide +kernel
theorem dX9_lay_62 : decode cX9_lay 62 = .ok (.iload_n 3, 1) := by decide +kernel
theorem dX9_lay_63 : decode cX9_lay 63 = .ok (.putfield 205, 3) := by decide +kernel
theorem dX9_lay_66 : decode cX9_lay 66 = .ok (.goto 50, 3) := by decide +kernel
theorem dX9_lay_69 : decode cX9_lay 69 = .ok (.aload_n 0, 1) := by decide +kernel
theorem dX9_lay_70 : decode cX9_lay 70 = .ok (.getfield 28, 3) := by decide +kernel
theorem dX9_lay_73 : decode cX9_lay 73 = .ok (.iload_n 3, 1) := by decide +kernel
theorem dX9_lay_74 : decode cX9_lay 74 = .ok (.putfield 208, 3) := by decide +kernel
theorem dX9_lay_77 : decode cX9_lay 77 = .ok (.goto 39, 3) := by decide +kernel
theorem dX9_lay_80 : decode cX9_lay 80 = .ok (.aload_n 0, 1) := by decide +kernel
theorem dX9_lay_81 : decode cX9_lay 81 = .ok (.getfield 47, 3) := by decide +kernel
theorem dX9_lay_84 : decode cX9_lay 84 = .ok (.iload_n 3, 1) := by decide +kernel
theorem dX9_lay_85 : decode cX9_lay 85 = .ok (.putfield 413, 3) := by decide +kernel
theorem dX9_lay_88 : decode cX9_lay 88 = .ok (.goto 28, 3) := by decide +kernel
theorem dX0_note_0 : decode cX0_note 0 = .ok (.aload_n 0, 1) := by decide +kernel
theorem dX0_note_1 : decode cX0_note 1 = .ok (.getfield 22, 3) := by decide +kernel
theorem dX0_note_4 : decode cX0_note 4 = .ok (.bipush 40, 2) := by decide +kernel
theorem dX0_note_6 : decode cX0_note 6 = .ok (.if_icmp .lt 7, 3) := by decide +kernel
theorem dX0_note_13 : decode cX0_note 13 = .ok (.aload_n 0, 1) := by decide +kernel
theorem dX0_note_14 : decode cX0_note 14 = .ok (.getfield 9, 3) := by decide +kernel
theorem dX0_note_17 : decode cX0_note 17 = .ok (.aload_n 0, 1) := by decide +kernel
theorem dX0_note_18 : decode cX0_note 18 = .ok (.getfield 22, 3) := by decide +kernel
theorem dX0_note_21 : decode cX0_note 21 = .ok (.iload_n 1, 1) := by decide +kernel
theorem dX0_note_22 : decode cX0_note 22 = .ok (.iastore, 1) := by decide +kernel
theorem dX0_note_23 : decode cX0_note 23 = .ok (.aload_n 0, 1) := by decide +kernel
theorem dX0_note_24 : decode cX0_note 24 = .ok (.getfield 13, 3) := by decide +kernel
theorem dX0_note_27 : decode cX0_note 27 = .ok (.aload_n 0, 1) := by decide +kernel
theorem dX0_note_28 : decode cX0_note 28 = .ok (.getfield 22, 3) := by decide +kernel
theorem dX0_note_31 : decode cX0_note 31 = .ok (.iload_n 2, 1) := by decide +kernel
theorem dX0_note_32 : decode cX0_note 32 = .ok (.iastore, 1) := by decide +kernel
theorem dX0_note_33 : decode cX0_note 33 = .ok (.aload_n 0, 1) := by decide +kernel
theorem dX0_note_34 : decode cX0_note 34 = .ok (.getfield 16, 3) := by decide +kernel
theorem dX0_note_37 : decode cX0_note 37 = .ok (.aload_n 0, 1) := by decide +kernel
theorem dX0_note_38 : decode cX0_note 38 = .ok (.getfield 22, 3) := by decide +kernel
theorem dX0_note_41 : decode cX0_note 41 = .ok (.iload_n 3, 1) := by decide +kernel
theorem dX0_note_42 : decode cX0_note 42 = .ok (.iastore, 1) := by decide +kernel
theorem dX0_note_43 : decode cX0_note 43 = .ok (.aload_n 0, 1) := by decide +kernel
theorem dX0_note_44 : decode cX0_note 44 = .ok (.getfield 19, 3) := by decide +kernel
theorem dX0_note_47 : decode cX0_note 47 = .ok (.aload_n 0, 1) := by decide +kernel
theorem dX0_note_48 : decode cX0_note 48 = .ok (.getfield 22, 3) := by decide +kernel
theorem dX0_note_51 : decode cX0_note 51 = .ok (.iload 4, 2) := by decide +kernel
theorem dX0_note_53 : decode cX0_note 53 = .ok (.iastore, 1) := by decide +kernel
theorem dX0_note_54 : decode cX0_note 54 = .ok (.aload_n 0, 1) := by decide +kernel
theorem dX0_note_55 : decode cX0_note 55 = .ok (.dup, 1) := by decide +kernel
theorem dX0_note_56 : decode cX0_note 56 = .ok (.getfield 22, 3) := by decide +kernel
theorem dX0_note_59 : decode cX0_note 59 = .ok (.iconst 1, 1) := by decide +kernel
theorem dX0_note_60 : decode cX0_note 60 = .ok (.iadd, 1) := by decide +kernel
theorem dX0_note_61 : decode cX0_note 61 = .ok (.putfield 22, 3) := by decide +kernel
theorem dX0_note_64 : decode cX0_note 64 = .ok (.aload_n 0, 1) := by decide +kernel
theorem dX0_note_65 : decode cX0_note 65 = .ok (.aload_n 0, 1) := by decide +kernel
theorem dX0_note_66 : decode cX0_note 66 = .ok (.getfield 22, 3) := by decide +kernel
theorem dX0_note_69 : decode cX0_note 69 = .ok (.putfield 29, 3) := by decide +kernel
theorem dX0_note_72 : decode cX0_note 72 = .ok (.return_, 1) := by decide +kernel
theorem dX9_mend_0 : decode cX9_mend 0 = .ok (.aload_n 0, 1) := by decide +kernel
theorem dX9_mend_1 : decode cX9_mend 1 = .ok (.iload_n 1, 1) := by decide +kernel
theorem dX9_mend_2 : decode cX9_mend 2 = .ok (.iload_n 2, 1) := by decide +kernel
theorem dX9_mend_3 : decode cX9_mend 3 = .ok (.iload_n 3, 1) := by decide +kernel
theorem dX9_mend_4 : decode cX9_mend 4 = .ok (.invokevirtual 101, 3) := by decide +kernel
theorem dX9_mend_7 : decode cX9_mend 7 = .ok (.ifCond .ne 6, 3) := by decide +kernel
theorem dX9_mend_13 : decode cX9_mend 13 = .ok (.aload_n 0, 1) := by decide +kernel
theorem dX9_mend_14 : decode cX9_mend 14 = .ok (.iload_n 1, 1) := by decide +kernel
theorem dX9_mend_15 : decode cX9_mend 15 = .ok (.iload_n 2, 1) := by decide +kernel
theorem dX9_mend_16 : decode cX9_mend 16 = .ok (.invokevirtual 106, 3) := by decide +kernel
theorem dX9_mend_19 : decode cX9_mend 19 = .ok (.istore 4, 2) := by decide +kernel
theorem dX9_mend_21 : decode cX9_mend 21 = .ok (.iload 4, 2) := by decide +kernel
theorem dX9_mend_23 : decode cX9_mend 23 = .ok (.iload_n 3, 1) := by decide +kernel
theorem dX9_mend_24 : decode cX9_mend 24 = .ok (.if_icmp .eq 22, 3) := by decide +kernel
theorem dX9_mend_46 : decode cX9_mend 46 = .ok (.iload 4, 2) := by decide +kernel
theorem dX9_mend_48 : decode cX9_mend 48 = .ok (.ireturn, 1) := by decide +kernel
theorem dX9_mend_27 : decode cX9_mend 27 = .ok (.aload_n 0, 1) := by decide +kernel
theorem dX9_mend_28 : decode cX9_mend 28 = .ok (.iload_n 1, 1) := by decide +kernel
theorem dX9_mend_29 : decode cX9_mend 29 = .ok (.iload_n 2, 1) := by decide +kernel
theorem dX9_mend_30 : decode cX9_mend 30 = .ok (.iload_n 3, 1) := by decide +kernel
theorem dX9_mend_31 : decode cX9_mend 31 = .ok (.invokevirtual 110, 3) := by decide +kernel
theorem dX9_mend_34 : decode cX9_mend 34 = .ok (.aload_n 0, 1) := by decide +kernel
theorem dX9_mend_35 : decode cX9_mend 35 = .ok (.getfield 54, 3) := by decide +kernel
theorem dX9_mend_38 : decode cX9_mend 38 = .ok (.iload_n 1, 1) := by decide +kernel
theorem dX9_mend_39 : decode cX9_mend 39 = .ok (.iload_n 2, 1) := by decide +kernel
theorem dX9_mend_40 : decode cX9_mend 40 = .ok (.iload 4, 2) := by decide +kernel
theorem dX9_mend_42 : decode cX9_mend 42 = .ok (.iload_n 3, 1) := by decide +kernel
theorem dX9_mend_43 : decode cX9_mend 43 = .ok (.invokevirtual 114, 3) := by decide +kernel
theorem dX9_mend_10 : decode cX9_mend 10 = .ok (.ldc 105, 2) := by decide +kernel
theorem dX9_mend_12 : decode cX9_mend 12 = .ok (.ireturn, 1) := by decide +kernel
theorem dX9_beatFor_0 : decode cX9_beatFor 0 = .ok (.iload_n 1, 1) := by decide +kernel
theorem dX9_beatFor_1 : decode cX9_beatFor 1 = .ok (.ifCond .lt 8, 3) := by decide +kernel
theorem dX9_beatFor_9 : decode cX9_beatFor 9 = .ok (.iconst (-1), 1) := by decide +kernel
theorem dX9_beatFor_10 : decode cX9_beatFor 10 = .ok (.ireturn, 1) := by decide +kernel
theorem dX9_beatFor_4 : decode cX9_beatFor 4 = .ok (.iload_n 1, 1) := by decide +kernel
theorem dX9_beatFor_5 : decode cX9_beatFor 5 = .ok (.iconst 1, 1) := by decide +kernel
theorem dX9_beatFor_6 : decode cX9_beatFor 6 = .ok (.if_icmp .le 5, 3) := by decide +kernel
theorem dX9_beatFor_11 : decode cX9_beatFor 11 = .ok (.iconst (-1), 1) := by decide +kernel
theorem dX9_beatFor_12 : decode cX9_beatFor 12 = .ok (.istore_n 2, 1) := by decide +kernel
theorem dX9_beatFor_13 : decode cX9_beatFor 13 = .ok (.iconst 0, 1) := by decide +kernel
theorem dX9_beatFor_14 : decode cX9_beatFor 14 = .ok (.istore_n 3, 1) := by decide +kernel
theorem dX9_beatFor_15 : decode cX9_beatFor 15 = .ok (.iconst 2, 1) := by decide +kernel
theorem dX9_beatFor_16 : decode cX9_beatFor 16 = .ok (.istore 4, 2) := by decide +kernel
theorem dX9_beatFor_18 : decode cX9_beatFor 18 = .ok (.iload 4, 2) := by decide +kernel
theorem dX9_beatFor_20 : decode cX9_beatFor 20 = .ok (.bipush 24, 2) := by decide +kernel
theorem dX9_beatFor_22 : decode cX9_beatFor 22 = .ok (.if_icmp .gt 97, 3) := by decide +kernel
theorem dX9_beatFor_25 : decode cX9_beatFor 25 = .ok (.iload_n 2, 1) := by decide +kernel
theorem dX9_beatFor_26 : decode cX9_beatFor 26 = .ok (.sipush 200, 3) := by decide +kernel
theorem dX9_beatFor_29 : decode cX9_beatFor 29 = .ok (.if_icmp .ge 90, 3) := by decide +kernel
theorem dX9_beatFor_32 : decode cX9_beatFor 32 = .ok (.iconst 0, 1) := by decide +kernel
theorem dX9_beatFor_33 : decode cX9_beatFor 33 = .ok (.istore 5, 2) := by decide +kernel
theorem dX9_beatFor_35 : decode cX9_beatFor 35 = .ok (.iload 5, 2) := by decide +kernel
theorem dX9_beatFor_37 : decode cX9_beatFor 37 = .ok (.iload 4, 2) := by decide +kernel
theorem dX9_beatFor_39 : decode cX9_beatFor 39 = .ok (.if_icmp .ge 74, 3) := by decide +kernel
theorem dX9_beatFor_42 : decode cX9_beatFor 42 = .ok (.iload_n 2, 1) := by decide +kernel
theorem dX9_beatFor_43 : decode cX9_beatFor 43 = .ok (.sipush 200, 3) := by decide +kernel
theorem dX9_beatFor_46 : decode cX9_beatFor 46 = .ok (.if_icmp .ge 67, 3) := by decide +kernel
theorem dX9_beatFor_49 : decode cX9_beatFor 49 = .ok (.aload_n 0, 1) := by decide +kernel
theorem dX9_beatFor_50 : decode cX9_beatFor 50 = .ok (.getfield 40, 3) := by decide +kernel
theorem dX9_beatFor_53 : decode cX9_beatFor 53 = .ok (.invokevirtual 192, 3) := by decide +kernel
theorem dX9_beatFor_56 : decode cX9_beatFor 56 = .ok (.aload_n 0, 1) := by decide +kernel
theorem dX9_beatFor_57 : decode cX9_beatFor 57 = .ok (.getfield 40, 3) := by decide +kernel
theorem dX9_beatFor_60 : decode cX9_beatFor 60 = .ok (.getfield 201, 3) := by decide +kernel
theorem dX9_beatFor_63 : decode cX9_beatFor 63 = .ok (.iload 4, 2) := by decide +kernel
theorem dX9_beatFor_65 : decode cX9_beatFor 65 = .ok (.putfield 202, 3) := by decide +kernel
theorem dX9_beatFor_68 : decode cX9_beatFor 68 = .ok (.aload_n 0, 1) := by decide +kernel
theorem dX9_beatFor_69 : decode cX9_beatFor 69 = .ok (.getfield 40, 3) := by decide +kernel
theorem dX9_beatFor_72 : decode cX9_beatFor 72 = .ok (.getfield 201, 3) := by decide +kernel
theorem dX9_beatFor_75 : decode cX9_beatFor 75 = .ok (.iload 5, 2) := by decide +kernel
theorem dX9_beatFor_77 : decode cX9_beatFor 77 = .ok (.putfield 205, 3) := by decide +kernel
theorem dX9_beatFor_80 : decode cX9_beatFor 80 = .ok (.aload_n 0, 1) := by decide +kernel
theorem dX9_beatFor_81 : decode cX9_beatFor 81 = .ok (.getfield 40, 3) := by decide +kernel
theorem dX9_beatFor_84 : decode cX9_beatFor 84 = .ok (.invokevirtual 198, 3) := by decide +kernel
theorem dX9_beatFor_87 : decode cX9_beatFor 87 = .ok (.istore 6, 2) := by decide +kernel
theorem dX9_beatFor_89 : decode cX9_beatFor 89 = .ok (.iload 6, 2) := by decide +kernel
theorem dX9_beatFor_91 : decode cX9_beatFor 91 = .ok (.iload_n 2, 1) := by decide +kernel
theorem dX9_beatFor_92 : decode cX9_beatFor 92 = .ok (.if_icmp .le 15, 3) := by decide +kernel
theorem dX9_beatFor_95 : decode cX9_beatFor 95 = .ok (.iload 6, 2) := by decide +kernel
theorem dX9_beatFor_97 : decode cX9_beatFor 97 = .ok (.istore_n 2, 1) := by decide +kernel
theorem dX9_beatFor_98 : decode cX9_beatFor 98 = .ok (.bipush 100, 2) := by decide +kernel
theorem dX9_beatFor_100 : decode cX9_beatFor 100 = .ok (.iload 4, 2) := by decide +kernel
theorem dX9_beatFor_102 : decode cX9_beatFor 102 = .ok (.imul, 1) := by decide +kernel
theorem dX9_beatFor_103 : decode cX9_beatFor 103 = .ok (.iload 5, 2) := by decide +kernel
theorem dX9_beatFor_105 : decode cX9_beatFor 105 = .ok (.iadd, 1) := by decide +kernel
theorem dX9_beatFor_106 : decode cX9_beatFor 106 = .ok (.istore_n 3, 1) := by decide +kernel
theorem dX9_beatFor_107 : decode cX9_beatFor 107 = .ok (.iinc 5 1, 3) := by decide +kernel
theorem dX9_beatFor_110 : decode cX9_beatFor 110 = .ok (.goto (-75), 3) := by decide +kernel
theorem dX9_beatFor_113 : decode cX9_beatFor 113 = .ok (.iinc 4 1, 3) := by decide +kernel
theorem dX9_beatFor_116 : decode cX9_beatFor 116 = .ok (.goto (-98), 3) := by decide +kernel
theorem dX9_beatFor_119 : decode cX9_beatFor 119 = .ok (.iload_n 1, 1) := by decide +kernel
theorem dX9_beatFor_120 : decode cX9_beatFor 120 = .ok (.ifCond .ne 7, 3) := by decide +kernel
theorem dX9_beatFor_127 : decode cX9_beatFor 127 = .ok (.iload_n 2, 1) := by decide +kernel
theorem dX9_beatFor_128 : decode cX9_beatFor 128 = .ok (.ireturn, 1) := by decide +kernel
theorem dX9_beatFor_123 : decode cX9_beatFor 123 = .ok (.iload_n 3, 1) := by decide +kernel
theorem dX9_beatFor_124 : decode cX9_beatFor 124 = .ok (.goto 4, 3) := by decide +kernel
theorem dX9_held_0 : decode cX9_held 0 = .ok (.iload_n 1, 1) := by decide +kernel
theorem dX9_held_1 : decode cX9_held 1 = .ok (.iconst 1, 1) := by decide +kernel
theorem dX9_held_2 : decode cX9_held 2 = .ok (.if_icmp .lt 10, 3) := by decide +kernel
theorem dX9_held_12 : decode cX9_held 12 = .ok (.iconst (-1), 1) := by decide +kernel
theorem dX9_held_13 : decode cX9_held 13 = .ok (.ireturn, 1) := by decide +kernel
theorem dX9_held_5 : decode cX9_held 5 = .ok (.iload_n 1, 1) := by decide +kernel
theorem dX9_held_6 : decode cX9_held 6 = .ok (.sipush 200, 3) := by decide +kernel
theorem dX9_held_9 : decode cX9_held 9 = .ok (.if_icmp .le 5, 3) := by decide +kernel
theorem dX9_held_14 : decode cX9_held 14 = .ok (.bipush (-2), 2) := by decide +kernel
theorem dX9_held_16 : decode cX9_held 16 = .ok (.istore_n 2, 1) := by decide +kernel
theorem dX9_held_17 : decode cX9_held 17 = .ok (.iconst 0, 1) := by decide +kernel
theorem dX9_held_18 : decode cX9_held 18 = .ok (.istore_n 3, 1) := by decide +kernel
theorem dX9_held_19 : decode cX9_held 19 = .ok (.iconst 1, 1) := by decide +kernel
theorem dX9_held_20 : decode cX9_held 20 = .ok (.istore 4, 2) := by decide +kernel
theorem dX9_held_22 : decode cX9_held 22 = .ok (.iload 4, 2) := by decide +kernel
theorem dX9_held_24 : decode cX9_held 24 = .ok (.iconst 1, 1) := by decide +kernel
theorem dX9_held_25 : decode cX9_held 25 = .ok (.aload_n 0, 1) := by decide +kernel
theorem dX9_held_26 : decode cX9_held 26 = .ok (.getfield 28, 3) := by decide +kernel
theorem dX9_held_29 : decode cX9_held 29 = .ok (.getfield 218, 3) := by decide +kernel
theorem dX9_held_32 : decode cX9_held 32 = .ok (.ishl, 1) := by decide +kernel
theorem dX9_held_33 : decode cX9_held 33 = .ok (.if_icmp .ge 69, 3) := by decide +kernel
theorem dX9_held_102 : decode cX9_held 102 = .ok (.iload_n 2, 1) := by decide +kernel
theorem dX9_held_103 : decode cX9_held 103 = .ok (.ireturn, 1) := by decide +kernel
theorem E0_MI : E0 z_M := ⟨by decide +kernel, by decide +kernel, by decide +kernel, Fr_z⟩
theorem mi_36 : ∀ j, j < 25 → z_M 36 j = 9 := by decide +kernel
theorem mi_37 : ∀ j, j < 25 → z_M 37 j = 0 := by decide +kernel
theorem mi_sh : ∀ j, j < 6 → z_M (50 + 2 * j) 0 = 0 ∧ z_M (50 + 2 * j) 3 = 0 := by decide +kernel
set_option maxRecDepth 100000 in
set_option maxHeartbeats 4000000 in
theorem p_settingOf (what : Int32) {l : Launch} {G : xG}  : x_M l G fX9_settingOf 0 0 0 [.ref (0), .int (what)] x_SH z_M x_J0 (qF (some (.int (if what = 10 then 1 else if what = 11 then 6 else if what = 12 then 0 else if what = 13 then 2 else if what = 14 then 1 else if what = 15 then 0 else -2000000000)))) := by
  refine xb_of pX9 (Nat.le_of_ble_eq_true rfl) rfl ?_
  refine xr_iload_n dX9_settingOf_0 1 rfl ?_
  by_cases n10 : what = 10
  · subst n10
    refine xr_tableIn (tgt := 40) dX9_settingOf_1 (by decide) (by decide) rfl rfl ?_
    refine xr_aload_n dX9_settingOf_40 0 rfl ?_
    refine xr_getR flX9_28 dX9_settingOf_41 s_0 rfl ?_
    refine xb_get (v := 1) flX9_410 dX9_settingOf_44 s_13 rfl (by decide +kernel) ?_
    exact xr_iret dX9_settingOf_47 rfl rfl (⟨by first | rfl | (refine congrArg (fun z => some (Value.int z)) ?_; first | exact (if_neg (by assumption)).symm | exact (if_pos (by assumption)).symm | grind), rfl, by repeat (first | (with_reducible assumption) | (with_reducible exact Fr_z) | (with_reducible exact E0_fr (by assumption)) | ((with_reducible refine Fr_up ?_ ?_); first | decide | omega))⟩)
  by_cases n11 : what = 11
  · subst n11
    refine xr_tableIn (tgt := 48) dX9_settingOf_1 (by decide) (by decide) rfl rfl ?_
    refine xr_aload_n dX9_settingOf_48 0 rfl ?_
    refine xr_getR flX9_28 dX9_settingOf_49 s_0 rfl ?_
    refine xb_get (v := 6) flX9_202 dX9_settingOf_52 s_13 rfl (by decide +kernel) ?_
    exact xr_iret dX9_settingOf_55 rfl rfl (⟨by first | rfl | (refine congrArg (fun z => some (Value.int z)) ?_; first | exact (if_neg (by assumption)).symm | exact (if_pos (by assumption)).symm | grind), rfl, by repeat (first | (with_reducible assumption) | (with_reducible exact Fr_z) | (with_reducible exact E0_fr (by assumption)) | ((with_reducible refine Fr_up ?_ ?_); first | decide | omega))⟩)
  by_cases n12 : what = 12
  · subst n12
    refine xr_tableIn (tgt := 56) dX9_settingOf_1 (by decide) (by decide) rfl rfl ?_
    refine xr_aload_n dX9_settingOf_56 0 rfl ?_
    refine xr_getR flX9_28 dX9_settingOf_57 s_0 rfl ?_
    refine xb_get (v := 0) flX9_205 dX9_settingOf_60 s_13 rfl (by decide +kernel) ?_
    exact xr_iret dX9_settingOf_63 rfl rfl (⟨by first | rfl | (refine congrArg (fun z => some (Value.int z)) ?_; first | exact (if_neg (by assumption)).symm | exact (if_pos (by assumption)).symm | grind), rfl, by repeat (first | (with_reducible assumption) | (with_reducible exact Fr_z) | (with_reducible exact E0_fr (by assumption)) | ((with_reducible refine Fr_up ?_ ?_); first | decide | omega))⟩)
  by_cases n13 : what = 13
  · subst n13
    refine xr_tableIn (tgt := 64) dX9_settingOf_1 (by decide) (by decide) rfl rfl ?_
    refine xr_aload_n dX9_settingOf_64 0 rfl ?_
    refine xr_getR flX9_28 dX9_settingOf_65 s_0 rfl ?_
    refine xb_get (v := 2) flX9_208 dX9_settingOf_68 s_13 rfl (by decide +kernel) ?_
    exact xr_iret dX9_settingOf_71 rfl rfl (⟨by first | rfl | (refine congrArg (fun z => some (Value.int z)) ?_; first | exact (if_neg (by assumption)).symm | exact (if_pos (by assumption)).symm | grind), rfl, by repeat (first | (with_reducible assumption) | (with_reducible exact Fr_z) | (with_reducible exact E0_fr (by assumption)) | ((with_reducible refine Fr_up ?_ ?_); first | decide | omega))⟩)
  by_cases n14 : what = 14
  · subst n14
    refine xr_tableIn (tgt := 72) dX9_settingOf_1 (by decide) (by decide) rfl rfl ?_
    refine xr_aload_n dX9_settingOf_72 0 rfl ?_
    refine xr_getR flX9_47 dX9_settingOf_73 s_0 rfl ?_
    refine xb_get (v := 1) flX9_413 dX9_settingOf_76 s_35 rfl (by decide +kernel) ?_
    exact xr_iret dX9_settingOf_79 rfl rfl (⟨by first | rfl | (refine congrArg (fun z => some (Value.int z)) ?_; first | exact (if_neg (by assumption)).symm | exact (if_pos (by assumption)).symm | grind), rfl, by repeat (first | (with_reducible assumption) | (with_reducible exact Fr_z) | (with_reducible exact E0_fr (by assumption)) | ((with_reducible refine Fr_up ?_ ?_); first | decide | omega))⟩)
  by_cases n15 : what = 15
  · subst n15
    refine xr_tableIn (tgt := 80) dX9_settingOf_1 (by decide) (by decide) rfl rfl ?_
    refine xr_aload_n dX9_settingOf_80 0 rfl ?_
    refine xr_getR flX9_28 dX9_settingOf_81 s_0 rfl ?_
    refine xb_get (v := 0) flX9_303 dX9_settingOf_84 s_13 rfl (by decide +kernel) ?_
    exact xr_iret dX9_settingOf_87 rfl rfl (⟨by first | rfl | (refine congrArg (fun z => some (Value.int z)) ?_; first | exact (if_neg (by assumption)).symm | exact (if_pos (by assumption)).symm | grind), rfl, by repeat (first | (with_reducible assumption) | (with_reducible exact Fr_z) | (with_reducible exact E0_fr (by assumption)) | ((with_reducible refine Fr_up ?_ ?_); first | decide | omega))⟩)
  refine xr_tableOut (tgt := 88) dX9_settingOf_1 (by have q10 := lv_neT (a := 10) n10 (by decide); have q11 := lv_neT (a := 11) n11 (by decide); have q12 := lv_neT (a := 12) n12 (by decide); have q13 := lv_neT (a := 13) n13 (by decide); have q14 := lv_neT (a := 14) n14 (by decide); have q15 := lv_neT (a := 15) n15 (by decide); omega) rfl ?_
  refine xr_ldc coX9_105 dX9_settingOf_88 ?_
  exact xr_iret dX9_settingOf_90 rfl rfl (⟨by first | rfl | (refine congrArg (fun z => some (Value.int z)) ?_; first | exact (if_neg (by assumption)).symm | exact (if_pos (by assumption)).symm | grind), rfl, by repeat (first | (with_reducible assumption) | (with_reducible exact Fr_z) | (with_reducible exact E0_fr (by assumption)) | ((with_reducible refine Fr_up ?_ ?_); first | decide | omega))⟩)
set_option maxRecDepth 100000 in
set_option maxHeartbeats 4000000 in
theorem p_addHoop (a b c : Int32) {l : Launch} {G : xG}  : x_M l G fX5_addHoop 1 0 0 [.ref (13), .int (a), .int (b), .int (c)] x_SH z_M x_J0 (qF (some (.int 0))) := by
  refine xb_of pX5 (Nat.le_of_ble_eq_true rfl) rfl ?_
  refine xr_aload_n dX5_addHoop_0 0 rfl ?_
  refine xb_cV (As := []) (rest := []) mlX5_54 (c_X5_isFull s_13) dX5_addHoop_1 s_13 rfl rfl (Nat.le_of_ble_eq_true rfl) (by decide) (by decide) ?_
  refine xb_top (y := bI (5 ≤ (0 : Int32))) (x_bI_c (by rw [show z_M 13 2 = 0 from (by decide +kernel)])) ?_
  refine xb_beq (tgt := 10) dX5_addHoop_4 rfl (fun _ => ?_) (fun c => absurd c (by decide))
  refine xr_aload_n dX5_addHoop_10 0 rfl ?_
  refine xr_getR flX5_17 dX5_addHoop_11 s_13 rfl ?_
  refine xr_aload_n dX5_addHoop_14 0 rfl ?_
  refine xb_get (v := 0) flX5_35 dX5_addHoop_15 s_13 rfl (by decide +kernel) ?_
  refine xb_aald (j := 0) (q := 15) (by decide) dX5_addHoop_18 s_14 (by decide) (by decide) rfl ?_
  refine xr_astore (ls2 := [(4, .ref (15)), (0, .ref (13)), (1, .int (a)), (2, .int (b)), (3, .int (c))]) dX5_addHoop_19 (by decide) rfl ?_
  refine xr_aload dX5_addHoop_21 0 rfl ?_
  refine xr_iload_n dX5_addHoop_23 2 rfl ?_
  refine xr_putI fpX5_58 dX5_addHoop_24 s_15 rfl rfl rfl ?_
  refine xr_aload dX5_addHoop_27 0 rfl ?_
  refine xr_iload_n dX5_addHoop_29 3 rfl ?_
  refine xr_putI fpX5_61 dX5_addHoop_30 s_15 rfl rfl rfl ?_
  refine xr_aload dX5_addHoop_33 0 rfl ?_
  refine xb_cV (As := []) (rest := []) mlX5_64 (c_X2_raise s_15) dX5_addHoop_35 s_15 rfl rfl (Nat.le_of_ble_eq_true rfl) (by decide) (by decide) ?_
  refine xr_aload dX5_addHoop_38 0 rfl ?_
  refine xr_iload_n dX5_addHoop_40 4 rfl ?_
  refine xr_putI fpX5_67 dX5_addHoop_41 s_15 rfl rfl rfl ?_
  refine xr_aload_n dX5_addHoop_44 1 rfl ?_
  refine xr_dup dX5_addHoop_45 rfl ?_
  refine xb_get (v := 0) flX5_35 dX5_addHoop_46 s_13 rfl (Eq.trans (congrFun (x_up_n _ _ _ (by decide)) _) (Eq.trans (congrFun (x_up_n _ _ _ (by decide)) _) (Eq.trans (congrFun (x_up_n _ _ _ (by decide)) _) (Eq.trans (congrFun (x_up_n _ _ _ (by decide)) _) (Eq.trans (congrFun (x_up_n _ _ _ (by decide)) _) (Eq.trans (congrFun (x_up_n _ _ _ (by decide)) _) (by decide +kernel))))))) ?_
  refine xr_iconst (v := 1) dX5_addHoop_49 rfl ?_
  refine xr_iadd dX5_addHoop_50 ?_
  refine xb_top (y := 1) (by decide) ?_
  refine xr_putI fpX5_35 dX5_addHoop_51 s_13 rfl rfl rfl ?_
  refine xr_aload_n dX5_addHoop_54 1 rfl ?_
  refine xb_get (v := 1) flX5_35 dX5_addHoop_55 s_13 rfl (x_up_s _ _ _ _) ?_
  refine xr_iconst (v := 1) dX5_addHoop_58 rfl ?_
  refine xr_isub dX5_addHoop_59 ?_
  refine xb_top (y := 0) (by decide) ?_
  exact xr_iret dX5_addHoop_60 rfl rfl (⟨by first | rfl | (refine congrArg (fun z => some (Value.int z)) ?_; first | exact (if_neg (by assumption)).symm | exact (if_pos (by assumption)).symm | grind), rfl, by repeat (first | (with_reducible assumption) | (with_reducible exact Fr_z) | (with_reducible exact E0_fr (by assumption)) | ((with_reducible refine Fr_up ?_ ?_); first | decide | omega))⟩)
set_option maxRecDepth 100000 in
set_option maxHeartbeats 4000000 in
theorem p_X9_hoop (sh : Int32) {l : Launch} {G : xG}  : x_M l G fX9_hoop 4 0 0 [.ref (0), .int (sh)] x_SH z_M x_J0 (qF (some (.int (if 0 ≤ sh ∧ (1 ≤ sh / 10 ∧ sh / 10 ≤ 9) ∧ (1 ≤ sh - sh / 10 * 10 ∧ sh - sh / 10 * 10 ≤ 9) then 0 else -1)))) := by
  refine xb_of pX9 (Nat.le_of_ble_eq_true rfl) rfl ?_
  refine xr_iload_n dX9_hoop_0 1 rfl ?_
  refine xr_if_lt (tgt := 24) dX9_hoop_1 rfl (fun c1 => ?_) (fun c1 => ?_)
  · refine xr_iconst (v := -1) dX9_hoop_24 rfl ?_
    exact xr_iret dX9_hoop_25 rfl rfl (⟨by first | rfl | (refine congrArg (fun z => some (Value.int z)) ?_; first | exact (if_neg (by assumption)).symm | exact (if_pos (by assumption)).symm | grind), rfl, by repeat (first | (with_reducible assumption) | (with_reducible exact Fr_z) | (with_reducible exact E0_fr (by assumption)) | ((with_reducible refine Fr_up ?_ ?_); first | decide | omega))⟩)
  · refine xr_iload_n dX9_hoop_4 1 rfl ?_
    refine xr_bipush (v := 10) dX9_hoop_5 rfl ?_
    refine xr_idiv dX9_hoop_7 (by decide) ?_
    refine xb_cS (As := [.int ((sh / 10))]) (rest := []) mlX9_76 (c_X9_isWeight (sh / 10)) dX9_hoop_8 rfl rfl (Nat.le_of_ble_eq_true rfl) (by decide) (by decide) ?_
    refine xb_beq (tgt := 24) dX9_hoop_11 rfl (fun c2 => ?_) (fun c2 => ?_)
    · refine xr_iconst (v := -1) dX9_hoop_24 rfl ?_
      exact xr_iret dX9_hoop_25 rfl rfl (⟨by first | rfl | (refine congrArg (fun z => some (Value.int z)) ?_; first | exact (if_neg (by assumption)).symm | exact (if_pos (by assumption)).symm | grind), rfl, by repeat (first | (with_reducible assumption) | (with_reducible exact Fr_z) | (with_reducible exact E0_fr (by assumption)) | ((with_reducible refine Fr_up ?_ ?_); first | decide | omega))⟩)
    · refine xr_iload_n dX9_hoop_14 1 rfl ?_
      refine xr_bipush (v := 10) dX9_hoop_15 rfl ?_
      refine xr_irem dX9_hoop_17 (by decide) ?_
      refine xb_cS (As := [.int ((sh - sh / 10 * 10))]) (rest := []) mlX9_76 (c_X9_isWeight (sh - sh / 10 * 10)) dX9_hoop_18 rfl rfl (Nat.le_of_ble_eq_true rfl) (by decide) (by decide) ?_
      refine xb_bne (tgt := 26) dX9_hoop_21 rfl (fun c3 => ?_) (fun c3 => ?_)
      · refine xr_aload_n dX9_hoop_26 0 rfl ?_
        refine xr_getR flX9_28 dX9_hoop_27 s_0 rfl ?_
        refine xb_cV (As := []) (rest := []) mlX9_80 (c_X5_isFull s_13) dX9_hoop_30 s_13 rfl rfl (Nat.le_of_ble_eq_true rfl) (by decide) (by decide) ?_
        refine xb_top (y := bI (5 ≤ (0 : Int32))) (x_bI_c (by rw [show z_M 13 2 = 0 from (by decide +kernel)])) ?_
        refine xb_beq (tgt := 39) dX9_hoop_33 rfl (fun _ => ?_) (fun c => absurd c (by decide))
        refine xr_aload_n dX9_hoop_39 0 rfl ?_
        refine xr_getR flX9_28 dX9_hoop_40 s_0 rfl ?_
        refine xr_iload_n dX9_hoop_43 1 rfl ?_
        refine xr_bipush (v := 10) dX9_hoop_44 rfl ?_
        refine xr_idiv dX9_hoop_46 (by decide) ?_
        refine xr_iload_n dX9_hoop_47 1 rfl ?_
        refine xr_bipush (v := 10) dX9_hoop_48 rfl ?_
        refine xr_irem dX9_hoop_50 (by decide) ?_
        refine xr_iconst (v := 4) dX9_hoop_51 rfl ?_
        refine xr_callV (As := [.int ((sh / 10)), .int ((sh - sh / 10 * 10)), .int (4)]) (rest := []) mlX9_84 (p_addHoop (sh / 10) (sh - sh / 10 * 10) 4) dX9_hoop_52 s_13 rfl rfl (Nat.le_of_ble_eq_true rfl) (by decide) ⟨by decide, by decide⟩ (fun v s2 M5 J2 hq => ?_)
        obtain ⟨rfl, rfl, f6⟩ := hq
        try dsimp only [Option.toList, List.cons_append, List.nil_append]
        exact xr_iret dX9_hoop_55 rfl rfl (⟨by first | rfl | (refine congrArg (fun z => some (Value.int z)) ?_; first | exact (if_neg (by assumption)).symm | exact (if_pos (by assumption)).symm | grind), rfl, by repeat (first | (with_reducible assumption) | (with_reducible exact Fr_z) | (with_reducible exact E0_fr (by assumption)) | ((with_reducible refine Fr_up ?_ ?_); first | decide | omega))⟩)
      · refine xr_iconst (v := -1) dX9_hoop_24 rfl ?_
        exact xr_iret dX9_hoop_25 rfl rfl (⟨by first | rfl | (refine congrArg (fun z => some (Value.int z)) ?_; first | exact (if_neg (by assumption)).symm | exact (if_pos (by assumption)).symm | grind), rfl, by repeat (first | (with_reducible assumption) | (with_reducible exact Fr_z) | (with_reducible exact E0_fr (by assumption)) | ((with_reducible refine Fr_up ?_ ?_); first | decide | omega))⟩)
set_option maxRecDepth 100000 in
set_option maxHeartbeats 4000000 in
theorem p_X9_led (what : Int32) {l : Launch} {G : xG}  : x_M l G fX9_led 4 0 0 [.ref (0), .int (what)] x_SH z_M x_J0 (qF (some (.int (if what = 0 then 0 else if what = 1 then -2 else -1)))) := by
  refine xb_of pX9 (Nat.le_of_ble_eq_true rfl) rfl ?_
  refine xr_iload_n dX9_led_0 1 rfl ?_
  refine xr_if_ne (tgt := 12) dX9_led_1 rfl (fun c1 => ?_) (fun c1 => ?_)
  · refine xr_iload_n dX9_led_12 1 rfl ?_
    refine xr_iconst (v := 1) dX9_led_13 rfl ?_
    refine xr_icmp_ne (tgt := 27) dX9_led_14 rfl (fun c2 => ?_) (fun c2 => ?_)
    · refine xr_iconst (v := -1) dX9_led_27 rfl ?_
      exact xr_iret dX9_led_28 rfl rfl (⟨by first | rfl | (refine congrArg (fun z => some (Value.int z)) ?_; first | exact (if_neg (by assumption)).symm | exact (if_pos (by assumption)).symm | grind), rfl, by repeat (first | (with_reducible assumption) | (with_reducible exact Fr_z) | (with_reducible exact E0_fr (by assumption)) | ((with_reducible refine Fr_up ?_ ?_); first | decide | omega))⟩)
    · refine xr_aload_n dX9_led_17 0 rfl ?_
      refine xr_getR flX9_28 dX9_led_18 s_0 rfl ?_
      refine xb_get (v := (-2)) flX9_176 dX9_led_21 s_13 rfl (by decide +kernel) ?_
      refine xr_goto (tgt := 28) dX9_led_24 rfl ?_
      exact xr_iret dX9_led_28 rfl rfl (⟨by first | rfl | (refine congrArg (fun z => some (Value.int z)) ?_; first | exact (if_neg (by assumption)).symm | exact (if_pos (by assumption)).symm | grind), rfl, by repeat (first | (with_reducible assumption) | (with_reducible exact Fr_z) | (with_reducible exact E0_fr (by assumption)) | ((with_reducible refine Fr_up ?_ ?_); first | decide | omega))⟩)
  · refine xr_aload_n dX9_led_4 0 rfl ?_
    refine xr_getR flX9_28 dX9_led_5 s_0 rfl ?_
    refine xb_get (v := 0) flX9_173 dX9_led_8 s_13 rfl (by decide +kernel) ?_
    exact xr_iret dX9_led_11 rfl rfl (⟨by first | rfl | (refine congrArg (fun z => some (Value.int z)) ?_; first | exact (if_neg (by assumption)).symm | exact (if_pos (by assumption)).symm | grind), rfl, by repeat (first | (with_reducible assumption) | (with_reducible exact Fr_z) | (with_reducible exact E0_fr (by assumption)) | ((with_reducible refine Fr_up ?_ ?_); first | decide | omega))⟩)
set_option maxRecDepth 100000 in
set_option maxHeartbeats 4000000 in
theorem p_X9_of (number what : Int32) {l : Launch} {G : xG}  : x_M l G fX9_of 4 0 0 [.ref (0), .int (number), .int (what)] x_SH z_M x_J0 (qF (some (.int (if number = 0 ∧ 10 ≤ what ∧ what ≤ 15 then (if what = 10 then 1 else if what = 11 then 6 else if what = 12 then 0 else if what = 13 then 2 else if what = 14 then 1 else 0) else if (0 ≤ number ∧ number < 25) ∧ what = 20 then 9 else if (0 ≤ number ∧ number < 25) ∧ what = 21 then 0 else -2000000000)))) := by
  refine xb_of pX9 (Nat.le_of_ble_eq_true rfl) rfl ?_
  refine xr_iload_n dX9_of_0 2 rfl ?_
  refine xr_if_lt (tgt := 39) dX9_of_1 rfl (fun c1 => ?_) (fun c1 => ?_)
  · refine xr_iload_n dX9_of_39 2 rfl ?_
    refine xr_bipush (v := 10) dX9_of_40 rfl ?_
    refine xr_icmp_lt (tgt := 66) dX9_of_42 rfl (fun c2 => ?_) (fun c2 => ?_)
    · refine xr_iload_n dX9_of_66 2 rfl ?_
      refine xr_bipush (v := 20) dX9_of_67 rfl ?_
      refine xr_icmp_eq (tgt := 78) dX9_of_69 rfl (fun c3 => ?_) (fun c3 => ?_)
      · refine xr_iload_n dX9_of_78 1 rfl ?_
        refine xb_cS (As := [.int (number)]) (rest := []) mlX9_134 (c_X9_isGirl number) dX9_of_79 rfl rfl (Nat.le_of_ble_eq_true rfl) (by decide) (by decide) ?_
        refine xb_beq (tgt := 113) dX9_of_82 rfl (fun c4 => ?_) (fun c4 => ?_)
        · refine xr_ldc coX9_105 dX9_of_113 ?_
          exact xr_iret dX9_of_115 rfl rfl (⟨by first | rfl | (refine congrArg (fun z => some (Value.int z)) ?_; first | exact (if_neg (by assumption)).symm | exact (if_pos (by assumption)).symm | grind), rfl, by repeat (first | (with_reducible assumption) | (with_reducible exact Fr_z) | (with_reducible exact E0_fr (by assumption)) | ((with_reducible refine Fr_up ?_ ?_); first | decide | omega))⟩)
        · obtain ⟨j, hj, rfl⟩ := x_nat (N := 25) (by decide) rfl c4
          refine xr_iload_n dX9_of_85 2 rfl ?_
          refine xr_bipush (v := 20) dX9_of_86 rfl ?_
          refine xr_icmp_ne (tgt := 103) dX9_of_88 rfl (fun c5 => ?_) (fun c5 => ?_)
          · refine xr_aload_n dX9_of_103 0 rfl ?_
            refine xr_getR flX9_47 dX9_of_104 s_0 rfl ?_
            refine xr_getR flX9_141 dX9_of_107 s_35 rfl ?_
            refine xr_iload_n dX9_of_110 1 rfl ?_
            refine xb_iald (j := j) (v := 0) dX9_of_111 s_37 hj (by decide) (mi_37 j hj) ?_
            exact xr_iret dX9_of_112 rfl rfl (⟨by first | rfl | (refine congrArg (fun z => some (Value.int z)) ?_; first | exact (if_neg (by assumption)).symm | exact (if_pos (by assumption)).symm | grind), rfl, by repeat (first | (with_reducible assumption) | (with_reducible exact Fr_z) | (with_reducible exact E0_fr (by assumption)) | ((with_reducible refine Fr_up ?_ ?_); first | decide | omega))⟩)
          · refine xr_aload_n dX9_of_91 0 rfl ?_
            refine xr_getR flX9_47 dX9_of_92 s_0 rfl ?_
            refine xr_getR flX9_137 dX9_of_95 s_35 rfl ?_
            refine xr_iload_n dX9_of_98 1 rfl ?_
            refine xb_iald (j := j) (v := 9) dX9_of_99 s_36 hj (by decide) (mi_36 j hj) ?_
            refine xr_goto (tgt := 112) dX9_of_100 rfl ?_
            exact xr_iret dX9_of_112 rfl rfl (⟨by first | rfl | (refine congrArg (fun z => some (Value.int z)) ?_; first | exact (if_neg (by assumption)).symm | exact (if_pos (by assumption)).symm | grind), rfl, by repeat (first | (with_reducible assumption) | (with_reducible exact Fr_z) | (with_reducible exact E0_fr (by assumption)) | ((with_reducible refine Fr_up ?_ ?_); first | decide | omega))⟩)
      · refine xr_iload_n dX9_of_72 2 rfl ?_
        refine xr_bipush (v := 21) dX9_of_73 rfl ?_
        refine xr_icmp_ne (tgt := 113) dX9_of_75 rfl (fun c6 => ?_) (fun c6 => ?_)
        · refine xr_ldc coX9_105 dX9_of_113 ?_
          exact xr_iret dX9_of_115 rfl rfl (⟨by first | rfl | (refine congrArg (fun z => some (Value.int z)) ?_; first | exact (if_neg (by assumption)).symm | exact (if_pos (by assumption)).symm | grind), rfl, by repeat (first | (with_reducible assumption) | (with_reducible exact Fr_z) | (with_reducible exact E0_fr (by assumption)) | ((with_reducible refine Fr_up ?_ ?_); first | decide | omega))⟩)
        · refine xr_iload_n dX9_of_78 1 rfl ?_
          refine xb_cS (As := [.int (number)]) (rest := []) mlX9_134 (c_X9_isGirl number) dX9_of_79 rfl rfl (Nat.le_of_ble_eq_true rfl) (by decide) (by decide) ?_
          refine xb_beq (tgt := 113) dX9_of_82 rfl (fun c7 => ?_) (fun c7 => ?_)
          · refine xr_ldc coX9_105 dX9_of_113 ?_
            exact xr_iret dX9_of_115 rfl rfl (⟨by first | rfl | (refine congrArg (fun z => some (Value.int z)) ?_; first | exact (if_neg (by assumption)).symm | exact (if_pos (by assumption)).symm | grind), rfl, by repeat (first | (with_reducible assumption) | (with_reducible exact Fr_z) | (with_reducible exact E0_fr (by assumption)) | ((with_reducible refine Fr_up ?_ ?_); first | decide | omega))⟩)
          · obtain ⟨j, hj, rfl⟩ := x_nat (N := 25) (by decide) rfl c7
            refine xr_iload_n dX9_of_85 2 rfl ?_
            refine xr_bipush (v := 20) dX9_of_86 rfl ?_
            refine xr_icmp_ne (tgt := 103) dX9_of_88 rfl (fun c8 => ?_) (fun c8 => ?_)
            · refine xr_aload_n dX9_of_103 0 rfl ?_
              refine xr_getR flX9_47 dX9_of_104 s_0 rfl ?_
              refine xr_getR flX9_141 dX9_of_107 s_35 rfl ?_
              refine xr_iload_n dX9_of_110 1 rfl ?_
              refine xb_iald (j := j) (v := 0) dX9_of_111 s_37 hj (by decide) (mi_37 j hj) ?_
              exact xr_iret dX9_of_112 rfl rfl (⟨by first | rfl | (refine congrArg (fun z => some (Value.int z)) ?_; first | exact (if_neg (by assumption)).symm | exact (if_pos (by assumption)).symm | grind), rfl, by repeat (first | (with_reducible assumption) | (with_reducible exact Fr_z) | (with_reducible exact E0_fr (by assumption)) | ((with_reducible refine Fr_up ?_ ?_); first | decide | omega))⟩)
            · refine xr_aload_n dX9_of_91 0 rfl ?_
              refine xr_getR flX9_47 dX9_of_92 s_0 rfl ?_
              refine xr_getR flX9_137 dX9_of_95 s_35 rfl ?_
              refine xr_iload_n dX9_of_98 1 rfl ?_
              refine xb_iald (j := j) (v := 9) dX9_of_99 s_36 hj (by decide) (mi_36 j hj) ?_
              refine xr_goto (tgt := 112) dX9_of_100 rfl ?_
              exact xr_iret dX9_of_112 rfl rfl (⟨by first | rfl | (refine congrArg (fun z => some (Value.int z)) ?_; first | exact (if_neg (by assumption)).symm | exact (if_pos (by assumption)).symm | grind), rfl, by repeat (first | (with_reducible assumption) | (with_reducible exact Fr_z) | (with_reducible exact E0_fr (by assumption)) | ((with_reducible refine Fr_up ?_ ?_); first | decide | omega))⟩)
    · refine xr_iload_n dX9_of_45 2 rfl ?_
      refine xr_bipush (v := 15) dX9_of_46 rfl ?_
      refine xr_icmp_gt (tgt := 66) dX9_of_48 rfl (fun c9 => ?_) (fun c9 => ?_)
      · refine xr_iload_n dX9_of_66 2 rfl ?_
        refine xr_bipush (v := 20) dX9_of_67 rfl ?_
        refine xr_icmp_eq (tgt := 78) dX9_of_69 rfl (fun c10 => ?_) (fun c10 => ?_)
        · refine xr_iload_n dX9_of_78 1 rfl ?_
          refine xb_cS (As := [.int (number)]) (rest := []) mlX9_134 (c_X9_isGirl number) dX9_of_79 rfl rfl (Nat.le_of_ble_eq_true rfl) (by decide) (by decide) ?_
          refine xb_beq (tgt := 113) dX9_of_82 rfl (fun c11 => ?_) (fun c11 => ?_)
          · refine xr_ldc coX9_105 dX9_of_113 ?_
            exact xr_iret dX9_of_115 rfl rfl (⟨by first | rfl | (refine congrArg (fun z => some (Value.int z)) ?_; first | exact (if_neg (by assumption)).symm | exact (if_pos (by assumption)).symm | grind), rfl, by repeat (first | (with_reducible assumption) | (with_reducible exact Fr_z) | (with_reducible exact E0_fr (by assumption)) | ((with_reducible refine Fr_up ?_ ?_); first | decide | omega))⟩)
          · obtain ⟨j, hj, rfl⟩ := x_nat (N := 25) (by decide) rfl c11
            refine xr_iload_n dX9_of_85 2 rfl ?_
            refine xr_bipush (v := 20) dX9_of_86 rfl ?_
            refine xr_icmp_ne (tgt := 103) dX9_of_88 rfl (fun c12 => ?_) (fun c12 => ?_)
            · refine xr_aload_n dX9_of_103 0 rfl ?_
              refine xr_getR flX9_47 dX9_of_104 s_0 rfl ?_
              refine xr_getR flX9_141 dX9_of_107 s_35 rfl ?_
              refine xr_iload_n dX9_of_110 1 rfl ?_
              refine xb_iald (j := j) (v := 0) dX9_of_111 s_37 hj (by decide) (mi_37 j hj) ?_
              exact xr_iret dX9_of_112 rfl rfl (⟨by first | rfl | (refine congrArg (fun z => some (Value.int z)) ?_; first | exact (if_neg (by assumption)).symm | exact (if_pos (by assumption)).symm | grind), rfl, by repeat (first | (with_reducible assumption) | (with_reducible exact Fr_z) | (with_reducible exact E0_fr (by assumption)) | ((with_reducible refine Fr_up ?_ ?_); first | decide | omega))⟩)
            · refine xr_aload_n dX9_of_91 0 rfl ?_
              refine xr_getR flX9_47 dX9_of_92 s_0 rfl ?_
              refine xr_getR flX9_137 dX9_of_95 s_35 rfl ?_
              refine xr_iload_n dX9_of_98 1 rfl ?_
              refine xb_iald (j := j) (v := 9) dX9_of_99 s_36 hj (by decide) (mi_36 j hj) ?_
              refine xr_goto (tgt := 112) dX9_of_100 rfl ?_
              exact xr_iret dX9_of_112 rfl rfl (⟨by first | rfl | (refine congrArg (fun z => some (Value.int z)) ?_; first | exact (if_neg (by assumption)).symm | exact (if_pos (by assumption)).symm | grind), rfl, by repeat (first | (with_reducible assumption) | (with_reducible exact Fr_z) | (with_reducible exact E0_fr (by assumption)) | ((with_reducible refine Fr_up ?_ ?_); first | decide | omega))⟩)
        · refine xr_iload_n dX9_of_72 2 rfl ?_
          refine xr_bipush (v := 21) dX9_of_73 rfl ?_
          refine xr_icmp_ne (tgt := 113) dX9_of_75 rfl (fun c13 => ?_) (fun c13 => ?_)
          · refine xr_ldc coX9_105 dX9_of_113 ?_
            exact xr_iret dX9_of_115 rfl rfl (⟨by first | rfl | (refine congrArg (fun z => some (Value.int z)) ?_; first | exact (if_neg (by assumption)).symm | exact (if_pos (by assumption)).symm | grind), rfl, by repeat (first | (with_reducible assumption) | (with_reducible exact Fr_z) | (with_reducible exact E0_fr (by assumption)) | ((with_reducible refine Fr_up ?_ ?_); first | decide | omega))⟩)
          · refine xr_iload_n dX9_of_78 1 rfl ?_
            refine xb_cS (As := [.int (number)]) (rest := []) mlX9_134 (c_X9_isGirl number) dX9_of_79 rfl rfl (Nat.le_of_ble_eq_true rfl) (by decide) (by decide) ?_
            refine xb_beq (tgt := 113) dX9_of_82 rfl (fun c14 => ?_) (fun c14 => ?_)
            · refine xr_ldc coX9_105 dX9_of_113 ?_
              exact xr_iret dX9_of_115 rfl rfl (⟨by first | rfl | (refine congrArg (fun z => some (Value.int z)) ?_; first | exact (if_neg (by assumption)).symm | exact (if_pos (by assumption)).symm | grind), rfl, by repeat (first | (with_reducible assumption) | (with_reducible exact Fr_z) | (with_reducible exact E0_fr (by assumption)) | ((with_reducible refine Fr_up ?_ ?_); first | decide | omega))⟩)
            · obtain ⟨j, hj, rfl⟩ := x_nat (N := 25) (by decide) rfl c14
              refine xr_iload_n dX9_of_85 2 rfl ?_
              refine xr_bipush (v := 20) dX9_of_86 rfl ?_
              refine xr_icmp_ne (tgt := 103) dX9_of_88 rfl (fun c15 => ?_) (fun c15 => ?_)
              · refine xr_aload_n dX9_of_103 0 rfl ?_
                refine xr_getR flX9_47 dX9_of_104 s_0 rfl ?_
                refine xr_getR flX9_141 dX9_of_107 s_35 rfl ?_
                refine xr_iload_n dX9_of_110 1 rfl ?_
                refine xb_iald (j := j) (v := 0) dX9_of_111 s_37 hj (by decide) (mi_37 j hj) ?_
                exact xr_iret dX9_of_112 rfl rfl (⟨by first | rfl | (refine congrArg (fun z => some (Value.int z)) ?_; first | exact (if_neg (by assumption)).symm | exact (if_pos (by assumption)).symm | grind), rfl, by repeat (first | (with_reducible assumption) | (with_reducible exact Fr_z) | (with_reducible exact E0_fr (by assumption)) | ((with_reducible refine Fr_up ?_ ?_); first | decide | omega))⟩)
              · refine xr_aload_n dX9_of_91 0 rfl ?_
                refine xr_getR flX9_47 dX9_of_92 s_0 rfl ?_
                refine xr_getR flX9_137 dX9_of_95 s_35 rfl ?_
                refine xr_iload_n dX9_of_98 1 rfl ?_
                refine xb_iald (j := j) (v := 9) dX9_of_99 s_36 hj (by decide) (mi_36 j hj) ?_
                refine xr_goto (tgt := 112) dX9_of_100 rfl ?_
                exact xr_iret dX9_of_112 rfl rfl (⟨by first | rfl | (refine congrArg (fun z => some (Value.int z)) ?_; first | exact (if_neg (by assumption)).symm | exact (if_pos (by assumption)).symm | grind), rfl, by repeat (first | (with_reducible assumption) | (with_reducible exact Fr_z) | (with_reducible exact E0_fr (by assumption)) | ((with_reducible refine Fr_up ?_ ?_); first | decide | omega))⟩)
      · refine xr_iload_n dX9_of_51 1 rfl ?_
        refine xr_if_ne (tgt := 63) dX9_of_52 rfl (fun c16 => ?_) (fun c16 => ?_)
        · refine xr_ldc coX9_105 dX9_of_63 ?_
          exact xr_iret dX9_of_65 rfl rfl (⟨by first | rfl | (refine congrArg (fun z => some (Value.int z)) ?_; first | exact (if_neg (by assumption)).symm | exact (if_pos (by assumption)).symm | grind), rfl, by repeat (first | (with_reducible assumption) | (with_reducible exact Fr_z) | (with_reducible exact E0_fr (by assumption)) | ((with_reducible refine Fr_up ?_ ?_); first | decide | omega))⟩)
        · refine xr_aload_n dX9_of_55 0 rfl ?_
          refine xr_iload_n dX9_of_56 2 rfl ?_
          refine xr_callV (As := [.int (what)]) (rest := []) mlX9_131 (p_settingOf what) dX9_of_57 s_0 rfl rfl (Nat.le_of_ble_eq_true rfl) (by decide) ⟨by decide, by decide⟩ (fun v s2 M17 J2 hq => ?_)
          obtain ⟨rfl, rfl, f18⟩ := hq
          try dsimp only [Option.toList, List.cons_append, List.nil_append]
          refine xr_goto (tgt := 65) dX9_of_60 rfl ?_
          exact xr_iret dX9_of_65 rfl rfl (⟨by first | rfl | (refine congrArg (fun z => some (Value.int z)) ?_; first | exact (if_neg (by assumption)).symm | exact (if_pos (by assumption)).symm | grind), rfl, by repeat (first | (with_reducible assumption) | (with_reducible exact Fr_z) | (with_reducible exact E0_fr (by assumption)) | ((with_reducible refine Fr_up ?_ ?_); first | decide | omega))⟩)
  · refine xr_iload_n dX9_of_4 2 rfl ?_
    refine xr_iconst (v := 5) dX9_of_5 rfl ?_
    refine xr_icmp_gt (tgt := 39) dX9_of_6 rfl (fun c19 => ?_) (fun c19 => ?_)
    · refine xr_iload_n dX9_of_39 2 rfl ?_
      refine xr_bipush (v := 10) dX9_of_40 rfl ?_
      refine xr_icmp_lt (tgt := 66) dX9_of_42 rfl (fun c20 => ?_) (fun c20 => ?_)
      · refine xr_iload_n dX9_of_66 2 rfl ?_
        refine xr_bipush (v := 20) dX9_of_67 rfl ?_
        refine xr_icmp_eq (tgt := 78) dX9_of_69 rfl (fun c21 => ?_) (fun c21 => ?_)
        · refine xr_iload_n dX9_of_78 1 rfl ?_
          refine xb_cS (As := [.int (number)]) (rest := []) mlX9_134 (c_X9_isGirl number) dX9_of_79 rfl rfl (Nat.le_of_ble_eq_true rfl) (by decide) (by decide) ?_
          refine xb_beq (tgt := 113) dX9_of_82 rfl (fun c22 => ?_) (fun c22 => ?_)
          · refine xr_ldc coX9_105 dX9_of_113 ?_
            exact xr_iret dX9_of_115 rfl rfl (⟨by first | rfl | (refine congrArg (fun z => some (Value.int z)) ?_; first | exact (if_neg (by assumption)).symm | exact (if_pos (by assumption)).symm | grind), rfl, by repeat (first | (with_reducible assumption) | (with_reducible exact Fr_z) | (with_reducible exact E0_fr (by assumption)) | ((with_reducible refine Fr_up ?_ ?_); first | decide | omega))⟩)
          · obtain ⟨j, hj, rfl⟩ := x_nat (N := 25) (by decide) rfl c22
            refine xr_iload_n dX9_of_85 2 rfl ?_
            refine xr_bipush (v := 20) dX9_of_86 rfl ?_
            refine xr_icmp_ne (tgt := 103) dX9_of_88 rfl (fun c23 => ?_) (fun c23 => ?_)
            · refine xr_aload_n dX9_of_103 0 rfl ?_
              refine xr_getR flX9_47 dX9_of_104 s_0 rfl ?_
              refine xr_getR flX9_141 dX9_of_107 s_35 rfl ?_
              refine xr_iload_n dX9_of_110 1 rfl ?_
              refine xb_iald (j := j) (v := 0) dX9_of_111 s_37 hj (by decide) (mi_37 j hj) ?_
              exact xr_iret dX9_of_112 rfl rfl (⟨by first | rfl | (refine congrArg (fun z => some (Value.int z)) ?_; first | exact (if_neg (by assumption)).symm | exact (if_pos (by assumption)).symm | grind), rfl, by repeat (first | (with_reducible assumption) | (with_reducible exact Fr_z) | (with_reducible exact E0_fr (by assumption)) | ((with_reducible refine Fr_up ?_ ?_); first | decide | omega))⟩)
            · refine xr_aload_n dX9_of_91 0 rfl ?_
              refine xr_getR flX9_47 dX9_of_92 s_0 rfl ?_
              refine xr_getR flX9_137 dX9_of_95 s_35 rfl ?_
              refine xr_iload_n dX9_of_98 1 rfl ?_
              refine xb_iald (j := j) (v := 9) dX9_of_99 s_36 hj (by decide) (mi_36 j hj) ?_
              refine xr_goto (tgt := 112) dX9_of_100 rfl ?_
              exact xr_iret dX9_of_112 rfl rfl (⟨by first | rfl | (refine congrArg (fun z => some (Value.int z)) ?_; first | exact (if_neg (by assumption)).symm | exact (if_pos (by assumption)).symm | grind), rfl, by repeat (first | (with_reducible assumption) | (with_reducible exact Fr_z) | (with_reducible exact E0_fr (by assumption)) | ((with_reducible refine Fr_up ?_ ?_); first | decide | omega))⟩)
        · refine xr_iload_n dX9_of_72 2 rfl ?_
          refine xr_bipush (v := 21) dX9_of_73 rfl ?_
          refine xr_icmp_ne (tgt := 113) dX9_of_75 rfl (fun c24 => ?_) (fun c24 => ?_)
          · refine xr_ldc coX9_105 dX9_of_113 ?_
            exact xr_iret dX9_of_115 rfl rfl (⟨by first | rfl | (refine congrArg (fun z => some (Value.int z)) ?_; first | exact (if_neg (by assumption)).symm | exact (if_pos (by assumption)).symm | grind), rfl, by repeat (first | (with_reducible assumption) | (with_reducible exact Fr_z) | (with_reducible exact E0_fr (by assumption)) | ((with_reducible refine Fr_up ?_ ?_); first | decide | omega))⟩)
          · refine xr_iload_n dX9_of_78 1 rfl ?_
            refine xb_cS (As := [.int (number)]) (rest := []) mlX9_134 (c_X9_isGirl number) dX9_of_79 rfl rfl (Nat.le_of_ble_eq_true rfl) (by decide) (by decide) ?_
            refine xb_beq (tgt := 113) dX9_of_82 rfl (fun c25 => ?_) (fun c25 => ?_)
            · refine xr_ldc coX9_105 dX9_of_113 ?_
              exact xr_iret dX9_of_115 rfl rfl (⟨by first | rfl | (refine congrArg (fun z => some (Value.int z)) ?_; first | exact (if_neg (by assumption)).symm | exact (if_pos (by assumption)).symm | grind), rfl, by repeat (first | (with_reducible assumption) | (with_reducible exact Fr_z) | (with_reducible exact E0_fr (by assumption)) | ((with_reducible refine Fr_up ?_ ?_); first | decide | omega))⟩)
            · obtain ⟨j, hj, rfl⟩ := x_nat (N := 25) (by decide) rfl c25
              refine xr_iload_n dX9_of_85 2 rfl ?_
              refine xr_bipush (v := 20) dX9_of_86 rfl ?_
              refine xr_icmp_ne (tgt := 103) dX9_of_88 rfl (fun c26 => ?_) (fun c26 => ?_)
              · refine xr_aload_n dX9_of_103 0 rfl ?_
                refine xr_getR flX9_47 dX9_of_104 s_0 rfl ?_
                refine xr_getR flX9_141 dX9_of_107 s_35 rfl ?_
                refine xr_iload_n dX9_of_110 1 rfl ?_
                refine xb_iald (j := j) (v := 0) dX9_of_111 s_37 hj (by decide) (mi_37 j hj) ?_
                exact xr_iret dX9_of_112 rfl rfl (⟨by first | rfl | (refine congrArg (fun z => some (Value.int z)) ?_; first | exact (if_neg (by assumption)).symm | exact (if_pos (by assumption)).symm | grind), rfl, by repeat (first | (with_reducible assumption) | (with_reducible exact Fr_z) | (with_reducible exact E0_fr (by assumption)) | ((with_reducible refine Fr_up ?_ ?_); first | decide | omega))⟩)
              · refine xr_aload_n dX9_of_91 0 rfl ?_
                refine xr_getR flX9_47 dX9_of_92 s_0 rfl ?_
                refine xr_getR flX9_137 dX9_of_95 s_35 rfl ?_
                refine xr_iload_n dX9_of_98 1 rfl ?_
                refine xb_iald (j := j) (v := 9) dX9_of_99 s_36 hj (by decide) (mi_36 j hj) ?_
                refine xr_goto (tgt := 112) dX9_of_100 rfl ?_
                exact xr_iret dX9_of_112 rfl rfl (⟨by first | rfl | (refine congrArg (fun z => some (Value.int z)) ?_; first | exact (if_neg (by assumption)).symm | exact (if_pos (by assumption)).symm | grind), rfl, by repeat (first | (with_reducible assumption) | (with_reducible exact Fr_z) | (with_reducible exact E0_fr (by assumption)) | ((with_reducible refine Fr_up ?_ ?_); first | decide | omega))⟩)
      · refine xr_iload_n dX9_of_45 2 rfl ?_
        refine xr_bipush (v := 15) dX9_of_46 rfl ?_
        refine xr_icmp_gt (tgt := 66) dX9_of_48 rfl (fun c27 => ?_) (fun c27 => ?_)
        · refine xr_iload_n dX9_of_66 2 rfl ?_
          refine xr_bipush (v := 20) dX9_of_67 rfl ?_
          refine xr_icmp_eq (tgt := 78) dX9_of_69 rfl (fun c28 => ?_) (fun c28 => ?_)
          · refine xr_iload_n dX9_of_78 1 rfl ?_
            refine xb_cS (As := [.int (number)]) (rest := []) mlX9_134 (c_X9_isGirl number) dX9_of_79 rfl rfl (Nat.le_of_ble_eq_true rfl) (by decide) (by decide) ?_
            refine xb_beq (tgt := 113) dX9_of_82 rfl (fun c29 => ?_) (fun c29 => ?_)
            · refine xr_ldc coX9_105 dX9_of_113 ?_
              exact xr_iret dX9_of_115 rfl rfl (⟨by first | rfl | (refine congrArg (fun z => some (Value.int z)) ?_; first | exact (if_neg (by assumption)).symm | exact (if_pos (by assumption)).symm | grind), rfl, by repeat (first | (with_reducible assumption) | (with_reducible exact Fr_z) | (with_reducible exact E0_fr (by assumption)) | ((with_reducible refine Fr_up ?_ ?_); first | decide | omega))⟩)
            · obtain ⟨j, hj, rfl⟩ := x_nat (N := 25) (by decide) rfl c29
              refine xr_iload_n dX9_of_85 2 rfl ?_
              refine xr_bipush (v := 20) dX9_of_86 rfl ?_
              refine xr_icmp_ne (tgt := 103) dX9_of_88 rfl (fun c30 => ?_) (fun c30 => ?_)
              · refine xr_aload_n dX9_of_103 0 rfl ?_
                refine xr_getR flX9_47 dX9_of_104 s_0 rfl ?_
                refine xr_getR flX9_141 dX9_of_107 s_35 rfl ?_
                refine xr_iload_n dX9_of_110 1 rfl ?_
                refine xb_iald (j := j) (v := 0) dX9_of_111 s_37 hj (by decide) (mi_37 j hj) ?_
                exact xr_iret dX9_of_112 rfl rfl (⟨by first | rfl | (refine congrArg (fun z => some (Value.int z)) ?_; first | exact (if_neg (by assumption)).symm | exact (if_pos (by assumption)).symm | grind), rfl, by repeat (first | (with_reducible assumption) | (with_reducible exact Fr_z) | (with_reducible exact E0_fr (by assumption)) | ((with_reducible refine Fr_up ?_ ?_); first | decide | omega))⟩)
              · refine xr_aload_n dX9_of_91 0 rfl ?_
                refine xr_getR flX9_47 dX9_of_92 s_0 rfl ?_
                refine xr_getR flX9_137 dX9_of_95 s_35 rfl ?_
                refine xr_iload_n dX9_of_98 1 rfl ?_
                refine xb_iald (j := j) (v := 9) dX9_of_99 s_36 hj (by decide) (mi_36 j hj) ?_
                refine xr_goto (tgt := 112) dX9_of_100 rfl ?_
                exact xr_iret dX9_of_112 rfl rfl (⟨by first | rfl | (refine congrArg (fun z => some (Value.int z)) ?_; first | exact (if_neg (by assumption)).symm | exact (if_pos (by assumption)).symm | grind), rfl, by repeat (first | (with_reducible assumption) | (with_reducible exact Fr_z) | (with_reducible exact E0_fr (by assumption)) | ((with_reducible refine Fr_up ?_ ?_); first | decide | omega))⟩)
          · refine xr_iload_n dX9_of_72 2 rfl ?_
            refine xr_bipush (v := 21) dX9_of_73 rfl ?_
            refine xr_icmp_ne (tgt := 113) dX9_of_75 rfl (fun c31 => ?_) (fun c31 => ?_)
            · refine xr_ldc coX9_105 dX9_of_113 ?_
              exact xr_iret dX9_of_115 rfl rfl (⟨by first | rfl | (refine congrArg (fun z => some (Value.int z)) ?_; first | exact (if_neg (by assumption)).symm | exact (if_pos (by assumption)).symm | grind), rfl, by repeat (first | (with_reducible assumption) | (with_reducible exact Fr_z) | (with_reducible exact E0_fr (by assumption)) | ((with_reducible refine Fr_up ?_ ?_); first | decide | omega))⟩)
            · refine xr_iload_n dX9_of_78 1 rfl ?_
              refine xb_cS (As := [.int (number)]) (rest := []) mlX9_134 (c_X9_isGirl number) dX9_of_79 rfl rfl (Nat.le_of_ble_eq_true rfl) (by decide) (by decide) ?_
              refine xb_beq (tgt := 113) dX9_of_82 rfl (fun c32 => ?_) (fun c32 => ?_)
              · refine xr_ldc coX9_105 dX9_of_113 ?_
                exact xr_iret dX9_of_115 rfl rfl (⟨by first | rfl | (refine congrArg (fun z => some (Value.int z)) ?_; first | exact (if_neg (by assumption)).symm | exact (if_pos (by assumption)).symm | grind), rfl, by repeat (first | (with_reducible assumption) | (with_reducible exact Fr_z) | (with_reducible exact E0_fr (by assumption)) | ((with_reducible refine Fr_up ?_ ?_); first | decide | omega))⟩)
              · obtain ⟨j, hj, rfl⟩ := x_nat (N := 25) (by decide) rfl c32
                refine xr_iload_n dX9_of_85 2 rfl ?_
                refine xr_bipush (v := 20) dX9_of_86 rfl ?_
                refine xr_icmp_ne (tgt := 103) dX9_of_88 rfl (fun c33 => ?_) (fun c33 => ?_)
                · refine xr_aload_n dX9_of_103 0 rfl ?_
                  refine xr_getR flX9_47 dX9_of_104 s_0 rfl ?_
                  refine xr_getR flX9_141 dX9_of_107 s_35 rfl ?_
                  refine xr_iload_n dX9_of_110 1 rfl ?_
                  refine xb_iald (j := j) (v := 0) dX9_of_111 s_37 hj (by decide) (mi_37 j hj) ?_
                  exact xr_iret dX9_of_112 rfl rfl (⟨by first | rfl | (refine congrArg (fun z => some (Value.int z)) ?_; first | exact (if_neg (by assumption)).symm | exact (if_pos (by assumption)).symm | grind), rfl, by repeat (first | (with_reducible assumption) | (with_reducible exact Fr_z) | (with_reducible exact E0_fr (by assumption)) | ((with_reducible refine Fr_up ?_ ?_); first | decide | omega))⟩)
                · refine xr_aload_n dX9_of_91 0 rfl ?_
                  refine xr_getR flX9_47 dX9_of_92 s_0 rfl ?_
                  refine xr_getR flX9_137 dX9_of_95 s_35 rfl ?_
                  refine xr_iload_n dX9_of_98 1 rfl ?_
                  refine xb_iald (j := j) (v := 9) dX9_of_99 s_36 hj (by decide) (mi_36 j hj) ?_
                  refine xr_goto (tgt := 112) dX9_of_100 rfl ?_
                  exact xr_iret dX9_of_112 rfl rfl (⟨by first | rfl | (refine congrArg (fun z => some (Value.int z)) ?_; first | exact (if_neg (by assumption)).symm | exact (if_pos (by assumption)).symm | grind), rfl, by repeat (first | (with_reducible assumption) | (with_reducible exact Fr_z) | (with_reducible exact E0_fr (by assumption)) | ((with_reducible refine Fr_up ?_ ?_); first | decide | omega))⟩)
        · refine xr_iload_n dX9_of_51 1 rfl ?_
          refine xr_if_ne (tgt := 63) dX9_of_52 rfl (fun c34 => ?_) (fun c34 => ?_)
          · refine xr_ldc coX9_105 dX9_of_63 ?_
            exact xr_iret dX9_of_65 rfl rfl (⟨by first | rfl | (refine congrArg (fun z => some (Value.int z)) ?_; first | exact (if_neg (by assumption)).symm | exact (if_pos (by assumption)).symm | grind), rfl, by repeat (first | (with_reducible assumption) | (with_reducible exact Fr_z) | (with_reducible exact E0_fr (by assumption)) | ((with_reducible refine Fr_up ?_ ?_); first | decide | omega))⟩)
          · refine xr_aload_n dX9_of_55 0 rfl ?_
            refine xr_iload_n dX9_of_56 2 rfl ?_
            refine xr_callV (As := [.int (what)]) (rest := []) mlX9_131 (p_settingOf what) dX9_of_57 s_0 rfl rfl (Nat.le_of_ble_eq_true rfl) (by decide) ⟨by decide, by decide⟩ (fun v s2 M35 J2 hq => ?_)
            obtain ⟨rfl, rfl, f36⟩ := hq
            try dsimp only [Option.toList, List.cons_append, List.nil_append]
            refine xr_goto (tgt := 65) dX9_of_60 rfl ?_
            exact xr_iret dX9_of_65 rfl rfl (⟨by first | rfl | (refine congrArg (fun z => some (Value.int z)) ?_; first | exact (if_neg (by assumption)).symm | exact (if_pos (by assumption)).symm | grind), rfl, by repeat (first | (with_reducible assumption) | (with_reducible exact Fr_z) | (with_reducible exact E0_fr (by assumption)) | ((with_reducible refine Fr_up ?_ ?_); first | decide | omega))⟩)
    · refine xr_aload_n dX9_of_9 0 rfl ?_
      refine xr_getR flX9_28 dX9_of_10 s_0 rfl ?_
      refine xr_iload_n dX9_of_13 1 rfl ?_
      refine xb_cV (As := [.int (number)]) (rest := []) mlX9_118 (c_X5_has number s_13) dX9_of_14 s_13 rfl rfl (Nat.le_of_ble_eq_true rfl) (by decide) (by decide) ?_
      refine xb_top (y := bI (0 ≤ number ∧ number < 0)) (x_bI_c (by rw [show z_M 13 2 = 0 from (by decide +kernel)])) ?_
      refine xb_beq (tgt := 36) dX9_of_17 rfl (fun _ => ?_) (fun c => absurd c (by grind))
      refine xr_ldc coX9_105 dX9_of_36 ?_
      exact xr_iret dX9_of_38 rfl rfl (⟨by first | rfl | (refine congrArg (fun z => some (Value.int z)) ?_; first | exact (if_neg (by assumption)).symm | exact (if_pos (by assumption)).symm | grind), rfl, by repeat (first | (with_reducible assumption) | (with_reducible exact Fr_z) | (with_reducible exact E0_fr (by assumption)) | ((with_reducible refine Fr_up ?_ ?_); first | decide | omega))⟩)
set_option maxRecDepth 100000 in
set_option maxHeartbeats 4000000 in
theorem p_X9_lift (hoop : Int32) {l : Launch} {G : xG}  : x_M l G fX9_lift 4 0 0 [.ref (0), .int (hoop)] x_SH z_M x_J0 (qF (some (.int (-1)))) := by
  refine xb_of pX9 (Nat.le_of_ble_eq_true rfl) rfl ?_
  refine xr_aload_n dX9_lift_0 0 rfl ?_
  refine xr_getR flX9_28 dX9_lift_1 s_0 rfl ?_
  refine xr_iload_n dX9_lift_4 1 rfl ?_
  refine xb_cV (As := [.int (hoop)]) (rest := []) mlX9_118 (c_X5_has hoop s_13) dX9_lift_5 s_13 rfl rfl (Nat.le_of_ble_eq_true rfl) (by decide) (by decide) ?_
  refine xb_top (y := bI (0 ≤ hoop ∧ hoop < 0)) (x_bI_c (by rw [show z_M 13 2 = 0 from (by decide +kernel)])) ?_
  refine xb_bne (tgt := 13) dX9_lift_8 rfl (fun c => absurd c (by grind)) (fun _ => ?_)
  refine xr_iconst (v := -1) dX9_lift_11 rfl ?_
  exact xr_iret dX9_lift_12 rfl rfl (⟨by first | rfl | (refine congrArg (fun z => some (Value.int z)) ?_; first | exact (if_neg (by assumption)).symm | exact (if_pos (by assumption)).symm | grind), rfl, by repeat (first | (with_reducible assumption) | (with_reducible exact Fr_z) | (with_reducible exact E0_fr (by assumption)) | ((with_reducible refine Fr_up ?_ ?_); first | decide | omega))⟩)
set_option maxRecDepth 100000 in
set_option maxHeartbeats 4000000 in
theorem p_X9_then (hoop k what : Int32) {l : Launch} {G : xG}  : x_M l G fX9_then 4 0 0 [.ref (0), .int (hoop), .int (k), .int (what)] x_SH z_M x_J0 (qF (some (.int (-2000000000)))) := by
  refine xb_of pX9 (Nat.le_of_ble_eq_true rfl) rfl ?_
  refine xr_aload_n dX9_then_0 0 rfl ?_
  refine xr_getR flX9_28 dX9_then_1 s_0 rfl ?_
  refine xr_iload_n dX9_then_4 1 rfl ?_
  refine xb_cV (As := [.int (hoop)]) (rest := []) mlX9_118 (c_X5_has hoop s_13) dX9_then_5 s_13 rfl rfl (Nat.le_of_ble_eq_true rfl) (by decide) (by decide) ?_
  refine xb_top (y := bI (0 ≤ hoop ∧ hoop < 0)) (x_bI_c (by rw [show z_M 13 2 = 0 from (by decide +kernel)])) ?_
  refine xb_beq (tgt := 31) dX9_then_8 rfl (fun _ => ?_) (fun c => absurd c (by grind))
  refine xr_ldc coX9_105 dX9_then_31 ?_
  exact xr_iret dX9_then_33 rfl rfl (⟨by first | rfl | (refine congrArg (fun z => some (Value.int z)) ?_; first | exact (if_neg (by assumption)).symm | exact (if_pos (by assumption)).symm | grind), rfl, by repeat (first | (with_reducible assumption) | (with_reducible exact Fr_z) | (with_reducible exact E0_fr (by assumption)) | ((with_reducible refine Fr_up ?_ ?_); first | decide | omega))⟩)
set_option maxRecDepth 100000 in
set_option maxHeartbeats 4000000 in
theorem p_X9_falls (hoop : Int32) {l : Launch} {G : xG}  : x_M l G fX9_falls 4 0 0 [.ref (0), .int (hoop)] x_SH z_M x_J0 (qF (some (.int (-1)))) := by
  refine xb_of pX9 (Nat.le_of_ble_eq_true rfl) rfl ?_
  refine xr_aload_n dX9_falls_0 0 rfl ?_
  refine xr_getR flX9_28 dX9_falls_1 s_0 rfl ?_
  refine xr_iload_n dX9_falls_4 1 rfl ?_
  refine xb_cV (As := [.int (hoop)]) (rest := []) mlX9_118 (c_X5_has hoop s_13) dX9_falls_5 s_13 rfl rfl (Nat.le_of_ble_eq_true rfl) (by decide) (by decide) ?_
  refine xb_top (y := bI (0 ≤ hoop ∧ hoop < 0)) (x_bI_c (by rw [show z_M 13 2 = 0 from (by decide +kernel)])) ?_
  refine xb_bne (tgt := 13) dX9_falls_8 rfl (fun c => absurd c (by grind)) (fun _ => ?_)
  refine xr_iconst (v := -1) dX9_falls_11 rfl ?_
  exact xr_iret dX9_falls_12 rfl rfl (⟨by first | rfl | (refine congrArg (fun z => some (Value.int z)) ?_; first | exact (if_neg (by assumption)).symm | exact (if_pos (by assumption)).symm | grind), rfl, by repeat (first | (with_reducible assumption) | (with_reducible exact Fr_z) | (with_reducible exact E0_fr (by assumption)) | ((with_reducible refine Fr_up ?_ ?_); first | decide | omega))⟩)
set_option maxRecDepth 100000 in
set_option maxHeartbeats 4000000 in
theorem p_X9_lasts {l : Launch} {G : xG}  : x_M l G fX9_lasts 4 0 0 [.ref (0)] x_SH z_M x_J0 (qF (some (.int 200))) := by
  refine xb_of pX9 (Nat.le_of_ble_eq_true rfl) rfl ?_
  refine xr_aload_n dX9_lasts_0 0 rfl ?_
  refine xr_getR flX9_40 dX9_lasts_1 s_0 rfl ?_
  refine xr_callV (As := []) (rest := []) mlX9_192 (c0_begin E0_MI) dX9_lasts_4 s_27 rfl rfl (Nat.le_of_ble_eq_true rfl) (by decide) ⟨by decide, by decide⟩ (fun v s2 M1 J2 hq => ?_)
  obtain ⟨rfl, rfl, rfl, e2⟩ := hq
  try dsimp only [Option.toList, List.cons_append, List.nil_append]
  refine xr_aload_n dX9_lasts_7 0 rfl ?_
  refine xr_getR flX9_40 dX9_lasts_8 s_0 rfl ?_
  refine xr_callV (As := []) (rest := []) mlX9_198 (c0_lasting e2) dX9_lasts_11 s_27 rfl rfl (Nat.le_of_ble_eq_true rfl) (by decide) ⟨by decide, by decide⟩ (fun v s2 M3 J2 hq => ?_)
  obtain ⟨rfl, rfl, rfl, e4⟩ := hq
  try dsimp only [Option.toList, List.cons_append, List.nil_append]
  exact xr_iret dX9_lasts_14 rfl rfl (⟨by first | rfl | (refine congrArg (fun z => some (Value.int z)) ?_; first | exact (if_neg (by assumption)).symm | exact (if_pos (by assumption)).symm | grind), rfl, by repeat (first | (with_reducible assumption) | (with_reducible exact Fr_z) | (with_reducible exact E0_fr (by assumption)) | ((with_reducible refine Fr_up ?_ ?_); first | decide | omega))⟩)
set_option maxRecDepth 100000 in
set_option maxHeartbeats 4000000 in
theorem p_X9_leastPush (n : Int32) {l : Launch} {G : xG}  : x_M l G fX9_leastPush 4 0 0 [.ref (0), .int (n)] x_SH z_M x_J0 (qF (some (.int (if 1 ≤ n ∧ n ≤ 200 then 0 else -1)))) := by
  refine xb_of pX9 (Nat.le_of_ble_eq_true rfl) rfl ?_
  refine xr_iload_n dX9_leastPush_0 1 rfl ?_
  refine xr_iconst (v := 1) dX9_leastPush_1 rfl ?_
  refine xr_icmp_lt (tgt := 12) dX9_leastPush_2 rfl (fun c1 => ?_) (fun c1 => ?_)
  · refine xr_iconst (v := -1) dX9_leastPush_12 rfl ?_
    exact xr_iret dX9_leastPush_13 rfl rfl (⟨by first | rfl | (refine congrArg (fun z => some (Value.int z)) ?_; first | exact (if_neg (by assumption)).symm | exact (if_pos (by assumption)).symm | grind), rfl, by repeat (first | (with_reducible assumption) | (with_reducible exact Fr_z) | (with_reducible exact E0_fr (by assumption)) | ((with_reducible refine Fr_up ?_ ?_); first | decide | omega))⟩)
  · refine xr_iload_n dX9_leastPush_5 1 rfl ?_
    refine xr_sipush (v := 200) dX9_leastPush_6 rfl ?_
    refine xr_icmp_le (tgt := 14) dX9_leastPush_9 rfl (fun c2 => ?_) (fun c2 => ?_)
    · refine xr_iconst (v := 0) dX9_leastPush_14 rfl ?_
      refine xr_istore_n (ls2 := [(2, .int (0)), (0, .ref (0)), (1, .int (n))]) dX9_leastPush_15 (by decide) rfl ?_
      refine xr_iload_n dX9_leastPush_16 0 rfl ?_
      refine xr_iconst (v := 5) dX9_leastPush_17 rfl ?_
      refine xr_icmp_gt (tgt := 58) dX9_leastPush_18 rfl (fun c => absurd c (by decide)) (fun _ => ?_)
      refine xr_aload_n dX9_leastPush_21 1 rfl ?_
      refine xr_getR flX9_40 dX9_leastPush_22 s_0 rfl ?_
      refine xr_callV (As := []) (rest := []) mlX9_192 (c0_begin E0_MI) dX9_leastPush_25 s_27 rfl rfl (Nat.le_of_ble_eq_true rfl) (by decide) ⟨by decide, by decide⟩ (fun v s2 M3 J2 hq => ?_)
      obtain ⟨rfl, rfl, rfl, e4⟩ := hq
      try dsimp only [Option.toList, List.cons_append, List.nil_append]
      refine xr_aload_n dX9_leastPush_28 1 rfl ?_
      refine xr_getR flX9_40 dX9_leastPush_29 s_0 rfl ?_
      refine xr_getR flX9_201 dX9_leastPush_32 s_27 rfl ?_
      refine xr_iload_n dX9_leastPush_35 0 rfl ?_
      refine xr_putI fpX9_208 dX9_leastPush_36 s_28 rfl rfl rfl ?_
      refine xr_aload_n dX9_leastPush_39 1 rfl ?_
      refine xr_getR flX9_40 dX9_leastPush_40 s_0 rfl ?_
      refine xr_callV (As := []) (rest := []) mlX9_198 (c0_lasting (E0_up0 (by decide) e4)) dX9_leastPush_43 s_27 rfl rfl (Nat.le_of_ble_eq_true rfl) (by decide) ⟨by decide, by decide⟩ (fun v s2 M5 J2 hq => ?_)
      obtain ⟨rfl, rfl, rfl, e6⟩ := hq
      try dsimp only [Option.toList, List.cons_append, List.nil_append]
      refine xr_iload_n dX9_leastPush_46 2 rfl ?_
      refine xr_icmp_lt (tgt := 52) dX9_leastPush_47 rfl (fun c7 => ?_) (fun c7 => ?_)
      · refine xr_iinc (v := 1) (ls2 := [(2, .int (1)), (0, .ref (0)), (1, .int (n))]) dX9_leastPush_52 0 rfl rfl (by decide) rfl ?_
        refine xr_goto (tgt := 16) dX9_leastPush_55 rfl ?_
        refine xr_iload_n dX9_leastPush_16 0 rfl ?_
        refine xr_iconst (v := 5) dX9_leastPush_17 rfl ?_
        refine xr_icmp_gt (tgt := 58) dX9_leastPush_18 rfl (fun c => absurd c (by decide)) (fun _ => ?_)
        refine xr_aload_n dX9_leastPush_21 1 rfl ?_
        refine xr_getR flX9_40 dX9_leastPush_22 s_0 rfl ?_
        refine xr_callV (As := []) (rest := []) mlX9_192 (c0_begin e6) dX9_leastPush_25 s_27 rfl rfl (Nat.le_of_ble_eq_true rfl) (by decide) ⟨by decide, by decide⟩ (fun v s2 M8 J2 hq => ?_)
        obtain ⟨rfl, rfl, rfl, e9⟩ := hq
        try dsimp only [Option.toList, List.cons_append, List.nil_append]
        refine xr_aload_n dX9_leastPush_28 1 rfl ?_
        refine xr_getR flX9_40 dX9_leastPush_29 s_0 rfl ?_
        refine xr_getR flX9_201 dX9_leastPush_32 s_27 rfl ?_
        refine xr_iload_n dX9_leastPush_35 0 rfl ?_
        refine xr_putI fpX9_208 dX9_leastPush_36 s_28 rfl rfl rfl ?_
        refine xr_aload_n dX9_leastPush_39 1 rfl ?_
        refine xr_getR flX9_40 dX9_leastPush_40 s_0 rfl ?_
        refine xr_callV (As := []) (rest := []) mlX9_198 (c0_lasting (E0_up (by decide) e9)) dX9_leastPush_43 s_27 rfl rfl (Nat.le_of_ble_eq_true rfl) (by decide) ⟨by decide, by decide⟩ (fun v s2 M10 J2 hq => ?_)
        obtain ⟨rfl, rfl, rfl, e11⟩ := hq
        try dsimp only [Option.toList, List.cons_append, List.nil_append]
        refine xr_iload_n dX9_leastPush_46 2 rfl ?_
        refine xr_icmp_lt (tgt := 52) dX9_leastPush_47 rfl (fun c12 => ?_) (fun c12 => ?_)
        · refine xr_iinc (v := 2) (ls2 := [(2, .int (2)), (0, .ref (0)), (1, .int (n))]) dX9_leastPush_52 0 rfl rfl (by decide) rfl ?_
          refine xr_goto (tgt := 16) dX9_leastPush_55 rfl ?_
          refine xr_iload_n dX9_leastPush_16 0 rfl ?_
          refine xr_iconst (v := 5) dX9_leastPush_17 rfl ?_
          refine xr_icmp_gt (tgt := 58) dX9_leastPush_18 rfl (fun c => absurd c (by decide)) (fun _ => ?_)
          refine xr_aload_n dX9_leastPush_21 1 rfl ?_
          refine xr_getR flX9_40 dX9_leastPush_22 s_0 rfl ?_
          refine xr_callV (As := []) (rest := []) mlX9_192 (c0_begin e11) dX9_leastPush_25 s_27 rfl rfl (Nat.le_of_ble_eq_true rfl) (by decide) ⟨by decide, by decide⟩ (fun v s2 M13 J2 hq => ?_)
          obtain ⟨rfl, rfl, rfl, e14⟩ := hq
          try dsimp only [Option.toList, List.cons_append, List.nil_append]
          refine xr_aload_n dX9_leastPush_28 1 rfl ?_
          refine xr_getR flX9_40 dX9_leastPush_29 s_0 rfl ?_
          refine xr_getR flX9_201 dX9_leastPush_32 s_27 rfl ?_
          refine xr_iload_n dX9_leastPush_35 0 rfl ?_
          refine xr_putI fpX9_208 dX9_leastPush_36 s_28 rfl rfl rfl ?_
          refine xr_aload_n dX9_leastPush_39 1 rfl ?_
          refine xr_getR flX9_40 dX9_leastPush_40 s_0 rfl ?_
          refine xr_callV (As := []) (rest := []) mlX9_198 (c0_lasting (E0_up (by decide) e14)) dX9_leastPush_43 s_27 rfl rfl (Nat.le_of_ble_eq_true rfl) (by decide) ⟨by decide, by decide⟩ (fun v s2 M15 J2 hq => ?_)
          obtain ⟨rfl, rfl, rfl, e16⟩ := hq
          try dsimp only [Option.toList, List.cons_append, List.nil_append]
          refine xr_iload_n dX9_leastPush_46 2 rfl ?_
          refine xr_icmp_lt (tgt := 52) dX9_leastPush_47 rfl (fun c17 => ?_) (fun c17 => ?_)
          · refine xr_iinc (v := 3) (ls2 := [(2, .int (3)), (0, .ref (0)), (1, .int (n))]) dX9_leastPush_52 0 rfl rfl (by decide) rfl ?_
            refine xr_goto (tgt := 16) dX9_leastPush_55 rfl ?_
            refine xr_iload_n dX9_leastPush_16 0 rfl ?_
            refine xr_iconst (v := 5) dX9_leastPush_17 rfl ?_
            refine xr_icmp_gt (tgt := 58) dX9_leastPush_18 rfl (fun c => absurd c (by decide)) (fun _ => ?_)
            refine xr_aload_n dX9_leastPush_21 1 rfl ?_
            refine xr_getR flX9_40 dX9_leastPush_22 s_0 rfl ?_
            refine xr_callV (As := []) (rest := []) mlX9_192 (c0_begin e16) dX9_leastPush_25 s_27 rfl rfl (Nat.le_of_ble_eq_true rfl) (by decide) ⟨by decide, by decide⟩ (fun v s2 M18 J2 hq => ?_)
            obtain ⟨rfl, rfl, rfl, e19⟩ := hq
            try dsimp only [Option.toList, List.cons_append, List.nil_append]
            refine xr_aload_n dX9_leastPush_28 1 rfl ?_
            refine xr_getR flX9_40 dX9_leastPush_29 s_0 rfl ?_
            refine xr_getR flX9_201 dX9_leastPush_32 s_27 rfl ?_
            refine xr_iload_n dX9_leastPush_35 0 rfl ?_
            refine xr_putI fpX9_208 dX9_leastPush_36 s_28 rfl rfl rfl ?_
            refine xr_aload_n dX9_leastPush_39 1 rfl ?_
            refine xr_getR flX9_40 dX9_leastPush_40 s_0 rfl ?_
            refine xr_callV (As := []) (rest := []) mlX9_198 (c0_lasting (E0_up (by decide) e19)) dX9_leastPush_43 s_27 rfl rfl (Nat.le_of_ble_eq_true rfl) (by decide) ⟨by decide, by decide⟩ (fun v s2 M20 J2 hq => ?_)
            obtain ⟨rfl, rfl, rfl, e21⟩ := hq
            try dsimp only [Option.toList, List.cons_append, List.nil_append]
            refine xr_iload_n dX9_leastPush_46 2 rfl ?_
            refine xr_icmp_lt (tgt := 52) dX9_leastPush_47 rfl (fun c22 => ?_) (fun c22 => ?_)
            · refine xr_iinc (v := 4) (ls2 := [(2, .int (4)), (0, .ref (0)), (1, .int (n))]) dX9_leastPush_52 0 rfl rfl (by decide) rfl ?_
              refine xr_goto (tgt := 16) dX9_leastPush_55 rfl ?_
              refine xr_iload_n dX9_leastPush_16 0 rfl ?_
              refine xr_iconst (v := 5) dX9_leastPush_17 rfl ?_
              refine xr_icmp_gt (tgt := 58) dX9_leastPush_18 rfl (fun c => absurd c (by decide)) (fun _ => ?_)
              refine xr_aload_n dX9_leastPush_21 1 rfl ?_
              refine xr_getR flX9_40 dX9_leastPush_22 s_0 rfl ?_
              refine xr_callV (As := []) (rest := []) mlX9_192 (c0_begin e21) dX9_leastPush_25 s_27 rfl rfl (Nat.le_of_ble_eq_true rfl) (by decide) ⟨by decide, by decide⟩ (fun v s2 M23 J2 hq => ?_)
              obtain ⟨rfl, rfl, rfl, e24⟩ := hq
              try dsimp only [Option.toList, List.cons_append, List.nil_append]
              refine xr_aload_n dX9_leastPush_28 1 rfl ?_
              refine xr_getR flX9_40 dX9_leastPush_29 s_0 rfl ?_
              refine xr_getR flX9_201 dX9_leastPush_32 s_27 rfl ?_
              refine xr_iload_n dX9_leastPush_35 0 rfl ?_
              refine xr_putI fpX9_208 dX9_leastPush_36 s_28 rfl rfl rfl ?_
              refine xr_aload_n dX9_leastPush_39 1 rfl ?_
              refine xr_getR flX9_40 dX9_leastPush_40 s_0 rfl ?_
              refine xr_callV (As := []) (rest := []) mlX9_198 (c0_lasting (E0_up (by decide) e24)) dX9_leastPush_43 s_27 rfl rfl (Nat.le_of_ble_eq_true rfl) (by decide) ⟨by decide, by decide⟩ (fun v s2 M25 J2 hq => ?_)
              obtain ⟨rfl, rfl, rfl, e26⟩ := hq
              try dsimp only [Option.toList, List.cons_append, List.nil_append]
              refine xr_iload_n dX9_leastPush_46 2 rfl ?_
              refine xr_icmp_lt (tgt := 52) dX9_leastPush_47 rfl (fun c27 => ?_) (fun c27 => ?_)
              · refine xr_iinc (v := 5) (ls2 := [(2, .int (5)), (0, .ref (0)), (1, .int (n))]) dX9_leastPush_52 0 rfl rfl (by decide) rfl ?_
                refine xr_goto (tgt := 16) dX9_leastPush_55 rfl ?_
                refine xr_iload_n dX9_leastPush_16 0 rfl ?_
                refine xr_iconst (v := 5) dX9_leastPush_17 rfl ?_
                refine xr_icmp_gt (tgt := 58) dX9_leastPush_18 rfl (fun c => absurd c (by decide)) (fun _ => ?_)
                refine xr_aload_n dX9_leastPush_21 1 rfl ?_
                refine xr_getR flX9_40 dX9_leastPush_22 s_0 rfl ?_
                refine xr_callV (As := []) (rest := []) mlX9_192 (c0_begin e26) dX9_leastPush_25 s_27 rfl rfl (Nat.le_of_ble_eq_true rfl) (by decide) ⟨by decide, by decide⟩ (fun v s2 M28 J2 hq => ?_)
                obtain ⟨rfl, rfl, rfl, e29⟩ := hq
                try dsimp only [Option.toList, List.cons_append, List.nil_append]
                refine xr_aload_n dX9_leastPush_28 1 rfl ?_
                refine xr_getR flX9_40 dX9_leastPush_29 s_0 rfl ?_
                refine xr_getR flX9_201 dX9_leastPush_32 s_27 rfl ?_
                refine xr_iload_n dX9_leastPush_35 0 rfl ?_
                refine xr_putI fpX9_208 dX9_leastPush_36 s_28 rfl rfl rfl ?_
                refine xr_aload_n dX9_leastPush_39 1 rfl ?_
                refine xr_getR flX9_40 dX9_leastPush_40 s_0 rfl ?_
                refine xr_callV (As := []) (rest := []) mlX9_198 (c0_lasting (E0_up (by decide) e29)) dX9_leastPush_43 s_27 rfl rfl (Nat.le_of_ble_eq_true rfl) (by decide) ⟨by decide, by decide⟩ (fun v s2 M30 J2 hq => ?_)
                obtain ⟨rfl, rfl, rfl, e31⟩ := hq
                try dsimp only [Option.toList, List.cons_append, List.nil_append]
                refine xr_iload_n dX9_leastPush_46 2 rfl ?_
                refine xr_icmp_lt (tgt := 52) dX9_leastPush_47 rfl (fun c32 => ?_) (fun c32 => ?_)
                · refine xr_iinc (v := 6) (ls2 := [(2, .int (6)), (0, .ref (0)), (1, .int (n))]) dX9_leastPush_52 0 rfl rfl (by decide) rfl ?_
                  refine xr_goto (tgt := 16) dX9_leastPush_55 rfl ?_
                  refine xr_iload_n dX9_leastPush_16 0 rfl ?_
                  refine xr_iconst (v := 5) dX9_leastPush_17 rfl ?_
                  refine xr_icmp_gt (tgt := 58) dX9_leastPush_18 rfl (fun _ => ?_) (fun c => absurd (by decide) c)
                  refine xr_bipush (v := -2) dX9_leastPush_58 rfl ?_
                  exact xr_iret dX9_leastPush_60 rfl rfl (⟨by first | rfl | (refine congrArg (fun z => some (Value.int z)) ?_; first | exact (if_neg (by assumption)).symm | exact (if_pos (by assumption)).symm | grind), rfl, by repeat (first | (with_reducible assumption) | (with_reducible exact Fr_z) | (with_reducible exact E0_fr (by assumption)) | ((with_reducible refine Fr_up ?_ ?_); first | decide | omega))⟩)
                · refine xr_iload_n dX9_leastPush_50 0 rfl ?_
                  exact xr_iret dX9_leastPush_51 rfl rfl (⟨by first | rfl | (refine congrArg (fun z => some (Value.int z)) ?_; first | exact (if_neg (by assumption)).symm | exact (if_pos (by assumption)).symm | grind), rfl, by repeat (first | (with_reducible assumption) | (with_reducible exact Fr_z) | (with_reducible exact E0_fr (by assumption)) | ((with_reducible refine Fr_up ?_ ?_); first | decide | omega))⟩)
              · refine xr_iload_n dX9_leastPush_50 0 rfl ?_
                exact xr_iret dX9_leastPush_51 rfl rfl (⟨by first | rfl | (refine congrArg (fun z => some (Value.int z)) ?_; first | exact (if_neg (by assumption)).symm | exact (if_pos (by assumption)).symm | grind), rfl, by repeat (first | (with_reducible assumption) | (with_reducible exact Fr_z) | (with_reducible exact E0_fr (by assumption)) | ((with_reducible refine Fr_up ?_ ?_); first | decide | omega))⟩)
            · refine xr_iload_n dX9_leastPush_50 0 rfl ?_
              exact xr_iret dX9_leastPush_51 rfl rfl (⟨by first | rfl | (refine congrArg (fun z => some (Value.int z)) ?_; first | exact (if_neg (by assumption)).symm | exact (if_pos (by assumption)).symm | grind), rfl, by repeat (first | (with_reducible assumption) | (with_reducible exact Fr_z) | (with_reducible exact E0_fr (by assumption)) | ((with_reducible refine Fr_up ?_ ?_); first | decide | omega))⟩)
          · refine xr_iload_n dX9_leastPush_50 0 rfl ?_
            exact xr_iret dX9_leastPush_51 rfl rfl (⟨by first | rfl | (refine congrArg (fun z => some (Value.int z)) ?_; first | exact (if_neg (by assumption)).symm | exact (if_pos (by assumption)).symm | grind), rfl, by repeat (first | (with_reducible assumption) | (with_reducible exact Fr_z) | (with_reducible exact E0_fr (by assumption)) | ((with_reducible refine Fr_up ?_ ?_); first | decide | omega))⟩)
        · refine xr_iload_n dX9_leastPush_50 0 rfl ?_
          exact xr_iret dX9_leastPush_51 rfl rfl (⟨by first | rfl | (refine congrArg (fun z => some (Value.int z)) ?_; first | exact (if_neg (by assumption)).symm | exact (if_pos (by assumption)).symm | grind), rfl, by repeat (first | (with_reducible assumption) | (with_reducible exact Fr_z) | (with_reducible exact E0_fr (by assumption)) | ((with_reducible refine Fr_up ?_ ?_); first | decide | omega))⟩)
      · refine xr_iload_n dX9_leastPush_50 0 rfl ?_
        exact xr_iret dX9_leastPush_51 rfl rfl (⟨by first | rfl | (refine congrArg (fun z => some (Value.int z)) ?_; first | exact (if_neg (by assumption)).symm | exact (if_pos (by assumption)).symm | grind), rfl, by repeat (first | (with_reducible assumption) | (with_reducible exact Fr_z) | (with_reducible exact E0_fr (by assumption)) | ((with_reducible refine Fr_up ?_ ?_); first | decide | omega))⟩)
    · refine xr_iconst (v := -1) dX9_leastPush_12 rfl ?_
      exact xr_iret dX9_leastPush_13 rfl rfl (⟨by first | rfl | (refine congrArg (fun z => some (Value.int z)) ?_; first | exact (if_neg (by assumption)).symm | exact (if_pos (by assumption)).symm | grind), rfl, by repeat (first | (with_reducible assumption) | (with_reducible exact Fr_z) | (with_reducible exact E0_fr (by assumption)) | ((with_reducible refine Fr_up ?_ ?_); first | decide | omega))⟩)
set_option maxRecDepth 100000 in
set_option maxHeartbeats 4000000 in
theorem p_X9_mistake (m what : Int32) {l : Launch} {G : xG}  : x_M l G fX9_mistake 4 0 0 [.ref (0), .int (m), .int (what)] x_SH z_M x_J0 (qF (some (.int (if (0 ≤ m ∧ m ≤ 40) ∧ 0 ≤ what ∧ what ≤ 1 then (if what = 0 then 200 else 0) else -1)))) := by
  refine xb_of pX9 (Nat.le_of_ble_eq_true rfl) rfl ?_
  refine xr_iload_n dX9_mistake_0 1 rfl ?_
  refine xr_if_lt (tgt := 19) dX9_mistake_1 rfl (fun c1 => ?_) (fun c1 => ?_)
  · refine xr_iconst (v := -1) dX9_mistake_19 rfl ?_
    exact xr_iret dX9_mistake_20 rfl rfl (⟨by first | rfl | (refine congrArg (fun z => some (Value.int z)) ?_; first | exact (if_neg (by assumption)).symm | exact (if_pos (by assumption)).symm | grind), rfl, by repeat (first | (with_reducible assumption) | (with_reducible exact Fr_z) | (with_reducible exact E0_fr (by assumption)) | ((with_reducible refine Fr_up ?_ ?_); first | decide | omega))⟩)
  · refine xr_iload_n dX9_mistake_4 1 rfl ?_
    refine xr_bipush (v := 40) dX9_mistake_5 rfl ?_
    refine xr_icmp_gt (tgt := 19) dX9_mistake_7 rfl (fun c2 => ?_) (fun c2 => ?_)
    · refine xr_iconst (v := -1) dX9_mistake_19 rfl ?_
      exact xr_iret dX9_mistake_20 rfl rfl (⟨by first | rfl | (refine congrArg (fun z => some (Value.int z)) ?_; first | exact (if_neg (by assumption)).symm | exact (if_pos (by assumption)).symm | grind), rfl, by repeat (first | (with_reducible assumption) | (with_reducible exact Fr_z) | (with_reducible exact E0_fr (by assumption)) | ((with_reducible refine Fr_up ?_ ?_); first | decide | omega))⟩)
    · refine xr_iload_n dX9_mistake_10 2 rfl ?_
      refine xr_if_lt (tgt := 19) dX9_mistake_11 rfl (fun c3 => ?_) (fun c3 => ?_)
      · refine xr_iconst (v := -1) dX9_mistake_19 rfl ?_
        exact xr_iret dX9_mistake_20 rfl rfl (⟨by first | rfl | (refine congrArg (fun z => some (Value.int z)) ?_; first | exact (if_neg (by assumption)).symm | exact (if_pos (by assumption)).symm | grind), rfl, by repeat (first | (with_reducible assumption) | (with_reducible exact Fr_z) | (with_reducible exact E0_fr (by assumption)) | ((with_reducible refine Fr_up ?_ ?_); first | decide | omega))⟩)
      · refine xr_iload_n dX9_mistake_14 2 rfl ?_
        refine xr_iconst (v := 1) dX9_mistake_15 rfl ?_
        refine xr_icmp_le (tgt := 21) dX9_mistake_16 rfl (fun c4 => ?_) (fun c4 => ?_)
        · refine xr_aload_n dX9_mistake_21 0 rfl ?_
          refine xr_getR flX9_40 dX9_mistake_22 s_0 rfl ?_
          refine xr_callV (As := []) (rest := []) mlX9_192 (c0_begin E0_MI) dX9_mistake_25 s_27 rfl rfl (Nat.le_of_ble_eq_true rfl) (by decide) ⟨by decide, by decide⟩ (fun v s2 M5 J2 hq => ?_)
          obtain ⟨rfl, rfl, rfl, e6⟩ := hq
          try dsimp only [Option.toList, List.cons_append, List.nil_append]
          refine xr_aload_n dX9_mistake_28 0 rfl ?_
          refine xr_getR flX9_40 dX9_mistake_29 s_0 rfl ?_
          refine xr_iload_n dX9_mistake_32 1 rfl ?_
          refine xr_callV (As := [.int (m)]) (rest := []) mlX9_211 (c0_leaveOut m e6) dX9_mistake_33 s_27 rfl rfl (Nat.le_of_ble_eq_true rfl) (by decide) ⟨by decide, by decide⟩ (fun v s2 M7 J2 hq => ?_)
          obtain ⟨rfl, rfl, rfl, e8⟩ := hq
          try dsimp only [Option.toList, List.cons_append, List.nil_append]
          refine xr_iload_n dX9_mistake_36 2 rfl ?_
          refine xr_if_ne (tgt := 50) dX9_mistake_37 rfl (fun c9 => ?_) (fun c9 => ?_)
          · refine xr_aload_n dX9_mistake_50 0 rfl ?_
            refine xr_getR flX9_40 dX9_mistake_51 s_0 rfl ?_
            refine xr_callV (As := []) (rest := []) mlX9_215 (c0_caught e8) dX9_mistake_54 s_27 rfl rfl (Nat.le_of_ble_eq_true rfl) (by decide) ⟨by decide, by decide⟩ (fun v s2 M10 J2 hq => ?_)
            obtain ⟨rfl, rfl, rfl, e11⟩ := hq
            try dsimp only [Option.toList, List.cons_append, List.nil_append]
            exact xr_iret dX9_mistake_57 rfl rfl (⟨by first | rfl | (refine congrArg (fun z => some (Value.int z)) ?_; first | exact (if_neg (by assumption)).symm | exact (if_pos (by assumption)).symm | grind), rfl, by repeat (first | (with_reducible assumption) | (with_reducible exact Fr_z) | (with_reducible exact E0_fr (by assumption)) | ((with_reducible refine Fr_up ?_ ?_); first | decide | omega))⟩)
          · refine xr_aload_n dX9_mistake_40 0 rfl ?_
            refine xr_getR flX9_40 dX9_mistake_41 s_0 rfl ?_
            refine xr_callV (As := []) (rest := []) mlX9_198 (c0_lasting e8) dX9_mistake_44 s_27 rfl rfl (Nat.le_of_ble_eq_true rfl) (by decide) ⟨by decide, by decide⟩ (fun v s2 M12 J2 hq => ?_)
            obtain ⟨rfl, rfl, rfl, e13⟩ := hq
            try dsimp only [Option.toList, List.cons_append, List.nil_append]
            refine xr_goto (tgt := 57) dX9_mistake_47 rfl ?_
            exact xr_iret dX9_mistake_57 rfl rfl (⟨by first | rfl | (refine congrArg (fun z => some (Value.int z)) ?_; first | exact (if_neg (by assumption)).symm | exact (if_pos (by assumption)).symm | grind), rfl, by repeat (first | (with_reducible assumption) | (with_reducible exact Fr_z) | (with_reducible exact E0_fr (by assumption)) | ((with_reducible refine Fr_up ?_ ?_); first | decide | omega))⟩)
        · refine xr_iconst (v := -1) dX9_mistake_19 rfl ?_
          exact xr_iret dX9_mistake_20 rfl rfl (⟨by first | rfl | (refine congrArg (fun z => some (Value.int z)) ?_; first | exact (if_neg (by assumption)).symm | exact (if_pos (by assumption)).symm | grind), rfl, by repeat (first | (with_reducible assumption) | (with_reducible exact Fr_z) | (with_reducible exact E0_fr (by assumption)) | ((with_reducible refine Fr_up ?_ ?_); first | decide | omega))⟩)
set_option maxRecDepth 100000 in
set_option maxHeartbeats 4000000 in
theorem p_X9_start (hoop : Int32) {l : Launch} {G : xG}  : x_M l G fX9_start 4 0 0 [.ref (0), .int (hoop)] x_SH z_M x_J0 (qF (some (.int (-2000000000)))) := by
  refine xb_of pX9 (Nat.le_of_ble_eq_true rfl) rfl ?_
  refine xr_aload_n dX9_start_0 0 rfl ?_
  refine xr_getR flX9_28 dX9_start_1 s_0 rfl ?_
  refine xr_iload_n dX9_start_4 1 rfl ?_
  refine xb_cV (As := [.int (hoop)]) (rest := []) mlX9_118 (c_X5_has hoop s_13) dX9_start_5 s_13 rfl rfl (Nat.le_of_ble_eq_true rfl) (by decide) (by decide) ?_
  refine xb_top (y := bI (0 ≤ hoop ∧ hoop < 0)) (x_bI_c (by rw [show z_M 13 2 = 0 from (by decide +kernel)])) ?_
  refine xb_bne (tgt := 14) dX9_start_8 rfl (fun c => absurd c (by grind)) (fun _ => ?_)
  refine xr_ldc coX9_105 dX9_start_11 ?_
  exact xr_iret dX9_start_13 rfl rfl (⟨by first | rfl | (refine congrArg (fun z => some (Value.int z)) ?_; first | exact (if_neg (by assumption)).symm | exact (if_pos (by assumption)).symm | grind), rfl, by repeat (first | (with_reducible assumption) | (with_reducible exact Fr_z) | (with_reducible exact E0_fr (by assumption)) | ((with_reducible refine Fr_up ?_ ?_); first | decide | omega))⟩)
set_option maxRecDepth 100000 in
set_option maxHeartbeats 4000000 in
theorem p_X9_rescue (hoop fp : Int32) {l : Launch} {G : xG}  : x_M l G fX9_rescue 4 0 0 [.ref (0), .int (hoop), .int (fp)] x_SH z_M x_J0 (qF (some (.int (-1)))) := by
  refine xb_of pX9 (Nat.le_of_ble_eq_true rfl) rfl ?_
  refine xr_iload_n dX9_rescue_0 2 rfl ?_
  refine xr_bipush (v := 100) dX9_rescue_1 rfl ?_
  refine xr_idiv dX9_rescue_3 (by decide) ?_
  refine xr_istore_n (ls2 := [(3, .int ((fp / 100))), (0, .ref (0)), (1, .int (hoop)), (2, .int (fp))]) dX9_rescue_4 (by decide) rfl ?_
  refine xr_iload_n dX9_rescue_5 3 rfl ?_
  refine xr_bipush (v := 100) dX9_rescue_6 rfl ?_
  refine xr_irem dX9_rescue_8 (by decide) ?_
  refine xr_istore (ls2 := [(4, .int ((fp - fp / 100 * 100))), (3, .int ((fp / 100))), (0, .ref (0)), (1, .int (hoop)), (2, .int (fp))]) dX9_rescue_9 (by decide) rfl ?_
  refine xr_aload_n dX9_rescue_11 2 rfl ?_
  refine xr_getR flX9_28 dX9_rescue_12 s_0 rfl ?_
  refine xr_iload_n dX9_rescue_15 3 rfl ?_
  refine xb_cV (As := [.int (hoop)]) (rest := []) mlX9_118 (c_X5_has hoop s_13) dX9_rescue_16 s_13 rfl rfl (Nat.le_of_ble_eq_true rfl) (by decide) (by decide) ?_
  refine xb_top (y := bI (0 ≤ hoop ∧ hoop < 0)) (x_bI_c (by rw [show z_M 13 2 = 0 from (by decide +kernel)])) ?_
  refine xb_beq (tgt := 44) dX9_rescue_19 rfl (fun _ => ?_) (fun c => absurd c (by grind))
  refine xr_iconst (v := -1) dX9_rescue_44 rfl ?_
  exact xr_iret dX9_rescue_45 rfl rfl (⟨by first | rfl | (refine congrArg (fun z => some (Value.int z)) ?_; first | exact (if_neg (by assumption)).symm | exact (if_pos (by assumption)).symm | grind), rfl, by repeat (first | (with_reducible assumption) | (with_reducible exact Fr_z) | (with_reducible exact E0_fr (by assumption)) | ((with_reducible refine Fr_up ?_ ?_); first | decide | omega))⟩)
set_option maxRecDepth 100000 in
set_option maxHeartbeats 4000000 in
theorem p_X9_music (shelf : Int32) {l : Launch} {G : xG}  : x_M l G fX9_music 4 0 0 [.ref (0), .int (shelf)] x_SH z_M x_J0 (qF (some (.int (if 0 ≤ shelf ∧ shelf < 6 then -11 else -1)))) := by
  refine xb_of pX9 (Nat.le_of_ble_eq_true rfl) rfl ?_
  refine xr_iload_n dX9_music_0 1 rfl ?_
  refine xb_cS (As := [.int (shelf)]) (rest := []) mlX9_88 (c_X9_isShelf shelf) dX9_music_1 rfl rfl (Nat.le_of_ble_eq_true rfl) (by decide) (by decide) ?_
  refine xb_bne (tgt := 9) dX9_music_4 rfl (fun c1 => ?_) (fun c1 => ?_)
  · obtain ⟨j, hj, rfl⟩ := x_nat (N := 6) (by decide) rfl c1
    refine xr_aload_n dX9_music_9 0 rfl ?_
    refine xr_getR flX9_67 dX9_music_10 s_0 rfl ?_
    refine xr_iload_n dX9_music_13 1 rfl ?_
    refine xb_aald (j := j) (q := 50 + 2 * j) (by decide) dX9_music_14 s_49 hj (by decide) (if_pos hj) ?_
    refine xb_cV (As := []) (rest := []) mlX9_244 (c_X6_bytesRefusal (s_shelf hj)) dX9_music_15 (s_shelf hj) rfl rfl (Nat.le_of_ble_eq_true rfl) (by decide) (by decide) ?_
    refine xb_top (y := -11) (if_pos (mi_sh j hj).1) ?_
    refine xr_istore_n (ls2 := [(2, .int ((-11))), (0, .ref (0)), (1, .int (nI (j)))]) dX9_music_18 (by decide) rfl ?_
    refine xr_iload_n dX9_music_19 0 rfl ?_
    refine xr_if_eq (tgt := 25) dX9_music_20 rfl (fun c => absurd c (by decide)) (fun _ => ?_)
    refine xr_iload_n dX9_music_23 0 rfl ?_
    exact xr_iret dX9_music_24 rfl rfl (⟨by first | rfl | (refine congrArg (fun z => some (Value.int z)) ?_; first | exact (if_neg (by assumption)).symm | exact (if_pos (by assumption)).symm | grind), rfl, by repeat (first | (with_reducible assumption) | (with_reducible exact Fr_z) | (with_reducible exact E0_fr (by assumption)) | ((with_reducible refine Fr_up ?_ ?_); first | decide | omega))⟩)
  · refine xr_iconst (v := -1) dX9_music_7 rfl ?_
    exact xr_iret dX9_music_8 rfl rfl (⟨by first | rfl | (refine congrArg (fun z => some (Value.int z)) ?_; first | exact (if_neg (by assumption)).symm | exact (if_pos (by assumption)).symm | grind), rfl, by repeat (first | (with_reducible assumption) | (with_reducible exact Fr_z) | (with_reducible exact E0_fr (by assumption)) | ((with_reducible refine Fr_up ?_ ?_); first | decide | omega))⟩)
set_option maxRecDepth 100000 in
set_option maxHeartbeats 4000000 in
theorem p_X9_judge (shelf hoop : Int32) {l : Launch} {G : xG}  : x_M l G fX9_judge 4 0 0 [.ref (0), .int (shelf), .int (hoop)] x_SH z_M x_J0 (qF (some (.int (-1)))) := by
  refine xb_of pX9 (Nat.le_of_ble_eq_true rfl) rfl ?_
  refine xr_iload_n dX9_judge_0 1 rfl ?_
  refine xb_cS (As := [.int (shelf)]) (rest := []) mlX9_88 (c_X9_isShelf shelf) dX9_judge_1 rfl rfl (Nat.le_of_ble_eq_true rfl) (by decide) (by decide) ?_
  refine xb_beq (tgt := 18) dX9_judge_4 rfl (fun c1 => ?_) (fun c1 => ?_)
  · refine xr_iconst (v := -1) dX9_judge_18 rfl ?_
    exact xr_iret dX9_judge_19 rfl rfl (⟨by first | rfl | (refine congrArg (fun z => some (Value.int z)) ?_; first | exact (if_neg (by assumption)).symm | exact (if_pos (by assumption)).symm | grind), rfl, by repeat (first | (with_reducible assumption) | (with_reducible exact Fr_z) | (with_reducible exact E0_fr (by assumption)) | ((with_reducible refine Fr_up ?_ ?_); first | decide | omega))⟩)
  · obtain ⟨j, hj, rfl⟩ := x_nat (N := 6) (by decide) rfl c1
    refine xr_aload_n dX9_judge_7 0 rfl ?_
    refine xr_getR flX9_28 dX9_judge_8 s_0 rfl ?_
    refine xr_iload_n dX9_judge_11 2 rfl ?_
    refine xb_cV (As := [.int (hoop)]) (rest := []) mlX9_118 (c_X5_has hoop s_13) dX9_judge_12 s_13 rfl rfl (Nat.le_of_ble_eq_true rfl) (by decide) (by decide) ?_
    refine xb_top (y := bI (0 ≤ hoop ∧ hoop < 0)) (x_bI_c (by rw [show z_M 13 2 = 0 from (by decide +kernel)])) ?_
    refine xb_bne (tgt := 20) dX9_judge_15 rfl (fun c => absurd c (by grind)) (fun _ => ?_)
    refine xr_iconst (v := -1) dX9_judge_18 rfl ?_
    exact xr_iret dX9_judge_19 rfl rfl (⟨by first | rfl | (refine congrArg (fun z => some (Value.int z)) ?_; first | exact (if_neg (by assumption)).symm | exact (if_pos (by assumption)).symm | grind), rfl, by repeat (first | (with_reducible assumption) | (with_reducible exact Fr_z) | (with_reducible exact E0_fr (by assumption)) | ((with_reducible refine Fr_up ?_ ?_); first | decide | omega))⟩)
set_option maxRecDepth 100000 in
set_option maxHeartbeats 4000000 in
theorem p_X9_begun (shelf hoop what : Int32) {l : Launch} {G : xG}  : x_M l G fX9_begun 4 0 0 [.ref (0), .int (shelf), .int (hoop), .int (what)] x_SH z_M x_J0 (qF (some (.int (-2000000000)))) := by
  refine xb_of pX9 (Nat.le_of_ble_eq_true rfl) rfl ?_
  refine xr_iload_n dX9_begun_0 1 rfl ?_
  refine xb_cS (As := [.int (shelf)]) (rest := []) mlX9_88 (c_X9_isShelf shelf) dX9_begun_1 rfl rfl (Nat.le_of_ble_eq_true rfl) (by decide) (by decide) ?_
  refine xb_beq (tgt := 39) dX9_begun_4 rfl (fun c1 => ?_) (fun c1 => ?_)
  · refine xr_ldc coX9_105 dX9_begun_39 ?_
    exact xr_iret dX9_begun_41 rfl rfl (⟨by first | rfl | (refine congrArg (fun z => some (Value.int z)) ?_; first | exact (if_neg (by assumption)).symm | exact (if_pos (by assumption)).symm | grind), rfl, by repeat (first | (with_reducible assumption) | (with_reducible exact Fr_z) | (with_reducible exact E0_fr (by assumption)) | ((with_reducible refine Fr_up ?_ ?_); first | decide | omega))⟩)
  · obtain ⟨j, hj, rfl⟩ := x_nat (N := 6) (by decide) rfl c1
    refine xr_aload_n dX9_begun_7 0 rfl ?_
    refine xr_getR flX9_28 dX9_begun_8 s_0 rfl ?_
    refine xr_iload_n dX9_begun_11 2 rfl ?_
    refine xb_cV (As := [.int (hoop)]) (rest := []) mlX9_118 (c_X5_has hoop s_13) dX9_begun_12 s_13 rfl rfl (Nat.le_of_ble_eq_true rfl) (by decide) (by decide) ?_
    refine xb_top (y := bI (0 ≤ hoop ∧ hoop < 0)) (x_bI_c (by rw [show z_M 13 2 = 0 from (by decide +kernel)])) ?_
    refine xb_beq (tgt := 39) dX9_begun_15 rfl (fun _ => ?_) (fun c => absurd c (by grind))
    refine xr_ldc coX9_105 dX9_begun_39 ?_
    exact xr_iret dX9_begun_41 rfl rfl (⟨by first | rfl | (refine congrArg (fun z => some (Value.int z)) ?_; first | exact (if_neg (by assumption)).symm | exact (if_pos (by assumption)).symm | grind), rfl, by repeat (first | (with_reducible assumption) | (with_reducible exact Fr_z) | (with_reducible exact E0_fr (by assumption)) | ((with_reducible refine Fr_up ?_ ?_); first | decide | omega))⟩)
set_option maxRecDepth 100000 in
set_option maxHeartbeats 4000000 in
theorem p_X9_back {l : Launch} {G : xG}  : x_M l G fX9_back 4 0 0 [.ref (0)] x_SH z_M x_J0 (qF (some (.int (-5)))) := by
  refine xb_of pX9 (Nat.le_of_ble_eq_true rfl) rfl ?_
  refine xr_aload_n dX9_back_0 0 rfl ?_
  refine xb_get (v := 0) flX9_72 dX9_back_1 s_0 rfl (by decide +kernel) ?_
  refine xr_if_ne (tgt := 10) dX9_back_4 rfl (fun c => absurd (by decide) c) (fun _ => ?_)
  refine xr_bipush (v := -5) dX9_back_7 rfl ?_
  exact xr_iret dX9_back_9 rfl rfl (⟨by first | rfl | (refine congrArg (fun z => some (Value.int z)) ?_; first | exact (if_neg (by assumption)).symm | exact (if_pos (by assumption)).symm | grind), rfl, by repeat (first | (with_reducible assumption) | (with_reducible exact Fr_z) | (with_reducible exact E0_fr (by assumption)) | ((with_reducible refine Fr_up ?_ ?_); first | decide | omega))⟩)
set_option maxRecDepth 100000 in
set_option maxHeartbeats 4000000 in
theorem p_X9_undo {l : Launch} {G : xG}  : x_M l G fX9_undo 4 0 0 [.ref (0)] x_SH z_M x_J0 (qF (some (.int (-5)))) := by
  refine xb_of pX9 (Nat.le_of_ble_eq_true rfl) rfl ?_
  refine xr_aload_n dX9_undo_0 0 rfl ?_
  refine xr_getR flX9_54 dX9_undo_1 s_0 rfl ?_
  refine xb_get (v := 0) flX9_309 dX9_undo_4 s_41 rfl (by decide +kernel) ?_
  refine xr_if_ne (tgt := 13) dX9_undo_7 rfl (fun c => absurd (by decide) c) (fun _ => ?_)
  refine xr_bipush (v := -5) dX9_undo_10 rfl ?_
  exact xr_iret dX9_undo_12 rfl rfl (⟨by first | rfl | (refine congrArg (fun z => some (Value.int z)) ?_; first | exact (if_neg (by assumption)).symm | exact (if_pos (by assumption)).symm | grind), rfl, by repeat (first | (with_reducible assumption) | (with_reducible exact Fr_z) | (with_reducible exact E0_fr (by assumption)) | ((with_reducible refine Fr_up ?_ ?_); first | decide | omega))⟩)
set_option maxRecDepth 100000 in
set_option maxHeartbeats 4000000 in
theorem p_X9_redo {l : Launch} {G : xG}  : x_M l G fX9_redo 4 0 0 [.ref (0)] x_SH z_M x_J0 (qF (some (.int (-5)))) := by
  refine xb_of pX9 (Nat.le_of_ble_eq_true rfl) rfl ?_
  refine xr_aload_n dX9_redo_0 0 rfl ?_
  refine xr_getR flX9_54 dX9_redo_1 s_0 rfl ?_
  refine xb_get (v := 0) flX9_309 dX9_redo_4 s_41 rfl (by decide +kernel) ?_
  refine xr_aload_n dX9_redo_7 0 rfl ?_
  refine xr_getR flX9_54 dX9_redo_8 s_0 rfl ?_
  refine xb_get (v := 0) flX9_321 dX9_redo_11 s_41 rfl (by decide +kernel) ?_
  refine xr_icmp_ne (tgt := 20) dX9_redo_14 rfl (fun c => absurd (by decide) c) (fun _ => ?_)
  refine xr_bipush (v := -5) dX9_redo_17 rfl ?_
  exact xr_iret dX9_redo_19 rfl rfl (⟨by first | rfl | (refine congrArg (fun z => some (Value.int z)) ?_; first | exact (if_neg (by assumption)).symm | exact (if_pos (by assumption)).symm | grind), rfl, by repeat (first | (with_reducible assumption) | (with_reducible exact Fr_z) | (with_reducible exact E0_fr (by assumption)) | ((with_reducible refine Fr_up ?_ ?_); first | decide | omega))⟩)
set_option maxRecDepth 100000 in
set_option maxHeartbeats 4000000 in
theorem p_X9_act (body act x : Int32) {l : Launch} {G : xG}  : x_M l G fX9_act 4 0 0 [.ref (0), .int (body), .int (act), .int (x)] x_SH z_M x_J0 (qF (some (.int 0))) := by
  refine xb_of pX9 (Nat.le_of_ble_eq_true rfl) rfl ?_
  refine xr_aload_n dX9_act_0 0 rfl ?_
  refine xr_getR flX9_61 dX9_act_1 s_0 rfl ?_
  refine xr_iconst (v := 0) dX9_act_4 rfl ?_
  refine xr_putI fpX9_334 dX9_act_5 s_46 rfl rfl rfl ?_
  refine xr_aload_n dX9_act_8 0 rfl ?_
  refine xr_getR flX9_61 dX9_act_9 s_0 rfl ?_
  refine xr_iload_n dX9_act_12 1 rfl ?_
  refine xb_cV (As := [.int (body)]) (rest := []) mlX9_337 (c_X8_has body) dX9_act_13 s_46 rfl rfl (Nat.le_of_ble_eq_true rfl) (by decide) (by decide) ?_
  refine xb_top (y := bI (0 ≤ body ∧ body < 0)) (x_bI_c (by rw [show (x_up z_M 46 3 0) 46 2 = 0 from (Eq.trans (x_up_k _ _ _ (by decide)) (by decide +kernel))])) ?_
  refine xb_beq (tgt := 28) dX9_act_16 rfl (fun _ => ?_) (fun c => absurd c (by grind))
  refine xr_iconst (v := 0) dX9_act_28 rfl ?_
  exact xr_iret dX9_act_29 rfl rfl (⟨by first | rfl | (refine congrArg (fun z => some (Value.int z)) ?_; first | exact (if_neg (by assumption)).symm | exact (if_pos (by assumption)).symm | grind), rfl, by repeat (first | (with_reducible assumption) | (with_reducible exact Fr_z) | (with_reducible exact E0_fr (by assumption)) | ((with_reducible refine Fr_up ?_ ?_); first | decide | omega))⟩)
set_option maxRecDepth 100000 in
set_option maxHeartbeats 4000000 in
theorem p_X9_trace (i : Int32) {l : Launch} {G : xG}  : x_M l G fX9_trace 4 0 0 [.ref (0), .int (i)] x_SH z_M x_J0 (qF (some (.int (-1)))) := by
  refine xb_of pX9 (Nat.le_of_ble_eq_true rfl) rfl ?_
  refine xr_iload_n dX9_trace_0 1 rfl ?_
  refine xr_if_lt (tgt := 21) dX9_trace_1 rfl (fun c1 => ?_) (fun c1 => ?_)
  · refine xr_iconst (v := -1) dX9_trace_21 rfl ?_
    exact xr_iret dX9_trace_22 rfl rfl (⟨by first | rfl | (refine congrArg (fun z => some (Value.int z)) ?_; first | exact (if_neg (by assumption)).symm | exact (if_pos (by assumption)).symm | grind), rfl, by repeat (first | (with_reducible assumption) | (with_reducible exact Fr_z) | (with_reducible exact E0_fr (by assumption)) | ((with_reducible refine Fr_up ?_ ?_); first | decide | omega))⟩)
  · refine xr_iload_n dX9_trace_4 1 rfl ?_
    refine xr_aload_n dX9_trace_5 0 rfl ?_
    refine xr_getR flX9_61 dX9_trace_6 s_0 rfl ?_
    refine xb_get (v := 0) flX9_334 dX9_trace_9 s_46 rfl (by decide +kernel) ?_
    refine xr_icmp_ge (tgt := 21) dX9_trace_12 rfl (fun c2 => ?_) (fun c2 => ?_)
    · refine xr_iconst (v := -1) dX9_trace_21 rfl ?_
      exact xr_iret dX9_trace_22 rfl rfl (⟨by first | rfl | (refine congrArg (fun z => some (Value.int z)) ?_; first | exact (if_neg (by assumption)).symm | exact (if_pos (by assumption)).symm | grind), rfl, by repeat (first | (with_reducible assumption) | (with_reducible exact Fr_z) | (with_reducible exact E0_fr (by assumption)) | ((with_reducible refine Fr_up ?_ ?_); first | decide | omega))⟩)
    · exfalso
      grind
set_option maxRecDepth 100000 in
set_option maxHeartbeats 4000000 in
theorem p_X9_count (what : Int32) {l : Launch} {G : xG}  : x_M l G fX9_count 4 0 0 [.ref (0), .int (what)] x_SH z_M x_J0 (qF (some (.int (if 0 ≤ what ∧ what ≤ 5 then 0 else -1)))) := by
  refine xb_of pX9 (Nat.le_of_ble_eq_true rfl) rfl ?_
  refine xr_iload_n dX9_count_0 1 rfl ?_
  by_cases n0 : what = 0
  · subst n0
    refine xr_tableIn (tgt := 40) dX9_count_1 (by decide) (by decide) rfl rfl ?_
    refine xr_aload_n dX9_count_40 0 rfl ?_
    refine xr_getR flX9_28 dX9_count_41 s_0 rfl ?_
    refine xb_get (v := 0) flX9_218 dX9_count_44 s_13 rfl (by decide +kernel) ?_
    exact xr_iret dX9_count_47 rfl rfl (⟨by first | rfl | (refine congrArg (fun z => some (Value.int z)) ?_; first | exact (if_neg (by assumption)).symm | exact (if_pos (by assumption)).symm | grind), rfl, by repeat (first | (with_reducible assumption) | (with_reducible exact Fr_z) | (with_reducible exact E0_fr (by assumption)) | ((with_reducible refine Fr_up ?_ ?_); first | decide | omega))⟩)
  by_cases n1 : what = 1
  · subst n1
    refine xr_tableIn (tgt := 48) dX9_count_1 (by decide) (by decide) rfl rfl ?_
    refine xr_aload_n dX9_count_48 0 rfl ?_
    refine xr_getR flX9_28 dX9_count_49 s_0 rfl ?_
    refine xb_cV (As := []) (rest := []) mlX9_164 (c0_upright_13 E0_MI) dX9_count_52 s_13 rfl rfl (Nat.le_of_ble_eq_true rfl) (by decide) (by decide) ?_
    exact xr_iret dX9_count_55 rfl rfl (⟨by first | rfl | (refine congrArg (fun z => some (Value.int z)) ?_; first | exact (if_neg (by assumption)).symm | exact (if_pos (by assumption)).symm | grind), rfl, by repeat (first | (with_reducible assumption) | (with_reducible exact Fr_z) | (with_reducible exact E0_fr (by assumption)) | ((with_reducible refine Fr_up ?_ ?_); first | decide | omega))⟩)
  by_cases n2 : what = 2
  · subst n2
    refine xr_tableIn (tgt := 56) dX9_count_1 (by decide) (by decide) rfl rfl ?_
    refine xr_aload_n dX9_count_56 0 rfl ?_
    refine xr_getR flX9_19 dX9_count_57 s_0 rfl ?_
    refine xb_get (v := 0) flX9_147 dX9_count_60 s_6 rfl (by decide +kernel) ?_
    exact xr_iret dX9_count_63 rfl rfl (⟨by first | rfl | (refine congrArg (fun z => some (Value.int z)) ?_; first | exact (if_neg (by assumption)).symm | exact (if_pos (by assumption)).symm | grind), rfl, by repeat (first | (with_reducible assumption) | (with_reducible exact Fr_z) | (with_reducible exact E0_fr (by assumption)) | ((with_reducible refine Fr_up ?_ ?_); first | decide | omega))⟩)
  by_cases n3 : what = 3
  · subst n3
    refine xr_tableIn (tgt := 64) dX9_count_1 (by decide) (by decide) rfl rfl ?_
    refine xr_aload_n dX9_count_64 0 rfl ?_
    refine xr_getR flX9_54 dX9_count_65 s_0 rfl ?_
    refine xb_get (v := 0) flX9_309 dX9_count_68 s_41 rfl (by decide +kernel) ?_
    exact xr_iret dX9_count_71 rfl rfl (⟨by first | rfl | (refine congrArg (fun z => some (Value.int z)) ?_; first | exact (if_neg (by assumption)).symm | exact (if_pos (by assumption)).symm | grind), rfl, by repeat (first | (with_reducible assumption) | (with_reducible exact Fr_z) | (with_reducible exact E0_fr (by assumption)) | ((with_reducible refine Fr_up ?_ ?_); first | decide | omega))⟩)
  by_cases n4 : what = 4
  · subst n4
    refine xr_tableIn (tgt := 72) dX9_count_1 (by decide) (by decide) rfl rfl ?_
    refine xr_aload_n dX9_count_72 0 rfl ?_
    refine xr_getR flX9_61 dX9_count_73 s_0 rfl ?_
    refine xb_get (v := 0) flX9_393 dX9_count_76 s_46 rfl (by decide +kernel) ?_
    exact xr_iret dX9_count_79 rfl rfl (⟨by first | rfl | (refine congrArg (fun z => some (Value.int z)) ?_; first | exact (if_neg (by assumption)).symm | exact (if_pos (by assumption)).symm | grind), rfl, by repeat (first | (with_reducible assumption) | (with_reducible exact Fr_z) | (with_reducible exact E0_fr (by assumption)) | ((with_reducible refine Fr_up ?_ ?_); first | decide | omega))⟩)
  by_cases n5 : what = 5
  · subst n5
    refine xr_tableIn (tgt := 80) dX9_count_1 (by decide) (by decide) rfl rfl ?_
    refine xr_aload_n dX9_count_80 0 rfl ?_
    refine xr_getR flX9_61 dX9_count_81 s_0 rfl ?_
    refine xb_get (v := 0) flX9_334 dX9_count_84 s_46 rfl (by decide +kernel) ?_
    exact xr_iret dX9_count_87 rfl rfl (⟨by first | rfl | (refine congrArg (fun z => some (Value.int z)) ?_; first | exact (if_neg (by assumption)).symm | exact (if_pos (by assumption)).symm | grind), rfl, by repeat (first | (with_reducible assumption) | (with_reducible exact Fr_z) | (with_reducible exact E0_fr (by assumption)) | ((with_reducible refine Fr_up ?_ ?_); first | decide | omega))⟩)
  refine xr_tableOut (tgt := 88) dX9_count_1 (by have q0 := lv_neT (a := 0) n0 (by decide); have q1 := lv_neT (a := 1) n1 (by decide); have q2 := lv_neT (a := 2) n2 (by decide); have q3 := lv_neT (a := 3) n3 (by decide); have q4 := lv_neT (a := 4) n4 (by decide); have q5 := lv_neT (a := 5) n5 (by decide); omega) rfl ?_
  refine xr_iconst (v := -1) dX9_count_88 rfl ?_
  exact xr_iret dX9_count_89 rfl rfl (⟨by first | rfl | (refine congrArg (fun z => some (Value.int z)) ?_; first | exact (if_neg (by assumption)).symm | exact (if_pos (by assumption)).symm | grind), rfl, by repeat (first | (with_reducible assumption) | (with_reducible exact Fr_z) | (with_reducible exact E0_fr (by assumption)) | ((with_reducible refine Fr_up ?_ ?_); first | decide | omega))⟩)
set_option maxRecDepth 100000 in
set_option maxHeartbeats 4000000 in
theorem p_addBody (kind : Int32) {l : Launch} {G : xG}  : x_M l G fX8_addBody 1 0 0 [.ref (46), .int (kind)] x_SH z_M x_J0 (qF (some (.int 0))) := by
  refine xb_of pX8 (Nat.le_of_ble_eq_true rfl) rfl ?_
  refine xr_aload_n dX8_addBody_0 0 rfl ?_
  refine xb_cV (As := []) (rest := []) mlX8_22 (c_X8_isFull) dX8_addBody_1 s_46 rfl rfl (Nat.le_of_ble_eq_true rfl) (by decide) (by decide) ?_
  refine xb_top (y := bI (50 ≤ (0 : Int32))) (x_bI_c (by rw [show z_M 46 2 = 0 from (by decide +kernel)])) ?_
  refine xb_beq (tgt := 10) dX8_addBody_4 rfl (fun _ => ?_) (fun c => absurd c (by decide))
  refine xr_aload_n dX8_addBody_10 0 rfl ?_
  refine xr_getR flX8_9 dX8_addBody_11 s_46 rfl ?_
  refine xr_aload_n dX8_addBody_14 0 rfl ?_
  refine xb_get (v := 0) flX8_18 dX8_addBody_15 s_46 rfl (by decide +kernel) ?_
  refine xr_iload_n dX8_addBody_18 1 rfl ?_
  refine xb_iast (j := 0) dX8_addBody_19 s_47 (by decide) (by decide) ?_
  refine xr_aload_n dX8_addBody_20 0 rfl ?_
  refine xr_dup dX8_addBody_21 rfl ?_
  refine xb_get (v := 0) flX8_18 dX8_addBody_22 s_46 rfl (Eq.trans (congrFun (x_up_n _ _ _ (by decide)) _) (by decide +kernel)) ?_
  refine xr_iconst (v := 1) dX8_addBody_25 rfl ?_
  refine xr_iadd dX8_addBody_26 ?_
  refine xb_top (y := 1) (by decide) ?_
  refine xr_putI fpX8_18 dX8_addBody_27 s_46 rfl rfl rfl ?_
  refine xr_aload_n dX8_addBody_30 0 rfl ?_
  refine xb_get (v := 1) flX8_18 dX8_addBody_31 s_46 rfl (x_up_s _ _ _ _) ?_
  refine xr_iconst (v := 1) dX8_addBody_34 rfl ?_
  refine xr_isub dX8_addBody_35 ?_
  refine xb_top (y := 0) (by decide) ?_
  exact xr_iret dX8_addBody_36 rfl rfl (⟨by first | rfl | (refine congrArg (fun z => some (Value.int z)) ?_; first | exact (if_neg (by assumption)).symm | exact (if_pos (by assumption)).symm | grind), rfl, by repeat (first | (with_reducible assumption) | (with_reducible exact Fr_z) | (with_reducible exact E0_fr (by assumption)) | ((with_reducible refine Fr_up ?_ ?_); first | decide | omega))⟩)
set_option maxRecDepth 100000 in
set_option maxHeartbeats 4000000 in
theorem p_X9_body (kind : Int32) {l : Launch} {G : xG}  : x_M l G fX9_body 4 0 0 [.ref (0), .int (kind)] x_SH z_M x_J0 (qF (some (.int (if 0 ≤ kind ∧ kind < 8 then 0 else -1)))) := by
  refine xb_of pX9 (Nat.le_of_ble_eq_true rfl) rfl ?_
  refine xr_iload_n dX9_body_0 1 rfl ?_
  refine xb_cS (As := [.int (kind)]) (rest := []) mlX9_327 (c_X9_isKind kind) dX9_body_1 rfl rfl (Nat.le_of_ble_eq_true rfl) (by decide) (by decide) ?_
  refine xb_bne (tgt := 9) dX9_body_4 rfl (fun c1 => ?_) (fun c1 => ?_)
  · refine xr_aload_n dX9_body_9 0 rfl ?_
    refine xr_getR flX9_61 dX9_body_10 s_0 rfl ?_
    refine xb_cV (As := []) (rest := []) mlX9_330 (c_X8_isFull) dX9_body_13 s_46 rfl rfl (Nat.le_of_ble_eq_true rfl) (by decide) (by decide) ?_
    refine xb_top (y := bI (50 ≤ (0 : Int32))) (x_bI_c (by rw [show z_M 46 2 = 0 from (by decide +kernel)])) ?_
    refine xb_beq (tgt := 24) dX9_body_16 rfl (fun _ => ?_) (fun c => absurd c (by decide))
    refine xr_aload_n dX9_body_24 0 rfl ?_
    refine xr_getR flX9_61 dX9_body_25 s_0 rfl ?_
    refine xr_iload_n dX9_body_28 1 rfl ?_
    refine xr_callV (As := [.int (kind)]) (rest := []) mlX9_331 (p_addBody kind) dX9_body_29 s_46 rfl rfl (Nat.le_of_ble_eq_true rfl) (by decide) ⟨by decide, by decide⟩ (fun v s2 M3 J2 hq => ?_)
    obtain ⟨rfl, rfl, f4⟩ := hq
    try dsimp only [Option.toList, List.cons_append, List.nil_append]
    exact xr_iret dX9_body_32 rfl rfl (⟨by first | rfl | (refine congrArg (fun z => some (Value.int z)) ?_; first | exact (if_neg (by assumption)).symm | exact (if_pos (by assumption)).symm | grind), rfl, by repeat (first | (with_reducible assumption) | (with_reducible exact Fr_z) | (with_reducible exact E0_fr (by assumption)) | ((with_reducible refine Fr_up ?_ ?_); first | decide | omega))⟩)
  · refine xr_iconst (v := -1) dX9_body_7 rfl ?_
    exact xr_iret dX9_body_8 rfl rfl (⟨by first | rfl | (refine congrArg (fun z => some (Value.int z)) ?_; first | exact (if_neg (by assumption)).symm | exact (if_pos (by assumption)).symm | grind), rfl, by repeat (first | (with_reducible assumption) | (with_reducible exact Fr_z) | (with_reducible exact E0_fr (by assumption)) | ((with_reducible refine Fr_up ?_ ?_); first | decide | omega))⟩)
set_option maxRecDepth 100000 in
set_option maxHeartbeats 4000000 in
theorem p_X9_keep (shelf body : Int32) {l : Launch} {G : xG}  : x_M l G fX9_keep 4 0 0 [.ref (0), .int (shelf), .int (body)] x_SH z_M x_J0 (qF (some (.int (if (0 ≤ shelf ∧ shelf < 6) ∧ body = -1 then 1 else -1)))) := by
  refine xb_of pX9 (Nat.le_of_ble_eq_true rfl) rfl ?_
  refine xr_iload_n dX9_keep_0 1 rfl ?_
  refine xb_cS (As := [.int (shelf)]) (rest := []) mlX9_88 (c_X9_isShelf shelf) dX9_keep_1 rfl rfl (Nat.le_of_ble_eq_true rfl) (by decide) (by decide) ?_
  refine xb_beq (tgt := 23) dX9_keep_4 rfl (fun c1 => ?_) (fun c1 => ?_)
  · refine xr_iconst (v := -1) dX9_keep_23 rfl ?_
    exact xr_iret dX9_keep_24 rfl rfl (⟨by first | rfl | (refine congrArg (fun z => some (Value.int z)) ?_; first | exact (if_neg (by assumption)).symm | exact (if_pos (by assumption)).symm | grind), rfl, by repeat (first | (with_reducible assumption) | (with_reducible exact Fr_z) | (with_reducible exact E0_fr (by assumption)) | ((with_reducible refine Fr_up ?_ ?_); first | decide | omega))⟩)
  · obtain ⟨j, hj, rfl⟩ := x_nat (N := 6) (by decide) rfl c1
    refine xr_iload_n dX9_keep_7 2 rfl ?_
    refine xr_iconst (v := -1) dX9_keep_8 rfl ?_
    refine xr_icmp_eq (tgt := 25) dX9_keep_9 rfl (fun c2 => ?_) (fun c2 => ?_)
    · refine xr_iload_n dX9_keep_25 2 rfl ?_
      refine xr_iconst (v := -1) dX9_keep_26 rfl ?_
      refine xr_icmp_ne (tgt := 42) dX9_keep_27 rfl (fun c => absurd c2 c) (fun _ => ?_)
      refine xr_aload_n dX9_keep_30 0 rfl ?_
      refine xr_getR flX9_67 dX9_keep_31 s_0 rfl ?_
      refine xr_iload_n dX9_keep_34 1 rfl ?_
      refine xb_aald (j := j) (q := 50 + 2 * j) (by decide) dX9_keep_35 s_49 hj (by decide) (if_pos hj) ?_
      refine xb_cV (As := []) (rest := []) mlX9_344 (c_X6_holdNothing (s_shelf hj)) dX9_keep_36 (s_shelf hj) rfl rfl (Nat.le_of_ble_eq_true rfl) (by decide) (by decide) ?_
      refine xr_goto (tgt := 52) dX9_keep_39 rfl ?_
      refine xr_iconst (v := 1) dX9_keep_52 rfl ?_
      exact xr_iret dX9_keep_53 rfl rfl (⟨by first | rfl | (refine congrArg (fun z => some (Value.int z)) ?_; first | exact (if_neg (by assumption)).symm | exact (if_pos (by assumption)).symm | grind), rfl, by repeat (first | (with_reducible assumption) | (with_reducible exact Fr_z) | (with_reducible exact E0_fr (by assumption)) | ((with_reducible refine Fr_up ?_ ?_); first | decide | omega))⟩)
    · refine xr_aload_n dX9_keep_12 0 rfl ?_
      refine xr_getR flX9_61 dX9_keep_13 s_0 rfl ?_
      refine xr_iload_n dX9_keep_16 2 rfl ?_
      refine xb_cV (As := [.int (body)]) (rest := []) mlX9_337 (c_X8_has body) dX9_keep_17 s_46 rfl rfl (Nat.le_of_ble_eq_true rfl) (by decide) (by decide) ?_
      refine xb_top (y := bI (0 ≤ body ∧ body < 0)) (x_bI_c (by rw [show z_M 46 2 = 0 from (by decide +kernel)])) ?_
      refine xb_bne (tgt := 25) dX9_keep_20 rfl (fun c => absurd c (by grind)) (fun _ => ?_)
      refine xr_iconst (v := -1) dX9_keep_23 rfl ?_
      exact xr_iret dX9_keep_24 rfl rfl (⟨by first | rfl | (refine congrArg (fun z => some (Value.int z)) ?_; first | exact (if_neg (by assumption)).symm | exact (if_pos (by assumption)).symm | grind), rfl, by repeat (first | (with_reducible assumption) | (with_reducible exact Fr_z) | (with_reducible exact E0_fr (by assumption)) | ((with_reducible refine Fr_up ?_ ?_); first | decide | omega))⟩)
set_option maxRecDepth 100000 in
set_option maxHeartbeats 4000000 in
theorem p_X9_put (shelf i : Int32) (v : Int64) {l : Launch} {G : xG}  : x_M l G fX9_put 4 0 0 [.ref (0), .int (shelf), .int (i), .long (v)] x_SH z_M x_J0 (qF (some (.int (if 0 ≤ shelf ∧ shelf < 6 then -11 else -1)))) := by
  refine xb_of pX9 (Nat.le_of_ble_eq_true rfl) rfl ?_
  refine xr_iload_n dX9_put_0 1 rfl ?_
  refine xb_cS (As := [.int (shelf)]) (rest := []) mlX9_88 (c_X9_isShelf shelf) dX9_put_1 rfl rfl (Nat.le_of_ble_eq_true rfl) (by decide) (by decide) ?_
  refine xb_bne (tgt := 9) dX9_put_4 rfl (fun c1 => ?_) (fun c1 => ?_)
  · obtain ⟨j, hj, rfl⟩ := x_nat (N := 6) (by decide) rfl c1
    refine xr_aload_n dX9_put_9 0 rfl ?_
    refine xr_getR flX9_67 dX9_put_10 s_0 rfl ?_
    refine xr_iload_n dX9_put_13 1 rfl ?_
    refine xb_aald (j := j) (q := 50 + 2 * j) (by decide) dX9_put_14 s_49 hj (by decide) (if_pos hj) ?_
    refine xr_iload_n dX9_put_15 2 rfl ?_
    refine xb_cV (As := [.int (i)]) (rest := []) mlX9_356 (c_X6_placeRefusal i (s_shelf hj)) dX9_put_16 (s_shelf hj) rfl rfl (Nat.le_of_ble_eq_true rfl) (by decide) (by decide) ?_
    refine xb_top (y := -11) (if_pos (mi_sh j hj).1) ?_
    refine xr_istore (ls2 := [(5, .int ((-11))), (0, .ref (0)), (1, .int (nI (j))), (2, .int (i)), (3, .long (v))]) dX9_put_19 (by decide) rfl ?_
    refine xr_iload dX9_put_21 0 rfl ?_
    refine xr_if_eq (tgt := 29) dX9_put_23 rfl (fun c => absurd c (by decide)) (fun _ => ?_)
    refine xr_iload dX9_put_26 0 rfl ?_
    exact xr_iret dX9_put_28 rfl rfl (⟨by first | rfl | (refine congrArg (fun z => some (Value.int z)) ?_; first | exact (if_neg (by assumption)).symm | exact (if_pos (by assumption)).symm | grind), rfl, by repeat (first | (with_reducible assumption) | (with_reducible exact Fr_z) | (with_reducible exact E0_fr (by assumption)) | ((with_reducible refine Fr_up ?_ ?_); first | decide | omega))⟩)
  · refine xr_iconst (v := -1) dX9_put_7 rfl ?_
    exact xr_iret dX9_put_8 rfl rfl (⟨by first | rfl | (refine congrArg (fun z => some (Value.int z)) ?_; first | exact (if_neg (by assumption)).symm | exact (if_pos (by assumption)).symm | grind), rfl, by repeat (first | (with_reducible assumption) | (with_reducible exact Fr_z) | (with_reducible exact E0_fr (by assumption)) | ((with_reducible refine Fr_up ?_ ?_); first | decide | omega))⟩)
set_option maxRecDepth 100000 in
set_option maxHeartbeats 4000000 in
theorem p_X9_element (shelf i : Int32) {l : Launch} {G : xG}  : x_M l G fX9_element 4 0 0 [.ref (0), .int (shelf), .int (i)] x_SH z_M x_J0 (qF (some (.long (-9223372036854775808)))) := by
  refine xb_of pX9 (Nat.le_of_ble_eq_true rfl) rfl ?_
  refine xr_iload_n dX9_element_0 1 rfl ?_
  refine xb_cS (As := [.int (shelf)]) (rest := []) mlX9_88 (c_X9_isShelf shelf) dX9_element_1 rfl rfl (Nat.le_of_ble_eq_true rfl) (by decide) (by decide) ?_
  refine xb_beq (tgt := 20) dX9_element_4 rfl (fun c1 => ?_) (fun c1 => ?_)
  · refine xr_ldc2 coX9_286 dX9_element_20 ?_
    exact xr_lret dX9_element_23 rfl (⟨by first | rfl | (refine congrArg (fun z => some (Value.long z)) ?_; first | exact (if_neg (by assumption)).symm | exact (if_pos (by assumption)).symm | grind), rfl, by repeat (first | (with_reducible assumption) | (with_reducible exact Fr_z) | (with_reducible exact E0_fr (by assumption)) | ((with_reducible refine Fr_up ?_ ?_); first | decide | omega))⟩)
  · obtain ⟨j, hj, rfl⟩ := x_nat (N := 6) (by decide) rfl c1
    refine xr_aload_n dX9_element_7 0 rfl ?_
    refine xr_getR flX9_67 dX9_element_8 s_0 rfl ?_
    refine xr_iload_n dX9_element_11 1 rfl ?_
    refine xb_aald (j := j) (q := 50 + 2 * j) (by decide) dX9_element_12 s_49 hj (by decide) (if_pos hj) ?_
    refine xr_iload_n dX9_element_13 2 rfl ?_
    refine xb_cV (As := [.int (i)]) (rest := []) mlX9_356 (c_X6_placeRefusal i (s_shelf hj)) dX9_element_14 (s_shelf hj) rfl rfl (Nat.le_of_ble_eq_true rfl) (by decide) (by decide) ?_
    refine xb_top (y := -11) (if_pos (mi_sh j hj).1) ?_
    refine xr_if_eq (tgt := 24) dX9_element_17 rfl (fun c => absurd c (by decide)) (fun _ => ?_)
    refine xr_ldc2 coX9_286 dX9_element_20 ?_
    exact xr_lret dX9_element_23 rfl (⟨by first | rfl | (refine congrArg (fun z => some (Value.long z)) ?_; first | exact (if_neg (by assumption)).symm | exact (if_pos (by assumption)).symm | grind), rfl, by repeat (first | (with_reducible assumption) | (with_reducible exact Fr_z) | (with_reducible exact E0_fr (by assumption)) | ((with_reducible refine Fr_up ?_ ?_); first | decide | omega))⟩)
set_option maxRecDepth 100000 in
set_option maxHeartbeats 4000000 in
theorem p_X9_shift (shelf i other j0 n : Int32) {l : Launch} {G : xG}  : x_M l G fX9_shift 4 0 0 [.ref (0), .int (shelf), .int (i), .int (other), .int (j0), .int (n)] x_SH z_M x_J0 (qF (some (.int (if (0 ≤ shelf ∧ shelf < 6) ∧ (0 ≤ other ∧ other < 6) then -11 else -1)))) := by
  refine xb_of pX9 (Nat.le_of_ble_eq_true rfl) rfl ?_
  refine xr_iload_n dX9_shift_0 1 rfl ?_
  refine xb_cS (As := [.int (shelf)]) (rest := []) mlX9_88 (c_X9_isShelf shelf) dX9_shift_1 rfl rfl (Nat.le_of_ble_eq_true rfl) (by decide) (by decide) ?_
  refine xb_beq (tgt := 14) dX9_shift_4 rfl (fun c1 => ?_) (fun c1 => ?_)
  · refine xr_iconst (v := -1) dX9_shift_14 rfl ?_
    exact xr_iret dX9_shift_15 rfl rfl (⟨by first | rfl | (refine congrArg (fun z => some (Value.int z)) ?_; first | exact (if_neg (by assumption)).symm | exact (if_pos (by assumption)).symm | grind), rfl, by repeat (first | (with_reducible assumption) | (with_reducible exact Fr_z) | (with_reducible exact E0_fr (by assumption)) | ((with_reducible refine Fr_up ?_ ?_); first | decide | omega))⟩)
  · obtain ⟨j, hj, rfl⟩ := x_nat (N := 6) (by decide) rfl c1
    refine xr_iload_n dX9_shift_7 3 rfl ?_
    refine xb_cS (As := [.int (other)]) (rest := []) mlX9_88 (c_X9_isShelf other) dX9_shift_8 rfl rfl (Nat.le_of_ble_eq_true rfl) (by decide) (by decide) ?_
    refine xb_bne (tgt := 16) dX9_shift_11 rfl (fun c2 => ?_) (fun c2 => ?_)
    · obtain ⟨j2, hj2, rfl⟩ := x_nat (N := 6) (by decide) rfl c2
      refine xr_aload_n dX9_shift_16 0 rfl ?_
      refine xr_getR flX9_67 dX9_shift_17 s_0 rfl ?_
      refine xr_iload_n dX9_shift_20 1 rfl ?_
      refine xb_aald (j := j) (q := 50 + 2 * j) (by decide) dX9_shift_21 s_49 hj (by decide) (if_pos hj) ?_
      refine xr_astore (ls2 := [(6, .ref (50 + 2 * j)), (0, .ref (0)), (1, .int (nI (j))), (2, .int (i)), (3, .int (nI (j2))), (4, .int (j0)), (5, .int (n))]) dX9_shift_22 (by decide) rfl ?_
      refine xr_aload_n dX9_shift_24 1 rfl ?_
      refine xr_getR flX9_67 dX9_shift_25 s_0 rfl ?_
      refine xr_iload_n dX9_shift_28 4 rfl ?_
      refine xb_aald (j := j2) (q := 50 + 2 * j2) (by decide) dX9_shift_29 s_49 hj2 (by decide) (if_pos hj2) ?_
      refine xr_astore (ls2 := [(7, .ref (50 + 2 * j2)), (6, .ref (50 + 2 * j)), (0, .ref (0)), (1, .int (nI (j))), (2, .int (i)), (3, .int (nI (j2))), (4, .int (j0)), (5, .int (n))]) dX9_shift_30 (by decide) rfl ?_
      refine xr_aload dX9_shift_32 1 rfl ?_
      refine xb_cV (As := []) (rest := []) mlX9_91 (c_X6_isEmpty (s_shelf hj)) dX9_shift_34 (s_shelf hj) rfl rfl (Nat.le_of_ble_eq_true rfl) (by decide) (by decide) ?_
      refine xb_bne (tgt := 48) dX9_shift_37 rfl (fun _ => ?_) (fun c => absurd (mi_sh j hj).1 c)
      refine xr_bipush (v := -11) dX9_shift_48 rfl ?_
      exact xr_iret dX9_shift_50 rfl rfl (⟨by first | rfl | (refine congrArg (fun z => some (Value.int z)) ?_; first | exact (if_neg (by assumption)).symm | exact (if_pos (by assumption)).symm | grind), rfl, by repeat (first | (with_reducible assumption) | (with_reducible exact Fr_z) | (with_reducible exact E0_fr (by assumption)) | ((with_reducible refine Fr_up ?_ ?_); first | decide | omega))⟩)
    · refine xr_iconst (v := -1) dX9_shift_14 rfl ?_
      exact xr_iret dX9_shift_15 rfl rfl (⟨by first | rfl | (refine congrArg (fun z => some (Value.int z)) ?_; first | exact (if_neg (by assumption)).symm | exact (if_pos (by assumption)).symm | grind), rfl, by repeat (first | (with_reducible assumption) | (with_reducible exact Fr_z) | (with_reducible exact E0_fr (by assumption)) | ((with_reducible refine Fr_up ?_ ?_); first | decide | omega))⟩)
set_option maxRecDepth 100000 in
set_option maxHeartbeats 4000000 in
theorem p_X9_taken (shelf k : Int32) {l : Launch} {G : xG}  : x_M l G fX9_taken 4 0 0 [.ref (0), .int (shelf), .int (k)] x_SH z_M x_J0 (qF (some (.int (if (0 ≤ shelf ∧ shelf < 6) ∧ (0 ≤ k ∧ k < 8) then -11 else -1)))) := by
  refine xb_of pX9 (Nat.le_of_ble_eq_true rfl) rfl ?_
  refine xr_iload_n dX9_taken_0 1 rfl ?_
  refine xb_cS (As := [.int (shelf)]) (rest := []) mlX9_88 (c_X9_isShelf shelf) dX9_taken_1 rfl rfl (Nat.le_of_ble_eq_true rfl) (by decide) (by decide) ?_
  refine xb_beq (tgt := 14) dX9_taken_4 rfl (fun c1 => ?_) (fun c1 => ?_)
  · refine xr_iconst (v := -1) dX9_taken_14 rfl ?_
    exact xr_iret dX9_taken_15 rfl rfl (⟨by first | rfl | (refine congrArg (fun z => some (Value.int z)) ?_; first | exact (if_neg (by assumption)).symm | exact (if_pos (by assumption)).symm | grind), rfl, by repeat (first | (with_reducible assumption) | (with_reducible exact Fr_z) | (with_reducible exact E0_fr (by assumption)) | ((with_reducible refine Fr_up ?_ ?_); first | decide | omega))⟩)
  · obtain ⟨j, hj, rfl⟩ := x_nat (N := 6) (by decide) rfl c1
    refine xr_iload_n dX9_taken_7 2 rfl ?_
    refine xb_cS (As := [.int (k)]) (rest := []) mlX9_327 (c_X9_isKind k) dX9_taken_8 rfl rfl (Nat.le_of_ble_eq_true rfl) (by decide) (by decide) ?_
    refine xb_bne (tgt := 16) dX9_taken_11 rfl (fun c2 => ?_) (fun c2 => ?_)
    · refine xr_aload_n dX9_taken_16 0 rfl ?_
      refine xr_getR flX9_67 dX9_taken_17 s_0 rfl ?_
      refine xr_iload_n dX9_taken_20 1 rfl ?_
      refine xb_aald (j := j) (q := 50 + 2 * j) (by decide) dX9_taken_21 s_49 hj (by decide) (if_pos hj) ?_
      refine xr_astore_n (ls2 := [(3, .ref (50 + 2 * j)), (0, .ref (0)), (1, .int (nI (j))), (2, .int (k))]) dX9_taken_22 (by decide) rfl ?_
      refine xr_aload_n dX9_taken_23 0 rfl ?_
      refine xb_cV (As := []) (rest := []) mlX9_91 (c_X6_isEmpty (s_shelf hj)) dX9_taken_24 (s_shelf hj) rfl rfl (Nat.le_of_ble_eq_true rfl) (by decide) (by decide) ?_
      refine xb_beq (tgt := 33) dX9_taken_27 rfl (fun c => absurd (mi_sh j hj).1 c) (fun _ => ?_)
      refine xr_bipush (v := -11) dX9_taken_30 rfl ?_
      exact xr_iret dX9_taken_32 rfl rfl (⟨by first | rfl | (refine congrArg (fun z => some (Value.int z)) ?_; first | exact (if_neg (by assumption)).symm | exact (if_pos (by assumption)).symm | grind), rfl, by repeat (first | (with_reducible assumption) | (with_reducible exact Fr_z) | (with_reducible exact E0_fr (by assumption)) | ((with_reducible refine Fr_up ?_ ?_); first | decide | omega))⟩)
    · refine xr_iconst (v := -1) dX9_taken_14 rfl ?_
      exact xr_iret dX9_taken_15 rfl rfl (⟨by first | rfl | (refine congrArg (fun z => some (Value.int z)) ?_; first | exact (if_neg (by assumption)).symm | exact (if_pos (by assumption)).symm | grind), rfl, by repeat (first | (with_reducible assumption) | (with_reducible exact Fr_z) | (with_reducible exact E0_fr (by assumption)) | ((with_reducible refine Fr_up ?_ ?_); first | decide | omega))⟩)
set_option maxRecDepth 100000 in
set_option maxHeartbeats 4000000 in
theorem p_hoopCame (a : Int32) {p el : Nat} (hs : x_SH[p]? = some (.inl (6, [none, none, none, none, some (some el)]))) (h3 : z_M p 3 = 0) {l : Launch} {G : xG}  : x_M l G fX9_hoopCame 0 0 0 [.ref (0), .ref (p), .int (a)] x_SH z_M x_J0 (qE (some (.int 0)) x_SH z_M x_J0) := by
  refine xb_of pX9 (Nat.le_of_ble_eq_true rfl) rfl ?_
  refine xr_iload_n dX9_hoopCame_0 2 rfl ?_
  refine xr_if_lt (tgt := 30) dX9_hoopCame_1 rfl (fun c1 => ?_) (fun c1 => ?_)
  · refine xr_iconst (v := 0) dX9_hoopCame_30 rfl ?_
    exact xr_iret dX9_hoopCame_31 rfl rfl (⟨by first | rfl | grind, rfl, rfl, rfl⟩)
  · refine xr_iload_n dX9_hoopCame_4 2 rfl ?_
    refine xr_aload_n dX9_hoopCame_5 1 rfl ?_
    refine xb_get (v := 0) flX9_399 dX9_hoopCame_6 hs rfl h3 ?_
    refine xr_iconst (v := 3) dX9_hoopCame_9 rfl ?_
    refine xr_isub dX9_hoopCame_10 ?_
    refine xb_top (y := (-3)) (by decide) ?_
    refine xr_icmp_gt (tgt := 30) dX9_hoopCame_11 rfl (fun c2 => ?_) (fun c2 => ?_)
    · refine xr_iconst (v := 0) dX9_hoopCame_30 rfl ?_
      exact xr_iret dX9_hoopCame_31 rfl rfl (⟨by first | rfl | grind, rfl, rfl, rfl⟩)
    · exfalso
      grind
set_option maxRecDepth 100000 in
set_option maxHeartbeats 4000000 in
theorem p_X9_hoops (shelf i n : Int32) {l : Launch} {G : xG}  : x_M l G fX9_hoops 4 0 0 [.ref (0), .int (shelf), .int (i), .int (n)] x_SH z_M x_J0 (qF (some (.int (if (0 ≤ shelf ∧ shelf < 6) ∧ 1 ≤ n ∧ n ≤ 5 then 0 else -1)))) := by
  refine xb_of pX9 (Nat.le_of_ble_eq_true rfl) rfl ?_
  refine xr_iload_n dX9_hoops_0 1 rfl ?_
  refine xb_cS (As := [.int (shelf)]) (rest := []) mlX9_88 (c_X9_isShelf shelf) dX9_hoops_1 rfl rfl (Nat.le_of_ble_eq_true rfl) (by decide) (by decide) ?_
  refine xb_beq (tgt := 17) dX9_hoops_4 rfl (fun c1 => ?_) (fun c1 => ?_)
  · refine xr_iconst (v := -1) dX9_hoops_17 rfl ?_
    exact xr_iret dX9_hoops_18 rfl rfl (⟨by first | rfl | (refine congrArg (fun z => some (Value.int z)) ?_; first | exact (if_neg (by assumption)).symm | exact (if_pos (by assumption)).symm | grind), rfl, by repeat (first | (with_reducible assumption) | (with_reducible exact Fr_z) | (with_reducible exact E0_fr (by assumption)) | ((with_reducible refine Fr_up ?_ ?_); first | decide | omega))⟩)
  · obtain ⟨j, hj, rfl⟩ := x_nat (N := 6) (by decide) rfl c1
    refine xr_iload_n dX9_hoops_7 3 rfl ?_
    refine xr_iconst (v := 1) dX9_hoops_8 rfl ?_
    refine xr_icmp_lt (tgt := 17) dX9_hoops_9 rfl (fun c2 => ?_) (fun c2 => ?_)
    · refine xr_iconst (v := -1) dX9_hoops_17 rfl ?_
      exact xr_iret dX9_hoops_18 rfl rfl (⟨by first | rfl | (refine congrArg (fun z => some (Value.int z)) ?_; first | exact (if_neg (by assumption)).symm | exact (if_pos (by assumption)).symm | grind), rfl, by repeat (first | (with_reducible assumption) | (with_reducible exact Fr_z) | (with_reducible exact E0_fr (by assumption)) | ((with_reducible refine Fr_up ?_ ?_); first | decide | omega))⟩)
    · refine xr_iload_n dX9_hoops_12 3 rfl ?_
      refine xr_iconst (v := 5) dX9_hoops_13 rfl ?_
      refine xr_icmp_le (tgt := 19) dX9_hoops_14 rfl (fun c3 => ?_) (fun c3 => ?_)
      · refine xr_aload_n dX9_hoops_19 0 rfl ?_
        refine xr_getR flX9_67 dX9_hoops_20 s_0 rfl ?_
        refine xr_iload_n dX9_hoops_23 1 rfl ?_
        refine xb_aald (j := j) (q := 50 + 2 * j) (by decide) dX9_hoops_24 s_49 hj (by decide) (if_pos hj) ?_
        refine xr_astore (ls2 := [(4, .ref (50 + 2 * j)), (0, .ref (0)), (1, .int (nI (j))), (2, .int (i)), (3, .int (n))]) dX9_hoops_25 (by decide) rfl ?_
        refine xr_aload dX9_hoops_27 0 rfl ?_
        refine xb_cV (As := []) (rest := []) mlX9_91 (c_X6_isEmpty (s_shelf hj)) dX9_hoops_29 (s_shelf hj) rfl rfl (Nat.le_of_ble_eq_true rfl) (by decide) (by decide) ?_
        refine xb_bne (tgt := 46) dX9_hoops_32 rfl (fun _ => ?_) (fun c => absurd (mi_sh j hj).1 c)
        refine xr_iconst (v := 0) dX9_hoops_46 rfl ?_
        refine xr_istore (ls2 := [(5, .int (0)), (4, .ref (50 + 2 * j)), (0, .ref (0)), (1, .int (nI (j))), (2, .int (i)), (3, .int (n))]) dX9_hoops_47 (by decide) rfl ?_
        refine xr_iload dX9_hoops_49 0 rfl ?_
        refine xr_iload_n dX9_hoops_51 5 rfl ?_
        refine xr_icmp_ge (tgt := 76) dX9_hoops_52 rfl (fun c5 => ?_) (fun c5 => ?_)
        · refine xr_iload dX9_hoops_76 0 rfl ?_
          exact xr_iret dX9_hoops_78 rfl rfl (⟨by first | rfl | (refine congrArg (fun z => some (Value.int z)) ?_; first | exact (if_neg (by assumption)).symm | exact (if_pos (by assumption)).symm | grind), rfl, by repeat (first | (with_reducible assumption) | (with_reducible exact Fr_z) | (with_reducible exact E0_fr (by assumption)) | ((with_reducible refine Fr_up ?_ ?_); first | decide | omega))⟩)
        · refine xr_aload_n dX9_hoops_55 2 rfl ?_
          refine xr_aload dX9_hoops_56 1 rfl ?_
          refine xr_iload_n dX9_hoops_58 4 rfl ?_
          refine xr_iconst (v := 3) dX9_hoops_59 rfl ?_
          refine xr_iload dX9_hoops_60 0 rfl ?_
          refine xr_imul dX9_hoops_62 ?_
          refine xb_top (y := 0) (by decide) ?_
          refine xr_iadd dX9_hoops_63 ?_
          refine xb_cV (As := [.ref (50 + 2 * j), .int ((i + 0))]) (rest := []) mlX9_97 (p_hoopCame (i + 0) (s_shelf hj) (mi_sh j hj).2) dX9_hoops_64 s_0 rfl rfl (Nat.le_of_ble_eq_true rfl) (by decide) (by decide) ?_
          refine xr_if_eq (tgt := 76) dX9_hoops_67 rfl (fun _ => ?_) (fun c => absurd (by decide) c)
          refine xr_iload dX9_hoops_76 0 rfl ?_
          exact xr_iret dX9_hoops_78 rfl rfl (⟨by first | rfl | (refine congrArg (fun z => some (Value.int z)) ?_; first | exact (if_neg (by assumption)).symm | exact (if_pos (by assumption)).symm | grind), rfl, by repeat (first | (with_reducible assumption) | (with_reducible exact Fr_z) | (with_reducible exact E0_fr (by assumption)) | ((with_reducible refine Fr_up ?_ ?_); first | decide | omega))⟩)
      · refine xr_iconst (v := -1) dX9_hoops_17 rfl ?_
        exact xr_iret dX9_hoops_18 rfl rfl (⟨by first | rfl | (refine congrArg (fun z => some (Value.int z)) ?_; first | exact (if_neg (by assumption)).symm | exact (if_pos (by assumption)).symm | grind), rfl, by repeat (first | (with_reducible assumption) | (with_reducible exact Fr_z) | (with_reducible exact E0_fr (by assumption)) | ((with_reducible refine Fr_up ?_ ?_); first | decide | omega))⟩)
set_option maxRecDepth 100000 in
set_option maxHeartbeats 4000000 in
theorem p_setCan (what v : Int32) {l : Launch} {G : xG}  : x_M l G fX9_settingCanBecome 1 0 0 [.ref (0), .int (what), .int (v)] x_SH z_M x_J0 (qE (some (.int (bI ((what = 3 ∧ 0 ≤ v ∧ v ≤ 3) ∨ (what = 4 ∧ 2 ≤ v ∧ v ≤ 24) ∨ (what = 5 ∧ 0 ≤ v ∧ v < 6) ∨ (what = 6 ∧ 0 ≤ v ∧ v ≤ 5) ∨ (what = 7 ∧ 0 ≤ v ∧ v ≤ 12))))) x_SH z_M x_J0) := by
  refine xb_of pX9 (Nat.le_of_ble_eq_true rfl) rfl ?_
  refine xr_iload_n dX9_settingCanBecome_0 1 rfl ?_
  by_cases n3 : what = 3
  · subst n3
    refine xr_tableIn (tgt := 36) dX9_settingCanBecome_1 (by decide) (by decide) rfl rfl ?_
    refine xr_iload_n dX9_settingCanBecome_36 2 rfl ?_
    refine xr_if_lt (tgt := 49) dX9_settingCanBecome_37 rfl (fun c1 => ?_) (fun c1 => ?_)
    · refine xr_iconst (v := 0) dX9_settingCanBecome_49 rfl ?_
      exact xr_iret dX9_settingCanBecome_50 rfl rfl (⟨congrArg (fun z => some (Value.int z)) (bI_f (by grind)).symm, rfl, rfl, rfl⟩)
    · refine xr_iload_n dX9_settingCanBecome_40 2 rfl ?_
      refine xr_iconst (v := 3) dX9_settingCanBecome_41 rfl ?_
      refine xr_icmp_gt (tgt := 49) dX9_settingCanBecome_42 rfl (fun c2 => ?_) (fun c2 => ?_)
      · refine xr_iconst (v := 0) dX9_settingCanBecome_49 rfl ?_
        exact xr_iret dX9_settingCanBecome_50 rfl rfl (⟨congrArg (fun z => some (Value.int z)) (bI_f (by grind)).symm, rfl, rfl, rfl⟩)
      · refine xr_iconst (v := 1) dX9_settingCanBecome_45 rfl ?_
        refine xr_goto (tgt := 50) dX9_settingCanBecome_46 rfl ?_
        exact xr_iret dX9_settingCanBecome_50 rfl rfl (⟨congrArg (fun z => some (Value.int z)) (bI_t (by grind)).symm, rfl, rfl, rfl⟩)
  by_cases n4 : what = 4
  · subst n4
    refine xr_tableIn (tgt := 51) dX9_settingCanBecome_1 (by decide) (by decide) rfl rfl ?_
    refine xr_iload_n dX9_settingCanBecome_51 2 rfl ?_
    refine xr_iconst (v := 2) dX9_settingCanBecome_52 rfl ?_
    refine xr_icmp_lt (tgt := 66) dX9_settingCanBecome_53 rfl (fun c3 => ?_) (fun c3 => ?_)
    · refine xr_iconst (v := 0) dX9_settingCanBecome_66 rfl ?_
      exact xr_iret dX9_settingCanBecome_67 rfl rfl (⟨congrArg (fun z => some (Value.int z)) (bI_f (by grind)).symm, rfl, rfl, rfl⟩)
    · refine xr_iload_n dX9_settingCanBecome_56 2 rfl ?_
      refine xr_bipush (v := 24) dX9_settingCanBecome_57 rfl ?_
      refine xr_icmp_gt (tgt := 66) dX9_settingCanBecome_59 rfl (fun c4 => ?_) (fun c4 => ?_)
      · refine xr_iconst (v := 0) dX9_settingCanBecome_66 rfl ?_
        exact xr_iret dX9_settingCanBecome_67 rfl rfl (⟨congrArg (fun z => some (Value.int z)) (bI_f (by grind)).symm, rfl, rfl, rfl⟩)
      · refine xr_iconst (v := 1) dX9_settingCanBecome_62 rfl ?_
        refine xr_goto (tgt := 67) dX9_settingCanBecome_63 rfl ?_
        exact xr_iret dX9_settingCanBecome_67 rfl rfl (⟨congrArg (fun z => some (Value.int z)) (bI_t (by grind)).symm, rfl, rfl, rfl⟩)
  by_cases n5 : what = 5
  · subst n5
    refine xr_tableIn (tgt := 68) dX9_settingCanBecome_1 (by decide) (by decide) rfl rfl ?_
    refine xr_iload_n dX9_settingCanBecome_68 2 rfl ?_
    refine xr_if_lt (tgt := 87) dX9_settingCanBecome_69 rfl (fun c5 => ?_) (fun c5 => ?_)
    · refine xr_iconst (v := 0) dX9_settingCanBecome_87 rfl ?_
      exact xr_iret dX9_settingCanBecome_88 rfl rfl (⟨congrArg (fun z => some (Value.int z)) (bI_f (by grind)).symm, rfl, rfl, rfl⟩)
    · refine xr_iload_n dX9_settingCanBecome_72 2 rfl ?_
      refine xr_aload_n dX9_settingCanBecome_73 0 rfl ?_
      refine xr_getR flX9_28 dX9_settingCanBecome_74 s_0 rfl ?_
      refine xb_get (v := 6) flX9_202 dX9_settingCanBecome_77 s_13 rfl (by decide +kernel) ?_
      refine xr_icmp_ge (tgt := 87) dX9_settingCanBecome_80 rfl (fun c6 => ?_) (fun c6 => ?_)
      · refine xr_iconst (v := 0) dX9_settingCanBecome_87 rfl ?_
        exact xr_iret dX9_settingCanBecome_88 rfl rfl (⟨congrArg (fun z => some (Value.int z)) (bI_f (by grind)).symm, rfl, rfl, rfl⟩)
      · refine xr_iconst (v := 1) dX9_settingCanBecome_83 rfl ?_
        refine xr_goto (tgt := 88) dX9_settingCanBecome_84 rfl ?_
        exact xr_iret dX9_settingCanBecome_88 rfl rfl (⟨congrArg (fun z => some (Value.int z)) (bI_t (by grind)).symm, rfl, rfl, rfl⟩)
  by_cases n6 : what = 6
  · subst n6
    refine xr_tableIn (tgt := 89) dX9_settingCanBecome_1 (by decide) (by decide) rfl rfl ?_
    refine xr_iload_n dX9_settingCanBecome_89 2 rfl ?_
    refine xr_if_lt (tgt := 102) dX9_settingCanBecome_90 rfl (fun c7 => ?_) (fun c7 => ?_)
    · refine xr_iconst (v := 0) dX9_settingCanBecome_102 rfl ?_
      exact xr_iret dX9_settingCanBecome_103 rfl rfl (⟨congrArg (fun z => some (Value.int z)) (bI_f (by grind)).symm, rfl, rfl, rfl⟩)
    · refine xr_iload_n dX9_settingCanBecome_93 2 rfl ?_
      refine xr_iconst (v := 5) dX9_settingCanBecome_94 rfl ?_
      refine xr_icmp_gt (tgt := 102) dX9_settingCanBecome_95 rfl (fun c8 => ?_) (fun c8 => ?_)
      · refine xr_iconst (v := 0) dX9_settingCanBecome_102 rfl ?_
        exact xr_iret dX9_settingCanBecome_103 rfl rfl (⟨congrArg (fun z => some (Value.int z)) (bI_f (by grind)).symm, rfl, rfl, rfl⟩)
      · refine xr_iconst (v := 1) dX9_settingCanBecome_98 rfl ?_
        refine xr_goto (tgt := 103) dX9_settingCanBecome_99 rfl ?_
        exact xr_iret dX9_settingCanBecome_103 rfl rfl (⟨congrArg (fun z => some (Value.int z)) (bI_t (by grind)).symm, rfl, rfl, rfl⟩)
  by_cases n7 : what = 7
  · subst n7
    refine xr_tableIn (tgt := 104) dX9_settingCanBecome_1 (by decide) (by decide) rfl rfl ?_
    refine xr_iload_n dX9_settingCanBecome_104 2 rfl ?_
    refine xb_cS (As := [.int (v)]) (rest := []) mlX9_255 (c_X9_isSkill v) dX9_settingCanBecome_105 rfl rfl (Nat.le_of_ble_eq_true rfl) (by decide) (by decide) ?_
    exact xr_iret dX9_settingCanBecome_108 rfl (bI_n _) (⟨congrArg (fun z => some (Value.int z)) (x_bI_c (by grind)), rfl, rfl, rfl⟩)
  refine xr_tableOut (tgt := 109) dX9_settingCanBecome_1 (by have q3 := lv_neT (a := 3) n3 (by decide); have q4 := lv_neT (a := 4) n4 (by decide); have q5 := lv_neT (a := 5) n5 (by decide); have q6 := lv_neT (a := 6) n6 (by decide); have q7 := lv_neT (a := 7) n7 (by decide); omega) rfl ?_
  refine xr_iconst (v := 0) dX9_settingCanBecome_109 rfl ?_
  exact xr_iret dX9_settingCanBecome_110 rfl rfl (⟨congrArg (fun z => some (Value.int z)) (bI_f (by grind)).symm, rfl, rfl, rfl⟩)
set_option maxRecDepth 100000 in
set_option maxHeartbeats 4000000 in
theorem p_canBecome (number what v : Int32) {l : Launch} {G : xG}  : x_M l G fX9_canBecome 2 0 0 [.ref (0), .int (number), .int (what), .int (v)] x_SH z_M x_J0 (qE (some (.int (bI (number = 0 ∧ ((what = 3 ∧ 0 ≤ v ∧ v ≤ 3) ∨ (what = 4 ∧ 2 ≤ v ∧ v ≤ 24) ∨ (what = 5 ∧ 0 ≤ v ∧ v < 6) ∨ (what = 6 ∧ 0 ≤ v ∧ v ≤ 5) ∨ (what = 7 ∧ 0 ≤ v ∧ v ≤ 12)))))) x_SH z_M x_J0) := by
  refine xb_of pX9 (Nat.le_of_ble_eq_true rfl) rfl ?_
  refine xr_iload_n dX9_canBecome_0 2 rfl ?_
  refine xr_if_lt (tgt := 43) dX9_canBecome_1 rfl (fun c1 => ?_) (fun c1 => ?_)
  · refine xr_iload_n dX9_canBecome_43 1 rfl ?_
    refine xr_if_ne (tgt := 60) dX9_canBecome_44 rfl (fun c2 => ?_) (fun c2 => ?_)
    · refine xr_iconst (v := 0) dX9_canBecome_60 rfl ?_
      exact xr_iret dX9_canBecome_61 rfl rfl (⟨congrArg (fun z => some (Value.int z)) (bI_f (by grind)).symm, rfl, rfl, rfl⟩)
    · refine xr_aload_n dX9_canBecome_47 0 rfl ?_
      refine xr_iload_n dX9_canBecome_48 2 rfl ?_
      refine xr_iload_n dX9_canBecome_49 3 rfl ?_
      refine xb_cV (As := [.int (what), .int (v)]) (rest := []) mlX9_407 (p_setCan what v) dX9_canBecome_50 s_0 rfl rfl (Nat.le_of_ble_eq_true rfl) (by decide) (by decide) ?_
      refine xb_beq (tgt := 60) dX9_canBecome_53 rfl (fun c3 => ?_) (fun c3 => ?_)
      · refine xr_iconst (v := 0) dX9_canBecome_60 rfl ?_
        exact xr_iret dX9_canBecome_61 rfl rfl (⟨congrArg (fun z => some (Value.int z)) (bI_f (by grind)).symm, rfl, rfl, rfl⟩)
      · refine xr_iconst (v := 1) dX9_canBecome_56 rfl ?_
        refine xr_goto (tgt := 61) dX9_canBecome_57 rfl ?_
        exact xr_iret dX9_canBecome_61 rfl rfl (⟨congrArg (fun z => some (Value.int z)) (bI_t (by grind)).symm, rfl, rfl, rfl⟩)
  · refine xr_iload_n dX9_canBecome_4 2 rfl ?_
    refine xr_iconst (v := 2) dX9_canBecome_5 rfl ?_
    refine xr_icmp_gt (tgt := 43) dX9_canBecome_6 rfl (fun c4 => ?_) (fun c4 => ?_)
    · refine xr_iload_n dX9_canBecome_43 1 rfl ?_
      refine xr_if_ne (tgt := 60) dX9_canBecome_44 rfl (fun c5 => ?_) (fun c5 => ?_)
      · refine xr_iconst (v := 0) dX9_canBecome_60 rfl ?_
        exact xr_iret dX9_canBecome_61 rfl rfl (⟨congrArg (fun z => some (Value.int z)) (bI_f (by grind)).symm, rfl, rfl, rfl⟩)
      · refine xr_aload_n dX9_canBecome_47 0 rfl ?_
        refine xr_iload_n dX9_canBecome_48 2 rfl ?_
        refine xr_iload_n dX9_canBecome_49 3 rfl ?_
        refine xb_cV (As := [.int (what), .int (v)]) (rest := []) mlX9_407 (p_setCan what v) dX9_canBecome_50 s_0 rfl rfl (Nat.le_of_ble_eq_true rfl) (by decide) (by decide) ?_
        refine xb_beq (tgt := 60) dX9_canBecome_53 rfl (fun c6 => ?_) (fun c6 => ?_)
        · refine xr_iconst (v := 0) dX9_canBecome_60 rfl ?_
          exact xr_iret dX9_canBecome_61 rfl rfl (⟨congrArg (fun z => some (Value.int z)) (bI_f (by grind)).symm, rfl, rfl, rfl⟩)
        · refine xr_iconst (v := 1) dX9_canBecome_56 rfl ?_
          refine xr_goto (tgt := 61) dX9_canBecome_57 rfl ?_
          exact xr_iret dX9_canBecome_61 rfl rfl (⟨congrArg (fun z => some (Value.int z)) (bI_t (by grind)).symm, rfl, rfl, rfl⟩)
    · refine xr_aload_n dX9_canBecome_9 0 rfl ?_
      refine xr_getR flX9_28 dX9_canBecome_10 s_0 rfl ?_
      refine xr_iload_n dX9_canBecome_13 1 rfl ?_
      refine xb_cV (As := [.int (number)]) (rest := []) mlX9_118 (c_X5_has number s_13) dX9_canBecome_14 s_13 rfl rfl (Nat.le_of_ble_eq_true rfl) (by decide) (by decide) ?_
      refine xb_top (y := bI (0 ≤ number ∧ number < 0)) (x_bI_c (by rw [show z_M 13 2 = 0 from (by decide +kernel)])) ?_
      refine xb_beq (tgt := 41) dX9_canBecome_17 rfl (fun _ => ?_) (fun c => absurd c (by grind))
      refine xr_iconst (v := 0) dX9_canBecome_41 rfl ?_
      exact xr_iret dX9_canBecome_42 rfl rfl (⟨congrArg (fun z => some (Value.int z)) (bI_f (by grind)).symm, rfl, rfl, rfl⟩)
set_option maxRecDepth 100000 in
set_option maxHeartbeats 4000000 in
theorem p_settingOf_10 {l : Launch} {G : xG}  : x_M l G fX9_settingOf 0 0 0 [.ref (0), .int (10)] x_SH z_M x_J0 (qE (some (.int 1)) x_SH z_M x_J0) := by
  refine xb_of pX9 (Nat.le_of_ble_eq_true rfl) rfl ?_
  refine xr_iload_n dX9_settingOf_0 1 rfl ?_
  refine xr_tableIn (tgt := 40) dX9_settingOf_1 (by decide) (by decide) rfl rfl ?_
  refine xr_aload_n dX9_settingOf_40 0 rfl ?_
  refine xr_getR flX9_28 dX9_settingOf_41 s_0 rfl ?_
  refine xb_get (v := 1) flX9_410 dX9_settingOf_44 s_13 rfl (by decide +kernel) ?_
  exact xr_iret dX9_settingOf_47 rfl rfl (⟨by first | rfl | grind, rfl, rfl, rfl⟩)
set_option maxRecDepth 100000 in
set_option maxHeartbeats 4000000 in
theorem p_valueOf_3 (number : Int32) {l : Launch} {G : xG}  : x_M l G fX9_valueOf 1 0 0 [.ref (0), .int (number), .int (3)] x_SH z_M x_J0 (qE (some (.int 1)) x_SH z_M x_J0) := by
  refine xb_of pX9 (Nat.le_of_ble_eq_true rfl) rfl ?_
  refine xr_iload_n dX9_valueOf_0 2 rfl ?_
  refine xr_iconst (v := 2) dX9_valueOf_1 rfl ?_
  refine xr_icmp_gt (tgt := 35) dX9_valueOf_2 rfl (fun _ => ?_) (fun c => absurd (by decide) c)
  refine xr_aload_n dX9_valueOf_35 0 rfl ?_
  refine xr_iload_n dX9_valueOf_36 2 rfl ?_
  refine xr_bipush (v := 7) dX9_valueOf_37 rfl ?_
  refine xr_iadd dX9_valueOf_39 ?_
  refine xb_top (y := 10) (by decide) ?_
  refine xb_cV (As := [.int (10)]) (rest := []) mlX9_131 (p_settingOf_10) dX9_valueOf_40 s_0 rfl rfl (Nat.le_of_ble_eq_true rfl) (by decide) (by decide) ?_
  exact xr_iret dX9_valueOf_43 rfl rfl (⟨by first | rfl | grind, rfl, rfl, rfl⟩)
set_option maxRecDepth 100000 in
set_option maxHeartbeats 4000000 in
theorem p_lay_3 (number v : Int32) {l : Launch} {G : xG}  : x_M l G fX9_lay 0 0 0 [.ref (0), .int (number), .int (3), .int (v)] x_SH z_M x_J0 (qE (none) x_SH (x_up z_M 13 4 v) x_J0) := by
  refine xb_of pX9 (Nat.le_of_ble_eq_true rfl) rfl ?_
  refine xr_iload_n dX9_lay_0 2 rfl ?_
  refine xr_tableIn (tgt := 36) dX9_lay_1 (by decide) (by decide) rfl rfl ?_
  refine xr_aload_n dX9_lay_36 0 rfl ?_
  refine xr_getR flX9_28 dX9_lay_37 s_0 rfl ?_
  refine xr_iload_n dX9_lay_40 3 rfl ?_
  refine xr_putI fpX9_410 dX9_lay_41 s_13 rfl rfl rfl ?_
  refine xr_goto (tgt := 116) dX9_lay_44 rfl ?_
  exact xr_vret dX9_lay_116 rfl (⟨rfl, rfl, rfl, rfl⟩)
set_option maxRecDepth 100000 in
set_option maxHeartbeats 4000000 in
theorem p_settingOf_11 {l : Launch} {G : xG}  : x_M l G fX9_settingOf 0 0 0 [.ref (0), .int (11)] x_SH z_M x_J0 (qE (some (.int 6)) x_SH z_M x_J0) := by
  refine xb_of pX9 (Nat.le_of_ble_eq_true rfl) rfl ?_
  refine xr_iload_n dX9_settingOf_0 1 rfl ?_
  refine xr_tableIn (tgt := 48) dX9_settingOf_1 (by decide) (by decide) rfl rfl ?_
  refine xr_aload_n dX9_settingOf_48 0 rfl ?_
  refine xr_getR flX9_28 dX9_settingOf_49 s_0 rfl ?_
  refine xb_get (v := 6) flX9_202 dX9_settingOf_52 s_13 rfl (by decide +kernel) ?_
  exact xr_iret dX9_settingOf_55 rfl rfl (⟨by first | rfl | grind, rfl, rfl, rfl⟩)
set_option maxRecDepth 100000 in
set_option maxHeartbeats 4000000 in
theorem p_valueOf_4 (number : Int32) {l : Launch} {G : xG}  : x_M l G fX9_valueOf 1 0 0 [.ref (0), .int (number), .int (4)] x_SH z_M x_J0 (qE (some (.int 6)) x_SH z_M x_J0) := by
  refine xb_of pX9 (Nat.le_of_ble_eq_true rfl) rfl ?_
  refine xr_iload_n dX9_valueOf_0 2 rfl ?_
  refine xr_iconst (v := 2) dX9_valueOf_1 rfl ?_
  refine xr_icmp_gt (tgt := 35) dX9_valueOf_2 rfl (fun _ => ?_) (fun c => absurd (by decide) c)
  refine xr_aload_n dX9_valueOf_35 0 rfl ?_
  refine xr_iload_n dX9_valueOf_36 2 rfl ?_
  refine xr_bipush (v := 7) dX9_valueOf_37 rfl ?_
  refine xr_iadd dX9_valueOf_39 ?_
  refine xb_top (y := 11) (by decide) ?_
  refine xb_cV (As := [.int (11)]) (rest := []) mlX9_131 (p_settingOf_11) dX9_valueOf_40 s_0 rfl rfl (Nat.le_of_ble_eq_true rfl) (by decide) (by decide) ?_
  exact xr_iret dX9_valueOf_43 rfl rfl (⟨by first | rfl | grind, rfl, rfl, rfl⟩)
set_option maxRecDepth 100000 in
set_option maxHeartbeats 4000000 in
theorem p_lay_4 (number v : Int32) {l : Launch} {G : xG}  : x_M l G fX9_lay 0 0 0 [.ref (0), .int (number), .int (4), .int (v)] x_SH z_M x_J0 (qE (none) x_SH (x_up z_M 13 5 v) x_J0) := by
  refine xb_of pX9 (Nat.le_of_ble_eq_true rfl) rfl ?_
  refine xr_iload_n dX9_lay_0 2 rfl ?_
  refine xr_tableIn (tgt := 47) dX9_lay_1 (by decide) (by decide) rfl rfl ?_
  refine xr_aload_n dX9_lay_47 0 rfl ?_
  refine xr_getR flX9_28 dX9_lay_48 s_0 rfl ?_
  refine xr_iload_n dX9_lay_51 3 rfl ?_
  refine xr_putI fpX9_202 dX9_lay_52 s_13 rfl rfl rfl ?_
  refine xr_goto (tgt := 116) dX9_lay_55 rfl ?_
  exact xr_vret dX9_lay_116 rfl (⟨rfl, rfl, rfl, rfl⟩)
set_option maxRecDepth 100000 in
set_option maxHeartbeats 4000000 in
theorem p_settingOf_12 {l : Launch} {G : xG}  : x_M l G fX9_settingOf 0 0 0 [.ref (0), .int (12)] x_SH z_M x_J0 (qE (some (.int 0)) x_SH z_M x_J0) := by
  refine xb_of pX9 (Nat.le_of_ble_eq_true rfl) rfl ?_
  refine xr_iload_n dX9_settingOf_0 1 rfl ?_
  refine xr_tableIn (tgt := 56) dX9_settingOf_1 (by decide) (by decide) rfl rfl ?_
  refine xr_aload_n dX9_settingOf_56 0 rfl ?_
  refine xr_getR flX9_28 dX9_settingOf_57 s_0 rfl ?_
  refine xb_get (v := 0) flX9_205 dX9_settingOf_60 s_13 rfl (by decide +kernel) ?_
  exact xr_iret dX9_settingOf_63 rfl rfl (⟨by first | rfl | grind, rfl, rfl, rfl⟩)
set_option maxRecDepth 100000 in
set_option maxHeartbeats 4000000 in
theorem p_valueOf_5 (number : Int32) {l : Launch} {G : xG}  : x_M l G fX9_valueOf 1 0 0 [.ref (0), .int (number), .int (5)] x_SH z_M x_J0 (qE (some (.int 0)) x_SH z_M x_J0) := by
  refine xb_of pX9 (Nat.le_of_ble_eq_true rfl) rfl ?_
  refine xr_iload_n dX9_valueOf_0 2 rfl ?_
  refine xr_iconst (v := 2) dX9_valueOf_1 rfl ?_
  refine xr_icmp_gt (tgt := 35) dX9_valueOf_2 rfl (fun _ => ?_) (fun c => absurd (by decide) c)
  refine xr_aload_n dX9_valueOf_35 0 rfl ?_
  refine xr_iload_n dX9_valueOf_36 2 rfl ?_
  refine xr_bipush (v := 7) dX9_valueOf_37 rfl ?_
  refine xr_iadd dX9_valueOf_39 ?_
  refine xb_top (y := 12) (by decide) ?_
  refine xb_cV (As := [.int (12)]) (rest := []) mlX9_131 (p_settingOf_12) dX9_valueOf_40 s_0 rfl rfl (Nat.le_of_ble_eq_true rfl) (by decide) (by decide) ?_
  exact xr_iret dX9_valueOf_43 rfl rfl (⟨by first | rfl | grind, rfl, rfl, rfl⟩)
set_option maxRecDepth 100000 in
set_option maxHeartbeats 4000000 in
theorem p_lay_5 (number v : Int32) {l : Launch} {G : xG}  : x_M l G fX9_lay 0 0 0 [.ref (0), .int (number), .int (5), .int (v)] x_SH z_M x_J0 (qE (none) x_SH (x_up z_M 13 6 v) x_J0) := by
  refine xb_of pX9 (Nat.le_of_ble_eq_true rfl) rfl ?_
  refine xr_iload_n dX9_lay_0 2 rfl ?_
  refine xr_tableIn (tgt := 58) dX9_lay_1 (by decide) (by decide) rfl rfl ?_
  refine xr_aload_n dX9_lay_58 0 rfl ?_
  refine xr_getR flX9_28 dX9_lay_59 s_0 rfl ?_
  refine xr_iload_n dX9_lay_62 3 rfl ?_
  refine xr_putI fpX9_205 dX9_lay_63 s_13 rfl rfl rfl ?_
  refine xr_goto (tgt := 116) dX9_lay_66 rfl ?_
  exact xr_vret dX9_lay_116 rfl (⟨rfl, rfl, rfl, rfl⟩)
set_option maxRecDepth 100000 in
set_option maxHeartbeats 4000000 in
theorem p_settingOf_13 {l : Launch} {G : xG}  : x_M l G fX9_settingOf 0 0 0 [.ref (0), .int (13)] x_SH z_M x_J0 (qE (some (.int 2)) x_SH z_M x_J0) := by
  refine xb_of pX9 (Nat.le_of_ble_eq_true rfl) rfl ?_
  refine xr_iload_n dX9_settingOf_0 1 rfl ?_
  refine xr_tableIn (tgt := 64) dX9_settingOf_1 (by decide) (by decide) rfl rfl ?_
  refine xr_aload_n dX9_settingOf_64 0 rfl ?_
  refine xr_getR flX9_28 dX9_settingOf_65 s_0 rfl ?_
  refine xb_get (v := 2) flX9_208 dX9_settingOf_68 s_13 rfl (by decide +kernel) ?_
  exact xr_iret dX9_settingOf_71 rfl rfl (⟨by first | rfl | grind, rfl, rfl, rfl⟩)
set_option maxRecDepth 100000 in
set_option maxHeartbeats 4000000 in
theorem p_valueOf_6 (number : Int32) {l : Launch} {G : xG}  : x_M l G fX9_valueOf 1 0 0 [.ref (0), .int (number), .int (6)] x_SH z_M x_J0 (qE (some (.int 2)) x_SH z_M x_J0) := by
  refine xb_of pX9 (Nat.le_of_ble_eq_true rfl) rfl ?_
  refine xr_iload_n dX9_valueOf_0 2 rfl ?_
  refine xr_iconst (v := 2) dX9_valueOf_1 rfl ?_
  refine xr_icmp_gt (tgt := 35) dX9_valueOf_2 rfl (fun _ => ?_) (fun c => absurd (by decide) c)
  refine xr_aload_n dX9_valueOf_35 0 rfl ?_
  refine xr_iload_n dX9_valueOf_36 2 rfl ?_
  refine xr_bipush (v := 7) dX9_valueOf_37 rfl ?_
  refine xr_iadd dX9_valueOf_39 ?_
  refine xb_top (y := 13) (by decide) ?_
  refine xb_cV (As := [.int (13)]) (rest := []) mlX9_131 (p_settingOf_13) dX9_valueOf_40 s_0 rfl rfl (Nat.le_of_ble_eq_true rfl) (by decide) (by decide) ?_
  exact xr_iret dX9_valueOf_43 rfl rfl (⟨by first | rfl | grind, rfl, rfl, rfl⟩)
set_option maxRecDepth 100000 in
set_option maxHeartbeats 4000000 in
theorem p_lay_6 (number v : Int32) {l : Launch} {G : xG}  : x_M l G fX9_lay 0 0 0 [.ref (0), .int (number), .int (6), .int (v)] x_SH z_M x_J0 (qE (none) x_SH (x_up z_M 13 7 v) x_J0) := by
  refine xb_of pX9 (Nat.le_of_ble_eq_true rfl) rfl ?_
  refine xr_iload_n dX9_lay_0 2 rfl ?_
  refine xr_tableIn (tgt := 69) dX9_lay_1 (by decide) (by decide) rfl rfl ?_
  refine xr_aload_n dX9_lay_69 0 rfl ?_
  refine xr_getR flX9_28 dX9_lay_70 s_0 rfl ?_
  refine xr_iload_n dX9_lay_73 3 rfl ?_
  refine xr_putI fpX9_208 dX9_lay_74 s_13 rfl rfl rfl ?_
  refine xr_goto (tgt := 116) dX9_lay_77 rfl ?_
  exact xr_vret dX9_lay_116 rfl (⟨rfl, rfl, rfl, rfl⟩)
set_option maxRecDepth 100000 in
set_option maxHeartbeats 4000000 in
theorem p_settingOf_14 {l : Launch} {G : xG}  : x_M l G fX9_settingOf 0 0 0 [.ref (0), .int (14)] x_SH z_M x_J0 (qE (some (.int 1)) x_SH z_M x_J0) := by
  refine xb_of pX9 (Nat.le_of_ble_eq_true rfl) rfl ?_
  refine xr_iload_n dX9_settingOf_0 1 rfl ?_
  refine xr_tableIn (tgt := 72) dX9_settingOf_1 (by decide) (by decide) rfl rfl ?_
  refine xr_aload_n dX9_settingOf_72 0 rfl ?_
  refine xr_getR flX9_47 dX9_settingOf_73 s_0 rfl ?_
  refine xb_get (v := 1) flX9_413 dX9_settingOf_76 s_35 rfl (by decide +kernel) ?_
  exact xr_iret dX9_settingOf_79 rfl rfl (⟨by first | rfl | grind, rfl, rfl, rfl⟩)
set_option maxRecDepth 100000 in
set_option maxHeartbeats 4000000 in
theorem p_valueOf_7 (number : Int32) {l : Launch} {G : xG}  : x_M l G fX9_valueOf 1 0 0 [.ref (0), .int (number), .int (7)] x_SH z_M x_J0 (qE (some (.int 1)) x_SH z_M x_J0) := by
  refine xb_of pX9 (Nat.le_of_ble_eq_true rfl) rfl ?_
  refine xr_iload_n dX9_valueOf_0 2 rfl ?_
  refine xr_iconst (v := 2) dX9_valueOf_1 rfl ?_
  refine xr_icmp_gt (tgt := 35) dX9_valueOf_2 rfl (fun _ => ?_) (fun c => absurd (by decide) c)
  refine xr_aload_n dX9_valueOf_35 0 rfl ?_
  refine xr_iload_n dX9_valueOf_36 2 rfl ?_
  refine xr_bipush (v := 7) dX9_valueOf_37 rfl ?_
  refine xr_iadd dX9_valueOf_39 ?_
  refine xb_top (y := 14) (by decide) ?_
  refine xb_cV (As := [.int (14)]) (rest := []) mlX9_131 (p_settingOf_14) dX9_valueOf_40 s_0 rfl rfl (Nat.le_of_ble_eq_true rfl) (by decide) (by decide) ?_
  exact xr_iret dX9_valueOf_43 rfl rfl (⟨by first | rfl | grind, rfl, rfl, rfl⟩)
set_option maxRecDepth 100000 in
set_option maxHeartbeats 4000000 in
theorem p_lay_7 (number v : Int32) {l : Launch} {G : xG}  : x_M l G fX9_lay 0 0 0 [.ref (0), .int (number), .int (7), .int (v)] x_SH z_M x_J0 (qE (none) x_SH (x_up z_M 35 5 v) x_J0) := by
  refine xb_of pX9 (Nat.le_of_ble_eq_true rfl) rfl ?_
  refine xr_iload_n dX9_lay_0 2 rfl ?_
  refine xr_tableIn (tgt := 80) dX9_lay_1 (by decide) (by decide) rfl rfl ?_
  refine xr_aload_n dX9_lay_80 0 rfl ?_
  refine xr_getR flX9_47 dX9_lay_81 s_0 rfl ?_
  refine xr_iload_n dX9_lay_84 3 rfl ?_
  refine xr_putI fpX9_413 dX9_lay_85 s_35 rfl rfl rfl ?_
  refine xr_goto (tgt := 116) dX9_lay_88 rfl ?_
  exact xr_vret dX9_lay_116 rfl (⟨rfl, rfl, rfl, rfl⟩)
set_option maxRecDepth 100000 in
set_option maxHeartbeats 4000000 in
theorem p_note {M : xM} (a b c d : Int32) (hM : M 41 4 = 0) (hF : Fr M) {l : Launch} {G : xG}  : x_M l G fX0_note 0 0 0 [.ref (41), .int (a), .int (b), .int (c), .int (d)] x_SH M x_J0 (qF none) := by
  refine xb_of pX0 (Nat.le_of_ble_eq_true rfl) rfl ?_
  refine xr_aload_n dX0_note_0 0 rfl ?_
  refine xb_get (v := 0) flX0_22 dX0_note_1 s_41 rfl hM ?_
  refine xr_bipush (v := 40) dX0_note_4 rfl ?_
  refine xr_icmp_lt (tgt := 13) dX0_note_6 rfl (fun _ => ?_) (fun c => absurd (by decide) c)
  refine xr_aload_n dX0_note_13 0 rfl ?_
  refine xr_getR flX0_9 dX0_note_14 s_41 rfl ?_
  refine xr_aload_n dX0_note_17 0 rfl ?_
  refine xb_get (v := 0) flX0_22 dX0_note_18 s_41 rfl hM ?_
  refine xr_iload_n dX0_note_21 1 rfl ?_
  refine xb_iast (j := 0) dX0_note_22 s_42 (by decide) (by decide) ?_
  refine xr_aload_n dX0_note_23 0 rfl ?_
  refine xr_getR flX0_13 dX0_note_24 s_41 rfl ?_
  refine xr_aload_n dX0_note_27 0 rfl ?_
  refine xb_get (v := 0) flX0_22 dX0_note_28 s_41 rfl (Eq.trans (congrFun (x_up_n _ _ _ (by decide)) _) hM) ?_
  refine xr_iload_n dX0_note_31 2 rfl ?_
  refine xb_iast (j := 0) dX0_note_32 s_43 (by decide) (by decide) ?_
  refine xr_aload_n dX0_note_33 0 rfl ?_
  refine xr_getR flX0_16 dX0_note_34 s_41 rfl ?_
  refine xr_aload_n dX0_note_37 0 rfl ?_
  refine xb_get (v := 0) flX0_22 dX0_note_38 s_41 rfl (Eq.trans (congrFun (x_up_n _ _ _ (by decide)) _) (Eq.trans (congrFun (x_up_n _ _ _ (by decide)) _) hM)) ?_
  refine xr_iload_n dX0_note_41 3 rfl ?_
  refine xb_iast (j := 0) dX0_note_42 s_44 (by decide) (by decide) ?_
  refine xr_aload_n dX0_note_43 0 rfl ?_
  refine xr_getR flX0_19 dX0_note_44 s_41 rfl ?_
  refine xr_aload_n dX0_note_47 0 rfl ?_
  refine xb_get (v := 0) flX0_22 dX0_note_48 s_41 rfl (Eq.trans (congrFun (x_up_n _ _ _ (by decide)) _) (Eq.trans (congrFun (x_up_n _ _ _ (by decide)) _) (Eq.trans (congrFun (x_up_n _ _ _ (by decide)) _) hM))) ?_
  refine xr_iload dX0_note_51 4 rfl ?_
  refine xb_iast (j := 0) dX0_note_53 s_45 (by decide) (by decide) ?_
  refine xr_aload_n dX0_note_54 0 rfl ?_
  refine xr_dup dX0_note_55 rfl ?_
  refine xb_get (v := 0) flX0_22 dX0_note_56 s_41 rfl (Eq.trans (congrFun (x_up_n _ _ _ (by decide)) _) (Eq.trans (congrFun (x_up_n _ _ _ (by decide)) _) (Eq.trans (congrFun (x_up_n _ _ _ (by decide)) _) (Eq.trans (congrFun (x_up_n _ _ _ (by decide)) _) hM)))) ?_
  refine xr_iconst (v := 1) dX0_note_59 rfl ?_
  refine xr_iadd dX0_note_60 ?_
  refine xb_top (y := 1) (by decide) ?_
  refine xr_putI fpX0_22 dX0_note_61 s_41 rfl rfl rfl ?_
  refine xr_aload_n dX0_note_64 0 rfl ?_
  refine xr_aload_n dX0_note_65 0 rfl ?_
  refine xb_get (v := 1) flX0_22 dX0_note_66 s_41 rfl (x_up_s _ _ _ _) ?_
  refine xr_putI fpX0_29 dX0_note_69 s_41 rfl rfl rfl ?_
  exact xr_vret dX0_note_72 rfl (⟨rfl, rfl, by repeat (first | (with_reducible assumption) | (with_reducible exact Fr_z) | (with_reducible exact E0_fr (by assumption)) | ((with_reducible refine Fr_up ?_ ?_); first | decide | omega))⟩)
set_option maxRecDepth 100000 in
set_option maxHeartbeats 4000000 in
theorem p_X9_mend (number what v : Int32) {l : Launch} {G : xG}  : x_M l G fX9_mend 4 0 0 [.ref (0), .int (number), .int (what), .int (v)] x_SH z_M x_J0 (qF (some (.int (if number = 0 ∧ ((what = 3 ∧ 0 ≤ v ∧ v ≤ 3) ∨ (what = 4 ∧ 2 ≤ v ∧ v ≤ 24) ∨ (what = 5 ∧ 0 ≤ v ∧ v < 6) ∨ (what = 6 ∧ 0 ≤ v ∧ v ≤ 5) ∨ (what = 7 ∧ 0 ≤ v ∧ v ≤ 12)) then (if what = 3 then 1 else if what = 4 then 6 else if what = 5 then 0 else if what = 6 then 2 else 1) else -2000000000)))) := by
  refine xb_of pX9 (Nat.le_of_ble_eq_true rfl) rfl ?_
  refine xr_aload_n dX9_mend_0 0 rfl ?_
  refine xr_iload_n dX9_mend_1 1 rfl ?_
  refine xr_iload_n dX9_mend_2 2 rfl ?_
  refine xr_iload_n dX9_mend_3 3 rfl ?_
  refine xb_cV (As := [.int (number), .int (what), .int (v)]) (rest := []) mlX9_101 (p_canBecome number what v) dX9_mend_4 s_0 rfl rfl (Nat.le_of_ble_eq_true rfl) (by decide) (by decide) ?_
  refine xb_bne (tgt := 13) dX9_mend_7 rfl (fun c1 => ?_) (fun c1 => ?_)
  · obtain ⟨rfl, hS⟩ := c1
    rcases hS with ⟨rfl, h1, h2⟩ | ⟨rfl, h1, h2⟩ | ⟨rfl, h1, h2⟩ | ⟨rfl, h1, h2⟩ | ⟨rfl, h1, h2⟩
    · refine xr_aload_n dX9_mend_13 0 rfl ?_
      refine xr_iload_n dX9_mend_14 1 rfl ?_
      refine xr_iload_n dX9_mend_15 2 rfl ?_
      refine xb_cV (As := [.int (0), .int (3)]) (rest := []) mlX9_106 (p_valueOf_3 0) dX9_mend_16 s_0 rfl rfl (Nat.le_of_ble_eq_true rfl) (by decide) (by decide) ?_
      refine xr_istore (ls2 := [(4, .int (1)), (0, .ref (0)), (1, .int (0)), (2, .int (3)), (3, .int (v))]) dX9_mend_19 (by decide) rfl ?_
      refine xr_iload dX9_mend_21 0 rfl ?_
      refine xr_iload_n dX9_mend_23 4 rfl ?_
      refine xr_icmp_eq (tgt := 46) dX9_mend_24 rfl (fun c2 => ?_) (fun c2 => ?_)
      · refine xr_iload dX9_mend_46 0 rfl ?_
        exact xr_iret dX9_mend_48 rfl rfl (⟨by first | rfl | (refine congrArg (fun z => some (Value.int z)) ?_; first | exact (if_neg (by assumption)).symm | exact (if_pos (by assumption)).symm | grind), rfl, by repeat (first | (with_reducible assumption) | (with_reducible exact Fr_z) | (with_reducible exact E0_fr (by assumption)) | ((with_reducible refine Fr_up ?_ ?_); first | decide | omega))⟩)
      · refine xr_aload_n dX9_mend_27 1 rfl ?_
        refine xr_iload_n dX9_mend_28 2 rfl ?_
        refine xr_iload_n dX9_mend_29 3 rfl ?_
        refine xr_iload_n dX9_mend_30 4 rfl ?_
        refine xb_cV (As := [.int (0), .int (3), .int (v)]) (rest := []) mlX9_110 (p_lay_3 0 v) dX9_mend_31 s_0 rfl rfl (Nat.le_of_ble_eq_true rfl) (by decide) (by decide) ?_
        refine xr_aload_n dX9_mend_34 1 rfl ?_
        refine xr_getR flX9_54 dX9_mend_35 s_0 rfl ?_
        refine xr_iload_n dX9_mend_38 2 rfl ?_
        refine xr_iload_n dX9_mend_39 3 rfl ?_
        refine xr_iload dX9_mend_40 0 rfl ?_
        refine xr_iload_n dX9_mend_42 4 rfl ?_
        refine xr_callV (As := [.int (0), .int (3), .int (1), .int (v)]) (rest := []) mlX9_114 (p_note 0 3 1 v (Eq.trans (congrFun (x_up_n _ _ _ (by decide)) _) (by decide +kernel)) (by repeat (first | (with_reducible assumption) | (with_reducible exact Fr_z) | (with_reducible exact E0_fr (by assumption)) | ((with_reducible refine Fr_up ?_ ?_); first | decide | omega)))) dX9_mend_43 s_41 rfl rfl (Nat.le_of_ble_eq_true rfl) (by decide) ⟨by decide, by decide⟩ (fun v s2 M3 J2 hq => ?_)
        obtain ⟨rfl, rfl, f4⟩ := hq
        try dsimp only [Option.toList, List.cons_append, List.nil_append]
        refine xr_iload dX9_mend_46 0 rfl ?_
        exact xr_iret dX9_mend_48 rfl rfl (⟨by first | rfl | (refine congrArg (fun z => some (Value.int z)) ?_; first | exact (if_neg (by assumption)).symm | exact (if_pos (by assumption)).symm | grind), rfl, by repeat (first | (with_reducible assumption) | (with_reducible exact Fr_z) | (with_reducible exact E0_fr (by assumption)) | ((with_reducible refine Fr_up ?_ ?_); first | decide | omega))⟩)
    · refine xr_aload_n dX9_mend_13 0 rfl ?_
      refine xr_iload_n dX9_mend_14 1 rfl ?_
      refine xr_iload_n dX9_mend_15 2 rfl ?_
      refine xb_cV (As := [.int (0), .int (4)]) (rest := []) mlX9_106 (p_valueOf_4 0) dX9_mend_16 s_0 rfl rfl (Nat.le_of_ble_eq_true rfl) (by decide) (by decide) ?_
      refine xr_istore (ls2 := [(4, .int (6)), (0, .ref (0)), (1, .int (0)), (2, .int (4)), (3, .int (v))]) dX9_mend_19 (by decide) rfl ?_
      refine xr_iload dX9_mend_21 0 rfl ?_
      refine xr_iload_n dX9_mend_23 4 rfl ?_
      refine xr_icmp_eq (tgt := 46) dX9_mend_24 rfl (fun c5 => ?_) (fun c5 => ?_)
      · refine xr_iload dX9_mend_46 0 rfl ?_
        exact xr_iret dX9_mend_48 rfl rfl (⟨by first | rfl | (refine congrArg (fun z => some (Value.int z)) ?_; first | exact (if_neg (by assumption)).symm | exact (if_pos (by assumption)).symm | grind), rfl, by repeat (first | (with_reducible assumption) | (with_reducible exact Fr_z) | (with_reducible exact E0_fr (by assumption)) | ((with_reducible refine Fr_up ?_ ?_); first | decide | omega))⟩)
      · refine xr_aload_n dX9_mend_27 1 rfl ?_
        refine xr_iload_n dX9_mend_28 2 rfl ?_
        refine xr_iload_n dX9_mend_29 3 rfl ?_
        refine xr_iload_n dX9_mend_30 4 rfl ?_
        refine xb_cV (As := [.int (0), .int (4), .int (v)]) (rest := []) mlX9_110 (p_lay_4 0 v) dX9_mend_31 s_0 rfl rfl (Nat.le_of_ble_eq_true rfl) (by decide) (by decide) ?_
        refine xr_aload_n dX9_mend_34 1 rfl ?_
        refine xr_getR flX9_54 dX9_mend_35 s_0 rfl ?_
        refine xr_iload_n dX9_mend_38 2 rfl ?_
        refine xr_iload_n dX9_mend_39 3 rfl ?_
        refine xr_iload dX9_mend_40 0 rfl ?_
        refine xr_iload_n dX9_mend_42 4 rfl ?_
        refine xr_callV (As := [.int (0), .int (4), .int (6), .int (v)]) (rest := []) mlX9_114 (p_note 0 4 6 v (Eq.trans (congrFun (x_up_n _ _ _ (by decide)) _) (by decide +kernel)) (by repeat (first | (with_reducible assumption) | (with_reducible exact Fr_z) | (with_reducible exact E0_fr (by assumption)) | ((with_reducible refine Fr_up ?_ ?_); first | decide | omega)))) dX9_mend_43 s_41 rfl rfl (Nat.le_of_ble_eq_true rfl) (by decide) ⟨by decide, by decide⟩ (fun v s2 M6 J2 hq => ?_)
        obtain ⟨rfl, rfl, f7⟩ := hq
        try dsimp only [Option.toList, List.cons_append, List.nil_append]
        refine xr_iload dX9_mend_46 0 rfl ?_
        exact xr_iret dX9_mend_48 rfl rfl (⟨by first | rfl | (refine congrArg (fun z => some (Value.int z)) ?_; first | exact (if_neg (by assumption)).symm | exact (if_pos (by assumption)).symm | grind), rfl, by repeat (first | (with_reducible assumption) | (with_reducible exact Fr_z) | (with_reducible exact E0_fr (by assumption)) | ((with_reducible refine Fr_up ?_ ?_); first | decide | omega))⟩)
    · refine xr_aload_n dX9_mend_13 0 rfl ?_
      refine xr_iload_n dX9_mend_14 1 rfl ?_
      refine xr_iload_n dX9_mend_15 2 rfl ?_
      refine xb_cV (As := [.int (0), .int (5)]) (rest := []) mlX9_106 (p_valueOf_5 0) dX9_mend_16 s_0 rfl rfl (Nat.le_of_ble_eq_true rfl) (by decide) (by decide) ?_
      refine xr_istore (ls2 := [(4, .int (0)), (0, .ref (0)), (1, .int (0)), (2, .int (5)), (3, .int (v))]) dX9_mend_19 (by decide) rfl ?_
      refine xr_iload dX9_mend_21 0 rfl ?_
      refine xr_iload_n dX9_mend_23 4 rfl ?_
      refine xr_icmp_eq (tgt := 46) dX9_mend_24 rfl (fun c8 => ?_) (fun c8 => ?_)
      · refine xr_iload dX9_mend_46 0 rfl ?_
        exact xr_iret dX9_mend_48 rfl rfl (⟨by first | rfl | (refine congrArg (fun z => some (Value.int z)) ?_; first | exact (if_neg (by assumption)).symm | exact (if_pos (by assumption)).symm | grind), rfl, by repeat (first | (with_reducible assumption) | (with_reducible exact Fr_z) | (with_reducible exact E0_fr (by assumption)) | ((with_reducible refine Fr_up ?_ ?_); first | decide | omega))⟩)
      · refine xr_aload_n dX9_mend_27 1 rfl ?_
        refine xr_iload_n dX9_mend_28 2 rfl ?_
        refine xr_iload_n dX9_mend_29 3 rfl ?_
        refine xr_iload_n dX9_mend_30 4 rfl ?_
        refine xb_cV (As := [.int (0), .int (5), .int (v)]) (rest := []) mlX9_110 (p_lay_5 0 v) dX9_mend_31 s_0 rfl rfl (Nat.le_of_ble_eq_true rfl) (by decide) (by decide) ?_
        refine xr_aload_n dX9_mend_34 1 rfl ?_
        refine xr_getR flX9_54 dX9_mend_35 s_0 rfl ?_
        refine xr_iload_n dX9_mend_38 2 rfl ?_
        refine xr_iload_n dX9_mend_39 3 rfl ?_
        refine xr_iload dX9_mend_40 0 rfl ?_
        refine xr_iload_n dX9_mend_42 4 rfl ?_
        refine xr_callV (As := [.int (0), .int (5), .int (0), .int (v)]) (rest := []) mlX9_114 (p_note 0 5 0 v (Eq.trans (congrFun (x_up_n _ _ _ (by decide)) _) (by decide +kernel)) (by repeat (first | (with_reducible assumption) | (with_reducible exact Fr_z) | (with_reducible exact E0_fr (by assumption)) | ((with_reducible refine Fr_up ?_ ?_); first | decide | omega)))) dX9_mend_43 s_41 rfl rfl (Nat.le_of_ble_eq_true rfl) (by decide) ⟨by decide, by decide⟩ (fun v s2 M9 J2 hq => ?_)
        obtain ⟨rfl, rfl, f10⟩ := hq
        try dsimp only [Option.toList, List.cons_append, List.nil_append]
        refine xr_iload dX9_mend_46 0 rfl ?_
        exact xr_iret dX9_mend_48 rfl rfl (⟨by first | rfl | (refine congrArg (fun z => some (Value.int z)) ?_; first | exact (if_neg (by assumption)).symm | exact (if_pos (by assumption)).symm | grind), rfl, by repeat (first | (with_reducible assumption) | (with_reducible exact Fr_z) | (with_reducible exact E0_fr (by assumption)) | ((with_reducible refine Fr_up ?_ ?_); first | decide | omega))⟩)
    · refine xr_aload_n dX9_mend_13 0 rfl ?_
      refine xr_iload_n dX9_mend_14 1 rfl ?_
      refine xr_iload_n dX9_mend_15 2 rfl ?_
      refine xb_cV (As := [.int (0), .int (6)]) (rest := []) mlX9_106 (p_valueOf_6 0) dX9_mend_16 s_0 rfl rfl (Nat.le_of_ble_eq_true rfl) (by decide) (by decide) ?_
      refine xr_istore (ls2 := [(4, .int (2)), (0, .ref (0)), (1, .int (0)), (2, .int (6)), (3, .int (v))]) dX9_mend_19 (by decide) rfl ?_
      refine xr_iload dX9_mend_21 0 rfl ?_
      refine xr_iload_n dX9_mend_23 4 rfl ?_
      refine xr_icmp_eq (tgt := 46) dX9_mend_24 rfl (fun c11 => ?_) (fun c11 => ?_)
      · refine xr_iload dX9_mend_46 0 rfl ?_
        exact xr_iret dX9_mend_48 rfl rfl (⟨by first | rfl | (refine congrArg (fun z => some (Value.int z)) ?_; first | exact (if_neg (by assumption)).symm | exact (if_pos (by assumption)).symm | grind), rfl, by repeat (first | (with_reducible assumption) | (with_reducible exact Fr_z) | (with_reducible exact E0_fr (by assumption)) | ((with_reducible refine Fr_up ?_ ?_); first | decide | omega))⟩)
      · refine xr_aload_n dX9_mend_27 1 rfl ?_
        refine xr_iload_n dX9_mend_28 2 rfl ?_
        refine xr_iload_n dX9_mend_29 3 rfl ?_
        refine xr_iload_n dX9_mend_30 4 rfl ?_
        refine xb_cV (As := [.int (0), .int (6), .int (v)]) (rest := []) mlX9_110 (p_lay_6 0 v) dX9_mend_31 s_0 rfl rfl (Nat.le_of_ble_eq_true rfl) (by decide) (by decide) ?_
        refine xr_aload_n dX9_mend_34 1 rfl ?_
        refine xr_getR flX9_54 dX9_mend_35 s_0 rfl ?_
        refine xr_iload_n dX9_mend_38 2 rfl ?_
        refine xr_iload_n dX9_mend_39 3 rfl ?_
        refine xr_iload dX9_mend_40 0 rfl ?_
        refine xr_iload_n dX9_mend_42 4 rfl ?_
        refine xr_callV (As := [.int (0), .int (6), .int (2), .int (v)]) (rest := []) mlX9_114 (p_note 0 6 2 v (Eq.trans (congrFun (x_up_n _ _ _ (by decide)) _) (by decide +kernel)) (by repeat (first | (with_reducible assumption) | (with_reducible exact Fr_z) | (with_reducible exact E0_fr (by assumption)) | ((with_reducible refine Fr_up ?_ ?_); first | decide | omega)))) dX9_mend_43 s_41 rfl rfl (Nat.le_of_ble_eq_true rfl) (by decide) ⟨by decide, by decide⟩ (fun v s2 M12 J2 hq => ?_)
        obtain ⟨rfl, rfl, f13⟩ := hq
        try dsimp only [Option.toList, List.cons_append, List.nil_append]
        refine xr_iload dX9_mend_46 0 rfl ?_
        exact xr_iret dX9_mend_48 rfl rfl (⟨by first | rfl | (refine congrArg (fun z => some (Value.int z)) ?_; first | exact (if_neg (by assumption)).symm | exact (if_pos (by assumption)).symm | grind), rfl, by repeat (first | (with_reducible assumption) | (with_reducible exact Fr_z) | (with_reducible exact E0_fr (by assumption)) | ((with_reducible refine Fr_up ?_ ?_); first | decide | omega))⟩)
    · refine xr_aload_n dX9_mend_13 0 rfl ?_
      refine xr_iload_n dX9_mend_14 1 rfl ?_
      refine xr_iload_n dX9_mend_15 2 rfl ?_
      refine xb_cV (As := [.int (0), .int (7)]) (rest := []) mlX9_106 (p_valueOf_7 0) dX9_mend_16 s_0 rfl rfl (Nat.le_of_ble_eq_true rfl) (by decide) (by decide) ?_
      refine xr_istore (ls2 := [(4, .int (1)), (0, .ref (0)), (1, .int (0)), (2, .int (7)), (3, .int (v))]) dX9_mend_19 (by decide) rfl ?_
      refine xr_iload dX9_mend_21 0 rfl ?_
      refine xr_iload_n dX9_mend_23 4 rfl ?_
      refine xr_icmp_eq (tgt := 46) dX9_mend_24 rfl (fun c14 => ?_) (fun c14 => ?_)
      · refine xr_iload dX9_mend_46 0 rfl ?_
        exact xr_iret dX9_mend_48 rfl rfl (⟨by first | rfl | (refine congrArg (fun z => some (Value.int z)) ?_; first | exact (if_neg (by assumption)).symm | exact (if_pos (by assumption)).symm | grind), rfl, by repeat (first | (with_reducible assumption) | (with_reducible exact Fr_z) | (with_reducible exact E0_fr (by assumption)) | ((with_reducible refine Fr_up ?_ ?_); first | decide | omega))⟩)
      · refine xr_aload_n dX9_mend_27 1 rfl ?_
        refine xr_iload_n dX9_mend_28 2 rfl ?_
        refine xr_iload_n dX9_mend_29 3 rfl ?_
        refine xr_iload_n dX9_mend_30 4 rfl ?_
        refine xb_cV (As := [.int (0), .int (7), .int (v)]) (rest := []) mlX9_110 (p_lay_7 0 v) dX9_mend_31 s_0 rfl rfl (Nat.le_of_ble_eq_true rfl) (by decide) (by decide) ?_
        refine xr_aload_n dX9_mend_34 1 rfl ?_
        refine xr_getR flX9_54 dX9_mend_35 s_0 rfl ?_
        refine xr_iload_n dX9_mend_38 2 rfl ?_
        refine xr_iload_n dX9_mend_39 3 rfl ?_
        refine xr_iload dX9_mend_40 0 rfl ?_
        refine xr_iload_n dX9_mend_42 4 rfl ?_
        refine xr_callV (As := [.int (0), .int (7), .int (1), .int (v)]) (rest := []) mlX9_114 (p_note 0 7 1 v (Eq.trans (congrFun (x_up_n _ _ _ (by decide)) _) (by decide +kernel)) (by repeat (first | (with_reducible assumption) | (with_reducible exact Fr_z) | (with_reducible exact E0_fr (by assumption)) | ((with_reducible refine Fr_up ?_ ?_); first | decide | omega)))) dX9_mend_43 s_41 rfl rfl (Nat.le_of_ble_eq_true rfl) (by decide) ⟨by decide, by decide⟩ (fun v s2 M15 J2 hq => ?_)
        obtain ⟨rfl, rfl, f16⟩ := hq
        try dsimp only [Option.toList, List.cons_append, List.nil_append]
        refine xr_iload dX9_mend_46 0 rfl ?_
        exact xr_iret dX9_mend_48 rfl rfl (⟨by first | rfl | (refine congrArg (fun z => some (Value.int z)) ?_; first | exact (if_neg (by assumption)).symm | exact (if_pos (by assumption)).symm | grind), rfl, by repeat (first | (with_reducible assumption) | (with_reducible exact Fr_z) | (with_reducible exact E0_fr (by assumption)) | ((with_reducible refine Fr_up ?_ ?_); first | decide | omega))⟩)
  · refine xr_ldc coX9_105 dX9_mend_10 ?_
    exact xr_iret dX9_mend_12 rfl rfl (⟨by first | rfl | (refine congrArg (fun z => some (Value.int z)) ?_; first | exact (if_neg (by assumption)).symm | exact (if_pos (by assumption)).symm | grind), rfl, by repeat (first | (with_reducible assumption) | (with_reducible exact Fr_z) | (with_reducible exact E0_fr (by assumption)) | ((with_reducible refine Fr_up ?_ ?_); first | decide | omega))⟩)
set_option maxRecDepth 100000 in
set_option maxHeartbeats 4000000 in
theorem p_X9_beatFor (what : Int32) {l : Launch} {G : xG}  : x_M l G fX9_beatFor 4 0 0 [.ref (0), .int (what)] x_SH z_M x_J0 (qF (some (.int (if 0 ≤ what ∧ what ≤ 1 then 200 else -1)))) := by
  refine xb_of pX9 (Nat.le_of_ble_eq_true rfl) rfl ?_
  refine xr_iload_n dX9_beatFor_0 1 rfl ?_
  refine xr_if_lt (tgt := 9) dX9_beatFor_1 rfl (fun c1 => ?_) (fun c1 => ?_)
  · refine xr_iconst (v := -1) dX9_beatFor_9 rfl ?_
    exact xr_iret dX9_beatFor_10 rfl rfl (⟨by first | rfl | (refine congrArg (fun z => some (Value.int z)) ?_; first | exact (if_neg (by assumption)).symm | exact (if_pos (by assumption)).symm | grind), rfl, by repeat (first | (with_reducible assumption) | (with_reducible exact Fr_z) | (with_reducible exact E0_fr (by assumption)) | ((with_reducible refine Fr_up ?_ ?_); first | decide | omega))⟩)
  · refine xr_iload_n dX9_beatFor_4 1 rfl ?_
    refine xr_iconst (v := 1) dX9_beatFor_5 rfl ?_
    refine xr_icmp_le (tgt := 11) dX9_beatFor_6 rfl (fun c2 => ?_) (fun c2 => ?_)
    · refine xr_iconst (v := -1) dX9_beatFor_11 rfl ?_
      refine xr_istore_n (ls2 := [(2, .int ((-1))), (0, .ref (0)), (1, .int (what))]) dX9_beatFor_12 (by decide) rfl ?_
      refine xr_iconst (v := 0) dX9_beatFor_13 rfl ?_
      refine xr_istore_n (ls2 := [(3, .int (0)), (2, .int ((-1))), (0, .ref (0)), (1, .int (what))]) dX9_beatFor_14 (by decide) rfl ?_
      refine xr_iconst (v := 2) dX9_beatFor_15 rfl ?_
      refine xr_istore (ls2 := [(4, .int (2)), (3, .int (0)), (2, .int ((-1))), (0, .ref (0)), (1, .int (what))]) dX9_beatFor_16 (by decide) rfl ?_
      refine xr_iload dX9_beatFor_18 0 rfl ?_
      refine xr_bipush (v := 24) dX9_beatFor_20 rfl ?_
      refine xr_icmp_gt (tgt := 119) dX9_beatFor_22 rfl (fun c => absurd c (by decide)) (fun _ => ?_)
      refine xr_iload_n dX9_beatFor_25 2 rfl ?_
      refine xr_sipush (v := 200) dX9_beatFor_26 rfl ?_
      refine xr_icmp_ge (tgt := 119) dX9_beatFor_29 rfl (fun c => absurd c (by decide)) (fun _ => ?_)
      refine xr_iconst (v := 0) dX9_beatFor_32 rfl ?_
      refine xr_istore (ls2 := [(5, .int (0)), (4, .int (2)), (3, .int (0)), (2, .int ((-1))), (0, .ref (0)), (1, .int (what))]) dX9_beatFor_33 (by decide) rfl ?_
      refine xr_iload dX9_beatFor_35 0 rfl ?_
      refine xr_iload dX9_beatFor_37 1 rfl ?_
      refine xr_icmp_ge (tgt := 113) dX9_beatFor_39 rfl (fun c => absurd c (by decide)) (fun _ => ?_)
      refine xr_iload_n dX9_beatFor_42 3 rfl ?_
      refine xr_sipush (v := 200) dX9_beatFor_43 rfl ?_
      refine xr_icmp_ge (tgt := 113) dX9_beatFor_46 rfl (fun c => absurd c (by decide)) (fun _ => ?_)
      refine xr_aload_n dX9_beatFor_49 4 rfl ?_
      refine xr_getR flX9_40 dX9_beatFor_50 s_0 rfl ?_
      refine xr_callV (As := []) (rest := []) mlX9_192 (c0_begin E0_MI) dX9_beatFor_53 s_27 rfl rfl (Nat.le_of_ble_eq_true rfl) (by decide) ⟨by decide, by decide⟩ (fun v s2 M3 J2 hq => ?_)
      obtain ⟨rfl, rfl, rfl, e4⟩ := hq
      try dsimp only [Option.toList, List.cons_append, List.nil_append]
      refine xr_aload_n dX9_beatFor_56 4 rfl ?_
      refine xr_getR flX9_40 dX9_beatFor_57 s_0 rfl ?_
      refine xr_getR flX9_201 dX9_beatFor_60 s_27 rfl ?_
      refine xr_iload dX9_beatFor_63 1 rfl ?_
      refine xr_putI fpX9_202 dX9_beatFor_65 s_28 rfl rfl rfl ?_
      refine xr_aload_n dX9_beatFor_68 4 rfl ?_
      refine xr_getR flX9_40 dX9_beatFor_69 s_0 rfl ?_
      refine xr_getR flX9_201 dX9_beatFor_72 s_27 rfl ?_
      refine xr_iload dX9_beatFor_75 0 rfl ?_
      refine xr_putI fpX9_205 dX9_beatFor_77 s_28 rfl rfl rfl ?_
      refine xr_aload_n dX9_beatFor_80 4 rfl ?_
      refine xr_getR flX9_40 dX9_beatFor_81 s_0 rfl ?_
      refine xr_callV (As := []) (rest := []) mlX9_198 (c0_lasting (E0_up0 (by decide) (E0_up (by decide) e4))) dX9_beatFor_84 s_27 rfl rfl (Nat.le_of_ble_eq_true rfl) (by decide) ⟨by decide, by decide⟩ (fun v s2 M5 J2 hq => ?_)
      obtain ⟨rfl, rfl, rfl, e6⟩ := hq
      try dsimp only [Option.toList, List.cons_append, List.nil_append]
      refine xr_istore (ls2 := [(6, .int (200)), (5, .int (0)), (4, .int (2)), (3, .int (0)), (2, .int ((-1))), (0, .ref (0)), (1, .int (what))]) dX9_beatFor_87 (by decide) rfl ?_
      refine xr_iload dX9_beatFor_89 0 rfl ?_
      refine xr_iload_n dX9_beatFor_91 4 rfl ?_
      refine xr_icmp_le (tgt := 107) dX9_beatFor_92 rfl (fun c => absurd c (by decide)) (fun _ => ?_)
      refine xr_iload dX9_beatFor_95 0 rfl ?_
      refine xr_istore_n (ls2 := [(2, .int (200)), (6, .int (200)), (5, .int (0)), (4, .int (2)), (3, .int (0)), (0, .ref (0)), (1, .int (what))]) dX9_beatFor_97 (by decide) rfl ?_
      refine xr_bipush (v := 100) dX9_beatFor_98 rfl ?_
      refine xr_iload dX9_beatFor_100 3 rfl ?_
      refine xr_imul dX9_beatFor_102 ?_
      refine xb_top (y := 200) (by decide) ?_
      refine xr_iload dX9_beatFor_103 2 rfl ?_
      refine xr_iadd dX9_beatFor_105 ?_
      refine xb_top (y := 200) (by decide) ?_
      refine xr_istore_n (ls2 := [(3, .int (200)), (2, .int (200)), (6, .int (200)), (5, .int (0)), (4, .int (2)), (0, .ref (0)), (1, .int (what))]) dX9_beatFor_106 (by decide) rfl ?_
      refine xr_iinc (v := 1) (ls2 := [(5, .int (1)), (3, .int (200)), (2, .int (200)), (6, .int (200)), (4, .int (2)), (0, .ref (0)), (1, .int (what))]) dX9_beatFor_107 3 rfl rfl (by decide) rfl ?_
      refine xr_goto (tgt := 35) dX9_beatFor_110 rfl ?_
      refine xr_iload dX9_beatFor_35 0 rfl ?_
      refine xr_iload dX9_beatFor_37 4 rfl ?_
      refine xr_icmp_ge (tgt := 113) dX9_beatFor_39 rfl (fun c => absurd c (by decide)) (fun _ => ?_)
      refine xr_iload_n dX9_beatFor_42 2 rfl ?_
      refine xr_sipush (v := 200) dX9_beatFor_43 rfl ?_
      refine xr_icmp_ge (tgt := 113) dX9_beatFor_46 rfl (fun _ => ?_) (fun c => absurd (by decide) c)
      refine xr_iinc (v := 3) (ls2 := [(4, .int (3)), (5, .int (1)), (3, .int (200)), (2, .int (200)), (6, .int (200)), (0, .ref (0)), (1, .int (what))]) dX9_beatFor_113 4 rfl rfl (by decide) rfl ?_
      refine xr_goto (tgt := 18) dX9_beatFor_116 rfl ?_
      refine xr_iload dX9_beatFor_18 0 rfl ?_
      refine xr_bipush (v := 24) dX9_beatFor_20 rfl ?_
      refine xr_icmp_gt (tgt := 119) dX9_beatFor_22 rfl (fun c => absurd c (by decide)) (fun _ => ?_)
      refine xr_iload_n dX9_beatFor_25 3 rfl ?_
      refine xr_sipush (v := 200) dX9_beatFor_26 rfl ?_
      refine xr_icmp_ge (tgt := 119) dX9_beatFor_29 rfl (fun _ => ?_) (fun c => absurd (by decide) c)
      refine xr_iload_n dX9_beatFor_119 6 rfl ?_
      refine xr_if_ne (tgt := 127) dX9_beatFor_120 rfl (fun c7 => ?_) (fun c7 => ?_)
      · refine xr_iload_n dX9_beatFor_127 3 rfl ?_
        exact xr_iret dX9_beatFor_128 rfl rfl (⟨by first | rfl | (refine congrArg (fun z => some (Value.int z)) ?_; first | exact (if_neg (by assumption)).symm | exact (if_pos (by assumption)).symm | grind), rfl, by repeat (first | (with_reducible assumption) | (with_reducible exact Fr_z) | (with_reducible exact E0_fr (by assumption)) | ((with_reducible refine Fr_up ?_ ?_); first | decide | omega))⟩)
      · refine xr_iload_n dX9_beatFor_123 2 rfl ?_
        refine xr_goto (tgt := 128) dX9_beatFor_124 rfl ?_
        exact xr_iret dX9_beatFor_128 rfl rfl (⟨by first | rfl | (refine congrArg (fun z => some (Value.int z)) ?_; first | exact (if_neg (by assumption)).symm | exact (if_pos (by assumption)).symm | grind), rfl, by repeat (first | (with_reducible assumption) | (with_reducible exact Fr_z) | (with_reducible exact E0_fr (by assumption)) | ((with_reducible refine Fr_up ?_ ?_); first | decide | omega))⟩)
    · refine xr_iconst (v := -1) dX9_beatFor_9 rfl ?_
      exact xr_iret dX9_beatFor_10 rfl rfl (⟨by first | rfl | (refine congrArg (fun z => some (Value.int z)) ?_; first | exact (if_neg (by assumption)).symm | exact (if_pos (by assumption)).symm | grind), rfl, by repeat (first | (with_reducible assumption) | (with_reducible exact Fr_z) | (with_reducible exact E0_fr (by assumption)) | ((with_reducible refine Fr_up ?_ ?_); first | decide | omega))⟩)
set_option maxRecDepth 100000 in
set_option maxHeartbeats 4000000 in
theorem p_X9_held (n : Int32) {l : Launch} {G : xG}  : x_M l G fX9_held 4 0 0 [.ref (0), .int (n)] x_SH z_M x_J0 (qF (some (.int (if 1 ≤ n ∧ n ≤ 200 then -2 else -1)))) := by
  refine xb_of pX9 (Nat.le_of_ble_eq_true rfl) rfl ?_
  refine xr_iload_n dX9_held_0 1 rfl ?_
  refine xr_iconst (v := 1) dX9_held_1 rfl ?_
  refine xr_icmp_lt (tgt := 12) dX9_held_2 rfl (fun c1 => ?_) (fun c1 => ?_)
  · refine xr_iconst (v := -1) dX9_held_12 rfl ?_
    exact xr_iret dX9_held_13 rfl rfl (⟨by first | rfl | (refine congrArg (fun z => some (Value.int z)) ?_; first | exact (if_neg (by assumption)).symm | exact (if_pos (by assumption)).symm | grind), rfl, by repeat (first | (with_reducible assumption) | (with_reducible exact Fr_z) | (with_reducible exact E0_fr (by assumption)) | ((with_reducible refine Fr_up ?_ ?_); first | decide | omega))⟩)
  · refine xr_iload_n dX9_held_5 1 rfl ?_
    refine xr_sipush (v := 200) dX9_held_6 rfl ?_
    refine xr_icmp_le (tgt := 14) dX9_held_9 rfl (fun c2 => ?_) (fun c2 => ?_)
    · refine xr_bipush (v := -2) dX9_held_14 rfl ?_
      refine xr_istore_n (ls2 := [(2, .int ((-2))), (0, .ref (0)), (1, .int (n))]) dX9_held_16 (by decide) rfl ?_
      refine xr_iconst (v := 0) dX9_held_17 rfl ?_
      refine xr_istore_n (ls2 := [(3, .int (0)), (2, .int ((-2))), (0, .ref (0)), (1, .int (n))]) dX9_held_18 (by decide) rfl ?_
      refine xr_iconst (v := 1) dX9_held_19 rfl ?_
      refine xr_istore (ls2 := [(4, .int (1)), (3, .int (0)), (2, .int ((-2))), (0, .ref (0)), (1, .int (n))]) dX9_held_20 (by decide) rfl ?_
      refine xr_iload dX9_held_22 0 rfl ?_
      refine xr_iconst (v := 1) dX9_held_24 rfl ?_
      refine xr_aload_n dX9_held_25 3 rfl ?_
      refine xr_getR flX9_28 dX9_held_26 s_0 rfl ?_
      refine xb_get (v := 0) flX9_218 dX9_held_29 s_13 rfl (by decide +kernel) ?_
      refine xr_ishl dX9_held_32 ?_
      refine xb_top (y := 1) (by decide) ?_
      refine xr_icmp_ge (tgt := 102) dX9_held_33 rfl (fun _ => ?_) (fun c => absurd (by decide) c)
      refine xr_iload_n dX9_held_102 2 rfl ?_
      exact xr_iret dX9_held_103 rfl rfl (⟨by first | rfl | (refine congrArg (fun z => some (Value.int z)) ?_; first | exact (if_neg (by assumption)).symm | exact (if_pos (by assumption)).symm | grind), rfl, by repeat (first | (with_reducible assumption) | (with_reducible exact Fr_z) | (with_reducible exact E0_fr (by assumption)) | ((with_reducible refine Fr_up ?_ ?_); first | decide | omega))⟩)
    · refine xr_iconst (v := -1) dX9_held_12 rfl ?_
      exact xr_iret dX9_held_13 rfl rfl (⟨by first | rfl | (refine congrArg (fun z => some (Value.int z)) ?_; first | exact (if_neg (by assumption)).symm | exact (if_pos (by assumption)).symm | grind), rfl, by repeat (first | (with_reducible assumption) | (with_reducible exact Fr_z) | (with_reducible exact E0_fr (by assumption)) | ((with_reducible refine Fr_up ?_ ?_); first | decide | omega))⟩)
