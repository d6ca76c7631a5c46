theorem dX9_settingOf_0 : decode cX9_settingOf 0 = .ok (.iload_n 1, 1) := by decide +kernel
theorem dX9_settingOf_1 : decode cX9_settingOf 1 = .ok (.tableswitch 87 10 15 #[39, 47, 55, 63, 71, 79], 39) := by decide +kernel
theorem dX9_settingOf_40 : decode cX9_settingOf 40 = .ok (.aload_n 0, 1) := by decide +kernel
theorem dX9_settingOf_41 : decode cX9_settingOf 41 = .ok (.getfield 28, 3) := by decide +kernel
theorem dX9_settingOf_44 : decode cX9_settingOf 44 = .ok (.getfield 410, 3) := by decide +kernel
theorem dX9_settingOf_47 : decode cX9_settingOf 47 = .ok (.ireturn, 1) := by decide +kernel
theorem dX9_settingOf_48 : decode cX9_settingOf 48 = .ok (.aload_n 0, 1) := by decide +kernel
theorem dX9_settingOf_49 : decode cX9_settingOf 49 = .ok (.getfield 28, 3) := by decide +kernel
theorem dX9_settingOf_52 : decode cX9_settingOf 52 = .ok (.getfield 202, 3) := by decide +kernel
theorem dX9_settingOf_55 : decode cX9_settingOf 55 = .ok (.ireturn, 1) := by decide +kernel
theorem dX9_settingOf_56 : decode cX9_settingOf 56 = .ok (.aload_n 0, 1) := by decide +kernel
theorem dX9_settingOf_57 : decode cX9_settingOf 57 = .ok (.getfield 28, 3) := by decide +kernel
theorem dX9_settingOf_60 : decode cX9_settingOf 60 = .ok (.getfield 205, 3) := by decide +kernel
theorem dX9_settingOf_63 : decode cX9_settingOf 63 = .ok (.ireturn, 1) := by decide +kernel
theorem dX9_settingOf_64 : decode cX9_settingOf 64 = .ok (.aload_n 0, 1) := by decide +kernel
theorem dX9_settingOf_65 : decode cX9_settingOf 65 = .ok (.getfield 28, 3) := by decide +kernel
theorem dX9_settingOf_68 : decode cX9_settingOf 68 = .ok (.getfield 208, 3) := by decide +kernel
theorem dX9_settingOf_71 : decode cX9_settingOf 71 = .ok (.ireturn, 1) := by decide +kernel
theorem dX9_settingOf_72 : decode cX9_settingOf 72 = .ok (.aload_n 0, 1) := by decide +kernel
theorem dX9_settingOf_73 : decode cX9_settingOf 73 = .ok (.getfield 47, 3) := by decide +kernel
theorem dX9_settingOf_76 : decode cX9_settingOf 76 = .ok (.getfield 413, 3) := by decide +kernel
theorem dX9_settingOf_79 : decode cX9_settingOf 79 = .ok (.ireturn, 1) := by decide +kernel
theorem dX9_settingOf_80 : decode cX9_settingOf 80 = .ok (.aload_n 0, 1) := by decide +kernel
theorem dX9_settingOf_81 : decode cX9_settingOf 81 = .ok (.getfield 28, 3) := by decide +kernel
theorem dX9_settingOf_84 : decode cX9_settingOf 84 = .ok (.getfield 303, 3) := by decide +kernel
theorem dX9_settingOf_87 : decode cX9_settingOf 87 = .ok (.ireturn, 1) := by decide +kernel
theorem dX9_settingOf_88 : decode cX9_settingOf 88 = .ok (.ldc 105, 2) := by decide +kernel
theorem dX9_settingOf_90 : decode cX9_settingOf 90 = .ok (.ireturn, 1) := by decide +kernel
theorem dX5_addHoop_0 : decode cX5_addHoop 0 = .ok (.aload_n 0, 1) := by decide +kernel
theorem dX5_addHoop_1 : decode cX5_addHoop 1 = .ok (.invokevirtual 54, 3) := by decide +kernel
theorem dX5_addHoop_4 : decode cX5_addHoop 4 = .ok (.ifCond .eq 6, 3) := by decide +kernel
theorem dX5_addHoop_10 : decode cX5_addHoop 10 = .ok (.aload_n 0, 1) := by decide +kernel
theorem dX5_addHoop_11 : decode cX5_addHoop 11 = .ok (.getfield 17, 3) := by decide +kernel
theorem dX5_addHoop_14 : decode cX5_addHoop 14 = .ok (.aload_n 0, 1) := by decide +kernel
theorem dX5_addHoop_15 : decode cX5_addHoop 15 = .ok (.getfield 35, 3) := by decide +kernel
theorem dX5_addHoop_18 : decode cX5_addHoop 18 = .ok (.aaload, 1) := by decide +kernel
theorem dX5_addHoop_19 : decode cX5_addHoop 19 = .ok (.astore 4, 2) := by decide +kernel
theorem dX5_addHoop_21 : decode cX5_addHoop 21 = .ok (.aload 4, 2) := by decide +kernel
theorem dX5_addHoop_23 : decode cX5_addHoop 23 = .ok (.iload_n 1, 1) := by decide +kernel
theorem dX5_addHoop_24 : decode cX5_addHoop 24 = .ok (.putfield 58, 3) := by decide +kernel
theorem dX5_addHoop_27 : decode cX5_addHoop 27 = .ok (.aload 4, 2) := by decide +kernel
theorem dX5_addHoop_29 : decode cX5_addHoop 29 = .ok (.iload_n 2, 1) := by decide +kernel
theorem dX5_addHoop_30 : decode cX5_addHoop 30 = .ok (.putfield 61, 3) := by decide +kernel
theorem dX5_addHoop_33 : decode cX5_addHoop 33 = .ok (.aload 4, 2) := by decide +kernel
theorem dX5_addHoop_35 : decode cX5_addHoop 35 = .ok (.invokevirtual 64, 3) := by decide +kernel
theorem dX5_addHoop_38 : decode cX5_addHoop 38 = .ok (.aload 4, 2) := by decide +kernel
theorem dX5_addHoop_40 : decode cX5_addHoop 40 = .ok (.iload_n 3, 1) := by decide +kernel
theorem dX5_addHoop_41 : decode cX5_addHoop 41 = .ok (.putfield 67, 3) := by decide +kernel
theorem dX5_addHoop_44 : decode cX5_addHoop 44 = .ok (.aload_n 0, 1) := by decide +kernel
theorem dX5_addHoop_45 : decode cX5_addHoop 45 = .ok (.dup, 1) := by decide +kernel
theorem dX5_addHoop_46 : decode cX5_addHoop 46 = .ok (.getfield 35, 3) := by decide +kernel
theorem dX5_addHoop_49 : decode cX5_addHoop 49 = .ok (.iconst 1, 1) := by decide +kernel
theorem dX5_addHoop_50 : decode cX5_addHoop 50 = .ok (.iadd, 1) := by decide +kernel
theorem dX5_addHoop_51 : decode cX5_addHoop 51 = .ok (.putfield 35, 3) := by decide +kernel
theorem dX5_addHoop_54 : decode cX5_addHoop 54 = .ok (.aload_n 0, 1) := by decide +kernel
theorem dX5_addHoop_55 : decode cX5_addHoop 55 = .ok (.getfield 35, 3) := by decide +kernel
theorem dX5_addHoop_58 : decode cX5_addHoop 58 = .ok (.iconst 1, 1) := by decide +kernel
theorem dX5_addHoop_59 : decode cX5_addHoop 59 = .ok (.isub, 1) := by decide +kernel
theorem dX5_addHoop_60 : decode cX5_addHoop 60 = .ok (.ireturn, 1) := by decide +kernel
theorem dX9_hoop_0 : decode cX9_hoop 0 = .ok (.iload_n 1, 1) := by decide +kernel
theorem dX9_hoop_1 : decode cX9_hoop 1 = .ok (.ifCond .lt 23, 3) := by decide +kernel
theorem dX9_hoop_24 : decode cX9_hoop 24 = .ok (.iconst (-1), 1) := by decide +kernel
theorem dX9_hoop_25 : decode cX9_hoop 25 = .ok (.ireturn, 1) := by decide +kernel
theorem dX9_hoop_4 : decode cX9_hoop 4 = .ok (.iload_n 1, 1) := by decide +kernel
theorem dX9_hoop_5 : decode cX9_hoop 5 = .ok (.bipush 10, 2) := by decide +kernel
theorem dX9_hoop_7 : decode cX9_hoop 7 = .ok (.idiv, 1) := by decide +kernel
theorem dX9_hoop_8 : decode cX9_hoop 8 = .ok (.invokestatic 76, 3) := by decide +kernel
theorem dX9_hoop_11 : decode cX9_hoop 11 = .ok (.ifCond .eq 13, 3) := by decide +kernel
theorem dX9_hoop_14 : decode cX9_hoop 14 = .ok (.iload_n 1, 1) := by decide +kernel
theorem dX9_hoop_15 : decode cX9_hoop 15 = .ok (.bipush 10, 2) := by decide +kernel
theorem dX9_hoop_17 : decode cX9_hoop 17 = .ok (.irem, 1) := by decide +kernel
theorem dX9_hoop_18 : decode cX9_hoop 18 = .ok (.invokestatic 76, 3) := by decide +kernel
theorem dX9_hoop_21 : decode cX9_hoop 21 = .ok (.ifCond .ne 5, 3) := by decide +kernel
theorem dX9_hoop_26 : decode cX9_hoop 26 = .ok (.aload_n 0, 1) := by decide +kernel
theorem dX9_hoop_27 : decode cX9_hoop 27 = .ok (.getfield 28, 3) := by decide +kernel
theorem dX9_hoop_30 : decode cX9_hoop 30 = .ok (.invokevirtual 80, 3) := by decide +kernel
theorem dX9_hoop_33 : decode cX9_hoop 33 = .ok (.ifCond .eq 6, 3) := by decide +kernel
theorem dX9_hoop_39 : decode cX9_hoop 39 = .ok (.aload_n 0, 1) := by decide +kernel
theorem dX9_hoop_40 : decode cX9_hoop 40 = .ok (.getfield 28, 3) := by decide +kernel
theorem dX9_hoop_43 : decode cX9_hoop 43 = .ok (.iload_n 1, 1) := by decide +kernel
theorem dX9_hoop_44 : decode cX9_hoop 44 = .ok (.bipush 10, 2) := by decide +kernel
theorem dX9_hoop_46 : decode cX9_hoop 46 = .ok (.idiv, 1) := by decide +kernel
theorem dX9_hoop_47 : decode cX9_hoop 47 = .ok (.iload_n 1, 1) := by decide +kernel
theorem dX9_hoop_48 : decode cX9_hoop 48 = .ok (.bipush 10, 2) := by decide +kernel
theorem dX9_hoop_50 : decode cX9_hoop 50 = .ok (.irem, 1) := by decide +kernel
theorem dX9_hoop_51 : decode cX9_hoop 51 = .ok (.iconst 4, 1) := by decide +kernel
theorem dX9_hoop_52 : decode cX9_hoop 52 = .ok (.invokevirtual 84, 3) := by decide +kernel
theorem dX9_hoop_55 : decode cX9_hoop 55 = .ok (.ireturn, 1) := by decide +kernel
theorem dX9_led_0 : decode cX9_led 0 = .ok (.iload_n 1, 1) := by decide +kernel
theorem dX9_led_1 : decode cX9_led 1 = .ok (.ifCond .ne 11, 3) := by decide +kernel
theorem dX9_led_12 : decode cX9_led 12 = .ok (.iload_n 1, 1) := by decide +kernel
theorem dX9_led_13 : decode cX9_led 13 = .ok (.iconst 1, 1) := by decide +kernel
theorem dX9_led_14 : decode cX9_led 14 = .ok (.if_icmp .ne 13, 3) := by decide +kernel
theorem dX9_led_27 : decode cX9_led 27 = .ok (.iconst (-1), 1) := by decide +kernel
theorem dX9_led_28 : decode cX9_led 28 = .ok (.ireturn, 1) := by decide +kernel
theorem dX9_led_17 : decode cX9_led 17 = .ok (.aload_n 0, 1) := by decide +kernel
theorem dX9_led_18 : decode cX9_led 18 = .ok (.getfield 28, 3) := by decide +kernel
theorem dX9_led_21 : decode cX9_led 21 = .ok (.getfield 176, 3) := by decide +kernel
theorem dX9_led_24 : decode cX9_led 24 = .ok (.goto 4, 3) := by decide +kernel
theorem dX9_led_4 : decode cX9_led 4 = .ok (.aload_n 0, 1) := by decide +kernel
theorem dX9_led_5 : decode cX9_led 5 = .ok (.getfield 28, 3) := by decide +kernel
theorem dX9_led_8 : decode cX9_led 8 = .ok (.getfield 173, 3) := by decide +kernel
theorem dX9_led_11 : decode cX9_led 11 = .ok (.ireturn, 1) := by decide +kernel
theorem dX9_of_0 : decode cX9_of 0 = .ok (.iload_n 2, 1) := by decide +kernel
theorem dX9_of_1 : decode cX9_of 1 = .ok (.ifCond .lt 38, 3) := by decide +kernel
theorem dX9_of_39 : decode cX9_of 39 = .ok (.iload_n 2, 1) := by decide +kernel
theorem dX9_of_40 : decode cX9_of 40 = .ok (.bipush 10, 2) := by decide +kernel
theorem dX9_of_42 : decode cX9_of 42 = .ok (.if_icmp .lt 24, 3) := by decide +kernel
theorem dX9_of_66 : decode cX9_of 66 = .ok (.iload_n 2, 1) := by decide +kernel
theorem dX9_of_67 : decode cX9_of 67 = .ok (.bipush 20, 2) := by decide +kernel
theorem dX9_of_69 : decode cX9_of 69 = .ok (.if_icmp .eq 9, 3) := by decide +kernel
theorem dX9_of_78 : decode cX9_of 78 = .ok (.iload_n 1, 1) := by decide +kernel
theorem dX9_of_79 : decode cX9_of 79 = .ok (.invokestatic 134, 3) := by decide +kernel
theorem dX9_of_82 : decode cX9_of 82 = .ok (.ifCond .eq 31, 3) := by decide +kernel
theorem dX9_of_113 : decode cX9_of 113 = .ok (.ldc 105, 2) := by decide +kernel
theorem dX9_of_115 : decode cX9_of 115 = .ok (.ireturn, 1) := by decide +kernel
theorem dX9_of_85 : decode cX9_of 85 = .ok (.iload_n 2, 1) := by decide +kernel
theorem dX9_of_86 : decode cX9_of 86 = .ok (.bipush 20, 2) := by decide +kernel
theorem dX9_of_88 : decode cX9_of 88 = .ok (.if_icmp .ne 15, 3) := by decide +kernel
theorem dX9_of_103 : decode cX9_of 103 = .ok (.aload_n 0, 1) := by decide +kernel
theorem dX9_of_104 : decode cX9_of 104 = .ok (.getfield 47, 3) := by decide +kernel
theorem dX9_of_107 : decode cX9_of 107 = .ok (.getfield 141, 3) := by decide +kernel
theorem dX9_of_110 : decode cX9_of 110 = .ok (.iload_n 1, 1) := by decide +kernel
theorem dX9_of_111 : decode cX9_of 111 = .ok (.iaload, 1) := by decide +kernel
theorem dX9_of_112 : decode cX9_of 112 = .ok (.ireturn, 1) := by decide +kernel
theorem dX9_of_91 : decode cX9_of 91 = .ok (.aload_n 0, 1) := by decide +kernel
theorem dX9_of_92 : decode cX9_of 92 = .ok (.getfield 47, 3) := by decide +kernel
theorem dX9_of_95 : decode cX9_of 95 = .ok (.getfield 137, 3) := by decide +kernel
theorem dX9_of_98 : decode cX9_of 98 = .ok (.iload_n 1, 1) := by decide +kernel
theorem dX9_of_99 : decode cX9_of 99 = .ok (.iaload, 1) := by decide +kernel
theorem dX9_of_100 : decode cX9_of 100 = .ok (.goto 12, 3) := by decide +kernel
theorem dX9_of_72 : decode cX9_of 72 = .ok (.iload_n 2, 1) := by decide +kernel
theorem dX9_of_73 : decode cX9_of 73 = .ok (.bipush 21, 2) := by decide +kernel
theorem dX9_of_75 : decode cX9_of 75 = .ok (.if_icmp .ne 38, 3) := by decide +kernel
theorem dX9_of_45 : decode cX9_of 45 = .ok (.iload_n 2, 1) := by decide +kernel
theorem dX9_of_46 : decode cX9_of 46 = .ok (.bipush 15, 2) := by decide +kernel
theorem dX9_of_48 : decode cX9_of 48 = .ok (.if_icmp .gt 18, 3) := by decide +kernel
theorem dX9_of_51 : decode cX9_of 51 = .ok (.iload_n 1, 1) := by decide +kernel
theorem dX9_of_52 : decode cX9_of 52 = .ok (.ifCond .ne 11, 3) := by decide +kernel
theorem dX9_of_63 : decode cX9_of 63 = .ok (.ldc 105, 2) := by decide +kernel
theorem dX9_of_65 : decode cX9_of 65 = .ok (.ireturn, 1) := by decide +kernel
theorem dX9_of_55 : decode cX9_of 55 = .ok (.aload_n 0, 1) := by decide +kernel
theorem dX9_of_56 : decode cX9_of 56 = .ok (.iload_n 2, 1) := by decide +kernel
theorem dX9_of_57 : decode cX9_of 57 = .ok (.invokevirtual 131, 3) := by decide +kernel
theorem dX9_of_60 : decode cX9_of 60 = .ok (.goto 5, 3) := by decide +kernel
theorem dX9_of_4 : decode cX9_of 4 = .ok (.iload_n 2, 1) := by decide +kernel
theorem dX9_of_5 : decode cX9_of 5 = .ok (.iconst 5, 1) := by decide +kernel
theorem dX9_of_6 : decode cX9_of 6 = .ok (.if_icmp .gt 33, 3) := by decide +kernel
theorem dX9_of_9 : decode cX9_of 9 = .ok (.aload_n 0, 1) := by decide +kernel
theorem dX9_of_10 : decode cX9_of 10 = .ok (.getfield 28, 3) := by decide +kernel
theorem dX9_of_13 : decode cX9_of 13 = .ok (.iload_n 1, 1) := by decide +kernel
theorem dX9_of_14 : decode cX9_of 14 = .ok (.invokevirtual 118, 3) := by decide +kernel
theorem dX9_of_17 : decode cX9_of 17 = .ok (.ifCond .eq 19, 3) := by decide +kernel
theorem dX9_of_36 : decode cX9_of 36 = .ok (.ldc 105, 2) := by decide +kernel
theorem dX9_of_38 : decode cX9_of 38 = .ok (.ireturn, 1) := by decide +kernel
theorem dX9_lift_0 : decode cX9_lift 0 = .ok (.aload_n 0, 1) := by decide +kernel
theorem dX9_lift_1 : decode cX9_lift 1 = .ok (.getfield 28, 3) := by decide +kernel
theorem dX9_lift_4 : decode cX9_lift 4 = .ok (.iload_n 1, 1) := by decide +kernel
theorem dX9_lift_5 : decode cX9_lift 5 = .ok (.invokevirtual 118, 3) := by decide +kernel
theorem dX9_lift_8 : decode cX9_lift 8 = .ok (.ifCond .ne 5, 3) := by decide +kernel
theorem dX9_lift_11 : decode cX9_lift 11 = .ok (.iconst (-1), 1) := by decide +kernel
theorem dX9_lift_12 : decode cX9_lift 12 = .ok (.ireturn, 1) := by decide +kernel
theorem dX9_then_0 : decode cX9_then 0 = .ok (.aload_n 0, 1) := by decide +kernel
theorem dX9_then_1 : decode cX9_then 1 = .ok (.getfield 28, 3) := by decide +kernel
theorem dX9_then_4 : decode cX9_then 4 = .ok (.iload_n 1, 1) := by decide +kernel
theorem dX9_then_5 : decode cX9_then 5 = .ok (.invokevirtual 118, 3) := by decide +kernel
theorem dX9_then_8 : decode cX9_then 8 = .ok (.ifCond .eq 23, 3) := by decide +kernel
theorem dX9_then_31 : decode cX9_then 31 = .ok (.ldc 105, 2) := by decide +kernel
theorem dX9_then_33 : decode cX9_then 33 = .ok (.ireturn, 1) := by decide +kernel
theorem dX9_falls_0 : decode cX9_falls 0 = .ok (.aload_n 0, 1) := by decide +kernel
theorem dX9_falls_1 : decode cX9_falls 1 = .ok (.getfield 28, 3) := by decide +kernel
theorem dX9_falls_4 : decode cX9_falls 4 = .ok (.iload_n 1, 1) := by decide +kernel
theorem dX9_falls_5 : decode cX9_falls 5 = .ok (.invokevirtual 118, 3) := by decide +kernel
theorem dX9_falls_8 : decode cX9_falls 8 = .ok (.ifCond .ne 5, 3) := by decide +kernel
theorem dX9_falls_11 : decode cX9_falls 11 = .ok (.iconst (-1), 1) := by decide +kernel
theorem dX9_falls_12 : decode cX9_falls 12 = .ok (.ireturn, 1) := by decide +kernel
theorem dX9_lasts_0 : decode cX9_lasts 0 = .ok (.aload_n 0, 1) := by decide +kernel
theorem dX9_lasts_1 : decode cX9_lasts 1 = .ok (.getfield 40, 3) := by decide +kernel
theorem dX9_lasts_4 : decode cX9_lasts 4 = .ok (.invokevirtual 192, 3) := by decide +kernel
theorem dX9_lasts_7 : decode cX9_lasts 7 = .ok (.aload_n 0, 1) := by decide +kernel
theorem dX9_lasts_8 : decode cX9_lasts 8 = .ok (.getfield 40, 3) := by decide +kernel
theorem dX9_lasts_11 : decode cX9_lasts 11 = .ok (.invokevirtual 198, 3) := by decide +kernel
theorem dX9_lasts_14 : decode cX9_lasts 14 = .ok (.ireturn, 1) := by decide +kernel
theorem dX9_leastPush_0 : decode cX9_leastPush 0 = .ok (.iload_n 1, 1) := by decide +kernel
theorem dX9_leastPush_1 : decode cX9_leastPush 1 = .ok (.iconst 1, 1) := by decide +kernel
theorem dX9_leastPush_2 : decode cX9_leastPush 2 = .ok (.if_icmp .lt 10, 3) := by decide +kernel
theorem dX9_leastPush_12 : decode cX9_leastPush 12 = .ok (.iconst (-1), 1) := by decide +kernel
theorem dX9_leastPush_13 : decode cX9_leastPush 13 = .ok (.ireturn, 1) := by decide +kernel
theorem dX9_leastPush_5 : decode cX9_leastPush 5 = .ok (.iload_n 1, 1) := by decide +kernel
theorem dX9_leastPush_6 : decode cX9_leastPush 6 = .ok (.sipush 200, 3) := by decide +kernel
theorem dX9_leastPush_9 : decode cX9_leastPush 9 = .ok (.if_icmp .le 5, 3) := by decide +kernel
theorem dX9_leastPush_14 : decode cX9_leastPush 14 = .ok (.iconst 0, 1) := by decide +kernel
theorem dX9_leastPush_15 : decode cX9_leastPush 15 = .ok (.istore_n 2, 1) := by decide +kernel
theorem dX9_leastPush_16 : decode cX9_leastPush 16 = .ok (.iload_n 2, 1) := by decide +kernel
theorem dX9_leastPush_17 : decode cX9_leastPush 17 = .ok (.iconst 5, 1) := by decide +kernel
theorem dX9_leastPush_18 : decode cX9_leastPush 18 = .ok (.if_icmp .gt 40, 3) := by decide +kernel
theorem dX9_leastPush_21 : decode cX9_leastPush 21 = .ok (.aload_n 0, 1) := by decide +kernel
theorem dX9_leastPush_22 : decode cX9_leastPush 22 = .ok (.getfield 40, 3) := by decide +kernel
theorem dX9_leastPush_25 : decode cX9_leastPush 25 = .ok (.invokevirtual 192, 3) := by decide +kernel
theorem dX9_leastPush_28 : decode cX9_leastPush 28 = .ok (.aload_n 0, 1) := by decide +kernel
theorem dX9_leastPush_29 : decode cX9_leastPush 29 = .ok (.getfield 40, 3) := by decide +kernel
theorem dX9_leastPush_32 : decode cX9_leastPush 32 = .ok (.getfield 201, 3) := by decide +kernel
theorem dX9_leastPush_35 : decode cX9_leastPush 35 = .ok (.iload_n 2, 1) := by decide +kernel
theorem dX9_leastPush_36 : decode cX9_leastPush 36 = .ok (.putfield 208, 3) := by decide +kernel
theorem dX9_leastPush_39 : decode cX9_leastPush 39 = .ok (.aload_n 0, 1) := by decide +kernel
theorem dX9_leastPush_40 : decode cX9_leastPush 40 = .ok (.getfield 40, 3) := by decide +kernel
theorem dX9_leastPush_43 : decode cX9_leastPush 43 = .ok (.invokevirtual 198, 3) := by decide +kernel
theorem dX9_leastPush_46 : decode cX9_leastPush 46 = .ok (.iload_n 1, 1) := by decide +kernel
theorem dX9_leastPush_47 : decode cX9_leastPush 47 = .ok (.if_icmp .lt 5, 3) := by decide +kernel
theorem dX9_leastPush_52 : decode cX9_leastPush 52 = .ok (.iinc 2 1, 3) := by decide +kernel
theorem dX9_leastPush_55 : decode cX9_leastPush 55 = .ok (.goto (-39), 3) := by decide +kernel
theorem dX9_leastPush_58 : decode cX9_leastPush 58 = .ok (.bipush (-2), 2) := by decide +kernel
theorem dX9_leastPush_60 : decode cX9_leastPush 60 = .ok (.ireturn, 1) := by decide +kernel
theorem dX9_leastPush_50 : decode cX9_leastPush 50 = .ok (.iload_n 2, 1) := by decide +kernel
theorem dX9_leastPush_51 : decode cX9_leastPush 51 = .ok (.ireturn, 1) := by decide +kernel
theorem dX9_mistake_0 : decode cX9_mistake 0 = .ok (.iload_n 1, 1) := by decide +kernel
theorem dX9_mistake_1 : decode cX9_mistake 1 = .ok (.ifCond .lt 18, 3) := by decide +kernel
theorem dX9_mistake_19 : decode cX9_mistake 19 = .ok (.iconst (-1), 1) := by decide +kernel
theorem dX9_mistake_20 : decode cX9_mistake 20 = .ok (.ireturn, 1) := by decide +kernel
theorem dX9_mistake_4 : decode cX9_mistake 4 = .ok (.iload_n 1, 1) := by decide +kernel
theorem dX9_mistake_5 : decode cX9_mistake 5 = .ok (.bipush 40, 2) := by decide +kernel
theorem dX9_mistake_7 : decode cX9_mistake 7 = .ok (.if_icmp .gt 12, 3) := by decide +kernel
theorem dX9_mistake_10 : decode cX9_mistake 10 = .ok (.iload_n 2, 1) := by decide +kernel
theorem dX9_mistake_11 : decode cX9_mistake 11 = .ok (.ifCond .lt 8, 3) := by decide +kernel
theorem dX9_mistake_14 : decode cX9_mistake 14 = .ok (.iload_n 2, 1) := by decide +kernel
theorem dX9_mistake_15 : decode cX9_mistake 15 = .ok (.iconst 1, 1) := by decide +kernel
theorem dX9_mistake_16 : decode cX9_mistake 16 = .ok (.if_icmp .le 5, 3) := by decide +kernel
theorem dX9_mistake_21 : decode cX9_mistake 21 = .ok (.aload_n 0, 1) := by decide +kernel
theorem dX9_mistake_22 : decode cX9_mistake 22 = .ok (.getfield 40, 3) := by decide +kernel
theorem dX9_mistake_25 : decode cX9_mistake 25 = .ok (.invokevirtual 192, 3) := by decide +kernel
theorem dX9_mistake_28 : decode cX9_mistake 28 = .ok (.aload_n 0, 1) := by decide +kernel
theorem dX9_mistake_29 : decode cX9_mistake 29 = .ok (.getfield 40, 3) := by decide +kernel
theorem dX9_mistake_32 : decode cX9_mistake 32 = .ok (.iload_n 1, 1) := by decide +kernel
theorem dX9_mistake_33 : decode cX9_mistake 33 = .ok (.invokevirtual 211, 3) := by decide +kernel
theorem dX9_mistake_36 : decode cX9_mistake 36 = .ok (.iload_n 2, 1) := by decide +kernel
theorem dX9_mistake_37 : decode cX9_mistake 37 = .ok (.ifCond .ne 13, 3) := by decide +kernel
theorem dX9_mistake_50 : decode cX9_mistake 50 = .ok (.aload_n 0, 1) := by decide +kernel
theorem dX9_mistake_51 : decode cX9_mistake 51 = .ok (.getfield 40, 3) := by decide +kernel
theorem dX9_mistake_54 : decode cX9_mistake 54 = .ok (.invokevirtual 215, 3) := by decide +kernel
theorem dX9_mistake_57 : decode cX9_mistake 57 = .ok (.ireturn, 1) := by decide +kernel
theorem dX9_mistake_40 : decode cX9_mistake 40 = .ok (.aload_n 0, 1) := by decide +kernel
theorem dX9_mistake_41 : decode cX9_mistake 41 = .ok (.getfield 40, 3) := by decide +kernel
theorem dX9_mistake_44 : decode cX9_mistake 44 = .ok (.invokevirtual 198, 3) := by decide +kernel
theorem dX9_mistake_47 : decode cX9_mistake 47 = .ok (.goto 10, 3) := by decide +kernel
theorem dX9_start_0 : decode cX9_start 0 = .ok (.aload_n 0, 1) := by decide +kernel
theorem dX9_start_1 : decode cX9_start 1 = .ok (.getfield 28, 3) := by decide +kernel
theorem dX9_start_4 : decode cX9_start 4 = .ok (.iload_n 1, 1) := by decide +kernel
theorem dX9_start_5 : decode cX9_start 5 = .ok (.invokevirtual 118, 3) := by decide +kernel
theorem dX9_start_8 : decode cX9_start 8 = .ok (.ifCond .ne 6, 3) := by decide +kernel
theorem dX9_start_11 : decode cX9_start 11 = .ok (.ldc 105, 2) := by decide +kernel
theorem dX9_start_13 : decode cX9_start 13 = .ok (.ireturn, 1) := by decide +kernel
theorem dX9_rescue_0 : decode cX9_rescue 0 = .ok (.iload_n 2, 1) := by decide +kernel
theorem dX9_rescue_1 : decode cX9_rescue 1 = .ok (.bipush 100, 2) := by decide +kernel
theorem dX9_rescue_3 : decode cX9_rescue 3 = .ok (.idiv, 1) := by decide +kernel
theorem dX9_rescue_4 : decode cX9_rescue 4 = .ok (.istore_n 3, 1) := by decide +kernel
theorem dX9_rescue_5 : decode cX9_rescue 5 = .ok (.iload_n 2, 1) := by decide +kernel
theorem dX9_rescue_6 : decode cX9_rescue 6 = .ok (.bipush 100, 2) := by decide +kernel
theorem dX9_rescue_8 : decode cX9_rescue 8 = .ok (.irem, 1) := by decide +kernel
theorem dX9_rescue_9 : decode cX9_rescue 9 = .ok (.istore 4, 2) := by decide +kernel
theorem dX9_rescue_11 : decode cX9_rescue 11 = .ok (.aload_n 0, 1) := by decide +kernel
theorem dX9_rescue_12 : decode cX9_rescue 12 = .ok (.getfield 28, 3) := by decide +kernel
theorem dX9_rescue_15 : decode cX9_rescue 15 = .ok (.iload_n 1, 1) := by decide +kernel
theorem dX9_rescue_16 : decode cX9_rescue 16 = .ok (.invokevirtual 118, 3) := by decide +kernel
theorem dX9_rescue_19 : decode cX9_rescue 19 = .ok (.ifCond .eq 25, 3) := by decide +kernel
theorem dX9_rescue_44 : decode cX9_rescue 44 = .ok (.iconst (-1), 1) := by decide +kernel
theorem dX9_rescue_45 : decode cX9_rescue 45 = .ok (.ireturn, 1) := by decide +kernel
theorem dX9_music_0 : decode cX9_music 0 = .ok (.iload_n 1, 1) := by decide +kernel
theorem dX9_music_1 : decode cX9_music 1 = .ok (.invokestatic 88, 3) := by decide +kernel
theorem dX9_music_4 : decode cX9_music 4 = .ok (.ifCond .ne 5, 3) := by decide +kernel
theorem dX9_music_9 : decode cX9_music 9 = .ok (.aload_n 0, 1) := by decide +kernel
theorem dX9_music_10 : decode cX9_music 10 = .ok (.getfield 67, 3) := by decide +kernel
theorem dX9_music_13 : decode cX9_music 13 = .ok (.iload_n 1, 1) := by decide +kernel
theorem dX9_music_14 : decode cX9_music 14 = .ok (.aaload, 1) := by decide +kernel
theorem dX9_music_15 : decode cX9_music 15 = .ok (.invokevirtual 244, 3) := by decide +kernel
theorem dX9_music_18 : decode cX9_music 18 = .ok (.istore_n 2, 1) := by decide +kernel
theorem dX9_music_19 : decode cX9_music 19 = .ok (.iload_n 2, 1) := by decide +kernel
theorem dX9_music_20 : decode cX9_music 20 = .ok (.ifCond .eq 5, 3) := by decide +kernel
theorem dX9_music_23 : decode cX9_music 23 = .ok (.iload_n 2, 1) := by decide +kernel
theorem dX9_music_24 : decode cX9_music 24 = .ok (.ireturn, 1) := by decide +kernel
theorem dX9_music_7 : decode cX9_music 7 = .ok (.iconst (-1), 1) := by decide +kernel
theorem dX9_music_8 : decode cX9_music 8 = .ok (.ireturn, 1) := by decide +kernel
theorem dX9_judge_0 : decode cX9_judge 0 = .ok (.iload_n 1, 1) := by decide +kernel
theorem dX9_judge_1 : decode cX9_judge 1 = .ok (.invokestatic 88, 3) := by decide +kernel
theorem dX9_judge_4 : decode cX9_judge 4 = .ok (.ifCond .eq 14, 3) := by decide +kernel
theorem dX9_judge_18 : decode cX9_judge 18 = .ok (.iconst (-1), 1) := by decide +kernel
theorem dX9_judge_19 : decode cX9_judge 19 = .ok (.ireturn, 1) := by decide +kernel
theorem dX9_judge_7 : decode cX9_judge 7 = .ok (.aload_n 0, 1) := by decide +kernel
theorem dX9_judge_8 : decode cX9_judge 8 = .ok (.getfield 28, 3) := by decide +kernel
theorem dX9_judge_11 : decode cX9_judge 11 = .ok (.iload_n 2, 1) := by decide +kernel
theorem dX9_judge_12 : decode cX9_judge 12 = .ok (.invokevirtual 118, 3) := by decide +kernel
theorem dX9_judge_15 : decode cX9_judge 15 = .ok (.ifCond .ne 5, 3) := by decide +kernel
theorem dX9_begun_0 : decode cX9_begun 0 = .ok (.iload_n 1, 1) := by decide +kernel
theorem dX9_begun_1 : decode cX9_begun 1 = .ok (.invokestatic 88, 3) := by decide +kernel
theorem dX9_begun_4 : decode cX9_begun 4 = .ok (.ifCond .eq 35, 3) := by decide +kernel
theorem dX9_begun_39 : decode cX9_begun 39 = .ok (.ldc 105, 2) := by decide +kernel
theorem dX9_begun_41 : decode cX9_begun 41 = .ok (.ireturn, 1) := by decide +kernel
theorem dX9_begun_7 : decode cX9_begun 7 = .ok (.aload_n 0, 1) := by decide +kernel
theorem dX9_begun_8 : decode cX9_begun 8 = .ok (.getfield 28, 3) := by decide +kernel
theorem dX9_begun_11 : decode cX9_begun 11 = .ok (.iload_n 2, 1) := by decide +kernel
theorem dX9_begun_12 : decode cX9_begun 12 = .ok (.invokevirtual 118, 3) := by decide +kernel
theorem dX9_begun_15 : decode cX9_begun 15 = .ok (.ifCond .eq 24, 3) := by decide +kernel
theorem dX9_back_0 : decode cX9_back 0 = .ok (.aload_n 0, 1) := by decide +kernel
theorem dX9_back_1 : decode cX9_back 1 = .ok (.getfield 72, 3) := by decide +kernel
theorem dX9_back_4 : decode cX9_back 4 = .ok (.ifCond .ne 6, 3) := by decide +kernel
theorem dX9_back_7 : decode cX9_back 7 = .ok (.bipush (-5), 2) := by decide +kernel
theorem dX9_back_9 : decode cX9_back 9 = .ok (.ireturn, 1) := by decide +kernel
theorem dX9_undo_0 : decode cX9_undo 0 = .ok (.aload_n 0, 1) := by decide +kernel
theorem dX9_undo_1 : decode cX9_undo 1 = .ok (.getfield 54, 3) := by decide +kernel
theorem dX9_undo_4 : decode cX9_undo 4 = .ok (.getfield 309, 3) := by decide +kernel
theorem dX9_undo_7 : decode cX9_undo 7 = .ok (.ifCond .ne 6, 3) := by decide +kernel
theorem dX9_undo_10 : decode cX9_undo 10 = .ok (.bipush (-5), 2) := by decide +kernel
theorem dX9_undo_12 : decode cX9_undo 12 = .ok (.ireturn, 1) := by decide +kernel
theorem dX9_redo_0 : decode cX9_redo 0 = .ok (.aload_n 0, 1) := by decide +kernel
theorem dX9_redo_1 : decode cX9_redo 1 = .ok (.getfield 54, 3) := by decide +kernel
theorem dX9_redo_4 : decode cX9_redo 4 = .ok (.getfield 309, 3) := by decide +kernel
theorem dX9_redo_7 : decode cX9_redo 7 = .ok (.aload_n 0, 1) := by decide +kernel
theorem dX9_redo_8 : decode cX9_redo 8 = .ok (.getfield 54, 3) := by decide +kernel
theorem dX9_redo_11 : decode cX9_redo 11 = .ok (.getfield 321, 3) := by decide +kernel
theorem dX9_redo_14 : decode cX9_redo 14 = .ok (.if_icmp .ne 6, 3) := by decide +kernel
theorem dX9_redo_17 : decode cX9_redo 17 = .ok (.bipush (-5), 2) := by decide +kernel
theorem dX9_redo_19 : decode cX9_redo 19 = .ok (.ireturn, 1) := by decide +kernel
theorem dX9_act_0 : decode cX9_act 0 = .ok (.aload_n 0, 1) := by decide +kernel
theorem dX9_act_1 : decode cX9_act 1 = .ok (.getfield 61, 3) := by decide +kernel
theorem dX9_act_4 : decode cX9_act 4 = .ok (.iconst 0, 1) := by decide +kernel
theorem dX9_act_5 : decode cX9_act 5 = .ok (.putfield 334, 3) := by decide +kernel
theorem dX9_act_8 : decode cX9_act 8 = .ok (.aload_n 0, 1) := by decide +kernel
theorem dX9_act_9 : decode cX9_act 9 = .ok (.getfield 61, 3) := by decide +kernel
theorem dX9_act_12 : decode cX9_act 12 = .ok (.iload_n 1, 1) := by decide +kernel
theorem dX9_act_13 : decode cX9_act 13 = .ok (.invokevirtual 337, 3) := by decide +kernel
theorem dX9_act_16 : decode cX9_act 16 = .ok (.ifCond .eq 12, 3) := by decide +kernel
theorem dX9_act_28 : decode cX9_act 28 = .ok (.iconst 0, 1) := by decide +kernel
theorem dX9_act_29 : decode cX9_act 29 = .ok (.ireturn, 1) := by decide +kernel
theorem dX9_trace_0 : decode cX9_trace 0 = .ok (.iload_n 1, 1) := by decide +kernel
theorem dX9_trace_1 : decode cX9_trace 1 = .ok (.ifCond .lt 20, 3) := by decide +kernel
theorem dX9_trace_21 : decode cX9_trace 21 = .ok (.iconst (-1), 1) := by decide +kernel
theorem dX9_trace_22 : decode cX9_trace 22 = .ok (.ireturn, 1) := by decide +kernel
theorem dX9_trace_4 : decode cX9_trace 4 = .ok (.iload_n 1, 1) := by decide +kernel
theorem dX9_trace_5 : decode cX9_trace 5 = .ok (.aload_n 0, 1) := by decide +kernel
theorem dX9_trace_6 : decode cX9_trace 6 = .ok (.getfield 61, 3) := by decide +kernel
theorem dX9_trace_9 : decode cX9_trace 9 = .ok (.getfield 334, 3) := by decide +kernel
theorem dX9_trace_12 : decode cX9_trace 12 = .ok (.if_icmp .ge 9, 3) := by decide +kernel
def z_M : xM := m_106
theorem E0_MI : E0 z_M := ⟨by decide +kernel, by decide +kernel, by decide +kernel⟩
theorem mi_36 : ∀ j, j < 25 → z_M 36 j = 9 := by decide +kernel
theorem mi_37 : ∀ j, j < 25 → z_M 37 j = 0 := by decide +kernel
theorem mi_sh : ∀ j, j < 6 → z_M (50 + 2 * j) 0 = 0 ∧ z_M (50 + 2 * j) 3 = 0 := by decide +kernel
set_option maxRecDepth 100000 in
set_option maxHeartbeats 4000000 in
theorem p_settingOf (what : Int32) {l : Launch} {G : xG}  : x_M l G fX9_settingOf 0 0 0 [.ref (0), .int (what)] x_SH z_M x_J0 (qR (some (.int (if what = 10 then 1 else if what = 11 then 6 else if what = 12 then 0 else if what = 13 then 2 else if what = 14 then 1 else if what = 15 then 0 else -2000000000)))) := by
  refine xb_of pX9 (Nat.le_of_ble_eq_true rfl) rfl ?_
  refine xr_iload_n dX9_settingOf_0 1 rfl ?_
  by_cases n10 : what = 10
  · subst n10
    refine xr_tableIn (tgt := 40) dX9_settingOf_1 (by decide) (by decide) rfl rfl ?_
    refine xr_aload_n dX9_settingOf_40 0 rfl ?_
    refine xr_getR flX9_28 dX9_settingOf_41 s_0 rfl ?_
    refine xb_get (v := 1) flX9_410 dX9_settingOf_44 s_13 rfl (by decide +kernel) ?_
    exact xr_iret dX9_settingOf_47 rfl rfl (by first | rfl | (refine congrArg (fun z => some (Value.int z)) ?_; grind))
  by_cases n11 : what = 11
  · subst n11
    refine xr_tableIn (tgt := 48) dX9_settingOf_1 (by decide) (by decide) rfl rfl ?_
    refine xr_aload_n dX9_settingOf_48 0 rfl ?_
    refine xr_getR flX9_28 dX9_settingOf_49 s_0 rfl ?_
    refine xb_get (v := 6) flX9_202 dX9_settingOf_52 s_13 rfl (by decide +kernel) ?_
    exact xr_iret dX9_settingOf_55 rfl rfl (by first | rfl | (refine congrArg (fun z => some (Value.int z)) ?_; grind))
  by_cases n12 : what = 12
  · subst n12
    refine xr_tableIn (tgt := 56) dX9_settingOf_1 (by decide) (by decide) rfl rfl ?_
    refine xr_aload_n dX9_settingOf_56 0 rfl ?_
    refine xr_getR flX9_28 dX9_settingOf_57 s_0 rfl ?_
    refine xb_get (v := 0) flX9_205 dX9_settingOf_60 s_13 rfl (by decide +kernel) ?_
    exact xr_iret dX9_settingOf_63 rfl rfl (by first | rfl | (refine congrArg (fun z => some (Value.int z)) ?_; grind))
  by_cases n13 : what = 13
  · subst n13
    refine xr_tableIn (tgt := 64) dX9_settingOf_1 (by decide) (by decide) rfl rfl ?_
    refine xr_aload_n dX9_settingOf_64 0 rfl ?_
    refine xr_getR flX9_28 dX9_settingOf_65 s_0 rfl ?_
    refine xb_get (v := 2) flX9_208 dX9_settingOf_68 s_13 rfl (by decide +kernel) ?_
    exact xr_iret dX9_settingOf_71 rfl rfl (by first | rfl | (refine congrArg (fun z => some (Value.int z)) ?_; grind))
  by_cases n14 : what = 14
  · subst n14
    refine xr_tableIn (tgt := 72) dX9_settingOf_1 (by decide) (by decide) rfl rfl ?_
    refine xr_aload_n dX9_settingOf_72 0 rfl ?_
    refine xr_getR flX9_47 dX9_settingOf_73 s_0 rfl ?_
    refine xb_get (v := 1) flX9_413 dX9_settingOf_76 s_35 rfl (by decide +kernel) ?_
    exact xr_iret dX9_settingOf_79 rfl rfl (by first | rfl | (refine congrArg (fun z => some (Value.int z)) ?_; grind))
  by_cases n15 : what = 15
  · subst n15
    refine xr_tableIn (tgt := 80) dX9_settingOf_1 (by decide) (by decide) rfl rfl ?_
    refine xr_aload_n dX9_settingOf_80 0 rfl ?_
    refine xr_getR flX9_28 dX9_settingOf_81 s_0 rfl ?_
    refine xb_get (v := 0) flX9_303 dX9_settingOf_84 s_13 rfl (by decide +kernel) ?_
    exact xr_iret dX9_settingOf_87 rfl rfl (by first | rfl | (refine congrArg (fun z => some (Value.int z)) ?_; grind))
  refine xr_tableOut (tgt := 88) dX9_settingOf_1 (by have q10 := lv_neT (a := 10) n10 (by decide); have q11 := lv_neT (a := 11) n11 (by decide); have q12 := lv_neT (a := 12) n12 (by decide); have q13 := lv_neT (a := 13) n13 (by decide); have q14 := lv_neT (a := 14) n14 (by decide); have q15 := lv_neT (a := 15) n15 (by decide); omega) rfl ?_
  refine xr_ldc coX9_105 dX9_settingOf_88 ?_
  exact xr_iret dX9_settingOf_90 rfl rfl (by first | rfl | (refine congrArg (fun z => some (Value.int z)) ?_; grind))
set_option maxRecDepth 100000 in
set_option maxHeartbeats 4000000 in
theorem p_addHoop (a b c : Int32) {l : Launch} {G : xG}  : x_M l G fX5_addHoop 1 0 0 [.ref (13), .int (a), .int (b), .int (c)] x_SH z_M x_J0 (qR (some (.int 0))) := by
  refine xb_of pX5 (Nat.le_of_ble_eq_true rfl) rfl ?_
  refine xr_aload_n dX5_addHoop_0 0 rfl ?_
  refine xb_cV (As := []) (rest := []) mlX5_54 (c_X5_isFull s_13) dX5_addHoop_1 s_13 rfl rfl (Nat.le_of_ble_eq_true rfl) (by decide) (by decide) ?_
  refine xb_top (y := bI (5 ≤ (0 : Int32))) (x_bI_c (by rw [show z_M 13 2 = 0 from (by decide +kernel)])) ?_
  refine xb_beq (tgt := 10) dX5_addHoop_4 rfl (fun _ => ?_) (fun c => absurd c (by decide))
  refine xr_aload_n dX5_addHoop_10 0 rfl ?_
  refine xr_getR flX5_17 dX5_addHoop_11 s_13 rfl ?_
  refine xr_aload_n dX5_addHoop_14 0 rfl ?_
  refine xb_get (v := 0) flX5_35 dX5_addHoop_15 s_13 rfl (by decide +kernel) ?_
  refine xb_aald (j := 0) (q := 15) (by decide) dX5_addHoop_18 s_14 (by decide) (by decide) rfl ?_
  refine xr_astore (ls2 := [(4, .ref (15)), (0, .ref (13)), (1, .int (a)), (2, .int (b)), (3, .int (c))]) dX5_addHoop_19 (by decide) rfl ?_
  refine xr_aload dX5_addHoop_21 0 rfl ?_
  refine xr_iload_n dX5_addHoop_23 2 rfl ?_
  refine xr_putI fpX5_58 dX5_addHoop_24 s_15 rfl rfl rfl ?_
  refine xr_aload dX5_addHoop_27 0 rfl ?_
  refine xr_iload_n dX5_addHoop_29 3 rfl ?_
  refine xr_putI fpX5_61 dX5_addHoop_30 s_15 rfl rfl rfl ?_
  refine xr_aload dX5_addHoop_33 0 rfl ?_
  refine xb_cV (As := []) (rest := []) mlX5_64 (c_X2_raise s_15) dX5_addHoop_35 s_15 rfl rfl (Nat.le_of_ble_eq_true rfl) (by decide) (by decide) ?_
  refine xr_aload dX5_addHoop_38 0 rfl ?_
  refine xr_iload_n dX5_addHoop_40 4 rfl ?_
  refine xr_putI fpX5_67 dX5_addHoop_41 s_15 rfl rfl rfl ?_
  refine xr_aload_n dX5_addHoop_44 1 rfl ?_
  refine xr_dup dX5_addHoop_45 rfl ?_
  refine xb_get (v := 0) flX5_35 dX5_addHoop_46 s_13 rfl (Eq.trans (congrFun (x_up_n _ _ _ (by decide)) _) (Eq.trans (congrFun (x_up_n _ _ _ (by decide)) _) (Eq.trans (congrFun (x_up_n _ _ _ (by decide)) _) (Eq.trans (congrFun (x_up_n _ _ _ (by decide)) _) (Eq.trans (congrFun (x_up_n _ _ _ (by decide)) _) (Eq.trans (congrFun (x_up_n _ _ _ (by decide)) _) (by decide +kernel))))))) ?_
  refine xr_iconst (v := 1) dX5_addHoop_49 rfl ?_
  refine xr_iadd dX5_addHoop_50 ?_
  refine xb_top (y := 1) (by decide) ?_
  refine xr_putI fpX5_35 dX5_addHoop_51 s_13 rfl rfl rfl ?_
  refine xr_aload_n dX5_addHoop_54 1 rfl ?_
  refine xb_get (v := 1) flX5_35 dX5_addHoop_55 s_13 rfl (x_up_s _ _ _ _) ?_
  refine xr_iconst (v := 1) dX5_addHoop_58 rfl ?_
  refine xr_isub dX5_addHoop_59 ?_
  refine xb_top (y := 0) (by decide) ?_
  exact xr_iret dX5_addHoop_60 rfl rfl (by first | rfl | (refine congrArg (fun z => some (Value.int z)) ?_; grind))
set_option maxRecDepth 100000 in
set_option maxHeartbeats 4000000 in
theorem p_X9_hoop (sh : Int32) {l : Launch} {G : xG}  : x_M l G fX9_hoop 4 0 0 [.ref (0), .int (sh)] x_SH z_M x_J0 (qR (some (.int (if 0 ≤ sh ∧ (1 ≤ sh / 10 ∧ sh / 10 ≤ 9) ∧ (1 ≤ sh - sh / 10 * 10 ∧ sh - sh / 10 * 10 ≤ 9) then 0 else -1)))) := by
  refine xb_of pX9 (Nat.le_of_ble_eq_true rfl) rfl ?_
  refine xr_iload_n dX9_hoop_0 1 rfl ?_
  refine xr_if_lt (tgt := 24) dX9_hoop_1 rfl (fun c1 => ?_) (fun c1 => ?_)
  · refine xr_iconst (v := -1) dX9_hoop_24 rfl ?_
    exact xr_iret dX9_hoop_25 rfl rfl (by first | rfl | (refine congrArg (fun z => some (Value.int z)) ?_; grind))
  · refine xr_iload_n dX9_hoop_4 1 rfl ?_
    refine xr_bipush (v := 10) dX9_hoop_5 rfl ?_
    refine xr_idiv dX9_hoop_7 (by decide) ?_
    refine xb_cS (As := [.int ((sh / 10))]) (rest := []) mlX9_76 (c_X9_isWeight (sh / 10)) dX9_hoop_8 rfl rfl (Nat.le_of_ble_eq_true rfl) (by decide) (by decide) ?_
    refine xb_beq (tgt := 24) dX9_hoop_11 rfl (fun c2 => ?_) (fun c2 => ?_)
    · refine xr_iconst (v := -1) dX9_hoop_24 rfl ?_
      exact xr_iret dX9_hoop_25 rfl rfl (by first | rfl | (refine congrArg (fun z => some (Value.int z)) ?_; grind))
    · refine xr_iload_n dX9_hoop_14 1 rfl ?_
      refine xr_bipush (v := 10) dX9_hoop_15 rfl ?_
      refine xr_irem dX9_hoop_17 (by decide) ?_
      refine xb_cS (As := [.int ((sh - sh / 10 * 10))]) (rest := []) mlX9_76 (c_X9_isWeight (sh - sh / 10 * 10)) dX9_hoop_18 rfl rfl (Nat.le_of_ble_eq_true rfl) (by decide) (by decide) ?_
      refine xb_bne (tgt := 26) dX9_hoop_21 rfl (fun c3 => ?_) (fun c3 => ?_)
      · refine xr_aload_n dX9_hoop_26 0 rfl ?_
        refine xr_getR flX9_28 dX9_hoop_27 s_0 rfl ?_
        refine xb_cV (As := []) (rest := []) mlX9_80 (c_X5_isFull s_13) dX9_hoop_30 s_13 rfl rfl (Nat.le_of_ble_eq_true rfl) (by decide) (by decide) ?_
        refine xb_top (y := bI (5 ≤ (0 : Int32))) (x_bI_c (by rw [show z_M 13 2 = 0 from (by decide +kernel)])) ?_
        refine xb_beq (tgt := 39) dX9_hoop_33 rfl (fun _ => ?_) (fun c => absurd c (by decide))
        refine xr_aload_n dX9_hoop_39 0 rfl ?_
        refine xr_getR flX9_28 dX9_hoop_40 s_0 rfl ?_
        refine xr_iload_n dX9_hoop_43 1 rfl ?_
        refine xr_bipush (v := 10) dX9_hoop_44 rfl ?_
        refine xr_idiv dX9_hoop_46 (by decide) ?_
        refine xr_iload_n dX9_hoop_47 1 rfl ?_
        refine xr_bipush (v := 10) dX9_hoop_48 rfl ?_
        refine xr_irem dX9_hoop_50 (by decide) ?_
        refine xr_iconst (v := 4) dX9_hoop_51 rfl ?_
        refine xr_callV (As := [.int ((sh / 10)), .int ((sh - sh / 10 * 10)), .int (4)]) (rest := []) mlX9_84 (p_addHoop (sh / 10) (sh - sh / 10 * 10) 4) dX9_hoop_52 s_13 rfl rfl (Nat.le_of_ble_eq_true rfl) (by decide) ⟨by decide, by decide⟩ (fun v s2 M5 J2 hq => ?_)
        obtain rfl := hq
        try dsimp only [Option.toList, List.cons_append, List.nil_append]
        exact xr_iret dX9_hoop_55 rfl rfl (by first | rfl | (refine congrArg (fun z => some (Value.int z)) ?_; grind))
      · refine xr_iconst (v := -1) dX9_hoop_24 rfl ?_
        exact xr_iret dX9_hoop_25 rfl rfl (by first | rfl | (refine congrArg (fun z => some (Value.int z)) ?_; grind))
set_option maxRecDepth 100000 in
set_option maxHeartbeats 4000000 in
theorem p_X9_led (what : Int32) {l : Launch} {G : xG}  : x_M l G fX9_led 4 0 0 [.ref (0), .int (what)] x_SH z_M x_J0 (qR (some (.int (if what = 0 then 0 else if what = 1 then -2 else -1)))) := by
  refine xb_of pX9 (Nat.le_of_ble_eq_true rfl) rfl ?_
  refine xr_iload_n dX9_led_0 1 rfl ?_
  refine xr_if_ne (tgt := 12) dX9_led_1 rfl (fun c1 => ?_) (fun c1 => ?_)
  · refine xr_iload_n dX9_led_12 1 rfl ?_
    refine xr_iconst (v := 1) dX9_led_13 rfl ?_
    refine xr_icmp_ne (tgt := 27) dX9_led_14 rfl (fun c2 => ?_) (fun c2 => ?_)
    · refine xr_iconst (v := -1) dX9_led_27 rfl ?_
      exact xr_iret dX9_led_28 rfl rfl (by first | rfl | (refine congrArg (fun z => some (Value.int z)) ?_; grind))
    · refine xr_aload_n dX9_led_17 0 rfl ?_
      refine xr_getR flX9_28 dX9_led_18 s_0 rfl ?_
      refine xb_get (v := (-2)) flX9_176 dX9_led_21 s_13 rfl (by decide +kernel) ?_
      refine xr_goto (tgt := 28) dX9_led_24 rfl ?_
      exact xr_iret dX9_led_28 rfl rfl (by first | rfl | (refine congrArg (fun z => some (Value.int z)) ?_; grind))
  · refine xr_aload_n dX9_led_4 0 rfl ?_
    refine xr_getR flX9_28 dX9_led_5 s_0 rfl ?_
    refine xb_get (v := 0) flX9_173 dX9_led_8 s_13 rfl (by decide +kernel) ?_
    exact xr_iret dX9_led_11 rfl rfl (by first | rfl | (refine congrArg (fun z => some (Value.int z)) ?_; grind))
set_option maxRecDepth 100000 in
set_option maxHeartbeats 4000000 in
theorem p_X9_of (number what : Int32) {l : Launch} {G : xG}  : x_M l G fX9_of 4 0 0 [.ref (0), .int (number), .int (what)] x_SH z_M x_J0 (qR (some (.int (if number = 0 ∧ 10 ≤ what ∧ what ≤ 15 then (if what = 10 then 1 else if what = 11 then 6 else if what = 12 then 0 else if what = 13 then 2 else if what = 14 then 1 else 0) else if (0 ≤ number ∧ number < 25) ∧ what = 20 then 9 else if (0 ≤ number ∧ number < 25) ∧ what = 21 then 0 else -2000000000)))) := by
  refine xb_of pX9 (Nat.le_of_ble_eq_true rfl) rfl ?_
  refine xr_iload_n dX9_of_0 2 rfl ?_
  refine xr_if_lt (tgt := 39) dX9_of_1 rfl (fun c1 => ?_) (fun c1 => ?_)
  · refine xr_iload_n dX9_of_39 2 rfl ?_
    refine xr_bipush (v := 10) dX9_of_40 rfl ?_
    refine xr_icmp_lt (tgt := 66) dX9_of_42 rfl (fun c2 => ?_) (fun c2 => ?_)
    · refine xr_iload_n dX9_of_66 2 rfl ?_
      refine xr_bipush (v := 20) dX9_of_67 rfl ?_
      refine xr_icmp_eq (tgt := 78) dX9_of_69 rfl (fun c3 => ?_) (fun c3 => ?_)
      · refine xr_iload_n dX9_of_78 1 rfl ?_
        refine xb_cS (As := [.int (number)]) (rest := []) mlX9_134 (c_X9_isGirl number) dX9_of_79 rfl rfl (Nat.le_of_ble_eq_true rfl) (by decide) (by decide) ?_
        refine xb_beq (tgt := 113) dX9_of_82 rfl (fun c4 => ?_) (fun c4 => ?_)
        · refine xr_ldc coX9_105 dX9_of_113 ?_
          exact xr_iret dX9_of_115 rfl rfl (by first | rfl | (refine congrArg (fun z => some (Value.int z)) ?_; grind))
        · obtain ⟨j, hj, rfl⟩ := x_nat (N := 25) (by decide) rfl c4
          refine xr_iload_n dX9_of_85 2 rfl ?_
          refine xr_bipush (v := 20) dX9_of_86 rfl ?_
          refine xr_icmp_ne (tgt := 103) dX9_of_88 rfl (fun c5 => ?_) (fun c5 => ?_)
          · refine xr_aload_n dX9_of_103 0 rfl ?_
            refine xr_getR flX9_47 dX9_of_104 s_0 rfl ?_
            refine xr_getR flX9_141 dX9_of_107 s_35 rfl ?_
            refine xr_iload_n dX9_of_110 1 rfl ?_
            refine xb_iald (j := j) (v := 0) dX9_of_111 s_37 hj (by decide) (mi_37 j hj) ?_
            exact xr_iret dX9_of_112 rfl rfl (by first | rfl | (refine congrArg (fun z => some (Value.int z)) ?_; grind))
          · refine xr_aload_n dX9_of_91 0 rfl ?_
            refine xr_getR flX9_47 dX9_of_92 s_0 rfl ?_
            refine xr_getR flX9_137 dX9_of_95 s_35 rfl ?_
            refine xr_iload_n dX9_of_98 1 rfl ?_
            refine xb_iald (j := j) (v := 9) dX9_of_99 s_36 hj (by decide) (mi_36 j hj) ?_
            refine xr_goto (tgt := 112) dX9_of_100 rfl ?_
            exact xr_iret dX9_of_112 rfl rfl (by first | rfl | (refine congrArg (fun z => some (Value.int z)) ?_; grind))
      · refine xr_iload_n dX9_of_72 2 rfl ?_
        refine xr_bipush (v := 21) dX9_of_73 rfl ?_
        refine xr_icmp_ne (tgt := 113) dX9_of_75 rfl (fun c6 => ?_) (fun c6 => ?_)
        · refine xr_ldc coX9_105 dX9_of_113 ?_
          exact xr_iret dX9_of_115 rfl rfl (by first | rfl | (refine congrArg (fun z => some (Value.int z)) ?_; grind))
        · refine xr_iload_n dX9_of_78 1 rfl ?_
          refine xb_cS (As := [.int (number)]) (rest := []) mlX9_134 (c_X9_isGirl number) dX9_of_79 rfl rfl (Nat.le_of_ble_eq_true rfl) (by decide) (by decide) ?_
          refine xb_beq (tgt := 113) dX9_of_82 rfl (fun c7 => ?_) (fun c7 => ?_)
          · refine xr_ldc coX9_105 dX9_of_113 ?_
            exact xr_iret dX9_of_115 rfl rfl (by first | rfl | (refine congrArg (fun z => some (Value.int z)) ?_; grind))
          · obtain ⟨j, hj, rfl⟩ := x_nat (N := 25) (by decide) rfl c7
            refine xr_iload_n dX9_of_85 2 rfl ?_
            refine xr_bipush (v := 20) dX9_of_86 rfl ?_
            refine xr_icmp_ne (tgt := 103) dX9_of_88 rfl (fun c8 => ?_) (fun c8 => ?_)
            · refine xr_aload_n dX9_of_103 0 rfl ?_
              refine xr_getR flX9_47 dX9_of_104 s_0 rfl ?_
              refine xr_getR flX9_141 dX9_of_107 s_35 rfl ?_
              refine xr_iload_n dX9_of_110 1 rfl ?_
              refine xb_iald (j := j) (v := 0) dX9_of_111 s_37 hj (by decide) (mi_37 j hj) ?_
              exact xr_iret dX9_of_112 rfl rfl (by first | rfl | (refine congrArg (fun z => some (Value.int z)) ?_; grind))
            · refine xr_aload_n dX9_of_91 0 rfl ?_
              refine xr_getR flX9_47 dX9_of_92 s_0 rfl ?_
              refine xr_getR flX9_137 dX9_of_95 s_35 rfl ?_
              refine xr_iload_n dX9_of_98 1 rfl ?_
              refine xb_iald (j := j) (v := 9) dX9_of_99 s_36 hj (by decide) (mi_36 j hj) ?_
              refine xr_goto (tgt := 112) dX9_of_100 rfl ?_
              exact xr_iret dX9_of_112 rfl rfl (by first | rfl | (refine congrArg (fun z => some (Value.int z)) ?_; grind))
    · refine xr_iload_n dX9_of_45 2 rfl ?_
      refine xr_bipush (v := 15) dX9_of_46 rfl ?_
      refine xr_icmp_gt (tgt := 66) dX9_of_48 rfl (fun c9 => ?_) (fun c9 => ?_)
      · refine xr_iload_n dX9_of_66 2 rfl ?_
        refine xr_bipush (v := 20) dX9_of_67 rfl ?_
        refine xr_icmp_eq (tgt := 78) dX9_of_69 rfl (fun c10 => ?_) (fun c10 => ?_)
        · refine xr_iload_n dX9_of_78 1 rfl ?_
          refine xb_cS (As := [.int (number)]) (rest := []) mlX9_134 (c_X9_isGirl number) dX9_of_79 rfl rfl (Nat.le_of_ble_eq_true rfl) (by decide) (by decide) ?_
          refine xb_beq (tgt := 113) dX9_of_82 rfl (fun c11 => ?_) (fun c11 => ?_)
          · refine xr_ldc coX9_105 dX9_of_113 ?_
            exact xr_iret dX9_of_115 rfl rfl (by first | rfl | (refine congrArg (fun z => some (Value.int z)) ?_; grind))
          · obtain ⟨j, hj, rfl⟩ := x_nat (N := 25) (by decide) rfl c11
            refine xr_iload_n dX9_of_85 2 rfl ?_
            refine xr_bipush (v := 20) dX9_of_86 rfl ?_
            refine xr_icmp_ne (tgt := 103) dX9_of_88 rfl (fun c12 => ?_) (fun c12 => ?_)
            · refine xr_aload_n dX9_of_103 0 rfl ?_
              refine xr_getR flX9_47 dX9_of_104 s_0 rfl ?_
              refine xr_getR flX9_141 dX9_of_107 s_35 rfl ?_
              refine xr_iload_n dX9_of_110 1 rfl ?_
              refine xb_iald (j := j) (v := 0) dX9_of_111 s_37 hj (by decide) (mi_37 j hj) ?_
              exact xr_iret dX9_of_112 rfl rfl (by first | rfl | (refine congrArg (fun z => some (Value.int z)) ?_; grind))
            · refine xr_aload_n dX9_of_91 0 rfl ?_
              refine xr_getR flX9_47 dX9_of_92 s_0 rfl ?_
              refine xr_getR flX9_137 dX9_of_95 s_35 rfl ?_
              refine xr_iload_n dX9_of_98 1 rfl ?_
              refine xb_iald (j := j) (v := 9) dX9_of_99 s_36 hj (by decide) (mi_36 j hj) ?_
              refine xr_goto (tgt := 112) dX9_of_100 rfl ?_
              exact xr_iret dX9_of_112 rfl rfl (by first | rfl | (refine congrArg (fun z => some (Value.int z)) ?_; grind))
        · refine xr_iload_n dX9_of_72 2 rfl ?_
          refine xr_bipush (v := 21) dX9_of_73 rfl ?_
          refine xr_icmp_ne (tgt := 113) dX9_of_75 rfl (fun c13 => ?_) (fun c13 => ?_)
          · refine xr_ldc coX9_105 dX9_of_113 ?_
            exact xr_iret dX9_of_115 rfl rfl (by first | rfl | (refine congrArg (fun z => some (Value.int z)) ?_; grind))
          · refine xr_iload_n dX9_of_78 1 rfl ?_
            refine xb_cS (As := [.int (number)]) (rest := []) mlX9_134 (c_X9_isGirl number) dX9_of_79 rfl rfl (Nat.le_of_ble_eq_true rfl) (by decide) (by decide) ?_
            refine xb_beq (tgt := 113) dX9_of_82 rfl (fun c14 => ?_) (fun c14 => ?_)
            · refine xr_ldc coX9_105 dX9_of_113 ?_
              exact xr_iret dX9_of_115 rfl rfl (by first | rfl | (refine congrArg (fun z => some (Value.int z)) ?_; grind))
            · obtain ⟨j, hj, rfl⟩ := x_nat (N := 25) (by decide) rfl c14
              refine xr_iload_n dX9_of_85 2 rfl ?_
              refine xr_bipush (v := 20) dX9_of_86 rfl ?_
              refine xr_icmp_ne (tgt := 103) dX9_of_88 rfl (fun c15 => ?_) (fun c15 => ?_)
              · refine xr_aload_n dX9_of_103 0 rfl ?_
                refine xr_getR flX9_47 dX9_of_104 s_0 rfl ?_
                refine xr_getR flX9_141 dX9_of_107 s_35 rfl ?_
                refine xr_iload_n dX9_of_110 1 rfl ?_
                refine xb_iald (j := j) (v := 0) dX9_of_111 s_37 hj (by decide) (mi_37 j hj) ?_
                exact xr_iret dX9_of_112 rfl rfl (by first | rfl | (refine congrArg (fun z => some (Value.int z)) ?_; grind))
              · refine xr_aload_n dX9_of_91 0 rfl ?_
                refine xr_getR flX9_47 dX9_of_92 s_0 rfl ?_
                refine xr_getR flX9_137 dX9_of_95 s_35 rfl ?_
                refine xr_iload_n dX9_of_98 1 rfl ?_
                refine xb_iald (j := j) (v := 9) dX9_of_99 s_36 hj (by decide) (mi_36 j hj) ?_
                refine xr_goto (tgt := 112) dX9_of_100 rfl ?_
                exact xr_iret dX9_of_112 rfl rfl (by first | rfl | (refine congrArg (fun z => some (Value.int z)) ?_; grind))
      · refine xr_iload_n dX9_of_51 1 rfl ?_
        refine xr_if_ne (tgt := 63) dX9_of_52 rfl (fun c16 => ?_) (fun c16 => ?_)
        · refine xr_ldc coX9_105 dX9_of_63 ?_
          exact xr_iret dX9_of_65 rfl rfl (by first | rfl | (refine congrArg (fun z => some (Value.int z)) ?_; grind))
        · refine xr_aload_n dX9_of_55 0 rfl ?_
          refine xr_iload_n dX9_of_56 2 rfl ?_
          refine xr_callV (As := [.int (what)]) (rest := []) mlX9_131 (p_settingOf what) dX9_of_57 s_0 rfl rfl (Nat.le_of_ble_eq_true rfl) (by decide) ⟨by decide, by decide⟩ (fun v s2 M17 J2 hq => ?_)
          obtain rfl := hq
          try dsimp only [Option.toList, List.cons_append, List.nil_append]
          refine xr_goto (tgt := 65) dX9_of_60 rfl ?_
          exact xr_iret dX9_of_65 rfl rfl (by first | rfl | (refine congrArg (fun z => some (Value.int z)) ?_; grind))
  · refine xr_iload_n dX9_of_4 2 rfl ?_
    refine xr_iconst (v := 5) dX9_of_5 rfl ?_
    refine xr_icmp_gt (tgt := 39) dX9_of_6 rfl (fun c18 => ?_) (fun c18 => ?_)
    · refine xr_iload_n dX9_of_39 2 rfl ?_
      refine xr_bipush (v := 10) dX9_of_40 rfl ?_
      refine xr_icmp_lt (tgt := 66) dX9_of_42 rfl (fun c19 => ?_) (fun c19 => ?_)
      · refine xr_iload_n dX9_of_66 2 rfl ?_
        refine xr_bipush (v := 20) dX9_of_67 rfl ?_
        refine xr_icmp_eq (tgt := 78) dX9_of_69 rfl (fun c20 => ?_) (fun c20 => ?_)
        · refine xr_iload_n dX9_of_78 1 rfl ?_
          refine xb_cS (As := [.int (number)]) (rest := []) mlX9_134 (c_X9_isGirl number) dX9_of_79 rfl rfl (Nat.le_of_ble_eq_true rfl) (by decide) (by decide) ?_
          refine xb_beq (tgt := 113) dX9_of_82 rfl (fun c21 => ?_) (fun c21 => ?_)
          · refine xr_ldc coX9_105 dX9_of_113 ?_
            exact xr_iret dX9_of_115 rfl rfl (by first | rfl | (refine congrArg (fun z => some (Value.int z)) ?_; grind))
          · obtain ⟨j, hj, rfl⟩ := x_nat (N := 25) (by decide) rfl c21
            refine xr_iload_n dX9_of_85 2 rfl ?_
            refine xr_bipush (v := 20) dX9_of_86 rfl ?_
            refine xr_icmp_ne (tgt := 103) dX9_of_88 rfl (fun c22 => ?_) (fun c22 => ?_)
            · refine xr_aload_n dX9_of_103 0 rfl ?_
              refine xr_getR flX9_47 dX9_of_104 s_0 rfl ?_
              refine xr_getR flX9_141 dX9_of_107 s_35 rfl ?_
              refine xr_iload_n dX9_of_110 1 rfl ?_
              refine xb_iald (j := j) (v := 0) dX9_of_111 s_37 hj (by decide) (mi_37 j hj) ?_
              exact xr_iret dX9_of_112 rfl rfl (by first | rfl | (refine congrArg (fun z => some (Value.int z)) ?_; grind))
            · refine xr_aload_n dX9_of_91 0 rfl ?_
              refine xr_getR flX9_47 dX9_of_92 s_0 rfl ?_
              refine xr_getR flX9_137 dX9_of_95 s_35 rfl ?_
              refine xr_iload_n dX9_of_98 1 rfl ?_
              refine xb_iald (j := j) (v := 9) dX9_of_99 s_36 hj (by decide) (mi_36 j hj) ?_
              refine xr_goto (tgt := 112) dX9_of_100 rfl ?_
              exact xr_iret dX9_of_112 rfl rfl (by first | rfl | (refine congrArg (fun z => some (Value.int z)) ?_; grind))
        · refine xr_iload_n dX9_of_72 2 rfl ?_
          refine xr_bipush (v := 21) dX9_of_73 rfl ?_
          refine xr_icmp_ne (tgt := 113) dX9_of_75 rfl (fun c23 => ?_) (fun c23 => ?_)
          · refine xr_ldc coX9_105 dX9_of_113 ?_
            exact xr_iret dX9_of_115 rfl rfl (by first | rfl | (refine congrArg (fun z => some (Value.int z)) ?_; grind))
          · refine xr_iload_n dX9_of_78 1 rfl ?_
            refine xb_cS (As := [.int (number)]) (rest := []) mlX9_134 (c_X9_isGirl number) dX9_of_79 rfl rfl (Nat.le_of_ble_eq_true rfl) (by decide) (by decide) ?_
            refine xb_beq (tgt := 113) dX9_of_82 rfl (fun c24 => ?_) (fun c24 => ?_)
            · refine xr_ldc coX9_105 dX9_of_113 ?_
              exact xr_iret dX9_of_115 rfl rfl (by first | rfl | (refine congrArg (fun z => some (Value.int z)) ?_; grind))
            · obtain ⟨j, hj, rfl⟩ := x_nat (N := 25) (by decide) rfl c24
              refine xr_iload_n dX9_of_85 2 rfl ?_
              refine xr_bipush (v := 20) dX9_of_86 rfl ?_
              refine xr_icmp_ne (tgt := 103) dX9_of_88 rfl (fun c25 => ?_) (fun c25 => ?_)
              · refine xr_aload_n dX9_of_103 0 rfl ?_
                refine xr_getR flX9_47 dX9_of_104 s_0 rfl ?_
                refine xr_getR flX9_141 dX9_of_107 s_35 rfl ?_
                refine xr_iload_n dX9_of_110 1 rfl ?_
                refine xb_iald (j := j) (v := 0) dX9_of_111 s_37 hj (by decide) (mi_37 j hj) ?_
                exact xr_iret dX9_of_112 rfl rfl (by first | rfl | (refine congrArg (fun z => some (Value.int z)) ?_; grind))
              · refine xr_aload_n dX9_of_91 0 rfl ?_
                refine xr_getR flX9_47 dX9_of_92 s_0 rfl ?_
                refine xr_getR flX9_137 dX9_of_95 s_35 rfl ?_
                refine xr_iload_n dX9_of_98 1 rfl ?_
                refine xb_iald (j := j) (v := 9) dX9_of_99 s_36 hj (by decide) (mi_36 j hj) ?_
                refine xr_goto (tgt := 112) dX9_of_100 rfl ?_
                exact xr_iret dX9_of_112 rfl rfl (by first | rfl | (refine congrArg (fun z => some (Value.int z)) ?_; grind))
      · refine xr_iload_n dX9_of_45 2 rfl ?_
        refine xr_bipush (v := 15) dX9_of_46 rfl ?_
        refine xr_icmp_gt (tgt := 66) dX9_of_48 rfl (fun c26 => ?_) (fun c26 => ?_)
        · refine xr_iload_n dX9_of_66 2 rfl ?_
          refine xr_bipush (v := 20) dX9_of_67 rfl ?_
          refine xr_icmp_eq (tgt := 78) dX9_of_69 rfl (fun c27 => ?_) (fun c27 => ?_)
          · refine xr_iload_n dX9_of_78 1 rfl ?_
            refine xb_cS (As := [.int (number)]) (rest := []) mlX9_134 (c_X9_isGirl number) dX9_of_79 rfl rfl (Nat.le_of_ble_eq_true rfl) (by decide) (by decide) ?_
            refine xb_beq (tgt := 113) dX9_of_82 rfl (fun c28 => ?_) (fun c28 => ?_)
            · refine xr_ldc coX9_105 dX9_of_113 ?_
              exact xr_iret dX9_of_115 rfl rfl (by first | rfl | (refine congrArg (fun z => some (Value.int z)) ?_; grind))
            · obtain ⟨j, hj, rfl⟩ := x_nat (N := 25) (by decide) rfl c28
              refine xr_iload_n dX9_of_85 2 rfl ?_
              refine xr_bipush (v := 20) dX9_of_86 rfl ?_
              refine xr_icmp_ne (tgt := 103) dX9_of_88 rfl (fun c29 => ?_) (fun c29 => ?_)
              · refine xr_aload_n dX9_of_103 0 rfl ?_
                refine xr_getR flX9_47 dX9_of_104 s_0 rfl ?_
                refine xr_getR flX9_141 dX9_of_107 s_35 rfl ?_
                refine xr_iload_n dX9_of_110 1 rfl ?_
                refine xb_iald (j := j) (v := 0) dX9_of_111 s_37 hj (by decide) (mi_37 j hj) ?_
                exact xr_iret dX9_of_112 rfl rfl (by first | rfl | (refine congrArg (fun z => some (Value.int z)) ?_; grind))
              · refine xr_aload_n dX9_of_91 0 rfl ?_
                refine xr_getR flX9_47 dX9_of_92 s_0 rfl ?_
                refine xr_getR flX9_137 dX9_of_95 s_35 rfl ?_
                refine xr_iload_n dX9_of_98 1 rfl ?_
                refine xb_iald (j := j) (v := 9) dX9_of_99 s_36 hj (by decide) (mi_36 j hj) ?_
                refine xr_goto (tgt := 112) dX9_of_100 rfl ?_
                exact xr_iret dX9_of_112 rfl rfl (by first | rfl | (refine congrArg (fun z => some (Value.int z)) ?_; grind))
          · refine xr_iload_n dX9_of_72 2 rfl ?_
            refine xr_bipush (v := 21) dX9_of_73 rfl ?_
            refine xr_icmp_ne (tgt := 113) dX9_of_75 rfl (fun c30 => ?_) (fun c30 => ?_)
            · refine xr_ldc coX9_105 dX9_of_113 ?_
              exact xr_iret dX9_of_115 rfl rfl (by first | rfl | (refine congrArg (fun z => some (Value.int z)) ?_; grind))
            · refine xr_iload_n dX9_of_78 1 rfl ?_
              refine xb_cS (As := [.int (number)]) (rest := []) mlX9_134 (c_X9_isGirl number) dX9_of_79 rfl rfl (Nat.le_of_ble_eq_true rfl) (by decide) (by decide) ?_
              refine xb_beq (tgt := 113) dX9_of_82 rfl (fun c31 => ?_) (fun c31 => ?_)
              · refine xr_ldc coX9_105 dX9_of_113 ?_
                exact xr_iret dX9_of_115 rfl rfl (by first | rfl | (refine congrArg (fun z => some (Value.int z)) ?_; grind))
              · obtain ⟨j, hj, rfl⟩ := x_nat (N := 25) (by decide) rfl c31
                refine xr_iload_n dX9_of_85 2 rfl ?_
                refine xr_bipush (v := 20) dX9_of_86 rfl ?_
                refine xr_icmp_ne (tgt := 103) dX9_of_88 rfl (fun c32 => ?_) (fun c32 => ?_)
                · refine xr_aload_n dX9_of_103 0 rfl ?_
                  refine xr_getR flX9_47 dX9_of_104 s_0 rfl ?_
                  refine xr_getR flX9_141 dX9_of_107 s_35 rfl ?_
                  refine xr_iload_n dX9_of_110 1 rfl ?_
                  refine xb_iald (j := j) (v := 0) dX9_of_111 s_37 hj (by decide) (mi_37 j hj) ?_
                  exact xr_iret dX9_of_112 rfl rfl (by first | rfl | (refine congrArg (fun z => some (Value.int z)) ?_; grind))
                · refine xr_aload_n dX9_of_91 0 rfl ?_
                  refine xr_getR flX9_47 dX9_of_92 s_0 rfl ?_
                  refine xr_getR flX9_137 dX9_of_95 s_35 rfl ?_
                  refine xr_iload_n dX9_of_98 1 rfl ?_
                  refine xb_iald (j := j) (v := 9) dX9_of_99 s_36 hj (by decide) (mi_36 j hj) ?_
                  refine xr_goto (tgt := 112) dX9_of_100 rfl ?_
                  exact xr_iret dX9_of_112 rfl rfl (by first | rfl | (refine congrArg (fun z => some (Value.int z)) ?_; grind))
        · refine xr_iload_n dX9_of_51 1 rfl ?_
          refine xr_if_ne (tgt := 63) dX9_of_52 rfl (fun c33 => ?_) (fun c33 => ?_)
          · refine xr_ldc coX9_105 dX9_of_63 ?_
            exact xr_iret dX9_of_65 rfl rfl (by first | rfl | (refine congrArg (fun z => some (Value.int z)) ?_; grind))
          · refine xr_aload_n dX9_of_55 0 rfl ?_
            refine xr_iload_n dX9_of_56 2 rfl ?_
            refine xr_callV (As := [.int (what)]) (rest := []) mlX9_131 (p_settingOf what) dX9_of_57 s_0 rfl rfl (Nat.le_of_ble_eq_true rfl) (by decide) ⟨by decide, by decide⟩ (fun v s2 M34 J2 hq => ?_)
            obtain rfl := hq
            try dsimp only [Option.toList, List.cons_append, List.nil_append]
            refine xr_goto (tgt := 65) dX9_of_60 rfl ?_
            exact xr_iret dX9_of_65 rfl rfl (by first | rfl | (refine congrArg (fun z => some (Value.int z)) ?_; grind))
    · refine xr_aload_n dX9_of_9 0 rfl ?_
      refine xr_getR flX9_28 dX9_of_10 s_0 rfl ?_
      refine xr_iload_n dX9_of_13 1 rfl ?_
      refine xb_cV (As := [.int (number)]) (rest := []) mlX9_118 (c_X5_has number s_13) dX9_of_14 s_13 rfl rfl (Nat.le_of_ble_eq_true rfl) (by decide) (by decide) ?_
      refine xb_top (y := bI (0 ≤ number ∧ number < 0)) (x_bI_c (by rw [show z_M 13 2 = 0 from (by decide +kernel)])) ?_
      refine xb_beq (tgt := 36) dX9_of_17 rfl (fun _ => ?_) (fun c => absurd c (by grind))
      refine xr_ldc coX9_105 dX9_of_36 ?_
      exact xr_iret dX9_of_38 rfl rfl (by first | rfl | (refine congrArg (fun z => some (Value.int z)) ?_; grind))
set_option maxRecDepth 100000 in
set_option maxHeartbeats 4000000 in
theorem p_X9_lift (hoop : Int32) {l : Launch} {G : xG}  : x_M l G fX9_lift 4 0 0 [.ref (0), .int (hoop)] x_SH z_M x_J0 (qR (some (.int (-1)))) := by
  refine xb_of pX9 (Nat.le_of_ble_eq_true rfl) rfl ?_
  refine xr_aload_n dX9_lift_0 0 rfl ?_
  refine xr_getR flX9_28 dX9_lift_1 s_0 rfl ?_
  refine xr_iload_n dX9_lift_4 1 rfl ?_
  refine xb_cV (As := [.int (hoop)]) (rest := []) mlX9_118 (c_X5_has hoop s_13) dX9_lift_5 s_13 rfl rfl (Nat.le_of_ble_eq_true rfl) (by decide) (by decide) ?_
  refine xb_top (y := bI (0 ≤ hoop ∧ hoop < 0)) (x_bI_c (by rw [show z_M 13 2 = 0 from (by decide +kernel)])) ?_
  refine xb_bne (tgt := 13) dX9_lift_8 rfl (fun c => absurd c (by grind)) (fun _ => ?_)
  refine xr_iconst (v := -1) dX9_lift_11 rfl ?_
  exact xr_iret dX9_lift_12 rfl rfl (by first | rfl | (refine congrArg (fun z => some (Value.int z)) ?_; grind))
set_option maxRecDepth 100000 in
set_option maxHeartbeats 4000000 in
theorem p_X9_then (hoop k what : Int32) {l : Launch} {G : xG}  : x_M l G fX9_then 4 0 0 [.ref (0), .int (hoop), .int (k), .int (what)] x_SH z_M x_J0 (qR (some (.int (-2000000000)))) := by
  refine xb_of pX9 (Nat.le_of_ble_eq_true rfl) rfl ?_
  refine xr_aload_n dX9_then_0 0 rfl ?_
  refine xr_getR flX9_28 dX9_then_1 s_0 rfl ?_
  refine xr_iload_n dX9_then_4 1 rfl ?_
  refine xb_cV (As := [.int (hoop)]) (rest := []) mlX9_118 (c_X5_has hoop s_13) dX9_then_5 s_13 rfl rfl (Nat.le_of_ble_eq_true rfl) (by decide) (by decide) ?_
  refine xb_top (y := bI (0 ≤ hoop ∧ hoop < 0)) (x_bI_c (by rw [show z_M 13 2 = 0 from (by decide +kernel)])) ?_
  refine xb_beq (tgt := 31) dX9_then_8 rfl (fun _ => ?_) (fun c => absurd c (by grind))
  refine xr_ldc coX9_105 dX9_then_31 ?_
  exact xr_iret dX9_then_33 rfl rfl (by first | rfl | (refine congrArg (fun z => some (Value.int z)) ?_; grind))
set_option maxRecDepth 100000 in
set_option maxHeartbeats 4000000 in
theorem p_X9_falls (hoop : Int32) {l : Launch} {G : xG}  : x_M l G fX9_falls 4 0 0 [.ref (0), .int (hoop)] x_SH z_M x_J0 (qR (some (.int (-1)))) := by
  refine xb_of pX9 (Nat.le_of_ble_eq_true rfl) rfl ?_
  refine xr_aload_n dX9_falls_0 0 rfl ?_
  refine xr_getR flX9_28 dX9_falls_1 s_0 rfl ?_
  refine xr_iload_n dX9_falls_4 1 rfl ?_
  refine xb_cV (As := [.int (hoop)]) (rest := []) mlX9_118 (c_X5_has hoop s_13) dX9_falls_5 s_13 rfl rfl (Nat.le_of_ble_eq_true rfl) (by decide) (by decide) ?_
  refine xb_top (y := bI (0 ≤ hoop ∧ hoop < 0)) (x_bI_c (by rw [show z_M 13 2 = 0 from (by decide +kernel)])) ?_
  refine xb_bne (tgt := 13) dX9_falls_8 rfl (fun c => absurd c (by grind)) (fun _ => ?_)
  refine xr_iconst (v := -1) dX9_falls_11 rfl ?_
  exact xr_iret dX9_falls_12 rfl rfl (by first | rfl | (refine congrArg (fun z => some (Value.int z)) ?_; grind))
set_option maxRecDepth 100000 in
set_option maxHeartbeats 4000000 in
theorem p_X9_lasts {l : Launch} {G : xG}  : x_M l G fX9_lasts 4 0 0 [.ref (0)] x_SH z_M x_J0 (qR (some (.int 200))) := by
  refine xb_of pX9 (Nat.le_of_ble_eq_true rfl) rfl ?_
  refine xr_aload_n dX9_lasts_0 0 rfl ?_
  refine xr_getR flX9_40 dX9_lasts_1 s_0 rfl ?_
  refine xr_callV (As := []) (rest := []) mlX9_192 (c0_begin E0_MI) dX9_lasts_4 s_27 rfl rfl (Nat.le_of_ble_eq_true rfl) (by decide) ⟨by decide, by decide⟩ (fun v s2 M1 J2 hq => ?_)
  obtain ⟨rfl, rfl, rfl, e2⟩ := hq
  try dsimp only [Option.toList, List.cons_append, List.nil_append]
  refine xr_aload_n dX9_lasts_7 0 rfl ?_
  refine xr_getR flX9_40 dX9_lasts_8 s_0 rfl ?_
  refine xr_callV (As := []) (rest := []) mlX9_198 (c0_lasting e2) dX9_lasts_11 s_27 rfl rfl (Nat.le_of_ble_eq_true rfl) (by decide) ⟨by decide, by decide⟩ (fun v s2 M3 J2 hq => ?_)
  obtain ⟨rfl, rfl, rfl, e4⟩ := hq
  try dsimp only [Option.toList, List.cons_append, List.nil_append]
  exact xr_iret dX9_lasts_14 rfl rfl (by first | rfl | (refine congrArg (fun z => some (Value.int z)) ?_; grind))
set_option maxRecDepth 100000 in
set_option maxHeartbeats 4000000 in
theorem p_X9_leastPush (n : Int32) {l : Launch} {G : xG}  : x_M l G fX9_leastPush 4 0 0 [.ref (0), .int (n)] x_SH z_M x_J0 (qR (some (.int (if 1 ≤ n ∧ n ≤ 200 then 0 else -1)))) := by
  refine xb_of pX9 (Nat.le_of_ble_eq_true rfl) rfl ?_
  refine xr_iload_n dX9_leastPush_0 1 rfl ?_
  refine xr_iconst (v := 1) dX9_leastPush_1 rfl ?_
  refine xr_icmp_lt (tgt := 12) dX9_leastPush_2 rfl (fun c1 => ?_) (fun c1 => ?_)
  · refine xr_iconst (v := -1) dX9_leastPush_12 rfl ?_
    exact xr_iret dX9_leastPush_13 rfl rfl (by first | rfl | (refine congrArg (fun z => some (Value.int z)) ?_; grind))
  · refine xr_iload_n dX9_leastPush_5 1 rfl ?_
    refine xr_sipush (v := 200) dX9_leastPush_6 rfl ?_
    refine xr_icmp_le (tgt := 14) dX9_leastPush_9 rfl (fun c2 => ?_) (fun c2 => ?_)
    · refine xr_iconst (v := 0) dX9_leastPush_14 rfl ?_
      refine xr_istore_n (ls2 := [(2, .int (0)), (0, .ref (0)), (1, .int (n))]) dX9_leastPush_15 (by decide) rfl ?_
      refine xr_iload_n dX9_leastPush_16 0 rfl ?_
      refine xr_iconst (v := 5) dX9_leastPush_17 rfl ?_
      refine xr_icmp_gt (tgt := 58) dX9_leastPush_18 rfl (fun c => absurd c (by decide)) (fun _ => ?_)
      refine xr_aload_n dX9_leastPush_21 1 rfl ?_
      refine xr_getR flX9_40 dX9_leastPush_22 s_0 rfl ?_
      refine xr_callV (As := []) (rest := []) mlX9_192 (c0_begin E0_MI) dX9_leastPush_25 s_27 rfl rfl (Nat.le_of_ble_eq_true rfl) (by decide) ⟨by decide, by decide⟩ (fun v s2 M3 J2 hq => ?_)
      obtain ⟨rfl, rfl, rfl, e4⟩ := hq
      try dsimp only [Option.toList, List.cons_append, List.nil_append]
      refine xr_aload_n dX9_leastPush_28 1 rfl ?_
      refine xr_getR flX9_40 dX9_leastPush_29 s_0 rfl ?_
      refine xr_getR flX9_201 dX9_leastPush_32 s_27 rfl ?_
      refine xr_iload_n dX9_leastPush_35 0 rfl ?_
      refine xr_putI fpX9_208 dX9_leastPush_36 s_28 rfl rfl rfl ?_
      refine xr_aload_n dX9_leastPush_39 1 rfl ?_
      refine xr_getR flX9_40 dX9_leastPush_40 s_0 rfl ?_
      refine xr_callV (As := []) (rest := []) mlX9_198 (c0_lasting (E0_up0 e4)) dX9_leastPush_43 s_27 rfl rfl (Nat.le_of_ble_eq_true rfl) (by decide) ⟨by decide, by decide⟩ (fun v s2 M5 J2 hq => ?_)
      obtain ⟨rfl, rfl, rfl, e6⟩ := hq
      try dsimp only [Option.toList, List.cons_append, List.nil_append]
      refine xr_iload_n dX9_leastPush_46 2 rfl ?_
      refine xr_icmp_lt (tgt := 52) dX9_leastPush_47 rfl (fun c7 => ?_) (fun c7 => ?_)
      · refine xr_iinc (v := 1) (ls2 := [(2, .int (1)), (0, .ref (0)), (1, .int (n))]) dX9_leastPush_52 0 rfl rfl (by decide) rfl ?_
        refine xr_goto (tgt := 16) dX9_leastPush_55 rfl ?_
        refine xr_iload_n dX9_leastPush_16 0 rfl ?_
        refine xr_iconst (v := 5) dX9_leastPush_17 rfl ?_
        refine xr_icmp_gt (tgt := 58) dX9_leastPush_18 rfl (fun c => absurd c (by decide)) (fun _ => ?_)
        refine xr_aload_n dX9_leastPush_21 1 rfl ?_
        refine xr_getR flX9_40 dX9_leastPush_22 s_0 rfl ?_
        refine xr_callV (As := []) (rest := []) mlX9_192 (c0_begin e6) dX9_leastPush_25 s_27 rfl rfl (Nat.le_of_ble_eq_true rfl) (by decide) ⟨by decide, by decide⟩ (fun v s2 M8 J2 hq => ?_)
        obtain ⟨rfl, rfl, rfl, e9⟩ := hq
        try dsimp only [Option.toList, List.cons_append, List.nil_append]
        refine xr_aload_n dX9_leastPush_28 1 rfl ?_
        refine xr_getR flX9_40 dX9_leastPush_29 s_0 rfl ?_
        refine xr_getR flX9_201 dX9_leastPush_32 s_27 rfl ?_
        refine xr_iload_n dX9_leastPush_35 0 rfl ?_
        refine xr_putI fpX9_208 dX9_leastPush_36 s_28 rfl rfl rfl ?_
        refine xr_aload_n dX9_leastPush_39 1 rfl ?_
        refine xr_getR flX9_40 dX9_leastPush_40 s_0 rfl ?_
        refine xr_callV (As := []) (rest := []) mlX9_198 (c0_lasting (E0_up (by decide) e9)) dX9_leastPush_43 s_27 rfl rfl (Nat.le_of_ble_eq_true rfl) (by decide) ⟨by decide, by decide⟩ (fun v s2 M10 J2 hq => ?_)
        obtain ⟨rfl, rfl, rfl, e11⟩ := hq
        try dsimp only [Option.toList, List.cons_append, List.nil_append]
        refine xr_iload_n dX9_leastPush_46 2 rfl ?_
        refine xr_icmp_lt (tgt := 52) dX9_leastPush_47 rfl (fun c12 => ?_) (fun c12 => ?_)
        · refine xr_iinc (v := 2) (ls2 := [(2, .int (2)), (0, .ref (0)), (1, .int (n))]) dX9_leastPush_52 0 rfl rfl (by decide) rfl ?_
          refine xr_goto (tgt := 16) dX9_leastPush_55 rfl ?_
          refine xr_iload_n dX9_leastPush_16 0 rfl ?_
          refine xr_iconst (v := 5) dX9_leastPush_17 rfl ?_
          refine xr_icmp_gt (tgt := 58) dX9_leastPush_18 rfl (fun c => absurd c (by decide)) (fun _ => ?_)
          refine xr_aload_n dX9_leastPush_21 1 rfl ?_
          refine xr_getR flX9_40 dX9_leastPush_22 s_0 rfl ?_
          refine xr_callV (As := []) (rest := []) mlX9_192 (c0_begin e11) dX9_leastPush_25 s_27 rfl rfl (Nat.le_of_ble_eq_true rfl) (by decide) ⟨by decide, by decide⟩ (fun v s2 M13 J2 hq => ?_)
          obtain ⟨rfl, rfl, rfl, e14⟩ := hq
          try dsimp only [Option.toList, List.cons_append, List.nil_append]
          refine xr_aload_n dX9_leastPush_28 1 rfl ?_
          refine xr_getR flX9_40 dX9_leastPush_29 s_0 rfl ?_
          refine xr_getR flX9_201 dX9_leastPush_32 s_27 rfl ?_
          refine xr_iload_n dX9_leastPush_35 0 rfl ?_
          refine xr_putI fpX9_208 dX9_leastPush_36 s_28 rfl rfl rfl ?_
          refine xr_aload_n dX9_leastPush_39 1 rfl ?_
          refine xr_getR flX9_40 dX9_leastPush_40 s_0 rfl ?_
          refine xr_callV (As := []) (rest := []) mlX9_198 (c0_lasting (E0_up (by decide) e14)) dX9_leastPush_43 s_27 rfl rfl (Nat.le_of_ble_eq_true rfl) (by decide) ⟨by decide, by decide⟩ (fun v s2 M15 J2 hq => ?_)
          obtain ⟨rfl, rfl, rfl, e16⟩ := hq
          try dsimp only [Option.toList, List.cons_append, List.nil_append]
          refine xr_iload_n dX9_leastPush_46 2 rfl ?_
          refine xr_icmp_lt (tgt := 52) dX9_leastPush_47 rfl (fun c17 => ?_) (fun c17 => ?_)
          · refine xr_iinc (v := 3) (ls2 := [(2, .int (3)), (0, .ref (0)), (1, .int (n))]) dX9_leastPush_52 0 rfl rfl (by decide) rfl ?_
            refine xr_goto (tgt := 16) dX9_leastPush_55 rfl ?_
            refine xr_iload_n dX9_leastPush_16 0 rfl ?_
            refine xr_iconst (v := 5) dX9_leastPush_17 rfl ?_
            refine xr_icmp_gt (tgt := 58) dX9_leastPush_18 rfl (fun c => absurd c (by decide)) (fun _ => ?_)
            refine xr_aload_n dX9_leastPush_21 1 rfl ?_
            refine xr_getR flX9_40 dX9_leastPush_22 s_0 rfl ?_
            refine xr_callV (As := []) (rest := []) mlX9_192 (c0_begin e16) dX9_leastPush_25 s_27 rfl rfl (Nat.le_of_ble_eq_true rfl) (by decide) ⟨by decide, by decide⟩ (fun v s2 M18 J2 hq => ?_)
            obtain ⟨rfl, rfl, rfl, e19⟩ := hq
            try dsimp only [Option.toList, List.cons_append, List.nil_append]
            refine xr_aload_n dX9_leastPush_28 1 rfl ?_
            refine xr_getR flX9_40 dX9_leastPush_29 s_0 rfl ?_
            refine xr_getR flX9_201 dX9_leastPush_32 s_27 rfl ?_
            refine xr_iload_n dX9_leastPush_35 0 rfl ?_
            refine xr_putI fpX9_208 dX9_leastPush_36 s_28 rfl rfl rfl ?_
            refine xr_aload_n dX9_leastPush_39 1 rfl ?_
            refine xr_getR flX9_40 dX9_leastPush_40 s_0 rfl ?_
            refine xr_callV (As := []) (rest := []) mlX9_198 (c0_lasting (E0_up (by decide) e19)) dX9_leastPush_43 s_27 rfl rfl (Nat.le_of_ble_eq_true rfl) (by decide) ⟨by decide, by decide⟩ (fun v s2 M20 J2 hq => ?_)
            obtain ⟨rfl, rfl, rfl, e21⟩ := hq
            try dsimp only [Option.toList, List.cons_append, List.nil_append]
            refine xr_iload_n dX9_leastPush_46 2 rfl ?_
            refine xr_icmp_lt (tgt := 52) dX9_leastPush_47 rfl (fun c22 => ?_) (fun c22 => ?_)
            · refine xr_iinc (v := 4) (ls2 := [(2, .int (4)), (0, .ref (0)), (1, .int (n))]) dX9_leastPush_52 0 rfl rfl (by decide) rfl ?_
              refine xr_goto (tgt := 16) dX9_leastPush_55 rfl ?_
              refine xr_iload_n dX9_leastPush_16 0 rfl ?_
              refine xr_iconst (v := 5) dX9_leastPush_17 rfl ?_
              refine xr_icmp_gt (tgt := 58) dX9_leastPush_18 rfl (fun c => absurd c (by decide)) (fun _ => ?_)
              refine xr_aload_n dX9_leastPush_21 1 rfl ?_
              refine xr_getR flX9_40 dX9_leastPush_22 s_0 rfl ?_
              refine xr_callV (As := []) (rest := []) mlX9_192 (c0_begin e21) dX9_leastPush_25 s_27 rfl rfl (Nat.le_of_ble_eq_true rfl) (by decide) ⟨by decide, by decide⟩ (fun v s2 M23 J2 hq => ?_)
              obtain ⟨rfl, rfl, rfl, e24⟩ := hq
              try dsimp only [Option.toList, List.cons_append, List.nil_append]
              refine xr_aload_n dX9_leastPush_28 1 rfl ?_
              refine xr_getR flX9_40 dX9_leastPush_29 s_0 rfl ?_
              refine xr_getR flX9_201 dX9_leastPush_32 s_27 rfl ?_
              refine xr_iload_n dX9_leastPush_35 0 rfl ?_
              refine xr_putI fpX9_208 dX9_leastPush_36 s_28 rfl rfl rfl ?_
              refine xr_aload_n dX9_leastPush_39 1 rfl ?_
              refine xr_getR flX9_40 dX9_leastPush_40 s_0 rfl ?_
              refine xr_callV (As := []) (rest := []) mlX9_198 (c0_lasting (E0_up (by decide) e24)) dX9_leastPush_43 s_27 rfl rfl (Nat.le_of_ble_eq_true rfl) (by decide) ⟨by decide, by decide⟩ (fun v s2 M25 J2 hq => ?_)
              obtain ⟨rfl, rfl, rfl, e26⟩ := hq
              try dsimp only [Option.toList, List.cons_append, List.nil_append]
              refine xr_iload_n dX9_leastPush_46 2 rfl ?_
              refine xr_icmp_lt (tgt := 52) dX9_leastPush_47 rfl (fun c27 => ?_) (fun c27 => ?_)
              · refine xr_iinc (v := 5) (ls2 := [(2, .int (5)), (0, .ref (0)), (1, .int (n))]) dX9_leastPush_52 0 rfl rfl (by decide) rfl ?_
                refine xr_goto (tgt := 16) dX9_leastPush_55 rfl ?_
                refine xr_iload_n dX9_leastPush_16 0 rfl ?_
                refine xr_iconst (v := 5) dX9_leastPush_17 rfl ?_
                refine xr_icmp_gt (tgt := 58) dX9_leastPush_18 rfl (fun c => absurd c (by decide)) (fun _ => ?_)
                refine xr_aload_n dX9_leastPush_21 1 rfl ?_
                refine xr_getR flX9_40 dX9_leastPush_22 s_0 rfl ?_
                refine xr_callV (As := []) (rest := []) mlX9_192 (c0_begin e26) dX9_leastPush_25 s_27 rfl rfl (Nat.le_of_ble_eq_true rfl) (by decide) ⟨by decide, by decide⟩ (fun v s2 M28 J2 hq => ?_)
                obtain ⟨rfl, rfl, rfl, e29⟩ := hq
                try dsimp only [Option.toList, List.cons_append, List.nil_append]
                refine xr_aload_n dX9_leastPush_28 1 rfl ?_
                refine xr_getR flX9_40 dX9_leastPush_29 s_0 rfl ?_
                refine xr_getR flX9_201 dX9_leastPush_32 s_27 rfl ?_
                refine xr_iload_n dX9_leastPush_35 0 rfl ?_
                refine xr_putI fpX9_208 dX9_leastPush_36 s_28 rfl rfl rfl ?_
                refine xr_aload_n dX9_leastPush_39 1 rfl ?_
                refine xr_getR flX9_40 dX9_leastPush_40 s_0 rfl ?_
                refine xr_callV (As := []) (rest := []) mlX9_198 (c0_lasting (E0_up (by decide) e29)) dX9_leastPush_43 s_27 rfl rfl (Nat.le_of_ble_eq_true rfl) (by decide) ⟨by decide, by decide⟩ (fun v s2 M30 J2 hq => ?_)
                obtain ⟨rfl, rfl, rfl, e31⟩ := hq
                try dsimp only [Option.toList, List.cons_append, List.nil_append]
                refine xr_iload_n dX9_leastPush_46 2 rfl ?_
                refine xr_icmp_lt (tgt := 52) dX9_leastPush_47 rfl (fun c32 => ?_) (fun c32 => ?_)
                · refine xr_iinc (v := 6) (ls2 := [(2, .int (6)), (0, .ref (0)), (1, .int (n))]) dX9_leastPush_52 0 rfl rfl (by decide) rfl ?_
                  refine xr_goto (tgt := 16) dX9_leastPush_55 rfl ?_
                  refine xr_iload_n dX9_leastPush_16 0 rfl ?_
                  refine xr_iconst (v := 5) dX9_leastPush_17 rfl ?_
                  refine xr_icmp_gt (tgt := 58) dX9_leastPush_18 rfl (fun _ => ?_) (fun c => absurd (by decide) c)
                  refine xr_bipush (v := -2) dX9_leastPush_58 rfl ?_
                  exact xr_iret dX9_leastPush_60 rfl rfl (by first | rfl | (refine congrArg (fun z => some (Value.int z)) ?_; grind))
                · refine xr_iload_n dX9_leastPush_50 0 rfl ?_
                  exact xr_iret dX9_leastPush_51 rfl rfl (by first | rfl | (refine congrArg (fun z => some (Value.int z)) ?_; grind))
              · refine xr_iload_n dX9_leastPush_50 0 rfl ?_
                exact xr_iret dX9_leastPush_51 rfl rfl (by first | rfl | (refine congrArg (fun z => some (Value.int z)) ?_; grind))
            · refine xr_iload_n dX9_leastPush_50 0 rfl ?_
              exact xr_iret dX9_leastPush_51 rfl rfl (by first | rfl | (refine congrArg (fun z => some (Value.int z)) ?_; grind))
          · refine xr_iload_n dX9_leastPush_50 0 rfl ?_
            exact xr_iret dX9_leastPush_51 rfl rfl (by first | rfl | (refine congrArg (fun z => some (Value.int z)) ?_; grind))
        · refine xr_iload_n dX9_leastPush_50 0 rfl ?_
          exact xr_iret dX9_leastPush_51 rfl rfl (by first | rfl | (refine congrArg (fun z => some (Value.int z)) ?_; grind))
      · refine xr_iload_n dX9_leastPush_50 0 rfl ?_
        exact xr_iret dX9_leastPush_51 rfl rfl (by first | rfl | (refine congrArg (fun z => some (Value.int z)) ?_; grind))
    · refine xr_iconst (v := -1) dX9_leastPush_12 rfl ?_
      exact xr_iret dX9_leastPush_13 rfl rfl (by first | rfl | (refine congrArg (fun z => some (Value.int z)) ?_; grind))
set_option maxRecDepth 100000 in
set_option maxHeartbeats 4000000 in
theorem p_X9_mistake (m what : Int32) {l : Launch} {G : xG}  : x_M l G fX9_mistake 4 0 0 [.ref (0), .int (m), .int (what)] x_SH z_M x_J0 (qR (some (.int (if (0 ≤ m ∧ m ≤ 40) ∧ 0 ≤ what ∧ what ≤ 1 then (if what = 0 then 200 else 0) else -1)))) := by
  refine xb_of pX9 (Nat.le_of_ble_eq_true rfl) rfl ?_
  refine xr_iload_n dX9_mistake_0 1 rfl ?_
  refine xr_if_lt (tgt := 19) dX9_mistake_1 rfl (fun c1 => ?_) (fun c1 => ?_)
  · refine xr_iconst (v := -1) dX9_mistake_19 rfl ?_
    exact xr_iret dX9_mistake_20 rfl rfl (by first | rfl | (refine congrArg (fun z => some (Value.int z)) ?_; grind))
  · refine xr_iload_n dX9_mistake_4 1 rfl ?_
    refine xr_bipush (v := 40) dX9_mistake_5 rfl ?_
    refine xr_icmp_gt (tgt := 19) dX9_mistake_7 rfl (fun c2 => ?_) (fun c2 => ?_)
    · refine xr_iconst (v := -1) dX9_mistake_19 rfl ?_
      exact xr_iret dX9_mistake_20 rfl rfl (by first | rfl | (refine congrArg (fun z => some (Value.int z)) ?_; grind))
    · refine xr_iload_n dX9_mistake_10 2 rfl ?_
      refine xr_if_lt (tgt := 19) dX9_mistake_11 rfl (fun c3 => ?_) (fun c3 => ?_)
      · refine xr_iconst (v := -1) dX9_mistake_19 rfl ?_
        exact xr_iret dX9_mistake_20 rfl rfl (by first | rfl | (refine congrArg (fun z => some (Value.int z)) ?_; grind))
      · refine xr_iload_n dX9_mistake_14 2 rfl ?_
        refine xr_iconst (v := 1) dX9_mistake_15 rfl ?_
        refine xr_icmp_le (tgt := 21) dX9_mistake_16 rfl (fun c4 => ?_) (fun c4 => ?_)
        · refine xr_aload_n dX9_mistake_21 0 rfl ?_
          refine xr_getR flX9_40 dX9_mistake_22 s_0 rfl ?_
          refine xr_callV (As := []) (rest := []) mlX9_192 (c0_begin E0_MI) dX9_mistake_25 s_27 rfl rfl (Nat.le_of_ble_eq_true rfl) (by decide) ⟨by decide, by decide⟩ (fun v s2 M5 J2 hq => ?_)
          obtain ⟨rfl, rfl, rfl, e6⟩ := hq
          try dsimp only [Option.toList, List.cons_append, List.nil_append]
          refine xr_aload_n dX9_mistake_28 0 rfl ?_
          refine xr_getR flX9_40 dX9_mistake_29 s_0 rfl ?_
          refine xr_iload_n dX9_mistake_32 1 rfl ?_
          refine xr_callV (As := [.int (m)]) (rest := []) mlX9_211 (c0_leaveOut m e6) dX9_mistake_33 s_27 rfl rfl (Nat.le_of_ble_eq_true rfl) (by decide) ⟨by decide, by decide⟩ (fun v s2 M7 J2 hq => ?_)
          obtain ⟨rfl, rfl, rfl, e8⟩ := hq
          try dsimp only [Option.toList, List.cons_append, List.nil_append]
          refine xr_iload_n dX9_mistake_36 2 rfl ?_
          refine xr_if_ne (tgt := 50) dX9_mistake_37 rfl (fun c9 => ?_) (fun c9 => ?_)
          · refine xr_aload_n dX9_mistake_50 0 rfl ?_
            refine xr_getR flX9_40 dX9_mistake_51 s_0 rfl ?_
            refine xr_callV (As := []) (rest := []) mlX9_215 (c0_caught e8) dX9_mistake_54 s_27 rfl rfl (Nat.le_of_ble_eq_true rfl) (by decide) ⟨by decide, by decide⟩ (fun v s2 M10 J2 hq => ?_)
            obtain ⟨rfl, rfl, rfl, e11⟩ := hq
            try dsimp only [Option.toList, List.cons_append, List.nil_append]
            exact xr_iret dX9_mistake_57 rfl rfl (by first | rfl | (refine congrArg (fun z => some (Value.int z)) ?_; grind))
          · refine xr_aload_n dX9_mistake_40 0 rfl ?_
            refine xr_getR flX9_40 dX9_mistake_41 s_0 rfl ?_
            refine xr_callV (As := []) (rest := []) mlX9_198 (c0_lasting e8) dX9_mistake_44 s_27 rfl rfl (Nat.le_of_ble_eq_true rfl) (by decide) ⟨by decide, by decide⟩ (fun v s2 M12 J2 hq => ?_)
            obtain ⟨rfl, rfl, rfl, e13⟩ := hq
            try dsimp only [Option.toList, List.cons_append, List.nil_append]
            refine xr_goto (tgt := 57) dX9_mistake_47 rfl ?_
            exact xr_iret dX9_mistake_57 rfl rfl (by first | rfl | (refine congrArg (fun z => some (Value.int z)) ?_; grind))
        · refine xr_iconst (v := -1) dX9_mistake_19 rfl ?_
          exact xr_iret dX9_mistake_20 rfl rfl (by first | rfl | (refine congrArg (fun z => some (Value.int z)) ?_; grind))
set_option maxRecDepth 100000 in
set_option maxHeartbeats 4000000 in
theorem p_X9_start (hoop : Int32) {l : Launch} {G : xG}  : x_M l G fX9_start 4 0 0 [.ref (0), .int (hoop)] x_SH z_M x_J0 (qR (some (.int (-2000000000)))) := by
  refine xb_of pX9 (Nat.le_of_ble_eq_true rfl) rfl ?_
  refine xr_aload_n dX9_start_0 0 rfl ?_
  refine xr_getR flX9_28 dX9_start_1 s_0 rfl ?_
  refine xr_iload_n dX9_start_4 1 rfl ?_
  refine xb_cV (As := [.int (hoop)]) (rest := []) mlX9_118 (c_X5_has hoop s_13) dX9_start_5 s_13 rfl rfl (Nat.le_of_ble_eq_true rfl) (by decide) (by decide) ?_
  refine xb_top (y := bI (0 ≤ hoop ∧ hoop < 0)) (x_bI_c (by rw [show z_M 13 2 = 0 from (by decide +kernel)])) ?_
  refine xb_bne (tgt := 14) dX9_start_8 rfl (fun c => absurd c (by grind)) (fun _ => ?_)
  refine xr_ldc coX9_105 dX9_start_11 ?_
  exact xr_iret dX9_start_13 rfl rfl (by first | rfl | (refine congrArg (fun z => some (Value.int z)) ?_; grind))
set_option maxRecDepth 100000 in
set_option maxHeartbeats 4000000 in
theorem p_X9_rescue (hoop fp : Int32) {l : Launch} {G : xG}  : x_M l G fX9_rescue 4 0 0 [.ref (0), .int (hoop), .int (fp)] x_SH z_M x_J0 (qR (some (.int (-1)))) := by
  refine xb_of pX9 (Nat.le_of_ble_eq_true rfl) rfl ?_
  refine xr_iload_n dX9_rescue_0 2 rfl ?_
  refine xr_bipush (v := 100) dX9_rescue_1 rfl ?_
  refine xr_idiv dX9_rescue_3 (by decide) ?_
  refine xr_istore_n (ls2 := [(3, .int ((fp / 100))), (0, .ref (0)), (1, .int (hoop)), (2, .int (fp))]) dX9_rescue_4 (by decide) rfl ?_
  refine xr_iload_n dX9_rescue_5 3 rfl ?_
  refine xr_bipush (v := 100) dX9_rescue_6 rfl ?_
  refine xr_irem dX9_rescue_8 (by decide) ?_
  refine xr_istore (ls2 := [(4, .int ((fp - fp / 100 * 100))), (3, .int ((fp / 100))), (0, .ref (0)), (1, .int (hoop)), (2, .int (fp))]) dX9_rescue_9 (by decide) rfl ?_
  refine xr_aload_n dX9_rescue_11 2 rfl ?_
  refine xr_getR flX9_28 dX9_rescue_12 s_0 rfl ?_
  refine xr_iload_n dX9_rescue_15 3 rfl ?_
  refine xb_cV (As := [.int (hoop)]) (rest := []) mlX9_118 (c_X5_has hoop s_13) dX9_rescue_16 s_13 rfl rfl (Nat.le_of_ble_eq_true rfl) (by decide) (by decide) ?_
  refine xb_top (y := bI (0 ≤ hoop ∧ hoop < 0)) (x_bI_c (by rw [show z_M 13 2 = 0 from (by decide +kernel)])) ?_
  refine xb_beq (tgt := 44) dX9_rescue_19 rfl (fun _ => ?_) (fun c => absurd c (by grind))
  refine xr_iconst (v := -1) dX9_rescue_44 rfl ?_
  exact xr_iret dX9_rescue_45 rfl rfl (by first | rfl | (refine congrArg (fun z => some (Value.int z)) ?_; grind))
set_option maxRecDepth 100000 in
set_option maxHeartbeats 4000000 in
theorem p_X9_music (shelf : Int32) {l : Launch} {G : xG}  : x_M l G fX9_music 4 0 0 [.ref (0), .int (shelf)] x_SH z_M x_J0 (qR (some (.int (if 0 ≤ shelf ∧ shelf < 6 then -11 else -1)))) := by
  refine xb_of pX9 (Nat.le_of_ble_eq_true rfl) rfl ?_
  refine xr_iload_n dX9_music_0 1 rfl ?_
  refine xb_cS (As := [.int (shelf)]) (rest := []) mlX9_88 (c_X9_isShelf shelf) dX9_music_1 rfl rfl (Nat.le_of_ble_eq_true rfl) (by decide) (by decide) ?_
  refine xb_bne (tgt := 9) dX9_music_4 rfl (fun c1 => ?_) (fun c1 => ?_)
  · obtain ⟨j, hj, rfl⟩ := x_nat (N := 6) (by decide) rfl c1
    refine xr_aload_n dX9_music_9 0 rfl ?_
    refine xr_getR flX9_67 dX9_music_10 s_0 rfl ?_
    refine xr_iload_n dX9_music_13 1 rfl ?_
    refine xb_aald (j := j) (q := 50 + 2 * j) (by decide) dX9_music_14 s_49 hj (by decide) (if_pos hj) ?_
    refine xb_cV (As := []) (rest := []) mlX9_244 (c_X6_bytesRefusal (s_shelf hj)) dX9_music_15 (s_shelf hj) rfl rfl (Nat.le_of_ble_eq_true rfl) (by decide) (by decide) ?_
    refine xb_top (y := -11) (if_pos (mi_sh j hj).1) ?_
    refine xr_istore_n (ls2 := [(2, .int ((-11))), (0, .ref (0)), (1, .int (nI (j)))]) dX9_music_18 (by decide) rfl ?_
    refine xr_iload_n dX9_music_19 0 rfl ?_
    refine xr_if_eq (tgt := 25) dX9_music_20 rfl (fun c => absurd c (by decide)) (fun _ => ?_)
    refine xr_iload_n dX9_music_23 0 rfl ?_
    exact xr_iret dX9_music_24 rfl rfl (by first | rfl | (refine congrArg (fun z => some (Value.int z)) ?_; grind))
  · refine xr_iconst (v := -1) dX9_music_7 rfl ?_
    exact xr_iret dX9_music_8 rfl rfl (by first | rfl | (refine congrArg (fun z => some (Value.int z)) ?_; grind))
set_option maxRecDepth 100000 in
set_option maxHeartbeats 4000000 in
theorem p_X9_judge (shelf hoop : Int32) {l : Launch} {G : xG}  : x_M l G fX9_judge 4 0 0 [.ref (0), .int (shelf), .int (hoop)] x_SH z_M x_J0 (qR (some (.int (-1)))) := by
  refine xb_of pX9 (Nat.le_of_ble_eq_true rfl) rfl ?_
  refine xr_iload_n dX9_judge_0 1 rfl ?_
  refine xb_cS (As := [.int (shelf)]) (rest := []) mlX9_88 (c_X9_isShelf shelf) dX9_judge_1 rfl rfl (Nat.le_of_ble_eq_true rfl) (by decide) (by decide) ?_
  refine xb_beq (tgt := 18) dX9_judge_4 rfl (fun c1 => ?_) (fun c1 => ?_)
  · refine xr_iconst (v := -1) dX9_judge_18 rfl ?_
    exact xr_iret dX9_judge_19 rfl rfl (by first | rfl | (refine congrArg (fun z => some (Value.int z)) ?_; grind))
  · obtain ⟨j, hj, rfl⟩ := x_nat (N := 6) (by decide) rfl c1
    refine xr_aload_n dX9_judge_7 0 rfl ?_
    refine xr_getR flX9_28 dX9_judge_8 s_0 rfl ?_
    refine xr_iload_n dX9_judge_11 2 rfl ?_
    refine xb_cV (As := [.int (hoop)]) (rest := []) mlX9_118 (c_X5_has hoop s_13) dX9_judge_12 s_13 rfl rfl (Nat.le_of_ble_eq_true rfl) (by decide) (by decide) ?_
    refine xb_top (y := bI (0 ≤ hoop ∧ hoop < 0)) (x_bI_c (by rw [show z_M 13 2 = 0 from (by decide +kernel)])) ?_
    refine xb_bne (tgt := 20) dX9_judge_15 rfl (fun c => absurd c (by grind)) (fun _ => ?_)
    refine xr_iconst (v := -1) dX9_judge_18 rfl ?_
    exact xr_iret dX9_judge_19 rfl rfl (by first | rfl | (refine congrArg (fun z => some (Value.int z)) ?_; grind))
set_option maxRecDepth 100000 in
set_option maxHeartbeats 4000000 in
theorem p_X9_begun (shelf hoop what : Int32) {l : Launch} {G : xG}  : x_M l G fX9_begun 4 0 0 [.ref (0), .int (shelf), .int (hoop), .int (what)] x_SH z_M x_J0 (qR (some (.int (-2000000000)))) := by
  refine xb_of pX9 (Nat.le_of_ble_eq_true rfl) rfl ?_
  refine xr_iload_n dX9_begun_0 1 rfl ?_
  refine xb_cS (As := [.int (shelf)]) (rest := []) mlX9_88 (c_X9_isShelf shelf) dX9_begun_1 rfl rfl (Nat.le_of_ble_eq_true rfl) (by decide) (by decide) ?_
  refine xb_beq (tgt := 39) dX9_begun_4 rfl (fun c1 => ?_) (fun c1 => ?_)
  · refine xr_ldc coX9_105 dX9_begun_39 ?_
    exact xr_iret dX9_begun_41 rfl rfl (by first | rfl | (refine congrArg (fun z => some (Value.int z)) ?_; grind))
  · obtain ⟨j, hj, rfl⟩ := x_nat (N := 6) (by decide) rfl c1
    refine xr_aload_n dX9_begun_7 0 rfl ?_
    refine xr_getR flX9_28 dX9_begun_8 s_0 rfl ?_
    refine xr_iload_n dX9_begun_11 2 rfl ?_
    refine xb_cV (As := [.int (hoop)]) (rest := []) mlX9_118 (c_X5_has hoop s_13) dX9_begun_12 s_13 rfl rfl (Nat.le_of_ble_eq_true rfl) (by decide) (by decide) ?_
    refine xb_top (y := bI (0 ≤ hoop ∧ hoop < 0)) (x_bI_c (by rw [show z_M 13 2 = 0 from (by decide +kernel)])) ?_
    refine xb_beq (tgt := 39) dX9_begun_15 rfl (fun _ => ?_) (fun c => absurd c (by grind))
    refine xr_ldc coX9_105 dX9_begun_39 ?_
    exact xr_iret dX9_begun_41 rfl rfl (by first | rfl | (refine congrArg (fun z => some (Value.int z)) ?_; grind))
set_option maxRecDepth 100000 in
set_option maxHeartbeats 4000000 in
theorem p_X9_back {l : Launch} {G : xG}  : x_M l G fX9_back 4 0 0 [.ref (0)] x_SH z_M x_J0 (qR (some (.int (-5)))) := by
  refine xb_of pX9 (Nat.le_of_ble_eq_true rfl) rfl ?_
  refine xr_aload_n dX9_back_0 0 rfl ?_
  refine xb_get (v := 0) flX9_72 dX9_back_1 s_0 rfl (by decide +kernel) ?_
  refine xr_if_ne (tgt := 10) dX9_back_4 rfl (fun c => absurd (by decide) c) (fun _ => ?_)
  refine xr_bipush (v := -5) dX9_back_7 rfl ?_
  exact xr_iret dX9_back_9 rfl rfl (by first | rfl | (refine congrArg (fun z => some (Value.int z)) ?_; grind))
set_option maxRecDepth 100000 in
set_option maxHeartbeats 4000000 in
theorem p_X9_undo {l : Launch} {G : xG}  : x_M l G fX9_undo 4 0 0 [.ref (0)] x_SH z_M x_J0 (qR (some (.int (-5)))) := by
  refine xb_of pX9 (Nat.le_of_ble_eq_true rfl) rfl ?_
  refine xr_aload_n dX9_undo_0 0 rfl ?_
  refine xr_getR flX9_54 dX9_undo_1 s_0 rfl ?_
  refine xb_get (v := 0) flX9_309 dX9_undo_4 s_41 rfl (by decide +kernel) ?_
  refine xr_if_ne (tgt := 13) dX9_undo_7 rfl (fun c => absurd (by decide) c) (fun _ => ?_)
  refine xr_bipush (v := -5) dX9_undo_10 rfl ?_
  exact xr_iret dX9_undo_12 rfl rfl (by first | rfl | (refine congrArg (fun z => some (Value.int z)) ?_; grind))
set_option maxRecDepth 100000 in
set_option maxHeartbeats 4000000 in
theorem p_X9_redo {l : Launch} {G : xG}  : x_M l G fX9_redo 4 0 0 [.ref (0)] x_SH z_M x_J0 (qR (some (.int (-5)))) := by
  refine xb_of pX9 (Nat.le_of_ble_eq_true rfl) rfl ?_
  refine xr_aload_n dX9_redo_0 0 rfl ?_
  refine xr_getR flX9_54 dX9_redo_1 s_0 rfl ?_
  refine xb_get (v := 0) flX9_309 dX9_redo_4 s_41 rfl (by decide +kernel) ?_
  refine xr_aload_n dX9_redo_7 0 rfl ?_
  refine xr_getR flX9_54 dX9_redo_8 s_0 rfl ?_
  refine xb_get (v := 0) flX9_321 dX9_redo_11 s_41 rfl (by decide +kernel) ?_
  refine xr_icmp_ne (tgt := 20) dX9_redo_14 rfl (fun c => absurd (by decide) c) (fun _ => ?_)
  refine xr_bipush (v := -5) dX9_redo_17 rfl ?_
  exact xr_iret dX9_redo_19 rfl rfl (by first | rfl | (refine congrArg (fun z => some (Value.int z)) ?_; grind))
set_option maxRecDepth 100000 in
set_option maxHeartbeats 4000000 in
theorem p_X9_act (body act x : Int32) {l : Launch} {G : xG}  : x_M l G fX9_act 4 0 0 [.ref (0), .int (body), .int (act), .int (x)] x_SH z_M x_J0 (qR (some (.int 0))) := by
  refine xb_of pX9 (Nat.le_of_ble_eq_true rfl) rfl ?_
  refine xr_aload_n dX9_act_0 0 rfl ?_
  refine xr_getR flX9_61 dX9_act_1 s_0 rfl ?_
  refine xr_iconst (v := 0) dX9_act_4 rfl ?_
  refine xr_putI fpX9_334 dX9_act_5 s_46 rfl rfl rfl ?_
  refine xr_aload_n dX9_act_8 0 rfl ?_
  refine xr_getR flX9_61 dX9_act_9 s_0 rfl ?_
  refine xr_iload_n dX9_act_12 1 rfl ?_
  refine xb_cV (As := [.int (body)]) (rest := []) mlX9_337 (c_X8_has body) dX9_act_13 s_46 rfl rfl (Nat.le_of_ble_eq_true rfl) (by decide) (by decide) ?_
  refine xb_top (y := bI (0 ≤ body ∧ body < 0)) (x_bI_c (by rw [show (x_up z_M 46 3 0) 46 2 = 0 from (Eq.trans (x_up_k _ _ _ (by decide)) (by decide +kernel))])) ?_
  refine xb_beq (tgt := 28) dX9_act_16 rfl (fun _ => ?_) (fun c => absurd c (by grind))
  refine xr_iconst (v := 0) dX9_act_28 rfl ?_
  exact xr_iret dX9_act_29 rfl rfl (by first | rfl | (refine congrArg (fun z => some (Value.int z)) ?_; grind))
set_option maxRecDepth 100000 in
set_option maxHeartbeats 4000000 in
theorem p_X9_trace (i : Int32) {l : Launch} {G : xG}  : x_M l G fX9_trace 4 0 0 [.ref (0), .int (i)] x_SH z_M x_J0 (qR (some (.int (-1)))) := by
  refine xb_of pX9 (Nat.le_of_ble_eq_true rfl) rfl ?_
  refine xr_iload_n dX9_trace_0 1 rfl ?_
  refine xr_if_lt (tgt := 21) dX9_trace_1 rfl (fun c1 => ?_) (fun c1 => ?_)
  · refine xr_iconst (v := -1) dX9_trace_21 rfl ?_
    exact xr_iret dX9_trace_22 rfl rfl (by first | rfl | (refine congrArg (fun z => some (Value.int z)) ?_; grind))
  · refine xr_iload_n dX9_trace_4 1 rfl ?_
    refine xr_aload_n dX9_trace_5 0 rfl ?_
    refine xr_getR flX9_61 dX9_trace_6 s_0 rfl ?_
    refine xb_get (v := 0) flX9_334 dX9_trace_9 s_46 rfl (by decide +kernel) ?_
    refine xr_icmp_ge (tgt := 21) dX9_trace_12 rfl (fun c2 => ?_) (fun c2 => ?_)
    · refine xr_iconst (v := -1) dX9_trace_21 rfl ?_
      exact xr_iret dX9_trace_22 rfl rfl (by first | rfl | (refine congrArg (fun z => some (Value.int z)) ?_; grind))
    · exfalso
      grind
