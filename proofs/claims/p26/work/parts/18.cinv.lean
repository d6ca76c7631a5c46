theorem dX9_settingOf_0 : decode cX9_settingOf 0 = .ok (.iload_n 1, 1) := by decide +kernel
theorem dX9_settingOf_1 : decode cX9_settingOf 1 = .ok (.tableswitch 87 10 15 #[39, 47, 55, 63, 71, 79], 39) := by decide +kernel
theorem dX9_settingOf_40 : decode cX9_settingOf 40 = .ok (.aload_n 0, 1) := by decide +kernel
theorem dX9_settingOf_41 : decode cX9_settingOf 41 = .ok (.getfield 28, 3) := by decide +kernel
theorem dX9_settingOf_44 : decode cX9_settingOf 44 = .ok (.getfield 410, 3) := by decide +kernel
theorem dX9_settingOf_47 : decode cX9_settingOf 47 = .ok (.ireturn, 1) := by decide +kernel
theorem dX9_settingOf_48 : decode cX9_settingOf 48 = .ok (.aload_n 0, 1) := by decide +kernel
theorem dX9_settingOf_49 : decode cX9_settingOf 49 = .ok (.getfield 28, 3) := by decide +kernel
theorem dX9_settingOf_52 : decode cX9_settingOf 52 = .ok (.getfield 202, 3) := by decide +kernel
theorem dX9_settingOf_55 : decode cX9_settingOf 55 = .ok (.ireturn, 1) := by decide +kernel
theorem dX9_settingOf_56 : decode cX9_settingOf 56 = .ok (.aload_n 0, 1) := by decide +kernel
theorem dX9_settingOf_57 : decode cX9_settingOf 57 = .ok (.getfield 28, 3) := by decide +kernel
theorem dX9_settingOf_60 : decode cX9_settingOf 60 = .ok (.getfield 205, 3) := by decide +kernel
theorem dX9_settingOf_63 : decode cX9_settingOf 63 = .ok (.ireturn, 1) := by decide +kernel
theorem dX9_settingOf_64 : decode cX9_settingOf 64 = .ok (.aload_n 0, 1) := by decide +kernel
theorem dX9_settingOf_65 : decode cX9_settingOf 65 = .ok (.getfield 28, 3) := by decide +kernel
theorem dX9_settingOf_68 : decode cX9_settingOf 68 = .ok (.getfield 208, 3) := by decide +kernel
theorem dX9_settingOf_71 : decode cX9_settingOf 71 = .ok (.ireturn, 1) := by decide +kernel
theorem dX9_settingOf_72 : decode cX9_settingOf 72 = .ok (.aload_n 0, 1) := by decide +kernel
theorem dX9_settingOf_73 : decode cX9_settingOf 73 = .ok (.getfield 47, 3) := by decide +kernel
theorem dX9_settingOf_76 : decode cX9_settingOf 76 = .ok (.getfield 413, 3) := by decide +kernel
theorem dX9_settingOf_79 : decode cX9_settingOf 79 = .ok (.ireturn, 1) := by decide +kernel
theorem dX9_settingOf_80 : decode cX9_settingOf 80 = .ok (.aload_n 0, 1) := by decide +kernel
theorem dX9_settingOf_81 : decode cX9_settingOf 81 = .ok (.getfield 28, 3) := by decide +kernel
theorem dX9_settingOf_84 : decode cX9_settingOf 84 = .ok (.getfield 303, 3) := by decide +kernel
theorem dX9_settingOf_87 : decode cX9_settingOf 87 = .ok (.ireturn, 1) := by decide +kernel
theorem dX9_settingOf_88 : decode cX9_settingOf 88 = .ok (.ldc 105, 2) := by decide +kernel
theorem dX9_settingOf_90 : decode cX9_settingOf 90 = .ok (.ireturn, 1) := by decide +kernel
theorem dX5_addHoop_0 : decode cX5_addHoop 0 = .ok (.aload_n 0, 1) := by decide +kernel
theorem dX5_addHoop_1 : decode cX5_addHoop 1 = .ok (.invokevirtual 54, 3) := by decide +kernel
theorem dX5_addHoop_4 : decode cX5_addHoop 4 = .ok (.ifCond .eq 6, 3) := by decide +kernel
theorem dX5_addHoop_10 : decode cX5_addHoop 10 = .ok (.aload_n 0, 1) := by decide +kernel
theorem dX5_addHoop_11 : decode cX5_addHoop 11 = .ok (.getfield 17, 3) := by decide +kernel
theorem dX5_addHoop_14 : decode cX5_addHoop 14 = .ok (.aload_n 0, 1) := by decide +kernel
theorem dX5_addHoop_15 : decode cX5_addHoop 15 = .ok (.getfield 35, 3) := by decide +kernel
theorem dX5_addHoop_18 : decode cX5_addHoop 18 = .ok (.aaload, 1) := by decide +kernel
theorem dX5_addHoop_19 : decode cX5_addHoop 19 = .ok (.astore 4, 2) := by decide +kernel
theorem dX5_addHoop_21 : decode cX5_addHoop 21 = .ok (.aload 4, 2) := by decide +kernel
theorem dX5_addHoop_23 : decode cX5_addHoop 23 = .ok (.iload_n 1, 1) := by decide +kernel
theorem dX5_addHoop_24 : decode cX5_addHoop 24 = .ok (.putfield 58, 3) := by decide +kernel
theorem dX5_addHoop_27 : decode cX5_addHoop 27 = .ok (.aload 4, 2) := by decide +kernel
theorem dX5_addHoop_29 : decode cX5_addHoop 29 = .ok (.iload_n 2, 1) := by decide +kernel
theorem dX5_addHoop_30 : decode cX5_addHoop 30 = .ok (.putfield 61, 3) := by decide +kernel
theorem dX5_addHoop_33 : decode cX5_addHoop 33 = .ok (.aload 4, 2) := by decide +kernel
theorem dX5_addHoop_35 : decode cX5_addHoop 35 = .ok (.invokevirtual 64, 3) := by decide +kernel
theorem dX5_addHoop_38 : decode cX5_addHoop 38 = .ok (.aload 4, 2) := by decide +kernel
theorem dX5_addHoop_40 : decode cX5_addHoop 40 = .ok (.iload_n 3, 1) := by decide +kernel
theorem dX5_addHoop_41 : decode cX5_addHoop 41 = .ok (.putfield 67, 3) := by decide +kernel
theorem dX5_addHoop_44 : decode cX5_addHoop 44 = .ok (.aload_n 0, 1) := by decide +kernel
theorem dX5_addHoop_45 : decode cX5_addHoop 45 = .ok (.dup, 1) := by decide +kernel
theorem dX5_addHoop_46 : decode cX5_addHoop 46 = .ok (.getfield 35, 3) := by decide +kernel
theorem dX5_addHoop_49 : decode cX5_addHoop 49 = .ok (.iconst 1, 1) := by decide +kernel
theorem dX5_addHoop_50 : decode cX5_addHoop 50 = .ok (.iadd, 1) := by decide +kernel
theorem dX5_addHoop_51 : decode cX5_addHoop 51 = .ok (.putfield 35, 3) := by decide +kernel
theorem dX5_addHoop_54 : decode cX5_addHoop 54 = .ok (.aload_n 0, 1) := by decide +kernel
theorem dX5_addHoop_55 : decode cX5_addHoop 55 = .ok (.getfield 35, 3) := by decide +kernel
theorem dX5_addHoop_58 : decode cX5_addHoop 58 = .ok (.iconst 1, 1) := by decide +kernel
theorem dX5_addHoop_59 : decode cX5_addHoop 59 = .ok (.isub, 1) := by decide +kernel
theorem dX5_addHoop_60 : decode cX5_addHoop 60 = .ok (.ireturn, 1) := by decide +kernel
theorem dX9_hoopCame_0 : decode cX9_hoopCame 0 = .ok (.iload_n 2, 1) := by decide +kernel
theorem dX9_hoopCame_1 : decode cX9_hoopCame 1 = .ok (.ifCond .lt 29, 3) := by decide +kernel
theorem dX9_hoopCame_30 : decode cX9_hoopCame 30 = .ok (.iconst 0, 1) := by decide +kernel
theorem dX9_hoopCame_31 : decode cX9_hoopCame 31 = .ok (.ireturn, 1) := by decide +kernel
theorem dX9_hoopCame_4 : decode cX9_hoopCame 4 = .ok (.iload_n 2, 1) := by decide +kernel
theorem dX9_hoopCame_5 : decode cX9_hoopCame 5 = .ok (.aload_n 1, 1) := by decide +kernel
theorem dX9_hoopCame_6 : decode cX9_hoopCame 6 = .ok (.getfield 399, 3) := by decide +kernel
theorem dX9_hoopCame_9 : decode cX9_hoopCame 9 = .ok (.iconst 3, 1) := by decide +kernel
theorem dX9_hoopCame_10 : decode cX9_hoopCame 10 = .ok (.isub, 1) := by decide +kernel
theorem dX9_hoopCame_11 : decode cX9_hoopCame 11 = .ok (.if_icmp .gt 19, 3) := by decide +kernel
theorem dX9_hoopCame_14 : decode cX9_hoopCame 14 = .ok (.iload_n 2, 1) := by decide +kernel
theorem dX9_hoopCame_15 : decode cX9_hoopCame 15 = .ok (.bipush 57, 2) := by decide +kernel
theorem dX9_hoopCame_17 : decode cX9_hoopCame 17 = .ok (.if_icmp .gt 13, 3) := by decide +kernel
theorem dX9_hoopCame_20 : decode cX9_hoopCame 20 = .ok (.aload_n 0, 1) := by decide +kernel
theorem dX9_hoopCame_21 : decode cX9_hoopCame 21 = .ok (.getfield 28, 3) := by decide +kernel
theorem dX9_hoopCame_24 : decode cX9_hoopCame 24 = .ok (.invokevirtual 80, 3) := by decide +kernel
theorem dX9_hoopCame_27 : decode cX9_hoopCame 27 = .ok (.ifCond .eq 5, 3) := by decide +kernel
theorem dX9_hoopCame_32 : decode cX9_hoopCame 32 = .ok (.aload_n 1, 1) := by decide +kernel
theorem dX9_hoopCame_33 : decode cX9_hoopCame 33 = .ok (.getfield 362, 3) := by decide +kernel
theorem dX9_hoopCame_36 : decode cX9_hoopCame 36 = .ok (.iload_n 2, 1) := by decide +kernel
theorem dX9_hoopCame_37 : decode cX9_hoopCame 37 = .ok (.laload, 1) := by decide +kernel
theorem dX9_hoopCame_38 : decode cX9_hoopCame 38 = .ok (.l2i, 1) := by decide +kernel
theorem dX9_hoopCame_39 : decode cX9_hoopCame 39 = .ok (.istore_n 3, 1) := by decide +kernel
theorem dX9_hoopCame_40 : decode cX9_hoopCame 40 = .ok (.aload_n 1, 1) := by decide +kernel
theorem dX9_hoopCame_41 : decode cX9_hoopCame 41 = .ok (.getfield 362, 3) := by decide +kernel
theorem dX9_hoopCame_44 : decode cX9_hoopCame 44 = .ok (.iload_n 2, 1) := by decide +kernel
theorem dX9_hoopCame_45 : decode cX9_hoopCame 45 = .ok (.iconst 1, 1) := by decide +kernel
theorem dX9_hoopCame_46 : decode cX9_hoopCame 46 = .ok (.iadd, 1) := by decide +kernel
theorem dX9_hoopCame_47 : decode cX9_hoopCame 47 = .ok (.laload, 1) := by decide +kernel
theorem dX9_hoopCame_48 : decode cX9_hoopCame 48 = .ok (.l2i, 1) := by decide +kernel
theorem dX9_hoopCame_49 : decode cX9_hoopCame 49 = .ok (.istore 4, 2) := by decide +kernel
theorem dX9_hoopCame_51 : decode cX9_hoopCame 51 = .ok (.aload_n 1, 1) := by decide +kernel
theorem dX9_hoopCame_52 : decode cX9_hoopCame 52 = .ok (.getfield 362, 3) := by decide +kernel
theorem dX9_hoopCame_55 : decode cX9_hoopCame 55 = .ok (.iload_n 2, 1) := by decide +kernel
theorem dX9_hoopCame_56 : decode cX9_hoopCame 56 = .ok (.iconst 2, 1) := by decide +kernel
theorem dX9_hoopCame_57 : decode cX9_hoopCame 57 = .ok (.iadd, 1) := by decide +kernel
theorem dX9_hoopCame_58 : decode cX9_hoopCame 58 = .ok (.laload, 1) := by decide +kernel
theorem dX9_hoopCame_59 : decode cX9_hoopCame 59 = .ok (.l2i, 1) := by decide +kernel
theorem dX9_hoopCame_60 : decode cX9_hoopCame 60 = .ok (.istore 5, 2) := by decide +kernel
theorem dX9_hoopCame_62 : decode cX9_hoopCame 62 = .ok (.iload_n 3, 1) := by decide +kernel
theorem dX9_hoopCame_63 : decode cX9_hoopCame 63 = .ok (.invokestatic 76, 3) := by decide +kernel
theorem dX9_hoopCame_66 : decode cX9_hoopCame 66 = .ok (.ifCond .eq 19, 3) := by decide +kernel
theorem dX9_hoopCame_85 : decode cX9_hoopCame 85 = .ok (.iconst 0, 1) := by decide +kernel
theorem dX9_hoopCame_86 : decode cX9_hoopCame 86 = .ok (.ireturn, 1) := by decide +kernel
theorem dX9_hoopCame_69 : decode cX9_hoopCame 69 = .ok (.iload 4, 2) := by decide +kernel
theorem dX9_hoopCame_71 : decode cX9_hoopCame 71 = .ok (.invokestatic 76, 3) := by decide +kernel
theorem dX9_hoopCame_74 : decode cX9_hoopCame 74 = .ok (.ifCond .eq 11, 3) := by decide +kernel
theorem dX9_hoopCame_77 : decode cX9_hoopCame 77 = .ok (.iload 5, 2) := by decide +kernel
theorem dX9_hoopCame_79 : decode cX9_hoopCame 79 = .ok (.invokestatic 400, 3) := by decide +kernel
theorem dX9_hoopCame_82 : decode cX9_hoopCame 82 = .ok (.ifCond .ne 5, 3) := by decide +kernel
theorem dX9_hoopCame_87 : decode cX9_hoopCame 87 = .ok (.aload_n 0, 1) := by decide +kernel
theorem dX9_hoopCame_88 : decode cX9_hoopCame 88 = .ok (.getfield 28, 3) := by decide +kernel
theorem dX9_hoopCame_91 : decode cX9_hoopCame 91 = .ok (.iload_n 3, 1) := by decide +kernel
theorem dX9_hoopCame_92 : decode cX9_hoopCame 92 = .ok (.iload 4, 2) := by decide +kernel
theorem dX9_hoopCame_94 : decode cX9_hoopCame 94 = .ok (.iload 5, 2) := by decide +kernel
theorem dX9_hoopCame_96 : decode cX9_hoopCame 96 = .ok (.invokevirtual 84, 3) := by decide +kernel
theorem dX9_hoopCame_99 : decode cX9_hoopCame 99 = .ok (.pop, 1) := by decide +kernel
theorem dX9_hoopCame_100 : decode cX9_hoopCame 100 = .ok (.iconst 1, 1) := by decide +kernel
theorem dX9_hoopCame_101 : decode cX9_hoopCame 101 = .ok (.ireturn, 1) := by decide +kernel
theorem dX9_hoops_49 : decode cX9_hoops 49 = .ok (.iload 5, 2) := by decide +kernel
theorem dX9_hoops_51 : decode cX9_hoops 51 = .ok (.iload_n 3, 1) := by decide +kernel
theorem dX9_hoops_52 : decode cX9_hoops 52 = .ok (.if_icmp .ge 24, 3) := by decide +kernel
theorem dX9_hoops_76 : decode cX9_hoops 76 = .ok (.iload 5, 2) := by decide +kernel
theorem dX9_hoops_78 : decode cX9_hoops 78 = .ok (.ireturn, 1) := by decide +kernel
theorem dX9_hoops_55 : decode cX9_hoops 55 = .ok (.aload_n 0, 1) := by decide +kernel
theorem dX9_hoops_56 : decode cX9_hoops 56 = .ok (.aload 4, 2) := by decide +kernel
theorem dX9_hoops_58 : decode cX9_hoops 58 = .ok (.iload_n 2, 1) := by decide +kernel
theorem dX9_hoops_59 : decode cX9_hoops 59 = .ok (.iconst 3, 1) := by decide +kernel
theorem dX9_hoops_60 : decode cX9_hoops 60 = .ok (.iload 5, 2) := by decide +kernel
theorem dX9_hoops_62 : decode cX9_hoops 62 = .ok (.imul, 1) := by decide +kernel
theorem dX9_hoops_63 : decode cX9_hoops 63 = .ok (.iadd, 1) := by decide +kernel
theorem dX9_hoops_64 : decode cX9_hoops 64 = .ok (.invokevirtual 97, 3) := by decide +kernel
theorem dX9_hoops_67 : decode cX9_hoops 67 = .ok (.ifCond .eq 9, 3) := by decide +kernel
theorem dX9_hoops_70 : decode cX9_hoops 70 = .ok (.iinc 5 1, 3) := by decide +kernel
theorem dX9_hoops_73 : decode cX9_hoops 73 = .ok (.goto (-24), 3) := by decide +kernel
theorem dX9_hoopCanBecome_0 : decode cX9_hoopCanBecome 0 = .ok (.iload_n 1, 1) := by decide +kernel
theorem dX9_hoopCanBecome_1 : decode cX9_hoopCanBecome 1 = .ok (.iconst 2, 1) := by decide +kernel
theorem dX9_hoopCanBecome_2 : decode cX9_hoopCanBecome 2 = .ok (.if_icmp .eq 8, 3) := by decide +kernel
theorem dX9_hoopCanBecome_10 : decode cX9_hoopCanBecome 10 = .ok (.aload_n 0, 1) := by decide +kernel
theorem dX9_hoopCanBecome_11 : decode cX9_hoopCanBecome 11 = .ok (.invokevirtual 167, 3) := by decide +kernel
theorem dX9_hoopCanBecome_14 : decode cX9_hoopCanBecome 14 = .ok (.ifCond .eq 15, 3) := by decide +kernel
theorem dX9_hoopCanBecome_29 : decode cX9_hoopCanBecome 29 = .ok (.iload_n 2, 1) := by decide +kernel
theorem dX9_hoopCanBecome_30 : decode cX9_hoopCanBecome 30 = .ok (.invokestatic 400, 3) := by decide +kernel
theorem dX9_hoopCanBecome_33 : decode cX9_hoopCanBecome 33 = .ok (.ireturn, 1) := by decide +kernel
theorem dX9_hoopCanBecome_17 : decode cX9_hoopCanBecome 17 = .ok (.iload_n 2, 1) := by decide +kernel
theorem dX9_hoopCanBecome_18 : decode cX9_hoopCanBecome 18 = .ok (.ifCond .ne 7, 3) := by decide +kernel
theorem dX9_hoopCanBecome_25 : decode cX9_hoopCanBecome 25 = .ok (.iconst 0, 1) := by decide +kernel
theorem dX9_hoopCanBecome_26 : decode cX9_hoopCanBecome 26 = .ok (.goto 7, 3) := by decide +kernel
theorem dX9_hoopCanBecome_21 : decode cX9_hoopCanBecome 21 = .ok (.iconst 1, 1) := by decide +kernel
theorem dX9_hoopCanBecome_22 : decode cX9_hoopCanBecome 22 = .ok (.goto 11, 3) := by decide +kernel
theorem dX9_hoopCanBecome_5 : decode cX9_hoopCanBecome 5 = .ok (.iload_n 2, 1) := by decide +kernel
theorem dX9_hoopCanBecome_6 : decode cX9_hoopCanBecome 6 = .ok (.invokestatic 76, 3) := by decide +kernel
theorem dX9_hoopCanBecome_9 : decode cX9_hoopCanBecome 9 = .ok (.ireturn, 1) := by decide +kernel
theorem dX9_settingCanBecome_0 : decode cX9_settingCanBecome 0 = .ok (.iload_n 1, 1) := by decide +kernel
theorem dX9_settingCanBecome_1 : decode cX9_settingCanBecome 1 = .ok (.tableswitch 108 3 7 #[35, 50, 67, 88, 103], 35) := by decide +kernel
theorem dX9_settingCanBecome_36 : decode cX9_settingCanBecome 36 = .ok (.iload_n 2, 1) := by decide +kernel
theorem dX9_settingCanBecome_37 : decode cX9_settingCanBecome 37 = .ok (.ifCond .lt 12, 3) := by decide +kernel
theorem dX9_settingCanBecome_49 : decode cX9_settingCanBecome 49 = .ok (.iconst 0, 1) := by decide +kernel
theorem dX9_settingCanBecome_50 : decode cX9_settingCanBecome 50 = .ok (.ireturn, 1) := by decide +kernel
theorem dX9_settingCanBecome_40 : decode cX9_settingCanBecome 40 = .ok (.iload_n 2, 1) := by decide +kernel
theorem dX9_settingCanBecome_41 : decode cX9_settingCanBecome 41 = .ok (.iconst 3, 1) := by decide +kernel
theorem dX9_settingCanBecome_42 : decode cX9_settingCanBecome 42 = .ok (.if_icmp .gt 7, 3) := by decide +kernel
theorem dX9_settingCanBecome_45 : decode cX9_settingCanBecome 45 = .ok (.iconst 1, 1) := by decide +kernel
theorem dX9_settingCanBecome_46 : decode cX9_settingCanBecome 46 = .ok (.goto 4, 3) := by decide +kernel
theorem dX9_settingCanBecome_51 : decode cX9_settingCanBecome 51 = .ok (.iload_n 2, 1) := by decide +kernel
theorem dX9_settingCanBecome_52 : decode cX9_settingCanBecome 52 = .ok (.iconst 2, 1) := by decide +kernel
theorem dX9_settingCanBecome_53 : decode cX9_settingCanBecome 53 = .ok (.if_icmp .lt 13, 3) := by decide +kernel
theorem dX9_settingCanBecome_66 : decode cX9_settingCanBecome 66 = .ok (.iconst 0, 1) := by decide +kernel
theorem dX9_settingCanBecome_67 : decode cX9_settingCanBecome 67 = .ok (.ireturn, 1) := by decide +kernel
theorem dX9_settingCanBecome_56 : decode cX9_settingCanBecome 56 = .ok (.iload_n 2, 1) := by decide +kernel
theorem dX9_settingCanBecome_57 : decode cX9_settingCanBecome 57 = .ok (.bipush 24, 2) := by decide +kernel
theorem dX9_settingCanBecome_59 : decode cX9_settingCanBecome 59 = .ok (.if_icmp .gt 7, 3) := by decide +kernel
theorem dX9_settingCanBecome_62 : decode cX9_settingCanBecome 62 = .ok (.iconst 1, 1) := by decide +kernel
theorem dX9_settingCanBecome_63 : decode cX9_settingCanBecome 63 = .ok (.goto 4, 3) := by decide +kernel
theorem dX9_settingCanBecome_68 : decode cX9_settingCanBecome 68 = .ok (.iload_n 2, 1) := by decide +kernel
theorem dX9_settingCanBecome_69 : decode cX9_settingCanBecome 69 = .ok (.ifCond .lt 18, 3) := by decide +kernel
theorem dX9_settingCanBecome_87 : decode cX9_settingCanBecome 87 = .ok (.iconst 0, 1) := by decide +kernel
theorem dX9_settingCanBecome_88 : decode cX9_settingCanBecome 88 = .ok (.ireturn, 1) := by decide +kernel
theorem dX9_settingCanBecome_72 : decode cX9_settingCanBecome 72 = .ok (.iload_n 2, 1) := by decide +kernel
theorem dX9_settingCanBecome_73 : decode cX9_settingCanBecome 73 = .ok (.aload_n 0, 1) := by decide +kernel
theorem dX9_settingCanBecome_74 : decode cX9_settingCanBecome 74 = .ok (.getfield 28, 3) := by decide +kernel
theorem dX9_settingCanBecome_77 : decode cX9_settingCanBecome 77 = .ok (.getfield 202, 3) := by decide +kernel
theorem dX9_settingCanBecome_80 : decode cX9_settingCanBecome 80 = .ok (.if_icmp .ge 7, 3) := by decide +kernel
theorem dX9_settingCanBecome_83 : decode cX9_settingCanBecome 83 = .ok (.iconst 1, 1) := by decide +kernel
theorem dX9_settingCanBecome_84 : decode cX9_settingCanBecome 84 = .ok (.goto 4, 3) := by decide +kernel
theorem dX9_settingCanBecome_89 : decode cX9_settingCanBecome 89 = .ok (.iload_n 2, 1) := by decide +kernel
theorem dX9_settingCanBecome_90 : decode cX9_settingCanBecome 90 = .ok (.ifCond .lt 12, 3) := by decide +kernel
theorem dX9_settingCanBecome_102 : decode cX9_settingCanBecome 102 = .ok (.iconst 0, 1) := by decide +kernel
theorem dX9_settingCanBecome_103 : decode cX9_settingCanBecome 103 = .ok (.ireturn, 1) := by decide +kernel
theorem dX9_settingCanBecome_93 : decode cX9_settingCanBecome 93 = .ok (.iload_n 2, 1) := by decide +kernel
theorem dX9_settingCanBecome_94 : decode cX9_settingCanBecome 94 = .ok (.iconst 5, 1) := by decide +kernel
theorem dX9_settingCanBecome_95 : decode cX9_settingCanBecome 95 = .ok (.if_icmp .gt 7, 3) := by decide +kernel
theorem dX9_settingCanBecome_98 : decode cX9_settingCanBecome 98 = .ok (.iconst 1, 1) := by decide +kernel
theorem dX9_settingCanBecome_99 : decode cX9_settingCanBecome 99 = .ok (.goto 4, 3) := by decide +kernel
theorem dX9_settingCanBecome_104 : decode cX9_settingCanBecome 104 = .ok (.iload_n 2, 1) := by decide +kernel
theorem dX9_settingCanBecome_105 : decode cX9_settingCanBecome 105 = .ok (.invokestatic 255, 3) := by decide +kernel
theorem dX9_settingCanBecome_108 : decode cX9_settingCanBecome 108 = .ok (.ireturn, 1) := by decide +kernel
theorem dX9_settingCanBecome_109 : decode cX9_settingCanBecome 109 = .ok (.iconst 0, 1) := by decide +kernel
theorem dX9_settingCanBecome_110 : decode cX9_settingCanBecome 110 = .ok (.ireturn, 1) := by decide +kernel
theorem dX9_canBecome_0 : decode cX9_canBecome 0 = .ok (.iload_n 2, 1) := by decide +kernel
theorem dX9_canBecome_1 : decode cX9_canBecome 1 = .ok (.ifCond .lt 42, 3) := by decide +kernel
theorem dX9_canBecome_43 : decode cX9_canBecome 43 = .ok (.iload_n 1, 1) := by decide +kernel
theorem dX9_canBecome_44 : decode cX9_canBecome 44 = .ok (.ifCond .ne 16, 3) := by decide +kernel
theorem dX9_canBecome_60 : decode cX9_canBecome 60 = .ok (.iconst 0, 1) := by decide +kernel
theorem dX9_canBecome_61 : decode cX9_canBecome 61 = .ok (.ireturn, 1) := by decide +kernel
theorem dX9_canBecome_47 : decode cX9_canBecome 47 = .ok (.aload_n 0, 1) := by decide +kernel
theorem dX9_canBecome_48 : decode cX9_canBecome 48 = .ok (.iload_n 2, 1) := by decide +kernel
theorem dX9_canBecome_49 : decode cX9_canBecome 49 = .ok (.iload_n 3, 1) := by decide +kernel
theorem dX9_canBecome_50 : decode cX9_canBecome 50 = .ok (.invokevirtual 407, 3) := by decide +kernel
theorem dX9_canBecome_53 : decode cX9_canBecome 53 = .ok (.ifCond .eq 7, 3) := by decide +kernel
theorem dX9_canBecome_56 : decode cX9_canBecome 56 = .ok (.iconst 1, 1) := by decide +kernel
theorem dX9_canBecome_57 : decode cX9_canBecome 57 = .ok (.goto 4, 3) := by decide +kernel
theorem dX9_canBecome_4 : decode cX9_canBecome 4 = .ok (.iload_n 2, 1) := by decide +kernel
theorem dX9_canBecome_5 : decode cX9_canBecome 5 = .ok (.iconst 2, 1) := by decide +kernel
theorem dX9_canBecome_6 : decode cX9_canBecome 6 = .ok (.if_icmp .gt 37, 3) := by decide +kernel
theorem dX9_canBecome_9 : decode cX9_canBecome 9 = .ok (.aload_n 0, 1) := by decide +kernel
theorem dX9_canBecome_10 : decode cX9_canBecome 10 = .ok (.getfield 28, 3) := by decide +kernel
theorem dX9_canBecome_13 : decode cX9_canBecome 13 = .ok (.iload_n 1, 1) := by decide +kernel
theorem dX9_canBecome_14 : decode cX9_canBecome 14 = .ok (.invokevirtual 118, 3) := by decide +kernel
theorem dX9_canBecome_17 : decode cX9_canBecome 17 = .ok (.ifCond .eq 24, 3) := by decide +kernel
theorem dX9_canBecome_41 : decode cX9_canBecome 41 = .ok (.iconst 0, 1) := by decide +kernel
theorem dX9_canBecome_42 : decode cX9_canBecome 42 = .ok (.ireturn, 1) := by decide +kernel
theorem dX9_canBecome_20 : decode cX9_canBecome 20 = .ok (.aload_n 0, 1) := by decide +kernel
theorem dX9_canBecome_21 : decode cX9_canBecome 21 = .ok (.getfield 28, 3) := by decide +kernel
theorem dX9_canBecome_24 : decode cX9_canBecome 24 = .ok (.getfield 121, 3) := by decide +kernel
theorem dX9_canBecome_27 : decode cX9_canBecome 27 = .ok (.iload_n 1, 1) := by decide +kernel
theorem dX9_canBecome_28 : decode cX9_canBecome 28 = .ok (.aaload, 1) := by decide +kernel
theorem dX9_canBecome_29 : decode cX9_canBecome 29 = .ok (.iload_n 2, 1) := by decide +kernel
theorem dX9_canBecome_30 : decode cX9_canBecome 30 = .ok (.iload_n 3, 1) := by decide +kernel
theorem dX9_canBecome_31 : decode cX9_canBecome 31 = .ok (.invokestatic 403, 3) := by decide +kernel
theorem dX9_canBecome_34 : decode cX9_canBecome 34 = .ok (.ifCond .eq 7, 3) := by decide +kernel
theorem dX9_canBecome_37 : decode cX9_canBecome 37 = .ok (.iconst 1, 1) := by decide +kernel
theorem dX9_canBecome_38 : decode cX9_canBecome 38 = .ok (.goto 4, 3) := by decide +kernel
theorem dX9_valueOf_0 : decode cX9_valueOf 0 = .ok (.iload_n 2, 1) := by decide +kernel
theorem dX9_valueOf_1 : decode cX9_valueOf 1 = .ok (.iconst 2, 1) := by decide +kernel
theorem dX9_valueOf_2 : decode cX9_valueOf 2 = .ok (.if_icmp .gt 33, 3) := by decide +kernel
theorem dX9_valueOf_35 : decode cX9_valueOf 35 = .ok (.aload_n 0, 1) := by decide +kernel
theorem dX9_valueOf_36 : decode cX9_valueOf 36 = .ok (.iload_n 2, 1) := by decide +kernel
theorem dX9_valueOf_37 : decode cX9_valueOf 37 = .ok (.bipush 7, 2) := by decide +kernel
theorem dX9_valueOf_39 : decode cX9_valueOf 39 = .ok (.iadd, 1) := by decide +kernel
theorem dX9_valueOf_40 : decode cX9_valueOf 40 = .ok (.invokevirtual 131, 3) := by decide +kernel
theorem dX9_valueOf_43 : decode cX9_valueOf 43 = .ok (.ireturn, 1) := by decide +kernel
theorem dX9_valueOf_5 : decode cX9_valueOf 5 = .ok (.aload_n 0, 1) := by decide +kernel
theorem dX9_valueOf_6 : decode cX9_valueOf 6 = .ok (.getfield 28, 3) := by decide +kernel
theorem dX9_valueOf_9 : decode cX9_valueOf 9 = .ok (.iload_n 1, 1) := by decide +kernel
theorem dX9_valueOf_10 : decode cX9_valueOf 10 = .ok (.invokevirtual 118, 3) := by decide +kernel
theorem dX9_valueOf_13 : decode cX9_valueOf 13 = .ok (.ifCond .eq 19, 3) := by decide +kernel
theorem dX9_valueOf_34 : decode cX9_valueOf 34 = .ok (.ireturn, 1) := by decide +kernel
theorem dX9_valueOf_16 : decode cX9_valueOf 16 = .ok (.aload_n 0, 1) := by decide +kernel
theorem dX9_valueOf_17 : decode cX9_valueOf 17 = .ok (.getfield 28, 3) := by decide +kernel
theorem dX9_valueOf_20 : decode cX9_valueOf 20 = .ok (.getfield 121, 3) := by decide +kernel
theorem dX9_valueOf_23 : decode cX9_valueOf 23 = .ok (.iload_n 1, 1) := by decide +kernel
theorem dX9_valueOf_24 : decode cX9_valueOf 24 = .ok (.aaload, 1) := by decide +kernel
theorem dX9_valueOf_25 : decode cX9_valueOf 25 = .ok (.iload_n 2, 1) := by decide +kernel
theorem dX9_valueOf_26 : decode cX9_valueOf 26 = .ok (.invokevirtual 125, 3) := by decide +kernel
theorem dX9_valueOf_29 : decode cX9_valueOf 29 = .ok (.goto 5, 3) := by decide +kernel
theorem dX9_lay_0 : decode cX9_lay 0 = .ok (.iload_n 2, 1) := by decide +kernel
theorem dX9_lay_1 : decode cX9_lay 1 = .ok (.tableswitch 90 3 7 #[35, 46, 57, 68, 79], 35) := by decide +kernel
theorem dX9_lay_36 : decode cX9_lay 36 = .ok (.aload_n 0, 1) := by decide +kernel
theorem dX9_lay_37 : decode cX9_lay 37 = .ok (.getfield 28, 3) := by decide +kernel
theorem dX9_lay_40 : decode cX9_lay 40 = .ok (.iload_n 3, 1) := by decide +kernel
theorem dX9_lay_41 : decode cX9_lay 41 = .ok (.putfield 410, 3) := by decide +kernel
theorem dX9_lay_44 : decode cX9_lay 44 = .ok (.goto 72, 3) := by decide +kernel
theorem dX9_lay_116 : decode cX9_lay 116 = .ok (.return_, 1) := by decide +kernel
theorem dX9_lay_47 : decode cX9_lay 47 = .ok (.aload_n 0, 1) := by decide +kernel
theorem dX9_lay_48 : decode cX9_lay 48 = .ok (.getfield 28, 3) := by decide +kernel
theorem dX9_lay_51 : decode cX9_lay 51 = .ok (.iload_n 3, 1) := by decide +kernel
theorem dX9_lay_52 : decode cX9_lay 52 = .ok (.putfield 202, 3) := by decide +kernel
theorem dX9_lay_55 : decode cX9_lay 55 = .ok (.goto 61, 3) := by decide +kernel
theorem dX9_lay_58 : decode cX9_lay 58 = .ok (.aload_n 0, 1) := by decide +kernel
theorem dX9_lay_59 : decode cX9_lay 59 = .ok (.getfield 28, 3) := by decide +kernel
theorem dX9_lay_62 : decode cX9_lay 62 = .ok (.iload_n 3, 1) := by decide +kernel
theorem dX9_lay_63 : decode cX9_lay 63 = .ok (.putfield 205, 3) := by decide +kernel
theorem dX9_lay_66 : decode cX9_lay 66 = .ok (.goto 50, 3) := by decide +kernel
theorem dX9_lay_69 : decode cX9_lay 69 = .ok (.aload_n 0, 1) := by decide +kernel
theorem dX9_lay_70 : decode cX9_lay 70 = .ok (.getfield 28, 3) := by decide +kernel
theorem dX9_lay_73 : decode cX9_lay 73 = .ok (.iload_n 3, 1) := by decide +kernel
theorem dX9_lay_74 : decode cX9_lay 74 = .ok (.putfield 208, 3) := by decide +kernel
theorem dX9_lay_77 : decode cX9_lay 77 = .ok (.goto 39, 3) := by decide +kernel
theorem dX9_lay_80 : decode cX9_lay 80 = .ok (.aload_n 0, 1) := by decide +kernel
theorem dX9_lay_81 : decode cX9_lay 81 = .ok (.getfield 47, 3) := by decide +kernel
theorem dX9_lay_84 : decode cX9_lay 84 = .ok (.iload_n 3, 1) := by decide +kernel
theorem dX9_lay_85 : decode cX9_lay 85 = .ok (.putfield 413, 3) := by decide +kernel
theorem dX9_lay_88 : decode cX9_lay 88 = .ok (.goto 28, 3) := by decide +kernel
theorem dX9_lay_91 : decode cX9_lay 91 = .ok (.aload_n 0, 1) := by decide +kernel
theorem dX9_lay_92 : decode cX9_lay 92 = .ok (.getfield 28, 3) := by decide +kernel
theorem dX9_lay_95 : decode cX9_lay 95 = .ok (.iload_n 1, 1) := by decide +kernel
theorem dX9_lay_96 : decode cX9_lay 96 = .ok (.invokevirtual 118, 3) := by decide +kernel
theorem dX9_lay_99 : decode cX9_lay 99 = .ok (.ifCond .eq 17, 3) := by decide +kernel
theorem dX9_lay_102 : decode cX9_lay 102 = .ok (.aload_n 0, 1) := by decide +kernel
theorem dX9_lay_103 : decode cX9_lay 103 = .ok (.getfield 28, 3) := by decide +kernel
theorem dX9_lay_106 : decode cX9_lay 106 = .ok (.getfield 121, 3) := by decide +kernel
theorem dX9_lay_109 : decode cX9_lay 109 = .ok (.iload_n 1, 1) := by decide +kernel
theorem dX9_lay_110 : decode cX9_lay 110 = .ok (.aaload, 1) := by decide +kernel
theorem dX9_lay_111 : decode cX9_lay 111 = .ok (.iload_n 2, 1) := by decide +kernel
theorem dX9_lay_112 : decode cX9_lay 112 = .ok (.iload_n 3, 1) := by decide +kernel
theorem dX9_lay_113 : decode cX9_lay 113 = .ok (.invokevirtual 416, 3) := by decide +kernel
theorem dX9_go_16 : decode cX9_go 16 = .ok (.iload_n 2, 1) := by decide +kernel
theorem dX9_go_17 : decode cX9_go 17 = .ok (.iload_n 1, 1) := by decide +kernel
theorem dX9_go_18 : decode cX9_go 18 = .ok (.if_icmp .ge 16, 3) := by decide +kernel
theorem dX9_go_21 : decode cX9_go 21 = .ok (.aload_n 0, 1) := by decide +kernel
theorem dX9_go_22 : decode cX9_go 22 = .ok (.getfield 28, 3) := by decide +kernel
theorem dX9_go_25 : decode cX9_go 25 = .ok (.invokevirtual 161, 3) := by decide +kernel
theorem dX9_go_28 : decode cX9_go 28 = .ok (.iinc 2 1, 3) := by decide +kernel
theorem dX9_go_31 : decode cX9_go 31 = .ok (.goto (-15), 3) := by decide +kernel
/-- what holds of the class's object between calls -/
def InvC (M : xM) : Prop := (∃ c : Nat, c ≤ 5 ∧ M 13 2 = nI c) ∧ (∃ c : Nat, c ≤ 5 ∧ M 20 2 = nI c) ∧ (∃ L : Nat, L ≤ 128 ∧ M 1 4 = nI L) ∧ (∀ k, k < 128 → M 3 k ≤ 100000) ∧ DI M ∧ (∃ n : Nat, n ≤ 120 ∧ M 6 2 = nI n) ∧
  (∃ u w : Nat, u ≤ w ∧ w ≤ 40 ∧ M 41 4 = nI u ∧ M 41 5 = nI w) ∧ (∃ b : Nat, b ≤ 50 ∧ M 46 2 = nI b) ∧ (∀ j, j < 50 → ∃ q : Nat, q < 8 ∧ M 47 j = nI q) ∧ (∃ r : Nat, r ≤ 100 ∧ M 46 3 = nI r) ∧ (∀ j, j < 6 → ∃ s : Nat, s ≤ 60 ∧ M (50 + 2 * j) 3 = nI s) ∧ SK M
theorem sx_shl {c P : Nat} (hc : c ≤ 5) (hP : P = 2 ^ c) : (1 : Int32) <<< (nI c &&& 31) = nI P := by
  subst hP; exact (show ∀ c, c ≤ 5 → (1 : Int32) <<< (nI c &&& 31) = nI (2 ^ c) by decide +kernel) c hc
theorem sx_p2 {c P : Nat} (hc : c ≤ 5) (hP : P = 2 ^ c) : P ≤ 32 ∧ 1 ≤ P := by
  subst hP; exact (show ∀ c, c ≤ 5 → 2 ^ c ≤ 32 ∧ 1 ≤ 2 ^ c by decide +kernel) c hc
def pv (k : Nat) : Int32 := nI k - 9
theorem pv_s {k : Nat} (h : k < 30) : pv k + 1 = pv (k + 1) := (show ∀ k, k < 30 → pv k + 1 = pv (k + 1) by decide +kernel) k h
theorem pv_gt {k : Nat} (h : k = 19) : (9 : Int32) < pv k := by subst h; decide
theorem pv_le {k : Nat} (h : k < 19) : ¬ (9 : Int32) < pv k := (show ∀ k, k < 19 → ¬ (9 : Int32) < pv k by decide +kernel) k h
set_option maxRecDepth 100000 in
set_option maxHeartbeats 4000000 in
theorem g_X9_settingOf (w : Int32) {l : Launch} {G : xG} {M : xM} {J : xJ} : x_M l G fX9_settingOf 0 0 0 [.ref (0), .int (w)] x_SH M J (qPI M J (fun r => True)) := by
  refine xb_of pX9 (Nat.le_of_ble_eq_true rfl) rfl ?_
  refine xr_iload_n dX9_settingOf_0 1 rfl ?_
  refine xg_eq 10 (fun w1 => ?_) (fun w1 => ?_)
  · refine xr_tableIn (tgt := 40) dX9_settingOf_1 (by decide) (by decide) rfl rfl ?_
    refine xr_aload_n dX9_settingOf_40 0 rfl ?_
    refine xr_getR flX9_28 dX9_settingOf_41 s_0 rfl ?_
    refine xb_get (v := M 13 4) flX9_410 dX9_settingOf_44 s_13 rfl rfl ?_
    exact xr_iret dX9_settingOf_47 rfl rfl (⟨_, rfl, rfl, rfl, rfl, trivial⟩)
  refine xg_eq 11 (fun w2 => ?_) (fun w2 => ?_)
  · refine xr_tableIn (tgt := 48) dX9_settingOf_1 (by decide) (by decide) rfl rfl ?_
    refine xr_aload_n dX9_settingOf_48 0 rfl ?_
    refine xr_getR flX9_28 dX9_settingOf_49 s_0 rfl ?_
    refine xb_get (v := M 13 5) flX9_202 dX9_settingOf_52 s_13 rfl rfl ?_
    exact xr_iret dX9_settingOf_55 rfl rfl (⟨_, rfl, rfl, rfl, rfl, trivial⟩)
  refine xg_eq 12 (fun w3 => ?_) (fun w3 => ?_)
  · refine xr_tableIn (tgt := 56) dX9_settingOf_1 (by decide) (by decide) rfl rfl ?_
    refine xr_aload_n dX9_settingOf_56 0 rfl ?_
    refine xr_getR flX9_28 dX9_settingOf_57 s_0 rfl ?_
    refine xb_get (v := M 13 6) flX9_205 dX9_settingOf_60 s_13 rfl rfl ?_
    exact xr_iret dX9_settingOf_63 rfl rfl (⟨_, rfl, rfl, rfl, rfl, trivial⟩)
  refine xg_eq 13 (fun w4 => ?_) (fun w4 => ?_)
  · refine xr_tableIn (tgt := 64) dX9_settingOf_1 (by decide) (by decide) rfl rfl ?_
    refine xr_aload_n dX9_settingOf_64 0 rfl ?_
    refine xr_getR flX9_28 dX9_settingOf_65 s_0 rfl ?_
    refine xb_get (v := M 13 7) flX9_208 dX9_settingOf_68 s_13 rfl rfl ?_
    exact xr_iret dX9_settingOf_71 rfl rfl (⟨_, rfl, rfl, rfl, rfl, trivial⟩)
  refine xg_eq 14 (fun w5 => ?_) (fun w5 => ?_)
  · refine xr_tableIn (tgt := 72) dX9_settingOf_1 (by decide) (by decide) rfl rfl ?_
    refine xr_aload_n dX9_settingOf_72 0 rfl ?_
    refine xr_getR flX9_47 dX9_settingOf_73 s_0 rfl ?_
    refine xb_get (v := M 35 5) flX9_413 dX9_settingOf_76 s_35 rfl rfl ?_
    exact xr_iret dX9_settingOf_79 rfl rfl (⟨_, rfl, rfl, rfl, rfl, trivial⟩)
  refine xg_eq 15 (fun w6 => ?_) (fun w6 => ?_)
  · refine xr_tableIn (tgt := 80) dX9_settingOf_1 (by decide) (by decide) rfl rfl ?_
    refine xr_aload_n dX9_settingOf_80 0 rfl ?_
    refine xr_getR flX9_28 dX9_settingOf_81 s_0 rfl ?_
    refine xb_get (v := M 13 3) flX9_303 dX9_settingOf_84 s_13 rfl rfl ?_
    exact xr_iret dX9_settingOf_87 rfl rfl (⟨_, rfl, rfl, rfl, rfl, trivial⟩)
  refine xr_tableOut (tgt := 88) dX9_settingOf_1 (xg_out (lo := 10) (hi := 15) (by decide) (fun j h1 h2 qq => by have h3 : j = 10 ∨ j = 11 ∨ j = 12 ∨ j = 13 ∨ j = 14 ∨ j = 15 := (by omega); rcases h3 with rfl | rfl | rfl | rfl | rfl | rfl <;> first | exact absurd qq w1 | exact absurd qq w2 | exact absurd qq w3 | exact absurd qq w4 | exact absurd qq w5 | exact absurd qq w6)) rfl ?_
  refine xr_ldc coX9_105 dX9_settingOf_88 ?_
  exact xr_iret dX9_settingOf_90 rfl rfl (⟨_, rfl, rfl, rfl, rfl, trivial⟩)