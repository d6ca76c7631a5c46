theorem dX10_sizeOf_0 : decode cX10_sizeOf 0 = .ok (.iload_n 0, 1) := by decide +kernel
theorem dX10_sizeOf_1 : decode cX10_sizeOf 1 = .ok (.ifCond .ge 8, 3) := by decide +kernel
theorem dX10_sizeOf_9 : decode cX10_sizeOf 9 = .ok (.iload_n 0, 1) := by decide +kernel
theorem dX10_sizeOf_10 : decode cX10_sizeOf 10 = .ok (.ireturn, 1) := by decide +kernel
theorem dX10_sizeOf_4 : decode cX10_sizeOf 4 = .ok (.iload_n 0, 1) := by decide +kernel
theorem dX10_sizeOf_5 : decode cX10_sizeOf 5 = .ok (.ineg, 1) := by decide +kernel
theorem dX10_sizeOf_6 : decode cX10_sizeOf 6 = .ok (.goto 4, 3) := by decide +kernel
theorem dX10_isIn_0 : decode cX10_isIn 0 = .ok (.iload_n 0, 1) := by decide +kernel
theorem dX10_isIn_1 : decode cX10_isIn 1 = .ok (.iload_n 1, 1) := by decide +kernel
theorem dX10_isIn_2 : decode cX10_isIn 2 = .ok (.ishr, 1) := by decide +kernel
theorem dX10_isIn_3 : decode cX10_isIn 3 = .ok (.iconst 1, 1) := by decide +kernel
theorem dX10_isIn_4 : decode cX10_isIn 4 = .ok (.iand, 1) := by decide +kernel
theorem dX10_isIn_5 : decode cX10_isIn 5 = .ok (.iconst 1, 1) := by decide +kernel
theorem dX10_isIn_6 : decode cX10_isIn 6 = .ok (.if_icmp .ne 7, 3) := by decide +kernel
theorem dX10_isIn_13 : decode cX10_isIn 13 = .ok (.iconst 0, 1) := by decide +kernel
theorem dX10_isIn_14 : decode cX10_isIn 14 = .ok (.ireturn, 1) := by decide +kernel
theorem dX10_isIn_9 : decode cX10_isIn 9 = .ok (.iconst 1, 1) := by decide +kernel
theorem dX10_isIn_10 : decode cX10_isIn 10 = .ok (.goto 4, 3) := by decide +kernel
theorem dX10_needOf_0 : decode cX10_needOf 0 = .ok (.bipush 10, 2) := by decide +kernel
theorem dX10_needOf_2 : decode cX10_needOf 2 = .ok (.aload_n 0, 1) := by decide +kernel
theorem dX10_needOf_3 : decode cX10_needOf 3 = .ok (.getfield 9, 3) := by decide +kernel
theorem dX10_needOf_6 : decode cX10_needOf 6 = .ok (.iload_n 1, 1) := by decide +kernel
theorem dX10_needOf_7 : decode cX10_needOf 7 = .ok (.iaload, 1) := by decide +kernel
theorem dX10_needOf_8 : decode cX10_needOf 8 = .ok (.isub, 1) := by decide +kernel
theorem dX10_needOf_9 : decode cX10_needOf 9 = .ok (.iconst 2, 1) := by decide +kernel
theorem dX10_needOf_10 : decode cX10_needOf 10 = .ok (.idiv, 1) := by decide +kernel
theorem dX10_needOf_11 : decode cX10_needOf 11 = .ok (.iconst 1, 1) := by decide +kernel
theorem dX10_needOf_12 : decode cX10_needOf 12 = .ok (.iadd, 1) := by decide +kernel
theorem dX10_needOf_13 : decode cX10_needOf 13 = .ok (.ireturn, 1) := by decide +kernel
theorem dX10_becomesPace_0 : decode cX10_becomesPace 0 = .ok (.iload_n 2, 1) := by decide +kernel
theorem dX10_becomesPace_1 : decode cX10_becomesPace 1 = .ok (.ifCond .ge 7, 3) := by decide +kernel
theorem dX10_becomesPace_8 : decode cX10_becomesPace 8 = .ok (.iload_n 2, 1) := by decide +kernel
theorem dX10_becomesPace_9 : decode cX10_becomesPace 9 = .ok (.bipush 9, 2) := by decide +kernel
theorem dX10_becomesPace_11 : decode cX10_becomesPace 11 = .ok (.if_icmp .le 8, 3) := by decide +kernel
theorem dX10_becomesPace_19 : decode cX10_becomesPace 19 = .ok (.iload_n 2, 1) := by decide +kernel
theorem dX10_becomesPace_20 : decode cX10_becomesPace 20 = .ok (.istore_n 3, 1) := by decide +kernel
theorem dX10_becomesPace_21 : decode cX10_becomesPace 21 = .ok (.aload_n 0, 1) := by decide +kernel
theorem dX10_becomesPace_22 : decode cX10_becomesPace 22 = .ok (.getfield 40, 3) := by decide +kernel
theorem dX10_becomesPace_25 : decode cX10_becomesPace 25 = .ok (.iload_n 1, 1) := by decide +kernel
theorem dX10_becomesPace_26 : decode cX10_becomesPace 26 = .ok (.aload_n 0, 1) := by decide +kernel
theorem dX10_becomesPace_27 : decode cX10_becomesPace 27 = .ok (.getfield 40, 3) := by decide +kernel
theorem dX10_becomesPace_30 : decode cX10_becomesPace 30 = .ok (.iload_n 1, 1) := by decide +kernel
theorem dX10_becomesPace_31 : decode cX10_becomesPace 31 = .ok (.iaload, 1) := by decide +kernel
theorem dX10_becomesPace_32 : decode cX10_becomesPace 32 = .ok (.ifCond .ge 8, 3) := by decide +kernel
theorem dX10_becomesPace_40 : decode cX10_becomesPace 40 = .ok (.iload_n 3, 1) := by decide +kernel
theorem dX10_becomesPace_41 : decode cX10_becomesPace 41 = .ok (.iastore, 1) := by decide +kernel
theorem dX10_becomesPace_42 : decode cX10_becomesPace 42 = .ok (.return_, 1) := by decide +kernel
theorem dX10_becomesPace_35 : decode cX10_becomesPace 35 = .ok (.iload_n 3, 1) := by decide +kernel
theorem dX10_becomesPace_36 : decode cX10_becomesPace 36 = .ok (.ineg, 1) := by decide +kernel
theorem dX10_becomesPace_37 : decode cX10_becomesPace 37 = .ok (.goto 4, 3) := by decide +kernel
theorem dX10_becomesPace_14 : decode cX10_becomesPace 14 = .ok (.bipush 9, 2) := by decide +kernel
theorem dX10_becomesPace_16 : decode cX10_becomesPace 16 = .ok (.goto 4, 3) := by decide +kernel
theorem dX10_becomesPace_4 : decode cX10_becomesPace 4 = .ok (.iconst 0, 1) := by decide +kernel
theorem dX10_becomesPace_5 : decode cX10_becomesPace 5 = .ok (.goto 15, 3) := by decide +kernel
theorem dX10_gained_0 : decode cX10_gained 0 = .ok (.aload_n 0, 1) := by decide +kernel
theorem dX10_gained_1 : decode cX10_gained 1 = .ok (.getfield 88, 3) := by decide +kernel
theorem dX10_gained_4 : decode cX10_gained 4 = .ok (.ifCond .ge 24, 3) := by decide +kernel
theorem dX10_gained_28 : decode cX10_gained 28 = .ok (.aload_n 0, 1) := by decide +kernel
theorem dX10_gained_29 : decode cX10_gained 29 = .ok (.getfield 34, 3) := by decide +kernel
theorem dX10_gained_32 : decode cX10_gained 32 = .ok (.iconst 0, 1) := by decide +kernel
theorem dX10_gained_33 : decode cX10_gained 33 = .ok (.iload_n 2, 1) := by decide +kernel
theorem dX10_gained_34 : decode cX10_gained 34 = .ok (.iastore, 1) := by decide +kernel
theorem dX10_gained_35 : decode cX10_gained 35 = .ok (.aload_n 0, 1) := by decide +kernel
theorem dX10_gained_36 : decode cX10_gained 36 = .ok (.getfield 34, 3) := by decide +kernel
theorem dX10_gained_39 : decode cX10_gained 39 = .ok (.iconst 1, 1) := by decide +kernel
theorem dX10_gained_40 : decode cX10_gained 40 = .ok (.aload_n 0, 1) := by decide +kernel
theorem dX10_gained_41 : decode cX10_gained 41 = .ok (.getfield 40, 3) := by decide +kernel
theorem dX10_gained_44 : decode cX10_gained 44 = .ok (.iload_n 1, 1) := by decide +kernel
theorem dX10_gained_45 : decode cX10_gained 45 = .ok (.iaload, 1) := by decide +kernel
theorem dX10_gained_46 : decode cX10_gained 46 = .ok (.invokestatic 218, 3) := by decide +kernel
theorem dX10_gained_49 : decode cX10_gained 49 = .ok (.iastore, 1) := by decide +kernel
theorem dX10_gained_50 : decode cX10_gained 50 = .ok (.aload_n 0, 1) := by decide +kernel
theorem dX10_gained_51 : decode cX10_gained 51 = .ok (.getfield 34, 3) := by decide +kernel
theorem dX10_gained_54 : decode cX10_gained 54 = .ok (.iconst 2, 1) := by decide +kernel
theorem dX10_gained_55 : decode cX10_gained 55 = .ok (.aload_n 0, 1) := by decide +kernel
theorem dX10_gained_56 : decode cX10_gained 56 = .ok (.getfield 9, 3) := by decide +kernel
theorem dX10_gained_59 : decode cX10_gained 59 = .ok (.iload_n 1, 1) := by decide +kernel
theorem dX10_gained_60 : decode cX10_gained 60 = .ok (.iaload, 1) := by decide +kernel
theorem dX10_gained_61 : decode cX10_gained 61 = .ok (.iastore, 1) := by decide +kernel
theorem dX10_gained_62 : decode cX10_gained 62 = .ok (.aload_n 0, 1) := by decide +kernel
theorem dX10_gained_63 : decode cX10_gained 63 = .ok (.getfield 34, 3) := by decide +kernel
theorem dX10_gained_66 : decode cX10_gained 66 = .ok (.iconst 3, 1) := by decide +kernel
theorem dX10_gained_67 : decode cX10_gained 67 = .ok (.aload_n 0, 1) := by decide +kernel
theorem dX10_gained_68 : decode cX10_gained 68 = .ok (.getfield 9, 3) := by decide +kernel
theorem dX10_gained_71 : decode cX10_gained 71 = .ok (.iconst 5, 1) := by decide +kernel
theorem dX10_gained_72 : decode cX10_gained 72 = .ok (.iload_n 1, 1) := by decide +kernel
theorem dX10_gained_73 : decode cX10_gained 73 = .ok (.iadd, 1) := by decide +kernel
theorem dX10_gained_74 : decode cX10_gained 74 = .ok (.iaload, 1) := by decide +kernel
theorem dX10_gained_75 : decode cX10_gained 75 = .ok (.iastore, 1) := by decide +kernel
theorem dX10_gained_76 : decode cX10_gained 76 = .ok (.aload_n 0, 1) := by decide +kernel
theorem dX10_gained_77 : decode cX10_gained 77 = .ok (.getfield 34, 3) := by decide +kernel
theorem dX10_gained_80 : decode cX10_gained 80 = .ok (.iconst 4, 1) := by decide +kernel
theorem dX10_gained_81 : decode cX10_gained 81 = .ok (.iload_n 3, 1) := by decide +kernel
theorem dX10_gained_82 : decode cX10_gained 82 = .ok (.iastore, 1) := by decide +kernel
theorem dX10_gained_83 : decode cX10_gained 83 = .ok (.aload_n 0, 1) := by decide +kernel
theorem dX10_gained_84 : decode cX10_gained 84 = .ok (.getfield 34, 3) := by decide +kernel
theorem dX10_gained_87 : decode cX10_gained 87 = .ok (.iconst 5, 1) := by decide +kernel
theorem dX10_gained_88 : decode cX10_gained 88 = .ok (.aload_n 0, 1) := by decide +kernel
theorem dX10_gained_89 : decode cX10_gained 89 = .ok (.getfield 43, 3) := by decide +kernel
theorem dX10_gained_92 : decode cX10_gained 92 = .ok (.iload_n 1, 1) := by decide +kernel
theorem dX10_gained_93 : decode cX10_gained 93 = .ok (.iaload, 1) := by decide +kernel
theorem dX10_gained_94 : decode cX10_gained 94 = .ok (.iastore, 1) := by decide +kernel
theorem dX10_gained_95 : decode cX10_gained 95 = .ok (.aload_n 0, 1) := by decide +kernel
theorem dX10_gained_96 : decode cX10_gained 96 = .ok (.iconst 0, 1) := by decide +kernel
theorem dX10_gained_97 : decode cX10_gained 97 = .ok (.aload_n 0, 1) := by decide +kernel
theorem dX10_gained_98 : decode cX10_gained 98 = .ok (.getfield 88, 3) := by decide +kernel
theorem dX10_gained_101 : decode cX10_gained 101 = .ok (.invokevirtual 211, 3) := by decide +kernel
theorem dX10_gained_104 : decode cX10_gained 104 = .ok (.istore 4, 2) := by decide +kernel
theorem dX10_gained_106 : decode cX10_gained 106 = .ok (.iload 4, 2) := by decide +kernel
theorem dX10_gained_108 : decode cX10_gained 108 = .ok (.bipush (-9), 2) := by decide +kernel
theorem dX10_gained_110 : decode cX10_gained 110 = .ok (.if_icmp .ge 8, 3) := by decide +kernel
theorem dX10_gained_118 : decode cX10_gained 118 = .ok (.iload 4, 2) := by decide +kernel
theorem dX10_gained_120 : decode cX10_gained 120 = .ok (.bipush 9, 2) := by decide +kernel
theorem dX10_gained_122 : decode cX10_gained 122 = .ok (.if_icmp .le 8, 3) := by decide +kernel
theorem dX10_gained_130 : decode cX10_gained 130 = .ok (.iload 4, 2) := by decide +kernel
theorem dX10_gained_132 : decode cX10_gained 132 = .ok (.ireturn, 1) := by decide +kernel
theorem dX10_gained_125 : decode cX10_gained 125 = .ok (.bipush 9, 2) := by decide +kernel
theorem dX10_gained_127 : decode cX10_gained 127 = .ok (.goto 5, 3) := by decide +kernel
theorem dX10_gained_113 : decode cX10_gained 113 = .ok (.bipush (-9), 2) := by decide +kernel
theorem dX10_gained_115 : decode cX10_gained 115 = .ok (.goto 17, 3) := by decide +kernel
theorem dX10_gained_7 : decode cX10_gained 7 = .ok (.iload_n 2, 1) := by decide +kernel
theorem dX10_gained_8 : decode cX10_gained 8 = .ok (.iconst 2, 1) := by decide +kernel
theorem dX10_gained_9 : decode cX10_gained 9 = .ok (.if_icmp .gt 7, 3) := by decide +kernel
theorem dX10_gained_16 : decode cX10_gained 16 = .ok (.iload_n 2, 1) := by decide +kernel
theorem dX10_gained_17 : decode cX10_gained 17 = .ok (.bipush 10, 2) := by decide +kernel
theorem dX10_gained_19 : decode cX10_gained 19 = .ok (.if_icmp .lt 7, 3) := by decide +kernel
theorem dX10_gained_26 : decode cX10_gained 26 = .ok (.iconst 0, 1) := by decide +kernel
theorem dX10_gained_27 : decode cX10_gained 27 = .ok (.ireturn, 1) := by decide +kernel
theorem dX10_gained_22 : decode cX10_gained 22 = .ok (.iconst (-1), 1) := by decide +kernel
theorem dX10_gained_23 : decode cX10_gained 23 = .ok (.goto 4, 3) := by decide +kernel
theorem dX10_gained_12 : decode cX10_gained 12 = .ok (.iload_n 3, 1) := by decide +kernel
theorem dX10_gained_13 : decode cX10_gained 13 = .ok (.goto 14, 3) := by decide +kernel
theorem dX10_begins1_2 : decode cX10_begins1 2 = .ok (.iload_n 2, 1) := by decide +kernel
theorem dX10_begins1_3 : decode cX10_begins1 3 = .ok (.aload_n 0, 1) := by decide +kernel
theorem dX10_begins1_4 : decode cX10_begins1 4 = .ok (.getfield 109, 3) := by decide +kernel
theorem dX10_begins1_7 : decode cX10_begins1 7 = .ok (.if_icmp .ge 72, 3) := by decide +kernel
theorem dX10_begins1_10 : decode cX10_begins1 10 = .ok (.aload_n 0, 1) := by decide +kernel
theorem dX10_begins1_11 : decode cX10_begins1 11 = .ok (.getfield 37, 3) := by decide +kernel
theorem dX10_begins1_14 : decode cX10_begins1 14 = .ok (.iload_n 2, 1) := by decide +kernel
theorem dX10_begins1_15 : decode cX10_begins1 15 = .ok (.aload_n 0, 1) := by decide +kernel
theorem dX10_begins1_16 : decode cX10_begins1 16 = .ok (.getfield 22, 3) := by decide +kernel
theorem dX10_begins1_19 : decode cX10_begins1 19 = .ok (.iload_n 2, 1) := by decide +kernel
theorem dX10_begins1_20 : decode cX10_begins1 20 = .ok (.iaload, 1) := by decide +kernel
theorem dX10_begins1_21 : decode cX10_begins1 21 = .ok (.iastore, 1) := by decide +kernel
theorem dX10_begins1_22 : decode cX10_begins1 22 = .ok (.aload_n 0, 1) := by decide +kernel
theorem dX10_begins1_23 : decode cX10_begins1 23 = .ok (.getfield 40, 3) := by decide +kernel
theorem dX10_begins1_26 : decode cX10_begins1 26 = .ok (.iload_n 2, 1) := by decide +kernel
theorem dX10_begins1_27 : decode cX10_begins1 27 = .ok (.iload_n 1, 1) := by decide +kernel
theorem dX10_begins1_28 : decode cX10_begins1 28 = .ok (.iload_n 2, 1) := by decide +kernel
theorem dX10_begins1_29 : decode cX10_begins1 29 = .ok (.invokestatic 214, 3) := by decide +kernel
theorem dX10_begins1_32 : decode cX10_begins1 32 = .ok (.ifCond .eq 15, 3) := by decide +kernel
theorem dX10_begins1_47 : decode cX10_begins1 47 = .ok (.iconst 0, 1) := by decide +kernel
theorem dX10_begins1_48 : decode cX10_begins1 48 = .ok (.iastore, 1) := by decide +kernel
theorem dX10_begins1_49 : decode cX10_begins1 49 = .ok (.aload_n 0, 1) := by decide +kernel
theorem dX10_begins1_50 : decode cX10_begins1 50 = .ok (.getfield 43, 3) := by decide +kernel
theorem dX10_begins1_53 : decode cX10_begins1 53 = .ok (.iload_n 2, 1) := by decide +kernel
theorem dX10_begins1_54 : decode cX10_begins1 54 = .ok (.iload_n 1, 1) := by decide +kernel
theorem dX10_begins1_55 : decode cX10_begins1 55 = .ok (.iload_n 2, 1) := by decide +kernel
theorem dX10_begins1_56 : decode cX10_begins1 56 = .ok (.invokestatic 214, 3) := by decide +kernel
theorem dX10_begins1_59 : decode cX10_begins1 59 = .ok (.ifCond .eq 12, 3) := by decide +kernel
theorem dX10_begins1_71 : decode cX10_begins1 71 = .ok (.iconst 0, 1) := by decide +kernel
theorem dX10_begins1_72 : decode cX10_begins1 72 = .ok (.iastore, 1) := by decide +kernel
theorem dX10_begins1_73 : decode cX10_begins1 73 = .ok (.iinc 2 1, 3) := by decide +kernel
theorem dX10_begins1_76 : decode cX10_begins1 76 = .ok (.goto (-74), 3) := by decide +kernel
theorem dX10_begins1_62 : decode cX10_begins1 62 = .ok (.aload_n 0, 1) := by decide +kernel
theorem dX10_begins1_63 : decode cX10_begins1 63 = .ok (.getfield 25, 3) := by decide +kernel
theorem dX10_begins1_66 : decode cX10_begins1 66 = .ok (.iload_n 2, 1) := by decide +kernel
theorem dX10_begins1_67 : decode cX10_begins1 67 = .ok (.iaload, 1) := by decide +kernel
theorem dX10_begins1_68 : decode cX10_begins1 68 = .ok (.goto 4, 3) := by decide +kernel
theorem dX10_begins1_35 : decode cX10_begins1 35 = .ok (.aload_n 0, 1) := by decide +kernel
theorem dX10_begins1_36 : decode cX10_begins1 36 = .ok (.getfield 9, 3) := by decide +kernel
theorem dX10_begins1_39 : decode cX10_begins1 39 = .ok (.bipush 10, 2) := by decide +kernel
theorem dX10_begins1_41 : decode cX10_begins1 41 = .ok (.iload_n 2, 1) := by decide +kernel
theorem dX10_begins1_42 : decode cX10_begins1 42 = .ok (.iadd, 1) := by decide +kernel
theorem dX10_begins1_43 : decode cX10_begins1 43 = .ok (.iaload, 1) := by decide +kernel
theorem dX10_begins1_44 : decode cX10_begins1 44 = .ok (.goto 4, 3) := by decide +kernel
theorem dX10_begins1_0 : decode cX10_begins1 0 = .ok (.iconst 0, 1) := by decide +kernel
theorem dX10_begins1_1 : decode cX10_begins1 1 = .ok (.istore_n 2, 1) := by decide +kernel
theorem dX10_begins1_79 : decode cX10_begins1 79 = .ok (.return_, 1) := by decide +kernel
theorem dX10_pushes_2 : decode cX10_pushes 2 = .ok (.iload_n 3, 1) := by decide +kernel
theorem dX10_pushes_3 : decode cX10_pushes 3 = .ok (.aload_n 0, 1) := by decide +kernel
theorem dX10_pushes_4 : decode cX10_pushes 4 = .ok (.getfield 109, 3) := by decide +kernel
theorem dX10_pushes_7 : decode cX10_pushes 7 = .ok (.if_icmp .ge 69, 3) := by decide +kernel
theorem dX10_pushes_10 : decode cX10_pushes 10 = .ok (.aload_n 0, 1) := by decide +kernel
theorem dX10_pushes_11 : decode cX10_pushes 11 = .ok (.getfield 43, 3) := by decide +kernel
theorem dX10_pushes_14 : decode cX10_pushes 14 = .ok (.iload_n 3, 1) := by decide +kernel
theorem dX10_pushes_15 : decode cX10_pushes 15 = .ok (.iaload, 1) := by decide +kernel
theorem dX10_pushes_16 : decode cX10_pushes 16 = .ok (.ifCond .le 54, 3) := by decide +kernel
theorem dX10_pushes_70 : decode cX10_pushes 70 = .ok (.iinc 3 1, 3) := by decide +kernel
theorem dX10_pushes_73 : decode cX10_pushes 73 = .ok (.goto (-71), 3) := by decide +kernel
theorem dX10_pushes_19 : decode cX10_pushes 19 = .ok (.aload_n 0, 1) := by decide +kernel
theorem dX10_pushes_20 : decode cX10_pushes 20 = .ok (.getfield 37, 3) := by decide +kernel
theorem dX10_pushes_23 : decode cX10_pushes 23 = .ok (.iload_n 3, 1) := by decide +kernel
theorem dX10_pushes_24 : decode cX10_pushes 24 = .ok (.iaload, 1) := by decide +kernel
theorem dX10_pushes_25 : decode cX10_pushes 25 = .ok (.iload_n 1, 1) := by decide +kernel
theorem dX10_pushes_26 : decode cX10_pushes 26 = .ok (.isub, 1) := by decide +kernel
theorem dX10_pushes_27 : decode cX10_pushes 27 = .ok (.invokestatic 218, 3) := by decide +kernel
theorem dX10_pushes_30 : decode cX10_pushes 30 = .ok (.istore 4, 2) := by decide +kernel
theorem dX10_pushes_32 : decode cX10_pushes 32 = .ok (.aload_n 0, 1) := by decide +kernel
theorem dX10_pushes_33 : decode cX10_pushes 33 = .ok (.iload_n 3, 1) := by decide +kernel
theorem dX10_pushes_34 : decode cX10_pushes 34 = .ok (.aload_n 0, 1) := by decide +kernel
theorem dX10_pushes_35 : decode cX10_pushes 35 = .ok (.getfield 40, 3) := by decide +kernel
theorem dX10_pushes_38 : decode cX10_pushes 38 = .ok (.iload_n 3, 1) := by decide +kernel
theorem dX10_pushes_39 : decode cX10_pushes 39 = .ok (.iaload, 1) := by decide +kernel
theorem dX10_pushes_40 : decode cX10_pushes 40 = .ok (.invokestatic 218, 3) := by decide +kernel
theorem dX10_pushes_43 : decode cX10_pushes 43 = .ok (.aload_n 0, 1) := by decide +kernel
theorem dX10_pushes_44 : decode cX10_pushes 44 = .ok (.iload_n 3, 1) := by decide +kernel
theorem dX10_pushes_45 : decode cX10_pushes 45 = .ok (.iload 4, 2) := by decide +kernel
theorem dX10_pushes_47 : decode cX10_pushes 47 = .ok (.bipush 12, 2) := by decide +kernel
theorem dX10_pushes_49 : decode cX10_pushes 49 = .ok (.if_icmp .le 11, 3) := by decide +kernel
theorem dX10_pushes_60 : decode cX10_pushes 60 = .ok (.iload 4, 2) := by decide +kernel
theorem dX10_pushes_62 : decode cX10_pushes 62 = .ok (.iload_n 2, 1) := by decide +kernel
theorem dX10_pushes_63 : decode cX10_pushes 63 = .ok (.invokevirtual 221, 3) := by decide +kernel
theorem dX10_pushes_66 : decode cX10_pushes 66 = .ok (.iadd, 1) := by decide +kernel
theorem dX10_pushes_67 : decode cX10_pushes 67 = .ok (.invokevirtual 225, 3) := by decide +kernel
theorem dX10_pushes_52 : decode cX10_pushes 52 = .ok (.bipush 24, 2) := by decide +kernel
theorem dX10_pushes_54 : decode cX10_pushes 54 = .ok (.iload 4, 2) := by decide +kernel
theorem dX10_pushes_56 : decode cX10_pushes 56 = .ok (.isub, 1) := by decide +kernel
theorem dX10_pushes_57 : decode cX10_pushes 57 = .ok (.goto 5, 3) := by decide +kernel
theorem dX10_pushes_0 : decode cX10_pushes 0 = .ok (.iconst 0, 1) := by decide +kernel
theorem dX10_pushes_1 : decode cX10_pushes 1 = .ok (.istore_n 3, 1) := by decide +kernel
theorem dX10_pushes_76 : decode cX10_pushes 76 = .ok (.return_, 1) := by decide +kernel
theorem dX10_turns_2 : decode cX10_turns 2 = .ok (.iload_n 2, 1) := by decide +kernel
theorem dX10_turns_3 : decode cX10_turns 3 = .ok (.aload_n 0, 1) := by decide +kernel
theorem dX10_turns_4 : decode cX10_turns 4 = .ok (.getfield 109, 3) := by decide +kernel
theorem dX10_turns_7 : decode cX10_turns 7 = .ok (.if_icmp .ge 80, 3) := by decide +kernel
theorem dX10_turns_10 : decode cX10_turns 10 = .ok (.aload_n 0, 1) := by decide +kernel
theorem dX10_turns_11 : decode cX10_turns 11 = .ok (.getfield 43, 3) := by decide +kernel
theorem dX10_turns_14 : decode cX10_turns 14 = .ok (.iload_n 2, 1) := by decide +kernel
theorem dX10_turns_15 : decode cX10_turns 15 = .ok (.iaload, 1) := by decide +kernel
theorem dX10_turns_16 : decode cX10_turns 16 = .ok (.ifCond .le 65, 3) := by decide +kernel
theorem dX10_turns_81 : decode cX10_turns 81 = .ok (.iinc 2 1, 3) := by decide +kernel
theorem dX10_turns_84 : decode cX10_turns 84 = .ok (.goto (-82), 3) := by decide +kernel
theorem dX10_turns_19 : decode cX10_turns 19 = .ok (.iload_n 1, 1) := by decide +kernel
theorem dX10_turns_20 : decode cX10_turns 20 = .ok (.iconst 1, 1) := by decide +kernel
theorem dX10_turns_21 : decode cX10_turns 21 = .ok (.iadd, 1) := by decide +kernel
theorem dX10_turns_22 : decode cX10_turns 22 = .ok (.aload_n 0, 1) := by decide +kernel
theorem dX10_turns_23 : decode cX10_turns 23 = .ok (.getfield 9, 3) := by decide +kernel
theorem dX10_turns_26 : decode cX10_turns 26 = .ok (.iconst 5, 1) := by decide +kernel
theorem dX10_turns_27 : decode cX10_turns 27 = .ok (.iload_n 2, 1) := by decide +kernel
theorem dX10_turns_28 : decode cX10_turns 28 = .ok (.iadd, 1) := by decide +kernel
theorem dX10_turns_29 : decode cX10_turns 29 = .ok (.iaload, 1) := by decide +kernel
theorem dX10_turns_30 : decode cX10_turns 30 = .ok (.irem, 1) := by decide +kernel
theorem dX10_turns_31 : decode cX10_turns 31 = .ok (.ifCond .ne 25, 3) := by decide +kernel
theorem dX10_turns_56 : decode cX10_turns 56 = .ok (.aload_n 0, 1) := by decide +kernel
theorem dX10_turns_57 : decode cX10_turns 57 = .ok (.getfield 37, 3) := by decide +kernel
theorem dX10_turns_60 : decode cX10_turns 60 = .ok (.iload_n 2, 1) := by decide +kernel
theorem dX10_turns_61 : decode cX10_turns 61 = .ok (.aload_n 0, 1) := by decide +kernel
theorem dX10_turns_62 : decode cX10_turns 62 = .ok (.getfield 37, 3) := by decide +kernel
theorem dX10_turns_65 : decode cX10_turns 65 = .ok (.iload_n 2, 1) := by decide +kernel
theorem dX10_turns_66 : decode cX10_turns 66 = .ok (.iaload, 1) := by decide +kernel
theorem dX10_turns_67 : decode cX10_turns 67 = .ok (.aload_n 0, 1) := by decide +kernel
theorem dX10_turns_68 : decode cX10_turns 68 = .ok (.getfield 40, 3) := by decide +kernel
theorem dX10_turns_71 : decode cX10_turns 71 = .ok (.iload_n 2, 1) := by decide +kernel
theorem dX10_turns_72 : decode cX10_turns 72 = .ok (.iaload, 1) := by decide +kernel
theorem dX10_turns_73 : decode cX10_turns 73 = .ok (.iadd, 1) := by decide +kernel
theorem dX10_turns_74 : decode cX10_turns 74 = .ok (.bipush 24, 2) := by decide +kernel
theorem dX10_turns_76 : decode cX10_turns 76 = .ok (.iadd, 1) := by decide +kernel
theorem dX10_turns_77 : decode cX10_turns 77 = .ok (.bipush 24, 2) := by decide +kernel
theorem dX10_turns_79 : decode cX10_turns 79 = .ok (.irem, 1) := by decide +kernel
theorem dX10_turns_80 : decode cX10_turns 80 = .ok (.iastore, 1) := by decide +kernel
theorem dX10_turns_34 : decode cX10_turns 34 = .ok (.aload_n 0, 1) := by decide +kernel
theorem dX10_turns_35 : decode cX10_turns 35 = .ok (.iload_n 2, 1) := by decide +kernel
theorem dX10_turns_36 : decode cX10_turns 36 = .ok (.aload_n 0, 1) := by decide +kernel
theorem dX10_turns_37 : decode cX10_turns 37 = .ok (.getfield 40, 3) := by decide +kernel
theorem dX10_turns_40 : decode cX10_turns 40 = .ok (.iload_n 2, 1) := by decide +kernel
theorem dX10_turns_41 : decode cX10_turns 41 = .ok (.iaload, 1) := by decide +kernel
theorem dX10_turns_42 : decode cX10_turns 42 = .ok (.invokestatic 218, 3) := by decide +kernel
theorem dX10_turns_45 : decode cX10_turns 45 = .ok (.aload_n 0, 1) := by decide +kernel
theorem dX10_turns_46 : decode cX10_turns 46 = .ok (.getfield 9, 3) := by decide +kernel
theorem dX10_turns_49 : decode cX10_turns 49 = .ok (.bipush 15, 2) := by decide +kernel
theorem dX10_turns_51 : decode cX10_turns 51 = .ok (.iaload, 1) := by decide +kernel
theorem dX10_turns_52 : decode cX10_turns 52 = .ok (.isub, 1) := by decide +kernel
theorem dX10_turns_53 : decode cX10_turns 53 = .ok (.invokevirtual 225, 3) := by decide +kernel
theorem dX10_turns_101 : decode cX10_turns 101 = .ok (.iload_n 3, 1) := by decide +kernel
theorem dX10_turns_102 : decode cX10_turns 102 = .ok (.aload_n 0, 1) := by decide +kernel
theorem dX10_turns_103 : decode cX10_turns 103 = .ok (.getfield 109, 3) := by decide +kernel
theorem dX10_turns_106 : decode cX10_turns 106 = .ok (.if_icmp .ge 74, 3) := by decide +kernel
theorem dX10_turns_109 : decode cX10_turns 109 = .ok (.aload_n 0, 1) := by decide +kernel
theorem dX10_turns_110 : decode cX10_turns 110 = .ok (.getfield 43, 3) := by decide +kernel
theorem dX10_turns_113 : decode cX10_turns 113 = .ok (.iload_n 2, 1) := by decide +kernel
theorem dX10_turns_114 : decode cX10_turns 114 = .ok (.iaload, 1) := by decide +kernel
theorem dX10_turns_115 : decode cX10_turns 115 = .ok (.ifCond .le 59, 3) := by decide +kernel
theorem dX10_turns_174 : decode cX10_turns 174 = .ok (.iinc 3 1, 3) := by decide +kernel
theorem dX10_turns_177 : decode cX10_turns 177 = .ok (.goto (-76), 3) := by decide +kernel
theorem dX10_turns_118 : decode cX10_turns 118 = .ok (.aload_n 0, 1) := by decide +kernel
theorem dX10_turns_119 : decode cX10_turns 119 = .ok (.getfield 43, 3) := by decide +kernel
theorem dX10_turns_122 : decode cX10_turns 122 = .ok (.iload_n 3, 1) := by decide +kernel
theorem dX10_turns_123 : decode cX10_turns 123 = .ok (.iaload, 1) := by decide +kernel
theorem dX10_turns_124 : decode cX10_turns 124 = .ok (.ifCond .le 50, 3) := by decide +kernel
theorem dX10_turns_127 : decode cX10_turns 127 = .ok (.aload_n 0, 1) := by decide +kernel
theorem dX10_turns_128 : decode cX10_turns 128 = .ok (.getfield 37, 3) := by decide +kernel
theorem dX10_turns_131 : decode cX10_turns 131 = .ok (.iload_n 2, 1) := by decide +kernel
theorem dX10_turns_132 : decode cX10_turns 132 = .ok (.iaload, 1) := by decide +kernel
theorem dX10_turns_133 : decode cX10_turns 133 = .ok (.aload_n 0, 1) := by decide +kernel
theorem dX10_turns_134 : decode cX10_turns 134 = .ok (.getfield 37, 3) := by decide +kernel
theorem dX10_turns_137 : decode cX10_turns 137 = .ok (.iload_n 3, 1) := by decide +kernel
theorem dX10_turns_138 : decode cX10_turns 138 = .ok (.iaload, 1) := by decide +kernel
theorem dX10_turns_139 : decode cX10_turns 139 = .ok (.if_icmp .ne 35, 3) := by decide +kernel
theorem dX10_turns_142 : decode cX10_turns 142 = .ok (.aload_n 0, 1) := by decide +kernel
theorem dX10_turns_143 : decode cX10_turns 143 = .ok (.iload_n 2, 1) := by decide +kernel
theorem dX10_turns_144 : decode cX10_turns 144 = .ok (.aload_n 0, 1) := by decide +kernel
theorem dX10_turns_145 : decode cX10_turns 145 = .ok (.getfield 40, 3) := by decide +kernel
theorem dX10_turns_148 : decode cX10_turns 148 = .ok (.iload_n 2, 1) := by decide +kernel
theorem dX10_turns_149 : decode cX10_turns 149 = .ok (.iaload, 1) := by decide +kernel
theorem dX10_turns_150 : decode cX10_turns 150 = .ok (.invokestatic 218, 3) := by decide +kernel
theorem dX10_turns_153 : decode cX10_turns 153 = .ok (.iconst 1, 1) := by decide +kernel
theorem dX10_turns_154 : decode cX10_turns 154 = .ok (.isub, 1) := by decide +kernel
theorem dX10_turns_155 : decode cX10_turns 155 = .ok (.invokevirtual 225, 3) := by decide +kernel
theorem dX10_turns_158 : decode cX10_turns 158 = .ok (.aload_n 0, 1) := by decide +kernel
theorem dX10_turns_159 : decode cX10_turns 159 = .ok (.iload_n 3, 1) := by decide +kernel
theorem dX10_turns_160 : decode cX10_turns 160 = .ok (.aload_n 0, 1) := by decide +kernel
theorem dX10_turns_161 : decode cX10_turns 161 = .ok (.getfield 40, 3) := by decide +kernel
theorem dX10_turns_164 : decode cX10_turns 164 = .ok (.iload_n 3, 1) := by decide +kernel
theorem dX10_turns_165 : decode cX10_turns 165 = .ok (.iaload, 1) := by decide +kernel
theorem dX10_turns_166 : decode cX10_turns 166 = .ok (.invokestatic 218, 3) := by decide +kernel
theorem dX10_turns_169 : decode cX10_turns 169 = .ok (.iconst 1, 1) := by decide +kernel
theorem dX10_turns_170 : decode cX10_turns 170 = .ok (.isub, 1) := by decide +kernel
theorem dX10_turns_171 : decode cX10_turns 171 = .ok (.invokevirtual 225, 3) := by decide +kernel
theorem dX10_turns_89 : decode cX10_turns 89 = .ok (.iload_n 2, 1) := by decide +kernel
theorem dX10_turns_90 : decode cX10_turns 90 = .ok (.aload_n 0, 1) := by decide +kernel
theorem dX10_turns_91 : decode cX10_turns 91 = .ok (.getfield 109, 3) := by decide +kernel
theorem dX10_turns_94 : decode cX10_turns 94 = .ok (.if_icmp .ge 92, 3) := by decide +kernel
theorem dX10_turns_97 : decode cX10_turns 97 = .ok (.iload_n 2, 1) := by decide +kernel
theorem dX10_turns_98 : decode cX10_turns 98 = .ok (.iconst 1, 1) := by decide +kernel
theorem dX10_turns_99 : decode cX10_turns 99 = .ok (.iadd, 1) := by decide +kernel
theorem dX10_turns_100 : decode cX10_turns 100 = .ok (.istore_n 3, 1) := by decide +kernel
theorem dX10_turns_180 : decode cX10_turns 180 = .ok (.iinc 2 1, 3) := by decide +kernel
theorem dX10_turns_183 : decode cX10_turns 183 = .ok (.goto (-94), 3) := by decide +kernel
theorem dX10_turns_188 : decode cX10_turns 188 = .ok (.iload_n 2, 1) := by decide +kernel
theorem dX10_turns_189 : decode cX10_turns 189 = .ok (.aload_n 0, 1) := by decide +kernel
theorem dX10_turns_190 : decode cX10_turns 190 = .ok (.getfield 109, 3) := by decide +kernel
theorem dX10_turns_193 : decode cX10_turns 193 = .ok (.if_icmp .ge 106, 3) := by decide +kernel
theorem dX10_turns_196 : decode cX10_turns 196 = .ok (.aload_n 0, 1) := by decide +kernel
theorem dX10_turns_197 : decode cX10_turns 197 = .ok (.getfield 43, 3) := by decide +kernel
theorem dX10_turns_200 : decode cX10_turns 200 = .ok (.iload_n 2, 1) := by decide +kernel
theorem dX10_turns_201 : decode cX10_turns 201 = .ok (.iaload, 1) := by decide +kernel
theorem dX10_turns_202 : decode cX10_turns 202 = .ok (.ifCond .le 91, 3) := by decide +kernel
theorem dX10_turns_293 : decode cX10_turns 293 = .ok (.iinc 2 1, 3) := by decide +kernel
theorem dX10_turns_296 : decode cX10_turns 296 = .ok (.goto (-108), 3) := by decide +kernel
theorem dX10_turns_205 : decode cX10_turns 205 = .ok (.aload_n 0, 1) := by decide +kernel
theorem dX10_turns_206 : decode cX10_turns 206 = .ok (.getfield 40, 3) := by decide +kernel
theorem dX10_turns_209 : decode cX10_turns 209 = .ok (.iload_n 2, 1) := by decide +kernel
theorem dX10_turns_210 : decode cX10_turns 210 = .ok (.iaload, 1) := by decide +kernel
theorem dX10_turns_211 : decode cX10_turns 211 = .ok (.invokestatic 218, 3) := by decide +kernel
theorem dX10_turns_214 : decode cX10_turns 214 = .ok (.aload_n 0, 1) := by decide +kernel
theorem dX10_turns_215 : decode cX10_turns 215 = .ok (.iload_n 2, 1) := by decide +kernel
theorem dX10_turns_216 : decode cX10_turns 216 = .ok (.invokevirtual 145, 3) := by decide +kernel
theorem dX10_turns_219 : decode cX10_turns 219 = .ok (.if_icmp .lt 14, 3) := by decide +kernel
theorem dX10_turns_233 : decode cX10_turns 233 = .ok (.aload_n 0, 1) := by decide +kernel
theorem dX10_turns_234 : decode cX10_turns 234 = .ok (.getfield 43, 3) := by decide +kernel
theorem dX10_turns_237 : decode cX10_turns 237 = .ok (.iload_n 2, 1) := by decide +kernel
theorem dX10_turns_238 : decode cX10_turns 238 = .ok (.iaload, 1) := by decide +kernel
theorem dX10_turns_239 : decode cX10_turns 239 = .ok (.iconst 2, 1) := by decide +kernel
theorem dX10_turns_240 : decode cX10_turns 240 = .ok (.isub, 1) := by decide +kernel
theorem dX10_turns_241 : decode cX10_turns 241 = .ok (.istore_n 3, 1) := by decide +kernel
theorem dX10_turns_242 : decode cX10_turns 242 = .ok (.aload_n 0, 1) := by decide +kernel
theorem dX10_turns_243 : decode cX10_turns 243 = .ok (.getfield 43, 3) := by decide +kernel
theorem dX10_turns_246 : decode cX10_turns 246 = .ok (.iload_n 2, 1) := by decide +kernel
theorem dX10_turns_247 : decode cX10_turns 247 = .ok (.iload_n 3, 1) := by decide +kernel
theorem dX10_turns_248 : decode cX10_turns 248 = .ok (.bipush 20, 2) := by decide +kernel
theorem dX10_turns_250 : decode cX10_turns 250 = .ok (.if_icmp .le 8, 3) := by decide +kernel
theorem dX10_turns_258 : decode cX10_turns 258 = .ok (.iload_n 3, 1) := by decide +kernel
theorem dX10_turns_259 : decode cX10_turns 259 = .ok (.ifCond .ge 7, 3) := by decide +kernel
theorem dX10_turns_266 : decode cX10_turns 266 = .ok (.iload_n 3, 1) := by decide +kernel
theorem dX10_turns_267 : decode cX10_turns 267 = .ok (.iastore, 1) := by decide +kernel
theorem dX10_turns_268 : decode cX10_turns 268 = .ok (.aload_n 0, 1) := by decide +kernel
theorem dX10_turns_269 : decode cX10_turns 269 = .ok (.getfield 40, 3) := by decide +kernel
theorem dX10_turns_272 : decode cX10_turns 272 = .ok (.iload_n 2, 1) := by decide +kernel
theorem dX10_turns_273 : decode cX10_turns 273 = .ok (.aload_n 0, 1) := by decide +kernel
theorem dX10_turns_274 : decode cX10_turns 274 = .ok (.getfield 43, 3) := by decide +kernel
theorem dX10_turns_277 : decode cX10_turns 277 = .ok (.iload_n 2, 1) := by decide +kernel
theorem dX10_turns_278 : decode cX10_turns 278 = .ok (.iaload, 1) := by decide +kernel
theorem dX10_turns_279 : decode cX10_turns 279 = .ok (.ifCond .ne 7, 3) := by decide +kernel
theorem dX10_turns_286 : decode cX10_turns 286 = .ok (.aload_n 0, 1) := by decide +kernel
theorem dX10_turns_287 : decode cX10_turns 287 = .ok (.getfield 40, 3) := by decide +kernel
theorem dX10_turns_290 : decode cX10_turns 290 = .ok (.iload_n 2, 1) := by decide +kernel
theorem dX10_turns_291 : decode cX10_turns 291 = .ok (.iaload, 1) := by decide +kernel
theorem dX10_turns_292 : decode cX10_turns 292 = .ok (.iastore, 1) := by decide +kernel
theorem dX10_turns_282 : decode cX10_turns 282 = .ok (.iconst 0, 1) := by decide +kernel
theorem dX10_turns_283 : decode cX10_turns 283 = .ok (.goto 9, 3) := by decide +kernel
theorem dX10_turns_262 : decode cX10_turns 262 = .ok (.iconst 0, 1) := by decide +kernel
theorem dX10_turns_263 : decode cX10_turns 263 = .ok (.goto 4, 3) := by decide +kernel
theorem dX10_turns_253 : decode cX10_turns 253 = .ok (.bipush 20, 2) := by decide +kernel
theorem dX10_turns_255 : decode cX10_turns 255 = .ok (.goto 12, 3) := by decide +kernel
theorem dX10_turns_222 : decode cX10_turns 222 = .ok (.aload_n 0, 1) := by decide +kernel
theorem dX10_turns_223 : decode cX10_turns 223 = .ok (.getfield 43, 3) := by decide +kernel
theorem dX10_turns_226 : decode cX10_turns 226 = .ok (.iload_n 2, 1) := by decide +kernel
theorem dX10_turns_227 : decode cX10_turns 227 = .ok (.iaload, 1) := by decide +kernel
theorem dX10_turns_228 : decode cX10_turns 228 = .ok (.iconst 1, 1) := by decide +kernel
theorem dX10_turns_229 : decode cX10_turns 229 = .ok (.iadd, 1) := by decide +kernel
theorem dX10_turns_230 : decode cX10_turns 230 = .ok (.goto 11, 3) := by decide +kernel
theorem dX10_turns_0 : decode cX10_turns 0 = .ok (.iconst 0, 1) := by decide +kernel
theorem dX10_turns_1 : decode cX10_turns 1 = .ok (.istore_n 2, 1) := by decide +kernel
theorem dX10_turns_87 : decode cX10_turns 87 = .ok (.iconst 0, 1) := by decide +kernel
theorem dX10_turns_88 : decode cX10_turns 88 = .ok (.istore_n 2, 1) := by decide +kernel
theorem dX10_turns_186 : decode cX10_turns 186 = .ok (.iconst 0, 1) := by decide +kernel
theorem dX10_turns_187 : decode cX10_turns 187 = .ok (.istore_n 2, 1) := by decide +kernel
theorem dX10_turns_299 : decode cX10_turns 299 = .ok (.return_, 1) := by decide +kernel
theorem dX10_isPush_0 : decode cX10_isPush 0 = .ok (.iload_n 1, 1) := by decide +kernel
theorem dX10_isPush_1 : decode cX10_isPush 1 = .ok (.aload_n 0, 1) := by decide +kernel
theorem dX10_isPush_2 : decode cX10_isPush 2 = .ok (.getfield 9, 3) := by decide +kernel
theorem dX10_isPush_5 : decode cX10_isPush 5 = .ok (.bipush 16, 2) := by decide +kernel
theorem dX10_isPush_7 : decode cX10_isPush 7 = .ok (.iaload, 1) := by decide +kernel
theorem dX10_isPush_8 : decode cX10_isPush 8 = .ok (.irem, 1) := by decide +kernel
theorem dX10_isPush_9 : decode cX10_isPush 9 = .ok (.aload_n 0, 1) := by decide +kernel
theorem dX10_isPush_10 : decode cX10_isPush 10 = .ok (.getfield 9, 3) := by decide +kernel
theorem dX10_isPush_13 : decode cX10_isPush 13 = .ok (.bipush 17, 2) := by decide +kernel
theorem dX10_isPush_15 : decode cX10_isPush 15 = .ok (.iaload, 1) := by decide +kernel
theorem dX10_isPush_16 : decode cX10_isPush 16 = .ok (.aload_n 0, 1) := by decide +kernel
theorem dX10_isPush_17 : decode cX10_isPush 17 = .ok (.getfield 9, 3) := by decide +kernel
theorem dX10_isPush_20 : decode cX10_isPush 20 = .ok (.bipush 16, 2) := by decide +kernel
theorem dX10_isPush_22 : decode cX10_isPush 22 = .ok (.iaload, 1) := by decide +kernel
theorem dX10_isPush_23 : decode cX10_isPush 23 = .ok (.irem, 1) := by decide +kernel
theorem dX10_isPush_24 : decode cX10_isPush 24 = .ok (.if_icmp .ne 7, 3) := by decide +kernel
theorem dX10_isPush_31 : decode cX10_isPush 31 = .ok (.iconst 0, 1) := by decide +kernel
theorem dX10_isPush_32 : decode cX10_isPush 32 = .ok (.ireturn, 1) := by decide +kernel
theorem dX10_isPush_27 : decode cX10_isPush 27 = .ok (.iconst 1, 1) := by decide +kernel
theorem dX10_isPush_28 : decode cX10_isPush 28 = .ok (.goto 4, 3) := by decide +kernel
theorem dX10_toOf_0 : decode cX10_toOf 0 = .ok (.iload_n 1, 1) := by decide +kernel
theorem dX10_toOf_1 : decode cX10_toOf 1 = .ok (.aload_n 0, 1) := by decide +kernel
theorem dX10_toOf_2 : decode cX10_toOf 2 = .ok (.getfield 9, 3) := by decide +kernel
theorem dX10_toOf_5 : decode cX10_toOf 5 = .ok (.bipush 16, 2) := by decide +kernel
theorem dX10_toOf_7 : decode cX10_toOf 7 = .ok (.iaload, 1) := by decide +kernel
theorem dX10_toOf_8 : decode cX10_toOf 8 = .ok (.idiv, 1) := by decide +kernel
theorem dX10_toOf_9 : decode cX10_toOf 9 = .ok (.iconst 2, 1) := by decide +kernel
theorem dX10_toOf_10 : decode cX10_toOf 10 = .ok (.irem, 1) := by decide +kernel
theorem dX10_toOf_11 : decode cX10_toOf 11 = .ok (.ifCond .ne 7, 3) := by decide +kernel
theorem dX10_toOf_18 : decode cX10_toOf 18 = .ok (.bipush 12, 2) := by decide +kernel
theorem dX10_toOf_20 : decode cX10_toOf 20 = .ok (.ireturn, 1) := by decide +kernel
theorem dX10_toOf_14 : decode cX10_toOf 14 = .ok (.iconst 0, 1) := by decide +kernel
theorem dX10_toOf_15 : decode cX10_toOf 15 = .ok (.goto 5, 3) := by decide +kernel
theorem dX10_tickGoes_0 : decode cX10_tickGoes 0 = .ok (.aload_n 0, 1) := by decide +kernel
theorem dX10_tickGoes_1 : decode cX10_tickGoes 1 = .ok (.iload_n 1, 1) := by decide +kernel
theorem dX10_tickGoes_2 : decode cX10_tickGoes 2 = .ok (.invokevirtual 228, 3) := by decide +kernel
theorem dX10_tickGoes_5 : decode cX10_tickGoes 5 = .ok (.ifCond .eq 29, 3) := by decide +kernel
theorem dX10_tickGoes_34 : decode cX10_tickGoes 34 = .ok (.aload_n 0, 1) := by decide +kernel
theorem dX10_tickGoes_35 : decode cX10_tickGoes 35 = .ok (.iload_n 1, 1) := by decide +kernel
theorem dX10_tickGoes_36 : decode cX10_tickGoes 36 = .ok (.invokevirtual 240, 3) := by decide +kernel
theorem dX10_tickGoes_39 : decode cX10_tickGoes 39 = .ok (.return_, 1) := by decide +kernel
theorem dX10_tickGoes_8 : decode cX10_tickGoes 8 = .ok (.aload_n 0, 1) := by decide +kernel
theorem dX10_tickGoes_9 : decode cX10_tickGoes 9 = .ok (.aload_n 0, 1) := by decide +kernel
theorem dX10_tickGoes_10 : decode cX10_tickGoes 10 = .ok (.iload_n 1, 1) := by decide +kernel
theorem dX10_tickGoes_11 : decode cX10_tickGoes 11 = .ok (.invokevirtual 231, 3) := by decide +kernel
theorem dX10_tickGoes_14 : decode cX10_tickGoes 14 = .ok (.aload_n 0, 1) := by decide +kernel
theorem dX10_tickGoes_15 : decode cX10_tickGoes 15 = .ok (.getfield 9, 3) := by decide +kernel
theorem dX10_tickGoes_18 : decode cX10_tickGoes 18 = .ok (.bipush 18, 2) := by decide +kernel
theorem dX10_tickGoes_20 : decode cX10_tickGoes 20 = .ok (.iaload, 1) := by decide +kernel
theorem dX10_tickGoes_21 : decode cX10_tickGoes 21 = .ok (.invokevirtual 234, 3) := by decide +kernel
theorem dX10_tickGoes_24 : decode cX10_tickGoes 24 = .ok (.aload_n 0, 1) := by decide +kernel
theorem dX10_tickGoes_25 : decode cX10_tickGoes 25 = .ok (.dup, 1) := by decide +kernel
theorem dX10_tickGoes_26 : decode cX10_tickGoes 26 = .ok (.getfield 237, 3) := by decide +kernel
theorem dX10_tickGoes_29 : decode cX10_tickGoes 29 = .ok (.iconst 1, 1) := by decide +kernel
theorem dX10_tickGoes_30 : decode cX10_tickGoes 30 = .ok (.iadd, 1) := by decide +kernel
theorem dX10_tickGoes_31 : decode cX10_tickGoes 31 = .ok (.putfield 237, 3) := by decide +kernel
theorem dX10_upNow_4 : decode cX10_upNow 4 = .ok (.iload_n 2, 1) := by decide +kernel
theorem dX10_upNow_5 : decode cX10_upNow 5 = .ok (.aload_n 0, 1) := by decide +kernel
theorem dX10_upNow_6 : decode cX10_upNow 6 = .ok (.getfield 109, 3) := by decide +kernel
theorem dX10_upNow_9 : decode cX10_upNow 9 = .ok (.if_icmp .ge 28, 3) := by decide +kernel
theorem dX10_upNow_12 : decode cX10_upNow 12 = .ok (.iload_n 1, 1) := by decide +kernel
theorem dX10_upNow_13 : decode cX10_upNow 13 = .ok (.aload_n 0, 1) := by decide +kernel
theorem dX10_upNow_14 : decode cX10_upNow 14 = .ok (.getfield 25, 3) := by decide +kernel
theorem dX10_upNow_17 : decode cX10_upNow 17 = .ok (.iload_n 2, 1) := by decide +kernel
theorem dX10_upNow_18 : decode cX10_upNow 18 = .ok (.iaload, 1) := by decide +kernel
theorem dX10_upNow_19 : decode cX10_upNow 19 = .ok (.ifCond .le 9, 3) := by decide +kernel
theorem dX10_upNow_28 : decode cX10_upNow 28 = .ok (.iconst 0, 1) := by decide +kernel
theorem dX10_upNow_29 : decode cX10_upNow 29 = .ok (.ior, 1) := by decide +kernel
theorem dX10_upNow_30 : decode cX10_upNow 30 = .ok (.istore_n 1, 1) := by decide +kernel
theorem dX10_upNow_31 : decode cX10_upNow 31 = .ok (.iinc 2 1, 3) := by decide +kernel
theorem dX10_upNow_34 : decode cX10_upNow 34 = .ok (.goto (-30), 3) := by decide +kernel
theorem dX10_upNow_22 : decode cX10_upNow 22 = .ok (.iconst 1, 1) := by decide +kernel
theorem dX10_upNow_23 : decode cX10_upNow 23 = .ok (.iload_n 2, 1) := by decide +kernel
theorem dX10_upNow_24 : decode cX10_upNow 24 = .ok (.ishl, 1) := by decide +kernel
theorem dX10_upNow_25 : decode cX10_upNow 25 = .ok (.goto 4, 3) := by decide +kernel
theorem dX10_upNow_0 : decode cX10_upNow 0 = .ok (.iconst 0, 1) := by decide +kernel
theorem dX10_upNow_1 : decode cX10_upNow 1 = .ok (.istore_n 1, 1) := by decide +kernel
theorem dX10_upNow_2 : decode cX10_upNow 2 = .ok (.iconst 0, 1) := by decide +kernel
theorem dX10_upNow_3 : decode cX10_upNow 3 = .ok (.istore_n 2, 1) := by decide +kernel
theorem dX10_upNow_37 : decode cX10_upNow 37 = .ok (.iload_n 1, 1) := by decide +kernel
theorem dX10_upNow_38 : decode cX10_upNow 38 = .ok (.ireturn, 1) := by decide +kernel
theorem dX10_lyingOf_4 : decode cX10_lyingOf 4 = .ok (.iload_n 3, 1) := by decide +kernel
theorem dX10_lyingOf_5 : decode cX10_lyingOf 5 = .ok (.aload_n 0, 1) := by decide +kernel
theorem dX10_lyingOf_6 : decode cX10_lyingOf 6 = .ok (.getfield 109, 3) := by decide +kernel
theorem dX10_lyingOf_9 : decode cX10_lyingOf 9 = .ok (.if_icmp .ge 34, 3) := by decide +kernel
theorem dX10_lyingOf_12 : decode cX10_lyingOf 12 = .ok (.iload_n 2, 1) := by decide +kernel
theorem dX10_lyingOf_13 : decode cX10_lyingOf 13 = .ok (.iload_n 1, 1) := by decide +kernel
theorem dX10_lyingOf_14 : decode cX10_lyingOf 14 = .ok (.iload_n 3, 1) := by decide +kernel
theorem dX10_lyingOf_15 : decode cX10_lyingOf 15 = .ok (.invokestatic 214, 3) := by decide +kernel
theorem dX10_lyingOf_18 : decode cX10_lyingOf 18 = .ok (.ifCond .eq 16, 3) := by decide +kernel
theorem dX10_lyingOf_34 : decode cX10_lyingOf 34 = .ok (.iconst 0, 1) := by decide +kernel
theorem dX10_lyingOf_35 : decode cX10_lyingOf 35 = .ok (.iadd, 1) := by decide +kernel
theorem dX10_lyingOf_36 : decode cX10_lyingOf 36 = .ok (.istore_n 2, 1) := by decide +kernel
theorem dX10_lyingOf_37 : decode cX10_lyingOf 37 = .ok (.iinc 3 1, 3) := by decide +kernel
theorem dX10_lyingOf_40 : decode cX10_lyingOf 40 = .ok (.goto (-36), 3) := by decide +kernel
theorem dX10_lyingOf_21 : decode cX10_lyingOf 21 = .ok (.aload_n 0, 1) := by decide +kernel
theorem dX10_lyingOf_22 : decode cX10_lyingOf 22 = .ok (.getfield 43, 3) := by decide +kernel
theorem dX10_lyingOf_25 : decode cX10_lyingOf 25 = .ok (.iload_n 3, 1) := by decide +kernel
theorem dX10_lyingOf_26 : decode cX10_lyingOf 26 = .ok (.iaload, 1) := by decide +kernel
theorem dX10_lyingOf_27 : decode cX10_lyingOf 27 = .ok (.ifCond .ne 7, 3) := by decide +kernel
theorem dX10_lyingOf_30 : decode cX10_lyingOf 30 = .ok (.iconst 1, 1) := by decide +kernel
theorem dX10_lyingOf_31 : decode cX10_lyingOf 31 = .ok (.goto 4, 3) := by decide +kernel
theorem dX10_lyingOf_0 : decode cX10_lyingOf 0 = .ok (.iconst 0, 1) := by decide +kernel
theorem dX10_lyingOf_1 : decode cX10_lyingOf 1 = .ok (.istore_n 2, 1) := by decide +kernel
theorem dX10_lyingOf_2 : decode cX10_lyingOf 2 = .ok (.iconst 0, 1) := by decide +kernel
theorem dX10_lyingOf_3 : decode cX10_lyingOf 3 = .ok (.istore_n 3, 1) := by decide +kernel
theorem dX10_lyingOf_43 : decode cX10_lyingOf 43 = .ok (.iload_n 2, 1) := by decide +kernel
theorem dX10_lyingOf_44 : decode cX10_lyingOf 44 = .ok (.ireturn, 1) := by decide +kernel
theorem dX10_fallOf_10 : decode cX10_fallOf 10 = .ok (.iload_n 2, 1) := by decide +kernel
theorem dX10_fallOf_11 : decode cX10_fallOf 11 = .ok (.sipush 200, 3) := by decide +kernel
theorem dX10_fallOf_14 : decode cX10_fallOf 14 = .ok (.if_icmp .gt 30, 3) := by decide +kernel
theorem dX10_fallOf_17 : decode cX10_fallOf 17 = .ok (.aload_n 0, 1) := by decide +kernel
theorem dX10_fallOf_18 : decode cX10_fallOf 18 = .ok (.getfield 43, 3) := by decide +kernel
theorem dX10_fallOf_21 : decode cX10_fallOf 21 = .ok (.iload_n 1, 1) := by decide +kernel
theorem dX10_fallOf_22 : decode cX10_fallOf 22 = .ok (.iaload, 1) := by decide +kernel
theorem dX10_fallOf_23 : decode cX10_fallOf 23 = .ok (.ifCond .ne 5, 3) := by decide +kernel
theorem dX10_fallOf_28 : decode cX10_fallOf 28 = .ok (.aload_n 0, 1) := by decide +kernel
theorem dX10_fallOf_29 : decode cX10_fallOf 29 = .ok (.aload_n 0, 1) := by decide +kernel
theorem dX10_fallOf_30 : decode cX10_fallOf 30 = .ok (.getfield 151, 3) := by decide +kernel
theorem dX10_fallOf_33 : decode cX10_fallOf 33 = .ok (.iload_n 2, 1) := by decide +kernel
theorem dX10_fallOf_34 : decode cX10_fallOf 34 = .ok (.iadd, 1) := by decide +kernel
theorem dX10_fallOf_35 : decode cX10_fallOf 35 = .ok (.invokevirtual 255, 3) := by decide +kernel
theorem dX10_fallOf_38 : decode cX10_fallOf 38 = .ok (.iinc 2 1, 3) := by decide +kernel
theorem dX10_fallOf_41 : decode cX10_fallOf 41 = .ok (.goto (-31), 3) := by decide +kernel
theorem dX10_fallOf_26 : decode cX10_fallOf 26 = .ok (.iload_n 2, 1) := by decide +kernel
theorem dX10_fallOf_27 : decode cX10_fallOf 27 = .ok (.ireturn, 1) := by decide +kernel
theorem dX10_fallOf_0 : decode cX10_fallOf 0 = .ok (.aload_n 0, 1) := by decide +kernel
theorem dX10_fallOf_1 : decode cX10_fallOf 1 = .ok (.aload_n 0, 1) := by decide +kernel
theorem dX10_fallOf_2 : decode cX10_fallOf 2 = .ok (.invokevirtual 246, 3) := by decide +kernel
theorem dX10_fallOf_5 : decode cX10_fallOf 5 = .ok (.invokevirtual 249, 3) := by decide +kernel
theorem dX10_fallOf_8 : decode cX10_fallOf 8 = .ok (.iconst 0, 1) := by decide +kernel
theorem dX10_fallOf_9 : decode cX10_fallOf 9 = .ok (.istore_n 2, 1) := by decide +kernel
theorem dX10_fallOf_44 : decode cX10_fallOf 44 = .ok (.sipush 201, 3) := by decide +kernel
theorem dX10_fallOf_47 : decode cX10_fallOf 47 = .ok (.ireturn, 1) := by decide +kernel
theorem dX10_lastsOf_7 : decode cX10_lastsOf 7 = .ok (.iload_n 2, 1) := by decide +kernel
theorem dX10_lastsOf_8 : decode cX10_lastsOf 8 = .ok (.sipush 200, 3) := by decide +kernel
theorem dX10_lastsOf_11 : decode cX10_lastsOf 11 = .ok (.if_icmp .ge 29, 3) := by decide +kernel
theorem dX10_lastsOf_14 : decode cX10_lastsOf 14 = .ok (.aload_n 0, 1) := by decide +kernel
theorem dX10_lastsOf_15 : decode cX10_lastsOf 15 = .ok (.aload_n 0, 1) := by decide +kernel
theorem dX10_lastsOf_16 : decode cX10_lastsOf 16 = .ok (.getfield 151, 3) := by decide +kernel
theorem dX10_lastsOf_19 : decode cX10_lastsOf 19 = .ok (.iload_n 2, 1) := by decide +kernel
theorem dX10_lastsOf_20 : decode cX10_lastsOf 20 = .ok (.iadd, 1) := by decide +kernel
theorem dX10_lastsOf_21 : decode cX10_lastsOf 21 = .ok (.invokevirtual 255, 3) := by decide +kernel
theorem dX10_lastsOf_24 : decode cX10_lastsOf 24 = .ok (.aload_n 0, 1) := by decide +kernel
theorem dX10_lastsOf_25 : decode cX10_lastsOf 25 = .ok (.iload_n 1, 1) := by decide +kernel
theorem dX10_lastsOf_26 : decode cX10_lastsOf 26 = .ok (.invokevirtual 252, 3) := by decide +kernel
theorem dX10_lastsOf_29 : decode cX10_lastsOf 29 = .ok (.ifCond .le 5, 3) := by decide +kernel
theorem dX10_lastsOf_34 : decode cX10_lastsOf 34 = .ok (.iinc 2 1, 3) := by decide +kernel
theorem dX10_lastsOf_37 : decode cX10_lastsOf 37 = .ok (.goto (-30), 3) := by decide +kernel
theorem dX10_lastsOf_32 : decode cX10_lastsOf 32 = .ok (.iload_n 2, 1) := by decide +kernel
theorem dX10_lastsOf_33 : decode cX10_lastsOf 33 = .ok (.ireturn, 1) := by decide +kernel
theorem dX10_lastsOf_0 : decode cX10_lastsOf 0 = .ok (.aload_n 0, 1) := by decide +kernel
theorem dX10_lastsOf_1 : decode cX10_lastsOf 1 = .ok (.iload_n 1, 1) := by decide +kernel
theorem dX10_lastsOf_2 : decode cX10_lastsOf 2 = .ok (.invokevirtual 249, 3) := by decide +kernel
theorem dX10_lastsOf_5 : decode cX10_lastsOf 5 = .ok (.iconst 0, 1) := by decide +kernel
theorem dX10_lastsOf_6 : decode cX10_lastsOf 6 = .ok (.istore_n 2, 1) := by decide +kernel
theorem dX10_lastsOf_40 : decode cX10_lastsOf 40 = .ok (.sipush 200, 3) := by decide +kernel
theorem dX10_lastsOf_43 : decode cX10_lastsOf 43 = .ok (.ireturn, 1) := by decide +kernel
theorem dX10_fallWith_11 : decode cX10_fallWith 11 = .ok (.iload 5, 2) := by decide +kernel
theorem dX10_fallWith_13 : decode cX10_fallWith 13 = .ok (.sipush 200, 3) := by decide +kernel
theorem dX10_fallWith_16 : decode cX10_fallWith 16 = .ok (.if_icmp .gt 81, 3) := by decide +kernel
theorem dX10_fallWith_19 : decode cX10_fallWith 19 = .ok (.aload_n 0, 1) := by decide +kernel
theorem dX10_fallWith_20 : decode cX10_fallWith 20 = .ok (.getfield 43, 3) := by decide +kernel
theorem dX10_fallWith_23 : decode cX10_fallWith 23 = .ok (.iload_n 1, 1) := by decide +kernel
theorem dX10_fallWith_24 : decode cX10_fallWith 24 = .ok (.iaload, 1) := by decide +kernel
theorem dX10_fallWith_25 : decode cX10_fallWith 25 = .ok (.ifCond .ne 6, 3) := by decide +kernel
theorem dX10_fallWith_31 : decode cX10_fallWith 31 = .ok (.aload_n 0, 1) := by decide +kernel
theorem dX10_fallWith_32 : decode cX10_fallWith 32 = .ok (.aload_n 0, 1) := by decide +kernel
theorem dX10_fallWith_33 : decode cX10_fallWith 33 = .ok (.getfield 151, 3) := by decide +kernel
theorem dX10_fallWith_36 : decode cX10_fallWith 36 = .ok (.iload 5, 2) := by decide +kernel
theorem dX10_fallWith_38 : decode cX10_fallWith 38 = .ok (.iadd, 1) := by decide +kernel
theorem dX10_fallWith_39 : decode cX10_fallWith 39 = .ok (.invokevirtual 228, 3) := by decide +kernel
theorem dX10_fallWith_42 : decode cX10_fallWith 42 = .ok (.ifCond .eq 25, 3) := by decide +kernel
theorem dX10_fallWith_67 : decode cX10_fallWith 67 = .ok (.iload 5, 2) := by decide +kernel
theorem dX10_fallWith_69 : decode cX10_fallWith 69 = .ok (.iload_n 2, 1) := by decide +kernel
theorem dX10_fallWith_70 : decode cX10_fallWith 70 = .ok (.if_icmp .ne 10, 3) := by decide +kernel
theorem dX10_fallWith_80 : decode cX10_fallWith 80 = .ok (.aload_n 0, 1) := by decide +kernel
theorem dX10_fallWith_81 : decode cX10_fallWith 81 = .ok (.aload_n 0, 1) := by decide +kernel
theorem dX10_fallWith_82 : decode cX10_fallWith 82 = .ok (.getfield 151, 3) := by decide +kernel
theorem dX10_fallWith_85 : decode cX10_fallWith 85 = .ok (.iload 5, 2) := by decide +kernel
theorem dX10_fallWith_87 : decode cX10_fallWith 87 = .ok (.iadd, 1) := by decide +kernel
theorem dX10_fallWith_88 : decode cX10_fallWith 88 = .ok (.invokevirtual 240, 3) := by decide +kernel
theorem dX10_fallWith_91 : decode cX10_fallWith 91 = .ok (.iinc 5 1, 3) := by decide +kernel
theorem dX10_fallWith_94 : decode cX10_fallWith 94 = .ok (.goto (-83), 3) := by decide +kernel
theorem dX10_fallWith_73 : decode cX10_fallWith 73 = .ok (.aload_n 0, 1) := by decide +kernel
theorem dX10_fallWith_74 : decode cX10_fallWith 74 = .ok (.iload_n 3, 1) := by decide +kernel
theorem dX10_fallWith_75 : decode cX10_fallWith 75 = .ok (.iload 4, 2) := by decide +kernel
theorem dX10_fallWith_77 : decode cX10_fallWith 77 = .ok (.invokevirtual 234, 3) := by decide +kernel
theorem dX10_fallWith_45 : decode cX10_fallWith 45 = .ok (.aload_n 0, 1) := by decide +kernel
theorem dX10_fallWith_46 : decode cX10_fallWith 46 = .ok (.aload_n 0, 1) := by decide +kernel
theorem dX10_fallWith_47 : decode cX10_fallWith 47 = .ok (.aload_n 0, 1) := by decide +kernel
theorem dX10_fallWith_48 : decode cX10_fallWith 48 = .ok (.getfield 151, 3) := by decide +kernel
theorem dX10_fallWith_51 : decode cX10_fallWith 51 = .ok (.iload 5, 2) := by decide +kernel
theorem dX10_fallWith_53 : decode cX10_fallWith 53 = .ok (.iadd, 1) := by decide +kernel
theorem dX10_fallWith_54 : decode cX10_fallWith 54 = .ok (.invokevirtual 231, 3) := by decide +kernel
theorem dX10_fallWith_57 : decode cX10_fallWith 57 = .ok (.aload_n 0, 1) := by decide +kernel
theorem dX10_fallWith_58 : decode cX10_fallWith 58 = .ok (.getfield 9, 3) := by decide +kernel
theorem dX10_fallWith_61 : decode cX10_fallWith 61 = .ok (.bipush 18, 2) := by decide +kernel
theorem dX10_fallWith_63 : decode cX10_fallWith 63 = .ok (.iaload, 1) := by decide +kernel
theorem dX10_fallWith_64 : decode cX10_fallWith 64 = .ok (.invokevirtual 234, 3) := by decide +kernel
theorem dX10_fallWith_28 : decode cX10_fallWith 28 = .ok (.iload 5, 2) := by decide +kernel
theorem dX10_fallWith_30 : decode cX10_fallWith 30 = .ok (.ireturn, 1) := by decide +kernel
theorem dX10_fallWith_0 : decode cX10_fallWith 0 = .ok (.aload_n 0, 1) := by decide +kernel
theorem dX10_fallWith_1 : decode cX10_fallWith 1 = .ok (.aload_n 0, 1) := by decide +kernel
theorem dX10_fallWith_2 : decode cX10_fallWith 2 = .ok (.invokevirtual 246, 3) := by decide +kernel
theorem dX10_fallWith_5 : decode cX10_fallWith 5 = .ok (.invokevirtual 249, 3) := by decide +kernel
theorem dX10_fallWith_8 : decode cX10_fallWith 8 = .ok (.iconst 0, 1) := by decide +kernel
theorem dX10_fallWith_9 : decode cX10_fallWith 9 = .ok (.istore 5, 2) := by decide +kernel
theorem dX10_fallWith_97 : decode cX10_fallWith 97 = .ok (.sipush 201, 3) := by decide +kernel
theorem dX10_fallWith_100 : decode cX10_fallWith 100 = .ok (.ireturn, 1) := by decide +kernel
theorem dX10_mistaken_40 : decode cX10_mistaken 40 = .ok (.iload 8, 2) := by decide +kernel
theorem dX10_mistaken_42 : decode cX10_mistaken 42 = .ok (.aload_n 0, 1) := by decide +kernel
theorem dX10_mistaken_43 : decode cX10_mistaken 43 = .ok (.getfield 109, 3) := by decide +kernel
theorem dX10_mistaken_46 : decode cX10_mistaken 46 = .ok (.if_icmp .ge 40, 3) := by decide +kernel
theorem dX10_mistaken_49 : decode cX10_mistaken 49 = .ok (.iload 7, 2) := by decide +kernel
theorem dX10_mistaken_51 : decode cX10_mistaken 51 = .ok (.iload_n 2, 1) := by decide +kernel
theorem dX10_mistaken_52 : decode cX10_mistaken 52 = .ok (.iload 8, 2) := by decide +kernel
theorem dX10_mistaken_54 : decode cX10_mistaken 54 = .ok (.invokestatic 214, 3) := by decide +kernel
theorem dX10_mistaken_57 : decode cX10_mistaken 57 = .ok (.ifCond .eq 15, 3) := by decide +kernel
theorem dX10_mistaken_72 : decode cX10_mistaken 72 = .ok (.iconst 1, 1) := by decide +kernel
theorem dX10_mistaken_73 : decode cX10_mistaken 73 = .ok (.goto 4, 3) := by decide +kernel
theorem dX10_mistaken_77 : decode cX10_mistaken 77 = .ok (.iand, 1) := by decide +kernel
theorem dX10_mistaken_78 : decode cX10_mistaken 78 = .ok (.istore 7, 2) := by decide +kernel
theorem dX10_mistaken_80 : decode cX10_mistaken 80 = .ok (.iinc 8 1, 3) := by decide +kernel
theorem dX10_mistaken_83 : decode cX10_mistaken 83 = .ok (.goto (-43), 3) := by decide +kernel
theorem dX10_mistaken_60 : decode cX10_mistaken 60 = .ok (.aload_n 0, 1) := by decide +kernel
theorem dX10_mistaken_61 : decode cX10_mistaken 61 = .ok (.getfield 43, 3) := by decide +kernel
theorem dX10_mistaken_64 : decode cX10_mistaken 64 = .ok (.iload 8, 2) := by decide +kernel
theorem dX10_mistaken_66 : decode cX10_mistaken 66 = .ok (.iaload, 1) := by decide +kernel
theorem dX10_mistaken_67 : decode cX10_mistaken 67 = .ok (.bipush 20, 2) := by decide +kernel
theorem dX10_mistaken_69 : decode cX10_mistaken 69 = .ok (.if_icmp .ne 7, 3) := by decide +kernel
theorem dX10_mistaken_76 : decode cX10_mistaken 76 = .ok (.iconst 0, 1) := by decide +kernel
theorem dX10_mistaken_26 : decode cX10_mistaken 26 = .ok (.iload 6, 2) := by decide +kernel
theorem dX10_mistaken_28 : decode cX10_mistaken 28 = .ok (.sipush 200, 3) := by decide +kernel
theorem dX10_mistaken_31 : decode cX10_mistaken 31 = .ok (.if_icmp .gt 215, 3) := by decide +kernel
theorem dX10_mistaken_152 : decode cX10_mistaken 152 = .ok (.iload 6, 2) := by decide +kernel
theorem dX10_mistaken_154 : decode cX10_mistaken 154 = .ok (.sipush 200, 3) := by decide +kernel
theorem dX10_mistaken_157 : decode cX10_mistaken 157 = .ok (.if_icmp .ge 83, 3) := by decide +kernel
theorem dX10_mistaken_240 : decode cX10_mistaken 240 = .ok (.iinc 6 1, 3) := by decide +kernel
theorem dX10_mistaken_243 : decode cX10_mistaken 243 = .ok (.goto (-217), 3) := by decide +kernel
theorem dX10_mistaken_160 : decode cX10_mistaken 160 = .ok (.aload_n 0, 1) := by decide +kernel
theorem dX10_mistaken_161 : decode cX10_mistaken 161 = .ok (.aload_n 0, 1) := by decide +kernel
theorem dX10_mistaken_162 : decode cX10_mistaken 162 = .ok (.getfield 151, 3) := by decide +kernel
theorem dX10_mistaken_165 : decode cX10_mistaken 165 = .ok (.iload 6, 2) := by decide +kernel
theorem dX10_mistaken_167 : decode cX10_mistaken 167 = .ok (.iadd, 1) := by decide +kernel
theorem dX10_mistaken_168 : decode cX10_mistaken 168 = .ok (.invokevirtual 228, 3) := by decide +kernel
theorem dX10_mistaken_171 : decode cX10_mistaken 171 = .ok (.ifCond .eq 12, 3) := by decide +kernel
theorem dX10_mistaken_183 : decode cX10_mistaken 183 = .ok (.iconst 0, 1) := by decide +kernel
theorem dX10_mistaken_184 : decode cX10_mistaken 184 = .ok (.istore 8, 2) := by decide +kernel
theorem dX10_mistaken_186 : decode cX10_mistaken 186 = .ok (.iload 4, 2) := by decide +kernel
theorem dX10_mistaken_188 : decode cX10_mistaken 188 = .ok (.aload_n 0, 1) := by decide +kernel
theorem dX10_mistaken_189 : decode cX10_mistaken 189 = .ok (.aload_n 0, 1) := by decide +kernel
theorem dX10_mistaken_190 : decode cX10_mistaken 190 = .ok (.getfield 151, 3) := by decide +kernel
theorem dX10_mistaken_193 : decode cX10_mistaken 193 = .ok (.iload 6, 2) := by decide +kernel
theorem dX10_mistaken_195 : decode cX10_mistaken 195 = .ok (.iadd, 1) := by decide +kernel
theorem dX10_mistaken_196 : decode cX10_mistaken 196 = .ok (.invokevirtual 228, 3) := by decide +kernel
theorem dX10_mistaken_199 : decode cX10_mistaken 199 = .ok (.ifCond .eq 7, 3) := by decide +kernel
theorem dX10_mistaken_206 : decode cX10_mistaken 206 = .ok (.iconst 0, 1) := by decide +kernel
theorem dX10_mistaken_207 : decode cX10_mistaken 207 = .ok (.isub, 1) := by decide +kernel
theorem dX10_mistaken_208 : decode cX10_mistaken 208 = .ok (.istore 4, 2) := by decide +kernel
theorem dX10_mistaken_210 : decode cX10_mistaken 210 = .ok (.iload 8, 2) := by decide +kernel
theorem dX10_mistaken_212 : decode cX10_mistaken 212 = .ok (.ifCond .eq 17, 3) := by decide +kernel
theorem dX10_mistaken_229 : decode cX10_mistaken 229 = .ok (.aload_n 0, 1) := by decide +kernel
theorem dX10_mistaken_230 : decode cX10_mistaken 230 = .ok (.aload_n 0, 1) := by decide +kernel
theorem dX10_mistaken_231 : decode cX10_mistaken 231 = .ok (.getfield 151, 3) := by decide +kernel
theorem dX10_mistaken_234 : decode cX10_mistaken 234 = .ok (.iload 6, 2) := by decide +kernel
theorem dX10_mistaken_236 : decode cX10_mistaken 236 = .ok (.iadd, 1) := by decide +kernel
theorem dX10_mistaken_237 : decode cX10_mistaken 237 = .ok (.invokevirtual 255, 3) := by decide +kernel
theorem dX10_mistaken_202 : decode cX10_mistaken 202 = .ok (.iconst 1, 1) := by decide +kernel
theorem dX10_mistaken_203 : decode cX10_mistaken 203 = .ok (.goto 4, 3) := by decide +kernel
theorem dX10_mistaken_174 : decode cX10_mistaken 174 = .ok (.iload 4, 2) := by decide +kernel
theorem dX10_mistaken_176 : decode cX10_mistaken 176 = .ok (.ifCond .ne 7, 3) := by decide +kernel
theorem dX10_mistaken_179 : decode cX10_mistaken 179 = .ok (.iconst 1, 1) := by decide +kernel
theorem dX10_mistaken_180 : decode cX10_mistaken 180 = .ok (.goto 4, 3) := by decide +kernel
theorem dX10_mistaken_215 : decode cX10_mistaken 215 = .ok (.aload_n 0, 1) := by decide +kernel
theorem dX10_mistaken_216 : decode cX10_mistaken 216 = .ok (.aload_n 0, 1) := by decide +kernel
theorem dX10_mistaken_217 : decode cX10_mistaken 217 = .ok (.getfield 151, 3) := by decide +kernel
theorem dX10_mistaken_220 : decode cX10_mistaken 220 = .ok (.iload 6, 2) := by decide +kernel
theorem dX10_mistaken_222 : decode cX10_mistaken 222 = .ok (.iadd, 1) := by decide +kernel
theorem dX10_mistaken_223 : decode cX10_mistaken 223 = .ok (.invokevirtual 240, 3) := by decide +kernel
theorem dX10_mistaken_226 : decode cX10_mistaken 226 = .ok (.goto 14, 3) := by decide +kernel
theorem dX10_mistaken_131 : decode cX10_mistaken 131 = .ok (.iload_n 3, 1) := by decide +kernel
theorem dX10_mistaken_132 : decode cX10_mistaken 132 = .ok (.ifCond .ge 18, 3) := by decide +kernel
theorem dX10_mistaken_150 : decode cX10_mistaken 150 = .ok (.iload_n 3, 1) := by decide +kernel
theorem dX10_mistaken_151 : decode cX10_mistaken 151 = .ok (.istore_n 3, 1) := by decide +kernel
theorem dX10_mistaken_135 : decode cX10_mistaken 135 = .ok (.aload_n 0, 1) := by decide +kernel
theorem dX10_mistaken_136 : decode cX10_mistaken 136 = .ok (.iload_n 2, 1) := by decide +kernel
theorem dX10_mistaken_137 : decode cX10_mistaken 137 = .ok (.invokevirtual 252, 3) := by decide +kernel
theorem dX10_mistaken_140 : decode cX10_mistaken 140 = .ok (.ifCond .le 10, 3) := by decide +kernel
theorem dX10_mistaken_143 : decode cX10_mistaken 143 = .ok (.iload 6, 2) := by decide +kernel
theorem dX10_mistaken_145 : decode cX10_mistaken 145 = .ok (.iconst 1, 1) := by decide +kernel
theorem dX10_mistaken_146 : decode cX10_mistaken 146 = .ok (.isub, 1) := by decide +kernel
theorem dX10_mistaken_147 : decode cX10_mistaken 147 = .ok (.goto 4, 3) := by decide +kernel
theorem dX10_mistaken_34 : decode cX10_mistaken 34 = .ok (.iconst 1, 1) := by decide +kernel
theorem dX10_mistaken_35 : decode cX10_mistaken 35 = .ok (.istore 7, 2) := by decide +kernel
theorem dX10_mistaken_37 : decode cX10_mistaken 37 = .ok (.iconst 0, 1) := by decide +kernel
theorem dX10_mistaken_38 : decode cX10_mistaken 38 = .ok (.istore 8, 2) := by decide +kernel
theorem dX10_mistaken_86 : decode cX10_mistaken 86 = .ok (.aload_n 0, 1) := by decide +kernel
theorem dX10_mistaken_87 : decode cX10_mistaken 87 = .ok (.aload_n 0, 1) := by decide +kernel
theorem dX10_mistaken_88 : decode cX10_mistaken 88 = .ok (.getfield 273, 3) := by decide +kernel
theorem dX10_mistaken_91 : decode cX10_mistaken 91 = .ok (.ifCond .ge 18, 3) := by decide +kernel
theorem dX10_mistaken_109 : decode cX10_mistaken 109 = .ok (.aload_n 0, 1) := by decide +kernel
theorem dX10_mistaken_110 : decode cX10_mistaken 110 = .ok (.getfield 273, 3) := by decide +kernel
theorem dX10_mistaken_113 : decode cX10_mistaken 113 = .ok (.putfield 273, 3) := by decide +kernel
theorem dX10_mistaken_116 : decode cX10_mistaken 116 = .ok (.iload 5, 2) := by decide +kernel
theorem dX10_mistaken_118 : decode cX10_mistaken 118 = .ok (.iload 7, 2) := by decide +kernel
theorem dX10_mistaken_120 : decode cX10_mistaken 120 = .ok (.ifCond .ne 7, 3) := by decide +kernel
theorem dX10_mistaken_127 : decode cX10_mistaken 127 = .ok (.iconst 0, 1) := by decide +kernel
theorem dX10_mistaken_128 : decode cX10_mistaken 128 = .ok (.ior, 1) := by decide +kernel
theorem dX10_mistaken_129 : decode cX10_mistaken 129 = .ok (.istore 5, 2) := by decide +kernel
theorem dX10_mistaken_123 : decode cX10_mistaken 123 = .ok (.iconst 1, 1) := by decide +kernel
theorem dX10_mistaken_124 : decode cX10_mistaken 124 = .ok (.goto 4, 3) := by decide +kernel
theorem dX10_mistaken_94 : decode cX10_mistaken 94 = .ok (.iload 5, 2) := by decide +kernel
theorem dX10_mistaken_96 : decode cX10_mistaken 96 = .ok (.ifCond .eq 13, 3) := by decide +kernel
theorem dX10_mistaken_99 : decode cX10_mistaken 99 = .ok (.iload 7, 2) := by decide +kernel
theorem dX10_mistaken_101 : decode cX10_mistaken 101 = .ok (.ifCond .eq 8, 3) := by decide +kernel
theorem dX10_mistaken_104 : decode cX10_mistaken 104 = .ok (.iload 6, 2) := by decide +kernel
theorem dX10_mistaken_106 : decode cX10_mistaken 106 = .ok (.goto 7, 3) := by decide +kernel
theorem dX10_mistaken_0 : decode cX10_mistaken 0 = .ok (.aload_n 0, 1) := by decide +kernel
theorem dX10_mistaken_1 : decode cX10_mistaken 1 = .ok (.invokevirtual 246, 3) := by decide +kernel
theorem dX10_mistaken_4 : decode cX10_mistaken 4 = .ok (.istore_n 2, 1) := by decide +kernel
theorem dX10_mistaken_5 : decode cX10_mistaken 5 = .ok (.aload_n 0, 1) := by decide +kernel
theorem dX10_mistaken_6 : decode cX10_mistaken 6 = .ok (.iload_n 2, 1) := by decide +kernel
theorem dX10_mistaken_7 : decode cX10_mistaken 7 = .ok (.invokevirtual 249, 3) := by decide +kernel
theorem dX10_mistaken_10 : decode cX10_mistaken 10 = .ok (.iconst (-1), 1) := by decide +kernel
theorem dX10_mistaken_11 : decode cX10_mistaken 11 = .ok (.istore_n 3, 1) := by decide +kernel
theorem dX10_mistaken_12 : decode cX10_mistaken 12 = .ok (.iload_n 1, 1) := by decide +kernel
theorem dX10_mistaken_13 : decode cX10_mistaken 13 = .ok (.istore 4, 2) := by decide +kernel
theorem dX10_mistaken_15 : decode cX10_mistaken 15 = .ok (.iconst 0, 1) := by decide +kernel
theorem dX10_mistaken_16 : decode cX10_mistaken 16 = .ok (.istore 5, 2) := by decide +kernel
theorem dX10_mistaken_18 : decode cX10_mistaken 18 = .ok (.aload_n 0, 1) := by decide +kernel
theorem dX10_mistaken_19 : decode cX10_mistaken 19 = .ok (.iconst (-1), 1) := by decide +kernel
theorem dX10_mistaken_20 : decode cX10_mistaken 20 = .ok (.putfield 273, 3) := by decide +kernel
theorem dX10_mistaken_23 : decode cX10_mistaken 23 = .ok (.iconst 0, 1) := by decide +kernel
theorem dX10_mistaken_24 : decode cX10_mistaken 24 = .ok (.istore 6, 2) := by decide +kernel
theorem dX10_mistaken_246 : decode cX10_mistaken 246 = .ok (.aload_n 0, 1) := by decide +kernel
theorem dX10_mistaken_247 : decode cX10_mistaken 247 = .ok (.aload_n 0, 1) := by decide +kernel
theorem dX10_mistaken_248 : decode cX10_mistaken 248 = .ok (.getfield 273, 3) := by decide +kernel
theorem dX10_mistaken_251 : decode cX10_mistaken 251 = .ok (.ifCond .lt 10, 3) := by decide +kernel
theorem dX10_mistaken_261 : decode cX10_mistaken 261 = .ok (.iload 5, 2) := by decide +kernel
theorem dX10_mistaken_263 : decode cX10_mistaken 263 = .ok (.ifCond .eq 8, 3) := by decide +kernel
theorem dX10_mistaken_271 : decode cX10_mistaken 271 = .ok (.iconst 0, 1) := by decide +kernel
theorem dX10_mistaken_272 : decode cX10_mistaken 272 = .ok (.putfield 273, 3) := by decide +kernel
theorem dX10_mistaken_275 : decode cX10_mistaken 275 = .ok (.iload_n 3, 1) := by decide +kernel
theorem dX10_mistaken_276 : decode cX10_mistaken 276 = .ok (.ifCond .ge 9, 3) := by decide +kernel
theorem dX10_mistaken_285 : decode cX10_mistaken 285 = .ok (.iload_n 3, 1) := by decide +kernel
theorem dX10_mistaken_286 : decode cX10_mistaken 286 = .ok (.ireturn, 1) := by decide +kernel
theorem dX10_mistaken_279 : decode cX10_mistaken 279 = .ok (.sipush 200, 3) := by decide +kernel
theorem dX10_mistaken_282 : decode cX10_mistaken 282 = .ok (.goto 4, 3) := by decide +kernel
theorem dX10_mistaken_266 : decode cX10_mistaken 266 = .ok (.bipush (-2), 2) := by decide +kernel
theorem dX10_mistaken_268 : decode cX10_mistaken 268 = .ok (.goto 4, 3) := by decide +kernel
theorem dX10_mistaken_254 : decode cX10_mistaken 254 = .ok (.aload_n 0, 1) := by decide +kernel
theorem dX10_mistaken_255 : decode cX10_mistaken 255 = .ok (.getfield 273, 3) := by decide +kernel
theorem dX10_mistaken_258 : decode cX10_mistaken 258 = .ok (.goto 14, 3) := by decide +kernel
abbrev WR1 (p k : Nat) : Prop := (p = 62 ∧ k = 14) ∨ (p = 62 ∧ k = 15) ∨ (p = 62 ∧ k = 16) ∨ (p = 62 ∧ k = 17) ∨ (p = 62 ∧ k = 18) ∨ (p = 62 ∧ k = 23) ∨ (p = 62 ∧ k = 26) ∨ (71 ≤ p ∧ p ≤ 74)
set_option maxRecDepth 100000 in
set_option maxHeartbeats 4000000 in
theorem c_X10_sizeOf (v : Int32) {l : Launch} {G : xG} {sh : List xS} {M : xM} {J : xJ} : x_M l G fX10_sizeOf 0 0 0 [.int (v)] sh M J (qE (some (.int (if 0 ≤ v then v else -v))) sh M J) := by
  refine xb_of pX10 (Nat.le_of_ble_eq_true rfl) rfl ?_
  refine xr_iload_n dX10_sizeOf_0 0 rfl ?_
  refine xr_if_ge (tgt := 9) dX10_sizeOf_1 rfl (fun c1 => ?_) (fun c1 => ?_)
  · refine xr_iload_n dX10_sizeOf_9 0 rfl ?_
    exact xr_iret dX10_sizeOf_10 rfl rfl (⟨by first | rfl | grind, rfl, rfl, rfl⟩)
  · refine xr_iload_n dX10_sizeOf_4 0 rfl ?_
    refine xr_ineg dX10_sizeOf_5 ?_
    refine xr_goto (tgt := 10) dX10_sizeOf_6 rfl ?_
    exact xr_iret dX10_sizeOf_10 rfl rfl (⟨by first | rfl | grind, rfl, rfl, rfl⟩)
set_option maxRecDepth 100000 in
set_option maxHeartbeats 4000000 in
theorem g_X10_isIn (a b : Int32) {l : Launch} {G : xG} {M : xM} {J : xJ} : x_M l G fX10_isIn 0 0 0 [.int (a), .int (b)] x_SH M J (qPI M J (fun r => r = 0 ∨ r = 1)) := by
  refine xb_of pX10 (Nat.le_of_ble_eq_true rfl) rfl ?_
  refine xr_iload_n dX10_isIn_0 0 rfl ?_
  refine xr_iload_n dX10_isIn_1 1 rfl ?_
  refine xr_ishr dX10_isIn_2 ?_
  refine xr_iconst (v := 1) dX10_isIn_3 rfl ?_
  refine xr_iand dX10_isIn_4 ?_
  refine xr_iconst (v := 1) dX10_isIn_5 rfl ?_
  refine xr_icmp_ne (tgt := 13) dX10_isIn_6 rfl (fun c1 => ?_) (fun c1 => ?_)
  · refine xr_iconst (v := 0) dX10_isIn_13 rfl ?_
    exact xr_iret dX10_isIn_14 rfl rfl (⟨_, rfl, rfl, rfl, rfl, (Or.inl rfl)⟩)
  · refine xr_iconst (v := 1) dX10_isIn_9 rfl ?_
    refine xr_goto (tgt := 14) dX10_isIn_10 rfl ?_
    exact xr_iret dX10_isIn_14 rfl rfl (⟨_, rfl, rfl, rfl, rfl, (Or.inr rfl)⟩)
set_option maxRecDepth 100000 in
set_option maxHeartbeats 4000000 in
theorem g_X10_needOf {h : Nat} (hh : h < 5) {l : Launch} {G : xG} {M : xM} {J : xJ} : x_M l G fX10_needOf 0 0 0 [.ref (62), .int (nI (h))] x_SH M J (qPI M J (fun r => True)) := by
  refine xb_of pX10 (Nat.le_of_ble_eq_true rfl) rfl ?_
  refine xr_bipush (v := 10) dX10_needOf_0 rfl ?_
  refine xr_aload_n dX10_needOf_2 0 rfl ?_
  refine xr_getR flX10_9 dX10_needOf_3 s_62 rfl ?_
  refine xr_iload_n dX10_needOf_6 1 rfl ?_
  refine xb_iald (j := h) (v := M 63 h) dX10_needOf_7 s_63 (by omega) (by decide) rfl ?_
  refine xr_isub dX10_needOf_8 ?_
  refine xr_iconst (v := 2) dX10_needOf_9 rfl ?_
  refine xr_idiv dX10_needOf_10 (by decide) ?_
  refine xr_iconst (v := 1) dX10_needOf_11 rfl ?_
  refine xr_iadd dX10_needOf_12 ?_
  exact xr_iret dX10_needOf_13 rfl rfl (⟨_, rfl, rfl, rfl, rfl, trivial⟩)
set_option maxRecDepth 100000 in
set_option maxHeartbeats 4000000 in
theorem g_X10_becomesPace {h : Nat} (hh : h < 5) (si : Int32) {l : Launch} {G : xG} {M : xM} {J : xJ} : x_M l G fX10_becomesPace 0 0 0 [.ref (62), .int (nI (h)), .int (si)] x_SH M J (qKV WR1 M J (fun M2 => True)) := by
  refine xb_of pX10 (Nat.le_of_ble_eq_true rfl) rfl ?_
  refine xr_iload_n dX10_becomesPace_0 2 rfl ?_
  refine xr_if_ge (tgt := 8) dX10_becomesPace_1 rfl (fun c1 => ?_) (fun c1 => ?_)
  · refine xr_iload_n dX10_becomesPace_8 2 rfl ?_
    refine xr_bipush (v := 9) dX10_becomesPace_9 rfl ?_
    refine xr_icmp_le (tgt := 19) dX10_becomesPace_11 rfl (fun c2 => ?_) (fun c2 => ?_)
    · refine xr_iload_n dX10_becomesPace_19 2 rfl ?_
      refine xr_istore_n (ls2 := [(3, .int (si)), (0, .ref (62)), (1, .int (nI (h))), (2, .int (si))]) dX10_becomesPace_20 (by decide) rfl ?_
      refine xr_aload_n dX10_becomesPace_21 1 rfl ?_
      refine xr_getR flX10_40 dX10_becomesPace_22 s_62 rfl ?_
      refine xr_iload_n dX10_becomesPace_25 2 rfl ?_
      refine xr_aload_n dX10_becomesPace_26 1 rfl ?_
      refine xr_getR flX10_40 dX10_becomesPace_27 s_62 rfl ?_
      refine xr_iload_n dX10_becomesPace_30 2 rfl ?_
      refine xb_iald (j := h) (v := M 73 h) dX10_becomesPace_31 s_73 (by omega) (by decide) rfl ?_
      refine xr_if_ge (tgt := 40) dX10_becomesPace_32 rfl (fun c3 => ?_) (fun c3 => ?_)
      · refine xr_iload_n dX10_becomesPace_40 0 rfl ?_
        refine xb_iast (j := h) dX10_becomesPace_41 s_73 (by omega) (by decide) ?_
        exact xr_vret dX10_becomesPace_42 rfl (⟨rfl, rfl, rfl, (Ke.up (Or.inr (Or.inr (Or.inr (Or.inr (Or.inr (Or.inr (Or.inr (by omega)))))))) Ke.rf), trivial⟩)
      · refine xr_iload_n dX10_becomesPace_35 0 rfl ?_
        refine xr_ineg dX10_becomesPace_36 ?_
        refine xr_goto (tgt := 41) dX10_becomesPace_37 rfl ?_
        refine xb_iast (j := h) dX10_becomesPace_41 s_73 (by omega) (by decide) ?_
        exact xr_vret dX10_becomesPace_42 rfl (⟨rfl, rfl, rfl, (Ke.up (Or.inr (Or.inr (Or.inr (Or.inr (Or.inr (Or.inr (Or.inr (by omega)))))))) Ke.rf), trivial⟩)
    · refine xr_bipush (v := 9) dX10_becomesPace_14 rfl ?_
      refine xr_goto (tgt := 20) dX10_becomesPace_16 rfl ?_
      refine xr_istore_n (ls2 := [(3, .int (9)), (0, .ref (62)), (1, .int (nI (h))), (2, .int (si))]) dX10_becomesPace_20 (by decide) rfl ?_
      refine xr_aload_n dX10_becomesPace_21 1 rfl ?_
      refine xr_getR flX10_40 dX10_becomesPace_22 s_62 rfl ?_
      refine xr_iload_n dX10_becomesPace_25 2 rfl ?_
      refine xr_aload_n dX10_becomesPace_26 1 rfl ?_
      refine xr_getR flX10_40 dX10_becomesPace_27 s_62 rfl ?_
      refine xr_iload_n dX10_becomesPace_30 2 rfl ?_
      refine xb_iald (j := h) (v := M 73 h) dX10_becomesPace_31 s_73 (by omega) (by decide) rfl ?_
      refine xr_if_ge (tgt := 40) dX10_becomesPace_32 rfl (fun c4 => ?_) (fun c4 => ?_)
      · refine xr_iload_n dX10_becomesPace_40 0 rfl ?_
        refine xb_iast (j := h) dX10_becomesPace_41 s_73 (by omega) (by decide) ?_
        exact xr_vret dX10_becomesPace_42 rfl (⟨rfl, rfl, rfl, (Ke.up (Or.inr (Or.inr (Or.inr (Or.inr (Or.inr (Or.inr (Or.inr (by omega)))))))) Ke.rf), trivial⟩)
      · refine xr_iload_n dX10_becomesPace_35 0 rfl ?_
        refine xr_ineg dX10_becomesPace_36 ?_
        refine xb_top (y := (-9)) (by decide) ?_
        refine xr_goto (tgt := 41) dX10_becomesPace_37 rfl ?_
        refine xb_iast (j := h) dX10_becomesPace_41 s_73 (by omega) (by decide) ?_
        exact xr_vret dX10_becomesPace_42 rfl (⟨rfl, rfl, rfl, (Ke.up (Or.inr (Or.inr (Or.inr (Or.inr (Or.inr (Or.inr (Or.inr (by omega)))))))) Ke.rf), trivial⟩)
  · refine xr_iconst (v := 0) dX10_becomesPace_4 rfl ?_
    refine xr_goto (tgt := 20) dX10_becomesPace_5 rfl ?_
    refine xr_istore_n (ls2 := [(3, .int (0)), (0, .ref (62)), (1, .int (nI (h))), (2, .int (si))]) dX10_becomesPace_20 (by decide) rfl ?_
    refine xr_aload_n dX10_becomesPace_21 1 rfl ?_
    refine xr_getR flX10_40 dX10_becomesPace_22 s_62 rfl ?_
    refine xr_iload_n dX10_becomesPace_25 2 rfl ?_
    refine xr_aload_n dX10_becomesPace_26 1 rfl ?_
    refine xr_getR flX10_40 dX10_becomesPace_27 s_62 rfl ?_
    refine xr_iload_n dX10_becomesPace_30 2 rfl ?_
    refine xb_iald (j := h) (v := M 73 h) dX10_becomesPace_31 s_73 (by omega) (by decide) rfl ?_
    refine xr_if_ge (tgt := 40) dX10_becomesPace_32 rfl (fun c5 => ?_) (fun c5 => ?_)
    · refine xr_iload_n dX10_becomesPace_40 0 rfl ?_
      refine xb_iast (j := h) dX10_becomesPace_41 s_73 (by omega) (by decide) ?_
      exact xr_vret dX10_becomesPace_42 rfl (⟨rfl, rfl, rfl, (Ke.up (Or.inr (Or.inr (Or.inr (Or.inr (Or.inr (Or.inr (Or.inr (by omega)))))))) Ke.rf), trivial⟩)
    · refine xr_iload_n dX10_becomesPace_35 0 rfl ?_
      refine xr_ineg dX10_becomesPace_36 ?_
      refine xb_top (y := 0) (by decide) ?_
      refine xr_goto (tgt := 41) dX10_becomesPace_37 rfl ?_
      refine xb_iast (j := h) dX10_becomesPace_41 s_73 (by omega) (by decide) ?_
      exact xr_vret dX10_becomesPace_42 rfl (⟨rfl, rfl, rfl, (Ke.up (Or.inr (Or.inr (Or.inr (Or.inr (Or.inr (Or.inr (Or.inr (by omega)))))))) Ke.rf), trivial⟩)
set_option maxRecDepth 100000 in
set_option maxHeartbeats 4000000 in
theorem g_X10_gained {h : Nat} (hh : h < 5) (fa st : Int32) {l : Launch} {G : xG} {M : xM} {J : xJ} {hn : Nat} (h_hn : hn ≤ 5) (e_hn : M 62 6 = nI hn) (hw : ∀ k, k < hn → M 63 (5 + k) ≠ 0) (hbt : M 63 16 ≠ 0) (htx : M 62 13 = -1 ∨ ∃ n : Nat, n ≤ 120 ∧ M 62 13 = nI n) : x_M l G fX10_gained 59 0 0 [.ref (62), .int (nI (h)), .int (fa), .int (st)] x_SH M J (qKI WR1 M J (fun r M2 => True)) := by
  refine xb_of pX10 (Nat.le_of_ble_eq_true rfl) rfl ?_
  refine xr_aload_n dX10_gained_0 0 rfl ?_
  refine xb_get (v := M 62 13) flX10_88 dX10_gained_1 s_62 rfl rfl ?_
  refine xr_if_ge (tgt := 28) dX10_gained_4 rfl (fun c1 => ?_) (fun c1 => ?_)
  · obtain ⟨tn, htn, etn⟩ := Or.resolve_left htx (fun q => by rw [q] at c1; exact absurd c1 (by decide))
    refine xr_aload_n dX10_gained_28 0 rfl ?_
    refine xr_getR flX10_34 dX10_gained_29 s_62 rfl ?_
    refine xr_iconst (v := 0) dX10_gained_32 rfl ?_
    refine xr_iload_n dX10_gained_33 2 rfl ?_
    refine xb_iast (j := 0) dX10_gained_34 s_71 (by decide) (by decide) ?_
    refine xr_aload_n dX10_gained_35 0 rfl ?_
    refine xr_getR flX10_34 dX10_gained_36 s_62 rfl ?_
    refine xr_iconst (v := 1) dX10_gained_39 rfl ?_
    refine xr_aload_n dX10_gained_40 0 rfl ?_
    refine xr_getR flX10_40 dX10_gained_41 s_62 rfl ?_
    refine xr_iload_n dX10_gained_44 1 rfl ?_
    refine xb_iald (j := h) (v := (x_up M 71 0 fa) 73 h) dX10_gained_45 s_73 (by omega) (by decide) rfl ?_
    refine xb_cS (As := [.int ((x_up M 71 0 fa) 73 h)]) (rest := [.int (1), .ref (71)]) mlX10_218 (c_X10_sizeOf ((x_up M 71 0 fa) 73 h)) dX10_gained_46 rfl rfl (Nat.le_of_ble_eq_true rfl) (by decide) (by decide) ?_
    refine xb_iast (j := 1) dX10_gained_49 s_71 (by decide) (by decide) ?_
    refine xr_aload_n dX10_gained_50 0 rfl ?_
    refine xr_getR flX10_34 dX10_gained_51 s_62 rfl ?_
    refine xr_iconst (v := 2) dX10_gained_54 rfl ?_
    refine xr_aload_n dX10_gained_55 0 rfl ?_
    refine xr_getR flX10_9 dX10_gained_56 s_62 rfl ?_
    refine xr_iload_n dX10_gained_59 1 rfl ?_
    refine xb_iald (j := h) (v := (x_up (x_up M 71 0 fa) 71 1 (if 0 ≤ ((x_up M 71 0 fa) 73 h) then ((x_up M 71 0 fa) 73 h) else -((x_up M 71 0 fa) 73 h))) 63 h) dX10_gained_60 s_63 (by omega) (by decide) rfl ?_
    refine xb_iast (j := 2) dX10_gained_61 s_71 (by decide) (by decide) ?_
    refine xr_aload_n dX10_gained_62 0 rfl ?_
    refine xr_getR flX10_34 dX10_gained_63 s_62 rfl ?_
    refine xr_iconst (v := 3) dX10_gained_66 rfl ?_
    refine xr_aload_n dX10_gained_67 0 rfl ?_
    refine xr_getR flX10_9 dX10_gained_68 s_62 rfl ?_
    refine xr_iconst (v := 5) dX10_gained_71 rfl ?_
    refine xr_iload_n dX10_gained_72 1 rfl ?_
    refine xr_iadd dX10_gained_73 ?_
    refine xb_top (y := nI (5 + h)) (nI_add (5) (h)) ?_
    refine xb_iald (j := 5 + h) (v := (x_up (x_up (x_up M 71 0 fa) 71 1 (if 0 ≤ ((x_up M 71 0 fa) 73 h) then ((x_up M 71 0 fa) 73 h) else -((x_up M 71 0 fa) 73 h))) 71 2 ((x_up (x_up M 71 0 fa) 71 1 (if 0 ≤ ((x_up M 71 0 fa) 73 h) then ((x_up M 71 0 fa) 73 h) else -((x_up M 71 0 fa) 73 h))) 63 h)) 63 (5 + h)) dX10_gained_74 s_63 (by omega) (by decide) rfl ?_
    refine xb_iast (j := 3) dX10_gained_75 s_71 (by decide) (by decide) ?_
    refine xr_aload_n dX10_gained_76 0 rfl ?_
    refine xr_getR flX10_34 dX10_gained_77 s_62 rfl ?_
    refine xr_iconst (v := 4) dX10_gained_80 rfl ?_
    refine xr_iload_n dX10_gained_81 3 rfl ?_
    refine xb_iast (j := 4) dX10_gained_82 s_71 (by decide) (by decide) ?_
    refine xr_aload_n dX10_gained_83 0 rfl ?_
    refine xr_getR flX10_34 dX10_gained_84 s_62 rfl ?_
    refine xr_iconst (v := 5) dX10_gained_87 rfl ?_
    refine xr_aload_n dX10_gained_88 0 rfl ?_
    refine xr_getR flX10_43 dX10_gained_89 s_62 rfl ?_
    refine xr_iload_n dX10_gained_92 1 rfl ?_
    refine xb_iald (j := h) (v := (x_up (x_up (x_up (x_up (x_up M 71 0 fa) 71 1 (if 0 ≤ ((x_up M 71 0 fa) 73 h) then ((x_up M 71 0 fa) 73 h) else -((x_up M 71 0 fa) 73 h))) 71 2 ((x_up (x_up M 71 0 fa) 71 1 (if 0 ≤ ((x_up M 71 0 fa) 73 h) then ((x_up M 71 0 fa) 73 h) else -((x_up M 71 0 fa) 73 h))) 63 h)) 71 3 ((x_up (x_up (x_up M 71 0 fa) 71 1 (if 0 ≤ ((x_up M 71 0 fa) 73 h) then ((x_up M 71 0 fa) 73 h) else -((x_up M 71 0 fa) 73 h))) 71 2 ((x_up (x_up M 71 0 fa) 71 1 (if 0 ≤ ((x_up M 71 0 fa) 73 h) then ((x_up M 71 0 fa) 73 h) else -((x_up M 71 0 fa) 73 h))) 63 h)) 63 (5 + h))) 71 4 st) 74 h) dX10_gained_93 s_74 (by omega) (by decide) rfl ?_
    refine xb_iast (j := 5) dX10_gained_94 s_71 (by decide) (by decide) ?_
    refine xr_aload_n dX10_gained_95 0 rfl ?_
    refine xr_iconst (v := 0) dX10_gained_96 rfl ?_
    refine xr_aload_n dX10_gained_97 0 rfl ?_
    refine xb_get (v := nI (tn)) flX10_88 dX10_gained_98 s_62 rfl (Eq.trans (congrFun (x_up_n _ _ _ (by decide)) _) (Eq.trans (congrFun (x_up_n _ _ _ (by decide)) _) (Eq.trans (congrFun (x_up_n _ _ _ (by decide)) _) (Eq.trans (congrFun (x_up_n _ _ _ (by decide)) _) (Eq.trans (congrFun (x_up_n _ _ _ (by decide)) _) (Eq.trans (congrFun (x_up_n _ _ _ (by decide)) _) etn)))))) ?_
    refine xr_callV (As := [.int (0), .int (nI (tn))]) (rest := []) mlX10_211 (g_X10_workOut (E := tn) (Or.inr rfl) (by omega)) dX10_gained_101 s_62 rfl rfl (Nat.le_of_ble_eq_true rfl) (by decide) ⟨by decide, by decide⟩ (fun v s2 M2 J2 hq => ?_)
    obtain ⟨r4, rfl, rfl, rfl, k3, _⟩ := hq
    try dsimp only [Option.toList, List.cons_append, List.nil_append]
    refine xr_istore (ls2 := [(4, .int (r4)), (0, .ref (62)), (1, .int (nI (h))), (2, .int (fa)), (3, .int (st))]) dX10_gained_104 (by decide) rfl ?_
    refine xr_iload dX10_gained_106 0 rfl ?_
    refine xr_bipush (v := -9) dX10_gained_108 rfl ?_
    refine xr_icmp_ge (tgt := 118) dX10_gained_110 rfl (fun c5 => ?_) (fun c5 => ?_)
    · refine xr_iload dX10_gained_118 0 rfl ?_
      refine xr_bipush (v := 9) dX10_gained_120 rfl ?_
      refine xr_icmp_le (tgt := 130) dX10_gained_122 rfl (fun c6 => ?_) (fun c6 => ?_)
      · refine xr_iload dX10_gained_130 0 rfl ?_
        exact xr_iret dX10_gained_132 rfl rfl (⟨_, rfl, rfl, rfl, (Ke.tr (fun pp kk => (fun hh => Or.elim hh (fun h => (Or.inl h)) (fun hh => Or.elim hh (fun h => (Or.inr (Or.inl h))) (fun hh => Or.elim hh (fun h => (Or.inr (Or.inr (Or.inl h)))) (fun hh => Or.elim hh (fun h => (Or.inr (Or.inr (Or.inr (Or.inl h))))) (fun h => (Or.inr (Or.inr (Or.inr (Or.inr (Or.inl h))))))))))) (Ke.up (Or.inr (Or.inr (Or.inr (Or.inr (Or.inr (Or.inr (Or.inr (by omega)))))))) (Ke.up (Or.inr (Or.inr (Or.inr (Or.inr (Or.inr (Or.inr (Or.inr (by omega)))))))) (Ke.up (Or.inr (Or.inr (Or.inr (Or.inr (Or.inr (Or.inr (Or.inr (by omega)))))))) (Ke.up (Or.inr (Or.inr (Or.inr (Or.inr (Or.inr (Or.inr (Or.inr (by omega)))))))) (Ke.up (Or.inr (Or.inr (Or.inr (Or.inr (Or.inr (Or.inr (Or.inr (by omega)))))))) (Ke.up (Or.inr (Or.inr (Or.inr (Or.inr (Or.inr (Or.inr (Or.inr (by omega)))))))) Ke.rf)))))) k3), trivial⟩)
      · refine xr_bipush (v := 9) dX10_gained_125 rfl ?_
        refine xr_goto (tgt := 132) dX10_gained_127 rfl ?_
        exact xr_iret dX10_gained_132 rfl rfl (⟨_, rfl, rfl, rfl, (Ke.tr (fun pp kk => (fun hh => Or.elim hh (fun h => (Or.inl h)) (fun hh => Or.elim hh (fun h => (Or.inr (Or.inl h))) (fun hh => Or.elim hh (fun h => (Or.inr (Or.inr (Or.inl h)))) (fun hh => Or.elim hh (fun h => (Or.inr (Or.inr (Or.inr (Or.inl h))))) (fun h => (Or.inr (Or.inr (Or.inr (Or.inr (Or.inl h))))))))))) (Ke.up (Or.inr (Or.inr (Or.inr (Or.inr (Or.inr (Or.inr (Or.inr (by omega)))))))) (Ke.up (Or.inr (Or.inr (Or.inr (Or.inr (Or.inr (Or.inr (Or.inr (by omega)))))))) (Ke.up (Or.inr (Or.inr (Or.inr (Or.inr (Or.inr (Or.inr (Or.inr (by omega)))))))) (Ke.up (Or.inr (Or.inr (Or.inr (Or.inr (Or.inr (Or.inr (Or.inr (by omega)))))))) (Ke.up (Or.inr (Or.inr (Or.inr (Or.inr (Or.inr (Or.inr (Or.inr (by omega)))))))) (Ke.up (Or.inr (Or.inr (Or.inr (Or.inr (Or.inr (Or.inr (Or.inr (by omega)))))))) Ke.rf)))))) k3), trivial⟩)
    · refine xr_bipush (v := -9) dX10_gained_113 rfl ?_
      refine xr_goto (tgt := 132) dX10_gained_115 rfl ?_
      exact xr_iret dX10_gained_132 rfl rfl (⟨_, rfl, rfl, rfl, (Ke.tr (fun pp kk => (fun hh => Or.elim hh (fun h => (Or.inl h)) (fun hh => Or.elim hh (fun h => (Or.inr (Or.inl h))) (fun hh => Or.elim hh (fun h => (Or.inr (Or.inr (Or.inl h)))) (fun hh => Or.elim hh (fun h => (Or.inr (Or.inr (Or.inr (Or.inl h))))) (fun h => (Or.inr (Or.inr (Or.inr (Or.inr (Or.inl h))))))))))) (Ke.up (Or.inr (Or.inr (Or.inr (Or.inr (Or.inr (Or.inr (Or.inr (by omega)))))))) (Ke.up (Or.inr (Or.inr (Or.inr (Or.inr (Or.inr (Or.inr (Or.inr (by omega)))))))) (Ke.up (Or.inr (Or.inr (Or.inr (Or.inr (Or.inr (Or.inr (Or.inr (by omega)))))))) (Ke.up (Or.inr (Or.inr (Or.inr (Or.inr (Or.inr (Or.inr (Or.inr (by omega)))))))) (Ke.up (Or.inr (Or.inr (Or.inr (Or.inr (Or.inr (Or.inr (Or.inr (by omega)))))))) (Ke.up (Or.inr (Or.inr (Or.inr (Or.inr (Or.inr (Or.inr (Or.inr (by omega)))))))) Ke.rf)))))) k3), trivial⟩)
  · refine xr_iload_n dX10_gained_7 2 rfl ?_
    refine xr_iconst (v := 2) dX10_gained_8 rfl ?_
    refine xr_icmp_gt (tgt := 16) dX10_gained_9 rfl (fun c7 => ?_) (fun c7 => ?_)
    · refine xr_iload_n dX10_gained_16 2 rfl ?_
      refine xr_bipush (v := 10) dX10_gained_17 rfl ?_
      refine xr_icmp_lt (tgt := 26) dX10_gained_19 rfl (fun c8 => ?_) (fun c8 => ?_)
      · refine xr_iconst (v := 0) dX10_gained_26 rfl ?_
        exact xr_iret dX10_gained_27 rfl rfl (⟨_, rfl, rfl, rfl, Ke.rf, trivial⟩)
      · refine xr_iconst (v := -1) dX10_gained_22 rfl ?_
        refine xr_goto (tgt := 27) dX10_gained_23 rfl ?_
        exact xr_iret dX10_gained_27 rfl rfl (⟨_, rfl, rfl, rfl, Ke.rf, trivial⟩)
    · refine xr_iload_n dX10_gained_12 3 rfl ?_
      refine xr_goto (tgt := 27) dX10_gained_13 rfl ?_
      exact xr_iret dX10_gained_27 rfl rfl (⟨_, rfl, rfl, rfl, Ke.rf, trivial⟩)
set_option maxRecDepth 100000 in
set_option maxHeartbeats 4000000 in
theorem b1_l {se : Int32} {l : Launch} {G : xG} {M : xM} {J : xJ} {Q : xQ} {hn : Nat} (h_hn : hn ≤ 5) (e_hn : M 62 6 = nI hn) (hw : ∀ k, k < hn → M 63 (5 + k) ≠ 0) (hbt : M 63 16 ≠ 0) (htx : M 62 13 = -1 ∨ ∃ n : Nat, n ≤ 120 ∧ M 62 13 = nI n) (hC : ∀ (M2 : xM), Ke WR1 M M2 → x_X l G fX10_begins1 1 0 0 Q 79 [(1, .int (se)), (0, .ref (62))] [] x_SH M2 J 0 0) : ∀ (m k : Nat) (M1 : xM), k + m = hn → Ke WR1 M M1 → x_X l G fX10_begins1 1 0 0 Q 2 [(2, .int (nI (k))), (1, .int (se)), (0, .ref (62))] [] x_SH M1 J 0 0 := by
  intro m
  induction m with
  | zero =>
    intro k M1 hk hM
    refine xr_iload_n dX10_begins1_2 0 rfl ?_
    refine xr_aload_n dX10_begins1_3 2 rfl ?_
    refine xb_get (v := nI (hn)) flX10_109 dX10_begins1_4 s_62 rfl (Eq.trans (hM 62 6 (by decide)) e_hn) ?_
    refine xr_icmp_ge (tgt := 79) dX10_begins1_7 rfl (fun _ => ?_) (fun c => absurd (nI_le (a := hn) (b := k) (by omega) (by omega)) c)
    refine xb_ls (ls2 := [(1, .int (se)), (0, .ref (62))]) [1, 2] rfl ?_
    exact hC _ hM
  | succ m ih =>
    intro k M1 hk hM
    have hkN : k < hn := by omega
    refine xr_iload_n dX10_begins1_2 0 rfl ?_
    refine xr_aload_n dX10_begins1_3 2 rfl ?_
    refine xb_get (v := nI (hn)) flX10_109 dX10_begins1_4 s_62 rfl (Eq.trans (hM 62 6 (by decide)) e_hn) ?_
    refine xr_icmp_ge (tgt := 79) dX10_begins1_7 rfl (fun c => absurd c (nI_ge (a := k) (b := hn) (by omega) (by omega))) (fun _ => ?_)
    refine xr_aload_n dX10_begins1_10 2 rfl ?_
    refine xr_getR flX10_37 dX10_begins1_11 s_62 rfl ?_
    refine xr_iload_n dX10_begins1_14 0 rfl ?_
    refine xr_aload_n dX10_begins1_15 2 rfl ?_
    refine xr_getR flX10_22 dX10_begins1_16 s_62 rfl ?_
    refine xr_iload_n dX10_begins1_19 0 rfl ?_
    refine xb_iald (j := k) (v := M1 67 k) dX10_begins1_20 s_67 (by omega) (by decide) rfl ?_
    refine xb_iast (j := k) dX10_begins1_21 s_72 (by omega) (by decide) ?_
    refine xr_aload_n dX10_begins1_22 2 rfl ?_
    refine xr_getR flX10_40 dX10_begins1_23 s_62 rfl ?_
    refine xr_iload_n dX10_begins1_26 0 rfl ?_
    refine xr_iload_n dX10_begins1_27 1 rfl ?_
    refine xr_iload_n dX10_begins1_28 0 rfl ?_
    refine xr_callS (As := [.int (se), .int (nI (k))]) (rest := [.int (nI (k)), .ref (73)]) mlX10_214 (g_X10_isIn se (nI (k))) dX10_begins1_29 rfl rfl (Nat.le_of_ble_eq_true rfl) (by decide) ⟨by decide, by decide⟩ (fun v s2 M9 J2 hq => ?_)
    obtain ⟨r2, rfl, rfl, rfl, rfl, hx1⟩ := hq
    try dsimp only [Option.toList, List.cons_append, List.nil_append]
    refine xr_if_eq (tgt := 47) dX10_begins1_32 rfl (fun c3 => ?_) (fun c3 => ?_)
    · refine xr_iconst (v := 0) dX10_begins1_47 rfl ?_
      refine xb_iast (j := k) dX10_begins1_48 s_73 (by omega) (by decide) ?_
      refine xr_aload_n dX10_begins1_49 2 rfl ?_
      refine xr_getR flX10_43 dX10_begins1_50 s_62 rfl ?_
      refine xr_iload_n dX10_begins1_53 0 rfl ?_
      refine xr_iload_n dX10_begins1_54 1 rfl ?_
      refine xr_iload_n dX10_begins1_55 0 rfl ?_
      refine xr_callS (As := [.int (se), .int (nI (k))]) (rest := [.int (nI (k)), .ref (74)]) mlX10_214 (g_X10_isIn se (nI (k))) dX10_begins1_56 rfl rfl (Nat.le_of_ble_eq_true rfl) (by decide) ⟨by decide, by decide⟩ (fun v s2 M9 J2 hq => ?_)
      obtain ⟨r5, rfl, rfl, rfl, rfl, hx4⟩ := hq
      try dsimp only [Option.toList, List.cons_append, List.nil_append]
      refine xr_if_eq (tgt := 71) dX10_begins1_59 rfl (fun c6 => ?_) (fun c6 => ?_)
      · refine xr_iconst (v := 0) dX10_begins1_71 rfl ?_
        refine xb_iast (j := k) dX10_begins1_72 s_74 (by omega) (by decide) ?_
        refine xr_iinc (v := nI (k + 1)) (ls2 := [(2, .int (nI (k + 1))), (1, .int (se)), (0, .ref (62))]) dX10_begins1_73 0 rfl (nI_1 _) (by decide) rfl ?_
        refine xr_goto (tgt := 2) dX10_begins1_76 rfl ?_
        refine xb_ls (ls2 := [(2, .int (nI (k + 1))), (1, .int (se)), (0, .ref (62))]) [0, 1, 2] rfl ?_
        exact ih (k + 1) (x_up (x_up (x_up M1 72 k (M1 67 k)) 73 k 0) 74 k 0) (by omega) (Ke.up (Or.inr (Or.inr (Or.inr (Or.inr (Or.inr (Or.inr (Or.inr (by omega)))))))) (Ke.up (Or.inr (Or.inr (Or.inr (Or.inr (Or.inr (Or.inr (Or.inr (by omega)))))))) (Ke.up (Or.inr (Or.inr (Or.inr (Or.inr (Or.inr (Or.inr (Or.inr (by omega)))))))) hM)))
      · refine xr_aload_n dX10_begins1_62 2 rfl ?_
        refine xr_getR flX10_25 dX10_begins1_63 s_62 rfl ?_
        refine xr_iload_n dX10_begins1_66 0 rfl ?_
        refine xb_iald (j := k) (v := (x_up (x_up M1 72 k (M1 67 k)) 73 k 0) 68 k) dX10_begins1_67 s_68 (by omega) (by decide) rfl ?_
        refine xr_goto (tgt := 72) dX10_begins1_68 rfl ?_
        refine xb_iast (j := k) dX10_begins1_72 s_74 (by omega) (by decide) ?_
        refine xr_iinc (v := nI (k + 1)) (ls2 := [(2, .int (nI (k + 1))), (1, .int (se)), (0, .ref (62))]) dX10_begins1_73 0 rfl (nI_1 _) (by decide) rfl ?_
        refine xr_goto (tgt := 2) dX10_begins1_76 rfl ?_
        refine xb_ls (ls2 := [(2, .int (nI (k + 1))), (1, .int (se)), (0, .ref (62))]) [0, 1, 2] rfl ?_
        exact ih (k + 1) (x_up (x_up (x_up M1 72 k (M1 67 k)) 73 k 0) 74 k ((x_up (x_up M1 72 k (M1 67 k)) 73 k 0) 68 k)) (by omega) (Ke.up (Or.inr (Or.inr (Or.inr (Or.inr (Or.inr (Or.inr (Or.inr (by omega)))))))) (Ke.up (Or.inr (Or.inr (Or.inr (Or.inr (Or.inr (Or.inr (Or.inr (by omega)))))))) (Ke.up (Or.inr (Or.inr (Or.inr (Or.inr (Or.inr (Or.inr (Or.inr (by omega)))))))) hM)))
    · refine xr_aload_n dX10_begins1_35 2 rfl ?_
      refine xr_getR flX10_9 dX10_begins1_36 s_62 rfl ?_
      refine xr_bipush (v := 10) dX10_begins1_39 rfl ?_
      refine xr_iload_n dX10_begins1_41 0 rfl ?_
      refine xr_iadd dX10_begins1_42 ?_
      refine xb_top (y := nI (10 + k)) (nI_add (10) (k)) ?_
      refine xb_iald (j := 10 + k) (v := (x_up M1 72 k (M1 67 k)) 63 (10 + k)) dX10_begins1_43 s_63 (by omega) (by decide) rfl ?_
      refine xr_goto (tgt := 48) dX10_begins1_44 rfl ?_
      refine xb_iast (j := k) dX10_begins1_48 s_73 (by omega) (by decide) ?_
      refine xr_aload_n dX10_begins1_49 2 rfl ?_
      refine xr_getR flX10_43 dX10_begins1_50 s_62 rfl ?_
      refine xr_iload_n dX10_begins1_53 0 rfl ?_
      refine xr_iload_n dX10_begins1_54 1 rfl ?_
      refine xr_iload_n dX10_begins1_55 0 rfl ?_
      refine xr_callS (As := [.int (se), .int (nI (k))]) (rest := [.int (nI (k)), .ref (74)]) mlX10_214 (g_X10_isIn se (nI (k))) dX10_begins1_56 rfl rfl (Nat.le_of_ble_eq_true rfl) (by decide) ⟨by decide, by decide⟩ (fun v s2 M9 J2 hq => ?_)
      obtain ⟨r8, rfl, rfl, rfl, rfl, hx7⟩ := hq
      try dsimp only [Option.toList, List.cons_append, List.nil_append]
      refine xr_if_eq (tgt := 71) dX10_begins1_59 rfl (fun c9 => ?_) (fun c9 => ?_)
      · refine xr_iconst (v := 0) dX10_begins1_71 rfl ?_
        refine xb_iast (j := k) dX10_begins1_72 s_74 (by omega) (by decide) ?_
        refine xr_iinc (v := nI (k + 1)) (ls2 := [(2, .int (nI (k + 1))), (1, .int (se)), (0, .ref (62))]) dX10_begins1_73 0 rfl (nI_1 _) (by decide) rfl ?_
        refine xr_goto (tgt := 2) dX10_begins1_76 rfl ?_
        refine xb_ls (ls2 := [(2, .int (nI (k + 1))), (1, .int (se)), (0, .ref (62))]) [0, 1, 2] rfl ?_
        exact ih (k + 1) (x_up (x_up (x_up M1 72 k (M1 67 k)) 73 k ((x_up M1 72 k (M1 67 k)) 63 (10 + k))) 74 k 0) (by omega) (Ke.up (Or.inr (Or.inr (Or.inr (Or.inr (Or.inr (Or.inr (Or.inr (by omega)))))))) (Ke.up (Or.inr (Or.inr (Or.inr (Or.inr (Or.inr (Or.inr (Or.inr (by omega)))))))) (Ke.up (Or.inr (Or.inr (Or.inr (Or.inr (Or.inr (Or.inr (Or.inr (by omega)))))))) hM)))
      · refine xr_aload_n dX10_begins1_62 2 rfl ?_
        refine xr_getR flX10_25 dX10_begins1_63 s_62 rfl ?_
        refine xr_iload_n dX10_begins1_66 0 rfl ?_
        refine xb_iald (j := k) (v := (x_up (x_up M1 72 k (M1 67 k)) 73 k ((x_up M1 72 k (M1 67 k)) 63 (10 + k))) 68 k) dX10_begins1_67 s_68 (by omega) (by decide) rfl ?_
        refine xr_goto (tgt := 72) dX10_begins1_68 rfl ?_
        refine xb_iast (j := k) dX10_begins1_72 s_74 (by omega) (by decide) ?_
        refine xr_iinc (v := nI (k + 1)) (ls2 := [(2, .int (nI (k + 1))), (1, .int (se)), (0, .ref (62))]) dX10_begins1_73 0 rfl (nI_1 _) (by decide) rfl ?_
        refine xr_goto (tgt := 2) dX10_begins1_76 rfl ?_
        refine xb_ls (ls2 := [(2, .int (nI (k + 1))), (1, .int (se)), (0, .ref (62))]) [0, 1, 2] rfl ?_
        exact ih (k + 1) (x_up (x_up (x_up M1 72 k (M1 67 k)) 73 k ((x_up M1 72 k (M1 67 k)) 63 (10 + k))) 74 k ((x_up (x_up M1 72 k (M1 67 k)) 73 k ((x_up M1 72 k (M1 67 k)) 63 (10 + k))) 68 k)) (by omega) (Ke.up (Or.inr (Or.inr (Or.inr (Or.inr (Or.inr (Or.inr (Or.inr (by omega)))))))) (Ke.up (Or.inr (Or.inr (Or.inr (Or.inr (Or.inr (Or.inr (Or.inr (by omega)))))))) (Ke.up (Or.inr (Or.inr (Or.inr (Or.inr (Or.inr (Or.inr (Or.inr (by omega)))))))) hM)))
set_option maxRecDepth 100000 in
set_option maxHeartbeats 4000000 in
theorem g_X10_begins1 (se : Int32) {l : Launch} {G : xG} {M : xM} {J : xJ} {hn : Nat} (h_hn : hn ≤ 5) (e_hn : M 62 6 = nI hn) (hw : ∀ k, k < hn → M 63 (5 + k) ≠ 0) (hbt : M 63 16 ≠ 0) (htx : M 62 13 = -1 ∨ ∃ n : Nat, n ≤ 120 ∧ M 62 13 = nI n) : x_M l G fX10_begins1 1 0 0 [.ref (62), .int (se)] x_SH M J (qKV WR1 M J (fun M2 => True)) := by
  refine xb_of pX10 (Nat.le_of_ble_eq_true rfl) rfl ?_
  refine xr_iconst (v := 0) dX10_begins1_0 rfl ?_
  refine xr_istore_n (ls2 := [(2, .int (0)), (0, .ref (62)), (1, .int (se))]) dX10_begins1_1 (by decide) rfl ?_
  refine xb_ls (ls2 := [(2, .int (nI (0))), (1, .int (se)), (0, .ref (62))]) [0, 2, 1] rfl ?_
  refine b1_l h_hn e_hn (fun kw hkw => by rw [show M 63 (5 + kw) = M 63 (5 + kw) from rfl]; exact hw kw hkw) (by rw [show M 63 16 = M 63 16 from rfl]; exact hbt) (by rw [show M 62 13 = M 62 13 from rfl]; exact htx) (fun M1 k2 => ?_) (hn - 0) 0 M (by omega) Ke.rf
  exact xr_vret dX10_begins1_79 rfl (⟨rfl, rfl, rfl, (Ke.tr (fun _ _ h => h) Ke.rf k2), trivial⟩)
set_option maxRecDepth 100000 in
set_option maxHeartbeats 4000000 in
theorem ps_l {st to : Int32} {l : Launch} {G : xG} {M : xM} {J : xJ} {Q : xQ} {hn : Nat} (h_hn : hn ≤ 5) (e_hn : M 62 6 = nI hn) (hw : ∀ k, k < hn → M 63 (5 + k) ≠ 0) (hbt : M 63 16 ≠ 0) (htx : M 62 13 = -1 ∨ ∃ n : Nat, n ≤ 120 ∧ M 62 13 = nI n) (hC : ∀ (M2 : xM), Ke WR1 M M2 → x_X l G fX10_pushes 60 0 0 Q 76 [(2, .int (st)), (1, .int (to)), (0, .ref (62))] [] x_SH M2 J 0 0) : ∀ (m k : Nat) (M1 : xM), k + m = hn → Ke WR1 M M1 → x_X l G fX10_pushes 60 0 0 Q 2 [(3, .int (nI (k))), (2, .int (st)), (1, .int (to)), (0, .ref (62))] [] x_SH M1 J 0 0 := by
  intro m
  induction m with
  | zero =>
    intro k M1 hk hM
    refine xr_iload_n dX10_pushes_2 0 rfl ?_
    refine xr_aload_n dX10_pushes_3 3 rfl ?_
    refine xb_get (v := nI (hn)) flX10_109 dX10_pushes_4 s_62 rfl (Eq.trans (hM 62 6 (by decide)) e_hn) ?_
    refine xr_icmp_ge (tgt := 76) dX10_pushes_7 rfl (fun _ => ?_) (fun c => absurd (nI_le (a := hn) (b := k) (by omega) (by omega)) c)
    refine xb_ls (ls2 := [(2, .int (st)), (1, .int (to)), (0, .ref (62))]) [1, 2, 3] rfl ?_
    exact hC _ hM
  | succ m ih =>
    intro k M1 hk hM
    have hkN : k < hn := by omega
    refine xr_iload_n dX10_pushes_2 0 rfl ?_
    refine xr_aload_n dX10_pushes_3 3 rfl ?_
    refine xb_get (v := nI (hn)) flX10_109 dX10_pushes_4 s_62 rfl (Eq.trans (hM 62 6 (by decide)) e_hn) ?_
    refine xr_icmp_ge (tgt := 76) dX10_pushes_7 rfl (fun c => absurd c (nI_ge (a := k) (b := hn) (by omega) (by omega))) (fun _ => ?_)
    refine xr_aload_n dX10_pushes_10 3 rfl ?_
    refine xr_getR flX10_43 dX10_pushes_11 s_62 rfl ?_
    refine xr_iload_n dX10_pushes_14 0 rfl ?_
    refine xb_iald (j := k) (v := M1 74 k) dX10_pushes_15 s_74 (by omega) (by decide) rfl ?_
    refine xr_if_le (tgt := 70) dX10_pushes_16 rfl (fun c1 => ?_) (fun c1 => ?_)
    · refine xr_iinc (v := nI (k + 1)) (ls2 := [(3, .int (nI (k + 1))), (2, .int (st)), (1, .int (to)), (0, .ref (62))]) dX10_pushes_70 0 rfl (nI_1 _) (by decide) rfl ?_
      refine xr_goto (tgt := 2) dX10_pushes_73 rfl ?_
      refine xb_ls (ls2 := [(3, .int (nI (k + 1))), (2, .int (st)), (1, .int (to)), (0, .ref (62))]) [0, 1, 2, 3] rfl ?_
      exact ih (k + 1) M1 (by omega) hM
    · refine xr_aload_n dX10_pushes_19 3 rfl ?_
      refine xr_getR flX10_37 dX10_pushes_20 s_62 rfl ?_
      refine xr_iload_n dX10_pushes_23 0 rfl ?_
      refine xb_iald (j := k) (v := M1 72 k) dX10_pushes_24 s_72 (by omega) (by decide) rfl ?_
      refine xr_iload_n dX10_pushes_25 2 rfl ?_
      refine xr_isub dX10_pushes_26 ?_
      refine xb_cS (As := [.int (((M1 72 k) - to))]) (rest := []) mlX10_218 (c_X10_sizeOf ((M1 72 k) - to)) dX10_pushes_27 rfl rfl (Nat.le_of_ble_eq_true rfl) (by decide) (by decide) ?_
      refine xr_istore (ls2 := [(4, .int ((if 0 ≤ ((M1 72 k) - to) then ((M1 72 k) - to) else -((M1 72 k) - to)))), (3, .int (nI (k))), (2, .int (st)), (1, .int (to)), (0, .ref (62))]) dX10_pushes_30 (by decide) rfl ?_
      refine xr_aload_n dX10_pushes_32 4 rfl ?_
      refine xr_iload_n dX10_pushes_33 1 rfl ?_
      refine xr_aload_n dX10_pushes_34 4 rfl ?_
      refine xr_getR flX10_40 dX10_pushes_35 s_62 rfl ?_
      refine xr_iload_n dX10_pushes_38 1 rfl ?_
      refine xb_iald (j := k) (v := M1 73 k) dX10_pushes_39 s_73 (by omega) (by decide) rfl ?_
      refine xb_cS (As := [.int (M1 73 k)]) (rest := [.int (nI (k)), .ref (62)]) mlX10_218 (c_X10_sizeOf (M1 73 k)) dX10_pushes_40 rfl rfl (Nat.le_of_ble_eq_true rfl) (by decide) (by decide) ?_
      refine xr_aload_n dX10_pushes_43 4 rfl ?_
      refine xr_iload_n dX10_pushes_44 1 rfl ?_
      refine xr_iload dX10_pushes_45 0 rfl ?_
      refine xr_bipush (v := 12) dX10_pushes_47 rfl ?_
      refine xr_icmp_le (tgt := 60) dX10_pushes_49 rfl (fun c2 => ?_) (fun c2 => ?_)
      · refine xr_iload dX10_pushes_60 0 rfl ?_
        refine xr_iload_n dX10_pushes_62 2 rfl ?_
        refine xr_callV (As := [.int (nI (k)), .int ((if 0 ≤ ((M1 72 k) - to) then ((M1 72 k) - to) else -((M1 72 k) - to))), .int (st)]) (rest := [.int ((if 0 ≤ (M1 73 k) then (M1 73 k) else -(M1 73 k))), .int (nI (k)), .ref (62)]) mlX10_221 (g_X10_gained (h := k) (by omega) (if 0 ≤ ((M1 72 k) - to) then ((M1 72 k) - to) else -((M1 72 k) - to)) st h_hn (Eq.trans (hM 62 6 (by decide)) e_hn) (fun kw hkw => by rw [show M1 63 (5 + kw) = M 63 (5 + kw) from (Eq.trans (hM 63 (5 + kw) (by unfold WR1; omega)) rfl)]; exact hw kw hkw) (by rw [show M1 63 16 = M 63 16 from (Eq.trans (hM 63 16 (by unfold WR1; omega)) rfl)]; exact hbt) (by rw [show M1 62 13 = M 62 13 from (Eq.trans (hM 62 13 (by unfold WR1; omega)) rfl)]; exact htx)) dX10_pushes_63 s_62 rfl rfl (Nat.le_of_ble_eq_true rfl) (by decide) ⟨by decide, by decide⟩ (fun v s2 M3 J2 hq => ?_)
        obtain ⟨r5, rfl, rfl, rfl, k4, _⟩ := hq
        try dsimp only [Option.toList, List.cons_append, List.nil_append]
        refine xr_iadd dX10_pushes_66 ?_
        refine xr_callV (As := [.int (nI (k)), .int (((if 0 ≤ (M1 73 k) then (M1 73 k) else -(M1 73 k)) + r5))]) (rest := []) mlX10_225 (g_X10_becomesPace (h := k) (by omega) ((if 0 ≤ (M1 73 k) then (M1 73 k) else -(M1 73 k)) + r5)) dX10_pushes_67 s_62 rfl rfl (Nat.le_of_ble_eq_true rfl) (by decide) ⟨by decide, by decide⟩ (fun v s2 M6 J2 hq => ?_)
        obtain ⟨rfl, rfl, rfl, k7, _⟩ := hq
        try dsimp only [Option.toList, List.cons_append, List.nil_append]
        refine xr_iinc (v := nI (k + 1)) (ls2 := [(3, .int (nI (k + 1))), (4, .int ((if 0 ≤ ((M1 72 k) - to) then ((M1 72 k) - to) else -((M1 72 k) - to)))), (2, .int (st)), (1, .int (to)), (0, .ref (62))]) dX10_pushes_70 1 rfl (nI_1 _) (by decide) rfl ?_
        refine xr_goto (tgt := 2) dX10_pushes_73 rfl ?_
        refine xb_ls (ls2 := [(3, .int (nI (k + 1))), (2, .int (st)), (1, .int (to)), (0, .ref (62))]) [0, 2, 3, 4] rfl ?_
        exact ih (k + 1) M6 (by omega) (Ke.tr (fun _ _ h => h) (Ke.tr (fun _ _ h => h) hM k4) k7)
      · refine xr_bipush (v := 24) dX10_pushes_52 rfl ?_
        refine xr_iload dX10_pushes_54 0 rfl ?_
        refine xr_isub dX10_pushes_56 ?_
        refine xr_goto (tgt := 62) dX10_pushes_57 rfl ?_
        refine xr_iload_n dX10_pushes_62 2 rfl ?_
        refine xr_callV (As := [.int (nI (k)), .int ((24 - (if 0 ≤ ((M1 72 k) - to) then ((M1 72 k) - to) else -((M1 72 k) - to)))), .int (st)]) (rest := [.int ((if 0 ≤ (M1 73 k) then (M1 73 k) else -(M1 73 k))), .int (nI (k)), .ref (62)]) mlX10_221 (g_X10_gained (h := k) (by omega) (24 - (if 0 ≤ ((M1 72 k) - to) then ((M1 72 k) - to) else -((M1 72 k) - to))) st h_hn (Eq.trans (hM 62 6 (by decide)) e_hn) (fun kw hkw => by rw [show M1 63 (5 + kw) = M 63 (5 + kw) from (Eq.trans (hM 63 (5 + kw) (by unfold WR1; omega)) rfl)]; exact hw kw hkw) (by rw [show M1 63 16 = M 63 16 from (Eq.trans (hM 63 16 (by unfold WR1; omega)) rfl)]; exact hbt) (by rw [show M1 62 13 = M 62 13 from (Eq.trans (hM 62 13 (by unfold WR1; omega)) rfl)]; exact htx)) dX10_pushes_63 s_62 rfl rfl (Nat.le_of_ble_eq_true rfl) (by decide) ⟨by decide, by decide⟩ (fun v s2 M8 J2 hq => ?_)
        obtain ⟨r10, rfl, rfl, rfl, k9, _⟩ := hq
        try dsimp only [Option.toList, List.cons_append, List.nil_append]
        refine xr_iadd dX10_pushes_66 ?_
        refine xr_callV (As := [.int (nI (k)), .int (((if 0 ≤ (M1 73 k) then (M1 73 k) else -(M1 73 k)) + r10))]) (rest := []) mlX10_225 (g_X10_becomesPace (h := k) (by omega) ((if 0 ≤ (M1 73 k) then (M1 73 k) else -(M1 73 k)) + r10)) dX10_pushes_67 s_62 rfl rfl (Nat.le_of_ble_eq_true rfl) (by decide) ⟨by decide, by decide⟩ (fun v s2 M11 J2 hq => ?_)
        obtain ⟨rfl, rfl, rfl, k12, _⟩ := hq
        try dsimp only [Option.toList, List.cons_append, List.nil_append]
        refine xr_iinc (v := nI (k + 1)) (ls2 := [(3, .int (nI (k + 1))), (4, .int ((if 0 ≤ ((M1 72 k) - to) then ((M1 72 k) - to) else -((M1 72 k) - to)))), (2, .int (st)), (1, .int (to)), (0, .ref (62))]) dX10_pushes_70 1 rfl (nI_1 _) (by decide) rfl ?_
        refine xr_goto (tgt := 2) dX10_pushes_73 rfl ?_
        refine xb_ls (ls2 := [(3, .int (nI (k + 1))), (2, .int (st)), (1, .int (to)), (0, .ref (62))]) [0, 2, 3, 4] rfl ?_
        exact ih (k + 1) M11 (by omega) (Ke.tr (fun _ _ h => h) (Ke.tr (fun _ _ h => h) hM k9) k12)
set_option maxRecDepth 100000 in
set_option maxHeartbeats 4000000 in
theorem g_X10_pushes (to st : Int32) {l : Launch} {G : xG} {M : xM} {J : xJ} {hn : Nat} (h_hn : hn ≤ 5) (e_hn : M 62 6 = nI hn) (hw : ∀ k, k < hn → M 63 (5 + k) ≠ 0) (hbt : M 63 16 ≠ 0) (htx : M 62 13 = -1 ∨ ∃ n : Nat, n ≤ 120 ∧ M 62 13 = nI n) : x_M l G fX10_pushes 60 0 0 [.ref (62), .int (to), .int (st)] x_SH M J (qKV WR1 M J (fun M2 => True)) := by
  refine xb_of pX10 (Nat.le_of_ble_eq_true rfl) rfl ?_
  refine xr_iconst (v := 0) dX10_pushes_0 rfl ?_
  refine xr_istore_n (ls2 := [(3, .int (0)), (0, .ref (62)), (1, .int (to)), (2, .int (st))]) dX10_pushes_1 (by decide) rfl ?_
  refine xb_ls (ls2 := [(3, .int (nI (0))), (2, .int (st)), (1, .int (to)), (0, .ref (62))]) [0, 3, 2, 1] rfl ?_
  refine ps_l h_hn e_hn (fun kw hkw => by rw [show M 63 (5 + kw) = M 63 (5 + kw) from rfl]; exact hw kw hkw) (by rw [show M 63 16 = M 63 16 from rfl]; exact hbt) (by rw [show M 62 13 = M 62 13 from rfl]; exact htx) (fun M1 k2 => ?_) (hn - 0) 0 M (by omega) Ke.rf
  exact xr_vret dX10_pushes_76 rfl (⟨rfl, rfl, rfl, (Ke.tr (fun _ _ h => h) Ke.rf k2), trivial⟩)
set_option maxRecDepth 100000 in
set_option maxHeartbeats 4000000 in
theorem t1_l {ti : Int32} {l : Launch} {G : xG} {M : xM} {J : xJ} {Q : xQ} {hn : Nat} (h_hn : hn ≤ 5) (e_hn : M 62 6 = nI hn) (hw : ∀ k, k < hn → M 63 (5 + k) ≠ 0) (hbt : M 63 16 ≠ 0) (htx : M 62 13 = -1 ∨ ∃ n : Nat, n ≤ 120 ∧ M 62 13 = nI n) (hC : ∀ (M2 : xM), Ke WR1 M M2 → x_X l G fX10_turns 1 0 0 Q 87 [(1, .int (ti)), (0, .ref (62))] [] x_SH M2 J 0 0) : ∀ (m k : Nat) (M1 : xM), k + m = hn → Ke WR1 M M1 → x_X l G fX10_turns 1 0 0 Q 2 [(2, .int (nI (k))), (1, .int (ti)), (0, .ref (62))] [] x_SH M1 J 0 0 := by
  intro m
  induction m with
  | zero =>
    intro k M1 hk hM
    refine xr_iload_n dX10_turns_2 0 rfl ?_
    refine xr_aload_n dX10_turns_3 2 rfl ?_
    refine xb_get (v := nI (hn)) flX10_109 dX10_turns_4 s_62 rfl (Eq.trans (hM 62 6 (by decide)) e_hn) ?_
    refine xr_icmp_ge (tgt := 87) dX10_turns_7 rfl (fun _ => ?_) (fun c => absurd (nI_le (a := hn) (b := k) (by omega) (by omega)) c)
    refine xb_ls (ls2 := [(1, .int (ti)), (0, .ref (62))]) [1, 2] rfl ?_
    exact hC _ hM
  | succ m ih =>
    intro k M1 hk hM
    have hkN : k < hn := by omega
    refine xr_iload_n dX10_turns_2 0 rfl ?_
    refine xr_aload_n dX10_turns_3 2 rfl ?_
    refine xb_get (v := nI (hn)) flX10_109 dX10_turns_4 s_62 rfl (Eq.trans (hM 62 6 (by decide)) e_hn) ?_
    refine xr_icmp_ge (tgt := 87) dX10_turns_7 rfl (fun c => absurd c (nI_ge (a := k) (b := hn) (by omega) (by omega))) (fun _ => ?_)
    refine xr_aload_n dX10_turns_10 2 rfl ?_
    refine xr_getR flX10_43 dX10_turns_11 s_62 rfl ?_
    refine xr_iload_n dX10_turns_14 0 rfl ?_
    refine xb_iald (j := k) (v := M1 74 k) dX10_turns_15 s_74 (by omega) (by decide) rfl ?_
    refine xr_if_le (tgt := 81) dX10_turns_16 rfl (fun c1 => ?_) (fun c1 => ?_)
    · refine xr_iinc (v := nI (k + 1)) (ls2 := [(2, .int (nI (k + 1))), (1, .int (ti)), (0, .ref (62))]) dX10_turns_81 0 rfl (nI_1 _) (by decide) rfl ?_
      refine xr_goto (tgt := 2) dX10_turns_84 rfl ?_
      refine xb_ls (ls2 := [(2, .int (nI (k + 1))), (1, .int (ti)), (0, .ref (62))]) [0, 1, 2] rfl ?_
      exact ih (k + 1) M1 (by omega) hM
    · refine xr_iload_n dX10_turns_19 1 rfl ?_
      refine xr_iconst (v := 1) dX10_turns_20 rfl ?_
      refine xr_iadd dX10_turns_21 ?_
      refine xr_aload_n dX10_turns_22 2 rfl ?_
      refine xr_getR flX10_9 dX10_turns_23 s_62 rfl ?_
      refine xr_iconst (v := 5) dX10_turns_26 rfl ?_
      refine xr_iload_n dX10_turns_27 0 rfl ?_
      refine xr_iadd dX10_turns_28 ?_
      refine xb_top (y := nI (5 + k)) (nI_add (5) (k)) ?_
      refine xb_iald (j := 5 + k) (v := M1 63 (5 + k)) dX10_turns_29 s_63 (by omega) (by decide) rfl ?_
      refine xr_irem dX10_turns_30 (show M1 63 (5 + k) ≠ 0 by rw [show M1 63 (5 + k) = M 63 (5 + k) from (Eq.trans (hM 63 (5 + k) (by unfold WR1; omega)) rfl)]; exact hw k (by omega)) ?_
      refine xr_if_ne (tgt := 56) dX10_turns_31 rfl (fun c2 => ?_) (fun c2 => ?_)
      · refine xr_aload_n dX10_turns_56 2 rfl ?_
        refine xr_getR flX10_37 dX10_turns_57 s_62 rfl ?_
        refine xr_iload_n dX10_turns_60 0 rfl ?_
        refine xr_aload_n dX10_turns_61 2 rfl ?_
        refine xr_getR flX10_37 dX10_turns_62 s_62 rfl ?_
        refine xr_iload_n dX10_turns_65 0 rfl ?_
        refine xb_iald (j := k) (v := M1 72 k) dX10_turns_66 s_72 (by omega) (by decide) rfl ?_
        refine xr_aload_n dX10_turns_67 2 rfl ?_
        refine xr_getR flX10_40 dX10_turns_68 s_62 rfl ?_
        refine xr_iload_n dX10_turns_71 0 rfl ?_
        refine xb_iald (j := k) (v := M1 73 k) dX10_turns_72 s_73 (by omega) (by decide) rfl ?_
        refine xr_iadd dX10_turns_73 ?_
        refine xr_bipush (v := 24) dX10_turns_74 rfl ?_
        refine xr_iadd dX10_turns_76 ?_
        refine xr_bipush (v := 24) dX10_turns_77 rfl ?_
        refine xr_irem dX10_turns_79 (by decide) ?_
        refine xb_iast (j := k) dX10_turns_80 s_72 (by omega) (by decide) ?_
        refine xr_iinc (v := nI (k + 1)) (ls2 := [(2, .int (nI (k + 1))), (1, .int (ti)), (0, .ref (62))]) dX10_turns_81 0 rfl (nI_1 _) (by decide) rfl ?_
        refine xr_goto (tgt := 2) dX10_turns_84 rfl ?_
        refine xb_ls (ls2 := [(2, .int (nI (k + 1))), (1, .int (ti)), (0, .ref (62))]) [0, 1, 2] rfl ?_
        exact ih (k + 1) (x_up M1 72 k ((((M1 72 k) + (M1 73 k)) + 24) - (((M1 72 k) + (M1 73 k)) + 24) / 24 * 24)) (by omega) (Ke.up (Or.inr (Or.inr (Or.inr (Or.inr (Or.inr (Or.inr (Or.inr (by omega)))))))) hM)
      · refine xr_aload_n dX10_turns_34 2 rfl ?_
        refine xr_iload_n dX10_turns_35 0 rfl ?_
        refine xr_aload_n dX10_turns_36 2 rfl ?_
        refine xr_getR flX10_40 dX10_turns_37 s_62 rfl ?_
        refine xr_iload_n dX10_turns_40 0 rfl ?_
        refine xb_iald (j := k) (v := M1 73 k) dX10_turns_41 s_73 (by omega) (by decide) rfl ?_
        refine xb_cS (As := [.int (M1 73 k)]) (rest := [.int (nI (k)), .ref (62)]) mlX10_218 (c_X10_sizeOf (M1 73 k)) dX10_turns_42 rfl rfl (Nat.le_of_ble_eq_true rfl) (by decide) (by decide) ?_
        refine xr_aload_n dX10_turns_45 2 rfl ?_
        refine xr_getR flX10_9 dX10_turns_46 s_62 rfl ?_
        refine xr_bipush (v := 15) dX10_turns_49 rfl ?_
        refine xb_iald (j := 15) (v := M1 63 15) dX10_turns_51 s_63 (by decide) (by decide) rfl ?_
        refine xr_isub dX10_turns_52 ?_
        refine xr_callV (As := [.int (nI (k)), .int (((if 0 ≤ (M1 73 k) then (M1 73 k) else -(M1 73 k)) - (M1 63 15)))]) (rest := []) mlX10_225 (g_X10_becomesPace (h := k) (by omega) ((if 0 ≤ (M1 73 k) then (M1 73 k) else -(M1 73 k)) - (M1 63 15))) dX10_turns_53 s_62 rfl rfl (Nat.le_of_ble_eq_true rfl) (by decide) ⟨by decide, by decide⟩ (fun v s2 M3 J2 hq => ?_)
        obtain ⟨rfl, rfl, rfl, k4, _⟩ := hq
        try dsimp only [Option.toList, List.cons_append, List.nil_append]
        refine xr_aload_n dX10_turns_56 2 rfl ?_
        refine xr_getR flX10_37 dX10_turns_57 s_62 rfl ?_
        refine xr_iload_n dX10_turns_60 0 rfl ?_
        refine xr_aload_n dX10_turns_61 2 rfl ?_
        refine xr_getR flX10_37 dX10_turns_62 s_62 rfl ?_
        refine xr_iload_n dX10_turns_65 0 rfl ?_
        refine xb_iald (j := k) (v := M3 72 k) dX10_turns_66 s_72 (by omega) (by decide) rfl ?_
        refine xr_aload_n dX10_turns_67 2 rfl ?_
        refine xr_getR flX10_40 dX10_turns_68 s_62 rfl ?_
        refine xr_iload_n dX10_turns_71 0 rfl ?_
        refine xb_iald (j := k) (v := M3 73 k) dX10_turns_72 s_73 (by omega) (by decide) rfl ?_
        refine xr_iadd dX10_turns_73 ?_
        refine xr_bipush (v := 24) dX10_turns_74 rfl ?_
        refine xr_iadd dX10_turns_76 ?_
        refine xr_bipush (v := 24) dX10_turns_77 rfl ?_
        refine xr_irem dX10_turns_79 (by decide) ?_
        refine xb_iast (j := k) dX10_turns_80 s_72 (by omega) (by decide) ?_
        refine xr_iinc (v := nI (k + 1)) (ls2 := [(2, .int (nI (k + 1))), (1, .int (ti)), (0, .ref (62))]) dX10_turns_81 0 rfl (nI_1 _) (by decide) rfl ?_
        refine xr_goto (tgt := 2) dX10_turns_84 rfl ?_
        refine xb_ls (ls2 := [(2, .int (nI (k + 1))), (1, .int (ti)), (0, .ref (62))]) [0, 1, 2] rfl ?_
        exact ih (k + 1) (x_up M3 72 k ((((M3 72 k) + (M3 73 k)) + 24) - (((M3 72 k) + (M3 73 k)) + 24) / 24 * 24)) (by omega) (Ke.up (Or.inr (Or.inr (Or.inr (Or.inr (Or.inr (Or.inr (Or.inr (by omega)))))))) (Ke.tr (fun _ _ h => h) hM k4))
set_option maxRecDepth 100000 in
set_option maxHeartbeats 4000000 in
theorem tj_l {ti : Int32} {a : Nat} (ha : a < 5) {l : Launch} {G : xG} {M : xM} {J : xJ} {Q : xQ} {hn : Nat} (h_hn : hn ≤ 5) (e_hn : M 62 6 = nI hn) (hw : ∀ k, k < hn → M 63 (5 + k) ≠ 0) (hbt : M 63 16 ≠ 0) (htx : M 62 13 = -1 ∨ ∃ n : Nat, n ≤ 120 ∧ M 62 13 = nI n) (hC : ∀ (M2 : xM), Ke WR1 M M2 → x_X l G fX10_turns 1 0 0 Q 180 [(2, .int (nI (a))), (1, .int (ti)), (0, .ref (62))] [] x_SH M2 J 0 0) : ∀ (m k : Nat) (M1 : xM), k + m = hn → Ke WR1 M M1 → x_X l G fX10_turns 1 0 0 Q 101 [(3, .int (nI (k))), (2, .int (nI (a))), (1, .int (ti)), (0, .ref (62))] [] x_SH M1 J 0 0 := by
  intro m
  induction m with
  | zero =>
    intro k M1 hk hM
    refine xr_iload_n dX10_turns_101 0 rfl ?_
    refine xr_aload_n dX10_turns_102 3 rfl ?_
    refine xb_get (v := nI (hn)) flX10_109 dX10_turns_103 s_62 rfl (Eq.trans (hM 62 6 (by decide)) e_hn) ?_
    refine xr_icmp_ge (tgt := 180) dX10_turns_106 rfl (fun _ => ?_) (fun c => absurd (nI_le (a := hn) (b := k) (by omega) (by omega)) c)
    refine xb_ls (ls2 := [(2, .int (nI (a))), (1, .int (ti)), (0, .ref (62))]) [1, 2, 3] rfl ?_
    exact hC _ hM
  | succ m ih =>
    intro k M1 hk hM
    have hkN : k < hn := by omega
    refine xr_iload_n dX10_turns_101 0 rfl ?_
    refine xr_aload_n dX10_turns_102 3 rfl ?_
    refine xb_get (v := nI (hn)) flX10_109 dX10_turns_103 s_62 rfl (Eq.trans (hM 62 6 (by decide)) e_hn) ?_
    refine xr_icmp_ge (tgt := 180) dX10_turns_106 rfl (fun c => absurd c (nI_ge (a := k) (b := hn) (by omega) (by omega))) (fun _ => ?_)
    refine xr_aload_n dX10_turns_109 3 rfl ?_
    refine xr_getR flX10_43 dX10_turns_110 s_62 rfl ?_
    refine xr_iload_n dX10_turns_113 1 rfl ?_
    refine xb_iald (j := a) (v := M1 74 a) dX10_turns_114 s_74 (by omega) (by decide) rfl ?_
    refine xr_if_le (tgt := 174) dX10_turns_115 rfl (fun c1 => ?_) (fun c1 => ?_)
    · refine xr_iinc (v := nI (k + 1)) (ls2 := [(3, .int (nI (k + 1))), (2, .int (nI (a))), (1, .int (ti)), (0, .ref (62))]) dX10_turns_174 0 rfl (nI_1 _) (by decide) rfl ?_
      refine xr_goto (tgt := 101) dX10_turns_177 rfl ?_
      refine xb_ls (ls2 := [(3, .int (nI (k + 1))), (2, .int (nI (a))), (1, .int (ti)), (0, .ref (62))]) [0, 1, 2, 3] rfl ?_
      exact ih (k + 1) M1 (by omega) hM
    · refine xr_aload_n dX10_turns_118 3 rfl ?_
      refine xr_getR flX10_43 dX10_turns_119 s_62 rfl ?_
      refine xr_iload_n dX10_turns_122 0 rfl ?_
      refine xb_iald (j := k) (v := M1 74 k) dX10_turns_123 s_74 (by omega) (by decide) rfl ?_
      refine xr_if_le (tgt := 174) dX10_turns_124 rfl (fun c2 => ?_) (fun c2 => ?_)
      · refine xr_iinc (v := nI (k + 1)) (ls2 := [(3, .int (nI (k + 1))), (2, .int (nI (a))), (1, .int (ti)), (0, .ref (62))]) dX10_turns_174 0 rfl (nI_1 _) (by decide) rfl ?_
        refine xr_goto (tgt := 101) dX10_turns_177 rfl ?_
        refine xb_ls (ls2 := [(3, .int (nI (k + 1))), (2, .int (nI (a))), (1, .int (ti)), (0, .ref (62))]) [0, 1, 2, 3] rfl ?_
        exact ih (k + 1) M1 (by omega) hM
      · refine xr_aload_n dX10_turns_127 3 rfl ?_
        refine xr_getR flX10_37 dX10_turns_128 s_62 rfl ?_
        refine xr_iload_n dX10_turns_131 1 rfl ?_
        refine xb_iald (j := a) (v := M1 72 a) dX10_turns_132 s_72 (by omega) (by decide) rfl ?_
        refine xr_aload_n dX10_turns_133 3 rfl ?_
        refine xr_getR flX10_37 dX10_turns_134 s_62 rfl ?_
        refine xr_iload_n dX10_turns_137 0 rfl ?_
        refine xb_iald (j := k) (v := M1 72 k) dX10_turns_138 s_72 (by omega) (by decide) rfl ?_
        refine xr_icmp_ne (tgt := 174) dX10_turns_139 rfl (fun c3 => ?_) (fun c3 => ?_)
        · refine xr_iinc (v := nI (k + 1)) (ls2 := [(3, .int (nI (k + 1))), (2, .int (nI (a))), (1, .int (ti)), (0, .ref (62))]) dX10_turns_174 0 rfl (nI_1 _) (by decide) rfl ?_
          refine xr_goto (tgt := 101) dX10_turns_177 rfl ?_
          refine xb_ls (ls2 := [(3, .int (nI (k + 1))), (2, .int (nI (a))), (1, .int (ti)), (0, .ref (62))]) [0, 1, 2, 3] rfl ?_
          exact ih (k + 1) M1 (by omega) hM
        · refine xr_aload_n dX10_turns_142 3 rfl ?_
          refine xr_iload_n dX10_turns_143 1 rfl ?_
          refine xr_aload_n dX10_turns_144 3 rfl ?_
          refine xr_getR flX10_40 dX10_turns_145 s_62 rfl ?_
          refine xr_iload_n dX10_turns_148 1 rfl ?_
          refine xb_iald (j := a) (v := M1 73 a) dX10_turns_149 s_73 (by omega) (by decide) rfl ?_
          refine xb_cS (As := [.int (M1 73 a)]) (rest := [.int (nI (a)), .ref (62)]) mlX10_218 (c_X10_sizeOf (M1 73 a)) dX10_turns_150 rfl rfl (Nat.le_of_ble_eq_true rfl) (by decide) (by decide) ?_
          refine xr_iconst (v := 1) dX10_turns_153 rfl ?_
          refine xr_isub dX10_turns_154 ?_
          refine xr_callV (As := [.int (nI (a)), .int (((if 0 ≤ (M1 73 a) then (M1 73 a) else -(M1 73 a)) - 1))]) (rest := []) mlX10_225 (g_X10_becomesPace (h := a) (by omega) ((if 0 ≤ (M1 73 a) then (M1 73 a) else -(M1 73 a)) - 1)) dX10_turns_155 s_62 rfl rfl (Nat.le_of_ble_eq_true rfl) (by decide) ⟨by decide, by decide⟩ (fun v s2 M4 J2 hq => ?_)
          obtain ⟨rfl, rfl, rfl, k5, _⟩ := hq
          try dsimp only [Option.toList, List.cons_append, List.nil_append]
          refine xr_aload_n dX10_turns_158 3 rfl ?_
          refine xr_iload_n dX10_turns_159 0 rfl ?_
          refine xr_aload_n dX10_turns_160 3 rfl ?_
          refine xr_getR flX10_40 dX10_turns_161 s_62 rfl ?_
          refine xr_iload_n dX10_turns_164 0 rfl ?_
          refine xb_iald (j := k) (v := M4 73 k) dX10_turns_165 s_73 (by omega) (by decide) rfl ?_
          refine xb_cS (As := [.int (M4 73 k)]) (rest := [.int (nI (k)), .ref (62)]) mlX10_218 (c_X10_sizeOf (M4 73 k)) dX10_turns_166 rfl rfl (Nat.le_of_ble_eq_true rfl) (by decide) (by decide) ?_
          refine xr_iconst (v := 1) dX10_turns_169 rfl ?_
          refine xr_isub dX10_turns_170 ?_
          refine xr_callV (As := [.int (nI (k)), .int (((if 0 ≤ (M4 73 k) then (M4 73 k) else -(M4 73 k)) - 1))]) (rest := []) mlX10_225 (g_X10_becomesPace (h := k) (by omega) ((if 0 ≤ (M4 73 k) then (M4 73 k) else -(M4 73 k)) - 1)) dX10_turns_171 s_62 rfl rfl (Nat.le_of_ble_eq_true rfl) (by decide) ⟨by decide, by decide⟩ (fun v s2 M6 J2 hq => ?_)
          obtain ⟨rfl, rfl, rfl, k7, _⟩ := hq
          try dsimp only [Option.toList, List.cons_append, List.nil_append]
          refine xr_iinc (v := nI (k + 1)) (ls2 := [(3, .int (nI (k + 1))), (2, .int (nI (a))), (1, .int (ti)), (0, .ref (62))]) dX10_turns_174 0 rfl (nI_1 _) (by decide) rfl ?_
          refine xr_goto (tgt := 101) dX10_turns_177 rfl ?_
          refine xb_ls (ls2 := [(3, .int (nI (k + 1))), (2, .int (nI (a))), (1, .int (ti)), (0, .ref (62))]) [0, 1, 2, 3] rfl ?_
          exact ih (k + 1) M6 (by omega) (Ke.tr (fun _ _ h => h) (Ke.tr (fun _ _ h => h) hM k5) k7)
set_option maxRecDepth 100000 in
set_option maxHeartbeats 4000000 in
theorem to_l {ti : Int32} {l : Launch} {G : xG} {M : xM} {J : xJ} {Q : xQ} {hn : Nat} (h_hn : hn ≤ 5) (e_hn : M 62 6 = nI hn) (hw : ∀ k, k < hn → M 63 (5 + k) ≠ 0) (hbt : M 63 16 ≠ 0) (htx : M 62 13 = -1 ∨ ∃ n : Nat, n ≤ 120 ∧ M 62 13 = nI n) (hC : ∀ (M2 : xM), Ke WR1 M M2 → x_X l G fX10_turns 1 0 0 Q 186 [(1, .int (ti)), (0, .ref (62))] [] x_SH M2 J 0 0) : ∀ (m k : Nat) (M1 : xM), k + m = hn → Ke WR1 M M1 → x_X l G fX10_turns 1 0 0 Q 89 [(2, .int (nI (k))), (1, .int (ti)), (0, .ref (62))] [] x_SH M1 J 0 0 := by
  intro m
  induction m with
  | zero =>
    intro k M1 hk hM
    refine xr_iload_n dX10_turns_89 0 rfl ?_
    refine xr_aload_n dX10_turns_90 2 rfl ?_
    refine xb_get (v := nI (hn)) flX10_109 dX10_turns_91 s_62 rfl (Eq.trans (hM 62 6 (by decide)) e_hn) ?_
    refine xr_icmp_ge (tgt := 186) dX10_turns_94 rfl (fun _ => ?_) (fun c => absurd (nI_le (a := hn) (b := k) (by omega) (by omega)) c)
    refine xb_ls (ls2 := [(1, .int (ti)), (0, .ref (62))]) [1, 2] rfl ?_
    exact hC _ hM
  | succ m ih =>
    intro k M1 hk hM
    have hkN : k < hn := by omega
    refine xr_iload_n dX10_turns_89 0 rfl ?_
    refine xr_aload_n dX10_turns_90 2 rfl ?_
    refine xb_get (v := nI (hn)) flX10_109 dX10_turns_91 s_62 rfl (Eq.trans (hM 62 6 (by decide)) e_hn) ?_
    refine xr_icmp_ge (tgt := 186) dX10_turns_94 rfl (fun c => absurd c (nI_ge (a := k) (b := hn) (by omega) (by omega))) (fun _ => ?_)
    refine xr_iload_n dX10_turns_97 0 rfl ?_
    refine xr_iconst (v := 1) dX10_turns_98 rfl ?_
    refine xr_iadd dX10_turns_99 ?_
    refine xb_top (y := nI (k + 1)) (nI_add (k) (1)) ?_
    refine xr_istore_n (ls2 := [(3, .int (nI (k + 1))), (2, .int (nI (k))), (1, .int (ti)), (0, .ref (62))]) dX10_turns_100 (by decide) rfl ?_
    refine xb_ls (ls2 := [(3, .int (nI (k + 1))), (2, .int (nI (k))), (1, .int (ti)), (0, .ref (62))]) [0, 1, 2, 3] rfl ?_
    refine tj_l (a := k) (by omega) h_hn (Eq.trans (hM 62 6 (by decide)) e_hn) (fun kw hkw => by rw [show M1 63 (5 + kw) = M 63 (5 + kw) from (Eq.trans (hM 63 (5 + kw) (by unfold WR1; omega)) rfl)]; exact hw kw hkw) (by rw [show M1 63 16 = M 63 16 from (Eq.trans (hM 63 16 (by unfold WR1; omega)) rfl)]; exact hbt) (by rw [show M1 62 13 = M 62 13 from (Eq.trans (hM 62 13 (by unfold WR1; omega)) rfl)]; exact htx) (fun M1 k2 => ?_) (hn - (k + 1)) (k + 1) M1 (by omega) Ke.rf
    refine xr_iinc (v := nI (k + 1)) (ls2 := [(2, .int (nI (k + 1))), (1, .int (ti)), (0, .ref (62))]) dX10_turns_180 0 rfl (nI_1 _) (by decide) rfl ?_
    refine xr_goto (tgt := 89) dX10_turns_183 rfl ?_
    refine xb_ls (ls2 := [(2, .int (nI (k + 1))), (1, .int (ti)), (0, .ref (62))]) [0, 1, 2] rfl ?_
    exact ih (k + 1) M1 (by omega) (Ke.tr (fun _ _ h => h) hM k2)
set_option maxRecDepth 100000 in
set_option maxHeartbeats 4000000 in
theorem t3_l {ti : Int32} {l : Launch} {G : xG} {M : xM} {J : xJ} {Q : xQ} {hn : Nat} (h_hn : hn ≤ 5) (e_hn : M 62 6 = nI hn) (hw : ∀ k, k < hn → M 63 (5 + k) ≠ 0) (hbt : M 63 16 ≠ 0) (htx : M 62 13 = -1 ∨ ∃ n : Nat, n ≤ 120 ∧ M 62 13 = nI n) (hC : ∀ (M2 : xM), Ke WR1 M M2 → x_X l G fX10_turns 1 0 0 Q 299 [(1, .int (ti)), (0, .ref (62))] [] x_SH M2 J 0 0) : ∀ (m k : Nat) (M1 : xM), k + m = hn → Ke WR1 M M1 → x_X l G fX10_turns 1 0 0 Q 188 [(2, .int (nI (k))), (1, .int (ti)), (0, .ref (62))] [] x_SH M1 J 0 0 := by
  intro m
  induction m with
  | zero =>
    intro k M1 hk hM
    refine xr_iload_n dX10_turns_188 0 rfl ?_
    refine xr_aload_n dX10_turns_189 2 rfl ?_
    refine xb_get (v := nI (hn)) flX10_109 dX10_turns_190 s_62 rfl (Eq.trans (hM 62 6 (by decide)) e_hn) ?_
    refine xr_icmp_ge (tgt := 299) dX10_turns_193 rfl (fun _ => ?_) (fun c => absurd (nI_le (a := hn) (b := k) (by omega) (by omega)) c)
    refine xb_ls (ls2 := [(1, .int (ti)), (0, .ref (62))]) [1, 2] rfl ?_
    exact hC _ hM
  | succ m ih =>
    intro k M1 hk hM
    have hkN : k < hn := by omega
    refine xr_iload_n dX10_turns_188 0 rfl ?_
    refine xr_aload_n dX10_turns_189 2 rfl ?_
    refine xb_get (v := nI (hn)) flX10_109 dX10_turns_190 s_62 rfl (Eq.trans (hM 62 6 (by decide)) e_hn) ?_
    refine xr_icmp_ge (tgt := 299) dX10_turns_193 rfl (fun c => absurd c (nI_ge (a := k) (b := hn) (by omega) (by omega))) (fun _ => ?_)
    refine xr_aload_n dX10_turns_196 2 rfl ?_
    refine xr_getR flX10_43 dX10_turns_197 s_62 rfl ?_
    refine xr_iload_n dX10_turns_200 0 rfl ?_
    refine xb_iald (j := k) (v := M1 74 k) dX10_turns_201 s_74 (by omega) (by decide) rfl ?_
    refine xr_if_le (tgt := 293) dX10_turns_202 rfl (fun c1 => ?_) (fun c1 => ?_)
    · refine xr_iinc (v := nI (k + 1)) (ls2 := [(2, .int (nI (k + 1))), (1, .int (ti)), (0, .ref (62))]) dX10_turns_293 0 rfl (nI_1 _) (by decide) rfl ?_
      refine xr_goto (tgt := 188) dX10_turns_296 rfl ?_
      refine xb_ls (ls2 := [(2, .int (nI (k + 1))), (1, .int (ti)), (0, .ref (62))]) [0, 1, 2] rfl ?_
      exact ih (k + 1) M1 (by omega) hM
    · refine xr_aload_n dX10_turns_205 2 rfl ?_
      refine xr_getR flX10_40 dX10_turns_206 s_62 rfl ?_
      refine xr_iload_n dX10_turns_209 0 rfl ?_
      refine xb_iald (j := k) (v := M1 73 k) dX10_turns_210 s_73 (by omega) (by decide) rfl ?_
      refine xb_cS (As := [.int (M1 73 k)]) (rest := []) mlX10_218 (c_X10_sizeOf (M1 73 k)) dX10_turns_211 rfl rfl (Nat.le_of_ble_eq_true rfl) (by decide) (by decide) ?_
      refine xr_aload_n dX10_turns_214 2 rfl ?_
      refine xr_iload_n dX10_turns_215 0 rfl ?_
      refine xr_callV (As := [.int (nI (k))]) (rest := [.int ((if 0 ≤ (M1 73 k) then (M1 73 k) else -(M1 73 k)))]) mlX10_145 (g_X10_needOf (h := k) (by omega)) dX10_turns_216 s_62 rfl rfl (Nat.le_of_ble_eq_true rfl) (by decide) ⟨by decide, by decide⟩ (fun v s2 M9 J2 hq => ?_)
      obtain ⟨r2, rfl, rfl, rfl, rfl, _⟩ := hq
      try dsimp only [Option.toList, List.cons_append, List.nil_append]
      refine xr_icmp_lt (tgt := 233) dX10_turns_219 rfl (fun c3 => ?_) (fun c3 => ?_)
      · refine xr_aload_n dX10_turns_233 2 rfl ?_
        refine xr_getR flX10_43 dX10_turns_234 s_62 rfl ?_
        refine xr_iload_n dX10_turns_237 0 rfl ?_
        refine xb_iald (j := k) (v := M1 74 k) dX10_turns_238 s_74 (by omega) (by decide) rfl ?_
        refine xr_iconst (v := 2) dX10_turns_239 rfl ?_
        refine xr_isub dX10_turns_240 ?_
        refine xr_istore_n (ls2 := [(3, .int (((M1 74 k) - 2))), (2, .int (nI (k))), (1, .int (ti)), (0, .ref (62))]) dX10_turns_241 (by decide) rfl ?_
        refine xr_aload_n dX10_turns_242 3 rfl ?_
        refine xr_getR flX10_43 dX10_turns_243 s_62 rfl ?_
        refine xr_iload_n dX10_turns_246 1 rfl ?_
        refine xr_iload_n dX10_turns_247 0 rfl ?_
        refine xr_bipush (v := 20) dX10_turns_248 rfl ?_
        refine xr_icmp_le (tgt := 258) dX10_turns_250 rfl (fun c4 => ?_) (fun c4 => ?_)
        · refine xr_iload_n dX10_turns_258 0 rfl ?_
          refine xr_if_ge (tgt := 266) dX10_turns_259 rfl (fun c5 => ?_) (fun c5 => ?_)
          · refine xr_iload_n dX10_turns_266 0 rfl ?_
            refine xb_iast (j := k) dX10_turns_267 s_74 (by omega) (by decide) ?_
            refine xr_aload_n dX10_turns_268 3 rfl ?_
            refine xr_getR flX10_40 dX10_turns_269 s_62 rfl ?_
            refine xr_iload_n dX10_turns_272 1 rfl ?_
            refine xr_aload_n dX10_turns_273 3 rfl ?_
            refine xr_getR flX10_43 dX10_turns_274 s_62 rfl ?_
            refine xr_iload_n dX10_turns_277 1 rfl ?_
            refine xb_iald (j := k) (v := ((M1 74 k) - 2)) dX10_turns_278 s_74 (by omega) (by decide) (x_up_s _ _ _ _) ?_
            refine xr_if_ne (tgt := 286) dX10_turns_279 rfl (fun c6 => ?_) (fun c6 => ?_)
            · refine xr_aload_n dX10_turns_286 3 rfl ?_
              refine xr_getR flX10_40 dX10_turns_287 s_62 rfl ?_
              refine xr_iload_n dX10_turns_290 1 rfl ?_
              refine xb_iald (j := k) (v := (x_up M1 74 k ((M1 74 k) - 2)) 73 k) dX10_turns_291 s_73 (by omega) (by decide) rfl ?_
              refine xb_iast (j := k) dX10_turns_292 s_73 (by omega) (by decide) ?_
              refine xr_iinc (v := nI (k + 1)) (ls2 := [(2, .int (nI (k + 1))), (3, .int (((M1 74 k) - 2))), (1, .int (ti)), (0, .ref (62))]) dX10_turns_293 1 rfl (nI_1 _) (by decide) rfl ?_
              refine xr_goto (tgt := 188) dX10_turns_296 rfl ?_
              refine xb_ls (ls2 := [(2, .int (nI (k + 1))), (1, .int (ti)), (0, .ref (62))]) [0, 2, 3] rfl ?_
              exact ih (k + 1) (x_up (x_up M1 74 k ((M1 74 k) - 2)) 73 k ((x_up M1 74 k ((M1 74 k) - 2)) 73 k)) (by omega) (Ke.up (Or.inr (Or.inr (Or.inr (Or.inr (Or.inr (Or.inr (Or.inr (by omega)))))))) (Ke.up (Or.inr (Or.inr (Or.inr (Or.inr (Or.inr (Or.inr (Or.inr (by omega)))))))) hM))
            · refine xr_iconst (v := 0) dX10_turns_282 rfl ?_
              refine xr_goto (tgt := 292) dX10_turns_283 rfl ?_
              refine xb_iast (j := k) dX10_turns_292 s_73 (by omega) (by decide) ?_
              refine xr_iinc (v := nI (k + 1)) (ls2 := [(2, .int (nI (k + 1))), (3, .int (((M1 74 k) - 2))), (1, .int (ti)), (0, .ref (62))]) dX10_turns_293 1 rfl (nI_1 _) (by decide) rfl ?_
              refine xr_goto (tgt := 188) dX10_turns_296 rfl ?_
              refine xb_ls (ls2 := [(2, .int (nI (k + 1))), (1, .int (ti)), (0, .ref (62))]) [0, 2, 3] rfl ?_
              exact ih (k + 1) (x_up (x_up M1 74 k ((M1 74 k) - 2)) 73 k 0) (by omega) (Ke.up (Or.inr (Or.inr (Or.inr (Or.inr (Or.inr (Or.inr (Or.inr (by omega)))))))) (Ke.up (Or.inr (Or.inr (Or.inr (Or.inr (Or.inr (Or.inr (Or.inr (by omega)))))))) hM))
          · refine xr_iconst (v := 0) dX10_turns_262 rfl ?_
            refine xr_goto (tgt := 267) dX10_turns_263 rfl ?_
            refine xb_iast (j := k) dX10_turns_267 s_74 (by omega) (by decide) ?_
            refine xr_aload_n dX10_turns_268 3 rfl ?_
            refine xr_getR flX10_40 dX10_turns_269 s_62 rfl ?_
            refine xr_iload_n dX10_turns_272 1 rfl ?_
            refine xr_aload_n dX10_turns_273 3 rfl ?_
            refine xr_getR flX10_43 dX10_turns_274 s_62 rfl ?_
            refine xr_iload_n dX10_turns_277 1 rfl ?_
            refine xb_iald (j := k) (v := 0) dX10_turns_278 s_74 (by omega) (by decide) (x_up_s _ _ _ _) ?_
            refine xr_if_ne (tgt := 286) dX10_turns_279 rfl (fun c => absurd (by decide) c) (fun _ => ?_)
            refine xr_iconst (v := 0) dX10_turns_282 rfl ?_
            refine xr_goto (tgt := 292) dX10_turns_283 rfl ?_
            refine xb_iast (j := k) dX10_turns_292 s_73 (by omega) (by decide) ?_
            refine xr_iinc (v := nI (k + 1)) (ls2 := [(2, .int (nI (k + 1))), (3, .int (((M1 74 k) - 2))), (1, .int (ti)), (0, .ref (62))]) dX10_turns_293 1 rfl (nI_1 _) (by decide) rfl ?_
            refine xr_goto (tgt := 188) dX10_turns_296 rfl ?_
            refine xb_ls (ls2 := [(2, .int (nI (k + 1))), (1, .int (ti)), (0, .ref (62))]) [0, 2, 3] rfl ?_
            exact ih (k + 1) (x_up (x_up M1 74 k 0) 73 k 0) (by omega) (Ke.up (Or.inr (Or.inr (Or.inr (Or.inr (Or.inr (Or.inr (Or.inr (by omega)))))))) (Ke.up (Or.inr (Or.inr (Or.inr (Or.inr (Or.inr (Or.inr (Or.inr (by omega)))))))) hM))
        · refine xr_bipush (v := 20) dX10_turns_253 rfl ?_
          refine xr_goto (tgt := 267) dX10_turns_255 rfl ?_
          refine xb_iast (j := k) dX10_turns_267 s_74 (by omega) (by decide) ?_
          refine xr_aload_n dX10_turns_268 3 rfl ?_
          refine xr_getR flX10_40 dX10_turns_269 s_62 rfl ?_
          refine xr_iload_n dX10_turns_272 1 rfl ?_
          refine xr_aload_n dX10_turns_273 3 rfl ?_
          refine xr_getR flX10_43 dX10_turns_274 s_62 rfl ?_
          refine xr_iload_n dX10_turns_277 1 rfl ?_
          refine xb_iald (j := k) (v := 20) dX10_turns_278 s_74 (by omega) (by decide) (x_up_s _ _ _ _) ?_
          refine xr_if_ne (tgt := 286) dX10_turns_279 rfl (fun _ => ?_) (fun c => absurd c (by decide))
          refine xr_aload_n dX10_turns_286 3 rfl ?_
          refine xr_getR flX10_40 dX10_turns_287 s_62 rfl ?_
          refine xr_iload_n dX10_turns_290 1 rfl ?_
          refine xb_iald (j := k) (v := (x_up M1 74 k 20) 73 k) dX10_turns_291 s_73 (by omega) (by decide) rfl ?_
          refine xb_iast (j := k) dX10_turns_292 s_73 (by omega) (by decide) ?_
          refine xr_iinc (v := nI (k + 1)) (ls2 := [(2, .int (nI (k + 1))), (3, .int (((M1 74 k) - 2))), (1, .int (ti)), (0, .ref (62))]) dX10_turns_293 1 rfl (nI_1 _) (by decide) rfl ?_
          refine xr_goto (tgt := 188) dX10_turns_296 rfl ?_
          refine xb_ls (ls2 := [(2, .int (nI (k + 1))), (1, .int (ti)), (0, .ref (62))]) [0, 2, 3] rfl ?_
          exact ih (k + 1) (x_up (x_up M1 74 k 20) 73 k ((x_up M1 74 k 20) 73 k)) (by omega) (Ke.up (Or.inr (Or.inr (Or.inr (Or.inr (Or.inr (Or.inr (Or.inr (by omega)))))))) (Ke.up (Or.inr (Or.inr (Or.inr (Or.inr (Or.inr (Or.inr (Or.inr (by omega)))))))) hM))
      · refine xr_aload_n dX10_turns_222 2 rfl ?_
        refine xr_getR flX10_43 dX10_turns_223 s_62 rfl ?_
        refine xr_iload_n dX10_turns_226 0 rfl ?_
        refine xb_iald (j := k) (v := M1 74 k) dX10_turns_227 s_74 (by omega) (by decide) rfl ?_
        refine xr_iconst (v := 1) dX10_turns_228 rfl ?_
        refine xr_iadd dX10_turns_229 ?_
        refine xr_goto (tgt := 241) dX10_turns_230 rfl ?_
        refine xr_istore_n (ls2 := [(3, .int (((M1 74 k) + 1))), (2, .int (nI (k))), (1, .int (ti)), (0, .ref (62))]) dX10_turns_241 (by decide) rfl ?_
        refine xr_aload_n dX10_turns_242 3 rfl ?_
        refine xr_getR flX10_43 dX10_turns_243 s_62 rfl ?_
        refine xr_iload_n dX10_turns_246 1 rfl ?_
        refine xr_iload_n dX10_turns_247 0 rfl ?_
        refine xr_bipush (v := 20) dX10_turns_248 rfl ?_
        refine xr_icmp_le (tgt := 258) dX10_turns_250 rfl (fun c7 => ?_) (fun c7 => ?_)
        · refine xr_iload_n dX10_turns_258 0 rfl ?_
          refine xr_if_ge (tgt := 266) dX10_turns_259 rfl (fun c8 => ?_) (fun c8 => ?_)
          · refine xr_iload_n dX10_turns_266 0 rfl ?_
            refine xb_iast (j := k) dX10_turns_267 s_74 (by omega) (by decide) ?_
            refine xr_aload_n dX10_turns_268 3 rfl ?_
            refine xr_getR flX10_40 dX10_turns_269 s_62 rfl ?_
            refine xr_iload_n dX10_turns_272 1 rfl ?_
            refine xr_aload_n dX10_turns_273 3 rfl ?_
            refine xr_getR flX10_43 dX10_turns_274 s_62 rfl ?_
            refine xr_iload_n dX10_turns_277 1 rfl ?_
            refine xb_iald (j := k) (v := ((M1 74 k) + 1)) dX10_turns_278 s_74 (by omega) (by decide) (x_up_s _ _ _ _) ?_
            refine xr_if_ne (tgt := 286) dX10_turns_279 rfl (fun c9 => ?_) (fun c9 => ?_)
            · refine xr_aload_n dX10_turns_286 3 rfl ?_
              refine xr_getR flX10_40 dX10_turns_287 s_62 rfl ?_
              refine xr_iload_n dX10_turns_290 1 rfl ?_
              refine xb_iald (j := k) (v := (x_up M1 74 k ((M1 74 k) + 1)) 73 k) dX10_turns_291 s_73 (by omega) (by decide) rfl ?_
              refine xb_iast (j := k) dX10_turns_292 s_73 (by omega) (by decide) ?_
              refine xr_iinc (v := nI (k + 1)) (ls2 := [(2, .int (nI (k + 1))), (3, .int (((M1 74 k) + 1))), (1, .int (ti)), (0, .ref (62))]) dX10_turns_293 1 rfl (nI_1 _) (by decide) rfl ?_
              refine xr_goto (tgt := 188) dX10_turns_296 rfl ?_
              refine xb_ls (ls2 := [(2, .int (nI (k + 1))), (1, .int (ti)), (0, .ref (62))]) [0, 2, 3] rfl ?_
              exact ih (k + 1) (x_up (x_up M1 74 k ((M1 74 k) + 1)) 73 k ((x_up M1 74 k ((M1 74 k) + 1)) 73 k)) (by omega) (Ke.up (Or.inr (Or.inr (Or.inr (Or.inr (Or.inr (Or.inr (Or.inr (by omega)))))))) (Ke.up (Or.inr (Or.inr (Or.inr (Or.inr (Or.inr (Or.inr (Or.inr (by omega)))))))) hM))
            · refine xr_iconst (v := 0) dX10_turns_282 rfl ?_
              refine xr_goto (tgt := 292) dX10_turns_283 rfl ?_
              refine xb_iast (j := k) dX10_turns_292 s_73 (by omega) (by decide) ?_
              refine xr_iinc (v := nI (k + 1)) (ls2 := [(2, .int (nI (k + 1))), (3, .int (((M1 74 k) + 1))), (1, .int (ti)), (0, .ref (62))]) dX10_turns_293 1 rfl (nI_1 _) (by decide) rfl ?_
              refine xr_goto (tgt := 188) dX10_turns_296 rfl ?_
              refine xb_ls (ls2 := [(2, .int (nI (k + 1))), (1, .int (ti)), (0, .ref (62))]) [0, 2, 3] rfl ?_
              exact ih (k + 1) (x_up (x_up M1 74 k ((M1 74 k) + 1)) 73 k 0) (by omega) (Ke.up (Or.inr (Or.inr (Or.inr (Or.inr (Or.inr (Or.inr (Or.inr (by omega)))))))) (Ke.up (Or.inr (Or.inr (Or.inr (Or.inr (Or.inr (Or.inr (Or.inr (by omega)))))))) hM))
          · refine xr_iconst (v := 0) dX10_turns_262 rfl ?_
            refine xr_goto (tgt := 267) dX10_turns_263 rfl ?_
            refine xb_iast (j := k) dX10_turns_267 s_74 (by omega) (by decide) ?_
            refine xr_aload_n dX10_turns_268 3 rfl ?_
            refine xr_getR flX10_40 dX10_turns_269 s_62 rfl ?_
            refine xr_iload_n dX10_turns_272 1 rfl ?_
            refine xr_aload_n dX10_turns_273 3 rfl ?_
            refine xr_getR flX10_43 dX10_turns_274 s_62 rfl ?_
            refine xr_iload_n dX10_turns_277 1 rfl ?_
            refine xb_iald (j := k) (v := 0) dX10_turns_278 s_74 (by omega) (by decide) (x_up_s _ _ _ _) ?_
            refine xr_if_ne (tgt := 286) dX10_turns_279 rfl (fun c => absurd (by decide) c) (fun _ => ?_)
            refine xr_iconst (v := 0) dX10_turns_282 rfl ?_
            refine xr_goto (tgt := 292) dX10_turns_283 rfl ?_
            refine xb_iast (j := k) dX10_turns_292 s_73 (by omega) (by decide) ?_
            refine xr_iinc (v := nI (k + 1)) (ls2 := [(2, .int (nI (k + 1))), (3, .int (((M1 74 k) + 1))), (1, .int (ti)), (0, .ref (62))]) dX10_turns_293 1 rfl (nI_1 _) (by decide) rfl ?_
            refine xr_goto (tgt := 188) dX10_turns_296 rfl ?_
            refine xb_ls (ls2 := [(2, .int (nI (k + 1))), (1, .int (ti)), (0, .ref (62))]) [0, 2, 3] rfl ?_
            exact ih (k + 1) (x_up (x_up M1 74 k 0) 73 k 0) (by omega) (Ke.up (Or.inr (Or.inr (Or.inr (Or.inr (Or.inr (Or.inr (Or.inr (by omega)))))))) (Ke.up (Or.inr (Or.inr (Or.inr (Or.inr (Or.inr (Or.inr (Or.inr (by omega)))))))) hM))
        · refine xr_bipush (v := 20) dX10_turns_253 rfl ?_
          refine xr_goto (tgt := 267) dX10_turns_255 rfl ?_
          refine xb_iast (j := k) dX10_turns_267 s_74 (by omega) (by decide) ?_
          refine xr_aload_n dX10_turns_268 3 rfl ?_
          refine xr_getR flX10_40 dX10_turns_269 s_62 rfl ?_
          refine xr_iload_n dX10_turns_272 1 rfl ?_
          refine xr_aload_n dX10_turns_273 3 rfl ?_
          refine xr_getR flX10_43 dX10_turns_274 s_62 rfl ?_
          refine xr_iload_n dX10_turns_277 1 rfl ?_
          refine xb_iald (j := k) (v := 20) dX10_turns_278 s_74 (by omega) (by decide) (x_up_s _ _ _ _) ?_
          refine xr_if_ne (tgt := 286) dX10_turns_279 rfl (fun _ => ?_) (fun c => absurd c (by decide))
          refine xr_aload_n dX10_turns_286 3 rfl ?_
          refine xr_getR flX10_40 dX10_turns_287 s_62 rfl ?_
          refine xr_iload_n dX10_turns_290 1 rfl ?_
          refine xb_iald (j := k) (v := (x_up M1 74 k 20) 73 k) dX10_turns_291 s_73 (by omega) (by decide) rfl ?_
          refine xb_iast (j := k) dX10_turns_292 s_73 (by omega) (by decide) ?_
          refine xr_iinc (v := nI (k + 1)) (ls2 := [(2, .int (nI (k + 1))), (3, .int (((M1 74 k) + 1))), (1, .int (ti)), (0, .ref (62))]) dX10_turns_293 1 rfl (nI_1 _) (by decide) rfl ?_
          refine xr_goto (tgt := 188) dX10_turns_296 rfl ?_
          refine xb_ls (ls2 := [(2, .int (nI (k + 1))), (1, .int (ti)), (0, .ref (62))]) [0, 2, 3] rfl ?_
          exact ih (k + 1) (x_up (x_up M1 74 k 20) 73 k ((x_up M1 74 k 20) 73 k)) (by omega) (Ke.up (Or.inr (Or.inr (Or.inr (Or.inr (Or.inr (Or.inr (Or.inr (by omega)))))))) (Ke.up (Or.inr (Or.inr (Or.inr (Or.inr (Or.inr (Or.inr (Or.inr (by omega)))))))) hM))
set_option maxRecDepth 100000 in
set_option maxHeartbeats 4000000 in
theorem g_X10_turns (ti : Int32) {l : Launch} {G : xG} {M : xM} {J : xJ} {hn : Nat} (h_hn : hn ≤ 5) (e_hn : M 62 6 = nI hn) (hw : ∀ k, k < hn → M 63 (5 + k) ≠ 0) (hbt : M 63 16 ≠ 0) (htx : M 62 13 = -1 ∨ ∃ n : Nat, n ≤ 120 ∧ M 62 13 = nI n) : x_M l G fX10_turns 1 0 0 [.ref (62), .int (ti)] x_SH M J (qKV WR1 M J (fun M2 => True)) := by
  refine xb_of pX10 (Nat.le_of_ble_eq_true rfl) rfl ?_
  refine xr_iconst (v := 0) dX10_turns_0 rfl ?_
  refine xr_istore_n (ls2 := [(2, .int (0)), (0, .ref (62)), (1, .int (ti))]) dX10_turns_1 (by decide) rfl ?_
  refine xb_ls (ls2 := [(2, .int (nI (0))), (1, .int (ti)), (0, .ref (62))]) [0, 2, 1] rfl ?_
  refine t1_l h_hn e_hn (fun kw hkw => by rw [show M 63 (5 + kw) = M 63 (5 + kw) from rfl]; exact hw kw hkw) (by rw [show M 63 16 = M 63 16 from rfl]; exact hbt) (by rw [show M 62 13 = M 62 13 from rfl]; exact htx) (fun M1 k2 => ?_) (hn - 0) 0 M (by omega) Ke.rf
  refine xr_iconst (v := 0) dX10_turns_87 rfl ?_
  refine xr_istore_n (ls2 := [(2, .int (0)), (1, .int (ti)), (0, .ref (62))]) dX10_turns_88 (by decide) rfl ?_
  refine xb_ls (ls2 := [(2, .int (nI (0))), (1, .int (ti)), (0, .ref (62))]) [0, 1, 2] rfl ?_
  refine to_l h_hn (Eq.trans (k2 62 6 (by decide)) e_hn) (fun kw hkw => by rw [show M1 63 (5 + kw) = M 63 (5 + kw) from (Eq.trans (k2 63 (5 + kw) (by unfold WR1; omega)) rfl)]; exact hw kw hkw) (by rw [show M1 63 16 = M 63 16 from (Eq.trans (k2 63 16 (by unfold WR1; omega)) rfl)]; exact hbt) (by rw [show M1 62 13 = M 62 13 from (Eq.trans (k2 62 13 (by unfold WR1; omega)) rfl)]; exact htx) (fun M3 k4 => ?_) (hn - 0) 0 M1 (by omega) Ke.rf
  refine xr_iconst (v := 0) dX10_turns_186 rfl ?_
  refine xr_istore_n (ls2 := [(2, .int (0)), (1, .int (ti)), (0, .ref (62))]) dX10_turns_187 (by decide) rfl ?_
  refine xb_ls (ls2 := [(2, .int (nI (0))), (1, .int (ti)), (0, .ref (62))]) [0, 1, 2] rfl ?_
  refine t3_l h_hn (Eq.trans (k4 62 6 (by decide)) (Eq.trans (k2 62 6 (by decide)) e_hn)) (fun kw hkw => by rw [show M3 63 (5 + kw) = M 63 (5 + kw) from (Eq.trans (k4 63 (5 + kw) (by unfold WR1; omega)) (Eq.trans (k2 63 (5 + kw) (by unfold WR1; omega)) rfl))]; exact hw kw hkw) (by rw [show M3 63 16 = M 63 16 from (Eq.trans (k4 63 16 (by unfold WR1; omega)) (Eq.trans (k2 63 16 (by unfold WR1; omega)) rfl))]; exact hbt) (by rw [show M3 62 13 = M 62 13 from (Eq.trans (k4 62 13 (by unfold WR1; omega)) (Eq.trans (k2 62 13 (by unfold WR1; omega)) rfl))]; exact htx) (fun M5 k6 => ?_) (hn - 0) 0 M3 (by omega) Ke.rf
  exact xr_vret dX10_turns_299 rfl (⟨rfl, rfl, rfl, (Ke.tr (fun _ _ h => h) (Ke.tr (fun _ _ h => h) (Ke.tr (fun _ _ h => h) Ke.rf k2) k4) k6), trivial⟩)
set_option maxRecDepth 100000 in
set_option maxHeartbeats 4000000 in
theorem g_X10_isPush (ti : Int32) {l : Launch} {G : xG} {M : xM} {J : xJ} {hn : Nat} (h_hn : hn ≤ 5) (e_hn : M 62 6 = nI hn) (hw : ∀ k, k < hn → M 63 (5 + k) ≠ 0) (hbt : M 63 16 ≠ 0) (htx : M 62 13 = -1 ∨ ∃ n : Nat, n ≤ 120 ∧ M 62 13 = nI n) : x_M l G fX10_isPush 0 0 0 [.ref (62), .int (ti)] x_SH M J (qPI M J (fun r => r = 0 ∨ r = 1)) := by
  refine xb_of pX10 (Nat.le_of_ble_eq_true rfl) rfl ?_
  refine xr_iload_n dX10_isPush_0 1 rfl ?_
  refine xr_aload_n dX10_isPush_1 0 rfl ?_
  refine xr_getR flX10_9 dX10_isPush_2 s_62 rfl ?_
  refine xr_bipush (v := 16) dX10_isPush_5 rfl ?_
  refine xb_iald (j := 16) (v := M 63 16) dX10_isPush_7 s_63 (by decide) (by decide) rfl ?_
  refine xr_irem dX10_isPush_8 (by rw [show M 63 16 = M 63 16 from rfl]; exact hbt) ?_
  refine xr_aload_n dX10_isPush_9 0 rfl ?_
  refine xr_getR flX10_9 dX10_isPush_10 s_62 rfl ?_
  refine xr_bipush (v := 17) dX10_isPush_13 rfl ?_
  refine xb_iald (j := 17) (v := M 63 17) dX10_isPush_15 s_63 (by decide) (by decide) rfl ?_
  refine xr_aload_n dX10_isPush_16 0 rfl ?_
  refine xr_getR flX10_9 dX10_isPush_17 s_62 rfl ?_
  refine xr_bipush (v := 16) dX10_isPush_20 rfl ?_
  refine xb_iald (j := 16) (v := M 63 16) dX10_isPush_22 s_63 (by decide) (by decide) rfl ?_
  refine xr_irem dX10_isPush_23 (by rw [show M 63 16 = M 63 16 from rfl]; exact hbt) ?_
  refine xr_icmp_ne (tgt := 31) dX10_isPush_24 rfl (fun c1 => ?_) (fun c1 => ?_)
  · refine xr_iconst (v := 0) dX10_isPush_31 rfl ?_
    exact xr_iret dX10_isPush_32 rfl rfl (⟨_, rfl, rfl, rfl, rfl, (Or.inl rfl)⟩)
  · refine xr_iconst (v := 1) dX10_isPush_27 rfl ?_
    refine xr_goto (tgt := 32) dX10_isPush_28 rfl ?_
    exact xr_iret dX10_isPush_32 rfl rfl (⟨_, rfl, rfl, rfl, rfl, (Or.inr rfl)⟩)
set_option maxRecDepth 100000 in
set_option maxHeartbeats 4000000 in
theorem g_X10_toOf (ti : Int32) {l : Launch} {G : xG} {M : xM} {J : xJ} {hn : Nat} (h_hn : hn ≤ 5) (e_hn : M 62 6 = nI hn) (hw : ∀ k, k < hn → M 63 (5 + k) ≠ 0) (hbt : M 63 16 ≠ 0) (htx : M 62 13 = -1 ∨ ∃ n : Nat, n ≤ 120 ∧ M 62 13 = nI n) : x_M l G fX10_toOf 0 0 0 [.ref (62), .int (ti)] x_SH M J (qPI M J (fun r => True)) := by
  refine xb_of pX10 (Nat.le_of_ble_eq_true rfl) rfl ?_
  refine xr_iload_n dX10_toOf_0 1 rfl ?_
  refine xr_aload_n dX10_toOf_1 0 rfl ?_
  refine xr_getR flX10_9 dX10_toOf_2 s_62 rfl ?_
  refine xr_bipush (v := 16) dX10_toOf_5 rfl ?_
  refine xb_iald (j := 16) (v := M 63 16) dX10_toOf_7 s_63 (by decide) (by decide) rfl ?_
  refine xr_idiv dX10_toOf_8 (by rw [show M 63 16 = M 63 16 from rfl]; exact hbt) ?_
  refine xr_iconst (v := 2) dX10_toOf_9 rfl ?_
  refine xr_irem dX10_toOf_10 (by decide) ?_
  refine xr_if_ne (tgt := 18) dX10_toOf_11 rfl (fun c1 => ?_) (fun c1 => ?_)
  · refine xr_bipush (v := 12) dX10_toOf_18 rfl ?_
    exact xr_iret dX10_toOf_20 rfl rfl (⟨_, rfl, rfl, rfl, rfl, trivial⟩)
  · refine xr_iconst (v := 0) dX10_toOf_14 rfl ?_
    refine xr_goto (tgt := 20) dX10_toOf_15 rfl ?_
    exact xr_iret dX10_toOf_20 rfl rfl (⟨_, rfl, rfl, rfl, rfl, trivial⟩)
set_option maxRecDepth 100000 in
set_option maxHeartbeats 4000000 in
theorem g_X10_tickGoes (ti : Int32) {l : Launch} {G : xG} {M : xM} {J : xJ} {hn : Nat} (h_hn : hn ≤ 5) (e_hn : M 62 6 = nI hn) (hw : ∀ k, k < hn → M 63 (5 + k) ≠ 0) (hbt : M 63 16 ≠ 0) (htx : M 62 13 = -1 ∨ ∃ n : Nat, n ≤ 120 ∧ M 62 13 = nI n) : x_M l G fX10_tickGoes 61 0 0 [.ref (62), .int (ti)] x_SH M J (qKV WR1 M J (fun M2 => True)) := by
  refine xb_of pX10 (Nat.le_of_ble_eq_true rfl) rfl ?_
  refine xr_aload_n dX10_tickGoes_0 0 rfl ?_
  refine xr_iload_n dX10_tickGoes_1 1 rfl ?_
  refine xr_callV (As := [.int (ti)]) (rest := []) mlX10_228 (g_X10_isPush ti h_hn e_hn (fun kw hkw => by rw [show M 63 (5 + kw) = M 63 (5 + kw) from rfl]; exact hw kw hkw) (by rw [show M 63 16 = M 63 16 from rfl]; exact hbt) (by rw [show M 62 13 = M 62 13 from rfl]; exact htx)) dX10_tickGoes_2 s_62 rfl rfl (Nat.le_of_ble_eq_true rfl) (by decide) ⟨by decide, by decide⟩ (fun v s2 M9 J2 hq => ?_)
  obtain ⟨r2, rfl, rfl, rfl, rfl, hx1⟩ := hq
  try dsimp only [Option.toList, List.cons_append, List.nil_append]
  refine xr_if_eq (tgt := 34) dX10_tickGoes_5 rfl (fun c3 => ?_) (fun c3 => ?_)
  · refine xr_aload_n dX10_tickGoes_34 0 rfl ?_
    refine xr_iload_n dX10_tickGoes_35 1 rfl ?_
    refine xr_callV (As := [.int (ti)]) (rest := []) mlX10_240 (g_X10_turns ti h_hn e_hn (fun kw hkw => by rw [show M 63 (5 + kw) = M 63 (5 + kw) from rfl]; exact hw kw hkw) (by rw [show M 63 16 = M 63 16 from rfl]; exact hbt) (by rw [show M 62 13 = M 62 13 from rfl]; exact htx)) dX10_tickGoes_36 s_62 rfl rfl (Nat.le_of_ble_eq_true rfl) (by decide) ⟨by decide, by decide⟩ (fun v s2 M4 J2 hq => ?_)
    obtain ⟨rfl, rfl, rfl, k5, _⟩ := hq
    try dsimp only [Option.toList, List.cons_append, List.nil_append]
    exact xr_vret dX10_tickGoes_39 rfl (⟨rfl, rfl, rfl, (Ke.tr (fun _ _ h => h) Ke.rf k5), trivial⟩)
  · refine xr_aload_n dX10_tickGoes_8 0 rfl ?_
    refine xr_aload_n dX10_tickGoes_9 0 rfl ?_
    refine xr_iload_n dX10_tickGoes_10 1 rfl ?_
    refine xr_callV (As := [.int (ti)]) (rest := [.ref (62)]) mlX10_231 (g_X10_toOf ti h_hn e_hn (fun kw hkw => by rw [show M 63 (5 + kw) = M 63 (5 + kw) from rfl]; exact hw kw hkw) (by rw [show M 63 16 = M 63 16 from rfl]; exact hbt) (by rw [show M 62 13 = M 62 13 from rfl]; exact htx)) dX10_tickGoes_11 s_62 rfl rfl (Nat.le_of_ble_eq_true rfl) (by decide) ⟨by decide, by decide⟩ (fun v s2 M9 J2 hq => ?_)
    obtain ⟨r6, rfl, rfl, rfl, rfl, _⟩ := hq
    try dsimp only [Option.toList, List.cons_append, List.nil_append]
    refine xr_aload_n dX10_tickGoes_14 0 rfl ?_
    refine xr_getR flX10_9 dX10_tickGoes_15 s_62 rfl ?_
    refine xr_bipush (v := 18) dX10_tickGoes_18 rfl ?_
    refine xb_iald (j := 18) (v := M 63 18) dX10_tickGoes_20 s_63 (by decide) (by decide) rfl ?_
    refine xr_callV (As := [.int (r6), .int (M 63 18)]) (rest := []) mlX10_234 (g_X10_pushes r6 (M 63 18) h_hn e_hn (fun kw hkw => by rw [show M 63 (5 + kw) = M 63 (5 + kw) from rfl]; exact hw kw hkw) (by rw [show M 63 16 = M 63 16 from rfl]; exact hbt) (by rw [show M 62 13 = M 62 13 from rfl]; exact htx)) dX10_tickGoes_21 s_62 rfl rfl (Nat.le_of_ble_eq_true rfl) (by decide) ⟨by decide, by decide⟩ (fun v s2 M7 J2 hq => ?_)
    obtain ⟨rfl, rfl, rfl, k8, _⟩ := hq
    try dsimp only [Option.toList, List.cons_append, List.nil_append]
    refine xr_aload_n dX10_tickGoes_24 0 rfl ?_
    refine xr_dup dX10_tickGoes_25 rfl ?_
    refine xb_get (v := M7 62 23) flX10_237 dX10_tickGoes_26 s_62 rfl rfl ?_
    refine xr_iconst (v := 1) dX10_tickGoes_29 rfl ?_
    refine xr_iadd dX10_tickGoes_30 ?_
    refine xr_putI fpX10_237 dX10_tickGoes_31 s_62 rfl rfl rfl ?_
    refine xr_aload_n dX10_tickGoes_34 0 rfl ?_
    refine xr_iload_n dX10_tickGoes_35 1 rfl ?_
    refine xr_callV (As := [.int (ti)]) (rest := []) mlX10_240 (g_X10_turns ti h_hn (Eq.trans (x_up_k _ _ _ (by decide)) (Eq.trans (k8 62 6 (by decide)) e_hn)) (fun kw hkw => by rw [show (x_up M7 62 23 ((M7 62 23) + 1)) 63 (5 + kw) = M 63 (5 + kw) from (Eq.trans (congrFun (x_up_n _ _ _ (by omega)) _) (Eq.trans (k8 63 (5 + kw) (by unfold WR1; omega)) rfl))]; exact hw kw hkw) (by rw [show (x_up M7 62 23 ((M7 62 23) + 1)) 63 16 = M 63 16 from (Eq.trans (congrFun (x_up_n _ _ _ (by omega)) _) (Eq.trans (k8 63 16 (by unfold WR1; omega)) rfl))]; exact hbt) (by rw [show (x_up M7 62 23 ((M7 62 23) + 1)) 62 13 = M 62 13 from (Eq.trans (x_up_k _ _ _ (by omega)) (Eq.trans (k8 62 13 (by unfold WR1; omega)) rfl))]; exact htx)) dX10_tickGoes_36 s_62 rfl rfl (Nat.le_of_ble_eq_true rfl) (by decide) ⟨by decide, by decide⟩ (fun v s2 M9 J2 hq => ?_)
    obtain ⟨rfl, rfl, rfl, k10, _⟩ := hq
    try dsimp only [Option.toList, List.cons_append, List.nil_append]
    exact xr_vret dX10_tickGoes_39 rfl (⟨rfl, rfl, rfl, (Ke.tr (fun _ _ h => h) (Ke.up (Or.inr (Or.inr (Or.inr (Or.inr (Or.inr (Or.inl (by omega))))))) (Ke.tr (fun _ _ h => h) Ke.rf k8)) k10), trivial⟩)
set_option maxRecDepth 100000 in
set_option maxHeartbeats 4000000 in
theorem un_l {l : Launch} {G : xG} {M : xM} {J : xJ} {Q : xQ} {hn : Nat} (h_hn : hn ≤ 5) (e_hn : M 62 6 = nI hn) (hw : ∀ k, k < hn → M 63 (5 + k) ≠ 0) (hbt : M 63 16 ≠ 0) (htx : M 62 13 = -1 ∨ ∃ n : Nat, n ≤ 120 ∧ M 62 13 = nI n) (hC : ∀ (se : Int32), x_X l G fX10_upNow 0 0 0 Q 37 [(1, .int (se)), (0, .ref (62))] [] x_SH M J 0 0) : ∀ (m k : Nat) (se : Int32), k + m = hn → x_X l G fX10_upNow 0 0 0 Q 4 [(2, .int (nI (k))), (1, .int (se)), (0, .ref (62))] [] x_SH M J 0 0 := by
  intro m
  induction m with
  | zero =>
    intro k se hk
    refine xr_iload_n dX10_upNow_4 0 rfl ?_
    refine xr_aload_n dX10_upNow_5 2 rfl ?_
    refine xb_get (v := nI (hn)) flX10_109 dX10_upNow_6 s_62 rfl e_hn ?_
    refine xr_icmp_ge (tgt := 37) dX10_upNow_9 rfl (fun _ => ?_) (fun c => absurd (nI_le (a := hn) (b := k) (by omega) (by omega)) c)
    refine xb_ls (ls2 := [(1, .int (se)), (0, .ref (62))]) [1, 2] rfl ?_
    exact hC se
  | succ m ih =>
    intro k se hk
    have hkN : k < hn := by omega
    refine xr_iload_n dX10_upNow_4 0 rfl ?_
    refine xr_aload_n dX10_upNow_5 2 rfl ?_
    refine xb_get (v := nI (hn)) flX10_109 dX10_upNow_6 s_62 rfl e_hn ?_
    refine xr_icmp_ge (tgt := 37) dX10_upNow_9 rfl (fun c => absurd c (nI_ge (a := k) (b := hn) (by omega) (by omega))) (fun _ => ?_)
    refine xr_iload_n dX10_upNow_12 1 rfl ?_
    refine xr_aload_n dX10_upNow_13 2 rfl ?_
    refine xr_getR flX10_25 dX10_upNow_14 s_62 rfl ?_
    refine xr_iload_n dX10_upNow_17 0 rfl ?_
    refine xb_iald (j := k) (v := M 68 k) dX10_upNow_18 s_68 (by omega) (by decide) rfl ?_
    refine xr_if_le (tgt := 28) dX10_upNow_19 rfl (fun c1 => ?_) (fun c1 => ?_)
    · refine xr_iconst (v := 0) dX10_upNow_28 rfl ?_
      refine xr_ior dX10_upNow_29 ?_
      refine xr_istore_n (ls2 := [(1, .int ((se ||| 0))), (2, .int (nI (k))), (0, .ref (62))]) dX10_upNow_30 (by decide) rfl ?_
      refine xr_iinc (v := nI (k + 1)) (ls2 := [(2, .int (nI (k + 1))), (1, .int ((se ||| 0))), (0, .ref (62))]) dX10_upNow_31 1 rfl (nI_1 _) (by decide) rfl ?_
      refine xr_goto (tgt := 4) dX10_upNow_34 rfl ?_
      refine xb_ls (ls2 := [(2, .int (nI (k + 1))), (1, .int ((se ||| 0))), (0, .ref (62))]) [0, 1, 2] rfl ?_
      exact ih (k + 1) (se ||| 0) (by omega)
    · refine xr_iconst (v := 1) dX10_upNow_22 rfl ?_
      refine xr_iload_n dX10_upNow_23 0 rfl ?_
      refine xr_ishl dX10_upNow_24 ?_
      refine xr_goto (tgt := 29) dX10_upNow_25 rfl ?_
      refine xr_ior dX10_upNow_29 ?_
      refine xr_istore_n (ls2 := [(1, .int ((se ||| (1 <<< (nI (k) &&& 31))))), (2, .int (nI (k))), (0, .ref (62))]) dX10_upNow_30 (by decide) rfl ?_
      refine xr_iinc (v := nI (k + 1)) (ls2 := [(2, .int (nI (k + 1))), (1, .int ((se ||| (1 <<< (nI (k) &&& 31))))), (0, .ref (62))]) dX10_upNow_31 1 rfl (nI_1 _) (by decide) rfl ?_
      refine xr_goto (tgt := 4) dX10_upNow_34 rfl ?_
      refine xb_ls (ls2 := [(2, .int (nI (k + 1))), (1, .int ((se ||| (1 <<< (nI (k) &&& 31))))), (0, .ref (62))]) [0, 1, 2] rfl ?_
      exact ih (k + 1) (se ||| (1 <<< (nI (k) &&& 31))) (by omega)
set_option maxRecDepth 100000 in
set_option maxHeartbeats 4000000 in
theorem g_X10_upNow {l : Launch} {G : xG} {M : xM} {J : xJ} {hn : Nat} (h_hn : hn ≤ 5) (e_hn : M 62 6 = nI hn) (hw : ∀ k, k < hn → M 63 (5 + k) ≠ 0) (hbt : M 63 16 ≠ 0) (htx : M 62 13 = -1 ∨ ∃ n : Nat, n ≤ 120 ∧ M 62 13 = nI n) : x_M l G fX10_upNow 0 0 0 [.ref (62)] x_SH M J (qPI M J (fun r => True)) := by
  refine xb_of pX10 (Nat.le_of_ble_eq_true rfl) rfl ?_
  refine xr_iconst (v := 0) dX10_upNow_0 rfl ?_
  refine xr_istore_n (ls2 := [(1, .int (0)), (0, .ref (62))]) dX10_upNow_1 (by decide) rfl ?_
  refine xr_iconst (v := 0) dX10_upNow_2 rfl ?_
  refine xr_istore_n (ls2 := [(2, .int (0)), (1, .int (0)), (0, .ref (62))]) dX10_upNow_3 (by decide) rfl ?_
  refine xb_ls (ls2 := [(2, .int (nI (0))), (1, .int (0)), (0, .ref (62))]) [0, 1, 2] rfl ?_
  refine un_l h_hn e_hn (fun kw hkw => by rw [show M 63 (5 + kw) = M 63 (5 + kw) from rfl]; exact hw kw hkw) (by rw [show M 63 16 = M 63 16 from rfl]; exact hbt) (by rw [show M 62 13 = M 62 13 from rfl]; exact htx) (fun q1 => ?_) (hn - 0) 0 0 (by omega)
  refine xr_iload_n dX10_upNow_37 0 rfl ?_
  exact xr_iret dX10_upNow_38 rfl rfl (⟨_, rfl, rfl, rfl, rfl, trivial⟩)
set_option maxRecDepth 100000 in
set_option maxHeartbeats 4000000 in
theorem ly_l {se : Int32} {l : Launch} {G : xG} {M : xM} {J : xJ} {Q : xQ} {hn : Nat} (h_hn : hn ≤ 5) (e_hn : M 62 6 = nI hn) (hw : ∀ k, k < hn → M 63 (5 + k) ≠ 0) (hbt : M 63 16 ≠ 0) (htx : M 62 13 = -1 ∨ ∃ n : Nat, n ≤ 120 ∧ M 62 13 = nI n) (hC : ∀ (ny : Int32), x_X l G fX10_lyingOf 1 0 0 Q 43 [(2, .int (ny)), (1, .int (se)), (0, .ref (62))] [] x_SH M J 0 0) : ∀ (m k : Nat) (ny : Int32), k + m = hn → x_X l G fX10_lyingOf 1 0 0 Q 4 [(3, .int (nI (k))), (2, .int (ny)), (1, .int (se)), (0, .ref (62))] [] x_SH M J 0 0 := by
  intro m
  induction m with
  | zero =>
    intro k ny hk
    refine xr_iload_n dX10_lyingOf_4 0 rfl ?_
    refine xr_aload_n dX10_lyingOf_5 3 rfl ?_
    refine xb_get (v := nI (hn)) flX10_109 dX10_lyingOf_6 s_62 rfl e_hn ?_
    refine xr_icmp_ge (tgt := 43) dX10_lyingOf_9 rfl (fun _ => ?_) (fun c => absurd (nI_le (a := hn) (b := k) (by omega) (by omega)) c)
    refine xb_ls (ls2 := [(2, .int (ny)), (1, .int (se)), (0, .ref (62))]) [1, 2, 3] rfl ?_
    exact hC ny
  | succ m ih =>
    intro k ny hk
    have hkN : k < hn := by omega
    refine xr_iload_n dX10_lyingOf_4 0 rfl ?_
    refine xr_aload_n dX10_lyingOf_5 3 rfl ?_
    refine xb_get (v := nI (hn)) flX10_109 dX10_lyingOf_6 s_62 rfl e_hn ?_
    refine xr_icmp_ge (tgt := 43) dX10_lyingOf_9 rfl (fun c => absurd c (nI_ge (a := k) (b := hn) (by omega) (by omega))) (fun _ => ?_)
    refine xr_iload_n dX10_lyingOf_12 1 rfl ?_
    refine xr_iload_n dX10_lyingOf_13 2 rfl ?_
    refine xr_iload_n dX10_lyingOf_14 0 rfl ?_
    refine xr_callS (As := [.int (se), .int (nI (k))]) (rest := [.int (ny)]) mlX10_214 (g_X10_isIn se (nI (k))) dX10_lyingOf_15 rfl rfl (Nat.le_of_ble_eq_true rfl) (by decide) ⟨by decide, by decide⟩ (fun v s2 M9 J2 hq => ?_)
    obtain ⟨r2, rfl, rfl, rfl, rfl, hx1⟩ := hq
    try dsimp only [Option.toList, List.cons_append, List.nil_append]
    refine xr_if_eq (tgt := 34) dX10_lyingOf_18 rfl (fun c3 => ?_) (fun c3 => ?_)
    · refine xr_iconst (v := 0) dX10_lyingOf_34 rfl ?_
      refine xr_iadd dX10_lyingOf_35 ?_
      refine xr_istore_n (ls2 := [(2, .int ((ny + 0))), (3, .int (nI (k))), (1, .int (se)), (0, .ref (62))]) dX10_lyingOf_36 (by decide) rfl ?_
      refine xr_iinc (v := nI (k + 1)) (ls2 := [(3, .int (nI (k + 1))), (2, .int ((ny + 0))), (1, .int (se)), (0, .ref (62))]) dX10_lyingOf_37 1 rfl (nI_1 _) (by decide) rfl ?_
      refine xr_goto (tgt := 4) dX10_lyingOf_40 rfl ?_
      refine xb_ls (ls2 := [(3, .int (nI (k + 1))), (2, .int ((ny + 0))), (1, .int (se)), (0, .ref (62))]) [0, 1, 2, 3] rfl ?_
      exact ih (k + 1) (ny + 0) (by omega)
    · refine xr_aload_n dX10_lyingOf_21 3 rfl ?_
      refine xr_getR flX10_43 dX10_lyingOf_22 s_62 rfl ?_
      refine xr_iload_n dX10_lyingOf_25 0 rfl ?_
      refine xb_iald (j := k) (v := M 74 k) dX10_lyingOf_26 s_74 (by omega) (by decide) rfl ?_
      refine xr_if_ne (tgt := 34) dX10_lyingOf_27 rfl (fun c4 => ?_) (fun c4 => ?_)
      · refine xr_iconst (v := 0) dX10_lyingOf_34 rfl ?_
        refine xr_iadd dX10_lyingOf_35 ?_
        refine xr_istore_n (ls2 := [(2, .int ((ny + 0))), (3, .int (nI (k))), (1, .int (se)), (0, .ref (62))]) dX10_lyingOf_36 (by decide) rfl ?_
        refine xr_iinc (v := nI (k + 1)) (ls2 := [(3, .int (nI (k + 1))), (2, .int ((ny + 0))), (1, .int (se)), (0, .ref (62))]) dX10_lyingOf_37 1 rfl (nI_1 _) (by decide) rfl ?_
        refine xr_goto (tgt := 4) dX10_lyingOf_40 rfl ?_
        refine xb_ls (ls2 := [(3, .int (nI (k + 1))), (2, .int ((ny + 0))), (1, .int (se)), (0, .ref (62))]) [0, 1, 2, 3] rfl ?_
        exact ih (k + 1) (ny + 0) (by omega)
      · refine xr_iconst (v := 1) dX10_lyingOf_30 rfl ?_
        refine xr_goto (tgt := 35) dX10_lyingOf_31 rfl ?_
        refine xr_iadd dX10_lyingOf_35 ?_
        refine xr_istore_n (ls2 := [(2, .int ((ny + 1))), (3, .int (nI (k))), (1, .int (se)), (0, .ref (62))]) dX10_lyingOf_36 (by decide) rfl ?_
        refine xr_iinc (v := nI (k + 1)) (ls2 := [(3, .int (nI (k + 1))), (2, .int ((ny + 1))), (1, .int (se)), (0, .ref (62))]) dX10_lyingOf_37 1 rfl (nI_1 _) (by decide) rfl ?_
        refine xr_goto (tgt := 4) dX10_lyingOf_40 rfl ?_
        refine xb_ls (ls2 := [(3, .int (nI (k + 1))), (2, .int ((ny + 1))), (1, .int (se)), (0, .ref (62))]) [0, 1, 2, 3] rfl ?_
        exact ih (k + 1) (ny + 1) (by omega)
set_option maxRecDepth 100000 in
set_option maxHeartbeats 4000000 in
theorem g_X10_lyingOf (se : Int32) {l : Launch} {G : xG} {M : xM} {J : xJ} {hn : Nat} (h_hn : hn ≤ 5) (e_hn : M 62 6 = nI hn) (hw : ∀ k, k < hn → M 63 (5 + k) ≠ 0) (hbt : M 63 16 ≠ 0) (htx : M 62 13 = -1 ∨ ∃ n : Nat, n ≤ 120 ∧ M 62 13 = nI n) : x_M l G fX10_lyingOf 1 0 0 [.ref (62), .int (se)] x_SH M J (qPI M J (fun r => True)) := by
  refine xb_of pX10 (Nat.le_of_ble_eq_true rfl) rfl ?_
  refine xr_iconst (v := 0) dX10_lyingOf_0 rfl ?_
  refine xr_istore_n (ls2 := [(2, .int (0)), (0, .ref (62)), (1, .int (se))]) dX10_lyingOf_1 (by decide) rfl ?_
  refine xr_iconst (v := 0) dX10_lyingOf_2 rfl ?_
  refine xr_istore_n (ls2 := [(3, .int (0)), (2, .int (0)), (0, .ref (62)), (1, .int (se))]) dX10_lyingOf_3 (by decide) rfl ?_
  refine xb_ls (ls2 := [(3, .int (nI (0))), (2, .int (0)), (1, .int (se)), (0, .ref (62))]) [0, 1, 3, 2] rfl ?_
  refine ly_l h_hn e_hn (fun kw hkw => by rw [show M 63 (5 + kw) = M 63 (5 + kw) from rfl]; exact hw kw hkw) (by rw [show M 63 16 = M 63 16 from rfl]; exact hbt) (by rw [show M 62 13 = M 62 13 from rfl]; exact htx) (fun q1 => ?_) (hn - 0) 0 0 (by omega)
  refine xr_iload_n dX10_lyingOf_43 0 rfl ?_
  exact xr_iret dX10_lyingOf_44 rfl rfl (⟨_, rfl, rfl, rfl, rfl, trivial⟩)
set_option maxRecDepth 100000 in
set_option maxHeartbeats 4000000 in
theorem rf_l {h : Nat} (hh : h < 5) {l : Launch} {G : xG} {M : xM} {J : xJ} {Q : xQ} {hn : Nat} (h_hn : hn ≤ 5) (e_hn : M 62 6 = nI hn) (hw : ∀ k, k < hn → M 63 (5 + k) ≠ 0) (hbt : M 63 16 ≠ 0) (htx : M 62 13 = -1 ∨ ∃ n : Nat, n ≤ 120 ∧ M 62 13 = nI n) (hC : ∀ (M2 : xM), Ke WR1 M M2 → x_X l G fX10_fallOf 62 0 0 Q 44 [(1, .int (nI (h))), (0, .ref (62))] [] x_SH M2 J 0 0) (hR : ∀ (r : Int32) (M2 : xM), Ke WR1 M M2 → Q (some (.int r)) x_SH M2 J) : ∀ (m k : Nat) (M1 : xM), k + m = 201 → Ke WR1 M M1 → x_X l G fX10_fallOf 62 0 0 Q 10 [(2, .int (nI (k))), (1, .int (nI (h))), (0, .ref (62))] [] x_SH M1 J 0 0 := by
  intro m
  induction m with
  | zero =>
    intro k M1 hk hM
    refine xr_iload_n dX10_fallOf_10 0 rfl ?_
    refine xr_sipush (v := 200) dX10_fallOf_11 rfl ?_
    refine xr_icmp_gt (tgt := 44) dX10_fallOf_14 rfl (fun _ => ?_) (fun c => absurd (nI_lt (a := 200) (b := k) (by omega) (by omega)) c)
    refine xb_ls (ls2 := [(1, .int (nI (h))), (0, .ref (62))]) [1, 2] rfl ?_
    exact hC _ hM
  | succ m ih =>
    intro k M1 hk hM
    have hkN : k < 201 := by omega
    refine xr_iload_n dX10_fallOf_10 0 rfl ?_
    refine xr_sipush (v := 200) dX10_fallOf_11 rfl ?_
    refine xr_icmp_gt (tgt := 44) dX10_fallOf_14 rfl (fun c => absurd c (nI_nlt (a := 200) (b := k) (by omega) (by omega))) (fun _ => ?_)
    refine xr_aload_n dX10_fallOf_17 2 rfl ?_
    refine xr_getR flX10_43 dX10_fallOf_18 s_62 rfl ?_
    refine xr_iload_n dX10_fallOf_21 1 rfl ?_
    refine xb_iald (j := h) (v := M1 74 h) dX10_fallOf_22 s_74 (by omega) (by decide) rfl ?_
    refine xr_if_ne (tgt := 28) dX10_fallOf_23 rfl (fun c1 => ?_) (fun c1 => ?_)
    · refine xr_aload_n dX10_fallOf_28 2 rfl ?_
      refine xr_aload_n dX10_fallOf_29 2 rfl ?_
      refine xb_get (v := M1 62 9) flX10_151 dX10_fallOf_30 s_62 rfl rfl ?_
      refine xr_iload_n dX10_fallOf_33 0 rfl ?_
      refine xr_iadd dX10_fallOf_34 ?_
      refine xr_callV (As := [.int (((M1 62 9) + (nI (k))))]) (rest := []) mlX10_255 (g_X10_tickGoes ((M1 62 9) + (nI (k))) h_hn (Eq.trans (hM 62 6 (by decide)) e_hn) (fun kw hkw => by rw [show M1 63 (5 + kw) = M 63 (5 + kw) from (Eq.trans (hM 63 (5 + kw) (by unfold WR1; omega)) rfl)]; exact hw kw hkw) (by rw [show M1 63 16 = M 63 16 from (Eq.trans (hM 63 16 (by unfold WR1; omega)) rfl)]; exact hbt) (by rw [show M1 62 13 = M 62 13 from (Eq.trans (hM 62 13 (by unfold WR1; omega)) rfl)]; exact htx)) dX10_fallOf_35 s_62 rfl rfl (Nat.le_of_ble_eq_true rfl) (by decide) ⟨by decide, by decide⟩ (fun v s2 M2 J2 hq => ?_)
      obtain ⟨rfl, rfl, rfl, k3, _⟩ := hq
      try dsimp only [Option.toList, List.cons_append, List.nil_append]
      refine xr_iinc (v := nI (k + 1)) (ls2 := [(2, .int (nI (k + 1))), (1, .int (nI (h))), (0, .ref (62))]) dX10_fallOf_38 0 rfl (nI_1 _) (by decide) rfl ?_
      refine xr_goto (tgt := 10) dX10_fallOf_41 rfl ?_
      refine xb_ls (ls2 := [(2, .int (nI (k + 1))), (1, .int (nI (h))), (0, .ref (62))]) [0, 1, 2] rfl ?_
      exact ih (k + 1) M2 (by omega) (Ke.tr (fun _ _ h => h) hM k3)
    · refine xr_iload_n dX10_fallOf_26 0 rfl ?_
      exact xr_iret dX10_fallOf_27 rfl rfl (hR _ _ hM)
set_option maxRecDepth 100000 in
set_option maxHeartbeats 4000000 in
theorem g_X10_fallOf {h : Nat} (hh : h < 5) {l : Launch} {G : xG} {M : xM} {J : xJ} {hn : Nat} (h_hn : hn ≤ 5) (e_hn : M 62 6 = nI hn) (hw : ∀ k, k < hn → M 63 (5 + k) ≠ 0) (hbt : M 63 16 ≠ 0) (htx : M 62 13 = -1 ∨ ∃ n : Nat, n ≤ 120 ∧ M 62 13 = nI n) : x_M l G fX10_fallOf 62 0 0 [.ref (62), .int (nI (h))] x_SH M J (qKI WR1 M J (fun r M2 => True)) := by
  refine xb_of pX10 (Nat.le_of_ble_eq_true rfl) rfl ?_
  refine xr_aload_n dX10_fallOf_0 0 rfl ?_
  refine xr_aload_n dX10_fallOf_1 0 rfl ?_
  refine xr_callV (As := []) (rest := [.ref (62)]) mlX10_246 (g_X10_upNow h_hn e_hn (fun kw hkw => by rw [show M 63 (5 + kw) = M 63 (5 + kw) from rfl]; exact hw kw hkw) (by rw [show M 63 16 = M 63 16 from rfl]; exact hbt) (by rw [show M 62 13 = M 62 13 from rfl]; exact htx)) dX10_fallOf_2 s_62 rfl rfl (Nat.le_of_ble_eq_true rfl) (by decide) ⟨by decide, by decide⟩ (fun v s2 M9 J2 hq => ?_)
  obtain ⟨r1, rfl, rfl, rfl, rfl, _⟩ := hq
  try dsimp only [Option.toList, List.cons_append, List.nil_append]
  refine xr_callV (As := [.int (r1)]) (rest := []) mlX10_249 (g_X10_begins1 r1 h_hn e_hn (fun kw hkw => by rw [show M 63 (5 + kw) = M 63 (5 + kw) from rfl]; exact hw kw hkw) (by rw [show M 63 16 = M 63 16 from rfl]; exact hbt) (by rw [show M 62 13 = M 62 13 from rfl]; exact htx)) dX10_fallOf_5 s_62 rfl rfl (Nat.le_of_ble_eq_true rfl) (by decide) ⟨by decide, by decide⟩ (fun v s2 M2 J2 hq => ?_)
  obtain ⟨rfl, rfl, rfl, k3, _⟩ := hq
  try dsimp only [Option.toList, List.cons_append, List.nil_append]
  refine xr_iconst (v := 0) dX10_fallOf_8 rfl ?_
  refine xr_istore_n (ls2 := [(2, .int (0)), (0, .ref (62)), (1, .int (nI (h)))]) dX10_fallOf_9 (by decide) rfl ?_
  refine xb_ls (ls2 := [(2, .int (nI (0))), (1, .int (nI (h))), (0, .ref (62))]) [0, 2, 1] rfl ?_
  refine rf_l hh h_hn (Eq.trans (k3 62 6 (by decide)) e_hn) (fun kw hkw => by rw [show M2 63 (5 + kw) = M 63 (5 + kw) from (Eq.trans (k3 63 (5 + kw) (by unfold WR1; omega)) rfl)]; exact hw kw hkw) (by rw [show M2 63 16 = M 63 16 from (Eq.trans (k3 63 16 (by unfold WR1; omega)) rfl)]; exact hbt) (by rw [show M2 62 13 = M 62 13 from (Eq.trans (k3 62 13 (by unfold WR1; omega)) rfl)]; exact htx) (fun M4 k5 => ?_) (fun r M2 hk => ⟨_, rfl, rfl, rfl, Ke.tr (fun _ _ h => h) (Ke.tr (fun _ _ h => h) Ke.rf k3) hk, trivial⟩) (201 - 0) 0 M2 (by omega) Ke.rf
  refine xr_sipush (v := 201) dX10_fallOf_44 rfl ?_
  exact xr_iret dX10_fallOf_47 rfl rfl (⟨_, rfl, rfl, rfl, (Ke.tr (fun _ _ h => h) (Ke.tr (fun _ _ h => h) Ke.rf k3) k5), trivial⟩)
set_option maxRecDepth 100000 in
set_option maxHeartbeats 4000000 in
theorem rl_l {se : Int32} {l : Launch} {G : xG} {M : xM} {J : xJ} {Q : xQ} {hn : Nat} (h_hn : hn ≤ 5) (e_hn : M 62 6 = nI hn) (hw : ∀ k, k < hn → M 63 (5 + k) ≠ 0) (hbt : M 63 16 ≠ 0) (htx : M 62 13 = -1 ∨ ∃ n : Nat, n ≤ 120 ∧ M 62 13 = nI n) (hC : ∀ (M2 : xM), Ke WR1 M M2 → x_X l G fX10_lastsOf 62 0 0 Q 40 [(1, .int (se)), (0, .ref (62))] [] x_SH M2 J 0 0) (hR : ∀ (r : Int32) (M2 : xM), Ke WR1 M M2 → Q (some (.int r)) x_SH M2 J) : ∀ (m k : Nat) (M1 : xM), k + m = 200 → Ke WR1 M M1 → x_X l G fX10_lastsOf 62 0 0 Q 7 [(2, .int (nI (k))), (1, .int (se)), (0, .ref (62))] [] x_SH M1 J 0 0 := by
  intro m
  induction m with
  | zero =>
    intro k M1 hk hM
    refine xr_iload_n dX10_lastsOf_7 0 rfl ?_
    refine xr_sipush (v := 200) dX10_lastsOf_8 rfl ?_
    refine xr_icmp_ge (tgt := 40) dX10_lastsOf_11 rfl (fun _ => ?_) (fun c => absurd (nI_le (a := 200) (b := k) (by omega) (by omega)) c)
    refine xb_ls (ls2 := [(1, .int (se)), (0, .ref (62))]) [1, 2] rfl ?_
    exact hC _ hM
  | succ m ih =>
    intro k M1 hk hM
    have hkN : k < 200 := by omega
    refine xr_iload_n dX10_lastsOf_7 0 rfl ?_
    refine xr_sipush (v := 200) dX10_lastsOf_8 rfl ?_
    refine xr_icmp_ge (tgt := 40) dX10_lastsOf_11 rfl (fun c => absurd c (nI_ge (a := k) (b := 200) (by omega) (by omega))) (fun _ => ?_)
    refine xr_aload_n dX10_lastsOf_14 2 rfl ?_
    refine xr_aload_n dX10_lastsOf_15 2 rfl ?_
    refine xb_get (v := M1 62 9) flX10_151 dX10_lastsOf_16 s_62 rfl rfl ?_
    refine xr_iload_n dX10_lastsOf_19 0 rfl ?_
    refine xr_iadd dX10_lastsOf_20 ?_
    refine xr_callV (As := [.int (((M1 62 9) + (nI (k))))]) (rest := []) mlX10_255 (g_X10_tickGoes ((M1 62 9) + (nI (k))) h_hn (Eq.trans (hM 62 6 (by decide)) e_hn) (fun kw hkw => by rw [show M1 63 (5 + kw) = M 63 (5 + kw) from (Eq.trans (hM 63 (5 + kw) (by unfold WR1; omega)) rfl)]; exact hw kw hkw) (by rw [show M1 63 16 = M 63 16 from (Eq.trans (hM 63 16 (by unfold WR1; omega)) rfl)]; exact hbt) (by rw [show M1 62 13 = M 62 13 from (Eq.trans (hM 62 13 (by unfold WR1; omega)) rfl)]; exact htx)) dX10_lastsOf_21 s_62 rfl rfl (Nat.le_of_ble_eq_true rfl) (by decide) ⟨by decide, by decide⟩ (fun v s2 M1 J2 hq => ?_)
    obtain ⟨rfl, rfl, rfl, k2, _⟩ := hq
    try dsimp only [Option.toList, List.cons_append, List.nil_append]
    refine xr_aload_n dX10_lastsOf_24 2 rfl ?_
    refine xr_iload_n dX10_lastsOf_25 1 rfl ?_
    refine xr_callV (As := [.int (se)]) (rest := []) mlX10_252 (g_X10_lyingOf se h_hn (Eq.trans (k2 62 6 (by decide)) (Eq.trans (hM 62 6 (by decide)) e_hn)) (fun kw hkw => by rw [show M1 63 (5 + kw) = M 63 (5 + kw) from (Eq.trans (k2 63 (5 + kw) (by unfold WR1; omega)) (Eq.trans (hM 63 (5 + kw) (by unfold WR1; omega)) rfl))]; exact hw kw hkw) (by rw [show M1 63 16 = M 63 16 from (Eq.trans (k2 63 16 (by unfold WR1; omega)) (Eq.trans (hM 63 16 (by unfold WR1; omega)) rfl))]; exact hbt) (by rw [show M1 62 13 = M 62 13 from (Eq.trans (k2 62 13 (by unfold WR1; omega)) (Eq.trans (hM 62 13 (by unfold WR1; omega)) rfl))]; exact htx)) dX10_lastsOf_26 s_62 rfl rfl (Nat.le_of_ble_eq_true rfl) (by decide) ⟨by decide, by decide⟩ (fun v s2 M9 J2 hq => ?_)
    obtain ⟨r3, rfl, rfl, rfl, rfl, _⟩ := hq
    try dsimp only [Option.toList, List.cons_append, List.nil_append]
    refine xr_if_le (tgt := 34) dX10_lastsOf_29 rfl (fun c4 => ?_) (fun c4 => ?_)
    · refine xr_iinc (v := nI (k + 1)) (ls2 := [(2, .int (nI (k + 1))), (1, .int (se)), (0, .ref (62))]) dX10_lastsOf_34 0 rfl (nI_1 _) (by decide) rfl ?_
      refine xr_goto (tgt := 7) dX10_lastsOf_37 rfl ?_
      refine xb_ls (ls2 := [(2, .int (nI (k + 1))), (1, .int (se)), (0, .ref (62))]) [0, 1, 2] rfl ?_
      exact ih (k + 1) M1 (by omega) (Ke.tr (fun _ _ h => h) hM k2)
    · refine xr_iload_n dX10_lastsOf_32 0 rfl ?_
      exact xr_iret dX10_lastsOf_33 rfl rfl (hR _ _ (Ke.tr (fun _ _ h => h) hM k2))
set_option maxRecDepth 100000 in
set_option maxHeartbeats 4000000 in
theorem g_X10_lastsOf (se : Int32) {l : Launch} {G : xG} {M : xM} {J : xJ} {hn : Nat} (h_hn : hn ≤ 5) (e_hn : M 62 6 = nI hn) (hw : ∀ k, k < hn → M 63 (5 + k) ≠ 0) (hbt : M 63 16 ≠ 0) (htx : M 62 13 = -1 ∨ ∃ n : Nat, n ≤ 120 ∧ M 62 13 = nI n) : x_M l G fX10_lastsOf 62 0 0 [.ref (62), .int (se)] x_SH M J (qKI WR1 M J (fun r M2 => True)) := by
  refine xb_of pX10 (Nat.le_of_ble_eq_true rfl) rfl ?_
  refine xr_aload_n dX10_lastsOf_0 0 rfl ?_
  refine xr_iload_n dX10_lastsOf_1 1 rfl ?_
  refine xr_callV (As := [.int (se)]) (rest := []) mlX10_249 (g_X10_begins1 se h_hn e_hn (fun kw hkw => by rw [show M 63 (5 + kw) = M 63 (5 + kw) from rfl]; exact hw kw hkw) (by rw [show M 63 16 = M 63 16 from rfl]; exact hbt) (by rw [show M 62 13 = M 62 13 from rfl]; exact htx)) dX10_lastsOf_2 s_62 rfl rfl (Nat.le_of_ble_eq_true rfl) (by decide) ⟨by decide, by decide⟩ (fun v s2 M1 J2 hq => ?_)
  obtain ⟨rfl, rfl, rfl, k2, _⟩ := hq
  try dsimp only [Option.toList, List.cons_append, List.nil_append]
  refine xr_iconst (v := 0) dX10_lastsOf_5 rfl ?_
  refine xr_istore_n (ls2 := [(2, .int (0)), (0, .ref (62)), (1, .int (se))]) dX10_lastsOf_6 (by decide) rfl ?_
  refine xb_ls (ls2 := [(2, .int (nI (0))), (1, .int (se)), (0, .ref (62))]) [0, 2, 1] rfl ?_
  refine rl_l h_hn (Eq.trans (k2 62 6 (by decide)) e_hn) (fun kw hkw => by rw [show M1 63 (5 + kw) = M 63 (5 + kw) from (Eq.trans (k2 63 (5 + kw) (by unfold WR1; omega)) rfl)]; exact hw kw hkw) (by rw [show M1 63 16 = M 63 16 from (Eq.trans (k2 63 16 (by unfold WR1; omega)) rfl)]; exact hbt) (by rw [show M1 62 13 = M 62 13 from (Eq.trans (k2 62 13 (by unfold WR1; omega)) rfl)]; exact htx) (fun M3 k4 => ?_) (fun r M2 hk => ⟨_, rfl, rfl, rfl, Ke.tr (fun _ _ h => h) (Ke.tr (fun _ _ h => h) Ke.rf k2) hk, trivial⟩) (200 - 0) 0 M1 (by omega) Ke.rf
  refine xr_sipush (v := 200) dX10_lastsOf_40 rfl ?_
  exact xr_iret dX10_lastsOf_43 rfl rfl (⟨_, rfl, rfl, rfl, (Ke.tr (fun _ _ h => h) (Ke.tr (fun _ _ h => h) Ke.rf k2) k4), trivial⟩)
set_option maxRecDepth 100000 in
set_option maxHeartbeats 4000000 in
theorem fw_l {st to ti : Int32} {h : Nat} (hh : h < 5) {l : Launch} {G : xG} {M : xM} {J : xJ} {Q : xQ} {hn : Nat} (h_hn : hn ≤ 5) (e_hn : M 62 6 = nI hn) (hw : ∀ k, k < hn → M 63 (5 + k) ≠ 0) (hbt : M 63 16 ≠ 0) (htx : M 62 13 = -1 ∨ ∃ n : Nat, n ≤ 120 ∧ M 62 13 = nI n) (hC : ∀ (M2 : xM), Ke WR1 M M2 → x_X l G fX10_fallWith 61 0 0 Q 97 [(4, .int (st)), (3, .int (to)), (2, .int (ti)), (1, .int (nI (h))), (0, .ref (62))] [] x_SH M2 J 0 0) (hR : ∀ (r : Int32) (M2 : xM), Ke WR1 M M2 → Q (some (.int r)) x_SH M2 J) : ∀ (m k : Nat) (M1 : xM), k + m = 201 → Ke WR1 M M1 → x_X l G fX10_fallWith 61 0 0 Q 11 [(5, .int (nI (k))), (4, .int (st)), (3, .int (to)), (2, .int (ti)), (1, .int (nI (h))), (0, .ref (62))] [] x_SH M1 J 0 0 := by
  intro m
  induction m with
  | zero =>
    intro k M1 hk hM
    refine xr_iload dX10_fallWith_11 0 rfl ?_
    refine xr_sipush (v := 200) dX10_fallWith_13 rfl ?_
    refine xr_icmp_gt (tgt := 97) dX10_fallWith_16 rfl (fun _ => ?_) (fun c => absurd (nI_lt (a := 200) (b := k) (by omega) (by omega)) c)
    refine xb_ls (ls2 := [(4, .int (st)), (3, .int (to)), (2, .int (ti)), (1, .int (nI (h))), (0, .ref (62))]) [1, 2, 3, 4, 5] rfl ?_
    exact hC _ hM
  | succ m ih =>
    intro k M1 hk hM
    have hkN : k < 201 := by omega
    refine xr_iload dX10_fallWith_11 0 rfl ?_
    refine xr_sipush (v := 200) dX10_fallWith_13 rfl ?_
    refine xr_icmp_gt (tgt := 97) dX10_fallWith_16 rfl (fun c => absurd c (nI_nlt (a := 200) (b := k) (by omega) (by omega))) (fun _ => ?_)
    refine xr_aload_n dX10_fallWith_19 5 rfl ?_
    refine xr_getR flX10_43 dX10_fallWith_20 s_62 rfl ?_
    refine xr_iload_n dX10_fallWith_23 4 rfl ?_
    refine xb_iald (j := h) (v := M1 74 h) dX10_fallWith_24 s_74 (by omega) (by decide) rfl ?_
    refine xr_if_ne (tgt := 31) dX10_fallWith_25 rfl (fun c1 => ?_) (fun c1 => ?_)
    · refine xr_aload_n dX10_fallWith_31 5 rfl ?_
      refine xr_aload_n dX10_fallWith_32 5 rfl ?_
      refine xb_get (v := M1 62 9) flX10_151 dX10_fallWith_33 s_62 rfl rfl ?_
      refine xr_iload dX10_fallWith_36 0 rfl ?_
      refine xr_iadd dX10_fallWith_38 ?_
      refine xr_callV (As := [.int (((M1 62 9) + (nI (k))))]) (rest := []) mlX10_228 (g_X10_isPush ((M1 62 9) + (nI (k))) h_hn (Eq.trans (hM 62 6 (by decide)) e_hn) (fun kw hkw => by rw [show M1 63 (5 + kw) = M 63 (5 + kw) from (Eq.trans (hM 63 (5 + kw) (by unfold WR1; omega)) rfl)]; exact hw kw hkw) (by rw [show M1 63 16 = M 63 16 from (Eq.trans (hM 63 16 (by unfold WR1; omega)) rfl)]; exact hbt) (by rw [show M1 62 13 = M 62 13 from (Eq.trans (hM 62 13 (by unfold WR1; omega)) rfl)]; exact htx)) dX10_fallWith_39 s_62 rfl rfl (Nat.le_of_ble_eq_true rfl) (by decide) ⟨by decide, by decide⟩ (fun v s2 M9 J2 hq => ?_)
      obtain ⟨r3, rfl, rfl, rfl, rfl, hx2⟩ := hq
      try dsimp only [Option.toList, List.cons_append, List.nil_append]
      refine xr_if_eq (tgt := 67) dX10_fallWith_42 rfl (fun c4 => ?_) (fun c4 => ?_)
      · refine xr_iload dX10_fallWith_67 0 rfl ?_
        refine xr_iload_n dX10_fallWith_69 3 rfl ?_
        refine xr_icmp_ne (tgt := 80) dX10_fallWith_70 rfl (fun c5 => ?_) (fun c5 => ?_)
        · refine xr_aload_n dX10_fallWith_80 5 rfl ?_
          refine xr_aload_n dX10_fallWith_81 5 rfl ?_
          refine xb_get (v := M1 62 9) flX10_151 dX10_fallWith_82 s_62 rfl rfl ?_
          refine xr_iload dX10_fallWith_85 0 rfl ?_
          refine xr_iadd dX10_fallWith_87 ?_
          refine xr_callV (As := [.int (((M1 62 9) + (nI (k))))]) (rest := []) mlX10_240 (g_X10_turns ((M1 62 9) + (nI (k))) h_hn (Eq.trans (hM 62 6 (by decide)) e_hn) (fun kw hkw => by rw [show M1 63 (5 + kw) = M 63 (5 + kw) from (Eq.trans (hM 63 (5 + kw) (by unfold WR1; omega)) rfl)]; exact hw kw hkw) (by rw [show M1 63 16 = M 63 16 from (Eq.trans (hM 63 16 (by unfold WR1; omega)) rfl)]; exact hbt) (by rw [show M1 62 13 = M 62 13 from (Eq.trans (hM 62 13 (by unfold WR1; omega)) rfl)]; exact htx)) dX10_fallWith_88 s_62 rfl rfl (Nat.le_of_ble_eq_true rfl) (by decide) ⟨by decide, by decide⟩ (fun v s2 M6 J2 hq => ?_)
          obtain ⟨rfl, rfl, rfl, k7, _⟩ := hq
          try dsimp only [Option.toList, List.cons_append, List.nil_append]
          refine xr_iinc (v := nI (k + 1)) (ls2 := [(5, .int (nI (k + 1))), (4, .int (st)), (3, .int (to)), (2, .int (ti)), (1, .int (nI (h))), (0, .ref (62))]) dX10_fallWith_91 0 rfl (nI_1 _) (by decide) rfl ?_
          refine xr_goto (tgt := 11) dX10_fallWith_94 rfl ?_
          refine xb_ls (ls2 := [(5, .int (nI (k + 1))), (4, .int (st)), (3, .int (to)), (2, .int (ti)), (1, .int (nI (h))), (0, .ref (62))]) [0, 1, 2, 3, 4, 5] rfl ?_
          exact ih (k + 1) M6 (by omega) (Ke.tr (fun _ _ h => h) hM k7)
        · refine xr_aload_n dX10_fallWith_73 5 rfl ?_
          refine xr_iload_n dX10_fallWith_74 2 rfl ?_
          refine xr_iload dX10_fallWith_75 1 rfl ?_
          refine xr_callV (As := [.int (to), .int (st)]) (rest := []) mlX10_234 (g_X10_pushes to st h_hn (Eq.trans (hM 62 6 (by decide)) e_hn) (fun kw hkw => by rw [show M1 63 (5 + kw) = M 63 (5 + kw) from (Eq.trans (hM 63 (5 + kw) (by unfold WR1; omega)) rfl)]; exact hw kw hkw) (by rw [show M1 63 16 = M 63 16 from (Eq.trans (hM 63 16 (by unfold WR1; omega)) rfl)]; exact hbt) (by rw [show M1 62 13 = M 62 13 from (Eq.trans (hM 62 13 (by unfold WR1; omega)) rfl)]; exact htx)) dX10_fallWith_77 s_62 rfl rfl (Nat.le_of_ble_eq_true rfl) (by decide) ⟨by decide, by decide⟩ (fun v s2 M8 J2 hq => ?_)
          obtain ⟨rfl, rfl, rfl, k9, _⟩ := hq
          try dsimp only [Option.toList, List.cons_append, List.nil_append]
          refine xr_aload_n dX10_fallWith_80 5 rfl ?_
          refine xr_aload_n dX10_fallWith_81 5 rfl ?_
          refine xb_get (v := M8 62 9) flX10_151 dX10_fallWith_82 s_62 rfl rfl ?_
          refine xr_iload dX10_fallWith_85 0 rfl ?_
          refine xr_iadd dX10_fallWith_87 ?_
          refine xr_callV (As := [.int (((M8 62 9) + (nI (k))))]) (rest := []) mlX10_240 (g_X10_turns ((M8 62 9) + (nI (k))) h_hn (Eq.trans (k9 62 6 (by decide)) (Eq.trans (hM 62 6 (by decide)) e_hn)) (fun kw hkw => by rw [show M8 63 (5 + kw) = M 63 (5 + kw) from (Eq.trans (k9 63 (5 + kw) (by unfold WR1; omega)) (Eq.trans (hM 63 (5 + kw) (by unfold WR1; omega)) rfl))]; exact hw kw hkw) (by rw [show M8 63 16 = M 63 16 from (Eq.trans (k9 63 16 (by unfold WR1; omega)) (Eq.trans (hM 63 16 (by unfold WR1; omega)) rfl))]; exact hbt) (by rw [show M8 62 13 = M 62 13 from (Eq.trans (k9 62 13 (by unfold WR1; omega)) (Eq.trans (hM 62 13 (by unfold WR1; omega)) rfl))]; exact htx)) dX10_fallWith_88 s_62 rfl rfl (Nat.le_of_ble_eq_true rfl) (by decide) ⟨by decide, by decide⟩ (fun v s2 M10 J2 hq => ?_)
          obtain ⟨rfl, rfl, rfl, k11, _⟩ := hq
          try dsimp only [Option.toList, List.cons_append, List.nil_append]
          refine xr_iinc (v := nI (k + 1)) (ls2 := [(5, .int (nI (k + 1))), (4, .int (st)), (3, .int (to)), (2, .int (ti)), (1, .int (nI (h))), (0, .ref (62))]) dX10_fallWith_91 0 rfl (nI_1 _) (by decide) rfl ?_
          refine xr_goto (tgt := 11) dX10_fallWith_94 rfl ?_
          refine xb_ls (ls2 := [(5, .int (nI (k + 1))), (4, .int (st)), (3, .int (to)), (2, .int (ti)), (1, .int (nI (h))), (0, .ref (62))]) [0, 1, 2, 3, 4, 5] rfl ?_
          exact ih (k + 1) M10 (by omega) (Ke.tr (fun _ _ h => h) (Ke.tr (fun _ _ h => h) hM k9) k11)
      · refine xr_aload_n dX10_fallWith_45 5 rfl ?_
        refine xr_aload_n dX10_fallWith_46 5 rfl ?_
        refine xr_aload_n dX10_fallWith_47 5 rfl ?_
        refine xb_get (v := M1 62 9) flX10_151 dX10_fallWith_48 s_62 rfl rfl ?_
        refine xr_iload dX10_fallWith_51 0 rfl ?_
        refine xr_iadd dX10_fallWith_53 ?_
        refine xr_callV (As := [.int (((M1 62 9) + (nI (k))))]) (rest := [.ref (62)]) mlX10_231 (g_X10_toOf ((M1 62 9) + (nI (k))) h_hn (Eq.trans (hM 62 6 (by decide)) e_hn) (fun kw hkw => by rw [show M1 63 (5 + kw) = M 63 (5 + kw) from (Eq.trans (hM 63 (5 + kw) (by unfold WR1; omega)) rfl)]; exact hw kw hkw) (by rw [show M1 63 16 = M 63 16 from (Eq.trans (hM 63 16 (by unfold WR1; omega)) rfl)]; exact hbt) (by rw [show M1 62 13 = M 62 13 from (Eq.trans (hM 62 13 (by unfold WR1; omega)) rfl)]; exact htx)) dX10_fallWith_54 s_62 rfl rfl (Nat.le_of_ble_eq_true rfl) (by decide) ⟨by decide, by decide⟩ (fun v s2 M9 J2 hq => ?_)
        obtain ⟨r12, rfl, rfl, rfl, rfl, _⟩ := hq
        try dsimp only [Option.toList, List.cons_append, List.nil_append]
        refine xr_aload_n dX10_fallWith_57 5 rfl ?_
        refine xr_getR flX10_9 dX10_fallWith_58 s_62 rfl ?_
        refine xr_bipush (v := 18) dX10_fallWith_61 rfl ?_
        refine xb_iald (j := 18) (v := M1 63 18) dX10_fallWith_63 s_63 (by decide) (by decide) rfl ?_
        refine xr_callV (As := [.int (r12), .int (M1 63 18)]) (rest := []) mlX10_234 (g_X10_pushes r12 (M1 63 18) h_hn (Eq.trans (hM 62 6 (by decide)) e_hn) (fun kw hkw => by rw [show M1 63 (5 + kw) = M 63 (5 + kw) from (Eq.trans (hM 63 (5 + kw) (by unfold WR1; omega)) rfl)]; exact hw kw hkw) (by rw [show M1 63 16 = M 63 16 from (Eq.trans (hM 63 16 (by unfold WR1; omega)) rfl)]; exact hbt) (by rw [show M1 62 13 = M 62 13 from (Eq.trans (hM 62 13 (by unfold WR1; omega)) rfl)]; exact htx)) dX10_fallWith_64 s_62 rfl rfl (Nat.le_of_ble_eq_true rfl) (by decide) ⟨by decide, by decide⟩ (fun v s2 M13 J2 hq => ?_)
        obtain ⟨rfl, rfl, rfl, k14, _⟩ := hq
        try dsimp only [Option.toList, List.cons_append, List.nil_append]
        refine xr_iload dX10_fallWith_67 0 rfl ?_
        refine xr_iload_n dX10_fallWith_69 3 rfl ?_
        refine xr_icmp_ne (tgt := 80) dX10_fallWith_70 rfl (fun c15 => ?_) (fun c15 => ?_)
        · refine xr_aload_n dX10_fallWith_80 5 rfl ?_
          refine xr_aload_n dX10_fallWith_81 5 rfl ?_
          refine xb_get (v := M13 62 9) flX10_151 dX10_fallWith_82 s_62 rfl rfl ?_
          refine xr_iload dX10_fallWith_85 0 rfl ?_
          refine xr_iadd dX10_fallWith_87 ?_
          refine xr_callV (As := [.int (((M13 62 9) + (nI (k))))]) (rest := []) mlX10_240 (g_X10_turns ((M13 62 9) + (nI (k))) h_hn (Eq.trans (k14 62 6 (by decide)) (Eq.trans (hM 62 6 (by decide)) e_hn)) (fun kw hkw => by rw [show M13 63 (5 + kw) = M 63 (5 + kw) from (Eq.trans (k14 63 (5 + kw) (by unfold WR1; omega)) (Eq.trans (hM 63 (5 + kw) (by unfold WR1; omega)) rfl))]; exact hw kw hkw) (by rw [show M13 63 16 = M 63 16 from (Eq.trans (k14 63 16 (by unfold WR1; omega)) (Eq.trans (hM 63 16 (by unfold WR1; omega)) rfl))]; exact hbt) (by rw [show M13 62 13 = M 62 13 from (Eq.trans (k14 62 13 (by unfold WR1; omega)) (Eq.trans (hM 62 13 (by unfold WR1; omega)) rfl))]; exact htx)) dX10_fallWith_88 s_62 rfl rfl (Nat.le_of_ble_eq_true rfl) (by decide) ⟨by decide, by decide⟩ (fun v s2 M16 J2 hq => ?_)
          obtain ⟨rfl, rfl, rfl, k17, _⟩ := hq
          try dsimp only [Option.toList, List.cons_append, List.nil_append]
          refine xr_iinc (v := nI (k + 1)) (ls2 := [(5, .int (nI (k + 1))), (4, .int (st)), (3, .int (to)), (2, .int (ti)), (1, .int (nI (h))), (0, .ref (62))]) dX10_fallWith_91 0 rfl (nI_1 _) (by decide) rfl ?_
          refine xr_goto (tgt := 11) dX10_fallWith_94 rfl ?_
          refine xb_ls (ls2 := [(5, .int (nI (k + 1))), (4, .int (st)), (3, .int (to)), (2, .int (ti)), (1, .int (nI (h))), (0, .ref (62))]) [0, 1, 2, 3, 4, 5] rfl ?_
          exact ih (k + 1) M16 (by omega) (Ke.tr (fun _ _ h => h) (Ke.tr (fun _ _ h => h) hM k14) k17)
        · refine xr_aload_n dX10_fallWith_73 5 rfl ?_
          refine xr_iload_n dX10_fallWith_74 2 rfl ?_
          refine xr_iload dX10_fallWith_75 1 rfl ?_
          refine xr_callV (As := [.int (to), .int (st)]) (rest := []) mlX10_234 (g_X10_pushes to st h_hn (Eq.trans (k14 62 6 (by decide)) (Eq.trans (hM 62 6 (by decide)) e_hn)) (fun kw hkw => by rw [show M13 63 (5 + kw) = M 63 (5 + kw) from (Eq.trans (k14 63 (5 + kw) (by unfold WR1; omega)) (Eq.trans (hM 63 (5 + kw) (by unfold WR1; omega)) rfl))]; exact hw kw hkw) (by rw [show M13 63 16 = M 63 16 from (Eq.trans (k14 63 16 (by unfold WR1; omega)) (Eq.trans (hM 63 16 (by unfold WR1; omega)) rfl))]; exact hbt) (by rw [show M13 62 13 = M 62 13 from (Eq.trans (k14 62 13 (by unfold WR1; omega)) (Eq.trans (hM 62 13 (by unfold WR1; omega)) rfl))]; exact htx)) dX10_fallWith_77 s_62 rfl rfl (Nat.le_of_ble_eq_true rfl) (by decide) ⟨by decide, by decide⟩ (fun v s2 M18 J2 hq => ?_)
          obtain ⟨rfl, rfl, rfl, k19, _⟩ := hq
          try dsimp only [Option.toList, List.cons_append, List.nil_append]
          refine xr_aload_n dX10_fallWith_80 5 rfl ?_
          refine xr_aload_n dX10_fallWith_81 5 rfl ?_
          refine xb_get (v := M18 62 9) flX10_151 dX10_fallWith_82 s_62 rfl rfl ?_
          refine xr_iload dX10_fallWith_85 0 rfl ?_
          refine xr_iadd dX10_fallWith_87 ?_
          refine xr_callV (As := [.int (((M18 62 9) + (nI (k))))]) (rest := []) mlX10_240 (g_X10_turns ((M18 62 9) + (nI (k))) h_hn (Eq.trans (k19 62 6 (by decide)) (Eq.trans (k14 62 6 (by decide)) (Eq.trans (hM 62 6 (by decide)) e_hn))) (fun kw hkw => by rw [show M18 63 (5 + kw) = M 63 (5 + kw) from (Eq.trans (k19 63 (5 + kw) (by unfold WR1; omega)) (Eq.trans (k14 63 (5 + kw) (by unfold WR1; omega)) (Eq.trans (hM 63 (5 + kw) (by unfold WR1; omega)) rfl)))]; exact hw kw hkw) (by rw [show M18 63 16 = M 63 16 from (Eq.trans (k19 63 16 (by unfold WR1; omega)) (Eq.trans (k14 63 16 (by unfold WR1; omega)) (Eq.trans (hM 63 16 (by unfold WR1; omega)) rfl)))]; exact hbt) (by rw [show M18 62 13 = M 62 13 from (Eq.trans (k19 62 13 (by unfold WR1; omega)) (Eq.trans (k14 62 13 (by unfold WR1; omega)) (Eq.trans (hM 62 13 (by unfold WR1; omega)) rfl)))]; exact htx)) dX10_fallWith_88 s_62 rfl rfl (Nat.le_of_ble_eq_true rfl) (by decide) ⟨by decide, by decide⟩ (fun v s2 M20 J2 hq => ?_)
          obtain ⟨rfl, rfl, rfl, k21, _⟩ := hq
          try dsimp only [Option.toList, List.cons_append, List.nil_append]
          refine xr_iinc (v := nI (k + 1)) (ls2 := [(5, .int (nI (k + 1))), (4, .int (st)), (3, .int (to)), (2, .int (ti)), (1, .int (nI (h))), (0, .ref (62))]) dX10_fallWith_91 0 rfl (nI_1 _) (by decide) rfl ?_
          refine xr_goto (tgt := 11) dX10_fallWith_94 rfl ?_
          refine xb_ls (ls2 := [(5, .int (nI (k + 1))), (4, .int (st)), (3, .int (to)), (2, .int (ti)), (1, .int (nI (h))), (0, .ref (62))]) [0, 1, 2, 3, 4, 5] rfl ?_
          exact ih (k + 1) M20 (by omega) (Ke.tr (fun _ _ h => h) (Ke.tr (fun _ _ h => h) (Ke.tr (fun _ _ h => h) hM k14) k19) k21)
    · refine xr_iload dX10_fallWith_28 0 rfl ?_
      exact xr_iret dX10_fallWith_30 rfl rfl (hR _ _ hM)
set_option maxRecDepth 100000 in
set_option maxHeartbeats 4000000 in
theorem g_X10_fallWith {h : Nat} (hh : h < 5) (ti to st : Int32) {l : Launch} {G : xG} {M : xM} {J : xJ} {hn : Nat} (h_hn : hn ≤ 5) (e_hn : M 62 6 = nI hn) (hw : ∀ k, k < hn → M 63 (5 + k) ≠ 0) (hbt : M 63 16 ≠ 0) (htx : M 62 13 = -1 ∨ ∃ n : Nat, n ≤ 120 ∧ M 62 13 = nI n) : x_M l G fX10_fallWith 61 0 0 [.ref (62), .int (nI (h)), .int (ti), .int (to), .int (st)] x_SH M J (qKI WR1 M J (fun r M2 => True)) := by
  refine xb_of pX10 (Nat.le_of_ble_eq_true rfl) rfl ?_
  refine xr_aload_n dX10_fallWith_0 0 rfl ?_
  refine xr_aload_n dX10_fallWith_1 0 rfl ?_
  refine xr_callV (As := []) (rest := [.ref (62)]) mlX10_246 (g_X10_upNow h_hn e_hn (fun kw hkw => by rw [show M 63 (5 + kw) = M 63 (5 + kw) from rfl]; exact hw kw hkw) (by rw [show M 63 16 = M 63 16 from rfl]; exact hbt) (by rw [show M 62 13 = M 62 13 from rfl]; exact htx)) dX10_fallWith_2 s_62 rfl rfl (Nat.le_of_ble_eq_true rfl) (by decide) ⟨by decide, by decide⟩ (fun v s2 M9 J2 hq => ?_)
  obtain ⟨r1, rfl, rfl, rfl, rfl, _⟩ := hq
  try dsimp only [Option.toList, List.cons_append, List.nil_append]
  refine xr_callV (As := [.int (r1)]) (rest := []) mlX10_249 (g_X10_begins1 r1 h_hn e_hn (fun kw hkw => by rw [show M 63 (5 + kw) = M 63 (5 + kw) from rfl]; exact hw kw hkw) (by rw [show M 63 16 = M 63 16 from rfl]; exact hbt) (by rw [show M 62 13 = M 62 13 from rfl]; exact htx)) dX10_fallWith_5 s_62 rfl rfl (Nat.le_of_ble_eq_true rfl) (by decide) ⟨by decide, by decide⟩ (fun v s2 M2 J2 hq => ?_)
  obtain ⟨rfl, rfl, rfl, k3, _⟩ := hq
  try dsimp only [Option.toList, List.cons_append, List.nil_append]
  refine xr_iconst (v := 0) dX10_fallWith_8 rfl ?_
  refine xr_istore (ls2 := [(5, .int (0)), (0, .ref (62)), (1, .int (nI (h))), (2, .int (ti)), (3, .int (to)), (4, .int (st))]) dX10_fallWith_9 (by decide) rfl ?_
  refine xb_ls (ls2 := [(5, .int (nI (0))), (4, .int (st)), (3, .int (to)), (2, .int (ti)), (1, .int (nI (h))), (0, .ref (62))]) [0, 5, 4, 3, 2, 1] rfl ?_
  refine fw_l hh h_hn (Eq.trans (k3 62 6 (by decide)) e_hn) (fun kw hkw => by rw [show M2 63 (5 + kw) = M 63 (5 + kw) from (Eq.trans (k3 63 (5 + kw) (by unfold WR1; omega)) rfl)]; exact hw kw hkw) (by rw [show M2 63 16 = M 63 16 from (Eq.trans (k3 63 16 (by unfold WR1; omega)) rfl)]; exact hbt) (by rw [show M2 62 13 = M 62 13 from (Eq.trans (k3 62 13 (by unfold WR1; omega)) rfl)]; exact htx) (fun M4 k5 => ?_) (fun r M2 hk => ⟨_, rfl, rfl, rfl, Ke.tr (fun _ _ h => h) (Ke.tr (fun _ _ h => h) Ke.rf k3) hk, trivial⟩) (201 - 0) 0 M2 (by omega) Ke.rf
  refine xr_sipush (v := 201) dX10_fallWith_97 rfl ?_
  exact xr_iret dX10_fallWith_100 rfl rfl (⟨_, rfl, rfl, rfl, (Ke.tr (fun _ _ h => h) (Ke.tr (fun _ _ h => h) Ke.rf k3) k5), trivial⟩)
set_option maxRecDepth 100000 in
set_option maxHeartbeats 4000000 in
theorem mi_i {kk : Nat} {wb lf la up : Int32} {l : Launch} {G : xG} {M : xM} {J : xJ} {Q : xQ} {hn : Nat} (h_hn : hn ≤ 5) (e_hn : M 62 6 = nI hn) (hw : ∀ k, k < hn → M 63 (5 + k) ≠ 0) (hbt : M 63 16 ≠ 0) (htx : M 62 13 = -1 ∨ ∃ n : Nat, n ≤ 120 ∧ M 62 13 = nI n) (hC : ∀ (al : Int32), x_X l G fX10_mistaken 62 0 0 Q 86 [(7, .int (al)), (6, .int (nI (kk))), (5, .int (wb)), (4, .int (lf)), (3, .int (la)), (2, .int (up)), (0, .ref (62))] [] x_SH M J 0 0) : ∀ (m k : Nat) (al : Int32), k + m = hn → x_X l G fX10_mistaken 62 0 0 Q 40 [(8, .int (nI (k))), (7, .int (al)), (6, .int (nI (kk))), (5, .int (wb)), (4, .int (lf)), (3, .int (la)), (2, .int (up)), (0, .ref (62))] [] x_SH M J 0 0 := by
  intro m
  induction m with
  | zero =>
    intro k al hk
    refine xr_iload dX10_mistaken_40 0 rfl ?_
    refine xr_aload_n dX10_mistaken_42 7 rfl ?_
    refine xb_get (v := nI (hn)) flX10_109 dX10_mistaken_43 s_62 rfl e_hn ?_
    refine xr_icmp_ge (tgt := 86) dX10_mistaken_46 rfl (fun _ => ?_) (fun c => absurd (nI_le (a := hn) (b := k) (by omega) (by omega)) c)
    refine xb_ls (ls2 := [(7, .int (al)), (6, .int (nI (kk))), (5, .int (wb)), (4, .int (lf)), (3, .int (la)), (2, .int (up)), (0, .ref (62))]) [1, 2, 3, 4, 5, 6, 7] rfl ?_
    exact hC al
  | succ m ih =>
    intro k al hk
    have hkN : k < hn := by omega
    refine xr_iload dX10_mistaken_40 0 rfl ?_
    refine xr_aload_n dX10_mistaken_42 7 rfl ?_
    refine xb_get (v := nI (hn)) flX10_109 dX10_mistaken_43 s_62 rfl e_hn ?_
    refine xr_icmp_ge (tgt := 86) dX10_mistaken_46 rfl (fun c => absurd c (nI_ge (a := k) (b := hn) (by omega) (by omega))) (fun _ => ?_)
    refine xr_iload dX10_mistaken_49 1 rfl ?_
    refine xr_iload_n dX10_mistaken_51 6 rfl ?_
    refine xr_iload dX10_mistaken_52 0 rfl ?_
    refine xr_callS (As := [.int (up), .int (nI (k))]) (rest := [.int (al)]) mlX10_214 (g_X10_isIn up (nI (k))) dX10_mistaken_54 rfl rfl (Nat.le_of_ble_eq_true rfl) (by decide) ⟨by decide, by decide⟩ (fun v s2 M9 J2 hq => ?_)
    obtain ⟨r2, rfl, rfl, rfl, rfl, hx1⟩ := hq
    try dsimp only [Option.toList, List.cons_append, List.nil_append]
    refine xr_if_eq (tgt := 72) dX10_mistaken_57 rfl (fun c3 => ?_) (fun c3 => ?_)
    · refine xr_iconst (v := 1) dX10_mistaken_72 rfl ?_
      refine xr_goto (tgt := 77) dX10_mistaken_73 rfl ?_
      refine xr_iand dX10_mistaken_77 ?_
      refine xr_istore (ls2 := [(7, .int ((al &&& 1))), (8, .int (nI (k))), (6, .int (nI (kk))), (5, .int (wb)), (4, .int (lf)), (3, .int (la)), (2, .int (up)), (0, .ref (62))]) dX10_mistaken_78 (by decide) rfl ?_
      refine xr_iinc (v := nI (k + 1)) (ls2 := [(8, .int (nI (k + 1))), (7, .int ((al &&& 1))), (6, .int (nI (kk))), (5, .int (wb)), (4, .int (lf)), (3, .int (la)), (2, .int (up)), (0, .ref (62))]) dX10_mistaken_80 1 rfl (nI_1 _) (by decide) rfl ?_
      refine xr_goto (tgt := 40) dX10_mistaken_83 rfl ?_
      refine xb_ls (ls2 := [(8, .int (nI (k + 1))), (7, .int ((al &&& 1))), (6, .int (nI (kk))), (5, .int (wb)), (4, .int (lf)), (3, .int (la)), (2, .int (up)), (0, .ref (62))]) [0, 1, 2, 3, 4, 5, 6, 7] rfl ?_
      exact ih (k + 1) (al &&& 1) (by omega)
    · refine xr_aload_n dX10_mistaken_60 7 rfl ?_
      refine xr_getR flX10_43 dX10_mistaken_61 s_62 rfl ?_
      refine xr_iload dX10_mistaken_64 0 rfl ?_
      refine xb_iald (j := k) (v := M 74 k) dX10_mistaken_66 s_74 (by omega) (by decide) rfl ?_
      refine xr_bipush (v := 20) dX10_mistaken_67 rfl ?_
      refine xr_icmp_ne (tgt := 76) dX10_mistaken_69 rfl (fun c4 => ?_) (fun c4 => ?_)
      · refine xr_iconst (v := 0) dX10_mistaken_76 rfl ?_
        refine xr_iand dX10_mistaken_77 ?_
        refine xr_istore (ls2 := [(7, .int ((al &&& 0))), (8, .int (nI (k))), (6, .int (nI (kk))), (5, .int (wb)), (4, .int (lf)), (3, .int (la)), (2, .int (up)), (0, .ref (62))]) dX10_mistaken_78 (by decide) rfl ?_
        refine xr_iinc (v := nI (k + 1)) (ls2 := [(8, .int (nI (k + 1))), (7, .int ((al &&& 0))), (6, .int (nI (kk))), (5, .int (wb)), (4, .int (lf)), (3, .int (la)), (2, .int (up)), (0, .ref (62))]) dX10_mistaken_80 1 rfl (nI_1 _) (by decide) rfl ?_
        refine xr_goto (tgt := 40) dX10_mistaken_83 rfl ?_
        refine xb_ls (ls2 := [(8, .int (nI (k + 1))), (7, .int ((al &&& 0))), (6, .int (nI (kk))), (5, .int (wb)), (4, .int (lf)), (3, .int (la)), (2, .int (up)), (0, .ref (62))]) [0, 1, 2, 3, 4, 5, 6, 7] rfl ?_
        exact ih (k + 1) (al &&& 0) (by omega)
      · refine xr_iconst (v := 1) dX10_mistaken_72 rfl ?_
        refine xr_goto (tgt := 77) dX10_mistaken_73 rfl ?_
        refine xr_iand dX10_mistaken_77 ?_
        refine xr_istore (ls2 := [(7, .int ((al &&& 1))), (8, .int (nI (k))), (6, .int (nI (kk))), (5, .int (wb)), (4, .int (lf)), (3, .int (la)), (2, .int (up)), (0, .ref (62))]) dX10_mistaken_78 (by decide) rfl ?_
        refine xr_iinc (v := nI (k + 1)) (ls2 := [(8, .int (nI (k + 1))), (7, .int ((al &&& 1))), (6, .int (nI (kk))), (5, .int (wb)), (4, .int (lf)), (3, .int (la)), (2, .int (up)), (0, .ref (62))]) dX10_mistaken_80 1 rfl (nI_1 _) (by decide) rfl ?_
        refine xr_goto (tgt := 40) dX10_mistaken_83 rfl ?_
        refine xb_ls (ls2 := [(8, .int (nI (k + 1))), (7, .int ((al &&& 1))), (6, .int (nI (kk))), (5, .int (wb)), (4, .int (lf)), (3, .int (la)), (2, .int (up)), (0, .ref (62))]) [0, 1, 2, 3, 4, 5, 6, 7] rfl ?_
        exact ih (k + 1) (al &&& 1) (by omega)
set_option maxRecDepth 100000 in
set_option maxHeartbeats 4000000 in
theorem mi_o {up : Int32} {l : Launch} {G : xG} {M : xM} {J : xJ} {Q : xQ} {hn : Nat} (h_hn : hn ≤ 5) (e_hn : M 62 6 = nI hn) (hw : ∀ k, k < hn → M 63 (5 + k) ≠ 0) (hbt : M 63 16 ≠ 0) (htx : M 62 13 = -1 ∨ ∃ n : Nat, n ≤ 120 ∧ M 62 13 = nI n) (hC : ∀ (wb : Int32) (lf : Int32) (la : Int32) (M2 : xM), Ke WR1 M M2 → x_X l G fX10_mistaken 62 0 0 Q 246 [(5, .int (wb)), (3, .int (la)), (0, .ref (62))] [] x_SH M2 J 0 0) : ∀ (m k : Nat) (wb : Int32) (lf : Int32) (la : Int32) (M1 : xM), k + m = 201 → Ke WR1 M M1 → x_X l G fX10_mistaken 62 0 0 Q 26 [(6, .int (nI (k))), (5, .int (wb)), (4, .int (lf)), (3, .int (la)), (2, .int (up)), (0, .ref (62))] [] x_SH M1 J 0 0 := by
  intro m
  induction m with
  | zero =>
    intro k wb lf la M1 hk hM
    refine xr_iload dX10_mistaken_26 0 rfl ?_
    refine xr_sipush (v := 200) dX10_mistaken_28 rfl ?_
    refine xr_icmp_gt (tgt := 246) dX10_mistaken_31 rfl (fun _ => ?_) (fun c => absurd (nI_lt (a := 200) (b := k) (by omega) (by omega)) c)
    refine xb_ls (ls2 := [(5, .int (wb)), (3, .int (la)), (0, .ref (62))]) [1, 3, 5] rfl ?_
    exact hC wb lf la _ hM
  | succ m ih =>
    intro k wb lf la M1 hk hM
    have hkN : k < 201 := by omega
    have joinB : ∀ (al wb lf la : Int32) (M3 : xM), Ke WR1 M M3 → x_X l G fX10_mistaken 62 0 0 Q 152 [(7, .int (al)), (6, .int (nI (k))), (5, .int (wb)), (4, .int (lf)), (3, .int (la)), (2, .int (up)), (0, .ref (62))] [] x_SH M3 J 0 0 := by
      intro al wb lf la M3 hJ
      refine xr_iload dX10_mistaken_152 1 rfl ?_
      refine xr_sipush (v := 200) dX10_mistaken_154 rfl ?_
      refine xr_icmp_ge (tgt := 240) dX10_mistaken_157 rfl (fun c1 => ?_) (fun c1 => ?_)
      · refine xr_iinc (v := nI (k + 1)) (ls2 := [(6, .int (nI (k + 1))), (7, .int (al)), (5, .int (wb)), (4, .int (lf)), (3, .int (la)), (2, .int (up)), (0, .ref (62))]) dX10_mistaken_240 1 rfl (nI_1 _) (by decide) rfl ?_
        refine xr_goto (tgt := 26) dX10_mistaken_243 rfl ?_
        refine xb_ls (ls2 := [(6, .int (nI (k + 1))), (5, .int (wb)), (4, .int (lf)), (3, .int (la)), (2, .int (up)), (0, .ref (62))]) [0, 2, 3, 4, 5, 6] rfl ?_
        exact ih (k + 1) wb lf la M3 (by omega) hJ
      · refine xr_aload_n dX10_mistaken_160 6 rfl ?_
        refine xr_aload_n dX10_mistaken_161 6 rfl ?_
        refine xb_get (v := M3 62 9) flX10_151 dX10_mistaken_162 s_62 rfl rfl ?_
        refine xr_iload dX10_mistaken_165 1 rfl ?_
        refine xr_iadd dX10_mistaken_167 ?_
        refine xr_callV (As := [.int (((M3 62 9) + (nI (k))))]) (rest := []) mlX10_228 (g_X10_isPush ((M3 62 9) + (nI (k))) h_hn (Eq.trans (hJ 62 6 (by decide)) e_hn) (fun kw hkw => by rw [show M3 63 (5 + kw) = M 63 (5 + kw) from (Eq.trans (hJ 63 (5 + kw) (by unfold WR1; omega)) rfl)]; exact hw kw hkw) (by rw [show M3 63 16 = M 63 16 from (Eq.trans (hJ 63 16 (by unfold WR1; omega)) rfl)]; exact hbt) (by rw [show M3 62 13 = M 62 13 from (Eq.trans (hJ 62 13 (by unfold WR1; omega)) rfl)]; exact htx)) dX10_mistaken_168 s_62 rfl rfl (Nat.le_of_ble_eq_true rfl) (by decide) ⟨by decide, by decide⟩ (fun v s2 M9 J2 hq => ?_)
        obtain ⟨r3, rfl, rfl, rfl, rfl, hx2⟩ := hq
        try dsimp only [Option.toList, List.cons_append, List.nil_append]
        refine xr_if_eq (tgt := 183) dX10_mistaken_171 rfl (fun c4 => ?_) (fun c4 => ?_)
        · refine xr_iconst (v := 0) dX10_mistaken_183 rfl ?_
          refine xr_istore (ls2 := [(8, .int (0)), (7, .int (al)), (6, .int (nI (k))), (5, .int (wb)), (4, .int (lf)), (3, .int (la)), (2, .int (up)), (0, .ref (62))]) dX10_mistaken_184 (by decide) rfl ?_
          refine xr_iload dX10_mistaken_186 4 rfl ?_
          refine xr_aload_n dX10_mistaken_188 7 rfl ?_
          refine xr_aload_n dX10_mistaken_189 7 rfl ?_
          refine xb_get (v := M3 62 9) flX10_151 dX10_mistaken_190 s_62 rfl rfl ?_
          refine xr_iload dX10_mistaken_193 2 rfl ?_
          refine xr_iadd dX10_mistaken_195 ?_
          refine xr_callV (As := [.int (((M3 62 9) + (nI (k))))]) (rest := [.int (lf)]) mlX10_228 (g_X10_isPush ((M3 62 9) + (nI (k))) h_hn (Eq.trans (hJ 62 6 (by decide)) e_hn) (fun kw hkw => by rw [show M3 63 (5 + kw) = M 63 (5 + kw) from (Eq.trans (hJ 63 (5 + kw) (by unfold WR1; omega)) rfl)]; exact hw kw hkw) (by rw [show M3 63 16 = M 63 16 from (Eq.trans (hJ 63 16 (by unfold WR1; omega)) rfl)]; exact hbt) (by rw [show M3 62 13 = M 62 13 from (Eq.trans (hJ 62 13 (by unfold WR1; omega)) rfl)]; exact htx)) dX10_mistaken_196 s_62 rfl rfl (Nat.le_of_ble_eq_true rfl) (by decide) ⟨by decide, by decide⟩ (fun v s2 M9 J2 hq => ?_)
          obtain ⟨r6, rfl, rfl, rfl, rfl, hx5⟩ := hq
          try dsimp only [Option.toList, List.cons_append, List.nil_append]
          refine xr_if_eq (tgt := 206) dX10_mistaken_199 rfl (fun c7 => ?_) (fun c7 => ?_)
          · refine xr_iconst (v := 0) dX10_mistaken_206 rfl ?_
            refine xr_isub dX10_mistaken_207 ?_
            refine xr_istore (ls2 := [(4, .int ((lf - 0))), (8, .int (0)), (7, .int (al)), (6, .int (nI (k))), (5, .int (wb)), (3, .int (la)), (2, .int (up)), (0, .ref (62))]) dX10_mistaken_208 (by decide) rfl ?_
            refine xr_iload dX10_mistaken_210 1 rfl ?_
            refine xr_if_eq (tgt := 229) dX10_mistaken_212 rfl (fun _ => ?_) (fun c => absurd (by decide) c)
            refine xr_aload_n dX10_mistaken_229 7 rfl ?_
            refine xr_aload_n dX10_mistaken_230 7 rfl ?_
            refine xb_get (v := M3 62 9) flX10_151 dX10_mistaken_231 s_62 rfl rfl ?_
            refine xr_iload dX10_mistaken_234 3 rfl ?_
            refine xr_iadd dX10_mistaken_236 ?_
            refine xr_callV (As := [.int (((M3 62 9) + (nI (k))))]) (rest := []) mlX10_255 (g_X10_tickGoes ((M3 62 9) + (nI (k))) h_hn (Eq.trans (hJ 62 6 (by decide)) e_hn) (fun kw hkw => by rw [show M3 63 (5 + kw) = M 63 (5 + kw) from (Eq.trans (hJ 63 (5 + kw) (by unfold WR1; omega)) rfl)]; exact hw kw hkw) (by rw [show M3 63 16 = M 63 16 from (Eq.trans (hJ 63 16 (by unfold WR1; omega)) rfl)]; exact hbt) (by rw [show M3 62 13 = M 62 13 from (Eq.trans (hJ 62 13 (by unfold WR1; omega)) rfl)]; exact htx)) dX10_mistaken_237 s_62 rfl rfl (Nat.le_of_ble_eq_true rfl) (by decide) ⟨by decide, by decide⟩ (fun v s2 M8 J2 hq => ?_)
            obtain ⟨rfl, rfl, rfl, k9, _⟩ := hq
            try dsimp only [Option.toList, List.cons_append, List.nil_append]
            refine xr_iinc (v := nI (k + 1)) (ls2 := [(6, .int (nI (k + 1))), (4, .int ((lf - 0))), (8, .int (0)), (7, .int (al)), (5, .int (wb)), (3, .int (la)), (2, .int (up)), (0, .ref (62))]) dX10_mistaken_240 3 rfl (nI_1 _) (by decide) rfl ?_
            refine xr_goto (tgt := 26) dX10_mistaken_243 rfl ?_
            refine xb_ls (ls2 := [(6, .int (nI (k + 1))), (5, .int (wb)), (4, .int ((lf - 0))), (3, .int (la)), (2, .int (up)), (0, .ref (62))]) [0, 4, 1, 5, 6, 7] rfl ?_
            exact ih (k + 1) wb (lf - 0) la M8 (by omega) (Ke.tr (fun _ _ h => h) hJ k9)
          · refine xr_iconst (v := 1) dX10_mistaken_202 rfl ?_
            refine xr_goto (tgt := 207) dX10_mistaken_203 rfl ?_
            refine xr_isub dX10_mistaken_207 ?_
            refine xr_istore (ls2 := [(4, .int ((lf - 1))), (8, .int (0)), (7, .int (al)), (6, .int (nI (k))), (5, .int (wb)), (3, .int (la)), (2, .int (up)), (0, .ref (62))]) dX10_mistaken_208 (by decide) rfl ?_
            refine xr_iload dX10_mistaken_210 1 rfl ?_
            refine xr_if_eq (tgt := 229) dX10_mistaken_212 rfl (fun _ => ?_) (fun c => absurd (by decide) c)
            refine xr_aload_n dX10_mistaken_229 7 rfl ?_
            refine xr_aload_n dX10_mistaken_230 7 rfl ?_
            refine xb_get (v := M3 62 9) flX10_151 dX10_mistaken_231 s_62 rfl rfl ?_
            refine xr_iload dX10_mistaken_234 3 rfl ?_
            refine xr_iadd dX10_mistaken_236 ?_
            refine xr_callV (As := [.int (((M3 62 9) + (nI (k))))]) (rest := []) mlX10_255 (g_X10_tickGoes ((M3 62 9) + (nI (k))) h_hn (Eq.trans (hJ 62 6 (by decide)) e_hn) (fun kw hkw => by rw [show M3 63 (5 + kw) = M 63 (5 + kw) from (Eq.trans (hJ 63 (5 + kw) (by unfold WR1; omega)) rfl)]; exact hw kw hkw) (by rw [show M3 63 16 = M 63 16 from (Eq.trans (hJ 63 16 (by unfold WR1; omega)) rfl)]; exact hbt) (by rw [show M3 62 13 = M 62 13 from (Eq.trans (hJ 62 13 (by unfold WR1; omega)) rfl)]; exact htx)) dX10_mistaken_237 s_62 rfl rfl (Nat.le_of_ble_eq_true rfl) (by decide) ⟨by decide, by decide⟩ (fun v s2 M10 J2 hq => ?_)
            obtain ⟨rfl, rfl, rfl, k11, _⟩ := hq
            try dsimp only [Option.toList, List.cons_append, List.nil_append]
            refine xr_iinc (v := nI (k + 1)) (ls2 := [(6, .int (nI (k + 1))), (4, .int ((lf - 1))), (8, .int (0)), (7, .int (al)), (5, .int (wb)), (3, .int (la)), (2, .int (up)), (0, .ref (62))]) dX10_mistaken_240 3 rfl (nI_1 _) (by decide) rfl ?_
            refine xr_goto (tgt := 26) dX10_mistaken_243 rfl ?_
            refine xb_ls (ls2 := [(6, .int (nI (k + 1))), (5, .int (wb)), (4, .int ((lf - 1))), (3, .int (la)), (2, .int (up)), (0, .ref (62))]) [0, 4, 1, 5, 6, 7] rfl ?_
            exact ih (k + 1) wb (lf - 1) la M10 (by omega) (Ke.tr (fun _ _ h => h) hJ k11)
        · refine xr_iload dX10_mistaken_174 3 rfl ?_
          refine xr_if_ne (tgt := 183) dX10_mistaken_176 rfl (fun c12 => ?_) (fun c12 => ?_)
          · refine xr_iconst (v := 0) dX10_mistaken_183 rfl ?_
            refine xr_istore (ls2 := [(8, .int (0)), (7, .int (al)), (6, .int (nI (k))), (5, .int (wb)), (4, .int (lf)), (3, .int (la)), (2, .int (up)), (0, .ref (62))]) dX10_mistaken_184 (by decide) rfl ?_
            refine xr_iload dX10_mistaken_186 4 rfl ?_
            refine xr_aload_n dX10_mistaken_188 7 rfl ?_
            refine xr_aload_n dX10_mistaken_189 7 rfl ?_
            refine xb_get (v := M3 62 9) flX10_151 dX10_mistaken_190 s_62 rfl rfl ?_
            refine xr_iload dX10_mistaken_193 2 rfl ?_
            refine xr_iadd dX10_mistaken_195 ?_
            refine xr_callV (As := [.int (((M3 62 9) + (nI (k))))]) (rest := [.int (lf)]) mlX10_228 (g_X10_isPush ((M3 62 9) + (nI (k))) h_hn (Eq.trans (hJ 62 6 (by decide)) e_hn) (fun kw hkw => by rw [show M3 63 (5 + kw) = M 63 (5 + kw) from (Eq.trans (hJ 63 (5 + kw) (by unfold WR1; omega)) rfl)]; exact hw kw hkw) (by rw [show M3 63 16 = M 63 16 from (Eq.trans (hJ 63 16 (by unfold WR1; omega)) rfl)]; exact hbt) (by rw [show M3 62 13 = M 62 13 from (Eq.trans (hJ 62 13 (by unfold WR1; omega)) rfl)]; exact htx)) dX10_mistaken_196 s_62 rfl rfl (Nat.le_of_ble_eq_true rfl) (by decide) ⟨by decide, by decide⟩ (fun v s2 M9 J2 hq => ?_)
            obtain ⟨r14, rfl, rfl, rfl, rfl, hx13⟩ := hq
            try dsimp only [Option.toList, List.cons_append, List.nil_append]
            refine xr_if_eq (tgt := 206) dX10_mistaken_199 rfl (fun c15 => ?_) (fun c15 => ?_)
            · refine xr_iconst (v := 0) dX10_mistaken_206 rfl ?_
              refine xr_isub dX10_mistaken_207 ?_
              refine xr_istore (ls2 := [(4, .int ((lf - 0))), (8, .int (0)), (7, .int (al)), (6, .int (nI (k))), (5, .int (wb)), (3, .int (la)), (2, .int (up)), (0, .ref (62))]) dX10_mistaken_208 (by decide) rfl ?_
              refine xr_iload dX10_mistaken_210 1 rfl ?_
              refine xr_if_eq (tgt := 229) dX10_mistaken_212 rfl (fun _ => ?_) (fun c => absurd (by decide) c)
              refine xr_aload_n dX10_mistaken_229 7 rfl ?_
              refine xr_aload_n dX10_mistaken_230 7 rfl ?_
              refine xb_get (v := M3 62 9) flX10_151 dX10_mistaken_231 s_62 rfl rfl ?_
              refine xr_iload dX10_mistaken_234 3 rfl ?_
              refine xr_iadd dX10_mistaken_236 ?_
              refine xr_callV (As := [.int (((M3 62 9) + (nI (k))))]) (rest := []) mlX10_255 (g_X10_tickGoes ((M3 62 9) + (nI (k))) h_hn (Eq.trans (hJ 62 6 (by decide)) e_hn) (fun kw hkw => by rw [show M3 63 (5 + kw) = M 63 (5 + kw) from (Eq.trans (hJ 63 (5 + kw) (by unfold WR1; omega)) rfl)]; exact hw kw hkw) (by rw [show M3 63 16 = M 63 16 from (Eq.trans (hJ 63 16 (by unfold WR1; omega)) rfl)]; exact hbt) (by rw [show M3 62 13 = M 62 13 from (Eq.trans (hJ 62 13 (by unfold WR1; omega)) rfl)]; exact htx)) dX10_mistaken_237 s_62 rfl rfl (Nat.le_of_ble_eq_true rfl) (by decide) ⟨by decide, by decide⟩ (fun v s2 M16 J2 hq => ?_)
              obtain ⟨rfl, rfl, rfl, k17, _⟩ := hq
              try dsimp only [Option.toList, List.cons_append, List.nil_append]
              refine xr_iinc (v := nI (k + 1)) (ls2 := [(6, .int (nI (k + 1))), (4, .int ((lf - 0))), (8, .int (0)), (7, .int (al)), (5, .int (wb)), (3, .int (la)), (2, .int (up)), (0, .ref (62))]) dX10_mistaken_240 3 rfl (nI_1 _) (by decide) rfl ?_
              refine xr_goto (tgt := 26) dX10_mistaken_243 rfl ?_
              refine xb_ls (ls2 := [(6, .int (nI (k + 1))), (5, .int (wb)), (4, .int ((lf - 0))), (3, .int (la)), (2, .int (up)), (0, .ref (62))]) [0, 4, 1, 5, 6, 7] rfl ?_
              exact ih (k + 1) wb (lf - 0) la M16 (by omega) (Ke.tr (fun _ _ h => h) hJ k17)
            · refine xr_iconst (v := 1) dX10_mistaken_202 rfl ?_
              refine xr_goto (tgt := 207) dX10_mistaken_203 rfl ?_
              refine xr_isub dX10_mistaken_207 ?_
              refine xr_istore (ls2 := [(4, .int ((lf - 1))), (8, .int (0)), (7, .int (al)), (6, .int (nI (k))), (5, .int (wb)), (3, .int (la)), (2, .int (up)), (0, .ref (62))]) dX10_mistaken_208 (by decide) rfl ?_
              refine xr_iload dX10_mistaken_210 1 rfl ?_
              refine xr_if_eq (tgt := 229) dX10_mistaken_212 rfl (fun _ => ?_) (fun c => absurd (by decide) c)
              refine xr_aload_n dX10_mistaken_229 7 rfl ?_
              refine xr_aload_n dX10_mistaken_230 7 rfl ?_
              refine xb_get (v := M3 62 9) flX10_151 dX10_mistaken_231 s_62 rfl rfl ?_
              refine xr_iload dX10_mistaken_234 3 rfl ?_
              refine xr_iadd dX10_mistaken_236 ?_
              refine xr_callV (As := [.int (((M3 62 9) + (nI (k))))]) (rest := []) mlX10_255 (g_X10_tickGoes ((M3 62 9) + (nI (k))) h_hn (Eq.trans (hJ 62 6 (by decide)) e_hn) (fun kw hkw => by rw [show M3 63 (5 + kw) = M 63 (5 + kw) from (Eq.trans (hJ 63 (5 + kw) (by unfold WR1; omega)) rfl)]; exact hw kw hkw) (by rw [show M3 63 16 = M 63 16 from (Eq.trans (hJ 63 16 (by unfold WR1; omega)) rfl)]; exact hbt) (by rw [show M3 62 13 = M 62 13 from (Eq.trans (hJ 62 13 (by unfold WR1; omega)) rfl)]; exact htx)) dX10_mistaken_237 s_62 rfl rfl (Nat.le_of_ble_eq_true rfl) (by decide) ⟨by decide, by decide⟩ (fun v s2 M18 J2 hq => ?_)
              obtain ⟨rfl, rfl, rfl, k19, _⟩ := hq
              try dsimp only [Option.toList, List.cons_append, List.nil_append]
              refine xr_iinc (v := nI (k + 1)) (ls2 := [(6, .int (nI (k + 1))), (4, .int ((lf - 1))), (8, .int (0)), (7, .int (al)), (5, .int (wb)), (3, .int (la)), (2, .int (up)), (0, .ref (62))]) dX10_mistaken_240 3 rfl (nI_1 _) (by decide) rfl ?_
              refine xr_goto (tgt := 26) dX10_mistaken_243 rfl ?_
              refine xb_ls (ls2 := [(6, .int (nI (k + 1))), (5, .int (wb)), (4, .int ((lf - 1))), (3, .int (la)), (2, .int (up)), (0, .ref (62))]) [0, 4, 1, 5, 6, 7] rfl ?_
              exact ih (k + 1) wb (lf - 1) la M18 (by omega) (Ke.tr (fun _ _ h => h) hJ k19)
          · refine xr_iconst (v := 1) dX10_mistaken_179 rfl ?_
            refine xr_goto (tgt := 184) dX10_mistaken_180 rfl ?_
            refine xr_istore (ls2 := [(8, .int (1)), (7, .int (al)), (6, .int (nI (k))), (5, .int (wb)), (4, .int (lf)), (3, .int (la)), (2, .int (up)), (0, .ref (62))]) dX10_mistaken_184 (by decide) rfl ?_
            refine xr_iload dX10_mistaken_186 4 rfl ?_
            refine xr_aload_n dX10_mistaken_188 7 rfl ?_
            refine xr_aload_n dX10_mistaken_189 7 rfl ?_
            refine xb_get (v := M3 62 9) flX10_151 dX10_mistaken_190 s_62 rfl rfl ?_
            refine xr_iload dX10_mistaken_193 2 rfl ?_
            refine xr_iadd dX10_mistaken_195 ?_
            refine xr_callV (As := [.int (((M3 62 9) + (nI (k))))]) (rest := [.int (lf)]) mlX10_228 (g_X10_isPush ((M3 62 9) + (nI (k))) h_hn (Eq.trans (hJ 62 6 (by decide)) e_hn) (fun kw hkw => by rw [show M3 63 (5 + kw) = M 63 (5 + kw) from (Eq.trans (hJ 63 (5 + kw) (by unfold WR1; omega)) rfl)]; exact hw kw hkw) (by rw [show M3 63 16 = M 63 16 from (Eq.trans (hJ 63 16 (by unfold WR1; omega)) rfl)]; exact hbt) (by rw [show M3 62 13 = M 62 13 from (Eq.trans (hJ 62 13 (by unfold WR1; omega)) rfl)]; exact htx)) dX10_mistaken_196 s_62 rfl rfl (Nat.le_of_ble_eq_true rfl) (by decide) ⟨by decide, by decide⟩ (fun v s2 M9 J2 hq => ?_)
            obtain ⟨r21, rfl, rfl, rfl, rfl, hx20⟩ := hq
            try dsimp only [Option.toList, List.cons_append, List.nil_append]
            refine xr_if_eq (tgt := 206) dX10_mistaken_199 rfl (fun c22 => ?_) (fun c22 => ?_)
            · refine xr_iconst (v := 0) dX10_mistaken_206 rfl ?_
              refine xr_isub dX10_mistaken_207 ?_
              refine xr_istore (ls2 := [(4, .int ((lf - 0))), (8, .int (1)), (7, .int (al)), (6, .int (nI (k))), (5, .int (wb)), (3, .int (la)), (2, .int (up)), (0, .ref (62))]) dX10_mistaken_208 (by decide) rfl ?_
              refine xr_iload dX10_mistaken_210 1 rfl ?_
              refine xr_if_eq (tgt := 229) dX10_mistaken_212 rfl (fun c => absurd c (by decide)) (fun _ => ?_)
              refine xr_aload_n dX10_mistaken_215 7 rfl ?_
              refine xr_aload_n dX10_mistaken_216 7 rfl ?_
              refine xb_get (v := M3 62 9) flX10_151 dX10_mistaken_217 s_62 rfl rfl ?_
              refine xr_iload dX10_mistaken_220 3 rfl ?_
              refine xr_iadd dX10_mistaken_222 ?_
              refine xr_callV (As := [.int (((M3 62 9) + (nI (k))))]) (rest := []) mlX10_240 (g_X10_turns ((M3 62 9) + (nI (k))) h_hn (Eq.trans (hJ 62 6 (by decide)) e_hn) (fun kw hkw => by rw [show M3 63 (5 + kw) = M 63 (5 + kw) from (Eq.trans (hJ 63 (5 + kw) (by unfold WR1; omega)) rfl)]; exact hw kw hkw) (by rw [show M3 63 16 = M 63 16 from (Eq.trans (hJ 63 16 (by unfold WR1; omega)) rfl)]; exact hbt) (by rw [show M3 62 13 = M 62 13 from (Eq.trans (hJ 62 13 (by unfold WR1; omega)) rfl)]; exact htx)) dX10_mistaken_223 s_62 rfl rfl (Nat.le_of_ble_eq_true rfl) (by decide) ⟨by decide, by decide⟩ (fun v s2 M23 J2 hq => ?_)
              obtain ⟨rfl, rfl, rfl, k24, _⟩ := hq
              try dsimp only [Option.toList, List.cons_append, List.nil_append]
              refine xr_goto (tgt := 240) dX10_mistaken_226 rfl ?_
              refine xr_iinc (v := nI (k + 1)) (ls2 := [(6, .int (nI (k + 1))), (4, .int ((lf - 0))), (8, .int (1)), (7, .int (al)), (5, .int (wb)), (3, .int (la)), (2, .int (up)), (0, .ref (62))]) dX10_mistaken_240 3 rfl (nI_1 _) (by decide) rfl ?_
              refine xr_goto (tgt := 26) dX10_mistaken_243 rfl ?_
              refine xb_ls (ls2 := [(6, .int (nI (k + 1))), (5, .int (wb)), (4, .int ((lf - 0))), (3, .int (la)), (2, .int (up)), (0, .ref (62))]) [0, 4, 1, 5, 6, 7] rfl ?_
              exact ih (k + 1) wb (lf - 0) la M23 (by omega) (Ke.tr (fun _ _ h => h) hJ k24)
            · refine xr_iconst (v := 1) dX10_mistaken_202 rfl ?_
              refine xr_goto (tgt := 207) dX10_mistaken_203 rfl ?_
              refine xr_isub dX10_mistaken_207 ?_
              refine xr_istore (ls2 := [(4, .int ((lf - 1))), (8, .int (1)), (7, .int (al)), (6, .int (nI (k))), (5, .int (wb)), (3, .int (la)), (2, .int (up)), (0, .ref (62))]) dX10_mistaken_208 (by decide) rfl ?_
              refine xr_iload dX10_mistaken_210 1 rfl ?_
              refine xr_if_eq (tgt := 229) dX10_mistaken_212 rfl (fun c => absurd c (by decide)) (fun _ => ?_)
              refine xr_aload_n dX10_mistaken_215 7 rfl ?_
              refine xr_aload_n dX10_mistaken_216 7 rfl ?_
              refine xb_get (v := M3 62 9) flX10_151 dX10_mistaken_217 s_62 rfl rfl ?_
              refine xr_iload dX10_mistaken_220 3 rfl ?_
              refine xr_iadd dX10_mistaken_222 ?_
              refine xr_callV (As := [.int (((M3 62 9) + (nI (k))))]) (rest := []) mlX10_240 (g_X10_turns ((M3 62 9) + (nI (k))) h_hn (Eq.trans (hJ 62 6 (by decide)) e_hn) (fun kw hkw => by rw [show M3 63 (5 + kw) = M 63 (5 + kw) from (Eq.trans (hJ 63 (5 + kw) (by unfold WR1; omega)) rfl)]; exact hw kw hkw) (by rw [show M3 63 16 = M 63 16 from (Eq.trans (hJ 63 16 (by unfold WR1; omega)) rfl)]; exact hbt) (by rw [show M3 62 13 = M 62 13 from (Eq.trans (hJ 62 13 (by unfold WR1; omega)) rfl)]; exact htx)) dX10_mistaken_223 s_62 rfl rfl (Nat.le_of_ble_eq_true rfl) (by decide) ⟨by decide, by decide⟩ (fun v s2 M25 J2 hq => ?_)
              obtain ⟨rfl, rfl, rfl, k26, _⟩ := hq
              try dsimp only [Option.toList, List.cons_append, List.nil_append]
              refine xr_goto (tgt := 240) dX10_mistaken_226 rfl ?_
              refine xr_iinc (v := nI (k + 1)) (ls2 := [(6, .int (nI (k + 1))), (4, .int ((lf - 1))), (8, .int (1)), (7, .int (al)), (5, .int (wb)), (3, .int (la)), (2, .int (up)), (0, .ref (62))]) dX10_mistaken_240 3 rfl (nI_1 _) (by decide) rfl ?_
              refine xr_goto (tgt := 26) dX10_mistaken_243 rfl ?_
              refine xb_ls (ls2 := [(6, .int (nI (k + 1))), (5, .int (wb)), (4, .int ((lf - 1))), (3, .int (la)), (2, .int (up)), (0, .ref (62))]) [0, 4, 1, 5, 6, 7] rfl ?_
              exact ih (k + 1) wb (lf - 1) la M25 (by omega) (Ke.tr (fun _ _ h => h) hJ k26)
    have joinA : ∀ (al wb lf la : Int32) (M3 : xM), Ke WR1 M M3 → x_X l G fX10_mistaken 62 0 0 Q 131 [(7, .int (al)), (6, .int (nI (k))), (5, .int (wb)), (4, .int (lf)), (3, .int (la)), (2, .int (up)), (0, .ref (62))] [] x_SH M3 J 0 0 := by
      intro al wb lf la M3 hJ
      refine xr_iload_n dX10_mistaken_131 4 rfl ?_
      refine xr_if_ge (tgt := 150) dX10_mistaken_132 rfl (fun c27 => ?_) (fun c27 => ?_)
      · refine xr_iload_n dX10_mistaken_150 4 rfl ?_
        refine xr_istore_n (ls2 := [(3, .int (la)), (7, .int (al)), (6, .int (nI (k))), (5, .int (wb)), (4, .int (lf)), (2, .int (up)), (0, .ref (62))]) dX10_mistaken_151 (by decide) rfl ?_
        refine xb_ls (ls2 := [(7, .int (al)), (6, .int (nI (k))), (5, .int (wb)), (4, .int (lf)), (3, .int (la)), (2, .int (up)), (0, .ref (62))]) [1, 2, 3, 4, 0, 5, 6] rfl ?_
        exact joinB al wb lf la M3 hJ
      · refine xr_aload_n dX10_mistaken_135 6 rfl ?_
        refine xr_iload_n dX10_mistaken_136 5 rfl ?_
        refine xr_callV (As := [.int (up)]) (rest := []) mlX10_252 (g_X10_lyingOf up h_hn (Eq.trans (hJ 62 6 (by decide)) e_hn) (fun kw hkw => by rw [show M3 63 (5 + kw) = M 63 (5 + kw) from (Eq.trans (hJ 63 (5 + kw) (by unfold WR1; omega)) rfl)]; exact hw kw hkw) (by rw [show M3 63 16 = M 63 16 from (Eq.trans (hJ 63 16 (by unfold WR1; omega)) rfl)]; exact hbt) (by rw [show M3 62 13 = M 62 13 from (Eq.trans (hJ 62 13 (by unfold WR1; omega)) rfl)]; exact htx)) dX10_mistaken_137 s_62 rfl rfl (Nat.le_of_ble_eq_true rfl) (by decide) ⟨by decide, by decide⟩ (fun v s2 M9 J2 hq => ?_)
        obtain ⟨r28, rfl, rfl, rfl, rfl, _⟩ := hq
        try dsimp only [Option.toList, List.cons_append, List.nil_append]
        refine xr_if_le (tgt := 150) dX10_mistaken_140 rfl (fun c29 => ?_) (fun c29 => ?_)
        · refine xr_iload_n dX10_mistaken_150 4 rfl ?_
          refine xr_istore_n (ls2 := [(3, .int (la)), (7, .int (al)), (6, .int (nI (k))), (5, .int (wb)), (4, .int (lf)), (2, .int (up)), (0, .ref (62))]) dX10_mistaken_151 (by decide) rfl ?_
          refine xb_ls (ls2 := [(7, .int (al)), (6, .int (nI (k))), (5, .int (wb)), (4, .int (lf)), (3, .int (la)), (2, .int (up)), (0, .ref (62))]) [1, 2, 3, 4, 0, 5, 6] rfl ?_
          exact joinB al wb lf la M3 hJ
        · refine xr_iload dX10_mistaken_143 1 rfl ?_
          refine xr_iconst (v := 1) dX10_mistaken_145 rfl ?_
          refine xr_isub dX10_mistaken_146 ?_
          refine xr_goto (tgt := 151) dX10_mistaken_147 rfl ?_
          refine xr_istore_n (ls2 := [(3, .int (((nI (k)) - 1))), (7, .int (al)), (6, .int (nI (k))), (5, .int (wb)), (4, .int (lf)), (2, .int (up)), (0, .ref (62))]) dX10_mistaken_151 (by decide) rfl ?_
          refine xb_ls (ls2 := [(7, .int (al)), (6, .int (nI (k))), (5, .int (wb)), (4, .int (lf)), (3, .int (((nI (k)) - 1))), (2, .int (up)), (0, .ref (62))]) [1, 2, 3, 4, 0, 5, 6] rfl ?_
          exact joinB al wb lf ((nI (k)) - 1) M3 hJ
    refine xr_iload dX10_mistaken_26 0 rfl ?_
    refine xr_sipush (v := 200) dX10_mistaken_28 rfl ?_
    refine xr_icmp_gt (tgt := 246) dX10_mistaken_31 rfl (fun c => absurd c (nI_nlt (a := 200) (b := k) (by omega) (by omega))) (fun _ => ?_)
    refine xr_iconst (v := 1) dX10_mistaken_34 rfl ?_
    refine xr_istore (ls2 := [(7, .int (1)), (6, .int (nI (k))), (5, .int (wb)), (4, .int (lf)), (3, .int (la)), (2, .int (up)), (0, .ref (62))]) dX10_mistaken_35 (by decide) rfl ?_
    refine xr_iconst (v := 0) dX10_mistaken_37 rfl ?_
    refine xr_istore (ls2 := [(8, .int (0)), (7, .int (1)), (6, .int (nI (k))), (5, .int (wb)), (4, .int (lf)), (3, .int (la)), (2, .int (up)), (0, .ref (62))]) dX10_mistaken_38 (by decide) rfl ?_
    refine xb_ls (ls2 := [(8, .int (nI (0))), (7, .int (1)), (6, .int (nI (k))), (5, .int (wb)), (4, .int (lf)), (3, .int (la)), (2, .int (up)), (0, .ref (62))]) [0, 1, 2, 3, 4, 5, 6, 7] rfl ?_
    refine mi_i h_hn (Eq.trans (hM 62 6 (by decide)) e_hn) (fun kw hkw => by rw [show M1 63 (5 + kw) = M 63 (5 + kw) from (Eq.trans (hM 63 (5 + kw) (by unfold WR1; omega)) rfl)]; exact hw kw hkw) (by rw [show M1 63 16 = M 63 16 from (Eq.trans (hM 63 16 (by unfold WR1; omega)) rfl)]; exact hbt) (by rw [show M1 62 13 = M 62 13 from (Eq.trans (hM 62 13 (by unfold WR1; omega)) rfl)]; exact htx) (fun q30 => ?_) (hn - 0) 0 1 (by omega)
    refine xr_aload_n dX10_mistaken_86 6 rfl ?_
    refine xr_aload_n dX10_mistaken_87 6 rfl ?_
    refine xb_get (v := M1 62 26) flX10_273 dX10_mistaken_88 s_62 rfl rfl ?_
    refine xr_if_ge (tgt := 109) dX10_mistaken_91 rfl (fun c33 => ?_) (fun c33 => ?_)
    · refine xr_aload_n dX10_mistaken_109 6 rfl ?_
      refine xb_get (v := M1 62 26) flX10_273 dX10_mistaken_110 s_62 rfl rfl ?_
      refine xr_putI fpX10_273 dX10_mistaken_113 s_62 rfl rfl rfl ?_
      refine xr_iload dX10_mistaken_116 2 rfl ?_
      refine xr_iload dX10_mistaken_118 0 rfl ?_
      refine xr_if_ne (tgt := 127) dX10_mistaken_120 rfl (fun c34 => ?_) (fun c34 => ?_)
      · refine xr_iconst (v := 0) dX10_mistaken_127 rfl ?_
        refine xr_ior dX10_mistaken_128 ?_
        refine xr_istore (ls2 := [(5, .int ((wb ||| 0))), (7, .int (q30)), (6, .int (nI (k))), (4, .int (lf)), (3, .int (la)), (2, .int (up)), (0, .ref (62))]) dX10_mistaken_129 (by decide) rfl ?_
        refine xb_ls (ls2 := [(7, .int (q30)), (6, .int (nI (k))), (5, .int ((wb ||| 0))), (4, .int (lf)), (3, .int (la)), (2, .int (up)), (0, .ref (62))]) [1, 2, 0, 3, 4, 5, 6] rfl ?_
        exact joinA q30 (wb ||| 0) lf la (x_up M1 62 26 (M1 62 26)) (Ke.up (Or.inr (Or.inr (Or.inr (Or.inr (Or.inr (Or.inr (Or.inl (by omega)))))))) hM)
      · refine xr_iconst (v := 1) dX10_mistaken_123 rfl ?_
        refine xr_goto (tgt := 128) dX10_mistaken_124 rfl ?_
        refine xr_ior dX10_mistaken_128 ?_
        refine xr_istore (ls2 := [(5, .int ((wb ||| 1))), (7, .int (q30)), (6, .int (nI (k))), (4, .int (lf)), (3, .int (la)), (2, .int (up)), (0, .ref (62))]) dX10_mistaken_129 (by decide) rfl ?_
        refine xb_ls (ls2 := [(7, .int (q30)), (6, .int (nI (k))), (5, .int ((wb ||| 1))), (4, .int (lf)), (3, .int (la)), (2, .int (up)), (0, .ref (62))]) [1, 2, 0, 3, 4, 5, 6] rfl ?_
        exact joinA q30 (wb ||| 1) lf la (x_up M1 62 26 (M1 62 26)) (Ke.up (Or.inr (Or.inr (Or.inr (Or.inr (Or.inr (Or.inr (Or.inl (by omega)))))))) hM)
    · refine xr_iload dX10_mistaken_94 2 rfl ?_
      refine xr_if_eq (tgt := 109) dX10_mistaken_96 rfl (fun c35 => ?_) (fun c35 => ?_)
      · refine xr_aload_n dX10_mistaken_109 6 rfl ?_
        refine xb_get (v := M1 62 26) flX10_273 dX10_mistaken_110 s_62 rfl rfl ?_
        refine xr_putI fpX10_273 dX10_mistaken_113 s_62 rfl rfl rfl ?_
        refine xr_iload dX10_mistaken_116 2 rfl ?_
        refine xr_iload dX10_mistaken_118 0 rfl ?_
        refine xr_if_ne (tgt := 127) dX10_mistaken_120 rfl (fun c36 => ?_) (fun c36 => ?_)
        · refine xr_iconst (v := 0) dX10_mistaken_127 rfl ?_
          refine xr_ior dX10_mistaken_128 ?_
          refine xr_istore (ls2 := [(5, .int ((wb ||| 0))), (7, .int (q30)), (6, .int (nI (k))), (4, .int (lf)), (3, .int (la)), (2, .int (up)), (0, .ref (62))]) dX10_mistaken_129 (by decide) rfl ?_
          refine xb_ls (ls2 := [(7, .int (q30)), (6, .int (nI (k))), (5, .int ((wb ||| 0))), (4, .int (lf)), (3, .int (la)), (2, .int (up)), (0, .ref (62))]) [1, 2, 0, 3, 4, 5, 6] rfl ?_
          exact joinA q30 (wb ||| 0) lf la (x_up M1 62 26 (M1 62 26)) (Ke.up (Or.inr (Or.inr (Or.inr (Or.inr (Or.inr (Or.inr (Or.inl (by omega)))))))) hM)
        · refine xr_iconst (v := 1) dX10_mistaken_123 rfl ?_
          refine xr_goto (tgt := 128) dX10_mistaken_124 rfl ?_
          refine xr_ior dX10_mistaken_128 ?_
          refine xr_istore (ls2 := [(5, .int ((wb ||| 1))), (7, .int (q30)), (6, .int (nI (k))), (4, .int (lf)), (3, .int (la)), (2, .int (up)), (0, .ref (62))]) dX10_mistaken_129 (by decide) rfl ?_
          refine xb_ls (ls2 := [(7, .int (q30)), (6, .int (nI (k))), (5, .int ((wb ||| 1))), (4, .int (lf)), (3, .int (la)), (2, .int (up)), (0, .ref (62))]) [1, 2, 0, 3, 4, 5, 6] rfl ?_
          exact joinA q30 (wb ||| 1) lf la (x_up M1 62 26 (M1 62 26)) (Ke.up (Or.inr (Or.inr (Or.inr (Or.inr (Or.inr (Or.inr (Or.inl (by omega)))))))) hM)
      · refine xr_iload dX10_mistaken_99 0 rfl ?_
        refine xr_if_eq (tgt := 109) dX10_mistaken_101 rfl (fun c37 => ?_) (fun c37 => ?_)
        · refine xr_aload_n dX10_mistaken_109 6 rfl ?_
          refine xb_get (v := M1 62 26) flX10_273 dX10_mistaken_110 s_62 rfl rfl ?_
          refine xr_putI fpX10_273 dX10_mistaken_113 s_62 rfl rfl rfl ?_
          refine xr_iload dX10_mistaken_116 2 rfl ?_
          refine xr_iload dX10_mistaken_118 0 rfl ?_
          refine xr_if_ne (tgt := 127) dX10_mistaken_120 rfl (fun c38 => ?_) (fun c38 => ?_)
          · refine xr_iconst (v := 0) dX10_mistaken_127 rfl ?_
            refine xr_ior dX10_mistaken_128 ?_
            refine xr_istore (ls2 := [(5, .int ((wb ||| 0))), (7, .int (q30)), (6, .int (nI (k))), (4, .int (lf)), (3, .int (la)), (2, .int (up)), (0, .ref (62))]) dX10_mistaken_129 (by decide) rfl ?_
            refine xb_ls (ls2 := [(7, .int (q30)), (6, .int (nI (k))), (5, .int ((wb ||| 0))), (4, .int (lf)), (3, .int (la)), (2, .int (up)), (0, .ref (62))]) [1, 2, 0, 3, 4, 5, 6] rfl ?_
            exact joinA q30 (wb ||| 0) lf la (x_up M1 62 26 (M1 62 26)) (Ke.up (Or.inr (Or.inr (Or.inr (Or.inr (Or.inr (Or.inr (Or.inl (by omega)))))))) hM)
          · refine xr_iconst (v := 1) dX10_mistaken_123 rfl ?_
            refine xr_goto (tgt := 128) dX10_mistaken_124 rfl ?_
            refine xr_ior dX10_mistaken_128 ?_
            refine xr_istore (ls2 := [(5, .int ((wb ||| 1))), (7, .int (q30)), (6, .int (nI (k))), (4, .int (lf)), (3, .int (la)), (2, .int (up)), (0, .ref (62))]) dX10_mistaken_129 (by decide) rfl ?_
            refine xb_ls (ls2 := [(7, .int (q30)), (6, .int (nI (k))), (5, .int ((wb ||| 1))), (4, .int (lf)), (3, .int (la)), (2, .int (up)), (0, .ref (62))]) [1, 2, 0, 3, 4, 5, 6] rfl ?_
            exact joinA q30 (wb ||| 1) lf la (x_up M1 62 26 (M1 62 26)) (Ke.up (Or.inr (Or.inr (Or.inr (Or.inr (Or.inr (Or.inr (Or.inl (by omega)))))))) hM)
        · refine xr_iload dX10_mistaken_104 1 rfl ?_
          refine xr_goto (tgt := 113) dX10_mistaken_106 rfl ?_
          refine xr_putI fpX10_273 dX10_mistaken_113 s_62 rfl rfl rfl ?_
          refine xr_iload dX10_mistaken_116 2 rfl ?_
          refine xr_iload dX10_mistaken_118 0 rfl ?_
          refine xr_if_ne (tgt := 127) dX10_mistaken_120 rfl (fun c39 => ?_) (fun c39 => ?_)
          · refine xr_iconst (v := 0) dX10_mistaken_127 rfl ?_
            refine xr_ior dX10_mistaken_128 ?_
            refine xr_istore (ls2 := [(5, .int ((wb ||| 0))), (7, .int (q30)), (6, .int (nI (k))), (4, .int (lf)), (3, .int (la)), (2, .int (up)), (0, .ref (62))]) dX10_mistaken_129 (by decide) rfl ?_
            refine xb_ls (ls2 := [(7, .int (q30)), (6, .int (nI (k))), (5, .int ((wb ||| 0))), (4, .int (lf)), (3, .int (la)), (2, .int (up)), (0, .ref (62))]) [1, 2, 0, 3, 4, 5, 6] rfl ?_
            exact joinA q30 (wb ||| 0) lf la (x_up M1 62 26 (nI (k))) (Ke.up (Or.inr (Or.inr (Or.inr (Or.inr (Or.inr (Or.inr (Or.inl (by omega)))))))) hM)
          · refine xr_iconst (v := 1) dX10_mistaken_123 rfl ?_
            refine xr_goto (tgt := 128) dX10_mistaken_124 rfl ?_
            refine xr_ior dX10_mistaken_128 ?_
            refine xr_istore (ls2 := [(5, .int ((wb ||| 1))), (7, .int (q30)), (6, .int (nI (k))), (4, .int (lf)), (3, .int (la)), (2, .int (up)), (0, .ref (62))]) dX10_mistaken_129 (by decide) rfl ?_
            refine xb_ls (ls2 := [(7, .int (q30)), (6, .int (nI (k))), (5, .int ((wb ||| 1))), (4, .int (lf)), (3, .int (la)), (2, .int (up)), (0, .ref (62))]) [1, 2, 0, 3, 4, 5, 6] rfl ?_
            exact joinA q30 (wb ||| 1) lf la (x_up M1 62 26 (nI (k))) (Ke.up (Or.inr (Or.inr (Or.inr (Or.inr (Or.inr (Or.inr (Or.inl (by omega)))))))) hM)
set_option maxRecDepth 100000 in
set_option maxHeartbeats 4000000 in
theorem g_X10_mistaken (m : Int32) {l : Launch} {G : xG} {M : xM} {J : xJ} {hn : Nat} (h_hn : hn ≤ 5) (e_hn : M 62 6 = nI hn) (hw : ∀ k, k < hn → M 63 (5 + k) ≠ 0) (hbt : M 63 16 ≠ 0) (htx : M 62 13 = -1 ∨ ∃ n : Nat, n ≤ 120 ∧ M 62 13 = nI n) : x_M l G fX10_mistaken 62 0 0 [.ref (62), .int (m)] x_SH M J (qKI WR1 M J (fun r M2 => True)) := by
  refine xb_of pX10 (Nat.le_of_ble_eq_true rfl) rfl ?_
  refine xr_aload_n dX10_mistaken_0 0 rfl ?_
  refine xr_callV (As := []) (rest := []) mlX10_246 (g_X10_upNow h_hn e_hn (fun kw hkw => by rw [show M 63 (5 + kw) = M 63 (5 + kw) from rfl]; exact hw kw hkw) (by rw [show M 63 16 = M 63 16 from rfl]; exact hbt) (by rw [show M 62 13 = M 62 13 from rfl]; exact htx)) dX10_mistaken_1 s_62 rfl rfl (Nat.le_of_ble_eq_true rfl) (by decide) ⟨by decide, by decide⟩ (fun v s2 M9 J2 hq => ?_)
  obtain ⟨r1, rfl, rfl, rfl, rfl, _⟩ := hq
  try dsimp only [Option.toList, List.cons_append, List.nil_append]
  refine xr_istore_n (ls2 := [(2, .int (r1)), (0, .ref (62)), (1, .int (m))]) dX10_mistaken_4 (by decide) rfl ?_
  refine xr_aload_n dX10_mistaken_5 1 rfl ?_
  refine xr_iload_n dX10_mistaken_6 0 rfl ?_
  refine xr_callV (As := [.int (r1)]) (rest := []) mlX10_249 (g_X10_begins1 r1 h_hn e_hn (fun kw hkw => by rw [show M 63 (5 + kw) = M 63 (5 + kw) from rfl]; exact hw kw hkw) (by rw [show M 63 16 = M 63 16 from rfl]; exact hbt) (by rw [show M 62 13 = M 62 13 from rfl]; exact htx)) dX10_mistaken_7 s_62 rfl rfl (Nat.le_of_ble_eq_true rfl) (by decide) ⟨by decide, by decide⟩ (fun v s2 M2 J2 hq => ?_)
  obtain ⟨rfl, rfl, rfl, k3, _⟩ := hq
  try dsimp only [Option.toList, List.cons_append, List.nil_append]
  refine xr_iconst (v := -1) dX10_mistaken_10 rfl ?_
  refine xr_istore_n (ls2 := [(3, .int ((-1))), (2, .int (r1)), (0, .ref (62)), (1, .int (m))]) dX10_mistaken_11 (by decide) rfl ?_
  refine xr_iload_n dX10_mistaken_12 3 rfl ?_
  refine xr_istore (ls2 := [(4, .int (m)), (3, .int ((-1))), (2, .int (r1)), (0, .ref (62)), (1, .int (m))]) dX10_mistaken_13 (by decide) rfl ?_
  refine xr_iconst (v := 0) dX10_mistaken_15 rfl ?_
  refine xr_istore (ls2 := [(5, .int (0)), (4, .int (m)), (3, .int ((-1))), (2, .int (r1)), (0, .ref (62)), (1, .int (m))]) dX10_mistaken_16 (by decide) rfl ?_
  refine xr_aload_n dX10_mistaken_18 4 rfl ?_
  refine xr_iconst (v := -1) dX10_mistaken_19 rfl ?_
  refine xr_putI fpX10_273 dX10_mistaken_20 s_62 rfl rfl rfl ?_
  refine xr_iconst (v := 0) dX10_mistaken_23 rfl ?_
  refine xr_istore (ls2 := [(6, .int (0)), (5, .int (0)), (4, .int (m)), (3, .int ((-1))), (2, .int (r1)), (0, .ref (62)), (1, .int (m))]) dX10_mistaken_24 (by decide) rfl ?_
  refine xb_ls (ls2 := [(6, .int (nI (0))), (5, .int (0)), (4, .int (m)), (3, .int ((-1))), (2, .int (r1)), (0, .ref (62))]) [0, 1, 2, 3, 4, 5] rfl ?_
  refine mi_o h_hn (Eq.trans (x_up_k _ _ _ (by decide)) (Eq.trans (k3 62 6 (by decide)) e_hn)) (fun kw hkw => by rw [show (x_up M2 62 26 (-1)) 63 (5 + kw) = M 63 (5 + kw) from (Eq.trans (congrFun (x_up_n _ _ _ (by omega)) _) (Eq.trans (k3 63 (5 + kw) (by unfold WR1; omega)) rfl))]; exact hw kw hkw) (by rw [show (x_up M2 62 26 (-1)) 63 16 = M 63 16 from (Eq.trans (congrFun (x_up_n _ _ _ (by omega)) _) (Eq.trans (k3 63 16 (by unfold WR1; omega)) rfl))]; exact hbt) (by rw [show (x_up M2 62 26 (-1)) 62 13 = M 62 13 from (Eq.trans (x_up_k _ _ _ (by omega)) (Eq.trans (k3 62 13 (by unfold WR1; omega)) rfl))]; exact htx) (fun q4 q5 q6 M7 k8 => ?_) (201 - 0) 0 0 m (-1) (x_up M2 62 26 (-1)) (by omega) Ke.rf
  refine xr_aload_n dX10_mistaken_246 2 rfl ?_
  refine xr_aload_n dX10_mistaken_247 2 rfl ?_
  refine xb_get (v := M7 62 26) flX10_273 dX10_mistaken_248 s_62 rfl rfl ?_
  refine xr_if_lt (tgt := 261) dX10_mistaken_251 rfl (fun c9 => ?_) (fun c9 => ?_)
  · refine xr_iload dX10_mistaken_261 0 rfl ?_
    refine xr_if_eq (tgt := 271) dX10_mistaken_263 rfl (fun c10 => ?_) (fun c10 => ?_)
    · refine xr_iconst (v := 0) dX10_mistaken_271 rfl ?_
      refine xr_putI fpX10_273 dX10_mistaken_272 s_62 rfl rfl rfl ?_
      refine xr_iload_n dX10_mistaken_275 1 rfl ?_
      refine xr_if_ge (tgt := 285) dX10_mistaken_276 rfl (fun c11 => ?_) (fun c11 => ?_)
      · refine xr_iload_n dX10_mistaken_285 1 rfl ?_
        exact xr_iret dX10_mistaken_286 rfl rfl (⟨_, rfl, rfl, rfl, (Ke.up (Or.inr (Or.inr (Or.inr (Or.inr (Or.inr (Or.inr (Or.inl (by omega)))))))) (Ke.tr (fun _ _ h => h) (Ke.up (Or.inr (Or.inr (Or.inr (Or.inr (Or.inr (Or.inr (Or.inl (by omega)))))))) (Ke.tr (fun _ _ h => h) Ke.rf k3)) k8)), trivial⟩)
      · refine xr_sipush (v := 200) dX10_mistaken_279 rfl ?_
        refine xr_goto (tgt := 286) dX10_mistaken_282 rfl ?_
        exact xr_iret dX10_mistaken_286 rfl rfl (⟨_, rfl, rfl, rfl, (Ke.up (Or.inr (Or.inr (Or.inr (Or.inr (Or.inr (Or.inr (Or.inl (by omega)))))))) (Ke.tr (fun _ _ h => h) (Ke.up (Or.inr (Or.inr (Or.inr (Or.inr (Or.inr (Or.inr (Or.inl (by omega)))))))) (Ke.tr (fun _ _ h => h) Ke.rf k3)) k8)), trivial⟩)
    · refine xr_bipush (v := -2) dX10_mistaken_266 rfl ?_
      refine xr_goto (tgt := 272) dX10_mistaken_268 rfl ?_
      refine xr_putI fpX10_273 dX10_mistaken_272 s_62 rfl rfl rfl ?_
      refine xr_iload_n dX10_mistaken_275 1 rfl ?_
      refine xr_if_ge (tgt := 285) dX10_mistaken_276 rfl (fun c12 => ?_) (fun c12 => ?_)
      · refine xr_iload_n dX10_mistaken_285 1 rfl ?_
        exact xr_iret dX10_mistaken_286 rfl rfl (⟨_, rfl, rfl, rfl, (Ke.up (Or.inr (Or.inr (Or.inr (Or.inr (Or.inr (Or.inr (Or.inl (by omega)))))))) (Ke.tr (fun _ _ h => h) (Ke.up (Or.inr (Or.inr (Or.inr (Or.inr (Or.inr (Or.inr (Or.inl (by omega)))))))) (Ke.tr (fun _ _ h => h) Ke.rf k3)) k8)), trivial⟩)
      · refine xr_sipush (v := 200) dX10_mistaken_279 rfl ?_
        refine xr_goto (tgt := 286) dX10_mistaken_282 rfl ?_
        exact xr_iret dX10_mistaken_286 rfl rfl (⟨_, rfl, rfl, rfl, (Ke.up (Or.inr (Or.inr (Or.inr (Or.inr (Or.inr (Or.inr (Or.inl (by omega)))))))) (Ke.tr (fun _ _ h => h) (Ke.up (Or.inr (Or.inr (Or.inr (Or.inr (Or.inr (Or.inr (Or.inl (by omega)))))))) (Ke.tr (fun _ _ h => h) Ke.rf k3)) k8)), trivial⟩)
  · refine xr_aload_n dX10_mistaken_254 2 rfl ?_
    refine xb_get (v := M7 62 26) flX10_273 dX10_mistaken_255 s_62 rfl rfl ?_
    refine xr_goto (tgt := 272) dX10_mistaken_258 rfl ?_
    refine xr_putI fpX10_273 dX10_mistaken_272 s_62 rfl rfl rfl ?_
    refine xr_iload_n dX10_mistaken_275 1 rfl ?_
    refine xr_if_ge (tgt := 285) dX10_mistaken_276 rfl (fun c13 => ?_) (fun c13 => ?_)
    · refine xr_iload_n dX10_mistaken_285 1 rfl ?_
      exact xr_iret dX10_mistaken_286 rfl rfl (⟨_, rfl, rfl, rfl, (Ke.up (Or.inr (Or.inr (Or.inr (Or.inr (Or.inr (Or.inr (Or.inl (by omega)))))))) (Ke.tr (fun _ _ h => h) (Ke.up (Or.inr (Or.inr (Or.inr (Or.inr (Or.inr (Or.inr (Or.inl (by omega)))))))) (Ke.tr (fun _ _ h => h) Ke.rf k3)) k8)), trivial⟩)
    · refine xr_sipush (v := 200) dX10_mistaken_279 rfl ?_
      refine xr_goto (tgt := 286) dX10_mistaken_282 rfl ?_
      exact xr_iret dX10_mistaken_286 rfl rfl (⟨_, rfl, rfl, rfl, (Ke.up (Or.inr (Or.inr (Or.inr (Or.inr (Or.inr (Or.inr (Or.inl (by omega)))))))) (Ke.tr (fun _ _ h => h) (Ke.up (Or.inr (Or.inr (Or.inr (Or.inr (Or.inr (Or.inr (Or.inl (by omega)))))))) (Ke.tr (fun _ _ h => h) Ke.rf k3)) k8)), trivial⟩)
