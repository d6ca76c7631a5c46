theorem dX9_beatFor_35 : decode cX9_beatFor 35 = .ok (.iload 5, 2) := by decide +kernel
theorem dX9_beatFor_37 : decode cX9_beatFor 37 = .ok (.iload 4, 2) := by decide +kernel
theorem dX9_beatFor_39 : decode cX9_beatFor 39 = .ok (.if_icmp .ge 74, 3) := by decide +kernel
theorem dX9_beatFor_42 : decode cX9_beatFor 42 = .ok (.iload_n 2, 1) := by decide +kernel
theorem dX9_beatFor_43 : decode cX9_beatFor 43 = .ok (.sipush 200, 3) := by decide +kernel
theorem dX9_beatFor_46 : decode cX9_beatFor 46 = .ok (.if_icmp .ge 67, 3) := by decide +kernel
theorem dX9_beatFor_49 : decode cX9_beatFor 49 = .ok (.aload_n 0, 1) := by decide +kernel
theorem dX9_beatFor_50 : decode cX9_beatFor 50 = .ok (.getfield 40, 3) := by decide +kernel
theorem dX9_beatFor_53 : decode cX9_beatFor 53 = .ok (.invokevirtual 192, 3) := by decide +kernel
theorem dX9_beatFor_56 : decode cX9_beatFor 56 = .ok (.aload_n 0, 1) := by decide +kernel
theorem dX9_beatFor_57 : decode cX9_beatFor 57 = .ok (.getfield 40, 3) := by decide +kernel
theorem dX9_beatFor_60 : decode cX9_beatFor 60 = .ok (.getfield 201, 3) := by decide +kernel
theorem dX9_beatFor_63 : decode cX9_beatFor 63 = .ok (.iload 4, 2) := by decide +kernel
theorem dX9_beatFor_65 : decode cX9_beatFor 65 = .ok (.putfield 202, 3) := by decide +kernel
theorem dX9_beatFor_68 : decode cX9_beatFor 68 = .ok (.aload_n 0, 1) := by decide +kernel
theorem dX9_beatFor_69 : decode cX9_beatFor 69 = .ok (.getfield 40, 3) := by decide +kernel
theorem dX9_beatFor_72 : decode cX9_beatFor 72 = .ok (.getfield 201, 3) := by decide +kernel
theorem dX9_beatFor_75 : decode cX9_beatFor 75 = .ok (.iload 5, 2) := by decide +kernel
theorem dX9_beatFor_77 : decode cX9_beatFor 77 = .ok (.putfield 205, 3) := by decide +kernel
theorem dX9_beatFor_80 : decode cX9_beatFor 80 = .ok (.aload_n 0, 1) := by decide +kernel
theorem dX9_beatFor_81 : decode cX9_beatFor 81 = .ok (.getfield 40, 3) := by decide +kernel
theorem dX9_beatFor_84 : decode cX9_beatFor 84 = .ok (.invokevirtual 198, 3) := by decide +kernel
theorem dX9_beatFor_87 : decode cX9_beatFor 87 = .ok (.istore 6, 2) := by decide +kernel
theorem dX9_beatFor_89 : decode cX9_beatFor 89 = .ok (.iload 6, 2) := by decide +kernel
theorem dX9_beatFor_91 : decode cX9_beatFor 91 = .ok (.iload_n 2, 1) := by decide +kernel
theorem dX9_beatFor_92 : decode cX9_beatFor 92 = .ok (.if_icmp .le 15, 3) := by decide +kernel
theorem dX9_beatFor_107 : decode cX9_beatFor 107 = .ok (.iinc 5 1, 3) := by decide +kernel
theorem dX9_beatFor_110 : decode cX9_beatFor 110 = .ok (.goto (-75), 3) := by decide +kernel
theorem dX9_beatFor_95 : decode cX9_beatFor 95 = .ok (.iload 6, 2) := by decide +kernel
theorem dX9_beatFor_97 : decode cX9_beatFor 97 = .ok (.istore_n 2, 1) := by decide +kernel
theorem dX9_beatFor_98 : decode cX9_beatFor 98 = .ok (.bipush 100, 2) := by decide +kernel
theorem dX9_beatFor_100 : decode cX9_beatFor 100 = .ok (.iload 4, 2) := by decide +kernel
theorem dX9_beatFor_102 : decode cX9_beatFor 102 = .ok (.imul, 1) := by decide +kernel
theorem dX9_beatFor_103 : decode cX9_beatFor 103 = .ok (.iload 5, 2) := by decide +kernel
theorem dX9_beatFor_105 : decode cX9_beatFor 105 = .ok (.iadd, 1) := by decide +kernel
theorem dX9_beatFor_106 : decode cX9_beatFor 106 = .ok (.istore_n 3, 1) := by decide +kernel
theorem dX9_beatFor_18 : decode cX9_beatFor 18 = .ok (.iload 4, 2) := by decide +kernel
theorem dX9_beatFor_20 : decode cX9_beatFor 20 = .ok (.bipush 24, 2) := by decide +kernel
theorem dX9_beatFor_22 : decode cX9_beatFor 22 = .ok (.if_icmp .gt 97, 3) := by decide +kernel
theorem dX9_beatFor_25 : decode cX9_beatFor 25 = .ok (.iload_n 2, 1) := by decide +kernel
theorem dX9_beatFor_26 : decode cX9_beatFor 26 = .ok (.sipush 200, 3) := by decide +kernel
theorem dX9_beatFor_29 : decode cX9_beatFor 29 = .ok (.if_icmp .ge 90, 3) := by decide +kernel
theorem dX9_beatFor_32 : decode cX9_beatFor 32 = .ok (.iconst 0, 1) := by decide +kernel
theorem dX9_beatFor_33 : decode cX9_beatFor 33 = .ok (.istore 5, 2) := by decide +kernel
theorem dX9_beatFor_113 : decode cX9_beatFor 113 = .ok (.iinc 4 1, 3) := by decide +kernel
theorem dX9_beatFor_116 : decode cX9_beatFor 116 = .ok (.goto (-98), 3) := by decide +kernel
theorem dX9_leastPush_16 : decode cX9_leastPush 16 = .ok (.iload_n 2, 1) := by decide +kernel
theorem dX9_leastPush_17 : decode cX9_leastPush 17 = .ok (.iconst 5, 1) := by decide +kernel
theorem dX9_leastPush_18 : decode cX9_leastPush 18 = .ok (.if_icmp .gt 40, 3) := by decide +kernel
theorem dX9_leastPush_21 : decode cX9_leastPush 21 = .ok (.aload_n 0, 1) := by decide +kernel
theorem dX9_leastPush_22 : decode cX9_leastPush 22 = .ok (.getfield 40, 3) := by decide +kernel
theorem dX9_leastPush_25 : decode cX9_leastPush 25 = .ok (.invokevirtual 192, 3) := by decide +kernel
theorem dX9_leastPush_28 : decode cX9_leastPush 28 = .ok (.aload_n 0, 1) := by decide +kernel
theorem dX9_leastPush_29 : decode cX9_leastPush 29 = .ok (.getfield 40, 3) := by decide +kernel
theorem dX9_leastPush_32 : decode cX9_leastPush 32 = .ok (.getfield 201, 3) := by decide +kernel
theorem dX9_leastPush_35 : decode cX9_leastPush 35 = .ok (.iload_n 2, 1) := by decide +kernel
theorem dX9_leastPush_36 : decode cX9_leastPush 36 = .ok (.putfield 208, 3) := by decide +kernel
theorem dX9_leastPush_39 : decode cX9_leastPush 39 = .ok (.aload_n 0, 1) := by decide +kernel
theorem dX9_leastPush_40 : decode cX9_leastPush 40 = .ok (.getfield 40, 3) := by decide +kernel
theorem dX9_leastPush_43 : decode cX9_leastPush 43 = .ok (.invokevirtual 198, 3) := by decide +kernel
theorem dX9_leastPush_46 : decode cX9_leastPush 46 = .ok (.iload_n 1, 1) := by decide +kernel
theorem dX9_leastPush_47 : decode cX9_leastPush 47 = .ok (.if_icmp .lt 5, 3) := by decide +kernel
theorem dX9_leastPush_52 : decode cX9_leastPush 52 = .ok (.iinc 2 1, 3) := by decide +kernel
theorem dX9_leastPush_55 : decode cX9_leastPush 55 = .ok (.goto (-39), 3) := by decide +kernel
theorem dX9_leastPush_50 : decode cX9_leastPush 50 = .ok (.iload_n 2, 1) := by decide +kernel
theorem dX9_leastPush_51 : decode cX9_leastPush 51 = .ok (.ireturn, 1) := by decide +kernel
theorem dJ6_bitCount_0f7a4_0 : decode cJ6_bitCount_0f7a4 0 = .ok (.iload_n 0, 1) := by decide +kernel
theorem dJ6_bitCount_0f7a4_1 : decode cJ6_bitCount_0f7a4 1 = .ok (.iload_n 0, 1) := by decide +kernel
theorem dJ6_bitCount_0f7a4_2 : decode cJ6_bitCount_0f7a4 2 = .ok (.iconst 1, 1) := by decide +kernel
theorem dJ6_bitCount_0f7a4_3 : decode cJ6_bitCount_0f7a4 3 = .ok (.iushr, 1) := by decide +kernel
theorem dJ6_bitCount_0f7a4_4 : decode cJ6_bitCount_0f7a4 4 = .ok (.ldc_w 265, 3) := by decide +kernel
theorem dJ6_bitCount_0f7a4_7 : decode cJ6_bitCount_0f7a4 7 = .ok (.iand, 1) := by decide +kernel
theorem dJ6_bitCount_0f7a4_8 : decode cJ6_bitCount_0f7a4 8 = .ok (.isub, 1) := by decide +kernel
theorem dJ6_bitCount_0f7a4_9 : decode cJ6_bitCount_0f7a4 9 = .ok (.istore_n 0, 1) := by decide +kernel
theorem dJ6_bitCount_0f7a4_10 : decode cJ6_bitCount_0f7a4 10 = .ok (.iload_n 0, 1) := by decide +kernel
theorem dJ6_bitCount_0f7a4_11 : decode cJ6_bitCount_0f7a4 11 = .ok (.ldc_w 266, 3) := by decide +kernel
theorem dJ6_bitCount_0f7a4_14 : decode cJ6_bitCount_0f7a4 14 = .ok (.iand, 1) := by decide +kernel
theorem dJ6_bitCount_0f7a4_15 : decode cJ6_bitCount_0f7a4 15 = .ok (.iload_n 0, 1) := by decide +kernel
theorem dJ6_bitCount_0f7a4_16 : decode cJ6_bitCount_0f7a4 16 = .ok (.iconst 2, 1) := by decide +kernel
theorem dJ6_bitCount_0f7a4_17 : decode cJ6_bitCount_0f7a4 17 = .ok (.iushr, 1) := by decide +kernel
theorem dJ6_bitCount_0f7a4_18 : decode cJ6_bitCount_0f7a4 18 = .ok (.ldc_w 266, 3) := by decide +kernel
theorem dJ6_bitCount_0f7a4_21 : decode cJ6_bitCount_0f7a4 21 = .ok (.iand, 1) := by decide +kernel
theorem dJ6_bitCount_0f7a4_22 : decode cJ6_bitCount_0f7a4 22 = .ok (.iadd, 1) := by decide +kernel
theorem dJ6_bitCount_0f7a4_23 : decode cJ6_bitCount_0f7a4 23 = .ok (.istore_n 0, 1) := by decide +kernel
theorem dJ6_bitCount_0f7a4_24 : decode cJ6_bitCount_0f7a4 24 = .ok (.iload_n 0, 1) := by decide +kernel
theorem dJ6_bitCount_0f7a4_25 : decode cJ6_bitCount_0f7a4 25 = .ok (.iload_n 0, 1) := by decide +kernel
theorem dJ6_bitCount_0f7a4_26 : decode cJ6_bitCount_0f7a4 26 = .ok (.iconst 4, 1) := by decide +kernel
theorem dJ6_bitCount_0f7a4_27 : decode cJ6_bitCount_0f7a4 27 = .ok (.iushr, 1) := by decide +kernel
theorem dJ6_bitCount_0f7a4_28 : decode cJ6_bitCount_0f7a4 28 = .ok (.iadd, 1) := by decide +kernel
theorem dJ6_bitCount_0f7a4_29 : decode cJ6_bitCount_0f7a4 29 = .ok (.ldc_w 267, 3) := by decide +kernel
theorem dJ6_bitCount_0f7a4_32 : decode cJ6_bitCount_0f7a4 32 = .ok (.iand, 1) := by decide +kernel
theorem dJ6_bitCount_0f7a4_33 : decode cJ6_bitCount_0f7a4 33 = .ok (.istore_n 0, 1) := by decide +kernel
theorem dJ6_bitCount_0f7a4_34 : decode cJ6_bitCount_0f7a4 34 = .ok (.iload_n 0, 1) := by decide +kernel
theorem dJ6_bitCount_0f7a4_35 : decode cJ6_bitCount_0f7a4 35 = .ok (.iload_n 0, 1) := by decide +kernel
theorem dJ6_bitCount_0f7a4_36 : decode cJ6_bitCount_0f7a4 36 = .ok (.bipush 8, 2) := by decide +kernel
theorem dJ6_bitCount_0f7a4_38 : decode cJ6_bitCount_0f7a4 38 = .ok (.iushr, 1) := by decide +kernel
theorem dJ6_bitCount_0f7a4_39 : decode cJ6_bitCount_0f7a4 39 = .ok (.iadd, 1) := by decide +kernel
theorem dJ6_bitCount_0f7a4_40 : decode cJ6_bitCount_0f7a4 40 = .ok (.istore_n 0, 1) := by decide +kernel
theorem dJ6_bitCount_0f7a4_41 : decode cJ6_bitCount_0f7a4 41 = .ok (.iload_n 0, 1) := by decide +kernel
theorem dJ6_bitCount_0f7a4_42 : decode cJ6_bitCount_0f7a4 42 = .ok (.iload_n 0, 1) := by decide +kernel
theorem dJ6_bitCount_0f7a4_43 : decode cJ6_bitCount_0f7a4 43 = .ok (.bipush 16, 2) := by decide +kernel
theorem dJ6_bitCount_0f7a4_45 : decode cJ6_bitCount_0f7a4 45 = .ok (.iushr, 1) := by decide +kernel
theorem dJ6_bitCount_0f7a4_46 : decode cJ6_bitCount_0f7a4 46 = .ok (.iadd, 1) := by decide +kernel
theorem dJ6_bitCount_0f7a4_47 : decode cJ6_bitCount_0f7a4 47 = .ok (.istore_n 0, 1) := by decide +kernel
theorem dJ6_bitCount_0f7a4_48 : decode cJ6_bitCount_0f7a4 48 = .ok (.iload_n 0, 1) := by decide +kernel
theorem dJ6_bitCount_0f7a4_49 : decode cJ6_bitCount_0f7a4 49 = .ok (.bipush 63, 2) := by decide +kernel
theorem dJ6_bitCount_0f7a4_51 : decode cJ6_bitCount_0f7a4 51 = .ok (.iand, 1) := by decide +kernel
theorem dJ6_bitCount_0f7a4_52 : decode cJ6_bitCount_0f7a4 52 = .ok (.ireturn, 1) := by decide +kernel
theorem dX9_held_22 : decode cX9_held 22 = .ok (.iload 4, 2) := by decide +kernel
theorem dX9_held_24 : decode cX9_held 24 = .ok (.iconst 1, 1) := by decide +kernel
theorem dX9_held_25 : decode cX9_held 25 = .ok (.aload_n 0, 1) := by decide +kernel
theorem dX9_held_26 : decode cX9_held 26 = .ok (.getfield 28, 3) := by decide +kernel
theorem dX9_held_29 : decode cX9_held 29 = .ok (.getfield 218, 3) := by decide +kernel
theorem dX9_held_32 : decode cX9_held 32 = .ok (.ishl, 1) := by decide +kernel
theorem dX9_held_33 : decode cX9_held 33 = .ok (.if_icmp .ge 69, 3) := by decide +kernel
theorem dX9_held_102 : decode cX9_held 102 = .ok (.iload_n 2, 1) := by decide +kernel
theorem dX9_held_103 : decode cX9_held 103 = .ok (.ireturn, 1) := by decide +kernel
theorem dX9_held_36 : decode cX9_held 36 = .ok (.iload 4, 2) := by decide +kernel
theorem dX9_held_38 : decode cX9_held 38 = .ok (.invokestatic 221, 3) := by decide +kernel
theorem dX9_held_41 : decode cX9_held 41 = .ok (.iload_n 3, 1) := by decide +kernel
theorem dX9_held_42 : decode cX9_held 42 = .ok (.if_icmp .le 54, 3) := by decide +kernel
theorem dX9_held_96 : decode cX9_held 96 = .ok (.iinc 4 1, 3) := by decide +kernel
theorem dX9_held_99 : decode cX9_held 99 = .ok (.goto (-77), 3) := by decide +kernel
theorem dX9_held_45 : decode cX9_held 45 = .ok (.aload_n 0, 1) := by decide +kernel
theorem dX9_held_46 : decode cX9_held 46 = .ok (.getfield 28, 3) := by decide +kernel
theorem dX9_held_49 : decode cX9_held 49 = .ok (.iload 4, 2) := by decide +kernel
theorem dX9_held_51 : decode cX9_held 51 = .ok (.invokevirtual 226, 3) := by decide +kernel
theorem dX9_held_54 : decode cX9_held 54 = .ok (.ifCond .eq 42, 3) := by decide +kernel
theorem dX9_held_57 : decode cX9_held 57 = .ok (.aload_n 0, 1) := by decide +kernel
theorem dX9_held_58 : decode cX9_held 58 = .ok (.getfield 40, 3) := by decide +kernel
theorem dX9_held_61 : decode cX9_held 61 = .ok (.invokevirtual 192, 3) := by decide +kernel
theorem dX9_held_64 : decode cX9_held 64 = .ok (.aload_n 0, 1) := by decide +kernel
theorem dX9_held_65 : decode cX9_held 65 = .ok (.getfield 40, 3) := by decide +kernel
theorem dX9_held_68 : decode cX9_held 68 = .ok (.getfield 201, 3) := by decide +kernel
theorem dX9_held_71 : decode cX9_held 71 = .ok (.iload 4, 2) := by decide +kernel
theorem dX9_held_73 : decode cX9_held 73 = .ok (.invokevirtual 229, 3) := by decide +kernel
theorem dX9_held_76 : decode cX9_held 76 = .ok (.aload_n 0, 1) := by decide +kernel
theorem dX9_held_77 : decode cX9_held 77 = .ok (.getfield 40, 3) := by decide +kernel
theorem dX9_held_80 : decode cX9_held 80 = .ok (.invokevirtual 198, 3) := by decide +kernel
theorem dX9_held_83 : decode cX9_held 83 = .ok (.iload_n 1, 1) := by decide +kernel
theorem dX9_held_84 : decode cX9_held 84 = .ok (.if_icmp .lt 12, 3) := by decide +kernel
theorem dX9_held_87 : decode cX9_held 87 = .ok (.iload 4, 2) := by decide +kernel
theorem dX9_held_89 : decode cX9_held 89 = .ok (.istore_n 2, 1) := by decide +kernel
theorem dX9_held_90 : decode cX9_held 90 = .ok (.iload 4, 2) := by decide +kernel
theorem dX9_held_92 : decode cX9_held 92 = .ok (.invokestatic 221, 3) := by decide +kernel
theorem dX9_held_95 : decode cX9_held 95 = .ok (.istore_n 3, 1) := by decide +kernel
theorem dX9_rescue_90 : decode cX9_rescue 90 = .ok (.iload 7, 2) := by decide +kernel
theorem dX9_rescue_92 : decode cX9_rescue 92 = .ok (.iload 6, 2) := by decide +kernel
theorem dX9_rescue_94 : decode cX9_rescue 94 = .ok (.if_icmp .ge 44, 3) := by decide +kernel
theorem dX9_rescue_97 : decode cX9_rescue 97 = .ok (.aload_n 0, 1) := by decide +kernel
theorem dX9_rescue_98 : decode cX9_rescue 98 = .ok (.getfield 40, 3) := by decide +kernel
theorem dX9_rescue_101 : decode cX9_rescue 101 = .ok (.invokevirtual 192, 3) := by decide +kernel
theorem dX9_rescue_104 : decode cX9_rescue 104 = .ok (.aload_n 0, 1) := by decide +kernel
theorem dX9_rescue_105 : decode cX9_rescue 105 = .ok (.getfield 40, 3) := by decide +kernel
theorem dX9_rescue_108 : decode cX9_rescue 108 = .ok (.iload 7, 2) := by decide +kernel
theorem dX9_rescue_110 : decode cX9_rescue 110 = .ok (.iload_n 3, 1) := by decide +kernel
theorem dX9_rescue_111 : decode cX9_rescue 111 = .ok (.iload 4, 2) := by decide +kernel
theorem dX9_rescue_113 : decode cX9_rescue 113 = .ok (.invokevirtual 237, 3) := by decide +kernel
theorem dX9_rescue_116 : decode cX9_rescue 116 = .ok (.aload_n 0, 1) := by decide +kernel
theorem dX9_rescue_117 : decode cX9_rescue 117 = .ok (.getfield 40, 3) := by decide +kernel
theorem dX9_rescue_120 : decode cX9_rescue 120 = .ok (.iload_n 1, 1) := by decide +kernel
theorem dX9_rescue_121 : decode cX9_rescue 121 = .ok (.iload 5, 2) := by decide +kernel
theorem dX9_rescue_123 : decode cX9_rescue 123 = .ok (.invokevirtual 240, 3) := by decide +kernel
theorem dX9_rescue_126 : decode cX9_rescue 126 = .ok (.ifCond .eq 6, 3) := by decide +kernel
theorem dX9_rescue_132 : decode cX9_rescue 132 = .ok (.iinc 7 1, 3) := by decide +kernel
theorem dX9_rescue_135 : decode cX9_rescue 135 = .ok (.goto (-45), 3) := by decide +kernel
theorem dX9_rescue_129 : decode cX9_rescue 129 = .ok (.iload 7, 2) := by decide +kernel
theorem dX9_rescue_131 : decode cX9_rescue 131 = .ok (.ireturn, 1) := by decide +kernel
theorem dX9_start_41 : decode cX9_start 41 = .ok (.iload 4, 2) := by decide +kernel
theorem dX9_start_43 : decode cX9_start 43 = .ok (.bipush 9, 2) := by decide +kernel
theorem dX9_start_45 : decode cX9_start 45 = .ok (.if_icmp .gt 72, 3) := by decide +kernel
theorem dX9_start_48 : decode cX9_start 48 = .ok (.aload_n 0, 1) := by decide +kernel
theorem dX9_start_49 : decode cX9_start 49 = .ok (.getfield 40, 3) := by decide +kernel
theorem dX9_start_52 : decode cX9_start 52 = .ok (.invokevirtual 192, 3) := by decide +kernel
theorem dX9_start_55 : decode cX9_start 55 = .ok (.aload_n 0, 1) := by decide +kernel
theorem dX9_start_56 : decode cX9_start 56 = .ok (.getfield 40, 3) := by decide +kernel
theorem dX9_start_59 : decode cX9_start 59 = .ok (.getfield 201, 3) := by decide +kernel
theorem dX9_start_62 : decode cX9_start 62 = .ok (.getfield 121, 3) := by decide +kernel
theorem dX9_start_65 : decode cX9_start 65 = .ok (.iload_n 1, 1) := by decide +kernel
theorem dX9_start_66 : decode cX9_start 66 = .ok (.aaload, 1) := by decide +kernel
theorem dX9_start_67 : decode cX9_start 67 = .ok (.iload 4, 2) := by decide +kernel
theorem dX9_start_69 : decode cX9_start 69 = .ok (.putfield 186, 3) := by decide +kernel
theorem dX9_start_72 : decode cX9_start 72 = .ok (.aload_n 0, 1) := by decide +kernel
theorem dX9_start_73 : decode cX9_start 73 = .ok (.getfield 40, 3) := by decide +kernel
theorem dX9_start_76 : decode cX9_start 76 = .ok (.iload_n 1, 1) := by decide +kernel
theorem dX9_start_77 : decode cX9_start 77 = .ok (.invokevirtual 195, 3) := by decide +kernel
theorem dX9_start_80 : decode cX9_start 80 = .ok (.istore 5, 2) := by decide +kernel
theorem dX9_start_82 : decode cX9_start 82 = .ok (.iload 5, 2) := by decide +kernel
theorem dX9_start_84 : decode cX9_start 84 = .ok (.bipush (-2), 2) := by decide +kernel
theorem dX9_start_86 : decode cX9_start 86 = .ok (.if_icmp .ne 9, 3) := by decide +kernel
theorem dX9_start_95 : decode cX9_start 95 = .ok (.iload 5, 2) := by decide +kernel
theorem dX9_start_97 : decode cX9_start 97 = .ok (.istore 6, 2) := by decide +kernel
theorem dX9_start_99 : decode cX9_start 99 = .ok (.iload 6, 2) := by decide +kernel
theorem dX9_start_101 : decode cX9_start 101 = .ok (.iload_n 3, 1) := by decide +kernel
theorem dX9_start_102 : decode cX9_start 102 = .ok (.if_icmp .le 9, 3) := by decide +kernel
theorem dX9_start_111 : decode cX9_start 111 = .ok (.iinc 4 1, 3) := by decide +kernel
theorem dX9_start_114 : decode cX9_start 114 = .ok (.goto (-73), 3) := by decide +kernel
theorem dX9_start_105 : decode cX9_start 105 = .ok (.iload 6, 2) := by decide +kernel
theorem dX9_start_107 : decode cX9_start 107 = .ok (.istore_n 3, 1) := by decide +kernel
theorem dX9_start_108 : decode cX9_start 108 = .ok (.iload 4, 2) := by decide +kernel
theorem dX9_start_110 : decode cX9_start 110 = .ok (.istore_n 2, 1) := by decide +kernel
theorem dX9_start_89 : decode cX9_start 89 = .ok (.sipush 201, 3) := by decide +kernel
theorem dX9_start_92 : decode cX9_start 92 = .ok (.goto 5, 3) := by decide +kernel
theorem dX9_begun_77 : decode cX9_begun 77 = .ok (.iload 7, 2) := by decide +kernel
theorem dX9_begun_79 : decode cX9_begun 79 = .ok (.iload 4, 2) := by decide +kernel
theorem dX9_begun_81 : decode cX9_begun 81 = .ok (.if_icmp .gt 69, 3) := by decide +kernel
theorem dX9_begun_84 : decode cX9_begun 84 = .ok (.aload_n 0, 1) := by decide +kernel
theorem dX9_begun_85 : decode cX9_begun 85 = .ok (.getfield 40, 3) := by decide +kernel
theorem dX9_begun_88 : decode cX9_begun 88 = .ok (.invokevirtual 192, 3) := by decide +kernel
theorem dX9_begun_91 : decode cX9_begun 91 = .ok (.aload_n 0, 1) := by decide +kernel
theorem dX9_begun_92 : decode cX9_begun 92 = .ok (.getfield 40, 3) := by decide +kernel
theorem dX9_begun_95 : decode cX9_begun 95 = .ok (.getfield 201, 3) := by decide +kernel
theorem dX9_begun_98 : decode cX9_begun 98 = .ok (.getfield 121, 3) := by decide +kernel
theorem dX9_begun_101 : decode cX9_begun 101 = .ok (.iload_n 2, 1) := by decide +kernel
theorem dX9_begun_102 : decode cX9_begun 102 = .ok (.aaload, 1) := by decide +kernel
theorem dX9_begun_103 : decode cX9_begun 103 = .ok (.iload 7, 2) := by decide +kernel
theorem dX9_begun_105 : decode cX9_begun 105 = .ok (.putfield 186, 3) := by decide +kernel
theorem dX9_begun_108 : decode cX9_begun 108 = .ok (.aload_n 0, 1) := by decide +kernel
theorem dX9_begun_109 : decode cX9_begun 109 = .ok (.getfield 40, 3) := by decide +kernel
theorem dX9_begun_112 : decode cX9_begun 112 = .ok (.aload_n 0, 1) := by decide +kernel
theorem dX9_begun_113 : decode cX9_begun 113 = .ok (.getfield 67, 3) := by decide +kernel
theorem dX9_begun_116 : decode cX9_begun 116 = .ok (.iload_n 1, 1) := by decide +kernel
theorem dX9_begun_117 : decode cX9_begun 117 = .ok (.aaload, 1) := by decide +kernel
theorem dX9_begun_118 : decode cX9_begun 118 = .ok (.iload_n 2, 1) := by decide +kernel
theorem dX9_begun_119 : decode cX9_begun 119 = .ok (.invokevirtual 251, 3) := by decide +kernel
theorem dX9_begun_122 : decode cX9_begun 122 = .ok (.bipush (-2), 2) := by decide +kernel
theorem dX9_begun_124 : decode cX9_begun 124 = .ok (.if_icmp .ne 20, 3) := by decide +kernel
theorem dX9_begun_144 : decode cX9_begun 144 = .ok (.iinc 7 1, 3) := by decide +kernel
theorem dX9_begun_147 : decode cX9_begun 147 = .ok (.goto (-70), 3) := by decide +kernel
theorem dX9_begun_127 : decode cX9_begun 127 = .ok (.iload 5, 2) := by decide +kernel
theorem dX9_begun_129 : decode cX9_begun 129 = .ok (.ifCond .ne 8, 3) := by decide +kernel
theorem dX9_begun_137 : decode cX9_begun 137 = .ok (.iload 6, 2) := by decide +kernel
theorem dX9_begun_139 : decode cX9_begun 139 = .ok (.istore 6, 2) := by decide +kernel
theorem dX9_begun_141 : decode cX9_begun 141 = .ok (.iinc 5 1, 3) := by decide +kernel
theorem dX9_begun_132 : decode cX9_begun 132 = .ok (.iload 7, 2) := by decide +kernel
theorem dX9_begun_134 : decode cX9_begun 134 = .ok (.goto 5, 3) := by decide +kernel
theorem dX9_learn_22 : decode cX9_learn 22 = .ok (.iload_n 3, 1) := by decide +kernel
theorem dX9_learn_23 : decode cX9_learn 23 = .ok (.iload_n 2, 1) := by decide +kernel
theorem dX9_learn_24 : decode cX9_learn 24 = .ok (.if_icmp .ge 17, 3) := by decide +kernel
theorem dX9_learn_41 : decode cX9_learn 41 = .ok (.aload_n 0, 1) := by decide +kernel
theorem dX9_learn_42 : decode cX9_learn 42 = .ok (.getfield 47, 3) := by decide +kernel
theorem dX9_learn_45 : decode cX9_learn 45 = .ok (.getfield 137, 3) := by decide +kernel
theorem dX9_learn_48 : decode cX9_learn 48 = .ok (.iload_n 1, 1) := by decide +kernel
theorem dX9_learn_49 : decode cX9_learn 49 = .ok (.iaload, 1) := by decide +kernel
theorem dX9_learn_50 : decode cX9_learn 50 = .ok (.ireturn, 1) := by decide +kernel
theorem dX9_learn_27 : decode cX9_learn 27 = .ok (.aload_n 0, 1) := by decide +kernel
theorem dX9_learn_28 : decode cX9_learn 28 = .ok (.getfield 47, 3) := by decide +kernel
theorem dX9_learn_31 : decode cX9_learn 31 = .ok (.iload_n 1, 1) := by decide +kernel
theorem dX9_learn_32 : decode cX9_learn 32 = .ok (.invokevirtual 294, 3) := by decide +kernel
theorem dX9_learn_35 : decode cX9_learn 35 = .ok (.iinc 3 1, 3) := by decide +kernel
theorem dX9_learn_38 : decode cX9_learn 38 = .ok (.goto (-16), 3) := by decide +kernel
theorem dX9_till_53 : decode cX9_till 53 = .ok (.iload 4, 2) := by decide +kernel
theorem dX9_till_55 : decode cX9_till 55 = .ok (.iload_n 2, 1) := by decide +kernel
theorem dX9_till_56 : decode cX9_till 56 = .ok (.if_icmp .ge 17, 3) := by decide +kernel
theorem dX9_till_59 : decode cX9_till 59 = .ok (.iload_n 3, 1) := by decide +kernel
theorem dX9_till_60 : decode cX9_till 60 = .ok (.iload 4, 2) := by decide +kernel
theorem dX9_till_62 : decode cX9_till 62 = .ok (.invokestatic 297, 3) := by decide +kernel
theorem dX9_till_65 : decode cX9_till 65 = .ok (.iadd, 1) := by decide +kernel
theorem dX9_till_66 : decode cX9_till 66 = .ok (.istore_n 3, 1) := by decide +kernel
theorem dX9_till_67 : decode cX9_till 67 = .ok (.iinc 4 1, 3) := by decide +kernel
theorem dX9_till_70 : decode cX9_till 70 = .ok (.goto (-17), 3) := by decide +kernel
theorem dX9_greatestDivisor_4 : decode cX9_greatestDivisor 4 = .ok (.iload_n 3, 1) := by decide +kernel
theorem dX9_greatestDivisor_5 : decode cX9_greatestDivisor 5 = .ok (.iload_n 1, 1) := by decide +kernel
theorem dX9_greatestDivisor_6 : decode cX9_greatestDivisor 6 = .ok (.if_icmp .gt 27, 3) := by decide +kernel
theorem dX9_greatestDivisor_9 : decode cX9_greatestDivisor 9 = .ok (.iload_n 0, 1) := by decide +kernel
theorem dX9_greatestDivisor_10 : decode cX9_greatestDivisor 10 = .ok (.iload_n 3, 1) := by decide +kernel
theorem dX9_greatestDivisor_11 : decode cX9_greatestDivisor 11 = .ok (.invokestatic 396, 3) := by decide +kernel
theorem dX9_greatestDivisor_14 : decode cX9_greatestDivisor 14 = .ok (.ifCond .ne 13, 3) := by decide +kernel
theorem dX9_greatestDivisor_27 : decode cX9_greatestDivisor 27 = .ok (.iinc 3 1, 3) := by decide +kernel
theorem dX9_greatestDivisor_30 : decode cX9_greatestDivisor 30 = .ok (.goto (-26), 3) := by decide +kernel
theorem dX9_greatestDivisor_17 : decode cX9_greatestDivisor 17 = .ok (.iload_n 1, 1) := by decide +kernel
theorem dX9_greatestDivisor_18 : decode cX9_greatestDivisor 18 = .ok (.iload_n 3, 1) := by decide +kernel
theorem dX9_greatestDivisor_19 : decode cX9_greatestDivisor 19 = .ok (.invokestatic 396, 3) := by decide +kernel
theorem dX9_greatestDivisor_22 : decode cX9_greatestDivisor 22 = .ok (.ifCond .ne 5, 3) := by decide +kernel
theorem dX9_greatestDivisor_25 : decode cX9_greatestDivisor 25 = .ok (.iload_n 3, 1) := by decide +kernel
theorem dX9_greatestDivisor_26 : decode cX9_greatestDivisor 26 = .ok (.istore_n 2, 1) := by decide +kernel
theorem dX9_greatestDivisor_0 : decode cX9_greatestDivisor 0 = .ok (.iconst 1, 1) := by decide +kernel
theorem dX9_greatestDivisor_1 : decode cX9_greatestDivisor 1 = .ok (.istore_n 2, 1) := by decide +kernel
theorem dX9_greatestDivisor_2 : decode cX9_greatestDivisor 2 = .ok (.iconst 2, 1) := by decide +kernel
theorem dX9_greatestDivisor_3 : decode cX9_greatestDivisor 3 = .ok (.istore_n 3, 1) := by decide +kernel
theorem dX9_greatestDivisor_33 : decode cX9_greatestDivisor 33 = .ok (.iload_n 2, 1) := by decide +kernel
theorem dX9_greatestDivisor_34 : decode cX9_greatestDivisor 34 = .ok (.ireturn, 1) := by decide +kernel
theorem dX9_alone_76 : decode cX9_alone 76 = .ok (.iload 9, 2) := by decide +kernel
theorem dX9_alone_78 : decode cX9_alone 78 = .ok (.iload_n 2, 1) := by decide +kernel
theorem dX9_alone_79 : decode cX9_alone 79 = .ok (.if_icmp .ge 17, 3) := by decide +kernel
theorem dX9_alone_82 : decode cX9_alone 82 = .ok (.lload 7, 2) := by decide +kernel
theorem dX9_alone_84 : decode cX9_alone 84 = .ok (.iload 6, 2) := by decide +kernel
theorem dX9_alone_86 : decode cX9_alone 86 = .ok (.i2l, 1) := by decide +kernel
theorem dX9_alone_87 : decode cX9_alone 87 = .ok (.lmul, 1) := by decide +kernel
theorem dX9_alone_88 : decode cX9_alone 88 = .ok (.lstore 7, 2) := by decide +kernel
theorem dX9_alone_90 : decode cX9_alone 90 = .ok (.iinc 9 1, 3) := by decide +kernel
theorem dX9_alone_93 : decode cX9_alone 93 = .ok (.goto (-17), 3) := by decide +kernel
theorem dX8_perform_0 : decode cX8_perform 0 = .ok (.aload_n 0, 1) := by decide +kernel
theorem dX8_perform_1 : decode cX8_perform 1 = .ok (.iconst 0, 1) := by decide +kernel
theorem dX8_perform_2 : decode cX8_perform 2 = .ok (.putfield 33, 3) := by decide +kernel
theorem dX8_perform_5 : decode cX8_perform 5 = .ok (.aload_n 0, 1) := by decide +kernel
theorem dX8_perform_6 : decode cX8_perform 6 = .ok (.iload_n 1, 1) := by decide +kernel
theorem dX8_perform_7 : decode cX8_perform 7 = .ok (.putfield 36, 3) := by decide +kernel
theorem dX8_perform_10 : decode cX8_perform 10 = .ok (.aload_n 0, 1) := by decide +kernel
theorem dX8_perform_11 : decode cX8_perform 11 = .ok (.iload_n 2, 1) := by decide +kernel
theorem dX8_perform_12 : decode cX8_perform 12 = .ok (.iload_n 3, 1) := by decide +kernel
theorem dX8_perform_13 : decode cX8_perform 13 = .ok (.iconst 0, 1) := by decide +kernel
theorem dX8_perform_14 : decode cX8_perform 14 = .ok (.invokevirtual 39, 3) := by decide +kernel
theorem dX8_perform_17 : decode cX8_perform 17 = .ok (.ireturn, 1) := by decide +kernel
set_option maxRecDepth 100000 in
set_option maxHeartbeats 4000000 in
theorem bf_i {w : Int32} {bt : Nat} (hbt : bt ≤ 25) {l : Launch} {G : xG} {M : xM} {J : xJ} {Q : xQ} (hv : ∀ k, k < 128 → M 3 k ≤ 100000)  {L : Nat} (h_L : L ≤ 128) (e_L : M 1 4 = nI L) {cn : Nat} (h_cn : cn ≤ 5) (e_cn : M 13 2 = nI cn) (hC : ∀ (wh : Int32) (be : Int32) (M2 : xM), Ke WTH M M2 → x_X l G fX9_beatFor 7 0 0 Q 113 [(4, .int (nI (bt))), (3, .int (wh)), (2, .int (be)), (1, .int (w)), (0, .ref (0))] [] x_SH M2 J 0 0) : ∀ (m k : Nat) (wh : Int32) (be : Int32) (M1 : xM), k + m = bt → Ke WTH M M1 → x_X l G fX9_beatFor 7 0 0 Q 35 [(5, .int (nI (k))), (4, .int (nI (bt))), (3, .int (wh)), (2, .int (be)), (1, .int (w)), (0, .ref (0))] [] x_SH M1 J 0 0 := by
  intro m
  induction m with
  | zero =>
    intro k wh be M1 hk hM
    refine xr_iload dX9_beatFor_35 0 rfl ?_
    refine xr_iload dX9_beatFor_37 1 rfl ?_
    refine xr_icmp_ge (tgt := 113) dX9_beatFor_39 rfl (fun _ => ?_) (fun c => absurd (nI_le (a := bt) (b := k) (by omega) (by omega)) c)
    refine xb_ls (ls2 := [(4, .int (nI (bt))), (3, .int (wh)), (2, .int (be)), (1, .int (w)), (0, .ref (0))]) [1, 2, 3, 4, 5] rfl ?_
    exact hC wh be _ hM
  | succ m ih =>
    intro k wh be M1 hk hM
    have hkN : k < bt := by omega
    refine xr_iload dX9_beatFor_35 0 rfl ?_
    refine xr_iload dX9_beatFor_37 1 rfl ?_
    refine xr_icmp_ge (tgt := 113) dX9_beatFor_39 rfl (fun c => absurd c (nI_ge (a := k) (b := bt) (by omega) (by omega))) (fun _ => ?_)
    refine xr_iload_n dX9_beatFor_42 3 rfl ?_
    refine xr_sipush (v := 200) dX9_beatFor_43 rfl ?_
    refine xr_icmp_ge (tgt := 113) dX9_beatFor_46 rfl (fun c1 => ?_) (fun c1 => ?_)
    · refine xb_ls (ls2 := [(4, .int (nI (bt))), (3, .int (wh)), (2, .int (be)), (1, .int (w)), (0, .ref (0))]) [1, 2, 3, 4, 5] rfl ?_
      exact hC wh be _ hM
    · refine xr_aload_n dX9_beatFor_49 5 rfl ?_
      refine xr_getR flX9_40 dX9_beatFor_50 s_0 rfl ?_
      refine xr_callV (As := []) (rest := []) mlX9_192 (g_X7_begin (by omega) (Eq.trans (hM 13 2 (by decide)) e_cn)) dX9_beatFor_53 s_27 rfl rfl (Nat.le_of_ble_eq_true rfl) (by decide) ⟨by decide, by decide⟩ (fun v s2 M3 J2 hq => ?_)
      obtain ⟨rfl, rfl, rfl, k4, hx2⟩ := hq
      try dsimp only [Option.toList, List.cons_append, List.nil_append]
      refine xr_aload_n dX9_beatFor_56 5 rfl ?_
      refine xr_getR flX9_40 dX9_beatFor_57 s_0 rfl ?_
      refine xr_getR flX9_201 dX9_beatFor_60 s_27 rfl ?_
      refine xr_iload dX9_beatFor_63 1 rfl ?_
      refine xr_putI fpX9_202 dX9_beatFor_65 s_28 rfl rfl rfl ?_
      refine xr_aload_n dX9_beatFor_68 5 rfl ?_
      refine xr_getR flX9_40 dX9_beatFor_69 s_0 rfl ?_
      refine xr_getR flX9_201 dX9_beatFor_72 s_27 rfl ?_
      refine xr_iload dX9_beatFor_75 0 rfl ?_
      refine xr_putI fpX9_205 dX9_beatFor_77 s_28 rfl rfl rfl ?_
      refine xr_aload_n dX9_beatFor_80 5 rfl ?_
      refine xr_getR flX9_40 dX9_beatFor_81 s_0 rfl ?_
      refine xr_callV (As := []) (rest := []) mlX9_198 (g_X7_lasting (fun kv hkv => by have h3 := (show (x_up (x_up M3 28 5 (nI (bt))) 28 6 (nI (k))) 3 kv = M 3 kv from (Eq.trans (congrFun (x_up_n _ _ _ (by first | decide | omega)) _) (Eq.trans (congrFun (x_up_n _ _ _ (by first | decide | omega)) _) (Eq.trans (k4 3 kv (by unfold WTB; omega)) (Eq.trans (hM 3 kv (by unfold WTH; omega)) rfl))))); rw [h3]; exact hv kv hkv) (by omega) (Eq.trans (congrFun (x_up_n _ _ _ (by decide)) _) (Eq.trans (congrFun (x_up_n _ _ _ (by decide)) _) (Eq.trans (k4 1 4 (by decide)) (Eq.trans (hM 1 4 (by decide)) e_L)))) (by omega) (Eq.trans (x_up_k _ _ _ (by decide)) (Eq.trans (x_up_k _ _ _ (by decide)) hx2))) dX9_beatFor_84 s_27 rfl rfl (Nat.le_of_ble_eq_true rfl) (by decide) ⟨by decide, by decide⟩ (fun v s2 M5 J2 hq => ?_)
      obtain ⟨r7, rfl, rfl, rfl, k6, _⟩ := hq
      try dsimp only [Option.toList, List.cons_append, List.nil_append]
      refine xr_istore (ls2 := [(6, .int (r7)), (5, .int (nI (k))), (4, .int (nI (bt))), (3, .int (wh)), (2, .int (be)), (1, .int (w)), (0, .ref (0))]) dX9_beatFor_87 (by decide) rfl ?_
      refine xr_iload dX9_beatFor_89 0 rfl ?_
      refine xr_iload_n dX9_beatFor_91 4 rfl ?_
      refine xr_icmp_le (tgt := 107) dX9_beatFor_92 rfl (fun c8 => ?_) (fun c8 => ?_)
      · refine xr_iinc (v := nI (k + 1)) (ls2 := [(5, .int (nI (k + 1))), (6, .int (r7)), (4, .int (nI (bt))), (3, .int (wh)), (2, .int (be)), (1, .int (w)), (0, .ref (0))]) dX9_beatFor_107 1 rfl (nI_1 _) (by decide) rfl ?_
        refine xr_goto (tgt := 35) dX9_beatFor_110 rfl ?_
        refine xb_ls (ls2 := [(5, .int (nI (k + 1))), (4, .int (nI (bt))), (3, .int (wh)), (2, .int (be)), (1, .int (w)), (0, .ref (0))]) [0, 2, 3, 4, 5, 6] rfl ?_
        exact ih (k + 1) wh be M5 (by omega) (Ke.tr (fun pp kk => (fun hh => Or.elim hh (fun h => (Or.inl h)) (fun hh => Or.elim hh (fun h => (Or.inr (Or.inl h))) (fun hh => Or.elim hh (fun h => (Or.inr (Or.inr (Or.inl (by omega))))) (fun hh => Or.elim hh (fun h => (Or.inr (Or.inr (Or.inl (by omega))))) (fun h => (Or.inr (Or.inr (Or.inr h))))))))) (Ke.up (Or.inr (Or.inr (Or.inl (by omega)))) (Ke.up (Or.inr (Or.inr (Or.inl (by omega)))) (Ke.tr (fun pp kk => (fun hh => Or.elim hh (fun h => (Or.inr (Or.inr (Or.inl h)))) (fun h => (Or.inr (Or.inr (Or.inr h)))))) hM k4))) k6)
      · refine xr_iload dX9_beatFor_95 0 rfl ?_
        refine xr_istore_n (ls2 := [(2, .int (r7)), (6, .int (r7)), (5, .int (nI (k))), (4, .int (nI (bt))), (3, .int (wh)), (1, .int (w)), (0, .ref (0))]) dX9_beatFor_97 (by decide) rfl ?_
        refine xr_bipush (v := 100) dX9_beatFor_98 rfl ?_
        refine xr_iload dX9_beatFor_100 3 rfl ?_
        refine xr_imul dX9_beatFor_102 ?_
        refine xr_iload dX9_beatFor_103 2 rfl ?_
        refine xr_iadd dX9_beatFor_105 ?_
        refine xr_istore_n (ls2 := [(3, .int (((100 * (nI (bt))) + (nI (k))))), (2, .int (r7)), (6, .int (r7)), (5, .int (nI (k))), (4, .int (nI (bt))), (1, .int (w)), (0, .ref (0))]) dX9_beatFor_106 (by decide) rfl ?_
        refine xr_iinc (v := nI (k + 1)) (ls2 := [(5, .int (nI (k + 1))), (3, .int (((100 * (nI (bt))) + (nI (k))))), (2, .int (r7)), (6, .int (r7)), (4, .int (nI (bt))), (1, .int (w)), (0, .ref (0))]) dX9_beatFor_107 3 rfl (nI_1 _) (by decide) rfl ?_
        refine xr_goto (tgt := 35) dX9_beatFor_110 rfl ?_
        refine xb_ls (ls2 := [(5, .int (nI (k + 1))), (4, .int (nI (bt))), (3, .int (((100 * (nI (bt))) + (nI (k))))), (2, .int (r7)), (1, .int (w)), (0, .ref (0))]) [0, 4, 1, 2, 5, 6] rfl ?_
        exact ih (k + 1) ((100 * (nI (bt))) + (nI (k))) r7 M5 (by omega) (Ke.tr (fun pp kk => (fun hh => Or.elim hh (fun h => (Or.inl h)) (fun hh => Or.elim hh (fun h => (Or.inr (Or.inl h))) (fun hh => Or.elim hh (fun h => (Or.inr (Or.inr (Or.inl (by omega))))) (fun hh => Or.elim hh (fun h => (Or.inr (Or.inr (Or.inl (by omega))))) (fun h => (Or.inr (Or.inr (Or.inr h))))))))) (Ke.up (Or.inr (Or.inr (Or.inl (by omega)))) (Ke.up (Or.inr (Or.inr (Or.inl (by omega)))) (Ke.tr (fun pp kk => (fun hh => Or.elim hh (fun h => (Or.inr (Or.inr (Or.inl h)))) (fun h => (Or.inr (Or.inr (Or.inr h)))))) hM k4))) k6)
set_option maxRecDepth 100000 in
set_option maxHeartbeats 4000000 in
theorem bf_o {w : Int32} {l : Launch} {G : xG} {M : xM} {J : xJ} {Q : xQ} (hv : ∀ k, k < 128 → M 3 k ≤ 100000)  {L : Nat} (h_L : L ≤ 128) (e_L : M 1 4 = nI L) {cn : Nat} (h_cn : cn ≤ 5) (e_cn : M 13 2 = nI cn) (hC : ∀ (wh : Int32) (be : Int32) (M2 : xM), Ke WTH M M2 → x_X l G fX9_beatFor 7 0 0 Q 119 [(3, .int (wh)), (2, .int (be)), (1, .int (w)), (0, .ref (0))] [] x_SH M2 J 0 0) : ∀ (m k : Nat) (wh : Int32) (be : Int32) (M1 : xM), k + m = 25 → Ke WTH M M1 → x_X l G fX9_beatFor 7 0 0 Q 18 [(4, .int (nI (k))), (3, .int (wh)), (2, .int (be)), (1, .int (w)), (0, .ref (0))] [] x_SH M1 J 0 0 := by
  intro m
  induction m with
  | zero =>
    intro k wh be M1 hk hM
    refine xr_iload dX9_beatFor_18 0 rfl ?_
    refine xr_bipush (v := 24) dX9_beatFor_20 rfl ?_
    refine xr_icmp_gt (tgt := 119) dX9_beatFor_22 rfl (fun _ => ?_) (fun c => absurd (nI_lt (a := 24) (b := k) (by omega) (by omega)) c)
    refine xb_ls (ls2 := [(3, .int (wh)), (2, .int (be)), (1, .int (w)), (0, .ref (0))]) [1, 2, 3, 4] rfl ?_
    exact hC wh be _ hM
  | succ m ih =>
    intro k wh be M1 hk hM
    have hkN : k < 25 := by omega
    refine xr_iload dX9_beatFor_18 0 rfl ?_
    refine xr_bipush (v := 24) dX9_beatFor_20 rfl ?_
    refine xr_icmp_gt (tgt := 119) dX9_beatFor_22 rfl (fun c => absurd c (nI_nlt (a := 24) (b := k) (by omega) (by omega))) (fun _ => ?_)
    refine xr_iload_n dX9_beatFor_25 2 rfl ?_
    refine xr_sipush (v := 200) dX9_beatFor_26 rfl ?_
    refine xr_icmp_ge (tgt := 119) dX9_beatFor_29 rfl (fun c1 => ?_) (fun c1 => ?_)
    · refine xb_ls (ls2 := [(3, .int (wh)), (2, .int (be)), (1, .int (w)), (0, .ref (0))]) [1, 2, 3, 4] rfl ?_
      exact hC wh be _ hM
    · refine xr_iconst (v := 0) dX9_beatFor_32 rfl ?_
      refine xr_istore (ls2 := [(5, .int (0)), (4, .int (nI (k))), (3, .int (wh)), (2, .int (be)), (1, .int (w)), (0, .ref (0))]) dX9_beatFor_33 (by decide) rfl ?_
      refine xb_ls (ls2 := [(5, .int (nI (0))), (4, .int (nI (k))), (3, .int (wh)), (2, .int (be)), (1, .int (w)), (0, .ref (0))]) [0, 1, 2, 3, 4, 5] rfl ?_
      refine bf_i (by omega) (fun k hk => by have h3 := (show M1 3 k = M 3 k from (Eq.trans (hM 3 k (by unfold WTH; omega)) rfl)); rw [h3]; exact hv k hk) (by omega) (Eq.trans (hM 1 4 (by decide)) e_L) (by omega) (Eq.trans (hM 13 2 (by decide)) e_cn) (fun q2 q3 M4 k5 => ?_) (k - 0) 0 wh be M1 (by omega) Ke.rf
      refine xr_iinc (v := nI (k + 1)) (ls2 := [(4, .int (nI (k + 1))), (3, .int (q2)), (2, .int (q3)), (1, .int (w)), (0, .ref (0))]) dX9_beatFor_113 0 rfl (nI_1 _) (by decide) rfl ?_
      refine xr_goto (tgt := 18) dX9_beatFor_116 rfl ?_
      refine xb_ls (ls2 := [(4, .int (nI (k + 1))), (3, .int (q2)), (2, .int (q3)), (1, .int (w)), (0, .ref (0))]) [0, 1, 2, 3, 4] rfl ?_
      exact ih (k + 1) q2 q3 M4 (by omega) (Ke.tr (fun _ _ h => h) hM k5)
set_option maxRecDepth 100000 in
set_option maxHeartbeats 4000000 in
theorem lp_l {nn : Int32} {l : Launch} {G : xG} {M : xM} {J : xJ} {Q : xQ} (hv : ∀ k, k < 128 → M 3 k ≤ 100000)  {L : Nat} (h_L : L ≤ 128) (e_L : M 1 4 = nI L) {cn : Nat} (h_cn : cn ≤ 5) (e_cn : M 13 2 = nI cn) (hC : ∀ (M2 : xM), Ke WTH M M2 → x_X l G fX9_leastPush 7 0 0 Q 58 [(0, .ref (0))] [] x_SH M2 J 0 0) (hR : ∀ (r : Int32) (M2 : xM), Ke WTH M M2 → Q (some (.int r)) x_SH M2 J) : ∀ (m k : Nat) (M1 : xM), k + m = 6 → Ke WTH M M1 → x_X l G fX9_leastPush 7 0 0 Q 16 [(2, .int (nI (k))), (1, .int (nn)), (0, .ref (0))] [] x_SH M1 J 0 0 := by
  intro m
  induction m with
  | zero =>
    intro k M1 hk hM
    refine xr_iload_n dX9_leastPush_16 0 rfl ?_
    refine xr_iconst (v := 5) dX9_leastPush_17 rfl ?_
    refine xr_icmp_gt (tgt := 58) dX9_leastPush_18 rfl (fun _ => ?_) (fun c => absurd (nI_lt (a := 5) (b := k) (by omega) (by omega)) c)
    refine xb_ls (ls2 := [(0, .ref (0))]) [2] rfl ?_
    exact hC _ hM
  | succ m ih =>
    intro k M1 hk hM
    have hkN : k < 6 := by omega
    refine xr_iload_n dX9_leastPush_16 0 rfl ?_
    refine xr_iconst (v := 5) dX9_leastPush_17 rfl ?_
    refine xr_icmp_gt (tgt := 58) dX9_leastPush_18 rfl (fun c => absurd c (nI_nlt (a := 5) (b := k) (by omega) (by omega))) (fun _ => ?_)
    refine xr_aload_n dX9_leastPush_21 2 rfl ?_
    refine xr_getR flX9_40 dX9_leastPush_22 s_0 rfl ?_
    refine xr_callV (As := []) (rest := []) mlX9_192 (g_X7_begin (by omega) (Eq.trans (hM 13 2 (by decide)) e_cn)) dX9_leastPush_25 s_27 rfl rfl (Nat.le_of_ble_eq_true rfl) (by decide) ⟨by decide, by decide⟩ (fun v s2 M2 J2 hq => ?_)
    obtain ⟨rfl, rfl, rfl, k3, hx1⟩ := hq
    try dsimp only [Option.toList, List.cons_append, List.nil_append]
    refine xr_aload_n dX9_leastPush_28 2 rfl ?_
    refine xr_getR flX9_40 dX9_leastPush_29 s_0 rfl ?_
    refine xr_getR flX9_201 dX9_leastPush_32 s_27 rfl ?_
    refine xr_iload_n dX9_leastPush_35 0 rfl ?_
    refine xr_putI fpX9_208 dX9_leastPush_36 s_28 rfl rfl rfl ?_
    refine xr_aload_n dX9_leastPush_39 2 rfl ?_
    refine xr_getR flX9_40 dX9_leastPush_40 s_0 rfl ?_
    refine xr_callV (As := []) (rest := []) mlX9_198 (g_X7_lasting (fun kv hkv => by have h3 := (show (x_up M2 28 7 (nI (k))) 3 kv = M 3 kv from (Eq.trans (congrFun (x_up_n _ _ _ (by first | decide | omega)) _) (Eq.trans (k3 3 kv (by unfold WTB; omega)) (Eq.trans (hM 3 kv (by unfold WTH; omega)) rfl)))); rw [h3]; exact hv kv hkv) (by omega) (Eq.trans (congrFun (x_up_n _ _ _ (by decide)) _) (Eq.trans (k3 1 4 (by decide)) (Eq.trans (hM 1 4 (by decide)) e_L))) (by omega) (Eq.trans (x_up_k _ _ _ (by decide)) hx1)) dX9_leastPush_43 s_27 rfl rfl (Nat.le_of_ble_eq_true rfl) (by decide) ⟨by decide, by decide⟩ (fun v s2 M4 J2 hq => ?_)
    obtain ⟨r6, rfl, rfl, rfl, k5, _⟩ := hq
    try dsimp only [Option.toList, List.cons_append, List.nil_append]
    refine xr_iload_n dX9_leastPush_46 1 rfl ?_
    refine xr_icmp_lt (tgt := 52) dX9_leastPush_47 rfl (fun c7 => ?_) (fun c7 => ?_)
    · refine xr_iinc (v := nI (k + 1)) (ls2 := [(2, .int (nI (k + 1))), (1, .int (nn)), (0, .ref (0))]) dX9_leastPush_52 0 rfl (nI_1 _) (by decide) rfl ?_
      refine xr_goto (tgt := 16) dX9_leastPush_55 rfl ?_
      refine xb_ls (ls2 := [(2, .int (nI (k + 1))), (1, .int (nn)), (0, .ref (0))]) [0, 1, 2] rfl ?_
      exact ih (k + 1) M4 (by omega) (Ke.tr (fun pp kk => (fun hh => Or.elim hh (fun h => (Or.inl h)) (fun hh => Or.elim hh (fun h => (Or.inr (Or.inl h))) (fun hh => Or.elim hh (fun h => (Or.inr (Or.inr (Or.inl (by omega))))) (fun hh => Or.elim hh (fun h => (Or.inr (Or.inr (Or.inl (by omega))))) (fun h => (Or.inr (Or.inr (Or.inr h))))))))) (Ke.up (Or.inr (Or.inr (Or.inl (by omega)))) (Ke.tr (fun pp kk => (fun hh => Or.elim hh (fun h => (Or.inr (Or.inr (Or.inl h)))) (fun h => (Or.inr (Or.inr (Or.inr h)))))) hM k3)) k5)
    · refine xr_iload_n dX9_leastPush_50 0 rfl ?_
      exact xr_iret dX9_leastPush_51 rfl rfl (hR _ _ (Ke.tr (fun pp kk => (fun hh => Or.elim hh (fun h => (Or.inl h)) (fun hh => Or.elim hh (fun h => (Or.inr (Or.inl h))) (fun hh => Or.elim hh (fun h => (Or.inr (Or.inr (Or.inl (by omega))))) (fun hh => Or.elim hh (fun h => (Or.inr (Or.inr (Or.inl (by omega))))) (fun h => (Or.inr (Or.inr (Or.inr h))))))))) (Ke.up (Or.inr (Or.inr (Or.inl (by omega)))) (Ke.tr (fun pp kk => (fun hh => Or.elim hh (fun h => (Or.inr (Or.inr (Or.inl h)))) (fun h => (Or.inr (Or.inr (Or.inr h)))))) hM k3)) k5))
def qAny (sh : List xS) (M : xM) (J : xJ) : xQ := fun v s M2 J2 => ∃ r : Int32, v = some (.int r) ∧ s = sh ∧ M = M2 ∧ J = J2
set_option maxRecDepth 100000 in
set_option maxHeartbeats 4000000 in
theorem g_J6_bitCount (v : Int32) {l : Launch} {G : xG} {sh : List xS} {M : xM} {J : xJ} : x_M l G fJ6_bitCount_0f7a4 0 0 0 [.int (v)] sh M J (qAny sh M J) := by
  refine xb_of pJ6 (Nat.le_of_ble_eq_true rfl) rfl ?_
  refine xr_iload_n dJ6_bitCount_0f7a4_0 0 rfl ?_
  refine xr_iload_n dJ6_bitCount_0f7a4_1 0 rfl ?_
  refine xr_iconst (v := 1) dJ6_bitCount_0f7a4_2 rfl ?_
  refine xr_iushr dJ6_bitCount_0f7a4_3 ?_
  refine xr_ldcw coJ6_265 dJ6_bitCount_0f7a4_4 ?_
  refine xr_iand dJ6_bitCount_0f7a4_7 ?_
  refine xr_isub dJ6_bitCount_0f7a4_8 ?_
  refine xr_istore_n (ls2 := [(0, .int ((v - ((((v).toUInt32 >>> ((1 : Int32).toUInt32 &&& Int32.toUInt32 31)).toInt32) &&& 1431655765))))]) dJ6_bitCount_0f7a4_9 (by decide) rfl ?_
  refine xr_iload_n dJ6_bitCount_0f7a4_10 0 rfl ?_
  refine xr_ldcw coJ6_266 dJ6_bitCount_0f7a4_11 ?_
  refine xr_iand dJ6_bitCount_0f7a4_14 ?_
  refine xr_iload_n dJ6_bitCount_0f7a4_15 0 rfl ?_
  refine xr_iconst (v := 2) dJ6_bitCount_0f7a4_16 rfl ?_
  refine xr_iushr dJ6_bitCount_0f7a4_17 ?_
  refine xr_ldcw coJ6_266 dJ6_bitCount_0f7a4_18 ?_
  refine xr_iand dJ6_bitCount_0f7a4_21 ?_
  refine xr_iadd dJ6_bitCount_0f7a4_22 ?_
  refine xr_istore_n (ls2 := [(0, .int ((((v - ((((v).toUInt32 >>> ((1 : Int32).toUInt32 &&& Int32.toUInt32 31)).toInt32) &&& 1431655765)) &&& 858993459) + (((((v - ((((v).toUInt32 >>> ((1 : Int32).toUInt32 &&& Int32.toUInt32 31)).toInt32) &&& 1431655765))).toUInt32 >>> ((2 : Int32).toUInt32 &&& Int32.toUInt32 31)).toInt32) &&& 858993459))))]) dJ6_bitCount_0f7a4_23 (by decide) rfl ?_
  refine xr_iload_n dJ6_bitCount_0f7a4_24 0 rfl ?_
  refine xr_iload_n dJ6_bitCount_0f7a4_25 0 rfl ?_
  refine xr_iconst (v := 4) dJ6_bitCount_0f7a4_26 rfl ?_
  refine xr_iushr dJ6_bitCount_0f7a4_27 ?_
  refine xr_iadd dJ6_bitCount_0f7a4_28 ?_
  refine xr_ldcw coJ6_267 dJ6_bitCount_0f7a4_29 ?_
  refine xr_iand dJ6_bitCount_0f7a4_32 ?_
  refine xr_istore_n (ls2 := [(0, .int ((((((v - ((((v).toUInt32 >>> ((1 : Int32).toUInt32 &&& Int32.toUInt32 31)).toInt32) &&& 1431655765)) &&& 858993459) + (((((v - ((((v).toUInt32 >>> ((1 : Int32).toUInt32 &&& Int32.toUInt32 31)).toInt32) &&& 1431655765))).toUInt32 >>> ((2 : Int32).toUInt32 &&& Int32.toUInt32 31)).toInt32) &&& 858993459)) + ((((((v - ((((v).toUInt32 >>> ((1 : Int32).toUInt32 &&& Int32.toUInt32 31)).toInt32) &&& 1431655765)) &&& 858993459) + (((((v - ((((v).toUInt32 >>> ((1 : Int32).toUInt32 &&& Int32.toUInt32 31)).toInt32) &&& 1431655765))).toUInt32 >>> ((2 : Int32).toUInt32 &&& Int32.toUInt32 31)).toInt32) &&& 858993459))).toUInt32 >>> ((4 : Int32).toUInt32 &&& Int32.toUInt32 31)).toInt32)) &&& 252645135)))]) dJ6_bitCount_0f7a4_33 (by decide) rfl ?_
  refine xr_iload_n dJ6_bitCount_0f7a4_34 0 rfl ?_
  refine xr_iload_n dJ6_bitCount_0f7a4_35 0 rfl ?_
  refine xr_bipush (v := 8) dJ6_bitCount_0f7a4_36 rfl ?_
  refine xr_iushr dJ6_bitCount_0f7a4_38 ?_
  refine xr_iadd dJ6_bitCount_0f7a4_39 ?_
  refine xr_istore_n (ls2 := [(0, .int (((((((v - ((((v).toUInt32 >>> ((1 : Int32).toUInt32 &&& Int32.toUInt32 31)).toInt32) &&& 1431655765)) &&& 858993459) + (((((v - ((((v).toUInt32 >>> ((1 : Int32).toUInt32 &&& Int32.toUInt32 31)).toInt32) &&& 1431655765))).toUInt32 >>> ((2 : Int32).toUInt32 &&& Int32.toUInt32 31)).toInt32) &&& 858993459)) + ((((((v - ((((v).toUInt32 >>> ((1 : Int32).toUInt32 &&& Int32.toUInt32 31)).toInt32) &&& 1431655765)) &&& 858993459) + (((((v - ((((v).toUInt32 >>> ((1 : Int32).toUInt32 &&& Int32.toUInt32 31)).toInt32) &&& 1431655765))).toUInt32 >>> ((2 : Int32).toUInt32 &&& Int32.toUInt32 31)).toInt32) &&& 858993459))).toUInt32 >>> ((4 : Int32).toUInt32 &&& Int32.toUInt32 31)).toInt32)) &&& 252645135) + ((((((((v - ((((v).toUInt32 >>> ((1 : Int32).toUInt32 &&& Int32.toUInt32 31)).toInt32) &&& 1431655765)) &&& 858993459) + (((((v - ((((v).toUInt32 >>> ((1 : Int32).toUInt32 &&& Int32.toUInt32 31)).toInt32) &&& 1431655765))).toUInt32 >>> ((2 : Int32).toUInt32 &&& Int32.toUInt32 31)).toInt32) &&& 858993459)) + ((((((v - ((((v).toUInt32 >>> ((1 : Int32).toUInt32 &&& Int32.toUInt32 31)).toInt32) &&& 1431655765)) &&& 858993459) + (((((v - ((((v).toUInt32 >>> ((1 : Int32).toUInt32 &&& Int32.toUInt32 31)).toInt32) &&& 1431655765))).toUInt32 >>> ((2 : Int32).toUInt32 &&& Int32.toUInt32 31)).toInt32) &&& 858993459))).toUInt32 >>> ((4 : Int32).toUInt32 &&& Int32.toUInt32 31)).toInt32)) &&& 252645135)).toUInt32 >>> ((8 : Int32).toUInt32 &&& Int32.toUInt32 31)).toInt32))))]) dJ6_bitCount_0f7a4_40 (by decide) rfl ?_
  refine xr_iload_n dJ6_bitCount_0f7a4_41 0 rfl ?_
  refine xr_iload_n dJ6_bitCount_0f7a4_42 0 rfl ?_
  refine xr_bipush (v := 16) dJ6_bitCount_0f7a4_43 rfl ?_
  refine xr_iushr dJ6_bitCount_0f7a4_45 ?_
  refine xr_iadd dJ6_bitCount_0f7a4_46 ?_
  refine xr_istore_n (ls2 := [(0, .int ((((((((v - ((((v).toUInt32 >>> ((1 : Int32).toUInt32 &&& Int32.toUInt32 31)).toInt32) &&& 1431655765)) &&& 858993459) + (((((v - ((((v).toUInt32 >>> ((1 : Int32).toUInt32 &&& Int32.toUInt32 31)).toInt32) &&& 1431655765))).toUInt32 >>> ((2 : Int32).toUInt32 &&& Int32.toUInt32 31)).toInt32) &&& 858993459)) + ((((((v - ((((v).toUInt32 >>> ((1 : Int32).toUInt32 &&& Int32.toUInt32 31)).toInt32) &&& 1431655765)) &&& 858993459) + (((((v - ((((v).toUInt32 >>> ((1 : Int32).toUInt32 &&& Int32.toUInt32 31)).toInt32) &&& 1431655765))).toUInt32 >>> ((2 : Int32).toUInt32 &&& Int32.toUInt32 31)).toInt32) &&& 858993459))).toUInt32 >>> ((4 : Int32).toUInt32 &&& Int32.toUInt32 31)).toInt32)) &&& 252645135) + ((((((((v - ((((v).toUInt32 >>> ((1 : Int32).toUInt32 &&& Int32.toUInt32 31)).toInt32) &&& 1431655765)) &&& 858993459) + (((((v - ((((v).toUInt32 >>> ((1 : Int32).toUInt32 &&& Int32.toUInt32 31)).toInt32) &&& 1431655765))).toUInt32 >>> ((2 : Int32).toUInt32 &&& Int32.toUInt32 31)).toInt32) &&& 858993459)) + ((((((v - ((((v).toUInt32 >>> ((1 : Int32).toUInt32 &&& Int32.toUInt32 31)).toInt32) &&& 1431655765)) &&& 858993459) + (((((v - ((((v).toUInt32 >>> ((1 : Int32).toUInt32 &&& Int32.toUInt32 31)).toInt32) &&& 1431655765))).toUInt32 >>> ((2 : Int32).toUInt32 &&& Int32.toUInt32 31)).toInt32) &&& 858993459))).toUInt32 >>> ((4 : Int32).toUInt32 &&& Int32.toUInt32 31)).toInt32)) &&& 252645135)).toUInt32 >>> ((8 : Int32).toUInt32 &&& Int32.toUInt32 31)).toInt32)) + (((((((((v - ((((v).toUInt32 >>> ((1 : Int32).toUInt32 &&& Int32.toUInt32 31)).toInt32) &&& 1431655765)) &&& 858993459) + (((((v - ((((v).toUInt32 >>> ((1 : Int32).toUInt32 &&& Int32.toUInt32 31)).toInt32) &&& 1431655765))).toUInt32 >>> ((2 : Int32).toUInt32 &&& Int32.toUInt32 31)).toInt32) &&& 858993459)) + ((((((v - ((((v).toUInt32 >>> ((1 : Int32).toUInt32 &&& Int32.toUInt32 31)).toInt32) &&& 1431655765)) &&& 858993459) + (((((v - ((((v).toUInt32 >>> ((1 : Int32).toUInt32 &&& Int32.toUInt32 31)).toInt32) &&& 1431655765))).toUInt32 >>> ((2 : Int32).toUInt32 &&& Int32.toUInt32 31)).toInt32) &&& 858993459))).toUInt32 >>> ((4 : Int32).toUInt32 &&& Int32.toUInt32 31)).toInt32)) &&& 252645135) + ((((((((v - ((((v).toUInt32 >>> ((1 : Int32).toUInt32 &&& Int32.toUInt32 31)).toInt32) &&& 1431655765)) &&& 858993459) + (((((v - ((((v).toUInt32 >>> ((1 : Int32).toUInt32 &&& Int32.toUInt32 31)).toInt32) &&& 1431655765))).toUInt32 >>> ((2 : Int32).toUInt32 &&& Int32.toUInt32 31)).toInt32) &&& 858993459)) + ((((((v - ((((v).toUInt32 >>> ((1 : Int32).toUInt32 &&& Int32.toUInt32 31)).toInt32) &&& 1431655765)) &&& 858993459) + (((((v - ((((v).toUInt32 >>> ((1 : Int32).toUInt32 &&& Int32.toUInt32 31)).toInt32) &&& 1431655765))).toUInt32 >>> ((2 : Int32).toUInt32 &&& Int32.toUInt32 31)).toInt32) &&& 858993459))).toUInt32 >>> ((4 : Int32).toUInt32 &&& Int32.toUInt32 31)).toInt32)) &&& 252645135)).toUInt32 >>> ((8 : Int32).toUInt32 &&& Int32.toUInt32 31)).toInt32))).toUInt32 >>> ((16 : Int32).toUInt32 &&& Int32.toUInt32 31)).toInt32))))]) dJ6_bitCount_0f7a4_47 (by decide) rfl ?_
  refine xr_iload_n dJ6_bitCount_0f7a4_48 0 rfl ?_
  refine xr_bipush (v := 63) dJ6_bitCount_0f7a4_49 rfl ?_
  refine xr_iand dJ6_bitCount_0f7a4_51 ?_
  exact xr_iret dJ6_bitCount_0f7a4_52 rfl rfl (⟨_, rfl, rfl, rfl, rfl⟩)
set_option maxRecDepth 100000 in
set_option maxHeartbeats 4000000 in
theorem hd_l {nn : Int32} {P cn : Nat} (hP : P = 2 ^ cn) (hP2 : P ≤ 32) (h_cn : cn ≤ 5) {l : Launch} {G : xG} {M : xM} {J : xJ} {Q : xQ} {L : Nat} (h_L : L ≤ 128) (e_L : M 1 4 = nI L) (hv : ∀ k, k < 128 → M 3 k ≤ 100000) (e_cn : M 13 2 = nI cn) (hC : ∀ (r : Int32) (M2 : xM), Ke WTH M M2 → Q (some (.int r)) x_SH M2 J) : ∀ (m k : Nat) (mo be : Int32) (M1 : xM), k + m = P → Ke WTH M M1 → x_X l G fX9_held 7 0 0 Q 22 [(4, .int (nI (k))), (3, .int (mo)), (2, .int (be)), (1, .int (nn)), (0, .ref (0))] [] x_SH M1 J 0 0 := by
  intro m
  induction m with
  | zero =>
    intro k mo be M1 hk hM
    refine xr_iload dX9_held_22 0 rfl ?_
    refine xr_iconst (v := 1) dX9_held_24 rfl ?_
    refine xr_aload_n dX9_held_25 4 rfl ?_
    refine xr_getR flX9_28 dX9_held_26 s_0 rfl ?_
    refine xb_get (v := nI (cn)) flX9_218 dX9_held_29 s_13 rfl (Eq.trans (hM 13 2 (by decide)) e_cn) ?_
    refine xr_ishl dX9_held_32 ?_
    refine xb_top (y := nI P) (sx_shl (by omega) hP) ?_
    refine xr_icmp_ge (tgt := 102) dX9_held_33 rfl (fun _ => ?_) (fun c => absurd (nI_le (a := P) (b := k) (by omega) (by omega)) c)
    refine xr_iload_n dX9_held_102 2 rfl ?_
    exact xr_iret dX9_held_103 rfl rfl (hC be _ hM)
  | succ m ih =>
    intro k mo be M1 hk hM
    refine xr_iload dX9_held_22 0 rfl ?_
    refine xr_iconst (v := 1) dX9_held_24 rfl ?_
    refine xr_aload_n dX9_held_25 4 rfl ?_
    refine xr_getR flX9_28 dX9_held_26 s_0 rfl ?_
    refine xb_get (v := nI (cn)) flX9_218 dX9_held_29 s_13 rfl (Eq.trans (hM 13 2 (by decide)) e_cn) ?_
    refine xr_ishl dX9_held_32 ?_
    refine xb_top (y := nI P) (sx_shl (by omega) hP) ?_
    refine xr_icmp_ge (tgt := 102) dX9_held_33 rfl (fun c => absurd c (nI_ge (a := k) (b := P) (by omega) (by omega))) (fun _ => ?_)
    refine xr_iload dX9_held_36 0 rfl ?_
    refine xr_callS (As := [.int (nI (k))]) (rest := []) mlX9_221 (g_J6_bitCount (nI (k))) dX9_held_38 rfl rfl (Nat.le_of_ble_eq_true rfl) (by decide) ⟨by decide, by decide⟩ (fun v s2 M9 J2 hq => ?_)
    obtain ⟨r1, rfl, rfl, rfl, rfl⟩ := hq
    try dsimp only [Option.toList, List.cons_append, List.nil_append]
    refine xr_iload_n dX9_held_41 1 rfl ?_
    refine xr_icmp_le (tgt := 96) dX9_held_42 rfl (fun c2 => ?_) (fun c2 => ?_)
    · refine xr_iinc (v := nI (k + 1)) (ls2 := [(4, .int (nI (k + 1))), (3, .int (mo)), (2, .int (be)), (1, .int (nn)), (0, .ref (0))]) dX9_held_96 0 rfl (nI_1 _) (by decide) rfl ?_
      refine xr_goto (tgt := 22) dX9_held_99 rfl ?_
      refine xb_ls (ls2 := [(4, .int (nI (k + 1))), (3, .int (mo)), (2, .int (be)), (1, .int (nn)), (0, .ref (0))]) [0, 1, 2, 3, 4] rfl ?_
      exact ih (k + 1) mo be M1 (by omega) hM
    · refine xr_aload_n dX9_held_45 4 rfl ?_
      refine xr_getR flX9_28 dX9_held_46 s_0 rfl ?_
      refine xr_iload dX9_held_49 0 rfl ?_
      refine xr_callV (As := [.int (nI (k))]) (rest := []) mlX9_226 (g_X5_allUp_13 (nI (k)) (by omega) (Eq.trans (hM 13 2 (by decide)) e_cn)) dX9_held_51 s_13 rfl rfl (Nat.le_of_ble_eq_true rfl) (by decide) ⟨by decide, by decide⟩ (fun v s2 M9 J2 hq => ?_)
      obtain ⟨r4, rfl, rfl, rfl, rfl, hx3⟩ := hq
      try dsimp only [Option.toList, List.cons_append, List.nil_append]
      refine xr_if_eq (tgt := 96) dX9_held_54 rfl (fun c5 => ?_) (fun c5 => ?_)
      · refine xr_iinc (v := nI (k + 1)) (ls2 := [(4, .int (nI (k + 1))), (3, .int (mo)), (2, .int (be)), (1, .int (nn)), (0, .ref (0))]) dX9_held_96 0 rfl (nI_1 _) (by decide) rfl ?_
        refine xr_goto (tgt := 22) dX9_held_99 rfl ?_
        refine xb_ls (ls2 := [(4, .int (nI (k + 1))), (3, .int (mo)), (2, .int (be)), (1, .int (nn)), (0, .ref (0))]) [0, 1, 2, 3, 4] rfl ?_
        exact ih (k + 1) mo be M1 (by omega) hM
      · refine xr_aload_n dX9_held_57 4 rfl ?_
        refine xr_getR flX9_40 dX9_held_58 s_0 rfl ?_
        refine xr_callV (As := []) (rest := []) mlX9_192 (g_X7_begin (by omega) (Eq.trans (hM 13 2 (by decide)) e_cn)) dX9_held_61 s_27 rfl rfl (Nat.le_of_ble_eq_true rfl) (by decide) ⟨by decide, by decide⟩ (fun v s2 M7 J2 hq => ?_)
        obtain ⟨rfl, rfl, rfl, k8, hx6⟩ := hq
        try dsimp only [Option.toList, List.cons_append, List.nil_append]
        refine xr_aload_n dX9_held_64 4 rfl ?_
        refine xr_getR flX9_40 dX9_held_65 s_0 rfl ?_
        refine xr_getR flX9_201 dX9_held_68 s_27 rfl ?_
        refine xr_iload dX9_held_71 0 rfl ?_
        refine xr_callV (As := [.int (nI (k))]) (rest := []) mlX9_229 (g_X5_layAllBut_28 (nI (k)) (by omega) hx6) dX9_held_73 s_28 rfl rfl (Nat.le_of_ble_eq_true rfl) (by decide) ⟨by decide, by decide⟩ (fun v s2 M10 J2 hq => ?_)
        obtain ⟨rfl, rfl, rfl, k11, hx9⟩ := hq
        try dsimp only [Option.toList, List.cons_append, List.nil_append]
        refine xr_aload_n dX9_held_76 4 rfl ?_
        refine xr_getR flX9_40 dX9_held_77 s_0 rfl ?_
        refine xr_callV (As := []) (rest := []) mlX9_198 (g_X7_lasting (fun k hk => by have h3 := (show M10 3 k = M 3 k from (Eq.trans (k11 3 k (by unfold W28h; omega)) (Eq.trans (k8 3 k (by unfold WTB; omega)) (Eq.trans (hM 3 k (by unfold WTH; omega)) rfl)))); rw [h3]; exact hv k hk) (by omega) (Eq.trans (k11 1 4 (by decide)) (Eq.trans (k8 1 4 (by decide)) (Eq.trans (hM 1 4 (by decide)) e_L))) (by omega) (Eq.trans (k11 28 2 (by decide)) hx6)) dX9_held_80 s_27 rfl rfl (Nat.le_of_ble_eq_true rfl) (by decide) ⟨by decide, by decide⟩ (fun v s2 M12 J2 hq => ?_)
        obtain ⟨r14, rfl, rfl, rfl, k13, _⟩ := hq
        try dsimp only [Option.toList, List.cons_append, List.nil_append]
        refine xr_iload_n dX9_held_83 3 rfl ?_
        refine xr_icmp_lt (tgt := 96) dX9_held_84 rfl (fun c15 => ?_) (fun c15 => ?_)
        · refine xr_iinc (v := nI (k + 1)) (ls2 := [(4, .int (nI (k + 1))), (3, .int (mo)), (2, .int (be)), (1, .int (nn)), (0, .ref (0))]) dX9_held_96 0 rfl (nI_1 _) (by decide) rfl ?_
          refine xr_goto (tgt := 22) dX9_held_99 rfl ?_
          refine xb_ls (ls2 := [(4, .int (nI (k + 1))), (3, .int (mo)), (2, .int (be)), (1, .int (nn)), (0, .ref (0))]) [0, 1, 2, 3, 4] rfl ?_
          exact ih (k + 1) mo be M12 (by omega) (Ke.tr (fun pp kk => (fun hh => Or.elim hh (fun h => (Or.inl h)) (fun hh => Or.elim hh (fun h => (Or.inr (Or.inl h))) (fun hh => Or.elim hh (fun h => (Or.inr (Or.inr (Or.inl (by omega))))) (fun hh => Or.elim hh (fun h => (Or.inr (Or.inr (Or.inl (by omega))))) (fun h => (Or.inr (Or.inr (Or.inr h))))))))) (Ke.tr (fun pp kk h => (Or.inr (Or.inr (Or.inr h)))) (Ke.tr (fun pp kk => (fun hh => Or.elim hh (fun h => (Or.inr (Or.inr (Or.inl h)))) (fun h => (Or.inr (Or.inr (Or.inr h)))))) hM k8) k11) k13)
        · refine xr_iload dX9_held_87 0 rfl ?_
          refine xr_istore_n (ls2 := [(2, .int (nI (k))), (4, .int (nI (k))), (3, .int (mo)), (1, .int (nn)), (0, .ref (0))]) dX9_held_89 (by decide) rfl ?_
          refine xr_iload dX9_held_90 1 rfl ?_
          refine xr_callS (As := [.int (nI (k))]) (rest := []) mlX9_221 (g_J6_bitCount (nI (k))) dX9_held_92 rfl rfl (Nat.le_of_ble_eq_true rfl) (by decide) ⟨by decide, by decide⟩ (fun v s2 M9 J2 hq => ?_)
          obtain ⟨r16, rfl, rfl, rfl, rfl⟩ := hq
          try dsimp only [Option.toList, List.cons_append, List.nil_append]
          refine xr_istore_n (ls2 := [(3, .int (r16)), (2, .int (nI (k))), (4, .int (nI (k))), (1, .int (nn)), (0, .ref (0))]) dX9_held_95 (by decide) rfl ?_
          refine xr_iinc (v := nI (k + 1)) (ls2 := [(4, .int (nI (k + 1))), (3, .int (r16)), (2, .int (nI (k))), (1, .int (nn)), (0, .ref (0))]) dX9_held_96 2 rfl (nI_1 _) (by decide) rfl ?_
          refine xr_goto (tgt := 22) dX9_held_99 rfl ?_
          refine xb_ls (ls2 := [(4, .int (nI (k + 1))), (3, .int (r16)), (2, .int (nI (k))), (1, .int (nn)), (0, .ref (0))]) [0, 1, 2, 3, 4] rfl ?_
          exact ih (k + 1) r16 (nI (k)) M12 (by omega) (Ke.tr (fun pp kk => (fun hh => Or.elim hh (fun h => (Or.inl h)) (fun hh => Or.elim hh (fun h => (Or.inr (Or.inl h))) (fun hh => Or.elim hh (fun h => (Or.inr (Or.inr (Or.inl (by omega))))) (fun hh => Or.elim hh (fun h => (Or.inr (Or.inr (Or.inl (by omega))))) (fun h => (Or.inr (Or.inr (Or.inr h))))))))) (Ke.tr (fun pp kk h => (Or.inr (Or.inr (Or.inr h)))) (Ke.tr (fun pp kk => (fun hh => Or.elim hh (fun h => (Or.inr (Or.inr (Or.inl h)))) (fun h => (Or.inr (Or.inr (Or.inr h)))))) hM k8) k11) k13)
set_option maxRecDepth 100000 in
set_option maxHeartbeats 4000000 in
theorem rs_l {go st : Int32} {h K T : Nat} (hh : h < 5) (hK : K ≤ 200) (hT : T ≤ 100) {l : Launch} {G : xG} {M : xM} {J : xJ} {Q : xQ} (hv : ∀ k, k < 128 → M 3 k ≤ 100000)  {L : Nat} (h_L : L ≤ 128) (e_L : M 1 4 = nI L) {cn : Nat} (h_cn : cn ≤ 5) (e_cn : M 13 2 = nI cn) (hC : ∀ (M2 : xM), Ke WTH M M2 → x_X l G fX9_rescue 7 0 0 Q 138 [(0, .ref (0))] [] x_SH M2 J 0 0) (hR : ∀ (r : Int32) (M2 : xM), Ke WTH M M2 → Q (some (.int r)) x_SH M2 J) : ∀ (m k : Nat) (M1 : xM), k + m = T → Ke WTH M M1 → x_X l G fX9_rescue 7 0 0 Q 90 [(7, .int (nI (k))), (6, .int (nI (T))), (5, .int (nI (K))), (4, .int (go)), (3, .int (st)), (1, .int (nI (h))), (0, .ref (0))] [] x_SH M1 J 0 0 := by
  intro m
  induction m with
  | zero =>
    intro k M1 hk hM
    refine xr_iload dX9_rescue_90 0 rfl ?_
    refine xr_iload dX9_rescue_92 1 rfl ?_
    refine xr_icmp_ge (tgt := 138) dX9_rescue_94 rfl (fun _ => ?_) (fun c => absurd (nI_le (a := T) (b := k) (by omega) (by omega)) c)
    refine xb_ls (ls2 := [(0, .ref (0))]) [6] rfl ?_
    exact hC _ hM
  | succ m ih =>
    intro k M1 hk hM
    have hkN : k < T := by omega
    refine xr_iload dX9_rescue_90 0 rfl ?_
    refine xr_iload dX9_rescue_92 1 rfl ?_
    refine xr_icmp_ge (tgt := 138) dX9_rescue_94 rfl (fun c => absurd c (nI_ge (a := k) (b := T) (by omega) (by omega))) (fun _ => ?_)
    refine xr_aload_n dX9_rescue_97 6 rfl ?_
    refine xr_getR flX9_40 dX9_rescue_98 s_0 rfl ?_
    refine xr_callV (As := []) (rest := []) mlX9_192 (g_X7_begin (by omega) (Eq.trans (hM 13 2 (by decide)) e_cn)) dX9_rescue_101 s_27 rfl rfl (Nat.le_of_ble_eq_true rfl) (by decide) ⟨by decide, by decide⟩ (fun v s2 M2 J2 hq => ?_)
    obtain ⟨rfl, rfl, rfl, k3, hx1⟩ := hq
    try dsimp only [Option.toList, List.cons_append, List.nil_append]
    refine xr_aload_n dX9_rescue_104 6 rfl ?_
    refine xr_getR flX9_40 dX9_rescue_105 s_0 rfl ?_
    refine xr_iload dX9_rescue_108 0 rfl ?_
    refine xr_iload_n dX9_rescue_110 4 rfl ?_
    refine xr_iload dX9_rescue_111 3 rfl ?_
    refine xr_callV (As := [.int (nI (k)), .int (st), .int (go)]) (rest := []) mlX9_237 (g_X7_addPush (nI (k)) st go) dX9_rescue_113 s_27 rfl rfl (Nat.le_of_ble_eq_true rfl) (by decide) ⟨by decide, by decide⟩ (fun v s2 M4 J2 hq => ?_)
    obtain ⟨rfl, rfl, rfl, k5, _⟩ := hq
    try dsimp only [Option.toList, List.cons_append, List.nil_append]
    refine xr_aload_n dX9_rescue_116 6 rfl ?_
    refine xr_getR flX9_40 dX9_rescue_117 s_0 rfl ?_
    refine xr_iload_n dX9_rescue_120 5 rfl ?_
    refine xr_iload dX9_rescue_121 2 rfl ?_
    refine xr_callV (As := [.int (nI (h)), .int (nI (K))]) (rest := []) mlX9_240 (g_X7_isUpBehind (h := h) (K := K) (by omega) (by omega) (fun k hk => by have h3 := (show M4 3 k = M 3 k from (Eq.trans (k5 3 k (by unfold W27; omega)) (Eq.trans (k3 3 k (by unfold WTB; omega)) (Eq.trans (hM 3 k (by unfold WTH; omega)) rfl)))); rw [h3]; exact hv k hk) (by omega) (Eq.trans (k5 1 4 (by decide)) (Eq.trans (k3 1 4 (by decide)) (Eq.trans (hM 1 4 (by decide)) e_L))) (by omega) (Eq.trans (k5 28 2 (by decide)) hx1)) dX9_rescue_123 s_27 rfl rfl (Nat.le_of_ble_eq_true rfl) (by decide) ⟨by decide, by decide⟩ (fun v s2 M7 J2 hq => ?_)
    obtain ⟨r9, rfl, rfl, rfl, k8, hx6⟩ := hq
    try dsimp only [Option.toList, List.cons_append, List.nil_append]
    refine xr_if_eq (tgt := 132) dX9_rescue_126 rfl (fun c10 => ?_) (fun c10 => ?_)
    · refine xr_iinc (v := nI (k + 1)) (ls2 := [(7, .int (nI (k + 1))), (6, .int (nI (T))), (5, .int (nI (K))), (4, .int (go)), (3, .int (st)), (1, .int (nI (h))), (0, .ref (0))]) dX9_rescue_132 0 rfl (nI_1 _) (by decide) rfl ?_
      refine xr_goto (tgt := 90) dX9_rescue_135 rfl ?_
      refine xb_ls (ls2 := [(7, .int (nI (k + 1))), (6, .int (nI (T))), (5, .int (nI (K))), (4, .int (go)), (3, .int (st)), (1, .int (nI (h))), (0, .ref (0))]) [0, 1, 2, 3, 4, 5, 6] rfl ?_
      exact ih (k + 1) M7 (by omega) (Ke.tr (fun pp kk => (fun hh => Or.elim hh (fun h => (Or.inl h)) (fun hh => Or.elim hh (fun h => (Or.inr (Or.inl h))) (fun hh => Or.elim hh (fun h => (Or.inr (Or.inr (Or.inl (by omega))))) (fun hh => Or.elim hh (fun h => (Or.inr (Or.inr (Or.inl (by omega))))) (fun h => (Or.inr (Or.inr (Or.inr h))))))))) (Ke.tr (fun pp kk h => (Or.inr (Or.inr (Or.inl (by omega))))) (Ke.tr (fun pp kk => (fun hh => Or.elim hh (fun h => (Or.inr (Or.inr (Or.inl h)))) (fun h => (Or.inr (Or.inr (Or.inr h)))))) hM k3) k5) k8)
    · refine xr_iload dX9_rescue_129 0 rfl ?_
      exact xr_iret dX9_rescue_131 rfl rfl (hR _ _ (Ke.tr (fun pp kk => (fun hh => Or.elim hh (fun h => (Or.inl h)) (fun hh => Or.elim hh (fun h => (Or.inr (Or.inl h))) (fun hh => Or.elim hh (fun h => (Or.inr (Or.inr (Or.inl (by omega))))) (fun hh => Or.elim hh (fun h => (Or.inr (Or.inr (Or.inl (by omega))))) (fun h => (Or.inr (Or.inr (Or.inr h))))))))) (Ke.tr (fun pp kk h => (Or.inr (Or.inr (Or.inl (by omega))))) (Ke.tr (fun pp kk => (fun hh => Or.elim hh (fun h => (Or.inr (Or.inr (Or.inl h)))) (fun h => (Or.inr (Or.inr (Or.inr h)))))) hM k3) k5) k8))
set_option maxRecDepth 100000 in
set_option maxHeartbeats 4000000 in
theorem st_l {h : Nat} (hh : h < 5) {l : Launch} {G : xG} {M : xM} {J : xJ} {Q : xQ} (hv : ∀ k, k < 128 → M 3 k ≤ 100000) {L cn : Nat} (h_L : L ≤ 128) (e_L : M 1 4 = nI L) (h_cn : cn ≤ 5) (e_cn : M 13 2 = nI cn) (hC : ∀ (la : Int32) (be : Int32) (M2 : xM), Ke WTH M M2 → x_X l G fX9_start 7 0 0 Q 117 [(2, .int (be)), (0, .ref (0))] [] x_SH M2 J 0 0) : ∀ (m k : Nat) (la : Int32) (be : Int32) (M1 : xM), k + m = 19 → Ke WTH M M1 → x_X l G fX9_start 7 0 0 Q 41 [(4, .int (pv k)), (3, .int (la)), (2, .int (be)), (1, .int (nI (h))), (0, .ref (0))] [] x_SH M1 J 0 0 := by
  intro m
  induction m with
  | zero =>
    intro k la be M1 hk hM
    refine xr_iload dX9_start_41 0 rfl ?_
    refine xr_bipush (v := 9) dX9_start_43 rfl ?_
    refine xr_icmp_gt (tgt := 117) dX9_start_45 rfl (fun _ => ?_) (fun c => absurd (pv_gt (k := k) (by omega)) c)
    refine xb_ls (ls2 := [(2, .int (be)), (0, .ref (0))]) [2, 4] rfl ?_
    exact hC la be _ hM
  | succ m ih =>
    intro k la be M1 hk hM
    refine xr_iload dX9_start_41 0 rfl ?_
    refine xr_bipush (v := 9) dX9_start_43 rfl ?_
    refine xr_icmp_gt (tgt := 117) dX9_start_45 rfl (fun c => absurd c (pv_le (k := k) (by omega))) (fun _ => ?_)
    refine xr_aload_n dX9_start_48 4 rfl ?_
    refine xr_getR flX9_40 dX9_start_49 s_0 rfl ?_
    refine xr_callV (As := []) (rest := []) mlX9_192 (g_X7_begin (by omega) (Eq.trans (hM 13 2 (by decide)) e_cn)) dX9_start_52 s_27 rfl rfl (Nat.le_of_ble_eq_true rfl) (by decide) ⟨by decide, by decide⟩ (fun v s2 M2 J2 hq => ?_)
    obtain ⟨rfl, rfl, rfl, k3, hx1⟩ := hq
    try dsimp only [Option.toList, List.cons_append, List.nil_append]
    refine xr_aload_n dX9_start_55 4 rfl ?_
    refine xr_getR flX9_40 dX9_start_56 s_0 rfl ?_
    refine xr_getR flX9_201 dX9_start_59 s_27 rfl ?_
    refine xr_getR flX9_121 dX9_start_62 s_28 rfl ?_
    refine xr_iload_n dX9_start_65 3 rfl ?_
    refine xb_aald (j := h) (q := 30 + h) (by decide) dX9_start_66 s_29 (by omega) (by decide) (if_pos (by omega)) ?_
    refine xr_iload dX9_start_67 0 rfl ?_
    refine xr_putI fpX9_186 dX9_start_69 (s_hp30 (by omega)) rfl rfl rfl ?_
    refine xr_aload_n dX9_start_72 4 rfl ?_
    refine xr_getR flX9_40 dX9_start_73 s_0 rfl ?_
    refine xr_iload_n dX9_start_76 3 rfl ?_
    refine xr_callV (As := [.int (nI (h))]) (rest := []) mlX9_195 (g_X7_fallOf (h := h) (by omega) (fun kv hkv => by have h3 := (show (x_up M2 (30 + h) 3 (pv k)) 3 kv = M 3 kv from (Eq.trans (congrFun (x_up_n _ _ _ (by first | decide | omega)) _) (Eq.trans (k3 3 kv (by unfold WTB; omega)) (Eq.trans (hM 3 kv (by unfold WTH; omega)) rfl)))); rw [h3]; exact hv kv hkv) (by omega) (Eq.trans (congrFun (x_up_n _ _ _ (by omega)) _) (Eq.trans (k3 1 4 (by decide)) (Eq.trans (hM 1 4 (by decide)) e_L))) (by omega) (Eq.trans (congrFun (x_up_n _ _ _ (by omega)) _) hx1)) dX9_start_77 s_27 rfl rfl (Nat.le_of_ble_eq_true rfl) (by decide) ⟨by decide, by decide⟩ (fun v s2 M5 J2 hq => ?_)
    obtain ⟨r7, rfl, rfl, rfl, k6, hx4⟩ := hq
    try dsimp only [Option.toList, List.cons_append, List.nil_append]
    refine xr_istore (ls2 := [(5, .int (r7)), (4, .int (pv k)), (3, .int (la)), (2, .int (be)), (1, .int (nI (h))), (0, .ref (0))]) dX9_start_80 (by decide) rfl ?_
    refine xr_iload dX9_start_82 0 rfl ?_
    refine xr_bipush (v := -2) dX9_start_84 rfl ?_
    refine xr_icmp_ne (tgt := 95) dX9_start_86 rfl (fun c8 => ?_) (fun c8 => ?_)
    · refine xr_iload dX9_start_95 0 rfl ?_
      refine xr_istore (ls2 := [(6, .int (r7)), (5, .int (r7)), (4, .int (pv k)), (3, .int (la)), (2, .int (be)), (1, .int (nI (h))), (0, .ref (0))]) dX9_start_97 (by decide) rfl ?_
      refine xr_iload dX9_start_99 0 rfl ?_
      refine xr_iload_n dX9_start_101 3 rfl ?_
      refine xr_icmp_le (tgt := 111) dX9_start_102 rfl (fun c9 => ?_) (fun c9 => ?_)
      · refine xr_iinc (v := pv (k + 1)) (ls2 := [(4, .int (pv (k + 1))), (6, .int (r7)), (5, .int (r7)), (3, .int (la)), (2, .int (be)), (1, .int (nI (h))), (0, .ref (0))]) dX9_start_111 2 rfl (pv_s (by omega)) (by decide) rfl ?_
        refine xr_goto (tgt := 41) dX9_start_114 rfl ?_
        refine xb_ls (ls2 := [(4, .int (pv (k + 1))), (3, .int (la)), (2, .int (be)), (1, .int (nI (h))), (0, .ref (0))]) [0, 3, 4, 5, 6] rfl ?_
        exact ih (k + 1) la be M5 (by omega) (Ke.tr (fun pp kk => (fun hh => Or.elim hh (fun h => (Or.inl h)) (fun hh => Or.elim hh (fun h => (Or.inr (Or.inl h))) (fun hh => Or.elim hh (fun h => (Or.inr (Or.inr (Or.inl (by omega))))) (fun hh => Or.elim hh (fun h => (Or.inr (Or.inr (Or.inl (by omega))))) (fun h => (Or.inr (Or.inr (Or.inr h))))))))) (Ke.up (Or.inr (Or.inr (Or.inr (by omega)))) (Ke.tr (fun pp kk => (fun hh => Or.elim hh (fun h => (Or.inr (Or.inr (Or.inl h)))) (fun h => (Or.inr (Or.inr (Or.inr h)))))) hM k3)) k6)
      · refine xr_iload dX9_start_105 0 rfl ?_
        refine xr_istore_n (ls2 := [(3, .int (r7)), (6, .int (r7)), (5, .int (r7)), (4, .int (pv k)), (2, .int (be)), (1, .int (nI (h))), (0, .ref (0))]) dX9_start_107 (by decide) rfl ?_
        refine xr_iload dX9_start_108 3 rfl ?_
        refine xr_istore_n (ls2 := [(2, .int (pv k)), (3, .int (r7)), (6, .int (r7)), (5, .int (r7)), (4, .int (pv k)), (1, .int (nI (h))), (0, .ref (0))]) dX9_start_110 (by decide) rfl ?_
        refine xr_iinc (v := pv (k + 1)) (ls2 := [(4, .int (pv (k + 1))), (2, .int (pv k)), (3, .int (r7)), (6, .int (r7)), (5, .int (r7)), (1, .int (nI (h))), (0, .ref (0))]) dX9_start_111 4 rfl (pv_s (by omega)) (by decide) rfl ?_
        refine xr_goto (tgt := 41) dX9_start_114 rfl ?_
        refine xb_ls (ls2 := [(4, .int (pv (k + 1))), (3, .int (r7)), (2, .int (pv k)), (1, .int (nI (h))), (0, .ref (0))]) [0, 2, 1, 5, 6] rfl ?_
        exact ih (k + 1) r7 (pv k) M5 (by omega) (Ke.tr (fun pp kk => (fun hh => Or.elim hh (fun h => (Or.inl h)) (fun hh => Or.elim hh (fun h => (Or.inr (Or.inl h))) (fun hh => Or.elim hh (fun h => (Or.inr (Or.inr (Or.inl (by omega))))) (fun hh => Or.elim hh (fun h => (Or.inr (Or.inr (Or.inl (by omega))))) (fun h => (Or.inr (Or.inr (Or.inr h))))))))) (Ke.up (Or.inr (Or.inr (Or.inr (by omega)))) (Ke.tr (fun pp kk => (fun hh => Or.elim hh (fun h => (Or.inr (Or.inr (Or.inl h)))) (fun h => (Or.inr (Or.inr (Or.inr h)))))) hM k3)) k6)
    · refine xr_sipush (v := 201) dX9_start_89 rfl ?_
      refine xr_goto (tgt := 97) dX9_start_92 rfl ?_
      refine xr_istore (ls2 := [(6, .int (201)), (5, .int (r7)), (4, .int (pv k)), (3, .int (la)), (2, .int (be)), (1, .int (nI (h))), (0, .ref (0))]) dX9_start_97 (by decide) rfl ?_
      refine xr_iload dX9_start_99 0 rfl ?_
      refine xr_iload_n dX9_start_101 3 rfl ?_
      refine xr_icmp_le (tgt := 111) dX9_start_102 rfl (fun c10 => ?_) (fun c10 => ?_)
      · refine xr_iinc (v := pv (k + 1)) (ls2 := [(4, .int (pv (k + 1))), (6, .int (201)), (5, .int (r7)), (3, .int (la)), (2, .int (be)), (1, .int (nI (h))), (0, .ref (0))]) dX9_start_111 2 rfl (pv_s (by omega)) (by decide) rfl ?_
        refine xr_goto (tgt := 41) dX9_start_114 rfl ?_
        refine xb_ls (ls2 := [(4, .int (pv (k + 1))), (3, .int (la)), (2, .int (be)), (1, .int (nI (h))), (0, .ref (0))]) [0, 3, 4, 5, 6] rfl ?_
        exact ih (k + 1) la be M5 (by omega) (Ke.tr (fun pp kk => (fun hh => Or.elim hh (fun h => (Or.inl h)) (fun hh => Or.elim hh (fun h => (Or.inr (Or.inl h))) (fun hh => Or.elim hh (fun h => (Or.inr (Or.inr (Or.inl (by omega))))) (fun hh => Or.elim hh (fun h => (Or.inr (Or.inr (Or.inl (by omega))))) (fun h => (Or.inr (Or.inr (Or.inr h))))))))) (Ke.up (Or.inr (Or.inr (Or.inr (by omega)))) (Ke.tr (fun pp kk => (fun hh => Or.elim hh (fun h => (Or.inr (Or.inr (Or.inl h)))) (fun h => (Or.inr (Or.inr (Or.inr h)))))) hM k3)) k6)
      · refine xr_iload dX9_start_105 0 rfl ?_
        refine xr_istore_n (ls2 := [(3, .int (201)), (6, .int (201)), (5, .int (r7)), (4, .int (pv k)), (2, .int (be)), (1, .int (nI (h))), (0, .ref (0))]) dX9_start_107 (by decide) rfl ?_
        refine xr_iload dX9_start_108 3 rfl ?_
        refine xr_istore_n (ls2 := [(2, .int (pv k)), (3, .int (201)), (6, .int (201)), (5, .int (r7)), (4, .int (pv k)), (1, .int (nI (h))), (0, .ref (0))]) dX9_start_110 (by decide) rfl ?_
        refine xr_iinc (v := pv (k + 1)) (ls2 := [(4, .int (pv (k + 1))), (2, .int (pv k)), (3, .int (201)), (6, .int (201)), (5, .int (r7)), (1, .int (nI (h))), (0, .ref (0))]) dX9_start_111 4 rfl (pv_s (by omega)) (by decide) rfl ?_
        refine xr_goto (tgt := 41) dX9_start_114 rfl ?_
        refine xb_ls (ls2 := [(4, .int (pv (k + 1))), (3, .int (201)), (2, .int (pv k)), (1, .int (nI (h))), (0, .ref (0))]) [0, 2, 1, 5, 6] rfl ?_
        exact ih (k + 1) 201 (pv k) M5 (by omega) (Ke.tr (fun pp kk => (fun hh => Or.elim hh (fun h => (Or.inl h)) (fun hh => Or.elim hh (fun h => (Or.inr (Or.inl h))) (fun hh => Or.elim hh (fun h => (Or.inr (Or.inr (Or.inl (by omega))))) (fun hh => Or.elim hh (fun h => (Or.inr (Or.inr (Or.inl (by omega))))) (fun h => (Or.inr (Or.inr (Or.inr h))))))))) (Ke.up (Or.inr (Or.inr (Or.inr (by omega)))) (Ke.tr (fun pp kk => (fun hh => Or.elim hh (fun h => (Or.inr (Or.inr (Or.inl h)))) (fun h => (Or.inr (Or.inr (Or.inr h)))))) hM k3)) k6)
set_option maxRecDepth 100000 in
set_option maxHeartbeats 4000000 in
theorem bg_l {w : Int32} {h s_ : Nat} (hh : h < 5) (hs_ : s_ < 6) {l : Launch} {G : xG} {M : xM} {J : xJ} {Q : xQ} (hv : ∀ k, k < 128 → M 3 k ≤ 100000) {L cn : Nat} (h_L : L ≤ 128) (e_L : M 1 4 = nI L) (h_cn : cn ≤ 5) (e_cn : M 13 2 = nI cn) (hC : ∀ (fi : Int32) (ft : Int32) (M2 : xM), Ke WTH M M2 → x_X l G fX9_begun 7 0 0 Q 150 [(6, .int (fi)), (5, .int (ft)), (3, .int (w)), (0, .ref (0))] [] x_SH M2 J 0 0) : ∀ (m k : Nat) (fi : Int32) (ft : Int32) (M1 : xM), k + m = 19 → Ke WTH M M1 → x_X l G fX9_begun 7 0 0 Q 77 [(7, .int (pv k)), (6, .int (fi)), (5, .int (ft)), (4, .int (9)), (3, .int (w)), (2, .int (nI (h))), (1, .int (nI (s_))), (0, .ref (0))] [] x_SH M1 J 0 0 := by
  intro m
  induction m with
  | zero =>
    intro k fi ft M1 hk hM
    refine xr_iload dX9_begun_77 0 rfl ?_
    refine xr_iload dX9_begun_79 3 rfl ?_
    refine xr_icmp_gt (tgt := 150) dX9_begun_81 rfl (fun _ => ?_) (fun c => absurd (pv_gt (k := k) (by omega)) c)
    refine xb_ls (ls2 := [(6, .int (fi)), (5, .int (ft)), (3, .int (w)), (0, .ref (0))]) [1, 2, 4, 7] rfl ?_
    exact hC fi ft _ hM
  | succ m ih =>
    intro k fi ft M1 hk hM
    refine xr_iload dX9_begun_77 0 rfl ?_
    refine xr_iload dX9_begun_79 3 rfl ?_
    refine xr_icmp_gt (tgt := 150) dX9_begun_81 rfl (fun c => absurd c (pv_le (k := k) (by omega))) (fun _ => ?_)
    refine xr_aload_n dX9_begun_84 7 rfl ?_
    refine xr_getR flX9_40 dX9_begun_85 s_0 rfl ?_
    refine xr_callV (As := []) (rest := []) mlX9_192 (g_X7_begin (by omega) (Eq.trans (hM 13 2 (by decide)) e_cn)) dX9_begun_88 s_27 rfl rfl (Nat.le_of_ble_eq_true rfl) (by decide) ⟨by decide, by decide⟩ (fun v s2 M2 J2 hq => ?_)
    obtain ⟨rfl, rfl, rfl, k3, hx1⟩ := hq
    try dsimp only [Option.toList, List.cons_append, List.nil_append]
    refine xr_aload_n dX9_begun_91 7 rfl ?_
    refine xr_getR flX9_40 dX9_begun_92 s_0 rfl ?_
    refine xr_getR flX9_201 dX9_begun_95 s_27 rfl ?_
    refine xr_getR flX9_121 dX9_begun_98 s_28 rfl ?_
    refine xr_iload_n dX9_begun_101 5 rfl ?_
    refine xb_aald (j := h) (q := 30 + h) (by decide) dX9_begun_102 s_29 (by omega) (by decide) (if_pos (by omega)) ?_
    refine xr_iload dX9_begun_103 0 rfl ?_
    refine xr_putI fpX9_186 dX9_begun_105 (s_hp30 (by omega)) rfl rfl rfl ?_
    refine xr_aload_n dX9_begun_108 7 rfl ?_
    refine xr_getR flX9_40 dX9_begun_109 s_0 rfl ?_
    refine xr_aload_n dX9_begun_112 7 rfl ?_
    refine xr_getR flX9_67 dX9_begun_113 s_0 rfl ?_
    refine xr_iload_n dX9_begun_116 6 rfl ?_
    refine xb_aald (j := s_) (q := 50 + 2 * s_) (by decide) dX9_begun_117 s_49 (by omega) (by decide) (if_pos (by omega)) ?_
    refine xr_iload_n dX9_begun_118 5 rfl ?_
    refine xr_callV (As := [.ref (50 + 2 * s_), .int (nI (h))]) (rest := []) mlX9_251 (g_X7_firstUnlike (h := h) (by omega) (s_shelf (by omega)) (s_elem (by omega)) (fun kv hkv => by have h3 := (show (x_up M2 (30 + h) 3 (pv k)) 3 kv = M 3 kv from (Eq.trans (congrFun (x_up_n _ _ _ (by first | decide | omega)) _) (Eq.trans (k3 3 kv (by unfold WTB; omega)) (Eq.trans (hM 3 kv (by unfold WTH; omega)) rfl)))); rw [h3]; exact hv kv hkv) (by omega) (Eq.trans (congrFun (x_up_n _ _ _ (by omega)) _) (Eq.trans (k3 1 4 (by decide)) (Eq.trans (hM 1 4 (by decide)) e_L))) (by omega) (Eq.trans (congrFun (x_up_n _ _ _ (by omega)) _) hx1)) dX9_begun_119 s_27 rfl rfl (Nat.le_of_ble_eq_true rfl) (by decide) ⟨by decide, by decide⟩ (fun v s2 M4 J2 hq => ?_)
    obtain ⟨r6, rfl, rfl, rfl, k5, _⟩ := hq
    try dsimp only [Option.toList, List.cons_append, List.nil_append]
    refine xr_bipush (v := -2) dX9_begun_122 rfl ?_
    refine xr_icmp_ne (tgt := 144) dX9_begun_124 rfl (fun c7 => ?_) (fun c7 => ?_)
    · refine xr_iinc (v := pv (k + 1)) (ls2 := [(7, .int (pv (k + 1))), (6, .int (fi)), (5, .int (ft)), (4, .int (9)), (3, .int (w)), (2, .int (nI (h))), (1, .int (nI (s_))), (0, .ref (0))]) dX9_begun_144 0 rfl (pv_s (by omega)) (by decide) rfl ?_
      refine xr_goto (tgt := 77) dX9_begun_147 rfl ?_
      refine xb_ls (ls2 := [(7, .int (pv (k + 1))), (6, .int (fi)), (5, .int (ft)), (4, .int (9)), (3, .int (w)), (2, .int (nI (h))), (1, .int (nI (s_))), (0, .ref (0))]) [0, 1, 2, 3, 4, 5, 6, 7] rfl ?_
      exact ih (k + 1) fi ft M4 (by omega) (Ke.tr (fun pp kk => (fun hh => Or.elim hh (fun h => (Or.inl h)) (fun hh => Or.elim hh (fun h => (Or.inr (Or.inl h))) (fun hh => Or.elim hh (fun h => (Or.inr (Or.inr (Or.inl (by omega))))) (fun hh => Or.elim hh (fun h => (Or.inr (Or.inr (Or.inl (by omega))))) (fun h => (Or.inr (Or.inr (Or.inr h))))))))) (Ke.up (Or.inr (Or.inr (Or.inr (by omega)))) (Ke.tr (fun pp kk => (fun hh => Or.elim hh (fun h => (Or.inr (Or.inr (Or.inl h)))) (fun h => (Or.inr (Or.inr (Or.inr h)))))) hM k3)) k5)
    · refine xr_iload dX9_begun_127 2 rfl ?_
      refine xr_if_ne (tgt := 137) dX9_begun_129 rfl (fun c8 => ?_) (fun c8 => ?_)
      · refine xr_iload dX9_begun_137 1 rfl ?_
        refine xr_istore (ls2 := [(6, .int (fi)), (7, .int (pv k)), (5, .int (ft)), (4, .int (9)), (3, .int (w)), (2, .int (nI (h))), (1, .int (nI (s_))), (0, .ref (0))]) dX9_begun_139 (by decide) rfl ?_
        refine xr_iinc (v := ft + 1) (ls2 := [(5, .int (ft + 1)), (6, .int (fi)), (7, .int (pv k)), (4, .int (9)), (3, .int (w)), (2, .int (nI (h))), (1, .int (nI (s_))), (0, .ref (0))]) dX9_begun_141 2 rfl rfl (by decide) rfl ?_
        refine xr_iinc (v := pv (k + 1)) (ls2 := [(7, .int (pv (k + 1))), (5, .int (ft + 1)), (6, .int (fi)), (4, .int (9)), (3, .int (w)), (2, .int (nI (h))), (1, .int (nI (s_))), (0, .ref (0))]) dX9_begun_144 2 rfl (pv_s (by omega)) (by decide) rfl ?_
        refine xr_goto (tgt := 77) dX9_begun_147 rfl ?_
        refine xb_ls (ls2 := [(7, .int (pv (k + 1))), (6, .int (fi)), (5, .int (ft + 1)), (4, .int (9)), (3, .int (w)), (2, .int (nI (h))), (1, .int (nI (s_))), (0, .ref (0))]) [0, 2, 1, 3, 4, 5, 6, 7] rfl ?_
        exact ih (k + 1) fi (ft + 1) M4 (by omega) (Ke.tr (fun pp kk => (fun hh => Or.elim hh (fun h => (Or.inl h)) (fun hh => Or.elim hh (fun h => (Or.inr (Or.inl h))) (fun hh => Or.elim hh (fun h => (Or.inr (Or.inr (Or.inl (by omega))))) (fun hh => Or.elim hh (fun h => (Or.inr (Or.inr (Or.inl (by omega))))) (fun h => (Or.inr (Or.inr (Or.inr h))))))))) (Ke.up (Or.inr (Or.inr (Or.inr (by omega)))) (Ke.tr (fun pp kk => (fun hh => Or.elim hh (fun h => (Or.inr (Or.inr (Or.inl h)))) (fun h => (Or.inr (Or.inr (Or.inr h)))))) hM k3)) k5)
      · refine xr_iload dX9_begun_132 0 rfl ?_
        refine xr_goto (tgt := 139) dX9_begun_134 rfl ?_
        refine xr_istore (ls2 := [(6, .int (pv k)), (7, .int (pv k)), (5, .int (ft)), (4, .int (9)), (3, .int (w)), (2, .int (nI (h))), (1, .int (nI (s_))), (0, .ref (0))]) dX9_begun_139 (by decide) rfl ?_
        refine xr_iinc (v := ft + 1) (ls2 := [(5, .int (ft + 1)), (6, .int (pv k)), (7, .int (pv k)), (4, .int (9)), (3, .int (w)), (2, .int (nI (h))), (1, .int (nI (s_))), (0, .ref (0))]) dX9_begun_141 2 rfl rfl (by decide) rfl ?_
        refine xr_iinc (v := pv (k + 1)) (ls2 := [(7, .int (pv (k + 1))), (5, .int (ft + 1)), (6, .int (pv k)), (4, .int (9)), (3, .int (w)), (2, .int (nI (h))), (1, .int (nI (s_))), (0, .ref (0))]) dX9_begun_144 2 rfl (pv_s (by omega)) (by decide) rfl ?_
        refine xr_goto (tgt := 77) dX9_begun_147 rfl ?_
        refine xb_ls (ls2 := [(7, .int (pv (k + 1))), (6, .int (pv k)), (5, .int (ft + 1)), (4, .int (9)), (3, .int (w)), (2, .int (nI (h))), (1, .int (nI (s_))), (0, .ref (0))]) [0, 2, 1, 3, 4, 5, 6, 7] rfl ?_
        exact ih (k + 1) (pv k) (ft + 1) M4 (by omega) (Ke.tr (fun pp kk => (fun hh => Or.elim hh (fun h => (Or.inl h)) (fun hh => Or.elim hh (fun h => (Or.inr (Or.inl h))) (fun hh => Or.elim hh (fun h => (Or.inr (Or.inr (Or.inl (by omega))))) (fun hh => Or.elim hh (fun h => (Or.inr (Or.inr (Or.inl (by omega))))) (fun h => (Or.inr (Or.inr (Or.inr h))))))))) (Ke.up (Or.inr (Or.inr (Or.inr (by omega)))) (Ke.tr (fun pp kk => (fun hh => Or.elim hh (fun h => (Or.inr (Or.inr (Or.inl h)))) (fun h => (Or.inr (Or.inr (Or.inr h)))))) hM k3)) k5)
set_option maxRecDepth 100000 in
set_option maxHeartbeats 4000000 in
theorem tp0_0 {ac b : Nat} (x : Int32) {l : Launch} {G : xG} {M : xM} {J : xJ} (h_b : b ≤ 50) (e_b : M 46 2 = nI b) (hac : ac < b) (e_k : M 47 ac = 0) : x_M l G fX8_perform 4 0 0 [.ref (46), .int (nI (ac)), .int (0), .int (x)] x_SH M J (qKI WTR M J (fun r M2 => r = (x + (nI ac)) ∧ M2 46 3 = nI 1)) := by
  refine xb_of pX8 (Nat.le_of_ble_eq_true rfl) rfl ?_
  refine xr_aload_n dX8_perform_0 0 rfl ?_
  refine xr_iconst (v := 0) dX8_perform_1 rfl ?_
  refine xr_putI fpX8_33 dX8_perform_2 s_46 rfl rfl rfl ?_
  refine xr_aload_n dX8_perform_5 0 rfl ?_
  refine xr_iload_n dX8_perform_6 1 rfl ?_
  refine xr_putI fpX8_36 dX8_perform_7 s_46 rfl rfl rfl ?_
  refine xr_aload_n dX8_perform_10 0 rfl ?_
  refine xr_iload_n dX8_perform_11 2 rfl ?_
  refine xr_iload_n dX8_perform_12 3 rfl ?_
  refine xr_iconst (v := 0) dX8_perform_13 rfl ?_
  refine xr_callV (As := [.int (0), .int (x), .int (0)]) (rest := []) mlX8_39 (tu0_own_0 (e := 0) (ac := ac) (ra := 0) x (by omega) h_b (Eq.trans (x_up_k _ _ _ (by decide)) (Eq.trans (x_up_k _ _ _ (by decide)) e_b)) (by omega) (Eq.trans (x_up_k _ _ _ (by decide)) (x_up_s _ _ _ _)) hac (x_up_s _ _ _ _) (Eq.trans (congrFun (x_up_n _ _ _ (by decide)) _) (Eq.trans (congrFun (x_up_n _ _ _ (by decide)) _) e_k))) dX8_perform_14 s_46 rfl rfl (Nat.le_of_ble_eq_true rfl) (by decide) ⟨by decide, by decide⟩ (fun v s2 M3 J2 hq => ?_)
  obtain ⟨r5, rfl, rfl, rfl, k4, ⟨hr2, hx1⟩⟩ := hq
  try dsimp only [Option.toList, List.cons_append, List.nil_append]
  subst hr2
  exact xr_iret dX8_perform_17 rfl rfl (⟨_, rfl, rfl, rfl, (Ke.tr (fun pp kk => (fun hh => Or.elim hh (fun h => (Or.inl h)) (fun h => (Or.inr (Or.inr h))))) (Ke.up (Or.inr (Or.inl (by omega))) (Ke.up (Or.inl (by omega)) Ke.rf)) k4), ⟨rfl, (hx1.trans (congrArg nI (Nat.zero_add _)))⟩⟩)
set_option maxRecDepth 100000 in
set_option maxHeartbeats 4000000 in
theorem tp0_1 {ac b : Nat} (x : Int32) {l : Launch} {G : xG} {M : xM} {J : xJ} (h_b : b ≤ 50) (e_b : M 46 2 = nI b) (hac : ac < b) (e_k : M 47 ac = 0) : x_M l G fX8_perform 7 0 0 [.ref (46), .int (nI (ac)), .int (1), .int (x)] x_SH M J (qKI WTR M J (fun r M2 => r = ((x + (nI ac)) * 2) ∧ M2 46 3 = nI 2)) := by
  refine xb_of pX8 (Nat.le_of_ble_eq_true rfl) rfl ?_
  refine xr_aload_n dX8_perform_0 0 rfl ?_
  refine xr_iconst (v := 0) dX8_perform_1 rfl ?_
  refine xr_putI fpX8_33 dX8_perform_2 s_46 rfl rfl rfl ?_
  refine xr_aload_n dX8_perform_5 0 rfl ?_
  refine xr_iload_n dX8_perform_6 1 rfl ?_
  refine xr_putI fpX8_36 dX8_perform_7 s_46 rfl rfl rfl ?_
  refine xr_aload_n dX8_perform_10 0 rfl ?_
  refine xr_iload_n dX8_perform_11 2 rfl ?_
  refine xr_iload_n dX8_perform_12 3 rfl ?_
  refine xr_iconst (v := 0) dX8_perform_13 rfl ?_
  refine xr_callV (As := [.int (1), .int (x), .int (0)]) (rest := []) mlX8_39 (tu0_own_1 (e := 0) (ac := ac) (ra := 0) x (by omega) h_b (Eq.trans (x_up_k _ _ _ (by decide)) (Eq.trans (x_up_k _ _ _ (by decide)) e_b)) (by omega) (Eq.trans (x_up_k _ _ _ (by decide)) (x_up_s _ _ _ _)) hac (x_up_s _ _ _ _) (Eq.trans (congrFun (x_up_n _ _ _ (by decide)) _) (Eq.trans (congrFun (x_up_n _ _ _ (by decide)) _) e_k))) dX8_perform_14 s_46 rfl rfl (Nat.le_of_ble_eq_true rfl) (by decide) ⟨by decide, by decide⟩ (fun v s2 M3 J2 hq => ?_)
  obtain ⟨r5, rfl, rfl, rfl, k4, ⟨hr2, hx1⟩⟩ := hq
  try dsimp only [Option.toList, List.cons_append, List.nil_append]
  subst hr2
  exact xr_iret dX8_perform_17 rfl rfl (⟨_, rfl, rfl, rfl, (Ke.tr (fun pp kk => (fun hh => Or.elim hh (fun h => (Or.inl h)) (fun h => (Or.inr (Or.inr h))))) (Ke.up (Or.inr (Or.inl (by omega))) (Ke.up (Or.inl (by omega)) Ke.rf)) k4), ⟨rfl, (hx1.trans (congrArg nI (Nat.zero_add _)))⟩⟩)
set_option maxRecDepth 100000 in
set_option maxHeartbeats 4000000 in
theorem tp0_2 {ac b : Nat} (x : Int32) {l : Launch} {G : xG} {M : xM} {J : xJ} (h_b : b ≤ 50) (e_b : M 46 2 = nI b) (hac : ac < b) (e_k : M 47 ac = 0) : x_M l G fX8_perform 4 0 0 [.ref (46), .int (nI (ac)), .int (2), .int (x)] x_SH M J (qKI WTR M J (fun r M2 => r = (x ^^^ (nI ac)) ∧ M2 46 3 = nI 1)) := by
  refine xb_of pX8 (Nat.le_of_ble_eq_true rfl) rfl ?_
  refine xr_aload_n dX8_perform_0 0 rfl ?_
  refine xr_iconst (v := 0) dX8_perform_1 rfl ?_
  refine xr_putI fpX8_33 dX8_perform_2 s_46 rfl rfl rfl ?_
  refine xr_aload_n dX8_perform_5 0 rfl ?_
  refine xr_iload_n dX8_perform_6 1 rfl ?_
  refine xr_putI fpX8_36 dX8_perform_7 s_46 rfl rfl rfl ?_
  refine xr_aload_n dX8_perform_10 0 rfl ?_
  refine xr_iload_n dX8_perform_11 2 rfl ?_
  refine xr_iload_n dX8_perform_12 3 rfl ?_
  refine xr_iconst (v := 0) dX8_perform_13 rfl ?_
  refine xr_callV (As := [.int (2), .int (x), .int (0)]) (rest := []) mlX8_39 (tu0_own_2 (e := 0) (ac := ac) (ra := 0) x (by omega) h_b (Eq.trans (x_up_k _ _ _ (by decide)) (Eq.trans (x_up_k _ _ _ (by decide)) e_b)) (by omega) (Eq.trans (x_up_k _ _ _ (by decide)) (x_up_s _ _ _ _)) hac (x_up_s _ _ _ _) (Eq.trans (congrFun (x_up_n _ _ _ (by decide)) _) (Eq.trans (congrFun (x_up_n _ _ _ (by decide)) _) e_k))) dX8_perform_14 s_46 rfl rfl (Nat.le_of_ble_eq_true rfl) (by decide) ⟨by decide, by decide⟩ (fun v s2 M3 J2 hq => ?_)
  obtain ⟨r5, rfl, rfl, rfl, k4, ⟨hr2, hx1⟩⟩ := hq
  try dsimp only [Option.toList, List.cons_append, List.nil_append]
  subst hr2
  exact xr_iret dX8_perform_17 rfl rfl (⟨_, rfl, rfl, rfl, (Ke.tr (fun pp kk => (fun hh => Or.elim hh (fun h => (Or.inl h)) (fun h => (Or.inr (Or.inr h))))) (Ke.up (Or.inr (Or.inl (by omega))) (Ke.up (Or.inl (by omega)) Ke.rf)) k4), ⟨rfl, (hx1.trans (congrArg nI (Nat.zero_add _)))⟩⟩)
set_option maxRecDepth 100000 in
set_option maxHeartbeats 4000000 in
theorem tp0_3 {ac b : Nat} (x : Int32) {l : Launch} {G : xG} {M : xM} {J : xJ} (h_b : b ≤ 50) (e_b : M 46 2 = nI b) (hac : ac < b) (e_k : M 47 ac = 0) : x_M l G fX8_perform 10 0 0 [.ref (46), .int (nI (ac)), .int (3), .int (x)] x_SH M J (qKI WTR M J (fun r M2 => r = (((x + (nI ac)) * 2) - (1 ^^^ (nI ac))) ∧ M2 46 3 = nI 4)) := by
  refine xb_of pX8 (Nat.le_of_ble_eq_true rfl) rfl ?_
  refine xr_aload_n dX8_perform_0 0 rfl ?_
  refine xr_iconst (v := 0) dX8_perform_1 rfl ?_
  refine xr_putI fpX8_33 dX8_perform_2 s_46 rfl rfl rfl ?_
  refine xr_aload_n dX8_perform_5 0 rfl ?_
  refine xr_iload_n dX8_perform_6 1 rfl ?_
  refine xr_putI fpX8_36 dX8_perform_7 s_46 rfl rfl rfl ?_
  refine xr_aload_n dX8_perform_10 0 rfl ?_
  refine xr_iload_n dX8_perform_11 2 rfl ?_
  refine xr_iload_n dX8_perform_12 3 rfl ?_
  refine xr_iconst (v := 0) dX8_perform_13 rfl ?_
  refine xr_callV (As := [.int (3), .int (x), .int (0)]) (rest := []) mlX8_39 (tu0_own_3 (e := 0) (ac := ac) (ra := 0) x (by omega) h_b (Eq.trans (x_up_k _ _ _ (by decide)) (Eq.trans (x_up_k _ _ _ (by decide)) e_b)) (by omega) (Eq.trans (x_up_k _ _ _ (by decide)) (x_up_s _ _ _ _)) hac (x_up_s _ _ _ _) (Eq.trans (congrFun (x_up_n _ _ _ (by decide)) _) (Eq.trans (congrFun (x_up_n _ _ _ (by decide)) _) e_k))) dX8_perform_14 s_46 rfl rfl (Nat.le_of_ble_eq_true rfl) (by decide) ⟨by decide, by decide⟩ (fun v s2 M3 J2 hq => ?_)
  obtain ⟨r5, rfl, rfl, rfl, k4, ⟨hr2, hx1⟩⟩ := hq
  try dsimp only [Option.toList, List.cons_append, List.nil_append]
  subst hr2
  exact xr_iret dX8_perform_17 rfl rfl (⟨_, rfl, rfl, rfl, (Ke.tr (fun pp kk => (fun hh => Or.elim hh (fun h => (Or.inl h)) (fun h => (Or.inr (Or.inr h))))) (Ke.up (Or.inr (Or.inl (by omega))) (Ke.up (Or.inl (by omega)) Ke.rf)) k4), ⟨rfl, (hx1.trans (congrArg nI (Nat.zero_add _)))⟩⟩)
set_option maxRecDepth 100000 in
set_option maxHeartbeats 4000000 in
theorem tp1_0 {ac b : Nat} (x : Int32) {l : Launch} {G : xG} {M : xM} {J : xJ} (h_b : b ≤ 50) (e_b : M 46 2 = nI b) (hac : ac < b) (e_k : M 47 ac = 1) : x_M l G fX8_perform 7 0 0 [.ref (46), .int (nI (ac)), .int (0), .int (x)] x_SH M J (qKI WTR M J (fun r M2 => r = ((x + (nI ac)) + 3) ∧ M2 46 3 = nI 2)) := by
  refine xb_of pX8 (Nat.le_of_ble_eq_true rfl) rfl ?_
  refine xr_aload_n dX8_perform_0 0 rfl ?_
  refine xr_iconst (v := 0) dX8_perform_1 rfl ?_
  refine xr_putI fpX8_33 dX8_perform_2 s_46 rfl rfl rfl ?_
  refine xr_aload_n dX8_perform_5 0 rfl ?_
  refine xr_iload_n dX8_perform_6 1 rfl ?_
  refine xr_putI fpX8_36 dX8_perform_7 s_46 rfl rfl rfl ?_
  refine xr_aload_n dX8_perform_10 0 rfl ?_
  refine xr_iload_n dX8_perform_11 2 rfl ?_
  refine xr_iload_n dX8_perform_12 3 rfl ?_
  refine xr_iconst (v := 0) dX8_perform_13 rfl ?_
  refine xr_callV (As := [.int (0), .int (x), .int (0)]) (rest := []) mlX8_39 (tu1_own_0 (e := 0) (ac := ac) (ra := 0) x (by omega) h_b (Eq.trans (x_up_k _ _ _ (by decide)) (Eq.trans (x_up_k _ _ _ (by decide)) e_b)) (by omega) (Eq.trans (x_up_k _ _ _ (by decide)) (x_up_s _ _ _ _)) hac (x_up_s _ _ _ _) (Eq.trans (congrFun (x_up_n _ _ _ (by decide)) _) (Eq.trans (congrFun (x_up_n _ _ _ (by decide)) _) e_k))) dX8_perform_14 s_46 rfl rfl (Nat.le_of_ble_eq_true rfl) (by decide) ⟨by decide, by decide⟩ (fun v s2 M3 J2 hq => ?_)
  obtain ⟨r5, rfl, rfl, rfl, k4, ⟨hr2, hx1⟩⟩ := hq
  try dsimp only [Option.toList, List.cons_append, List.nil_append]
  subst hr2
  exact xr_iret dX8_perform_17 rfl rfl (⟨_, rfl, rfl, rfl, (Ke.tr (fun pp kk => (fun hh => Or.elim hh (fun h => (Or.inl h)) (fun h => (Or.inr (Or.inr h))))) (Ke.up (Or.inr (Or.inl (by omega))) (Ke.up (Or.inl (by omega)) Ke.rf)) k4), ⟨rfl, (hx1.trans (congrArg nI (Nat.zero_add _)))⟩⟩)
set_option maxRecDepth 100000 in
set_option maxHeartbeats 4000000 in
theorem tp1_1 {ac b : Nat} (x : Int32) {l : Launch} {G : xG} {M : xM} {J : xJ} (h_b : b ≤ 50) (e_b : M 46 2 = nI b) (hac : ac < b) (e_k : M 47 ac = 1) : x_M l G fX8_perform 10 0 0 [.ref (46), .int (nI (ac)), .int (1), .int (x)] x_SH M J (qKI WTR M J (fun r M2 => r = (((x + (nI ac)) + 3) * 2) ∧ M2 46 3 = nI 3)) := by
  refine xb_of pX8 (Nat.le_of_ble_eq_true rfl) rfl ?_
  refine xr_aload_n dX8_perform_0 0 rfl ?_
  refine xr_iconst (v := 0) dX8_perform_1 rfl ?_
  refine xr_putI fpX8_33 dX8_perform_2 s_46 rfl rfl rfl ?_
  refine xr_aload_n dX8_perform_5 0 rfl ?_
  refine xr_iload_n dX8_perform_6 1 rfl ?_
  refine xr_putI fpX8_36 dX8_perform_7 s_46 rfl rfl rfl ?_
  refine xr_aload_n dX8_perform_10 0 rfl ?_
  refine xr_iload_n dX8_perform_11 2 rfl ?_
  refine xr_iload_n dX8_perform_12 3 rfl ?_
  refine xr_iconst (v := 0) dX8_perform_13 rfl ?_
  refine xr_callV (As := [.int (1), .int (x), .int (0)]) (rest := []) mlX8_39 (tu1_own_1 (e := 0) (ac := ac) (ra := 0) x (by omega) h_b (Eq.trans (x_up_k _ _ _ (by decide)) (Eq.trans (x_up_k _ _ _ (by decide)) e_b)) (by omega) (Eq.trans (x_up_k _ _ _ (by decide)) (x_up_s _ _ _ _)) hac (x_up_s _ _ _ _) (Eq.trans (congrFun (x_up_n _ _ _ (by decide)) _) (Eq.trans (congrFun (x_up_n _ _ _ (by decide)) _) e_k))) dX8_perform_14 s_46 rfl rfl (Nat.le_of_ble_eq_true rfl) (by decide) ⟨by decide, by decide⟩ (fun v s2 M3 J2 hq => ?_)
  obtain ⟨r5, rfl, rfl, rfl, k4, ⟨hr2, hx1⟩⟩ := hq
  try dsimp only [Option.toList, List.cons_append, List.nil_append]
  subst hr2
  exact xr_iret dX8_perform_17 rfl rfl (⟨_, rfl, rfl, rfl, (Ke.tr (fun pp kk => (fun hh => Or.elim hh (fun h => (Or.inl h)) (fun h => (Or.inr (Or.inr h))))) (Ke.up (Or.inr (Or.inl (by omega))) (Ke.up (Or.inl (by omega)) Ke.rf)) k4), ⟨rfl, (hx1.trans (congrArg nI (Nat.zero_add _)))⟩⟩)
set_option maxRecDepth 100000 in
set_option maxHeartbeats 4000000 in
theorem tp1_2 {ac b : Nat} (x : Int32) {l : Launch} {G : xG} {M : xM} {J : xJ} (h_b : b ≤ 50) (e_b : M 46 2 = nI b) (hac : ac < b) (e_k : M 47 ac = 1) : x_M l G fX8_perform 4 0 0 [.ref (46), .int (nI (ac)), .int (2), .int (x)] x_SH M J (qKI WTR M J (fun r M2 => r = (x ^^^ (nI ac)) ∧ M2 46 3 = nI 1)) := by
  refine xb_of pX8 (Nat.le_of_ble_eq_true rfl) rfl ?_
  refine xr_aload_n dX8_perform_0 0 rfl ?_
  refine xr_iconst (v := 0) dX8_perform_1 rfl ?_
  refine xr_putI fpX8_33 dX8_perform_2 s_46 rfl rfl rfl ?_
  refine xr_aload_n dX8_perform_5 0 rfl ?_
  refine xr_iload_n dX8_perform_6 1 rfl ?_
  refine xr_putI fpX8_36 dX8_perform_7 s_46 rfl rfl rfl ?_
  refine xr_aload_n dX8_perform_10 0 rfl ?_
  refine xr_iload_n dX8_perform_11 2 rfl ?_
  refine xr_iload_n dX8_perform_12 3 rfl ?_
  refine xr_iconst (v := 0) dX8_perform_13 rfl ?_
  refine xr_callV (As := [.int (2), .int (x), .int (0)]) (rest := []) mlX8_39 (tu1_own_2 (e := 0) (ac := ac) (ra := 0) x (by omega) h_b (Eq.trans (x_up_k _ _ _ (by decide)) (Eq.trans (x_up_k _ _ _ (by decide)) e_b)) (by omega) (Eq.trans (x_up_k _ _ _ (by decide)) (x_up_s _ _ _ _)) hac (x_up_s _ _ _ _) (Eq.trans (congrFun (x_up_n _ _ _ (by decide)) _) (Eq.trans (congrFun (x_up_n _ _ _ (by decide)) _) e_k))) dX8_perform_14 s_46 rfl rfl (Nat.le_of_ble_eq_true rfl) (by decide) ⟨by decide, by decide⟩ (fun v s2 M3 J2 hq => ?_)
  obtain ⟨r5, rfl, rfl, rfl, k4, ⟨hr2, hx1⟩⟩ := hq
  try dsimp only [Option.toList, List.cons_append, List.nil_append]
  subst hr2
  exact xr_iret dX8_perform_17 rfl rfl (⟨_, rfl, rfl, rfl, (Ke.tr (fun pp kk => (fun hh => Or.elim hh (fun h => (Or.inl h)) (fun h => (Or.inr (Or.inr h))))) (Ke.up (Or.inr (Or.inl (by omega))) (Ke.up (Or.inl (by omega)) Ke.rf)) k4), ⟨rfl, (hx1.trans (congrArg nI (Nat.zero_add _)))⟩⟩)
set_option maxRecDepth 100000 in
set_option maxHeartbeats 4000000 in
theorem tp1_3 {ac b : Nat} (x : Int32) {l : Launch} {G : xG} {M : xM} {J : xJ} (h_b : b ≤ 50) (e_b : M 46 2 = nI b) (hac : ac < b) (e_k : M 47 ac = 1) : x_M l G fX8_perform 13 0 0 [.ref (46), .int (nI (ac)), .int (3), .int (x)] x_SH M J (qKI WTR M J (fun r M2 => r = ((((x + (nI ac)) + 3) * 2) - (1 ^^^ (nI ac))) ∧ M2 46 3 = nI 5)) := by
  refine xb_of pX8 (Nat.le_of_ble_eq_true rfl) rfl ?_
  refine xr_aload_n dX8_perform_0 0 rfl ?_
  refine xr_iconst (v := 0) dX8_perform_1 rfl ?_
  refine xr_putI fpX8_33 dX8_perform_2 s_46 rfl rfl rfl ?_
  refine xr_aload_n dX8_perform_5 0 rfl ?_
  refine xr_iload_n dX8_perform_6 1 rfl ?_
  refine xr_putI fpX8_36 dX8_perform_7 s_46 rfl rfl rfl ?_
  refine xr_aload_n dX8_perform_10 0 rfl ?_
  refine xr_iload_n dX8_perform_11 2 rfl ?_
  refine xr_iload_n dX8_perform_12 3 rfl ?_
  refine xr_iconst (v := 0) dX8_perform_13 rfl ?_
  refine xr_callV (As := [.int (3), .int (x), .int (0)]) (rest := []) mlX8_39 (tu1_own_3 (e := 0) (ac := ac) (ra := 0) x (by omega) h_b (Eq.trans (x_up_k _ _ _ (by decide)) (Eq.trans (x_up_k _ _ _ (by decide)) e_b)) (by omega) (Eq.trans (x_up_k _ _ _ (by decide)) (x_up_s _ _ _ _)) hac (x_up_s _ _ _ _) (Eq.trans (congrFun (x_up_n _ _ _ (by decide)) _) (Eq.trans (congrFun (x_up_n _ _ _ (by decide)) _) e_k))) dX8_perform_14 s_46 rfl rfl (Nat.le_of_ble_eq_true rfl) (by decide) ⟨by decide, by decide⟩ (fun v s2 M3 J2 hq => ?_)
  obtain ⟨r5, rfl, rfl, rfl, k4, ⟨hr2, hx1⟩⟩ := hq
  try dsimp only [Option.toList, List.cons_append, List.nil_append]
  subst hr2
  exact xr_iret dX8_perform_17 rfl rfl (⟨_, rfl, rfl, rfl, (Ke.tr (fun pp kk => (fun hh => Or.elim hh (fun h => (Or.inl h)) (fun h => (Or.inr (Or.inr h))))) (Ke.up (Or.inr (Or.inl (by omega))) (Ke.up (Or.inl (by omega)) Ke.rf)) k4), ⟨rfl, (hx1.trans (congrArg nI (Nat.zero_add _)))⟩⟩)
set_option maxRecDepth 100000 in
set_option maxHeartbeats 4000000 in
theorem tp2_0 {ac b : Nat} (x : Int32) {l : Launch} {G : xG} {M : xM} {J : xJ} (h_b : b ≤ 50) (e_b : M 46 2 = nI b) (hac : ac < b) (e_k : M 47 ac = 2) : x_M l G fX8_perform 4 0 0 [.ref (46), .int (nI (ac)), .int (0), .int (x)] x_SH M J (qKI WTR M J (fun r M2 => r = (x + (nI ac)) ∧ M2 46 3 = nI 1)) := by
  refine xb_of pX8 (Nat.le_of_ble_eq_true rfl) rfl ?_
  refine xr_aload_n dX8_perform_0 0 rfl ?_
  refine xr_iconst (v := 0) dX8_perform_1 rfl ?_
  refine xr_putI fpX8_33 dX8_perform_2 s_46 rfl rfl rfl ?_
  refine xr_aload_n dX8_perform_5 0 rfl ?_
  refine xr_iload_n dX8_perform_6 1 rfl ?_
  refine xr_putI fpX8_36 dX8_perform_7 s_46 rfl rfl rfl ?_
  refine xr_aload_n dX8_perform_10 0 rfl ?_
  refine xr_iload_n dX8_perform_11 2 rfl ?_
  refine xr_iload_n dX8_perform_12 3 rfl ?_
  refine xr_iconst (v := 0) dX8_perform_13 rfl ?_
  refine xr_callV (As := [.int (0), .int (x), .int (0)]) (rest := []) mlX8_39 (tu2_own_0 (e := 0) (ac := ac) (ra := 0) x (by omega) h_b (Eq.trans (x_up_k _ _ _ (by decide)) (Eq.trans (x_up_k _ _ _ (by decide)) e_b)) (by omega) (Eq.trans (x_up_k _ _ _ (by decide)) (x_up_s _ _ _ _)) hac (x_up_s _ _ _ _) (Eq.trans (congrFun (x_up_n _ _ _ (by decide)) _) (Eq.trans (congrFun (x_up_n _ _ _ (by decide)) _) e_k))) dX8_perform_14 s_46 rfl rfl (Nat.le_of_ble_eq_true rfl) (by decide) ⟨by decide, by decide⟩ (fun v s2 M3 J2 hq => ?_)
  obtain ⟨r5, rfl, rfl, rfl, k4, ⟨hr2, hx1⟩⟩ := hq
  try dsimp only [Option.toList, List.cons_append, List.nil_append]
  subst hr2
  exact xr_iret dX8_perform_17 rfl rfl (⟨_, rfl, rfl, rfl, (Ke.tr (fun pp kk => (fun hh => Or.elim hh (fun h => (Or.inl h)) (fun h => (Or.inr (Or.inr h))))) (Ke.up (Or.inr (Or.inl (by omega))) (Ke.up (Or.inl (by omega)) Ke.rf)) k4), ⟨rfl, (hx1.trans (congrArg nI (Nat.zero_add _)))⟩⟩)
set_option maxRecDepth 100000 in
set_option maxHeartbeats 4000000 in
theorem tp2_1 {ac b : Nat} (x : Int32) {l : Launch} {G : xG} {M : xM} {J : xJ} (h_b : b ≤ 50) (e_b : M 46 2 = nI b) (hac : ac < b) (e_k : M 47 ac = 2) : x_M l G fX8_perform 10 0 0 [.ref (46), .int (nI (ac)), .int (1), .int (x)] x_SH M J (qKI WTR M J (fun r M2 => r = (-((x + (nI ac)) * 2)) ∧ M2 46 3 = nI 3)) := by
  refine xb_of pX8 (Nat.le_of_ble_eq_true rfl) rfl ?_
  refine xr_aload_n dX8_perform_0 0 rfl ?_
  refine xr_iconst (v := 0) dX8_perform_1 rfl ?_
  refine xr_putI fpX8_33 dX8_perform_2 s_46 rfl rfl rfl ?_
  refine xr_aload_n dX8_perform_5 0 rfl ?_
  refine xr_iload_n dX8_perform_6 1 rfl ?_
  refine xr_putI fpX8_36 dX8_perform_7 s_46 rfl rfl rfl ?_
  refine xr_aload_n dX8_perform_10 0 rfl ?_
  refine xr_iload_n dX8_perform_11 2 rfl ?_
  refine xr_iload_n dX8_perform_12 3 rfl ?_
  refine xr_iconst (v := 0) dX8_perform_13 rfl ?_
  refine xr_callV (As := [.int (1), .int (x), .int (0)]) (rest := []) mlX8_39 (tu2_own_1 (e := 0) (ac := ac) (ra := 0) x (by omega) h_b (Eq.trans (x_up_k _ _ _ (by decide)) (Eq.trans (x_up_k _ _ _ (by decide)) e_b)) (by omega) (Eq.trans (x_up_k _ _ _ (by decide)) (x_up_s _ _ _ _)) hac (x_up_s _ _ _ _) (Eq.trans (congrFun (x_up_n _ _ _ (by decide)) _) (Eq.trans (congrFun (x_up_n _ _ _ (by decide)) _) e_k))) dX8_perform_14 s_46 rfl rfl (Nat.le_of_ble_eq_true rfl) (by decide) ⟨by decide, by decide⟩ (fun v s2 M3 J2 hq => ?_)
  obtain ⟨r5, rfl, rfl, rfl, k4, ⟨hr2, hx1⟩⟩ := hq
  try dsimp only [Option.toList, List.cons_append, List.nil_append]
  subst hr2
  exact xr_iret dX8_perform_17 rfl rfl (⟨_, rfl, rfl, rfl, (Ke.tr (fun pp kk => (fun hh => Or.elim hh (fun h => (Or.inl h)) (fun h => (Or.inr (Or.inr h))))) (Ke.up (Or.inr (Or.inl (by omega))) (Ke.up (Or.inl (by omega)) Ke.rf)) k4), ⟨rfl, (hx1.trans (congrArg nI (Nat.zero_add _)))⟩⟩)
set_option maxRecDepth 100000 in
set_option maxHeartbeats 4000000 in
theorem tp2_2 {ac b : Nat} (x : Int32) {l : Launch} {G : xG} {M : xM} {J : xJ} (h_b : b ≤ 50) (e_b : M 46 2 = nI b) (hac : ac < b) (e_k : M 47 ac = 2) : x_M l G fX8_perform 4 0 0 [.ref (46), .int (nI (ac)), .int (2), .int (x)] x_SH M J (qKI WTR M J (fun r M2 => r = (x ^^^ (nI ac)) ∧ M2 46 3 = nI 1)) := by
  refine xb_of pX8 (Nat.le_of_ble_eq_true rfl) rfl ?_
  refine xr_aload_n dX8_perform_0 0 rfl ?_
  refine xr_iconst (v := 0) dX8_perform_1 rfl ?_
  refine xr_putI fpX8_33 dX8_perform_2 s_46 rfl rfl rfl ?_
  refine xr_aload_n dX8_perform_5 0 rfl ?_
  refine xr_iload_n dX8_perform_6 1 rfl ?_
  refine xr_putI fpX8_36 dX8_perform_7 s_46 rfl rfl rfl ?_
  refine xr_aload_n dX8_perform_10 0 rfl ?_
  refine xr_iload_n dX8_perform_11 2 rfl ?_
  refine xr_iload_n dX8_perform_12 3 rfl ?_
  refine xr_iconst (v := 0) dX8_perform_13 rfl ?_
  refine xr_callV (As := [.int (2), .int (x), .int (0)]) (rest := []) mlX8_39 (tu2_own_2 (e := 0) (ac := ac) (ra := 0) x (by omega) h_b (Eq.trans (x_up_k _ _ _ (by decide)) (Eq.trans (x_up_k _ _ _ (by decide)) e_b)) (by omega) (Eq.trans (x_up_k _ _ _ (by decide)) (x_up_s _ _ _ _)) hac (x_up_s _ _ _ _) (Eq.trans (congrFun (x_up_n _ _ _ (by decide)) _) (Eq.trans (congrFun (x_up_n _ _ _ (by decide)) _) e_k))) dX8_perform_14 s_46 rfl rfl (Nat.le_of_ble_eq_true rfl) (by decide) ⟨by decide, by decide⟩ (fun v s2 M3 J2 hq => ?_)
  obtain ⟨r5, rfl, rfl, rfl, k4, ⟨hr2, hx1⟩⟩ := hq
  try dsimp only [Option.toList, List.cons_append, List.nil_append]
  subst hr2
  exact xr_iret dX8_perform_17 rfl rfl (⟨_, rfl, rfl, rfl, (Ke.tr (fun pp kk => (fun hh => Or.elim hh (fun h => (Or.inl h)) (fun h => (Or.inr (Or.inr h))))) (Ke.up (Or.inr (Or.inl (by omega))) (Ke.up (Or.inl (by omega)) Ke.rf)) k4), ⟨rfl, (hx1.trans (congrArg nI (Nat.zero_add _)))⟩⟩)
set_option maxRecDepth 100000 in
set_option maxHeartbeats 4000000 in
theorem tp2_3 {ac b : Nat} (x : Int32) {l : Launch} {G : xG} {M : xM} {J : xJ} (h_b : b ≤ 50) (e_b : M 46 2 = nI b) (hac : ac < b) (e_k : M 47 ac = 2) : x_M l G fX8_perform 13 0 0 [.ref (46), .int (nI (ac)), .int (3), .int (x)] x_SH M J (qKI WTR M J (fun r M2 => r = ((-((x + (nI ac)) * 2)) - (1 ^^^ (nI ac))) ∧ M2 46 3 = nI 5)) := by
  refine xb_of pX8 (Nat.le_of_ble_eq_true rfl) rfl ?_
  refine xr_aload_n dX8_perform_0 0 rfl ?_
  refine xr_iconst (v := 0) dX8_perform_1 rfl ?_
  refine xr_putI fpX8_33 dX8_perform_2 s_46 rfl rfl rfl ?_
  refine xr_aload_n dX8_perform_5 0 rfl ?_
  refine xr_iload_n dX8_perform_6 1 rfl ?_
  refine xr_putI fpX8_36 dX8_perform_7 s_46 rfl rfl rfl ?_
  refine xr_aload_n dX8_perform_10 0 rfl ?_
  refine xr_iload_n dX8_perform_11 2 rfl ?_
  refine xr_iload_n dX8_perform_12 3 rfl ?_
  refine xr_iconst (v := 0) dX8_perform_13 rfl ?_
  refine xr_callV (As := [.int (3), .int (x), .int (0)]) (rest := []) mlX8_39 (tu2_own_3 (e := 0) (ac := ac) (ra := 0) x (by omega) h_b (Eq.trans (x_up_k _ _ _ (by decide)) (Eq.trans (x_up_k _ _ _ (by decide)) e_b)) (by omega) (Eq.trans (x_up_k _ _ _ (by decide)) (x_up_s _ _ _ _)) hac (x_up_s _ _ _ _) (Eq.trans (congrFun (x_up_n _ _ _ (by decide)) _) (Eq.trans (congrFun (x_up_n _ _ _ (by decide)) _) e_k))) dX8_perform_14 s_46 rfl rfl (Nat.le_of_ble_eq_true rfl) (by decide) ⟨by decide, by decide⟩ (fun v s2 M3 J2 hq => ?_)
  obtain ⟨r5, rfl, rfl, rfl, k4, ⟨hr2, hx1⟩⟩ := hq
  try dsimp only [Option.toList, List.cons_append, List.nil_append]
  subst hr2
  exact xr_iret dX8_perform_17 rfl rfl (⟨_, rfl, rfl, rfl, (Ke.tr (fun pp kk => (fun hh => Or.elim hh (fun h => (Or.inl h)) (fun h => (Or.inr (Or.inr h))))) (Ke.up (Or.inr (Or.inl (by omega))) (Ke.up (Or.inl (by omega)) Ke.rf)) k4), ⟨rfl, (hx1.trans (congrArg nI (Nat.zero_add _)))⟩⟩)
set_option maxRecDepth 100000 in
set_option maxHeartbeats 4000000 in
theorem tp3_0 {ac b : Nat} (x : Int32) {l : Launch} {G : xG} {M : xM} {J : xJ} (h_b : b ≤ 50) (e_b : M 46 2 = nI b) (hac : ac < b) (e_k : M 47 ac = 3) : x_M l G fX8_perform 4 0 0 [.ref (46), .int (nI (ac)), .int (0), .int (x)] x_SH M J (qKI WTR M J (fun r M2 => r = (x + (nI ac)) ∧ M2 46 3 = nI 1)) := by
  refine xb_of pX8 (Nat.le_of_ble_eq_true rfl) rfl ?_
  refine xr_aload_n dX8_perform_0 0 rfl ?_
  refine xr_iconst (v := 0) dX8_perform_1 rfl ?_
  refine xr_putI fpX8_33 dX8_perform_2 s_46 rfl rfl rfl ?_
  refine xr_aload_n dX8_perform_5 0 rfl ?_
  refine xr_iload_n dX8_perform_6 1 rfl ?_
  refine xr_putI fpX8_36 dX8_perform_7 s_46 rfl rfl rfl ?_
  refine xr_aload_n dX8_perform_10 0 rfl ?_
  refine xr_iload_n dX8_perform_11 2 rfl ?_
  refine xr_iload_n dX8_perform_12 3 rfl ?_
  refine xr_iconst (v := 0) dX8_perform_13 rfl ?_
  refine xr_callV (As := [.int (0), .int (x), .int (0)]) (rest := []) mlX8_39 (tu3_own_0 (e := 0) (ac := ac) (ra := 0) x (by omega) h_b (Eq.trans (x_up_k _ _ _ (by decide)) (Eq.trans (x_up_k _ _ _ (by decide)) e_b)) (by omega) (Eq.trans (x_up_k _ _ _ (by decide)) (x_up_s _ _ _ _)) hac (x_up_s _ _ _ _) (Eq.trans (congrFun (x_up_n _ _ _ (by decide)) _) (Eq.trans (congrFun (x_up_n _ _ _ (by decide)) _) e_k))) dX8_perform_14 s_46 rfl rfl (Nat.le_of_ble_eq_true rfl) (by decide) ⟨by decide, by decide⟩ (fun v s2 M3 J2 hq => ?_)
  obtain ⟨r5, rfl, rfl, rfl, k4, ⟨hr2, hx1⟩⟩ := hq
  try dsimp only [Option.toList, List.cons_append, List.nil_append]
  subst hr2
  exact xr_iret dX8_perform_17 rfl rfl (⟨_, rfl, rfl, rfl, (Ke.tr (fun pp kk => (fun hh => Or.elim hh (fun h => (Or.inl h)) (fun h => (Or.inr (Or.inr h))))) (Ke.up (Or.inr (Or.inl (by omega))) (Ke.up (Or.inl (by omega)) Ke.rf)) k4), ⟨rfl, (hx1.trans (congrArg nI (Nat.zero_add _)))⟩⟩)
set_option maxRecDepth 100000 in
set_option maxHeartbeats 4000000 in
theorem tp3_1 {ac b : Nat} (x : Int32) {l : Launch} {G : xG} {M : xM} {J : xJ} (h_b : b ≤ 50) (e_b : M 46 2 = nI b) (hac : ac < b) (e_k : M 47 ac = 3) : x_M l G fX8_perform 13 0 0 [.ref (46), .int (nI (ac)), .int (1), .int (x)] x_SH M J (qKI WTR M J (fun r M2 => r = (-(((x + 1) + (nI ac)) * 2)) ∧ M2 46 3 = nI 4)) := by
  refine xb_of pX8 (Nat.le_of_ble_eq_true rfl) rfl ?_
  refine xr_aload_n dX8_perform_0 0 rfl ?_
  refine xr_iconst (v := 0) dX8_perform_1 rfl ?_
  refine xr_putI fpX8_33 dX8_perform_2 s_46 rfl rfl rfl ?_
  refine xr_aload_n dX8_perform_5 0 rfl ?_
  refine xr_iload_n dX8_perform_6 1 rfl ?_
  refine xr_putI fpX8_36 dX8_perform_7 s_46 rfl rfl rfl ?_
  refine xr_aload_n dX8_perform_10 0 rfl ?_
  refine xr_iload_n dX8_perform_11 2 rfl ?_
  refine xr_iload_n dX8_perform_12 3 rfl ?_
  refine xr_iconst (v := 0) dX8_perform_13 rfl ?_
  refine xr_callV (As := [.int (1), .int (x), .int (0)]) (rest := []) mlX8_39 (tu3_own_1 (e := 0) (ac := ac) (ra := 0) x (by omega) h_b (Eq.trans (x_up_k _ _ _ (by decide)) (Eq.trans (x_up_k _ _ _ (by decide)) e_b)) (by omega) (Eq.trans (x_up_k _ _ _ (by decide)) (x_up_s _ _ _ _)) hac (x_up_s _ _ _ _) (Eq.trans (congrFun (x_up_n _ _ _ (by decide)) _) (Eq.trans (congrFun (x_up_n _ _ _ (by decide)) _) e_k))) dX8_perform_14 s_46 rfl rfl (Nat.le_of_ble_eq_true rfl) (by decide) ⟨by decide, by decide⟩ (fun v s2 M3 J2 hq => ?_)
  obtain ⟨r5, rfl, rfl, rfl, k4, ⟨hr2, hx1⟩⟩ := hq
  try dsimp only [Option.toList, List.cons_append, List.nil_append]
  subst hr2
  exact xr_iret dX8_perform_17 rfl rfl (⟨_, rfl, rfl, rfl, (Ke.tr (fun pp kk => (fun hh => Or.elim hh (fun h => (Or.inl h)) (fun h => (Or.inr (Or.inr h))))) (Ke.up (Or.inr (Or.inl (by omega))) (Ke.up (Or.inl (by omega)) Ke.rf)) k4), ⟨rfl, (hx1.trans (congrArg nI (Nat.zero_add _)))⟩⟩)
set_option maxRecDepth 100000 in
set_option maxHeartbeats 4000000 in
theorem tp3_2 {ac b : Nat} (x : Int32) {l : Launch} {G : xG} {M : xM} {J : xJ} (h_b : b ≤ 50) (e_b : M 46 2 = nI b) (hac : ac < b) (e_k : M 47 ac = 3) : x_M l G fX8_perform 7 0 0 [.ref (46), .int (nI (ac)), .int (2), .int (x)] x_SH M J (qKI WTR M J (fun r M2 => r = ((x ^^^ (nI ac)) * 3) ∧ M2 46 3 = nI 2)) := by
  refine xb_of pX8 (Nat.le_of_ble_eq_true rfl) rfl ?_
  refine xr_aload_n dX8_perform_0 0 rfl ?_
  refine xr_iconst (v := 0) dX8_perform_1 rfl ?_
  refine xr_putI fpX8_33 dX8_perform_2 s_46 rfl rfl rfl ?_
  refine xr_aload_n dX8_perform_5 0 rfl ?_
  refine xr_iload_n dX8_perform_6 1 rfl ?_
  refine xr_putI fpX8_36 dX8_perform_7 s_46 rfl rfl rfl ?_
  refine xr_aload_n dX8_perform_10 0 rfl ?_
  refine xr_iload_n dX8_perform_11 2 rfl ?_
  refine xr_iload_n dX8_perform_12 3 rfl ?_
  refine xr_iconst (v := 0) dX8_perform_13 rfl ?_
  refine xr_callV (As := [.int (2), .int (x), .int (0)]) (rest := []) mlX8_39 (tu3_own_2 (e := 0) (ac := ac) (ra := 0) x (by omega) h_b (Eq.trans (x_up_k _ _ _ (by decide)) (Eq.trans (x_up_k _ _ _ (by decide)) e_b)) (by omega) (Eq.trans (x_up_k _ _ _ (by decide)) (x_up_s _ _ _ _)) hac (x_up_s _ _ _ _) (Eq.trans (congrFun (x_up_n _ _ _ (by decide)) _) (Eq.trans (congrFun (x_up_n _ _ _ (by decide)) _) e_k))) dX8_perform_14 s_46 rfl rfl (Nat.le_of_ble_eq_true rfl) (by decide) ⟨by decide, by decide⟩ (fun v s2 M3 J2 hq => ?_)
  obtain ⟨r5, rfl, rfl, rfl, k4, ⟨hr2, hx1⟩⟩ := hq
  try dsimp only [Option.toList, List.cons_append, List.nil_append]
  subst hr2
  exact xr_iret dX8_perform_17 rfl rfl (⟨_, rfl, rfl, rfl, (Ke.tr (fun pp kk => (fun hh => Or.elim hh (fun h => (Or.inl h)) (fun h => (Or.inr (Or.inr h))))) (Ke.up (Or.inr (Or.inl (by omega))) (Ke.up (Or.inl (by omega)) Ke.rf)) k4), ⟨rfl, (hx1.trans (congrArg nI (Nat.zero_add _)))⟩⟩)
set_option maxRecDepth 100000 in
set_option maxHeartbeats 4000000 in
theorem tp3_3 {ac b : Nat} (x : Int32) {l : Launch} {G : xG} {M : xM} {J : xJ} (h_b : b ≤ 50) (e_b : M 46 2 = nI b) (hac : ac < b) (e_k : M 47 ac = 3) : x_M l G fX8_perform 16 0 0 [.ref (46), .int (nI (ac)), .int (3), .int (x)] x_SH M J (qKI WTR M J (fun r M2 => r = ((-(((x + 1) + (nI ac)) * 2)) - ((1 ^^^ (nI ac)) * 3)) ∧ M2 46 3 = nI 7)) := by
  refine xb_of pX8 (Nat.le_of_ble_eq_true rfl) rfl ?_
  refine xr_aload_n dX8_perform_0 0 rfl ?_
  refine xr_iconst (v := 0) dX8_perform_1 rfl ?_
  refine xr_putI fpX8_33 dX8_perform_2 s_46 rfl rfl rfl ?_
  refine xr_aload_n dX8_perform_5 0 rfl ?_
  refine xr_iload_n dX8_perform_6 1 rfl ?_
  refine xr_putI fpX8_36 dX8_perform_7 s_46 rfl rfl rfl ?_
  refine xr_aload_n dX8_perform_10 0 rfl ?_
  refine xr_iload_n dX8_perform_11 2 rfl ?_
  refine xr_iload_n dX8_perform_12 3 rfl ?_
  refine xr_iconst (v := 0) dX8_perform_13 rfl ?_
  refine xr_callV (As := [.int (3), .int (x), .int (0)]) (rest := []) mlX8_39 (tu3_own_3 (e := 0) (ac := ac) (ra := 0) x (by omega) h_b (Eq.trans (x_up_k _ _ _ (by decide)) (Eq.trans (x_up_k _ _ _ (by decide)) e_b)) (by omega) (Eq.trans (x_up_k _ _ _ (by decide)) (x_up_s _ _ _ _)) hac (x_up_s _ _ _ _) (Eq.trans (congrFun (x_up_n _ _ _ (by decide)) _) (Eq.trans (congrFun (x_up_n _ _ _ (by decide)) _) e_k))) dX8_perform_14 s_46 rfl rfl (Nat.le_of_ble_eq_true rfl) (by decide) ⟨by decide, by decide⟩ (fun v s2 M3 J2 hq => ?_)
  obtain ⟨r5, rfl, rfl, rfl, k4, ⟨hr2, hx1⟩⟩ := hq
  try dsimp only [Option.toList, List.cons_append, List.nil_append]
  subst hr2
  exact xr_iret dX8_perform_17 rfl rfl (⟨_, rfl, rfl, rfl, (Ke.tr (fun pp kk => (fun hh => Or.elim hh (fun h => (Or.inl h)) (fun h => (Or.inr (Or.inr h))))) (Ke.up (Or.inr (Or.inl (by omega))) (Ke.up (Or.inl (by omega)) Ke.rf)) k4), ⟨rfl, (hx1.trans (congrArg nI (Nat.zero_add _)))⟩⟩)
set_option maxRecDepth 100000 in
set_option maxHeartbeats 4000000 in
theorem tp4_0 {ac b : Nat} (x : Int32) {l : Launch} {G : xG} {M : xM} {J : xJ} (h_b : b ≤ 50) (e_b : M 46 2 = nI b) (hac : ac < b) (e_k : M 47 ac = 4) : x_M l G fX8_perform 7 0 0 [.ref (46), .int (nI (ac)), .int (0), .int (x)] x_SH M J (qKI WTR M J (fun r M2 => r = ((x + (nI ac)) + 3) ∧ M2 46 3 = nI 2)) := by
  refine xb_of pX8 (Nat.le_of_ble_eq_true rfl) rfl ?_
  refine xr_aload_n dX8_perform_0 0 rfl ?_
  refine xr_iconst (v := 0) dX8_perform_1 rfl ?_
  refine xr_putI fpX8_33 dX8_perform_2 s_46 rfl rfl rfl ?_
  refine xr_aload_n dX8_perform_5 0 rfl ?_
  refine xr_iload_n dX8_perform_6 1 rfl ?_
  refine xr_putI fpX8_36 dX8_perform_7 s_46 rfl rfl rfl ?_
  refine xr_aload_n dX8_perform_10 0 rfl ?_
  refine xr_iload_n dX8_perform_11 2 rfl ?_
  refine xr_iload_n dX8_perform_12 3 rfl ?_
  refine xr_iconst (v := 0) dX8_perform_13 rfl ?_
  refine xr_callV (As := [.int (0), .int (x), .int (0)]) (rest := []) mlX8_39 (tu4_own_0 (e := 0) (ac := ac) (ra := 0) x (by omega) h_b (Eq.trans (x_up_k _ _ _ (by decide)) (Eq.trans (x_up_k _ _ _ (by decide)) e_b)) (by omega) (Eq.trans (x_up_k _ _ _ (by decide)) (x_up_s _ _ _ _)) hac (x_up_s _ _ _ _) (Eq.trans (congrFun (x_up_n _ _ _ (by decide)) _) (Eq.trans (congrFun (x_up_n _ _ _ (by decide)) _) e_k))) dX8_perform_14 s_46 rfl rfl (Nat.le_of_ble_eq_true rfl) (by decide) ⟨by decide, by decide⟩ (fun v s2 M3 J2 hq => ?_)
  obtain ⟨r5, rfl, rfl, rfl, k4, ⟨hr2, hx1⟩⟩ := hq
  try dsimp only [Option.toList, List.cons_append, List.nil_append]
  subst hr2
  exact xr_iret dX8_perform_17 rfl rfl (⟨_, rfl, rfl, rfl, (Ke.tr (fun pp kk => (fun hh => Or.elim hh (fun h => (Or.inl h)) (fun h => (Or.inr (Or.inr h))))) (Ke.up (Or.inr (Or.inl (by omega))) (Ke.up (Or.inl (by omega)) Ke.rf)) k4), ⟨rfl, (hx1.trans (congrArg nI (Nat.zero_add _)))⟩⟩)
set_option maxRecDepth 100000 in
set_option maxHeartbeats 4000000 in
theorem tp4_1 {ac b : Nat} (x : Int32) {l : Launch} {G : xG} {M : xM} {J : xJ} (h_b : b ≤ 50) (e_b : M 46 2 = nI b) (hac : ac < b) (e_k : M 47 ac = 4) : x_M l G fX8_perform 10 0 0 [.ref (46), .int (nI (ac)), .int (1), .int (x)] x_SH M J (qKI WTR M J (fun r M2 => r = (((x + (nI ac)) + 3) * 2) ∧ M2 46 3 = nI 3)) := by
  refine xb_of pX8 (Nat.le_of_ble_eq_true rfl) rfl ?_
  refine xr_aload_n dX8_perform_0 0 rfl ?_
  refine xr_iconst (v := 0) dX8_perform_1 rfl ?_
  refine xr_putI fpX8_33 dX8_perform_2 s_46 rfl rfl rfl ?_
  refine xr_aload_n dX8_perform_5 0 rfl ?_
  refine xr_iload_n dX8_perform_6 1 rfl ?_
  refine xr_putI fpX8_36 dX8_perform_7 s_46 rfl rfl rfl ?_
  refine xr_aload_n dX8_perform_10 0 rfl ?_
  refine xr_iload_n dX8_perform_11 2 rfl ?_
  refine xr_iload_n dX8_perform_12 3 rfl ?_
  refine xr_iconst (v := 0) dX8_perform_13 rfl ?_
  refine xr_callV (As := [.int (1), .int (x), .int (0)]) (rest := []) mlX8_39 (tu4_own_1 (e := 0) (ac := ac) (ra := 0) x (by omega) h_b (Eq.trans (x_up_k _ _ _ (by decide)) (Eq.trans (x_up_k _ _ _ (by decide)) e_b)) (by omega) (Eq.trans (x_up_k _ _ _ (by decide)) (x_up_s _ _ _ _)) hac (x_up_s _ _ _ _) (Eq.trans (congrFun (x_up_n _ _ _ (by decide)) _) (Eq.trans (congrFun (x_up_n _ _ _ (by decide)) _) e_k))) dX8_perform_14 s_46 rfl rfl (Nat.le_of_ble_eq_true rfl) (by decide) ⟨by decide, by decide⟩ (fun v s2 M3 J2 hq => ?_)
  obtain ⟨r5, rfl, rfl, rfl, k4, ⟨hr2, hx1⟩⟩ := hq
  try dsimp only [Option.toList, List.cons_append, List.nil_append]
  subst hr2
  exact xr_iret dX8_perform_17 rfl rfl (⟨_, rfl, rfl, rfl, (Ke.tr (fun pp kk => (fun hh => Or.elim hh (fun h => (Or.inl h)) (fun h => (Or.inr (Or.inr h))))) (Ke.up (Or.inr (Or.inl (by omega))) (Ke.up (Or.inl (by omega)) Ke.rf)) k4), ⟨rfl, (hx1.trans (congrArg nI (Nat.zero_add _)))⟩⟩)
set_option maxRecDepth 100000 in
set_option maxHeartbeats 4000000 in
theorem tp4_2 {ac b : Nat} (x : Int32) {l : Launch} {G : xG} {M : xM} {J : xJ} (h_b : b ≤ 50) (e_b : M 46 2 = nI b) (hac : ac < b) (e_k : M 47 ac = 4) : x_M l G fX8_perform 10 0 0 [.ref (46), .int (nI (ac)), .int (2), .int (x)] x_SH M J (qKI WTR M J (fun r M2 => r = ((x ^^^ (nI ac)) - ((2 + (nI ac)) + 3)) ∧ M2 46 3 = nI 4)) := by
  refine xb_of pX8 (Nat.le_of_ble_eq_true rfl) rfl ?_
  refine xr_aload_n dX8_perform_0 0 rfl ?_
  refine xr_iconst (v := 0) dX8_perform_1 rfl ?_
  refine xr_putI fpX8_33 dX8_perform_2 s_46 rfl rfl rfl ?_
  refine xr_aload_n dX8_perform_5 0 rfl ?_
  refine xr_iload_n dX8_perform_6 1 rfl ?_
  refine xr_putI fpX8_36 dX8_perform_7 s_46 rfl rfl rfl ?_
  refine xr_aload_n dX8_perform_10 0 rfl ?_
  refine xr_iload_n dX8_perform_11 2 rfl ?_
  refine xr_iload_n dX8_perform_12 3 rfl ?_
  refine xr_iconst (v := 0) dX8_perform_13 rfl ?_
  refine xr_callV (As := [.int (2), .int (x), .int (0)]) (rest := []) mlX8_39 (tu4_own_2 (e := 0) (ac := ac) (ra := 0) x (by omega) h_b (Eq.trans (x_up_k _ _ _ (by decide)) (Eq.trans (x_up_k _ _ _ (by decide)) e_b)) (by omega) (Eq.trans (x_up_k _ _ _ (by decide)) (x_up_s _ _ _ _)) hac (x_up_s _ _ _ _) (Eq.trans (congrFun (x_up_n _ _ _ (by decide)) _) (Eq.trans (congrFun (x_up_n _ _ _ (by decide)) _) e_k))) dX8_perform_14 s_46 rfl rfl (Nat.le_of_ble_eq_true rfl) (by decide) ⟨by decide, by decide⟩ (fun v s2 M3 J2 hq => ?_)
  obtain ⟨r5, rfl, rfl, rfl, k4, ⟨hr2, hx1⟩⟩ := hq
  try dsimp only [Option.toList, List.cons_append, List.nil_append]
  subst hr2
  exact xr_iret dX8_perform_17 rfl rfl (⟨_, rfl, rfl, rfl, (Ke.tr (fun pp kk => (fun hh => Or.elim hh (fun h => (Or.inl h)) (fun h => (Or.inr (Or.inr h))))) (Ke.up (Or.inr (Or.inl (by omega))) (Ke.up (Or.inl (by omega)) Ke.rf)) k4), ⟨rfl, (hx1.trans (congrArg nI (Nat.zero_add _)))⟩⟩)
set_option maxRecDepth 100000 in
set_option maxHeartbeats 4000000 in
theorem tp4_3 {ac b : Nat} (x : Int32) {l : Launch} {G : xG} {M : xM} {J : xJ} (h_b : b ≤ 50) (e_b : M 46 2 = nI b) (hac : ac < b) (e_k : M 47 ac = 4) : x_M l G fX8_perform 13 0 0 [.ref (46), .int (nI (ac)), .int (3), .int (x)] x_SH M J (qKI WTR M J (fun r M2 => r = ((((x + (nI ac)) + 3) * 2) - ((1 ^^^ (nI ac)) - ((2 + (nI ac)) + 3))) ∧ M2 46 3 = nI 8)) := by
  refine xb_of pX8 (Nat.le_of_ble_eq_true rfl) rfl ?_
  refine xr_aload_n dX8_perform_0 0 rfl ?_
  refine xr_iconst (v := 0) dX8_perform_1 rfl ?_
  refine xr_putI fpX8_33 dX8_perform_2 s_46 rfl rfl rfl ?_
  refine xr_aload_n dX8_perform_5 0 rfl ?_
  refine xr_iload_n dX8_perform_6 1 rfl ?_
  refine xr_putI fpX8_36 dX8_perform_7 s_46 rfl rfl rfl ?_
  refine xr_aload_n dX8_perform_10 0 rfl ?_
  refine xr_iload_n dX8_perform_11 2 rfl ?_
  refine xr_iload_n dX8_perform_12 3 rfl ?_
  refine xr_iconst (v := 0) dX8_perform_13 rfl ?_
  refine xr_callV (As := [.int (3), .int (x), .int (0)]) (rest := []) mlX8_39 (tu4_own_3 (e := 0) (ac := ac) (ra := 0) x (by omega) h_b (Eq.trans (x_up_k _ _ _ (by decide)) (Eq.trans (x_up_k _ _ _ (by decide)) e_b)) (by omega) (Eq.trans (x_up_k _ _ _ (by decide)) (x_up_s _ _ _ _)) hac (x_up_s _ _ _ _) (Eq.trans (congrFun (x_up_n _ _ _ (by decide)) _) (Eq.trans (congrFun (x_up_n _ _ _ (by decide)) _) e_k))) dX8_perform_14 s_46 rfl rfl (Nat.le_of_ble_eq_true rfl) (by decide) ⟨by decide, by decide⟩ (fun v s2 M3 J2 hq => ?_)
  obtain ⟨r5, rfl, rfl, rfl, k4, ⟨hr2, hx1⟩⟩ := hq
  try dsimp only [Option.toList, List.cons_append, List.nil_append]
  subst hr2
  exact xr_iret dX8_perform_17 rfl rfl (⟨_, rfl, rfl, rfl, (Ke.tr (fun pp kk => (fun hh => Or.elim hh (fun h => (Or.inl h)) (fun h => (Or.inr (Or.inr h))))) (Ke.up (Or.inr (Or.inl (by omega))) (Ke.up (Or.inl (by omega)) Ke.rf)) k4), ⟨rfl, (hx1.trans (congrArg nI (Nat.zero_add _)))⟩⟩)
set_option maxRecDepth 100000 in
set_option maxHeartbeats 4000000 in
theorem tp5_0 {ac b : Nat} (x : Int32) {l : Launch} {G : xG} {M : xM} {J : xJ} (h_b : b ≤ 50) (e_b : M 46 2 = nI b) (hac : ac < b) (e_k : M 47 ac = 5) : x_M l G fX8_perform 4 0 0 [.ref (46), .int (nI (ac)), .int (0), .int (x)] x_SH M J (qKI WTR M J (fun r M2 => r = (x + (nI ac)) ∧ M2 46 3 = nI 1)) := by
  refine xb_of pX8 (Nat.le_of_ble_eq_true rfl) rfl ?_
  refine xr_aload_n dX8_perform_0 0 rfl ?_
  refine xr_iconst (v := 0) dX8_perform_1 rfl ?_
  refine xr_putI fpX8_33 dX8_perform_2 s_46 rfl rfl rfl ?_
  refine xr_aload_n dX8_perform_5 0 rfl ?_
  refine xr_iload_n dX8_perform_6 1 rfl ?_
  refine xr_putI fpX8_36 dX8_perform_7 s_46 rfl rfl rfl ?_
  refine xr_aload_n dX8_perform_10 0 rfl ?_
  refine xr_iload_n dX8_perform_11 2 rfl ?_
  refine xr_iload_n dX8_perform_12 3 rfl ?_
  refine xr_iconst (v := 0) dX8_perform_13 rfl ?_
  refine xr_callV (As := [.int (0), .int (x), .int (0)]) (rest := []) mlX8_39 (tu5_own_0 (e := 0) (ac := ac) (ra := 0) x (by omega) h_b (Eq.trans (x_up_k _ _ _ (by decide)) (Eq.trans (x_up_k _ _ _ (by decide)) e_b)) (by omega) (Eq.trans (x_up_k _ _ _ (by decide)) (x_up_s _ _ _ _)) hac (x_up_s _ _ _ _) (Eq.trans (congrFun (x_up_n _ _ _ (by decide)) _) (Eq.trans (congrFun (x_up_n _ _ _ (by decide)) _) e_k))) dX8_perform_14 s_46 rfl rfl (Nat.le_of_ble_eq_true rfl) (by decide) ⟨by decide, by decide⟩ (fun v s2 M3 J2 hq => ?_)
  obtain ⟨r5, rfl, rfl, rfl, k4, ⟨hr2, hx1⟩⟩ := hq
  try dsimp only [Option.toList, List.cons_append, List.nil_append]
  subst hr2
  exact xr_iret dX8_perform_17 rfl rfl (⟨_, rfl, rfl, rfl, (Ke.tr (fun pp kk => (fun hh => Or.elim hh (fun h => (Or.inl h)) (fun h => (Or.inr (Or.inr h))))) (Ke.up (Or.inr (Or.inl (by omega))) (Ke.up (Or.inl (by omega)) Ke.rf)) k4), ⟨rfl, (hx1.trans (congrArg nI (Nat.zero_add _)))⟩⟩)
set_option maxRecDepth 100000 in
set_option maxHeartbeats 4000000 in
theorem tp5_1 {ac b : Nat} (x : Int32) {l : Launch} {G : xG} {M : xM} {J : xJ} (h_b : b ≤ 50) (e_b : M 46 2 = nI b) (hac : ac < b) (e_k : M 47 ac = 5) : x_M l G fX8_perform 13 0 0 [.ref (46), .int (nI (ac)), .int (1), .int (x)] x_SH M J (qKI WTR M J (fun r M2 => r = (-(((x + 1) + (nI ac)) * 2)) ∧ M2 46 3 = nI 4)) := by
  refine xb_of pX8 (Nat.le_of_ble_eq_true rfl) rfl ?_
  refine xr_aload_n dX8_perform_0 0 rfl ?_
  refine xr_iconst (v := 0) dX8_perform_1 rfl ?_
  refine xr_putI fpX8_33 dX8_perform_2 s_46 rfl rfl rfl ?_
  refine xr_aload_n dX8_perform_5 0 rfl ?_
  refine xr_iload_n dX8_perform_6 1 rfl ?_
  refine xr_putI fpX8_36 dX8_perform_7 s_46 rfl rfl rfl ?_
  refine xr_aload_n dX8_perform_10 0 rfl ?_
  refine xr_iload_n dX8_perform_11 2 rfl ?_
  refine xr_iload_n dX8_perform_12 3 rfl ?_
  refine xr_iconst (v := 0) dX8_perform_13 rfl ?_
  refine xr_callV (As := [.int (1), .int (x), .int (0)]) (rest := []) mlX8_39 (tu5_own_1 (e := 0) (ac := ac) (ra := 0) x (by omega) h_b (Eq.trans (x_up_k _ _ _ (by decide)) (Eq.trans (x_up_k _ _ _ (by decide)) e_b)) (by omega) (Eq.trans (x_up_k _ _ _ (by decide)) (x_up_s _ _ _ _)) hac (x_up_s _ _ _ _) (Eq.trans (congrFun (x_up_n _ _ _ (by decide)) _) (Eq.trans (congrFun (x_up_n _ _ _ (by decide)) _) e_k))) dX8_perform_14 s_46 rfl rfl (Nat.le_of_ble_eq_true rfl) (by decide) ⟨by decide, by decide⟩ (fun v s2 M3 J2 hq => ?_)
  obtain ⟨r5, rfl, rfl, rfl, k4, ⟨hr2, hx1⟩⟩ := hq
  try dsimp only [Option.toList, List.cons_append, List.nil_append]
  subst hr2
  exact xr_iret dX8_perform_17 rfl rfl (⟨_, rfl, rfl, rfl, (Ke.tr (fun pp kk => (fun hh => Or.elim hh (fun h => (Or.inl h)) (fun h => (Or.inr (Or.inr h))))) (Ke.up (Or.inr (Or.inl (by omega))) (Ke.up (Or.inl (by omega)) Ke.rf)) k4), ⟨rfl, (hx1.trans (congrArg nI (Nat.zero_add _)))⟩⟩)
set_option maxRecDepth 100000 in
set_option maxHeartbeats 4000000 in
theorem tp5_2 {ac b : Nat} (x : Int32) {l : Launch} {G : xG} {M : xM} {J : xJ} (h_b : b ≤ 50) (e_b : M 46 2 = nI b) (hac : ac < b) (e_k : M 47 ac = 5) : x_M l G fX8_perform 7 0 0 [.ref (46), .int (nI (ac)), .int (2), .int (x)] x_SH M J (qKI WTR M J (fun r M2 => r = ((x ^^^ (nI ac)) * 3) ∧ M2 46 3 = nI 2)) := by
  refine xb_of pX8 (Nat.le_of_ble_eq_true rfl) rfl ?_
  refine xr_aload_n dX8_perform_0 0 rfl ?_
  refine xr_iconst (v := 0) dX8_perform_1 rfl ?_
  refine xr_putI fpX8_33 dX8_perform_2 s_46 rfl rfl rfl ?_
  refine xr_aload_n dX8_perform_5 0 rfl ?_
  refine xr_iload_n dX8_perform_6 1 rfl ?_
  refine xr_putI fpX8_36 dX8_perform_7 s_46 rfl rfl rfl ?_
  refine xr_aload_n dX8_perform_10 0 rfl ?_
  refine xr_iload_n dX8_perform_11 2 rfl ?_
  refine xr_iload_n dX8_perform_12 3 rfl ?_
  refine xr_iconst (v := 0) dX8_perform_13 rfl ?_
  refine xr_callV (As := [.int (2), .int (x), .int (0)]) (rest := []) mlX8_39 (tu5_own_2 (e := 0) (ac := ac) (ra := 0) x (by omega) h_b (Eq.trans (x_up_k _ _ _ (by decide)) (Eq.trans (x_up_k _ _ _ (by decide)) e_b)) (by omega) (Eq.trans (x_up_k _ _ _ (by decide)) (x_up_s _ _ _ _)) hac (x_up_s _ _ _ _) (Eq.trans (congrFun (x_up_n _ _ _ (by decide)) _) (Eq.trans (congrFun (x_up_n _ _ _ (by decide)) _) e_k))) dX8_perform_14 s_46 rfl rfl (Nat.le_of_ble_eq_true rfl) (by decide) ⟨by decide, by decide⟩ (fun v s2 M3 J2 hq => ?_)
  obtain ⟨r5, rfl, rfl, rfl, k4, ⟨hr2, hx1⟩⟩ := hq
  try dsimp only [Option.toList, List.cons_append, List.nil_append]
  subst hr2
  exact xr_iret dX8_perform_17 rfl rfl (⟨_, rfl, rfl, rfl, (Ke.tr (fun pp kk => (fun hh => Or.elim hh (fun h => (Or.inl h)) (fun h => (Or.inr (Or.inr h))))) (Ke.up (Or.inr (Or.inl (by omega))) (Ke.up (Or.inl (by omega)) Ke.rf)) k4), ⟨rfl, (hx1.trans (congrArg nI (Nat.zero_add _)))⟩⟩)
set_option maxRecDepth 100000 in
set_option maxHeartbeats 4000000 in
theorem tp5_3 {ac b : Nat} (x : Int32) {l : Launch} {G : xG} {M : xM} {J : xJ} (h_b : b ≤ 50) (e_b : M 46 2 = nI b) (hac : ac < b) (e_k : M 47 ac = 5) : x_M l G fX8_perform 19 0 0 [.ref (46), .int (nI (ac)), .int (3), .int (x)] x_SH M J (qKI WTR M J (fun r M2 => r = (((-(((x + 1) + (nI ac)) * 2)) - ((1 ^^^ (nI ac)) * 3)) ^^^ 5) ∧ M2 46 3 = nI 8)) := by
  refine xb_of pX8 (Nat.le_of_ble_eq_true rfl) rfl ?_
  refine xr_aload_n dX8_perform_0 0 rfl ?_
  refine xr_iconst (v := 0) dX8_perform_1 rfl ?_
  refine xr_putI fpX8_33 dX8_perform_2 s_46 rfl rfl rfl ?_
  refine xr_aload_n dX8_perform_5 0 rfl ?_
  refine xr_iload_n dX8_perform_6 1 rfl ?_
  refine xr_putI fpX8_36 dX8_perform_7 s_46 rfl rfl rfl ?_
  refine xr_aload_n dX8_perform_10 0 rfl ?_
  refine xr_iload_n dX8_perform_11 2 rfl ?_
  refine xr_iload_n dX8_perform_12 3 rfl ?_
  refine xr_iconst (v := 0) dX8_perform_13 rfl ?_
  refine xr_callV (As := [.int (3), .int (x), .int (0)]) (rest := []) mlX8_39 (tu5_own_3 (e := 0) (ac := ac) (ra := 0) x (by omega) h_b (Eq.trans (x_up_k _ _ _ (by decide)) (Eq.trans (x_up_k _ _ _ (by decide)) e_b)) (by omega) (Eq.trans (x_up_k _ _ _ (by decide)) (x_up_s _ _ _ _)) hac (x_up_s _ _ _ _) (Eq.trans (congrFun (x_up_n _ _ _ (by decide)) _) (Eq.trans (congrFun (x_up_n _ _ _ (by decide)) _) e_k))) dX8_perform_14 s_46 rfl rfl (Nat.le_of_ble_eq_true rfl) (by decide) ⟨by decide, by decide⟩ (fun v s2 M3 J2 hq => ?_)
  obtain ⟨r5, rfl, rfl, rfl, k4, ⟨hr2, hx1⟩⟩ := hq
  try dsimp only [Option.toList, List.cons_append, List.nil_append]
  subst hr2
  exact xr_iret dX8_perform_17 rfl rfl (⟨_, rfl, rfl, rfl, (Ke.tr (fun pp kk => (fun hh => Or.elim hh (fun h => (Or.inl h)) (fun h => (Or.inr (Or.inr h))))) (Ke.up (Or.inr (Or.inl (by omega))) (Ke.up (Or.inl (by omega)) Ke.rf)) k4), ⟨rfl, (hx1.trans (congrArg nI (Nat.zero_add _)))⟩⟩)
set_option maxRecDepth 100000 in
set_option maxHeartbeats 4000000 in
theorem tp6_0 {ac b : Nat} (x : Int32) {l : Launch} {G : xG} {M : xM} {J : xJ} (h_b : b ≤ 50) (e_b : M 46 2 = nI b) (hac : ac < b) (e_k : M 47 ac = 6) : x_M l G fX8_perform 7 0 0 [.ref (46), .int (nI (ac)), .int (0), .int (x)] x_SH M J (qKI WTR M J (fun r M2 => r = ((x + (nI ac)) * 2) ∧ M2 46 3 = nI 2)) := by
  refine xb_of pX8 (Nat.le_of_ble_eq_true rfl) rfl ?_
  refine xr_aload_n dX8_perform_0 0 rfl ?_
  refine xr_iconst (v := 0) dX8_perform_1 rfl ?_
  refine xr_putI fpX8_33 dX8_perform_2 s_46 rfl rfl rfl ?_
  refine xr_aload_n dX8_perform_5 0 rfl ?_
  refine xr_iload_n dX8_perform_6 1 rfl ?_
  refine xr_putI fpX8_36 dX8_perform_7 s_46 rfl rfl rfl ?_
  refine xr_aload_n dX8_perform_10 0 rfl ?_
  refine xr_iload_n dX8_perform_11 2 rfl ?_
  refine xr_iload_n dX8_perform_12 3 rfl ?_
  refine xr_iconst (v := 0) dX8_perform_13 rfl ?_
  refine xr_callV (As := [.int (0), .int (x), .int (0)]) (rest := []) mlX8_39 (tu6_own_0 (e := 0) (ac := ac) (ra := 0) x (by omega) h_b (Eq.trans (x_up_k _ _ _ (by decide)) (Eq.trans (x_up_k _ _ _ (by decide)) e_b)) (by omega) (Eq.trans (x_up_k _ _ _ (by decide)) (x_up_s _ _ _ _)) hac (x_up_s _ _ _ _) (Eq.trans (congrFun (x_up_n _ _ _ (by decide)) _) (Eq.trans (congrFun (x_up_n _ _ _ (by decide)) _) e_k))) dX8_perform_14 s_46 rfl rfl (Nat.le_of_ble_eq_true rfl) (by decide) ⟨by decide, by decide⟩ (fun v s2 M3 J2 hq => ?_)
  obtain ⟨r5, rfl, rfl, rfl, k4, ⟨hr2, hx1⟩⟩ := hq
  try dsimp only [Option.toList, List.cons_append, List.nil_append]
  subst hr2
  exact xr_iret dX8_perform_17 rfl rfl (⟨_, rfl, rfl, rfl, (Ke.tr (fun pp kk => (fun hh => Or.elim hh (fun h => (Or.inl h)) (fun h => (Or.inr (Or.inr h))))) (Ke.up (Or.inr (Or.inl (by omega))) (Ke.up (Or.inl (by omega)) Ke.rf)) k4), ⟨rfl, (hx1.trans (congrArg nI (Nat.zero_add _)))⟩⟩)
set_option maxRecDepth 100000 in
set_option maxHeartbeats 4000000 in
theorem tp6_1 {ac b : Nat} (x : Int32) {l : Launch} {G : xG} {M : xM} {J : xJ} (h_b : b ≤ 50) (e_b : M 46 2 = nI b) (hac : ac < b) (e_k : M 47 ac = 6) : x_M l G fX8_perform 10 0 0 [.ref (46), .int (nI (ac)), .int (1), .int (x)] x_SH M J (qKI WTR M J (fun r M2 => r = (((x + (nI ac)) * 2) * 2) ∧ M2 46 3 = nI 3)) := by
  refine xb_of pX8 (Nat.le_of_ble_eq_true rfl) rfl ?_
  refine xr_aload_n dX8_perform_0 0 rfl ?_
  refine xr_iconst (v := 0) dX8_perform_1 rfl ?_
  refine xr_putI fpX8_33 dX8_perform_2 s_46 rfl rfl rfl ?_
  refine xr_aload_n dX8_perform_5 0 rfl ?_
  refine xr_iload_n dX8_perform_6 1 rfl ?_
  refine xr_putI fpX8_36 dX8_perform_7 s_46 rfl rfl rfl ?_
  refine xr_aload_n dX8_perform_10 0 rfl ?_
  refine xr_iload_n dX8_perform_11 2 rfl ?_
  refine xr_iload_n dX8_perform_12 3 rfl ?_
  refine xr_iconst (v := 0) dX8_perform_13 rfl ?_
  refine xr_callV (As := [.int (1), .int (x), .int (0)]) (rest := []) mlX8_39 (tu6_own_1 (e := 0) (ac := ac) (ra := 0) x (by omega) h_b (Eq.trans (x_up_k _ _ _ (by decide)) (Eq.trans (x_up_k _ _ _ (by decide)) e_b)) (by omega) (Eq.trans (x_up_k _ _ _ (by decide)) (x_up_s _ _ _ _)) hac (x_up_s _ _ _ _) (Eq.trans (congrFun (x_up_n _ _ _ (by decide)) _) (Eq.trans (congrFun (x_up_n _ _ _ (by decide)) _) e_k))) dX8_perform_14 s_46 rfl rfl (Nat.le_of_ble_eq_true rfl) (by decide) ⟨by decide, by decide⟩ (fun v s2 M3 J2 hq => ?_)
  obtain ⟨r5, rfl, rfl, rfl, k4, ⟨hr2, hx1⟩⟩ := hq
  try dsimp only [Option.toList, List.cons_append, List.nil_append]
  subst hr2
  exact xr_iret dX8_perform_17 rfl rfl (⟨_, rfl, rfl, rfl, (Ke.tr (fun pp kk => (fun hh => Or.elim hh (fun h => (Or.inl h)) (fun h => (Or.inr (Or.inr h))))) (Ke.up (Or.inr (Or.inl (by omega))) (Ke.up (Or.inl (by omega)) Ke.rf)) k4), ⟨rfl, (hx1.trans (congrArg nI (Nat.zero_add _)))⟩⟩)
set_option maxRecDepth 100000 in
set_option maxHeartbeats 4000000 in
theorem tp6_2 {ac b : Nat} (x : Int32) {l : Launch} {G : xG} {M : xM} {J : xJ} (h_b : b ≤ 50) (e_b : M 46 2 = nI b) (hac : ac < b) (e_k : M 47 ac = 6) : x_M l G fX8_perform 4 0 0 [.ref (46), .int (nI (ac)), .int (2), .int (x)] x_SH M J (qKI WTR M J (fun r M2 => r = (x ^^^ (nI ac)) ∧ M2 46 3 = nI 1)) := by
  refine xb_of pX8 (Nat.le_of_ble_eq_true rfl) rfl ?_
  refine xr_aload_n dX8_perform_0 0 rfl ?_
  refine xr_iconst (v := 0) dX8_perform_1 rfl ?_
  refine xr_putI fpX8_33 dX8_perform_2 s_46 rfl rfl rfl ?_
  refine xr_aload_n dX8_perform_5 0 rfl ?_
  refine xr_iload_n dX8_perform_6 1 rfl ?_
  refine xr_putI fpX8_36 dX8_perform_7 s_46 rfl rfl rfl ?_
  refine xr_aload_n dX8_perform_10 0 rfl ?_
  refine xr_iload_n dX8_perform_11 2 rfl ?_
  refine xr_iload_n dX8_perform_12 3 rfl ?_
  refine xr_iconst (v := 0) dX8_perform_13 rfl ?_
  refine xr_callV (As := [.int (2), .int (x), .int (0)]) (rest := []) mlX8_39 (tu6_own_2 (e := 0) (ac := ac) (ra := 0) x (by omega) h_b (Eq.trans (x_up_k _ _ _ (by decide)) (Eq.trans (x_up_k _ _ _ (by decide)) e_b)) (by omega) (Eq.trans (x_up_k _ _ _ (by decide)) (x_up_s _ _ _ _)) hac (x_up_s _ _ _ _) (Eq.trans (congrFun (x_up_n _ _ _ (by decide)) _) (Eq.trans (congrFun (x_up_n _ _ _ (by decide)) _) e_k))) dX8_perform_14 s_46 rfl rfl (Nat.le_of_ble_eq_true rfl) (by decide) ⟨by decide, by decide⟩ (fun v s2 M3 J2 hq => ?_)
  obtain ⟨r5, rfl, rfl, rfl, k4, ⟨hr2, hx1⟩⟩ := hq
  try dsimp only [Option.toList, List.cons_append, List.nil_append]
  subst hr2
  exact xr_iret dX8_perform_17 rfl rfl (⟨_, rfl, rfl, rfl, (Ke.tr (fun pp kk => (fun hh => Or.elim hh (fun h => (Or.inl h)) (fun h => (Or.inr (Or.inr h))))) (Ke.up (Or.inr (Or.inl (by omega))) (Ke.up (Or.inl (by omega)) Ke.rf)) k4), ⟨rfl, (hx1.trans (congrArg nI (Nat.zero_add _)))⟩⟩)
set_option maxRecDepth 100000 in
set_option maxHeartbeats 4000000 in
theorem tp6_3 {ac b : Nat} (x : Int32) {l : Launch} {G : xG} {M : xM} {J : xJ} (h_b : b ≤ 50) (e_b : M 46 2 = nI b) (hac : ac < b) (e_k : M 47 ac = 6) : x_M l G fX8_perform 13 0 0 [.ref (46), .int (nI (ac)), .int (3), .int (x)] x_SH M J (qKI WTR M J (fun r M2 => r = ((((x + (nI ac)) * 2) * 2) - (1 ^^^ (nI ac))) ∧ M2 46 3 = nI 5)) := by
  refine xb_of pX8 (Nat.le_of_ble_eq_true rfl) rfl ?_
  refine xr_aload_n dX8_perform_0 0 rfl ?_
  refine xr_iconst (v := 0) dX8_perform_1 rfl ?_
  refine xr_putI fpX8_33 dX8_perform_2 s_46 rfl rfl rfl ?_
  refine xr_aload_n dX8_perform_5 0 rfl ?_
  refine xr_iload_n dX8_perform_6 1 rfl ?_
  refine xr_putI fpX8_36 dX8_perform_7 s_46 rfl rfl rfl ?_
  refine xr_aload_n dX8_perform_10 0 rfl ?_
  refine xr_iload_n dX8_perform_11 2 rfl ?_
  refine xr_iload_n dX8_perform_12 3 rfl ?_
  refine xr_iconst (v := 0) dX8_perform_13 rfl ?_
  refine xr_callV (As := [.int (3), .int (x), .int (0)]) (rest := []) mlX8_39 (tu6_own_3 (e := 0) (ac := ac) (ra := 0) x (by omega) h_b (Eq.trans (x_up_k _ _ _ (by decide)) (Eq.trans (x_up_k _ _ _ (by decide)) e_b)) (by omega) (Eq.trans (x_up_k _ _ _ (by decide)) (x_up_s _ _ _ _)) hac (x_up_s _ _ _ _) (Eq.trans (congrFun (x_up_n _ _ _ (by decide)) _) (Eq.trans (congrFun (x_up_n _ _ _ (by decide)) _) e_k))) dX8_perform_14 s_46 rfl rfl (Nat.le_of_ble_eq_true rfl) (by decide) ⟨by decide, by decide⟩ (fun v s2 M3 J2 hq => ?_)
  obtain ⟨r5, rfl, rfl, rfl, k4, ⟨hr2, hx1⟩⟩ := hq
  try dsimp only [Option.toList, List.cons_append, List.nil_append]
  subst hr2
  exact xr_iret dX8_perform_17 rfl rfl (⟨_, rfl, rfl, rfl, (Ke.tr (fun pp kk => (fun hh => Or.elim hh (fun h => (Or.inl h)) (fun h => (Or.inr (Or.inr h))))) (Ke.up (Or.inr (Or.inl (by omega))) (Ke.up (Or.inl (by omega)) Ke.rf)) k4), ⟨rfl, (hx1.trans (congrArg nI (Nat.zero_add _)))⟩⟩)
set_option maxRecDepth 100000 in
set_option maxHeartbeats 4000000 in
theorem tp7_0 {ac b : Nat} (x : Int32) {l : Launch} {G : xG} {M : xM} {J : xJ} (h_b : b ≤ 50) (e_b : M 46 2 = nI b) (hac : ac < b) (e_k : M 47 ac = 7) : x_M l G fX8_perform 7 0 0 [.ref (46), .int (nI (ac)), .int (0), .int (x)] x_SH M J (qKI WTR M J (fun r M2 => r = ((x + (nI ac)) + 3) ∧ M2 46 3 = nI 2)) := by
  refine xb_of pX8 (Nat.le_of_ble_eq_true rfl) rfl ?_
  refine xr_aload_n dX8_perform_0 0 rfl ?_
  refine xr_iconst (v := 0) dX8_perform_1 rfl ?_
  refine xr_putI fpX8_33 dX8_perform_2 s_46 rfl rfl rfl ?_
  refine xr_aload_n dX8_perform_5 0 rfl ?_
  refine xr_iload_n dX8_perform_6 1 rfl ?_
  refine xr_putI fpX8_36 dX8_perform_7 s_46 rfl rfl rfl ?_
  refine xr_aload_n dX8_perform_10 0 rfl ?_
  refine xr_iload_n dX8_perform_11 2 rfl ?_
  refine xr_iload_n dX8_perform_12 3 rfl ?_
  refine xr_iconst (v := 0) dX8_perform_13 rfl ?_
  refine xr_callV (As := [.int (0), .int (x), .int (0)]) (rest := []) mlX8_39 (tu7_own_0 (e := 0) (ac := ac) (ra := 0) x (by omega) h_b (Eq.trans (x_up_k _ _ _ (by decide)) (Eq.trans (x_up_k _ _ _ (by decide)) e_b)) (by omega) (Eq.trans (x_up_k _ _ _ (by decide)) (x_up_s _ _ _ _)) hac (x_up_s _ _ _ _) (Eq.trans (congrFun (x_up_n _ _ _ (by decide)) _) (Eq.trans (congrFun (x_up_n _ _ _ (by decide)) _) e_k))) dX8_perform_14 s_46 rfl rfl (Nat.le_of_ble_eq_true rfl) (by decide) ⟨by decide, by decide⟩ (fun v s2 M3 J2 hq => ?_)
  obtain ⟨r5, rfl, rfl, rfl, k4, ⟨hr2, hx1⟩⟩ := hq
  try dsimp only [Option.toList, List.cons_append, List.nil_append]
  subst hr2
  exact xr_iret dX8_perform_17 rfl rfl (⟨_, rfl, rfl, rfl, (Ke.tr (fun pp kk => (fun hh => Or.elim hh (fun h => (Or.inl h)) (fun h => (Or.inr (Or.inr h))))) (Ke.up (Or.inr (Or.inl (by omega))) (Ke.up (Or.inl (by omega)) Ke.rf)) k4), ⟨rfl, (hx1.trans (congrArg nI (Nat.zero_add _)))⟩⟩)
set_option maxRecDepth 100000 in
set_option maxHeartbeats 4000000 in
theorem tp7_1 {ac b : Nat} (x : Int32) {l : Launch} {G : xG} {M : xM} {J : xJ} (h_b : b ≤ 50) (e_b : M 46 2 = nI b) (hac : ac < b) (e_k : M 47 ac = 7) : x_M l G fX8_perform 13 0 0 [.ref (46), .int (nI (ac)), .int (1), .int (x)] x_SH M J (qKI WTR M J (fun r M2 => r = ((((x + (nI ac)) + 3) * 2) + ((2 ^^^ (nI ac)) - ((2 + (nI ac)) + 3))) ∧ M2 46 3 = nI 8)) := by
  refine xb_of pX8 (Nat.le_of_ble_eq_true rfl) rfl ?_
  refine xr_aload_n dX8_perform_0 0 rfl ?_
  refine xr_iconst (v := 0) dX8_perform_1 rfl ?_
  refine xr_putI fpX8_33 dX8_perform_2 s_46 rfl rfl rfl ?_
  refine xr_aload_n dX8_perform_5 0 rfl ?_
  refine xr_iload_n dX8_perform_6 1 rfl ?_
  refine xr_putI fpX8_36 dX8_perform_7 s_46 rfl rfl rfl ?_
  refine xr_aload_n dX8_perform_10 0 rfl ?_
  refine xr_iload_n dX8_perform_11 2 rfl ?_
  refine xr_iload_n dX8_perform_12 3 rfl ?_
  refine xr_iconst (v := 0) dX8_perform_13 rfl ?_
  refine xr_callV (As := [.int (1), .int (x), .int (0)]) (rest := []) mlX8_39 (tu7_own_1 (e := 0) (ac := ac) (ra := 0) x (by omega) h_b (Eq.trans (x_up_k _ _ _ (by decide)) (Eq.trans (x_up_k _ _ _ (by decide)) e_b)) (by omega) (Eq.trans (x_up_k _ _ _ (by decide)) (x_up_s _ _ _ _)) hac (x_up_s _ _ _ _) (Eq.trans (congrFun (x_up_n _ _ _ (by decide)) _) (Eq.trans (congrFun (x_up_n _ _ _ (by decide)) _) e_k))) dX8_perform_14 s_46 rfl rfl (Nat.le_of_ble_eq_true rfl) (by decide) ⟨by decide, by decide⟩ (fun v s2 M3 J2 hq => ?_)
  obtain ⟨r5, rfl, rfl, rfl, k4, ⟨hr2, hx1⟩⟩ := hq
  try dsimp only [Option.toList, List.cons_append, List.nil_append]
  subst hr2
  exact xr_iret dX8_perform_17 rfl rfl (⟨_, rfl, rfl, rfl, (Ke.tr (fun pp kk => (fun hh => Or.elim hh (fun h => (Or.inl h)) (fun h => (Or.inr (Or.inr h))))) (Ke.up (Or.inr (Or.inl (by omega))) (Ke.up (Or.inl (by omega)) Ke.rf)) k4), ⟨rfl, (hx1.trans (congrArg nI (Nat.zero_add _)))⟩⟩)
set_option maxRecDepth 100000 in
set_option maxHeartbeats 4000000 in
theorem tp7_2 {ac b : Nat} (x : Int32) {l : Launch} {G : xG} {M : xM} {J : xJ} (h_b : b ≤ 50) (e_b : M 46 2 = nI b) (hac : ac < b) (e_k : M 47 ac = 7) : x_M l G fX8_perform 10 0 0 [.ref (46), .int (nI (ac)), .int (2), .int (x)] x_SH M J (qKI WTR M J (fun r M2 => r = ((x ^^^ (nI ac)) - ((2 + (nI ac)) + 3)) ∧ M2 46 3 = nI 4)) := by
  refine xb_of pX8 (Nat.le_of_ble_eq_true rfl) rfl ?_
  refine xr_aload_n dX8_perform_0 0 rfl ?_
  refine xr_iconst (v := 0) dX8_perform_1 rfl ?_
  refine xr_putI fpX8_33 dX8_perform_2 s_46 rfl rfl rfl ?_
  refine xr_aload_n dX8_perform_5 0 rfl ?_
  refine xr_iload_n dX8_perform_6 1 rfl ?_
  refine xr_putI fpX8_36 dX8_perform_7 s_46 rfl rfl rfl ?_
  refine xr_aload_n dX8_perform_10 0 rfl ?_
  refine xr_iload_n dX8_perform_11 2 rfl ?_
  refine xr_iload_n dX8_perform_12 3 rfl ?_
  refine xr_iconst (v := 0) dX8_perform_13 rfl ?_
  refine xr_callV (As := [.int (2), .int (x), .int (0)]) (rest := []) mlX8_39 (tu7_own_2 (e := 0) (ac := ac) (ra := 0) x (by omega) h_b (Eq.trans (x_up_k _ _ _ (by decide)) (Eq.trans (x_up_k _ _ _ (by decide)) e_b)) (by omega) (Eq.trans (x_up_k _ _ _ (by decide)) (x_up_s _ _ _ _)) hac (x_up_s _ _ _ _) (Eq.trans (congrFun (x_up_n _ _ _ (by decide)) _) (Eq.trans (congrFun (x_up_n _ _ _ (by decide)) _) e_k))) dX8_perform_14 s_46 rfl rfl (Nat.le_of_ble_eq_true rfl) (by decide) ⟨by decide, by decide⟩ (fun v s2 M3 J2 hq => ?_)
  obtain ⟨r5, rfl, rfl, rfl, k4, ⟨hr2, hx1⟩⟩ := hq
  try dsimp only [Option.toList, List.cons_append, List.nil_append]
  subst hr2
  exact xr_iret dX8_perform_17 rfl rfl (⟨_, rfl, rfl, rfl, (Ke.tr (fun pp kk => (fun hh => Or.elim hh (fun h => (Or.inl h)) (fun h => (Or.inr (Or.inr h))))) (Ke.up (Or.inr (Or.inl (by omega))) (Ke.up (Or.inl (by omega)) Ke.rf)) k4), ⟨rfl, (hx1.trans (congrArg nI (Nat.zero_add _)))⟩⟩)
set_option maxRecDepth 100000 in
set_option maxHeartbeats 4000000 in
theorem tp7_3 {ac b : Nat} (x : Int32) {l : Launch} {G : xG} {M : xM} {J : xJ} (h_b : b ≤ 50) (e_b : M 46 2 = nI b) (hac : ac < b) (e_k : M 47 ac = 7) : x_M l G fX8_perform 19 0 0 [.ref (46), .int (nI (ac)), .int (3), .int (x)] x_SH M J (qKI WTR M J (fun r M2 => r = ((((((x + (nI ac)) + 3) * 2) + ((2 ^^^ (nI ac)) - ((2 + (nI ac)) + 3))) - ((1 ^^^ (nI ac)) - ((2 + (nI ac)) + 3))) - 1) ∧ M2 46 3 = nI 14)) := by
  refine xb_of pX8 (Nat.le_of_ble_eq_true rfl) rfl ?_
  refine xr_aload_n dX8_perform_0 0 rfl ?_
  refine xr_iconst (v := 0) dX8_perform_1 rfl ?_
  refine xr_putI fpX8_33 dX8_perform_2 s_46 rfl rfl rfl ?_
  refine xr_aload_n dX8_perform_5 0 rfl ?_
  refine xr_iload_n dX8_perform_6 1 rfl ?_
  refine xr_putI fpX8_36 dX8_perform_7 s_46 rfl rfl rfl ?_
  refine xr_aload_n dX8_perform_10 0 rfl ?_
  refine xr_iload_n dX8_perform_11 2 rfl ?_
  refine xr_iload_n dX8_perform_12 3 rfl ?_
  refine xr_iconst (v := 0) dX8_perform_13 rfl ?_
  refine xr_callV (As := [.int (3), .int (x), .int (0)]) (rest := []) mlX8_39 (tu7_own_3 (e := 0) (ac := ac) (ra := 0) x (by omega) h_b (Eq.trans (x_up_k _ _ _ (by decide)) (Eq.trans (x_up_k _ _ _ (by decide)) e_b)) (by omega) (Eq.trans (x_up_k _ _ _ (by decide)) (x_up_s _ _ _ _)) hac (x_up_s _ _ _ _) (Eq.trans (congrFun (x_up_n _ _ _ (by decide)) _) (Eq.trans (congrFun (x_up_n _ _ _ (by decide)) _) e_k))) dX8_perform_14 s_46 rfl rfl (Nat.le_of_ble_eq_true rfl) (by decide) ⟨by decide, by decide⟩ (fun v s2 M3 J2 hq => ?_)
  obtain ⟨r5, rfl, rfl, rfl, k4, ⟨hr2, hx1⟩⟩ := hq
  try dsimp only [Option.toList, List.cons_append, List.nil_append]
  subst hr2
  exact xr_iret dX8_perform_17 rfl rfl (⟨_, rfl, rfl, rfl, (Ke.tr (fun pp kk => (fun hh => Or.elim hh (fun h => (Or.inl h)) (fun h => (Or.inr (Or.inr h))))) (Ke.up (Or.inr (Or.inl (by omega))) (Ke.up (Or.inl (by omega)) Ke.rf)) k4), ⟨rfl, (hx1.trans (congrArg nI (Nat.zero_add _)))⟩⟩)
theorem pr_in {a b i L : Int32} {s : Nat} (hs : s ≤ 60) (hL : L = nI s) (h : (if a = 0 then -11 else if b = 2 then (if 0 ≤ i ∧ i < L then 0 else -13) else -12 : Int32) = 0) : ∃ j : Nat, j < s ∧ i = nI j := by
  subst hL
  by_cases h1 : a = 0
  · rw [if_pos h1] at h; exact absurd h (by decide)
  · rw [if_neg h1] at h
    by_cases h2 : b = 2
    · rw [if_pos h2] at h
      by_cases h3 : 0 ≤ i ∧ i < nI s
      · exact x_nat (by omega) rfl h3
      · rw [if_neg h3] at h; exact absurd h (by decide)
    · rw [if_neg h2] at h; exact absurd h (by decide)
theorem st_in {i n L : Int32} {s : Nat} (hs : s ≤ 60) (hL : L = nI s) (h : 0 ≤ i ∧ 0 ≤ n ∧ i ≤ L ∧ n ≤ L - i) : ∃ a m : Nat, a + m ≤ s ∧ i = nI a ∧ n = nI m := by
  subst hL
  obtain ⟨a, ha, rfl⟩ := x_natle (N := s) (by omega) rfl ⟨h.1, h.2.2.1⟩
  have e : nI s - nI a = nI (s - a) := by
    rw [show nI s = nI (s - a) + nI a by rw [nI_add]; congr 1; omega, Int32.add_sub_cancel]
  obtain ⟨m, hm, rfl⟩ := x_natle (v := n) (N := s - a) (by omega) rfl ⟨h.2.1, by rw [← e]; exact h.2.2.2⟩
  exact ⟨a, m, by omega, rfl, rfl⟩
