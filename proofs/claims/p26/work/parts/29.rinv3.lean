theorem dX10_besideOf_0 : decode cX10_besideOf 0 = .ok (.iload_n 1, 1) := by decide +kernel
theorem dX10_besideOf_1 : decode cX10_besideOf 1 = .ok (.tableswitch 69 0 2 #[27, 40, 55], 27) := by decide +kernel
theorem dX10_besideOf_28 : decode cX10_besideOf 28 = .ok (.iload_n 0, 1) := by decide +kernel
theorem dX10_besideOf_29 : decode cX10_besideOf 29 = .ok (.iconst 5, 1) := by decide +kernel
theorem dX10_besideOf_30 : decode cX10_besideOf 30 = .ok (.if_icmp .ge 7, 3) := by decide +kernel
theorem dX10_besideOf_37 : decode cX10_besideOf 37 = .ok (.iload_n 0, 1) := by decide +kernel
theorem dX10_besideOf_38 : decode cX10_besideOf 38 = .ok (.iconst 5, 1) := by decide +kernel
theorem dX10_besideOf_39 : decode cX10_besideOf 39 = .ok (.isub, 1) := by decide +kernel
theorem dX10_besideOf_40 : decode cX10_besideOf 40 = .ok (.ireturn, 1) := by decide +kernel
theorem dX10_besideOf_33 : decode cX10_besideOf 33 = .ok (.iconst (-1), 1) := by decide +kernel
theorem dX10_besideOf_34 : decode cX10_besideOf 34 = .ok (.goto 6, 3) := by decide +kernel
theorem dX10_besideOf_41 : decode cX10_besideOf 41 = .ok (.iload_n 0, 1) := by decide +kernel
theorem dX10_besideOf_42 : decode cX10_besideOf 42 = .ok (.iconst 5, 1) := by decide +kernel
theorem dX10_besideOf_43 : decode cX10_besideOf 43 = .ok (.irem, 1) := by decide +kernel
theorem dX10_besideOf_44 : decode cX10_besideOf 44 = .ok (.iconst 4, 1) := by decide +kernel
theorem dX10_besideOf_45 : decode cX10_besideOf 45 = .ok (.if_icmp .ne 7, 3) := by decide +kernel
theorem dX10_besideOf_52 : decode cX10_besideOf 52 = .ok (.iload_n 0, 1) := by decide +kernel
theorem dX10_besideOf_53 : decode cX10_besideOf 53 = .ok (.iconst 1, 1) := by decide +kernel
theorem dX10_besideOf_54 : decode cX10_besideOf 54 = .ok (.iadd, 1) := by decide +kernel
theorem dX10_besideOf_55 : decode cX10_besideOf 55 = .ok (.ireturn, 1) := by decide +kernel
theorem dX10_besideOf_48 : decode cX10_besideOf 48 = .ok (.iconst (-1), 1) := by decide +kernel
theorem dX10_besideOf_49 : decode cX10_besideOf 49 = .ok (.goto 6, 3) := by decide +kernel
theorem dX10_besideOf_56 : decode cX10_besideOf 56 = .ok (.iload_n 0, 1) := by decide +kernel
theorem dX10_besideOf_57 : decode cX10_besideOf 57 = .ok (.bipush 19, 2) := by decide +kernel
theorem dX10_besideOf_59 : decode cX10_besideOf 59 = .ok (.if_icmp .le 7, 3) := by decide +kernel
theorem dX10_besideOf_66 : decode cX10_besideOf 66 = .ok (.iload_n 0, 1) := by decide +kernel
theorem dX10_besideOf_67 : decode cX10_besideOf 67 = .ok (.iconst 5, 1) := by decide +kernel
theorem dX10_besideOf_68 : decode cX10_besideOf 68 = .ok (.iadd, 1) := by decide +kernel
theorem dX10_besideOf_69 : decode cX10_besideOf 69 = .ok (.ireturn, 1) := by decide +kernel
theorem dX10_besideOf_62 : decode cX10_besideOf 62 = .ok (.iconst (-1), 1) := by decide +kernel
theorem dX10_besideOf_63 : decode cX10_besideOf 63 = .ok (.goto 6, 3) := by decide +kernel
theorem dX10_besideOf_70 : decode cX10_besideOf 70 = .ok (.iload_n 0, 1) := by decide +kernel
theorem dX10_besideOf_71 : decode cX10_besideOf 71 = .ok (.iconst 5, 1) := by decide +kernel
theorem dX10_besideOf_72 : decode cX10_besideOf 72 = .ok (.irem, 1) := by decide +kernel
theorem dX10_besideOf_73 : decode cX10_besideOf 73 = .ok (.ifCond .ne 7, 3) := by decide +kernel
theorem dX10_besideOf_80 : decode cX10_besideOf 80 = .ok (.iload_n 0, 1) := by decide +kernel
theorem dX10_besideOf_81 : decode cX10_besideOf 81 = .ok (.iconst 1, 1) := by decide +kernel
theorem dX10_besideOf_82 : decode cX10_besideOf 82 = .ok (.isub, 1) := by decide +kernel
theorem dX10_besideOf_83 : decode cX10_besideOf 83 = .ok (.ireturn, 1) := by decide +kernel
theorem dX10_besideOf_76 : decode cX10_besideOf 76 = .ok (.iconst (-1), 1) := by decide +kernel
theorem dX10_besideOf_77 : decode cX10_besideOf 77 = .ok (.goto 6, 3) := by decide +kernel
theorem dX10_draws_0 : decode cX10_draws 0 = .ok (.aload_n 0, 1) := by decide +kernel
theorem dX10_draws_1 : decode cX10_draws 1 = .ok (.aload_n 0, 1) := by decide +kernel
theorem dX10_draws_2 : decode cX10_draws 2 = .ok (.getfield 298, 3) := by decide +kernel
theorem dX10_draws_5 : decode cX10_draws 5 = .ok (.ldc_w 301, 3) := by decide +kernel
theorem dX10_draws_8 : decode cX10_draws 8 = .ok (.imul, 1) := by decide +kernel
theorem dX10_draws_9 : decode cX10_draws 9 = .ok (.sipush 12345, 3) := by decide +kernel
theorem dX10_draws_12 : decode cX10_draws 12 = .ok (.iadd, 1) := by decide +kernel
theorem dX10_draws_13 : decode cX10_draws 13 = .ok (.putfield 298, 3) := by decide +kernel
theorem dX10_draws_16 : decode cX10_draws 16 = .ok (.aload_n 0, 1) := by decide +kernel
theorem dX10_draws_17 : decode cX10_draws 17 = .ok (.getfield 298, 3) := by decide +kernel
theorem dX10_draws_20 : decode cX10_draws 20 = .ok (.bipush 8, 2) := by decide +kernel
theorem dX10_draws_22 : decode cX10_draws 22 = .ok (.iushr, 1) := by decide +kernel
theorem dX10_draws_23 : decode cX10_draws 23 = .ok (.bipush 12, 2) := by decide +kernel
theorem dX10_draws_25 : decode cX10_draws 25 = .ok (.irem, 1) := by decide +kernel
theorem dX10_draws_26 : decode cX10_draws 26 = .ok (.ireturn, 1) := by decide +kernel
theorem dX10_drops_0 : decode cX10_drops 0 = .ok (.aload_n 0, 1) := by decide +kernel
theorem dX10_drops_1 : decode cX10_drops 1 = .ok (.getfield 56, 3) := by decide +kernel
theorem dX10_drops_4 : decode cX10_drops 4 = .ok (.iload_n 1, 1) := by decide +kernel
theorem dX10_drops_5 : decode cX10_drops 5 = .ok (.iconst 0, 1) := by decide +kernel
theorem dX10_drops_6 : decode cX10_drops 6 = .ok (.bastore, 1) := by decide +kernel
theorem dX10_drops_7 : decode cX10_drops 7 = .ok (.aload_n 0, 1) := by decide +kernel
theorem dX10_drops_8 : decode cX10_drops 8 = .ok (.getfield 60, 3) := by decide +kernel
theorem dX10_drops_11 : decode cX10_drops 11 = .ok (.iload_n 1, 1) := by decide +kernel
theorem dX10_drops_12 : decode cX10_drops 12 = .ok (.iload_n 2, 1) := by decide +kernel
theorem dX10_drops_13 : decode cX10_drops 13 = .ok (.iastore, 1) := by decide +kernel
theorem dX10_drops_14 : decode cX10_drops 14 = .ok (.aload_n 0, 1) := by decide +kernel
theorem dX10_drops_15 : decode cX10_drops 15 = .ok (.getfield 63, 3) := by decide +kernel
theorem dX10_drops_18 : decode cX10_drops 18 = .ok (.iload_n 1, 1) := by decide +kernel
theorem dX10_drops_19 : decode cX10_drops 19 = .ok (.iload_n 3, 1) := by decide +kernel
theorem dX10_drops_20 : decode cX10_drops 20 = .ok (.iastore, 1) := by decide +kernel
theorem dX10_drops_21 : decode cX10_drops 21 = .ok (.return_, 1) := by decide +kernel
theorem dX10_field_7 : decode cX10_field 7 = .ok (.iload_n 3, 1) := by decide +kernel
theorem dX10_field_8 : decode cX10_field 8 = .ok (.bipush 25, 2) := by decide +kernel
theorem dX10_field_10 : decode cX10_field 10 = .ok (.if_icmp .ge 32, 3) := by decide +kernel
theorem dX10_field_13 : decode cX10_field 13 = .ok (.aload_n 0, 1) := by decide +kernel
theorem dX10_field_14 : decode cX10_field 14 = .ok (.getfield 56, 3) := by decide +kernel
theorem dX10_field_17 : decode cX10_field 17 = .ok (.iload_n 3, 1) := by decide +kernel
theorem dX10_field_18 : decode cX10_field 18 = .ok (.iconst 1, 1) := by decide +kernel
theorem dX10_field_19 : decode cX10_field 19 = .ok (.bastore, 1) := by decide +kernel
theorem dX10_field_20 : decode cX10_field 20 = .ok (.aload_n 0, 1) := by decide +kernel
theorem dX10_field_21 : decode cX10_field 21 = .ok (.getfield 60, 3) := by decide +kernel
theorem dX10_field_24 : decode cX10_field 24 = .ok (.iload_n 3, 1) := by decide +kernel
theorem dX10_field_25 : decode cX10_field 25 = .ok (.bipush (-2), 2) := by decide +kernel
theorem dX10_field_27 : decode cX10_field 27 = .ok (.iastore, 1) := by decide +kernel
theorem dX10_field_28 : decode cX10_field 28 = .ok (.aload_n 0, 1) := by decide +kernel
theorem dX10_field_29 : decode cX10_field 29 = .ok (.getfield 63, 3) := by decide +kernel
theorem dX10_field_32 : decode cX10_field 32 = .ok (.iload_n 3, 1) := by decide +kernel
theorem dX10_field_33 : decode cX10_field 33 = .ok (.bipush 31, 2) := by decide +kernel
theorem dX10_field_35 : decode cX10_field 35 = .ok (.iastore, 1) := by decide +kernel
theorem dX10_field_36 : decode cX10_field 36 = .ok (.iinc 3 1, 3) := by decide +kernel
theorem dX10_field_39 : decode cX10_field 39 = .ok (.goto (-32), 3) := by decide +kernel
theorem dX10_field_98 : decode cX10_field 98 = .ok (.iload 5, 2) := by decide +kernel
theorem dX10_field_100 : decode cX10_field 100 = .ok (.iconst 4, 1) := by decide +kernel
theorem dX10_field_101 : decode cX10_field 101 = .ok (.if_icmp .ge 56, 3) := by decide +kernel
theorem dX10_field_104 : decode cX10_field 104 = .ok (.iload 4, 2) := by decide +kernel
theorem dX10_field_106 : decode cX10_field 106 = .ok (.iload 5, 2) := by decide +kernel
theorem dX10_field_108 : decode cX10_field 108 = .ok (.invokestatic 308, 3) := by decide +kernel
theorem dX10_field_111 : decode cX10_field 111 = .ok (.istore 6, 2) := by decide +kernel
theorem dX10_field_113 : decode cX10_field 113 = .ok (.iload 6, 2) := by decide +kernel
theorem dX10_field_115 : decode cX10_field 115 = .ok (.ifCond .lt 36, 3) := by decide +kernel
theorem dX10_field_151 : decode cX10_field 151 = .ok (.iinc 5 1, 3) := by decide +kernel
theorem dX10_field_154 : decode cX10_field 154 = .ok (.goto (-56), 3) := by decide +kernel
theorem dX10_field_118 : decode cX10_field 118 = .ok (.aload_n 0, 1) := by decide +kernel
theorem dX10_field_119 : decode cX10_field 119 = .ok (.getfield 56, 3) := by decide +kernel
theorem dX10_field_122 : decode cX10_field 122 = .ok (.iload 6, 2) := by decide +kernel
theorem dX10_field_124 : decode cX10_field 124 = .ok (.baload, 1) := by decide +kernel
theorem dX10_field_125 : decode cX10_field 125 = .ok (.ifCond .eq 26, 3) := by decide +kernel
theorem dX10_field_128 : decode cX10_field 128 = .ok (.aload_n 0, 1) := by decide +kernel
theorem dX10_field_129 : decode cX10_field 129 = .ok (.invokevirtual 302, 3) := by decide +kernel
theorem dX10_field_132 : decode cX10_field 132 = .ok (.aload_n 0, 1) := by decide +kernel
theorem dX10_field_133 : decode cX10_field 133 = .ok (.getfield 9, 3) := by decide +kernel
theorem dX10_field_136 : decode cX10_field 136 = .ok (.bipush 19, 2) := by decide +kernel
theorem dX10_field_138 : decode cX10_field 138 = .ok (.iaload, 1) := by decide +kernel
theorem dX10_field_139 : decode cX10_field 139 = .ok (.if_icmp .ge 12, 3) := by decide +kernel
theorem dX10_field_142 : decode cX10_field 142 = .ok (.aload_n 0, 1) := by decide +kernel
theorem dX10_field_143 : decode cX10_field 143 = .ok (.iload 6, 2) := by decide +kernel
theorem dX10_field_145 : decode cX10_field 145 = .ok (.iload 4, 2) := by decide +kernel
theorem dX10_field_147 : decode cX10_field 147 = .ok (.iload_n 3, 1) := by decide +kernel
theorem dX10_field_148 : decode cX10_field 148 = .ok (.invokevirtual 305, 3) := by decide +kernel
theorem dX10_field_52 : decode cX10_field 52 = .ok (.iload 4, 2) := by decide +kernel
theorem dX10_field_54 : decode cX10_field 54 = .ok (.bipush 25, 2) := by decide +kernel
theorem dX10_field_56 : decode cX10_field 56 = .ok (.if_icmp .ge 107, 3) := by decide +kernel
theorem dX10_field_59 : decode cX10_field 59 = .ok (.aload_n 0, 1) := by decide +kernel
theorem dX10_field_60 : decode cX10_field 60 = .ok (.getfield 56, 3) := by decide +kernel
theorem dX10_field_63 : decode cX10_field 63 = .ok (.iload 4, 2) := by decide +kernel
theorem dX10_field_65 : decode cX10_field 65 = .ok (.baload, 1) := by decide +kernel
theorem dX10_field_66 : decode cX10_field 66 = .ok (.ifCond .eq 91, 3) := by decide +kernel
theorem dX10_field_157 : decode cX10_field 157 = .ok (.iinc 4 1, 3) := by decide +kernel
theorem dX10_field_160 : decode cX10_field 160 = .ok (.goto (-108), 3) := by decide +kernel
theorem dX10_field_69 : decode cX10_field 69 = .ok (.aload_n 0, 1) := by decide +kernel
theorem dX10_field_70 : decode cX10_field 70 = .ok (.invokevirtual 302, 3) := by decide +kernel
theorem dX10_field_73 : decode cX10_field 73 = .ok (.aload_n 0, 1) := by decide +kernel
theorem dX10_field_74 : decode cX10_field 74 = .ok (.getfield 50, 3) := by decide +kernel
theorem dX10_field_77 : decode cX10_field 77 = .ok (.iload 4, 2) := by decide +kernel
theorem dX10_field_79 : decode cX10_field 79 = .ok (.iaload, 1) := by decide +kernel
theorem dX10_field_80 : decode cX10_field 80 = .ok (.if_icmp .ge 6, 3) := by decide +kernel
theorem dX10_field_86 : decode cX10_field 86 = .ok (.aload_n 0, 1) := by decide +kernel
theorem dX10_field_87 : decode cX10_field 87 = .ok (.iload 4, 2) := by decide +kernel
theorem dX10_field_89 : decode cX10_field 89 = .ok (.bipush (-2), 2) := by decide +kernel
theorem dX10_field_91 : decode cX10_field 91 = .ok (.iload_n 3, 1) := by decide +kernel
theorem dX10_field_92 : decode cX10_field 92 = .ok (.invokevirtual 305, 3) := by decide +kernel
theorem dX10_field_95 : decode cX10_field 95 = .ok (.iconst 0, 1) := by decide +kernel
theorem dX10_field_96 : decode cX10_field 96 = .ok (.istore 5, 2) := by decide +kernel
theorem dX10_field_83 : decode cX10_field 83 = .ok (.goto 74, 3) := by decide +kernel
theorem dX10_field_44 : decode cX10_field 44 = .ok (.iload_n 3, 1) := by decide +kernel
theorem dX10_field_45 : decode cX10_field 45 = .ok (.iload_n 2, 1) := by decide +kernel
theorem dX10_field_46 : decode cX10_field 46 = .ok (.if_icmp .gt 123, 3) := by decide +kernel
theorem dX10_field_49 : decode cX10_field 49 = .ok (.iconst 0, 1) := by decide +kernel
theorem dX10_field_50 : decode cX10_field 50 = .ok (.istore 4, 2) := by decide +kernel
theorem dX10_field_163 : decode cX10_field 163 = .ok (.iinc 3 1, 3) := by decide +kernel
theorem dX10_field_166 : decode cX10_field 166 = .ok (.goto (-122), 3) := by decide +kernel
theorem dX10_field_0 : decode cX10_field 0 = .ok (.aload_n 0, 1) := by decide +kernel
theorem dX10_field_1 : decode cX10_field 1 = .ok (.iload_n 1, 1) := by decide +kernel
theorem dX10_field_2 : decode cX10_field 2 = .ok (.putfield 298, 3) := by decide +kernel
theorem dX10_field_5 : decode cX10_field 5 = .ok (.iconst 0, 1) := by decide +kernel
theorem dX10_field_6 : decode cX10_field 6 = .ok (.istore_n 3, 1) := by decide +kernel
theorem dX10_field_42 : decode cX10_field 42 = .ok (.iconst 1, 1) := by decide +kernel
theorem dX10_field_43 : decode cX10_field 43 = .ok (.istore_n 3, 1) := by decide +kernel
theorem dX10_field_169 : decode cX10_field 169 = .ok (.return_, 1) := by decide +kernel
theorem dX10_left_38 : decode cX10_left 38 = .ok (.iload 5, 2) := by decide +kernel
theorem dX10_left_40 : decode cX10_left 40 = .ok (.bipush 25, 2) := by decide +kernel
theorem dX10_left_42 : decode cX10_left 42 = .ok (.if_icmp .ge 29, 3) := by decide +kernel
theorem dX10_left_45 : decode cX10_left 45 = .ok (.iload 4, 2) := by decide +kernel
theorem dX10_left_47 : decode cX10_left 47 = .ok (.aload_n 0, 1) := by decide +kernel
theorem dX10_left_48 : decode cX10_left 48 = .ok (.getfield 56, 3) := by decide +kernel
theorem dX10_left_51 : decode cX10_left 51 = .ok (.iload 5, 2) := by decide +kernel
theorem dX10_left_53 : decode cX10_left 53 = .ok (.baload, 1) := by decide +kernel
theorem dX10_left_54 : decode cX10_left 54 = .ok (.ifCond .eq 7, 3) := by decide +kernel
theorem dX10_left_61 : decode cX10_left 61 = .ok (.iconst 0, 1) := by decide +kernel
theorem dX10_left_62 : decode cX10_left 62 = .ok (.iadd, 1) := by decide +kernel
theorem dX10_left_63 : decode cX10_left 63 = .ok (.istore 4, 2) := by decide +kernel
theorem dX10_left_65 : decode cX10_left 65 = .ok (.iinc 5 1, 3) := by decide +kernel
theorem dX10_left_68 : decode cX10_left 68 = .ok (.goto (-30), 3) := by decide +kernel
theorem dX10_left_57 : decode cX10_left 57 = .ok (.iconst 1, 1) := by decide +kernel
theorem dX10_left_58 : decode cX10_left 58 = .ok (.goto 4, 3) := by decide +kernel
theorem dX10_last_24 : decode cX10_last 24 = .ok (.iload 4, 2) := by decide +kernel
theorem dX10_last_26 : decode cX10_last 26 = .ok (.bipush 25, 2) := by decide +kernel
theorem dX10_last_28 : decode cX10_last 28 = .ok (.if_icmp .ge 32, 3) := by decide +kernel
theorem dX10_last_31 : decode cX10_last 31 = .ok (.aload_n 0, 1) := by decide +kernel
theorem dX10_last_32 : decode cX10_last 32 = .ok (.getfield 63, 3) := by decide +kernel
theorem dX10_last_35 : decode cX10_last 35 = .ok (.iload 4, 2) := by decide +kernel
theorem dX10_last_37 : decode cX10_last 37 = .ok (.iaload, 1) := by decide +kernel
theorem dX10_last_38 : decode cX10_last 38 = .ok (.aload_n 0, 1) := by decide +kernel
theorem dX10_last_39 : decode cX10_last 39 = .ok (.getfield 63, 3) := by decide +kernel
theorem dX10_last_42 : decode cX10_last 42 = .ok (.iload_n 3, 1) := by decide +kernel
theorem dX10_last_43 : decode cX10_last 43 = .ok (.iaload, 1) := by decide +kernel
theorem dX10_last_44 : decode cX10_last 44 = .ok (.if_icmp .le 8, 3) := by decide +kernel
theorem dX10_last_52 : decode cX10_last 52 = .ok (.iload_n 3, 1) := by decide +kernel
theorem dX10_last_53 : decode cX10_last 53 = .ok (.istore_n 3, 1) := by decide +kernel
theorem dX10_last_54 : decode cX10_last 54 = .ok (.iinc 4 1, 3) := by decide +kernel
theorem dX10_last_57 : decode cX10_last 57 = .ok (.goto (-33), 3) := by decide +kernel
theorem dX10_last_47 : decode cX10_last 47 = .ok (.iload 4, 2) := by decide +kernel
theorem dX10_last_49 : decode cX10_last 49 = .ok (.goto 4, 3) := by decide +kernel
theorem dX10_needsOf_0 : decode cX10_needsOf 0 = .ok (.iload_n 0, 1) := by decide +kernel
theorem dX10_needsOf_1 : decode cX10_needsOf 1 = .ok (.iconst 1, 1) := by decide +kernel
theorem dX10_needsOf_2 : decode cX10_needsOf 2 = .ok (.if_icmp .ge 7, 3) := by decide +kernel
theorem dX10_needsOf_9 : decode cX10_needsOf 9 = .ok (.iload_n 0, 1) := by decide +kernel
theorem dX10_needsOf_10 : decode cX10_needsOf 10 = .ok (.ireturn, 1) := by decide +kernel
theorem dX10_needsOf_5 : decode cX10_needsOf 5 = .ok (.iconst 1, 1) := by decide +kernel
theorem dX10_needsOf_6 : decode cX10_needsOf 6 = .ok (.goto 4, 3) := by decide +kernel
theorem dX10_learn_23 : decode cX10_learn 23 = .ok (.iload_n 3, 1) := by decide +kernel
theorem dX10_learn_24 : decode cX10_learn 24 = .ok (.iload_n 2, 1) := by decide +kernel
theorem dX10_learn_25 : decode cX10_learn 25 = .ok (.if_icmp .ge 65, 3) := by decide +kernel
theorem dX10_learn_28 : decode cX10_learn 28 = .ok (.aload_n 0, 1) := by decide +kernel
theorem dX10_learn_29 : decode cX10_learn 29 = .ok (.getfield 50, 3) := by decide +kernel
theorem dX10_learn_32 : decode cX10_learn 32 = .ok (.iload_n 1, 1) := by decide +kernel
theorem dX10_learn_33 : decode cX10_learn 33 = .ok (.iaload, 1) := by decide +kernel
theorem dX10_learn_34 : decode cX10_learn 34 = .ok (.bipush 12, 2) := by decide +kernel
theorem dX10_learn_36 : decode cX10_learn 36 = .ok (.if_icmp .ge 54, 3) := by decide +kernel
theorem dX10_learn_39 : decode cX10_learn 39 = .ok (.aload_n 0, 1) := by decide +kernel
theorem dX10_learn_40 : decode cX10_learn 40 = .ok (.getfield 53, 3) := by decide +kernel
theorem dX10_learn_43 : decode cX10_learn 43 = .ok (.iload_n 1, 1) := by decide +kernel
theorem dX10_learn_44 : decode cX10_learn 44 = .ok (.dup2, 1) := by decide +kernel
theorem dX10_learn_45 : decode cX10_learn 45 = .ok (.iaload, 1) := by decide +kernel
theorem dX10_learn_46 : decode cX10_learn 46 = .ok (.iconst 1, 1) := by decide +kernel
theorem dX10_learn_47 : decode cX10_learn 47 = .ok (.iadd, 1) := by decide +kernel
theorem dX10_learn_48 : decode cX10_learn 48 = .ok (.iastore, 1) := by decide +kernel
theorem dX10_learn_49 : decode cX10_learn 49 = .ok (.aload_n 0, 1) := by decide +kernel
theorem dX10_learn_50 : decode cX10_learn 50 = .ok (.getfield 53, 3) := by decide +kernel
theorem dX10_learn_53 : decode cX10_learn 53 = .ok (.iload_n 1, 1) := by decide +kernel
theorem dX10_learn_54 : decode cX10_learn 54 = .ok (.iaload, 1) := by decide +kernel
theorem dX10_learn_55 : decode cX10_learn 55 = .ok (.aload_n 0, 1) := by decide +kernel
theorem dX10_learn_56 : decode cX10_learn 56 = .ok (.getfield 50, 3) := by decide +kernel
theorem dX10_learn_59 : decode cX10_learn 59 = .ok (.iload_n 1, 1) := by decide +kernel
theorem dX10_learn_60 : decode cX10_learn 60 = .ok (.iaload, 1) := by decide +kernel
theorem dX10_learn_61 : decode cX10_learn 61 = .ok (.invokestatic 324, 3) := by decide +kernel
theorem dX10_learn_64 : decode cX10_learn 64 = .ok (.if_icmp .ne 20, 3) := by decide +kernel
theorem dX10_learn_84 : decode cX10_learn 84 = .ok (.iinc 3 1, 3) := by decide +kernel
theorem dX10_learn_87 : decode cX10_learn 87 = .ok (.goto (-64), 3) := by decide +kernel
theorem dX10_learn_67 : decode cX10_learn 67 = .ok (.aload_n 0, 1) := by decide +kernel
theorem dX10_learn_68 : decode cX10_learn 68 = .ok (.getfield 50, 3) := by decide +kernel
theorem dX10_learn_71 : decode cX10_learn 71 = .ok (.iload_n 1, 1) := by decide +kernel
theorem dX10_learn_72 : decode cX10_learn 72 = .ok (.dup2, 1) := by decide +kernel
theorem dX10_learn_73 : decode cX10_learn 73 = .ok (.iaload, 1) := by decide +kernel
theorem dX10_learn_74 : decode cX10_learn 74 = .ok (.iconst 1, 1) := by decide +kernel
theorem dX10_learn_75 : decode cX10_learn 75 = .ok (.iadd, 1) := by decide +kernel
theorem dX10_learn_76 : decode cX10_learn 76 = .ok (.iastore, 1) := by decide +kernel
theorem dX10_learn_77 : decode cX10_learn 77 = .ok (.aload_n 0, 1) := by decide +kernel
theorem dX10_learn_78 : decode cX10_learn 78 = .ok (.getfield 53, 3) := by decide +kernel
theorem dX10_learn_81 : decode cX10_learn 81 = .ok (.iload_n 1, 1) := by decide +kernel
theorem dX10_learn_82 : decode cX10_learn 82 = .ok (.iconst 0, 1) := by decide +kernel
theorem dX10_learn_83 : decode cX10_learn 83 = .ok (.iastore, 1) := by decide +kernel
theorem dX10_till_51 : decode cX10_till 51 = .ok (.iload 4, 2) := by decide +kernel
theorem dX10_till_53 : decode cX10_till 53 = .ok (.iload_n 2, 1) := by decide +kernel
theorem dX10_till_54 : decode cX10_till 54 = .ok (.if_icmp .ge 17, 3) := by decide +kernel
theorem dX10_till_57 : decode cX10_till 57 = .ok (.iload_n 3, 1) := by decide +kernel
theorem dX10_till_58 : decode cX10_till 58 = .ok (.iload 4, 2) := by decide +kernel
theorem dX10_till_60 : decode cX10_till 60 = .ok (.invokestatic 324, 3) := by decide +kernel
theorem dX10_till_63 : decode cX10_till 63 = .ok (.iadd, 1) := by decide +kernel
theorem dX10_till_64 : decode cX10_till 64 = .ok (.istore_n 3, 1) := by decide +kernel
theorem dX10_till_65 : decode cX10_till 65 = .ok (.iinc 4 1, 3) := by decide +kernel
theorem dX10_till_68 : decode cX10_till 68 = .ok (.goto (-17), 3) := by decide +kernel
theorem dX10_alone_42 : decode cX10_alone 42 = .ok (.iload 8, 2) := by decide +kernel
theorem dX10_alone_44 : decode cX10_alone 44 = .ok (.iload_n 2, 1) := by decide +kernel
theorem dX10_alone_45 : decode cX10_alone 45 = .ok (.if_icmp .ge 29, 3) := by decide +kernel
theorem dX10_alone_48 : decode cX10_alone 48 = .ok (.lload 4, 2) := by decide +kernel
theorem dX10_alone_50 : decode cX10_alone 50 = .ok (.aload_n 0, 1) := by decide +kernel
theorem dX10_alone_51 : decode cX10_alone 51 = .ok (.getfield 50, 3) := by decide +kernel
theorem dX10_alone_54 : decode cX10_alone 54 = .ok (.iload_n 1, 1) := by decide +kernel
theorem dX10_alone_55 : decode cX10_alone 55 = .ok (.iaload, 1) := by decide +kernel
theorem dX10_alone_56 : decode cX10_alone 56 = .ok (.i2l, 1) := by decide +kernel
theorem dX10_alone_57 : decode cX10_alone 57 = .ok (.lmul, 1) := by decide +kernel
theorem dX10_alone_58 : decode cX10_alone 58 = .ok (.lstore 4, 2) := by decide +kernel
theorem dX10_alone_60 : decode cX10_alone 60 = .ok (.lload 6, 2) := by decide +kernel
theorem dX10_alone_62 : decode cX10_alone 62 = .ok (.ldc2_w 296, 3) := by decide +kernel
theorem dX10_alone_65 : decode cX10_alone 65 = .ok (.lmul, 1) := by decide +kernel
theorem dX10_alone_66 : decode cX10_alone 66 = .ok (.lstore 6, 2) := by decide +kernel
theorem dX10_alone_68 : decode cX10_alone 68 = .ok (.iinc 8 1, 3) := by decide +kernel
theorem dX10_alone_71 : decode cX10_alone 71 = .ok (.goto (-29), 3) := by decide +kernel
theorem dX10_alone_92 : decode cX10_alone 92 = .ok (.lload 10, 2) := by decide +kernel
theorem dX10_alone_94 : decode cX10_alone 94 = .ok (.lconst 0, 1) := by decide +kernel
theorem dX10_alone_95 : decode cX10_alone 95 = .ok (.lcmp, 1) := by decide +kernel
theorem dX10_alone_96 : decode cX10_alone 96 = .ok (.ifCond .eq 21, 3) := by decide +kernel
theorem dX10_alone_99 : decode cX10_alone 99 = .ok (.lload 8, 2) := by decide +kernel
theorem dX10_alone_101 : decode cX10_alone 101 = .ok (.lload 10, 2) := by decide +kernel
theorem dX10_alone_103 : decode cX10_alone 103 = .ok (.lrem, 1) := by decide +kernel
theorem dX10_alone_104 : decode cX10_alone 104 = .ok (.lstore 12, 2) := by decide +kernel
theorem dX10_alone_106 : decode cX10_alone 106 = .ok (.lload 10, 2) := by decide +kernel
theorem dX10_alone_108 : decode cX10_alone 108 = .ok (.lstore 8, 2) := by decide +kernel
theorem dX10_alone_110 : decode cX10_alone 110 = .ok (.lload 12, 2) := by decide +kernel
theorem dX10_alone_112 : decode cX10_alone 112 = .ok (.lstore 10, 2) := by decide +kernel
theorem dX10_alone_114 : decode cX10_alone 114 = .ok (.goto (-22), 3) := by decide +kernel
theorem dX10_image_45 : decode cX10_image 45 = .ok (.iload_n 1, 1) := by decide +kernel
theorem dX10_image_46 : decode cX10_image 46 = .ok (.aload_n 0, 1) := by decide +kernel
theorem dX10_image_47 : decode cX10_image 47 = .ok (.getfield 109, 3) := by decide +kernel
theorem dX10_image_50 : decode cX10_image 50 = .ok (.if_icmp .ge 60, 3) := by decide +kernel
theorem dX10_image_53 : decode cX10_image 53 = .ok (.aload_n 0, 1) := by decide +kernel
theorem dX10_image_54 : decode cX10_image 54 = .ok (.getfield 66, 3) := by decide +kernel
theorem dX10_image_57 : decode cX10_image 57 = .ok (.iconst 3, 1) := by decide +kernel
theorem dX10_image_58 : decode cX10_image 58 = .ok (.iconst 3, 1) := by decide +kernel
theorem dX10_image_59 : decode cX10_image 59 = .ok (.iload_n 1, 1) := by decide +kernel
theorem dX10_image_60 : decode cX10_image 60 = .ok (.imul, 1) := by decide +kernel
theorem dX10_image_61 : decode cX10_image 61 = .ok (.iadd, 1) := by decide +kernel
theorem dX10_image_62 : decode cX10_image 62 = .ok (.aload_n 0, 1) := by decide +kernel
theorem dX10_image_63 : decode cX10_image 63 = .ok (.getfield 22, 3) := by decide +kernel
theorem dX10_image_66 : decode cX10_image 66 = .ok (.iload_n 1, 1) := by decide +kernel
theorem dX10_image_67 : decode cX10_image 67 = .ok (.iaload, 1) := by decide +kernel
theorem dX10_image_68 : decode cX10_image 68 = .ok (.iastore, 1) := by decide +kernel
theorem dX10_image_69 : decode cX10_image 69 = .ok (.aload_n 0, 1) := by decide +kernel
theorem dX10_image_70 : decode cX10_image 70 = .ok (.getfield 66, 3) := by decide +kernel
theorem dX10_image_73 : decode cX10_image 73 = .ok (.iconst 4, 1) := by decide +kernel
theorem dX10_image_74 : decode cX10_image 74 = .ok (.iconst 3, 1) := by decide +kernel
theorem dX10_image_75 : decode cX10_image 75 = .ok (.iload_n 1, 1) := by decide +kernel
theorem dX10_image_76 : decode cX10_image 76 = .ok (.imul, 1) := by decide +kernel
theorem dX10_image_77 : decode cX10_image 77 = .ok (.iadd, 1) := by decide +kernel
theorem dX10_image_78 : decode cX10_image 78 = .ok (.aload_n 0, 1) := by decide +kernel
theorem dX10_image_79 : decode cX10_image 79 = .ok (.getfield 9, 3) := by decide +kernel
theorem dX10_image_82 : decode cX10_image 82 = .ok (.bipush 10, 2) := by decide +kernel
theorem dX10_image_84 : decode cX10_image 84 = .ok (.iload_n 1, 1) := by decide +kernel
theorem dX10_image_85 : decode cX10_image 85 = .ok (.iadd, 1) := by decide +kernel
theorem dX10_image_86 : decode cX10_image 86 = .ok (.iaload, 1) := by decide +kernel
theorem dX10_image_87 : decode cX10_image 87 = .ok (.iastore, 1) := by decide +kernel
theorem dX10_image_88 : decode cX10_image 88 = .ok (.aload_n 0, 1) := by decide +kernel
theorem dX10_image_89 : decode cX10_image 89 = .ok (.getfield 66, 3) := by decide +kernel
theorem dX10_image_92 : decode cX10_image 92 = .ok (.iconst 5, 1) := by decide +kernel
theorem dX10_image_93 : decode cX10_image 93 = .ok (.iconst 3, 1) := by decide +kernel
theorem dX10_image_94 : decode cX10_image 94 = .ok (.iload_n 1, 1) := by decide +kernel
theorem dX10_image_95 : decode cX10_image 95 = .ok (.imul, 1) := by decide +kernel
theorem dX10_image_96 : decode cX10_image 96 = .ok (.iadd, 1) := by decide +kernel
theorem dX10_image_97 : decode cX10_image 97 = .ok (.aload_n 0, 1) := by decide +kernel
theorem dX10_image_98 : decode cX10_image 98 = .ok (.getfield 25, 3) := by decide +kernel
theorem dX10_image_101 : decode cX10_image 101 = .ok (.iload_n 1, 1) := by decide +kernel
theorem dX10_image_102 : decode cX10_image 102 = .ok (.iaload, 1) := by decide +kernel
theorem dX10_image_103 : decode cX10_image 103 = .ok (.iastore, 1) := by decide +kernel
theorem dX10_image_104 : decode cX10_image 104 = .ok (.iinc 1 1, 3) := by decide +kernel
theorem dX10_image_107 : decode cX10_image 107 = .ok (.goto (-62), 3) := by decide +kernel
theorem dX10_back_42 : decode cX10_back 42 = .ok (.iload_n 1, 1) := by decide +kernel
theorem dX10_back_43 : decode cX10_back 43 = .ok (.aload_n 0, 1) := by decide +kernel
theorem dX10_back_44 : decode cX10_back 44 = .ok (.getfield 331, 3) := by decide +kernel
theorem dX10_back_47 : decode cX10_back 47 = .ok (.if_icmp .ge 60, 3) := by decide +kernel
theorem dX10_back_50 : decode cX10_back 50 = .ok (.aload_n 0, 1) := by decide +kernel
theorem dX10_back_51 : decode cX10_back 51 = .ok (.getfield 22, 3) := by decide +kernel
theorem dX10_back_54 : decode cX10_back 54 = .ok (.iload_n 1, 1) := by decide +kernel
theorem dX10_back_55 : decode cX10_back 55 = .ok (.aload_n 0, 1) := by decide +kernel
theorem dX10_back_56 : decode cX10_back 56 = .ok (.getfield 66, 3) := by decide +kernel
theorem dX10_back_59 : decode cX10_back 59 = .ok (.iconst 3, 1) := by decide +kernel
theorem dX10_back_60 : decode cX10_back 60 = .ok (.iconst 3, 1) := by decide +kernel
theorem dX10_back_61 : decode cX10_back 61 = .ok (.iload_n 1, 1) := by decide +kernel
theorem dX10_back_62 : decode cX10_back 62 = .ok (.imul, 1) := by decide +kernel
theorem dX10_back_63 : decode cX10_back 63 = .ok (.iadd, 1) := by decide +kernel
theorem dX10_back_64 : decode cX10_back 64 = .ok (.iaload, 1) := by decide +kernel
theorem dX10_back_65 : decode cX10_back 65 = .ok (.iastore, 1) := by decide +kernel
theorem dX10_back_66 : decode cX10_back 66 = .ok (.aload_n 0, 1) := by decide +kernel
theorem dX10_back_67 : decode cX10_back 67 = .ok (.getfield 9, 3) := by decide +kernel
theorem dX10_back_70 : decode cX10_back 70 = .ok (.bipush 10, 2) := by decide +kernel
theorem dX10_back_72 : decode cX10_back 72 = .ok (.iload_n 1, 1) := by decide +kernel
theorem dX10_back_73 : decode cX10_back 73 = .ok (.iadd, 1) := by decide +kernel
theorem dX10_back_74 : decode cX10_back 74 = .ok (.aload_n 0, 1) := by decide +kernel
theorem dX10_back_75 : decode cX10_back 75 = .ok (.getfield 66, 3) := by decide +kernel
theorem dX10_back_78 : decode cX10_back 78 = .ok (.iconst 4, 1) := by decide +kernel
theorem dX10_back_79 : decode cX10_back 79 = .ok (.iconst 3, 1) := by decide +kernel
theorem dX10_back_80 : decode cX10_back 80 = .ok (.iload_n 1, 1) := by decide +kernel
theorem dX10_back_81 : decode cX10_back 81 = .ok (.imul, 1) := by decide +kernel
theorem dX10_back_82 : decode cX10_back 82 = .ok (.iadd, 1) := by decide +kernel
theorem dX10_back_83 : decode cX10_back 83 = .ok (.iaload, 1) := by decide +kernel
theorem dX10_back_84 : decode cX10_back 84 = .ok (.iastore, 1) := by decide +kernel
theorem dX10_back_85 : decode cX10_back 85 = .ok (.aload_n 0, 1) := by decide +kernel
theorem dX10_back_86 : decode cX10_back 86 = .ok (.getfield 25, 3) := by decide +kernel
theorem dX10_back_89 : decode cX10_back 89 = .ok (.iload_n 1, 1) := by decide +kernel
theorem dX10_back_90 : decode cX10_back 90 = .ok (.aload_n 0, 1) := by decide +kernel
theorem dX10_back_91 : decode cX10_back 91 = .ok (.getfield 66, 3) := by decide +kernel
theorem dX10_back_94 : decode cX10_back 94 = .ok (.iconst 5, 1) := by decide +kernel
theorem dX10_back_95 : decode cX10_back 95 = .ok (.iconst 3, 1) := by decide +kernel
theorem dX10_back_96 : decode cX10_back 96 = .ok (.iload_n 1, 1) := by decide +kernel
theorem dX10_back_97 : decode cX10_back 97 = .ok (.imul, 1) := by decide +kernel
theorem dX10_back_98 : decode cX10_back 98 = .ok (.iadd, 1) := by decide +kernel
theorem dX10_back_99 : decode cX10_back 99 = .ok (.iaload, 1) := by decide +kernel
theorem dX10_back_100 : decode cX10_back 100 = .ok (.iastore, 1) := by decide +kernel
theorem dX10_back_101 : decode cX10_back 101 = .ok (.iinc 1 1, 3) := by decide +kernel
theorem dX10_back_104 : decode cX10_back 104 = .ok (.goto (-62), 3) := by decide +kernel
theorem dX10_row_57 : decode cX10_row 57 = .ok (.iload 4, 2) := by decide +kernel
theorem dX10_row_59 : decode cX10_row 59 = .ok (.bipush 60, 2) := by decide +kernel
theorem dX10_row_61 : decode cX10_row 61 = .ok (.iload_n 1, 1) := by decide +kernel
theorem dX10_row_62 : decode cX10_row 62 = .ok (.imul, 1) := by decide +kernel
theorem dX10_row_63 : decode cX10_row 63 = .ok (.bipush 60, 2) := by decide +kernel
theorem dX10_row_65 : decode cX10_row 65 = .ok (.iadd, 1) := by decide +kernel
theorem dX10_row_66 : decode cX10_row 66 = .ok (.if_icmp .ge 17, 3) := by decide +kernel
theorem dX10_row_69 : decode cX10_row 69 = .ok (.aload_n 0, 1) := by decide +kernel
theorem dX10_row_70 : decode cX10_row 70 = .ok (.getfield 81, 3) := by decide +kernel
theorem dX10_row_73 : decode cX10_row 73 = .ok (.iload 4, 2) := by decide +kernel
theorem dX10_row_75 : decode cX10_row 75 = .ok (.lconst 0, 1) := by decide +kernel
theorem dX10_row_76 : decode cX10_row 76 = .ok (.lastore, 1) := by decide +kernel
theorem dX10_row_77 : decode cX10_row 77 = .ok (.iinc 4 1, 3) := by decide +kernel
theorem dX10_row_80 : decode cX10_row 80 = .ok (.goto (-23), 3) := by decide +kernel
theorem dX10_refusal_0 : decode cX10_refusal 0 = .ok (.iload_n 1, 1) := by decide +kernel
theorem dX10_refusal_1 : decode cX10_refusal 1 = .ok (.invokestatic 125, 3) := by decide +kernel
theorem dX10_refusal_4 : decode cX10_refusal 4 = .ok (.ifCond .ne 5, 3) := by decide +kernel
theorem dX10_refusal_9 : decode cX10_refusal 9 = .ok (.aload_n 0, 1) := by decide +kernel
theorem dX10_refusal_10 : decode cX10_refusal 10 = .ok (.getfield 75, 3) := by decide +kernel
theorem dX10_refusal_13 : decode cX10_refusal 13 = .ok (.iload_n 1, 1) := by decide +kernel
theorem dX10_refusal_14 : decode cX10_refusal 14 = .ok (.iaload, 1) := by decide +kernel
theorem dX10_refusal_15 : decode cX10_refusal 15 = .ok (.ifCond .ge 6, 3) := by decide +kernel
theorem dX10_refusal_21 : decode cX10_refusal 21 = .ok (.aload_n 0, 1) := by decide +kernel
theorem dX10_refusal_22 : decode cX10_refusal 22 = .ok (.getfield 75, 3) := by decide +kernel
theorem dX10_refusal_25 : decode cX10_refusal 25 = .ok (.iload_n 1, 1) := by decide +kernel
theorem dX10_refusal_26 : decode cX10_refusal 26 = .ok (.iaload, 1) := by decide +kernel
theorem dX10_refusal_27 : decode cX10_refusal 27 = .ok (.bipush 50, 2) := by decide +kernel
theorem dX10_refusal_29 : decode cX10_refusal 29 = .ok (.if_icmp .ge 6, 3) := by decide +kernel
theorem dX10_refusal_35 : decode cX10_refusal 35 = .ok (.iload_n 2, 1) := by decide +kernel
theorem dX10_refusal_36 : decode cX10_refusal 36 = .ok (.ifCond .lt 17, 3) := by decide +kernel
theorem dX10_refusal_53 : decode cX10_refusal 53 = .ok (.bipush (-13), 2) := by decide +kernel
theorem dX10_refusal_55 : decode cX10_refusal 55 = .ok (.ireturn, 1) := by decide +kernel
theorem dX10_refusal_39 : decode cX10_refusal 39 = .ok (.iload_n 2, 1) := by decide +kernel
theorem dX10_refusal_40 : decode cX10_refusal 40 = .ok (.aload_n 0, 1) := by decide +kernel
theorem dX10_refusal_41 : decode cX10_refusal 41 = .ok (.getfield 78, 3) := by decide +kernel
theorem dX10_refusal_44 : decode cX10_refusal 44 = .ok (.iload_n 1, 1) := by decide +kernel
theorem dX10_refusal_45 : decode cX10_refusal 45 = .ok (.iaload, 1) := by decide +kernel
theorem dX10_refusal_46 : decode cX10_refusal 46 = .ok (.if_icmp .ge 7, 3) := by decide +kernel
theorem dX10_refusal_49 : decode cX10_refusal 49 = .ok (.iconst 0, 1) := by decide +kernel
theorem dX10_refusal_50 : decode cX10_refusal 50 = .ok (.goto 5, 3) := by decide +kernel
theorem dX10_refusal_32 : decode cX10_refusal 32 = .ok (.bipush (-12), 2) := by decide +kernel
theorem dX10_refusal_34 : decode cX10_refusal 34 = .ok (.ireturn, 1) := by decide +kernel
theorem dX10_refusal_18 : decode cX10_refusal 18 = .ok (.bipush (-11), 2) := by decide +kernel
theorem dX10_refusal_20 : decode cX10_refusal 20 = .ok (.ireturn, 1) := by decide +kernel
theorem dX10_refusal_7 : decode cX10_refusal 7 = .ok (.iconst (-1), 1) := by decide +kernel
theorem dX10_refusal_8 : decode cX10_refusal 8 = .ok (.ireturn, 1) := by decide +kernel
theorem dX10_asSort_0 : decode cX10_asSort 0 = .ok (.iload_n 0, 1) := by decide +kernel
theorem dX10_asSort_1 : decode cX10_asSort 1 = .ok (.ifCond .ne 10, 3) := by decide +kernel
theorem dX10_asSort_11 : decode cX10_asSort 11 = .ok (.iload_n 0, 1) := by decide +kernel
theorem dX10_asSort_12 : decode cX10_asSort 12 = .ok (.iconst 1, 1) := by decide +kernel
theorem dX10_asSort_13 : decode cX10_asSort 13 = .ok (.if_icmp .ne 10, 3) := by decide +kernel
theorem dX10_asSort_23 : decode cX10_asSort 23 = .ok (.iload_n 0, 1) := by decide +kernel
theorem dX10_asSort_24 : decode cX10_asSort 24 = .ok (.iconst 2, 1) := by decide +kernel
theorem dX10_asSort_25 : decode cX10_asSort 25 = .ok (.if_icmp .ne 9, 3) := by decide +kernel
theorem dX10_asSort_34 : decode cX10_asSort 34 = .ok (.iload_n 0, 1) := by decide +kernel
theorem dX10_asSort_35 : decode cX10_asSort 35 = .ok (.iconst 4, 1) := by decide +kernel
theorem dX10_asSort_36 : decode cX10_asSort 36 = .ok (.if_icmp .ne 17, 3) := by decide +kernel
theorem dX10_asSort_53 : decode cX10_asSort 53 = .ok (.lload_n 1, 1) := by decide +kernel
theorem dX10_asSort_54 : decode cX10_asSort 54 = .ok (.lreturn, 1) := by decide +kernel
theorem dX10_asSort_39 : decode cX10_asSort 39 = .ok (.lload_n 1, 1) := by decide +kernel
theorem dX10_asSort_40 : decode cX10_asSort 40 = .ok (.lconst 0, 1) := by decide +kernel
theorem dX10_asSort_41 : decode cX10_asSort 41 = .ok (.lcmp, 1) := by decide +kernel
theorem dX10_asSort_42 : decode cX10_asSort 42 = .ok (.ifCond .eq 7, 3) := by decide +kernel
theorem dX10_asSort_49 : decode cX10_asSort 49 = .ok (.lconst 0, 1) := by decide +kernel
theorem dX10_asSort_50 : decode cX10_asSort 50 = .ok (.goto 4, 3) := by decide +kernel
theorem dX10_asSort_45 : decode cX10_asSort 45 = .ok (.lconst 1, 1) := by decide +kernel
theorem dX10_asSort_46 : decode cX10_asSort 46 = .ok (.goto 8, 3) := by decide +kernel
theorem dX10_asSort_28 : decode cX10_asSort 28 = .ok (.lload_n 1, 1) := by decide +kernel
theorem dX10_asSort_29 : decode cX10_asSort 29 = .ok (.l2i, 1) := by decide +kernel
theorem dX10_asSort_30 : decode cX10_asSort 30 = .ok (.i2l, 1) := by decide +kernel
theorem dX10_asSort_31 : decode cX10_asSort 31 = .ok (.goto 23, 3) := by decide +kernel
theorem dX10_asSort_16 : decode cX10_asSort 16 = .ok (.lload_n 1, 1) := by decide +kernel
theorem dX10_asSort_17 : decode cX10_asSort 17 = .ok (.l2i, 1) := by decide +kernel
theorem dX10_asSort_18 : decode cX10_asSort 18 = .ok (.i2s, 1) := by decide +kernel
theorem dX10_asSort_19 : decode cX10_asSort 19 = .ok (.i2l, 1) := by decide +kernel
theorem dX10_asSort_20 : decode cX10_asSort 20 = .ok (.goto 34, 3) := by decide +kernel
theorem dX10_asSort_4 : decode cX10_asSort 4 = .ok (.lload_n 1, 1) := by decide +kernel
theorem dX10_asSort_5 : decode cX10_asSort 5 = .ok (.l2i, 1) := by decide +kernel
theorem dX10_asSort_6 : decode cX10_asSort 6 = .ok (.i2b, 1) := by decide +kernel
theorem dX10_asSort_7 : decode cX10_asSort 7 = .ok (.i2l, 1) := by decide +kernel
theorem dX10_asSort_8 : decode cX10_asSort 8 = .ok (.goto 46, 3) := by decide +kernel
theorem dX10_shift_113 : decode cX10_shift 113 = .ok (.iload 6, 2) := by decide +kernel
theorem dX10_shift_115 : decode cX10_shift 115 = .ok (.iload 5, 2) := by decide +kernel
theorem dX10_shift_117 : decode cX10_shift 117 = .ok (.if_icmp .ge 30, 3) := by decide +kernel
theorem dX10_shift_120 : decode cX10_shift 120 = .ok (.aload_n 0, 1) := by decide +kernel
theorem dX10_shift_121 : decode cX10_shift 121 = .ok (.getfield 85, 3) := by decide +kernel
theorem dX10_shift_124 : decode cX10_shift 124 = .ok (.iload 6, 2) := by decide +kernel
theorem dX10_shift_126 : decode cX10_shift 126 = .ok (.aload_n 0, 1) := by decide +kernel
theorem dX10_shift_127 : decode cX10_shift 127 = .ok (.getfield 81, 3) := by decide +kernel
theorem dX10_shift_130 : decode cX10_shift 130 = .ok (.bipush 60, 2) := by decide +kernel
theorem dX10_shift_132 : decode cX10_shift 132 = .ok (.iload_n 1, 1) := by decide +kernel
theorem dX10_shift_133 : decode cX10_shift 133 = .ok (.imul, 1) := by decide +kernel
theorem dX10_shift_134 : decode cX10_shift 134 = .ok (.iload_n 2, 1) := by decide +kernel
theorem dX10_shift_135 : decode cX10_shift 135 = .ok (.iadd, 1) := by decide +kernel
theorem dX10_shift_136 : decode cX10_shift 136 = .ok (.iload 6, 2) := by decide +kernel
theorem dX10_shift_138 : decode cX10_shift 138 = .ok (.iadd, 1) := by decide +kernel
theorem dX10_shift_139 : decode cX10_shift 139 = .ok (.laload, 1) := by decide +kernel
theorem dX10_shift_140 : decode cX10_shift 140 = .ok (.lastore, 1) := by decide +kernel
theorem dX10_shift_141 : decode cX10_shift 141 = .ok (.iinc 6 1, 3) := by decide +kernel
theorem dX10_shift_144 : decode cX10_shift 144 = .ok (.goto (-31), 3) := by decide +kernel
theorem dX10_shift_150 : decode cX10_shift 150 = .ok (.iload 6, 2) := by decide +kernel
theorem dX10_shift_152 : decode cX10_shift 152 = .ok (.iload 5, 2) := by decide +kernel
theorem dX10_shift_154 : decode cX10_shift 154 = .ok (.if_icmp .ge 31, 3) := by decide +kernel
theorem dX10_shift_157 : decode cX10_shift 157 = .ok (.aload_n 0, 1) := by decide +kernel
theorem dX10_shift_158 : decode cX10_shift 158 = .ok (.getfield 81, 3) := by decide +kernel
theorem dX10_shift_161 : decode cX10_shift 161 = .ok (.bipush 60, 2) := by decide +kernel
theorem dX10_shift_163 : decode cX10_shift 163 = .ok (.iload_n 3, 1) := by decide +kernel
theorem dX10_shift_164 : decode cX10_shift 164 = .ok (.imul, 1) := by decide +kernel
theorem dX10_shift_165 : decode cX10_shift 165 = .ok (.iload 4, 2) := by decide +kernel
theorem dX10_shift_167 : decode cX10_shift 167 = .ok (.iadd, 1) := by decide +kernel
theorem dX10_shift_168 : decode cX10_shift 168 = .ok (.iload 6, 2) := by decide +kernel
theorem dX10_shift_170 : decode cX10_shift 170 = .ok (.iadd, 1) := by decide +kernel
theorem dX10_shift_171 : decode cX10_shift 171 = .ok (.aload_n 0, 1) := by decide +kernel
theorem dX10_shift_172 : decode cX10_shift 172 = .ok (.getfield 85, 3) := by decide +kernel
theorem dX10_shift_175 : decode cX10_shift 175 = .ok (.iload 6, 2) := by decide +kernel
theorem dX10_shift_177 : decode cX10_shift 177 = .ok (.laload, 1) := by decide +kernel
theorem dX10_shift_178 : decode cX10_shift 178 = .ok (.lastore, 1) := by decide +kernel
theorem dX10_shift_179 : decode cX10_shift 179 = .ok (.iinc 6 1, 3) := by decide +kernel
theorem dX10_shift_182 : decode cX10_shift 182 = .ok (.goto (-32), 3) := by decide +kernel
theorem dX10_kindOf_0 : decode cX10_kindOf 0 = .ok (.aload_n 0, 1) := by decide +kernel
theorem dX10_kindOf_1 : decode cX10_kindOf 1 = .ok (.getfield 69, 3) := by decide +kernel
theorem dX10_kindOf_4 : decode cX10_kindOf 4 = .ok (.iload_n 1, 1) := by decide +kernel
theorem dX10_kindOf_5 : decode cX10_kindOf 5 = .ok (.iaload, 1) := by decide +kernel
theorem dX10_kindOf_6 : decode cX10_kindOf 6 = .ok (.ireturn, 1) := by decide +kernel
theorem dX10_above_0 : decode cX10_above 0 = .ok (.iload_n 0, 1) := by decide +kernel
theorem dX10_above_1 : decode cX10_above 1 = .ok (.iconst 3, 1) := by decide +kernel
theorem dX10_above_2 : decode cX10_above 2 = .ok (.if_icmp .ne 7, 3) := by decide +kernel
theorem dX10_above_9 : decode cX10_above 9 = .ok (.iload_n 0, 1) := by decide +kernel
theorem dX10_above_10 : decode cX10_above 10 = .ok (.iconst 4, 1) := by decide +kernel
theorem dX10_above_11 : decode cX10_above 11 = .ok (.if_icmp .ne 7, 3) := by decide +kernel
theorem dX10_above_18 : decode cX10_above 18 = .ok (.iload_n 0, 1) := by decide +kernel
theorem dX10_above_19 : decode cX10_above 19 = .ok (.iconst 5, 1) := by decide +kernel
theorem dX10_above_20 : decode cX10_above 20 = .ok (.if_icmp .ne 7, 3) := by decide +kernel
theorem dX10_above_27 : decode cX10_above 27 = .ok (.iload_n 0, 1) := by decide +kernel
theorem dX10_above_28 : decode cX10_above 28 = .ok (.bipush 7, 2) := by decide +kernel
theorem dX10_above_30 : decode cX10_above 30 = .ok (.if_icmp .ne 7, 3) := by decide +kernel
theorem dX10_above_37 : decode cX10_above 37 = .ok (.iconst 0, 1) := by decide +kernel
theorem dX10_above_38 : decode cX10_above 38 = .ok (.ireturn, 1) := by decide +kernel
theorem dX10_above_5 : decode cX10_above 5 = .ok (.iconst 2, 1) := by decide +kernel
theorem dX10_above_6 : decode cX10_above 6 = .ok (.goto 32, 3) := by decide +kernel
theorem dX10_above_14 : decode cX10_above 14 = .ok (.iconst 1, 1) := by decide +kernel
theorem dX10_above_15 : decode cX10_above 15 = .ok (.goto 23, 3) := by decide +kernel
theorem dX10_above_23 : decode cX10_above 23 = .ok (.iconst 3, 1) := by decide +kernel
theorem dX10_above_24 : decode cX10_above 24 = .ok (.goto 14, 3) := by decide +kernel
theorem dX10_above_33 : decode cX10_above 33 = .ok (.iconst 4, 1) := by decide +kernel
theorem dX10_above_34 : decode cX10_above 34 = .ok (.goto 4, 3) := by decide +kernel
theorem dX10_music_69 : decode cX10_music 69 = .ok (.iload 6, 2) := by decide +kernel
theorem dX10_music_71 : decode cX10_music 71 = .ok (.sipush 200, 3) := by decide +kernel
theorem dX10_music_74 : decode cX10_music 74 = .ok (.if_icmp .ge 113, 3) := by decide +kernel
theorem dX10_music_187 : decode cX10_music 187 = .ok (.sipush 200, 3) := by decide +kernel
theorem dX10_music_190 : decode cX10_music 190 = .ok (.ireturn, 1) := by decide +kernel
theorem dX10_music_77 : decode cX10_music 77 = .ok (.iload 6, 2) := by decide +kernel
theorem dX10_music_79 : decode cX10_music 79 = .ok (.i2l, 1) := by decide +kernel
theorem dX10_music_80 : decode cX10_music 80 = .ok (.lload 4, 2) := by decide +kernel
theorem dX10_music_82 : decode cX10_music 82 = .ok (.lcmp, 1) := by decide +kernel
theorem dX10_music_83 : decode cX10_music 83 = .ok (.ifCond .ne 76, 3) := by decide +kernel
theorem dX10_music_159 : decode cX10_music 159 = .ok (.aload_n 0, 1) := by decide +kernel
theorem dX10_music_160 : decode cX10_music 160 = .ok (.aload_n 0, 1) := by decide +kernel
theorem dX10_music_161 : decode cX10_music 161 = .ok (.getfield 151, 3) := by decide +kernel
theorem dX10_music_164 : decode cX10_music 164 = .ok (.iload 6, 2) := by decide +kernel
theorem dX10_music_166 : decode cX10_music 166 = .ok (.iadd, 1) := by decide +kernel
theorem dX10_music_167 : decode cX10_music 167 = .ok (.invokevirtual 240, 3) := by decide +kernel
theorem dX10_music_170 : decode cX10_music 170 = .ok (.aload_n 0, 1) := by decide +kernel
theorem dX10_music_171 : decode cX10_music 171 = .ok (.iload_n 2, 1) := by decide +kernel
theorem dX10_music_172 : decode cX10_music 172 = .ok (.invokevirtual 252, 3) := by decide +kernel
theorem dX10_music_175 : decode cX10_music 175 = .ok (.ifCond .le 6, 3) := by decide +kernel
theorem dX10_music_181 : decode cX10_music 181 = .ok (.iinc 6 1, 3) := by decide +kernel
theorem dX10_music_184 : decode cX10_music 184 = .ok (.goto (-115), 3) := by decide +kernel
theorem dX10_music_178 : decode cX10_music 178 = .ok (.iload 6, 2) := by decide +kernel
theorem dX10_music_180 : decode cX10_music 180 = .ok (.ireturn, 1) := by decide +kernel
theorem dX10_music_86 : decode cX10_music 86 = .ok (.aload_n 0, 1) := by decide +kernel
theorem dX10_music_87 : decode cX10_music 87 = .ok (.iload_n 3, 1) := by decide +kernel
theorem dX10_music_88 : decode cX10_music 88 = .ok (.iconst 2, 1) := by decide +kernel
theorem dX10_music_89 : decode cX10_music 89 = .ok (.irem, 1) := by decide +kernel
theorem dX10_music_90 : decode cX10_music 90 = .ok (.ifCond .ne 7, 3) := by decide +kernel
theorem dX10_music_97 : decode cX10_music 97 = .ok (.bipush 12, 2) := by decide +kernel
theorem dX10_music_99 : decode cX10_music 99 = .ok (.aload_n 0, 1) := by decide +kernel
theorem dX10_music_100 : decode cX10_music 100 = .ok (.getfield 9, 3) := by decide +kernel
theorem dX10_music_103 : decode cX10_music 103 = .ok (.bipush 18, 2) := by decide +kernel
theorem dX10_music_105 : decode cX10_music 105 = .ok (.iaload, 1) := by decide +kernel
theorem dX10_music_106 : decode cX10_music 106 = .ok (.invokevirtual 234, 3) := by decide +kernel
theorem dX10_music_109 : decode cX10_music 109 = .ok (.iinc 3 1, 3) := by decide +kernel
theorem dX10_music_112 : decode cX10_music 112 = .ok (.iload_n 3, 1) := by decide +kernel
theorem dX10_music_113 : decode cX10_music 113 = .ok (.aload_n 0, 1) := by decide +kernel
theorem dX10_music_114 : decode cX10_music 114 = .ok (.getfield 78, 3) := by decide +kernel
theorem dX10_music_117 : decode cX10_music 117 = .ok (.iload_n 1, 1) := by decide +kernel
theorem dX10_music_118 : decode cX10_music 118 = .ok (.iaload, 1) := by decide +kernel
theorem dX10_music_119 : decode cX10_music 119 = .ok (.if_icmp .ge 17, 3) := by decide +kernel
theorem dX10_music_136 : decode cX10_music 136 = .ok (.lconst 0, 1) := by decide +kernel
theorem dX10_music_137 : decode cX10_music 137 = .ok (.lstore 7, 2) := by decide +kernel
theorem dX10_music_139 : decode cX10_music 139 = .ok (.lload 7, 2) := by decide +kernel
theorem dX10_music_141 : decode cX10_music 141 = .ok (.lconst 1, 1) := by decide +kernel
theorem dX10_music_142 : decode cX10_music 142 = .ok (.lcmp, 1) := by decide +kernel
theorem dX10_music_143 : decode cX10_music 143 = .ok (.ifCond .lt 11, 3) := by decide +kernel
theorem dX10_music_154 : decode cX10_music 154 = .ok (.ldc2_w 288, 3) := by decide +kernel
theorem dX10_music_157 : decode cX10_music 157 = .ok (.lstore 4, 2) := by decide +kernel
theorem dX10_music_122 : decode cX10_music 122 = .ok (.aload_n 0, 1) := by decide +kernel
theorem dX10_music_123 : decode cX10_music 123 = .ok (.getfield 81, 3) := by decide +kernel
theorem dX10_music_126 : decode cX10_music 126 = .ok (.bipush 60, 2) := by decide +kernel
theorem dX10_music_128 : decode cX10_music 128 = .ok (.iload_n 1, 1) := by decide +kernel
theorem dX10_music_129 : decode cX10_music 129 = .ok (.imul, 1) := by decide +kernel
theorem dX10_music_130 : decode cX10_music 130 = .ok (.iload_n 3, 1) := by decide +kernel
theorem dX10_music_131 : decode cX10_music 131 = .ok (.iadd, 1) := by decide +kernel
theorem dX10_music_132 : decode cX10_music 132 = .ok (.laload, 1) := by decide +kernel
theorem dX10_music_133 : decode cX10_music 133 = .ok (.goto 4, 3) := by decide +kernel
theorem dX10_music_146 : decode cX10_music 146 = .ok (.lload 4, 2) := by decide +kernel
theorem dX10_music_148 : decode cX10_music 148 = .ok (.lload 7, 2) := by decide +kernel
theorem dX10_music_150 : decode cX10_music 150 = .ok (.ladd, 1) := by decide +kernel
theorem dX10_music_151 : decode cX10_music 151 = .ok (.goto 6, 3) := by decide +kernel
theorem dX10_music_93 : decode cX10_music 93 = .ok (.iconst 0, 1) := by decide +kernel
theorem dX10_music_94 : decode cX10_music 94 = .ok (.goto 5, 3) := by decide +kernel
theorem dX10_hoops_69 : decode cX10_hoops 69 = .ok (.iload 5, 2) := by decide +kernel
theorem dX10_hoops_71 : decode cX10_hoops 71 = .ok (.ifCond .eq 140, 3) := by decide +kernel
theorem dX10_hoops_74 : decode cX10_hoops 74 = .ok (.iload 4, 2) := by decide +kernel
theorem dX10_hoops_76 : decode cX10_hoops 76 = .ok (.iload_n 3, 1) := by decide +kernel
theorem dX10_hoops_77 : decode cX10_hoops 77 = .ok (.if_icmp .ge 134, 3) := by decide +kernel
theorem dX10_hoops_211 : decode cX10_hoops 211 = .ok (.iload 4, 2) := by decide +kernel
theorem dX10_hoops_213 : decode cX10_hoops 213 = .ok (.ireturn, 1) := by decide +kernel
theorem dX10_hoops_80 : decode cX10_hoops 80 = .ok (.iload_n 2, 1) := by decide +kernel
theorem dX10_hoops_81 : decode cX10_hoops 81 = .ok (.aload_n 0, 1) := by decide +kernel
theorem dX10_hoops_82 : decode cX10_hoops 82 = .ok (.getfield 78, 3) := by decide +kernel
theorem dX10_hoops_85 : decode cX10_hoops 85 = .ok (.iload_n 1, 1) := by decide +kernel
theorem dX10_hoops_86 : decode cX10_hoops 86 = .ok (.iaload, 1) := by decide +kernel
theorem dX10_hoops_87 : decode cX10_hoops 87 = .ok (.iconst 3, 1) := by decide +kernel
theorem dX10_hoops_88 : decode cX10_hoops 88 = .ok (.isub, 1) := by decide +kernel
theorem dX10_hoops_89 : decode cX10_hoops 89 = .ok (.iconst 3, 1) := by decide +kernel
theorem dX10_hoops_90 : decode cX10_hoops 90 = .ok (.iload 4, 2) := by decide +kernel
theorem dX10_hoops_92 : decode cX10_hoops 92 = .ok (.imul, 1) := by decide +kernel
theorem dX10_hoops_93 : decode cX10_hoops 93 = .ok (.isub, 1) := by decide +kernel
theorem dX10_hoops_94 : decode cX10_hoops 94 = .ok (.if_icmp .gt 15, 3) := by decide +kernel
theorem dX10_hoops_109 : decode cX10_hoops 109 = .ok (.iconst 0, 1) := by decide +kernel
theorem dX10_hoops_110 : decode cX10_hoops 110 = .ok (.istore 5, 2) := by decide +kernel
theorem dX10_hoops_112 : decode cX10_hoops 112 = .ok (.bipush 60, 2) := by decide +kernel
theorem dX10_hoops_114 : decode cX10_hoops 114 = .ok (.iload_n 1, 1) := by decide +kernel
theorem dX10_hoops_115 : decode cX10_hoops 115 = .ok (.imul, 1) := by decide +kernel
theorem dX10_hoops_116 : decode cX10_hoops 116 = .ok (.iload_n 2, 1) := by decide +kernel
theorem dX10_hoops_117 : decode cX10_hoops 117 = .ok (.iadd, 1) := by decide +kernel
theorem dX10_hoops_118 : decode cX10_hoops 118 = .ok (.iconst 3, 1) := by decide +kernel
theorem dX10_hoops_119 : decode cX10_hoops 119 = .ok (.iload 4, 2) := by decide +kernel
theorem dX10_hoops_121 : decode cX10_hoops 121 = .ok (.imul, 1) := by decide +kernel
theorem dX10_hoops_122 : decode cX10_hoops 122 = .ok (.iadd, 1) := by decide +kernel
theorem dX10_hoops_123 : decode cX10_hoops 123 = .ok (.istore 6, 2) := by decide +kernel
theorem dX10_hoops_125 : decode cX10_hoops 125 = .ok (.iload 5, 2) := by decide +kernel
theorem dX10_hoops_127 : decode cX10_hoops 127 = .ok (.ifCond .eq 38, 3) := by decide +kernel
theorem dX10_hoops_165 : decode cX10_hoops 165 = .ok (.iconst 0, 1) := by decide +kernel
theorem dX10_hoops_166 : decode cX10_hoops 166 = .ok (.istore 5, 2) := by decide +kernel
theorem dX10_hoops_168 : decode cX10_hoops 168 = .ok (.iload 5, 2) := by decide +kernel
theorem dX10_hoops_170 : decode cX10_hoops 170 = .ok (.ifCond .eq 38, 3) := by decide +kernel
theorem dX10_hoops_208 : decode cX10_hoops 208 = .ok (.goto (-139), 3) := by decide +kernel
theorem dX10_hoops_97 : decode cX10_hoops 97 = .ok (.aload_n 0, 1) := by decide +kernel
theorem dX10_hoops_98 : decode cX10_hoops 98 = .ok (.getfield 109, 3) := by decide +kernel
theorem dX10_hoops_101 : decode cX10_hoops 101 = .ok (.iconst 5, 1) := by decide +kernel
theorem dX10_hoops_102 : decode cX10_hoops 102 = .ok (.if_icmp .ge 7, 3) := by decide +kernel
theorem dX10_hoops_105 : decode cX10_hoops 105 = .ok (.iconst 1, 1) := by decide +kernel
theorem dX10_hoops_106 : decode cX10_hoops 106 = .ok (.goto 4, 3) := by decide +kernel
theorem dX10_hoops_130 : decode cX10_hoops 130 = .ok (.aload_n 0, 1) := by decide +kernel
theorem dX10_hoops_131 : decode cX10_hoops 131 = .ok (.getfield 81, 3) := by decide +kernel
theorem dX10_hoops_134 : decode cX10_hoops 134 = .ok (.iload 6, 2) := by decide +kernel
theorem dX10_hoops_136 : decode cX10_hoops 136 = .ok (.laload, 1) := by decide +kernel
theorem dX10_hoops_137 : decode cX10_hoops 137 = .ok (.aload_n 0, 1) := by decide +kernel
theorem dX10_hoops_138 : decode cX10_hoops 138 = .ok (.getfield 81, 3) := by decide +kernel
theorem dX10_hoops_141 : decode cX10_hoops 141 = .ok (.iload 6, 2) := by decide +kernel
theorem dX10_hoops_143 : decode cX10_hoops 143 = .ok (.iconst 1, 1) := by decide +kernel
theorem dX10_hoops_144 : decode cX10_hoops 144 = .ok (.iadd, 1) := by decide +kernel
theorem dX10_hoops_145 : decode cX10_hoops 145 = .ok (.laload, 1) := by decide +kernel
theorem dX10_hoops_146 : decode cX10_hoops 146 = .ok (.aload_n 0, 1) := by decide +kernel
theorem dX10_hoops_147 : decode cX10_hoops 147 = .ok (.getfield 81, 3) := by decide +kernel
theorem dX10_hoops_150 : decode cX10_hoops 150 = .ok (.iload 6, 2) := by decide +kernel
theorem dX10_hoops_152 : decode cX10_hoops 152 = .ok (.iconst 2, 1) := by decide +kernel
theorem dX10_hoops_153 : decode cX10_hoops 153 = .ok (.iadd, 1) := by decide +kernel
theorem dX10_hoops_154 : decode cX10_hoops 154 = .ok (.laload, 1) := by decide +kernel
theorem dX10_hoops_155 : decode cX10_hoops 155 = .ok (.invokestatic 118, 3) := by decide +kernel
theorem dX10_hoops_158 : decode cX10_hoops 158 = .ok (.ifCond .eq 7, 3) := by decide +kernel
theorem dX10_hoops_161 : decode cX10_hoops 161 = .ok (.iconst 1, 1) := by decide +kernel
theorem dX10_hoops_162 : decode cX10_hoops 162 = .ok (.goto 4, 3) := by decide +kernel
theorem dX10_hoops_173 : decode cX10_hoops 173 = .ok (.aload_n 0, 1) := by decide +kernel
theorem dX10_hoops_174 : decode cX10_hoops 174 = .ok (.aload_n 0, 1) := by decide +kernel
theorem dX10_hoops_175 : decode cX10_hoops 175 = .ok (.getfield 81, 3) := by decide +kernel
theorem dX10_hoops_178 : decode cX10_hoops 178 = .ok (.iload 6, 2) := by decide +kernel
theorem dX10_hoops_180 : decode cX10_hoops 180 = .ok (.laload, 1) := by decide +kernel
theorem dX10_hoops_181 : decode cX10_hoops 181 = .ok (.l2i, 1) := by decide +kernel
theorem dX10_hoops_182 : decode cX10_hoops 182 = .ok (.aload_n 0, 1) := by decide +kernel
theorem dX10_hoops_183 : decode cX10_hoops 183 = .ok (.getfield 81, 3) := by decide +kernel
theorem dX10_hoops_186 : decode cX10_hoops 186 = .ok (.iload 6, 2) := by decide +kernel
theorem dX10_hoops_188 : decode cX10_hoops 188 = .ok (.iconst 1, 1) := by decide +kernel
theorem dX10_hoops_189 : decode cX10_hoops 189 = .ok (.iadd, 1) := by decide +kernel
theorem dX10_hoops_190 : decode cX10_hoops 190 = .ok (.laload, 1) := by decide +kernel
theorem dX10_hoops_191 : decode cX10_hoops 191 = .ok (.l2i, 1) := by decide +kernel
theorem dX10_hoops_192 : decode cX10_hoops 192 = .ok (.aload_n 0, 1) := by decide +kernel
theorem dX10_hoops_193 : decode cX10_hoops 193 = .ok (.getfield 81, 3) := by decide +kernel
theorem dX10_hoops_196 : decode cX10_hoops 196 = .ok (.iload 6, 2) := by decide +kernel
theorem dX10_hoops_198 : decode cX10_hoops 198 = .ok (.iconst 2, 1) := by decide +kernel
theorem dX10_hoops_199 : decode cX10_hoops 199 = .ok (.iadd, 1) := by decide +kernel
theorem dX10_hoops_200 : decode cX10_hoops 200 = .ok (.laload, 1) := by decide +kernel
theorem dX10_hoops_201 : decode cX10_hoops 201 = .ok (.l2i, 1) := by decide +kernel
theorem dX10_hoops_202 : decode cX10_hoops 202 = .ok (.invokevirtual 121, 3) := by decide +kernel
theorem dX10_hoops_205 : decode cX10_hoops 205 = .ok (.iinc 4 1, 3) := by decide +kernel
abbrev WFR (p k : Nat) : Prop := (p = 62 ∧ k = 32) ∨ (77 ≤ p ∧ p ≤ 79)
theorem rb_0 {g : Nat} (hg : g < 25) (h : 5 ≤ nI g) : ∃ j : Nat, j < 25 ∧ nI g - 5 = nI j := (show ∀ g, g < 25 → 5 ≤ nI g → ∃ j : Nat, j < 25 ∧ nI g - 5 = nI j by decide +kernel) g hg h
theorem rb_1 {g : Nat} (hg : g < 25) (h : ¬ nI g - nI g / 5 * 5 = 4) : ∃ j : Nat, j < 25 ∧ nI (g + 1) = nI j := (show ∀ g, g < 25 → ¬ nI g - nI g / 5 * 5 = 4 → ∃ j : Nat, j < 25 ∧ nI (g + 1) = nI j by decide +kernel) g hg h
theorem rb_2 {g : Nat} (hg : g < 25) (h : nI g ≤ 19) : ∃ j : Nat, j < 25 ∧ nI (g + 5) = nI j := (show ∀ g, g < 25 → nI g ≤ 19 → ∃ j : Nat, j < 25 ∧ nI (g + 5) = nI j by decide +kernel) g hg h
theorem rb_3 {g : Nat} (hg : g < 25) (h : ¬ nI g - nI g / 5 * 5 = 0) : ∃ j : Nat, j < 25 ∧ nI g - 1 = nI j := (show ∀ g, g < 25 → ¬ nI g - nI g / 5 * 5 = 0 → ∃ j : Nat, j < 25 ∧ nI g - 1 = nI j by decide +kernel) g hg h
set_option maxRecDepth 100000 in
set_option maxHeartbeats 4000000 in
theorem g_X10_besideOf {g : Nat} (hg : g < 25) (si : Int32) {l : Launch} {G : xG} {M : xM} {J : xJ} : x_M l G fX10_besideOf 0 0 0 [.int (nI (g)), .int (si)] x_SH M J (qPI M J (fun r => r < 0 ∨ ∃ j : Nat, j < 25 ∧ r = nI j)) := by
  refine xb_of pX10 (Nat.le_of_ble_eq_true rfl) rfl ?_
  refine xr_iload_n dX10_besideOf_0 1 rfl ?_
  refine xg_eq 0 (fun w1 => ?_) (fun w1 => ?_)
  · refine xr_tableIn (tgt := 28) dX10_besideOf_1 (by decide) (by decide) rfl rfl ?_
    refine xr_iload_n dX10_besideOf_28 0 rfl ?_
    refine xr_iconst (v := 5) dX10_besideOf_29 rfl ?_
    refine xr_icmp_ge (tgt := 37) dX10_besideOf_30 rfl (fun c2 => ?_) (fun c2 => ?_)
    · refine xr_iload_n dX10_besideOf_37 0 rfl ?_
      refine xr_iconst (v := 5) dX10_besideOf_38 rfl ?_
      refine xr_isub dX10_besideOf_39 ?_
      exact xr_iret dX10_besideOf_40 rfl rfl (⟨_, rfl, rfl, rfl, rfl, (Or.inr (rb_0 hg c2))⟩)
    · refine xr_iconst (v := -1) dX10_besideOf_33 rfl ?_
      refine xr_goto (tgt := 40) dX10_besideOf_34 rfl ?_
      exact xr_iret dX10_besideOf_40 rfl rfl (⟨_, rfl, rfl, rfl, rfl, (Or.inl (by decide))⟩)
  refine xg_eq 1 (fun w3 => ?_) (fun w3 => ?_)
  · refine xr_tableIn (tgt := 41) dX10_besideOf_1 (by decide) (by decide) rfl rfl ?_
    refine xr_iload_n dX10_besideOf_41 0 rfl ?_
    refine xr_iconst (v := 5) dX10_besideOf_42 rfl ?_
    refine xr_irem dX10_besideOf_43 (by decide) ?_
    refine xr_iconst (v := 4) dX10_besideOf_44 rfl ?_
    refine xr_icmp_ne (tgt := 52) dX10_besideOf_45 rfl (fun c4 => ?_) (fun c4 => ?_)
    · refine xr_iload_n dX10_besideOf_52 0 rfl ?_
      refine xr_iconst (v := 1) dX10_besideOf_53 rfl ?_
      refine xr_iadd dX10_besideOf_54 ?_
      refine xb_top (y := nI (g + 1)) (nI_add (g) (1)) ?_
      exact xr_iret dX10_besideOf_55 rfl rfl (⟨_, rfl, rfl, rfl, rfl, (Or.inr (rb_1 hg c4))⟩)
    · refine xr_iconst (v := -1) dX10_besideOf_48 rfl ?_
      refine xr_goto (tgt := 55) dX10_besideOf_49 rfl ?_
      exact xr_iret dX10_besideOf_55 rfl rfl (⟨_, rfl, rfl, rfl, rfl, (Or.inl (by decide))⟩)
  refine xg_eq 2 (fun w5 => ?_) (fun w5 => ?_)
  · refine xr_tableIn (tgt := 56) dX10_besideOf_1 (by decide) (by decide) rfl rfl ?_
    refine xr_iload_n dX10_besideOf_56 0 rfl ?_
    refine xr_bipush (v := 19) dX10_besideOf_57 rfl ?_
    refine xr_icmp_le (tgt := 66) dX10_besideOf_59 rfl (fun c6 => ?_) (fun c6 => ?_)
    · refine xr_iload_n dX10_besideOf_66 0 rfl ?_
      refine xr_iconst (v := 5) dX10_besideOf_67 rfl ?_
      refine xr_iadd dX10_besideOf_68 ?_
      refine xb_top (y := nI (g + 5)) (nI_add (g) (5)) ?_
      exact xr_iret dX10_besideOf_69 rfl rfl (⟨_, rfl, rfl, rfl, rfl, (Or.inr (rb_2 hg c6))⟩)
    · refine xr_iconst (v := -1) dX10_besideOf_62 rfl ?_
      refine xr_goto (tgt := 69) dX10_besideOf_63 rfl ?_
      exact xr_iret dX10_besideOf_69 rfl rfl (⟨_, rfl, rfl, rfl, rfl, (Or.inl (by decide))⟩)
  refine xr_tableOut (tgt := 70) dX10_besideOf_1 (xg_out (lo := 0) (hi := 2) (by decide) (fun j h1 h2 qq => by have h3 : j = 0 ∨ j = 1 ∨ j = 2 := (by omega); rcases h3 with rfl | rfl | rfl <;> first | exact absurd qq w1 | exact absurd qq w3 | exact absurd qq w5)) rfl ?_
  refine xr_iload_n dX10_besideOf_70 0 rfl ?_
  refine xr_iconst (v := 5) dX10_besideOf_71 rfl ?_
  refine xr_irem dX10_besideOf_72 (by decide) ?_
  refine xr_if_ne (tgt := 80) dX10_besideOf_73 rfl (fun c7 => ?_) (fun c7 => ?_)
  · refine xr_iload_n dX10_besideOf_80 0 rfl ?_
    refine xr_iconst (v := 1) dX10_besideOf_81 rfl ?_
    refine xr_isub dX10_besideOf_82 ?_
    exact xr_iret dX10_besideOf_83 rfl rfl (⟨_, rfl, rfl, rfl, rfl, (Or.inr (rb_3 hg c7))⟩)
  · refine xr_iconst (v := -1) dX10_besideOf_76 rfl ?_
    refine xr_goto (tgt := 83) dX10_besideOf_77 rfl ?_
    exact xr_iret dX10_besideOf_83 rfl rfl (⟨_, rfl, rfl, rfl, rfl, (Or.inl (by decide))⟩)
set_option maxRecDepth 100000 in
set_option maxHeartbeats 4000000 in
theorem g_X10_draws {l : Launch} {G : xG} {M : xM} {J : xJ} : x_M l G fX10_draws 0 0 0 [.ref (62)] x_SH M J (qKI WFR M J (fun r M2 => True)) := by
  refine xb_of pX10 (Nat.le_of_ble_eq_true rfl) rfl ?_
  refine xr_aload_n dX10_draws_0 0 rfl ?_
  refine xr_aload_n dX10_draws_1 0 rfl ?_
  refine xb_get (v := M 62 32) flX10_298 dX10_draws_2 s_62 rfl rfl ?_
  refine xr_ldcw coX10_301 dX10_draws_5 ?_
  refine xr_imul dX10_draws_8 ?_
  refine xr_sipush (v := 12345) dX10_draws_9 rfl ?_
  refine xr_iadd dX10_draws_12 ?_
  refine xr_putI fpX10_298 dX10_draws_13 s_62 rfl rfl rfl ?_
  refine xr_aload_n dX10_draws_16 0 rfl ?_
  refine xb_get (v := (((M 62 32) * 1103515245) + 12345)) flX10_298 dX10_draws_17 s_62 rfl (x_up_s _ _ _ _) ?_
  refine xr_bipush (v := 8) dX10_draws_20 rfl ?_
  refine xr_iushr dX10_draws_22 ?_
  refine xr_bipush (v := 12) dX10_draws_23 rfl ?_
  refine xr_irem dX10_draws_25 (by decide) ?_
  exact xr_iret dX10_draws_26 rfl rfl (⟨_, rfl, rfl, rfl, (Ke.up (Or.inl (by omega)) Ke.rf), trivial⟩)
set_option maxRecDepth 100000 in
set_option maxHeartbeats 4000000 in
theorem g_X10_drops {g : Nat} (hg : g < 25) (b mi : Int32) {l : Launch} {G : xG} {M : xM} {J : xJ} : x_M l G fX10_drops 0 0 0 [.ref (62), .int (nI (g)), .int (b), .int (mi)] x_SH M J (qKV WFR M J (fun M2 => True)) := by
  refine xb_of pX10 (Nat.le_of_ble_eq_true rfl) rfl ?_
  refine xr_aload_n dX10_drops_0 0 rfl ?_
  refine xr_getR flX10_56 dX10_drops_1 s_62 rfl ?_
  refine xr_iload_n dX10_drops_4 1 rfl ?_
  refine xr_iconst (v := 0) dX10_drops_5 rfl ?_
  refine xb_zast (j := g) (w := 0) dX10_drops_6 s_77 hg (by decide) rfl ?_
  refine xr_aload_n dX10_drops_7 0 rfl ?_
  refine xr_getR flX10_60 dX10_drops_8 s_62 rfl ?_
  refine xr_iload_n dX10_drops_11 1 rfl ?_
  refine xr_iload_n dX10_drops_12 2 rfl ?_
  refine xb_iast (j := g) dX10_drops_13 s_78 hg (by decide) ?_
  refine xr_aload_n dX10_drops_14 0 rfl ?_
  refine xr_getR flX10_63 dX10_drops_15 s_62 rfl ?_
  refine xr_iload_n dX10_drops_18 1 rfl ?_
  refine xr_iload_n dX10_drops_19 3 rfl ?_
  refine xb_iast (j := g) dX10_drops_20 s_79 hg (by decide) ?_
  exact xr_vret dX10_drops_21 rfl (⟨rfl, rfl, rfl, (Ke.up (Or.inr (by omega)) (Ke.up (Or.inr (by omega)) (Ke.up (Or.inr (by omega)) Ke.rf))), trivial⟩)
set_option maxRecDepth 100000 in
set_option maxHeartbeats 4000000 in
theorem fi_l {se : Int32} {n : Nat} {l : Launch} {G : xG} {M : xM} {J : xJ} {Q : xQ} (hC : ∀ (M2 : xM), Ke WFR M M2 → x_X l G fX10_field 1 0 0 Q 42 [(2, .int (nI (n))), (1, .int (se)), (0, .ref (62))] [] x_SH M2 J 0 0) : ∀ (m k : Nat) (M1 : xM), k + m = 25 → Ke WFR M M1 → x_X l G fX10_field 1 0 0 Q 7 [(3, .int (nI (k))), (2, .int (nI (n))), (1, .int (se)), (0, .ref (62))] [] x_SH M1 J 0 0 := by
  intro m
  induction m with
  | zero =>
    intro k M1 hk hM
    refine xr_iload_n dX10_field_7 0 rfl ?_
    refine xr_bipush (v := 25) dX10_field_8 rfl ?_
    refine xr_icmp_ge (tgt := 42) dX10_field_10 rfl (fun _ => ?_) (fun c => absurd (nI_le (a := 25) (b := k) (by omega) (by omega)) c)
    refine xb_ls (ls2 := [(2, .int (nI (n))), (1, .int (se)), (0, .ref (62))]) [1, 2, 3] rfl ?_
    exact hC _ hM
  | succ m ih =>
    intro k M1 hk hM
    have hkN : k < 25 := by omega
    refine xr_iload_n dX10_field_7 0 rfl ?_
    refine xr_bipush (v := 25) dX10_field_8 rfl ?_
    refine xr_icmp_ge (tgt := 42) dX10_field_10 rfl (fun c => absurd c (nI_ge (a := k) (b := 25) (by omega) (by omega))) (fun _ => ?_)
    refine xr_aload_n dX10_field_13 3 rfl ?_
    refine xr_getR flX10_56 dX10_field_14 s_62 rfl ?_
    refine xr_iload_n dX10_field_17 0 rfl ?_
    refine xr_iconst (v := 1) dX10_field_18 rfl ?_
    refine xb_zast (j := k) (w := 1) dX10_field_19 s_77 (by omega) (by decide) rfl ?_
    refine xr_aload_n dX10_field_20 3 rfl ?_
    refine xr_getR flX10_60 dX10_field_21 s_62 rfl ?_
    refine xr_iload_n dX10_field_24 0 rfl ?_
    refine xr_bipush (v := -2) dX10_field_25 rfl ?_
    refine xb_iast (j := k) dX10_field_27 s_78 (by omega) (by decide) ?_
    refine xr_aload_n dX10_field_28 3 rfl ?_
    refine xr_getR flX10_63 dX10_field_29 s_62 rfl ?_
    refine xr_iload_n dX10_field_32 0 rfl ?_
    refine xr_bipush (v := 31) dX10_field_33 rfl ?_
    refine xb_iast (j := k) dX10_field_35 s_79 (by omega) (by decide) ?_
    refine xr_iinc (v := nI (k + 1)) (ls2 := [(3, .int (nI (k + 1))), (2, .int (nI (n))), (1, .int (se)), (0, .ref (62))]) dX10_field_36 0 rfl (nI_1 _) (by decide) rfl ?_
    refine xr_goto (tgt := 7) dX10_field_39 rfl ?_
    refine xb_ls (ls2 := [(3, .int (nI (k + 1))), (2, .int (nI (n))), (1, .int (se)), (0, .ref (62))]) [0, 1, 2, 3] rfl ?_
    exact ih (k + 1) (x_up (x_up (x_up M1 77 k 1) 78 k (-2)) 79 k 31) (by omega) (Ke.up (Or.inr (by omega)) (Ke.up (Or.inr (by omega)) (Ke.up (Or.inr (by omega)) hM)))
set_option maxRecDepth 100000 in
set_option maxHeartbeats 4000000 in
theorem fk_l {se mi : Int32} {n : Nat} {g : Nat} (hg : g < 25) {l : Launch} {G : xG} {M : xM} {J : xJ} {Q : xQ} (hC : ∀ (M2 : xM), Ke WFR M M2 → x_X l G fX10_field 1 0 0 Q 157 [(4, .int (nI (g))), (3, .int (mi)), (2, .int (nI (n))), (1, .int (se)), (0, .ref (62))] [] x_SH M2 J 0 0) : ∀ (m k : Nat) (M1 : xM), k + m = 4 → Ke WFR M M1 → x_X l G fX10_field 1 0 0 Q 98 [(5, .int (nI (k))), (4, .int (nI (g))), (3, .int (mi)), (2, .int (nI (n))), (1, .int (se)), (0, .ref (62))] [] x_SH M1 J 0 0 := by
  intro m
  induction m with
  | zero =>
    intro k M1 hk hM
    refine xr_iload dX10_field_98 0 rfl ?_
    refine xr_iconst (v := 4) dX10_field_100 rfl ?_
    refine xr_icmp_ge (tgt := 157) dX10_field_101 rfl (fun _ => ?_) (fun c => absurd (nI_le (a := 4) (b := k) (by omega) (by omega)) c)
    refine xb_ls (ls2 := [(4, .int (nI (g))), (3, .int (mi)), (2, .int (nI (n))), (1, .int (se)), (0, .ref (62))]) [1, 2, 3, 4, 5] rfl ?_
    exact hC _ hM
  | succ m ih =>
    intro k M1 hk hM
    have hkN : k < 4 := by omega
    refine xr_iload dX10_field_98 0 rfl ?_
    refine xr_iconst (v := 4) dX10_field_100 rfl ?_
    refine xr_icmp_ge (tgt := 157) dX10_field_101 rfl (fun c => absurd c (nI_ge (a := k) (b := 4) (by omega) (by omega))) (fun _ => ?_)
    refine xr_iload dX10_field_104 1 rfl ?_
    refine xr_iload dX10_field_106 0 rfl ?_
    refine xr_callS (As := [.int (nI (g)), .int (nI (k))]) (rest := []) mlX10_308 (g_X10_besideOf (g := g) hg (nI (k))) dX10_field_108 rfl rfl (Nat.le_of_ble_eq_true rfl) (by decide) ⟨by decide, by decide⟩ (fun v s2 M9 J2 hq => ?_)
    obtain ⟨r2, rfl, rfl, rfl, rfl, hx1⟩ := hq
    try dsimp only [Option.toList, List.cons_append, List.nil_append]
    refine xr_istore (ls2 := [(6, .int (r2)), (5, .int (nI (k))), (4, .int (nI (g))), (3, .int (mi)), (2, .int (nI (n))), (1, .int (se)), (0, .ref (62))]) dX10_field_111 (by decide) rfl ?_
    refine xr_iload dX10_field_113 0 rfl ?_
    refine xr_if_lt (tgt := 151) dX10_field_115 rfl (fun c3 => ?_) (fun c3 => ?_)
    · refine xr_iinc (v := nI (k + 1)) (ls2 := [(5, .int (nI (k + 1))), (6, .int (r2)), (4, .int (nI (g))), (3, .int (mi)), (2, .int (nI (n))), (1, .int (se)), (0, .ref (62))]) dX10_field_151 1 rfl (nI_1 _) (by decide) rfl ?_
      refine xr_goto (tgt := 98) dX10_field_154 rfl ?_
      refine xb_ls (ls2 := [(5, .int (nI (k + 1))), (4, .int (nI (g))), (3, .int (mi)), (2, .int (nI (n))), (1, .int (se)), (0, .ref (62))]) [0, 2, 3, 4, 5, 6] rfl ?_
      exact ih (k + 1) M1 (by omega) hM
    · obtain ⟨j4, hj4, rfl⟩ := Or.resolve_left hx1 c3
      refine xr_aload_n dX10_field_118 6 rfl ?_
      refine xr_getR flX10_56 dX10_field_119 s_62 rfl ?_
      refine xr_iload dX10_field_122 0 rfl ?_
      refine xb_zald (j := j4) (v := M1 77 j4) dX10_field_124 s_77 hj4 (by decide) rfl ?_
      refine xr_if_eq (tgt := 151) dX10_field_125 rfl (fun c5 => ?_) (fun c5 => ?_)
      · refine xr_iinc (v := nI (k + 1)) (ls2 := [(5, .int (nI (k + 1))), (6, .int (nI (j4))), (4, .int (nI (g))), (3, .int (mi)), (2, .int (nI (n))), (1, .int (se)), (0, .ref (62))]) dX10_field_151 1 rfl (nI_1 _) (by decide) rfl ?_
        refine xr_goto (tgt := 98) dX10_field_154 rfl ?_
        refine xb_ls (ls2 := [(5, .int (nI (k + 1))), (4, .int (nI (g))), (3, .int (mi)), (2, .int (nI (n))), (1, .int (se)), (0, .ref (62))]) [0, 2, 3, 4, 5, 6] rfl ?_
        exact ih (k + 1) M1 (by omega) hM
      · refine xr_aload_n dX10_field_128 6 rfl ?_
        refine xr_callV (As := []) (rest := []) mlX10_302 (g_X10_draws) dX10_field_129 s_62 rfl rfl (Nat.le_of_ble_eq_true rfl) (by decide) ⟨by decide, by decide⟩ (fun v s2 M6 J2 hq => ?_)
        obtain ⟨r8, rfl, rfl, rfl, k7, _⟩ := hq
        try dsimp only [Option.toList, List.cons_append, List.nil_append]
        refine xr_aload_n dX10_field_132 6 rfl ?_
        refine xr_getR flX10_9 dX10_field_133 s_62 rfl ?_
        refine xr_bipush (v := 19) dX10_field_136 rfl ?_
        refine xb_iald (j := 19) (v := M6 63 19) dX10_field_138 s_63 (by decide) (by decide) rfl ?_
        refine xr_icmp_ge (tgt := 151) dX10_field_139 rfl (fun c9 => ?_) (fun c9 => ?_)
        · refine xr_iinc (v := nI (k + 1)) (ls2 := [(5, .int (nI (k + 1))), (6, .int (nI (j4))), (4, .int (nI (g))), (3, .int (mi)), (2, .int (nI (n))), (1, .int (se)), (0, .ref (62))]) dX10_field_151 1 rfl (nI_1 _) (by decide) rfl ?_
          refine xr_goto (tgt := 98) dX10_field_154 rfl ?_
          refine xb_ls (ls2 := [(5, .int (nI (k + 1))), (4, .int (nI (g))), (3, .int (mi)), (2, .int (nI (n))), (1, .int (se)), (0, .ref (62))]) [0, 2, 3, 4, 5, 6] rfl ?_
          exact ih (k + 1) M6 (by omega) (Ke.tr (fun _ _ h => h) hM k7)
        · refine xr_aload_n dX10_field_142 6 rfl ?_
          refine xr_iload dX10_field_143 0 rfl ?_
          refine xr_iload dX10_field_145 2 rfl ?_
          refine xr_iload_n dX10_field_147 3 rfl ?_
          refine xr_callV (As := [.int (nI (j4)), .int (nI (g)), .int (mi)]) (rest := []) mlX10_305 (g_X10_drops (g := j4) hj4 (nI (g)) mi) dX10_field_148 s_62 rfl rfl (Nat.le_of_ble_eq_true rfl) (by decide) ⟨by decide, by decide⟩ (fun v s2 M10 J2 hq => ?_)
          obtain ⟨rfl, rfl, rfl, k11, _⟩ := hq
          try dsimp only [Option.toList, List.cons_append, List.nil_append]
          refine xr_iinc (v := nI (k + 1)) (ls2 := [(5, .int (nI (k + 1))), (6, .int (nI (j4))), (4, .int (nI (g))), (3, .int (mi)), (2, .int (nI (n))), (1, .int (se)), (0, .ref (62))]) dX10_field_151 1 rfl (nI_1 _) (by decide) rfl ?_
          refine xr_goto (tgt := 98) dX10_field_154 rfl ?_
          refine xb_ls (ls2 := [(5, .int (nI (k + 1))), (4, .int (nI (g))), (3, .int (mi)), (2, .int (nI (n))), (1, .int (se)), (0, .ref (62))]) [0, 2, 3, 4, 5, 6] rfl ?_
          exact ih (k + 1) M10 (by omega) (Ke.tr (fun _ _ h => h) (Ke.tr (fun _ _ h => h) hM k7) k11)
set_option maxRecDepth 100000 in
set_option maxHeartbeats 4000000 in
theorem fg_l {se mi : Int32} {n : Nat} {l : Launch} {G : xG} {M : xM} {J : xJ} {Q : xQ} (hC : ∀ (M2 : xM), Ke WFR M M2 → x_X l G fX10_field 1 0 0 Q 163 [(3, .int (mi)), (2, .int (nI (n))), (1, .int (se)), (0, .ref (62))] [] x_SH M2 J 0 0) : ∀ (m k : Nat) (M1 : xM), k + m = 25 → Ke WFR M M1 → x_X l G fX10_field 1 0 0 Q 52 [(4, .int (nI (k))), (3, .int (mi)), (2, .int (nI (n))), (1, .int (se)), (0, .ref (62))] [] x_SH M1 J 0 0 := by
  intro m
  induction m with
  | zero =>
    intro k M1 hk hM
    refine xr_iload dX10_field_52 0 rfl ?_
    refine xr_bipush (v := 25) dX10_field_54 rfl ?_
    refine xr_icmp_ge (tgt := 163) dX10_field_56 rfl (fun _ => ?_) (fun c => absurd (nI_le (a := 25) (b := k) (by omega) (by omega)) c)
    refine xb_ls (ls2 := [(3, .int (mi)), (2, .int (nI (n))), (1, .int (se)), (0, .ref (62))]) [1, 2, 3, 4] rfl ?_
    exact hC _ hM
  | succ m ih =>
    intro k M1 hk hM
    have hkN : k < 25 := by omega
    refine xr_iload dX10_field_52 0 rfl ?_
    refine xr_bipush (v := 25) dX10_field_54 rfl ?_
    refine xr_icmp_ge (tgt := 163) dX10_field_56 rfl (fun c => absurd c (nI_ge (a := k) (b := 25) (by omega) (by omega))) (fun _ => ?_)
    refine xr_aload_n dX10_field_59 4 rfl ?_
    refine xr_getR flX10_56 dX10_field_60 s_62 rfl ?_
    refine xr_iload dX10_field_63 0 rfl ?_
    refine xb_zald (j := k) (v := M1 77 k) dX10_field_65 s_77 hkN (by decide) rfl ?_
    refine xr_if_eq (tgt := 157) dX10_field_66 rfl (fun c1 => ?_) (fun c1 => ?_)
    · refine xr_iinc (v := nI (k + 1)) (ls2 := [(4, .int (nI (k + 1))), (3, .int (mi)), (2, .int (nI (n))), (1, .int (se)), (0, .ref (62))]) dX10_field_157 0 rfl (nI_1 _) (by decide) rfl ?_
      refine xr_goto (tgt := 52) dX10_field_160 rfl ?_
      refine xb_ls (ls2 := [(4, .int (nI (k + 1))), (3, .int (mi)), (2, .int (nI (n))), (1, .int (se)), (0, .ref (62))]) [0, 1, 2, 3, 4] rfl ?_
      exact ih (k + 1) M1 (by omega) hM
    · refine xr_aload_n dX10_field_69 4 rfl ?_
      refine xr_callV (As := []) (rest := []) mlX10_302 (g_X10_draws) dX10_field_70 s_62 rfl rfl (Nat.le_of_ble_eq_true rfl) (by decide) ⟨by decide, by decide⟩ (fun v s2 M2 J2 hq => ?_)
      obtain ⟨r4, rfl, rfl, rfl, k3, _⟩ := hq
      try dsimp only [Option.toList, List.cons_append, List.nil_append]
      refine xr_aload_n dX10_field_73 4 rfl ?_
      refine xr_getR flX10_50 dX10_field_74 s_62 rfl ?_
      refine xr_iload dX10_field_77 0 rfl ?_
      refine xb_iald (j := k) (v := M2 75 k) dX10_field_79 s_75 hkN (by decide) rfl ?_
      refine xr_icmp_ge (tgt := 86) dX10_field_80 rfl (fun c5 => ?_) (fun c5 => ?_)
      · refine xr_aload_n dX10_field_86 4 rfl ?_
        refine xr_iload dX10_field_87 0 rfl ?_
        refine xr_bipush (v := -2) dX10_field_89 rfl ?_
        refine xr_iload_n dX10_field_91 1 rfl ?_
        refine xr_callV (As := [.int (nI (k)), .int ((-2)), .int (mi)]) (rest := []) mlX10_305 (g_X10_drops (g := k) hkN (-2) mi) dX10_field_92 s_62 rfl rfl (Nat.le_of_ble_eq_true rfl) (by decide) ⟨by decide, by decide⟩ (fun v s2 M6 J2 hq => ?_)
        obtain ⟨rfl, rfl, rfl, k7, _⟩ := hq
        try dsimp only [Option.toList, List.cons_append, List.nil_append]
        refine xr_iconst (v := 0) dX10_field_95 rfl ?_
        refine xr_istore (ls2 := [(5, .int (0)), (4, .int (nI (k))), (3, .int (mi)), (2, .int (nI (n))), (1, .int (se)), (0, .ref (62))]) dX10_field_96 (by decide) rfl ?_
        refine xb_ls (ls2 := [(5, .int (nI (0))), (4, .int (nI (k))), (3, .int (mi)), (2, .int (nI (n))), (1, .int (se)), (0, .ref (62))]) [0, 1, 2, 3, 4, 5] rfl ?_
        refine fk_l hkN (fun M8 k9 => ?_) (4 - 0) 0 M6 (by omega) Ke.rf
        refine xr_iinc (v := nI (k + 1)) (ls2 := [(4, .int (nI (k + 1))), (3, .int (mi)), (2, .int (nI (n))), (1, .int (se)), (0, .ref (62))]) dX10_field_157 0 rfl (nI_1 _) (by decide) rfl ?_
        refine xr_goto (tgt := 52) dX10_field_160 rfl ?_
        refine xb_ls (ls2 := [(4, .int (nI (k + 1))), (3, .int (mi)), (2, .int (nI (n))), (1, .int (se)), (0, .ref (62))]) [0, 1, 2, 3, 4] rfl ?_
        exact ih (k + 1) M8 (by omega) (Ke.tr (fun _ _ h => h) (Ke.tr (fun _ _ h => h) (Ke.tr (fun _ _ h => h) hM k3) k7) k9)
      · refine xr_goto (tgt := 157) dX10_field_83 rfl ?_
        refine xr_iinc (v := nI (k + 1)) (ls2 := [(4, .int (nI (k + 1))), (3, .int (mi)), (2, .int (nI (n))), (1, .int (se)), (0, .ref (62))]) dX10_field_157 0 rfl (nI_1 _) (by decide) rfl ?_
        refine xr_goto (tgt := 52) dX10_field_160 rfl ?_
        refine xb_ls (ls2 := [(4, .int (nI (k + 1))), (3, .int (mi)), (2, .int (nI (n))), (1, .int (se)), (0, .ref (62))]) [0, 1, 2, 3, 4] rfl ?_
        exact ih (k + 1) M2 (by omega) (Ke.tr (fun _ _ h => h) hM k3)
set_option maxRecDepth 100000 in
set_option maxHeartbeats 4000000 in
theorem fm_l {se : Int32} {n : Nat} (hn : n ≤ 30) {l : Launch} {G : xG} {M : xM} {J : xJ} {Q : xQ} (hC : ∀ (M2 : xM), Ke WFR M M2 → x_X l G fX10_field 1 0 0 Q 169 [(2, .int (nI (n))), (1, .int (se)), (0, .ref (62))] [] x_SH M2 J 0 0) : ∀ (m k : Nat) (M1 : xM), k + m = n + 1 → Ke WFR M M1 → x_X l G fX10_field 1 0 0 Q 44 [(3, .int (nI (k))), (2, .int (nI (n))), (1, .int (se)), (0, .ref (62))] [] x_SH M1 J 0 0 := by
  intro m
  induction m with
  | zero =>
    intro k M1 hk hM
    refine xr_iload_n dX10_field_44 0 rfl ?_
    refine xr_iload_n dX10_field_45 1 rfl ?_
    refine xr_icmp_gt (tgt := 169) dX10_field_46 rfl (fun _ => ?_) (fun c => absurd (nI_lt (a := n) (b := k) (by omega) (by omega)) c)
    refine xb_ls (ls2 := [(2, .int (nI (n))), (1, .int (se)), (0, .ref (62))]) [1, 2, 3] rfl ?_
    exact hC _ hM
  | succ m ih =>
    intro k M1 hk hM
    have hkN : k < n + 1 := by omega
    refine xr_iload_n dX10_field_44 0 rfl ?_
    refine xr_iload_n dX10_field_45 1 rfl ?_
    refine xr_icmp_gt (tgt := 169) dX10_field_46 rfl (fun c => absurd c (nI_nlt (a := n) (b := k) (by omega) (by omega))) (fun _ => ?_)
    refine xr_iconst (v := 0) dX10_field_49 rfl ?_
    refine xr_istore (ls2 := [(4, .int (0)), (3, .int (nI (k))), (2, .int (nI (n))), (1, .int (se)), (0, .ref (62))]) dX10_field_50 (by decide) rfl ?_
    refine xb_ls (ls2 := [(4, .int (nI (0))), (3, .int (nI (k))), (2, .int (nI (n))), (1, .int (se)), (0, .ref (62))]) [0, 1, 2, 3, 4] rfl ?_
    refine fg_l (fun M1 k2 => ?_) (25 - 0) 0 M1 (by omega) Ke.rf
    refine xr_iinc (v := nI (k + 1)) (ls2 := [(3, .int (nI (k + 1))), (2, .int (nI (n))), (1, .int (se)), (0, .ref (62))]) dX10_field_163 0 rfl (nI_1 _) (by decide) rfl ?_
    refine xr_goto (tgt := 44) dX10_field_166 rfl ?_
    refine xb_ls (ls2 := [(3, .int (nI (k + 1))), (2, .int (nI (n))), (1, .int (se)), (0, .ref (62))]) [0, 1, 2, 3] rfl ?_
    exact ih (k + 1) M1 (by omega) (Ke.tr (fun _ _ h => h) hM k2)
set_option maxRecDepth 100000 in
set_option maxHeartbeats 4000000 in
theorem g_X10_field (se : Int32) {n : Nat} (hn : n ≤ 30) {l : Launch} {G : xG} {M : xM} {J : xJ} : x_M l G fX10_field 1 0 0 [.ref (62), .int (se), .int (nI (n))] x_SH M J (qKV WFR M J (fun M2 => True)) := by
  refine xb_of pX10 (Nat.le_of_ble_eq_true rfl) rfl ?_
  refine xr_aload_n dX10_field_0 0 rfl ?_
  refine xr_iload_n dX10_field_1 1 rfl ?_
  refine xr_putI fpX10_298 dX10_field_2 s_62 rfl rfl rfl ?_
  refine xr_iconst (v := 0) dX10_field_5 rfl ?_
  refine xr_istore_n (ls2 := [(3, .int (0)), (0, .ref (62)), (1, .int (se)), (2, .int (nI (n)))]) dX10_field_6 (by decide) rfl ?_
  refine xb_ls (ls2 := [(3, .int (nI (0))), (2, .int (nI (n))), (1, .int (se)), (0, .ref (62))]) [0, 3, 2, 1] rfl ?_
  refine fi_l (fun M1 k2 => ?_) (25 - 0) 0 (x_up M 62 32 se) (by omega) Ke.rf
  refine xr_iconst (v := 1) dX10_field_42 rfl ?_
  refine xr_istore_n (ls2 := [(3, .int (1)), (2, .int (nI (n))), (1, .int (se)), (0, .ref (62))]) dX10_field_43 (by decide) rfl ?_
  refine xb_ls (ls2 := [(3, .int (nI (1))), (2, .int (nI (n))), (1, .int (se)), (0, .ref (62))]) [0, 1, 2, 3] rfl ?_
  refine fm_l hn (fun M3 k4 => ?_) (n + 1 - 1) 1 M1 (by omega) Ke.rf
  exact xr_vret dX10_field_169 rfl (⟨rfl, rfl, rfl, (Ke.tr (fun _ _ h => h) (Ke.tr (fun _ _ h => h) (Ke.up (Or.inl (by omega)) Ke.rf) k2) k4), trivial⟩)
set_option maxRecDepth 100000 in
set_option maxHeartbeats 4000000 in
theorem rlfm_l {l : Launch} {G : xG} {M : xM} {J : xJ} {Q : xQ} (hC : ∀ (up : Int32), x_X l G fX10_left 2 0 0 Q 71 [(4, .int (up)), (3, .int ((-1))), (0, .ref (62))] [] x_SH M J 0 0) : ∀ (m k : Nat) (up : Int32), k + m = 25 → x_X l G fX10_left 2 0 0 Q 38 [(5, .int (nI (k))), (4, .int (up)), (3, .int ((-1))), (0, .ref (62))] [] x_SH M J 0 0 := by
  intro m
  induction m with
  | zero =>
    intro k up hk
    refine xr_iload dX10_left_38 0 rfl ?_
    refine xr_bipush (v := 25) dX10_left_40 rfl ?_
    refine xr_icmp_ge (tgt := 71) dX10_left_42 rfl (fun _ => ?_) (fun c => absurd (nI_le (a := 25) (b := k) (by omega) (by omega)) c)
    refine xb_ls (ls2 := [(4, .int (up)), (3, .int ((-1))), (0, .ref (62))]) [1, 2, 3] rfl ?_
    exact hC up
  | succ m ih =>
    intro k up hk
    have hkN : k < 25 := by omega
    refine xr_iload dX10_left_38 0 rfl ?_
    refine xr_bipush (v := 25) dX10_left_40 rfl ?_
    refine xr_icmp_ge (tgt := 71) dX10_left_42 rfl (fun c => absurd c (nI_ge (a := k) (b := 25) (by omega) (by omega))) (fun _ => ?_)
    refine xr_iload dX10_left_45 1 rfl ?_
    refine xr_aload_n dX10_left_47 3 rfl ?_
    refine xr_getR flX10_56 dX10_left_48 s_62 rfl ?_
    refine xr_iload dX10_left_51 0 rfl ?_
    refine xb_zald (j := k) (v := M 77 k) dX10_left_53 s_77 (by omega) (by decide) rfl ?_
    refine xr_if_eq (tgt := 61) dX10_left_54 rfl (fun c1 => ?_) (fun c1 => ?_)
    · refine xr_iconst (v := 0) dX10_left_61 rfl ?_
      refine xr_iadd dX10_left_62 ?_
      refine xr_istore (ls2 := [(4, .int ((up + 0))), (5, .int (nI (k))), (3, .int ((-1))), (0, .ref (62))]) dX10_left_63 (by decide) rfl ?_
      refine xr_iinc (v := nI (k + 1)) (ls2 := [(5, .int (nI (k + 1))), (4, .int ((up + 0))), (3, .int ((-1))), (0, .ref (62))]) dX10_left_65 1 rfl (nI_1 _) (by decide) rfl ?_
      refine xr_goto (tgt := 38) dX10_left_68 rfl ?_
      refine xb_ls (ls2 := [(5, .int (nI (k + 1))), (4, .int ((up + 0))), (3, .int ((-1))), (0, .ref (62))]) [0, 1, 2, 3] rfl ?_
      exact ih (k + 1) (up + 0) (by omega)
    · refine xr_iconst (v := 1) dX10_left_57 rfl ?_
      refine xr_goto (tgt := 62) dX10_left_58 rfl ?_
      refine xr_iadd dX10_left_62 ?_
      refine xr_istore (ls2 := [(4, .int ((up + 1))), (5, .int (nI (k))), (3, .int ((-1))), (0, .ref (62))]) dX10_left_63 (by decide) rfl ?_
      refine xr_iinc (v := nI (k + 1)) (ls2 := [(5, .int (nI (k + 1))), (4, .int ((up + 1))), (3, .int ((-1))), (0, .ref (62))]) dX10_left_65 1 rfl (nI_1 _) (by decide) rfl ?_
      refine xr_goto (tgt := 38) dX10_left_68 rfl ?_
      refine xb_ls (ls2 := [(5, .int (nI (k + 1))), (4, .int ((up + 1))), (3, .int ((-1))), (0, .ref (62))]) [0, 1, 2, 3] rfl ?_
      exact ih (k + 1) (up + 1) (by omega)
set_option maxRecDepth 100000 in
set_option maxHeartbeats 4000000 in
theorem rlfn_l {g : Nat} {l : Launch} {G : xG} {M : xM} {J : xJ} {Q : xQ} (hC : ∀ (up : Int32), x_X l G fX10_left 2 0 0 Q 71 [(4, .int (up)), (3, .int (nI (g))), (0, .ref (62))] [] x_SH M J 0 0) : ∀ (m k : Nat) (up : Int32), k + m = 25 → x_X l G fX10_left 2 0 0 Q 38 [(5, .int (nI (k))), (4, .int (up)), (3, .int (nI (g))), (0, .ref (62))] [] x_SH M J 0 0 := by
  intro m
  induction m with
  | zero =>
    intro k up hk
    refine xr_iload dX10_left_38 0 rfl ?_
    refine xr_bipush (v := 25) dX10_left_40 rfl ?_
    refine xr_icmp_ge (tgt := 71) dX10_left_42 rfl (fun _ => ?_) (fun c => absurd (nI_le (a := 25) (b := k) (by omega) (by omega)) c)
    refine xb_ls (ls2 := [(4, .int (up)), (3, .int (nI (g))), (0, .ref (62))]) [1, 2, 3] rfl ?_
    exact hC up
  | succ m ih =>
    intro k up hk
    have hkN : k < 25 := by omega
    refine xr_iload dX10_left_38 0 rfl ?_
    refine xr_bipush (v := 25) dX10_left_40 rfl ?_
    refine xr_icmp_ge (tgt := 71) dX10_left_42 rfl (fun c => absurd c (nI_ge (a := k) (b := 25) (by omega) (by omega))) (fun _ => ?_)
    refine xr_iload dX10_left_45 1 rfl ?_
    refine xr_aload_n dX10_left_47 3 rfl ?_
    refine xr_getR flX10_56 dX10_left_48 s_62 rfl ?_
    refine xr_iload dX10_left_51 0 rfl ?_
    refine xb_zald (j := k) (v := M 77 k) dX10_left_53 s_77 (by omega) (by decide) rfl ?_
    refine xr_if_eq (tgt := 61) dX10_left_54 rfl (fun c1 => ?_) (fun c1 => ?_)
    · refine xr_iconst (v := 0) dX10_left_61 rfl ?_
      refine xr_iadd dX10_left_62 ?_
      refine xr_istore (ls2 := [(4, .int ((up + 0))), (5, .int (nI (k))), (3, .int (nI (g))), (0, .ref (62))]) dX10_left_63 (by decide) rfl ?_
      refine xr_iinc (v := nI (k + 1)) (ls2 := [(5, .int (nI (k + 1))), (4, .int ((up + 0))), (3, .int (nI (g))), (0, .ref (62))]) dX10_left_65 1 rfl (nI_1 _) (by decide) rfl ?_
      refine xr_goto (tgt := 38) dX10_left_68 rfl ?_
      refine xb_ls (ls2 := [(5, .int (nI (k + 1))), (4, .int ((up + 0))), (3, .int (nI (g))), (0, .ref (62))]) [0, 1, 2, 3] rfl ?_
      exact ih (k + 1) (up + 0) (by omega)
    · refine xr_iconst (v := 1) dX10_left_57 rfl ?_
      refine xr_goto (tgt := 62) dX10_left_58 rfl ?_
      refine xr_iadd dX10_left_62 ?_
      refine xr_istore (ls2 := [(4, .int ((up + 1))), (5, .int (nI (k))), (3, .int (nI (g))), (0, .ref (62))]) dX10_left_63 (by decide) rfl ?_
      refine xr_iinc (v := nI (k + 1)) (ls2 := [(5, .int (nI (k + 1))), (4, .int ((up + 1))), (3, .int (nI (g))), (0, .ref (62))]) dX10_left_65 1 rfl (nI_1 _) (by decide) rfl ?_
      refine xr_goto (tgt := 38) dX10_left_68 rfl ?_
      refine xb_ls (ls2 := [(5, .int (nI (k + 1))), (4, .int ((up + 1))), (3, .int (nI (g))), (0, .ref (62))]) [0, 1, 2, 3] rfl ?_
      exact ih (k + 1) (up + 1) (by omega)
abbrev WRK (p k : Nat) : Prop := (75 ≤ p ∧ p ≤ 76)
/-- every skill of the reference is 0 to 12 -/
def SKR (M : xM) : Prop := ∀ j, j < 25 → ∃ q : Nat, q ≤ 12 ∧ M 75 j = nI q
theorem SKR_w {M : xM} {g w : Nat} (hw : w ≤ 12) (h : SKR M) : SKR (x_up M 75 g (nI w)) := fun j hj => by
  by_cases e : j = g
  · subst e; exact ⟨w, hw, x_up_s _ _ _ _⟩
  · obtain ⟨q, hq, eq⟩ := h j hj; exact ⟨q, hq, (x_up_k _ _ _ e).trans eq⟩
theorem SKR_n {M : xM} {p k : Nat} {v : Int32} (hp : p ≠ 75) (h : SKR M) : SKR (x_up M p k v) := fun j hj => by
  obtain ⟨q, hq, eq⟩ := h j hj; exact ⟨q, hq, (congrFun (x_up_n M k v (fun z => hp z.symm)) j).trans eq⟩
def nJ (n : Nat) : Int64 := Int64.ofNat n
theorem nJ_toInt {n : Nat} (h : n < 2 ^ 63) : (nJ n).toInt = (n : Int) := Int64.toInt_ofNat_of_lt (by omega)
theorem nI_J {n : Nat} (h : n < 2 ^ 31) : (nI n).toInt64 = nJ n := Int64.toInt_inj.mp (by rw [Int32.toInt_toInt64, nI_toInt h, nJ_toInt (by omega)])
theorem nJ_mul (a b : Nat) : nJ a * nJ b = nJ (a * b) := (Int64.ofNat_mul a b).symm
theorem nJ_eq0 {b : Nat} (hb : b < 2 ^ 31) : nJ b = 0 ↔ b = 0 := by
  constructor
  · intro q
    have := congrArg Int64.toInt q
    rw [nJ_toInt (by omega)] at this
    exact Int.ofNat.inj this
  · intro q; subst q; rfl
theorem nJ_div {a b : Nat} (ha : a < 2 ^ 31) (hb : b < 2 ^ 31) : nJ a / nJ b = nJ (a / b) := Int64.toInt_inj.mp (by
  have h1 : a / b ≤ a := Nat.div_le_self a b
  rw [Int64.toInt_div, nJ_toInt (by omega), nJ_toInt (by omega), nJ_toInt (by omega), ← Int.ofNat_tdiv]
  generalize a / b = q at h1 ⊢
  exact Int.bmod_eq_of_le (by omega) (by omega))
theorem nJ_sub {a b : Nat} (h : b ≤ a) : nJ a - nJ b = nJ (a - b) := by
  have e : nJ a = nJ (a - b) + nJ b := by
    show Int64.ofNat a = Int64.ofNat (a - b) + Int64.ofNat b
    rw [← Int64.ofNat_add, Nat.sub_add_cancel h]
  rw [e, Int64.add_sub_cancel]
theorem nJ_mod {a b : Nat} (ha : a < 2 ^ 31) (hb : b < 2 ^ 31) : nJ a - nJ a / nJ b * nJ b = nJ (a % b) := by
  rw [nJ_div ha hb, nJ_mul, nJ_sub (Nat.div_mul_le_self a b)]
  congr 1
  have := Nat.mod_add_div a b
  have e : a / b * b = b * (a / b) := Nat.mul_comm _ _
  omega
theorem pw_b {q y : Nat} (hq : q ≤ 12) (hy : y ≤ 8) : q ^ y < 2 ^ 31 := by
  have h1 : q ^ y ≤ 12 ^ y := Nat.pow_le_pow_left hq y
  have h2 : 12 ^ y ≤ 12 ^ 8 := Nat.pow_le_pow_right (by omega) hy
  have h3 : (12 : Nat) ^ 8 < 2 ^ 31 := by decide
  omega
set_option maxRecDepth 100000 in
set_option maxHeartbeats 4000000 in
theorem ral_l {pa : Int32} {g Y sk : Nat} (hg : g < 25) (hY : Y ≤ 8) (hsk : sk ≤ 12) {l : Launch} {G : xG} {M : xM} {J : xJ} {Q : xQ} (e_sk : M 75 g = nI sk) (hC : x_X l G fX10_alone 2 0 0 Q 74 [(6, .long (nJ (12 ^ Y))), (4, .long (nJ (sk ^ Y))), (3, .int (pa)), (1, .int (nI (g))), (0, .ref (62))] [] x_SH M J 0 0) : ∀ (m k : Nat), k + m = Y → x_X l G fX10_alone 2 0 0 Q 42 [(8, .int (nI (k))), (6, .long (nJ (12 ^ k))), (4, .long (nJ (sk ^ k))), (3, .int (pa)), (2, .int (nI (Y))), (1, .int (nI (g))), (0, .ref (62))] [] x_SH M J 0 0 := by
  intro m
  induction m with
  | zero =>
    intro k hk
    refine xr_iload dX10_alone_42 0 rfl ?_
    refine xr_iload_n dX10_alone_44 4 rfl ?_
    refine xr_icmp_ge (tgt := 74) dX10_alone_45 rfl (fun _ => ?_) (fun c => absurd (nI_le (a := Y) (b := k) (by omega) (by omega)) c)
    obtain rfl : k = Y := by omega
    refine xb_ls (ls2 := [(6, .long (nJ (12 ^ k))), (4, .long (nJ (sk ^ k))), (3, .int (pa)), (1, .int (nI (g))), (0, .ref (62))]) [1, 2, 3, 5, 6] rfl ?_
    exact hC
  | succ m ih =>
    intro k hk
    refine xr_iload dX10_alone_42 0 rfl ?_
    refine xr_iload_n dX10_alone_44 4 rfl ?_
    refine xr_icmp_ge (tgt := 74) dX10_alone_45 rfl (fun c => absurd c (nI_ge (a := k) (b := Y) (by omega) (by omega))) (fun _ => ?_)
    refine xr_lload dX10_alone_48 2 rfl ?_
    refine xr_aload_n dX10_alone_50 6 rfl ?_
    refine xr_getR flX10_50 dX10_alone_51 s_62 rfl ?_
    refine xr_iload_n dX10_alone_54 5 rfl ?_
    refine xb_iald (j := g) (v := nI (sk)) dX10_alone_55 s_75 hg (by decide) e_sk ?_
    refine xr_i2l dX10_alone_56 ?_
    refine xr_lmul dX10_alone_57 ?_
    refine xb_topJ (y := nJ (sk ^ (k + 1))) (by rw [nI_J (by omega), nJ_mul, Nat.pow_succ]) ?_
    refine xr_lstore (ls2 := [(4, .long (nJ (sk ^ (k + 1)))), (8, .int (nI (k))), (6, .long (nJ (12 ^ k))), (3, .int (pa)), (2, .int (nI (Y))), (1, .int (nI (g))), (0, .ref (62))]) dX10_alone_58 (by decide) rfl ?_
    refine xr_lload dX10_alone_60 2 rfl ?_
    refine xr_ldc2 coX10_296 dX10_alone_62 ?_
    refine xr_lmul dX10_alone_65 ?_
    refine xb_topJ (y := nJ (12 ^ (k + 1))) (by rw [show (12 : Int64) = nJ 12 from rfl, nJ_mul, Nat.pow_succ]) ?_
    refine xr_lstore (ls2 := [(6, .long (nJ (12 ^ (k + 1)))), (4, .long (nJ (sk ^ (k + 1)))), (8, .int (nI (k))), (3, .int (pa)), (2, .int (nI (Y))), (1, .int (nI (g))), (0, .ref (62))]) dX10_alone_66 (by decide) rfl ?_
    refine xr_iinc (v := nI (k + 1)) (ls2 := [(8, .int (nI (k + 1))), (6, .long (nJ (12 ^ (k + 1)))), (4, .long (nJ (sk ^ (k + 1)))), (3, .int (pa)), (2, .int (nI (Y))), (1, .int (nI (g))), (0, .ref (62))]) dX10_alone_68 2 rfl (nI_1 _) (by decide) rfl ?_
    refine xr_goto (tgt := 42) dX10_alone_71 rfl ?_
    refine xb_ls (ls2 := [(8, .int (nI (k + 1))), (6, .long (nJ (12 ^ (k + 1)))), (4, .long (nJ (sk ^ (k + 1)))), (3, .int (pa)), (2, .int (nI (Y))), (1, .int (nI (g))), (0, .ref (62))]) [0, 1, 2, 3, 4, 5, 6] rfl ?_
    exact ih (k + 1) (by omega)
set_option maxRecDepth 100000 in
set_option maxHeartbeats 4000000 in
theorem rgc_l {pa : Int32} {be ab : Int64} {g gg : Nat} {l : Launch} {G : xG} {M : xM} {J : xJ} {Q : xQ} (hC : 0 < gg → x_X l G fX10_alone 2 0 0 Q 117 [(8, .long (nJ (gg))), (6, .long (be)), (4, .long (ab)), (3, .int (pa)), (1, .int (nI (g))), (0, .ref (62))] [] x_SH M J 0 0) : ∀ (m a b : Nat), b ≤ m → 0 < a → a < 2 ^ 31 → b < 2 ^ 31 → Nat.gcd a b = gg → x_X l G fX10_alone 2 0 0 Q 92 [(10, .long (nJ (b))), (8, .long (nJ (a))), (6, .long (be)), (4, .long (ab)), (3, .int (pa)), (1, .int (nI (g))), (0, .ref (62))] [] x_SH M J 0 0 := by
  intro m
  induction m with
  | zero =>
    intro a b hm ha0 ha hb hg
    obtain rfl : b = 0 := by omega
    refine xr_lload dX10_alone_92 0 rfl ?_
    refine xr_lconst (v := 0) dX10_alone_94 rfl ?_
    refine xr_lcmp dX10_alone_95 ?_
    refine xl_eq (tgt := 117) dX10_alone_96 rfl (fun _ => ?_) (fun c => absurd (nJ_eq0 (by decide) |>.mpr rfl) c)
    have hga : a = gg := by rw [← hg, Nat.gcd_zero_right]
    subst hga
    refine xb_ls (ls2 := [(8, .long (nJ (a))), (6, .long (be)), (4, .long (ab)), (3, .int (pa)), (1, .int (nI (g))), (0, .ref (62))]) [1, 2, 3, 4, 5, 6] rfl ?_
    exact hC ha0
  | succ m ih =>
    intro a b hm ha0 ha hb hg
    refine xr_lload dX10_alone_92 0 rfl ?_
    refine xr_lconst (v := 0) dX10_alone_94 rfl ?_
    refine xr_lcmp dX10_alone_95 ?_
    refine xl_eq (tgt := 117) dX10_alone_96 rfl (fun c1 => ?_) (fun c1 => ?_)
    · have hb0 : b = 0 := (nJ_eq0 hb).mp c1
      have hga : a = gg := by rw [← hg, hb0, Nat.gcd_zero_right]
      subst hga
      refine xb_ls (ls2 := [(8, .long (nJ (a))), (6, .long (be)), (4, .long (ab)), (3, .int (pa)), (1, .int (nI (g))), (0, .ref (62))]) [1, 2, 3, 4, 5, 6] rfl ?_
      exact hC ha0
    · have hb0 : b ≠ 0 := fun q => c1 ((nJ_eq0 hb).mpr q)
      have hlt : a % b < b := Nat.mod_lt a (by omega)
      refine xr_lload dX10_alone_99 1 rfl ?_
      refine xr_lload dX10_alone_101 0 rfl ?_
      refine xr_lrem dX10_alone_103 c1 ?_
      refine xb_topJ (y := nJ (a % b)) (nJ_mod (by omega) (by omega)) ?_
      refine xr_lstore (ls2 := [(12, .long (nJ (a % b))), (10, .long (nJ (b))), (8, .long (nJ (a))), (6, .long (be)), (4, .long (ab)), (3, .int (pa)), (1, .int (nI (g))), (0, .ref (62))]) dX10_alone_104 (by decide) rfl ?_
      refine xr_lload dX10_alone_106 1 rfl ?_
      refine xr_lstore (ls2 := [(8, .long (nJ (b))), (12, .long (nJ (a % b))), (10, .long (nJ (b))), (6, .long (be)), (4, .long (ab)), (3, .int (pa)), (1, .int (nI (g))), (0, .ref (62))]) dX10_alone_108 (by decide) rfl ?_
      refine xr_lload dX10_alone_110 1 rfl ?_
      refine xr_lstore (ls2 := [(10, .long (nJ (a % b))), (8, .long (nJ (b))), (12, .long (nJ (a % b))), (6, .long (be)), (4, .long (ab)), (3, .int (pa)), (1, .int (nI (g))), (0, .ref (62))]) dX10_alone_112 (by decide) rfl ?_
      refine xr_goto (tgt := 92) dX10_alone_114 rfl ?_
      refine xb_ls (ls2 := [(10, .long (nJ (a % b))), (8, .long (nJ (b))), (6, .long (be)), (4, .long (ab)), (3, .int (pa)), (1, .int (nI (g))), (0, .ref (62))]) [0, 1, 3, 4, 5, 6, 7] rfl ?_
      exact ih b (a % b) (by omega) (by omega) hb (by omega) (by rw [← hg, Nat.gcd_comm b (a % b), ← Nat.gcd_rec b a, Nat.gcd_comm])
abbrev WRI (p k : Nat) : Prop := (p = 62 ∧ k = 33) ∨ (p = 62 ∧ k = 34) ∨ (p = 80)
abbrev W80 (p k : Nat) : Prop := (p = 80)
abbrev WRBK (p k : Nat) : Prop := (p = 62 ∧ k = 9) ∨ (p = 62 ∧ k = 24) ∨ (p = 62 ∧ k = 25) ∨ (67 ≤ p ∧ p ≤ 68) ∨ (p = 63 ∧ 10 ≤ k ∧ k ≤ 14)
abbrev WRY (p k : Nat) : Prop := (p = 62 ∧ k = 36) ∨ (p = 81)
abbrev WRH (p k : Nat) : Prop := (83 ≤ p ∧ p ≤ 84)
/-- an answer; some longs may change -/
def qJE (A : Nat → Nat → Prop) (B : Nat → Prop) (M : xM) (J : xJ) (E : Int32 → xM → xJ → Prop) : xQ := fun v s M2 J2 => ∃ r : Int32, v = some (.int r) ∧ s = x_SH ∧ (∀ p, ¬ B p → J2 p = J p) ∧ Ke A M M2 ∧ E r M2 J2
theorem jz_s {J1 J : xJ} {k a : Nat} (hZ : ∀ j, J1 85 j = if a ≤ j ∧ j < k then 0 else J 85 j) (h0 : a ≤ k) (j : Nat) : x_upJ J1 85 k 0 85 j = if a ≤ j ∧ j < k + 1 then 0 else J 85 j := by
  by_cases h : j = k
  · subst h; rw [x_upJ_s, if_pos ⟨h0, by omega⟩]
  · rw [x_upJ_k _ _ _ h, hZ j]
    by_cases h2 : a ≤ j ∧ j < k
    · rw [if_pos h2, if_pos ⟨h2.1, by omega⟩]
    · rw [if_neg h2, if_neg (fun q => h2 ⟨q.1, by omega⟩)]
set_option maxRecDepth 100000 in
set_option maxHeartbeats 4000000 in
theorem rrw_l {d so N : Nat} (hd : d < 6) {l : Launch} {G : xG} {M : xM} {J : xJ} {Q : xQ} (hC : ∀ J1 : xJ, (∀ p, p ≠ 85 → J1 p = J p) → (∀ j, J1 85 j = if 60 * d ≤ j ∧ j < 60 * d + 60 then 0 else J 85 j) → x_X l G fX10_row 2 0 0 Q 83 [(3, .int (nI (N))), (2, .int (nI (so))), (1, .int (nI (d))), (0, .ref (62))] [] x_SH M J1 0 0) : ∀ (m k : Nat) (J1 : xJ), k + m = 60 * d + 60 → 60 * d ≤ k → (∀ p, p ≠ 85 → J1 p = J p) → (∀ j, J1 85 j = if 60 * d ≤ j ∧ j < k then 0 else J 85 j) → x_X l G fX10_row 2 0 0 Q 57 [(4, .int (nI (k))), (3, .int (nI (N))), (2, .int (nI (so))), (1, .int (nI (d))), (0, .ref (62))] [] x_SH M J1 0 0 := by
  intro m
  induction m with
  | zero =>
    intro k J1 hk h0 hJ hZ
    refine xr_iload dX10_row_57 0 rfl ?_
    refine xr_bipush (v := 60) dX10_row_59 rfl ?_
    refine xr_iload_n dX10_row_61 3 rfl ?_
    refine xr_imul dX10_row_62 ?_
    refine xb_top (y := nI (60 * d)) (nI_mulc 60 d) ?_
    refine xr_bipush (v := 60) dX10_row_63 rfl ?_
    refine xr_iadd dX10_row_65 ?_
    refine xb_top (y := nI (60 * d + 60)) (nI_add (60 * d) (60)) ?_
    refine xr_icmp_ge (tgt := 83) dX10_row_66 rfl (fun _ => ?_) (fun c => absurd (nI_le (a := 60 * d + 60) (b := k) (by omega) (by omega)) c)
    refine xb_ls (ls2 := [(3, .int (nI (N))), (2, .int (nI (so))), (1, .int (nI (d))), (0, .ref (62))]) [1, 2, 3, 4] rfl ?_
    exact hC J1 hJ (fun j => by rw [show 60 * d + 60 = k by omega]; exact hZ j)
  | succ m ih =>
    intro k J1 hk h0 hJ hZ
    refine xr_iload dX10_row_57 0 rfl ?_
    refine xr_bipush (v := 60) dX10_row_59 rfl ?_
    refine xr_iload_n dX10_row_61 3 rfl ?_
    refine xr_imul dX10_row_62 ?_
    refine xb_top (y := nI (60 * d)) (nI_mulc 60 d) ?_
    refine xr_bipush (v := 60) dX10_row_63 rfl ?_
    refine xr_iadd dX10_row_65 ?_
    refine xb_top (y := nI (60 * d + 60)) (nI_add (60 * d) (60)) ?_
    refine xr_icmp_ge (tgt := 83) dX10_row_66 rfl (fun c => absurd c (nI_ge (a := k) (b := 60 * d + 60) (by omega) (by omega))) (fun _ => ?_)
    refine xr_aload_n dX10_row_69 4 rfl ?_
    refine xr_getR flX10_81 dX10_row_70 s_62 rfl ?_
    refine xr_iload dX10_row_73 0 rfl ?_
    refine xr_lconst (v := 0) dX10_row_75 rfl ?_
    refine xb_last (j := k) dX10_row_76 s_85 (by omega) (by decide) ?_
    refine xr_iinc (v := nI (k + 1)) (ls2 := [(4, .int (nI (k + 1))), (3, .int (nI (N))), (2, .int (nI (so))), (1, .int (nI (d))), (0, .ref (62))]) dX10_row_77 0 rfl (nI_1 _) (by decide) rfl ?_
    refine xr_goto (tgt := 57) dX10_row_80 rfl ?_
    refine xb_ls (ls2 := [(4, .int (nI (k + 1))), (3, .int (nI (N))), (2, .int (nI (so))), (1, .int (nI (d))), (0, .ref (62))]) [0, 1, 2, 3, 4] rfl ?_
    exact ih (k + 1) _ (by omega) (by omega) (fun p hp => (x_upJ_n J1 _ _ hp).trans (hJ p hp)) (jz_s hZ h0)
/-- what the reference's shelves hold -/
def SHR (M : xM) : Prop := ∀ j, j < 6 → (M 83 j = -1 ∨ ∃ s : Nat, s ≤ 54 ∧ M 83 j = nI s) ∧ ∃ n : Nat, n ≤ 60 ∧ M 84 j = nI n
theorem rs_in {i n L : Int32} {s : Nat} (hs : s ≤ 60) (hL : L = nI s) (hn : ¬ n < 0) (hi : ¬ i < 0) (h : ¬ L - n < i) : n ≤ 60 → ∃ a m : Nat, a + m ≤ s ∧ i = nI a ∧ n = nI m := by
  subst hL
  intro hn6
  obtain ⟨m, hm, rfl⟩ := x_natle (v := n) (N := 60) (K := 60) (by decide) rfl ⟨by grind, hn6⟩
  have e : (nI s - nI m).toInt = (s : Int) - m := (show ∀ s, s ≤ 60 → ∀ m, m ≤ 60 → (nI s - nI m).toInt = (s : Int) - m by decide +kernel) s hs m hm
  have h1 : i.toInt ≤ (s : Int) - m := by rw [← e]; rw [Int32.lt_iff_toInt_lt] at h; omega
  have h2 : (0 : Int) ≤ i.toInt := by rw [Int32.lt_iff_toInt_lt] at hi; simpa using hi
  exact ⟨i.toInt.toNat, m, by omega, Int32.toInt_inj.mp (by rw [nI_toInt (by omega)]; omega), rfl⟩
theorem rs_n {i n L : Int32} {s : Nat} (hs : s ≤ 60) (hL : L = nI s) (hn : ¬ n < 0) (hi : ¬ i < 0) (h : ¬ L - n < i) : n ≤ 60 := by
  subst hL
  have h2 : (0 : Int) ≤ i.toInt := by rw [Int32.lt_iff_toInt_lt] at hi; simpa using hi
  have h3 : (0 : Int) ≤ n.toInt := by rw [Int32.lt_iff_toInt_lt] at hn; simpa using hn
  have h4 : n.toInt < 2 ^ 31 := n.toInt_lt
  have h5 : (nI s - n).toInt = (s : Int) - n.toInt := by
    rw [Int32.toInt_sub, nI_toInt (by omega)]; exact Int.bmod_eq_of_le (by omega) (by omega)
  rw [Int32.lt_iff_toInt_lt, h5] at h
  rw [Int32.le_iff_toInt_le]
  show _ ≤ (60 : Int)
  omega
theorem jc_s {J1 : xJ} {T : xJ} {k a : Nat} {w : Int64} (hw : w = T 85 (a + k)) (hZ : ∀ j, j < k → J1 86 j = T 85 (a + j)) : ∀ j, j < k + 1 → x_upJ J1 86 k w 86 j = T 85 (a + j) := fun j hj => by
  by_cases h : j = k
  · subst h; rw [x_upJ_s]; exact hw
  · rw [x_upJ_k _ _ _ h]; exact hZ j (by omega)
theorem jm_s {J1 J T : xJ} {k b : Nat} {w : Int64} (hw : w = T 86 k) (hZ : ∀ j, J1 85 j = if b ≤ j ∧ j < b + k then T 86 (j - b) else J 85 j) : ∀ j, x_upJ J1 85 (b + k) w 85 j = if b ≤ j ∧ j < b + (k + 1) then T 86 (j - b) else J 85 j := fun j => by
  by_cases h : j = b + k
  · subst h; rw [x_upJ_s, if_pos ⟨by omega, by omega⟩, show b + k - b = k by omega]; exact hw
  · rw [x_upJ_k _ _ _ h, hZ j]
    by_cases h2 : b ≤ j ∧ j < b + k
    · rw [if_pos h2, if_pos ⟨h2.1, by omega⟩]
    · rw [if_neg h2, if_neg (fun q => h2 ⟨q.1, by omega⟩)]
set_option maxRecDepth 100000 in
set_option maxHeartbeats 4000000 in
theorem rsh_a {d t a c n : Nat} (hd : d < 6) (ht : t < 6) (ha : a + n ≤ 60) (hc : c + n ≤ 60) {l : Launch} {G : xG} {M : xM} {J : xJ} {Q : xQ} (hC : ∀ J1 : xJ, (∀ p, p ≠ 86 → J1 p = J p) → (∀ j, j < n → J1 86 j = J 85 (60 * d + a + j)) → x_X l G fX10_shift 2 0 0 Q 147 [(5, .int (nI (n))), (4, .int (nI (c))), (3, .int (nI (t))), (2, .int (nI (a))), (1, .int (nI (d))), (0, .ref (62))] [] x_SH M J1 0 0) : ∀ (m k : Nat) (J1 : xJ), k + m = n → (∀ p, p ≠ 86 → J1 p = J p) → (∀ j, j < k → J1 86 j = J 85 (60 * d + a + j)) → x_X l G fX10_shift 2 0 0 Q 113 [(6, .int (nI (k))), (5, .int (nI (n))), (4, .int (nI (c))), (3, .int (nI (t))), (2, .int (nI (a))), (1, .int (nI (d))), (0, .ref (62))] [] x_SH M J1 0 0 := by
  intro m
  induction m with
  | zero =>
    intro k J1 hk hJ hZ
    refine xr_iload dX10_shift_113 0 rfl ?_
    refine xr_iload dX10_shift_115 1 rfl ?_
    refine xr_icmp_ge (tgt := 147) dX10_shift_117 rfl (fun _ => ?_) (fun c => absurd (nI_le (a := n) (b := k) (by omega) (by omega)) c)
    obtain rfl : k = n := by omega
    refine xb_ls (ls2 := [(5, .int (nI (k))), (4, .int (nI (c))), (3, .int (nI (t))), (2, .int (nI (a))), (1, .int (nI (d))), (0, .ref (62))]) [1, 2, 3, 4, 5, 6] rfl ?_
    exact hC J1 hJ hZ
  | succ m ih =>
    intro k J1 hk hJ hZ
    refine xr_iload dX10_shift_113 0 rfl ?_
    refine xr_iload dX10_shift_115 1 rfl ?_
    refine xr_icmp_ge (tgt := 147) dX10_shift_117 rfl (fun c => absurd c (nI_ge (a := k) (b := n) (by omega) (by omega))) (fun _ => ?_)
    refine xr_aload_n dX10_shift_120 6 rfl ?_
    refine xr_getR flX10_85 dX10_shift_121 s_62 rfl ?_
    refine xr_iload dX10_shift_124 0 rfl ?_
    refine xr_aload_n dX10_shift_126 6 rfl ?_
    refine xr_getR flX10_81 dX10_shift_127 s_62 rfl ?_
    refine xr_bipush (v := 60) dX10_shift_130 rfl ?_
    refine xr_iload_n dX10_shift_132 5 rfl ?_
    refine xr_imul dX10_shift_133 ?_
    refine xb_top (y := nI (60 * d)) (nI_mulc 60 d) ?_
    refine xr_iload_n dX10_shift_134 4 rfl ?_
    refine xr_iadd dX10_shift_135 ?_
    refine xb_top (y := nI (60 * d + a)) (nI_add (60 * d) (a)) ?_
    refine xr_iload dX10_shift_136 0 rfl ?_
    refine xr_iadd dX10_shift_138 ?_
    refine xb_top (y := nI (60 * d + a + k)) (nI_add (60 * d + a) (k)) ?_
    refine xb_lald (j := 60 * d + a + k) (v := J1 85 (60 * d + a + k)) dX10_shift_139 s_85 (by omega) (by decide) rfl ?_
    refine xb_last (j := k) dX10_shift_140 s_86 (by omega) (by decide) ?_
    refine xr_iinc (v := nI (k + 1)) (ls2 := [(6, .int (nI (k + 1))), (5, .int (nI (n))), (4, .int (nI (c))), (3, .int (nI (t))), (2, .int (nI (a))), (1, .int (nI (d))), (0, .ref (62))]) dX10_shift_141 0 rfl (nI_1 _) (by decide) rfl ?_
    refine xr_goto (tgt := 113) dX10_shift_144 rfl ?_
    refine xb_ls (ls2 := [(6, .int (nI (k + 1))), (5, .int (nI (n))), (4, .int (nI (c))), (3, .int (nI (t))), (2, .int (nI (a))), (1, .int (nI (d))), (0, .ref (62))]) [0, 1, 2, 3, 4, 5, 6] rfl ?_
    exact ih (k + 1) _ (by omega) (fun p hp => (x_upJ_n J1 _ _ hp).trans (hJ p hp)) (jc_s (T := J) (by rw [hJ 85 (by decide)]) hZ)
set_option maxRecDepth 100000 in
set_option maxHeartbeats 4000000 in
theorem rsh_b {d t a c n : Nat} (hd : d < 6) (ht : t < 6) (ha : a + n ≤ 60) (hc : c + n ≤ 60) {l : Launch} {G : xG} {M : xM} {J : xJ} {Q : xQ} (hC : ∀ J1 : xJ, (∀ p, p ≠ 85 → J1 p = J p) → (∀ j, J1 85 j = if 60 * t + c ≤ j ∧ j < 60 * t + c + n then J 86 (j - (60 * t + c)) else J 85 j) → x_X l G fX10_shift 2 0 0 Q 185 [(5, .int (nI (n))), (4, .int (nI (c))), (3, .int (nI (t))), (2, .int (nI (a))), (1, .int (nI (d))), (0, .ref (62))] [] x_SH M J1 0 0) : ∀ (m k : Nat) (J1 : xJ), k + m = n → (∀ p, p ≠ 85 → J1 p = J p) → (∀ j, J1 85 j = if 60 * t + c ≤ j ∧ j < 60 * t + c + k then J 86 (j - (60 * t + c)) else J 85 j) → x_X l G fX10_shift 2 0 0 Q 150 [(6, .int (nI (k))), (5, .int (nI (n))), (4, .int (nI (c))), (3, .int (nI (t))), (2, .int (nI (a))), (1, .int (nI (d))), (0, .ref (62))] [] x_SH M J1 0 0 := by
  intro m
  induction m with
  | zero =>
    intro k J1 hk hJ hZ
    refine xr_iload dX10_shift_150 0 rfl ?_
    refine xr_iload dX10_shift_152 1 rfl ?_
    refine xr_icmp_ge (tgt := 185) dX10_shift_154 rfl (fun _ => ?_) (fun c => absurd (nI_le (a := n) (b := k) (by omega) (by omega)) c)
    obtain rfl : k = n := by omega
    refine xb_ls (ls2 := [(5, .int (nI (k))), (4, .int (nI (c))), (3, .int (nI (t))), (2, .int (nI (a))), (1, .int (nI (d))), (0, .ref (62))]) [1, 2, 3, 4, 5, 6] rfl ?_
    exact hC J1 hJ hZ
  | succ m ih =>
    intro k J1 hk hJ hZ
    refine xr_iload dX10_shift_150 0 rfl ?_
    refine xr_iload dX10_shift_152 1 rfl ?_
    refine xr_icmp_ge (tgt := 185) dX10_shift_154 rfl (fun c => absurd c (nI_ge (a := k) (b := n) (by omega) (by omega))) (fun _ => ?_)
    refine xr_aload_n dX10_shift_157 6 rfl ?_
    refine xr_getR flX10_81 dX10_shift_158 s_62 rfl ?_
    refine xr_bipush (v := 60) dX10_shift_161 rfl ?_
    refine xr_iload_n dX10_shift_163 3 rfl ?_
    refine xr_imul dX10_shift_164 ?_
    refine xb_top (y := nI (60 * t)) (nI_mulc 60 t) ?_
    refine xr_iload dX10_shift_165 2 rfl ?_
    refine xr_iadd dX10_shift_167 ?_
    refine xb_top (y := nI (60 * t + c)) (nI_add (60 * t) (c)) ?_
    refine xr_iload dX10_shift_168 0 rfl ?_
    refine xr_iadd dX10_shift_170 ?_
    refine xb_top (y := nI (60 * t + c + k)) (nI_add (60 * t + c) (k)) ?_
    refine xr_aload_n dX10_shift_171 6 rfl ?_
    refine xr_getR flX10_85 dX10_shift_172 s_62 rfl ?_
    refine xr_iload dX10_shift_175 0 rfl ?_
    refine xb_lald (j := k) (v := J1 86 k) dX10_shift_177 s_86 (by omega) (by decide) rfl ?_
    refine xb_last (j := 60 * t + c + k) dX10_shift_178 s_85 (by omega) (by decide) ?_
    refine xr_iinc (v := nI (k + 1)) (ls2 := [(6, .int (nI (k + 1))), (5, .int (nI (n))), (4, .int (nI (c))), (3, .int (nI (t))), (2, .int (nI (a))), (1, .int (nI (d))), (0, .ref (62))]) dX10_shift_179 0 rfl (nI_1 _) (by decide) rfl ?_
    refine xr_goto (tgt := 150) dX10_shift_182 rfl ?_
    refine xb_ls (ls2 := [(6, .int (nI (k + 1))), (5, .int (nI (n))), (4, .int (nI (c))), (3, .int (nI (t))), (2, .int (nI (a))), (1, .int (nI (d))), (0, .ref (62))]) [0, 1, 2, 3, 4, 5, 6] rfl ?_
    exact ih (k + 1) _ (by omega) (fun p hp => (x_upJ_n J1 _ _ hp).trans (hJ p hp)) (jm_s (T := J) (by rw [hJ 86 (by decide)]) hZ)
set_option maxRecDepth 100000 in
set_option maxHeartbeats 4000000 in
theorem c_X10_kindOf {b : Nat} (hb : b < 50) {l : Launch} {G : xG} {M : xM} {J : xJ} {v : Int32} (e_v : M 81 b = v) : x_M l G fX10_kindOf 0 0 0 [.ref 62, .int (nI b)] x_SH M J (qE (some (.int v)) x_SH M J) := by
  refine xb_of pX10 (Nat.le_of_ble_eq_true rfl) rfl ?_
  refine xr_aload_n dX10_kindOf_0 0 rfl ?_
  refine xr_getR flX10_69 dX10_kindOf_1 s_62 rfl ?_
  refine xr_iload_n dX10_kindOf_4 1 rfl ?_
  refine xb_iald (j := b) (v := v) dX10_kindOf_5 s_81 (by omega) (by decide) e_v ?_
  exact xr_iret dX10_kindOf_6 rfl rfl (⟨rfl, rfl, rfl, rfl⟩)
set_option maxRecDepth 100000 in
set_option maxHeartbeats 4000000 in
theorem c_X10_above_1 {l : Launch} {G : xG} {sh : List xS} {M : xM} {J : xJ} : x_M l G fX10_above 0 0 0 [.int (1)] sh M J (qE (some (.int (0))) sh M J) := by
  refine xb_of pX10 (Nat.le_of_ble_eq_true rfl) rfl ?_
  refine xr_iload_n dX10_above_0 0 rfl ?_
  refine xr_iconst (v := 3) dX10_above_1 rfl ?_
  refine xr_icmp_ne (tgt := 9) dX10_above_2 rfl (fun _ => ?_) (fun c => absurd c (by decide))
  refine xr_iload_n dX10_above_9 0 rfl ?_
  refine xr_iconst (v := 4) dX10_above_10 rfl ?_
  refine xr_icmp_ne (tgt := 18) dX10_above_11 rfl (fun _ => ?_) (fun c => absurd c (by decide))
  refine xr_iload_n dX10_above_18 0 rfl ?_
  refine xr_iconst (v := 5) dX10_above_19 rfl ?_
  refine xr_icmp_ne (tgt := 27) dX10_above_20 rfl (fun _ => ?_) (fun c => absurd c (by decide))
  refine xr_iload_n dX10_above_27 0 rfl ?_
  refine xr_bipush (v := 7) dX10_above_28 rfl ?_
  refine xr_icmp_ne (tgt := 37) dX10_above_30 rfl (fun _ => ?_) (fun c => absurd c (by decide))
  refine xr_iconst (v := 0) dX10_above_37 rfl ?_
  exact xr_iret dX10_above_38 rfl rfl (⟨rfl, rfl, rfl, rfl⟩)
set_option maxRecDepth 100000 in
set_option maxHeartbeats 4000000 in
theorem c_X10_above_2 {l : Launch} {G : xG} {sh : List xS} {M : xM} {J : xJ} : x_M l G fX10_above 0 0 0 [.int (2)] sh M J (qE (some (.int (0))) sh M J) := by
  refine xb_of pX10 (Nat.le_of_ble_eq_true rfl) rfl ?_
  refine xr_iload_n dX10_above_0 0 rfl ?_
  refine xr_iconst (v := 3) dX10_above_1 rfl ?_
  refine xr_icmp_ne (tgt := 9) dX10_above_2 rfl (fun _ => ?_) (fun c => absurd c (by decide))
  refine xr_iload_n dX10_above_9 0 rfl ?_
  refine xr_iconst (v := 4) dX10_above_10 rfl ?_
  refine xr_icmp_ne (tgt := 18) dX10_above_11 rfl (fun _ => ?_) (fun c => absurd c (by decide))
  refine xr_iload_n dX10_above_18 0 rfl ?_
  refine xr_iconst (v := 5) dX10_above_19 rfl ?_
  refine xr_icmp_ne (tgt := 27) dX10_above_20 rfl (fun _ => ?_) (fun c => absurd c (by decide))
  refine xr_iload_n dX10_above_27 0 rfl ?_
  refine xr_bipush (v := 7) dX10_above_28 rfl ?_
  refine xr_icmp_ne (tgt := 37) dX10_above_30 rfl (fun _ => ?_) (fun c => absurd c (by decide))
  refine xr_iconst (v := 0) dX10_above_37 rfl ?_
  exact xr_iret dX10_above_38 rfl rfl (⟨rfl, rfl, rfl, rfl⟩)
set_option maxRecDepth 100000 in
set_option maxHeartbeats 4000000 in
theorem c_X10_above_3 {l : Launch} {G : xG} {sh : List xS} {M : xM} {J : xJ} : x_M l G fX10_above 0 0 0 [.int (3)] sh M J (qE (some (.int (2))) sh M J) := by
  refine xb_of pX10 (Nat.le_of_ble_eq_true rfl) rfl ?_
  refine xr_iload_n dX10_above_0 0 rfl ?_
  refine xr_iconst (v := 3) dX10_above_1 rfl ?_
  refine xr_icmp_ne (tgt := 9) dX10_above_2 rfl (fun c => absurd (by decide) c) (fun _ => ?_)
  refine xr_iconst (v := 2) dX10_above_5 rfl ?_
  refine xr_goto (tgt := 38) dX10_above_6 rfl ?_
  exact xr_iret dX10_above_38 rfl rfl (⟨rfl, rfl, rfl, rfl⟩)
set_option maxRecDepth 100000 in
set_option maxHeartbeats 4000000 in
theorem c_X10_above_4 {l : Launch} {G : xG} {sh : List xS} {M : xM} {J : xJ} : x_M l G fX10_above 0 0 0 [.int (4)] sh M J (qE (some (.int (1))) sh M J) := by
  refine xb_of pX10 (Nat.le_of_ble_eq_true rfl) rfl ?_
  refine xr_iload_n dX10_above_0 0 rfl ?_
  refine xr_iconst (v := 3) dX10_above_1 rfl ?_
  refine xr_icmp_ne (tgt := 9) dX10_above_2 rfl (fun _ => ?_) (fun c => absurd c (by decide))
  refine xr_iload_n dX10_above_9 0 rfl ?_
  refine xr_iconst (v := 4) dX10_above_10 rfl ?_
  refine xr_icmp_ne (tgt := 18) dX10_above_11 rfl (fun c => absurd (by decide) c) (fun _ => ?_)
  refine xr_iconst (v := 1) dX10_above_14 rfl ?_
  refine xr_goto (tgt := 38) dX10_above_15 rfl ?_
  exact xr_iret dX10_above_38 rfl rfl (⟨rfl, rfl, rfl, rfl⟩)
set_option maxRecDepth 100000 in
set_option maxHeartbeats 4000000 in
theorem c_X10_above_5 {l : Launch} {G : xG} {sh : List xS} {M : xM} {J : xJ} : x_M l G fX10_above 0 0 0 [.int (5)] sh M J (qE (some (.int (3))) sh M J) := by
  refine xb_of pX10 (Nat.le_of_ble_eq_true rfl) rfl ?_
  refine xr_iload_n dX10_above_0 0 rfl ?_
  refine xr_iconst (v := 3) dX10_above_1 rfl ?_
  refine xr_icmp_ne (tgt := 9) dX10_above_2 rfl (fun _ => ?_) (fun c => absurd c (by decide))
  refine xr_iload_n dX10_above_9 0 rfl ?_
  refine xr_iconst (v := 4) dX10_above_10 rfl ?_
  refine xr_icmp_ne (tgt := 18) dX10_above_11 rfl (fun _ => ?_) (fun c => absurd c (by decide))
  refine xr_iload_n dX10_above_18 0 rfl ?_
  refine xr_iconst (v := 5) dX10_above_19 rfl ?_
  refine xr_icmp_ne (tgt := 27) dX10_above_20 rfl (fun c => absurd (by decide) c) (fun _ => ?_)
  refine xr_iconst (v := 3) dX10_above_23 rfl ?_
  refine xr_goto (tgt := 38) dX10_above_24 rfl ?_
  exact xr_iret dX10_above_38 rfl rfl (⟨rfl, rfl, rfl, rfl⟩)
set_option maxRecDepth 100000 in
set_option maxHeartbeats 4000000 in
theorem c_X10_above_6 {l : Launch} {G : xG} {sh : List xS} {M : xM} {J : xJ} : x_M l G fX10_above 0 0 0 [.int (6)] sh M J (qE (some (.int (0))) sh M J) := by
  refine xb_of pX10 (Nat.le_of_ble_eq_true rfl) rfl ?_
  refine xr_iload_n dX10_above_0 0 rfl ?_
  refine xr_iconst (v := 3) dX10_above_1 rfl ?_
  refine xr_icmp_ne (tgt := 9) dX10_above_2 rfl (fun _ => ?_) (fun c => absurd c (by decide))
  refine xr_iload_n dX10_above_9 0 rfl ?_
  refine xr_iconst (v := 4) dX10_above_10 rfl ?_
  refine xr_icmp_ne (tgt := 18) dX10_above_11 rfl (fun _ => ?_) (fun c => absurd c (by decide))
  refine xr_iload_n dX10_above_18 0 rfl ?_
  refine xr_iconst (v := 5) dX10_above_19 rfl ?_
  refine xr_icmp_ne (tgt := 27) dX10_above_20 rfl (fun _ => ?_) (fun c => absurd c (by decide))
  refine xr_iload_n dX10_above_27 0 rfl ?_
  refine xr_bipush (v := 7) dX10_above_28 rfl ?_
  refine xr_icmp_ne (tgt := 37) dX10_above_30 rfl (fun _ => ?_) (fun c => absurd c (by decide))
  refine xr_iconst (v := 0) dX10_above_37 rfl ?_
  exact xr_iret dX10_above_38 rfl rfl (⟨rfl, rfl, rfl, rfl⟩)
set_option maxRecDepth 100000 in
set_option maxHeartbeats 4000000 in
theorem c_X10_above_7 {l : Launch} {G : xG} {sh : List xS} {M : xM} {J : xJ} : x_M l G fX10_above 0 0 0 [.int (7)] sh M J (qE (some (.int (4))) sh M J) := by
  refine xb_of pX10 (Nat.le_of_ble_eq_true rfl) rfl ?_
  refine xr_iload_n dX10_above_0 0 rfl ?_
  refine xr_iconst (v := 3) dX10_above_1 rfl ?_
  refine xr_icmp_ne (tgt := 9) dX10_above_2 rfl (fun _ => ?_) (fun c => absurd c (by decide))
  refine xr_iload_n dX10_above_9 0 rfl ?_
  refine xr_iconst (v := 4) dX10_above_10 rfl ?_
  refine xr_icmp_ne (tgt := 18) dX10_above_11 rfl (fun _ => ?_) (fun c => absurd c (by decide))
  refine xr_iload_n dX10_above_18 0 rfl ?_
  refine xr_iconst (v := 5) dX10_above_19 rfl ?_
  refine xr_icmp_ne (tgt := 27) dX10_above_20 rfl (fun _ => ?_) (fun c => absurd c (by decide))
  refine xr_iload_n dX10_above_27 0 rfl ?_
  refine xr_bipush (v := 7) dX10_above_28 rfl ?_
  refine xr_icmp_ne (tgt := 37) dX10_above_30 rfl (fun c => absurd (by decide) c) (fun _ => ?_)
  refine xr_iconst (v := 4) dX10_above_33 rfl ?_
  refine xr_goto (tgt := 38) dX10_above_34 rfl ?_
  exact xr_iret dX10_above_38 rfl rfl (⟨rfl, rfl, rfl, rfl⟩)
set_option maxRecDepth 100000 in
set_option maxHeartbeats 4000000 in
theorem rmu_l {up : Int32} {d nm : Nat} (hd : d < 6) (hnm : nm ≤ 60) {l : Launch} {G : xG} {M : xM} {J : xJ} {Q : xQ} {hn : Nat} (h_hn : hn ≤ 5) (e_hn : M 62 6 = nI hn) (hw : ∀ k, k < hn → M 63 (5 + k) ≠ 0) (hbt : M 63 16 ≠ 0) (htx : M 62 13 = -1 ∨ ∃ n : Nat, n ≤ 120 ∧ M 62 13 = nI n) (e_nm : M 84 d = nI nm) (hR : ∀ (r : Int32) (M2 : xM), Ke WR1 M M2 → Q (some (.int r)) x_SH M2 J) : ∀ (m k i : Nat) (du : Int64) (M1 : xM), k + m = 200 → i ≤ k → Ke WR1 M M1 → x_X l G fX10_music 61 0 0 Q 69 [(6, .int (nI (k))), (4, .long (du)), (3, .int (nI (i))), (2, .int (up)), (1, .int (nI (d))), (0, .ref (62))] [] x_SH M1 J 0 0 := by
  intro m
  induction m with
  | zero =>
    intro k i du M1 hk hik hM
    refine xr_iload dX10_music_69 0 rfl ?_
    refine xr_sipush (v := 200) dX10_music_71 rfl ?_
    refine xr_icmp_ge (tgt := 187) dX10_music_74 rfl (fun _ => ?_) (fun c => absurd (nI_le (a := 200) (b := k) (by omega) (by omega)) c)
    refine xr_sipush (v := 200) dX10_music_187 rfl ?_
    exact xr_iret dX10_music_190 rfl rfl (hR 200 _ hM)
  | succ m ih =>
    intro k i du M1 hk hik hM
    refine xr_iload dX10_music_69 0 rfl ?_
    refine xr_sipush (v := 200) dX10_music_71 rfl ?_
    refine xr_icmp_ge (tgt := 187) dX10_music_74 rfl (fun c => absurd c (nI_ge (a := k) (b := 200) (by omega) (by omega))) (fun _ => ?_)
    refine xr_iload dX10_music_77 0 rfl ?_
    refine xr_i2l dX10_music_79 ?_
    refine xr_lload dX10_music_80 1 rfl ?_
    refine xr_lcmp dX10_music_82 ?_
    refine xl_ne (tgt := 159) dX10_music_83 rfl (fun c1 => ?_) (fun c1 => ?_)
    · refine xr_aload_n dX10_music_159 5 rfl ?_
      refine xr_aload_n dX10_music_160 5 rfl ?_
      refine xb_get (v := M1 62 9) flX10_151 dX10_music_161 s_62 rfl rfl ?_
      refine xr_iload dX10_music_164 0 rfl ?_
      refine xr_iadd dX10_music_166 ?_
      refine xr_callV (As := [.int (((M1 62 9) + (nI (k))))]) (rest := []) mlX10_240 (g_X10_turns ((M1 62 9) + (nI (k))) h_hn (Eq.trans (hM 62 6 (by decide)) e_hn) (fun kw hkw => by rw [show M1 63 (5 + kw) = M 63 (5 + kw) from (Eq.trans (hM 63 (5 + kw) (by unfold WR1; omega)) rfl)]; exact hw kw hkw) (by rw [show M1 63 16 = M 63 16 from (Eq.trans (hM 63 16 (by unfold WR1; omega)) rfl)]; exact hbt) (by rw [show M1 62 13 = M 62 13 from (Eq.trans (hM 62 13 (by unfold WR1; omega)) rfl)]; exact htx)) dX10_music_167 s_62 rfl rfl (Nat.le_of_ble_eq_true rfl) (by decide) ⟨by decide, by decide⟩ (fun v s2 M2 J2 hq => ?_)
      obtain ⟨rfl, rfl, rfl, k3, _⟩ := hq
      try dsimp only [Option.toList, List.cons_append, List.nil_append]
      refine xr_aload_n dX10_music_170 5 rfl ?_
      refine xr_iload_n dX10_music_171 3 rfl ?_
      refine xr_callV (As := [.int (up)]) (rest := []) mlX10_252 (g_X10_lyingOf up h_hn (Eq.trans (k3 62 6 (by decide)) (Eq.trans (hM 62 6 (by decide)) e_hn)) (fun kw hkw => by rw [show M2 63 (5 + kw) = M 63 (5 + kw) from (Eq.trans (k3 63 (5 + kw) (by unfold WR1; omega)) (Eq.trans (hM 63 (5 + kw) (by unfold WR1; omega)) rfl))]; exact hw kw hkw) (by rw [show M2 63 16 = M 63 16 from (Eq.trans (k3 63 16 (by unfold WR1; omega)) (Eq.trans (hM 63 16 (by unfold WR1; omega)) rfl))]; exact hbt) (by rw [show M2 62 13 = M 62 13 from (Eq.trans (k3 62 13 (by unfold WR1; omega)) (Eq.trans (hM 62 13 (by unfold WR1; omega)) rfl))]; exact htx)) dX10_music_172 s_62 rfl rfl (Nat.le_of_ble_eq_true rfl) (by decide) ⟨by decide, by decide⟩ (fun v s2 M9 J2 hq => ?_)
      obtain ⟨r4, rfl, rfl, rfl, rfl, _⟩ := hq
      try dsimp only [Option.toList, List.cons_append, List.nil_append]
      refine xr_if_le (tgt := 181) dX10_music_175 rfl (fun c5 => ?_) (fun c5 => ?_)
      · refine xr_iinc (v := nI (k + 1)) (ls2 := [(6, .int (nI (k + 1))), (4, .long (du)), (3, .int (nI (i))), (2, .int (up)), (1, .int (nI (d))), (0, .ref (62))]) dX10_music_181 0 rfl (nI_1 _) (by decide) rfl ?_
        refine xr_goto (tgt := 69) dX10_music_184 rfl ?_
        refine xb_ls (ls2 := [(6, .int (nI (k + 1))), (4, .long (du)), (3, .int (nI (i))), (2, .int (up)), (1, .int (nI (d))), (0, .ref (62))]) [0, 1, 2, 3, 4, 5] rfl ?_
        exact ih (k + 1) i du M2 (by omega) (by omega) (Ke.tr (fun _ _ h => h) hM k3)
      · refine xr_iload dX10_music_178 0 rfl ?_
        exact xr_iret dX10_music_180 rfl rfl (hR (nI (k)) _ (Ke.tr (fun _ _ h => h) hM k3))
    · refine xr_aload_n dX10_music_86 5 rfl ?_
      refine xr_iload_n dX10_music_87 2 rfl ?_
      refine xr_iconst (v := 2) dX10_music_88 rfl ?_
      refine xr_irem dX10_music_89 (by decide) ?_
      refine xr_if_ne (tgt := 97) dX10_music_90 rfl (fun c6 => ?_) (fun c6 => ?_)
      · refine xr_bipush (v := 12) dX10_music_97 rfl ?_
        refine xr_aload_n dX10_music_99 5 rfl ?_
        refine xr_getR flX10_9 dX10_music_100 s_62 rfl ?_
        refine xr_bipush (v := 18) dX10_music_103 rfl ?_
        refine xb_iald (j := 18) (v := M1 63 18) dX10_music_105 s_63 (by decide) (by decide) rfl ?_
        refine xr_callV (As := [.int (12), .int (M1 63 18)]) (rest := []) mlX10_234 (g_X10_pushes 12 (M1 63 18) h_hn (Eq.trans (hM 62 6 (by decide)) e_hn) (fun kw hkw => by rw [show M1 63 (5 + kw) = M 63 (5 + kw) from (Eq.trans (hM 63 (5 + kw) (by unfold WR1; omega)) rfl)]; exact hw kw hkw) (by rw [show M1 63 16 = M 63 16 from (Eq.trans (hM 63 16 (by unfold WR1; omega)) rfl)]; exact hbt) (by rw [show M1 62 13 = M 62 13 from (Eq.trans (hM 62 13 (by unfold WR1; omega)) rfl)]; exact htx)) dX10_music_106 s_62 rfl rfl (Nat.le_of_ble_eq_true rfl) (by decide) ⟨by decide, by decide⟩ (fun v s2 M7 J2 hq => ?_)
        obtain ⟨rfl, rfl, rfl, k8, _⟩ := hq
        try dsimp only [Option.toList, List.cons_append, List.nil_append]
        refine xr_iinc (v := nI (i + 1)) (ls2 := [(3, .int (nI (i + 1))), (6, .int (nI (k))), (4, .long (du)), (2, .int (up)), (1, .int (nI (d))), (0, .ref (62))]) dX10_music_109 2 rfl (nI_1 _) (by decide) rfl ?_
        refine xr_iload_n dX10_music_112 0 rfl ?_
        refine xr_aload_n dX10_music_113 5 rfl ?_
        refine xr_getR flX10_78 dX10_music_114 s_62 rfl ?_
        refine xr_iload_n dX10_music_117 4 rfl ?_
        refine xb_iald (j := d) (v := nI (nm)) dX10_music_118 s_84 hd (by decide) (Eq.trans (k8 84 d (by unfold WR1; omega)) (Eq.trans (hM 84 d (by unfold WR1; omega)) e_nm)) ?_
        refine xr_icmp_ge (tgt := 136) dX10_music_119 rfl (fun c9 => ?_) (fun c9 => ?_)
        · have nc9 : nm ≤ i + 1 := (nI_leI (a := nm) (b := i + 1) (by omega) (by omega)).mp c9
          refine xr_lconst (v := 0) dX10_music_136 rfl ?_
          refine xr_lstore (ls2 := [(7, .long (0)), (3, .int (nI (i + 1))), (6, .int (nI (k))), (4, .long (du)), (2, .int (up)), (1, .int (nI (d))), (0, .ref (62))]) dX10_music_137 (by decide) rfl ?_
          refine xr_lload dX10_music_139 0 rfl ?_
          refine xr_lconst (v := 1) dX10_music_141 rfl ?_
          refine xr_lcmp dX10_music_142 ?_
          refine xl_lt (tgt := 154) dX10_music_143 rfl (fun _ => ?_) (fun c => absurd (by decide) c)
          refine xr_ldc2 coX10_288 dX10_music_154 ?_
          refine xr_lstore (ls2 := [(4, .long ((-1))), (7, .long (0)), (3, .int (nI (i + 1))), (6, .int (nI (k))), (2, .int (up)), (1, .int (nI (d))), (0, .ref (62))]) dX10_music_157 (by decide) rfl ?_
          refine xr_aload_n dX10_music_159 6 rfl ?_
          refine xr_aload_n dX10_music_160 6 rfl ?_
          refine xb_get (v := M7 62 9) flX10_151 dX10_music_161 s_62 rfl rfl ?_
          refine xr_iload dX10_music_164 3 rfl ?_
          refine xr_iadd dX10_music_166 ?_
          refine xr_callV (As := [.int (((M7 62 9) + (nI (k))))]) (rest := []) mlX10_240 (g_X10_turns ((M7 62 9) + (nI (k))) h_hn (Eq.trans (k8 62 6 (by decide)) (Eq.trans (hM 62 6 (by decide)) e_hn)) (fun kw hkw => by rw [show M7 63 (5 + kw) = M 63 (5 + kw) from (Eq.trans (k8 63 (5 + kw) (by unfold WR1; omega)) (Eq.trans (hM 63 (5 + kw) (by unfold WR1; omega)) rfl))]; exact hw kw hkw) (by rw [show M7 63 16 = M 63 16 from (Eq.trans (k8 63 16 (by unfold WR1; omega)) (Eq.trans (hM 63 16 (by unfold WR1; omega)) rfl))]; exact hbt) (by rw [show M7 62 13 = M 62 13 from (Eq.trans (k8 62 13 (by unfold WR1; omega)) (Eq.trans (hM 62 13 (by unfold WR1; omega)) rfl))]; exact htx)) dX10_music_167 s_62 rfl rfl (Nat.le_of_ble_eq_true rfl) (by decide) ⟨by decide, by decide⟩ (fun v s2 M10 J2 hq => ?_)
          obtain ⟨rfl, rfl, rfl, k11, _⟩ := hq
          try dsimp only [Option.toList, List.cons_append, List.nil_append]
          refine xr_aload_n dX10_music_170 6 rfl ?_
          refine xr_iload_n dX10_music_171 4 rfl ?_
          refine xr_callV (As := [.int (up)]) (rest := []) mlX10_252 (g_X10_lyingOf up h_hn (Eq.trans (k11 62 6 (by decide)) (Eq.trans (k8 62 6 (by decide)) (Eq.trans (hM 62 6 (by decide)) e_hn))) (fun kw hkw => by rw [show M10 63 (5 + kw) = M 63 (5 + kw) from (Eq.trans (k11 63 (5 + kw) (by unfold WR1; omega)) (Eq.trans (k8 63 (5 + kw) (by unfold WR1; omega)) (Eq.trans (hM 63 (5 + kw) (by unfold WR1; omega)) rfl)))]; exact hw kw hkw) (by rw [show M10 63 16 = M 63 16 from (Eq.trans (k11 63 16 (by unfold WR1; omega)) (Eq.trans (k8 63 16 (by unfold WR1; omega)) (Eq.trans (hM 63 16 (by unfold WR1; omega)) rfl)))]; exact hbt) (by rw [show M10 62 13 = M 62 13 from (Eq.trans (k11 62 13 (by unfold WR1; omega)) (Eq.trans (k8 62 13 (by unfold WR1; omega)) (Eq.trans (hM 62 13 (by unfold WR1; omega)) rfl)))]; exact htx)) dX10_music_172 s_62 rfl rfl (Nat.le_of_ble_eq_true rfl) (by decide) ⟨by decide, by decide⟩ (fun v s2 M9 J2 hq => ?_)
          obtain ⟨r12, rfl, rfl, rfl, rfl, _⟩ := hq
          try dsimp only [Option.toList, List.cons_append, List.nil_append]
          refine xr_if_le (tgt := 181) dX10_music_175 rfl (fun c13 => ?_) (fun c13 => ?_)
          · refine xr_iinc (v := nI (k + 1)) (ls2 := [(6, .int (nI (k + 1))), (4, .long ((-1))), (7, .long (0)), (3, .int (nI (i + 1))), (2, .int (up)), (1, .int (nI (d))), (0, .ref (62))]) dX10_music_181 3 rfl (nI_1 _) (by decide) rfl ?_
            refine xr_goto (tgt := 69) dX10_music_184 rfl ?_
            refine xb_ls (ls2 := [(6, .int (nI (k + 1))), (4, .long ((-1))), (3, .int (nI (i + 1))), (2, .int (up)), (1, .int (nI (d))), (0, .ref (62))]) [0, 1, 3, 4, 5, 6] rfl ?_
            exact ih (k + 1) (i + 1) (-1) M10 (by omega) (by omega) (Ke.tr (fun _ _ h => h) (Ke.tr (fun _ _ h => h) hM k8) k11)
          · refine xr_iload dX10_music_178 3 rfl ?_
            exact xr_iret dX10_music_180 rfl rfl (hR (nI (k)) _ (Ke.tr (fun _ _ h => h) (Ke.tr (fun _ _ h => h) hM k8) k11))
        · have nc9 : ¬ (nm ≤ i + 1) := fun q => c9 ((nI_leI (a := nm) (b := i + 1) (by omega) (by omega)).mpr q)
          refine xr_aload_n dX10_music_122 5 rfl ?_
          refine xr_getR flX10_81 dX10_music_123 s_62 rfl ?_
          refine xr_bipush (v := 60) dX10_music_126 rfl ?_
          refine xr_iload_n dX10_music_128 4 rfl ?_
          refine xr_imul dX10_music_129 ?_
          refine xb_top (y := nI (60 * d)) (nI_mulc 60 d) ?_
          refine xr_iload_n dX10_music_130 0 rfl ?_
          refine xr_iadd dX10_music_131 ?_
          refine xb_top (y := nI (60 * d + i + 1)) (nI_add (60 * d) (i + 1)) ?_
          refine xb_lald (j := 60 * d + i + 1) (v := J 85 (60 * d + i + 1)) dX10_music_132 s_85 (by omega) (by decide) rfl ?_
          refine xr_goto (tgt := 137) dX10_music_133 rfl ?_
          refine xr_lstore (ls2 := [(7, .long (J 85 (60 * d + i + 1))), (3, .int (nI (i + 1))), (6, .int (nI (k))), (4, .long (du)), (2, .int (up)), (1, .int (nI (d))), (0, .ref (62))]) dX10_music_137 (by decide) rfl ?_
          refine xr_lload dX10_music_139 0 rfl ?_
          refine xr_lconst (v := 1) dX10_music_141 rfl ?_
          refine xr_lcmp dX10_music_142 ?_
          refine xl_lt (tgt := 154) dX10_music_143 rfl (fun c14 => ?_) (fun c14 => ?_)
          · refine xr_ldc2 coX10_288 dX10_music_154 ?_
            refine xr_lstore (ls2 := [(4, .long ((-1))), (7, .long (J 85 (60 * d + i + 1))), (3, .int (nI (i + 1))), (6, .int (nI (k))), (2, .int (up)), (1, .int (nI (d))), (0, .ref (62))]) dX10_music_157 (by decide) rfl ?_
            refine xr_aload_n dX10_music_159 6 rfl ?_
            refine xr_aload_n dX10_music_160 6 rfl ?_
            refine xb_get (v := M7 62 9) flX10_151 dX10_music_161 s_62 rfl rfl ?_
            refine xr_iload dX10_music_164 3 rfl ?_
            refine xr_iadd dX10_music_166 ?_
            refine xr_callV (As := [.int (((M7 62 9) + (nI (k))))]) (rest := []) mlX10_240 (g_X10_turns ((M7 62 9) + (nI (k))) h_hn (Eq.trans (k8 62 6 (by decide)) (Eq.trans (hM 62 6 (by decide)) e_hn)) (fun kw hkw => by rw [show M7 63 (5 + kw) = M 63 (5 + kw) from (Eq.trans (k8 63 (5 + kw) (by unfold WR1; omega)) (Eq.trans (hM 63 (5 + kw) (by unfold WR1; omega)) rfl))]; exact hw kw hkw) (by rw [show M7 63 16 = M 63 16 from (Eq.trans (k8 63 16 (by unfold WR1; omega)) (Eq.trans (hM 63 16 (by unfold WR1; omega)) rfl))]; exact hbt) (by rw [show M7 62 13 = M 62 13 from (Eq.trans (k8 62 13 (by unfold WR1; omega)) (Eq.trans (hM 62 13 (by unfold WR1; omega)) rfl))]; exact htx)) dX10_music_167 s_62 rfl rfl (Nat.le_of_ble_eq_true rfl) (by decide) ⟨by decide, by decide⟩ (fun v s2 M15 J2 hq => ?_)
            obtain ⟨rfl, rfl, rfl, k16, _⟩ := hq
            try dsimp only [Option.toList, List.cons_append, List.nil_append]
            refine xr_aload_n dX10_music_170 6 rfl ?_
            refine xr_iload_n dX10_music_171 4 rfl ?_
            refine xr_callV (As := [.int (up)]) (rest := []) mlX10_252 (g_X10_lyingOf up h_hn (Eq.trans (k16 62 6 (by decide)) (Eq.trans (k8 62 6 (by decide)) (Eq.trans (hM 62 6 (by decide)) e_hn))) (fun kw hkw => by rw [show M15 63 (5 + kw) = M 63 (5 + kw) from (Eq.trans (k16 63 (5 + kw) (by unfold WR1; omega)) (Eq.trans (k8 63 (5 + kw) (by unfold WR1; omega)) (Eq.trans (hM 63 (5 + kw) (by unfold WR1; omega)) rfl)))]; exact hw kw hkw) (by rw [show M15 63 16 = M 63 16 from (Eq.trans (k16 63 16 (by unfold WR1; omega)) (Eq.trans (k8 63 16 (by unfold WR1; omega)) (Eq.trans (hM 63 16 (by unfold WR1; omega)) rfl)))]; exact hbt) (by rw [show M15 62 13 = M 62 13 from (Eq.trans (k16 62 13 (by unfold WR1; omega)) (Eq.trans (k8 62 13 (by unfold WR1; omega)) (Eq.trans (hM 62 13 (by unfold WR1; omega)) rfl)))]; exact htx)) dX10_music_172 s_62 rfl rfl (Nat.le_of_ble_eq_true rfl) (by decide) ⟨by decide, by decide⟩ (fun v s2 M9 J2 hq => ?_)
            obtain ⟨r17, rfl, rfl, rfl, rfl, _⟩ := hq
            try dsimp only [Option.toList, List.cons_append, List.nil_append]
            refine xr_if_le (tgt := 181) dX10_music_175 rfl (fun c18 => ?_) (fun c18 => ?_)
            · refine xr_iinc (v := nI (k + 1)) (ls2 := [(6, .int (nI (k + 1))), (4, .long ((-1))), (7, .long (J 85 (60 * d + i + 1))), (3, .int (nI (i + 1))), (2, .int (up)), (1, .int (nI (d))), (0, .ref (62))]) dX10_music_181 3 rfl (nI_1 _) (by decide) rfl ?_
              refine xr_goto (tgt := 69) dX10_music_184 rfl ?_
              refine xb_ls (ls2 := [(6, .int (nI (k + 1))), (4, .long ((-1))), (3, .int (nI (i + 1))), (2, .int (up)), (1, .int (nI (d))), (0, .ref (62))]) [0, 1, 3, 4, 5, 6] rfl ?_
              exact ih (k + 1) (i + 1) (-1) M15 (by omega) (by omega) (Ke.tr (fun _ _ h => h) (Ke.tr (fun _ _ h => h) hM k8) k16)
            · refine xr_iload dX10_music_178 3 rfl ?_
              exact xr_iret dX10_music_180 rfl rfl (hR (nI (k)) _ (Ke.tr (fun _ _ h => h) (Ke.tr (fun _ _ h => h) hM k8) k16))
          · refine xr_lload dX10_music_146 3 rfl ?_
            refine xr_lload dX10_music_148 0 rfl ?_
            refine xr_ladd dX10_music_150 ?_
            refine xr_goto (tgt := 157) dX10_music_151 rfl ?_
            refine xr_lstore (ls2 := [(4, .long ((du + (J 85 (60 * d + i + 1))))), (7, .long (J 85 (60 * d + i + 1))), (3, .int (nI (i + 1))), (6, .int (nI (k))), (2, .int (up)), (1, .int (nI (d))), (0, .ref (62))]) dX10_music_157 (by decide) rfl ?_
            refine xr_aload_n dX10_music_159 6 rfl ?_
            refine xr_aload_n dX10_music_160 6 rfl ?_
            refine xb_get (v := M7 62 9) flX10_151 dX10_music_161 s_62 rfl rfl ?_
            refine xr_iload dX10_music_164 3 rfl ?_
            refine xr_iadd dX10_music_166 ?_
            refine xr_callV (As := [.int (((M7 62 9) + (nI (k))))]) (rest := []) mlX10_240 (g_X10_turns ((M7 62 9) + (nI (k))) h_hn (Eq.trans (k8 62 6 (by decide)) (Eq.trans (hM 62 6 (by decide)) e_hn)) (fun kw hkw => by rw [show M7 63 (5 + kw) = M 63 (5 + kw) from (Eq.trans (k8 63 (5 + kw) (by unfold WR1; omega)) (Eq.trans (hM 63 (5 + kw) (by unfold WR1; omega)) rfl))]; exact hw kw hkw) (by rw [show M7 63 16 = M 63 16 from (Eq.trans (k8 63 16 (by unfold WR1; omega)) (Eq.trans (hM 63 16 (by unfold WR1; omega)) rfl))]; exact hbt) (by rw [show M7 62 13 = M 62 13 from (Eq.trans (k8 62 13 (by unfold WR1; omega)) (Eq.trans (hM 62 13 (by unfold WR1; omega)) rfl))]; exact htx)) dX10_music_167 s_62 rfl rfl (Nat.le_of_ble_eq_true rfl) (by decide) ⟨by decide, by decide⟩ (fun v s2 M19 J2 hq => ?_)
            obtain ⟨rfl, rfl, rfl, k20, _⟩ := hq
            try dsimp only [Option.toList, List.cons_append, List.nil_append]
            refine xr_aload_n dX10_music_170 6 rfl ?_
            refine xr_iload_n dX10_music_171 4 rfl ?_
            refine xr_callV (As := [.int (up)]) (rest := []) mlX10_252 (g_X10_lyingOf up h_hn (Eq.trans (k20 62 6 (by decide)) (Eq.trans (k8 62 6 (by decide)) (Eq.trans (hM 62 6 (by decide)) e_hn))) (fun kw hkw => by rw [show M19 63 (5 + kw) = M 63 (5 + kw) from (Eq.trans (k20 63 (5 + kw) (by unfold WR1; omega)) (Eq.trans (k8 63 (5 + kw) (by unfold WR1; omega)) (Eq.trans (hM 63 (5 + kw) (by unfold WR1; omega)) rfl)))]; exact hw kw hkw) (by rw [show M19 63 16 = M 63 16 from (Eq.trans (k20 63 16 (by unfold WR1; omega)) (Eq.trans (k8 63 16 (by unfold WR1; omega)) (Eq.trans (hM 63 16 (by unfold WR1; omega)) rfl)))]; exact hbt) (by rw [show M19 62 13 = M 62 13 from (Eq.trans (k20 62 13 (by unfold WR1; omega)) (Eq.trans (k8 62 13 (by unfold WR1; omega)) (Eq.trans (hM 62 13 (by unfold WR1; omega)) rfl)))]; exact htx)) dX10_music_172 s_62 rfl rfl (Nat.le_of_ble_eq_true rfl) (by decide) ⟨by decide, by decide⟩ (fun v s2 M9 J2 hq => ?_)
            obtain ⟨r21, rfl, rfl, rfl, rfl, _⟩ := hq
            try dsimp only [Option.toList, List.cons_append, List.nil_append]
            refine xr_if_le (tgt := 181) dX10_music_175 rfl (fun c22 => ?_) (fun c22 => ?_)
            · refine xr_iinc (v := nI (k + 1)) (ls2 := [(6, .int (nI (k + 1))), (4, .long ((du + (J 85 (60 * d + i + 1))))), (7, .long (J 85 (60 * d + i + 1))), (3, .int (nI (i + 1))), (2, .int (up)), (1, .int (nI (d))), (0, .ref (62))]) dX10_music_181 3 rfl (nI_1 _) (by decide) rfl ?_
              refine xr_goto (tgt := 69) dX10_music_184 rfl ?_
              refine xb_ls (ls2 := [(6, .int (nI (k + 1))), (4, .long ((du + (J 85 (60 * d + i + 1))))), (3, .int (nI (i + 1))), (2, .int (up)), (1, .int (nI (d))), (0, .ref (62))]) [0, 1, 3, 4, 5, 6] rfl ?_
              exact ih (k + 1) (i + 1) (du + (J 85 (60 * d + i + 1))) M19 (by omega) (by omega) (Ke.tr (fun _ _ h => h) (Ke.tr (fun _ _ h => h) hM k8) k20)
            · refine xr_iload dX10_music_178 3 rfl ?_
              exact xr_iret dX10_music_180 rfl rfl (hR (nI (k)) _ (Ke.tr (fun _ _ h => h) (Ke.tr (fun _ _ h => h) hM k8) k20))
      · refine xr_iconst (v := 0) dX10_music_93 rfl ?_
        refine xr_goto (tgt := 99) dX10_music_94 rfl ?_
        refine xr_aload_n dX10_music_99 5 rfl ?_
        refine xr_getR flX10_9 dX10_music_100 s_62 rfl ?_
        refine xr_bipush (v := 18) dX10_music_103 rfl ?_
        refine xb_iald (j := 18) (v := M1 63 18) dX10_music_105 s_63 (by decide) (by decide) rfl ?_
        refine xr_callV (As := [.int (0), .int (M1 63 18)]) (rest := []) mlX10_234 (g_X10_pushes 0 (M1 63 18) h_hn (Eq.trans (hM 62 6 (by decide)) e_hn) (fun kw hkw => by rw [show M1 63 (5 + kw) = M 63 (5 + kw) from (Eq.trans (hM 63 (5 + kw) (by unfold WR1; omega)) rfl)]; exact hw kw hkw) (by rw [show M1 63 16 = M 63 16 from (Eq.trans (hM 63 16 (by unfold WR1; omega)) rfl)]; exact hbt) (by rw [show M1 62 13 = M 62 13 from (Eq.trans (hM 62 13 (by unfold WR1; omega)) rfl)]; exact htx)) dX10_music_106 s_62 rfl rfl (Nat.le_of_ble_eq_true rfl) (by decide) ⟨by decide, by decide⟩ (fun v s2 M23 J2 hq => ?_)
        obtain ⟨rfl, rfl, rfl, k24, _⟩ := hq
        try dsimp only [Option.toList, List.cons_append, List.nil_append]
        refine xr_iinc (v := nI (i + 1)) (ls2 := [(3, .int (nI (i + 1))), (6, .int (nI (k))), (4, .long (du)), (2, .int (up)), (1, .int (nI (d))), (0, .ref (62))]) dX10_music_109 2 rfl (nI_1 _) (by decide) rfl ?_
        refine xr_iload_n dX10_music_112 0 rfl ?_
        refine xr_aload_n dX10_music_113 5 rfl ?_
        refine xr_getR flX10_78 dX10_music_114 s_62 rfl ?_
        refine xr_iload_n dX10_music_117 4 rfl ?_
        refine xb_iald (j := d) (v := nI (nm)) dX10_music_118 s_84 hd (by decide) (Eq.trans (k24 84 d (by unfold WR1; omega)) (Eq.trans (hM 84 d (by unfold WR1; omega)) e_nm)) ?_
        refine xr_icmp_ge (tgt := 136) dX10_music_119 rfl (fun c25 => ?_) (fun c25 => ?_)
        · have nc25 : nm ≤ i + 1 := (nI_leI (a := nm) (b := i + 1) (by omega) (by omega)).mp c25
          refine xr_lconst (v := 0) dX10_music_136 rfl ?_
          refine xr_lstore (ls2 := [(7, .long (0)), (3, .int (nI (i + 1))), (6, .int (nI (k))), (4, .long (du)), (2, .int (up)), (1, .int (nI (d))), (0, .ref (62))]) dX10_music_137 (by decide) rfl ?_
          refine xr_lload dX10_music_139 0 rfl ?_
          refine xr_lconst (v := 1) dX10_music_141 rfl ?_
          refine xr_lcmp dX10_music_142 ?_
          refine xl_lt (tgt := 154) dX10_music_143 rfl (fun _ => ?_) (fun c => absurd (by decide) c)
          refine xr_ldc2 coX10_288 dX10_music_154 ?_
          refine xr_lstore (ls2 := [(4, .long ((-1))), (7, .long (0)), (3, .int (nI (i + 1))), (6, .int (nI (k))), (2, .int (up)), (1, .int (nI (d))), (0, .ref (62))]) dX10_music_157 (by decide) rfl ?_
          refine xr_aload_n dX10_music_159 6 rfl ?_
          refine xr_aload_n dX10_music_160 6 rfl ?_
          refine xb_get (v := M23 62 9) flX10_151 dX10_music_161 s_62 rfl rfl ?_
          refine xr_iload dX10_music_164 3 rfl ?_
          refine xr_iadd dX10_music_166 ?_
          refine xr_callV (As := [.int (((M23 62 9) + (nI (k))))]) (rest := []) mlX10_240 (g_X10_turns ((M23 62 9) + (nI (k))) h_hn (Eq.trans (k24 62 6 (by decide)) (Eq.trans (hM 62 6 (by decide)) e_hn)) (fun kw hkw => by rw [show M23 63 (5 + kw) = M 63 (5 + kw) from (Eq.trans (k24 63 (5 + kw) (by unfold WR1; omega)) (Eq.trans (hM 63 (5 + kw) (by unfold WR1; omega)) rfl))]; exact hw kw hkw) (by rw [show M23 63 16 = M 63 16 from (Eq.trans (k24 63 16 (by unfold WR1; omega)) (Eq.trans (hM 63 16 (by unfold WR1; omega)) rfl))]; exact hbt) (by rw [show M23 62 13 = M 62 13 from (Eq.trans (k24 62 13 (by unfold WR1; omega)) (Eq.trans (hM 62 13 (by unfold WR1; omega)) rfl))]; exact htx)) dX10_music_167 s_62 rfl rfl (Nat.le_of_ble_eq_true rfl) (by decide) ⟨by decide, by decide⟩ (fun v s2 M26 J2 hq => ?_)
          obtain ⟨rfl, rfl, rfl, k27, _⟩ := hq
          try dsimp only [Option.toList, List.cons_append, List.nil_append]
          refine xr_aload_n dX10_music_170 6 rfl ?_
          refine xr_iload_n dX10_music_171 4 rfl ?_
          refine xr_callV (As := [.int (up)]) (rest := []) mlX10_252 (g_X10_lyingOf up h_hn (Eq.trans (k27 62 6 (by decide)) (Eq.trans (k24 62 6 (by decide)) (Eq.trans (hM 62 6 (by decide)) e_hn))) (fun kw hkw => by rw [show M26 63 (5 + kw) = M 63 (5 + kw) from (Eq.trans (k27 63 (5 + kw) (by unfold WR1; omega)) (Eq.trans (k24 63 (5 + kw) (by unfold WR1; omega)) (Eq.trans (hM 63 (5 + kw) (by unfold WR1; omega)) rfl)))]; exact hw kw hkw) (by rw [show M26 63 16 = M 63 16 from (Eq.trans (k27 63 16 (by unfold WR1; omega)) (Eq.trans (k24 63 16 (by unfold WR1; omega)) (Eq.trans (hM 63 16 (by unfold WR1; omega)) rfl)))]; exact hbt) (by rw [show M26 62 13 = M 62 13 from (Eq.trans (k27 62 13 (by unfold WR1; omega)) (Eq.trans (k24 62 13 (by unfold WR1; omega)) (Eq.trans (hM 62 13 (by unfold WR1; omega)) rfl)))]; exact htx)) dX10_music_172 s_62 rfl rfl (Nat.le_of_ble_eq_true rfl) (by decide) ⟨by decide, by decide⟩ (fun v s2 M9 J2 hq => ?_)
          obtain ⟨r28, rfl, rfl, rfl, rfl, _⟩ := hq
          try dsimp only [Option.toList, List.cons_append, List.nil_append]
          refine xr_if_le (tgt := 181) dX10_music_175 rfl (fun c29 => ?_) (fun c29 => ?_)
          · refine xr_iinc (v := nI (k + 1)) (ls2 := [(6, .int (nI (k + 1))), (4, .long ((-1))), (7, .long (0)), (3, .int (nI (i + 1))), (2, .int (up)), (1, .int (nI (d))), (0, .ref (62))]) dX10_music_181 3 rfl (nI_1 _) (by decide) rfl ?_
            refine xr_goto (tgt := 69) dX10_music_184 rfl ?_
            refine xb_ls (ls2 := [(6, .int (nI (k + 1))), (4, .long ((-1))), (3, .int (nI (i + 1))), (2, .int (up)), (1, .int (nI (d))), (0, .ref (62))]) [0, 1, 3, 4, 5, 6] rfl ?_
            exact ih (k + 1) (i + 1) (-1) M26 (by omega) (by omega) (Ke.tr (fun _ _ h => h) (Ke.tr (fun _ _ h => h) hM k24) k27)
          · refine xr_iload dX10_music_178 3 rfl ?_
            exact xr_iret dX10_music_180 rfl rfl (hR (nI (k)) _ (Ke.tr (fun _ _ h => h) (Ke.tr (fun _ _ h => h) hM k24) k27))
        · have nc25 : ¬ (nm ≤ i + 1) := fun q => c25 ((nI_leI (a := nm) (b := i + 1) (by omega) (by omega)).mpr q)
          refine xr_aload_n dX10_music_122 5 rfl ?_
          refine xr_getR flX10_81 dX10_music_123 s_62 rfl ?_
          refine xr_bipush (v := 60) dX10_music_126 rfl ?_
          refine xr_iload_n dX10_music_128 4 rfl ?_
          refine xr_imul dX10_music_129 ?_
          refine xb_top (y := nI (60 * d)) (nI_mulc 60 d) ?_
          refine xr_iload_n dX10_music_130 0 rfl ?_
          refine xr_iadd dX10_music_131 ?_
          refine xb_top (y := nI (60 * d + i + 1)) (nI_add (60 * d) (i + 1)) ?_
          refine xb_lald (j := 60 * d + i + 1) (v := J 85 (60 * d + i + 1)) dX10_music_132 s_85 (by omega) (by decide) rfl ?_
          refine xr_goto (tgt := 137) dX10_music_133 rfl ?_
          refine xr_lstore (ls2 := [(7, .long (J 85 (60 * d + i + 1))), (3, .int (nI (i + 1))), (6, .int (nI (k))), (4, .long (du)), (2, .int (up)), (1, .int (nI (d))), (0, .ref (62))]) dX10_music_137 (by decide) rfl ?_
          refine xr_lload dX10_music_139 0 rfl ?_
          refine xr_lconst (v := 1) dX10_music_141 rfl ?_
          refine xr_lcmp dX10_music_142 ?_
          refine xl_lt (tgt := 154) dX10_music_143 rfl (fun c30 => ?_) (fun c30 => ?_)
          · refine xr_ldc2 coX10_288 dX10_music_154 ?_
            refine xr_lstore (ls2 := [(4, .long ((-1))), (7, .long (J 85 (60 * d + i + 1))), (3, .int (nI (i + 1))), (6, .int (nI (k))), (2, .int (up)), (1, .int (nI (d))), (0, .ref (62))]) dX10_music_157 (by decide) rfl ?_
            refine xr_aload_n dX10_music_159 6 rfl ?_
            refine xr_aload_n dX10_music_160 6 rfl ?_
            refine xb_get (v := M23 62 9) flX10_151 dX10_music_161 s_62 rfl rfl ?_
            refine xr_iload dX10_music_164 3 rfl ?_
            refine xr_iadd dX10_music_166 ?_
            refine xr_callV (As := [.int (((M23 62 9) + (nI (k))))]) (rest := []) mlX10_240 (g_X10_turns ((M23 62 9) + (nI (k))) h_hn (Eq.trans (k24 62 6 (by decide)) (Eq.trans (hM 62 6 (by decide)) e_hn)) (fun kw hkw => by rw [show M23 63 (5 + kw) = M 63 (5 + kw) from (Eq.trans (k24 63 (5 + kw) (by unfold WR1; omega)) (Eq.trans (hM 63 (5 + kw) (by unfold WR1; omega)) rfl))]; exact hw kw hkw) (by rw [show M23 63 16 = M 63 16 from (Eq.trans (k24 63 16 (by unfold WR1; omega)) (Eq.trans (hM 63 16 (by unfold WR1; omega)) rfl))]; exact hbt) (by rw [show M23 62 13 = M 62 13 from (Eq.trans (k24 62 13 (by unfold WR1; omega)) (Eq.trans (hM 62 13 (by unfold WR1; omega)) rfl))]; exact htx)) dX10_music_167 s_62 rfl rfl (Nat.le_of_ble_eq_true rfl) (by decide) ⟨by decide, by decide⟩ (fun v s2 M31 J2 hq => ?_)
            obtain ⟨rfl, rfl, rfl, k32, _⟩ := hq
            try dsimp only [Option.toList, List.cons_append, List.nil_append]
            refine xr_aload_n dX10_music_170 6 rfl ?_
            refine xr_iload_n dX10_music_171 4 rfl ?_
            refine xr_callV (As := [.int (up)]) (rest := []) mlX10_252 (g_X10_lyingOf up h_hn (Eq.trans (k32 62 6 (by decide)) (Eq.trans (k24 62 6 (by decide)) (Eq.trans (hM 62 6 (by decide)) e_hn))) (fun kw hkw => by rw [show M31 63 (5 + kw) = M 63 (5 + kw) from (Eq.trans (k32 63 (5 + kw) (by unfold WR1; omega)) (Eq.trans (k24 63 (5 + kw) (by unfold WR1; omega)) (Eq.trans (hM 63 (5 + kw) (by unfold WR1; omega)) rfl)))]; exact hw kw hkw) (by rw [show M31 63 16 = M 63 16 from (Eq.trans (k32 63 16 (by unfold WR1; omega)) (Eq.trans (k24 63 16 (by unfold WR1; omega)) (Eq.trans (hM 63 16 (by unfold WR1; omega)) rfl)))]; exact hbt) (by rw [show M31 62 13 = M 62 13 from (Eq.trans (k32 62 13 (by unfold WR1; omega)) (Eq.trans (k24 62 13 (by unfold WR1; omega)) (Eq.trans (hM 62 13 (by unfold WR1; omega)) rfl)))]; exact htx)) dX10_music_172 s_62 rfl rfl (Nat.le_of_ble_eq_true rfl) (by decide) ⟨by decide, by decide⟩ (fun v s2 M9 J2 hq => ?_)
            obtain ⟨r33, rfl, rfl, rfl, rfl, _⟩ := hq
            try dsimp only [Option.toList, List.cons_append, List.nil_append]
            refine xr_if_le (tgt := 181) dX10_music_175 rfl (fun c34 => ?_) (fun c34 => ?_)
            · refine xr_iinc (v := nI (k + 1)) (ls2 := [(6, .int (nI (k + 1))), (4, .long ((-1))), (7, .long (J 85 (60 * d + i + 1))), (3, .int (nI (i + 1))), (2, .int (up)), (1, .int (nI (d))), (0, .ref (62))]) dX10_music_181 3 rfl (nI_1 _) (by decide) rfl ?_
              refine xr_goto (tgt := 69) dX10_music_184 rfl ?_
              refine xb_ls (ls2 := [(6, .int (nI (k + 1))), (4, .long ((-1))), (3, .int (nI (i + 1))), (2, .int (up)), (1, .int (nI (d))), (0, .ref (62))]) [0, 1, 3, 4, 5, 6] rfl ?_
              exact ih (k + 1) (i + 1) (-1) M31 (by omega) (by omega) (Ke.tr (fun _ _ h => h) (Ke.tr (fun _ _ h => h) hM k24) k32)
            · refine xr_iload dX10_music_178 3 rfl ?_
              exact xr_iret dX10_music_180 rfl rfl (hR (nI (k)) _ (Ke.tr (fun _ _ h => h) (Ke.tr (fun _ _ h => h) hM k24) k32))
          · refine xr_lload dX10_music_146 3 rfl ?_
            refine xr_lload dX10_music_148 0 rfl ?_
            refine xr_ladd dX10_music_150 ?_
            refine xr_goto (tgt := 157) dX10_music_151 rfl ?_
            refine xr_lstore (ls2 := [(4, .long ((du + (J 85 (60 * d + i + 1))))), (7, .long (J 85 (60 * d + i + 1))), (3, .int (nI (i + 1))), (6, .int (nI (k))), (2, .int (up)), (1, .int (nI (d))), (0, .ref (62))]) dX10_music_157 (by decide) rfl ?_
            refine xr_aload_n dX10_music_159 6 rfl ?_
            refine xr_aload_n dX10_music_160 6 rfl ?_
            refine xb_get (v := M23 62 9) flX10_151 dX10_music_161 s_62 rfl rfl ?_
            refine xr_iload dX10_music_164 3 rfl ?_
            refine xr_iadd dX10_music_166 ?_
            refine xr_callV (As := [.int (((M23 62 9) + (nI (k))))]) (rest := []) mlX10_240 (g_X10_turns ((M23 62 9) + (nI (k))) h_hn (Eq.trans (k24 62 6 (by decide)) (Eq.trans (hM 62 6 (by decide)) e_hn)) (fun kw hkw => by rw [show M23 63 (5 + kw) = M 63 (5 + kw) from (Eq.trans (k24 63 (5 + kw) (by unfold WR1; omega)) (Eq.trans (hM 63 (5 + kw) (by unfold WR1; omega)) rfl))]; exact hw kw hkw) (by rw [show M23 63 16 = M 63 16 from (Eq.trans (k24 63 16 (by unfold WR1; omega)) (Eq.trans (hM 63 16 (by unfold WR1; omega)) rfl))]; exact hbt) (by rw [show M23 62 13 = M 62 13 from (Eq.trans (k24 62 13 (by unfold WR1; omega)) (Eq.trans (hM 62 13 (by unfold WR1; omega)) rfl))]; exact htx)) dX10_music_167 s_62 rfl rfl (Nat.le_of_ble_eq_true rfl) (by decide) ⟨by decide, by decide⟩ (fun v s2 M35 J2 hq => ?_)
            obtain ⟨rfl, rfl, rfl, k36, _⟩ := hq
            try dsimp only [Option.toList, List.cons_append, List.nil_append]
            refine xr_aload_n dX10_music_170 6 rfl ?_
            refine xr_iload_n dX10_music_171 4 rfl ?_
            refine xr_callV (As := [.int (up)]) (rest := []) mlX10_252 (g_X10_lyingOf up h_hn (Eq.trans (k36 62 6 (by decide)) (Eq.trans (k24 62 6 (by decide)) (Eq.trans (hM 62 6 (by decide)) e_hn))) (fun kw hkw => by rw [show M35 63 (5 + kw) = M 63 (5 + kw) from (Eq.trans (k36 63 (5 + kw) (by unfold WR1; omega)) (Eq.trans (k24 63 (5 + kw) (by unfold WR1; omega)) (Eq.trans (hM 63 (5 + kw) (by unfold WR1; omega)) rfl)))]; exact hw kw hkw) (by rw [show M35 63 16 = M 63 16 from (Eq.trans (k36 63 16 (by unfold WR1; omega)) (Eq.trans (k24 63 16 (by unfold WR1; omega)) (Eq.trans (hM 63 16 (by unfold WR1; omega)) rfl)))]; exact hbt) (by rw [show M35 62 13 = M 62 13 from (Eq.trans (k36 62 13 (by unfold WR1; omega)) (Eq.trans (k24 62 13 (by unfold WR1; omega)) (Eq.trans (hM 62 13 (by unfold WR1; omega)) rfl)))]; exact htx)) dX10_music_172 s_62 rfl rfl (Nat.le_of_ble_eq_true rfl) (by decide) ⟨by decide, by decide⟩ (fun v s2 M9 J2 hq => ?_)
            obtain ⟨r37, rfl, rfl, rfl, rfl, _⟩ := hq
            try dsimp only [Option.toList, List.cons_append, List.nil_append]
            refine xr_if_le (tgt := 181) dX10_music_175 rfl (fun c38 => ?_) (fun c38 => ?_)
            · refine xr_iinc (v := nI (k + 1)) (ls2 := [(6, .int (nI (k + 1))), (4, .long ((du + (J 85 (60 * d + i + 1))))), (7, .long (J 85 (60 * d + i + 1))), (3, .int (nI (i + 1))), (2, .int (up)), (1, .int (nI (d))), (0, .ref (62))]) dX10_music_181 3 rfl (nI_1 _) (by decide) rfl ?_
              refine xr_goto (tgt := 69) dX10_music_184 rfl ?_
              refine xb_ls (ls2 := [(6, .int (nI (k + 1))), (4, .long ((du + (J 85 (60 * d + i + 1))))), (3, .int (nI (i + 1))), (2, .int (up)), (1, .int (nI (d))), (0, .ref (62))]) [0, 1, 3, 4, 5, 6] rfl ?_
              exact ih (k + 1) (i + 1) (du + (J 85 (60 * d + i + 1))) M35 (by omega) (by omega) (Ke.tr (fun _ _ h => h) (Ke.tr (fun _ _ h => h) hM k24) k36)
            · refine xr_iload dX10_music_178 3 rfl ?_
              exact xr_iret dX10_music_180 rfl rfl (hR (nI (k)) _ (Ke.tr (fun _ _ h => h) (Ke.tr (fun _ _ h => h) hM k24) k36))
theorem sx_nat0 {v : Int32} (h : ¬ v < 0) : ∃ j : Nat, j < 2 ^ 31 ∧ v = nI j := by
  have h2 : (0 : Int) ≤ v.toInt := by rw [Int32.lt_iff_toInt_lt] at h; simpa using h
  have h3 : v.toInt < 2 ^ 31 := v.toInt_lt
  exact ⟨v.toInt.toNat, by omega, Int32.toInt_inj.mp (by rw [nI_toInt (by omega)]; omega)⟩
theorem sx_hps {nm i k : Nat} (hnm : nm ≤ 60) (hi : i < 2 ^ 31) (hk : k ≤ 5) (h : ¬ nI nm - 3 - nI (3 * k) < nI i) : i + 3 * k + 3 ≤ nm := by
  have e : (nI nm - 3 - nI (3 * k)).toInt = (nm : Int) - 3 - 3 * k := (show ∀ nm, nm ≤ 60 → ∀ k, k ≤ 5 → (nI nm - 3 - nI (3 * k)).toInt = (nm : Int) - 3 - 3 * k by decide +kernel) nm hnm k hk
  rw [Int32.lt_iff_toInt_lt, e, nI_toInt hi] at h
  omega