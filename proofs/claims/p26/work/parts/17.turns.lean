theorem dX8_has_0 : decode cX8_has 0 = .ok (.iload_n 1, 1) := by decide +kernel
theorem dX8_has_1 : decode cX8_has 1 = .ok (.ifCond .lt 15, 3) := by decide +kernel
theorem dX8_has_16 : decode cX8_has 16 = .ok (.iconst 0, 1) := by decide +kernel
theorem dX8_has_17 : decode cX8_has 17 = .ok (.ireturn, 1) := by decide +kernel
theorem dX8_has_4 : decode cX8_has 4 = .ok (.iload_n 1, 1) := by decide +kernel
theorem dX8_has_5 : decode cX8_has 5 = .ok (.aload_n 0, 1) := by decide +kernel
theorem dX8_has_6 : decode cX8_has 6 = .ok (.getfield 18, 3) := by decide +kernel
theorem dX8_has_9 : decode cX8_has 9 = .ok (.if_icmp .ge 7, 3) := by decide +kernel
theorem dX8_has_12 : decode cX8_has 12 = .ok (.iconst 1, 1) := by decide +kernel
theorem dX8_has_13 : decode cX8_has 13 = .ok (.goto 4, 3) := by decide +kernel
theorem dX8_isFull_0 : decode cX8_isFull 0 = .ok (.aload_n 0, 1) := by decide +kernel
theorem dX8_isFull_1 : decode cX8_isFull 1 = .ok (.getfield 18, 3) := by decide +kernel
theorem dX8_isFull_4 : decode cX8_isFull 4 = .ok (.bipush 50, 2) := by decide +kernel
theorem dX8_isFull_6 : decode cX8_isFull 6 = .ok (.if_icmp .lt 7, 3) := by decide +kernel
theorem dX8_isFull_13 : decode cX8_isFull 13 = .ok (.iconst 0, 1) := by decide +kernel
theorem dX8_isFull_14 : decode cX8_isFull 14 = .ok (.ireturn, 1) := by decide +kernel
theorem dX8_isFull_9 : decode cX8_isFull 9 = .ok (.iconst 1, 1) := by decide +kernel
theorem dX8_isFull_10 : decode cX8_isFull 10 = .ok (.goto 4, 3) := by decide +kernel
theorem dX8_addBody_0 : decode cX8_addBody 0 = .ok (.aload_n 0, 1) := by decide +kernel
theorem dX8_addBody_1 : decode cX8_addBody 1 = .ok (.invokevirtual 22, 3) := by decide +kernel
theorem dX8_addBody_4 : decode cX8_addBody 4 = .ok (.ifCond .eq 6, 3) := by decide +kernel
theorem dX8_addBody_10 : decode cX8_addBody 10 = .ok (.aload_n 0, 1) := by decide +kernel
theorem dX8_addBody_11 : decode cX8_addBody 11 = .ok (.getfield 9, 3) := by decide +kernel
theorem dX8_addBody_14 : decode cX8_addBody 14 = .ok (.aload_n 0, 1) := by decide +kernel
theorem dX8_addBody_15 : decode cX8_addBody 15 = .ok (.getfield 18, 3) := by decide +kernel
theorem dX8_addBody_18 : decode cX8_addBody 18 = .ok (.iload_n 1, 1) := by decide +kernel
theorem dX8_addBody_19 : decode cX8_addBody 19 = .ok (.iastore, 1) := by decide +kernel
theorem dX8_addBody_20 : decode cX8_addBody 20 = .ok (.aload_n 0, 1) := by decide +kernel
theorem dX8_addBody_21 : decode cX8_addBody 21 = .ok (.dup, 1) := by decide +kernel
theorem dX8_addBody_22 : decode cX8_addBody 22 = .ok (.getfield 18, 3) := by decide +kernel
theorem dX8_addBody_25 : decode cX8_addBody 25 = .ok (.iconst 1, 1) := by decide +kernel
theorem dX8_addBody_26 : decode cX8_addBody 26 = .ok (.iadd, 1) := by decide +kernel
theorem dX8_addBody_27 : decode cX8_addBody 27 = .ok (.putfield 18, 3) := by decide +kernel
theorem dX8_addBody_30 : decode cX8_addBody 30 = .ok (.aload_n 0, 1) := by decide +kernel
theorem dX8_addBody_31 : decode cX8_addBody 31 = .ok (.getfield 18, 3) := by decide +kernel
theorem dX8_addBody_34 : decode cX8_addBody 34 = .ok (.iconst 1, 1) := by decide +kernel
theorem dX8_addBody_35 : decode cX8_addBody 35 = .ok (.isub, 1) := by decide +kernel
theorem dX8_addBody_36 : decode cX8_addBody 36 = .ok (.ireturn, 1) := by decide +kernel
theorem dX8_addBody_7 : decode cX8_addBody 7 = .ok (.bipush (-3), 2) := by decide +kernel
theorem dX8_addBody_9 : decode cX8_addBody 9 = .ok (.ireturn, 1) := by decide +kernel
theorem dX8_isUnder_4 : decode cX8_isUnder 4 = .ok (.iload_n 3, 1) := by decide +kernel
theorem dX8_isUnder_5 : decode cX8_isUnder 5 = .ok (.bipush 8, 2) := by decide +kernel
theorem dX8_isUnder_7 : decode cX8_isUnder 7 = .ok (.if_icmp .ge 29, 3) := by decide +kernel
theorem dX8_isUnder_10 : decode cX8_isUnder 10 = .ok (.iload_n 2, 1) := by decide +kernel
theorem dX8_isUnder_11 : decode cX8_isUnder 11 = .ok (.invokestatic 26, 3) := by decide +kernel
theorem dX8_isUnder_14 : decode cX8_isUnder 14 = .ok (.ifCond .eq 22, 3) := by decide +kernel
theorem dX8_isUnder_17 : decode cX8_isUnder 17 = .ok (.iload_n 2, 1) := by decide +kernel
theorem dX8_isUnder_18 : decode cX8_isUnder 18 = .ok (.iload_n 1, 1) := by decide +kernel
theorem dX8_isUnder_19 : decode cX8_isUnder 19 = .ok (.if_icmp .ne 5, 3) := by decide +kernel
theorem dX8_isUnder_24 : decode cX8_isUnder 24 = .ok (.getstatic 30, 3) := by decide +kernel
theorem dX8_isUnder_27 : decode cX8_isUnder 27 = .ok (.iload_n 2, 1) := by decide +kernel
theorem dX8_isUnder_28 : decode cX8_isUnder 28 = .ok (.iaload, 1) := by decide +kernel
theorem dX8_isUnder_29 : decode cX8_isUnder 29 = .ok (.istore_n 2, 1) := by decide +kernel
theorem dX8_isUnder_30 : decode cX8_isUnder 30 = .ok (.iinc 3 1, 3) := by decide +kernel
theorem dX8_isUnder_33 : decode cX8_isUnder 33 = .ok (.goto (-29), 3) := by decide +kernel
theorem dX8_isUnder_22 : decode cX8_isUnder 22 = .ok (.iconst 1, 1) := by decide +kernel
theorem dX8_isUnder_23 : decode cX8_isUnder 23 = .ok (.ireturn, 1) := by decide +kernel
theorem dX8_isUnder_0 : decode cX8_isUnder 0 = .ok (.iload_n 0, 1) := by decide +kernel
theorem dX8_isUnder_1 : decode cX8_isUnder 1 = .ok (.istore_n 2, 1) := by decide +kernel
theorem dX8_isUnder_2 : decode cX8_isUnder 2 = .ok (.iconst 0, 1) := by decide +kernel
theorem dX8_isUnder_3 : decode cX8_isUnder 3 = .ok (.istore_n 3, 1) := by decide +kernel
theorem dX8_isUnder_36 : decode cX8_isUnder 36 = .ok (.iconst 0, 1) := by decide +kernel
theorem dX8_isUnder_37 : decode cX8_isUnder 37 = .ok (.ireturn, 1) := by decide +kernel
theorem dX8_note_0 : decode cX8_note 0 = .ok (.aload_n 0, 1) := by decide +kernel
theorem dX8_note_1 : decode cX8_note 1 = .ok (.getfield 33, 3) := by decide +kernel
theorem dX8_note_4 : decode cX8_note 4 = .ok (.bipush 24, 2) := by decide +kernel
theorem dX8_note_6 : decode cX8_note 6 = .ok (.if_icmp .ge 13, 3) := by decide +kernel
theorem dX8_note_19 : decode cX8_note 19 = .ok (.aload_n 0, 1) := by decide +kernel
theorem dX8_note_20 : decode cX8_note 20 = .ok (.dup, 1) := by decide +kernel
theorem dX8_note_21 : decode cX8_note 21 = .ok (.getfield 33, 3) := by decide +kernel
theorem dX8_note_24 : decode cX8_note 24 = .ok (.iconst 1, 1) := by decide +kernel
theorem dX8_note_25 : decode cX8_note 25 = .ok (.iadd, 1) := by decide +kernel
theorem dX8_note_26 : decode cX8_note 26 = .ok (.putfield 33, 3) := by decide +kernel
theorem dX8_note_29 : decode cX8_note 29 = .ok (.return_, 1) := by decide +kernel
theorem dX8_note_9 : decode cX8_note 9 = .ok (.aload_n 0, 1) := by decide +kernel
theorem dX8_note_10 : decode cX8_note 10 = .ok (.getfield 15, 3) := by decide +kernel
theorem dX8_note_13 : decode cX8_note 13 = .ok (.aload_n 0, 1) := by decide +kernel
theorem dX8_note_14 : decode cX8_note 14 = .ok (.getfield 33, 3) := by decide +kernel
theorem dX8_note_17 : decode cX8_note 17 = .ok (.iload_n 1, 1) := by decide +kernel
theorem dX8_note_18 : decode cX8_note 18 = .ok (.iastore, 1) := by decide +kernel
theorem dX8_run_0 : decode cX8_run 0 = .ok (.aload_n 0, 1) := by decide +kernel
theorem dX8_run_1 : decode cX8_run 1 = .ok (.iload_n 1, 1) := by decide +kernel
theorem dX8_run_2 : decode cX8_run 2 = .ok (.invokevirtual 56, 3) := by decide +kernel
theorem dX8_run_5 : decode cX8_run 5 = .ok (.iload_n 1, 1) := by decide +kernel
theorem dX8_run_6 : decode cX8_run 6 = .ok (.lookupswitch 278 #[(1, 114), (2, 121), (10, 139), (11, 150), (20, 157), (30, 169), (40, 180), (41, 192), (50, 204), (60, 223), (70, 235), (80, 247), (81, 266)], 114) := by decide +kernel
theorem dX8_run_120 : decode cX8_run 120 = .ok (.iload_n 3, 1) := by decide +kernel
theorem dX8_run_121 : decode cX8_run 121 = .ok (.aload_n 0, 1) := by decide +kernel
theorem dX8_run_122 : decode cX8_run 122 = .ok (.getfield 36, 3) := by decide +kernel
theorem dX8_run_125 : decode cX8_run 125 = .ok (.iadd, 1) := by decide +kernel
theorem dX8_run_126 : decode cX8_run 126 = .ok (.ireturn, 1) := by decide +kernel
theorem dX8_runFrom_0 : decode cX8_runFrom 0 = .ok (.iload_n 1, 1) := by decide +kernel
theorem dX8_runFrom_1 : decode cX8_runFrom 1 = .ok (.istore 5, 2) := by decide +kernel
theorem dX8_runFrom_3 : decode cX8_runFrom 3 = .ok (.iconst 0, 1) := by decide +kernel
theorem dX8_runFrom_4 : decode cX8_runFrom 4 = .ok (.istore 6, 2) := by decide +kernel
theorem dX8_runFrom_6 : decode cX8_runFrom 6 = .ok (.iload 6, 2) := by decide +kernel
theorem dX8_runFrom_8 : decode cX8_runFrom 8 = .ok (.bipush 8, 2) := by decide +kernel
theorem dX8_runFrom_10 : decode cX8_runFrom 10 = .ok (.if_icmp .ge 71, 3) := by decide +kernel
theorem dX8_runFrom_13 : decode cX8_runFrom 13 = .ok (.iload 5, 2) := by decide +kernel
theorem dX8_runFrom_15 : decode cX8_runFrom 15 = .ok (.invokestatic 26, 3) := by decide +kernel
theorem dX8_runFrom_18 : decode cX8_runFrom 18 = .ok (.ifCond .eq 63, 3) := by decide +kernel
theorem dX8_runFrom_21 : decode cX8_runFrom 21 = .ok (.getstatic 50, 3) := by decide +kernel
theorem dX8_runFrom_24 : decode cX8_runFrom 24 = .ok (.iload 5, 2) := by decide +kernel
theorem dX8_runFrom_26 : decode cX8_runFrom 26 = .ok (.iconst 4, 1) := by decide +kernel
theorem dX8_runFrom_27 : decode cX8_runFrom 27 = .ok (.imul, 1) := by decide +kernel
theorem dX8_runFrom_28 : decode cX8_runFrom 28 = .ok (.iload_n 2, 1) := by decide +kernel
theorem dX8_runFrom_29 : decode cX8_runFrom 29 = .ok (.iadd, 1) := by decide +kernel
theorem dX8_runFrom_30 : decode cX8_runFrom 30 = .ok (.iaload, 1) := by decide +kernel
theorem dX8_runFrom_31 : decode cX8_runFrom 31 = .ok (.ifCond .eq 36, 3) := by decide +kernel
theorem dX8_runFrom_34 : decode cX8_runFrom 34 = .ok (.iload 4, 2) := by decide +kernel
theorem dX8_runFrom_36 : decode cX8_runFrom 36 = .ok (.bipush 30, 2) := by decide +kernel
theorem dX8_runFrom_38 : decode cX8_runFrom 38 = .ok (.if_icmp .ge 27, 3) := by decide +kernel
theorem dX8_runFrom_41 : decode cX8_runFrom 41 = .ok (.aload_n 0, 1) := by decide +kernel
theorem dX8_runFrom_42 : decode cX8_runFrom 42 = .ok (.getstatic 50, 3) := by decide +kernel
theorem dX8_runFrom_45 : decode cX8_runFrom 45 = .ok (.iload 5, 2) := by decide +kernel
theorem dX8_runFrom_47 : decode cX8_runFrom 47 = .ok (.iconst 4, 1) := by decide +kernel
theorem dX8_runFrom_48 : decode cX8_runFrom 48 = .ok (.imul, 1) := by decide +kernel
theorem dX8_runFrom_49 : decode cX8_runFrom 49 = .ok (.iload_n 2, 1) := by decide +kernel
theorem dX8_runFrom_50 : decode cX8_runFrom 50 = .ok (.iadd, 1) := by decide +kernel
theorem dX8_runFrom_51 : decode cX8_runFrom 51 = .ok (.iaload, 1) := by decide +kernel
theorem dX8_runFrom_52 : decode cX8_runFrom 52 = .ok (.iload 5, 2) := by decide +kernel
theorem dX8_runFrom_54 : decode cX8_runFrom 54 = .ok (.iload_n 3, 1) := by decide +kernel
theorem dX8_runFrom_55 : decode cX8_runFrom 55 = .ok (.iload 4, 2) := by decide +kernel
theorem dX8_runFrom_57 : decode cX8_runFrom 57 = .ok (.iconst 1, 1) := by decide +kernel
theorem dX8_runFrom_58 : decode cX8_runFrom 58 = .ok (.iadd, 1) := by decide +kernel
theorem dX8_runFrom_59 : decode cX8_runFrom 59 = .ok (.invokevirtual 53, 3) := by decide +kernel
theorem dX8_runFrom_62 : decode cX8_runFrom 62 = .ok (.goto 4, 3) := by decide +kernel
theorem dX8_runFrom_66 : decode cX8_runFrom 66 = .ok (.ireturn, 1) := by decide +kernel
theorem dX8_own_0 : decode cX8_own 0 = .ok (.aload_n 0, 1) := by decide +kernel
theorem dX8_own_1 : decode cX8_own 1 = .ok (.aload_n 0, 1) := by decide +kernel
theorem dX8_own_2 : decode cX8_own 2 = .ok (.getfield 36, 3) := by decide +kernel
theorem dX8_own_5 : decode cX8_own 5 = .ok (.invokevirtual 43, 3) := by decide +kernel
theorem dX8_own_8 : decode cX8_own 8 = .ok (.ifCond .eq 22, 3) := by decide +kernel
theorem dX8_own_11 : decode cX8_own 11 = .ok (.aload_n 0, 1) := by decide +kernel
theorem dX8_own_12 : decode cX8_own 12 = .ok (.aload_n 0, 1) := by decide +kernel
theorem dX8_own_13 : decode cX8_own 13 = .ok (.getfield 9, 3) := by decide +kernel
theorem dX8_own_16 : decode cX8_own 16 = .ok (.aload_n 0, 1) := by decide +kernel
theorem dX8_own_17 : decode cX8_own 17 = .ok (.getfield 36, 3) := by decide +kernel
theorem dX8_own_20 : decode cX8_own 20 = .ok (.iaload, 1) := by decide +kernel
theorem dX8_own_21 : decode cX8_own 21 = .ok (.iload_n 1, 1) := by decide +kernel
theorem dX8_own_22 : decode cX8_own 22 = .ok (.iload_n 2, 1) := by decide +kernel
theorem dX8_own_23 : decode cX8_own 23 = .ok (.iload_n 3, 1) := by decide +kernel
theorem dX8_own_24 : decode cX8_own 24 = .ok (.invokevirtual 46, 3) := by decide +kernel
theorem dX8_own_27 : decode cX8_own 27 = .ok (.goto 4, 3) := by decide +kernel
theorem dX8_own_31 : decode cX8_own 31 = .ok (.ireturn, 1) := by decide +kernel
theorem dX8_run_145 : decode cX8_run 145 = .ok (.aload_n 0, 1) := by decide +kernel
theorem dX8_run_146 : decode cX8_run 146 = .ok (.iconst 0, 1) := by decide +kernel
theorem dX8_run_147 : decode cX8_run 147 = .ok (.iload_n 3, 1) := by decide +kernel
theorem dX8_run_148 : decode cX8_run 148 = .ok (.iload 4, 2) := by decide +kernel
theorem dX8_run_150 : decode cX8_run 150 = .ok (.invokevirtual 39, 3) := by decide +kernel
theorem dX8_run_153 : decode cX8_run 153 = .ok (.iconst 2, 1) := by decide +kernel
theorem dX8_run_154 : decode cX8_run 154 = .ok (.imul, 1) := by decide +kernel
theorem dX8_run_155 : decode cX8_run 155 = .ok (.ireturn, 1) := by decide +kernel
theorem dX8_run_156 : decode cX8_run 156 = .ok (.iload_n 3, 1) := by decide +kernel
theorem dX8_run_157 : decode cX8_run 157 = .ok (.aload_n 0, 1) := by decide +kernel
theorem dX8_run_158 : decode cX8_run 158 = .ok (.getfield 36, 3) := by decide +kernel
theorem dX8_run_161 : decode cX8_run 161 = .ok (.ixor, 1) := by decide +kernel
theorem dX8_run_162 : decode cX8_run 162 = .ok (.ireturn, 1) := by decide +kernel
theorem dX8_run_127 : decode cX8_run 127 = .ok (.aload_n 0, 1) := by decide +kernel
theorem dX8_run_128 : decode cX8_run 128 = .ok (.iconst 1, 1) := by decide +kernel
theorem dX8_run_129 : decode cX8_run 129 = .ok (.iload_n 3, 1) := by decide +kernel
theorem dX8_run_130 : decode cX8_run 130 = .ok (.iload 4, 2) := by decide +kernel
theorem dX8_run_132 : decode cX8_run 132 = .ok (.invokevirtual 39, 3) := by decide +kernel
theorem dX8_run_135 : decode cX8_run 135 = .ok (.aload_n 0, 1) := by decide +kernel
theorem dX8_run_136 : decode cX8_run 136 = .ok (.iconst 2, 1) := by decide +kernel
theorem dX8_run_137 : decode cX8_run 137 = .ok (.iconst 1, 1) := by decide +kernel
theorem dX8_run_138 : decode cX8_run 138 = .ok (.iload 4, 2) := by decide +kernel
theorem dX8_run_140 : decode cX8_run 140 = .ok (.invokevirtual 39, 3) := by decide +kernel
theorem dX8_run_143 : decode cX8_run 143 = .ok (.isub, 1) := by decide +kernel
theorem dX8_run_144 : decode cX8_run 144 = .ok (.ireturn, 1) := by decide +kernel
theorem dX8_above_0 : decode cX8_above 0 = .ok (.iload_n 1, 1) := by decide +kernel
theorem dX8_above_1 : decode cX8_above 1 = .ok (.invokestatic 26, 3) := by decide +kernel
theorem dX8_above_4 : decode cX8_above 4 = .ok (.ifCond .eq 19, 3) := by decide +kernel
theorem dX8_above_7 : decode cX8_above 7 = .ok (.aload_n 0, 1) := by decide +kernel
theorem dX8_above_8 : decode cX8_above 8 = .ok (.getstatic 30, 3) := by decide +kernel
theorem dX8_above_11 : decode cX8_above 11 = .ok (.iload_n 1, 1) := by decide +kernel
theorem dX8_above_12 : decode cX8_above 12 = .ok (.iaload, 1) := by decide +kernel
theorem dX8_above_13 : decode cX8_above 13 = .ok (.iload_n 2, 1) := by decide +kernel
theorem dX8_above_14 : decode cX8_above 14 = .ok (.iload_n 3, 1) := by decide +kernel
theorem dX8_above_15 : decode cX8_above 15 = .ok (.iload 4, 2) := by decide +kernel
theorem dX8_above_17 : decode cX8_above 17 = .ok (.invokevirtual 46, 3) := by decide +kernel
theorem dX8_above_20 : decode cX8_above 20 = .ok (.goto 4, 3) := by decide +kernel
theorem dX8_above_24 : decode cX8_above 24 = .ok (.ireturn, 1) := by decide +kernel
theorem dX8_run_163 : decode cX8_run 163 = .ok (.aload_n 0, 1) := by decide +kernel
theorem dX8_run_164 : decode cX8_run 164 = .ok (.iload_n 2, 1) := by decide +kernel
theorem dX8_run_165 : decode cX8_run 165 = .ok (.iconst 0, 1) := by decide +kernel
theorem dX8_run_166 : decode cX8_run 166 = .ok (.iload_n 3, 1) := by decide +kernel
theorem dX8_run_167 : decode cX8_run 167 = .ok (.iload 4, 2) := by decide +kernel
theorem dX8_run_169 : decode cX8_run 169 = .ok (.invokevirtual 60, 3) := by decide +kernel
theorem dX8_run_172 : decode cX8_run 172 = .ok (.iconst 3, 1) := by decide +kernel
theorem dX8_run_173 : decode cX8_run 173 = .ok (.iadd, 1) := by decide +kernel
theorem dX8_run_174 : decode cX8_run 174 = .ok (.ireturn, 1) := by decide +kernel
theorem dX8_runFrom_67 : decode cX8_runFrom 67 = .ok (.getstatic 30, 3) := by decide +kernel
theorem dX8_runFrom_70 : decode cX8_runFrom 70 = .ok (.iload 5, 2) := by decide +kernel
theorem dX8_runFrom_72 : decode cX8_runFrom 72 = .ok (.iaload, 1) := by decide +kernel
theorem dX8_runFrom_73 : decode cX8_runFrom 73 = .ok (.istore 5, 2) := by decide +kernel
theorem dX8_runFrom_75 : decode cX8_runFrom 75 = .ok (.iinc 6 1, 3) := by decide +kernel
theorem dX8_runFrom_78 : decode cX8_runFrom 78 = .ok (.goto (-72), 3) := by decide +kernel
theorem dX8_run_175 : decode cX8_run 175 = .ok (.aload_n 0, 1) := by decide +kernel
theorem dX8_run_176 : decode cX8_run 176 = .ok (.iload_n 2, 1) := by decide +kernel
theorem dX8_run_177 : decode cX8_run 177 = .ok (.iconst 1, 1) := by decide +kernel
theorem dX8_run_178 : decode cX8_run 178 = .ok (.iload_n 3, 1) := by decide +kernel
theorem dX8_run_179 : decode cX8_run 179 = .ok (.iload 4, 2) := by decide +kernel
theorem dX8_run_181 : decode cX8_run 181 = .ok (.invokevirtual 60, 3) := by decide +kernel
theorem dX8_run_184 : decode cX8_run 184 = .ok (.ineg, 1) := by decide +kernel
theorem dX8_run_185 : decode cX8_run 185 = .ok (.ireturn, 1) := by decide +kernel
theorem dX8_run_198 : decode cX8_run 198 = .ok (.aload_n 0, 1) := by decide +kernel
theorem dX8_run_199 : decode cX8_run 199 = .ok (.iload_n 2, 1) := by decide +kernel
theorem dX8_run_200 : decode cX8_run 200 = .ok (.iconst 1, 1) := by decide +kernel
theorem dX8_run_201 : decode cX8_run 201 = .ok (.iload_n 3, 1) := by decide +kernel
theorem dX8_run_202 : decode cX8_run 202 = .ok (.iconst 1, 1) := by decide +kernel
theorem dX8_run_203 : decode cX8_run 203 = .ok (.iadd, 1) := by decide +kernel
theorem dX8_run_204 : decode cX8_run 204 = .ok (.iload 4, 2) := by decide +kernel
theorem dX8_run_206 : decode cX8_run 206 = .ok (.invokevirtual 60, 3) := by decide +kernel
theorem dX8_run_209 : decode cX8_run 209 = .ok (.ireturn, 1) := by decide +kernel
theorem dX8_run_186 : decode cX8_run 186 = .ok (.aload_n 0, 1) := by decide +kernel
theorem dX8_run_187 : decode cX8_run 187 = .ok (.iload_n 2, 1) := by decide +kernel
theorem dX8_run_188 : decode cX8_run 188 = .ok (.iconst 2, 1) := by decide +kernel
theorem dX8_run_189 : decode cX8_run 189 = .ok (.iload_n 3, 1) := by decide +kernel
theorem dX8_run_190 : decode cX8_run 190 = .ok (.iload 4, 2) := by decide +kernel
theorem dX8_run_192 : decode cX8_run 192 = .ok (.invokevirtual 60, 3) := by decide +kernel
theorem dX8_run_195 : decode cX8_run 195 = .ok (.iconst 3, 1) := by decide +kernel
theorem dX8_run_196 : decode cX8_run 196 = .ok (.imul, 1) := by decide +kernel
theorem dX8_run_197 : decode cX8_run 197 = .ok (.ireturn, 1) := by decide +kernel
theorem dX8_run_210 : decode cX8_run 210 = .ok (.aload_n 0, 1) := by decide +kernel
theorem dX8_run_211 : decode cX8_run 211 = .ok (.iload_n 2, 1) := by decide +kernel
theorem dX8_run_212 : decode cX8_run 212 = .ok (.iconst 2, 1) := by decide +kernel
theorem dX8_run_213 : decode cX8_run 213 = .ok (.iload_n 3, 1) := by decide +kernel
theorem dX8_run_214 : decode cX8_run 214 = .ok (.iload 4, 2) := by decide +kernel
theorem dX8_run_216 : decode cX8_run 216 = .ok (.invokevirtual 60, 3) := by decide +kernel
theorem dX8_run_219 : decode cX8_run 219 = .ok (.aload_n 0, 1) := by decide +kernel
theorem dX8_run_220 : decode cX8_run 220 = .ok (.iconst 0, 1) := by decide +kernel
theorem dX8_run_221 : decode cX8_run 221 = .ok (.iconst 2, 1) := by decide +kernel
theorem dX8_run_222 : decode cX8_run 222 = .ok (.iload 4, 2) := by decide +kernel
theorem dX8_run_224 : decode cX8_run 224 = .ok (.invokevirtual 39, 3) := by decide +kernel
theorem dX8_run_227 : decode cX8_run 227 = .ok (.isub, 1) := by decide +kernel
theorem dX8_run_228 : decode cX8_run 228 = .ok (.ireturn, 1) := by decide +kernel
theorem dX8_run_229 : decode cX8_run 229 = .ok (.aload_n 0, 1) := by decide +kernel
theorem dX8_run_230 : decode cX8_run 230 = .ok (.iload_n 2, 1) := by decide +kernel
theorem dX8_run_231 : decode cX8_run 231 = .ok (.iconst 3, 1) := by decide +kernel
theorem dX8_run_232 : decode cX8_run 232 = .ok (.iload_n 3, 1) := by decide +kernel
theorem dX8_run_233 : decode cX8_run 233 = .ok (.iload 4, 2) := by decide +kernel
theorem dX8_run_235 : decode cX8_run 235 = .ok (.invokevirtual 60, 3) := by decide +kernel
theorem dX8_run_238 : decode cX8_run 238 = .ok (.iconst 5, 1) := by decide +kernel
theorem dX8_run_239 : decode cX8_run 239 = .ok (.ixor, 1) := by decide +kernel
theorem dX8_run_240 : decode cX8_run 240 = .ok (.ireturn, 1) := by decide +kernel
theorem dX8_run_241 : decode cX8_run 241 = .ok (.aload_n 0, 1) := by decide +kernel
theorem dX8_run_242 : decode cX8_run 242 = .ok (.iload_n 2, 1) := by decide +kernel
theorem dX8_run_243 : decode cX8_run 243 = .ok (.iconst 0, 1) := by decide +kernel
theorem dX8_run_244 : decode cX8_run 244 = .ok (.iload_n 3, 1) := by decide +kernel
theorem dX8_run_245 : decode cX8_run 245 = .ok (.iload 4, 2) := by decide +kernel
theorem dX8_run_247 : decode cX8_run 247 = .ok (.invokevirtual 60, 3) := by decide +kernel
theorem dX8_run_250 : decode cX8_run 250 = .ok (.iconst 2, 1) := by decide +kernel
theorem dX8_run_251 : decode cX8_run 251 = .ok (.imul, 1) := by decide +kernel
theorem dX8_run_252 : decode cX8_run 252 = .ok (.ireturn, 1) := by decide +kernel
theorem dX8_run_253 : decode cX8_run 253 = .ok (.aload_n 0, 1) := by decide +kernel
theorem dX8_run_254 : decode cX8_run 254 = .ok (.iload_n 2, 1) := by decide +kernel
theorem dX8_run_255 : decode cX8_run 255 = .ok (.iconst 1, 1) := by decide +kernel
theorem dX8_run_256 : decode cX8_run 256 = .ok (.iload_n 3, 1) := by decide +kernel
theorem dX8_run_257 : decode cX8_run 257 = .ok (.iload 4, 2) := by decide +kernel
theorem dX8_run_259 : decode cX8_run 259 = .ok (.invokevirtual 60, 3) := by decide +kernel
theorem dX8_run_262 : decode cX8_run 262 = .ok (.aload_n 0, 1) := by decide +kernel
theorem dX8_run_263 : decode cX8_run 263 = .ok (.iconst 2, 1) := by decide +kernel
theorem dX8_run_264 : decode cX8_run 264 = .ok (.iconst 2, 1) := by decide +kernel
theorem dX8_run_265 : decode cX8_run 265 = .ok (.iload 4, 2) := by decide +kernel
theorem dX8_run_267 : decode cX8_run 267 = .ok (.invokevirtual 39, 3) := by decide +kernel
theorem dX8_run_270 : decode cX8_run 270 = .ok (.iadd, 1) := by decide +kernel
theorem dX8_run_271 : decode cX8_run 271 = .ok (.ireturn, 1) := by decide +kernel
theorem dX8_run_272 : decode cX8_run 272 = .ok (.aload_n 0, 1) := by decide +kernel
theorem dX8_run_273 : decode cX8_run 273 = .ok (.iload_n 2, 1) := by decide +kernel
theorem dX8_run_274 : decode cX8_run 274 = .ok (.iconst 3, 1) := by decide +kernel
theorem dX8_run_275 : decode cX8_run 275 = .ok (.iload_n 3, 1) := by decide +kernel
theorem dX8_run_276 : decode cX8_run 276 = .ok (.iload 4, 2) := by decide +kernel
theorem dX8_run_278 : decode cX8_run 278 = .ok (.invokevirtual 60, 3) := by decide +kernel
theorem dX8_run_281 : decode cX8_run 281 = .ok (.iconst 1, 1) := by decide +kernel
theorem dX8_run_282 : decode cX8_run 282 = .ok (.isub, 1) := by decide +kernel
theorem dX8_run_283 : decode cX8_run 283 = .ok (.ireturn, 1) := by decide +kernel
set_option maxRecDepth 100000 in
set_option maxHeartbeats 4000000 in
theorem c_X8_has (h : Int32) {l : Launch} {G : xG} {M : xM} {J : xJ} {b : Nat} (h_b : b ≤ 50) (e_b : M 46 2 = nI b) : x_M l G fX8_has 0 0 0 [.ref (46), .int (h)] x_SH M J (qE (some (.int (bI (0 ≤ h ∧ h < nI b)))) x_SH M J) := by
  refine xb_of pX8 (Nat.le_of_ble_eq_true rfl) rfl ?_
  refine xr_iload_n dX8_has_0 1 rfl ?_
  refine xr_if_lt (tgt := 16) dX8_has_1 rfl (fun c1 => ?_) (fun c1 => ?_)
  · refine xr_iconst (v := 0) dX8_has_16 rfl ?_
    exact xr_iret dX8_has_17 rfl rfl (⟨congrArg (fun z => some (Value.int z)) (bI_f (by grind)).symm, rfl, rfl, rfl⟩)
  · refine xr_iload_n dX8_has_4 1 rfl ?_
    refine xr_aload_n dX8_has_5 0 rfl ?_
    refine xb_get (v := nI (b)) flX8_18 dX8_has_6 s_46 rfl e_b ?_
    refine xr_icmp_ge (tgt := 16) dX8_has_9 rfl (fun c2 => ?_) (fun c2 => ?_)
    · refine xr_iconst (v := 0) dX8_has_16 rfl ?_
      exact xr_iret dX8_has_17 rfl rfl (⟨congrArg (fun z => some (Value.int z)) (bI_f (by grind)).symm, rfl, rfl, rfl⟩)
    · refine xr_iconst (v := 1) dX8_has_12 rfl ?_
      refine xr_goto (tgt := 17) dX8_has_13 rfl ?_
      exact xr_iret dX8_has_17 rfl rfl (⟨congrArg (fun z => some (Value.int z)) (bI_t (by grind)).symm, rfl, rfl, rfl⟩)
set_option maxRecDepth 100000 in
set_option maxHeartbeats 4000000 in
theorem c_X8_isFull {l : Launch} {G : xG} {M : xM} {J : xJ} {b : Nat} (h_b : b ≤ 50) (e_b : M 46 2 = nI b) : x_M l G fX8_isFull 0 0 0 [.ref (46)] x_SH M J (qE (some (.int (bI (50 ≤ b)))) x_SH M J) := by
  refine xb_of pX8 (Nat.le_of_ble_eq_true rfl) rfl ?_
  refine xr_aload_n dX8_isFull_0 0 rfl ?_
  refine xb_get (v := nI (b)) flX8_18 dX8_isFull_1 s_46 rfl e_b ?_
  refine xr_bipush (v := 50) dX8_isFull_4 rfl ?_
  refine xr_icmp_lt (tgt := 13) dX8_isFull_6 rfl (fun c1 => ?_) (fun c1 => ?_)
  · have nc1 : b < 50 := (nI_ltI (a := b) (b := 50) (by omega) (by omega)).mp c1
    refine xr_iconst (v := 0) dX8_isFull_13 rfl ?_
    exact xr_iret dX8_isFull_14 rfl rfl (⟨congrArg (fun z => some (Value.int z)) (bI_f (by omega)).symm, rfl, rfl, rfl⟩)
  · have nc1 : ¬ (b < 50) := fun q => c1 ((nI_ltI (a := b) (b := 50) (by omega) (by omega)).mpr q)
    refine xr_iconst (v := 1) dX8_isFull_9 rfl ?_
    refine xr_goto (tgt := 14) dX8_isFull_10 rfl ?_
    exact xr_iret dX8_isFull_14 rfl rfl (⟨congrArg (fun z => some (Value.int z)) (bI_t (by omega)).symm, rfl, rfl, rfl⟩)
theorem ab_k {M : xM} {b : Nat} {k v : Int32} : (x_up (x_up M 47 b k) 46 2 v) 47 b = k ∧ ∀ j, j ≠ b → (x_up (x_up M 47 b k) 46 2 v) 47 j = M 47 j := ⟨(congrFun (x_up_n _ 2 v (by decide)) b).trans (x_up_s _ _ _ _), fun j hj => (congrFun (x_up_n _ 2 v (by decide)) j).trans (x_up_k _ _ _ hj)⟩
set_option maxRecDepth 100000 in
set_option maxHeartbeats 4000000 in
theorem g_X8_addBody (k : Int32) {l : Launch} {G : xG} {M : xM} {J : xJ} {b : Nat} (h_b : b ≤ 50) (e_b : M 46 2 = nI b) : x_M l G fX8_addBody 1 0 0 [.ref (46), .int (k)] x_SH M J (qKI WBD M J (fun r M2 => r = -3 ∧ 50 ≤ b ∧ M2 46 2 = nI b ∨ r = nI b ∧ b < 50 ∧ M2 46 2 = nI (b + 1) ∧ M2 47 b = k ∧ ∀ j, j ≠ b → M2 47 j = M 47 j)) := by
  refine xb_of pX8 (Nat.le_of_ble_eq_true rfl) rfl ?_
  refine xr_aload_n dX8_addBody_0 0 rfl ?_
  refine xb_cV (As := []) (rest := []) mlX8_22 (c_X8_isFull (by omega) e_b) dX8_addBody_1 s_46 rfl rfl (Nat.le_of_ble_eq_true rfl) (by decide) (by decide) ?_
  refine xb_beq (tgt := 10) dX8_addBody_4 rfl (fun c1 => ?_) (fun c1 => ?_)
  · have hb5 : b < 50 := by omega
    refine xr_aload_n dX8_addBody_10 0 rfl ?_
    refine xr_getR flX8_9 dX8_addBody_11 s_46 rfl ?_
    refine xr_aload_n dX8_addBody_14 0 rfl ?_
    refine xb_get (v := nI (b)) flX8_18 dX8_addBody_15 s_46 rfl e_b ?_
    refine xr_iload_n dX8_addBody_18 1 rfl ?_
    refine xb_iast (j := b) dX8_addBody_19 s_47 (by omega) (by decide) ?_
    refine xr_aload_n dX8_addBody_20 0 rfl ?_
    refine xr_dup dX8_addBody_21 rfl ?_
    refine xb_get (v := nI (b)) flX8_18 dX8_addBody_22 s_46 rfl (Eq.trans (congrFun (x_up_n _ _ _ (by decide)) _) e_b) ?_
    refine xr_iconst (v := 1) dX8_addBody_25 rfl ?_
    refine xr_iadd dX8_addBody_26 ?_
    refine xb_top (y := nI (b + 1)) (nI_add (b) (1)) ?_
    refine xr_putI fpX8_18 dX8_addBody_27 s_46 rfl rfl rfl ?_
    refine xr_aload_n dX8_addBody_30 0 rfl ?_
    refine xb_get (v := nI (b + 1)) flX8_18 dX8_addBody_31 s_46 rfl (x_up_s _ _ _ _) ?_
    refine xr_iconst (v := 1) dX8_addBody_34 rfl ?_
    refine xr_isub dX8_addBody_35 ?_
    refine xb_top (y := nI b) (nI_pred b) ?_
    exact xr_iret dX8_addBody_36 rfl rfl (⟨_, rfl, rfl, rfl, (Ke.up (Or.inl (by omega)) (Ke.up (Or.inr (by omega)) Ke.rf)), (Or.inr ⟨rfl, hb5, (x_up_s _ _ _ _), ab_k⟩)⟩)
  · refine xr_bipush (v := -3) dX8_addBody_7 rfl ?_
    exact xr_iret dX8_addBody_9 rfl rfl (⟨_, rfl, rfl, rfl, Ke.rf, (Or.inl ⟨rfl, c1, e_b⟩)⟩)
set_option maxRecDepth 100000 in
set_option maxHeartbeats 4000000 in
theorem g_X8_note (nu : Int32) {l : Launch} {G : xG} {M : xM} {J : xJ} {ra : Nat} (h_ra : ra ≤ 1000) (e_ra : M 46 3 = nI ra) : x_M l G fX8_note 0 0 0 [.ref (46), .int (nu)] x_SH M J (qKV WTN M J (fun M2 => M2 46 3 = nI (ra + 1))) := by
  refine xb_of pX8 (Nat.le_of_ble_eq_true rfl) rfl ?_
  refine xr_aload_n dX8_note_0 0 rfl ?_
  refine xb_get (v := nI (ra)) flX8_33 dX8_note_1 s_46 rfl e_ra ?_
  refine xr_bipush (v := 24) dX8_note_4 rfl ?_
  refine xr_icmp_ge (tgt := 19) dX8_note_6 rfl (fun c1 => ?_) (fun c1 => ?_)
  · have nc1 : 24 ≤ ra := (nI_leI (a := 24) (b := ra) (by omega) (by omega)).mp c1
    refine xr_aload_n dX8_note_19 0 rfl ?_
    refine xr_dup dX8_note_20 rfl ?_
    refine xb_get (v := nI (ra)) flX8_33 dX8_note_21 s_46 rfl e_ra ?_
    refine xr_iconst (v := 1) dX8_note_24 rfl ?_
    refine xr_iadd dX8_note_25 ?_
    refine xb_top (y := nI (ra + 1)) (nI_add (ra) (1)) ?_
    refine xr_putI fpX8_33 dX8_note_26 s_46 rfl rfl rfl ?_
    exact xr_vret dX8_note_29 rfl (⟨rfl, rfl, rfl, (Ke.up (Or.inl (by omega)) Ke.rf), (x_up_s _ _ _ _)⟩)
  · have nc1 : ¬ (24 ≤ ra) := fun q => c1 ((nI_leI (a := 24) (b := ra) (by omega) (by omega)).mpr q)
    have hra : ra < 24 := by omega
    refine xr_aload_n dX8_note_9 0 rfl ?_
    refine xr_getR flX8_15 dX8_note_10 s_46 rfl ?_
    refine xr_aload_n dX8_note_13 0 rfl ?_
    refine xb_get (v := nI (ra)) flX8_33 dX8_note_14 s_46 rfl e_ra ?_
    refine xr_iload_n dX8_note_17 1 rfl ?_
    refine xb_iast (j := ra) dX8_note_18 s_48 (by omega) (by decide) ?_
    refine xr_aload_n dX8_note_19 0 rfl ?_
    refine xr_dup dX8_note_20 rfl ?_
    refine xb_get (v := nI (ra)) flX8_33 dX8_note_21 s_46 rfl (Eq.trans (congrFun (x_up_n _ _ _ (by decide)) _) e_ra) ?_
    refine xr_iconst (v := 1) dX8_note_24 rfl ?_
    refine xr_iadd dX8_note_25 ?_
    refine xb_top (y := nI (ra + 1)) (nI_add (ra) (1)) ?_
    refine xr_putI fpX8_33 dX8_note_26 s_46 rfl rfl rfl ?_
    exact xr_vret dX8_note_29 rfl (⟨rfl, rfl, rfl, (Ke.up (Or.inl (by omega)) (Ke.up (Or.inr (by omega)) Ke.rf)), (x_up_s _ _ _ _)⟩)
set_option maxRecDepth 100000 in
set_option maxHeartbeats 4000000 in
theorem tu0_run_1_0 {e ac : Nat} (x : Int32) (he : e + 0 ≤ 30) {l : Launch} {G : xG} {M : xM} {J : xJ} {b ra : Nat} (h_b : b ≤ 50) (e_b : M 46 2 = nI b) (h_ra : ra + 1 ≤ 900) (e_ra : M 46 3 = nI ra) (hac : ac < b) (e_ac : M 46 4 = nI ac) (e_k : M 47 ac = 0) : x_M l G fX8_run 1 0 0 [.ref (46), .int (1), .int (0), .int (x), .int (nI (e))] x_SH M J (qKI WTN M J (fun r M2 => r = (x + (nI (ac))) ∧ M2 46 3 = nI (ra + 1))) := by
  refine xb_of pX8 (Nat.le_of_ble_eq_true rfl) rfl ?_
  refine xr_aload_n dX8_run_0 0 rfl ?_
  refine xr_iload_n dX8_run_1 1 rfl ?_
  refine xr_callV (As := [.int (1)]) (rest := []) mlX8_56 (g_X8_note 1 (by omega) e_ra) dX8_run_2 s_46 rfl rfl (Nat.le_of_ble_eq_true rfl) (by decide) ⟨by decide, by decide⟩ (fun v s2 M2 J2 hq => ?_)
  obtain ⟨rfl, rfl, rfl, k3, hx1⟩ := hq
  try dsimp only [Option.toList, List.cons_append, List.nil_append]
  refine xr_iload_n dX8_run_5 1 rfl ?_
  refine xr_lookup (tgt := 120) (off := 114) dX8_run_6 (by decide) (by decide) rfl ?_
  refine xr_iload_n dX8_run_120 3 rfl ?_
  refine xr_aload_n dX8_run_121 0 rfl ?_
  refine xb_get (v := nI (ac)) flX8_36 dX8_run_122 s_46 rfl (Eq.trans (k3 46 4 (by decide)) e_ac) ?_
  refine xr_iadd dX8_run_125 ?_
  exact xr_iret dX8_run_126 rfl rfl (⟨_, rfl, rfl, rfl, (Ke.tr (fun _ _ h => h) Ke.rf k3), rfl, hx1⟩)
set_option maxRecDepth 100000 in
set_option maxHeartbeats 4000000 in
theorem tu0_runFrom_0_0 {e ac : Nat} (x : Int32) (he : e + 1 ≤ 30) {l : Launch} {G : xG} {M : xM} {J : xJ} {b ra : Nat} (h_b : b ≤ 50) (e_b : M 46 2 = nI b) (h_ra : ra + 1 ≤ 900) (e_ra : M 46 3 = nI ra) (hac : ac < b) (e_ac : M 46 4 = nI ac) (e_k : M 47 ac = 0) : x_M l G fX8_runFrom 2 0 0 [.ref (46), .int (0), .int (0), .int (x), .int (nI (e))] x_SH M J (qKI WTN M J (fun r M2 => r = (x + (nI (ac))) ∧ M2 46 3 = nI (ra + 1))) := by
  refine xb_of pX8 (Nat.le_of_ble_eq_true rfl) rfl ?_
  refine xr_iload_n dX8_runFrom_0 1 rfl ?_
  refine xr_istore (ls2 := [(5, .int (0)), (0, .ref (46)), (1, .int (0)), (2, .int (0)), (3, .int (x)), (4, .int (nI (e)))]) dX8_runFrom_1 (by decide) rfl ?_
  refine xr_iconst (v := 0) dX8_runFrom_3 rfl ?_
  refine xr_istore (ls2 := [(6, .int (0)), (5, .int (0)), (0, .ref (46)), (1, .int (0)), (2, .int (0)), (3, .int (x)), (4, .int (nI (e)))]) dX8_runFrom_4 (by decide) rfl ?_
  refine xr_iload dX8_runFrom_6 0 rfl ?_
  refine xr_bipush (v := 8) dX8_runFrom_8 rfl ?_
  refine xr_icmp_ge (tgt := 81) dX8_runFrom_10 rfl (fun c => absurd c (by decide)) (fun _ => ?_)
  refine xr_iload dX8_runFrom_13 1 rfl ?_
  refine xb_cN (As := [.int (0)]) (rest := []) mlX8_26 (c_X9_isKind 0) dX8_runFrom_15 rfl rfl (Nat.le_of_ble_eq_true rfl) (by decide) (by decide) ?_
  refine xb_beq (tgt := 81) dX8_runFrom_18 rfl (fun c => absurd (by decide) c) (fun _ => ?_)
  refine xr_getsO slX8_50 dX8_runFrom_21 ?_
  refine xr_iload dX8_runFrom_24 1 rfl ?_
  refine xr_iconst (v := 4) dX8_runFrom_26 rfl ?_
  refine xr_imul dX8_runFrom_27 ?_
  refine xb_top (y := 0) (by decide) ?_
  refine xr_iload_n dX8_runFrom_28 4 rfl ?_
  refine xr_iadd dX8_runFrom_29 ?_
  refine xb_top (y := 0) (by decide) ?_
  refine xr_tabO (by unfold vp_in; decide) dX8_runFrom_30 ?_
  refine xb_top (y := 1) (by decide) ?_
  refine xr_if_eq (tgt := 67) dX8_runFrom_31 rfl (fun c => absurd c (by decide)) (fun _ => ?_)
  refine xr_iload dX8_runFrom_34 6 rfl ?_
  refine xr_bipush (v := 30) dX8_runFrom_36 rfl ?_
  refine xr_icmp_ge (tgt := 65) dX8_runFrom_38 rfl (fun c => absurd c (nI_ge (a := e) (b := 30) (by omega) (by omega))) (fun _ => ?_)
  refine xr_aload_n dX8_runFrom_41 2 rfl ?_
  refine xr_getsO slX8_50 dX8_runFrom_42 ?_
  refine xr_iload dX8_runFrom_45 1 rfl ?_
  refine xr_iconst (v := 4) dX8_runFrom_47 rfl ?_
  refine xr_imul dX8_runFrom_48 ?_
  refine xb_top (y := 0) (by decide) ?_
  refine xr_iload_n dX8_runFrom_49 4 rfl ?_
  refine xr_iadd dX8_runFrom_50 ?_
  refine xb_top (y := 0) (by decide) ?_
  refine xr_tabO (by unfold vp_in; decide) dX8_runFrom_51 ?_
  refine xb_top (y := 1) (by decide) ?_
  refine xr_iload dX8_runFrom_52 1 rfl ?_
  refine xr_iload_n dX8_runFrom_54 5 rfl ?_
  refine xr_iload dX8_runFrom_55 6 rfl ?_
  refine xr_iconst (v := 1) dX8_runFrom_57 rfl ?_
  refine xr_iadd dX8_runFrom_58 ?_
  refine xb_top (y := nI (e + 1)) (nI_add (e) (1)) ?_
  refine xr_callV (As := [.int (1), .int (0), .int (x), .int (nI (e + 1))]) (rest := []) mlX8_53 (tu0_run_1_0 (e := e + 1) (ac := ac) x (by omega) (by omega) e_b (by omega) e_ra hac e_ac e_k) dX8_runFrom_59 s_46 rfl rfl (Nat.le_of_ble_eq_true rfl) (by decide) ⟨by decide, by decide⟩ (fun v s2 M4 J2 hq => ?_)
  obtain ⟨r6, rfl, rfl, rfl, k5, ⟨hr3, hx2⟩⟩ := hq
  try dsimp only [Option.toList, List.cons_append, List.nil_append]
  subst hr3
  refine xr_goto (tgt := 66) dX8_runFrom_62 rfl ?_
  exact xr_iret dX8_runFrom_66 rfl rfl (⟨_, rfl, rfl, rfl, (Ke.tr (fun _ _ h => h) Ke.rf k5), rfl, hx2⟩)
set_option maxRecDepth 100000 in
set_option maxHeartbeats 4000000 in
theorem tu0_own_0 {e ac : Nat} (x : Int32) (he : e + 1 ≤ 30) {l : Launch} {G : xG} {M : xM} {J : xJ} {b ra : Nat} (h_b : b ≤ 50) (e_b : M 46 2 = nI b) (h_ra : ra + 1 ≤ 900) (e_ra : M 46 3 = nI ra) (hac : ac < b) (e_ac : M 46 4 = nI ac) (e_k : M 47 ac = 0) : x_M l G fX8_own 3 0 0 [.ref (46), .int (0), .int (x), .int (nI (e))] x_SH M J (qKI WTN M J (fun r M2 => r = (x + (nI (ac))) ∧ M2 46 3 = nI (ra + 1))) := by
  refine xb_of pX8 (Nat.le_of_ble_eq_true rfl) rfl ?_
  refine xr_aload_n dX8_own_0 0 rfl ?_
  refine xr_aload_n dX8_own_1 0 rfl ?_
  refine xb_get (v := nI (ac)) flX8_36 dX8_own_2 s_46 rfl e_ac ?_
  refine xb_cV (As := [.int (nI (ac))]) (rest := []) mlX8_43 (c_X8_has (nI (ac)) (by omega) e_b) dX8_own_5 s_46 rfl rfl (Nat.le_of_ble_eq_true rfl) (by decide) (by decide) ?_
  refine xb_beq (tgt := 30) dX8_own_8 rfl (fun c => absurd ⟨nI_pos' (by omega), nI_lt (by omega) (by omega)⟩ c) (fun _ => ?_)
  refine xr_aload_n dX8_own_11 0 rfl ?_
  refine xr_aload_n dX8_own_12 0 rfl ?_
  refine xr_getR flX8_9 dX8_own_13 s_46 rfl ?_
  refine xr_aload_n dX8_own_16 0 rfl ?_
  refine xb_get (v := nI (ac)) flX8_36 dX8_own_17 s_46 rfl e_ac ?_
  refine xb_iald (j := ac) (v := 0) dX8_own_20 s_47 (by omega) (by decide) e_k ?_
  refine xr_iload_n dX8_own_21 1 rfl ?_
  refine xr_iload_n dX8_own_22 2 rfl ?_
  refine xr_iload_n dX8_own_23 3 rfl ?_
  refine xr_callV (As := [.int (0), .int (0), .int (x), .int (nI (e))]) (rest := []) mlX8_46 (tu0_runFrom_0_0 (e := e) (ac := ac) x (by omega) (by omega) e_b (by omega) e_ra hac e_ac e_k) dX8_own_24 s_46 rfl rfl (Nat.le_of_ble_eq_true rfl) (by decide) ⟨by decide, by decide⟩ (fun v s2 M4 J2 hq => ?_)
  obtain ⟨r6, rfl, rfl, rfl, k5, ⟨hr3, hx2⟩⟩ := hq
  try dsimp only [Option.toList, List.cons_append, List.nil_append]
  subst hr3
  refine xr_goto (tgt := 31) dX8_own_27 rfl ?_
  exact xr_iret dX8_own_31 rfl rfl (⟨_, rfl, rfl, rfl, (Ke.tr (fun _ _ h => h) Ke.rf k5), rfl, hx2⟩)
set_option maxRecDepth 100000 in
set_option maxHeartbeats 4000000 in
theorem tu0_run_10_0 {e ac : Nat} (x : Int32) (he : e + 1 ≤ 30) {l : Launch} {G : xG} {M : xM} {J : xJ} {b ra : Nat} (h_b : b ≤ 50) (e_b : M 46 2 = nI b) (h_ra : ra + 2 ≤ 900) (e_ra : M 46 3 = nI ra) (hac : ac < b) (e_ac : M 46 4 = nI ac) (e_k : M 47 ac = 0) : x_M l G fX8_run 4 0 0 [.ref (46), .int (10), .int (0), .int (x), .int (nI (e))] x_SH M J (qKI WTN M J (fun r M2 => r = ((x + (nI (ac))) * 2) ∧ M2 46 3 = nI (ra + 2))) := by
  refine xb_of pX8 (Nat.le_of_ble_eq_true rfl) rfl ?_
  refine xr_aload_n dX8_run_0 0 rfl ?_
  refine xr_iload_n dX8_run_1 1 rfl ?_
  refine xr_callV (As := [.int (10)]) (rest := []) mlX8_56 (g_X8_note 10 (by omega) e_ra) dX8_run_2 s_46 rfl rfl (Nat.le_of_ble_eq_true rfl) (by decide) ⟨by decide, by decide⟩ (fun v s2 M2 J2 hq => ?_)
  obtain ⟨rfl, rfl, rfl, k3, hx1⟩ := hq
  try dsimp only [Option.toList, List.cons_append, List.nil_append]
  refine xr_iload_n dX8_run_5 1 rfl ?_
  refine xr_lookup (tgt := 145) (off := 139) dX8_run_6 (by decide) (by decide) rfl ?_
  refine xr_aload_n dX8_run_145 0 rfl ?_
  refine xr_iconst (v := 0) dX8_run_146 rfl ?_
  refine xr_iload_n dX8_run_147 3 rfl ?_
  refine xr_iload dX8_run_148 4 rfl ?_
  refine xr_callV (As := [.int (0), .int (x), .int (nI (e))]) (rest := []) mlX8_39 (tu0_own_0 (e := e) (ac := ac) x (by omega) (by omega) (Eq.trans (k3 46 2 (by decide)) e_b) (by omega) hx1 hac (Eq.trans (k3 46 4 (by decide)) e_ac) (Eq.trans (k3 47 ac (by unfold WTN; omega)) e_k)) dX8_run_150 s_46 rfl rfl (Nat.le_of_ble_eq_true rfl) (by decide) ⟨by decide, by decide⟩ (fun v s2 M6 J2 hq => ?_)
  obtain ⟨r8, rfl, rfl, rfl, k7, ⟨hr5, hx4⟩⟩ := hq
  try dsimp only [Option.toList, List.cons_append, List.nil_append]
  subst hr5
  refine xr_iconst (v := 2) dX8_run_153 rfl ?_
  refine xr_imul dX8_run_154 ?_
  exact xr_iret dX8_run_155 rfl rfl (⟨_, rfl, rfl, rfl, (Ke.tr (fun _ _ h => h) (Ke.tr (fun _ _ h => h) Ke.rf k3) k7), rfl, hx4⟩)
set_option maxRecDepth 100000 in
set_option maxHeartbeats 4000000 in
theorem tu0_runFrom_0_1 {e ac : Nat} (x : Int32) (he : e + 2 ≤ 30) {l : Launch} {G : xG} {M : xM} {J : xJ} {b ra : Nat} (h_b : b ≤ 50) (e_b : M 46 2 = nI b) (h_ra : ra + 2 ≤ 900) (e_ra : M 46 3 = nI ra) (hac : ac < b) (e_ac : M 46 4 = nI ac) (e_k : M 47 ac = 0) : x_M l G fX8_runFrom 5 0 0 [.ref (46), .int (0), .int (1), .int (x), .int (nI (e))] x_SH M J (qKI WTN M J (fun r M2 => r = ((x + (nI (ac))) * 2) ∧ M2 46 3 = nI (ra + 2))) := by
  refine xb_of pX8 (Nat.le_of_ble_eq_true rfl) rfl ?_
  refine xr_iload_n dX8_runFrom_0 1 rfl ?_
  refine xr_istore (ls2 := [(5, .int (0)), (0, .ref (46)), (1, .int (0)), (2, .int (1)), (3, .int (x)), (4, .int (nI (e)))]) dX8_runFrom_1 (by decide) rfl ?_
  refine xr_iconst (v := 0) dX8_runFrom_3 rfl ?_
  refine xr_istore (ls2 := [(6, .int (0)), (5, .int (0)), (0, .ref (46)), (1, .int (0)), (2, .int (1)), (3, .int (x)), (4, .int (nI (e)))]) dX8_runFrom_4 (by decide) rfl ?_
  refine xr_iload dX8_runFrom_6 0 rfl ?_
  refine xr_bipush (v := 8) dX8_runFrom_8 rfl ?_
  refine xr_icmp_ge (tgt := 81) dX8_runFrom_10 rfl (fun c => absurd c (by decide)) (fun _ => ?_)
  refine xr_iload dX8_runFrom_13 1 rfl ?_
  refine xb_cN (As := [.int (0)]) (rest := []) mlX8_26 (c_X9_isKind 0) dX8_runFrom_15 rfl rfl (Nat.le_of_ble_eq_true rfl) (by decide) (by decide) ?_
  refine xb_beq (tgt := 81) dX8_runFrom_18 rfl (fun c => absurd (by decide) c) (fun _ => ?_)
  refine xr_getsO slX8_50 dX8_runFrom_21 ?_
  refine xr_iload dX8_runFrom_24 1 rfl ?_
  refine xr_iconst (v := 4) dX8_runFrom_26 rfl ?_
  refine xr_imul dX8_runFrom_27 ?_
  refine xb_top (y := 0) (by decide) ?_
  refine xr_iload_n dX8_runFrom_28 4 rfl ?_
  refine xr_iadd dX8_runFrom_29 ?_
  refine xb_top (y := 1) (by decide) ?_
  refine xr_tabO (by unfold vp_in; decide) dX8_runFrom_30 ?_
  refine xb_top (y := 10) (by decide) ?_
  refine xr_if_eq (tgt := 67) dX8_runFrom_31 rfl (fun c => absurd c (by decide)) (fun _ => ?_)
  refine xr_iload dX8_runFrom_34 6 rfl ?_
  refine xr_bipush (v := 30) dX8_runFrom_36 rfl ?_
  refine xr_icmp_ge (tgt := 65) dX8_runFrom_38 rfl (fun c => absurd c (nI_ge (a := e) (b := 30) (by omega) (by omega))) (fun _ => ?_)
  refine xr_aload_n dX8_runFrom_41 2 rfl ?_
  refine xr_getsO slX8_50 dX8_runFrom_42 ?_
  refine xr_iload dX8_runFrom_45 1 rfl ?_
  refine xr_iconst (v := 4) dX8_runFrom_47 rfl ?_
  refine xr_imul dX8_runFrom_48 ?_
  refine xb_top (y := 0) (by decide) ?_
  refine xr_iload_n dX8_runFrom_49 4 rfl ?_
  refine xr_iadd dX8_runFrom_50 ?_
  refine xb_top (y := 1) (by decide) ?_
  refine xr_tabO (by unfold vp_in; decide) dX8_runFrom_51 ?_
  refine xb_top (y := 10) (by decide) ?_
  refine xr_iload dX8_runFrom_52 1 rfl ?_
  refine xr_iload_n dX8_runFrom_54 5 rfl ?_
  refine xr_iload dX8_runFrom_55 6 rfl ?_
  refine xr_iconst (v := 1) dX8_runFrom_57 rfl ?_
  refine xr_iadd dX8_runFrom_58 ?_
  refine xb_top (y := nI (e + 1)) (nI_add (e) (1)) ?_
  refine xr_callV (As := [.int (10), .int (0), .int (x), .int (nI (e + 1))]) (rest := []) mlX8_53 (tu0_run_10_0 (e := e + 1) (ac := ac) x (by omega) (by omega) e_b (by omega) e_ra hac e_ac e_k) dX8_runFrom_59 s_46 rfl rfl (Nat.le_of_ble_eq_true rfl) (by decide) ⟨by decide, by decide⟩ (fun v s2 M4 J2 hq => ?_)
  obtain ⟨r6, rfl, rfl, rfl, k5, ⟨hr3, hx2⟩⟩ := hq
  try dsimp only [Option.toList, List.cons_append, List.nil_append]
  subst hr3
  refine xr_goto (tgt := 66) dX8_runFrom_62 rfl ?_
  exact xr_iret dX8_runFrom_66 rfl rfl (⟨_, rfl, rfl, rfl, (Ke.tr (fun _ _ h => h) Ke.rf k5), rfl, hx2⟩)
set_option maxRecDepth 100000 in
set_option maxHeartbeats 4000000 in
theorem tu0_own_1 {e ac : Nat} (x : Int32) (he : e + 2 ≤ 30) {l : Launch} {G : xG} {M : xM} {J : xJ} {b ra : Nat} (h_b : b ≤ 50) (e_b : M 46 2 = nI b) (h_ra : ra + 2 ≤ 900) (e_ra : M 46 3 = nI ra) (hac : ac < b) (e_ac : M 46 4 = nI ac) (e_k : M 47 ac = 0) : x_M l G fX8_own 6 0 0 [.ref (46), .int (1), .int (x), .int (nI (e))] x_SH M J (qKI WTN M J (fun r M2 => r = ((x + (nI (ac))) * 2) ∧ M2 46 3 = nI (ra + 2))) := by
  refine xb_of pX8 (Nat.le_of_ble_eq_true rfl) rfl ?_
  refine xr_aload_n dX8_own_0 0 rfl ?_
  refine xr_aload_n dX8_own_1 0 rfl ?_
  refine xb_get (v := nI (ac)) flX8_36 dX8_own_2 s_46 rfl e_ac ?_
  refine xb_cV (As := [.int (nI (ac))]) (rest := []) mlX8_43 (c_X8_has (nI (ac)) (by omega) e_b) dX8_own_5 s_46 rfl rfl (Nat.le_of_ble_eq_true rfl) (by decide) (by decide) ?_
  refine xb_beq (tgt := 30) dX8_own_8 rfl (fun c => absurd ⟨nI_pos' (by omega), nI_lt (by omega) (by omega)⟩ c) (fun _ => ?_)
  refine xr_aload_n dX8_own_11 0 rfl ?_
  refine xr_aload_n dX8_own_12 0 rfl ?_
  refine xr_getR flX8_9 dX8_own_13 s_46 rfl ?_
  refine xr_aload_n dX8_own_16 0 rfl ?_
  refine xb_get (v := nI (ac)) flX8_36 dX8_own_17 s_46 rfl e_ac ?_
  refine xb_iald (j := ac) (v := 0) dX8_own_20 s_47 (by omega) (by decide) e_k ?_
  refine xr_iload_n dX8_own_21 1 rfl ?_
  refine xr_iload_n dX8_own_22 2 rfl ?_
  refine xr_iload_n dX8_own_23 3 rfl ?_
  refine xr_callV (As := [.int (0), .int (1), .int (x), .int (nI (e))]) (rest := []) mlX8_46 (tu0_runFrom_0_1 (e := e) (ac := ac) x (by omega) (by omega) e_b (by omega) e_ra hac e_ac e_k) dX8_own_24 s_46 rfl rfl (Nat.le_of_ble_eq_true rfl) (by decide) ⟨by decide, by decide⟩ (fun v s2 M4 J2 hq => ?_)
  obtain ⟨r6, rfl, rfl, rfl, k5, ⟨hr3, hx2⟩⟩ := hq
  try dsimp only [Option.toList, List.cons_append, List.nil_append]
  subst hr3
  refine xr_goto (tgt := 31) dX8_own_27 rfl ?_
  exact xr_iret dX8_own_31 rfl rfl (⟨_, rfl, rfl, rfl, (Ke.tr (fun _ _ h => h) Ke.rf k5), rfl, hx2⟩)
set_option maxRecDepth 100000 in
set_option maxHeartbeats 4000000 in
theorem tu0_run_11_0 {e ac : Nat} (x : Int32) (he : e + 0 ≤ 30) {l : Launch} {G : xG} {M : xM} {J : xJ} {b ra : Nat} (h_b : b ≤ 50) (e_b : M 46 2 = nI b) (h_ra : ra + 1 ≤ 900) (e_ra : M 46 3 = nI ra) (hac : ac < b) (e_ac : M 46 4 = nI ac) (e_k : M 47 ac = 0) : x_M l G fX8_run 1 0 0 [.ref (46), .int (11), .int (0), .int (x), .int (nI (e))] x_SH M J (qKI WTN M J (fun r M2 => r = (x ^^^ (nI (ac))) ∧ M2 46 3 = nI (ra + 1))) := by
  refine xb_of pX8 (Nat.le_of_ble_eq_true rfl) rfl ?_
  refine xr_aload_n dX8_run_0 0 rfl ?_
  refine xr_iload_n dX8_run_1 1 rfl ?_
  refine xr_callV (As := [.int (11)]) (rest := []) mlX8_56 (g_X8_note 11 (by omega) e_ra) dX8_run_2 s_46 rfl rfl (Nat.le_of_ble_eq_true rfl) (by decide) ⟨by decide, by decide⟩ (fun v s2 M2 J2 hq => ?_)
  obtain ⟨rfl, rfl, rfl, k3, hx1⟩ := hq
  try dsimp only [Option.toList, List.cons_append, List.nil_append]
  refine xr_iload_n dX8_run_5 1 rfl ?_
  refine xr_lookup (tgt := 156) (off := 150) dX8_run_6 (by decide) (by decide) rfl ?_
  refine xr_iload_n dX8_run_156 3 rfl ?_
  refine xr_aload_n dX8_run_157 0 rfl ?_
  refine xb_get (v := nI (ac)) flX8_36 dX8_run_158 s_46 rfl (Eq.trans (k3 46 4 (by decide)) e_ac) ?_
  refine xr_ixor dX8_run_161 ?_
  exact xr_iret dX8_run_162 rfl rfl (⟨_, rfl, rfl, rfl, (Ke.tr (fun _ _ h => h) Ke.rf k3), rfl, hx1⟩)
set_option maxRecDepth 100000 in
set_option maxHeartbeats 4000000 in
theorem tu0_runFrom_0_2 {e ac : Nat} (x : Int32) (he : e + 1 ≤ 30) {l : Launch} {G : xG} {M : xM} {J : xJ} {b ra : Nat} (h_b : b ≤ 50) (e_b : M 46 2 = nI b) (h_ra : ra + 1 ≤ 900) (e_ra : M 46 3 = nI ra) (hac : ac < b) (e_ac : M 46 4 = nI ac) (e_k : M 47 ac = 0) : x_M l G fX8_runFrom 2 0 0 [.ref (46), .int (0), .int (2), .int (x), .int (nI (e))] x_SH M J (qKI WTN M J (fun r M2 => r = (x ^^^ (nI (ac))) ∧ M2 46 3 = nI (ra + 1))) := by
  refine xb_of pX8 (Nat.le_of_ble_eq_true rfl) rfl ?_
  refine xr_iload_n dX8_runFrom_0 1 rfl ?_
  refine xr_istore (ls2 := [(5, .int (0)), (0, .ref (46)), (1, .int (0)), (2, .int (2)), (3, .int (x)), (4, .int (nI (e)))]) dX8_runFrom_1 (by decide) rfl ?_
  refine xr_iconst (v := 0) dX8_runFrom_3 rfl ?_
  refine xr_istore (ls2 := [(6, .int (0)), (5, .int (0)), (0, .ref (46)), (1, .int (0)), (2, .int (2)), (3, .int (x)), (4, .int (nI (e)))]) dX8_runFrom_4 (by decide) rfl ?_
  refine xr_iload dX8_runFrom_6 0 rfl ?_
  refine xr_bipush (v := 8) dX8_runFrom_8 rfl ?_
  refine xr_icmp_ge (tgt := 81) dX8_runFrom_10 rfl (fun c => absurd c (by decide)) (fun _ => ?_)
  refine xr_iload dX8_runFrom_13 1 rfl ?_
  refine xb_cN (As := [.int (0)]) (rest := []) mlX8_26 (c_X9_isKind 0) dX8_runFrom_15 rfl rfl (Nat.le_of_ble_eq_true rfl) (by decide) (by decide) ?_
  refine xb_beq (tgt := 81) dX8_runFrom_18 rfl (fun c => absurd (by decide) c) (fun _ => ?_)
  refine xr_getsO slX8_50 dX8_runFrom_21 ?_
  refine xr_iload dX8_runFrom_24 1 rfl ?_
  refine xr_iconst (v := 4) dX8_runFrom_26 rfl ?_
  refine xr_imul dX8_runFrom_27 ?_
  refine xb_top (y := 0) (by decide) ?_
  refine xr_iload_n dX8_runFrom_28 4 rfl ?_
  refine xr_iadd dX8_runFrom_29 ?_
  refine xb_top (y := 2) (by decide) ?_
  refine xr_tabO (by unfold vp_in; decide) dX8_runFrom_30 ?_
  refine xb_top (y := 11) (by decide) ?_
  refine xr_if_eq (tgt := 67) dX8_runFrom_31 rfl (fun c => absurd c (by decide)) (fun _ => ?_)
  refine xr_iload dX8_runFrom_34 6 rfl ?_
  refine xr_bipush (v := 30) dX8_runFrom_36 rfl ?_
  refine xr_icmp_ge (tgt := 65) dX8_runFrom_38 rfl (fun c => absurd c (nI_ge (a := e) (b := 30) (by omega) (by omega))) (fun _ => ?_)
  refine xr_aload_n dX8_runFrom_41 2 rfl ?_
  refine xr_getsO slX8_50 dX8_runFrom_42 ?_
  refine xr_iload dX8_runFrom_45 1 rfl ?_
  refine xr_iconst (v := 4) dX8_runFrom_47 rfl ?_
  refine xr_imul dX8_runFrom_48 ?_
  refine xb_top (y := 0) (by decide) ?_
  refine xr_iload_n dX8_runFrom_49 4 rfl ?_
  refine xr_iadd dX8_runFrom_50 ?_
  refine xb_top (y := 2) (by decide) ?_
  refine xr_tabO (by unfold vp_in; decide) dX8_runFrom_51 ?_
  refine xb_top (y := 11) (by decide) ?_
  refine xr_iload dX8_runFrom_52 1 rfl ?_
  refine xr_iload_n dX8_runFrom_54 5 rfl ?_
  refine xr_iload dX8_runFrom_55 6 rfl ?_
  refine xr_iconst (v := 1) dX8_runFrom_57 rfl ?_
  refine xr_iadd dX8_runFrom_58 ?_
  refine xb_top (y := nI (e + 1)) (nI_add (e) (1)) ?_
  refine xr_callV (As := [.int (11), .int (0), .int (x), .int (nI (e + 1))]) (rest := []) mlX8_53 (tu0_run_11_0 (e := e + 1) (ac := ac) x (by omega) (by omega) e_b (by omega) e_ra hac e_ac e_k) dX8_runFrom_59 s_46 rfl rfl (Nat.le_of_ble_eq_true rfl) (by decide) ⟨by decide, by decide⟩ (fun v s2 M4 J2 hq => ?_)
  obtain ⟨r6, rfl, rfl, rfl, k5, ⟨hr3, hx2⟩⟩ := hq
  try dsimp only [Option.toList, List.cons_append, List.nil_append]
  subst hr3
  refine xr_goto (tgt := 66) dX8_runFrom_62 rfl ?_
  exact xr_iret dX8_runFrom_66 rfl rfl (⟨_, rfl, rfl, rfl, (Ke.tr (fun _ _ h => h) Ke.rf k5), rfl, hx2⟩)
set_option maxRecDepth 100000 in
set_option maxHeartbeats 4000000 in
theorem tu0_own_2 {e ac : Nat} (x : Int32) (he : e + 1 ≤ 30) {l : Launch} {G : xG} {M : xM} {J : xJ} {b ra : Nat} (h_b : b ≤ 50) (e_b : M 46 2 = nI b) (h_ra : ra + 1 ≤ 900) (e_ra : M 46 3 = nI ra) (hac : ac < b) (e_ac : M 46 4 = nI ac) (e_k : M 47 ac = 0) : x_M l G fX8_own 3 0 0 [.ref (46), .int (2), .int (x), .int (nI (e))] x_SH M J (qKI WTN M J (fun r M2 => r = (x ^^^ (nI (ac))) ∧ M2 46 3 = nI (ra + 1))) := by
  refine xb_of pX8 (Nat.le_of_ble_eq_true rfl) rfl ?_
  refine xr_aload_n dX8_own_0 0 rfl ?_
  refine xr_aload_n dX8_own_1 0 rfl ?_
  refine xb_get (v := nI (ac)) flX8_36 dX8_own_2 s_46 rfl e_ac ?_
  refine xb_cV (As := [.int (nI (ac))]) (rest := []) mlX8_43 (c_X8_has (nI (ac)) (by omega) e_b) dX8_own_5 s_46 rfl rfl (Nat.le_of_ble_eq_true rfl) (by decide) (by decide) ?_
  refine xb_beq (tgt := 30) dX8_own_8 rfl (fun c => absurd ⟨nI_pos' (by omega), nI_lt (by omega) (by omega)⟩ c) (fun _ => ?_)
  refine xr_aload_n dX8_own_11 0 rfl ?_
  refine xr_aload_n dX8_own_12 0 rfl ?_
  refine xr_getR flX8_9 dX8_own_13 s_46 rfl ?_
  refine xr_aload_n dX8_own_16 0 rfl ?_
  refine xb_get (v := nI (ac)) flX8_36 dX8_own_17 s_46 rfl e_ac ?_
  refine xb_iald (j := ac) (v := 0) dX8_own_20 s_47 (by omega) (by decide) e_k ?_
  refine xr_iload_n dX8_own_21 1 rfl ?_
  refine xr_iload_n dX8_own_22 2 rfl ?_
  refine xr_iload_n dX8_own_23 3 rfl ?_
  refine xr_callV (As := [.int (0), .int (2), .int (x), .int (nI (e))]) (rest := []) mlX8_46 (tu0_runFrom_0_2 (e := e) (ac := ac) x (by omega) (by omega) e_b (by omega) e_ra hac e_ac e_k) dX8_own_24 s_46 rfl rfl (Nat.le_of_ble_eq_true rfl) (by decide) ⟨by decide, by decide⟩ (fun v s2 M4 J2 hq => ?_)
  obtain ⟨r6, rfl, rfl, rfl, k5, ⟨hr3, hx2⟩⟩ := hq
  try dsimp only [Option.toList, List.cons_append, List.nil_append]
  subst hr3
  refine xr_goto (tgt := 31) dX8_own_27 rfl ?_
  exact xr_iret dX8_own_31 rfl rfl (⟨_, rfl, rfl, rfl, (Ke.tr (fun _ _ h => h) Ke.rf k5), rfl, hx2⟩)
set_option maxRecDepth 100000 in
set_option maxHeartbeats 4000000 in
theorem tu0_run_2_0 {e ac : Nat} (x : Int32) (he : e + 2 ≤ 30) {l : Launch} {G : xG} {M : xM} {J : xJ} {b ra : Nat} (h_b : b ≤ 50) (e_b : M 46 2 = nI b) (h_ra : ra + 4 ≤ 900) (e_ra : M 46 3 = nI ra) (hac : ac < b) (e_ac : M 46 4 = nI ac) (e_k : M 47 ac = 0) : x_M l G fX8_run 7 0 0 [.ref (46), .int (2), .int (0), .int (x), .int (nI (e))] x_SH M J (qKI WTN M J (fun r M2 => r = (((x + (nI (ac))) * 2) - (1 ^^^ (nI (ac)))) ∧ M2 46 3 = nI (ra + 4))) := by
  refine xb_of pX8 (Nat.le_of_ble_eq_true rfl) rfl ?_
  refine xr_aload_n dX8_run_0 0 rfl ?_
  refine xr_iload_n dX8_run_1 1 rfl ?_
  refine xr_callV (As := [.int (2)]) (rest := []) mlX8_56 (g_X8_note 2 (by omega) e_ra) dX8_run_2 s_46 rfl rfl (Nat.le_of_ble_eq_true rfl) (by decide) ⟨by decide, by decide⟩ (fun v s2 M2 J2 hq => ?_)
  obtain ⟨rfl, rfl, rfl, k3, hx1⟩ := hq
  try dsimp only [Option.toList, List.cons_append, List.nil_append]
  refine xr_iload_n dX8_run_5 1 rfl ?_
  refine xr_lookup (tgt := 127) (off := 121) dX8_run_6 (by decide) (by decide) rfl ?_
  refine xr_aload_n dX8_run_127 0 rfl ?_
  refine xr_iconst (v := 1) dX8_run_128 rfl ?_
  refine xr_iload_n dX8_run_129 3 rfl ?_
  refine xr_iload dX8_run_130 4 rfl ?_
  refine xr_callV (As := [.int (1), .int (x), .int (nI (e))]) (rest := []) mlX8_39 (tu0_own_1 (e := e) (ac := ac) x (by omega) (by omega) (Eq.trans (k3 46 2 (by decide)) e_b) (by omega) hx1 hac (Eq.trans (k3 46 4 (by decide)) e_ac) (Eq.trans (k3 47 ac (by unfold WTN; omega)) e_k)) dX8_run_132 s_46 rfl rfl (Nat.le_of_ble_eq_true rfl) (by decide) ⟨by decide, by decide⟩ (fun v s2 M6 J2 hq => ?_)
  obtain ⟨r8, rfl, rfl, rfl, k7, ⟨hr5, hx4⟩⟩ := hq
  try dsimp only [Option.toList, List.cons_append, List.nil_append]
  subst hr5
  refine xr_aload_n dX8_run_135 0 rfl ?_
  refine xr_iconst (v := 2) dX8_run_136 rfl ?_
  refine xr_iconst (v := 1) dX8_run_137 rfl ?_
  refine xr_iload dX8_run_138 4 rfl ?_
  refine xr_callV (As := [.int (2), .int (1), .int (nI (e))]) (rest := [.int (((x + (nI (ac))) * 2))]) mlX8_39 (tu0_own_2 (e := e) (ac := ac) 1 (by omega) (by omega) (Eq.trans (k7 46 2 (by decide)) (Eq.trans (k3 46 2 (by decide)) e_b)) (by omega) hx4 hac (Eq.trans (k7 46 4 (by decide)) (Eq.trans (k3 46 4 (by decide)) e_ac)) (Eq.trans (k7 47 ac (by unfold WTN; omega)) (Eq.trans (k3 47 ac (by unfold WTN; omega)) e_k))) dX8_run_140 s_46 rfl rfl (Nat.le_of_ble_eq_true rfl) (by decide) ⟨by decide, by decide⟩ (fun v s2 M11 J2 hq => ?_)
  obtain ⟨r13, rfl, rfl, rfl, k12, ⟨hr10, hx9⟩⟩ := hq
  try dsimp only [Option.toList, List.cons_append, List.nil_append]
  subst hr10
  refine xr_isub dX8_run_143 ?_
  exact xr_iret dX8_run_144 rfl rfl (⟨_, rfl, rfl, rfl, (Ke.tr (fun _ _ h => h) (Ke.tr (fun _ _ h => h) (Ke.tr (fun _ _ h => h) Ke.rf k3) k7) k12), rfl, hx9⟩)
set_option maxRecDepth 100000 in
set_option maxHeartbeats 4000000 in
theorem tu0_runFrom_0_3 {e ac : Nat} (x : Int32) (he : e + 3 ≤ 30) {l : Launch} {G : xG} {M : xM} {J : xJ} {b ra : Nat} (h_b : b ≤ 50) (e_b : M 46 2 = nI b) (h_ra : ra + 4 ≤ 900) (e_ra : M 46 3 = nI ra) (hac : ac < b) (e_ac : M 46 4 = nI ac) (e_k : M 47 ac = 0) : x_M l G fX8_runFrom 8 0 0 [.ref (46), .int (0), .int (3), .int (x), .int (nI (e))] x_SH M J (qKI WTN M J (fun r M2 => r = (((x + (nI (ac))) * 2) - (1 ^^^ (nI (ac)))) ∧ M2 46 3 = nI (ra + 4))) := by
  refine xb_of pX8 (Nat.le_of_ble_eq_true rfl) rfl ?_
  refine xr_iload_n dX8_runFrom_0 1 rfl ?_
  refine xr_istore (ls2 := [(5, .int (0)), (0, .ref (46)), (1, .int (0)), (2, .int (3)), (3, .int (x)), (4, .int (nI (e)))]) dX8_runFrom_1 (by decide) rfl ?_
  refine xr_iconst (v := 0) dX8_runFrom_3 rfl ?_
  refine xr_istore (ls2 := [(6, .int (0)), (5, .int (0)), (0, .ref (46)), (1, .int (0)), (2, .int (3)), (3, .int (x)), (4, .int (nI (e)))]) dX8_runFrom_4 (by decide) rfl ?_
  refine xr_iload dX8_runFrom_6 0 rfl ?_
  refine xr_bipush (v := 8) dX8_runFrom_8 rfl ?_
  refine xr_icmp_ge (tgt := 81) dX8_runFrom_10 rfl (fun c => absurd c (by decide)) (fun _ => ?_)
  refine xr_iload dX8_runFrom_13 1 rfl ?_
  refine xb_cN (As := [.int (0)]) (rest := []) mlX8_26 (c_X9_isKind 0) dX8_runFrom_15 rfl rfl (Nat.le_of_ble_eq_true rfl) (by decide) (by decide) ?_
  refine xb_beq (tgt := 81) dX8_runFrom_18 rfl (fun c => absurd (by decide) c) (fun _ => ?_)
  refine xr_getsO slX8_50 dX8_runFrom_21 ?_
  refine xr_iload dX8_runFrom_24 1 rfl ?_
  refine xr_iconst (v := 4) dX8_runFrom_26 rfl ?_
  refine xr_imul dX8_runFrom_27 ?_
  refine xb_top (y := 0) (by decide) ?_
  refine xr_iload_n dX8_runFrom_28 4 rfl ?_
  refine xr_iadd dX8_runFrom_29 ?_
  refine xb_top (y := 3) (by decide) ?_
  refine xr_tabO (by unfold vp_in; decide) dX8_runFrom_30 ?_
  refine xb_top (y := 2) (by decide) ?_
  refine xr_if_eq (tgt := 67) dX8_runFrom_31 rfl (fun c => absurd c (by decide)) (fun _ => ?_)
  refine xr_iload dX8_runFrom_34 6 rfl ?_
  refine xr_bipush (v := 30) dX8_runFrom_36 rfl ?_
  refine xr_icmp_ge (tgt := 65) dX8_runFrom_38 rfl (fun c => absurd c (nI_ge (a := e) (b := 30) (by omega) (by omega))) (fun _ => ?_)
  refine xr_aload_n dX8_runFrom_41 2 rfl ?_
  refine xr_getsO slX8_50 dX8_runFrom_42 ?_
  refine xr_iload dX8_runFrom_45 1 rfl ?_
  refine xr_iconst (v := 4) dX8_runFrom_47 rfl ?_
  refine xr_imul dX8_runFrom_48 ?_
  refine xb_top (y := 0) (by decide) ?_
  refine xr_iload_n dX8_runFrom_49 4 rfl ?_
  refine xr_iadd dX8_runFrom_50 ?_
  refine xb_top (y := 3) (by decide) ?_
  refine xr_tabO (by unfold vp_in; decide) dX8_runFrom_51 ?_
  refine xb_top (y := 2) (by decide) ?_
  refine xr_iload dX8_runFrom_52 1 rfl ?_
  refine xr_iload_n dX8_runFrom_54 5 rfl ?_
  refine xr_iload dX8_runFrom_55 6 rfl ?_
  refine xr_iconst (v := 1) dX8_runFrom_57 rfl ?_
  refine xr_iadd dX8_runFrom_58 ?_
  refine xb_top (y := nI (e + 1)) (nI_add (e) (1)) ?_
  refine xr_callV (As := [.int (2), .int (0), .int (x), .int (nI (e + 1))]) (rest := []) mlX8_53 (tu0_run_2_0 (e := e + 1) (ac := ac) x (by omega) (by omega) e_b (by omega) e_ra hac e_ac e_k) dX8_runFrom_59 s_46 rfl rfl (Nat.le_of_ble_eq_true rfl) (by decide) ⟨by decide, by decide⟩ (fun v s2 M4 J2 hq => ?_)
  obtain ⟨r6, rfl, rfl, rfl, k5, ⟨hr3, hx2⟩⟩ := hq
  try dsimp only [Option.toList, List.cons_append, List.nil_append]
  subst hr3
  refine xr_goto (tgt := 66) dX8_runFrom_62 rfl ?_
  exact xr_iret dX8_runFrom_66 rfl rfl (⟨_, rfl, rfl, rfl, (Ke.tr (fun _ _ h => h) Ke.rf k5), rfl, hx2⟩)
set_option maxRecDepth 100000 in
set_option maxHeartbeats 4000000 in
theorem tu0_own_3 {e ac : Nat} (x : Int32) (he : e + 3 ≤ 30) {l : Launch} {G : xG} {M : xM} {J : xJ} {b ra : Nat} (h_b : b ≤ 50) (e_b : M 46 2 = nI b) (h_ra : ra + 4 ≤ 900) (e_ra : M 46 3 = nI ra) (hac : ac < b) (e_ac : M 46 4 = nI ac) (e_k : M 47 ac = 0) : x_M l G fX8_own 9 0 0 [.ref (46), .int (3), .int (x), .int (nI (e))] x_SH M J (qKI WTN M J (fun r M2 => r = (((x + (nI (ac))) * 2) - (1 ^^^ (nI (ac)))) ∧ M2 46 3 = nI (ra + 4))) := by
  refine xb_of pX8 (Nat.le_of_ble_eq_true rfl) rfl ?_
  refine xr_aload_n dX8_own_0 0 rfl ?_
  refine xr_aload_n dX8_own_1 0 rfl ?_
  refine xb_get (v := nI (ac)) flX8_36 dX8_own_2 s_46 rfl e_ac ?_
  refine xb_cV (As := [.int (nI (ac))]) (rest := []) mlX8_43 (c_X8_has (nI (ac)) (by omega) e_b) dX8_own_5 s_46 rfl rfl (Nat.le_of_ble_eq_true rfl) (by decide) (by decide) ?_
  refine xb_beq (tgt := 30) dX8_own_8 rfl (fun c => absurd ⟨nI_pos' (by omega), nI_lt (by omega) (by omega)⟩ c) (fun _ => ?_)
  refine xr_aload_n dX8_own_11 0 rfl ?_
  refine xr_aload_n dX8_own_12 0 rfl ?_
  refine xr_getR flX8_9 dX8_own_13 s_46 rfl ?_
  refine xr_aload_n dX8_own_16 0 rfl ?_
  refine xb_get (v := nI (ac)) flX8_36 dX8_own_17 s_46 rfl e_ac ?_
  refine xb_iald (j := ac) (v := 0) dX8_own_20 s_47 (by omega) (by decide) e_k ?_
  refine xr_iload_n dX8_own_21 1 rfl ?_
  refine xr_iload_n dX8_own_22 2 rfl ?_
  refine xr_iload_n dX8_own_23 3 rfl ?_
  refine xr_callV (As := [.int (0), .int (3), .int (x), .int (nI (e))]) (rest := []) mlX8_46 (tu0_runFrom_0_3 (e := e) (ac := ac) x (by omega) (by omega) e_b (by omega) e_ra hac e_ac e_k) dX8_own_24 s_46 rfl rfl (Nat.le_of_ble_eq_true rfl) (by decide) ⟨by decide, by decide⟩ (fun v s2 M4 J2 hq => ?_)
  obtain ⟨r6, rfl, rfl, rfl, k5, ⟨hr3, hx2⟩⟩ := hq
  try dsimp only [Option.toList, List.cons_append, List.nil_append]
  subst hr3
  refine xr_goto (tgt := 31) dX8_own_27 rfl ?_
  exact xr_iret dX8_own_31 rfl rfl (⟨_, rfl, rfl, rfl, (Ke.tr (fun _ _ h => h) Ke.rf k5), rfl, hx2⟩)
set_option maxRecDepth 100000 in
set_option maxHeartbeats 4000000 in
theorem tu1_run_1_0 {e ac : Nat} (x : Int32) (he : e + 0 ≤ 30) {l : Launch} {G : xG} {M : xM} {J : xJ} {b ra : Nat} (h_b : b ≤ 50) (e_b : M 46 2 = nI b) (h_ra : ra + 1 ≤ 900) (e_ra : M 46 3 = nI ra) (hac : ac < b) (e_ac : M 46 4 = nI ac) (e_k : M 47 ac = 1) : x_M l G fX8_run 1 0 0 [.ref (46), .int (1), .int (0), .int (x), .int (nI (e))] x_SH M J (qKI WTN M J (fun r M2 => r = (x + (nI (ac))) ∧ M2 46 3 = nI (ra + 1))) := by
  refine xb_of pX8 (Nat.le_of_ble_eq_true rfl) rfl ?_
  refine xr_aload_n dX8_run_0 0 rfl ?_
  refine xr_iload_n dX8_run_1 1 rfl ?_
  refine xr_callV (As := [.int (1)]) (rest := []) mlX8_56 (g_X8_note 1 (by omega) e_ra) dX8_run_2 s_46 rfl rfl (Nat.le_of_ble_eq_true rfl) (by decide) ⟨by decide, by decide⟩ (fun v s2 M2 J2 hq => ?_)
  obtain ⟨rfl, rfl, rfl, k3, hx1⟩ := hq
  try dsimp only [Option.toList, List.cons_append, List.nil_append]
  refine xr_iload_n dX8_run_5 1 rfl ?_
  refine xr_lookup (tgt := 120) (off := 114) dX8_run_6 (by decide) (by decide) rfl ?_
  refine xr_iload_n dX8_run_120 3 rfl ?_
  refine xr_aload_n dX8_run_121 0 rfl ?_
  refine xb_get (v := nI (ac)) flX8_36 dX8_run_122 s_46 rfl (Eq.trans (k3 46 4 (by decide)) e_ac) ?_
  refine xr_iadd dX8_run_125 ?_
  exact xr_iret dX8_run_126 rfl rfl (⟨_, rfl, rfl, rfl, (Ke.tr (fun _ _ h => h) Ke.rf k3), rfl, hx1⟩)
set_option maxRecDepth 100000 in
set_option maxHeartbeats 4000000 in
theorem tu1_runFrom_0_0 {e ac : Nat} (x : Int32) (he : e + 1 ≤ 30) {l : Launch} {G : xG} {M : xM} {J : xJ} {b ra : Nat} (h_b : b ≤ 50) (e_b : M 46 2 = nI b) (h_ra : ra + 1 ≤ 900) (e_ra : M 46 3 = nI ra) (hac : ac < b) (e_ac : M 46 4 = nI ac) (e_k : M 47 ac = 1) : x_M l G fX8_runFrom 2 0 0 [.ref (46), .int (0), .int (0), .int (x), .int (nI (e))] x_SH M J (qKI WTN M J (fun r M2 => r = (x + (nI (ac))) ∧ M2 46 3 = nI (ra + 1))) := by
  refine xb_of pX8 (Nat.le_of_ble_eq_true rfl) rfl ?_
  refine xr_iload_n dX8_runFrom_0 1 rfl ?_
  refine xr_istore (ls2 := [(5, .int (0)), (0, .ref (46)), (1, .int (0)), (2, .int (0)), (3, .int (x)), (4, .int (nI (e)))]) dX8_runFrom_1 (by decide) rfl ?_
  refine xr_iconst (v := 0) dX8_runFrom_3 rfl ?_
  refine xr_istore (ls2 := [(6, .int (0)), (5, .int (0)), (0, .ref (46)), (1, .int (0)), (2, .int (0)), (3, .int (x)), (4, .int (nI (e)))]) dX8_runFrom_4 (by decide) rfl ?_
  refine xr_iload dX8_runFrom_6 0 rfl ?_
  refine xr_bipush (v := 8) dX8_runFrom_8 rfl ?_
  refine xr_icmp_ge (tgt := 81) dX8_runFrom_10 rfl (fun c => absurd c (by decide)) (fun _ => ?_)
  refine xr_iload dX8_runFrom_13 1 rfl ?_
  refine xb_cN (As := [.int (0)]) (rest := []) mlX8_26 (c_X9_isKind 0) dX8_runFrom_15 rfl rfl (Nat.le_of_ble_eq_true rfl) (by decide) (by decide) ?_
  refine xb_beq (tgt := 81) dX8_runFrom_18 rfl (fun c => absurd (by decide) c) (fun _ => ?_)
  refine xr_getsO slX8_50 dX8_runFrom_21 ?_
  refine xr_iload dX8_runFrom_24 1 rfl ?_
  refine xr_iconst (v := 4) dX8_runFrom_26 rfl ?_
  refine xr_imul dX8_runFrom_27 ?_
  refine xb_top (y := 0) (by decide) ?_
  refine xr_iload_n dX8_runFrom_28 4 rfl ?_
  refine xr_iadd dX8_runFrom_29 ?_
  refine xb_top (y := 0) (by decide) ?_
  refine xr_tabO (by unfold vp_in; decide) dX8_runFrom_30 ?_
  refine xb_top (y := 1) (by decide) ?_
  refine xr_if_eq (tgt := 67) dX8_runFrom_31 rfl (fun c => absurd c (by decide)) (fun _ => ?_)
  refine xr_iload dX8_runFrom_34 6 rfl ?_
  refine xr_bipush (v := 30) dX8_runFrom_36 rfl ?_
  refine xr_icmp_ge (tgt := 65) dX8_runFrom_38 rfl (fun c => absurd c (nI_ge (a := e) (b := 30) (by omega) (by omega))) (fun _ => ?_)
  refine xr_aload_n dX8_runFrom_41 2 rfl ?_
  refine xr_getsO slX8_50 dX8_runFrom_42 ?_
  refine xr_iload dX8_runFrom_45 1 rfl ?_
  refine xr_iconst (v := 4) dX8_runFrom_47 rfl ?_
  refine xr_imul dX8_runFrom_48 ?_
  refine xb_top (y := 0) (by decide) ?_
  refine xr_iload_n dX8_runFrom_49 4 rfl ?_
  refine xr_iadd dX8_runFrom_50 ?_
  refine xb_top (y := 0) (by decide) ?_
  refine xr_tabO (by unfold vp_in; decide) dX8_runFrom_51 ?_
  refine xb_top (y := 1) (by decide) ?_
  refine xr_iload dX8_runFrom_52 1 rfl ?_
  refine xr_iload_n dX8_runFrom_54 5 rfl ?_
  refine xr_iload dX8_runFrom_55 6 rfl ?_
  refine xr_iconst (v := 1) dX8_runFrom_57 rfl ?_
  refine xr_iadd dX8_runFrom_58 ?_
  refine xb_top (y := nI (e + 1)) (nI_add (e) (1)) ?_
  refine xr_callV (As := [.int (1), .int (0), .int (x), .int (nI (e + 1))]) (rest := []) mlX8_53 (tu1_run_1_0 (e := e + 1) (ac := ac) x (by omega) (by omega) e_b (by omega) e_ra hac e_ac e_k) dX8_runFrom_59 s_46 rfl rfl (Nat.le_of_ble_eq_true rfl) (by decide) ⟨by decide, by decide⟩ (fun v s2 M4 J2 hq => ?_)
  obtain ⟨r6, rfl, rfl, rfl, k5, ⟨hr3, hx2⟩⟩ := hq
  try dsimp only [Option.toList, List.cons_append, List.nil_append]
  subst hr3
  refine xr_goto (tgt := 66) dX8_runFrom_62 rfl ?_
  exact xr_iret dX8_runFrom_66 rfl rfl (⟨_, rfl, rfl, rfl, (Ke.tr (fun _ _ h => h) Ke.rf k5), rfl, hx2⟩)
set_option maxRecDepth 100000 in
set_option maxHeartbeats 4000000 in
theorem tu1_above_1_0 {e ac : Nat} (x : Int32) (he : e + 1 ≤ 30) {l : Launch} {G : xG} {M : xM} {J : xJ} {b ra : Nat} (h_b : b ≤ 50) (e_b : M 46 2 = nI b) (h_ra : ra + 1 ≤ 900) (e_ra : M 46 3 = nI ra) (hac : ac < b) (e_ac : M 46 4 = nI ac) (e_k : M 47 ac = 1) : x_M l G fX8_above 3 0 0 [.ref (46), .int (1), .int (0), .int (x), .int (nI (e))] x_SH M J (qKI WTN M J (fun r M2 => r = (x + (nI (ac))) ∧ M2 46 3 = nI (ra + 1))) := by
  refine xb_of pX8 (Nat.le_of_ble_eq_true rfl) rfl ?_
  refine xr_iload_n dX8_above_0 1 rfl ?_
  refine xb_cN (As := [.int (1)]) (rest := []) mlX8_26 (c_X9_isKind 1) dX8_above_1 rfl rfl (Nat.le_of_ble_eq_true rfl) (by decide) (by decide) ?_
  refine xb_beq (tgt := 23) dX8_above_4 rfl (fun c => absurd (by decide) c) (fun _ => ?_)
  refine xr_aload_n dX8_above_7 0 rfl ?_
  refine xr_getsA slX8_30 dX8_above_8 ?_
  refine xr_iload_n dX8_above_11 1 rfl ?_
  refine xr_tabA (by unfold vp_in; decide) dX8_above_12 ?_
  refine xb_top (y := 0) (by decide) ?_
  refine xr_iload_n dX8_above_13 2 rfl ?_
  refine xr_iload_n dX8_above_14 3 rfl ?_
  refine xr_iload dX8_above_15 4 rfl ?_
  refine xr_callV (As := [.int (0), .int (0), .int (x), .int (nI (e))]) (rest := []) mlX8_46 (tu1_runFrom_0_0 (e := e) (ac := ac) x (by omega) (by omega) e_b (by omega) e_ra hac e_ac e_k) dX8_above_17 s_46 rfl rfl (Nat.le_of_ble_eq_true rfl) (by decide) ⟨by decide, by decide⟩ (fun v s2 M4 J2 hq => ?_)
  obtain ⟨r6, rfl, rfl, rfl, k5, ⟨hr3, hx2⟩⟩ := hq
  try dsimp only [Option.toList, List.cons_append, List.nil_append]
  subst hr3
  refine xr_goto (tgt := 24) dX8_above_20 rfl ?_
  exact xr_iret dX8_above_24 rfl rfl (⟨_, rfl, rfl, rfl, (Ke.tr (fun _ _ h => h) Ke.rf k5), rfl, hx2⟩)
set_option maxRecDepth 100000 in
set_option maxHeartbeats 4000000 in
theorem tu1_run_20_1 {e ac : Nat} (x : Int32) (he : e + 1 ≤ 30) {l : Launch} {G : xG} {M : xM} {J : xJ} {b ra : Nat} (h_b : b ≤ 50) (e_b : M 46 2 = nI b) (h_ra : ra + 2 ≤ 900) (e_ra : M 46 3 = nI ra) (hac : ac < b) (e_ac : M 46 4 = nI ac) (e_k : M 47 ac = 1) : x_M l G fX8_run 4 0 0 [.ref (46), .int (20), .int (1), .int (x), .int (nI (e))] x_SH M J (qKI WTN M J (fun r M2 => r = ((x + (nI (ac))) + 3) ∧ M2 46 3 = nI (ra + 2))) := by
  refine xb_of pX8 (Nat.le_of_ble_eq_true rfl) rfl ?_
  refine xr_aload_n dX8_run_0 0 rfl ?_
  refine xr_iload_n dX8_run_1 1 rfl ?_
  refine xr_callV (As := [.int (20)]) (rest := []) mlX8_56 (g_X8_note 20 (by omega) e_ra) dX8_run_2 s_46 rfl rfl (Nat.le_of_ble_eq_true rfl) (by decide) ⟨by decide, by decide⟩ (fun v s2 M2 J2 hq => ?_)
  obtain ⟨rfl, rfl, rfl, k3, hx1⟩ := hq
  try dsimp only [Option.toList, List.cons_append, List.nil_append]
  refine xr_iload_n dX8_run_5 1 rfl ?_
  refine xr_lookup (tgt := 163) (off := 157) dX8_run_6 (by decide) (by decide) rfl ?_
  refine xr_aload_n dX8_run_163 0 rfl ?_
  refine xr_iload_n dX8_run_164 2 rfl ?_
  refine xr_iconst (v := 0) dX8_run_165 rfl ?_
  refine xr_iload_n dX8_run_166 3 rfl ?_
  refine xr_iload dX8_run_167 4 rfl ?_
  refine xr_callV (As := [.int (1), .int (0), .int (x), .int (nI (e))]) (rest := []) mlX8_60 (tu1_above_1_0 (e := e) (ac := ac) x (by omega) (by omega) (Eq.trans (k3 46 2 (by decide)) e_b) (by omega) hx1 hac (Eq.trans (k3 46 4 (by decide)) e_ac) (Eq.trans (k3 47 ac (by unfold WTN; omega)) e_k)) dX8_run_169 s_46 rfl rfl (Nat.le_of_ble_eq_true rfl) (by decide) ⟨by decide, by decide⟩ (fun v s2 M6 J2 hq => ?_)
  obtain ⟨r8, rfl, rfl, rfl, k7, ⟨hr5, hx4⟩⟩ := hq
  try dsimp only [Option.toList, List.cons_append, List.nil_append]
  subst hr5
  refine xr_iconst (v := 3) dX8_run_172 rfl ?_
  refine xr_iadd dX8_run_173 ?_
  exact xr_iret dX8_run_174 rfl rfl (⟨_, rfl, rfl, rfl, (Ke.tr (fun _ _ h => h) (Ke.tr (fun _ _ h => h) Ke.rf k3) k7), rfl, hx4⟩)
set_option maxRecDepth 100000 in
set_option maxHeartbeats 4000000 in
theorem tu1_runFrom_1_0 {e ac : Nat} (x : Int32) (he : e + 2 ≤ 30) {l : Launch} {G : xG} {M : xM} {J : xJ} {b ra : Nat} (h_b : b ≤ 50) (e_b : M 46 2 = nI b) (h_ra : ra + 2 ≤ 900) (e_ra : M 46 3 = nI ra) (hac : ac < b) (e_ac : M 46 4 = nI ac) (e_k : M 47 ac = 1) : x_M l G fX8_runFrom 5 0 0 [.ref (46), .int (1), .int (0), .int (x), .int (nI (e))] x_SH M J (qKI WTN M J (fun r M2 => r = ((x + (nI (ac))) + 3) ∧ M2 46 3 = nI (ra + 2))) := by
  refine xb_of pX8 (Nat.le_of_ble_eq_true rfl) rfl ?_
  refine xr_iload_n dX8_runFrom_0 1 rfl ?_
  refine xr_istore (ls2 := [(5, .int (1)), (0, .ref (46)), (1, .int (1)), (2, .int (0)), (3, .int (x)), (4, .int (nI (e)))]) dX8_runFrom_1 (by decide) rfl ?_
  refine xr_iconst (v := 0) dX8_runFrom_3 rfl ?_
  refine xr_istore (ls2 := [(6, .int (0)), (5, .int (1)), (0, .ref (46)), (1, .int (1)), (2, .int (0)), (3, .int (x)), (4, .int (nI (e)))]) dX8_runFrom_4 (by decide) rfl ?_
  refine xr_iload dX8_runFrom_6 0 rfl ?_
  refine xr_bipush (v := 8) dX8_runFrom_8 rfl ?_
  refine xr_icmp_ge (tgt := 81) dX8_runFrom_10 rfl (fun c => absurd c (by decide)) (fun _ => ?_)
  refine xr_iload dX8_runFrom_13 1 rfl ?_
  refine xb_cN (As := [.int (1)]) (rest := []) mlX8_26 (c_X9_isKind 1) dX8_runFrom_15 rfl rfl (Nat.le_of_ble_eq_true rfl) (by decide) (by decide) ?_
  refine xb_beq (tgt := 81) dX8_runFrom_18 rfl (fun c => absurd (by decide) c) (fun _ => ?_)
  refine xr_getsO slX8_50 dX8_runFrom_21 ?_
  refine xr_iload dX8_runFrom_24 1 rfl ?_
  refine xr_iconst (v := 4) dX8_runFrom_26 rfl ?_
  refine xr_imul dX8_runFrom_27 ?_
  refine xb_top (y := 4) (by decide) ?_
  refine xr_iload_n dX8_runFrom_28 4 rfl ?_
  refine xr_iadd dX8_runFrom_29 ?_
  refine xb_top (y := 4) (by decide) ?_
  refine xr_tabO (by unfold vp_in; decide) dX8_runFrom_30 ?_
  refine xb_top (y := 20) (by decide) ?_
  refine xr_if_eq (tgt := 67) dX8_runFrom_31 rfl (fun c => absurd c (by decide)) (fun _ => ?_)
  refine xr_iload dX8_runFrom_34 6 rfl ?_
  refine xr_bipush (v := 30) dX8_runFrom_36 rfl ?_
  refine xr_icmp_ge (tgt := 65) dX8_runFrom_38 rfl (fun c => absurd c (nI_ge (a := e) (b := 30) (by omega) (by omega))) (fun _ => ?_)
  refine xr_aload_n dX8_runFrom_41 2 rfl ?_
  refine xr_getsO slX8_50 dX8_runFrom_42 ?_
  refine xr_iload dX8_runFrom_45 1 rfl ?_
  refine xr_iconst (v := 4) dX8_runFrom_47 rfl ?_
  refine xr_imul dX8_runFrom_48 ?_
  refine xb_top (y := 4) (by decide) ?_
  refine xr_iload_n dX8_runFrom_49 4 rfl ?_
  refine xr_iadd dX8_runFrom_50 ?_
  refine xb_top (y := 4) (by decide) ?_
  refine xr_tabO (by unfold vp_in; decide) dX8_runFrom_51 ?_
  refine xb_top (y := 20) (by decide) ?_
  refine xr_iload dX8_runFrom_52 1 rfl ?_
  refine xr_iload_n dX8_runFrom_54 5 rfl ?_
  refine xr_iload dX8_runFrom_55 6 rfl ?_
  refine xr_iconst (v := 1) dX8_runFrom_57 rfl ?_
  refine xr_iadd dX8_runFrom_58 ?_
  refine xb_top (y := nI (e + 1)) (nI_add (e) (1)) ?_
  refine xr_callV (As := [.int (20), .int (1), .int (x), .int (nI (e + 1))]) (rest := []) mlX8_53 (tu1_run_20_1 (e := e + 1) (ac := ac) x (by omega) (by omega) e_b (by omega) e_ra hac e_ac e_k) dX8_runFrom_59 s_46 rfl rfl (Nat.le_of_ble_eq_true rfl) (by decide) ⟨by decide, by decide⟩ (fun v s2 M4 J2 hq => ?_)
  obtain ⟨r6, rfl, rfl, rfl, k5, ⟨hr3, hx2⟩⟩ := hq
  try dsimp only [Option.toList, List.cons_append, List.nil_append]
  subst hr3
  refine xr_goto (tgt := 66) dX8_runFrom_62 rfl ?_
  exact xr_iret dX8_runFrom_66 rfl rfl (⟨_, rfl, rfl, rfl, (Ke.tr (fun _ _ h => h) Ke.rf k5), rfl, hx2⟩)
set_option maxRecDepth 100000 in
set_option maxHeartbeats 4000000 in
theorem tu1_own_0 {e ac : Nat} (x : Int32) (he : e + 2 ≤ 30) {l : Launch} {G : xG} {M : xM} {J : xJ} {b ra : Nat} (h_b : b ≤ 50) (e_b : M 46 2 = nI b) (h_ra : ra + 2 ≤ 900) (e_ra : M 46 3 = nI ra) (hac : ac < b) (e_ac : M 46 4 = nI ac) (e_k : M 47 ac = 1) : x_M l G fX8_own 6 0 0 [.ref (46), .int (0), .int (x), .int (nI (e))] x_SH M J (qKI WTN M J (fun r M2 => r = ((x + (nI (ac))) + 3) ∧ M2 46 3 = nI (ra + 2))) := by
  refine xb_of pX8 (Nat.le_of_ble_eq_true rfl) rfl ?_
  refine xr_aload_n dX8_own_0 0 rfl ?_
  refine xr_aload_n dX8_own_1 0 rfl ?_
  refine xb_get (v := nI (ac)) flX8_36 dX8_own_2 s_46 rfl e_ac ?_
  refine xb_cV (As := [.int (nI (ac))]) (rest := []) mlX8_43 (c_X8_has (nI (ac)) (by omega) e_b) dX8_own_5 s_46 rfl rfl (Nat.le_of_ble_eq_true rfl) (by decide) (by decide) ?_
  refine xb_beq (tgt := 30) dX8_own_8 rfl (fun c => absurd ⟨nI_pos' (by omega), nI_lt (by omega) (by omega)⟩ c) (fun _ => ?_)
  refine xr_aload_n dX8_own_11 0 rfl ?_
  refine xr_aload_n dX8_own_12 0 rfl ?_
  refine xr_getR flX8_9 dX8_own_13 s_46 rfl ?_
  refine xr_aload_n dX8_own_16 0 rfl ?_
  refine xb_get (v := nI (ac)) flX8_36 dX8_own_17 s_46 rfl e_ac ?_
  refine xb_iald (j := ac) (v := 1) dX8_own_20 s_47 (by omega) (by decide) e_k ?_
  refine xr_iload_n dX8_own_21 1 rfl ?_
  refine xr_iload_n dX8_own_22 2 rfl ?_
  refine xr_iload_n dX8_own_23 3 rfl ?_
  refine xr_callV (As := [.int (1), .int (0), .int (x), .int (nI (e))]) (rest := []) mlX8_46 (tu1_runFrom_1_0 (e := e) (ac := ac) x (by omega) (by omega) e_b (by omega) e_ra hac e_ac e_k) dX8_own_24 s_46 rfl rfl (Nat.le_of_ble_eq_true rfl) (by decide) ⟨by decide, by decide⟩ (fun v s2 M4 J2 hq => ?_)
  obtain ⟨r6, rfl, rfl, rfl, k5, ⟨hr3, hx2⟩⟩ := hq
  try dsimp only [Option.toList, List.cons_append, List.nil_append]
  subst hr3
  refine xr_goto (tgt := 31) dX8_own_27 rfl ?_
  exact xr_iret dX8_own_31 rfl rfl (⟨_, rfl, rfl, rfl, (Ke.tr (fun _ _ h => h) Ke.rf k5), rfl, hx2⟩)
set_option maxRecDepth 100000 in
set_option maxHeartbeats 4000000 in
theorem tu1_run_10_0 {e ac : Nat} (x : Int32) (he : e + 2 ≤ 30) {l : Launch} {G : xG} {M : xM} {J : xJ} {b ra : Nat} (h_b : b ≤ 50) (e_b : M 46 2 = nI b) (h_ra : ra + 3 ≤ 900) (e_ra : M 46 3 = nI ra) (hac : ac < b) (e_ac : M 46 4 = nI ac) (e_k : M 47 ac = 1) : x_M l G fX8_run 7 0 0 [.ref (46), .int (10), .int (0), .int (x), .int (nI (e))] x_SH M J (qKI WTN M J (fun r M2 => r = (((x + (nI (ac))) + 3) * 2) ∧ M2 46 3 = nI (ra + 3))) := by
  refine xb_of pX8 (Nat.le_of_ble_eq_true rfl) rfl ?_
  refine xr_aload_n dX8_run_0 0 rfl ?_
  refine xr_iload_n dX8_run_1 1 rfl ?_
  refine xr_callV (As := [.int (10)]) (rest := []) mlX8_56 (g_X8_note 10 (by omega) e_ra) dX8_run_2 s_46 rfl rfl (Nat.le_of_ble_eq_true rfl) (by decide) ⟨by decide, by decide⟩ (fun v s2 M2 J2 hq => ?_)
  obtain ⟨rfl, rfl, rfl, k3, hx1⟩ := hq
  try dsimp only [Option.toList, List.cons_append, List.nil_append]
  refine xr_iload_n dX8_run_5 1 rfl ?_
  refine xr_lookup (tgt := 145) (off := 139) dX8_run_6 (by decide) (by decide) rfl ?_
  refine xr_aload_n dX8_run_145 0 rfl ?_
  refine xr_iconst (v := 0) dX8_run_146 rfl ?_
  refine xr_iload_n dX8_run_147 3 rfl ?_
  refine xr_iload dX8_run_148 4 rfl ?_
  refine xr_callV (As := [.int (0), .int (x), .int (nI (e))]) (rest := []) mlX8_39 (tu1_own_0 (e := e) (ac := ac) x (by omega) (by omega) (Eq.trans (k3 46 2 (by decide)) e_b) (by omega) hx1 hac (Eq.trans (k3 46 4 (by decide)) e_ac) (Eq.trans (k3 47 ac (by unfold WTN; omega)) e_k)) dX8_run_150 s_46 rfl rfl (Nat.le_of_ble_eq_true rfl) (by decide) ⟨by decide, by decide⟩ (fun v s2 M6 J2 hq => ?_)
  obtain ⟨r8, rfl, rfl, rfl, k7, ⟨hr5, hx4⟩⟩ := hq
  try dsimp only [Option.toList, List.cons_append, List.nil_append]
  subst hr5
  refine xr_iconst (v := 2) dX8_run_153 rfl ?_
  refine xr_imul dX8_run_154 ?_
  exact xr_iret dX8_run_155 rfl rfl (⟨_, rfl, rfl, rfl, (Ke.tr (fun _ _ h => h) (Ke.tr (fun _ _ h => h) Ke.rf k3) k7), rfl, hx4⟩)
set_option maxRecDepth 100000 in
set_option maxHeartbeats 4000000 in
theorem tu1_runFrom_1_1 {e ac : Nat} (x : Int32) (he : e + 3 ≤ 30) {l : Launch} {G : xG} {M : xM} {J : xJ} {b ra : Nat} (h_b : b ≤ 50) (e_b : M 46 2 = nI b) (h_ra : ra + 3 ≤ 900) (e_ra : M 46 3 = nI ra) (hac : ac < b) (e_ac : M 46 4 = nI ac) (e_k : M 47 ac = 1) : x_M l G fX8_runFrom 8 0 0 [.ref (46), .int (1), .int (1), .int (x), .int (nI (e))] x_SH M J (qKI WTN M J (fun r M2 => r = (((x + (nI (ac))) + 3) * 2) ∧ M2 46 3 = nI (ra + 3))) := by
  refine xb_of pX8 (Nat.le_of_ble_eq_true rfl) rfl ?_
  refine xr_iload_n dX8_runFrom_0 1 rfl ?_
  refine xr_istore (ls2 := [(5, .int (1)), (0, .ref (46)), (1, .int (1)), (2, .int (1)), (3, .int (x)), (4, .int (nI (e)))]) dX8_runFrom_1 (by decide) rfl ?_
  refine xr_iconst (v := 0) dX8_runFrom_3 rfl ?_
  refine xr_istore (ls2 := [(6, .int (0)), (5, .int (1)), (0, .ref (46)), (1, .int (1)), (2, .int (1)), (3, .int (x)), (4, .int (nI (e)))]) dX8_runFrom_4 (by decide) rfl ?_
  refine xr_iload dX8_runFrom_6 0 rfl ?_
  refine xr_bipush (v := 8) dX8_runFrom_8 rfl ?_
  refine xr_icmp_ge (tgt := 81) dX8_runFrom_10 rfl (fun c => absurd c (by decide)) (fun _ => ?_)
  refine xr_iload dX8_runFrom_13 1 rfl ?_
  refine xb_cN (As := [.int (1)]) (rest := []) mlX8_26 (c_X9_isKind 1) dX8_runFrom_15 rfl rfl (Nat.le_of_ble_eq_true rfl) (by decide) (by decide) ?_
  refine xb_beq (tgt := 81) dX8_runFrom_18 rfl (fun c => absurd (by decide) c) (fun _ => ?_)
  refine xr_getsO slX8_50 dX8_runFrom_21 ?_
  refine xr_iload dX8_runFrom_24 1 rfl ?_
  refine xr_iconst (v := 4) dX8_runFrom_26 rfl ?_
  refine xr_imul dX8_runFrom_27 ?_
  refine xb_top (y := 4) (by decide) ?_
  refine xr_iload_n dX8_runFrom_28 4 rfl ?_
  refine xr_iadd dX8_runFrom_29 ?_
  refine xb_top (y := 5) (by decide) ?_
  refine xr_tabO (by unfold vp_in; decide) dX8_runFrom_30 ?_
  refine xb_top (y := 0) (by decide) ?_
  refine xr_if_eq (tgt := 67) dX8_runFrom_31 rfl (fun _ => ?_) (fun c => absurd (by decide) c)
  refine xr_getsA slX8_30 dX8_runFrom_67 ?_
  refine xr_iload dX8_runFrom_70 1 rfl ?_
  refine xr_tabA (by unfold vp_in; decide) dX8_runFrom_72 ?_
  refine xb_top (y := 0) (by decide) ?_
  refine xr_istore (ls2 := [(5, .int (0)), (6, .int (0)), (0, .ref (46)), (1, .int (1)), (2, .int (1)), (3, .int (x)), (4, .int (nI (e)))]) dX8_runFrom_73 (by decide) rfl ?_
  refine xr_iinc (v := 1) (ls2 := [(6, .int (1)), (5, .int (0)), (0, .ref (46)), (1, .int (1)), (2, .int (1)), (3, .int (x)), (4, .int (nI (e)))]) dX8_runFrom_75 1 rfl rfl (by decide) rfl ?_
  refine xr_goto (tgt := 6) dX8_runFrom_78 rfl ?_
  refine xr_iload dX8_runFrom_6 0 rfl ?_
  refine xr_bipush (v := 8) dX8_runFrom_8 rfl ?_
  refine xr_icmp_ge (tgt := 81) dX8_runFrom_10 rfl (fun c => absurd c (by decide)) (fun _ => ?_)
  refine xr_iload dX8_runFrom_13 1 rfl ?_
  refine xb_cN (As := [.int (0)]) (rest := []) mlX8_26 (c_X9_isKind 0) dX8_runFrom_15 rfl rfl (Nat.le_of_ble_eq_true rfl) (by decide) (by decide) ?_
  refine xb_beq (tgt := 81) dX8_runFrom_18 rfl (fun c => absurd (by decide) c) (fun _ => ?_)
  refine xr_getsO slX8_50 dX8_runFrom_21 ?_
  refine xr_iload dX8_runFrom_24 1 rfl ?_
  refine xr_iconst (v := 4) dX8_runFrom_26 rfl ?_
  refine xr_imul dX8_runFrom_27 ?_
  refine xb_top (y := 0) (by decide) ?_
  refine xr_iload_n dX8_runFrom_28 4 rfl ?_
  refine xr_iadd dX8_runFrom_29 ?_
  refine xb_top (y := 1) (by decide) ?_
  refine xr_tabO (by unfold vp_in; decide) dX8_runFrom_30 ?_
  refine xb_top (y := 10) (by decide) ?_
  refine xr_if_eq (tgt := 67) dX8_runFrom_31 rfl (fun c => absurd c (by decide)) (fun _ => ?_)
  refine xr_iload dX8_runFrom_34 6 rfl ?_
  refine xr_bipush (v := 30) dX8_runFrom_36 rfl ?_
  refine xr_icmp_ge (tgt := 65) dX8_runFrom_38 rfl (fun c => absurd c (nI_ge (a := e) (b := 30) (by omega) (by omega))) (fun _ => ?_)
  refine xr_aload_n dX8_runFrom_41 2 rfl ?_
  refine xr_getsO slX8_50 dX8_runFrom_42 ?_
  refine xr_iload dX8_runFrom_45 1 rfl ?_
  refine xr_iconst (v := 4) dX8_runFrom_47 rfl ?_
  refine xr_imul dX8_runFrom_48 ?_
  refine xb_top (y := 0) (by decide) ?_
  refine xr_iload_n dX8_runFrom_49 4 rfl ?_
  refine xr_iadd dX8_runFrom_50 ?_
  refine xb_top (y := 1) (by decide) ?_
  refine xr_tabO (by unfold vp_in; decide) dX8_runFrom_51 ?_
  refine xb_top (y := 10) (by decide) ?_
  refine xr_iload dX8_runFrom_52 1 rfl ?_
  refine xr_iload_n dX8_runFrom_54 5 rfl ?_
  refine xr_iload dX8_runFrom_55 6 rfl ?_
  refine xr_iconst (v := 1) dX8_runFrom_57 rfl ?_
  refine xr_iadd dX8_runFrom_58 ?_
  refine xb_top (y := nI (e + 1)) (nI_add (e) (1)) ?_
  refine xr_callV (As := [.int (10), .int (0), .int (x), .int (nI (e + 1))]) (rest := []) mlX8_53 (tu1_run_10_0 (e := e + 1) (ac := ac) x (by omega) (by omega) e_b (by omega) e_ra hac e_ac e_k) dX8_runFrom_59 s_46 rfl rfl (Nat.le_of_ble_eq_true rfl) (by decide) ⟨by decide, by decide⟩ (fun v s2 M5 J2 hq => ?_)
  obtain ⟨r7, rfl, rfl, rfl, k6, ⟨hr4, hx3⟩⟩ := hq
  try dsimp only [Option.toList, List.cons_append, List.nil_append]
  subst hr4
  refine xr_goto (tgt := 66) dX8_runFrom_62 rfl ?_
  exact xr_iret dX8_runFrom_66 rfl rfl (⟨_, rfl, rfl, rfl, (Ke.tr (fun _ _ h => h) Ke.rf k6), rfl, hx3⟩)
set_option maxRecDepth 100000 in
set_option maxHeartbeats 4000000 in
theorem tu1_own_1 {e ac : Nat} (x : Int32) (he : e + 3 ≤ 30) {l : Launch} {G : xG} {M : xM} {J : xJ} {b ra : Nat} (h_b : b ≤ 50) (e_b : M 46 2 = nI b) (h_ra : ra + 3 ≤ 900) (e_ra : M 46 3 = nI ra) (hac : ac < b) (e_ac : M 46 4 = nI ac) (e_k : M 47 ac = 1) : x_M l G fX8_own 9 0 0 [.ref (46), .int (1), .int (x), .int (nI (e))] x_SH M J (qKI WTN M J (fun r M2 => r = (((x + (nI (ac))) + 3) * 2) ∧ M2 46 3 = nI (ra + 3))) := by
  refine xb_of pX8 (Nat.le_of_ble_eq_true rfl) rfl ?_
  refine xr_aload_n dX8_own_0 0 rfl ?_
  refine xr_aload_n dX8_own_1 0 rfl ?_
  refine xb_get (v := nI (ac)) flX8_36 dX8_own_2 s_46 rfl e_ac ?_
  refine xb_cV (As := [.int (nI (ac))]) (rest := []) mlX8_43 (c_X8_has (nI (ac)) (by omega) e_b) dX8_own_5 s_46 rfl rfl (Nat.le_of_ble_eq_true rfl) (by decide) (by decide) ?_
  refine xb_beq (tgt := 30) dX8_own_8 rfl (fun c => absurd ⟨nI_pos' (by omega), nI_lt (by omega) (by omega)⟩ c) (fun _ => ?_)
  refine xr_aload_n dX8_own_11 0 rfl ?_
  refine xr_aload_n dX8_own_12 0 rfl ?_
  refine xr_getR flX8_9 dX8_own_13 s_46 rfl ?_
  refine xr_aload_n dX8_own_16 0 rfl ?_
  refine xb_get (v := nI (ac)) flX8_36 dX8_own_17 s_46 rfl e_ac ?_
  refine xb_iald (j := ac) (v := 1) dX8_own_20 s_47 (by omega) (by decide) e_k ?_
  refine xr_iload_n dX8_own_21 1 rfl ?_
  refine xr_iload_n dX8_own_22 2 rfl ?_
  refine xr_iload_n dX8_own_23 3 rfl ?_
  refine xr_callV (As := [.int (1), .int (1), .int (x), .int (nI (e))]) (rest := []) mlX8_46 (tu1_runFrom_1_1 (e := e) (ac := ac) x (by omega) (by omega) e_b (by omega) e_ra hac e_ac e_k) dX8_own_24 s_46 rfl rfl (Nat.le_of_ble_eq_true rfl) (by decide) ⟨by decide, by decide⟩ (fun v s2 M4 J2 hq => ?_)
  obtain ⟨r6, rfl, rfl, rfl, k5, ⟨hr3, hx2⟩⟩ := hq
  try dsimp only [Option.toList, List.cons_append, List.nil_append]
  subst hr3
  refine xr_goto (tgt := 31) dX8_own_27 rfl ?_
  exact xr_iret dX8_own_31 rfl rfl (⟨_, rfl, rfl, rfl, (Ke.tr (fun _ _ h => h) Ke.rf k5), rfl, hx2⟩)
set_option maxRecDepth 100000 in
set_option maxHeartbeats 4000000 in
theorem tu1_run_11_0 {e ac : Nat} (x : Int32) (he : e + 0 ≤ 30) {l : Launch} {G : xG} {M : xM} {J : xJ} {b ra : Nat} (h_b : b ≤ 50) (e_b : M 46 2 = nI b) (h_ra : ra + 1 ≤ 900) (e_ra : M 46 3 = nI ra) (hac : ac < b) (e_ac : M 46 4 = nI ac) (e_k : M 47 ac = 1) : x_M l G fX8_run 1 0 0 [.ref (46), .int (11), .int (0), .int (x), .int (nI (e))] x_SH M J (qKI WTN M J (fun r M2 => r = (x ^^^ (nI (ac))) ∧ M2 46 3 = nI (ra + 1))) := by
  refine xb_of pX8 (Nat.le_of_ble_eq_true rfl) rfl ?_
  refine xr_aload_n dX8_run_0 0 rfl ?_
  refine xr_iload_n dX8_run_1 1 rfl ?_
  refine xr_callV (As := [.int (11)]) (rest := []) mlX8_56 (g_X8_note 11 (by omega) e_ra) dX8_run_2 s_46 rfl rfl (Nat.le_of_ble_eq_true rfl) (by decide) ⟨by decide, by decide⟩ (fun v s2 M2 J2 hq => ?_)
  obtain ⟨rfl, rfl, rfl, k3, hx1⟩ := hq
  try dsimp only [Option.toList, List.cons_append, List.nil_append]
  refine xr_iload_n dX8_run_5 1 rfl ?_
  refine xr_lookup (tgt := 156) (off := 150) dX8_run_6 (by decide) (by decide) rfl ?_
  refine xr_iload_n dX8_run_156 3 rfl ?_
  refine xr_aload_n dX8_run_157 0 rfl ?_
  refine xb_get (v := nI (ac)) flX8_36 dX8_run_158 s_46 rfl (Eq.trans (k3 46 4 (by decide)) e_ac) ?_
  refine xr_ixor dX8_run_161 ?_
  exact xr_iret dX8_run_162 rfl rfl (⟨_, rfl, rfl, rfl, (Ke.tr (fun _ _ h => h) Ke.rf k3), rfl, hx1⟩)
set_option maxRecDepth 100000 in
set_option maxHeartbeats 4000000 in
theorem tu1_runFrom_1_2 {e ac : Nat} (x : Int32) (he : e + 1 ≤ 30) {l : Launch} {G : xG} {M : xM} {J : xJ} {b ra : Nat} (h_b : b ≤ 50) (e_b : M 46 2 = nI b) (h_ra : ra + 1 ≤ 900) (e_ra : M 46 3 = nI ra) (hac : ac < b) (e_ac : M 46 4 = nI ac) (e_k : M 47 ac = 1) : x_M l G fX8_runFrom 2 0 0 [.ref (46), .int (1), .int (2), .int (x), .int (nI (e))] x_SH M J (qKI WTN M J (fun r M2 => r = (x ^^^ (nI (ac))) ∧ M2 46 3 = nI (ra + 1))) := by
  refine xb_of pX8 (Nat.le_of_ble_eq_true rfl) rfl ?_
  refine xr_iload_n dX8_runFrom_0 1 rfl ?_
  refine xr_istore (ls2 := [(5, .int (1)), (0, .ref (46)), (1, .int (1)), (2, .int (2)), (3, .int (x)), (4, .int (nI (e)))]) dX8_runFrom_1 (by decide) rfl ?_
  refine xr_iconst (v := 0) dX8_runFrom_3 rfl ?_
  refine xr_istore (ls2 := [(6, .int (0)), (5, .int (1)), (0, .ref (46)), (1, .int (1)), (2, .int (2)), (3, .int (x)), (4, .int (nI (e)))]) dX8_runFrom_4 (by decide) rfl ?_
  refine xr_iload dX8_runFrom_6 0 rfl ?_
  refine xr_bipush (v := 8) dX8_runFrom_8 rfl ?_
  refine xr_icmp_ge (tgt := 81) dX8_runFrom_10 rfl (fun c => absurd c (by decide)) (fun _ => ?_)
  refine xr_iload dX8_runFrom_13 1 rfl ?_
  refine xb_cN (As := [.int (1)]) (rest := []) mlX8_26 (c_X9_isKind 1) dX8_runFrom_15 rfl rfl (Nat.le_of_ble_eq_true rfl) (by decide) (by decide) ?_
  refine xb_beq (tgt := 81) dX8_runFrom_18 rfl (fun c => absurd (by decide) c) (fun _ => ?_)
  refine xr_getsO slX8_50 dX8_runFrom_21 ?_
  refine xr_iload dX8_runFrom_24 1 rfl ?_
  refine xr_iconst (v := 4) dX8_runFrom_26 rfl ?_
  refine xr_imul dX8_runFrom_27 ?_
  refine xb_top (y := 4) (by decide) ?_
  refine xr_iload_n dX8_runFrom_28 4 rfl ?_
  refine xr_iadd dX8_runFrom_29 ?_
  refine xb_top (y := 6) (by decide) ?_
  refine xr_tabO (by unfold vp_in; decide) dX8_runFrom_30 ?_
  refine xb_top (y := 0) (by decide) ?_
  refine xr_if_eq (tgt := 67) dX8_runFrom_31 rfl (fun _ => ?_) (fun c => absurd (by decide) c)
  refine xr_getsA slX8_30 dX8_runFrom_67 ?_
  refine xr_iload dX8_runFrom_70 1 rfl ?_
  refine xr_tabA (by unfold vp_in; decide) dX8_runFrom_72 ?_
  refine xb_top (y := 0) (by decide) ?_
  refine xr_istore (ls2 := [(5, .int (0)), (6, .int (0)), (0, .ref (46)), (1, .int (1)), (2, .int (2)), (3, .int (x)), (4, .int (nI (e)))]) dX8_runFrom_73 (by decide) rfl ?_
  refine xr_iinc (v := 1) (ls2 := [(6, .int (1)), (5, .int (0)), (0, .ref (46)), (1, .int (1)), (2, .int (2)), (3, .int (x)), (4, .int (nI (e)))]) dX8_runFrom_75 1 rfl rfl (by decide) rfl ?_
  refine xr_goto (tgt := 6) dX8_runFrom_78 rfl ?_
  refine xr_iload dX8_runFrom_6 0 rfl ?_
  refine xr_bipush (v := 8) dX8_runFrom_8 rfl ?_
  refine xr_icmp_ge (tgt := 81) dX8_runFrom_10 rfl (fun c => absurd c (by decide)) (fun _ => ?_)
  refine xr_iload dX8_runFrom_13 1 rfl ?_
  refine xb_cN (As := [.int (0)]) (rest := []) mlX8_26 (c_X9_isKind 0) dX8_runFrom_15 rfl rfl (Nat.le_of_ble_eq_true rfl) (by decide) (by decide) ?_
  refine xb_beq (tgt := 81) dX8_runFrom_18 rfl (fun c => absurd (by decide) c) (fun _ => ?_)
  refine xr_getsO slX8_50 dX8_runFrom_21 ?_
  refine xr_iload dX8_runFrom_24 1 rfl ?_
  refine xr_iconst (v := 4) dX8_runFrom_26 rfl ?_
  refine xr_imul dX8_runFrom_27 ?_
  refine xb_top (y := 0) (by decide) ?_
  refine xr_iload_n dX8_runFrom_28 4 rfl ?_
  refine xr_iadd dX8_runFrom_29 ?_
  refine xb_top (y := 2) (by decide) ?_
  refine xr_tabO (by unfold vp_in; decide) dX8_runFrom_30 ?_
  refine xb_top (y := 11) (by decide) ?_
  refine xr_if_eq (tgt := 67) dX8_runFrom_31 rfl (fun c => absurd c (by decide)) (fun _ => ?_)
  refine xr_iload dX8_runFrom_34 6 rfl ?_
  refine xr_bipush (v := 30) dX8_runFrom_36 rfl ?_
  refine xr_icmp_ge (tgt := 65) dX8_runFrom_38 rfl (fun c => absurd c (nI_ge (a := e) (b := 30) (by omega) (by omega))) (fun _ => ?_)
  refine xr_aload_n dX8_runFrom_41 2 rfl ?_
  refine xr_getsO slX8_50 dX8_runFrom_42 ?_
  refine xr_iload dX8_runFrom_45 1 rfl ?_
  refine xr_iconst (v := 4) dX8_runFrom_47 rfl ?_
  refine xr_imul dX8_runFrom_48 ?_
  refine xb_top (y := 0) (by decide) ?_
  refine xr_iload_n dX8_runFrom_49 4 rfl ?_
  refine xr_iadd dX8_runFrom_50 ?_
  refine xb_top (y := 2) (by decide) ?_
  refine xr_tabO (by unfold vp_in; decide) dX8_runFrom_51 ?_
  refine xb_top (y := 11) (by decide) ?_
  refine xr_iload dX8_runFrom_52 1 rfl ?_
  refine xr_iload_n dX8_runFrom_54 5 rfl ?_
  refine xr_iload dX8_runFrom_55 6 rfl ?_
  refine xr_iconst (v := 1) dX8_runFrom_57 rfl ?_
  refine xr_iadd dX8_runFrom_58 ?_
  refine xb_top (y := nI (e + 1)) (nI_add (e) (1)) ?_
  refine xr_callV (As := [.int (11), .int (0), .int (x), .int (nI (e + 1))]) (rest := []) mlX8_53 (tu1_run_11_0 (e := e + 1) (ac := ac) x (by omega) (by omega) e_b (by omega) e_ra hac e_ac e_k) dX8_runFrom_59 s_46 rfl rfl (Nat.le_of_ble_eq_true rfl) (by decide) ⟨by decide, by decide⟩ (fun v s2 M5 J2 hq => ?_)
  obtain ⟨r7, rfl, rfl, rfl, k6, ⟨hr4, hx3⟩⟩ := hq
  try dsimp only [Option.toList, List.cons_append, List.nil_append]
  subst hr4
  refine xr_goto (tgt := 66) dX8_runFrom_62 rfl ?_
  exact xr_iret dX8_runFrom_66 rfl rfl (⟨_, rfl, rfl, rfl, (Ke.tr (fun _ _ h => h) Ke.rf k6), rfl, hx3⟩)
set_option maxRecDepth 100000 in
set_option maxHeartbeats 4000000 in
theorem tu1_own_2 {e ac : Nat} (x : Int32) (he : e + 1 ≤ 30) {l : Launch} {G : xG} {M : xM} {J : xJ} {b ra : Nat} (h_b : b ≤ 50) (e_b : M 46 2 = nI b) (h_ra : ra + 1 ≤ 900) (e_ra : M 46 3 = nI ra) (hac : ac < b) (e_ac : M 46 4 = nI ac) (e_k : M 47 ac = 1) : x_M l G fX8_own 3 0 0 [.ref (46), .int (2), .int (x), .int (nI (e))] x_SH M J (qKI WTN M J (fun r M2 => r = (x ^^^ (nI (ac))) ∧ M2 46 3 = nI (ra + 1))) := by
  refine xb_of pX8 (Nat.le_of_ble_eq_true rfl) rfl ?_
  refine xr_aload_n dX8_own_0 0 rfl ?_
  refine xr_aload_n dX8_own_1 0 rfl ?_
  refine xb_get (v := nI (ac)) flX8_36 dX8_own_2 s_46 rfl e_ac ?_
  refine xb_cV (As := [.int (nI (ac))]) (rest := []) mlX8_43 (c_X8_has (nI (ac)) (by omega) e_b) dX8_own_5 s_46 rfl rfl (Nat.le_of_ble_eq_true rfl) (by decide) (by decide) ?_
  refine xb_beq (tgt := 30) dX8_own_8 rfl (fun c => absurd ⟨nI_pos' (by omega), nI_lt (by omega) (by omega)⟩ c) (fun _ => ?_)
  refine xr_aload_n dX8_own_11 0 rfl ?_
  refine xr_aload_n dX8_own_12 0 rfl ?_
  refine xr_getR flX8_9 dX8_own_13 s_46 rfl ?_
  refine xr_aload_n dX8_own_16 0 rfl ?_
  refine xb_get (v := nI (ac)) flX8_36 dX8_own_17 s_46 rfl e_ac ?_
  refine xb_iald (j := ac) (v := 1) dX8_own_20 s_47 (by omega) (by decide) e_k ?_
  refine xr_iload_n dX8_own_21 1 rfl ?_
  refine xr_iload_n dX8_own_22 2 rfl ?_
  refine xr_iload_n dX8_own_23 3 rfl ?_
  refine xr_callV (As := [.int (1), .int (2), .int (x), .int (nI (e))]) (rest := []) mlX8_46 (tu1_runFrom_1_2 (e := e) (ac := ac) x (by omega) (by omega) e_b (by omega) e_ra hac e_ac e_k) dX8_own_24 s_46 rfl rfl (Nat.le_of_ble_eq_true rfl) (by decide) ⟨by decide, by decide⟩ (fun v s2 M4 J2 hq => ?_)
  obtain ⟨r6, rfl, rfl, rfl, k5, ⟨hr3, hx2⟩⟩ := hq
  try dsimp only [Option.toList, List.cons_append, List.nil_append]
  subst hr3
  refine xr_goto (tgt := 31) dX8_own_27 rfl ?_
  exact xr_iret dX8_own_31 rfl rfl (⟨_, rfl, rfl, rfl, (Ke.tr (fun _ _ h => h) Ke.rf k5), rfl, hx2⟩)
set_option maxRecDepth 100000 in
set_option maxHeartbeats 4000000 in
theorem tu1_run_2_0 {e ac : Nat} (x : Int32) (he : e + 3 ≤ 30) {l : Launch} {G : xG} {M : xM} {J : xJ} {b ra : Nat} (h_b : b ≤ 50) (e_b : M 46 2 = nI b) (h_ra : ra + 5 ≤ 900) (e_ra : M 46 3 = nI ra) (hac : ac < b) (e_ac : M 46 4 = nI ac) (e_k : M 47 ac = 1) : x_M l G fX8_run 10 0 0 [.ref (46), .int (2), .int (0), .int (x), .int (nI (e))] x_SH M J (qKI WTN M J (fun r M2 => r = ((((x + (nI (ac))) + 3) * 2) - (1 ^^^ (nI (ac)))) ∧ M2 46 3 = nI (ra + 5))) := by
  refine xb_of pX8 (Nat.le_of_ble_eq_true rfl) rfl ?_
  refine xr_aload_n dX8_run_0 0 rfl ?_
  refine xr_iload_n dX8_run_1 1 rfl ?_
  refine xr_callV (As := [.int (2)]) (rest := []) mlX8_56 (g_X8_note 2 (by omega) e_ra) dX8_run_2 s_46 rfl rfl (Nat.le_of_ble_eq_true rfl) (by decide) ⟨by decide, by decide⟩ (fun v s2 M2 J2 hq => ?_)
  obtain ⟨rfl, rfl, rfl, k3, hx1⟩ := hq
  try dsimp only [Option.toList, List.cons_append, List.nil_append]
  refine xr_iload_n dX8_run_5 1 rfl ?_
  refine xr_lookup (tgt := 127) (off := 121) dX8_run_6 (by decide) (by decide) rfl ?_
  refine xr_aload_n dX8_run_127 0 rfl ?_
  refine xr_iconst (v := 1) dX8_run_128 rfl ?_
  refine xr_iload_n dX8_run_129 3 rfl ?_
  refine xr_iload dX8_run_130 4 rfl ?_
  refine xr_callV (As := [.int (1), .int (x), .int (nI (e))]) (rest := []) mlX8_39 (tu1_own_1 (e := e) (ac := ac) x (by omega) (by omega) (Eq.trans (k3 46 2 (by decide)) e_b) (by omega) hx1 hac (Eq.trans (k3 46 4 (by decide)) e_ac) (Eq.trans (k3 47 ac (by unfold WTN; omega)) e_k)) dX8_run_132 s_46 rfl rfl (Nat.le_of_ble_eq_true rfl) (by decide) ⟨by decide, by decide⟩ (fun v s2 M6 J2 hq => ?_)
  obtain ⟨r8, rfl, rfl, rfl, k7, ⟨hr5, hx4⟩⟩ := hq
  try dsimp only [Option.toList, List.cons_append, List.nil_append]
  subst hr5
  refine xr_aload_n dX8_run_135 0 rfl ?_
  refine xr_iconst (v := 2) dX8_run_136 rfl ?_
  refine xr_iconst (v := 1) dX8_run_137 rfl ?_
  refine xr_iload dX8_run_138 4 rfl ?_
  refine xr_callV (As := [.int (2), .int (1), .int (nI (e))]) (rest := [.int ((((x + (nI (ac))) + 3) * 2))]) mlX8_39 (tu1_own_2 (e := e) (ac := ac) 1 (by omega) (by omega) (Eq.trans (k7 46 2 (by decide)) (Eq.trans (k3 46 2 (by decide)) e_b)) (by omega) hx4 hac (Eq.trans (k7 46 4 (by decide)) (Eq.trans (k3 46 4 (by decide)) e_ac)) (Eq.trans (k7 47 ac (by unfold WTN; omega)) (Eq.trans (k3 47 ac (by unfold WTN; omega)) e_k))) dX8_run_140 s_46 rfl rfl (Nat.le_of_ble_eq_true rfl) (by decide) ⟨by decide, by decide⟩ (fun v s2 M11 J2 hq => ?_)
  obtain ⟨r13, rfl, rfl, rfl, k12, ⟨hr10, hx9⟩⟩ := hq
  try dsimp only [Option.toList, List.cons_append, List.nil_append]
  subst hr10
  refine xr_isub dX8_run_143 ?_
  exact xr_iret dX8_run_144 rfl rfl (⟨_, rfl, rfl, rfl, (Ke.tr (fun _ _ h => h) (Ke.tr (fun _ _ h => h) (Ke.tr (fun _ _ h => h) Ke.rf k3) k7) k12), rfl, hx9⟩)
set_option maxRecDepth 100000 in
set_option maxHeartbeats 4000000 in
theorem tu1_runFrom_1_3 {e ac : Nat} (x : Int32) (he : e + 4 ≤ 30) {l : Launch} {G : xG} {M : xM} {J : xJ} {b ra : Nat} (h_b : b ≤ 50) (e_b : M 46 2 = nI b) (h_ra : ra + 5 ≤ 900) (e_ra : M 46 3 = nI ra) (hac : ac < b) (e_ac : M 46 4 = nI ac) (e_k : M 47 ac = 1) : x_M l G fX8_runFrom 11 0 0 [.ref (46), .int (1), .int (3), .int (x), .int (nI (e))] x_SH M J (qKI WTN M J (fun r M2 => r = ((((x + (nI (ac))) + 3) * 2) - (1 ^^^ (nI (ac)))) ∧ M2 46 3 = nI (ra + 5))) := by
  refine xb_of pX8 (Nat.le_of_ble_eq_true rfl) rfl ?_
  refine xr_iload_n dX8_runFrom_0 1 rfl ?_
  refine xr_istore (ls2 := [(5, .int (1)), (0, .ref (46)), (1, .int (1)), (2, .int (3)), (3, .int (x)), (4, .int (nI (e)))]) dX8_runFrom_1 (by decide) rfl ?_
  refine xr_iconst (v := 0) dX8_runFrom_3 rfl ?_
  refine xr_istore (ls2 := [(6, .int (0)), (5, .int (1)), (0, .ref (46)), (1, .int (1)), (2, .int (3)), (3, .int (x)), (4, .int (nI (e)))]) dX8_runFrom_4 (by decide) rfl ?_
  refine xr_iload dX8_runFrom_6 0 rfl ?_
  refine xr_bipush (v := 8) dX8_runFrom_8 rfl ?_
  refine xr_icmp_ge (tgt := 81) dX8_runFrom_10 rfl (fun c => absurd c (by decide)) (fun _ => ?_)
  refine xr_iload dX8_runFrom_13 1 rfl ?_
  refine xb_cN (As := [.int (1)]) (rest := []) mlX8_26 (c_X9_isKind 1) dX8_runFrom_15 rfl rfl (Nat.le_of_ble_eq_true rfl) (by decide) (by decide) ?_
  refine xb_beq (tgt := 81) dX8_runFrom_18 rfl (fun c => absurd (by decide) c) (fun _ => ?_)
  refine xr_getsO slX8_50 dX8_runFrom_21 ?_
  refine xr_iload dX8_runFrom_24 1 rfl ?_
  refine xr_iconst (v := 4) dX8_runFrom_26 rfl ?_
  refine xr_imul dX8_runFrom_27 ?_
  refine xb_top (y := 4) (by decide) ?_
  refine xr_iload_n dX8_runFrom_28 4 rfl ?_
  refine xr_iadd dX8_runFrom_29 ?_
  refine xb_top (y := 7) (by decide) ?_
  refine xr_tabO (by unfold vp_in; decide) dX8_runFrom_30 ?_
  refine xb_top (y := 0) (by decide) ?_
  refine xr_if_eq (tgt := 67) dX8_runFrom_31 rfl (fun _ => ?_) (fun c => absurd (by decide) c)
  refine xr_getsA slX8_30 dX8_runFrom_67 ?_
  refine xr_iload dX8_runFrom_70 1 rfl ?_
  refine xr_tabA (by unfold vp_in; decide) dX8_runFrom_72 ?_
  refine xb_top (y := 0) (by decide) ?_
  refine xr_istore (ls2 := [(5, .int (0)), (6, .int (0)), (0, .ref (46)), (1, .int (1)), (2, .int (3)), (3, .int (x)), (4, .int (nI (e)))]) dX8_runFrom_73 (by decide) rfl ?_
  refine xr_iinc (v := 1) (ls2 := [(6, .int (1)), (5, .int (0)), (0, .ref (46)), (1, .int (1)), (2, .int (3)), (3, .int (x)), (4, .int (nI (e)))]) dX8_runFrom_75 1 rfl rfl (by decide) rfl ?_
  refine xr_goto (tgt := 6) dX8_runFrom_78 rfl ?_
  refine xr_iload dX8_runFrom_6 0 rfl ?_
  refine xr_bipush (v := 8) dX8_runFrom_8 rfl ?_
  refine xr_icmp_ge (tgt := 81) dX8_runFrom_10 rfl (fun c => absurd c (by decide)) (fun _ => ?_)
  refine xr_iload dX8_runFrom_13 1 rfl ?_
  refine xb_cN (As := [.int (0)]) (rest := []) mlX8_26 (c_X9_isKind 0) dX8_runFrom_15 rfl rfl (Nat.le_of_ble_eq_true rfl) (by decide) (by decide) ?_
  refine xb_beq (tgt := 81) dX8_runFrom_18 rfl (fun c => absurd (by decide) c) (fun _ => ?_)
  refine xr_getsO slX8_50 dX8_runFrom_21 ?_
  refine xr_iload dX8_runFrom_24 1 rfl ?_
  refine xr_iconst (v := 4) dX8_runFrom_26 rfl ?_
  refine xr_imul dX8_runFrom_27 ?_
  refine xb_top (y := 0) (by decide) ?_
  refine xr_iload_n dX8_runFrom_28 4 rfl ?_
  refine xr_iadd dX8_runFrom_29 ?_
  refine xb_top (y := 3) (by decide) ?_
  refine xr_tabO (by unfold vp_in; decide) dX8_runFrom_30 ?_
  refine xb_top (y := 2) (by decide) ?_
  refine xr_if_eq (tgt := 67) dX8_runFrom_31 rfl (fun c => absurd c (by decide)) (fun _ => ?_)
  refine xr_iload dX8_runFrom_34 6 rfl ?_
  refine xr_bipush (v := 30) dX8_runFrom_36 rfl ?_
  refine xr_icmp_ge (tgt := 65) dX8_runFrom_38 rfl (fun c => absurd c (nI_ge (a := e) (b := 30) (by omega) (by omega))) (fun _ => ?_)
  refine xr_aload_n dX8_runFrom_41 2 rfl ?_
  refine xr_getsO slX8_50 dX8_runFrom_42 ?_
  refine xr_iload dX8_runFrom_45 1 rfl ?_
  refine xr_iconst (v := 4) dX8_runFrom_47 rfl ?_
  refine xr_imul dX8_runFrom_48 ?_
  refine xb_top (y := 0) (by decide) ?_
  refine xr_iload_n dX8_runFrom_49 4 rfl ?_
  refine xr_iadd dX8_runFrom_50 ?_
  refine xb_top (y := 3) (by decide) ?_
  refine xr_tabO (by unfold vp_in; decide) dX8_runFrom_51 ?_
  refine xb_top (y := 2) (by decide) ?_
  refine xr_iload dX8_runFrom_52 1 rfl ?_
  refine xr_iload_n dX8_runFrom_54 5 rfl ?_
  refine xr_iload dX8_runFrom_55 6 rfl ?_
  refine xr_iconst (v := 1) dX8_runFrom_57 rfl ?_
  refine xr_iadd dX8_runFrom_58 ?_
  refine xb_top (y := nI (e + 1)) (nI_add (e) (1)) ?_
  refine xr_callV (As := [.int (2), .int (0), .int (x), .int (nI (e + 1))]) (rest := []) mlX8_53 (tu1_run_2_0 (e := e + 1) (ac := ac) x (by omega) (by omega) e_b (by omega) e_ra hac e_ac e_k) dX8_runFrom_59 s_46 rfl rfl (Nat.le_of_ble_eq_true rfl) (by decide) ⟨by decide, by decide⟩ (fun v s2 M5 J2 hq => ?_)
  obtain ⟨r7, rfl, rfl, rfl, k6, ⟨hr4, hx3⟩⟩ := hq
  try dsimp only [Option.toList, List.cons_append, List.nil_append]
  subst hr4
  refine xr_goto (tgt := 66) dX8_runFrom_62 rfl ?_
  exact xr_iret dX8_runFrom_66 rfl rfl (⟨_, rfl, rfl, rfl, (Ke.tr (fun _ _ h => h) Ke.rf k6), rfl, hx3⟩)
set_option maxRecDepth 100000 in
set_option maxHeartbeats 4000000 in
theorem tu1_own_3 {e ac : Nat} (x : Int32) (he : e + 4 ≤ 30) {l : Launch} {G : xG} {M : xM} {J : xJ} {b ra : Nat} (h_b : b ≤ 50) (e_b : M 46 2 = nI b) (h_ra : ra + 5 ≤ 900) (e_ra : M 46 3 = nI ra) (hac : ac < b) (e_ac : M 46 4 = nI ac) (e_k : M 47 ac = 1) : x_M l G fX8_own 12 0 0 [.ref (46), .int (3), .int (x), .int (nI (e))] x_SH M J (qKI WTN M J (fun r M2 => r = ((((x + (nI (ac))) + 3) * 2) - (1 ^^^ (nI (ac)))) ∧ M2 46 3 = nI (ra + 5))) := by
  refine xb_of pX8 (Nat.le_of_ble_eq_true rfl) rfl ?_
  refine xr_aload_n dX8_own_0 0 rfl ?_
  refine xr_aload_n dX8_own_1 0 rfl ?_
  refine xb_get (v := nI (ac)) flX8_36 dX8_own_2 s_46 rfl e_ac ?_
  refine xb_cV (As := [.int (nI (ac))]) (rest := []) mlX8_43 (c_X8_has (nI (ac)) (by omega) e_b) dX8_own_5 s_46 rfl rfl (Nat.le_of_ble_eq_true rfl) (by decide) (by decide) ?_
  refine xb_beq (tgt := 30) dX8_own_8 rfl (fun c => absurd ⟨nI_pos' (by omega), nI_lt (by omega) (by omega)⟩ c) (fun _ => ?_)
  refine xr_aload_n dX8_own_11 0 rfl ?_
  refine xr_aload_n dX8_own_12 0 rfl ?_
  refine xr_getR flX8_9 dX8_own_13 s_46 rfl ?_
  refine xr_aload_n dX8_own_16 0 rfl ?_
  refine xb_get (v := nI (ac)) flX8_36 dX8_own_17 s_46 rfl e_ac ?_
  refine xb_iald (j := ac) (v := 1) dX8_own_20 s_47 (by omega) (by decide) e_k ?_
  refine xr_iload_n dX8_own_21 1 rfl ?_
  refine xr_iload_n dX8_own_22 2 rfl ?_
  refine xr_iload_n dX8_own_23 3 rfl ?_
  refine xr_callV (As := [.int (1), .int (3), .int (x), .int (nI (e))]) (rest := []) mlX8_46 (tu1_runFrom_1_3 (e := e) (ac := ac) x (by omega) (by omega) e_b (by omega) e_ra hac e_ac e_k) dX8_own_24 s_46 rfl rfl (Nat.le_of_ble_eq_true rfl) (by decide) ⟨by decide, by decide⟩ (fun v s2 M4 J2 hq => ?_)
  obtain ⟨r6, rfl, rfl, rfl, k5, ⟨hr3, hx2⟩⟩ := hq
  try dsimp only [Option.toList, List.cons_append, List.nil_append]
  subst hr3
  refine xr_goto (tgt := 31) dX8_own_27 rfl ?_
  exact xr_iret dX8_own_31 rfl rfl (⟨_, rfl, rfl, rfl, (Ke.tr (fun _ _ h => h) Ke.rf k5), rfl, hx2⟩)
set_option maxRecDepth 100000 in
set_option maxHeartbeats 4000000 in
theorem tu2_run_1_0 {e ac : Nat} (x : Int32) (he : e + 0 ≤ 30) {l : Launch} {G : xG} {M : xM} {J : xJ} {b ra : Nat} (h_b : b ≤ 50) (e_b : M 46 2 = nI b) (h_ra : ra + 1 ≤ 900) (e_ra : M 46 3 = nI ra) (hac : ac < b) (e_ac : M 46 4 = nI ac) (e_k : M 47 ac = 2) : x_M l G fX8_run 1 0 0 [.ref (46), .int (1), .int (0), .int (x), .int (nI (e))] x_SH M J (qKI WTN M J (fun r M2 => r = (x + (nI (ac))) ∧ M2 46 3 = nI (ra + 1))) := by
  refine xb_of pX8 (Nat.le_of_ble_eq_true rfl) rfl ?_
  refine xr_aload_n dX8_run_0 0 rfl ?_
  refine xr_iload_n dX8_run_1 1 rfl ?_
  refine xr_callV (As := [.int (1)]) (rest := []) mlX8_56 (g_X8_note 1 (by omega) e_ra) dX8_run_2 s_46 rfl rfl (Nat.le_of_ble_eq_true rfl) (by decide) ⟨by decide, by decide⟩ (fun v s2 M2 J2 hq => ?_)
  obtain ⟨rfl, rfl, rfl, k3, hx1⟩ := hq
  try dsimp only [Option.toList, List.cons_append, List.nil_append]
  refine xr_iload_n dX8_run_5 1 rfl ?_
  refine xr_lookup (tgt := 120) (off := 114) dX8_run_6 (by decide) (by decide) rfl ?_
  refine xr_iload_n dX8_run_120 3 rfl ?_
  refine xr_aload_n dX8_run_121 0 rfl ?_
  refine xb_get (v := nI (ac)) flX8_36 dX8_run_122 s_46 rfl (Eq.trans (k3 46 4 (by decide)) e_ac) ?_
  refine xr_iadd dX8_run_125 ?_
  exact xr_iret dX8_run_126 rfl rfl (⟨_, rfl, rfl, rfl, (Ke.tr (fun _ _ h => h) Ke.rf k3), rfl, hx1⟩)
set_option maxRecDepth 100000 in
set_option maxHeartbeats 4000000 in
theorem tu2_runFrom_2_0 {e ac : Nat} (x : Int32) (he : e + 1 ≤ 30) {l : Launch} {G : xG} {M : xM} {J : xJ} {b ra : Nat} (h_b : b ≤ 50) (e_b : M 46 2 = nI b) (h_ra : ra + 1 ≤ 900) (e_ra : M 46 3 = nI ra) (hac : ac < b) (e_ac : M 46 4 = nI ac) (e_k : M 47 ac = 2) : x_M l G fX8_runFrom 2 0 0 [.ref (46), .int (2), .int (0), .int (x), .int (nI (e))] x_SH M J (qKI WTN M J (fun r M2 => r = (x + (nI (ac))) ∧ M2 46 3 = nI (ra + 1))) := by
  refine xb_of pX8 (Nat.le_of_ble_eq_true rfl) rfl ?_
  refine xr_iload_n dX8_runFrom_0 1 rfl ?_
  refine xr_istore (ls2 := [(5, .int (2)), (0, .ref (46)), (1, .int (2)), (2, .int (0)), (3, .int (x)), (4, .int (nI (e)))]) dX8_runFrom_1 (by decide) rfl ?_
  refine xr_iconst (v := 0) dX8_runFrom_3 rfl ?_
  refine xr_istore (ls2 := [(6, .int (0)), (5, .int (2)), (0, .ref (46)), (1, .int (2)), (2, .int (0)), (3, .int (x)), (4, .int (nI (e)))]) dX8_runFrom_4 (by decide) rfl ?_
  refine xr_iload dX8_runFrom_6 0 rfl ?_
  refine xr_bipush (v := 8) dX8_runFrom_8 rfl ?_
  refine xr_icmp_ge (tgt := 81) dX8_runFrom_10 rfl (fun c => absurd c (by decide)) (fun _ => ?_)
  refine xr_iload dX8_runFrom_13 1 rfl ?_
  refine xb_cN (As := [.int (2)]) (rest := []) mlX8_26 (c_X9_isKind 2) dX8_runFrom_15 rfl rfl (Nat.le_of_ble_eq_true rfl) (by decide) (by decide) ?_
  refine xb_beq (tgt := 81) dX8_runFrom_18 rfl (fun c => absurd (by decide) c) (fun _ => ?_)
  refine xr_getsO slX8_50 dX8_runFrom_21 ?_
  refine xr_iload dX8_runFrom_24 1 rfl ?_
  refine xr_iconst (v := 4) dX8_runFrom_26 rfl ?_
  refine xr_imul dX8_runFrom_27 ?_
  refine xb_top (y := 8) (by decide) ?_
  refine xr_iload_n dX8_runFrom_28 4 rfl ?_
  refine xr_iadd dX8_runFrom_29 ?_
  refine xb_top (y := 8) (by decide) ?_
  refine xr_tabO (by unfold vp_in; decide) dX8_runFrom_30 ?_
  refine xb_top (y := 0) (by decide) ?_
  refine xr_if_eq (tgt := 67) dX8_runFrom_31 rfl (fun _ => ?_) (fun c => absurd (by decide) c)
  refine xr_getsA slX8_30 dX8_runFrom_67 ?_
  refine xr_iload dX8_runFrom_70 1 rfl ?_
  refine xr_tabA (by unfold vp_in; decide) dX8_runFrom_72 ?_
  refine xb_top (y := 0) (by decide) ?_
  refine xr_istore (ls2 := [(5, .int (0)), (6, .int (0)), (0, .ref (46)), (1, .int (2)), (2, .int (0)), (3, .int (x)), (4, .int (nI (e)))]) dX8_runFrom_73 (by decide) rfl ?_
  refine xr_iinc (v := 1) (ls2 := [(6, .int (1)), (5, .int (0)), (0, .ref (46)), (1, .int (2)), (2, .int (0)), (3, .int (x)), (4, .int (nI (e)))]) dX8_runFrom_75 1 rfl rfl (by decide) rfl ?_
  refine xr_goto (tgt := 6) dX8_runFrom_78 rfl ?_
  refine xr_iload dX8_runFrom_6 0 rfl ?_
  refine xr_bipush (v := 8) dX8_runFrom_8 rfl ?_
  refine xr_icmp_ge (tgt := 81) dX8_runFrom_10 rfl (fun c => absurd c (by decide)) (fun _ => ?_)
  refine xr_iload dX8_runFrom_13 1 rfl ?_
  refine xb_cN (As := [.int (0)]) (rest := []) mlX8_26 (c_X9_isKind 0) dX8_runFrom_15 rfl rfl (Nat.le_of_ble_eq_true rfl) (by decide) (by decide) ?_
  refine xb_beq (tgt := 81) dX8_runFrom_18 rfl (fun c => absurd (by decide) c) (fun _ => ?_)
  refine xr_getsO slX8_50 dX8_runFrom_21 ?_
  refine xr_iload dX8_runFrom_24 1 rfl ?_
  refine xr_iconst (v := 4) dX8_runFrom_26 rfl ?_
  refine xr_imul dX8_runFrom_27 ?_
  refine xb_top (y := 0) (by decide) ?_
  refine xr_iload_n dX8_runFrom_28 4 rfl ?_
  refine xr_iadd dX8_runFrom_29 ?_
  refine xb_top (y := 0) (by decide) ?_
  refine xr_tabO (by unfold vp_in; decide) dX8_runFrom_30 ?_
  refine xb_top (y := 1) (by decide) ?_
  refine xr_if_eq (tgt := 67) dX8_runFrom_31 rfl (fun c => absurd c (by decide)) (fun _ => ?_)
  refine xr_iload dX8_runFrom_34 6 rfl ?_
  refine xr_bipush (v := 30) dX8_runFrom_36 rfl ?_
  refine xr_icmp_ge (tgt := 65) dX8_runFrom_38 rfl (fun c => absurd c (nI_ge (a := e) (b := 30) (by omega) (by omega))) (fun _ => ?_)
  refine xr_aload_n dX8_runFrom_41 2 rfl ?_
  refine xr_getsO slX8_50 dX8_runFrom_42 ?_
  refine xr_iload dX8_runFrom_45 1 rfl ?_
  refine xr_iconst (v := 4) dX8_runFrom_47 rfl ?_
  refine xr_imul dX8_runFrom_48 ?_
  refine xb_top (y := 0) (by decide) ?_
  refine xr_iload_n dX8_runFrom_49 4 rfl ?_
  refine xr_iadd dX8_runFrom_50 ?_
  refine xb_top (y := 0) (by decide) ?_
  refine xr_tabO (by unfold vp_in; decide) dX8_runFrom_51 ?_
  refine xb_top (y := 1) (by decide) ?_
  refine xr_iload dX8_runFrom_52 1 rfl ?_
  refine xr_iload_n dX8_runFrom_54 5 rfl ?_
  refine xr_iload dX8_runFrom_55 6 rfl ?_
  refine xr_iconst (v := 1) dX8_runFrom_57 rfl ?_
  refine xr_iadd dX8_runFrom_58 ?_
  refine xb_top (y := nI (e + 1)) (nI_add (e) (1)) ?_
  refine xr_callV (As := [.int (1), .int (0), .int (x), .int (nI (e + 1))]) (rest := []) mlX8_53 (tu2_run_1_0 (e := e + 1) (ac := ac) x (by omega) (by omega) e_b (by omega) e_ra hac e_ac e_k) dX8_runFrom_59 s_46 rfl rfl (Nat.le_of_ble_eq_true rfl) (by decide) ⟨by decide, by decide⟩ (fun v s2 M5 J2 hq => ?_)
  obtain ⟨r7, rfl, rfl, rfl, k6, ⟨hr4, hx3⟩⟩ := hq
  try dsimp only [Option.toList, List.cons_append, List.nil_append]
  subst hr4
  refine xr_goto (tgt := 66) dX8_runFrom_62 rfl ?_
  exact xr_iret dX8_runFrom_66 rfl rfl (⟨_, rfl, rfl, rfl, (Ke.tr (fun _ _ h => h) Ke.rf k6), rfl, hx3⟩)
set_option maxRecDepth 100000 in
set_option maxHeartbeats 4000000 in
theorem tu2_own_0 {e ac : Nat} (x : Int32) (he : e + 1 ≤ 30) {l : Launch} {G : xG} {M : xM} {J : xJ} {b ra : Nat} (h_b : b ≤ 50) (e_b : M 46 2 = nI b) (h_ra : ra + 1 ≤ 900) (e_ra : M 46 3 = nI ra) (hac : ac < b) (e_ac : M 46 4 = nI ac) (e_k : M 47 ac = 2) : x_M l G fX8_own 3 0 0 [.ref (46), .int (0), .int (x), .int (nI (e))] x_SH M J (qKI WTN M J (fun r M2 => r = (x + (nI (ac))) ∧ M2 46 3 = nI (ra + 1))) := by
  refine xb_of pX8 (Nat.le_of_ble_eq_true rfl) rfl ?_
  refine xr_aload_n dX8_own_0 0 rfl ?_
  refine xr_aload_n dX8_own_1 0 rfl ?_
  refine xb_get (v := nI (ac)) flX8_36 dX8_own_2 s_46 rfl e_ac ?_
  refine xb_cV (As := [.int (nI (ac))]) (rest := []) mlX8_43 (c_X8_has (nI (ac)) (by omega) e_b) dX8_own_5 s_46 rfl rfl (Nat.le_of_ble_eq_true rfl) (by decide) (by decide) ?_
  refine xb_beq (tgt := 30) dX8_own_8 rfl (fun c => absurd ⟨nI_pos' (by omega), nI_lt (by omega) (by omega)⟩ c) (fun _ => ?_)
  refine xr_aload_n dX8_own_11 0 rfl ?_
  refine xr_aload_n dX8_own_12 0 rfl ?_
  refine xr_getR flX8_9 dX8_own_13 s_46 rfl ?_
  refine xr_aload_n dX8_own_16 0 rfl ?_
  refine xb_get (v := nI (ac)) flX8_36 dX8_own_17 s_46 rfl e_ac ?_
  refine xb_iald (j := ac) (v := 2) dX8_own_20 s_47 (by omega) (by decide) e_k ?_
  refine xr_iload_n dX8_own_21 1 rfl ?_
  refine xr_iload_n dX8_own_22 2 rfl ?_
  refine xr_iload_n dX8_own_23 3 rfl ?_
  refine xr_callV (As := [.int (2), .int (0), .int (x), .int (nI (e))]) (rest := []) mlX8_46 (tu2_runFrom_2_0 (e := e) (ac := ac) x (by omega) (by omega) e_b (by omega) e_ra hac e_ac e_k) dX8_own_24 s_46 rfl rfl (Nat.le_of_ble_eq_true rfl) (by decide) ⟨by decide, by decide⟩ (fun v s2 M4 J2 hq => ?_)
  obtain ⟨r6, rfl, rfl, rfl, k5, ⟨hr3, hx2⟩⟩ := hq
  try dsimp only [Option.toList, List.cons_append, List.nil_append]
  subst hr3
  refine xr_goto (tgt := 31) dX8_own_27 rfl ?_
  exact xr_iret dX8_own_31 rfl rfl (⟨_, rfl, rfl, rfl, (Ke.tr (fun _ _ h => h) Ke.rf k5), rfl, hx2⟩)
set_option maxRecDepth 100000 in
set_option maxHeartbeats 4000000 in
theorem tu2_run_10_0 {e ac : Nat} (x : Int32) (he : e + 1 ≤ 30) {l : Launch} {G : xG} {M : xM} {J : xJ} {b ra : Nat} (h_b : b ≤ 50) (e_b : M 46 2 = nI b) (h_ra : ra + 2 ≤ 900) (e_ra : M 46 3 = nI ra) (hac : ac < b) (e_ac : M 46 4 = nI ac) (e_k : M 47 ac = 2) : x_M l G fX8_run 4 0 0 [.ref (46), .int (10), .int (0), .int (x), .int (nI (e))] x_SH M J (qKI WTN M J (fun r M2 => r = ((x + (nI (ac))) * 2) ∧ M2 46 3 = nI (ra + 2))) := by
  refine xb_of pX8 (Nat.le_of_ble_eq_true rfl) rfl ?_
  refine xr_aload_n dX8_run_0 0 rfl ?_
  refine xr_iload_n dX8_run_1 1 rfl ?_
  refine xr_callV (As := [.int (10)]) (rest := []) mlX8_56 (g_X8_note 10 (by omega) e_ra) dX8_run_2 s_46 rfl rfl (Nat.le_of_ble_eq_true rfl) (by decide) ⟨by decide, by decide⟩ (fun v s2 M2 J2 hq => ?_)
  obtain ⟨rfl, rfl, rfl, k3, hx1⟩ := hq
  try dsimp only [Option.toList, List.cons_append, List.nil_append]
  refine xr_iload_n dX8_run_5 1 rfl ?_
  refine xr_lookup (tgt := 145) (off := 139) dX8_run_6 (by decide) (by decide) rfl ?_
  refine xr_aload_n dX8_run_145 0 rfl ?_
  refine xr_iconst (v := 0) dX8_run_146 rfl ?_
  refine xr_iload_n dX8_run_147 3 rfl ?_
  refine xr_iload dX8_run_148 4 rfl ?_
  refine xr_callV (As := [.int (0), .int (x), .int (nI (e))]) (rest := []) mlX8_39 (tu2_own_0 (e := e) (ac := ac) x (by omega) (by omega) (Eq.trans (k3 46 2 (by decide)) e_b) (by omega) hx1 hac (Eq.trans (k3 46 4 (by decide)) e_ac) (Eq.trans (k3 47 ac (by unfold WTN; omega)) e_k)) dX8_run_150 s_46 rfl rfl (Nat.le_of_ble_eq_true rfl) (by decide) ⟨by decide, by decide⟩ (fun v s2 M6 J2 hq => ?_)
  obtain ⟨r8, rfl, rfl, rfl, k7, ⟨hr5, hx4⟩⟩ := hq
  try dsimp only [Option.toList, List.cons_append, List.nil_append]
  subst hr5
  refine xr_iconst (v := 2) dX8_run_153 rfl ?_
  refine xr_imul dX8_run_154 ?_
  exact xr_iret dX8_run_155 rfl rfl (⟨_, rfl, rfl, rfl, (Ke.tr (fun _ _ h => h) (Ke.tr (fun _ _ h => h) Ke.rf k3) k7), rfl, hx4⟩)
set_option maxRecDepth 100000 in
set_option maxHeartbeats 4000000 in
theorem tu2_runFrom_0_1 {e ac : Nat} (x : Int32) (he : e + 2 ≤ 30) {l : Launch} {G : xG} {M : xM} {J : xJ} {b ra : Nat} (h_b : b ≤ 50) (e_b : M 46 2 = nI b) (h_ra : ra + 2 ≤ 900) (e_ra : M 46 3 = nI ra) (hac : ac < b) (e_ac : M 46 4 = nI ac) (e_k : M 47 ac = 2) : x_M l G fX8_runFrom 5 0 0 [.ref (46), .int (0), .int (1), .int (x), .int (nI (e))] x_SH M J (qKI WTN M J (fun r M2 => r = ((x + (nI (ac))) * 2) ∧ M2 46 3 = nI (ra + 2))) := by
  refine xb_of pX8 (Nat.le_of_ble_eq_true rfl) rfl ?_
  refine xr_iload_n dX8_runFrom_0 1 rfl ?_
  refine xr_istore (ls2 := [(5, .int (0)), (0, .ref (46)), (1, .int (0)), (2, .int (1)), (3, .int (x)), (4, .int (nI (e)))]) dX8_runFrom_1 (by decide) rfl ?_
  refine xr_iconst (v := 0) dX8_runFrom_3 rfl ?_
  refine xr_istore (ls2 := [(6, .int (0)), (5, .int (0)), (0, .ref (46)), (1, .int (0)), (2, .int (1)), (3, .int (x)), (4, .int (nI (e)))]) dX8_runFrom_4 (by decide) rfl ?_
  refine xr_iload dX8_runFrom_6 0 rfl ?_
  refine xr_bipush (v := 8) dX8_runFrom_8 rfl ?_
  refine xr_icmp_ge (tgt := 81) dX8_runFrom_10 rfl (fun c => absurd c (by decide)) (fun _ => ?_)
  refine xr_iload dX8_runFrom_13 1 rfl ?_
  refine xb_cN (As := [.int (0)]) (rest := []) mlX8_26 (c_X9_isKind 0) dX8_runFrom_15 rfl rfl (Nat.le_of_ble_eq_true rfl) (by decide) (by decide) ?_
  refine xb_beq (tgt := 81) dX8_runFrom_18 rfl (fun c => absurd (by decide) c) (fun _ => ?_)
  refine xr_getsO slX8_50 dX8_runFrom_21 ?_
  refine xr_iload dX8_runFrom_24 1 rfl ?_
  refine xr_iconst (v := 4) dX8_runFrom_26 rfl ?_
  refine xr_imul dX8_runFrom_27 ?_
  refine xb_top (y := 0) (by decide) ?_
  refine xr_iload_n dX8_runFrom_28 4 rfl ?_
  refine xr_iadd dX8_runFrom_29 ?_
  refine xb_top (y := 1) (by decide) ?_
  refine xr_tabO (by unfold vp_in; decide) dX8_runFrom_30 ?_
  refine xb_top (y := 10) (by decide) ?_
  refine xr_if_eq (tgt := 67) dX8_runFrom_31 rfl (fun c => absurd c (by decide)) (fun _ => ?_)
  refine xr_iload dX8_runFrom_34 6 rfl ?_
  refine xr_bipush (v := 30) dX8_runFrom_36 rfl ?_
  refine xr_icmp_ge (tgt := 65) dX8_runFrom_38 rfl (fun c => absurd c (nI_ge (a := e) (b := 30) (by omega) (by omega))) (fun _ => ?_)
  refine xr_aload_n dX8_runFrom_41 2 rfl ?_
  refine xr_getsO slX8_50 dX8_runFrom_42 ?_
  refine xr_iload dX8_runFrom_45 1 rfl ?_
  refine xr_iconst (v := 4) dX8_runFrom_47 rfl ?_
  refine xr_imul dX8_runFrom_48 ?_
  refine xb_top (y := 0) (by decide) ?_
  refine xr_iload_n dX8_runFrom_49 4 rfl ?_
  refine xr_iadd dX8_runFrom_50 ?_
  refine xb_top (y := 1) (by decide) ?_
  refine xr_tabO (by unfold vp_in; decide) dX8_runFrom_51 ?_
  refine xb_top (y := 10) (by decide) ?_
  refine xr_iload dX8_runFrom_52 1 rfl ?_
  refine xr_iload_n dX8_runFrom_54 5 rfl ?_
  refine xr_iload dX8_runFrom_55 6 rfl ?_
  refine xr_iconst (v := 1) dX8_runFrom_57 rfl ?_
  refine xr_iadd dX8_runFrom_58 ?_
  refine xb_top (y := nI (e + 1)) (nI_add (e) (1)) ?_
  refine xr_callV (As := [.int (10), .int (0), .int (x), .int (nI (e + 1))]) (rest := []) mlX8_53 (tu2_run_10_0 (e := e + 1) (ac := ac) x (by omega) (by omega) e_b (by omega) e_ra hac e_ac e_k) dX8_runFrom_59 s_46 rfl rfl (Nat.le_of_ble_eq_true rfl) (by decide) ⟨by decide, by decide⟩ (fun v s2 M4 J2 hq => ?_)
  obtain ⟨r6, rfl, rfl, rfl, k5, ⟨hr3, hx2⟩⟩ := hq
  try dsimp only [Option.toList, List.cons_append, List.nil_append]
  subst hr3
  refine xr_goto (tgt := 66) dX8_runFrom_62 rfl ?_
  exact xr_iret dX8_runFrom_66 rfl rfl (⟨_, rfl, rfl, rfl, (Ke.tr (fun _ _ h => h) Ke.rf k5), rfl, hx2⟩)
set_option maxRecDepth 100000 in
set_option maxHeartbeats 4000000 in
theorem tu2_above_2_1 {e ac : Nat} (x : Int32) (he : e + 2 ≤ 30) {l : Launch} {G : xG} {M : xM} {J : xJ} {b ra : Nat} (h_b : b ≤ 50) (e_b : M 46 2 = nI b) (h_ra : ra + 2 ≤ 900) (e_ra : M 46 3 = nI ra) (hac : ac < b) (e_ac : M 46 4 = nI ac) (e_k : M 47 ac = 2) : x_M l G fX8_above 6 0 0 [.ref (46), .int (2), .int (1), .int (x), .int (nI (e))] x_SH M J (qKI WTN M J (fun r M2 => r = ((x + (nI (ac))) * 2) ∧ M2 46 3 = nI (ra + 2))) := by
  refine xb_of pX8 (Nat.le_of_ble_eq_true rfl) rfl ?_
  refine xr_iload_n dX8_above_0 1 rfl ?_
  refine xb_cN (As := [.int (2)]) (rest := []) mlX8_26 (c_X9_isKind 2) dX8_above_1 rfl rfl (Nat.le_of_ble_eq_true rfl) (by decide) (by decide) ?_
  refine xb_beq (tgt := 23) dX8_above_4 rfl (fun c => absurd (by decide) c) (fun _ => ?_)
  refine xr_aload_n dX8_above_7 0 rfl ?_
  refine xr_getsA slX8_30 dX8_above_8 ?_
  refine xr_iload_n dX8_above_11 1 rfl ?_
  refine xr_tabA (by unfold vp_in; decide) dX8_above_12 ?_
  refine xb_top (y := 0) (by decide) ?_
  refine xr_iload_n dX8_above_13 2 rfl ?_
  refine xr_iload_n dX8_above_14 3 rfl ?_
  refine xr_iload dX8_above_15 4 rfl ?_
  refine xr_callV (As := [.int (0), .int (1), .int (x), .int (nI (e))]) (rest := []) mlX8_46 (tu2_runFrom_0_1 (e := e) (ac := ac) x (by omega) (by omega) e_b (by omega) e_ra hac e_ac e_k) dX8_above_17 s_46 rfl rfl (Nat.le_of_ble_eq_true rfl) (by decide) ⟨by decide, by decide⟩ (fun v s2 M4 J2 hq => ?_)
  obtain ⟨r6, rfl, rfl, rfl, k5, ⟨hr3, hx2⟩⟩ := hq
  try dsimp only [Option.toList, List.cons_append, List.nil_append]
  subst hr3
  refine xr_goto (tgt := 24) dX8_above_20 rfl ?_
  exact xr_iret dX8_above_24 rfl rfl (⟨_, rfl, rfl, rfl, (Ke.tr (fun _ _ h => h) Ke.rf k5), rfl, hx2⟩)
set_option maxRecDepth 100000 in
set_option maxHeartbeats 4000000 in
theorem tu2_run_30_2 {e ac : Nat} (x : Int32) (he : e + 2 ≤ 30) {l : Launch} {G : xG} {M : xM} {J : xJ} {b ra : Nat} (h_b : b ≤ 50) (e_b : M 46 2 = nI b) (h_ra : ra + 3 ≤ 900) (e_ra : M 46 3 = nI ra) (hac : ac < b) (e_ac : M 46 4 = nI ac) (e_k : M 47 ac = 2) : x_M l G fX8_run 7 0 0 [.ref (46), .int (30), .int (2), .int (x), .int (nI (e))] x_SH M J (qKI WTN M J (fun r M2 => r = (-((x + (nI (ac))) * 2)) ∧ M2 46 3 = nI (ra + 3))) := by
  refine xb_of pX8 (Nat.le_of_ble_eq_true rfl) rfl ?_
  refine xr_aload_n dX8_run_0 0 rfl ?_
  refine xr_iload_n dX8_run_1 1 rfl ?_
  refine xr_callV (As := [.int (30)]) (rest := []) mlX8_56 (g_X8_note 30 (by omega) e_ra) dX8_run_2 s_46 rfl rfl (Nat.le_of_ble_eq_true rfl) (by decide) ⟨by decide, by decide⟩ (fun v s2 M2 J2 hq => ?_)
  obtain ⟨rfl, rfl, rfl, k3, hx1⟩ := hq
  try dsimp only [Option.toList, List.cons_append, List.nil_append]
  refine xr_iload_n dX8_run_5 1 rfl ?_
  refine xr_lookup (tgt := 175) (off := 169) dX8_run_6 (by decide) (by decide) rfl ?_
  refine xr_aload_n dX8_run_175 0 rfl ?_
  refine xr_iload_n dX8_run_176 2 rfl ?_
  refine xr_iconst (v := 1) dX8_run_177 rfl ?_
  refine xr_iload_n dX8_run_178 3 rfl ?_
  refine xr_iload dX8_run_179 4 rfl ?_
  refine xr_callV (As := [.int (2), .int (1), .int (x), .int (nI (e))]) (rest := []) mlX8_60 (tu2_above_2_1 (e := e) (ac := ac) x (by omega) (by omega) (Eq.trans (k3 46 2 (by decide)) e_b) (by omega) hx1 hac (Eq.trans (k3 46 4 (by decide)) e_ac) (Eq.trans (k3 47 ac (by unfold WTN; omega)) e_k)) dX8_run_181 s_46 rfl rfl (Nat.le_of_ble_eq_true rfl) (by decide) ⟨by decide, by decide⟩ (fun v s2 M6 J2 hq => ?_)
  obtain ⟨r8, rfl, rfl, rfl, k7, ⟨hr5, hx4⟩⟩ := hq
  try dsimp only [Option.toList, List.cons_append, List.nil_append]
  subst hr5
  refine xr_ineg dX8_run_184 ?_
  exact xr_iret dX8_run_185 rfl rfl (⟨_, rfl, rfl, rfl, (Ke.tr (fun _ _ h => h) (Ke.tr (fun _ _ h => h) Ke.rf k3) k7), rfl, hx4⟩)
set_option maxRecDepth 100000 in
set_option maxHeartbeats 4000000 in
theorem tu2_runFrom_2_1 {e ac : Nat} (x : Int32) (he : e + 3 ≤ 30) {l : Launch} {G : xG} {M : xM} {J : xJ} {b ra : Nat} (h_b : b ≤ 50) (e_b : M 46 2 = nI b) (h_ra : ra + 3 ≤ 900) (e_ra : M 46 3 = nI ra) (hac : ac < b) (e_ac : M 46 4 = nI ac) (e_k : M 47 ac = 2) : x_M l G fX8_runFrom 8 0 0 [.ref (46), .int (2), .int (1), .int (x), .int (nI (e))] x_SH M J (qKI WTN M J (fun r M2 => r = (-((x + (nI (ac))) * 2)) ∧ M2 46 3 = nI (ra + 3))) := by
  refine xb_of pX8 (Nat.le_of_ble_eq_true rfl) rfl ?_
  refine xr_iload_n dX8_runFrom_0 1 rfl ?_
  refine xr_istore (ls2 := [(5, .int (2)), (0, .ref (46)), (1, .int (2)), (2, .int (1)), (3, .int (x)), (4, .int (nI (e)))]) dX8_runFrom_1 (by decide) rfl ?_
  refine xr_iconst (v := 0) dX8_runFrom_3 rfl ?_
  refine xr_istore (ls2 := [(6, .int (0)), (5, .int (2)), (0, .ref (46)), (1, .int (2)), (2, .int (1)), (3, .int (x)), (4, .int (nI (e)))]) dX8_runFrom_4 (by decide) rfl ?_
  refine xr_iload dX8_runFrom_6 0 rfl ?_
  refine xr_bipush (v := 8) dX8_runFrom_8 rfl ?_
  refine xr_icmp_ge (tgt := 81) dX8_runFrom_10 rfl (fun c => absurd c (by decide)) (fun _ => ?_)
  refine xr_iload dX8_runFrom_13 1 rfl ?_
  refine xb_cN (As := [.int (2)]) (rest := []) mlX8_26 (c_X9_isKind 2) dX8_runFrom_15 rfl rfl (Nat.le_of_ble_eq_true rfl) (by decide) (by decide) ?_
  refine xb_beq (tgt := 81) dX8_runFrom_18 rfl (fun c => absurd (by decide) c) (fun _ => ?_)
  refine xr_getsO slX8_50 dX8_runFrom_21 ?_
  refine xr_iload dX8_runFrom_24 1 rfl ?_
  refine xr_iconst (v := 4) dX8_runFrom_26 rfl ?_
  refine xr_imul dX8_runFrom_27 ?_
  refine xb_top (y := 8) (by decide) ?_
  refine xr_iload_n dX8_runFrom_28 4 rfl ?_
  refine xr_iadd dX8_runFrom_29 ?_
  refine xb_top (y := 9) (by decide) ?_
  refine xr_tabO (by unfold vp_in; decide) dX8_runFrom_30 ?_
  refine xb_top (y := 30) (by decide) ?_
  refine xr_if_eq (tgt := 67) dX8_runFrom_31 rfl (fun c => absurd c (by decide)) (fun _ => ?_)
  refine xr_iload dX8_runFrom_34 6 rfl ?_
  refine xr_bipush (v := 30) dX8_runFrom_36 rfl ?_
  refine xr_icmp_ge (tgt := 65) dX8_runFrom_38 rfl (fun c => absurd c (nI_ge (a := e) (b := 30) (by omega) (by omega))) (fun _ => ?_)
  refine xr_aload_n dX8_runFrom_41 2 rfl ?_
  refine xr_getsO slX8_50 dX8_runFrom_42 ?_
  refine xr_iload dX8_runFrom_45 1 rfl ?_
  refine xr_iconst (v := 4) dX8_runFrom_47 rfl ?_
  refine xr_imul dX8_runFrom_48 ?_
  refine xb_top (y := 8) (by decide) ?_
  refine xr_iload_n dX8_runFrom_49 4 rfl ?_
  refine xr_iadd dX8_runFrom_50 ?_
  refine xb_top (y := 9) (by decide) ?_
  refine xr_tabO (by unfold vp_in; decide) dX8_runFrom_51 ?_
  refine xb_top (y := 30) (by decide) ?_
  refine xr_iload dX8_runFrom_52 1 rfl ?_
  refine xr_iload_n dX8_runFrom_54 5 rfl ?_
  refine xr_iload dX8_runFrom_55 6 rfl ?_
  refine xr_iconst (v := 1) dX8_runFrom_57 rfl ?_
  refine xr_iadd dX8_runFrom_58 ?_
  refine xb_top (y := nI (e + 1)) (nI_add (e) (1)) ?_
  refine xr_callV (As := [.int (30), .int (2), .int (x), .int (nI (e + 1))]) (rest := []) mlX8_53 (tu2_run_30_2 (e := e + 1) (ac := ac) x (by omega) (by omega) e_b (by omega) e_ra hac e_ac e_k) dX8_runFrom_59 s_46 rfl rfl (Nat.le_of_ble_eq_true rfl) (by decide) ⟨by decide, by decide⟩ (fun v s2 M4 J2 hq => ?_)
  obtain ⟨r6, rfl, rfl, rfl, k5, ⟨hr3, hx2⟩⟩ := hq
  try dsimp only [Option.toList, List.cons_append, List.nil_append]
  subst hr3
  refine xr_goto (tgt := 66) dX8_runFrom_62 rfl ?_
  exact xr_iret dX8_runFrom_66 rfl rfl (⟨_, rfl, rfl, rfl, (Ke.tr (fun _ _ h => h) Ke.rf k5), rfl, hx2⟩)
set_option maxRecDepth 100000 in
set_option maxHeartbeats 4000000 in
theorem tu2_own_1 {e ac : Nat} (x : Int32) (he : e + 3 ≤ 30) {l : Launch} {G : xG} {M : xM} {J : xJ} {b ra : Nat} (h_b : b ≤ 50) (e_b : M 46 2 = nI b) (h_ra : ra + 3 ≤ 900) (e_ra : M 46 3 = nI ra) (hac : ac < b) (e_ac : M 46 4 = nI ac) (e_k : M 47 ac = 2) : x_M l G fX8_own 9 0 0 [.ref (46), .int (1), .int (x), .int (nI (e))] x_SH M J (qKI WTN M J (fun r M2 => r = (-((x + (nI (ac))) * 2)) ∧ M2 46 3 = nI (ra + 3))) := by
  refine xb_of pX8 (Nat.le_of_ble_eq_true rfl) rfl ?_
  refine xr_aload_n dX8_own_0 0 rfl ?_
  refine xr_aload_n dX8_own_1 0 rfl ?_
  refine xb_get (v := nI (ac)) flX8_36 dX8_own_2 s_46 rfl e_ac ?_
  refine xb_cV (As := [.int (nI (ac))]) (rest := []) mlX8_43 (c_X8_has (nI (ac)) (by omega) e_b) dX8_own_5 s_46 rfl rfl (Nat.le_of_ble_eq_true rfl) (by decide) (by decide) ?_
  refine xb_beq (tgt := 30) dX8_own_8 rfl (fun c => absurd ⟨nI_pos' (by omega), nI_lt (by omega) (by omega)⟩ c) (fun _ => ?_)
  refine xr_aload_n dX8_own_11 0 rfl ?_
  refine xr_aload_n dX8_own_12 0 rfl ?_
  refine xr_getR flX8_9 dX8_own_13 s_46 rfl ?_
  refine xr_aload_n dX8_own_16 0 rfl ?_
  refine xb_get (v := nI (ac)) flX8_36 dX8_own_17 s_46 rfl e_ac ?_
  refine xb_iald (j := ac) (v := 2) dX8_own_20 s_47 (by omega) (by decide) e_k ?_
  refine xr_iload_n dX8_own_21 1 rfl ?_
  refine xr_iload_n dX8_own_22 2 rfl ?_
  refine xr_iload_n dX8_own_23 3 rfl ?_
  refine xr_callV (As := [.int (2), .int (1), .int (x), .int (nI (e))]) (rest := []) mlX8_46 (tu2_runFrom_2_1 (e := e) (ac := ac) x (by omega) (by omega) e_b (by omega) e_ra hac e_ac e_k) dX8_own_24 s_46 rfl rfl (Nat.le_of_ble_eq_true rfl) (by decide) ⟨by decide, by decide⟩ (fun v s2 M4 J2 hq => ?_)
  obtain ⟨r6, rfl, rfl, rfl, k5, ⟨hr3, hx2⟩⟩ := hq
  try dsimp only [Option.toList, List.cons_append, List.nil_append]
  subst hr3
  refine xr_goto (tgt := 31) dX8_own_27 rfl ?_
  exact xr_iret dX8_own_31 rfl rfl (⟨_, rfl, rfl, rfl, (Ke.tr (fun _ _ h => h) Ke.rf k5), rfl, hx2⟩)
set_option maxRecDepth 100000 in
set_option maxHeartbeats 4000000 in
theorem tu2_run_11_0 {e ac : Nat} (x : Int32) (he : e + 0 ≤ 30) {l : Launch} {G : xG} {M : xM} {J : xJ} {b ra : Nat} (h_b : b ≤ 50) (e_b : M 46 2 = nI b) (h_ra : ra + 1 ≤ 900) (e_ra : M 46 3 = nI ra) (hac : ac < b) (e_ac : M 46 4 = nI ac) (e_k : M 47 ac = 2) : x_M l G fX8_run 1 0 0 [.ref (46), .int (11), .int (0), .int (x), .int (nI (e))] x_SH M J (qKI WTN M J (fun r M2 => r = (x ^^^ (nI (ac))) ∧ M2 46 3 = nI (ra + 1))) := by
  refine xb_of pX8 (Nat.le_of_ble_eq_true rfl) rfl ?_
  refine xr_aload_n dX8_run_0 0 rfl ?_
  refine xr_iload_n dX8_run_1 1 rfl ?_
  refine xr_callV (As := [.int (11)]) (rest := []) mlX8_56 (g_X8_note 11 (by omega) e_ra) dX8_run_2 s_46 rfl rfl (Nat.le_of_ble_eq_true rfl) (by decide) ⟨by decide, by decide⟩ (fun v s2 M2 J2 hq => ?_)
  obtain ⟨rfl, rfl, rfl, k3, hx1⟩ := hq
  try dsimp only [Option.toList, List.cons_append, List.nil_append]
  refine xr_iload_n dX8_run_5 1 rfl ?_
  refine xr_lookup (tgt := 156) (off := 150) dX8_run_6 (by decide) (by decide) rfl ?_
  refine xr_iload_n dX8_run_156 3 rfl ?_
  refine xr_aload_n dX8_run_157 0 rfl ?_
  refine xb_get (v := nI (ac)) flX8_36 dX8_run_158 s_46 rfl (Eq.trans (k3 46 4 (by decide)) e_ac) ?_
  refine xr_ixor dX8_run_161 ?_
  exact xr_iret dX8_run_162 rfl rfl (⟨_, rfl, rfl, rfl, (Ke.tr (fun _ _ h => h) Ke.rf k3), rfl, hx1⟩)
set_option maxRecDepth 100000 in
set_option maxHeartbeats 4000000 in
theorem tu2_runFrom_2_2 {e ac : Nat} (x : Int32) (he : e + 1 ≤ 30) {l : Launch} {G : xG} {M : xM} {J : xJ} {b ra : Nat} (h_b : b ≤ 50) (e_b : M 46 2 = nI b) (h_ra : ra + 1 ≤ 900) (e_ra : M 46 3 = nI ra) (hac : ac < b) (e_ac : M 46 4 = nI ac) (e_k : M 47 ac = 2) : x_M l G fX8_runFrom 2 0 0 [.ref (46), .int (2), .int (2), .int (x), .int (nI (e))] x_SH M J (qKI WTN M J (fun r M2 => r = (x ^^^ (nI (ac))) ∧ M2 46 3 = nI (ra + 1))) := by
  refine xb_of pX8 (Nat.le_of_ble_eq_true rfl) rfl ?_
  refine xr_iload_n dX8_runFrom_0 1 rfl ?_
  refine xr_istore (ls2 := [(5, .int (2)), (0, .ref (46)), (1, .int (2)), (2, .int (2)), (3, .int (x)), (4, .int (nI (e)))]) dX8_runFrom_1 (by decide) rfl ?_
  refine xr_iconst (v := 0) dX8_runFrom_3 rfl ?_
  refine xr_istore (ls2 := [(6, .int (0)), (5, .int (2)), (0, .ref (46)), (1, .int (2)), (2, .int (2)), (3, .int (x)), (4, .int (nI (e)))]) dX8_runFrom_4 (by decide) rfl ?_
  refine xr_iload dX8_runFrom_6 0 rfl ?_
  refine xr_bipush (v := 8) dX8_runFrom_8 rfl ?_
  refine xr_icmp_ge (tgt := 81) dX8_runFrom_10 rfl (fun c => absurd c (by decide)) (fun _ => ?_)
  refine xr_iload dX8_runFrom_13 1 rfl ?_
  refine xb_cN (As := [.int (2)]) (rest := []) mlX8_26 (c_X9_isKind 2) dX8_runFrom_15 rfl rfl (Nat.le_of_ble_eq_true rfl) (by decide) (by decide) ?_
  refine xb_beq (tgt := 81) dX8_runFrom_18 rfl (fun c => absurd (by decide) c) (fun _ => ?_)
  refine xr_getsO slX8_50 dX8_runFrom_21 ?_
  refine xr_iload dX8_runFrom_24 1 rfl ?_
  refine xr_iconst (v := 4) dX8_runFrom_26 rfl ?_
  refine xr_imul dX8_runFrom_27 ?_
  refine xb_top (y := 8) (by decide) ?_
  refine xr_iload_n dX8_runFrom_28 4 rfl ?_
  refine xr_iadd dX8_runFrom_29 ?_
  refine xb_top (y := 10) (by decide) ?_
  refine xr_tabO (by unfold vp_in; decide) dX8_runFrom_30 ?_
  refine xb_top (y := 0) (by decide) ?_
  refine xr_if_eq (tgt := 67) dX8_runFrom_31 rfl (fun _ => ?_) (fun c => absurd (by decide) c)
  refine xr_getsA slX8_30 dX8_runFrom_67 ?_
  refine xr_iload dX8_runFrom_70 1 rfl ?_
  refine xr_tabA (by unfold vp_in; decide) dX8_runFrom_72 ?_
  refine xb_top (y := 0) (by decide) ?_
  refine xr_istore (ls2 := [(5, .int (0)), (6, .int (0)), (0, .ref (46)), (1, .int (2)), (2, .int (2)), (3, .int (x)), (4, .int (nI (e)))]) dX8_runFrom_73 (by decide) rfl ?_
  refine xr_iinc (v := 1) (ls2 := [(6, .int (1)), (5, .int (0)), (0, .ref (46)), (1, .int (2)), (2, .int (2)), (3, .int (x)), (4, .int (nI (e)))]) dX8_runFrom_75 1 rfl rfl (by decide) rfl ?_
  refine xr_goto (tgt := 6) dX8_runFrom_78 rfl ?_
  refine xr_iload dX8_runFrom_6 0 rfl ?_
  refine xr_bipush (v := 8) dX8_runFrom_8 rfl ?_
  refine xr_icmp_ge (tgt := 81) dX8_runFrom_10 rfl (fun c => absurd c (by decide)) (fun _ => ?_)
  refine xr_iload dX8_runFrom_13 1 rfl ?_
  refine xb_cN (As := [.int (0)]) (rest := []) mlX8_26 (c_X9_isKind 0) dX8_runFrom_15 rfl rfl (Nat.le_of_ble_eq_true rfl) (by decide) (by decide) ?_
  refine xb_beq (tgt := 81) dX8_runFrom_18 rfl (fun c => absurd (by decide) c) (fun _ => ?_)
  refine xr_getsO slX8_50 dX8_runFrom_21 ?_
  refine xr_iload dX8_runFrom_24 1 rfl ?_
  refine xr_iconst (v := 4) dX8_runFrom_26 rfl ?_
  refine xr_imul dX8_runFrom_27 ?_
  refine xb_top (y := 0) (by decide) ?_
  refine xr_iload_n dX8_runFrom_28 4 rfl ?_
  refine xr_iadd dX8_runFrom_29 ?_
  refine xb_top (y := 2) (by decide) ?_
  refine xr_tabO (by unfold vp_in; decide) dX8_runFrom_30 ?_
  refine xb_top (y := 11) (by decide) ?_
  refine xr_if_eq (tgt := 67) dX8_runFrom_31 rfl (fun c => absurd c (by decide)) (fun _ => ?_)
  refine xr_iload dX8_runFrom_34 6 rfl ?_
  refine xr_bipush (v := 30) dX8_runFrom_36 rfl ?_
  refine xr_icmp_ge (tgt := 65) dX8_runFrom_38 rfl (fun c => absurd c (nI_ge (a := e) (b := 30) (by omega) (by omega))) (fun _ => ?_)
  refine xr_aload_n dX8_runFrom_41 2 rfl ?_
  refine xr_getsO slX8_50 dX8_runFrom_42 ?_
  refine xr_iload dX8_runFrom_45 1 rfl ?_
  refine xr_iconst (v := 4) dX8_runFrom_47 rfl ?_
  refine xr_imul dX8_runFrom_48 ?_
  refine xb_top (y := 0) (by decide) ?_
  refine xr_iload_n dX8_runFrom_49 4 rfl ?_
  refine xr_iadd dX8_runFrom_50 ?_
  refine xb_top (y := 2) (by decide) ?_
  refine xr_tabO (by unfold vp_in; decide) dX8_runFrom_51 ?_
  refine xb_top (y := 11) (by decide) ?_
  refine xr_iload dX8_runFrom_52 1 rfl ?_
  refine xr_iload_n dX8_runFrom_54 5 rfl ?_
  refine xr_iload dX8_runFrom_55 6 rfl ?_
  refine xr_iconst (v := 1) dX8_runFrom_57 rfl ?_
  refine xr_iadd dX8_runFrom_58 ?_
  refine xb_top (y := nI (e + 1)) (nI_add (e) (1)) ?_
  refine xr_callV (As := [.int (11), .int (0), .int (x), .int (nI (e + 1))]) (rest := []) mlX8_53 (tu2_run_11_0 (e := e + 1) (ac := ac) x (by omega) (by omega) e_b (by omega) e_ra hac e_ac e_k) dX8_runFrom_59 s_46 rfl rfl (Nat.le_of_ble_eq_true rfl) (by decide) ⟨by decide, by decide⟩ (fun v s2 M5 J2 hq => ?_)
  obtain ⟨r7, rfl, rfl, rfl, k6, ⟨hr4, hx3⟩⟩ := hq
  try dsimp only [Option.toList, List.cons_append, List.nil_append]
  subst hr4
  refine xr_goto (tgt := 66) dX8_runFrom_62 rfl ?_
  exact xr_iret dX8_runFrom_66 rfl rfl (⟨_, rfl, rfl, rfl, (Ke.tr (fun _ _ h => h) Ke.rf k6), rfl, hx3⟩)
set_option maxRecDepth 100000 in
set_option maxHeartbeats 4000000 in
theorem tu2_own_2 {e ac : Nat} (x : Int32) (he : e + 1 ≤ 30) {l : Launch} {G : xG} {M : xM} {J : xJ} {b ra : Nat} (h_b : b ≤ 50) (e_b : M 46 2 = nI b) (h_ra : ra + 1 ≤ 900) (e_ra : M 46 3 = nI ra) (hac : ac < b) (e_ac : M 46 4 = nI ac) (e_k : M 47 ac = 2) : x_M l G fX8_own 3 0 0 [.ref (46), .int (2), .int (x), .int (nI (e))] x_SH M J (qKI WTN M J (fun r M2 => r = (x ^^^ (nI (ac))) ∧ M2 46 3 = nI (ra + 1))) := by
  refine xb_of pX8 (Nat.le_of_ble_eq_true rfl) rfl ?_
  refine xr_aload_n dX8_own_0 0 rfl ?_
  refine xr_aload_n dX8_own_1 0 rfl ?_
  refine xb_get (v := nI (ac)) flX8_36 dX8_own_2 s_46 rfl e_ac ?_
  refine xb_cV (As := [.int (nI (ac))]) (rest := []) mlX8_43 (c_X8_has (nI (ac)) (by omega) e_b) dX8_own_5 s_46 rfl rfl (Nat.le_of_ble_eq_true rfl) (by decide) (by decide) ?_
  refine xb_beq (tgt := 30) dX8_own_8 rfl (fun c => absurd ⟨nI_pos' (by omega), nI_lt (by omega) (by omega)⟩ c) (fun _ => ?_)
  refine xr_aload_n dX8_own_11 0 rfl ?_
  refine xr_aload_n dX8_own_12 0 rfl ?_
  refine xr_getR flX8_9 dX8_own_13 s_46 rfl ?_
  refine xr_aload_n dX8_own_16 0 rfl ?_
  refine xb_get (v := nI (ac)) flX8_36 dX8_own_17 s_46 rfl e_ac ?_
  refine xb_iald (j := ac) (v := 2) dX8_own_20 s_47 (by omega) (by decide) e_k ?_
  refine xr_iload_n dX8_own_21 1 rfl ?_
  refine xr_iload_n dX8_own_22 2 rfl ?_
  refine xr_iload_n dX8_own_23 3 rfl ?_
  refine xr_callV (As := [.int (2), .int (2), .int (x), .int (nI (e))]) (rest := []) mlX8_46 (tu2_runFrom_2_2 (e := e) (ac := ac) x (by omega) (by omega) e_b (by omega) e_ra hac e_ac e_k) dX8_own_24 s_46 rfl rfl (Nat.le_of_ble_eq_true rfl) (by decide) ⟨by decide, by decide⟩ (fun v s2 M4 J2 hq => ?_)
  obtain ⟨r6, rfl, rfl, rfl, k5, ⟨hr3, hx2⟩⟩ := hq
  try dsimp only [Option.toList, List.cons_append, List.nil_append]
  subst hr3
  refine xr_goto (tgt := 31) dX8_own_27 rfl ?_
  exact xr_iret dX8_own_31 rfl rfl (⟨_, rfl, rfl, rfl, (Ke.tr (fun _ _ h => h) Ke.rf k5), rfl, hx2⟩)
set_option maxRecDepth 100000 in
set_option maxHeartbeats 4000000 in
theorem tu2_run_2_0 {e ac : Nat} (x : Int32) (he : e + 3 ≤ 30) {l : Launch} {G : xG} {M : xM} {J : xJ} {b ra : Nat} (h_b : b ≤ 50) (e_b : M 46 2 = nI b) (h_ra : ra + 5 ≤ 900) (e_ra : M 46 3 = nI ra) (hac : ac < b) (e_ac : M 46 4 = nI ac) (e_k : M 47 ac = 2) : x_M l G fX8_run 10 0 0 [.ref (46), .int (2), .int (0), .int (x), .int (nI (e))] x_SH M J (qKI WTN M J (fun r M2 => r = ((-((x + (nI (ac))) * 2)) - (1 ^^^ (nI (ac)))) ∧ M2 46 3 = nI (ra + 5))) := by
  refine xb_of pX8 (Nat.le_of_ble_eq_true rfl) rfl ?_
  refine xr_aload_n dX8_run_0 0 rfl ?_
  refine xr_iload_n dX8_run_1 1 rfl ?_
  refine xr_callV (As := [.int (2)]) (rest := []) mlX8_56 (g_X8_note 2 (by omega) e_ra) dX8_run_2 s_46 rfl rfl (Nat.le_of_ble_eq_true rfl) (by decide) ⟨by decide, by decide⟩ (fun v s2 M2 J2 hq => ?_)
  obtain ⟨rfl, rfl, rfl, k3, hx1⟩ := hq
  try dsimp only [Option.toList, List.cons_append, List.nil_append]
  refine xr_iload_n dX8_run_5 1 rfl ?_
  refine xr_lookup (tgt := 127) (off := 121) dX8_run_6 (by decide) (by decide) rfl ?_
  refine xr_aload_n dX8_run_127 0 rfl ?_
  refine xr_iconst (v := 1) dX8_run_128 rfl ?_
  refine xr_iload_n dX8_run_129 3 rfl ?_
  refine xr_iload dX8_run_130 4 rfl ?_
  refine xr_callV (As := [.int (1), .int (x), .int (nI (e))]) (rest := []) mlX8_39 (tu2_own_1 (e := e) (ac := ac) x (by omega) (by omega) (Eq.trans (k3 46 2 (by decide)) e_b) (by omega) hx1 hac (Eq.trans (k3 46 4 (by decide)) e_ac) (Eq.trans (k3 47 ac (by unfold WTN; omega)) e_k)) dX8_run_132 s_46 rfl rfl (Nat.le_of_ble_eq_true rfl) (by decide) ⟨by decide, by decide⟩ (fun v s2 M6 J2 hq => ?_)
  obtain ⟨r8, rfl, rfl, rfl, k7, ⟨hr5, hx4⟩⟩ := hq
  try dsimp only [Option.toList, List.cons_append, List.nil_append]
  subst hr5
  refine xr_aload_n dX8_run_135 0 rfl ?_
  refine xr_iconst (v := 2) dX8_run_136 rfl ?_
  refine xr_iconst (v := 1) dX8_run_137 rfl ?_
  refine xr_iload dX8_run_138 4 rfl ?_
  refine xr_callV (As := [.int (2), .int (1), .int (nI (e))]) (rest := [.int ((-((x + (nI (ac))) * 2)))]) mlX8_39 (tu2_own_2 (e := e) (ac := ac) 1 (by omega) (by omega) (Eq.trans (k7 46 2 (by decide)) (Eq.trans (k3 46 2 (by decide)) e_b)) (by omega) hx4 hac (Eq.trans (k7 46 4 (by decide)) (Eq.trans (k3 46 4 (by decide)) e_ac)) (Eq.trans (k7 47 ac (by unfold WTN; omega)) (Eq.trans (k3 47 ac (by unfold WTN; omega)) e_k))) dX8_run_140 s_46 rfl rfl (Nat.le_of_ble_eq_true rfl) (by decide) ⟨by decide, by decide⟩ (fun v s2 M11 J2 hq => ?_)
  obtain ⟨r13, rfl, rfl, rfl, k12, ⟨hr10, hx9⟩⟩ := hq
  try dsimp only [Option.toList, List.cons_append, List.nil_append]
  subst hr10
  refine xr_isub dX8_run_143 ?_
  exact xr_iret dX8_run_144 rfl rfl (⟨_, rfl, rfl, rfl, (Ke.tr (fun _ _ h => h) (Ke.tr (fun _ _ h => h) (Ke.tr (fun _ _ h => h) Ke.rf k3) k7) k12), rfl, hx9⟩)
set_option maxRecDepth 100000 in
set_option maxHeartbeats 4000000 in
theorem tu2_runFrom_2_3 {e ac : Nat} (x : Int32) (he : e + 4 ≤ 30) {l : Launch} {G : xG} {M : xM} {J : xJ} {b ra : Nat} (h_b : b ≤ 50) (e_b : M 46 2 = nI b) (h_ra : ra + 5 ≤ 900) (e_ra : M 46 3 = nI ra) (hac : ac < b) (e_ac : M 46 4 = nI ac) (e_k : M 47 ac = 2) : x_M l G fX8_runFrom 11 0 0 [.ref (46), .int (2), .int (3), .int (x), .int (nI (e))] x_SH M J (qKI WTN M J (fun r M2 => r = ((-((x + (nI (ac))) * 2)) - (1 ^^^ (nI (ac)))) ∧ M2 46 3 = nI (ra + 5))) := by
  refine xb_of pX8 (Nat.le_of_ble_eq_true rfl) rfl ?_
  refine xr_iload_n dX8_runFrom_0 1 rfl ?_
  refine xr_istore (ls2 := [(5, .int (2)), (0, .ref (46)), (1, .int (2)), (2, .int (3)), (3, .int (x)), (4, .int (nI (e)))]) dX8_runFrom_1 (by decide) rfl ?_
  refine xr_iconst (v := 0) dX8_runFrom_3 rfl ?_
  refine xr_istore (ls2 := [(6, .int (0)), (5, .int (2)), (0, .ref (46)), (1, .int (2)), (2, .int (3)), (3, .int (x)), (4, .int (nI (e)))]) dX8_runFrom_4 (by decide) rfl ?_
  refine xr_iload dX8_runFrom_6 0 rfl ?_
  refine xr_bipush (v := 8) dX8_runFrom_8 rfl ?_
  refine xr_icmp_ge (tgt := 81) dX8_runFrom_10 rfl (fun c => absurd c (by decide)) (fun _ => ?_)
  refine xr_iload dX8_runFrom_13 1 rfl ?_
  refine xb_cN (As := [.int (2)]) (rest := []) mlX8_26 (c_X9_isKind 2) dX8_runFrom_15 rfl rfl (Nat.le_of_ble_eq_true rfl) (by decide) (by decide) ?_
  refine xb_beq (tgt := 81) dX8_runFrom_18 rfl (fun c => absurd (by decide) c) (fun _ => ?_)
  refine xr_getsO slX8_50 dX8_runFrom_21 ?_
  refine xr_iload dX8_runFrom_24 1 rfl ?_
  refine xr_iconst (v := 4) dX8_runFrom_26 rfl ?_
  refine xr_imul dX8_runFrom_27 ?_
  refine xb_top (y := 8) (by decide) ?_
  refine xr_iload_n dX8_runFrom_28 4 rfl ?_
  refine xr_iadd dX8_runFrom_29 ?_
  refine xb_top (y := 11) (by decide) ?_
  refine xr_tabO (by unfold vp_in; decide) dX8_runFrom_30 ?_
  refine xb_top (y := 0) (by decide) ?_
  refine xr_if_eq (tgt := 67) dX8_runFrom_31 rfl (fun _ => ?_) (fun c => absurd (by decide) c)
  refine xr_getsA slX8_30 dX8_runFrom_67 ?_
  refine xr_iload dX8_runFrom_70 1 rfl ?_
  refine xr_tabA (by unfold vp_in; decide) dX8_runFrom_72 ?_
  refine xb_top (y := 0) (by decide) ?_
  refine xr_istore (ls2 := [(5, .int (0)), (6, .int (0)), (0, .ref (46)), (1, .int (2)), (2, .int (3)), (3, .int (x)), (4, .int (nI (e)))]) dX8_runFrom_73 (by decide) rfl ?_
  refine xr_iinc (v := 1) (ls2 := [(6, .int (1)), (5, .int (0)), (0, .ref (46)), (1, .int (2)), (2, .int (3)), (3, .int (x)), (4, .int (nI (e)))]) dX8_runFrom_75 1 rfl rfl (by decide) rfl ?_
  refine xr_goto (tgt := 6) dX8_runFrom_78 rfl ?_
  refine xr_iload dX8_runFrom_6 0 rfl ?_
  refine xr_bipush (v := 8) dX8_runFrom_8 rfl ?_
  refine xr_icmp_ge (tgt := 81) dX8_runFrom_10 rfl (fun c => absurd c (by decide)) (fun _ => ?_)
  refine xr_iload dX8_runFrom_13 1 rfl ?_
  refine xb_cN (As := [.int (0)]) (rest := []) mlX8_26 (c_X9_isKind 0) dX8_runFrom_15 rfl rfl (Nat.le_of_ble_eq_true rfl) (by decide) (by decide) ?_
  refine xb_beq (tgt := 81) dX8_runFrom_18 rfl (fun c => absurd (by decide) c) (fun _ => ?_)
  refine xr_getsO slX8_50 dX8_runFrom_21 ?_
  refine xr_iload dX8_runFrom_24 1 rfl ?_
  refine xr_iconst (v := 4) dX8_runFrom_26 rfl ?_
  refine xr_imul dX8_runFrom_27 ?_
  refine xb_top (y := 0) (by decide) ?_
  refine xr_iload_n dX8_runFrom_28 4 rfl ?_
  refine xr_iadd dX8_runFrom_29 ?_
  refine xb_top (y := 3) (by decide) ?_
  refine xr_tabO (by unfold vp_in; decide) dX8_runFrom_30 ?_
  refine xb_top (y := 2) (by decide) ?_
  refine xr_if_eq (tgt := 67) dX8_runFrom_31 rfl (fun c => absurd c (by decide)) (fun _ => ?_)
  refine xr_iload dX8_runFrom_34 6 rfl ?_
  refine xr_bipush (v := 30) dX8_runFrom_36 rfl ?_
  refine xr_icmp_ge (tgt := 65) dX8_runFrom_38 rfl (fun c => absurd c (nI_ge (a := e) (b := 30) (by omega) (by omega))) (fun _ => ?_)
  refine xr_aload_n dX8_runFrom_41 2 rfl ?_
  refine xr_getsO slX8_50 dX8_runFrom_42 ?_
  refine xr_iload dX8_runFrom_45 1 rfl ?_
  refine xr_iconst (v := 4) dX8_runFrom_47 rfl ?_
  refine xr_imul dX8_runFrom_48 ?_
  refine xb_top (y := 0) (by decide) ?_
  refine xr_iload_n dX8_runFrom_49 4 rfl ?_
  refine xr_iadd dX8_runFrom_50 ?_
  refine xb_top (y := 3) (by decide) ?_
  refine xr_tabO (by unfold vp_in; decide) dX8_runFrom_51 ?_
  refine xb_top (y := 2) (by decide) ?_
  refine xr_iload dX8_runFrom_52 1 rfl ?_
  refine xr_iload_n dX8_runFrom_54 5 rfl ?_
  refine xr_iload dX8_runFrom_55 6 rfl ?_
  refine xr_iconst (v := 1) dX8_runFrom_57 rfl ?_
  refine xr_iadd dX8_runFrom_58 ?_
  refine xb_top (y := nI (e + 1)) (nI_add (e) (1)) ?_
  refine xr_callV (As := [.int (2), .int (0), .int (x), .int (nI (e + 1))]) (rest := []) mlX8_53 (tu2_run_2_0 (e := e + 1) (ac := ac) x (by omega) (by omega) e_b (by omega) e_ra hac e_ac e_k) dX8_runFrom_59 s_46 rfl rfl (Nat.le_of_ble_eq_true rfl) (by decide) ⟨by decide, by decide⟩ (fun v s2 M5 J2 hq => ?_)
  obtain ⟨r7, rfl, rfl, rfl, k6, ⟨hr4, hx3⟩⟩ := hq
  try dsimp only [Option.toList, List.cons_append, List.nil_append]
  subst hr4
  refine xr_goto (tgt := 66) dX8_runFrom_62 rfl ?_
  exact xr_iret dX8_runFrom_66 rfl rfl (⟨_, rfl, rfl, rfl, (Ke.tr (fun _ _ h => h) Ke.rf k6), rfl, hx3⟩)
set_option maxRecDepth 100000 in
set_option maxHeartbeats 4000000 in
theorem tu2_own_3 {e ac : Nat} (x : Int32) (he : e + 4 ≤ 30) {l : Launch} {G : xG} {M : xM} {J : xJ} {b ra : Nat} (h_b : b ≤ 50) (e_b : M 46 2 = nI b) (h_ra : ra + 5 ≤ 900) (e_ra : M 46 3 = nI ra) (hac : ac < b) (e_ac : M 46 4 = nI ac) (e_k : M 47 ac = 2) : x_M l G fX8_own 12 0 0 [.ref (46), .int (3), .int (x), .int (nI (e))] x_SH M J (qKI WTN M J (fun r M2 => r = ((-((x + (nI (ac))) * 2)) - (1 ^^^ (nI (ac)))) ∧ M2 46 3 = nI (ra + 5))) := by
  refine xb_of pX8 (Nat.le_of_ble_eq_true rfl) rfl ?_
  refine xr_aload_n dX8_own_0 0 rfl ?_
  refine xr_aload_n dX8_own_1 0 rfl ?_
  refine xb_get (v := nI (ac)) flX8_36 dX8_own_2 s_46 rfl e_ac ?_
  refine xb_cV (As := [.int (nI (ac))]) (rest := []) mlX8_43 (c_X8_has (nI (ac)) (by omega) e_b) dX8_own_5 s_46 rfl rfl (Nat.le_of_ble_eq_true rfl) (by decide) (by decide) ?_
  refine xb_beq (tgt := 30) dX8_own_8 rfl (fun c => absurd ⟨nI_pos' (by omega), nI_lt (by omega) (by omega)⟩ c) (fun _ => ?_)
  refine xr_aload_n dX8_own_11 0 rfl ?_
  refine xr_aload_n dX8_own_12 0 rfl ?_
  refine xr_getR flX8_9 dX8_own_13 s_46 rfl ?_
  refine xr_aload_n dX8_own_16 0 rfl ?_
  refine xb_get (v := nI (ac)) flX8_36 dX8_own_17 s_46 rfl e_ac ?_
  refine xb_iald (j := ac) (v := 2) dX8_own_20 s_47 (by omega) (by decide) e_k ?_
  refine xr_iload_n dX8_own_21 1 rfl ?_
  refine xr_iload_n dX8_own_22 2 rfl ?_
  refine xr_iload_n dX8_own_23 3 rfl ?_
  refine xr_callV (As := [.int (2), .int (3), .int (x), .int (nI (e))]) (rest := []) mlX8_46 (tu2_runFrom_2_3 (e := e) (ac := ac) x (by omega) (by omega) e_b (by omega) e_ra hac e_ac e_k) dX8_own_24 s_46 rfl rfl (Nat.le_of_ble_eq_true rfl) (by decide) ⟨by decide, by decide⟩ (fun v s2 M4 J2 hq => ?_)
  obtain ⟨r6, rfl, rfl, rfl, k5, ⟨hr3, hx2⟩⟩ := hq
  try dsimp only [Option.toList, List.cons_append, List.nil_append]
  subst hr3
  refine xr_goto (tgt := 31) dX8_own_27 rfl ?_
  exact xr_iret dX8_own_31 rfl rfl (⟨_, rfl, rfl, rfl, (Ke.tr (fun _ _ h => h) Ke.rf k5), rfl, hx2⟩)
set_option maxRecDepth 100000 in
set_option maxHeartbeats 4000000 in
theorem tu3_run_1_0 {e ac : Nat} (x : Int32) (he : e + 0 ≤ 30) {l : Launch} {G : xG} {M : xM} {J : xJ} {b ra : Nat} (h_b : b ≤ 50) (e_b : M 46 2 = nI b) (h_ra : ra + 1 ≤ 900) (e_ra : M 46 3 = nI ra) (hac : ac < b) (e_ac : M 46 4 = nI ac) (e_k : M 47 ac = 3) : x_M l G fX8_run 1 0 0 [.ref (46), .int (1), .int (0), .int (x), .int (nI (e))] x_SH M J (qKI WTN M J (fun r M2 => r = (x + (nI (ac))) ∧ M2 46 3 = nI (ra + 1))) := by
  refine xb_of pX8 (Nat.le_of_ble_eq_true rfl) rfl ?_
  refine xr_aload_n dX8_run_0 0 rfl ?_
  refine xr_iload_n dX8_run_1 1 rfl ?_
  refine xr_callV (As := [.int (1)]) (rest := []) mlX8_56 (g_X8_note 1 (by omega) e_ra) dX8_run_2 s_46 rfl rfl (Nat.le_of_ble_eq_true rfl) (by decide) ⟨by decide, by decide⟩ (fun v s2 M2 J2 hq => ?_)
  obtain ⟨rfl, rfl, rfl, k3, hx1⟩ := hq
  try dsimp only [Option.toList, List.cons_append, List.nil_append]
  refine xr_iload_n dX8_run_5 1 rfl ?_
  refine xr_lookup (tgt := 120) (off := 114) dX8_run_6 (by decide) (by decide) rfl ?_
  refine xr_iload_n dX8_run_120 3 rfl ?_
  refine xr_aload_n dX8_run_121 0 rfl ?_
  refine xb_get (v := nI (ac)) flX8_36 dX8_run_122 s_46 rfl (Eq.trans (k3 46 4 (by decide)) e_ac) ?_
  refine xr_iadd dX8_run_125 ?_
  exact xr_iret dX8_run_126 rfl rfl (⟨_, rfl, rfl, rfl, (Ke.tr (fun _ _ h => h) Ke.rf k3), rfl, hx1⟩)
set_option maxRecDepth 100000 in
set_option maxHeartbeats 4000000 in
theorem tu3_runFrom_3_0 {e ac : Nat} (x : Int32) (he : e + 1 ≤ 30) {l : Launch} {G : xG} {M : xM} {J : xJ} {b ra : Nat} (h_b : b ≤ 50) (e_b : M 46 2 = nI b) (h_ra : ra + 1 ≤ 900) (e_ra : M 46 3 = nI ra) (hac : ac < b) (e_ac : M 46 4 = nI ac) (e_k : M 47 ac = 3) : x_M l G fX8_runFrom 2 0 0 [.ref (46), .int (3), .int (0), .int (x), .int (nI (e))] x_SH M J (qKI WTN M J (fun r M2 => r = (x + (nI (ac))) ∧ M2 46 3 = nI (ra + 1))) := by
  refine xb_of pX8 (Nat.le_of_ble_eq_true rfl) rfl ?_
  refine xr_iload_n dX8_runFrom_0 1 rfl ?_
  refine xr_istore (ls2 := [(5, .int (3)), (0, .ref (46)), (1, .int (3)), (2, .int (0)), (3, .int (x)), (4, .int (nI (e)))]) dX8_runFrom_1 (by decide) rfl ?_
  refine xr_iconst (v := 0) dX8_runFrom_3 rfl ?_
  refine xr_istore (ls2 := [(6, .int (0)), (5, .int (3)), (0, .ref (46)), (1, .int (3)), (2, .int (0)), (3, .int (x)), (4, .int (nI (e)))]) dX8_runFrom_4 (by decide) rfl ?_
  refine xr_iload dX8_runFrom_6 0 rfl ?_
  refine xr_bipush (v := 8) dX8_runFrom_8 rfl ?_
  refine xr_icmp_ge (tgt := 81) dX8_runFrom_10 rfl (fun c => absurd c (by decide)) (fun _ => ?_)
  refine xr_iload dX8_runFrom_13 1 rfl ?_
  refine xb_cN (As := [.int (3)]) (rest := []) mlX8_26 (c_X9_isKind 3) dX8_runFrom_15 rfl rfl (Nat.le_of_ble_eq_true rfl) (by decide) (by decide) ?_
  refine xb_beq (tgt := 81) dX8_runFrom_18 rfl (fun c => absurd (by decide) c) (fun _ => ?_)
  refine xr_getsO slX8_50 dX8_runFrom_21 ?_
  refine xr_iload dX8_runFrom_24 1 rfl ?_
  refine xr_iconst (v := 4) dX8_runFrom_26 rfl ?_
  refine xr_imul dX8_runFrom_27 ?_
  refine xb_top (y := 12) (by decide) ?_
  refine xr_iload_n dX8_runFrom_28 4 rfl ?_
  refine xr_iadd dX8_runFrom_29 ?_
  refine xb_top (y := 12) (by decide) ?_
  refine xr_tabO (by unfold vp_in; decide) dX8_runFrom_30 ?_
  refine xb_top (y := 0) (by decide) ?_
  refine xr_if_eq (tgt := 67) dX8_runFrom_31 rfl (fun _ => ?_) (fun c => absurd (by decide) c)
  refine xr_getsA slX8_30 dX8_runFrom_67 ?_
  refine xr_iload dX8_runFrom_70 1 rfl ?_
  refine xr_tabA (by unfold vp_in; decide) dX8_runFrom_72 ?_
  refine xb_top (y := 2) (by decide) ?_
  refine xr_istore (ls2 := [(5, .int (2)), (6, .int (0)), (0, .ref (46)), (1, .int (3)), (2, .int (0)), (3, .int (x)), (4, .int (nI (e)))]) dX8_runFrom_73 (by decide) rfl ?_
  refine xr_iinc (v := 1) (ls2 := [(6, .int (1)), (5, .int (2)), (0, .ref (46)), (1, .int (3)), (2, .int (0)), (3, .int (x)), (4, .int (nI (e)))]) dX8_runFrom_75 1 rfl rfl (by decide) rfl ?_
  refine xr_goto (tgt := 6) dX8_runFrom_78 rfl ?_
  refine xr_iload dX8_runFrom_6 0 rfl ?_
  refine xr_bipush (v := 8) dX8_runFrom_8 rfl ?_
  refine xr_icmp_ge (tgt := 81) dX8_runFrom_10 rfl (fun c => absurd c (by decide)) (fun _ => ?_)
  refine xr_iload dX8_runFrom_13 1 rfl ?_
  refine xb_cN (As := [.int (2)]) (rest := []) mlX8_26 (c_X9_isKind 2) dX8_runFrom_15 rfl rfl (Nat.le_of_ble_eq_true rfl) (by decide) (by decide) ?_
  refine xb_beq (tgt := 81) dX8_runFrom_18 rfl (fun c => absurd (by decide) c) (fun _ => ?_)
  refine xr_getsO slX8_50 dX8_runFrom_21 ?_
  refine xr_iload dX8_runFrom_24 1 rfl ?_
  refine xr_iconst (v := 4) dX8_runFrom_26 rfl ?_
  refine xr_imul dX8_runFrom_27 ?_
  refine xb_top (y := 8) (by decide) ?_
  refine xr_iload_n dX8_runFrom_28 4 rfl ?_
  refine xr_iadd dX8_runFrom_29 ?_
  refine xb_top (y := 8) (by decide) ?_
  refine xr_tabO (by unfold vp_in; decide) dX8_runFrom_30 ?_
  refine xb_top (y := 0) (by decide) ?_
  refine xr_if_eq (tgt := 67) dX8_runFrom_31 rfl (fun _ => ?_) (fun c => absurd (by decide) c)
  refine xr_getsA slX8_30 dX8_runFrom_67 ?_
  refine xr_iload dX8_runFrom_70 1 rfl ?_
  refine xr_tabA (by unfold vp_in; decide) dX8_runFrom_72 ?_
  refine xb_top (y := 0) (by decide) ?_
  refine xr_istore (ls2 := [(5, .int (0)), (6, .int (1)), (0, .ref (46)), (1, .int (3)), (2, .int (0)), (3, .int (x)), (4, .int (nI (e)))]) dX8_runFrom_73 (by decide) rfl ?_
  refine xr_iinc (v := 2) (ls2 := [(6, .int (2)), (5, .int (0)), (0, .ref (46)), (1, .int (3)), (2, .int (0)), (3, .int (x)), (4, .int (nI (e)))]) dX8_runFrom_75 1 rfl rfl (by decide) rfl ?_
  refine xr_goto (tgt := 6) dX8_runFrom_78 rfl ?_
  refine xr_iload dX8_runFrom_6 0 rfl ?_
  refine xr_bipush (v := 8) dX8_runFrom_8 rfl ?_
  refine xr_icmp_ge (tgt := 81) dX8_runFrom_10 rfl (fun c => absurd c (by decide)) (fun _ => ?_)
  refine xr_iload dX8_runFrom_13 1 rfl ?_
  refine xb_cN (As := [.int (0)]) (rest := []) mlX8_26 (c_X9_isKind 0) dX8_runFrom_15 rfl rfl (Nat.le_of_ble_eq_true rfl) (by decide) (by decide) ?_
  refine xb_beq (tgt := 81) dX8_runFrom_18 rfl (fun c => absurd (by decide) c) (fun _ => ?_)
  refine xr_getsO slX8_50 dX8_runFrom_21 ?_
  refine xr_iload dX8_runFrom_24 1 rfl ?_
  refine xr_iconst (v := 4) dX8_runFrom_26 rfl ?_
  refine xr_imul dX8_runFrom_27 ?_
  refine xb_top (y := 0) (by decide) ?_
  refine xr_iload_n dX8_runFrom_28 4 rfl ?_
  refine xr_iadd dX8_runFrom_29 ?_
  refine xb_top (y := 0) (by decide) ?_
  refine xr_tabO (by unfold vp_in; decide) dX8_runFrom_30 ?_
  refine xb_top (y := 1) (by decide) ?_
  refine xr_if_eq (tgt := 67) dX8_runFrom_31 rfl (fun c => absurd c (by decide)) (fun _ => ?_)
  refine xr_iload dX8_runFrom_34 6 rfl ?_
  refine xr_bipush (v := 30) dX8_runFrom_36 rfl ?_
  refine xr_icmp_ge (tgt := 65) dX8_runFrom_38 rfl (fun c => absurd c (nI_ge (a := e) (b := 30) (by omega) (by omega))) (fun _ => ?_)
  refine xr_aload_n dX8_runFrom_41 2 rfl ?_
  refine xr_getsO slX8_50 dX8_runFrom_42 ?_
  refine xr_iload dX8_runFrom_45 1 rfl ?_
  refine xr_iconst (v := 4) dX8_runFrom_47 rfl ?_
  refine xr_imul dX8_runFrom_48 ?_
  refine xb_top (y := 0) (by decide) ?_
  refine xr_iload_n dX8_runFrom_49 4 rfl ?_
  refine xr_iadd dX8_runFrom_50 ?_
  refine xb_top (y := 0) (by decide) ?_
  refine xr_tabO (by unfold vp_in; decide) dX8_runFrom_51 ?_
  refine xb_top (y := 1) (by decide) ?_
  refine xr_iload dX8_runFrom_52 1 rfl ?_
  refine xr_iload_n dX8_runFrom_54 5 rfl ?_
  refine xr_iload dX8_runFrom_55 6 rfl ?_
  refine xr_iconst (v := 1) dX8_runFrom_57 rfl ?_
  refine xr_iadd dX8_runFrom_58 ?_
  refine xb_top (y := nI (e + 1)) (nI_add (e) (1)) ?_
  refine xr_callV (As := [.int (1), .int (0), .int (x), .int (nI (e + 1))]) (rest := []) mlX8_53 (tu3_run_1_0 (e := e + 1) (ac := ac) x (by omega) (by omega) e_b (by omega) e_ra hac e_ac e_k) dX8_runFrom_59 s_46 rfl rfl (Nat.le_of_ble_eq_true rfl) (by decide) ⟨by decide, by decide⟩ (fun v s2 M6 J2 hq => ?_)
  obtain ⟨r8, rfl, rfl, rfl, k7, ⟨hr5, hx4⟩⟩ := hq
  try dsimp only [Option.toList, List.cons_append, List.nil_append]
  subst hr5
  refine xr_goto (tgt := 66) dX8_runFrom_62 rfl ?_
  exact xr_iret dX8_runFrom_66 rfl rfl (⟨_, rfl, rfl, rfl, (Ke.tr (fun _ _ h => h) Ke.rf k7), rfl, hx4⟩)
set_option maxRecDepth 100000 in
set_option maxHeartbeats 4000000 in
theorem tu3_own_0 {e ac : Nat} (x : Int32) (he : e + 1 ≤ 30) {l : Launch} {G : xG} {M : xM} {J : xJ} {b ra : Nat} (h_b : b ≤ 50) (e_b : M 46 2 = nI b) (h_ra : ra + 1 ≤ 900) (e_ra : M 46 3 = nI ra) (hac : ac < b) (e_ac : M 46 4 = nI ac) (e_k : M 47 ac = 3) : x_M l G fX8_own 3 0 0 [.ref (46), .int (0), .int (x), .int (nI (e))] x_SH M J (qKI WTN M J (fun r M2 => r = (x + (nI (ac))) ∧ M2 46 3 = nI (ra + 1))) := by
  refine xb_of pX8 (Nat.le_of_ble_eq_true rfl) rfl ?_
  refine xr_aload_n dX8_own_0 0 rfl ?_
  refine xr_aload_n dX8_own_1 0 rfl ?_
  refine xb_get (v := nI (ac)) flX8_36 dX8_own_2 s_46 rfl e_ac ?_
  refine xb_cV (As := [.int (nI (ac))]) (rest := []) mlX8_43 (c_X8_has (nI (ac)) (by omega) e_b) dX8_own_5 s_46 rfl rfl (Nat.le_of_ble_eq_true rfl) (by decide) (by decide) ?_
  refine xb_beq (tgt := 30) dX8_own_8 rfl (fun c => absurd ⟨nI_pos' (by omega), nI_lt (by omega) (by omega)⟩ c) (fun _ => ?_)
  refine xr_aload_n dX8_own_11 0 rfl ?_
  refine xr_aload_n dX8_own_12 0 rfl ?_
  refine xr_getR flX8_9 dX8_own_13 s_46 rfl ?_
  refine xr_aload_n dX8_own_16 0 rfl ?_
  refine xb_get (v := nI (ac)) flX8_36 dX8_own_17 s_46 rfl e_ac ?_
  refine xb_iald (j := ac) (v := 3) dX8_own_20 s_47 (by omega) (by decide) e_k ?_
  refine xr_iload_n dX8_own_21 1 rfl ?_
  refine xr_iload_n dX8_own_22 2 rfl ?_
  refine xr_iload_n dX8_own_23 3 rfl ?_
  refine xr_callV (As := [.int (3), .int (0), .int (x), .int (nI (e))]) (rest := []) mlX8_46 (tu3_runFrom_3_0 (e := e) (ac := ac) x (by omega) (by omega) e_b (by omega) e_ra hac e_ac e_k) dX8_own_24 s_46 rfl rfl (Nat.le_of_ble_eq_true rfl) (by decide) ⟨by decide, by decide⟩ (fun v s2 M4 J2 hq => ?_)
  obtain ⟨r6, rfl, rfl, rfl, k5, ⟨hr3, hx2⟩⟩ := hq
  try dsimp only [Option.toList, List.cons_append, List.nil_append]
  subst hr3
  refine xr_goto (tgt := 31) dX8_own_27 rfl ?_
  exact xr_iret dX8_own_31 rfl rfl (⟨_, rfl, rfl, rfl, (Ke.tr (fun _ _ h => h) Ke.rf k5), rfl, hx2⟩)
set_option maxRecDepth 100000 in
set_option maxHeartbeats 4000000 in
theorem tu3_run_10_0 {e ac : Nat} (x : Int32) (he : e + 1 ≤ 30) {l : Launch} {G : xG} {M : xM} {J : xJ} {b ra : Nat} (h_b : b ≤ 50) (e_b : M 46 2 = nI b) (h_ra : ra + 2 ≤ 900) (e_ra : M 46 3 = nI ra) (hac : ac < b) (e_ac : M 46 4 = nI ac) (e_k : M 47 ac = 3) : x_M l G fX8_run 4 0 0 [.ref (46), .int (10), .int (0), .int (x), .int (nI (e))] x_SH M J (qKI WTN M J (fun r M2 => r = ((x + (nI (ac))) * 2) ∧ M2 46 3 = nI (ra + 2))) := by
  refine xb_of pX8 (Nat.le_of_ble_eq_true rfl) rfl ?_
  refine xr_aload_n dX8_run_0 0 rfl ?_
  refine xr_iload_n dX8_run_1 1 rfl ?_
  refine xr_callV (As := [.int (10)]) (rest := []) mlX8_56 (g_X8_note 10 (by omega) e_ra) dX8_run_2 s_46 rfl rfl (Nat.le_of_ble_eq_true rfl) (by decide) ⟨by decide, by decide⟩ (fun v s2 M2 J2 hq => ?_)
  obtain ⟨rfl, rfl, rfl, k3, hx1⟩ := hq
  try dsimp only [Option.toList, List.cons_append, List.nil_append]
  refine xr_iload_n dX8_run_5 1 rfl ?_
  refine xr_lookup (tgt := 145) (off := 139) dX8_run_6 (by decide) (by decide) rfl ?_
  refine xr_aload_n dX8_run_145 0 rfl ?_
  refine xr_iconst (v := 0) dX8_run_146 rfl ?_
  refine xr_iload_n dX8_run_147 3 rfl ?_
  refine xr_iload dX8_run_148 4 rfl ?_
  refine xr_callV (As := [.int (0), .int (x), .int (nI (e))]) (rest := []) mlX8_39 (tu3_own_0 (e := e) (ac := ac) x (by omega) (by omega) (Eq.trans (k3 46 2 (by decide)) e_b) (by omega) hx1 hac (Eq.trans (k3 46 4 (by decide)) e_ac) (Eq.trans (k3 47 ac (by unfold WTN; omega)) e_k)) dX8_run_150 s_46 rfl rfl (Nat.le_of_ble_eq_true rfl) (by decide) ⟨by decide, by decide⟩ (fun v s2 M6 J2 hq => ?_)
  obtain ⟨r8, rfl, rfl, rfl, k7, ⟨hr5, hx4⟩⟩ := hq
  try dsimp only [Option.toList, List.cons_append, List.nil_append]
  subst hr5
  refine xr_iconst (v := 2) dX8_run_153 rfl ?_
  refine xr_imul dX8_run_154 ?_
  exact xr_iret dX8_run_155 rfl rfl (⟨_, rfl, rfl, rfl, (Ke.tr (fun _ _ h => h) (Ke.tr (fun _ _ h => h) Ke.rf k3) k7), rfl, hx4⟩)
set_option maxRecDepth 100000 in
set_option maxHeartbeats 4000000 in
theorem tu3_runFrom_0_1 {e ac : Nat} (x : Int32) (he : e + 2 ≤ 30) {l : Launch} {G : xG} {M : xM} {J : xJ} {b ra : Nat} (h_b : b ≤ 50) (e_b : M 46 2 = nI b) (h_ra : ra + 2 ≤ 900) (e_ra : M 46 3 = nI ra) (hac : ac < b) (e_ac : M 46 4 = nI ac) (e_k : M 47 ac = 3) : x_M l G fX8_runFrom 5 0 0 [.ref (46), .int (0), .int (1), .int (x), .int (nI (e))] x_SH M J (qKI WTN M J (fun r M2 => r = ((x + (nI (ac))) * 2) ∧ M2 46 3 = nI (ra + 2))) := by
  refine xb_of pX8 (Nat.le_of_ble_eq_true rfl) rfl ?_
  refine xr_iload_n dX8_runFrom_0 1 rfl ?_
  refine xr_istore (ls2 := [(5, .int (0)), (0, .ref (46)), (1, .int (0)), (2, .int (1)), (3, .int (x)), (4, .int (nI (e)))]) dX8_runFrom_1 (by decide) rfl ?_
  refine xr_iconst (v := 0) dX8_runFrom_3 rfl ?_
  refine xr_istore (ls2 := [(6, .int (0)), (5, .int (0)), (0, .ref (46)), (1, .int (0)), (2, .int (1)), (3, .int (x)), (4, .int (nI (e)))]) dX8_runFrom_4 (by decide) rfl ?_
  refine xr_iload dX8_runFrom_6 0 rfl ?_
  refine xr_bipush (v := 8) dX8_runFrom_8 rfl ?_
  refine xr_icmp_ge (tgt := 81) dX8_runFrom_10 rfl (fun c => absurd c (by decide)) (fun _ => ?_)
  refine xr_iload dX8_runFrom_13 1 rfl ?_
  refine xb_cN (As := [.int (0)]) (rest := []) mlX8_26 (c_X9_isKind 0) dX8_runFrom_15 rfl rfl (Nat.le_of_ble_eq_true rfl) (by decide) (by decide) ?_
  refine xb_beq (tgt := 81) dX8_runFrom_18 rfl (fun c => absurd (by decide) c) (fun _ => ?_)
  refine xr_getsO slX8_50 dX8_runFrom_21 ?_
  refine xr_iload dX8_runFrom_24 1 rfl ?_
  refine xr_iconst (v := 4) dX8_runFrom_26 rfl ?_
  refine xr_imul dX8_runFrom_27 ?_
  refine xb_top (y := 0) (by decide) ?_
  refine xr_iload_n dX8_runFrom_28 4 rfl ?_
  refine xr_iadd dX8_runFrom_29 ?_
  refine xb_top (y := 1) (by decide) ?_
  refine xr_tabO (by unfold vp_in; decide) dX8_runFrom_30 ?_
  refine xb_top (y := 10) (by decide) ?_
  refine xr_if_eq (tgt := 67) dX8_runFrom_31 rfl (fun c => absurd c (by decide)) (fun _ => ?_)
  refine xr_iload dX8_runFrom_34 6 rfl ?_
  refine xr_bipush (v := 30) dX8_runFrom_36 rfl ?_
  refine xr_icmp_ge (tgt := 65) dX8_runFrom_38 rfl (fun c => absurd c (nI_ge (a := e) (b := 30) (by omega) (by omega))) (fun _ => ?_)
  refine xr_aload_n dX8_runFrom_41 2 rfl ?_
  refine xr_getsO slX8_50 dX8_runFrom_42 ?_
  refine xr_iload dX8_runFrom_45 1 rfl ?_
  refine xr_iconst (v := 4) dX8_runFrom_47 rfl ?_
  refine xr_imul dX8_runFrom_48 ?_
  refine xb_top (y := 0) (by decide) ?_
  refine xr_iload_n dX8_runFrom_49 4 rfl ?_
  refine xr_iadd dX8_runFrom_50 ?_
  refine xb_top (y := 1) (by decide) ?_
  refine xr_tabO (by unfold vp_in; decide) dX8_runFrom_51 ?_
  refine xb_top (y := 10) (by decide) ?_
  refine xr_iload dX8_runFrom_52 1 rfl ?_
  refine xr_iload_n dX8_runFrom_54 5 rfl ?_
  refine xr_iload dX8_runFrom_55 6 rfl ?_
  refine xr_iconst (v := 1) dX8_runFrom_57 rfl ?_
  refine xr_iadd dX8_runFrom_58 ?_
  refine xb_top (y := nI (e + 1)) (nI_add (e) (1)) ?_
  refine xr_callV (As := [.int (10), .int (0), .int (x), .int (nI (e + 1))]) (rest := []) mlX8_53 (tu3_run_10_0 (e := e + 1) (ac := ac) x (by omega) (by omega) e_b (by omega) e_ra hac e_ac e_k) dX8_runFrom_59 s_46 rfl rfl (Nat.le_of_ble_eq_true rfl) (by decide) ⟨by decide, by decide⟩ (fun v s2 M4 J2 hq => ?_)
  obtain ⟨r6, rfl, rfl, rfl, k5, ⟨hr3, hx2⟩⟩ := hq
  try dsimp only [Option.toList, List.cons_append, List.nil_append]
  subst hr3
  refine xr_goto (tgt := 66) dX8_runFrom_62 rfl ?_
  exact xr_iret dX8_runFrom_66 rfl rfl (⟨_, rfl, rfl, rfl, (Ke.tr (fun _ _ h => h) Ke.rf k5), rfl, hx2⟩)
set_option maxRecDepth 100000 in
set_option maxHeartbeats 4000000 in
theorem tu3_above_2_1 {e ac : Nat} (x : Int32) (he : e + 2 ≤ 30) {l : Launch} {G : xG} {M : xM} {J : xJ} {b ra : Nat} (h_b : b ≤ 50) (e_b : M 46 2 = nI b) (h_ra : ra + 2 ≤ 900) (e_ra : M 46 3 = nI ra) (hac : ac < b) (e_ac : M 46 4 = nI ac) (e_k : M 47 ac = 3) : x_M l G fX8_above 6 0 0 [.ref (46), .int (2), .int (1), .int (x), .int (nI (e))] x_SH M J (qKI WTN M J (fun r M2 => r = ((x + (nI (ac))) * 2) ∧ M2 46 3 = nI (ra + 2))) := by
  refine xb_of pX8 (Nat.le_of_ble_eq_true rfl) rfl ?_
  refine xr_iload_n dX8_above_0 1 rfl ?_
  refine xb_cN (As := [.int (2)]) (rest := []) mlX8_26 (c_X9_isKind 2) dX8_above_1 rfl rfl (Nat.le_of_ble_eq_true rfl) (by decide) (by decide) ?_
  refine xb_beq (tgt := 23) dX8_above_4 rfl (fun c => absurd (by decide) c) (fun _ => ?_)
  refine xr_aload_n dX8_above_7 0 rfl ?_
  refine xr_getsA slX8_30 dX8_above_8 ?_
  refine xr_iload_n dX8_above_11 1 rfl ?_
  refine xr_tabA (by unfold vp_in; decide) dX8_above_12 ?_
  refine xb_top (y := 0) (by decide) ?_
  refine xr_iload_n dX8_above_13 2 rfl ?_
  refine xr_iload_n dX8_above_14 3 rfl ?_
  refine xr_iload dX8_above_15 4 rfl ?_
  refine xr_callV (As := [.int (0), .int (1), .int (x), .int (nI (e))]) (rest := []) mlX8_46 (tu3_runFrom_0_1 (e := e) (ac := ac) x (by omega) (by omega) e_b (by omega) e_ra hac e_ac e_k) dX8_above_17 s_46 rfl rfl (Nat.le_of_ble_eq_true rfl) (by decide) ⟨by decide, by decide⟩ (fun v s2 M4 J2 hq => ?_)
  obtain ⟨r6, rfl, rfl, rfl, k5, ⟨hr3, hx2⟩⟩ := hq
  try dsimp only [Option.toList, List.cons_append, List.nil_append]
  subst hr3
  refine xr_goto (tgt := 24) dX8_above_20 rfl ?_
  exact xr_iret dX8_above_24 rfl rfl (⟨_, rfl, rfl, rfl, (Ke.tr (fun _ _ h => h) Ke.rf k5), rfl, hx2⟩)
set_option maxRecDepth 100000 in
set_option maxHeartbeats 4000000 in
theorem tu3_run_30_2 {e ac : Nat} (x : Int32) (he : e + 2 ≤ 30) {l : Launch} {G : xG} {M : xM} {J : xJ} {b ra : Nat} (h_b : b ≤ 50) (e_b : M 46 2 = nI b) (h_ra : ra + 3 ≤ 900) (e_ra : M 46 3 = nI ra) (hac : ac < b) (e_ac : M 46 4 = nI ac) (e_k : M 47 ac = 3) : x_M l G fX8_run 7 0 0 [.ref (46), .int (30), .int (2), .int (x), .int (nI (e))] x_SH M J (qKI WTN M J (fun r M2 => r = (-((x + (nI (ac))) * 2)) ∧ M2 46 3 = nI (ra + 3))) := by
  refine xb_of pX8 (Nat.le_of_ble_eq_true rfl) rfl ?_
  refine xr_aload_n dX8_run_0 0 rfl ?_
  refine xr_iload_n dX8_run_1 1 rfl ?_
  refine xr_callV (As := [.int (30)]) (rest := []) mlX8_56 (g_X8_note 30 (by omega) e_ra) dX8_run_2 s_46 rfl rfl (Nat.le_of_ble_eq_true rfl) (by decide) ⟨by decide, by decide⟩ (fun v s2 M2 J2 hq => ?_)
  obtain ⟨rfl, rfl, rfl, k3, hx1⟩ := hq
  try dsimp only [Option.toList, List.cons_append, List.nil_append]
  refine xr_iload_n dX8_run_5 1 rfl ?_
  refine xr_lookup (tgt := 175) (off := 169) dX8_run_6 (by decide) (by decide) rfl ?_
  refine xr_aload_n dX8_run_175 0 rfl ?_
  refine xr_iload_n dX8_run_176 2 rfl ?_
  refine xr_iconst (v := 1) dX8_run_177 rfl ?_
  refine xr_iload_n dX8_run_178 3 rfl ?_
  refine xr_iload dX8_run_179 4 rfl ?_
  refine xr_callV (As := [.int (2), .int (1), .int (x), .int (nI (e))]) (rest := []) mlX8_60 (tu3_above_2_1 (e := e) (ac := ac) x (by omega) (by omega) (Eq.trans (k3 46 2 (by decide)) e_b) (by omega) hx1 hac (Eq.trans (k3 46 4 (by decide)) e_ac) (Eq.trans (k3 47 ac (by unfold WTN; omega)) e_k)) dX8_run_181 s_46 rfl rfl (Nat.le_of_ble_eq_true rfl) (by decide) ⟨by decide, by decide⟩ (fun v s2 M6 J2 hq => ?_)
  obtain ⟨r8, rfl, rfl, rfl, k7, ⟨hr5, hx4⟩⟩ := hq
  try dsimp only [Option.toList, List.cons_append, List.nil_append]
  subst hr5
  refine xr_ineg dX8_run_184 ?_
  exact xr_iret dX8_run_185 rfl rfl (⟨_, rfl, rfl, rfl, (Ke.tr (fun _ _ h => h) (Ke.tr (fun _ _ h => h) Ke.rf k3) k7), rfl, hx4⟩)
set_option maxRecDepth 100000 in
set_option maxHeartbeats 4000000 in
theorem tu3_runFrom_2_1 {e ac : Nat} (x : Int32) (he : e + 3 ≤ 30) {l : Launch} {G : xG} {M : xM} {J : xJ} {b ra : Nat} (h_b : b ≤ 50) (e_b : M 46 2 = nI b) (h_ra : ra + 3 ≤ 900) (e_ra : M 46 3 = nI ra) (hac : ac < b) (e_ac : M 46 4 = nI ac) (e_k : M 47 ac = 3) : x_M l G fX8_runFrom 8 0 0 [.ref (46), .int (2), .int (1), .int (x), .int (nI (e))] x_SH M J (qKI WTN M J (fun r M2 => r = (-((x + (nI (ac))) * 2)) ∧ M2 46 3 = nI (ra + 3))) := by
  refine xb_of pX8 (Nat.le_of_ble_eq_true rfl) rfl ?_
  refine xr_iload_n dX8_runFrom_0 1 rfl ?_
  refine xr_istore (ls2 := [(5, .int (2)), (0, .ref (46)), (1, .int (2)), (2, .int (1)), (3, .int (x)), (4, .int (nI (e)))]) dX8_runFrom_1 (by decide) rfl ?_
  refine xr_iconst (v := 0) dX8_runFrom_3 rfl ?_
  refine xr_istore (ls2 := [(6, .int (0)), (5, .int (2)), (0, .ref (46)), (1, .int (2)), (2, .int (1)), (3, .int (x)), (4, .int (nI (e)))]) dX8_runFrom_4 (by decide) rfl ?_
  refine xr_iload dX8_runFrom_6 0 rfl ?_
  refine xr_bipush (v := 8) dX8_runFrom_8 rfl ?_
  refine xr_icmp_ge (tgt := 81) dX8_runFrom_10 rfl (fun c => absurd c (by decide)) (fun _ => ?_)
  refine xr_iload dX8_runFrom_13 1 rfl ?_
  refine xb_cN (As := [.int (2)]) (rest := []) mlX8_26 (c_X9_isKind 2) dX8_runFrom_15 rfl rfl (Nat.le_of_ble_eq_true rfl) (by decide) (by decide) ?_
  refine xb_beq (tgt := 81) dX8_runFrom_18 rfl (fun c => absurd (by decide) c) (fun _ => ?_)
  refine xr_getsO slX8_50 dX8_runFrom_21 ?_
  refine xr_iload dX8_runFrom_24 1 rfl ?_
  refine xr_iconst (v := 4) dX8_runFrom_26 rfl ?_
  refine xr_imul dX8_runFrom_27 ?_
  refine xb_top (y := 8) (by decide) ?_
  refine xr_iload_n dX8_runFrom_28 4 rfl ?_
  refine xr_iadd dX8_runFrom_29 ?_
  refine xb_top (y := 9) (by decide) ?_
  refine xr_tabO (by unfold vp_in; decide) dX8_runFrom_30 ?_
  refine xb_top (y := 30) (by decide) ?_
  refine xr_if_eq (tgt := 67) dX8_runFrom_31 rfl (fun c => absurd c (by decide)) (fun _ => ?_)
  refine xr_iload dX8_runFrom_34 6 rfl ?_
  refine xr_bipush (v := 30) dX8_runFrom_36 rfl ?_
  refine xr_icmp_ge (tgt := 65) dX8_runFrom_38 rfl (fun c => absurd c (nI_ge (a := e) (b := 30) (by omega) (by omega))) (fun _ => ?_)
  refine xr_aload_n dX8_runFrom_41 2 rfl ?_
  refine xr_getsO slX8_50 dX8_runFrom_42 ?_
  refine xr_iload dX8_runFrom_45 1 rfl ?_
  refine xr_iconst (v := 4) dX8_runFrom_47 rfl ?_
  refine xr_imul dX8_runFrom_48 ?_
  refine xb_top (y := 8) (by decide) ?_
  refine xr_iload_n dX8_runFrom_49 4 rfl ?_
  refine xr_iadd dX8_runFrom_50 ?_
  refine xb_top (y := 9) (by decide) ?_
  refine xr_tabO (by unfold vp_in; decide) dX8_runFrom_51 ?_
  refine xb_top (y := 30) (by decide) ?_
  refine xr_iload dX8_runFrom_52 1 rfl ?_
  refine xr_iload_n dX8_runFrom_54 5 rfl ?_
  refine xr_iload dX8_runFrom_55 6 rfl ?_
  refine xr_iconst (v := 1) dX8_runFrom_57 rfl ?_
  refine xr_iadd dX8_runFrom_58 ?_
  refine xb_top (y := nI (e + 1)) (nI_add (e) (1)) ?_
  refine xr_callV (As := [.int (30), .int (2), .int (x), .int (nI (e + 1))]) (rest := []) mlX8_53 (tu3_run_30_2 (e := e + 1) (ac := ac) x (by omega) (by omega) e_b (by omega) e_ra hac e_ac e_k) dX8_runFrom_59 s_46 rfl rfl (Nat.le_of_ble_eq_true rfl) (by decide) ⟨by decide, by decide⟩ (fun v s2 M4 J2 hq => ?_)
  obtain ⟨r6, rfl, rfl, rfl, k5, ⟨hr3, hx2⟩⟩ := hq
  try dsimp only [Option.toList, List.cons_append, List.nil_append]
  subst hr3
  refine xr_goto (tgt := 66) dX8_runFrom_62 rfl ?_
  exact xr_iret dX8_runFrom_66 rfl rfl (⟨_, rfl, rfl, rfl, (Ke.tr (fun _ _ h => h) Ke.rf k5), rfl, hx2⟩)
set_option maxRecDepth 100000 in
set_option maxHeartbeats 4000000 in
theorem tu3_above_3_1 {e ac : Nat} (x : Int32) (he : e + 3 ≤ 30) {l : Launch} {G : xG} {M : xM} {J : xJ} {b ra : Nat} (h_b : b ≤ 50) (e_b : M 46 2 = nI b) (h_ra : ra + 3 ≤ 900) (e_ra : M 46 3 = nI ra) (hac : ac < b) (e_ac : M 46 4 = nI ac) (e_k : M 47 ac = 3) : x_M l G fX8_above 9 0 0 [.ref (46), .int (3), .int (1), .int (x), .int (nI (e))] x_SH M J (qKI WTN M J (fun r M2 => r = (-((x + (nI (ac))) * 2)) ∧ M2 46 3 = nI (ra + 3))) := by
  refine xb_of pX8 (Nat.le_of_ble_eq_true rfl) rfl ?_
  refine xr_iload_n dX8_above_0 1 rfl ?_
  refine xb_cN (As := [.int (3)]) (rest := []) mlX8_26 (c_X9_isKind 3) dX8_above_1 rfl rfl (Nat.le_of_ble_eq_true rfl) (by decide) (by decide) ?_
  refine xb_beq (tgt := 23) dX8_above_4 rfl (fun c => absurd (by decide) c) (fun _ => ?_)
  refine xr_aload_n dX8_above_7 0 rfl ?_
  refine xr_getsA slX8_30 dX8_above_8 ?_
  refine xr_iload_n dX8_above_11 1 rfl ?_
  refine xr_tabA (by unfold vp_in; decide) dX8_above_12 ?_
  refine xb_top (y := 2) (by decide) ?_
  refine xr_iload_n dX8_above_13 2 rfl ?_
  refine xr_iload_n dX8_above_14 3 rfl ?_
  refine xr_iload dX8_above_15 4 rfl ?_
  refine xr_callV (As := [.int (2), .int (1), .int (x), .int (nI (e))]) (rest := []) mlX8_46 (tu3_runFrom_2_1 (e := e) (ac := ac) x (by omega) (by omega) e_b (by omega) e_ra hac e_ac e_k) dX8_above_17 s_46 rfl rfl (Nat.le_of_ble_eq_true rfl) (by decide) ⟨by decide, by decide⟩ (fun v s2 M4 J2 hq => ?_)
  obtain ⟨r6, rfl, rfl, rfl, k5, ⟨hr3, hx2⟩⟩ := hq
  try dsimp only [Option.toList, List.cons_append, List.nil_append]
  subst hr3
  refine xr_goto (tgt := 24) dX8_above_20 rfl ?_
  exact xr_iret dX8_above_24 rfl rfl (⟨_, rfl, rfl, rfl, (Ke.tr (fun _ _ h => h) Ke.rf k5), rfl, hx2⟩)
set_option maxRecDepth 100000 in
set_option maxHeartbeats 4000000 in
theorem tu3_run_41_3 {e ac : Nat} (x : Int32) (he : e + 3 ≤ 30) {l : Launch} {G : xG} {M : xM} {J : xJ} {b ra : Nat} (h_b : b ≤ 50) (e_b : M 46 2 = nI b) (h_ra : ra + 4 ≤ 900) (e_ra : M 46 3 = nI ra) (hac : ac < b) (e_ac : M 46 4 = nI ac) (e_k : M 47 ac = 3) : x_M l G fX8_run 10 0 0 [.ref (46), .int (41), .int (3), .int (x), .int (nI (e))] x_SH M J (qKI WTN M J (fun r M2 => r = (-(((x + 1) + (nI (ac))) * 2)) ∧ M2 46 3 = nI (ra + 4))) := by
  refine xb_of pX8 (Nat.le_of_ble_eq_true rfl) rfl ?_
  refine xr_aload_n dX8_run_0 0 rfl ?_
  refine xr_iload_n dX8_run_1 1 rfl ?_
  refine xr_callV (As := [.int (41)]) (rest := []) mlX8_56 (g_X8_note 41 (by omega) e_ra) dX8_run_2 s_46 rfl rfl (Nat.le_of_ble_eq_true rfl) (by decide) ⟨by decide, by decide⟩ (fun v s2 M2 J2 hq => ?_)
  obtain ⟨rfl, rfl, rfl, k3, hx1⟩ := hq
  try dsimp only [Option.toList, List.cons_append, List.nil_append]
  refine xr_iload_n dX8_run_5 1 rfl ?_
  refine xr_lookup (tgt := 198) (off := 192) dX8_run_6 (by decide) (by decide) rfl ?_
  refine xr_aload_n dX8_run_198 0 rfl ?_
  refine xr_iload_n dX8_run_199 2 rfl ?_
  refine xr_iconst (v := 1) dX8_run_200 rfl ?_
  refine xr_iload_n dX8_run_201 3 rfl ?_
  refine xr_iconst (v := 1) dX8_run_202 rfl ?_
  refine xr_iadd dX8_run_203 ?_
  refine xr_iload dX8_run_204 4 rfl ?_
  refine xr_callV (As := [.int (3), .int (1), .int ((x + 1)), .int (nI (e))]) (rest := []) mlX8_60 (tu3_above_3_1 (e := e) (ac := ac) (x + 1) (by omega) (by omega) (Eq.trans (k3 46 2 (by decide)) e_b) (by omega) hx1 hac (Eq.trans (k3 46 4 (by decide)) e_ac) (Eq.trans (k3 47 ac (by unfold WTN; omega)) e_k)) dX8_run_206 s_46 rfl rfl (Nat.le_of_ble_eq_true rfl) (by decide) ⟨by decide, by decide⟩ (fun v s2 M6 J2 hq => ?_)
  obtain ⟨r8, rfl, rfl, rfl, k7, ⟨hr5, hx4⟩⟩ := hq
  try dsimp only [Option.toList, List.cons_append, List.nil_append]
  subst hr5
  exact xr_iret dX8_run_209 rfl rfl (⟨_, rfl, rfl, rfl, (Ke.tr (fun _ _ h => h) (Ke.tr (fun _ _ h => h) Ke.rf k3) k7), rfl, hx4⟩)
set_option maxRecDepth 100000 in
set_option maxHeartbeats 4000000 in
theorem tu3_runFrom_3_1 {e ac : Nat} (x : Int32) (he : e + 4 ≤ 30) {l : Launch} {G : xG} {M : xM} {J : xJ} {b ra : Nat} (h_b : b ≤ 50) (e_b : M 46 2 = nI b) (h_ra : ra + 4 ≤ 900) (e_ra : M 46 3 = nI ra) (hac : ac < b) (e_ac : M 46 4 = nI ac) (e_k : M 47 ac = 3) : x_M l G fX8_runFrom 11 0 0 [.ref (46), .int (3), .int (1), .int (x), .int (nI (e))] x_SH M J (qKI WTN M J (fun r M2 => r = (-(((x + 1) + (nI (ac))) * 2)) ∧ M2 46 3 = nI (ra + 4))) := by
  refine xb_of pX8 (Nat.le_of_ble_eq_true rfl) rfl ?_
  refine xr_iload_n dX8_runFrom_0 1 rfl ?_
  refine xr_istore (ls2 := [(5, .int (3)), (0, .ref (46)), (1, .int (3)), (2, .int (1)), (3, .int (x)), (4, .int (nI (e)))]) dX8_runFrom_1 (by decide) rfl ?_
  refine xr_iconst (v := 0) dX8_runFrom_3 rfl ?_
  refine xr_istore (ls2 := [(6, .int (0)), (5, .int (3)), (0, .ref (46)), (1, .int (3)), (2, .int (1)), (3, .int (x)), (4, .int (nI (e)))]) dX8_runFrom_4 (by decide) rfl ?_
  refine xr_iload dX8_runFrom_6 0 rfl ?_
  refine xr_bipush (v := 8) dX8_runFrom_8 rfl ?_
  refine xr_icmp_ge (tgt := 81) dX8_runFrom_10 rfl (fun c => absurd c (by decide)) (fun _ => ?_)
  refine xr_iload dX8_runFrom_13 1 rfl ?_
  refine xb_cN (As := [.int (3)]) (rest := []) mlX8_26 (c_X9_isKind 3) dX8_runFrom_15 rfl rfl (Nat.le_of_ble_eq_true rfl) (by decide) (by decide) ?_
  refine xb_beq (tgt := 81) dX8_runFrom_18 rfl (fun c => absurd (by decide) c) (fun _ => ?_)
  refine xr_getsO slX8_50 dX8_runFrom_21 ?_
  refine xr_iload dX8_runFrom_24 1 rfl ?_
  refine xr_iconst (v := 4) dX8_runFrom_26 rfl ?_
  refine xr_imul dX8_runFrom_27 ?_
  refine xb_top (y := 12) (by decide) ?_
  refine xr_iload_n dX8_runFrom_28 4 rfl ?_
  refine xr_iadd dX8_runFrom_29 ?_
  refine xb_top (y := 13) (by decide) ?_
  refine xr_tabO (by unfold vp_in; decide) dX8_runFrom_30 ?_
  refine xb_top (y := 41) (by decide) ?_
  refine xr_if_eq (tgt := 67) dX8_runFrom_31 rfl (fun c => absurd c (by decide)) (fun _ => ?_)
  refine xr_iload dX8_runFrom_34 6 rfl ?_
  refine xr_bipush (v := 30) dX8_runFrom_36 rfl ?_
  refine xr_icmp_ge (tgt := 65) dX8_runFrom_38 rfl (fun c => absurd c (nI_ge (a := e) (b := 30) (by omega) (by omega))) (fun _ => ?_)
  refine xr_aload_n dX8_runFrom_41 2 rfl ?_
  refine xr_getsO slX8_50 dX8_runFrom_42 ?_
  refine xr_iload dX8_runFrom_45 1 rfl ?_
  refine xr_iconst (v := 4) dX8_runFrom_47 rfl ?_
  refine xr_imul dX8_runFrom_48 ?_
  refine xb_top (y := 12) (by decide) ?_
  refine xr_iload_n dX8_runFrom_49 4 rfl ?_
  refine xr_iadd dX8_runFrom_50 ?_
  refine xb_top (y := 13) (by decide) ?_
  refine xr_tabO (by unfold vp_in; decide) dX8_runFrom_51 ?_
  refine xb_top (y := 41) (by decide) ?_
  refine xr_iload dX8_runFrom_52 1 rfl ?_
  refine xr_iload_n dX8_runFrom_54 5 rfl ?_
  refine xr_iload dX8_runFrom_55 6 rfl ?_
  refine xr_iconst (v := 1) dX8_runFrom_57 rfl ?_
  refine xr_iadd dX8_runFrom_58 ?_
  refine xb_top (y := nI (e + 1)) (nI_add (e) (1)) ?_
  refine xr_callV (As := [.int (41), .int (3), .int (x), .int (nI (e + 1))]) (rest := []) mlX8_53 (tu3_run_41_3 (e := e + 1) (ac := ac) x (by omega) (by omega) e_b (by omega) e_ra hac e_ac e_k) dX8_runFrom_59 s_46 rfl rfl (Nat.le_of_ble_eq_true rfl) (by decide) ⟨by decide, by decide⟩ (fun v s2 M4 J2 hq => ?_)
  obtain ⟨r6, rfl, rfl, rfl, k5, ⟨hr3, hx2⟩⟩ := hq
  try dsimp only [Option.toList, List.cons_append, List.nil_append]
  subst hr3
  refine xr_goto (tgt := 66) dX8_runFrom_62 rfl ?_
  exact xr_iret dX8_runFrom_66 rfl rfl (⟨_, rfl, rfl, rfl, (Ke.tr (fun _ _ h => h) Ke.rf k5), rfl, hx2⟩)
set_option maxRecDepth 100000 in
set_option maxHeartbeats 4000000 in
theorem tu3_own_1 {e ac : Nat} (x : Int32) (he : e + 4 ≤ 30) {l : Launch} {G : xG} {M : xM} {J : xJ} {b ra : Nat} (h_b : b ≤ 50) (e_b : M 46 2 = nI b) (h_ra : ra + 4 ≤ 900) (e_ra : M 46 3 = nI ra) (hac : ac < b) (e_ac : M 46 4 = nI ac) (e_k : M 47 ac = 3) : x_M l G fX8_own 12 0 0 [.ref (46), .int (1), .int (x), .int (nI (e))] x_SH M J (qKI WTN M J (fun r M2 => r = (-(((x + 1) + (nI (ac))) * 2)) ∧ M2 46 3 = nI (ra + 4))) := by
  refine xb_of pX8 (Nat.le_of_ble_eq_true rfl) rfl ?_
  refine xr_aload_n dX8_own_0 0 rfl ?_
  refine xr_aload_n dX8_own_1 0 rfl ?_
  refine xb_get (v := nI (ac)) flX8_36 dX8_own_2 s_46 rfl e_ac ?_
  refine xb_cV (As := [.int (nI (ac))]) (rest := []) mlX8_43 (c_X8_has (nI (ac)) (by omega) e_b) dX8_own_5 s_46 rfl rfl (Nat.le_of_ble_eq_true rfl) (by decide) (by decide) ?_
  refine xb_beq (tgt := 30) dX8_own_8 rfl (fun c => absurd ⟨nI_pos' (by omega), nI_lt (by omega) (by omega)⟩ c) (fun _ => ?_)
  refine xr_aload_n dX8_own_11 0 rfl ?_
  refine xr_aload_n dX8_own_12 0 rfl ?_
  refine xr_getR flX8_9 dX8_own_13 s_46 rfl ?_
  refine xr_aload_n dX8_own_16 0 rfl ?_
  refine xb_get (v := nI (ac)) flX8_36 dX8_own_17 s_46 rfl e_ac ?_
  refine xb_iald (j := ac) (v := 3) dX8_own_20 s_47 (by omega) (by decide) e_k ?_
  refine xr_iload_n dX8_own_21 1 rfl ?_
  refine xr_iload_n dX8_own_22 2 rfl ?_
  refine xr_iload_n dX8_own_23 3 rfl ?_
  refine xr_callV (As := [.int (3), .int (1), .int (x), .int (nI (e))]) (rest := []) mlX8_46 (tu3_runFrom_3_1 (e := e) (ac := ac) x (by omega) (by omega) e_b (by omega) e_ra hac e_ac e_k) dX8_own_24 s_46 rfl rfl (Nat.le_of_ble_eq_true rfl) (by decide) ⟨by decide, by decide⟩ (fun v s2 M4 J2 hq => ?_)
  obtain ⟨r6, rfl, rfl, rfl, k5, ⟨hr3, hx2⟩⟩ := hq
  try dsimp only [Option.toList, List.cons_append, List.nil_append]
  subst hr3
  refine xr_goto (tgt := 31) dX8_own_27 rfl ?_
  exact xr_iret dX8_own_31 rfl rfl (⟨_, rfl, rfl, rfl, (Ke.tr (fun _ _ h => h) Ke.rf k5), rfl, hx2⟩)
set_option maxRecDepth 100000 in
set_option maxHeartbeats 4000000 in
theorem tu3_run_11_0 {e ac : Nat} (x : Int32) (he : e + 0 ≤ 30) {l : Launch} {G : xG} {M : xM} {J : xJ} {b ra : Nat} (h_b : b ≤ 50) (e_b : M 46 2 = nI b) (h_ra : ra + 1 ≤ 900) (e_ra : M 46 3 = nI ra) (hac : ac < b) (e_ac : M 46 4 = nI ac) (e_k : M 47 ac = 3) : x_M l G fX8_run 1 0 0 [.ref (46), .int (11), .int (0), .int (x), .int (nI (e))] x_SH M J (qKI WTN M J (fun r M2 => r = (x ^^^ (nI (ac))) ∧ M2 46 3 = nI (ra + 1))) := by
  refine xb_of pX8 (Nat.le_of_ble_eq_true rfl) rfl ?_
  refine xr_aload_n dX8_run_0 0 rfl ?_
  refine xr_iload_n dX8_run_1 1 rfl ?_
  refine xr_callV (As := [.int (11)]) (rest := []) mlX8_56 (g_X8_note 11 (by omega) e_ra) dX8_run_2 s_46 rfl rfl (Nat.le_of_ble_eq_true rfl) (by decide) ⟨by decide, by decide⟩ (fun v s2 M2 J2 hq => ?_)
  obtain ⟨rfl, rfl, rfl, k3, hx1⟩ := hq
  try dsimp only [Option.toList, List.cons_append, List.nil_append]
  refine xr_iload_n dX8_run_5 1 rfl ?_
  refine xr_lookup (tgt := 156) (off := 150) dX8_run_6 (by decide) (by decide) rfl ?_
  refine xr_iload_n dX8_run_156 3 rfl ?_
  refine xr_aload_n dX8_run_157 0 rfl ?_
  refine xb_get (v := nI (ac)) flX8_36 dX8_run_158 s_46 rfl (Eq.trans (k3 46 4 (by decide)) e_ac) ?_
  refine xr_ixor dX8_run_161 ?_
  exact xr_iret dX8_run_162 rfl rfl (⟨_, rfl, rfl, rfl, (Ke.tr (fun _ _ h => h) Ke.rf k3), rfl, hx1⟩)
set_option maxRecDepth 100000 in
set_option maxHeartbeats 4000000 in
theorem tu3_runFrom_2_2 {e ac : Nat} (x : Int32) (he : e + 1 ≤ 30) {l : Launch} {G : xG} {M : xM} {J : xJ} {b ra : Nat} (h_b : b ≤ 50) (e_b : M 46 2 = nI b) (h_ra : ra + 1 ≤ 900) (e_ra : M 46 3 = nI ra) (hac : ac < b) (e_ac : M 46 4 = nI ac) (e_k : M 47 ac = 3) : x_M l G fX8_runFrom 2 0 0 [.ref (46), .int (2), .int (2), .int (x), .int (nI (e))] x_SH M J (qKI WTN M J (fun r M2 => r = (x ^^^ (nI (ac))) ∧ M2 46 3 = nI (ra + 1))) := by
  refine xb_of pX8 (Nat.le_of_ble_eq_true rfl) rfl ?_
  refine xr_iload_n dX8_runFrom_0 1 rfl ?_
  refine xr_istore (ls2 := [(5, .int (2)), (0, .ref (46)), (1, .int (2)), (2, .int (2)), (3, .int (x)), (4, .int (nI (e)))]) dX8_runFrom_1 (by decide) rfl ?_
  refine xr_iconst (v := 0) dX8_runFrom_3 rfl ?_
  refine xr_istore (ls2 := [(6, .int (0)), (5, .int (2)), (0, .ref (46)), (1, .int (2)), (2, .int (2)), (3, .int (x)), (4, .int (nI (e)))]) dX8_runFrom_4 (by decide) rfl ?_
  refine xr_iload dX8_runFrom_6 0 rfl ?_
  refine xr_bipush (v := 8) dX8_runFrom_8 rfl ?_
  refine xr_icmp_ge (tgt := 81) dX8_runFrom_10 rfl (fun c => absurd c (by decide)) (fun _ => ?_)
  refine xr_iload dX8_runFrom_13 1 rfl ?_
  refine xb_cN (As := [.int (2)]) (rest := []) mlX8_26 (c_X9_isKind 2) dX8_runFrom_15 rfl rfl (Nat.le_of_ble_eq_true rfl) (by decide) (by decide) ?_
  refine xb_beq (tgt := 81) dX8_runFrom_18 rfl (fun c => absurd (by decide) c) (fun _ => ?_)
  refine xr_getsO slX8_50 dX8_runFrom_21 ?_
  refine xr_iload dX8_runFrom_24 1 rfl ?_
  refine xr_iconst (v := 4) dX8_runFrom_26 rfl ?_
  refine xr_imul dX8_runFrom_27 ?_
  refine xb_top (y := 8) (by decide) ?_
  refine xr_iload_n dX8_runFrom_28 4 rfl ?_
  refine xr_iadd dX8_runFrom_29 ?_
  refine xb_top (y := 10) (by decide) ?_
  refine xr_tabO (by unfold vp_in; decide) dX8_runFrom_30 ?_
  refine xb_top (y := 0) (by decide) ?_
  refine xr_if_eq (tgt := 67) dX8_runFrom_31 rfl (fun _ => ?_) (fun c => absurd (by decide) c)
  refine xr_getsA slX8_30 dX8_runFrom_67 ?_
  refine xr_iload dX8_runFrom_70 1 rfl ?_
  refine xr_tabA (by unfold vp_in; decide) dX8_runFrom_72 ?_
  refine xb_top (y := 0) (by decide) ?_
  refine xr_istore (ls2 := [(5, .int (0)), (6, .int (0)), (0, .ref (46)), (1, .int (2)), (2, .int (2)), (3, .int (x)), (4, .int (nI (e)))]) dX8_runFrom_73 (by decide) rfl ?_
  refine xr_iinc (v := 1) (ls2 := [(6, .int (1)), (5, .int (0)), (0, .ref (46)), (1, .int (2)), (2, .int (2)), (3, .int (x)), (4, .int (nI (e)))]) dX8_runFrom_75 1 rfl rfl (by decide) rfl ?_
  refine xr_goto (tgt := 6) dX8_runFrom_78 rfl ?_
  refine xr_iload dX8_runFrom_6 0 rfl ?_
  refine xr_bipush (v := 8) dX8_runFrom_8 rfl ?_
  refine xr_icmp_ge (tgt := 81) dX8_runFrom_10 rfl (fun c => absurd c (by decide)) (fun _ => ?_)
  refine xr_iload dX8_runFrom_13 1 rfl ?_
  refine xb_cN (As := [.int (0)]) (rest := []) mlX8_26 (c_X9_isKind 0) dX8_runFrom_15 rfl rfl (Nat.le_of_ble_eq_true rfl) (by decide) (by decide) ?_
  refine xb_beq (tgt := 81) dX8_runFrom_18 rfl (fun c => absurd (by decide) c) (fun _ => ?_)
  refine xr_getsO slX8_50 dX8_runFrom_21 ?_
  refine xr_iload dX8_runFrom_24 1 rfl ?_
  refine xr_iconst (v := 4) dX8_runFrom_26 rfl ?_
  refine xr_imul dX8_runFrom_27 ?_
  refine xb_top (y := 0) (by decide) ?_
  refine xr_iload_n dX8_runFrom_28 4 rfl ?_
  refine xr_iadd dX8_runFrom_29 ?_
  refine xb_top (y := 2) (by decide) ?_
  refine xr_tabO (by unfold vp_in; decide) dX8_runFrom_30 ?_
  refine xb_top (y := 11) (by decide) ?_
  refine xr_if_eq (tgt := 67) dX8_runFrom_31 rfl (fun c => absurd c (by decide)) (fun _ => ?_)
  refine xr_iload dX8_runFrom_34 6 rfl ?_
  refine xr_bipush (v := 30) dX8_runFrom_36 rfl ?_
  refine xr_icmp_ge (tgt := 65) dX8_runFrom_38 rfl (fun c => absurd c (nI_ge (a := e) (b := 30) (by omega) (by omega))) (fun _ => ?_)
  refine xr_aload_n dX8_runFrom_41 2 rfl ?_
  refine xr_getsO slX8_50 dX8_runFrom_42 ?_
  refine xr_iload dX8_runFrom_45 1 rfl ?_
  refine xr_iconst (v := 4) dX8_runFrom_47 rfl ?_
  refine xr_imul dX8_runFrom_48 ?_
  refine xb_top (y := 0) (by decide) ?_
  refine xr_iload_n dX8_runFrom_49 4 rfl ?_
  refine xr_iadd dX8_runFrom_50 ?_
  refine xb_top (y := 2) (by decide) ?_
  refine xr_tabO (by unfold vp_in; decide) dX8_runFrom_51 ?_
  refine xb_top (y := 11) (by decide) ?_
  refine xr_iload dX8_runFrom_52 1 rfl ?_
  refine xr_iload_n dX8_runFrom_54 5 rfl ?_
  refine xr_iload dX8_runFrom_55 6 rfl ?_
  refine xr_iconst (v := 1) dX8_runFrom_57 rfl ?_
  refine xr_iadd dX8_runFrom_58 ?_
  refine xb_top (y := nI (e + 1)) (nI_add (e) (1)) ?_
  refine xr_callV (As := [.int (11), .int (0), .int (x), .int (nI (e + 1))]) (rest := []) mlX8_53 (tu3_run_11_0 (e := e + 1) (ac := ac) x (by omega) (by omega) e_b (by omega) e_ra hac e_ac e_k) dX8_runFrom_59 s_46 rfl rfl (Nat.le_of_ble_eq_true rfl) (by decide) ⟨by decide, by decide⟩ (fun v s2 M5 J2 hq => ?_)
  obtain ⟨r7, rfl, rfl, rfl, k6, ⟨hr4, hx3⟩⟩ := hq
  try dsimp only [Option.toList, List.cons_append, List.nil_append]
  subst hr4
  refine xr_goto (tgt := 66) dX8_runFrom_62 rfl ?_
  exact xr_iret dX8_runFrom_66 rfl rfl (⟨_, rfl, rfl, rfl, (Ke.tr (fun _ _ h => h) Ke.rf k6), rfl, hx3⟩)
set_option maxRecDepth 100000 in
set_option maxHeartbeats 4000000 in
theorem tu3_above_3_2 {e ac : Nat} (x : Int32) (he : e + 1 ≤ 30) {l : Launch} {G : xG} {M : xM} {J : xJ} {b ra : Nat} (h_b : b ≤ 50) (e_b : M 46 2 = nI b) (h_ra : ra + 1 ≤ 900) (e_ra : M 46 3 = nI ra) (hac : ac < b) (e_ac : M 46 4 = nI ac) (e_k : M 47 ac = 3) : x_M l G fX8_above 3 0 0 [.ref (46), .int (3), .int (2), .int (x), .int (nI (e))] x_SH M J (qKI WTN M J (fun r M2 => r = (x ^^^ (nI (ac))) ∧ M2 46 3 = nI (ra + 1))) := by
  refine xb_of pX8 (Nat.le_of_ble_eq_true rfl) rfl ?_
  refine xr_iload_n dX8_above_0 1 rfl ?_
  refine xb_cN (As := [.int (3)]) (rest := []) mlX8_26 (c_X9_isKind 3) dX8_above_1 rfl rfl (Nat.le_of_ble_eq_true rfl) (by decide) (by decide) ?_
  refine xb_beq (tgt := 23) dX8_above_4 rfl (fun c => absurd (by decide) c) (fun _ => ?_)
  refine xr_aload_n dX8_above_7 0 rfl ?_
  refine xr_getsA slX8_30 dX8_above_8 ?_
  refine xr_iload_n dX8_above_11 1 rfl ?_
  refine xr_tabA (by unfold vp_in; decide) dX8_above_12 ?_
  refine xb_top (y := 2) (by decide) ?_
  refine xr_iload_n dX8_above_13 2 rfl ?_
  refine xr_iload_n dX8_above_14 3 rfl ?_
  refine xr_iload dX8_above_15 4 rfl ?_
  refine xr_callV (As := [.int (2), .int (2), .int (x), .int (nI (e))]) (rest := []) mlX8_46 (tu3_runFrom_2_2 (e := e) (ac := ac) x (by omega) (by omega) e_b (by omega) e_ra hac e_ac e_k) dX8_above_17 s_46 rfl rfl (Nat.le_of_ble_eq_true rfl) (by decide) ⟨by decide, by decide⟩ (fun v s2 M4 J2 hq => ?_)
  obtain ⟨r6, rfl, rfl, rfl, k5, ⟨hr3, hx2⟩⟩ := hq
  try dsimp only [Option.toList, List.cons_append, List.nil_append]
  subst hr3
  refine xr_goto (tgt := 24) dX8_above_20 rfl ?_
  exact xr_iret dX8_above_24 rfl rfl (⟨_, rfl, rfl, rfl, (Ke.tr (fun _ _ h => h) Ke.rf k5), rfl, hx2⟩)
set_option maxRecDepth 100000 in
set_option maxHeartbeats 4000000 in
theorem tu3_run_40_3 {e ac : Nat} (x : Int32) (he : e + 1 ≤ 30) {l : Launch} {G : xG} {M : xM} {J : xJ} {b ra : Nat} (h_b : b ≤ 50) (e_b : M 46 2 = nI b) (h_ra : ra + 2 ≤ 900) (e_ra : M 46 3 = nI ra) (hac : ac < b) (e_ac : M 46 4 = nI ac) (e_k : M 47 ac = 3) : x_M l G fX8_run 4 0 0 [.ref (46), .int (40), .int (3), .int (x), .int (nI (e))] x_SH M J (qKI WTN M J (fun r M2 => r = ((x ^^^ (nI (ac))) * 3) ∧ M2 46 3 = nI (ra + 2))) := by
  refine xb_of pX8 (Nat.le_of_ble_eq_true rfl) rfl ?_
  refine xr_aload_n dX8_run_0 0 rfl ?_
  refine xr_iload_n dX8_run_1 1 rfl ?_
  refine xr_callV (As := [.int (40)]) (rest := []) mlX8_56 (g_X8_note 40 (by omega) e_ra) dX8_run_2 s_46 rfl rfl (Nat.le_of_ble_eq_true rfl) (by decide) ⟨by decide, by decide⟩ (fun v s2 M2 J2 hq => ?_)
  obtain ⟨rfl, rfl, rfl, k3, hx1⟩ := hq
  try dsimp only [Option.toList, List.cons_append, List.nil_append]
  refine xr_iload_n dX8_run_5 1 rfl ?_
  refine xr_lookup (tgt := 186) (off := 180) dX8_run_6 (by decide) (by decide) rfl ?_
  refine xr_aload_n dX8_run_186 0 rfl ?_
  refine xr_iload_n dX8_run_187 2 rfl ?_
  refine xr_iconst (v := 2) dX8_run_188 rfl ?_
  refine xr_iload_n dX8_run_189 3 rfl ?_
  refine xr_iload dX8_run_190 4 rfl ?_
  refine xr_callV (As := [.int (3), .int (2), .int (x), .int (nI (e))]) (rest := []) mlX8_60 (tu3_above_3_2 (e := e) (ac := ac) x (by omega) (by omega) (Eq.trans (k3 46 2 (by decide)) e_b) (by omega) hx1 hac (Eq.trans (k3 46 4 (by decide)) e_ac) (Eq.trans (k3 47 ac (by unfold WTN; omega)) e_k)) dX8_run_192 s_46 rfl rfl (Nat.le_of_ble_eq_true rfl) (by decide) ⟨by decide, by decide⟩ (fun v s2 M6 J2 hq => ?_)
  obtain ⟨r8, rfl, rfl, rfl, k7, ⟨hr5, hx4⟩⟩ := hq
  try dsimp only [Option.toList, List.cons_append, List.nil_append]
  subst hr5
  refine xr_iconst (v := 3) dX8_run_195 rfl ?_
  refine xr_imul dX8_run_196 ?_
  exact xr_iret dX8_run_197 rfl rfl (⟨_, rfl, rfl, rfl, (Ke.tr (fun _ _ h => h) (Ke.tr (fun _ _ h => h) Ke.rf k3) k7), rfl, hx4⟩)
set_option maxRecDepth 100000 in
set_option maxHeartbeats 4000000 in
theorem tu3_runFrom_3_2 {e ac : Nat} (x : Int32) (he : e + 2 ≤ 30) {l : Launch} {G : xG} {M : xM} {J : xJ} {b ra : Nat} (h_b : b ≤ 50) (e_b : M 46 2 = nI b) (h_ra : ra + 2 ≤ 900) (e_ra : M 46 3 = nI ra) (hac : ac < b) (e_ac : M 46 4 = nI ac) (e_k : M 47 ac = 3) : x_M l G fX8_runFrom 5 0 0 [.ref (46), .int (3), .int (2), .int (x), .int (nI (e))] x_SH M J (qKI WTN M J (fun r M2 => r = ((x ^^^ (nI (ac))) * 3) ∧ M2 46 3 = nI (ra + 2))) := by
  refine xb_of pX8 (Nat.le_of_ble_eq_true rfl) rfl ?_
  refine xr_iload_n dX8_runFrom_0 1 rfl ?_
  refine xr_istore (ls2 := [(5, .int (3)), (0, .ref (46)), (1, .int (3)), (2, .int (2)), (3, .int (x)), (4, .int (nI (e)))]) dX8_runFrom_1 (by decide) rfl ?_
  refine xr_iconst (v := 0) dX8_runFrom_3 rfl ?_
  refine xr_istore (ls2 := [(6, .int (0)), (5, .int (3)), (0, .ref (46)), (1, .int (3)), (2, .int (2)), (3, .int (x)), (4, .int (nI (e)))]) dX8_runFrom_4 (by decide) rfl ?_
  refine xr_iload dX8_runFrom_6 0 rfl ?_
  refine xr_bipush (v := 8) dX8_runFrom_8 rfl ?_
  refine xr_icmp_ge (tgt := 81) dX8_runFrom_10 rfl (fun c => absurd c (by decide)) (fun _ => ?_)
  refine xr_iload dX8_runFrom_13 1 rfl ?_
  refine xb_cN (As := [.int (3)]) (rest := []) mlX8_26 (c_X9_isKind 3) dX8_runFrom_15 rfl rfl (Nat.le_of_ble_eq_true rfl) (by decide) (by decide) ?_
  refine xb_beq (tgt := 81) dX8_runFrom_18 rfl (fun c => absurd (by decide) c) (fun _ => ?_)
  refine xr_getsO slX8_50 dX8_runFrom_21 ?_
  refine xr_iload dX8_runFrom_24 1 rfl ?_
  refine xr_iconst (v := 4) dX8_runFrom_26 rfl ?_
  refine xr_imul dX8_runFrom_27 ?_
  refine xb_top (y := 12) (by decide) ?_
  refine xr_iload_n dX8_runFrom_28 4 rfl ?_
  refine xr_iadd dX8_runFrom_29 ?_
  refine xb_top (y := 14) (by decide) ?_
  refine xr_tabO (by unfold vp_in; decide) dX8_runFrom_30 ?_
  refine xb_top (y := 40) (by decide) ?_
  refine xr_if_eq (tgt := 67) dX8_runFrom_31 rfl (fun c => absurd c (by decide)) (fun _ => ?_)
  refine xr_iload dX8_runFrom_34 6 rfl ?_
  refine xr_bipush (v := 30) dX8_runFrom_36 rfl ?_
  refine xr_icmp_ge (tgt := 65) dX8_runFrom_38 rfl (fun c => absurd c (nI_ge (a := e) (b := 30) (by omega) (by omega))) (fun _ => ?_)
  refine xr_aload_n dX8_runFrom_41 2 rfl ?_
  refine xr_getsO slX8_50 dX8_runFrom_42 ?_
  refine xr_iload dX8_runFrom_45 1 rfl ?_
  refine xr_iconst (v := 4) dX8_runFrom_47 rfl ?_
  refine xr_imul dX8_runFrom_48 ?_
  refine xb_top (y := 12) (by decide) ?_
  refine xr_iload_n dX8_runFrom_49 4 rfl ?_
  refine xr_iadd dX8_runFrom_50 ?_
  refine xb_top (y := 14) (by decide) ?_
  refine xr_tabO (by unfold vp_in; decide) dX8_runFrom_51 ?_
  refine xb_top (y := 40) (by decide) ?_
  refine xr_iload dX8_runFrom_52 1 rfl ?_
  refine xr_iload_n dX8_runFrom_54 5 rfl ?_
  refine xr_iload dX8_runFrom_55 6 rfl ?_
  refine xr_iconst (v := 1) dX8_runFrom_57 rfl ?_
  refine xr_iadd dX8_runFrom_58 ?_
  refine xb_top (y := nI (e + 1)) (nI_add (e) (1)) ?_
  refine xr_callV (As := [.int (40), .int (3), .int (x), .int (nI (e + 1))]) (rest := []) mlX8_53 (tu3_run_40_3 (e := e + 1) (ac := ac) x (by omega) (by omega) e_b (by omega) e_ra hac e_ac e_k) dX8_runFrom_59 s_46 rfl rfl (Nat.le_of_ble_eq_true rfl) (by decide) ⟨by decide, by decide⟩ (fun v s2 M4 J2 hq => ?_)
  obtain ⟨r6, rfl, rfl, rfl, k5, ⟨hr3, hx2⟩⟩ := hq
  try dsimp only [Option.toList, List.cons_append, List.nil_append]
  subst hr3
  refine xr_goto (tgt := 66) dX8_runFrom_62 rfl ?_
  exact xr_iret dX8_runFrom_66 rfl rfl (⟨_, rfl, rfl, rfl, (Ke.tr (fun _ _ h => h) Ke.rf k5), rfl, hx2⟩)
set_option maxRecDepth 100000 in
set_option maxHeartbeats 4000000 in
theorem tu3_own_2 {e ac : Nat} (x : Int32) (he : e + 2 ≤ 30) {l : Launch} {G : xG} {M : xM} {J : xJ} {b ra : Nat} (h_b : b ≤ 50) (e_b : M 46 2 = nI b) (h_ra : ra + 2 ≤ 900) (e_ra : M 46 3 = nI ra) (hac : ac < b) (e_ac : M 46 4 = nI ac) (e_k : M 47 ac = 3) : x_M l G fX8_own 6 0 0 [.ref (46), .int (2), .int (x), .int (nI (e))] x_SH M J (qKI WTN M J (fun r M2 => r = ((x ^^^ (nI (ac))) * 3) ∧ M2 46 3 = nI (ra + 2))) := by
  refine xb_of pX8 (Nat.le_of_ble_eq_true rfl) rfl ?_
  refine xr_aload_n dX8_own_0 0 rfl ?_
  refine xr_aload_n dX8_own_1 0 rfl ?_
  refine xb_get (v := nI (ac)) flX8_36 dX8_own_2 s_46 rfl e_ac ?_
  refine xb_cV (As := [.int (nI (ac))]) (rest := []) mlX8_43 (c_X8_has (nI (ac)) (by omega) e_b) dX8_own_5 s_46 rfl rfl (Nat.le_of_ble_eq_true rfl) (by decide) (by decide) ?_
  refine xb_beq (tgt := 30) dX8_own_8 rfl (fun c => absurd ⟨nI_pos' (by omega), nI_lt (by omega) (by omega)⟩ c) (fun _ => ?_)
  refine xr_aload_n dX8_own_11 0 rfl ?_
  refine xr_aload_n dX8_own_12 0 rfl ?_
  refine xr_getR flX8_9 dX8_own_13 s_46 rfl ?_
  refine xr_aload_n dX8_own_16 0 rfl ?_
  refine xb_get (v := nI (ac)) flX8_36 dX8_own_17 s_46 rfl e_ac ?_
  refine xb_iald (j := ac) (v := 3) dX8_own_20 s_47 (by omega) (by decide) e_k ?_
  refine xr_iload_n dX8_own_21 1 rfl ?_
  refine xr_iload_n dX8_own_22 2 rfl ?_
  refine xr_iload_n dX8_own_23 3 rfl ?_
  refine xr_callV (As := [.int (3), .int (2), .int (x), .int (nI (e))]) (rest := []) mlX8_46 (tu3_runFrom_3_2 (e := e) (ac := ac) x (by omega) (by omega) e_b (by omega) e_ra hac e_ac e_k) dX8_own_24 s_46 rfl rfl (Nat.le_of_ble_eq_true rfl) (by decide) ⟨by decide, by decide⟩ (fun v s2 M4 J2 hq => ?_)
  obtain ⟨r6, rfl, rfl, rfl, k5, ⟨hr3, hx2⟩⟩ := hq
  try dsimp only [Option.toList, List.cons_append, List.nil_append]
  subst hr3
  refine xr_goto (tgt := 31) dX8_own_27 rfl ?_
  exact xr_iret dX8_own_31 rfl rfl (⟨_, rfl, rfl, rfl, (Ke.tr (fun _ _ h => h) Ke.rf k5), rfl, hx2⟩)
set_option maxRecDepth 100000 in
set_option maxHeartbeats 4000000 in
theorem tu3_run_2_0 {e ac : Nat} (x : Int32) (he : e + 4 ≤ 30) {l : Launch} {G : xG} {M : xM} {J : xJ} {b ra : Nat} (h_b : b ≤ 50) (e_b : M 46 2 = nI b) (h_ra : ra + 7 ≤ 900) (e_ra : M 46 3 = nI ra) (hac : ac < b) (e_ac : M 46 4 = nI ac) (e_k : M 47 ac = 3) : x_M l G fX8_run 13 0 0 [.ref (46), .int (2), .int (0), .int (x), .int (nI (e))] x_SH M J (qKI WTN M J (fun r M2 => r = ((-(((x + 1) + (nI (ac))) * 2)) - ((1 ^^^ (nI (ac))) * 3)) ∧ M2 46 3 = nI (ra + 7))) := by
  refine xb_of pX8 (Nat.le_of_ble_eq_true rfl) rfl ?_
  refine xr_aload_n dX8_run_0 0 rfl ?_
  refine xr_iload_n dX8_run_1 1 rfl ?_
  refine xr_callV (As := [.int (2)]) (rest := []) mlX8_56 (g_X8_note 2 (by omega) e_ra) dX8_run_2 s_46 rfl rfl (Nat.le_of_ble_eq_true rfl) (by decide) ⟨by decide, by decide⟩ (fun v s2 M2 J2 hq => ?_)
  obtain ⟨rfl, rfl, rfl, k3, hx1⟩ := hq
  try dsimp only [Option.toList, List.cons_append, List.nil_append]
  refine xr_iload_n dX8_run_5 1 rfl ?_
  refine xr_lookup (tgt := 127) (off := 121) dX8_run_6 (by decide) (by decide) rfl ?_
  refine xr_aload_n dX8_run_127 0 rfl ?_
  refine xr_iconst (v := 1) dX8_run_128 rfl ?_
  refine xr_iload_n dX8_run_129 3 rfl ?_
  refine xr_iload dX8_run_130 4 rfl ?_
  refine xr_callV (As := [.int (1), .int (x), .int (nI (e))]) (rest := []) mlX8_39 (tu3_own_1 (e := e) (ac := ac) x (by omega) (by omega) (Eq.trans (k3 46 2 (by decide)) e_b) (by omega) hx1 hac (Eq.trans (k3 46 4 (by decide)) e_ac) (Eq.trans (k3 47 ac (by unfold WTN; omega)) e_k)) dX8_run_132 s_46 rfl rfl (Nat.le_of_ble_eq_true rfl) (by decide) ⟨by decide, by decide⟩ (fun v s2 M6 J2 hq => ?_)
  obtain ⟨r8, rfl, rfl, rfl, k7, ⟨hr5, hx4⟩⟩ := hq
  try dsimp only [Option.toList, List.cons_append, List.nil_append]
  subst hr5
  refine xr_aload_n dX8_run_135 0 rfl ?_
  refine xr_iconst (v := 2) dX8_run_136 rfl ?_
  refine xr_iconst (v := 1) dX8_run_137 rfl ?_
  refine xr_iload dX8_run_138 4 rfl ?_
  refine xr_callV (As := [.int (2), .int (1), .int (nI (e))]) (rest := [.int ((-(((x + 1) + (nI (ac))) * 2)))]) mlX8_39 (tu3_own_2 (e := e) (ac := ac) 1 (by omega) (by omega) (Eq.trans (k7 46 2 (by decide)) (Eq.trans (k3 46 2 (by decide)) e_b)) (by omega) hx4 hac (Eq.trans (k7 46 4 (by decide)) (Eq.trans (k3 46 4 (by decide)) e_ac)) (Eq.trans (k7 47 ac (by unfold WTN; omega)) (Eq.trans (k3 47 ac (by unfold WTN; omega)) e_k))) dX8_run_140 s_46 rfl rfl (Nat.le_of_ble_eq_true rfl) (by decide) ⟨by decide, by decide⟩ (fun v s2 M11 J2 hq => ?_)
  obtain ⟨r13, rfl, rfl, rfl, k12, ⟨hr10, hx9⟩⟩ := hq
  try dsimp only [Option.toList, List.cons_append, List.nil_append]
  subst hr10
  refine xr_isub dX8_run_143 ?_
  exact xr_iret dX8_run_144 rfl rfl (⟨_, rfl, rfl, rfl, (Ke.tr (fun _ _ h => h) (Ke.tr (fun _ _ h => h) (Ke.tr (fun _ _ h => h) Ke.rf k3) k7) k12), rfl, hx9⟩)
set_option maxRecDepth 100000 in
set_option maxHeartbeats 4000000 in
theorem tu3_runFrom_3_3 {e ac : Nat} (x : Int32) (he : e + 5 ≤ 30) {l : Launch} {G : xG} {M : xM} {J : xJ} {b ra : Nat} (h_b : b ≤ 50) (e_b : M 46 2 = nI b) (h_ra : ra + 7 ≤ 900) (e_ra : M 46 3 = nI ra) (hac : ac < b) (e_ac : M 46 4 = nI ac) (e_k : M 47 ac = 3) : x_M l G fX8_runFrom 14 0 0 [.ref (46), .int (3), .int (3), .int (x), .int (nI (e))] x_SH M J (qKI WTN M J (fun r M2 => r = ((-(((x + 1) + (nI (ac))) * 2)) - ((1 ^^^ (nI (ac))) * 3)) ∧ M2 46 3 = nI (ra + 7))) := by
  refine xb_of pX8 (Nat.le_of_ble_eq_true rfl) rfl ?_
  refine xr_iload_n dX8_runFrom_0 1 rfl ?_
  refine xr_istore (ls2 := [(5, .int (3)), (0, .ref (46)), (1, .int (3)), (2, .int (3)), (3, .int (x)), (4, .int (nI (e)))]) dX8_runFrom_1 (by decide) rfl ?_
  refine xr_iconst (v := 0) dX8_runFrom_3 rfl ?_
  refine xr_istore (ls2 := [(6, .int (0)), (5, .int (3)), (0, .ref (46)), (1, .int (3)), (2, .int (3)), (3, .int (x)), (4, .int (nI (e)))]) dX8_runFrom_4 (by decide) rfl ?_
  refine xr_iload dX8_runFrom_6 0 rfl ?_
  refine xr_bipush (v := 8) dX8_runFrom_8 rfl ?_
  refine xr_icmp_ge (tgt := 81) dX8_runFrom_10 rfl (fun c => absurd c (by decide)) (fun _ => ?_)
  refine xr_iload dX8_runFrom_13 1 rfl ?_
  refine xb_cN (As := [.int (3)]) (rest := []) mlX8_26 (c_X9_isKind 3) dX8_runFrom_15 rfl rfl (Nat.le_of_ble_eq_true rfl) (by decide) (by decide) ?_
  refine xb_beq (tgt := 81) dX8_runFrom_18 rfl (fun c => absurd (by decide) c) (fun _ => ?_)
  refine xr_getsO slX8_50 dX8_runFrom_21 ?_
  refine xr_iload dX8_runFrom_24 1 rfl ?_
  refine xr_iconst (v := 4) dX8_runFrom_26 rfl ?_
  refine xr_imul dX8_runFrom_27 ?_
  refine xb_top (y := 12) (by decide) ?_
  refine xr_iload_n dX8_runFrom_28 4 rfl ?_
  refine xr_iadd dX8_runFrom_29 ?_
  refine xb_top (y := 15) (by decide) ?_
  refine xr_tabO (by unfold vp_in; decide) dX8_runFrom_30 ?_
  refine xb_top (y := 0) (by decide) ?_
  refine xr_if_eq (tgt := 67) dX8_runFrom_31 rfl (fun _ => ?_) (fun c => absurd (by decide) c)
  refine xr_getsA slX8_30 dX8_runFrom_67 ?_
  refine xr_iload dX8_runFrom_70 1 rfl ?_
  refine xr_tabA (by unfold vp_in; decide) dX8_runFrom_72 ?_
  refine xb_top (y := 2) (by decide) ?_
  refine xr_istore (ls2 := [(5, .int (2)), (6, .int (0)), (0, .ref (46)), (1, .int (3)), (2, .int (3)), (3, .int (x)), (4, .int (nI (e)))]) dX8_runFrom_73 (by decide) rfl ?_
  refine xr_iinc (v := 1) (ls2 := [(6, .int (1)), (5, .int (2)), (0, .ref (46)), (1, .int (3)), (2, .int (3)), (3, .int (x)), (4, .int (nI (e)))]) dX8_runFrom_75 1 rfl rfl (by decide) rfl ?_
  refine xr_goto (tgt := 6) dX8_runFrom_78 rfl ?_
  refine xr_iload dX8_runFrom_6 0 rfl ?_
  refine xr_bipush (v := 8) dX8_runFrom_8 rfl ?_
  refine xr_icmp_ge (tgt := 81) dX8_runFrom_10 rfl (fun c => absurd c (by decide)) (fun _ => ?_)
  refine xr_iload dX8_runFrom_13 1 rfl ?_
  refine xb_cN (As := [.int (2)]) (rest := []) mlX8_26 (c_X9_isKind 2) dX8_runFrom_15 rfl rfl (Nat.le_of_ble_eq_true rfl) (by decide) (by decide) ?_
  refine xb_beq (tgt := 81) dX8_runFrom_18 rfl (fun c => absurd (by decide) c) (fun _ => ?_)
  refine xr_getsO slX8_50 dX8_runFrom_21 ?_
  refine xr_iload dX8_runFrom_24 1 rfl ?_
  refine xr_iconst (v := 4) dX8_runFrom_26 rfl ?_
  refine xr_imul dX8_runFrom_27 ?_
  refine xb_top (y := 8) (by decide) ?_
  refine xr_iload_n dX8_runFrom_28 4 rfl ?_
  refine xr_iadd dX8_runFrom_29 ?_
  refine xb_top (y := 11) (by decide) ?_
  refine xr_tabO (by unfold vp_in; decide) dX8_runFrom_30 ?_
  refine xb_top (y := 0) (by decide) ?_
  refine xr_if_eq (tgt := 67) dX8_runFrom_31 rfl (fun _ => ?_) (fun c => absurd (by decide) c)
  refine xr_getsA slX8_30 dX8_runFrom_67 ?_
  refine xr_iload dX8_runFrom_70 1 rfl ?_
  refine xr_tabA (by unfold vp_in; decide) dX8_runFrom_72 ?_
  refine xb_top (y := 0) (by decide) ?_
  refine xr_istore (ls2 := [(5, .int (0)), (6, .int (1)), (0, .ref (46)), (1, .int (3)), (2, .int (3)), (3, .int (x)), (4, .int (nI (e)))]) dX8_runFrom_73 (by decide) rfl ?_
  refine xr_iinc (v := 2) (ls2 := [(6, .int (2)), (5, .int (0)), (0, .ref (46)), (1, .int (3)), (2, .int (3)), (3, .int (x)), (4, .int (nI (e)))]) dX8_runFrom_75 1 rfl rfl (by decide) rfl ?_
  refine xr_goto (tgt := 6) dX8_runFrom_78 rfl ?_
  refine xr_iload dX8_runFrom_6 0 rfl ?_
  refine xr_bipush (v := 8) dX8_runFrom_8 rfl ?_
  refine xr_icmp_ge (tgt := 81) dX8_runFrom_10 rfl (fun c => absurd c (by decide)) (fun _ => ?_)
  refine xr_iload dX8_runFrom_13 1 rfl ?_
  refine xb_cN (As := [.int (0)]) (rest := []) mlX8_26 (c_X9_isKind 0) dX8_runFrom_15 rfl rfl (Nat.le_of_ble_eq_true rfl) (by decide) (by decide) ?_
  refine xb_beq (tgt := 81) dX8_runFrom_18 rfl (fun c => absurd (by decide) c) (fun _ => ?_)
  refine xr_getsO slX8_50 dX8_runFrom_21 ?_
  refine xr_iload dX8_runFrom_24 1 rfl ?_
  refine xr_iconst (v := 4) dX8_runFrom_26 rfl ?_
  refine xr_imul dX8_runFrom_27 ?_
  refine xb_top (y := 0) (by decide) ?_
  refine xr_iload_n dX8_runFrom_28 4 rfl ?_
  refine xr_iadd dX8_runFrom_29 ?_
  refine xb_top (y := 3) (by decide) ?_
  refine xr_tabO (by unfold vp_in; decide) dX8_runFrom_30 ?_
  refine xb_top (y := 2) (by decide) ?_
  refine xr_if_eq (tgt := 67) dX8_runFrom_31 rfl (fun c => absurd c (by decide)) (fun _ => ?_)
  refine xr_iload dX8_runFrom_34 6 rfl ?_
  refine xr_bipush (v := 30) dX8_runFrom_36 rfl ?_
  refine xr_icmp_ge (tgt := 65) dX8_runFrom_38 rfl (fun c => absurd c (nI_ge (a := e) (b := 30) (by omega) (by omega))) (fun _ => ?_)
  refine xr_aload_n dX8_runFrom_41 2 rfl ?_
  refine xr_getsO slX8_50 dX8_runFrom_42 ?_
  refine xr_iload dX8_runFrom_45 1 rfl ?_
  refine xr_iconst (v := 4) dX8_runFrom_47 rfl ?_
  refine xr_imul dX8_runFrom_48 ?_
  refine xb_top (y := 0) (by decide) ?_
  refine xr_iload_n dX8_runFrom_49 4 rfl ?_
  refine xr_iadd dX8_runFrom_50 ?_
  refine xb_top (y := 3) (by decide) ?_
  refine xr_tabO (by unfold vp_in; decide) dX8_runFrom_51 ?_
  refine xb_top (y := 2) (by decide) ?_
  refine xr_iload dX8_runFrom_52 1 rfl ?_
  refine xr_iload_n dX8_runFrom_54 5 rfl ?_
  refine xr_iload dX8_runFrom_55 6 rfl ?_
  refine xr_iconst (v := 1) dX8_runFrom_57 rfl ?_
  refine xr_iadd dX8_runFrom_58 ?_
  refine xb_top (y := nI (e + 1)) (nI_add (e) (1)) ?_
  refine xr_callV (As := [.int (2), .int (0), .int (x), .int (nI (e + 1))]) (rest := []) mlX8_53 (tu3_run_2_0 (e := e + 1) (ac := ac) x (by omega) (by omega) e_b (by omega) e_ra hac e_ac e_k) dX8_runFrom_59 s_46 rfl rfl (Nat.le_of_ble_eq_true rfl) (by decide) ⟨by decide, by decide⟩ (fun v s2 M6 J2 hq => ?_)
  obtain ⟨r8, rfl, rfl, rfl, k7, ⟨hr5, hx4⟩⟩ := hq
  try dsimp only [Option.toList, List.cons_append, List.nil_append]
  subst hr5
  refine xr_goto (tgt := 66) dX8_runFrom_62 rfl ?_
  exact xr_iret dX8_runFrom_66 rfl rfl (⟨_, rfl, rfl, rfl, (Ke.tr (fun _ _ h => h) Ke.rf k7), rfl, hx4⟩)
set_option maxRecDepth 100000 in
set_option maxHeartbeats 4000000 in
theorem tu3_own_3 {e ac : Nat} (x : Int32) (he : e + 5 ≤ 30) {l : Launch} {G : xG} {M : xM} {J : xJ} {b ra : Nat} (h_b : b ≤ 50) (e_b : M 46 2 = nI b) (h_ra : ra + 7 ≤ 900) (e_ra : M 46 3 = nI ra) (hac : ac < b) (e_ac : M 46 4 = nI ac) (e_k : M 47 ac = 3) : x_M l G fX8_own 15 0 0 [.ref (46), .int (3), .int (x), .int (nI (e))] x_SH M J (qKI WTN M J (fun r M2 => r = ((-(((x + 1) + (nI (ac))) * 2)) - ((1 ^^^ (nI (ac))) * 3)) ∧ M2 46 3 = nI (ra + 7))) := by
  refine xb_of pX8 (Nat.le_of_ble_eq_true rfl) rfl ?_
  refine xr_aload_n dX8_own_0 0 rfl ?_
  refine xr_aload_n dX8_own_1 0 rfl ?_
  refine xb_get (v := nI (ac)) flX8_36 dX8_own_2 s_46 rfl e_ac ?_
  refine xb_cV (As := [.int (nI (ac))]) (rest := []) mlX8_43 (c_X8_has (nI (ac)) (by omega) e_b) dX8_own_5 s_46 rfl rfl (Nat.le_of_ble_eq_true rfl) (by decide) (by decide) ?_
  refine xb_beq (tgt := 30) dX8_own_8 rfl (fun c => absurd ⟨nI_pos' (by omega), nI_lt (by omega) (by omega)⟩ c) (fun _ => ?_)
  refine xr_aload_n dX8_own_11 0 rfl ?_
  refine xr_aload_n dX8_own_12 0 rfl ?_
  refine xr_getR flX8_9 dX8_own_13 s_46 rfl ?_
  refine xr_aload_n dX8_own_16 0 rfl ?_
  refine xb_get (v := nI (ac)) flX8_36 dX8_own_17 s_46 rfl e_ac ?_
  refine xb_iald (j := ac) (v := 3) dX8_own_20 s_47 (by omega) (by decide) e_k ?_
  refine xr_iload_n dX8_own_21 1 rfl ?_
  refine xr_iload_n dX8_own_22 2 rfl ?_
  refine xr_iload_n dX8_own_23 3 rfl ?_
  refine xr_callV (As := [.int (3), .int (3), .int (x), .int (nI (e))]) (rest := []) mlX8_46 (tu3_runFrom_3_3 (e := e) (ac := ac) x (by omega) (by omega) e_b (by omega) e_ra hac e_ac e_k) dX8_own_24 s_46 rfl rfl (Nat.le_of_ble_eq_true rfl) (by decide) ⟨by decide, by decide⟩ (fun v s2 M4 J2 hq => ?_)
  obtain ⟨r6, rfl, rfl, rfl, k5, ⟨hr3, hx2⟩⟩ := hq
  try dsimp only [Option.toList, List.cons_append, List.nil_append]
  subst hr3
  refine xr_goto (tgt := 31) dX8_own_27 rfl ?_
  exact xr_iret dX8_own_31 rfl rfl (⟨_, rfl, rfl, rfl, (Ke.tr (fun _ _ h => h) Ke.rf k5), rfl, hx2⟩)
set_option maxRecDepth 100000 in
set_option maxHeartbeats 4000000 in
theorem tu4_run_1_0 {e ac : Nat} (x : Int32) (he : e + 0 ≤ 30) {l : Launch} {G : xG} {M : xM} {J : xJ} {b ra : Nat} (h_b : b ≤ 50) (e_b : M 46 2 = nI b) (h_ra : ra + 1 ≤ 900) (e_ra : M 46 3 = nI ra) (hac : ac < b) (e_ac : M 46 4 = nI ac) (e_k : M 47 ac = 4) : x_M l G fX8_run 1 0 0 [.ref (46), .int (1), .int (0), .int (x), .int (nI (e))] x_SH M J (qKI WTN M J (fun r M2 => r = (x + (nI (ac))) ∧ M2 46 3 = nI (ra + 1))) := by
  refine xb_of pX8 (Nat.le_of_ble_eq_true rfl) rfl ?_
  refine xr_aload_n dX8_run_0 0 rfl ?_
  refine xr_iload_n dX8_run_1 1 rfl ?_
  refine xr_callV (As := [.int (1)]) (rest := []) mlX8_56 (g_X8_note 1 (by omega) e_ra) dX8_run_2 s_46 rfl rfl (Nat.le_of_ble_eq_true rfl) (by decide) ⟨by decide, by decide⟩ (fun v s2 M2 J2 hq => ?_)
  obtain ⟨rfl, rfl, rfl, k3, hx1⟩ := hq
  try dsimp only [Option.toList, List.cons_append, List.nil_append]
  refine xr_iload_n dX8_run_5 1 rfl ?_
  refine xr_lookup (tgt := 120) (off := 114) dX8_run_6 (by decide) (by decide) rfl ?_
  refine xr_iload_n dX8_run_120 3 rfl ?_
  refine xr_aload_n dX8_run_121 0 rfl ?_
  refine xb_get (v := nI (ac)) flX8_36 dX8_run_122 s_46 rfl (Eq.trans (k3 46 4 (by decide)) e_ac) ?_
  refine xr_iadd dX8_run_125 ?_
  exact xr_iret dX8_run_126 rfl rfl (⟨_, rfl, rfl, rfl, (Ke.tr (fun _ _ h => h) Ke.rf k3), rfl, hx1⟩)
set_option maxRecDepth 100000 in
set_option maxHeartbeats 4000000 in
theorem tu4_runFrom_0_0 {e ac : Nat} (x : Int32) (he : e + 1 ≤ 30) {l : Launch} {G : xG} {M : xM} {J : xJ} {b ra : Nat} (h_b : b ≤ 50) (e_b : M 46 2 = nI b) (h_ra : ra + 1 ≤ 900) (e_ra : M 46 3 = nI ra) (hac : ac < b) (e_ac : M 46 4 = nI ac) (e_k : M 47 ac = 4) : x_M l G fX8_runFrom 2 0 0 [.ref (46), .int (0), .int (0), .int (x), .int (nI (e))] x_SH M J (qKI WTN M J (fun r M2 => r = (x + (nI (ac))) ∧ M2 46 3 = nI (ra + 1))) := by
  refine xb_of pX8 (Nat.le_of_ble_eq_true rfl) rfl ?_
  refine xr_iload_n dX8_runFrom_0 1 rfl ?_
  refine xr_istore (ls2 := [(5, .int (0)), (0, .ref (46)), (1, .int (0)), (2, .int (0)), (3, .int (x)), (4, .int (nI (e)))]) dX8_runFrom_1 (by decide) rfl ?_
  refine xr_iconst (v := 0) dX8_runFrom_3 rfl ?_
  refine xr_istore (ls2 := [(6, .int (0)), (5, .int (0)), (0, .ref (46)), (1, .int (0)), (2, .int (0)), (3, .int (x)), (4, .int (nI (e)))]) dX8_runFrom_4 (by decide) rfl ?_
  refine xr_iload dX8_runFrom_6 0 rfl ?_
  refine xr_bipush (v := 8) dX8_runFrom_8 rfl ?_
  refine xr_icmp_ge (tgt := 81) dX8_runFrom_10 rfl (fun c => absurd c (by decide)) (fun _ => ?_)
  refine xr_iload dX8_runFrom_13 1 rfl ?_
  refine xb_cN (As := [.int (0)]) (rest := []) mlX8_26 (c_X9_isKind 0) dX8_runFrom_15 rfl rfl (Nat.le_of_ble_eq_true rfl) (by decide) (by decide) ?_
  refine xb_beq (tgt := 81) dX8_runFrom_18 rfl (fun c => absurd (by decide) c) (fun _ => ?_)
  refine xr_getsO slX8_50 dX8_runFrom_21 ?_
  refine xr_iload dX8_runFrom_24 1 rfl ?_
  refine xr_iconst (v := 4) dX8_runFrom_26 rfl ?_
  refine xr_imul dX8_runFrom_27 ?_
  refine xb_top (y := 0) (by decide) ?_
  refine xr_iload_n dX8_runFrom_28 4 rfl ?_
  refine xr_iadd dX8_runFrom_29 ?_
  refine xb_top (y := 0) (by decide) ?_
  refine xr_tabO (by unfold vp_in; decide) dX8_runFrom_30 ?_
  refine xb_top (y := 1) (by decide) ?_
  refine xr_if_eq (tgt := 67) dX8_runFrom_31 rfl (fun c => absurd c (by decide)) (fun _ => ?_)
  refine xr_iload dX8_runFrom_34 6 rfl ?_
  refine xr_bipush (v := 30) dX8_runFrom_36 rfl ?_
  refine xr_icmp_ge (tgt := 65) dX8_runFrom_38 rfl (fun c => absurd c (nI_ge (a := e) (b := 30) (by omega) (by omega))) (fun _ => ?_)
  refine xr_aload_n dX8_runFrom_41 2 rfl ?_
  refine xr_getsO slX8_50 dX8_runFrom_42 ?_
  refine xr_iload dX8_runFrom_45 1 rfl ?_
  refine xr_iconst (v := 4) dX8_runFrom_47 rfl ?_
  refine xr_imul dX8_runFrom_48 ?_
  refine xb_top (y := 0) (by decide) ?_
  refine xr_iload_n dX8_runFrom_49 4 rfl ?_
  refine xr_iadd dX8_runFrom_50 ?_
  refine xb_top (y := 0) (by decide) ?_
  refine xr_tabO (by unfold vp_in; decide) dX8_runFrom_51 ?_
  refine xb_top (y := 1) (by decide) ?_
  refine xr_iload dX8_runFrom_52 1 rfl ?_
  refine xr_iload_n dX8_runFrom_54 5 rfl ?_
  refine xr_iload dX8_runFrom_55 6 rfl ?_
  refine xr_iconst (v := 1) dX8_runFrom_57 rfl ?_
  refine xr_iadd dX8_runFrom_58 ?_
  refine xb_top (y := nI (e + 1)) (nI_add (e) (1)) ?_
  refine xr_callV (As := [.int (1), .int (0), .int (x), .int (nI (e + 1))]) (rest := []) mlX8_53 (tu4_run_1_0 (e := e + 1) (ac := ac) x (by omega) (by omega) e_b (by omega) e_ra hac e_ac e_k) dX8_runFrom_59 s_46 rfl rfl (Nat.le_of_ble_eq_true rfl) (by decide) ⟨by decide, by decide⟩ (fun v s2 M4 J2 hq => ?_)
  obtain ⟨r6, rfl, rfl, rfl, k5, ⟨hr3, hx2⟩⟩ := hq
  try dsimp only [Option.toList, List.cons_append, List.nil_append]
  subst hr3
  refine xr_goto (tgt := 66) dX8_runFrom_62 rfl ?_
  exact xr_iret dX8_runFrom_66 rfl rfl (⟨_, rfl, rfl, rfl, (Ke.tr (fun _ _ h => h) Ke.rf k5), rfl, hx2⟩)
set_option maxRecDepth 100000 in
set_option maxHeartbeats 4000000 in
theorem tu4_above_1_0 {e ac : Nat} (x : Int32) (he : e + 1 ≤ 30) {l : Launch} {G : xG} {M : xM} {J : xJ} {b ra : Nat} (h_b : b ≤ 50) (e_b : M 46 2 = nI b) (h_ra : ra + 1 ≤ 900) (e_ra : M 46 3 = nI ra) (hac : ac < b) (e_ac : M 46 4 = nI ac) (e_k : M 47 ac = 4) : x_M l G fX8_above 3 0 0 [.ref (46), .int (1), .int (0), .int (x), .int (nI (e))] x_SH M J (qKI WTN M J (fun r M2 => r = (x + (nI (ac))) ∧ M2 46 3 = nI (ra + 1))) := by
  refine xb_of pX8 (Nat.le_of_ble_eq_true rfl) rfl ?_
  refine xr_iload_n dX8_above_0 1 rfl ?_
  refine xb_cN (As := [.int (1)]) (rest := []) mlX8_26 (c_X9_isKind 1) dX8_above_1 rfl rfl (Nat.le_of_ble_eq_true rfl) (by decide) (by decide) ?_
  refine xb_beq (tgt := 23) dX8_above_4 rfl (fun c => absurd (by decide) c) (fun _ => ?_)
  refine xr_aload_n dX8_above_7 0 rfl ?_
  refine xr_getsA slX8_30 dX8_above_8 ?_
  refine xr_iload_n dX8_above_11 1 rfl ?_
  refine xr_tabA (by unfold vp_in; decide) dX8_above_12 ?_
  refine xb_top (y := 0) (by decide) ?_
  refine xr_iload_n dX8_above_13 2 rfl ?_
  refine xr_iload_n dX8_above_14 3 rfl ?_
  refine xr_iload dX8_above_15 4 rfl ?_
  refine xr_callV (As := [.int (0), .int (0), .int (x), .int (nI (e))]) (rest := []) mlX8_46 (tu4_runFrom_0_0 (e := e) (ac := ac) x (by omega) (by omega) e_b (by omega) e_ra hac e_ac e_k) dX8_above_17 s_46 rfl rfl (Nat.le_of_ble_eq_true rfl) (by decide) ⟨by decide, by decide⟩ (fun v s2 M4 J2 hq => ?_)
  obtain ⟨r6, rfl, rfl, rfl, k5, ⟨hr3, hx2⟩⟩ := hq
  try dsimp only [Option.toList, List.cons_append, List.nil_append]
  subst hr3
  refine xr_goto (tgt := 24) dX8_above_20 rfl ?_
  exact xr_iret dX8_above_24 rfl rfl (⟨_, rfl, rfl, rfl, (Ke.tr (fun _ _ h => h) Ke.rf k5), rfl, hx2⟩)
set_option maxRecDepth 100000 in
set_option maxHeartbeats 4000000 in
theorem tu4_run_20_1 {e ac : Nat} (x : Int32) (he : e + 1 ≤ 30) {l : Launch} {G : xG} {M : xM} {J : xJ} {b ra : Nat} (h_b : b ≤ 50) (e_b : M 46 2 = nI b) (h_ra : ra + 2 ≤ 900) (e_ra : M 46 3 = nI ra) (hac : ac < b) (e_ac : M 46 4 = nI ac) (e_k : M 47 ac = 4) : x_M l G fX8_run 4 0 0 [.ref (46), .int (20), .int (1), .int (x), .int (nI (e))] x_SH M J (qKI WTN M J (fun r M2 => r = ((x + (nI (ac))) + 3) ∧ M2 46 3 = nI (ra + 2))) := by
  refine xb_of pX8 (Nat.le_of_ble_eq_true rfl) rfl ?_
  refine xr_aload_n dX8_run_0 0 rfl ?_
  refine xr_iload_n dX8_run_1 1 rfl ?_
  refine xr_callV (As := [.int (20)]) (rest := []) mlX8_56 (g_X8_note 20 (by omega) e_ra) dX8_run_2 s_46 rfl rfl (Nat.le_of_ble_eq_true rfl) (by decide) ⟨by decide, by decide⟩ (fun v s2 M2 J2 hq => ?_)
  obtain ⟨rfl, rfl, rfl, k3, hx1⟩ := hq
  try dsimp only [Option.toList, List.cons_append, List.nil_append]
  refine xr_iload_n dX8_run_5 1 rfl ?_
  refine xr_lookup (tgt := 163) (off := 157) dX8_run_6 (by decide) (by decide) rfl ?_
  refine xr_aload_n dX8_run_163 0 rfl ?_
  refine xr_iload_n dX8_run_164 2 rfl ?_
  refine xr_iconst (v := 0) dX8_run_165 rfl ?_
  refine xr_iload_n dX8_run_166 3 rfl ?_
  refine xr_iload dX8_run_167 4 rfl ?_
  refine xr_callV (As := [.int (1), .int (0), .int (x), .int (nI (e))]) (rest := []) mlX8_60 (tu4_above_1_0 (e := e) (ac := ac) x (by omega) (by omega) (Eq.trans (k3 46 2 (by decide)) e_b) (by omega) hx1 hac (Eq.trans (k3 46 4 (by decide)) e_ac) (Eq.trans (k3 47 ac (by unfold WTN; omega)) e_k)) dX8_run_169 s_46 rfl rfl (Nat.le_of_ble_eq_true rfl) (by decide) ⟨by decide, by decide⟩ (fun v s2 M6 J2 hq => ?_)
  obtain ⟨r8, rfl, rfl, rfl, k7, ⟨hr5, hx4⟩⟩ := hq
  try dsimp only [Option.toList, List.cons_append, List.nil_append]
  subst hr5
  refine xr_iconst (v := 3) dX8_run_172 rfl ?_
  refine xr_iadd dX8_run_173 ?_
  exact xr_iret dX8_run_174 rfl rfl (⟨_, rfl, rfl, rfl, (Ke.tr (fun _ _ h => h) (Ke.tr (fun _ _ h => h) Ke.rf k3) k7), rfl, hx4⟩)
set_option maxRecDepth 100000 in
set_option maxHeartbeats 4000000 in
theorem tu4_runFrom_4_0 {e ac : Nat} (x : Int32) (he : e + 2 ≤ 30) {l : Launch} {G : xG} {M : xM} {J : xJ} {b ra : Nat} (h_b : b ≤ 50) (e_b : M 46 2 = nI b) (h_ra : ra + 2 ≤ 900) (e_ra : M 46 3 = nI ra) (hac : ac < b) (e_ac : M 46 4 = nI ac) (e_k : M 47 ac = 4) : x_M l G fX8_runFrom 5 0 0 [.ref (46), .int (4), .int (0), .int (x), .int (nI (e))] x_SH M J (qKI WTN M J (fun r M2 => r = ((x + (nI (ac))) + 3) ∧ M2 46 3 = nI (ra + 2))) := by
  refine xb_of pX8 (Nat.le_of_ble_eq_true rfl) rfl ?_
  refine xr_iload_n dX8_runFrom_0 1 rfl ?_
  refine xr_istore (ls2 := [(5, .int (4)), (0, .ref (46)), (1, .int (4)), (2, .int (0)), (3, .int (x)), (4, .int (nI (e)))]) dX8_runFrom_1 (by decide) rfl ?_
  refine xr_iconst (v := 0) dX8_runFrom_3 rfl ?_
  refine xr_istore (ls2 := [(6, .int (0)), (5, .int (4)), (0, .ref (46)), (1, .int (4)), (2, .int (0)), (3, .int (x)), (4, .int (nI (e)))]) dX8_runFrom_4 (by decide) rfl ?_
  refine xr_iload dX8_runFrom_6 0 rfl ?_
  refine xr_bipush (v := 8) dX8_runFrom_8 rfl ?_
  refine xr_icmp_ge (tgt := 81) dX8_runFrom_10 rfl (fun c => absurd c (by decide)) (fun _ => ?_)
  refine xr_iload dX8_runFrom_13 1 rfl ?_
  refine xb_cN (As := [.int (4)]) (rest := []) mlX8_26 (c_X9_isKind 4) dX8_runFrom_15 rfl rfl (Nat.le_of_ble_eq_true rfl) (by decide) (by decide) ?_
  refine xb_beq (tgt := 81) dX8_runFrom_18 rfl (fun c => absurd (by decide) c) (fun _ => ?_)
  refine xr_getsO slX8_50 dX8_runFrom_21 ?_
  refine xr_iload dX8_runFrom_24 1 rfl ?_
  refine xr_iconst (v := 4) dX8_runFrom_26 rfl ?_
  refine xr_imul dX8_runFrom_27 ?_
  refine xb_top (y := 16) (by decide) ?_
  refine xr_iload_n dX8_runFrom_28 4 rfl ?_
  refine xr_iadd dX8_runFrom_29 ?_
  refine xb_top (y := 16) (by decide) ?_
  refine xr_tabO (by unfold vp_in; decide) dX8_runFrom_30 ?_
  refine xb_top (y := 0) (by decide) ?_
  refine xr_if_eq (tgt := 67) dX8_runFrom_31 rfl (fun _ => ?_) (fun c => absurd (by decide) c)
  refine xr_getsA slX8_30 dX8_runFrom_67 ?_
  refine xr_iload dX8_runFrom_70 1 rfl ?_
  refine xr_tabA (by unfold vp_in; decide) dX8_runFrom_72 ?_
  refine xb_top (y := 1) (by decide) ?_
  refine xr_istore (ls2 := [(5, .int (1)), (6, .int (0)), (0, .ref (46)), (1, .int (4)), (2, .int (0)), (3, .int (x)), (4, .int (nI (e)))]) dX8_runFrom_73 (by decide) rfl ?_
  refine xr_iinc (v := 1) (ls2 := [(6, .int (1)), (5, .int (1)), (0, .ref (46)), (1, .int (4)), (2, .int (0)), (3, .int (x)), (4, .int (nI (e)))]) dX8_runFrom_75 1 rfl rfl (by decide) rfl ?_
  refine xr_goto (tgt := 6) dX8_runFrom_78 rfl ?_
  refine xr_iload dX8_runFrom_6 0 rfl ?_
  refine xr_bipush (v := 8) dX8_runFrom_8 rfl ?_
  refine xr_icmp_ge (tgt := 81) dX8_runFrom_10 rfl (fun c => absurd c (by decide)) (fun _ => ?_)
  refine xr_iload dX8_runFrom_13 1 rfl ?_
  refine xb_cN (As := [.int (1)]) (rest := []) mlX8_26 (c_X9_isKind 1) dX8_runFrom_15 rfl rfl (Nat.le_of_ble_eq_true rfl) (by decide) (by decide) ?_
  refine xb_beq (tgt := 81) dX8_runFrom_18 rfl (fun c => absurd (by decide) c) (fun _ => ?_)
  refine xr_getsO slX8_50 dX8_runFrom_21 ?_
  refine xr_iload dX8_runFrom_24 1 rfl ?_
  refine xr_iconst (v := 4) dX8_runFrom_26 rfl ?_
  refine xr_imul dX8_runFrom_27 ?_
  refine xb_top (y := 4) (by decide) ?_
  refine xr_iload_n dX8_runFrom_28 4 rfl ?_
  refine xr_iadd dX8_runFrom_29 ?_
  refine xb_top (y := 4) (by decide) ?_
  refine xr_tabO (by unfold vp_in; decide) dX8_runFrom_30 ?_
  refine xb_top (y := 20) (by decide) ?_
  refine xr_if_eq (tgt := 67) dX8_runFrom_31 rfl (fun c => absurd c (by decide)) (fun _ => ?_)
  refine xr_iload dX8_runFrom_34 6 rfl ?_
  refine xr_bipush (v := 30) dX8_runFrom_36 rfl ?_
  refine xr_icmp_ge (tgt := 65) dX8_runFrom_38 rfl (fun c => absurd c (nI_ge (a := e) (b := 30) (by omega) (by omega))) (fun _ => ?_)
  refine xr_aload_n dX8_runFrom_41 2 rfl ?_
  refine xr_getsO slX8_50 dX8_runFrom_42 ?_
  refine xr_iload dX8_runFrom_45 1 rfl ?_
  refine xr_iconst (v := 4) dX8_runFrom_47 rfl ?_
  refine xr_imul dX8_runFrom_48 ?_
  refine xb_top (y := 4) (by decide) ?_
  refine xr_iload_n dX8_runFrom_49 4 rfl ?_
  refine xr_iadd dX8_runFrom_50 ?_
  refine xb_top (y := 4) (by decide) ?_
  refine xr_tabO (by unfold vp_in; decide) dX8_runFrom_51 ?_
  refine xb_top (y := 20) (by decide) ?_
  refine xr_iload dX8_runFrom_52 1 rfl ?_
  refine xr_iload_n dX8_runFrom_54 5 rfl ?_
  refine xr_iload dX8_runFrom_55 6 rfl ?_
  refine xr_iconst (v := 1) dX8_runFrom_57 rfl ?_
  refine xr_iadd dX8_runFrom_58 ?_
  refine xb_top (y := nI (e + 1)) (nI_add (e) (1)) ?_
  refine xr_callV (As := [.int (20), .int (1), .int (x), .int (nI (e + 1))]) (rest := []) mlX8_53 (tu4_run_20_1 (e := e + 1) (ac := ac) x (by omega) (by omega) e_b (by omega) e_ra hac e_ac e_k) dX8_runFrom_59 s_46 rfl rfl (Nat.le_of_ble_eq_true rfl) (by decide) ⟨by decide, by decide⟩ (fun v s2 M5 J2 hq => ?_)
  obtain ⟨r7, rfl, rfl, rfl, k6, ⟨hr4, hx3⟩⟩ := hq
  try dsimp only [Option.toList, List.cons_append, List.nil_append]
  subst hr4
  refine xr_goto (tgt := 66) dX8_runFrom_62 rfl ?_
  exact xr_iret dX8_runFrom_66 rfl rfl (⟨_, rfl, rfl, rfl, (Ke.tr (fun _ _ h => h) Ke.rf k6), rfl, hx3⟩)
set_option maxRecDepth 100000 in
set_option maxHeartbeats 4000000 in
theorem tu4_own_0 {e ac : Nat} (x : Int32) (he : e + 2 ≤ 30) {l : Launch} {G : xG} {M : xM} {J : xJ} {b ra : Nat} (h_b : b ≤ 50) (e_b : M 46 2 = nI b) (h_ra : ra + 2 ≤ 900) (e_ra : M 46 3 = nI ra) (hac : ac < b) (e_ac : M 46 4 = nI ac) (e_k : M 47 ac = 4) : x_M l G fX8_own 6 0 0 [.ref (46), .int (0), .int (x), .int (nI (e))] x_SH M J (qKI WTN M J (fun r M2 => r = ((x + (nI (ac))) + 3) ∧ M2 46 3 = nI (ra + 2))) := by
  refine xb_of pX8 (Nat.le_of_ble_eq_true rfl) rfl ?_
  refine xr_aload_n dX8_own_0 0 rfl ?_
  refine xr_aload_n dX8_own_1 0 rfl ?_
  refine xb_get (v := nI (ac)) flX8_36 dX8_own_2 s_46 rfl e_ac ?_
  refine xb_cV (As := [.int (nI (ac))]) (rest := []) mlX8_43 (c_X8_has (nI (ac)) (by omega) e_b) dX8_own_5 s_46 rfl rfl (Nat.le_of_ble_eq_true rfl) (by decide) (by decide) ?_
  refine xb_beq (tgt := 30) dX8_own_8 rfl (fun c => absurd ⟨nI_pos' (by omega), nI_lt (by omega) (by omega)⟩ c) (fun _ => ?_)
  refine xr_aload_n dX8_own_11 0 rfl ?_
  refine xr_aload_n dX8_own_12 0 rfl ?_
  refine xr_getR flX8_9 dX8_own_13 s_46 rfl ?_
  refine xr_aload_n dX8_own_16 0 rfl ?_
  refine xb_get (v := nI (ac)) flX8_36 dX8_own_17 s_46 rfl e_ac ?_
  refine xb_iald (j := ac) (v := 4) dX8_own_20 s_47 (by omega) (by decide) e_k ?_
  refine xr_iload_n dX8_own_21 1 rfl ?_
  refine xr_iload_n dX8_own_22 2 rfl ?_
  refine xr_iload_n dX8_own_23 3 rfl ?_
  refine xr_callV (As := [.int (4), .int (0), .int (x), .int (nI (e))]) (rest := []) mlX8_46 (tu4_runFrom_4_0 (e := e) (ac := ac) x (by omega) (by omega) e_b (by omega) e_ra hac e_ac e_k) dX8_own_24 s_46 rfl rfl (Nat.le_of_ble_eq_true rfl) (by decide) ⟨by decide, by decide⟩ (fun v s2 M4 J2 hq => ?_)
  obtain ⟨r6, rfl, rfl, rfl, k5, ⟨hr3, hx2⟩⟩ := hq
  try dsimp only [Option.toList, List.cons_append, List.nil_append]
  subst hr3
  refine xr_goto (tgt := 31) dX8_own_27 rfl ?_
  exact xr_iret dX8_own_31 rfl rfl (⟨_, rfl, rfl, rfl, (Ke.tr (fun _ _ h => h) Ke.rf k5), rfl, hx2⟩)
set_option maxRecDepth 100000 in
set_option maxHeartbeats 4000000 in
theorem tu4_run_10_0 {e ac : Nat} (x : Int32) (he : e + 2 ≤ 30) {l : Launch} {G : xG} {M : xM} {J : xJ} {b ra : Nat} (h_b : b ≤ 50) (e_b : M 46 2 = nI b) (h_ra : ra + 3 ≤ 900) (e_ra : M 46 3 = nI ra) (hac : ac < b) (e_ac : M 46 4 = nI ac) (e_k : M 47 ac = 4) : x_M l G fX8_run 7 0 0 [.ref (46), .int (10), .int (0), .int (x), .int (nI (e))] x_SH M J (qKI WTN M J (fun r M2 => r = (((x + (nI (ac))) + 3) * 2) ∧ M2 46 3 = nI (ra + 3))) := by
  refine xb_of pX8 (Nat.le_of_ble_eq_true rfl) rfl ?_
  refine xr_aload_n dX8_run_0 0 rfl ?_
  refine xr_iload_n dX8_run_1 1 rfl ?_
  refine xr_callV (As := [.int (10)]) (rest := []) mlX8_56 (g_X8_note 10 (by omega) e_ra) dX8_run_2 s_46 rfl rfl (Nat.le_of_ble_eq_true rfl) (by decide) ⟨by decide, by decide⟩ (fun v s2 M2 J2 hq => ?_)
  obtain ⟨rfl, rfl, rfl, k3, hx1⟩ := hq
  try dsimp only [Option.toList, List.cons_append, List.nil_append]
  refine xr_iload_n dX8_run_5 1 rfl ?_
  refine xr_lookup (tgt := 145) (off := 139) dX8_run_6 (by decide) (by decide) rfl ?_
  refine xr_aload_n dX8_run_145 0 rfl ?_
  refine xr_iconst (v := 0) dX8_run_146 rfl ?_
  refine xr_iload_n dX8_run_147 3 rfl ?_
  refine xr_iload dX8_run_148 4 rfl ?_
  refine xr_callV (As := [.int (0), .int (x), .int (nI (e))]) (rest := []) mlX8_39 (tu4_own_0 (e := e) (ac := ac) x (by omega) (by omega) (Eq.trans (k3 46 2 (by decide)) e_b) (by omega) hx1 hac (Eq.trans (k3 46 4 (by decide)) e_ac) (Eq.trans (k3 47 ac (by unfold WTN; omega)) e_k)) dX8_run_150 s_46 rfl rfl (Nat.le_of_ble_eq_true rfl) (by decide) ⟨by decide, by decide⟩ (fun v s2 M6 J2 hq => ?_)
  obtain ⟨r8, rfl, rfl, rfl, k7, ⟨hr5, hx4⟩⟩ := hq
  try dsimp only [Option.toList, List.cons_append, List.nil_append]
  subst hr5
  refine xr_iconst (v := 2) dX8_run_153 rfl ?_
  refine xr_imul dX8_run_154 ?_
  exact xr_iret dX8_run_155 rfl rfl (⟨_, rfl, rfl, rfl, (Ke.tr (fun _ _ h => h) (Ke.tr (fun _ _ h => h) Ke.rf k3) k7), rfl, hx4⟩)
set_option maxRecDepth 100000 in
set_option maxHeartbeats 4000000 in
theorem tu4_runFrom_4_1 {e ac : Nat} (x : Int32) (he : e + 3 ≤ 30) {l : Launch} {G : xG} {M : xM} {J : xJ} {b ra : Nat} (h_b : b ≤ 50) (e_b : M 46 2 = nI b) (h_ra : ra + 3 ≤ 900) (e_ra : M 46 3 = nI ra) (hac : ac < b) (e_ac : M 46 4 = nI ac) (e_k : M 47 ac = 4) : x_M l G fX8_runFrom 8 0 0 [.ref (46), .int (4), .int (1), .int (x), .int (nI (e))] x_SH M J (qKI WTN M J (fun r M2 => r = (((x + (nI (ac))) + 3) * 2) ∧ M2 46 3 = nI (ra + 3))) := by
  refine xb_of pX8 (Nat.le_of_ble_eq_true rfl) rfl ?_
  refine xr_iload_n dX8_runFrom_0 1 rfl ?_
  refine xr_istore (ls2 := [(5, .int (4)), (0, .ref (46)), (1, .int (4)), (2, .int (1)), (3, .int (x)), (4, .int (nI (e)))]) dX8_runFrom_1 (by decide) rfl ?_
  refine xr_iconst (v := 0) dX8_runFrom_3 rfl ?_
  refine xr_istore (ls2 := [(6, .int (0)), (5, .int (4)), (0, .ref (46)), (1, .int (4)), (2, .int (1)), (3, .int (x)), (4, .int (nI (e)))]) dX8_runFrom_4 (by decide) rfl ?_
  refine xr_iload dX8_runFrom_6 0 rfl ?_
  refine xr_bipush (v := 8) dX8_runFrom_8 rfl ?_
  refine xr_icmp_ge (tgt := 81) dX8_runFrom_10 rfl (fun c => absurd c (by decide)) (fun _ => ?_)
  refine xr_iload dX8_runFrom_13 1 rfl ?_
  refine xb_cN (As := [.int (4)]) (rest := []) mlX8_26 (c_X9_isKind 4) dX8_runFrom_15 rfl rfl (Nat.le_of_ble_eq_true rfl) (by decide) (by decide) ?_
  refine xb_beq (tgt := 81) dX8_runFrom_18 rfl (fun c => absurd (by decide) c) (fun _ => ?_)
  refine xr_getsO slX8_50 dX8_runFrom_21 ?_
  refine xr_iload dX8_runFrom_24 1 rfl ?_
  refine xr_iconst (v := 4) dX8_runFrom_26 rfl ?_
  refine xr_imul dX8_runFrom_27 ?_
  refine xb_top (y := 16) (by decide) ?_
  refine xr_iload_n dX8_runFrom_28 4 rfl ?_
  refine xr_iadd dX8_runFrom_29 ?_
  refine xb_top (y := 17) (by decide) ?_
  refine xr_tabO (by unfold vp_in; decide) dX8_runFrom_30 ?_
  refine xb_top (y := 0) (by decide) ?_
  refine xr_if_eq (tgt := 67) dX8_runFrom_31 rfl (fun _ => ?_) (fun c => absurd (by decide) c)
  refine xr_getsA slX8_30 dX8_runFrom_67 ?_
  refine xr_iload dX8_runFrom_70 1 rfl ?_
  refine xr_tabA (by unfold vp_in; decide) dX8_runFrom_72 ?_
  refine xb_top (y := 1) (by decide) ?_
  refine xr_istore (ls2 := [(5, .int (1)), (6, .int (0)), (0, .ref (46)), (1, .int (4)), (2, .int (1)), (3, .int (x)), (4, .int (nI (e)))]) dX8_runFrom_73 (by decide) rfl ?_
  refine xr_iinc (v := 1) (ls2 := [(6, .int (1)), (5, .int (1)), (0, .ref (46)), (1, .int (4)), (2, .int (1)), (3, .int (x)), (4, .int (nI (e)))]) dX8_runFrom_75 1 rfl rfl (by decide) rfl ?_
  refine xr_goto (tgt := 6) dX8_runFrom_78 rfl ?_
  refine xr_iload dX8_runFrom_6 0 rfl ?_
  refine xr_bipush (v := 8) dX8_runFrom_8 rfl ?_
  refine xr_icmp_ge (tgt := 81) dX8_runFrom_10 rfl (fun c => absurd c (by decide)) (fun _ => ?_)
  refine xr_iload dX8_runFrom_13 1 rfl ?_
  refine xb_cN (As := [.int (1)]) (rest := []) mlX8_26 (c_X9_isKind 1) dX8_runFrom_15 rfl rfl (Nat.le_of_ble_eq_true rfl) (by decide) (by decide) ?_
  refine xb_beq (tgt := 81) dX8_runFrom_18 rfl (fun c => absurd (by decide) c) (fun _ => ?_)
  refine xr_getsO slX8_50 dX8_runFrom_21 ?_
  refine xr_iload dX8_runFrom_24 1 rfl ?_
  refine xr_iconst (v := 4) dX8_runFrom_26 rfl ?_
  refine xr_imul dX8_runFrom_27 ?_
  refine xb_top (y := 4) (by decide) ?_
  refine xr_iload_n dX8_runFrom_28 4 rfl ?_
  refine xr_iadd dX8_runFrom_29 ?_
  refine xb_top (y := 5) (by decide) ?_
  refine xr_tabO (by unfold vp_in; decide) dX8_runFrom_30 ?_
  refine xb_top (y := 0) (by decide) ?_
  refine xr_if_eq (tgt := 67) dX8_runFrom_31 rfl (fun _ => ?_) (fun c => absurd (by decide) c)
  refine xr_getsA slX8_30 dX8_runFrom_67 ?_
  refine xr_iload dX8_runFrom_70 1 rfl ?_
  refine xr_tabA (by unfold vp_in; decide) dX8_runFrom_72 ?_
  refine xb_top (y := 0) (by decide) ?_
  refine xr_istore (ls2 := [(5, .int (0)), (6, .int (1)), (0, .ref (46)), (1, .int (4)), (2, .int (1)), (3, .int (x)), (4, .int (nI (e)))]) dX8_runFrom_73 (by decide) rfl ?_
  refine xr_iinc (v := 2) (ls2 := [(6, .int (2)), (5, .int (0)), (0, .ref (46)), (1, .int (4)), (2, .int (1)), (3, .int (x)), (4, .int (nI (e)))]) dX8_runFrom_75 1 rfl rfl (by decide) rfl ?_
  refine xr_goto (tgt := 6) dX8_runFrom_78 rfl ?_
  refine xr_iload dX8_runFrom_6 0 rfl ?_
  refine xr_bipush (v := 8) dX8_runFrom_8 rfl ?_
  refine xr_icmp_ge (tgt := 81) dX8_runFrom_10 rfl (fun c => absurd c (by decide)) (fun _ => ?_)
  refine xr_iload dX8_runFrom_13 1 rfl ?_
  refine xb_cN (As := [.int (0)]) (rest := []) mlX8_26 (c_X9_isKind 0) dX8_runFrom_15 rfl rfl (Nat.le_of_ble_eq_true rfl) (by decide) (by decide) ?_
  refine xb_beq (tgt := 81) dX8_runFrom_18 rfl (fun c => absurd (by decide) c) (fun _ => ?_)
  refine xr_getsO slX8_50 dX8_runFrom_21 ?_
  refine xr_iload dX8_runFrom_24 1 rfl ?_
  refine xr_iconst (v := 4) dX8_runFrom_26 rfl ?_
  refine xr_imul dX8_runFrom_27 ?_
  refine xb_top (y := 0) (by decide) ?_
  refine xr_iload_n dX8_runFrom_28 4 rfl ?_
  refine xr_iadd dX8_runFrom_29 ?_
  refine xb_top (y := 1) (by decide) ?_
  refine xr_tabO (by unfold vp_in; decide) dX8_runFrom_30 ?_
  refine xb_top (y := 10) (by decide) ?_
  refine xr_if_eq (tgt := 67) dX8_runFrom_31 rfl (fun c => absurd c (by decide)) (fun _ => ?_)
  refine xr_iload dX8_runFrom_34 6 rfl ?_
  refine xr_bipush (v := 30) dX8_runFrom_36 rfl ?_
  refine xr_icmp_ge (tgt := 65) dX8_runFrom_38 rfl (fun c => absurd c (nI_ge (a := e) (b := 30) (by omega) (by omega))) (fun _ => ?_)
  refine xr_aload_n dX8_runFrom_41 2 rfl ?_
  refine xr_getsO slX8_50 dX8_runFrom_42 ?_
  refine xr_iload dX8_runFrom_45 1 rfl ?_
  refine xr_iconst (v := 4) dX8_runFrom_47 rfl ?_
  refine xr_imul dX8_runFrom_48 ?_
  refine xb_top (y := 0) (by decide) ?_
  refine xr_iload_n dX8_runFrom_49 4 rfl ?_
  refine xr_iadd dX8_runFrom_50 ?_
  refine xb_top (y := 1) (by decide) ?_
  refine xr_tabO (by unfold vp_in; decide) dX8_runFrom_51 ?_
  refine xb_top (y := 10) (by decide) ?_
  refine xr_iload dX8_runFrom_52 1 rfl ?_
  refine xr_iload_n dX8_runFrom_54 5 rfl ?_
  refine xr_iload dX8_runFrom_55 6 rfl ?_
  refine xr_iconst (v := 1) dX8_runFrom_57 rfl ?_
  refine xr_iadd dX8_runFrom_58 ?_
  refine xb_top (y := nI (e + 1)) (nI_add (e) (1)) ?_
  refine xr_callV (As := [.int (10), .int (0), .int (x), .int (nI (e + 1))]) (rest := []) mlX8_53 (tu4_run_10_0 (e := e + 1) (ac := ac) x (by omega) (by omega) e_b (by omega) e_ra hac e_ac e_k) dX8_runFrom_59 s_46 rfl rfl (Nat.le_of_ble_eq_true rfl) (by decide) ⟨by decide, by decide⟩ (fun v s2 M6 J2 hq => ?_)
  obtain ⟨r8, rfl, rfl, rfl, k7, ⟨hr5, hx4⟩⟩ := hq
  try dsimp only [Option.toList, List.cons_append, List.nil_append]
  subst hr5
  refine xr_goto (tgt := 66) dX8_runFrom_62 rfl ?_
  exact xr_iret dX8_runFrom_66 rfl rfl (⟨_, rfl, rfl, rfl, (Ke.tr (fun _ _ h => h) Ke.rf k7), rfl, hx4⟩)
set_option maxRecDepth 100000 in
set_option maxHeartbeats 4000000 in
theorem tu4_own_1 {e ac : Nat} (x : Int32) (he : e + 3 ≤ 30) {l : Launch} {G : xG} {M : xM} {J : xJ} {b ra : Nat} (h_b : b ≤ 50) (e_b : M 46 2 = nI b) (h_ra : ra + 3 ≤ 900) (e_ra : M 46 3 = nI ra) (hac : ac < b) (e_ac : M 46 4 = nI ac) (e_k : M 47 ac = 4) : x_M l G fX8_own 9 0 0 [.ref (46), .int (1), .int (x), .int (nI (e))] x_SH M J (qKI WTN M J (fun r M2 => r = (((x + (nI (ac))) + 3) * 2) ∧ M2 46 3 = nI (ra + 3))) := by
  refine xb_of pX8 (Nat.le_of_ble_eq_true rfl) rfl ?_
  refine xr_aload_n dX8_own_0 0 rfl ?_
  refine xr_aload_n dX8_own_1 0 rfl ?_
  refine xb_get (v := nI (ac)) flX8_36 dX8_own_2 s_46 rfl e_ac ?_
  refine xb_cV (As := [.int (nI (ac))]) (rest := []) mlX8_43 (c_X8_has (nI (ac)) (by omega) e_b) dX8_own_5 s_46 rfl rfl (Nat.le_of_ble_eq_true rfl) (by decide) (by decide) ?_
  refine xb_beq (tgt := 30) dX8_own_8 rfl (fun c => absurd ⟨nI_pos' (by omega), nI_lt (by omega) (by omega)⟩ c) (fun _ => ?_)
  refine xr_aload_n dX8_own_11 0 rfl ?_
  refine xr_aload_n dX8_own_12 0 rfl ?_
  refine xr_getR flX8_9 dX8_own_13 s_46 rfl ?_
  refine xr_aload_n dX8_own_16 0 rfl ?_
  refine xb_get (v := nI (ac)) flX8_36 dX8_own_17 s_46 rfl e_ac ?_
  refine xb_iald (j := ac) (v := 4) dX8_own_20 s_47 (by omega) (by decide) e_k ?_
  refine xr_iload_n dX8_own_21 1 rfl ?_
  refine xr_iload_n dX8_own_22 2 rfl ?_
  refine xr_iload_n dX8_own_23 3 rfl ?_
  refine xr_callV (As := [.int (4), .int (1), .int (x), .int (nI (e))]) (rest := []) mlX8_46 (tu4_runFrom_4_1 (e := e) (ac := ac) x (by omega) (by omega) e_b (by omega) e_ra hac e_ac e_k) dX8_own_24 s_46 rfl rfl (Nat.le_of_ble_eq_true rfl) (by decide) ⟨by decide, by decide⟩ (fun v s2 M4 J2 hq => ?_)
  obtain ⟨r6, rfl, rfl, rfl, k5, ⟨hr3, hx2⟩⟩ := hq
  try dsimp only [Option.toList, List.cons_append, List.nil_append]
  subst hr3
  refine xr_goto (tgt := 31) dX8_own_27 rfl ?_
  exact xr_iret dX8_own_31 rfl rfl (⟨_, rfl, rfl, rfl, (Ke.tr (fun _ _ h => h) Ke.rf k5), rfl, hx2⟩)
set_option maxRecDepth 100000 in
set_option maxHeartbeats 4000000 in
theorem tu4_run_11_0 {e ac : Nat} (x : Int32) (he : e + 0 ≤ 30) {l : Launch} {G : xG} {M : xM} {J : xJ} {b ra : Nat} (h_b : b ≤ 50) (e_b : M 46 2 = nI b) (h_ra : ra + 1 ≤ 900) (e_ra : M 46 3 = nI ra) (hac : ac < b) (e_ac : M 46 4 = nI ac) (e_k : M 47 ac = 4) : x_M l G fX8_run 1 0 0 [.ref (46), .int (11), .int (0), .int (x), .int (nI (e))] x_SH M J (qKI WTN M J (fun r M2 => r = (x ^^^ (nI (ac))) ∧ M2 46 3 = nI (ra + 1))) := by
  refine xb_of pX8 (Nat.le_of_ble_eq_true rfl) rfl ?_
  refine xr_aload_n dX8_run_0 0 rfl ?_
  refine xr_iload_n dX8_run_1 1 rfl ?_
  refine xr_callV (As := [.int (11)]) (rest := []) mlX8_56 (g_X8_note 11 (by omega) e_ra) dX8_run_2 s_46 rfl rfl (Nat.le_of_ble_eq_true rfl) (by decide) ⟨by decide, by decide⟩ (fun v s2 M2 J2 hq => ?_)
  obtain ⟨rfl, rfl, rfl, k3, hx1⟩ := hq
  try dsimp only [Option.toList, List.cons_append, List.nil_append]
  refine xr_iload_n dX8_run_5 1 rfl ?_
  refine xr_lookup (tgt := 156) (off := 150) dX8_run_6 (by decide) (by decide) rfl ?_
  refine xr_iload_n dX8_run_156 3 rfl ?_
  refine xr_aload_n dX8_run_157 0 rfl ?_
  refine xb_get (v := nI (ac)) flX8_36 dX8_run_158 s_46 rfl (Eq.trans (k3 46 4 (by decide)) e_ac) ?_
  refine xr_ixor dX8_run_161 ?_
  exact xr_iret dX8_run_162 rfl rfl (⟨_, rfl, rfl, rfl, (Ke.tr (fun _ _ h => h) Ke.rf k3), rfl, hx1⟩)
set_option maxRecDepth 100000 in
set_option maxHeartbeats 4000000 in
theorem tu4_runFrom_1_2 {e ac : Nat} (x : Int32) (he : e + 1 ≤ 30) {l : Launch} {G : xG} {M : xM} {J : xJ} {b ra : Nat} (h_b : b ≤ 50) (e_b : M 46 2 = nI b) (h_ra : ra + 1 ≤ 900) (e_ra : M 46 3 = nI ra) (hac : ac < b) (e_ac : M 46 4 = nI ac) (e_k : M 47 ac = 4) : x_M l G fX8_runFrom 2 0 0 [.ref (46), .int (1), .int (2), .int (x), .int (nI (e))] x_SH M J (qKI WTN M J (fun r M2 => r = (x ^^^ (nI (ac))) ∧ M2 46 3 = nI (ra + 1))) := by
  refine xb_of pX8 (Nat.le_of_ble_eq_true rfl) rfl ?_
  refine xr_iload_n dX8_runFrom_0 1 rfl ?_
  refine xr_istore (ls2 := [(5, .int (1)), (0, .ref (46)), (1, .int (1)), (2, .int (2)), (3, .int (x)), (4, .int (nI (e)))]) dX8_runFrom_1 (by decide) rfl ?_
  refine xr_iconst (v := 0) dX8_runFrom_3 rfl ?_
  refine xr_istore (ls2 := [(6, .int (0)), (5, .int (1)), (0, .ref (46)), (1, .int (1)), (2, .int (2)), (3, .int (x)), (4, .int (nI (e)))]) dX8_runFrom_4 (by decide) rfl ?_
  refine xr_iload dX8_runFrom_6 0 rfl ?_
  refine xr_bipush (v := 8) dX8_runFrom_8 rfl ?_
  refine xr_icmp_ge (tgt := 81) dX8_runFrom_10 rfl (fun c => absurd c (by decide)) (fun _ => ?_)
  refine xr_iload dX8_runFrom_13 1 rfl ?_
  refine xb_cN (As := [.int (1)]) (rest := []) mlX8_26 (c_X9_isKind 1) dX8_runFrom_15 rfl rfl (Nat.le_of_ble_eq_true rfl) (by decide) (by decide) ?_
  refine xb_beq (tgt := 81) dX8_runFrom_18 rfl (fun c => absurd (by decide) c) (fun _ => ?_)
  refine xr_getsO slX8_50 dX8_runFrom_21 ?_
  refine xr_iload dX8_runFrom_24 1 rfl ?_
  refine xr_iconst (v := 4) dX8_runFrom_26 rfl ?_
  refine xr_imul dX8_runFrom_27 ?_
  refine xb_top (y := 4) (by decide) ?_
  refine xr_iload_n dX8_runFrom_28 4 rfl ?_
  refine xr_iadd dX8_runFrom_29 ?_
  refine xb_top (y := 6) (by decide) ?_
  refine xr_tabO (by unfold vp_in; decide) dX8_runFrom_30 ?_
  refine xb_top (y := 0) (by decide) ?_
  refine xr_if_eq (tgt := 67) dX8_runFrom_31 rfl (fun _ => ?_) (fun c => absurd (by decide) c)
  refine xr_getsA slX8_30 dX8_runFrom_67 ?_
  refine xr_iload dX8_runFrom_70 1 rfl ?_
  refine xr_tabA (by unfold vp_in; decide) dX8_runFrom_72 ?_
  refine xb_top (y := 0) (by decide) ?_
  refine xr_istore (ls2 := [(5, .int (0)), (6, .int (0)), (0, .ref (46)), (1, .int (1)), (2, .int (2)), (3, .int (x)), (4, .int (nI (e)))]) dX8_runFrom_73 (by decide) rfl ?_
  refine xr_iinc (v := 1) (ls2 := [(6, .int (1)), (5, .int (0)), (0, .ref (46)), (1, .int (1)), (2, .int (2)), (3, .int (x)), (4, .int (nI (e)))]) dX8_runFrom_75 1 rfl rfl (by decide) rfl ?_
  refine xr_goto (tgt := 6) dX8_runFrom_78 rfl ?_
  refine xr_iload dX8_runFrom_6 0 rfl ?_
  refine xr_bipush (v := 8) dX8_runFrom_8 rfl ?_
  refine xr_icmp_ge (tgt := 81) dX8_runFrom_10 rfl (fun c => absurd c (by decide)) (fun _ => ?_)
  refine xr_iload dX8_runFrom_13 1 rfl ?_
  refine xb_cN (As := [.int (0)]) (rest := []) mlX8_26 (c_X9_isKind 0) dX8_runFrom_15 rfl rfl (Nat.le_of_ble_eq_true rfl) (by decide) (by decide) ?_
  refine xb_beq (tgt := 81) dX8_runFrom_18 rfl (fun c => absurd (by decide) c) (fun _ => ?_)
  refine xr_getsO slX8_50 dX8_runFrom_21 ?_
  refine xr_iload dX8_runFrom_24 1 rfl ?_
  refine xr_iconst (v := 4) dX8_runFrom_26 rfl ?_
  refine xr_imul dX8_runFrom_27 ?_
  refine xb_top (y := 0) (by decide) ?_
  refine xr_iload_n dX8_runFrom_28 4 rfl ?_
  refine xr_iadd dX8_runFrom_29 ?_
  refine xb_top (y := 2) (by decide) ?_
  refine xr_tabO (by unfold vp_in; decide) dX8_runFrom_30 ?_
  refine xb_top (y := 11) (by decide) ?_
  refine xr_if_eq (tgt := 67) dX8_runFrom_31 rfl (fun c => absurd c (by decide)) (fun _ => ?_)
  refine xr_iload dX8_runFrom_34 6 rfl ?_
  refine xr_bipush (v := 30) dX8_runFrom_36 rfl ?_
  refine xr_icmp_ge (tgt := 65) dX8_runFrom_38 rfl (fun c => absurd c (nI_ge (a := e) (b := 30) (by omega) (by omega))) (fun _ => ?_)
  refine xr_aload_n dX8_runFrom_41 2 rfl ?_
  refine xr_getsO slX8_50 dX8_runFrom_42 ?_
  refine xr_iload dX8_runFrom_45 1 rfl ?_
  refine xr_iconst (v := 4) dX8_runFrom_47 rfl ?_
  refine xr_imul dX8_runFrom_48 ?_
  refine xb_top (y := 0) (by decide) ?_
  refine xr_iload_n dX8_runFrom_49 4 rfl ?_
  refine xr_iadd dX8_runFrom_50 ?_
  refine xb_top (y := 2) (by decide) ?_
  refine xr_tabO (by unfold vp_in; decide) dX8_runFrom_51 ?_
  refine xb_top (y := 11) (by decide) ?_
  refine xr_iload dX8_runFrom_52 1 rfl ?_
  refine xr_iload_n dX8_runFrom_54 5 rfl ?_
  refine xr_iload dX8_runFrom_55 6 rfl ?_
  refine xr_iconst (v := 1) dX8_runFrom_57 rfl ?_
  refine xr_iadd dX8_runFrom_58 ?_
  refine xb_top (y := nI (e + 1)) (nI_add (e) (1)) ?_
  refine xr_callV (As := [.int (11), .int (0), .int (x), .int (nI (e + 1))]) (rest := []) mlX8_53 (tu4_run_11_0 (e := e + 1) (ac := ac) x (by omega) (by omega) e_b (by omega) e_ra hac e_ac e_k) dX8_runFrom_59 s_46 rfl rfl (Nat.le_of_ble_eq_true rfl) (by decide) ⟨by decide, by decide⟩ (fun v s2 M5 J2 hq => ?_)
  obtain ⟨r7, rfl, rfl, rfl, k6, ⟨hr4, hx3⟩⟩ := hq
  try dsimp only [Option.toList, List.cons_append, List.nil_append]
  subst hr4
  refine xr_goto (tgt := 66) dX8_runFrom_62 rfl ?_
  exact xr_iret dX8_runFrom_66 rfl rfl (⟨_, rfl, rfl, rfl, (Ke.tr (fun _ _ h => h) Ke.rf k6), rfl, hx3⟩)
set_option maxRecDepth 100000 in
set_option maxHeartbeats 4000000 in
theorem tu4_above_4_2 {e ac : Nat} (x : Int32) (he : e + 1 ≤ 30) {l : Launch} {G : xG} {M : xM} {J : xJ} {b ra : Nat} (h_b : b ≤ 50) (e_b : M 46 2 = nI b) (h_ra : ra + 1 ≤ 900) (e_ra : M 46 3 = nI ra) (hac : ac < b) (e_ac : M 46 4 = nI ac) (e_k : M 47 ac = 4) : x_M l G fX8_above 3 0 0 [.ref (46), .int (4), .int (2), .int (x), .int (nI (e))] x_SH M J (qKI WTN M J (fun r M2 => r = (x ^^^ (nI (ac))) ∧ M2 46 3 = nI (ra + 1))) := by
  refine xb_of pX8 (Nat.le_of_ble_eq_true rfl) rfl ?_
  refine xr_iload_n dX8_above_0 1 rfl ?_
  refine xb_cN (As := [.int (4)]) (rest := []) mlX8_26 (c_X9_isKind 4) dX8_above_1 rfl rfl (Nat.le_of_ble_eq_true rfl) (by decide) (by decide) ?_
  refine xb_beq (tgt := 23) dX8_above_4 rfl (fun c => absurd (by decide) c) (fun _ => ?_)
  refine xr_aload_n dX8_above_7 0 rfl ?_
  refine xr_getsA slX8_30 dX8_above_8 ?_
  refine xr_iload_n dX8_above_11 1 rfl ?_
  refine xr_tabA (by unfold vp_in; decide) dX8_above_12 ?_
  refine xb_top (y := 1) (by decide) ?_
  refine xr_iload_n dX8_above_13 2 rfl ?_
  refine xr_iload_n dX8_above_14 3 rfl ?_
  refine xr_iload dX8_above_15 4 rfl ?_
  refine xr_callV (As := [.int (1), .int (2), .int (x), .int (nI (e))]) (rest := []) mlX8_46 (tu4_runFrom_1_2 (e := e) (ac := ac) x (by omega) (by omega) e_b (by omega) e_ra hac e_ac e_k) dX8_above_17 s_46 rfl rfl (Nat.le_of_ble_eq_true rfl) (by decide) ⟨by decide, by decide⟩ (fun v s2 M4 J2 hq => ?_)
  obtain ⟨r6, rfl, rfl, rfl, k5, ⟨hr3, hx2⟩⟩ := hq
  try dsimp only [Option.toList, List.cons_append, List.nil_append]
  subst hr3
  refine xr_goto (tgt := 24) dX8_above_20 rfl ?_
  exact xr_iret dX8_above_24 rfl rfl (⟨_, rfl, rfl, rfl, (Ke.tr (fun _ _ h => h) Ke.rf k5), rfl, hx2⟩)
set_option maxRecDepth 100000 in
set_option maxHeartbeats 4000000 in
theorem tu4_run_50_4 {e ac : Nat} (x : Int32) (he : e + 2 ≤ 30) {l : Launch} {G : xG} {M : xM} {J : xJ} {b ra : Nat} (h_b : b ≤ 50) (e_b : M 46 2 = nI b) (h_ra : ra + 4 ≤ 900) (e_ra : M 46 3 = nI ra) (hac : ac < b) (e_ac : M 46 4 = nI ac) (e_k : M 47 ac = 4) : x_M l G fX8_run 7 0 0 [.ref (46), .int (50), .int (4), .int (x), .int (nI (e))] x_SH M J (qKI WTN M J (fun r M2 => r = ((x ^^^ (nI (ac))) - ((2 + (nI (ac))) + 3)) ∧ M2 46 3 = nI (ra + 4))) := by
  refine xb_of pX8 (Nat.le_of_ble_eq_true rfl) rfl ?_
  refine xr_aload_n dX8_run_0 0 rfl ?_
  refine xr_iload_n dX8_run_1 1 rfl ?_
  refine xr_callV (As := [.int (50)]) (rest := []) mlX8_56 (g_X8_note 50 (by omega) e_ra) dX8_run_2 s_46 rfl rfl (Nat.le_of_ble_eq_true rfl) (by decide) ⟨by decide, by decide⟩ (fun v s2 M2 J2 hq => ?_)
  obtain ⟨rfl, rfl, rfl, k3, hx1⟩ := hq
  try dsimp only [Option.toList, List.cons_append, List.nil_append]
  refine xr_iload_n dX8_run_5 1 rfl ?_
  refine xr_lookup (tgt := 210) (off := 204) dX8_run_6 (by decide) (by decide) rfl ?_
  refine xr_aload_n dX8_run_210 0 rfl ?_
  refine xr_iload_n dX8_run_211 2 rfl ?_
  refine xr_iconst (v := 2) dX8_run_212 rfl ?_
  refine xr_iload_n dX8_run_213 3 rfl ?_
  refine xr_iload dX8_run_214 4 rfl ?_
  refine xr_callV (As := [.int (4), .int (2), .int (x), .int (nI (e))]) (rest := []) mlX8_60 (tu4_above_4_2 (e := e) (ac := ac) x (by omega) (by omega) (Eq.trans (k3 46 2 (by decide)) e_b) (by omega) hx1 hac (Eq.trans (k3 46 4 (by decide)) e_ac) (Eq.trans (k3 47 ac (by unfold WTN; omega)) e_k)) dX8_run_216 s_46 rfl rfl (Nat.le_of_ble_eq_true rfl) (by decide) ⟨by decide, by decide⟩ (fun v s2 M6 J2 hq => ?_)
  obtain ⟨r8, rfl, rfl, rfl, k7, ⟨hr5, hx4⟩⟩ := hq
  try dsimp only [Option.toList, List.cons_append, List.nil_append]
  subst hr5
  refine xr_aload_n dX8_run_219 0 rfl ?_
  refine xr_iconst (v := 0) dX8_run_220 rfl ?_
  refine xr_iconst (v := 2) dX8_run_221 rfl ?_
  refine xr_iload dX8_run_222 4 rfl ?_
  refine xr_callV (As := [.int (0), .int (2), .int (nI (e))]) (rest := [.int ((x ^^^ (nI (ac))))]) mlX8_39 (tu4_own_0 (e := e) (ac := ac) 2 (by omega) (by omega) (Eq.trans (k7 46 2 (by decide)) (Eq.trans (k3 46 2 (by decide)) e_b)) (by omega) hx4 hac (Eq.trans (k7 46 4 (by decide)) (Eq.trans (k3 46 4 (by decide)) e_ac)) (Eq.trans (k7 47 ac (by unfold WTN; omega)) (Eq.trans (k3 47 ac (by unfold WTN; omega)) e_k))) dX8_run_224 s_46 rfl rfl (Nat.le_of_ble_eq_true rfl) (by decide) ⟨by decide, by decide⟩ (fun v s2 M11 J2 hq => ?_)
  obtain ⟨r13, rfl, rfl, rfl, k12, ⟨hr10, hx9⟩⟩ := hq
  try dsimp only [Option.toList, List.cons_append, List.nil_append]
  subst hr10
  refine xr_isub dX8_run_227 ?_
  exact xr_iret dX8_run_228 rfl rfl (⟨_, rfl, rfl, rfl, (Ke.tr (fun _ _ h => h) (Ke.tr (fun _ _ h => h) (Ke.tr (fun _ _ h => h) Ke.rf k3) k7) k12), rfl, hx9⟩)
set_option maxRecDepth 100000 in
set_option maxHeartbeats 4000000 in
theorem tu4_runFrom_4_2 {e ac : Nat} (x : Int32) (he : e + 3 ≤ 30) {l : Launch} {G : xG} {M : xM} {J : xJ} {b ra : Nat} (h_b : b ≤ 50) (e_b : M 46 2 = nI b) (h_ra : ra + 4 ≤ 900) (e_ra : M 46 3 = nI ra) (hac : ac < b) (e_ac : M 46 4 = nI ac) (e_k : M 47 ac = 4) : x_M l G fX8_runFrom 8 0 0 [.ref (46), .int (4), .int (2), .int (x), .int (nI (e))] x_SH M J (qKI WTN M J (fun r M2 => r = ((x ^^^ (nI (ac))) - ((2 + (nI (ac))) + 3)) ∧ M2 46 3 = nI (ra + 4))) := by
  refine xb_of pX8 (Nat.le_of_ble_eq_true rfl) rfl ?_
  refine xr_iload_n dX8_runFrom_0 1 rfl ?_
  refine xr_istore (ls2 := [(5, .int (4)), (0, .ref (46)), (1, .int (4)), (2, .int (2)), (3, .int (x)), (4, .int (nI (e)))]) dX8_runFrom_1 (by decide) rfl ?_
  refine xr_iconst (v := 0) dX8_runFrom_3 rfl ?_
  refine xr_istore (ls2 := [(6, .int (0)), (5, .int (4)), (0, .ref (46)), (1, .int (4)), (2, .int (2)), (3, .int (x)), (4, .int (nI (e)))]) dX8_runFrom_4 (by decide) rfl ?_
  refine xr_iload dX8_runFrom_6 0 rfl ?_
  refine xr_bipush (v := 8) dX8_runFrom_8 rfl ?_
  refine xr_icmp_ge (tgt := 81) dX8_runFrom_10 rfl (fun c => absurd c (by decide)) (fun _ => ?_)
  refine xr_iload dX8_runFrom_13 1 rfl ?_
  refine xb_cN (As := [.int (4)]) (rest := []) mlX8_26 (c_X9_isKind 4) dX8_runFrom_15 rfl rfl (Nat.le_of_ble_eq_true rfl) (by decide) (by decide) ?_
  refine xb_beq (tgt := 81) dX8_runFrom_18 rfl (fun c => absurd (by decide) c) (fun _ => ?_)
  refine xr_getsO slX8_50 dX8_runFrom_21 ?_
  refine xr_iload dX8_runFrom_24 1 rfl ?_
  refine xr_iconst (v := 4) dX8_runFrom_26 rfl ?_
  refine xr_imul dX8_runFrom_27 ?_
  refine xb_top (y := 16) (by decide) ?_
  refine xr_iload_n dX8_runFrom_28 4 rfl ?_
  refine xr_iadd dX8_runFrom_29 ?_
  refine xb_top (y := 18) (by decide) ?_
  refine xr_tabO (by unfold vp_in; decide) dX8_runFrom_30 ?_
  refine xb_top (y := 50) (by decide) ?_
  refine xr_if_eq (tgt := 67) dX8_runFrom_31 rfl (fun c => absurd c (by decide)) (fun _ => ?_)
  refine xr_iload dX8_runFrom_34 6 rfl ?_
  refine xr_bipush (v := 30) dX8_runFrom_36 rfl ?_
  refine xr_icmp_ge (tgt := 65) dX8_runFrom_38 rfl (fun c => absurd c (nI_ge (a := e) (b := 30) (by omega) (by omega))) (fun _ => ?_)
  refine xr_aload_n dX8_runFrom_41 2 rfl ?_
  refine xr_getsO slX8_50 dX8_runFrom_42 ?_
  refine xr_iload dX8_runFrom_45 1 rfl ?_
  refine xr_iconst (v := 4) dX8_runFrom_47 rfl ?_
  refine xr_imul dX8_runFrom_48 ?_
  refine xb_top (y := 16) (by decide) ?_
  refine xr_iload_n dX8_runFrom_49 4 rfl ?_
  refine xr_iadd dX8_runFrom_50 ?_
  refine xb_top (y := 18) (by decide) ?_
  refine xr_tabO (by unfold vp_in; decide) dX8_runFrom_51 ?_
  refine xb_top (y := 50) (by decide) ?_
  refine xr_iload dX8_runFrom_52 1 rfl ?_
  refine xr_iload_n dX8_runFrom_54 5 rfl ?_
  refine xr_iload dX8_runFrom_55 6 rfl ?_
  refine xr_iconst (v := 1) dX8_runFrom_57 rfl ?_
  refine xr_iadd dX8_runFrom_58 ?_
  refine xb_top (y := nI (e + 1)) (nI_add (e) (1)) ?_
  refine xr_callV (As := [.int (50), .int (4), .int (x), .int (nI (e + 1))]) (rest := []) mlX8_53 (tu4_run_50_4 (e := e + 1) (ac := ac) x (by omega) (by omega) e_b (by omega) e_ra hac e_ac e_k) dX8_runFrom_59 s_46 rfl rfl (Nat.le_of_ble_eq_true rfl) (by decide) ⟨by decide, by decide⟩ (fun v s2 M4 J2 hq => ?_)
  obtain ⟨r6, rfl, rfl, rfl, k5, ⟨hr3, hx2⟩⟩ := hq
  try dsimp only [Option.toList, List.cons_append, List.nil_append]
  subst hr3
  refine xr_goto (tgt := 66) dX8_runFrom_62 rfl ?_
  exact xr_iret dX8_runFrom_66 rfl rfl (⟨_, rfl, rfl, rfl, (Ke.tr (fun _ _ h => h) Ke.rf k5), rfl, hx2⟩)
set_option maxRecDepth 100000 in
set_option maxHeartbeats 4000000 in
theorem tu4_own_2 {e ac : Nat} (x : Int32) (he : e + 3 ≤ 30) {l : Launch} {G : xG} {M : xM} {J : xJ} {b ra : Nat} (h_b : b ≤ 50) (e_b : M 46 2 = nI b) (h_ra : ra + 4 ≤ 900) (e_ra : M 46 3 = nI ra) (hac : ac < b) (e_ac : M 46 4 = nI ac) (e_k : M 47 ac = 4) : x_M l G fX8_own 9 0 0 [.ref (46), .int (2), .int (x), .int (nI (e))] x_SH M J (qKI WTN M J (fun r M2 => r = ((x ^^^ (nI (ac))) - ((2 + (nI (ac))) + 3)) ∧ M2 46 3 = nI (ra + 4))) := by
  refine xb_of pX8 (Nat.le_of_ble_eq_true rfl) rfl ?_
  refine xr_aload_n dX8_own_0 0 rfl ?_
  refine xr_aload_n dX8_own_1 0 rfl ?_
  refine xb_get (v := nI (ac)) flX8_36 dX8_own_2 s_46 rfl e_ac ?_
  refine xb_cV (As := [.int (nI (ac))]) (rest := []) mlX8_43 (c_X8_has (nI (ac)) (by omega) e_b) dX8_own_5 s_46 rfl rfl (Nat.le_of_ble_eq_true rfl) (by decide) (by decide) ?_
  refine xb_beq (tgt := 30) dX8_own_8 rfl (fun c => absurd ⟨nI_pos' (by omega), nI_lt (by omega) (by omega)⟩ c) (fun _ => ?_)
  refine xr_aload_n dX8_own_11 0 rfl ?_
  refine xr_aload_n dX8_own_12 0 rfl ?_
  refine xr_getR flX8_9 dX8_own_13 s_46 rfl ?_
  refine xr_aload_n dX8_own_16 0 rfl ?_
  refine xb_get (v := nI (ac)) flX8_36 dX8_own_17 s_46 rfl e_ac ?_
  refine xb_iald (j := ac) (v := 4) dX8_own_20 s_47 (by omega) (by decide) e_k ?_
  refine xr_iload_n dX8_own_21 1 rfl ?_
  refine xr_iload_n dX8_own_22 2 rfl ?_
  refine xr_iload_n dX8_own_23 3 rfl ?_
  refine xr_callV (As := [.int (4), .int (2), .int (x), .int (nI (e))]) (rest := []) mlX8_46 (tu4_runFrom_4_2 (e := e) (ac := ac) x (by omega) (by omega) e_b (by omega) e_ra hac e_ac e_k) dX8_own_24 s_46 rfl rfl (Nat.le_of_ble_eq_true rfl) (by decide) ⟨by decide, by decide⟩ (fun v s2 M4 J2 hq => ?_)
  obtain ⟨r6, rfl, rfl, rfl, k5, ⟨hr3, hx2⟩⟩ := hq
  try dsimp only [Option.toList, List.cons_append, List.nil_append]
  subst hr3
  refine xr_goto (tgt := 31) dX8_own_27 rfl ?_
  exact xr_iret dX8_own_31 rfl rfl (⟨_, rfl, rfl, rfl, (Ke.tr (fun _ _ h => h) Ke.rf k5), rfl, hx2⟩)
set_option maxRecDepth 100000 in
set_option maxHeartbeats 4000000 in
theorem tu4_run_2_0 {e ac : Nat} (x : Int32) (he : e + 3 ≤ 30) {l : Launch} {G : xG} {M : xM} {J : xJ} {b ra : Nat} (h_b : b ≤ 50) (e_b : M 46 2 = nI b) (h_ra : ra + 8 ≤ 900) (e_ra : M 46 3 = nI ra) (hac : ac < b) (e_ac : M 46 4 = nI ac) (e_k : M 47 ac = 4) : x_M l G fX8_run 10 0 0 [.ref (46), .int (2), .int (0), .int (x), .int (nI (e))] x_SH M J (qKI WTN M J (fun r M2 => r = ((((x + (nI (ac))) + 3) * 2) - ((1 ^^^ (nI (ac))) - ((2 + (nI (ac))) + 3))) ∧ M2 46 3 = nI (ra + 8))) := by
  refine xb_of pX8 (Nat.le_of_ble_eq_true rfl) rfl ?_
  refine xr_aload_n dX8_run_0 0 rfl ?_
  refine xr_iload_n dX8_run_1 1 rfl ?_
  refine xr_callV (As := [.int (2)]) (rest := []) mlX8_56 (g_X8_note 2 (by omega) e_ra) dX8_run_2 s_46 rfl rfl (Nat.le_of_ble_eq_true rfl) (by decide) ⟨by decide, by decide⟩ (fun v s2 M2 J2 hq => ?_)
  obtain ⟨rfl, rfl, rfl, k3, hx1⟩ := hq
  try dsimp only [Option.toList, List.cons_append, List.nil_append]
  refine xr_iload_n dX8_run_5 1 rfl ?_
  refine xr_lookup (tgt := 127) (off := 121) dX8_run_6 (by decide) (by decide) rfl ?_
  refine xr_aload_n dX8_run_127 0 rfl ?_
  refine xr_iconst (v := 1) dX8_run_128 rfl ?_
  refine xr_iload_n dX8_run_129 3 rfl ?_
  refine xr_iload dX8_run_130 4 rfl ?_
  refine xr_callV (As := [.int (1), .int (x), .int (nI (e))]) (rest := []) mlX8_39 (tu4_own_1 (e := e) (ac := ac) x (by omega) (by omega) (Eq.trans (k3 46 2 (by decide)) e_b) (by omega) hx1 hac (Eq.trans (k3 46 4 (by decide)) e_ac) (Eq.trans (k3 47 ac (by unfold WTN; omega)) e_k)) dX8_run_132 s_46 rfl rfl (Nat.le_of_ble_eq_true rfl) (by decide) ⟨by decide, by decide⟩ (fun v s2 M6 J2 hq => ?_)
  obtain ⟨r8, rfl, rfl, rfl, k7, ⟨hr5, hx4⟩⟩ := hq
  try dsimp only [Option.toList, List.cons_append, List.nil_append]
  subst hr5
  refine xr_aload_n dX8_run_135 0 rfl ?_
  refine xr_iconst (v := 2) dX8_run_136 rfl ?_
  refine xr_iconst (v := 1) dX8_run_137 rfl ?_
  refine xr_iload dX8_run_138 4 rfl ?_
  refine xr_callV (As := [.int (2), .int (1), .int (nI (e))]) (rest := [.int ((((x + (nI (ac))) + 3) * 2))]) mlX8_39 (tu4_own_2 (e := e) (ac := ac) 1 (by omega) (by omega) (Eq.trans (k7 46 2 (by decide)) (Eq.trans (k3 46 2 (by decide)) e_b)) (by omega) hx4 hac (Eq.trans (k7 46 4 (by decide)) (Eq.trans (k3 46 4 (by decide)) e_ac)) (Eq.trans (k7 47 ac (by unfold WTN; omega)) (Eq.trans (k3 47 ac (by unfold WTN; omega)) e_k))) dX8_run_140 s_46 rfl rfl (Nat.le_of_ble_eq_true rfl) (by decide) ⟨by decide, by decide⟩ (fun v s2 M11 J2 hq => ?_)
  obtain ⟨r13, rfl, rfl, rfl, k12, ⟨hr10, hx9⟩⟩ := hq
  try dsimp only [Option.toList, List.cons_append, List.nil_append]
  subst hr10
  refine xr_isub dX8_run_143 ?_
  exact xr_iret dX8_run_144 rfl rfl (⟨_, rfl, rfl, rfl, (Ke.tr (fun _ _ h => h) (Ke.tr (fun _ _ h => h) (Ke.tr (fun _ _ h => h) Ke.rf k3) k7) k12), rfl, hx9⟩)
set_option maxRecDepth 100000 in
set_option maxHeartbeats 4000000 in
theorem tu4_runFrom_4_3 {e ac : Nat} (x : Int32) (he : e + 4 ≤ 30) {l : Launch} {G : xG} {M : xM} {J : xJ} {b ra : Nat} (h_b : b ≤ 50) (e_b : M 46 2 = nI b) (h_ra : ra + 8 ≤ 900) (e_ra : M 46 3 = nI ra) (hac : ac < b) (e_ac : M 46 4 = nI ac) (e_k : M 47 ac = 4) : x_M l G fX8_runFrom 11 0 0 [.ref (46), .int (4), .int (3), .int (x), .int (nI (e))] x_SH M J (qKI WTN M J (fun r M2 => r = ((((x + (nI (ac))) + 3) * 2) - ((1 ^^^ (nI (ac))) - ((2 + (nI (ac))) + 3))) ∧ M2 46 3 = nI (ra + 8))) := by
  refine xb_of pX8 (Nat.le_of_ble_eq_true rfl) rfl ?_
  refine xr_iload_n dX8_runFrom_0 1 rfl ?_
  refine xr_istore (ls2 := [(5, .int (4)), (0, .ref (46)), (1, .int (4)), (2, .int (3)), (3, .int (x)), (4, .int (nI (e)))]) dX8_runFrom_1 (by decide) rfl ?_
  refine xr_iconst (v := 0) dX8_runFrom_3 rfl ?_
  refine xr_istore (ls2 := [(6, .int (0)), (5, .int (4)), (0, .ref (46)), (1, .int (4)), (2, .int (3)), (3, .int (x)), (4, .int (nI (e)))]) dX8_runFrom_4 (by decide) rfl ?_
  refine xr_iload dX8_runFrom_6 0 rfl ?_
  refine xr_bipush (v := 8) dX8_runFrom_8 rfl ?_
  refine xr_icmp_ge (tgt := 81) dX8_runFrom_10 rfl (fun c => absurd c (by decide)) (fun _ => ?_)
  refine xr_iload dX8_runFrom_13 1 rfl ?_
  refine xb_cN (As := [.int (4)]) (rest := []) mlX8_26 (c_X9_isKind 4) dX8_runFrom_15 rfl rfl (Nat.le_of_ble_eq_true rfl) (by decide) (by decide) ?_
  refine xb_beq (tgt := 81) dX8_runFrom_18 rfl (fun c => absurd (by decide) c) (fun _ => ?_)
  refine xr_getsO slX8_50 dX8_runFrom_21 ?_
  refine xr_iload dX8_runFrom_24 1 rfl ?_
  refine xr_iconst (v := 4) dX8_runFrom_26 rfl ?_
  refine xr_imul dX8_runFrom_27 ?_
  refine xb_top (y := 16) (by decide) ?_
  refine xr_iload_n dX8_runFrom_28 4 rfl ?_
  refine xr_iadd dX8_runFrom_29 ?_
  refine xb_top (y := 19) (by decide) ?_
  refine xr_tabO (by unfold vp_in; decide) dX8_runFrom_30 ?_
  refine xb_top (y := 0) (by decide) ?_
  refine xr_if_eq (tgt := 67) dX8_runFrom_31 rfl (fun _ => ?_) (fun c => absurd (by decide) c)
  refine xr_getsA slX8_30 dX8_runFrom_67 ?_
  refine xr_iload dX8_runFrom_70 1 rfl ?_
  refine xr_tabA (by unfold vp_in; decide) dX8_runFrom_72 ?_
  refine xb_top (y := 1) (by decide) ?_
  refine xr_istore (ls2 := [(5, .int (1)), (6, .int (0)), (0, .ref (46)), (1, .int (4)), (2, .int (3)), (3, .int (x)), (4, .int (nI (e)))]) dX8_runFrom_73 (by decide) rfl ?_
  refine xr_iinc (v := 1) (ls2 := [(6, .int (1)), (5, .int (1)), (0, .ref (46)), (1, .int (4)), (2, .int (3)), (3, .int (x)), (4, .int (nI (e)))]) dX8_runFrom_75 1 rfl rfl (by decide) rfl ?_
  refine xr_goto (tgt := 6) dX8_runFrom_78 rfl ?_
  refine xr_iload dX8_runFrom_6 0 rfl ?_
  refine xr_bipush (v := 8) dX8_runFrom_8 rfl ?_
  refine xr_icmp_ge (tgt := 81) dX8_runFrom_10 rfl (fun c => absurd c (by decide)) (fun _ => ?_)
  refine xr_iload dX8_runFrom_13 1 rfl ?_
  refine xb_cN (As := [.int (1)]) (rest := []) mlX8_26 (c_X9_isKind 1) dX8_runFrom_15 rfl rfl (Nat.le_of_ble_eq_true rfl) (by decide) (by decide) ?_
  refine xb_beq (tgt := 81) dX8_runFrom_18 rfl (fun c => absurd (by decide) c) (fun _ => ?_)
  refine xr_getsO slX8_50 dX8_runFrom_21 ?_
  refine xr_iload dX8_runFrom_24 1 rfl ?_
  refine xr_iconst (v := 4) dX8_runFrom_26 rfl ?_
  refine xr_imul dX8_runFrom_27 ?_
  refine xb_top (y := 4) (by decide) ?_
  refine xr_iload_n dX8_runFrom_28 4 rfl ?_
  refine xr_iadd dX8_runFrom_29 ?_
  refine xb_top (y := 7) (by decide) ?_
  refine xr_tabO (by unfold vp_in; decide) dX8_runFrom_30 ?_
  refine xb_top (y := 0) (by decide) ?_
  refine xr_if_eq (tgt := 67) dX8_runFrom_31 rfl (fun _ => ?_) (fun c => absurd (by decide) c)
  refine xr_getsA slX8_30 dX8_runFrom_67 ?_
  refine xr_iload dX8_runFrom_70 1 rfl ?_
  refine xr_tabA (by unfold vp_in; decide) dX8_runFrom_72 ?_
  refine xb_top (y := 0) (by decide) ?_
  refine xr_istore (ls2 := [(5, .int (0)), (6, .int (1)), (0, .ref (46)), (1, .int (4)), (2, .int (3)), (3, .int (x)), (4, .int (nI (e)))]) dX8_runFrom_73 (by decide) rfl ?_
  refine xr_iinc (v := 2) (ls2 := [(6, .int (2)), (5, .int (0)), (0, .ref (46)), (1, .int (4)), (2, .int (3)), (3, .int (x)), (4, .int (nI (e)))]) dX8_runFrom_75 1 rfl rfl (by decide) rfl ?_
  refine xr_goto (tgt := 6) dX8_runFrom_78 rfl ?_
  refine xr_iload dX8_runFrom_6 0 rfl ?_
  refine xr_bipush (v := 8) dX8_runFrom_8 rfl ?_
  refine xr_icmp_ge (tgt := 81) dX8_runFrom_10 rfl (fun c => absurd c (by decide)) (fun _ => ?_)
  refine xr_iload dX8_runFrom_13 1 rfl ?_
  refine xb_cN (As := [.int (0)]) (rest := []) mlX8_26 (c_X9_isKind 0) dX8_runFrom_15 rfl rfl (Nat.le_of_ble_eq_true rfl) (by decide) (by decide) ?_
  refine xb_beq (tgt := 81) dX8_runFrom_18 rfl (fun c => absurd (by decide) c) (fun _ => ?_)
  refine xr_getsO slX8_50 dX8_runFrom_21 ?_
  refine xr_iload dX8_runFrom_24 1 rfl ?_
  refine xr_iconst (v := 4) dX8_runFrom_26 rfl ?_
  refine xr_imul dX8_runFrom_27 ?_
  refine xb_top (y := 0) (by decide) ?_
  refine xr_iload_n dX8_runFrom_28 4 rfl ?_
  refine xr_iadd dX8_runFrom_29 ?_
  refine xb_top (y := 3) (by decide) ?_
  refine xr_tabO (by unfold vp_in; decide) dX8_runFrom_30 ?_
  refine xb_top (y := 2) (by decide) ?_
  refine xr_if_eq (tgt := 67) dX8_runFrom_31 rfl (fun c => absurd c (by decide)) (fun _ => ?_)
  refine xr_iload dX8_runFrom_34 6 rfl ?_
  refine xr_bipush (v := 30) dX8_runFrom_36 rfl ?_
  refine xr_icmp_ge (tgt := 65) dX8_runFrom_38 rfl (fun c => absurd c (nI_ge (a := e) (b := 30) (by omega) (by omega))) (fun _ => ?_)
  refine xr_aload_n dX8_runFrom_41 2 rfl ?_
  refine xr_getsO slX8_50 dX8_runFrom_42 ?_
  refine xr_iload dX8_runFrom_45 1 rfl ?_
  refine xr_iconst (v := 4) dX8_runFrom_47 rfl ?_
  refine xr_imul dX8_runFrom_48 ?_
  refine xb_top (y := 0) (by decide) ?_
  refine xr_iload_n dX8_runFrom_49 4 rfl ?_
  refine xr_iadd dX8_runFrom_50 ?_
  refine xb_top (y := 3) (by decide) ?_
  refine xr_tabO (by unfold vp_in; decide) dX8_runFrom_51 ?_
  refine xb_top (y := 2) (by decide) ?_
  refine xr_iload dX8_runFrom_52 1 rfl ?_
  refine xr_iload_n dX8_runFrom_54 5 rfl ?_
  refine xr_iload dX8_runFrom_55 6 rfl ?_
  refine xr_iconst (v := 1) dX8_runFrom_57 rfl ?_
  refine xr_iadd dX8_runFrom_58 ?_
  refine xb_top (y := nI (e + 1)) (nI_add (e) (1)) ?_
  refine xr_callV (As := [.int (2), .int (0), .int (x), .int (nI (e + 1))]) (rest := []) mlX8_53 (tu4_run_2_0 (e := e + 1) (ac := ac) x (by omega) (by omega) e_b (by omega) e_ra hac e_ac e_k) dX8_runFrom_59 s_46 rfl rfl (Nat.le_of_ble_eq_true rfl) (by decide) ⟨by decide, by decide⟩ (fun v s2 M6 J2 hq => ?_)
  obtain ⟨r8, rfl, rfl, rfl, k7, ⟨hr5, hx4⟩⟩ := hq
  try dsimp only [Option.toList, List.cons_append, List.nil_append]
  subst hr5
  refine xr_goto (tgt := 66) dX8_runFrom_62 rfl ?_
  exact xr_iret dX8_runFrom_66 rfl rfl (⟨_, rfl, rfl, rfl, (Ke.tr (fun _ _ h => h) Ke.rf k7), rfl, hx4⟩)
set_option maxRecDepth 100000 in
set_option maxHeartbeats 4000000 in
theorem tu4_own_3 {e ac : Nat} (x : Int32) (he : e + 4 ≤ 30) {l : Launch} {G : xG} {M : xM} {J : xJ} {b ra : Nat} (h_b : b ≤ 50) (e_b : M 46 2 = nI b) (h_ra : ra + 8 ≤ 900) (e_ra : M 46 3 = nI ra) (hac : ac < b) (e_ac : M 46 4 = nI ac) (e_k : M 47 ac = 4) : x_M l G fX8_own 12 0 0 [.ref (46), .int (3), .int (x), .int (nI (e))] x_SH M J (qKI WTN M J (fun r M2 => r = ((((x + (nI (ac))) + 3) * 2) - ((1 ^^^ (nI (ac))) - ((2 + (nI (ac))) + 3))) ∧ M2 46 3 = nI (ra + 8))) := by
  refine xb_of pX8 (Nat.le_of_ble_eq_true rfl) rfl ?_
  refine xr_aload_n dX8_own_0 0 rfl ?_
  refine xr_aload_n dX8_own_1 0 rfl ?_
  refine xb_get (v := nI (ac)) flX8_36 dX8_own_2 s_46 rfl e_ac ?_
  refine xb_cV (As := [.int (nI (ac))]) (rest := []) mlX8_43 (c_X8_has (nI (ac)) (by omega) e_b) dX8_own_5 s_46 rfl rfl (Nat.le_of_ble_eq_true rfl) (by decide) (by decide) ?_
  refine xb_beq (tgt := 30) dX8_own_8 rfl (fun c => absurd ⟨nI_pos' (by omega), nI_lt (by omega) (by omega)⟩ c) (fun _ => ?_)
  refine xr_aload_n dX8_own_11 0 rfl ?_
  refine xr_aload_n dX8_own_12 0 rfl ?_
  refine xr_getR flX8_9 dX8_own_13 s_46 rfl ?_
  refine xr_aload_n dX8_own_16 0 rfl ?_
  refine xb_get (v := nI (ac)) flX8_36 dX8_own_17 s_46 rfl e_ac ?_
  refine xb_iald (j := ac) (v := 4) dX8_own_20 s_47 (by omega) (by decide) e_k ?_
  refine xr_iload_n dX8_own_21 1 rfl ?_
  refine xr_iload_n dX8_own_22 2 rfl ?_
  refine xr_iload_n dX8_own_23 3 rfl ?_
  refine xr_callV (As := [.int (4), .int (3), .int (x), .int (nI (e))]) (rest := []) mlX8_46 (tu4_runFrom_4_3 (e := e) (ac := ac) x (by omega) (by omega) e_b (by omega) e_ra hac e_ac e_k) dX8_own_24 s_46 rfl rfl (Nat.le_of_ble_eq_true rfl) (by decide) ⟨by decide, by decide⟩ (fun v s2 M4 J2 hq => ?_)
  obtain ⟨r6, rfl, rfl, rfl, k5, ⟨hr3, hx2⟩⟩ := hq
  try dsimp only [Option.toList, List.cons_append, List.nil_append]
  subst hr3
  refine xr_goto (tgt := 31) dX8_own_27 rfl ?_
  exact xr_iret dX8_own_31 rfl rfl (⟨_, rfl, rfl, rfl, (Ke.tr (fun _ _ h => h) Ke.rf k5), rfl, hx2⟩)
set_option maxRecDepth 100000 in
set_option maxHeartbeats 4000000 in
theorem tu5_run_1_0 {e ac : Nat} (x : Int32) (he : e + 0 ≤ 30) {l : Launch} {G : xG} {M : xM} {J : xJ} {b ra : Nat} (h_b : b ≤ 50) (e_b : M 46 2 = nI b) (h_ra : ra + 1 ≤ 900) (e_ra : M 46 3 = nI ra) (hac : ac < b) (e_ac : M 46 4 = nI ac) (e_k : M 47 ac = 5) : x_M l G fX8_run 1 0 0 [.ref (46), .int (1), .int (0), .int (x), .int (nI (e))] x_SH M J (qKI WTN M J (fun r M2 => r = (x + (nI (ac))) ∧ M2 46 3 = nI (ra + 1))) := by
  refine xb_of pX8 (Nat.le_of_ble_eq_true rfl) rfl ?_
  refine xr_aload_n dX8_run_0 0 rfl ?_
  refine xr_iload_n dX8_run_1 1 rfl ?_
  refine xr_callV (As := [.int (1)]) (rest := []) mlX8_56 (g_X8_note 1 (by omega) e_ra) dX8_run_2 s_46 rfl rfl (Nat.le_of_ble_eq_true rfl) (by decide) ⟨by decide, by decide⟩ (fun v s2 M2 J2 hq => ?_)
  obtain ⟨rfl, rfl, rfl, k3, hx1⟩ := hq
  try dsimp only [Option.toList, List.cons_append, List.nil_append]
  refine xr_iload_n dX8_run_5 1 rfl ?_
  refine xr_lookup (tgt := 120) (off := 114) dX8_run_6 (by decide) (by decide) rfl ?_
  refine xr_iload_n dX8_run_120 3 rfl ?_
  refine xr_aload_n dX8_run_121 0 rfl ?_
  refine xb_get (v := nI (ac)) flX8_36 dX8_run_122 s_46 rfl (Eq.trans (k3 46 4 (by decide)) e_ac) ?_
  refine xr_iadd dX8_run_125 ?_
  exact xr_iret dX8_run_126 rfl rfl (⟨_, rfl, rfl, rfl, (Ke.tr (fun _ _ h => h) Ke.rf k3), rfl, hx1⟩)
set_option maxRecDepth 100000 in
set_option maxHeartbeats 4000000 in
theorem tu5_runFrom_5_0 {e ac : Nat} (x : Int32) (he : e + 1 ≤ 30) {l : Launch} {G : xG} {M : xM} {J : xJ} {b ra : Nat} (h_b : b ≤ 50) (e_b : M 46 2 = nI b) (h_ra : ra + 1 ≤ 900) (e_ra : M 46 3 = nI ra) (hac : ac < b) (e_ac : M 46 4 = nI ac) (e_k : M 47 ac = 5) : x_M l G fX8_runFrom 2 0 0 [.ref (46), .int (5), .int (0), .int (x), .int (nI (e))] x_SH M J (qKI WTN M J (fun r M2 => r = (x + (nI (ac))) ∧ M2 46 3 = nI (ra + 1))) := by
  refine xb_of pX8 (Nat.le_of_ble_eq_true rfl) rfl ?_
  refine xr_iload_n dX8_runFrom_0 1 rfl ?_
  refine xr_istore (ls2 := [(5, .int (5)), (0, .ref (46)), (1, .int (5)), (2, .int (0)), (3, .int (x)), (4, .int (nI (e)))]) dX8_runFrom_1 (by decide) rfl ?_
  refine xr_iconst (v := 0) dX8_runFrom_3 rfl ?_
  refine xr_istore (ls2 := [(6, .int (0)), (5, .int (5)), (0, .ref (46)), (1, .int (5)), (2, .int (0)), (3, .int (x)), (4, .int (nI (e)))]) dX8_runFrom_4 (by decide) rfl ?_
  refine xr_iload dX8_runFrom_6 0 rfl ?_
  refine xr_bipush (v := 8) dX8_runFrom_8 rfl ?_
  refine xr_icmp_ge (tgt := 81) dX8_runFrom_10 rfl (fun c => absurd c (by decide)) (fun _ => ?_)
  refine xr_iload dX8_runFrom_13 1 rfl ?_
  refine xb_cN (As := [.int (5)]) (rest := []) mlX8_26 (c_X9_isKind 5) dX8_runFrom_15 rfl rfl (Nat.le_of_ble_eq_true rfl) (by decide) (by decide) ?_
  refine xb_beq (tgt := 81) dX8_runFrom_18 rfl (fun c => absurd (by decide) c) (fun _ => ?_)
  refine xr_getsO slX8_50 dX8_runFrom_21 ?_
  refine xr_iload dX8_runFrom_24 1 rfl ?_
  refine xr_iconst (v := 4) dX8_runFrom_26 rfl ?_
  refine xr_imul dX8_runFrom_27 ?_
  refine xb_top (y := 20) (by decide) ?_
  refine xr_iload_n dX8_runFrom_28 4 rfl ?_
  refine xr_iadd dX8_runFrom_29 ?_
  refine xb_top (y := 20) (by decide) ?_
  refine xr_tabO (by unfold vp_in; decide) dX8_runFrom_30 ?_
  refine xb_top (y := 0) (by decide) ?_
  refine xr_if_eq (tgt := 67) dX8_runFrom_31 rfl (fun _ => ?_) (fun c => absurd (by decide) c)
  refine xr_getsA slX8_30 dX8_runFrom_67 ?_
  refine xr_iload dX8_runFrom_70 1 rfl ?_
  refine xr_tabA (by unfold vp_in; decide) dX8_runFrom_72 ?_
  refine xb_top (y := 3) (by decide) ?_
  refine xr_istore (ls2 := [(5, .int (3)), (6, .int (0)), (0, .ref (46)), (1, .int (5)), (2, .int (0)), (3, .int (x)), (4, .int (nI (e)))]) dX8_runFrom_73 (by decide) rfl ?_
  refine xr_iinc (v := 1) (ls2 := [(6, .int (1)), (5, .int (3)), (0, .ref (46)), (1, .int (5)), (2, .int (0)), (3, .int (x)), (4, .int (nI (e)))]) dX8_runFrom_75 1 rfl rfl (by decide) rfl ?_
  refine xr_goto (tgt := 6) dX8_runFrom_78 rfl ?_
  refine xr_iload dX8_runFrom_6 0 rfl ?_
  refine xr_bipush (v := 8) dX8_runFrom_8 rfl ?_
  refine xr_icmp_ge (tgt := 81) dX8_runFrom_10 rfl (fun c => absurd c (by decide)) (fun _ => ?_)
  refine xr_iload dX8_runFrom_13 1 rfl ?_
  refine xb_cN (As := [.int (3)]) (rest := []) mlX8_26 (c_X9_isKind 3) dX8_runFrom_15 rfl rfl (Nat.le_of_ble_eq_true rfl) (by decide) (by decide) ?_
  refine xb_beq (tgt := 81) dX8_runFrom_18 rfl (fun c => absurd (by decide) c) (fun _ => ?_)
  refine xr_getsO slX8_50 dX8_runFrom_21 ?_
  refine xr_iload dX8_runFrom_24 1 rfl ?_
  refine xr_iconst (v := 4) dX8_runFrom_26 rfl ?_
  refine xr_imul dX8_runFrom_27 ?_
  refine xb_top (y := 12) (by decide) ?_
  refine xr_iload_n dX8_runFrom_28 4 rfl ?_
  refine xr_iadd dX8_runFrom_29 ?_
  refine xb_top (y := 12) (by decide) ?_
  refine xr_tabO (by unfold vp_in; decide) dX8_runFrom_30 ?_
  refine xb_top (y := 0) (by decide) ?_
  refine xr_if_eq (tgt := 67) dX8_runFrom_31 rfl (fun _ => ?_) (fun c => absurd (by decide) c)
  refine xr_getsA slX8_30 dX8_runFrom_67 ?_
  refine xr_iload dX8_runFrom_70 1 rfl ?_
  refine xr_tabA (by unfold vp_in; decide) dX8_runFrom_72 ?_
  refine xb_top (y := 2) (by decide) ?_
  refine xr_istore (ls2 := [(5, .int (2)), (6, .int (1)), (0, .ref (46)), (1, .int (5)), (2, .int (0)), (3, .int (x)), (4, .int (nI (e)))]) dX8_runFrom_73 (by decide) rfl ?_
  refine xr_iinc (v := 2) (ls2 := [(6, .int (2)), (5, .int (2)), (0, .ref (46)), (1, .int (5)), (2, .int (0)), (3, .int (x)), (4, .int (nI (e)))]) dX8_runFrom_75 1 rfl rfl (by decide) rfl ?_
  refine xr_goto (tgt := 6) dX8_runFrom_78 rfl ?_
  refine xr_iload dX8_runFrom_6 0 rfl ?_
  refine xr_bipush (v := 8) dX8_runFrom_8 rfl ?_
  refine xr_icmp_ge (tgt := 81) dX8_runFrom_10 rfl (fun c => absurd c (by decide)) (fun _ => ?_)
  refine xr_iload dX8_runFrom_13 1 rfl ?_
  refine xb_cN (As := [.int (2)]) (rest := []) mlX8_26 (c_X9_isKind 2) dX8_runFrom_15 rfl rfl (Nat.le_of_ble_eq_true rfl) (by decide) (by decide) ?_
  refine xb_beq (tgt := 81) dX8_runFrom_18 rfl (fun c => absurd (by decide) c) (fun _ => ?_)
  refine xr_getsO slX8_50 dX8_runFrom_21 ?_
  refine xr_iload dX8_runFrom_24 1 rfl ?_
  refine xr_iconst (v := 4) dX8_runFrom_26 rfl ?_
  refine xr_imul dX8_runFrom_27 ?_
  refine xb_top (y := 8) (by decide) ?_
  refine xr_iload_n dX8_runFrom_28 4 rfl ?_
  refine xr_iadd dX8_runFrom_29 ?_
  refine xb_top (y := 8) (by decide) ?_
  refine xr_tabO (by unfold vp_in; decide) dX8_runFrom_30 ?_
  refine xb_top (y := 0) (by decide) ?_
  refine xr_if_eq (tgt := 67) dX8_runFrom_31 rfl (fun _ => ?_) (fun c => absurd (by decide) c)
  refine xr_getsA slX8_30 dX8_runFrom_67 ?_
  refine xr_iload dX8_runFrom_70 1 rfl ?_
  refine xr_tabA (by unfold vp_in; decide) dX8_runFrom_72 ?_
  refine xb_top (y := 0) (by decide) ?_
  refine xr_istore (ls2 := [(5, .int (0)), (6, .int (2)), (0, .ref (46)), (1, .int (5)), (2, .int (0)), (3, .int (x)), (4, .int (nI (e)))]) dX8_runFrom_73 (by decide) rfl ?_
  refine xr_iinc (v := 3) (ls2 := [(6, .int (3)), (5, .int (0)), (0, .ref (46)), (1, .int (5)), (2, .int (0)), (3, .int (x)), (4, .int (nI (e)))]) dX8_runFrom_75 1 rfl rfl (by decide) rfl ?_
  refine xr_goto (tgt := 6) dX8_runFrom_78 rfl ?_
  refine xr_iload dX8_runFrom_6 0 rfl ?_
  refine xr_bipush (v := 8) dX8_runFrom_8 rfl ?_
  refine xr_icmp_ge (tgt := 81) dX8_runFrom_10 rfl (fun c => absurd c (by decide)) (fun _ => ?_)
  refine xr_iload dX8_runFrom_13 1 rfl ?_
  refine xb_cN (As := [.int (0)]) (rest := []) mlX8_26 (c_X9_isKind 0) dX8_runFrom_15 rfl rfl (Nat.le_of_ble_eq_true rfl) (by decide) (by decide) ?_
  refine xb_beq (tgt := 81) dX8_runFrom_18 rfl (fun c => absurd (by decide) c) (fun _ => ?_)
  refine xr_getsO slX8_50 dX8_runFrom_21 ?_
  refine xr_iload dX8_runFrom_24 1 rfl ?_
  refine xr_iconst (v := 4) dX8_runFrom_26 rfl ?_
  refine xr_imul dX8_runFrom_27 ?_
  refine xb_top (y := 0) (by decide) ?_
  refine xr_iload_n dX8_runFrom_28 4 rfl ?_
  refine xr_iadd dX8_runFrom_29 ?_
  refine xb_top (y := 0) (by decide) ?_
  refine xr_tabO (by unfold vp_in; decide) dX8_runFrom_30 ?_
  refine xb_top (y := 1) (by decide) ?_
  refine xr_if_eq (tgt := 67) dX8_runFrom_31 rfl (fun c => absurd c (by decide)) (fun _ => ?_)
  refine xr_iload dX8_runFrom_34 6 rfl ?_
  refine xr_bipush (v := 30) dX8_runFrom_36 rfl ?_
  refine xr_icmp_ge (tgt := 65) dX8_runFrom_38 rfl (fun c => absurd c (nI_ge (a := e) (b := 30) (by omega) (by omega))) (fun _ => ?_)
  refine xr_aload_n dX8_runFrom_41 2 rfl ?_
  refine xr_getsO slX8_50 dX8_runFrom_42 ?_
  refine xr_iload dX8_runFrom_45 1 rfl ?_
  refine xr_iconst (v := 4) dX8_runFrom_47 rfl ?_
  refine xr_imul dX8_runFrom_48 ?_
  refine xb_top (y := 0) (by decide) ?_
  refine xr_iload_n dX8_runFrom_49 4 rfl ?_
  refine xr_iadd dX8_runFrom_50 ?_
  refine xb_top (y := 0) (by decide) ?_
  refine xr_tabO (by unfold vp_in; decide) dX8_runFrom_51 ?_
  refine xb_top (y := 1) (by decide) ?_
  refine xr_iload dX8_runFrom_52 1 rfl ?_
  refine xr_iload_n dX8_runFrom_54 5 rfl ?_
  refine xr_iload dX8_runFrom_55 6 rfl ?_
  refine xr_iconst (v := 1) dX8_runFrom_57 rfl ?_
  refine xr_iadd dX8_runFrom_58 ?_
  refine xb_top (y := nI (e + 1)) (nI_add (e) (1)) ?_
  refine xr_callV (As := [.int (1), .int (0), .int (x), .int (nI (e + 1))]) (rest := []) mlX8_53 (tu5_run_1_0 (e := e + 1) (ac := ac) x (by omega) (by omega) e_b (by omega) e_ra hac e_ac e_k) dX8_runFrom_59 s_46 rfl rfl (Nat.le_of_ble_eq_true rfl) (by decide) ⟨by decide, by decide⟩ (fun v s2 M7 J2 hq => ?_)
  obtain ⟨r9, rfl, rfl, rfl, k8, ⟨hr6, hx5⟩⟩ := hq
  try dsimp only [Option.toList, List.cons_append, List.nil_append]
  subst hr6
  refine xr_goto (tgt := 66) dX8_runFrom_62 rfl ?_
  exact xr_iret dX8_runFrom_66 rfl rfl (⟨_, rfl, rfl, rfl, (Ke.tr (fun _ _ h => h) Ke.rf k8), rfl, hx5⟩)
set_option maxRecDepth 100000 in
set_option maxHeartbeats 4000000 in
theorem tu5_own_0 {e ac : Nat} (x : Int32) (he : e + 1 ≤ 30) {l : Launch} {G : xG} {M : xM} {J : xJ} {b ra : Nat} (h_b : b ≤ 50) (e_b : M 46 2 = nI b) (h_ra : ra + 1 ≤ 900) (e_ra : M 46 3 = nI ra) (hac : ac < b) (e_ac : M 46 4 = nI ac) (e_k : M 47 ac = 5) : x_M l G fX8_own 3 0 0 [.ref (46), .int (0), .int (x), .int (nI (e))] x_SH M J (qKI WTN M J (fun r M2 => r = (x + (nI (ac))) ∧ M2 46 3 = nI (ra + 1))) := by
  refine xb_of pX8 (Nat.le_of_ble_eq_true rfl) rfl ?_
  refine xr_aload_n dX8_own_0 0 rfl ?_
  refine xr_aload_n dX8_own_1 0 rfl ?_
  refine xb_get (v := nI (ac)) flX8_36 dX8_own_2 s_46 rfl e_ac ?_
  refine xb_cV (As := [.int (nI (ac))]) (rest := []) mlX8_43 (c_X8_has (nI (ac)) (by omega) e_b) dX8_own_5 s_46 rfl rfl (Nat.le_of_ble_eq_true rfl) (by decide) (by decide) ?_
  refine xb_beq (tgt := 30) dX8_own_8 rfl (fun c => absurd ⟨nI_pos' (by omega), nI_lt (by omega) (by omega)⟩ c) (fun _ => ?_)
  refine xr_aload_n dX8_own_11 0 rfl ?_
  refine xr_aload_n dX8_own_12 0 rfl ?_
  refine xr_getR flX8_9 dX8_own_13 s_46 rfl ?_
  refine xr_aload_n dX8_own_16 0 rfl ?_
  refine xb_get (v := nI (ac)) flX8_36 dX8_own_17 s_46 rfl e_ac ?_
  refine xb_iald (j := ac) (v := 5) dX8_own_20 s_47 (by omega) (by decide) e_k ?_
  refine xr_iload_n dX8_own_21 1 rfl ?_
  refine xr_iload_n dX8_own_22 2 rfl ?_
  refine xr_iload_n dX8_own_23 3 rfl ?_
  refine xr_callV (As := [.int (5), .int (0), .int (x), .int (nI (e))]) (rest := []) mlX8_46 (tu5_runFrom_5_0 (e := e) (ac := ac) x (by omega) (by omega) e_b (by omega) e_ra hac e_ac e_k) dX8_own_24 s_46 rfl rfl (Nat.le_of_ble_eq_true rfl) (by decide) ⟨by decide, by decide⟩ (fun v s2 M4 J2 hq => ?_)
  obtain ⟨r6, rfl, rfl, rfl, k5, ⟨hr3, hx2⟩⟩ := hq
  try dsimp only [Option.toList, List.cons_append, List.nil_append]
  subst hr3
  refine xr_goto (tgt := 31) dX8_own_27 rfl ?_
  exact xr_iret dX8_own_31 rfl rfl (⟨_, rfl, rfl, rfl, (Ke.tr (fun _ _ h => h) Ke.rf k5), rfl, hx2⟩)
set_option maxRecDepth 100000 in
set_option maxHeartbeats 4000000 in
theorem tu5_run_10_0 {e ac : Nat} (x : Int32) (he : e + 1 ≤ 30) {l : Launch} {G : xG} {M : xM} {J : xJ} {b ra : Nat} (h_b : b ≤ 50) (e_b : M 46 2 = nI b) (h_ra : ra + 2 ≤ 900) (e_ra : M 46 3 = nI ra) (hac : ac < b) (e_ac : M 46 4 = nI ac) (e_k : M 47 ac = 5) : x_M l G fX8_run 4 0 0 [.ref (46), .int (10), .int (0), .int (x), .int (nI (e))] x_SH M J (qKI WTN M J (fun r M2 => r = ((x + (nI (ac))) * 2) ∧ M2 46 3 = nI (ra + 2))) := by
  refine xb_of pX8 (Nat.le_of_ble_eq_true rfl) rfl ?_
  refine xr_aload_n dX8_run_0 0 rfl ?_
  refine xr_iload_n dX8_run_1 1 rfl ?_
  refine xr_callV (As := [.int (10)]) (rest := []) mlX8_56 (g_X8_note 10 (by omega) e_ra) dX8_run_2 s_46 rfl rfl (Nat.le_of_ble_eq_true rfl) (by decide) ⟨by decide, by decide⟩ (fun v s2 M2 J2 hq => ?_)
  obtain ⟨rfl, rfl, rfl, k3, hx1⟩ := hq
  try dsimp only [Option.toList, List.cons_append, List.nil_append]
  refine xr_iload_n dX8_run_5 1 rfl ?_
  refine xr_lookup (tgt := 145) (off := 139) dX8_run_6 (by decide) (by decide) rfl ?_
  refine xr_aload_n dX8_run_145 0 rfl ?_
  refine xr_iconst (v := 0) dX8_run_146 rfl ?_
  refine xr_iload_n dX8_run_147 3 rfl ?_
  refine xr_iload dX8_run_148 4 rfl ?_
  refine xr_callV (As := [.int (0), .int (x), .int (nI (e))]) (rest := []) mlX8_39 (tu5_own_0 (e := e) (ac := ac) x (by omega) (by omega) (Eq.trans (k3 46 2 (by decide)) e_b) (by omega) hx1 hac (Eq.trans (k3 46 4 (by decide)) e_ac) (Eq.trans (k3 47 ac (by unfold WTN; omega)) e_k)) dX8_run_150 s_46 rfl rfl (Nat.le_of_ble_eq_true rfl) (by decide) ⟨by decide, by decide⟩ (fun v s2 M6 J2 hq => ?_)
  obtain ⟨r8, rfl, rfl, rfl, k7, ⟨hr5, hx4⟩⟩ := hq
  try dsimp only [Option.toList, List.cons_append, List.nil_append]
  subst hr5
  refine xr_iconst (v := 2) dX8_run_153 rfl ?_
  refine xr_imul dX8_run_154 ?_
  exact xr_iret dX8_run_155 rfl rfl (⟨_, rfl, rfl, rfl, (Ke.tr (fun _ _ h => h) (Ke.tr (fun _ _ h => h) Ke.rf k3) k7), rfl, hx4⟩)
set_option maxRecDepth 100000 in
set_option maxHeartbeats 4000000 in
theorem tu5_runFrom_0_1 {e ac : Nat} (x : Int32) (he : e + 2 ≤ 30) {l : Launch} {G : xG} {M : xM} {J : xJ} {b ra : Nat} (h_b : b ≤ 50) (e_b : M 46 2 = nI b) (h_ra : ra + 2 ≤ 900) (e_ra : M 46 3 = nI ra) (hac : ac < b) (e_ac : M 46 4 = nI ac) (e_k : M 47 ac = 5) : x_M l G fX8_runFrom 5 0 0 [.ref (46), .int (0), .int (1), .int (x), .int (nI (e))] x_SH M J (qKI WTN M J (fun r M2 => r = ((x + (nI (ac))) * 2) ∧ M2 46 3 = nI (ra + 2))) := by
  refine xb_of pX8 (Nat.le_of_ble_eq_true rfl) rfl ?_
  refine xr_iload_n dX8_runFrom_0 1 rfl ?_
  refine xr_istore (ls2 := [(5, .int (0)), (0, .ref (46)), (1, .int (0)), (2, .int (1)), (3, .int (x)), (4, .int (nI (e)))]) dX8_runFrom_1 (by decide) rfl ?_
  refine xr_iconst (v := 0) dX8_runFrom_3 rfl ?_
  refine xr_istore (ls2 := [(6, .int (0)), (5, .int (0)), (0, .ref (46)), (1, .int (0)), (2, .int (1)), (3, .int (x)), (4, .int (nI (e)))]) dX8_runFrom_4 (by decide) rfl ?_
  refine xr_iload dX8_runFrom_6 0 rfl ?_
  refine xr_bipush (v := 8) dX8_runFrom_8 rfl ?_
  refine xr_icmp_ge (tgt := 81) dX8_runFrom_10 rfl (fun c => absurd c (by decide)) (fun _ => ?_)
  refine xr_iload dX8_runFrom_13 1 rfl ?_
  refine xb_cN (As := [.int (0)]) (rest := []) mlX8_26 (c_X9_isKind 0) dX8_runFrom_15 rfl rfl (Nat.le_of_ble_eq_true rfl) (by decide) (by decide) ?_
  refine xb_beq (tgt := 81) dX8_runFrom_18 rfl (fun c => absurd (by decide) c) (fun _ => ?_)
  refine xr_getsO slX8_50 dX8_runFrom_21 ?_
  refine xr_iload dX8_runFrom_24 1 rfl ?_
  refine xr_iconst (v := 4) dX8_runFrom_26 rfl ?_
  refine xr_imul dX8_runFrom_27 ?_
  refine xb_top (y := 0) (by decide) ?_
  refine xr_iload_n dX8_runFrom_28 4 rfl ?_
  refine xr_iadd dX8_runFrom_29 ?_
  refine xb_top (y := 1) (by decide) ?_
  refine xr_tabO (by unfold vp_in; decide) dX8_runFrom_30 ?_
  refine xb_top (y := 10) (by decide) ?_
  refine xr_if_eq (tgt := 67) dX8_runFrom_31 rfl (fun c => absurd c (by decide)) (fun _ => ?_)
  refine xr_iload dX8_runFrom_34 6 rfl ?_
  refine xr_bipush (v := 30) dX8_runFrom_36 rfl ?_
  refine xr_icmp_ge (tgt := 65) dX8_runFrom_38 rfl (fun c => absurd c (nI_ge (a := e) (b := 30) (by omega) (by omega))) (fun _ => ?_)
  refine xr_aload_n dX8_runFrom_41 2 rfl ?_
  refine xr_getsO slX8_50 dX8_runFrom_42 ?_
  refine xr_iload dX8_runFrom_45 1 rfl ?_
  refine xr_iconst (v := 4) dX8_runFrom_47 rfl ?_
  refine xr_imul dX8_runFrom_48 ?_
  refine xb_top (y := 0) (by decide) ?_
  refine xr_iload_n dX8_runFrom_49 4 rfl ?_
  refine xr_iadd dX8_runFrom_50 ?_
  refine xb_top (y := 1) (by decide) ?_
  refine xr_tabO (by unfold vp_in; decide) dX8_runFrom_51 ?_
  refine xb_top (y := 10) (by decide) ?_
  refine xr_iload dX8_runFrom_52 1 rfl ?_
  refine xr_iload_n dX8_runFrom_54 5 rfl ?_
  refine xr_iload dX8_runFrom_55 6 rfl ?_
  refine xr_iconst (v := 1) dX8_runFrom_57 rfl ?_
  refine xr_iadd dX8_runFrom_58 ?_
  refine xb_top (y := nI (e + 1)) (nI_add (e) (1)) ?_
  refine xr_callV (As := [.int (10), .int (0), .int (x), .int (nI (e + 1))]) (rest := []) mlX8_53 (tu5_run_10_0 (e := e + 1) (ac := ac) x (by omega) (by omega) e_b (by omega) e_ra hac e_ac e_k) dX8_runFrom_59 s_46 rfl rfl (Nat.le_of_ble_eq_true rfl) (by decide) ⟨by decide, by decide⟩ (fun v s2 M4 J2 hq => ?_)
  obtain ⟨r6, rfl, rfl, rfl, k5, ⟨hr3, hx2⟩⟩ := hq
  try dsimp only [Option.toList, List.cons_append, List.nil_append]
  subst hr3
  refine xr_goto (tgt := 66) dX8_runFrom_62 rfl ?_
  exact xr_iret dX8_runFrom_66 rfl rfl (⟨_, rfl, rfl, rfl, (Ke.tr (fun _ _ h => h) Ke.rf k5), rfl, hx2⟩)
set_option maxRecDepth 100000 in
set_option maxHeartbeats 4000000 in
theorem tu5_above_2_1 {e ac : Nat} (x : Int32) (he : e + 2 ≤ 30) {l : Launch} {G : xG} {M : xM} {J : xJ} {b ra : Nat} (h_b : b ≤ 50) (e_b : M 46 2 = nI b) (h_ra : ra + 2 ≤ 900) (e_ra : M 46 3 = nI ra) (hac : ac < b) (e_ac : M 46 4 = nI ac) (e_k : M 47 ac = 5) : x_M l G fX8_above 6 0 0 [.ref (46), .int (2), .int (1), .int (x), .int (nI (e))] x_SH M J (qKI WTN M J (fun r M2 => r = ((x + (nI (ac))) * 2) ∧ M2 46 3 = nI (ra + 2))) := by
  refine xb_of pX8 (Nat.le_of_ble_eq_true rfl) rfl ?_
  refine xr_iload_n dX8_above_0 1 rfl ?_
  refine xb_cN (As := [.int (2)]) (rest := []) mlX8_26 (c_X9_isKind 2) dX8_above_1 rfl rfl (Nat.le_of_ble_eq_true rfl) (by decide) (by decide) ?_
  refine xb_beq (tgt := 23) dX8_above_4 rfl (fun c => absurd (by decide) c) (fun _ => ?_)
  refine xr_aload_n dX8_above_7 0 rfl ?_
  refine xr_getsA slX8_30 dX8_above_8 ?_
  refine xr_iload_n dX8_above_11 1 rfl ?_
  refine xr_tabA (by unfold vp_in; decide) dX8_above_12 ?_
  refine xb_top (y := 0) (by decide) ?_
  refine xr_iload_n dX8_above_13 2 rfl ?_
  refine xr_iload_n dX8_above_14 3 rfl ?_
  refine xr_iload dX8_above_15 4 rfl ?_
  refine xr_callV (As := [.int (0), .int (1), .int (x), .int (nI (e))]) (rest := []) mlX8_46 (tu5_runFrom_0_1 (e := e) (ac := ac) x (by omega) (by omega) e_b (by omega) e_ra hac e_ac e_k) dX8_above_17 s_46 rfl rfl (Nat.le_of_ble_eq_true rfl) (by decide) ⟨by decide, by decide⟩ (fun v s2 M4 J2 hq => ?_)
  obtain ⟨r6, rfl, rfl, rfl, k5, ⟨hr3, hx2⟩⟩ := hq
  try dsimp only [Option.toList, List.cons_append, List.nil_append]
  subst hr3
  refine xr_goto (tgt := 24) dX8_above_20 rfl ?_
  exact xr_iret dX8_above_24 rfl rfl (⟨_, rfl, rfl, rfl, (Ke.tr (fun _ _ h => h) Ke.rf k5), rfl, hx2⟩)
set_option maxRecDepth 100000 in
set_option maxHeartbeats 4000000 in
theorem tu5_run_30_2 {e ac : Nat} (x : Int32) (he : e + 2 ≤ 30) {l : Launch} {G : xG} {M : xM} {J : xJ} {b ra : Nat} (h_b : b ≤ 50) (e_b : M 46 2 = nI b) (h_ra : ra + 3 ≤ 900) (e_ra : M 46 3 = nI ra) (hac : ac < b) (e_ac : M 46 4 = nI ac) (e_k : M 47 ac = 5) : x_M l G fX8_run 7 0 0 [.ref (46), .int (30), .int (2), .int (x), .int (nI (e))] x_SH M J (qKI WTN M J (fun r M2 => r = (-((x + (nI (ac))) * 2)) ∧ M2 46 3 = nI (ra + 3))) := by
  refine xb_of pX8 (Nat.le_of_ble_eq_true rfl) rfl ?_
  refine xr_aload_n dX8_run_0 0 rfl ?_
  refine xr_iload_n dX8_run_1 1 rfl ?_
  refine xr_callV (As := [.int (30)]) (rest := []) mlX8_56 (g_X8_note 30 (by omega) e_ra) dX8_run_2 s_46 rfl rfl (Nat.le_of_ble_eq_true rfl) (by decide) ⟨by decide, by decide⟩ (fun v s2 M2 J2 hq => ?_)
  obtain ⟨rfl, rfl, rfl, k3, hx1⟩ := hq
  try dsimp only [Option.toList, List.cons_append, List.nil_append]
  refine xr_iload_n dX8_run_5 1 rfl ?_
  refine xr_lookup (tgt := 175) (off := 169) dX8_run_6 (by decide) (by decide) rfl ?_
  refine xr_aload_n dX8_run_175 0 rfl ?_
  refine xr_iload_n dX8_run_176 2 rfl ?_
  refine xr_iconst (v := 1) dX8_run_177 rfl ?_
  refine xr_iload_n dX8_run_178 3 rfl ?_
  refine xr_iload dX8_run_179 4 rfl ?_
  refine xr_callV (As := [.int (2), .int (1), .int (x), .int (nI (e))]) (rest := []) mlX8_60 (tu5_above_2_1 (e := e) (ac := ac) x (by omega) (by omega) (Eq.trans (k3 46 2 (by decide)) e_b) (by omega) hx1 hac (Eq.trans (k3 46 4 (by decide)) e_ac) (Eq.trans (k3 47 ac (by unfold WTN; omega)) e_k)) dX8_run_181 s_46 rfl rfl (Nat.le_of_ble_eq_true rfl) (by decide) ⟨by decide, by decide⟩ (fun v s2 M6 J2 hq => ?_)
  obtain ⟨r8, rfl, rfl, rfl, k7, ⟨hr5, hx4⟩⟩ := hq
  try dsimp only [Option.toList, List.cons_append, List.nil_append]
  subst hr5
  refine xr_ineg dX8_run_184 ?_
  exact xr_iret dX8_run_185 rfl rfl (⟨_, rfl, rfl, rfl, (Ke.tr (fun _ _ h => h) (Ke.tr (fun _ _ h => h) Ke.rf k3) k7), rfl, hx4⟩)
set_option maxRecDepth 100000 in
set_option maxHeartbeats 4000000 in
theorem tu5_runFrom_2_1 {e ac : Nat} (x : Int32) (he : e + 3 ≤ 30) {l : Launch} {G : xG} {M : xM} {J : xJ} {b ra : Nat} (h_b : b ≤ 50) (e_b : M 46 2 = nI b) (h_ra : ra + 3 ≤ 900) (e_ra : M 46 3 = nI ra) (hac : ac < b) (e_ac : M 46 4 = nI ac) (e_k : M 47 ac = 5) : x_M l G fX8_runFrom 8 0 0 [.ref (46), .int (2), .int (1), .int (x), .int (nI (e))] x_SH M J (qKI WTN M J (fun r M2 => r = (-((x + (nI (ac))) * 2)) ∧ M2 46 3 = nI (ra + 3))) := by
  refine xb_of pX8 (Nat.le_of_ble_eq_true rfl) rfl ?_
  refine xr_iload_n dX8_runFrom_0 1 rfl ?_
  refine xr_istore (ls2 := [(5, .int (2)), (0, .ref (46)), (1, .int (2)), (2, .int (1)), (3, .int (x)), (4, .int (nI (e)))]) dX8_runFrom_1 (by decide) rfl ?_
  refine xr_iconst (v := 0) dX8_runFrom_3 rfl ?_
  refine xr_istore (ls2 := [(6, .int (0)), (5, .int (2)), (0, .ref (46)), (1, .int (2)), (2, .int (1)), (3, .int (x)), (4, .int (nI (e)))]) dX8_runFrom_4 (by decide) rfl ?_
  refine xr_iload dX8_runFrom_6 0 rfl ?_
  refine xr_bipush (v := 8) dX8_runFrom_8 rfl ?_
  refine xr_icmp_ge (tgt := 81) dX8_runFrom_10 rfl (fun c => absurd c (by decide)) (fun _ => ?_)
  refine xr_iload dX8_runFrom_13 1 rfl ?_
  refine xb_cN (As := [.int (2)]) (rest := []) mlX8_26 (c_X9_isKind 2) dX8_runFrom_15 rfl rfl (Nat.le_of_ble_eq_true rfl) (by decide) (by decide) ?_
  refine xb_beq (tgt := 81) dX8_runFrom_18 rfl (fun c => absurd (by decide) c) (fun _ => ?_)
  refine xr_getsO slX8_50 dX8_runFrom_21 ?_
  refine xr_iload dX8_runFrom_24 1 rfl ?_
  refine xr_iconst (v := 4) dX8_runFrom_26 rfl ?_
  refine xr_imul dX8_runFrom_27 ?_
  refine xb_top (y := 8) (by decide) ?_
  refine xr_iload_n dX8_runFrom_28 4 rfl ?_
  refine xr_iadd dX8_runFrom_29 ?_
  refine xb_top (y := 9) (by decide) ?_
  refine xr_tabO (by unfold vp_in; decide) dX8_runFrom_30 ?_
  refine xb_top (y := 30) (by decide) ?_
  refine xr_if_eq (tgt := 67) dX8_runFrom_31 rfl (fun c => absurd c (by decide)) (fun _ => ?_)
  refine xr_iload dX8_runFrom_34 6 rfl ?_
  refine xr_bipush (v := 30) dX8_runFrom_36 rfl ?_
  refine xr_icmp_ge (tgt := 65) dX8_runFrom_38 rfl (fun c => absurd c (nI_ge (a := e) (b := 30) (by omega) (by omega))) (fun _ => ?_)
  refine xr_aload_n dX8_runFrom_41 2 rfl ?_
  refine xr_getsO slX8_50 dX8_runFrom_42 ?_
  refine xr_iload dX8_runFrom_45 1 rfl ?_
  refine xr_iconst (v := 4) dX8_runFrom_47 rfl ?_
  refine xr_imul dX8_runFrom_48 ?_
  refine xb_top (y := 8) (by decide) ?_
  refine xr_iload_n dX8_runFrom_49 4 rfl ?_
  refine xr_iadd dX8_runFrom_50 ?_
  refine xb_top (y := 9) (by decide) ?_
  refine xr_tabO (by unfold vp_in; decide) dX8_runFrom_51 ?_
  refine xb_top (y := 30) (by decide) ?_
  refine xr_iload dX8_runFrom_52 1 rfl ?_
  refine xr_iload_n dX8_runFrom_54 5 rfl ?_
  refine xr_iload dX8_runFrom_55 6 rfl ?_
  refine xr_iconst (v := 1) dX8_runFrom_57 rfl ?_
  refine xr_iadd dX8_runFrom_58 ?_
  refine xb_top (y := nI (e + 1)) (nI_add (e) (1)) ?_
  refine xr_callV (As := [.int (30), .int (2), .int (x), .int (nI (e + 1))]) (rest := []) mlX8_53 (tu5_run_30_2 (e := e + 1) (ac := ac) x (by omega) (by omega) e_b (by omega) e_ra hac e_ac e_k) dX8_runFrom_59 s_46 rfl rfl (Nat.le_of_ble_eq_true rfl) (by decide) ⟨by decide, by decide⟩ (fun v s2 M4 J2 hq => ?_)
  obtain ⟨r6, rfl, rfl, rfl, k5, ⟨hr3, hx2⟩⟩ := hq
  try dsimp only [Option.toList, List.cons_append, List.nil_append]
  subst hr3
  refine xr_goto (tgt := 66) dX8_runFrom_62 rfl ?_
  exact xr_iret dX8_runFrom_66 rfl rfl (⟨_, rfl, rfl, rfl, (Ke.tr (fun _ _ h => h) Ke.rf k5), rfl, hx2⟩)
set_option maxRecDepth 100000 in
set_option maxHeartbeats 4000000 in
theorem tu5_above_3_1 {e ac : Nat} (x : Int32) (he : e + 3 ≤ 30) {l : Launch} {G : xG} {M : xM} {J : xJ} {b ra : Nat} (h_b : b ≤ 50) (e_b : M 46 2 = nI b) (h_ra : ra + 3 ≤ 900) (e_ra : M 46 3 = nI ra) (hac : ac < b) (e_ac : M 46 4 = nI ac) (e_k : M 47 ac = 5) : x_M l G fX8_above 9 0 0 [.ref (46), .int (3), .int (1), .int (x), .int (nI (e))] x_SH M J (qKI WTN M J (fun r M2 => r = (-((x + (nI (ac))) * 2)) ∧ M2 46 3 = nI (ra + 3))) := by
  refine xb_of pX8 (Nat.le_of_ble_eq_true rfl) rfl ?_
  refine xr_iload_n dX8_above_0 1 rfl ?_
  refine xb_cN (As := [.int (3)]) (rest := []) mlX8_26 (c_X9_isKind 3) dX8_above_1 rfl rfl (Nat.le_of_ble_eq_true rfl) (by decide) (by decide) ?_
  refine xb_beq (tgt := 23) dX8_above_4 rfl (fun c => absurd (by decide) c) (fun _ => ?_)
  refine xr_aload_n dX8_above_7 0 rfl ?_
  refine xr_getsA slX8_30 dX8_above_8 ?_
  refine xr_iload_n dX8_above_11 1 rfl ?_
  refine xr_tabA (by unfold vp_in; decide) dX8_above_12 ?_
  refine xb_top (y := 2) (by decide) ?_
  refine xr_iload_n dX8_above_13 2 rfl ?_
  refine xr_iload_n dX8_above_14 3 rfl ?_
  refine xr_iload dX8_above_15 4 rfl ?_
  refine xr_callV (As := [.int (2), .int (1), .int (x), .int (nI (e))]) (rest := []) mlX8_46 (tu5_runFrom_2_1 (e := e) (ac := ac) x (by omega) (by omega) e_b (by omega) e_ra hac e_ac e_k) dX8_above_17 s_46 rfl rfl (Nat.le_of_ble_eq_true rfl) (by decide) ⟨by decide, by decide⟩ (fun v s2 M4 J2 hq => ?_)
  obtain ⟨r6, rfl, rfl, rfl, k5, ⟨hr3, hx2⟩⟩ := hq
  try dsimp only [Option.toList, List.cons_append, List.nil_append]
  subst hr3
  refine xr_goto (tgt := 24) dX8_above_20 rfl ?_
  exact xr_iret dX8_above_24 rfl rfl (⟨_, rfl, rfl, rfl, (Ke.tr (fun _ _ h => h) Ke.rf k5), rfl, hx2⟩)
set_option maxRecDepth 100000 in
set_option maxHeartbeats 4000000 in
theorem tu5_run_41_3 {e ac : Nat} (x : Int32) (he : e + 3 ≤ 30) {l : Launch} {G : xG} {M : xM} {J : xJ} {b ra : Nat} (h_b : b ≤ 50) (e_b : M 46 2 = nI b) (h_ra : ra + 4 ≤ 900) (e_ra : M 46 3 = nI ra) (hac : ac < b) (e_ac : M 46 4 = nI ac) (e_k : M 47 ac = 5) : x_M l G fX8_run 10 0 0 [.ref (46), .int (41), .int (3), .int (x), .int (nI (e))] x_SH M J (qKI WTN M J (fun r M2 => r = (-(((x + 1) + (nI (ac))) * 2)) ∧ M2 46 3 = nI (ra + 4))) := by
  refine xb_of pX8 (Nat.le_of_ble_eq_true rfl) rfl ?_
  refine xr_aload_n dX8_run_0 0 rfl ?_
  refine xr_iload_n dX8_run_1 1 rfl ?_
  refine xr_callV (As := [.int (41)]) (rest := []) mlX8_56 (g_X8_note 41 (by omega) e_ra) dX8_run_2 s_46 rfl rfl (Nat.le_of_ble_eq_true rfl) (by decide) ⟨by decide, by decide⟩ (fun v s2 M2 J2 hq => ?_)
  obtain ⟨rfl, rfl, rfl, k3, hx1⟩ := hq
  try dsimp only [Option.toList, List.cons_append, List.nil_append]
  refine xr_iload_n dX8_run_5 1 rfl ?_
  refine xr_lookup (tgt := 198) (off := 192) dX8_run_6 (by decide) (by decide) rfl ?_
  refine xr_aload_n dX8_run_198 0 rfl ?_
  refine xr_iload_n dX8_run_199 2 rfl ?_
  refine xr_iconst (v := 1) dX8_run_200 rfl ?_
  refine xr_iload_n dX8_run_201 3 rfl ?_
  refine xr_iconst (v := 1) dX8_run_202 rfl ?_
  refine xr_iadd dX8_run_203 ?_
  refine xr_iload dX8_run_204 4 rfl ?_
  refine xr_callV (As := [.int (3), .int (1), .int ((x + 1)), .int (nI (e))]) (rest := []) mlX8_60 (tu5_above_3_1 (e := e) (ac := ac) (x + 1) (by omega) (by omega) (Eq.trans (k3 46 2 (by decide)) e_b) (by omega) hx1 hac (Eq.trans (k3 46 4 (by decide)) e_ac) (Eq.trans (k3 47 ac (by unfold WTN; omega)) e_k)) dX8_run_206 s_46 rfl rfl (Nat.le_of_ble_eq_true rfl) (by decide) ⟨by decide, by decide⟩ (fun v s2 M6 J2 hq => ?_)
  obtain ⟨r8, rfl, rfl, rfl, k7, ⟨hr5, hx4⟩⟩ := hq
  try dsimp only [Option.toList, List.cons_append, List.nil_append]
  subst hr5
  exact xr_iret dX8_run_209 rfl rfl (⟨_, rfl, rfl, rfl, (Ke.tr (fun _ _ h => h) (Ke.tr (fun _ _ h => h) Ke.rf k3) k7), rfl, hx4⟩)
set_option maxRecDepth 100000 in
set_option maxHeartbeats 4000000 in
theorem tu5_runFrom_5_1 {e ac : Nat} (x : Int32) (he : e + 4 ≤ 30) {l : Launch} {G : xG} {M : xM} {J : xJ} {b ra : Nat} (h_b : b ≤ 50) (e_b : M 46 2 = nI b) (h_ra : ra + 4 ≤ 900) (e_ra : M 46 3 = nI ra) (hac : ac < b) (e_ac : M 46 4 = nI ac) (e_k : M 47 ac = 5) : x_M l G fX8_runFrom 11 0 0 [.ref (46), .int (5), .int (1), .int (x), .int (nI (e))] x_SH M J (qKI WTN M J (fun r M2 => r = (-(((x + 1) + (nI (ac))) * 2)) ∧ M2 46 3 = nI (ra + 4))) := by
  refine xb_of pX8 (Nat.le_of_ble_eq_true rfl) rfl ?_
  refine xr_iload_n dX8_runFrom_0 1 rfl ?_
  refine xr_istore (ls2 := [(5, .int (5)), (0, .ref (46)), (1, .int (5)), (2, .int (1)), (3, .int (x)), (4, .int (nI (e)))]) dX8_runFrom_1 (by decide) rfl ?_
  refine xr_iconst (v := 0) dX8_runFrom_3 rfl ?_
  refine xr_istore (ls2 := [(6, .int (0)), (5, .int (5)), (0, .ref (46)), (1, .int (5)), (2, .int (1)), (3, .int (x)), (4, .int (nI (e)))]) dX8_runFrom_4 (by decide) rfl ?_
  refine xr_iload dX8_runFrom_6 0 rfl ?_
  refine xr_bipush (v := 8) dX8_runFrom_8 rfl ?_
  refine xr_icmp_ge (tgt := 81) dX8_runFrom_10 rfl (fun c => absurd c (by decide)) (fun _ => ?_)
  refine xr_iload dX8_runFrom_13 1 rfl ?_
  refine xb_cN (As := [.int (5)]) (rest := []) mlX8_26 (c_X9_isKind 5) dX8_runFrom_15 rfl rfl (Nat.le_of_ble_eq_true rfl) (by decide) (by decide) ?_
  refine xb_beq (tgt := 81) dX8_runFrom_18 rfl (fun c => absurd (by decide) c) (fun _ => ?_)
  refine xr_getsO slX8_50 dX8_runFrom_21 ?_
  refine xr_iload dX8_runFrom_24 1 rfl ?_
  refine xr_iconst (v := 4) dX8_runFrom_26 rfl ?_
  refine xr_imul dX8_runFrom_27 ?_
  refine xb_top (y := 20) (by decide) ?_
  refine xr_iload_n dX8_runFrom_28 4 rfl ?_
  refine xr_iadd dX8_runFrom_29 ?_
  refine xb_top (y := 21) (by decide) ?_
  refine xr_tabO (by unfold vp_in; decide) dX8_runFrom_30 ?_
  refine xb_top (y := 0) (by decide) ?_
  refine xr_if_eq (tgt := 67) dX8_runFrom_31 rfl (fun _ => ?_) (fun c => absurd (by decide) c)
  refine xr_getsA slX8_30 dX8_runFrom_67 ?_
  refine xr_iload dX8_runFrom_70 1 rfl ?_
  refine xr_tabA (by unfold vp_in; decide) dX8_runFrom_72 ?_
  refine xb_top (y := 3) (by decide) ?_
  refine xr_istore (ls2 := [(5, .int (3)), (6, .int (0)), (0, .ref (46)), (1, .int (5)), (2, .int (1)), (3, .int (x)), (4, .int (nI (e)))]) dX8_runFrom_73 (by decide) rfl ?_
  refine xr_iinc (v := 1) (ls2 := [(6, .int (1)), (5, .int (3)), (0, .ref (46)), (1, .int (5)), (2, .int (1)), (3, .int (x)), (4, .int (nI (e)))]) dX8_runFrom_75 1 rfl rfl (by decide) rfl ?_
  refine xr_goto (tgt := 6) dX8_runFrom_78 rfl ?_
  refine xr_iload dX8_runFrom_6 0 rfl ?_
  refine xr_bipush (v := 8) dX8_runFrom_8 rfl ?_
  refine xr_icmp_ge (tgt := 81) dX8_runFrom_10 rfl (fun c => absurd c (by decide)) (fun _ => ?_)
  refine xr_iload dX8_runFrom_13 1 rfl ?_
  refine xb_cN (As := [.int (3)]) (rest := []) mlX8_26 (c_X9_isKind 3) dX8_runFrom_15 rfl rfl (Nat.le_of_ble_eq_true rfl) (by decide) (by decide) ?_
  refine xb_beq (tgt := 81) dX8_runFrom_18 rfl (fun c => absurd (by decide) c) (fun _ => ?_)
  refine xr_getsO slX8_50 dX8_runFrom_21 ?_
  refine xr_iload dX8_runFrom_24 1 rfl ?_
  refine xr_iconst (v := 4) dX8_runFrom_26 rfl ?_
  refine xr_imul dX8_runFrom_27 ?_
  refine xb_top (y := 12) (by decide) ?_
  refine xr_iload_n dX8_runFrom_28 4 rfl ?_
  refine xr_iadd dX8_runFrom_29 ?_
  refine xb_top (y := 13) (by decide) ?_
  refine xr_tabO (by unfold vp_in; decide) dX8_runFrom_30 ?_
  refine xb_top (y := 41) (by decide) ?_
  refine xr_if_eq (tgt := 67) dX8_runFrom_31 rfl (fun c => absurd c (by decide)) (fun _ => ?_)
  refine xr_iload dX8_runFrom_34 6 rfl ?_
  refine xr_bipush (v := 30) dX8_runFrom_36 rfl ?_
  refine xr_icmp_ge (tgt := 65) dX8_runFrom_38 rfl (fun c => absurd c (nI_ge (a := e) (b := 30) (by omega) (by omega))) (fun _ => ?_)
  refine xr_aload_n dX8_runFrom_41 2 rfl ?_
  refine xr_getsO slX8_50 dX8_runFrom_42 ?_
  refine xr_iload dX8_runFrom_45 1 rfl ?_
  refine xr_iconst (v := 4) dX8_runFrom_47 rfl ?_
  refine xr_imul dX8_runFrom_48 ?_
  refine xb_top (y := 12) (by decide) ?_
  refine xr_iload_n dX8_runFrom_49 4 rfl ?_
  refine xr_iadd dX8_runFrom_50 ?_
  refine xb_top (y := 13) (by decide) ?_
  refine xr_tabO (by unfold vp_in; decide) dX8_runFrom_51 ?_
  refine xb_top (y := 41) (by decide) ?_
  refine xr_iload dX8_runFrom_52 1 rfl ?_
  refine xr_iload_n dX8_runFrom_54 5 rfl ?_
  refine xr_iload dX8_runFrom_55 6 rfl ?_
  refine xr_iconst (v := 1) dX8_runFrom_57 rfl ?_
  refine xr_iadd dX8_runFrom_58 ?_
  refine xb_top (y := nI (e + 1)) (nI_add (e) (1)) ?_
  refine xr_callV (As := [.int (41), .int (3), .int (x), .int (nI (e + 1))]) (rest := []) mlX8_53 (tu5_run_41_3 (e := e + 1) (ac := ac) x (by omega) (by omega) e_b (by omega) e_ra hac e_ac e_k) dX8_runFrom_59 s_46 rfl rfl (Nat.le_of_ble_eq_true rfl) (by decide) ⟨by decide, by decide⟩ (fun v s2 M5 J2 hq => ?_)
  obtain ⟨r7, rfl, rfl, rfl, k6, ⟨hr4, hx3⟩⟩ := hq
  try dsimp only [Option.toList, List.cons_append, List.nil_append]
  subst hr4
  refine xr_goto (tgt := 66) dX8_runFrom_62 rfl ?_
  exact xr_iret dX8_runFrom_66 rfl rfl (⟨_, rfl, rfl, rfl, (Ke.tr (fun _ _ h => h) Ke.rf k6), rfl, hx3⟩)
set_option maxRecDepth 100000 in
set_option maxHeartbeats 4000000 in
theorem tu5_own_1 {e ac : Nat} (x : Int32) (he : e + 4 ≤ 30) {l : Launch} {G : xG} {M : xM} {J : xJ} {b ra : Nat} (h_b : b ≤ 50) (e_b : M 46 2 = nI b) (h_ra : ra + 4 ≤ 900) (e_ra : M 46 3 = nI ra) (hac : ac < b) (e_ac : M 46 4 = nI ac) (e_k : M 47 ac = 5) : x_M l G fX8_own 12 0 0 [.ref (46), .int (1), .int (x), .int (nI (e))] x_SH M J (qKI WTN M J (fun r M2 => r = (-(((x + 1) + (nI (ac))) * 2)) ∧ M2 46 3 = nI (ra + 4))) := by
  refine xb_of pX8 (Nat.le_of_ble_eq_true rfl) rfl ?_
  refine xr_aload_n dX8_own_0 0 rfl ?_
  refine xr_aload_n dX8_own_1 0 rfl ?_
  refine xb_get (v := nI (ac)) flX8_36 dX8_own_2 s_46 rfl e_ac ?_
  refine xb_cV (As := [.int (nI (ac))]) (rest := []) mlX8_43 (c_X8_has (nI (ac)) (by omega) e_b) dX8_own_5 s_46 rfl rfl (Nat.le_of_ble_eq_true rfl) (by decide) (by decide) ?_
  refine xb_beq (tgt := 30) dX8_own_8 rfl (fun c => absurd ⟨nI_pos' (by omega), nI_lt (by omega) (by omega)⟩ c) (fun _ => ?_)
  refine xr_aload_n dX8_own_11 0 rfl ?_
  refine xr_aload_n dX8_own_12 0 rfl ?_
  refine xr_getR flX8_9 dX8_own_13 s_46 rfl ?_
  refine xr_aload_n dX8_own_16 0 rfl ?_
  refine xb_get (v := nI (ac)) flX8_36 dX8_own_17 s_46 rfl e_ac ?_
  refine xb_iald (j := ac) (v := 5) dX8_own_20 s_47 (by omega) (by decide) e_k ?_
  refine xr_iload_n dX8_own_21 1 rfl ?_
  refine xr_iload_n dX8_own_22 2 rfl ?_
  refine xr_iload_n dX8_own_23 3 rfl ?_
  refine xr_callV (As := [.int (5), .int (1), .int (x), .int (nI (e))]) (rest := []) mlX8_46 (tu5_runFrom_5_1 (e := e) (ac := ac) x (by omega) (by omega) e_b (by omega) e_ra hac e_ac e_k) dX8_own_24 s_46 rfl rfl (Nat.le_of_ble_eq_true rfl) (by decide) ⟨by decide, by decide⟩ (fun v s2 M4 J2 hq => ?_)
  obtain ⟨r6, rfl, rfl, rfl, k5, ⟨hr3, hx2⟩⟩ := hq
  try dsimp only [Option.toList, List.cons_append, List.nil_append]
  subst hr3
  refine xr_goto (tgt := 31) dX8_own_27 rfl ?_
  exact xr_iret dX8_own_31 rfl rfl (⟨_, rfl, rfl, rfl, (Ke.tr (fun _ _ h => h) Ke.rf k5), rfl, hx2⟩)
set_option maxRecDepth 100000 in
set_option maxHeartbeats 4000000 in
theorem tu5_run_11_0 {e ac : Nat} (x : Int32) (he : e + 0 ≤ 30) {l : Launch} {G : xG} {M : xM} {J : xJ} {b ra : Nat} (h_b : b ≤ 50) (e_b : M 46 2 = nI b) (h_ra : ra + 1 ≤ 900) (e_ra : M 46 3 = nI ra) (hac : ac < b) (e_ac : M 46 4 = nI ac) (e_k : M 47 ac = 5) : x_M l G fX8_run 1 0 0 [.ref (46), .int (11), .int (0), .int (x), .int (nI (e))] x_SH M J (qKI WTN M J (fun r M2 => r = (x ^^^ (nI (ac))) ∧ M2 46 3 = nI (ra + 1))) := by
  refine xb_of pX8 (Nat.le_of_ble_eq_true rfl) rfl ?_
  refine xr_aload_n dX8_run_0 0 rfl ?_
  refine xr_iload_n dX8_run_1 1 rfl ?_
  refine xr_callV (As := [.int (11)]) (rest := []) mlX8_56 (g_X8_note 11 (by omega) e_ra) dX8_run_2 s_46 rfl rfl (Nat.le_of_ble_eq_true rfl) (by decide) ⟨by decide, by decide⟩ (fun v s2 M2 J2 hq => ?_)
  obtain ⟨rfl, rfl, rfl, k3, hx1⟩ := hq
  try dsimp only [Option.toList, List.cons_append, List.nil_append]
  refine xr_iload_n dX8_run_5 1 rfl ?_
  refine xr_lookup (tgt := 156) (off := 150) dX8_run_6 (by decide) (by decide) rfl ?_
  refine xr_iload_n dX8_run_156 3 rfl ?_
  refine xr_aload_n dX8_run_157 0 rfl ?_
  refine xb_get (v := nI (ac)) flX8_36 dX8_run_158 s_46 rfl (Eq.trans (k3 46 4 (by decide)) e_ac) ?_
  refine xr_ixor dX8_run_161 ?_
  exact xr_iret dX8_run_162 rfl rfl (⟨_, rfl, rfl, rfl, (Ke.tr (fun _ _ h => h) Ke.rf k3), rfl, hx1⟩)
set_option maxRecDepth 100000 in
set_option maxHeartbeats 4000000 in
theorem tu5_runFrom_2_2 {e ac : Nat} (x : Int32) (he : e + 1 ≤ 30) {l : Launch} {G : xG} {M : xM} {J : xJ} {b ra : Nat} (h_b : b ≤ 50) (e_b : M 46 2 = nI b) (h_ra : ra + 1 ≤ 900) (e_ra : M 46 3 = nI ra) (hac : ac < b) (e_ac : M 46 4 = nI ac) (e_k : M 47 ac = 5) : x_M l G fX8_runFrom 2 0 0 [.ref (46), .int (2), .int (2), .int (x), .int (nI (e))] x_SH M J (qKI WTN M J (fun r M2 => r = (x ^^^ (nI (ac))) ∧ M2 46 3 = nI (ra + 1))) := by
  refine xb_of pX8 (Nat.le_of_ble_eq_true rfl) rfl ?_
  refine xr_iload_n dX8_runFrom_0 1 rfl ?_
  refine xr_istore (ls2 := [(5, .int (2)), (0, .ref (46)), (1, .int (2)), (2, .int (2)), (3, .int (x)), (4, .int (nI (e)))]) dX8_runFrom_1 (by decide) rfl ?_
  refine xr_iconst (v := 0) dX8_runFrom_3 rfl ?_
  refine xr_istore (ls2 := [(6, .int (0)), (5, .int (2)), (0, .ref (46)), (1, .int (2)), (2, .int (2)), (3, .int (x)), (4, .int (nI (e)))]) dX8_runFrom_4 (by decide) rfl ?_
  refine xr_iload dX8_runFrom_6 0 rfl ?_
  refine xr_bipush (v := 8) dX8_runFrom_8 rfl ?_
  refine xr_icmp_ge (tgt := 81) dX8_runFrom_10 rfl (fun c => absurd c (by decide)) (fun _ => ?_)
  refine xr_iload dX8_runFrom_13 1 rfl ?_
  refine xb_cN (As := [.int (2)]) (rest := []) mlX8_26 (c_X9_isKind 2) dX8_runFrom_15 rfl rfl (Nat.le_of_ble_eq_true rfl) (by decide) (by decide) ?_
  refine xb_beq (tgt := 81) dX8_runFrom_18 rfl (fun c => absurd (by decide) c) (fun _ => ?_)
  refine xr_getsO slX8_50 dX8_runFrom_21 ?_
  refine xr_iload dX8_runFrom_24 1 rfl ?_
  refine xr_iconst (v := 4) dX8_runFrom_26 rfl ?_
  refine xr_imul dX8_runFrom_27 ?_
  refine xb_top (y := 8) (by decide) ?_
  refine xr_iload_n dX8_runFrom_28 4 rfl ?_
  refine xr_iadd dX8_runFrom_29 ?_
  refine xb_top (y := 10) (by decide) ?_
  refine xr_tabO (by unfold vp_in; decide) dX8_runFrom_30 ?_
  refine xb_top (y := 0) (by decide) ?_
  refine xr_if_eq (tgt := 67) dX8_runFrom_31 rfl (fun _ => ?_) (fun c => absurd (by decide) c)
  refine xr_getsA slX8_30 dX8_runFrom_67 ?_
  refine xr_iload dX8_runFrom_70 1 rfl ?_
  refine xr_tabA (by unfold vp_in; decide) dX8_runFrom_72 ?_
  refine xb_top (y := 0) (by decide) ?_
  refine xr_istore (ls2 := [(5, .int (0)), (6, .int (0)), (0, .ref (46)), (1, .int (2)), (2, .int (2)), (3, .int (x)), (4, .int (nI (e)))]) dX8_runFrom_73 (by decide) rfl ?_
  refine xr_iinc (v := 1) (ls2 := [(6, .int (1)), (5, .int (0)), (0, .ref (46)), (1, .int (2)), (2, .int (2)), (3, .int (x)), (4, .int (nI (e)))]) dX8_runFrom_75 1 rfl rfl (by decide) rfl ?_
  refine xr_goto (tgt := 6) dX8_runFrom_78 rfl ?_
  refine xr_iload dX8_runFrom_6 0 rfl ?_
  refine xr_bipush (v := 8) dX8_runFrom_8 rfl ?_
  refine xr_icmp_ge (tgt := 81) dX8_runFrom_10 rfl (fun c => absurd c (by decide)) (fun _ => ?_)
  refine xr_iload dX8_runFrom_13 1 rfl ?_
  refine xb_cN (As := [.int (0)]) (rest := []) mlX8_26 (c_X9_isKind 0) dX8_runFrom_15 rfl rfl (Nat.le_of_ble_eq_true rfl) (by decide) (by decide) ?_
  refine xb_beq (tgt := 81) dX8_runFrom_18 rfl (fun c => absurd (by decide) c) (fun _ => ?_)
  refine xr_getsO slX8_50 dX8_runFrom_21 ?_
  refine xr_iload dX8_runFrom_24 1 rfl ?_
  refine xr_iconst (v := 4) dX8_runFrom_26 rfl ?_
  refine xr_imul dX8_runFrom_27 ?_
  refine xb_top (y := 0) (by decide) ?_
  refine xr_iload_n dX8_runFrom_28 4 rfl ?_
  refine xr_iadd dX8_runFrom_29 ?_
  refine xb_top (y := 2) (by decide) ?_
  refine xr_tabO (by unfold vp_in; decide) dX8_runFrom_30 ?_
  refine xb_top (y := 11) (by decide) ?_
  refine xr_if_eq (tgt := 67) dX8_runFrom_31 rfl (fun c => absurd c (by decide)) (fun _ => ?_)
  refine xr_iload dX8_runFrom_34 6 rfl ?_
  refine xr_bipush (v := 30) dX8_runFrom_36 rfl ?_
  refine xr_icmp_ge (tgt := 65) dX8_runFrom_38 rfl (fun c => absurd c (nI_ge (a := e) (b := 30) (by omega) (by omega))) (fun _ => ?_)
  refine xr_aload_n dX8_runFrom_41 2 rfl ?_
  refine xr_getsO slX8_50 dX8_runFrom_42 ?_
  refine xr_iload dX8_runFrom_45 1 rfl ?_
  refine xr_iconst (v := 4) dX8_runFrom_47 rfl ?_
  refine xr_imul dX8_runFrom_48 ?_
  refine xb_top (y := 0) (by decide) ?_
  refine xr_iload_n dX8_runFrom_49 4 rfl ?_
  refine xr_iadd dX8_runFrom_50 ?_
  refine xb_top (y := 2) (by decide) ?_
  refine xr_tabO (by unfold vp_in; decide) dX8_runFrom_51 ?_
  refine xb_top (y := 11) (by decide) ?_
  refine xr_iload dX8_runFrom_52 1 rfl ?_
  refine xr_iload_n dX8_runFrom_54 5 rfl ?_
  refine xr_iload dX8_runFrom_55 6 rfl ?_
  refine xr_iconst (v := 1) dX8_runFrom_57 rfl ?_
  refine xr_iadd dX8_runFrom_58 ?_
  refine xb_top (y := nI (e + 1)) (nI_add (e) (1)) ?_
  refine xr_callV (As := [.int (11), .int (0), .int (x), .int (nI (e + 1))]) (rest := []) mlX8_53 (tu5_run_11_0 (e := e + 1) (ac := ac) x (by omega) (by omega) e_b (by omega) e_ra hac e_ac e_k) dX8_runFrom_59 s_46 rfl rfl (Nat.le_of_ble_eq_true rfl) (by decide) ⟨by decide, by decide⟩ (fun v s2 M5 J2 hq => ?_)
  obtain ⟨r7, rfl, rfl, rfl, k6, ⟨hr4, hx3⟩⟩ := hq
  try dsimp only [Option.toList, List.cons_append, List.nil_append]
  subst hr4
  refine xr_goto (tgt := 66) dX8_runFrom_62 rfl ?_
  exact xr_iret dX8_runFrom_66 rfl rfl (⟨_, rfl, rfl, rfl, (Ke.tr (fun _ _ h => h) Ke.rf k6), rfl, hx3⟩)
set_option maxRecDepth 100000 in
set_option maxHeartbeats 4000000 in
theorem tu5_above_3_2 {e ac : Nat} (x : Int32) (he : e + 1 ≤ 30) {l : Launch} {G : xG} {M : xM} {J : xJ} {b ra : Nat} (h_b : b ≤ 50) (e_b : M 46 2 = nI b) (h_ra : ra + 1 ≤ 900) (e_ra : M 46 3 = nI ra) (hac : ac < b) (e_ac : M 46 4 = nI ac) (e_k : M 47 ac = 5) : x_M l G fX8_above 3 0 0 [.ref (46), .int (3), .int (2), .int (x), .int (nI (e))] x_SH M J (qKI WTN M J (fun r M2 => r = (x ^^^ (nI (ac))) ∧ M2 46 3 = nI (ra + 1))) := by
  refine xb_of pX8 (Nat.le_of_ble_eq_true rfl) rfl ?_
  refine xr_iload_n dX8_above_0 1 rfl ?_
  refine xb_cN (As := [.int (3)]) (rest := []) mlX8_26 (c_X9_isKind 3) dX8_above_1 rfl rfl (Nat.le_of_ble_eq_true rfl) (by decide) (by decide) ?_
  refine xb_beq (tgt := 23) dX8_above_4 rfl (fun c => absurd (by decide) c) (fun _ => ?_)
  refine xr_aload_n dX8_above_7 0 rfl ?_
  refine xr_getsA slX8_30 dX8_above_8 ?_
  refine xr_iload_n dX8_above_11 1 rfl ?_
  refine xr_tabA (by unfold vp_in; decide) dX8_above_12 ?_
  refine xb_top (y := 2) (by decide) ?_
  refine xr_iload_n dX8_above_13 2 rfl ?_
  refine xr_iload_n dX8_above_14 3 rfl ?_
  refine xr_iload dX8_above_15 4 rfl ?_
  refine xr_callV (As := [.int (2), .int (2), .int (x), .int (nI (e))]) (rest := []) mlX8_46 (tu5_runFrom_2_2 (e := e) (ac := ac) x (by omega) (by omega) e_b (by omega) e_ra hac e_ac e_k) dX8_above_17 s_46 rfl rfl (Nat.le_of_ble_eq_true rfl) (by decide) ⟨by decide, by decide⟩ (fun v s2 M4 J2 hq => ?_)
  obtain ⟨r6, rfl, rfl, rfl, k5, ⟨hr3, hx2⟩⟩ := hq
  try dsimp only [Option.toList, List.cons_append, List.nil_append]
  subst hr3
  refine xr_goto (tgt := 24) dX8_above_20 rfl ?_
  exact xr_iret dX8_above_24 rfl rfl (⟨_, rfl, rfl, rfl, (Ke.tr (fun _ _ h => h) Ke.rf k5), rfl, hx2⟩)
set_option maxRecDepth 100000 in
set_option maxHeartbeats 4000000 in
theorem tu5_run_40_3 {e ac : Nat} (x : Int32) (he : e + 1 ≤ 30) {l : Launch} {G : xG} {M : xM} {J : xJ} {b ra : Nat} (h_b : b ≤ 50) (e_b : M 46 2 = nI b) (h_ra : ra + 2 ≤ 900) (e_ra : M 46 3 = nI ra) (hac : ac < b) (e_ac : M 46 4 = nI ac) (e_k : M 47 ac = 5) : x_M l G fX8_run 4 0 0 [.ref (46), .int (40), .int (3), .int (x), .int (nI (e))] x_SH M J (qKI WTN M J (fun r M2 => r = ((x ^^^ (nI (ac))) * 3) ∧ M2 46 3 = nI (ra + 2))) := by
  refine xb_of pX8 (Nat.le_of_ble_eq_true rfl) rfl ?_
  refine xr_aload_n dX8_run_0 0 rfl ?_
  refine xr_iload_n dX8_run_1 1 rfl ?_
  refine xr_callV (As := [.int (40)]) (rest := []) mlX8_56 (g_X8_note 40 (by omega) e_ra) dX8_run_2 s_46 rfl rfl (Nat.le_of_ble_eq_true rfl) (by decide) ⟨by decide, by decide⟩ (fun v s2 M2 J2 hq => ?_)
  obtain ⟨rfl, rfl, rfl, k3, hx1⟩ := hq
  try dsimp only [Option.toList, List.cons_append, List.nil_append]
  refine xr_iload_n dX8_run_5 1 rfl ?_
  refine xr_lookup (tgt := 186) (off := 180) dX8_run_6 (by decide) (by decide) rfl ?_
  refine xr_aload_n dX8_run_186 0 rfl ?_
  refine xr_iload_n dX8_run_187 2 rfl ?_
  refine xr_iconst (v := 2) dX8_run_188 rfl ?_
  refine xr_iload_n dX8_run_189 3 rfl ?_
  refine xr_iload dX8_run_190 4 rfl ?_
  refine xr_callV (As := [.int (3), .int (2), .int (x), .int (nI (e))]) (rest := []) mlX8_60 (tu5_above_3_2 (e := e) (ac := ac) x (by omega) (by omega) (Eq.trans (k3 46 2 (by decide)) e_b) (by omega) hx1 hac (Eq.trans (k3 46 4 (by decide)) e_ac) (Eq.trans (k3 47 ac (by unfold WTN; omega)) e_k)) dX8_run_192 s_46 rfl rfl (Nat.le_of_ble_eq_true rfl) (by decide) ⟨by decide, by decide⟩ (fun v s2 M6 J2 hq => ?_)
  obtain ⟨r8, rfl, rfl, rfl, k7, ⟨hr5, hx4⟩⟩ := hq
  try dsimp only [Option.toList, List.cons_append, List.nil_append]
  subst hr5
  refine xr_iconst (v := 3) dX8_run_195 rfl ?_
  refine xr_imul dX8_run_196 ?_
  exact xr_iret dX8_run_197 rfl rfl (⟨_, rfl, rfl, rfl, (Ke.tr (fun _ _ h => h) (Ke.tr (fun _ _ h => h) Ke.rf k3) k7), rfl, hx4⟩)
set_option maxRecDepth 100000 in
set_option maxHeartbeats 4000000 in
theorem tu5_runFrom_5_2 {e ac : Nat} (x : Int32) (he : e + 2 ≤ 30) {l : Launch} {G : xG} {M : xM} {J : xJ} {b ra : Nat} (h_b : b ≤ 50) (e_b : M 46 2 = nI b) (h_ra : ra + 2 ≤ 900) (e_ra : M 46 3 = nI ra) (hac : ac < b) (e_ac : M 46 4 = nI ac) (e_k : M 47 ac = 5) : x_M l G fX8_runFrom 5 0 0 [.ref (46), .int (5), .int (2), .int (x), .int (nI (e))] x_SH M J (qKI WTN M J (fun r M2 => r = ((x ^^^ (nI (ac))) * 3) ∧ M2 46 3 = nI (ra + 2))) := by
  refine xb_of pX8 (Nat.le_of_ble_eq_true rfl) rfl ?_
  refine xr_iload_n dX8_runFrom_0 1 rfl ?_
  refine xr_istore (ls2 := [(5, .int (5)), (0, .ref (46)), (1, .int (5)), (2, .int (2)), (3, .int (x)), (4, .int (nI (e)))]) dX8_runFrom_1 (by decide) rfl ?_
  refine xr_iconst (v := 0) dX8_runFrom_3 rfl ?_
  refine xr_istore (ls2 := [(6, .int (0)), (5, .int (5)), (0, .ref (46)), (1, .int (5)), (2, .int (2)), (3, .int (x)), (4, .int (nI (e)))]) dX8_runFrom_4 (by decide) rfl ?_
  refine xr_iload dX8_runFrom_6 0 rfl ?_
  refine xr_bipush (v := 8) dX8_runFrom_8 rfl ?_
  refine xr_icmp_ge (tgt := 81) dX8_runFrom_10 rfl (fun c => absurd c (by decide)) (fun _ => ?_)
  refine xr_iload dX8_runFrom_13 1 rfl ?_
  refine xb_cN (As := [.int (5)]) (rest := []) mlX8_26 (c_X9_isKind 5) dX8_runFrom_15 rfl rfl (Nat.le_of_ble_eq_true rfl) (by decide) (by decide) ?_
  refine xb_beq (tgt := 81) dX8_runFrom_18 rfl (fun c => absurd (by decide) c) (fun _ => ?_)
  refine xr_getsO slX8_50 dX8_runFrom_21 ?_
  refine xr_iload dX8_runFrom_24 1 rfl ?_
  refine xr_iconst (v := 4) dX8_runFrom_26 rfl ?_
  refine xr_imul dX8_runFrom_27 ?_
  refine xb_top (y := 20) (by decide) ?_
  refine xr_iload_n dX8_runFrom_28 4 rfl ?_
  refine xr_iadd dX8_runFrom_29 ?_
  refine xb_top (y := 22) (by decide) ?_
  refine xr_tabO (by unfold vp_in; decide) dX8_runFrom_30 ?_
  refine xb_top (y := 0) (by decide) ?_
  refine xr_if_eq (tgt := 67) dX8_runFrom_31 rfl (fun _ => ?_) (fun c => absurd (by decide) c)
  refine xr_getsA slX8_30 dX8_runFrom_67 ?_
  refine xr_iload dX8_runFrom_70 1 rfl ?_
  refine xr_tabA (by unfold vp_in; decide) dX8_runFrom_72 ?_
  refine xb_top (y := 3) (by decide) ?_
  refine xr_istore (ls2 := [(5, .int (3)), (6, .int (0)), (0, .ref (46)), (1, .int (5)), (2, .int (2)), (3, .int (x)), (4, .int (nI (e)))]) dX8_runFrom_73 (by decide) rfl ?_
  refine xr_iinc (v := 1) (ls2 := [(6, .int (1)), (5, .int (3)), (0, .ref (46)), (1, .int (5)), (2, .int (2)), (3, .int (x)), (4, .int (nI (e)))]) dX8_runFrom_75 1 rfl rfl (by decide) rfl ?_
  refine xr_goto (tgt := 6) dX8_runFrom_78 rfl ?_
  refine xr_iload dX8_runFrom_6 0 rfl ?_
  refine xr_bipush (v := 8) dX8_runFrom_8 rfl ?_
  refine xr_icmp_ge (tgt := 81) dX8_runFrom_10 rfl (fun c => absurd c (by decide)) (fun _ => ?_)
  refine xr_iload dX8_runFrom_13 1 rfl ?_
  refine xb_cN (As := [.int (3)]) (rest := []) mlX8_26 (c_X9_isKind 3) dX8_runFrom_15 rfl rfl (Nat.le_of_ble_eq_true rfl) (by decide) (by decide) ?_
  refine xb_beq (tgt := 81) dX8_runFrom_18 rfl (fun c => absurd (by decide) c) (fun _ => ?_)
  refine xr_getsO slX8_50 dX8_runFrom_21 ?_
  refine xr_iload dX8_runFrom_24 1 rfl ?_
  refine xr_iconst (v := 4) dX8_runFrom_26 rfl ?_
  refine xr_imul dX8_runFrom_27 ?_
  refine xb_top (y := 12) (by decide) ?_
  refine xr_iload_n dX8_runFrom_28 4 rfl ?_
  refine xr_iadd dX8_runFrom_29 ?_
  refine xb_top (y := 14) (by decide) ?_
  refine xr_tabO (by unfold vp_in; decide) dX8_runFrom_30 ?_
  refine xb_top (y := 40) (by decide) ?_
  refine xr_if_eq (tgt := 67) dX8_runFrom_31 rfl (fun c => absurd c (by decide)) (fun _ => ?_)
  refine xr_iload dX8_runFrom_34 6 rfl ?_
  refine xr_bipush (v := 30) dX8_runFrom_36 rfl ?_
  refine xr_icmp_ge (tgt := 65) dX8_runFrom_38 rfl (fun c => absurd c (nI_ge (a := e) (b := 30) (by omega) (by omega))) (fun _ => ?_)
  refine xr_aload_n dX8_runFrom_41 2 rfl ?_
  refine xr_getsO slX8_50 dX8_runFrom_42 ?_
  refine xr_iload dX8_runFrom_45 1 rfl ?_
  refine xr_iconst (v := 4) dX8_runFrom_47 rfl ?_
  refine xr_imul dX8_runFrom_48 ?_
  refine xb_top (y := 12) (by decide) ?_
  refine xr_iload_n dX8_runFrom_49 4 rfl ?_
  refine xr_iadd dX8_runFrom_50 ?_
  refine xb_top (y := 14) (by decide) ?_
  refine xr_tabO (by unfold vp_in; decide) dX8_runFrom_51 ?_
  refine xb_top (y := 40) (by decide) ?_
  refine xr_iload dX8_runFrom_52 1 rfl ?_
  refine xr_iload_n dX8_runFrom_54 5 rfl ?_
  refine xr_iload dX8_runFrom_55 6 rfl ?_
  refine xr_iconst (v := 1) dX8_runFrom_57 rfl ?_
  refine xr_iadd dX8_runFrom_58 ?_
  refine xb_top (y := nI (e + 1)) (nI_add (e) (1)) ?_
  refine xr_callV (As := [.int (40), .int (3), .int (x), .int (nI (e + 1))]) (rest := []) mlX8_53 (tu5_run_40_3 (e := e + 1) (ac := ac) x (by omega) (by omega) e_b (by omega) e_ra hac e_ac e_k) dX8_runFrom_59 s_46 rfl rfl (Nat.le_of_ble_eq_true rfl) (by decide) ⟨by decide, by decide⟩ (fun v s2 M5 J2 hq => ?_)
  obtain ⟨r7, rfl, rfl, rfl, k6, ⟨hr4, hx3⟩⟩ := hq
  try dsimp only [Option.toList, List.cons_append, List.nil_append]
  subst hr4
  refine xr_goto (tgt := 66) dX8_runFrom_62 rfl ?_
  exact xr_iret dX8_runFrom_66 rfl rfl (⟨_, rfl, rfl, rfl, (Ke.tr (fun _ _ h => h) Ke.rf k6), rfl, hx3⟩)
set_option maxRecDepth 100000 in
set_option maxHeartbeats 4000000 in
theorem tu5_own_2 {e ac : Nat} (x : Int32) (he : e + 2 ≤ 30) {l : Launch} {G : xG} {M : xM} {J : xJ} {b ra : Nat} (h_b : b ≤ 50) (e_b : M 46 2 = nI b) (h_ra : ra + 2 ≤ 900) (e_ra : M 46 3 = nI ra) (hac : ac < b) (e_ac : M 46 4 = nI ac) (e_k : M 47 ac = 5) : x_M l G fX8_own 6 0 0 [.ref (46), .int (2), .int (x), .int (nI (e))] x_SH M J (qKI WTN M J (fun r M2 => r = ((x ^^^ (nI (ac))) * 3) ∧ M2 46 3 = nI (ra + 2))) := by
  refine xb_of pX8 (Nat.le_of_ble_eq_true rfl) rfl ?_
  refine xr_aload_n dX8_own_0 0 rfl ?_
  refine xr_aload_n dX8_own_1 0 rfl ?_
  refine xb_get (v := nI (ac)) flX8_36 dX8_own_2 s_46 rfl e_ac ?_
  refine xb_cV (As := [.int (nI (ac))]) (rest := []) mlX8_43 (c_X8_has (nI (ac)) (by omega) e_b) dX8_own_5 s_46 rfl rfl (Nat.le_of_ble_eq_true rfl) (by decide) (by decide) ?_
  refine xb_beq (tgt := 30) dX8_own_8 rfl (fun c => absurd ⟨nI_pos' (by omega), nI_lt (by omega) (by omega)⟩ c) (fun _ => ?_)
  refine xr_aload_n dX8_own_11 0 rfl ?_
  refine xr_aload_n dX8_own_12 0 rfl ?_
  refine xr_getR flX8_9 dX8_own_13 s_46 rfl ?_
  refine xr_aload_n dX8_own_16 0 rfl ?_
  refine xb_get (v := nI (ac)) flX8_36 dX8_own_17 s_46 rfl e_ac ?_
  refine xb_iald (j := ac) (v := 5) dX8_own_20 s_47 (by omega) (by decide) e_k ?_
  refine xr_iload_n dX8_own_21 1 rfl ?_
  refine xr_iload_n dX8_own_22 2 rfl ?_
  refine xr_iload_n dX8_own_23 3 rfl ?_
  refine xr_callV (As := [.int (5), .int (2), .int (x), .int (nI (e))]) (rest := []) mlX8_46 (tu5_runFrom_5_2 (e := e) (ac := ac) x (by omega) (by omega) e_b (by omega) e_ra hac e_ac e_k) dX8_own_24 s_46 rfl rfl (Nat.le_of_ble_eq_true rfl) (by decide) ⟨by decide, by decide⟩ (fun v s2 M4 J2 hq => ?_)
  obtain ⟨r6, rfl, rfl, rfl, k5, ⟨hr3, hx2⟩⟩ := hq
  try dsimp only [Option.toList, List.cons_append, List.nil_append]
  subst hr3
  refine xr_goto (tgt := 31) dX8_own_27 rfl ?_
  exact xr_iret dX8_own_31 rfl rfl (⟨_, rfl, rfl, rfl, (Ke.tr (fun _ _ h => h) Ke.rf k5), rfl, hx2⟩)
set_option maxRecDepth 100000 in
set_option maxHeartbeats 4000000 in
theorem tu5_run_2_0 {e ac : Nat} (x : Int32) (he : e + 4 ≤ 30) {l : Launch} {G : xG} {M : xM} {J : xJ} {b ra : Nat} (h_b : b ≤ 50) (e_b : M 46 2 = nI b) (h_ra : ra + 7 ≤ 900) (e_ra : M 46 3 = nI ra) (hac : ac < b) (e_ac : M 46 4 = nI ac) (e_k : M 47 ac = 5) : x_M l G fX8_run 13 0 0 [.ref (46), .int (2), .int (0), .int (x), .int (nI (e))] x_SH M J (qKI WTN M J (fun r M2 => r = ((-(((x + 1) + (nI (ac))) * 2)) - ((1 ^^^ (nI (ac))) * 3)) ∧ M2 46 3 = nI (ra + 7))) := by
  refine xb_of pX8 (Nat.le_of_ble_eq_true rfl) rfl ?_
  refine xr_aload_n dX8_run_0 0 rfl ?_
  refine xr_iload_n dX8_run_1 1 rfl ?_
  refine xr_callV (As := [.int (2)]) (rest := []) mlX8_56 (g_X8_note 2 (by omega) e_ra) dX8_run_2 s_46 rfl rfl (Nat.le_of_ble_eq_true rfl) (by decide) ⟨by decide, by decide⟩ (fun v s2 M2 J2 hq => ?_)
  obtain ⟨rfl, rfl, rfl, k3, hx1⟩ := hq
  try dsimp only [Option.toList, List.cons_append, List.nil_append]
  refine xr_iload_n dX8_run_5 1 rfl ?_
  refine xr_lookup (tgt := 127) (off := 121) dX8_run_6 (by decide) (by decide) rfl ?_
  refine xr_aload_n dX8_run_127 0 rfl ?_
  refine xr_iconst (v := 1) dX8_run_128 rfl ?_
  refine xr_iload_n dX8_run_129 3 rfl ?_
  refine xr_iload dX8_run_130 4 rfl ?_
  refine xr_callV (As := [.int (1), .int (x), .int (nI (e))]) (rest := []) mlX8_39 (tu5_own_1 (e := e) (ac := ac) x (by omega) (by omega) (Eq.trans (k3 46 2 (by decide)) e_b) (by omega) hx1 hac (Eq.trans (k3 46 4 (by decide)) e_ac) (Eq.trans (k3 47 ac (by unfold WTN; omega)) e_k)) dX8_run_132 s_46 rfl rfl (Nat.le_of_ble_eq_true rfl) (by decide) ⟨by decide, by decide⟩ (fun v s2 M6 J2 hq => ?_)
  obtain ⟨r8, rfl, rfl, rfl, k7, ⟨hr5, hx4⟩⟩ := hq
  try dsimp only [Option.toList, List.cons_append, List.nil_append]
  subst hr5
  refine xr_aload_n dX8_run_135 0 rfl ?_
  refine xr_iconst (v := 2) dX8_run_136 rfl ?_
  refine xr_iconst (v := 1) dX8_run_137 rfl ?_
  refine xr_iload dX8_run_138 4 rfl ?_
  refine xr_callV (As := [.int (2), .int (1), .int (nI (e))]) (rest := [.int ((-(((x + 1) + (nI (ac))) * 2)))]) mlX8_39 (tu5_own_2 (e := e) (ac := ac) 1 (by omega) (by omega) (Eq.trans (k7 46 2 (by decide)) (Eq.trans (k3 46 2 (by decide)) e_b)) (by omega) hx4 hac (Eq.trans (k7 46 4 (by decide)) (Eq.trans (k3 46 4 (by decide)) e_ac)) (Eq.trans (k7 47 ac (by unfold WTN; omega)) (Eq.trans (k3 47 ac (by unfold WTN; omega)) e_k))) dX8_run_140 s_46 rfl rfl (Nat.le_of_ble_eq_true rfl) (by decide) ⟨by decide, by decide⟩ (fun v s2 M11 J2 hq => ?_)
  obtain ⟨r13, rfl, rfl, rfl, k12, ⟨hr10, hx9⟩⟩ := hq
  try dsimp only [Option.toList, List.cons_append, List.nil_append]
  subst hr10
  refine xr_isub dX8_run_143 ?_
  exact xr_iret dX8_run_144 rfl rfl (⟨_, rfl, rfl, rfl, (Ke.tr (fun _ _ h => h) (Ke.tr (fun _ _ h => h) (Ke.tr (fun _ _ h => h) Ke.rf k3) k7) k12), rfl, hx9⟩)
set_option maxRecDepth 100000 in
set_option maxHeartbeats 4000000 in
theorem tu5_runFrom_3_3 {e ac : Nat} (x : Int32) (he : e + 5 ≤ 30) {l : Launch} {G : xG} {M : xM} {J : xJ} {b ra : Nat} (h_b : b ≤ 50) (e_b : M 46 2 = nI b) (h_ra : ra + 7 ≤ 900) (e_ra : M 46 3 = nI ra) (hac : ac < b) (e_ac : M 46 4 = nI ac) (e_k : M 47 ac = 5) : x_M l G fX8_runFrom 14 0 0 [.ref (46), .int (3), .int (3), .int (x), .int (nI (e))] x_SH M J (qKI WTN M J (fun r M2 => r = ((-(((x + 1) + (nI (ac))) * 2)) - ((1 ^^^ (nI (ac))) * 3)) ∧ M2 46 3 = nI (ra + 7))) := by
  refine xb_of pX8 (Nat.le_of_ble_eq_true rfl) rfl ?_
  refine xr_iload_n dX8_runFrom_0 1 rfl ?_
  refine xr_istore (ls2 := [(5, .int (3)), (0, .ref (46)), (1, .int (3)), (2, .int (3)), (3, .int (x)), (4, .int (nI (e)))]) dX8_runFrom_1 (by decide) rfl ?_
  refine xr_iconst (v := 0) dX8_runFrom_3 rfl ?_
  refine xr_istore (ls2 := [(6, .int (0)), (5, .int (3)), (0, .ref (46)), (1, .int (3)), (2, .int (3)), (3, .int (x)), (4, .int (nI (e)))]) dX8_runFrom_4 (by decide) rfl ?_
  refine xr_iload dX8_runFrom_6 0 rfl ?_
  refine xr_bipush (v := 8) dX8_runFrom_8 rfl ?_
  refine xr_icmp_ge (tgt := 81) dX8_runFrom_10 rfl (fun c => absurd c (by decide)) (fun _ => ?_)
  refine xr_iload dX8_runFrom_13 1 rfl ?_
  refine xb_cN (As := [.int (3)]) (rest := []) mlX8_26 (c_X9_isKind 3) dX8_runFrom_15 rfl rfl (Nat.le_of_ble_eq_true rfl) (by decide) (by decide) ?_
  refine xb_beq (tgt := 81) dX8_runFrom_18 rfl (fun c => absurd (by decide) c) (fun _ => ?_)
  refine xr_getsO slX8_50 dX8_runFrom_21 ?_
  refine xr_iload dX8_runFrom_24 1 rfl ?_
  refine xr_iconst (v := 4) dX8_runFrom_26 rfl ?_
  refine xr_imul dX8_runFrom_27 ?_
  refine xb_top (y := 12) (by decide) ?_
  refine xr_iload_n dX8_runFrom_28 4 rfl ?_
  refine xr_iadd dX8_runFrom_29 ?_
  refine xb_top (y := 15) (by decide) ?_
  refine xr_tabO (by unfold vp_in; decide) dX8_runFrom_30 ?_
  refine xb_top (y := 0) (by decide) ?_
  refine xr_if_eq (tgt := 67) dX8_runFrom_31 rfl (fun _ => ?_) (fun c => absurd (by decide) c)
  refine xr_getsA slX8_30 dX8_runFrom_67 ?_
  refine xr_iload dX8_runFrom_70 1 rfl ?_
  refine xr_tabA (by unfold vp_in; decide) dX8_runFrom_72 ?_
  refine xb_top (y := 2) (by decide) ?_
  refine xr_istore (ls2 := [(5, .int (2)), (6, .int (0)), (0, .ref (46)), (1, .int (3)), (2, .int (3)), (3, .int (x)), (4, .int (nI (e)))]) dX8_runFrom_73 (by decide) rfl ?_
  refine xr_iinc (v := 1) (ls2 := [(6, .int (1)), (5, .int (2)), (0, .ref (46)), (1, .int (3)), (2, .int (3)), (3, .int (x)), (4, .int (nI (e)))]) dX8_runFrom_75 1 rfl rfl (by decide) rfl ?_
  refine xr_goto (tgt := 6) dX8_runFrom_78 rfl ?_
  refine xr_iload dX8_runFrom_6 0 rfl ?_
  refine xr_bipush (v := 8) dX8_runFrom_8 rfl ?_
  refine xr_icmp_ge (tgt := 81) dX8_runFrom_10 rfl (fun c => absurd c (by decide)) (fun _ => ?_)
  refine xr_iload dX8_runFrom_13 1 rfl ?_
  refine xb_cN (As := [.int (2)]) (rest := []) mlX8_26 (c_X9_isKind 2) dX8_runFrom_15 rfl rfl (Nat.le_of_ble_eq_true rfl) (by decide) (by decide) ?_
  refine xb_beq (tgt := 81) dX8_runFrom_18 rfl (fun c => absurd (by decide) c) (fun _ => ?_)
  refine xr_getsO slX8_50 dX8_runFrom_21 ?_
  refine xr_iload dX8_runFrom_24 1 rfl ?_
  refine xr_iconst (v := 4) dX8_runFrom_26 rfl ?_
  refine xr_imul dX8_runFrom_27 ?_
  refine xb_top (y := 8) (by decide) ?_
  refine xr_iload_n dX8_runFrom_28 4 rfl ?_
  refine xr_iadd dX8_runFrom_29 ?_
  refine xb_top (y := 11) (by decide) ?_
  refine xr_tabO (by unfold vp_in; decide) dX8_runFrom_30 ?_
  refine xb_top (y := 0) (by decide) ?_
  refine xr_if_eq (tgt := 67) dX8_runFrom_31 rfl (fun _ => ?_) (fun c => absurd (by decide) c)
  refine xr_getsA slX8_30 dX8_runFrom_67 ?_
  refine xr_iload dX8_runFrom_70 1 rfl ?_
  refine xr_tabA (by unfold vp_in; decide) dX8_runFrom_72 ?_
  refine xb_top (y := 0) (by decide) ?_
  refine xr_istore (ls2 := [(5, .int (0)), (6, .int (1)), (0, .ref (46)), (1, .int (3)), (2, .int (3)), (3, .int (x)), (4, .int (nI (e)))]) dX8_runFrom_73 (by decide) rfl ?_
  refine xr_iinc (v := 2) (ls2 := [(6, .int (2)), (5, .int (0)), (0, .ref (46)), (1, .int (3)), (2, .int (3)), (3, .int (x)), (4, .int (nI (e)))]) dX8_runFrom_75 1 rfl rfl (by decide) rfl ?_
  refine xr_goto (tgt := 6) dX8_runFrom_78 rfl ?_
  refine xr_iload dX8_runFrom_6 0 rfl ?_
  refine xr_bipush (v := 8) dX8_runFrom_8 rfl ?_
  refine xr_icmp_ge (tgt := 81) dX8_runFrom_10 rfl (fun c => absurd c (by decide)) (fun _ => ?_)
  refine xr_iload dX8_runFrom_13 1 rfl ?_
  refine xb_cN (As := [.int (0)]) (rest := []) mlX8_26 (c_X9_isKind 0) dX8_runFrom_15 rfl rfl (Nat.le_of_ble_eq_true rfl) (by decide) (by decide) ?_
  refine xb_beq (tgt := 81) dX8_runFrom_18 rfl (fun c => absurd (by decide) c) (fun _ => ?_)
  refine xr_getsO slX8_50 dX8_runFrom_21 ?_
  refine xr_iload dX8_runFrom_24 1 rfl ?_
  refine xr_iconst (v := 4) dX8_runFrom_26 rfl ?_
  refine xr_imul dX8_runFrom_27 ?_
  refine xb_top (y := 0) (by decide) ?_
  refine xr_iload_n dX8_runFrom_28 4 rfl ?_
  refine xr_iadd dX8_runFrom_29 ?_
  refine xb_top (y := 3) (by decide) ?_
  refine xr_tabO (by unfold vp_in; decide) dX8_runFrom_30 ?_
  refine xb_top (y := 2) (by decide) ?_
  refine xr_if_eq (tgt := 67) dX8_runFrom_31 rfl (fun c => absurd c (by decide)) (fun _ => ?_)
  refine xr_iload dX8_runFrom_34 6 rfl ?_
  refine xr_bipush (v := 30) dX8_runFrom_36 rfl ?_
  refine xr_icmp_ge (tgt := 65) dX8_runFrom_38 rfl (fun c => absurd c (nI_ge (a := e) (b := 30) (by omega) (by omega))) (fun _ => ?_)
  refine xr_aload_n dX8_runFrom_41 2 rfl ?_
  refine xr_getsO slX8_50 dX8_runFrom_42 ?_
  refine xr_iload dX8_runFrom_45 1 rfl ?_
  refine xr_iconst (v := 4) dX8_runFrom_47 rfl ?_
  refine xr_imul dX8_runFrom_48 ?_
  refine xb_top (y := 0) (by decide) ?_
  refine xr_iload_n dX8_runFrom_49 4 rfl ?_
  refine xr_iadd dX8_runFrom_50 ?_
  refine xb_top (y := 3) (by decide) ?_
  refine xr_tabO (by unfold vp_in; decide) dX8_runFrom_51 ?_
  refine xb_top (y := 2) (by decide) ?_
  refine xr_iload dX8_runFrom_52 1 rfl ?_
  refine xr_iload_n dX8_runFrom_54 5 rfl ?_
  refine xr_iload dX8_runFrom_55 6 rfl ?_
  refine xr_iconst (v := 1) dX8_runFrom_57 rfl ?_
  refine xr_iadd dX8_runFrom_58 ?_
  refine xb_top (y := nI (e + 1)) (nI_add (e) (1)) ?_
  refine xr_callV (As := [.int (2), .int (0), .int (x), .int (nI (e + 1))]) (rest := []) mlX8_53 (tu5_run_2_0 (e := e + 1) (ac := ac) x (by omega) (by omega) e_b (by omega) e_ra hac e_ac e_k) dX8_runFrom_59 s_46 rfl rfl (Nat.le_of_ble_eq_true rfl) (by decide) ⟨by decide, by decide⟩ (fun v s2 M6 J2 hq => ?_)
  obtain ⟨r8, rfl, rfl, rfl, k7, ⟨hr5, hx4⟩⟩ := hq
  try dsimp only [Option.toList, List.cons_append, List.nil_append]
  subst hr5
  refine xr_goto (tgt := 66) dX8_runFrom_62 rfl ?_
  exact xr_iret dX8_runFrom_66 rfl rfl (⟨_, rfl, rfl, rfl, (Ke.tr (fun _ _ h => h) Ke.rf k7), rfl, hx4⟩)
set_option maxRecDepth 100000 in
set_option maxHeartbeats 4000000 in
theorem tu5_above_5_3 {e ac : Nat} (x : Int32) (he : e + 5 ≤ 30) {l : Launch} {G : xG} {M : xM} {J : xJ} {b ra : Nat} (h_b : b ≤ 50) (e_b : M 46 2 = nI b) (h_ra : ra + 7 ≤ 900) (e_ra : M 46 3 = nI ra) (hac : ac < b) (e_ac : M 46 4 = nI ac) (e_k : M 47 ac = 5) : x_M l G fX8_above 15 0 0 [.ref (46), .int (5), .int (3), .int (x), .int (nI (e))] x_SH M J (qKI WTN M J (fun r M2 => r = ((-(((x + 1) + (nI (ac))) * 2)) - ((1 ^^^ (nI (ac))) * 3)) ∧ M2 46 3 = nI (ra + 7))) := by
  refine xb_of pX8 (Nat.le_of_ble_eq_true rfl) rfl ?_
  refine xr_iload_n dX8_above_0 1 rfl ?_
  refine xb_cN (As := [.int (5)]) (rest := []) mlX8_26 (c_X9_isKind 5) dX8_above_1 rfl rfl (Nat.le_of_ble_eq_true rfl) (by decide) (by decide) ?_
  refine xb_beq (tgt := 23) dX8_above_4 rfl (fun c => absurd (by decide) c) (fun _ => ?_)
  refine xr_aload_n dX8_above_7 0 rfl ?_
  refine xr_getsA slX8_30 dX8_above_8 ?_
  refine xr_iload_n dX8_above_11 1 rfl ?_
  refine xr_tabA (by unfold vp_in; decide) dX8_above_12 ?_
  refine xb_top (y := 3) (by decide) ?_
  refine xr_iload_n dX8_above_13 2 rfl ?_
  refine xr_iload_n dX8_above_14 3 rfl ?_
  refine xr_iload dX8_above_15 4 rfl ?_
  refine xr_callV (As := [.int (3), .int (3), .int (x), .int (nI (e))]) (rest := []) mlX8_46 (tu5_runFrom_3_3 (e := e) (ac := ac) x (by omega) (by omega) e_b (by omega) e_ra hac e_ac e_k) dX8_above_17 s_46 rfl rfl (Nat.le_of_ble_eq_true rfl) (by decide) ⟨by decide, by decide⟩ (fun v s2 M4 J2 hq => ?_)
  obtain ⟨r6, rfl, rfl, rfl, k5, ⟨hr3, hx2⟩⟩ := hq
  try dsimp only [Option.toList, List.cons_append, List.nil_append]
  subst hr3
  refine xr_goto (tgt := 24) dX8_above_20 rfl ?_
  exact xr_iret dX8_above_24 rfl rfl (⟨_, rfl, rfl, rfl, (Ke.tr (fun _ _ h => h) Ke.rf k5), rfl, hx2⟩)
set_option maxRecDepth 100000 in
set_option maxHeartbeats 4000000 in
theorem tu5_run_60_5 {e ac : Nat} (x : Int32) (he : e + 5 ≤ 30) {l : Launch} {G : xG} {M : xM} {J : xJ} {b ra : Nat} (h_b : b ≤ 50) (e_b : M 46 2 = nI b) (h_ra : ra + 8 ≤ 900) (e_ra : M 46 3 = nI ra) (hac : ac < b) (e_ac : M 46 4 = nI ac) (e_k : M 47 ac = 5) : x_M l G fX8_run 16 0 0 [.ref (46), .int (60), .int (5), .int (x), .int (nI (e))] x_SH M J (qKI WTN M J (fun r M2 => r = (((-(((x + 1) + (nI (ac))) * 2)) - ((1 ^^^ (nI (ac))) * 3)) ^^^ 5) ∧ M2 46 3 = nI (ra + 8))) := by
  refine xb_of pX8 (Nat.le_of_ble_eq_true rfl) rfl ?_
  refine xr_aload_n dX8_run_0 0 rfl ?_
  refine xr_iload_n dX8_run_1 1 rfl ?_
  refine xr_callV (As := [.int (60)]) (rest := []) mlX8_56 (g_X8_note 60 (by omega) e_ra) dX8_run_2 s_46 rfl rfl (Nat.le_of_ble_eq_true rfl) (by decide) ⟨by decide, by decide⟩ (fun v s2 M2 J2 hq => ?_)
  obtain ⟨rfl, rfl, rfl, k3, hx1⟩ := hq
  try dsimp only [Option.toList, List.cons_append, List.nil_append]
  refine xr_iload_n dX8_run_5 1 rfl ?_
  refine xr_lookup (tgt := 229) (off := 223) dX8_run_6 (by decide) (by decide) rfl ?_
  refine xr_aload_n dX8_run_229 0 rfl ?_
  refine xr_iload_n dX8_run_230 2 rfl ?_
  refine xr_iconst (v := 3) dX8_run_231 rfl ?_
  refine xr_iload_n dX8_run_232 3 rfl ?_
  refine xr_iload dX8_run_233 4 rfl ?_
  refine xr_callV (As := [.int (5), .int (3), .int (x), .int (nI (e))]) (rest := []) mlX8_60 (tu5_above_5_3 (e := e) (ac := ac) x (by omega) (by omega) (Eq.trans (k3 46 2 (by decide)) e_b) (by omega) hx1 hac (Eq.trans (k3 46 4 (by decide)) e_ac) (Eq.trans (k3 47 ac (by unfold WTN; omega)) e_k)) dX8_run_235 s_46 rfl rfl (Nat.le_of_ble_eq_true rfl) (by decide) ⟨by decide, by decide⟩ (fun v s2 M6 J2 hq => ?_)
  obtain ⟨r8, rfl, rfl, rfl, k7, ⟨hr5, hx4⟩⟩ := hq
  try dsimp only [Option.toList, List.cons_append, List.nil_append]
  subst hr5
  refine xr_iconst (v := 5) dX8_run_238 rfl ?_
  refine xr_ixor dX8_run_239 ?_
  exact xr_iret dX8_run_240 rfl rfl (⟨_, rfl, rfl, rfl, (Ke.tr (fun _ _ h => h) (Ke.tr (fun _ _ h => h) Ke.rf k3) k7), rfl, hx4⟩)
set_option maxRecDepth 100000 in
set_option maxHeartbeats 4000000 in
theorem tu5_runFrom_5_3 {e ac : Nat} (x : Int32) (he : e + 6 ≤ 30) {l : Launch} {G : xG} {M : xM} {J : xJ} {b ra : Nat} (h_b : b ≤ 50) (e_b : M 46 2 = nI b) (h_ra : ra + 8 ≤ 900) (e_ra : M 46 3 = nI ra) (hac : ac < b) (e_ac : M 46 4 = nI ac) (e_k : M 47 ac = 5) : x_M l G fX8_runFrom 17 0 0 [.ref (46), .int (5), .int (3), .int (x), .int (nI (e))] x_SH M J (qKI WTN M J (fun r M2 => r = (((-(((x + 1) + (nI (ac))) * 2)) - ((1 ^^^ (nI (ac))) * 3)) ^^^ 5) ∧ M2 46 3 = nI (ra + 8))) := by
  refine xb_of pX8 (Nat.le_of_ble_eq_true rfl) rfl ?_
  refine xr_iload_n dX8_runFrom_0 1 rfl ?_
  refine xr_istore (ls2 := [(5, .int (5)), (0, .ref (46)), (1, .int (5)), (2, .int (3)), (3, .int (x)), (4, .int (nI (e)))]) dX8_runFrom_1 (by decide) rfl ?_
  refine xr_iconst (v := 0) dX8_runFrom_3 rfl ?_
  refine xr_istore (ls2 := [(6, .int (0)), (5, .int (5)), (0, .ref (46)), (1, .int (5)), (2, .int (3)), (3, .int (x)), (4, .int (nI (e)))]) dX8_runFrom_4 (by decide) rfl ?_
  refine xr_iload dX8_runFrom_6 0 rfl ?_
  refine xr_bipush (v := 8) dX8_runFrom_8 rfl ?_
  refine xr_icmp_ge (tgt := 81) dX8_runFrom_10 rfl (fun c => absurd c (by decide)) (fun _ => ?_)
  refine xr_iload dX8_runFrom_13 1 rfl ?_
  refine xb_cN (As := [.int (5)]) (rest := []) mlX8_26 (c_X9_isKind 5) dX8_runFrom_15 rfl rfl (Nat.le_of_ble_eq_true rfl) (by decide) (by decide) ?_
  refine xb_beq (tgt := 81) dX8_runFrom_18 rfl (fun c => absurd (by decide) c) (fun _ => ?_)
  refine xr_getsO slX8_50 dX8_runFrom_21 ?_
  refine xr_iload dX8_runFrom_24 1 rfl ?_
  refine xr_iconst (v := 4) dX8_runFrom_26 rfl ?_
  refine xr_imul dX8_runFrom_27 ?_
  refine xb_top (y := 20) (by decide) ?_
  refine xr_iload_n dX8_runFrom_28 4 rfl ?_
  refine xr_iadd dX8_runFrom_29 ?_
  refine xb_top (y := 23) (by decide) ?_
  refine xr_tabO (by unfold vp_in; decide) dX8_runFrom_30 ?_
  refine xb_top (y := 60) (by decide) ?_
  refine xr_if_eq (tgt := 67) dX8_runFrom_31 rfl (fun c => absurd c (by decide)) (fun _ => ?_)
  refine xr_iload dX8_runFrom_34 6 rfl ?_
  refine xr_bipush (v := 30) dX8_runFrom_36 rfl ?_
  refine xr_icmp_ge (tgt := 65) dX8_runFrom_38 rfl (fun c => absurd c (nI_ge (a := e) (b := 30) (by omega) (by omega))) (fun _ => ?_)
  refine xr_aload_n dX8_runFrom_41 2 rfl ?_
  refine xr_getsO slX8_50 dX8_runFrom_42 ?_
  refine xr_iload dX8_runFrom_45 1 rfl ?_
  refine xr_iconst (v := 4) dX8_runFrom_47 rfl ?_
  refine xr_imul dX8_runFrom_48 ?_
  refine xb_top (y := 20) (by decide) ?_
  refine xr_iload_n dX8_runFrom_49 4 rfl ?_
  refine xr_iadd dX8_runFrom_50 ?_
  refine xb_top (y := 23) (by decide) ?_
  refine xr_tabO (by unfold vp_in; decide) dX8_runFrom_51 ?_
  refine xb_top (y := 60) (by decide) ?_
  refine xr_iload dX8_runFrom_52 1 rfl ?_
  refine xr_iload_n dX8_runFrom_54 5 rfl ?_
  refine xr_iload dX8_runFrom_55 6 rfl ?_
  refine xr_iconst (v := 1) dX8_runFrom_57 rfl ?_
  refine xr_iadd dX8_runFrom_58 ?_
  refine xb_top (y := nI (e + 1)) (nI_add (e) (1)) ?_
  refine xr_callV (As := [.int (60), .int (5), .int (x), .int (nI (e + 1))]) (rest := []) mlX8_53 (tu5_run_60_5 (e := e + 1) (ac := ac) x (by omega) (by omega) e_b (by omega) e_ra hac e_ac e_k) dX8_runFrom_59 s_46 rfl rfl (Nat.le_of_ble_eq_true rfl) (by decide) ⟨by decide, by decide⟩ (fun v s2 M4 J2 hq => ?_)
  obtain ⟨r6, rfl, rfl, rfl, k5, ⟨hr3, hx2⟩⟩ := hq
  try dsimp only [Option.toList, List.cons_append, List.nil_append]
  subst hr3
  refine xr_goto (tgt := 66) dX8_runFrom_62 rfl ?_
  exact xr_iret dX8_runFrom_66 rfl rfl (⟨_, rfl, rfl, rfl, (Ke.tr (fun _ _ h => h) Ke.rf k5), rfl, hx2⟩)
set_option maxRecDepth 100000 in
set_option maxHeartbeats 4000000 in
theorem tu5_own_3 {e ac : Nat} (x : Int32) (he : e + 6 ≤ 30) {l : Launch} {G : xG} {M : xM} {J : xJ} {b ra : Nat} (h_b : b ≤ 50) (e_b : M 46 2 = nI b) (h_ra : ra + 8 ≤ 900) (e_ra : M 46 3 = nI ra) (hac : ac < b) (e_ac : M 46 4 = nI ac) (e_k : M 47 ac = 5) : x_M l G fX8_own 18 0 0 [.ref (46), .int (3), .int (x), .int (nI (e))] x_SH M J (qKI WTN M J (fun r M2 => r = (((-(((x + 1) + (nI (ac))) * 2)) - ((1 ^^^ (nI (ac))) * 3)) ^^^ 5) ∧ M2 46 3 = nI (ra + 8))) := by
  refine xb_of pX8 (Nat.le_of_ble_eq_true rfl) rfl ?_
  refine xr_aload_n dX8_own_0 0 rfl ?_
  refine xr_aload_n dX8_own_1 0 rfl ?_
  refine xb_get (v := nI (ac)) flX8_36 dX8_own_2 s_46 rfl e_ac ?_
  refine xb_cV (As := [.int (nI (ac))]) (rest := []) mlX8_43 (c_X8_has (nI (ac)) (by omega) e_b) dX8_own_5 s_46 rfl rfl (Nat.le_of_ble_eq_true rfl) (by decide) (by decide) ?_
  refine xb_beq (tgt := 30) dX8_own_8 rfl (fun c => absurd ⟨nI_pos' (by omega), nI_lt (by omega) (by omega)⟩ c) (fun _ => ?_)
  refine xr_aload_n dX8_own_11 0 rfl ?_
  refine xr_aload_n dX8_own_12 0 rfl ?_
  refine xr_getR flX8_9 dX8_own_13 s_46 rfl ?_
  refine xr_aload_n dX8_own_16 0 rfl ?_
  refine xb_get (v := nI (ac)) flX8_36 dX8_own_17 s_46 rfl e_ac ?_
  refine xb_iald (j := ac) (v := 5) dX8_own_20 s_47 (by omega) (by decide) e_k ?_
  refine xr_iload_n dX8_own_21 1 rfl ?_
  refine xr_iload_n dX8_own_22 2 rfl ?_
  refine xr_iload_n dX8_own_23 3 rfl ?_
  refine xr_callV (As := [.int (5), .int (3), .int (x), .int (nI (e))]) (rest := []) mlX8_46 (tu5_runFrom_5_3 (e := e) (ac := ac) x (by omega) (by omega) e_b (by omega) e_ra hac e_ac e_k) dX8_own_24 s_46 rfl rfl (Nat.le_of_ble_eq_true rfl) (by decide) ⟨by decide, by decide⟩ (fun v s2 M4 J2 hq => ?_)
  obtain ⟨r6, rfl, rfl, rfl, k5, ⟨hr3, hx2⟩⟩ := hq
  try dsimp only [Option.toList, List.cons_append, List.nil_append]
  subst hr3
  refine xr_goto (tgt := 31) dX8_own_27 rfl ?_
  exact xr_iret dX8_own_31 rfl rfl (⟨_, rfl, rfl, rfl, (Ke.tr (fun _ _ h => h) Ke.rf k5), rfl, hx2⟩)
set_option maxRecDepth 100000 in
set_option maxHeartbeats 4000000 in
theorem tu6_run_1_0 {e ac : Nat} (x : Int32) (he : e + 0 ≤ 30) {l : Launch} {G : xG} {M : xM} {J : xJ} {b ra : Nat} (h_b : b ≤ 50) (e_b : M 46 2 = nI b) (h_ra : ra + 1 ≤ 900) (e_ra : M 46 3 = nI ra) (hac : ac < b) (e_ac : M 46 4 = nI ac) (e_k : M 47 ac = 6) : x_M l G fX8_run 1 0 0 [.ref (46), .int (1), .int (0), .int (x), .int (nI (e))] x_SH M J (qKI WTN M J (fun r M2 => r = (x + (nI (ac))) ∧ M2 46 3 = nI (ra + 1))) := by
  refine xb_of pX8 (Nat.le_of_ble_eq_true rfl) rfl ?_
  refine xr_aload_n dX8_run_0 0 rfl ?_
  refine xr_iload_n dX8_run_1 1 rfl ?_
  refine xr_callV (As := [.int (1)]) (rest := []) mlX8_56 (g_X8_note 1 (by omega) e_ra) dX8_run_2 s_46 rfl rfl (Nat.le_of_ble_eq_true rfl) (by decide) ⟨by decide, by decide⟩ (fun v s2 M2 J2 hq => ?_)
  obtain ⟨rfl, rfl, rfl, k3, hx1⟩ := hq
  try dsimp only [Option.toList, List.cons_append, List.nil_append]
  refine xr_iload_n dX8_run_5 1 rfl ?_
  refine xr_lookup (tgt := 120) (off := 114) dX8_run_6 (by decide) (by decide) rfl ?_
  refine xr_iload_n dX8_run_120 3 rfl ?_
  refine xr_aload_n dX8_run_121 0 rfl ?_
  refine xb_get (v := nI (ac)) flX8_36 dX8_run_122 s_46 rfl (Eq.trans (k3 46 4 (by decide)) e_ac) ?_
  refine xr_iadd dX8_run_125 ?_
  exact xr_iret dX8_run_126 rfl rfl (⟨_, rfl, rfl, rfl, (Ke.tr (fun _ _ h => h) Ke.rf k3), rfl, hx1⟩)
set_option maxRecDepth 100000 in
set_option maxHeartbeats 4000000 in
theorem tu6_runFrom_0_0 {e ac : Nat} (x : Int32) (he : e + 1 ≤ 30) {l : Launch} {G : xG} {M : xM} {J : xJ} {b ra : Nat} (h_b : b ≤ 50) (e_b : M 46 2 = nI b) (h_ra : ra + 1 ≤ 900) (e_ra : M 46 3 = nI ra) (hac : ac < b) (e_ac : M 46 4 = nI ac) (e_k : M 47 ac = 6) : x_M l G fX8_runFrom 2 0 0 [.ref (46), .int (0), .int (0), .int (x), .int (nI (e))] x_SH M J (qKI WTN M J (fun r M2 => r = (x + (nI (ac))) ∧ M2 46 3 = nI (ra + 1))) := by
  refine xb_of pX8 (Nat.le_of_ble_eq_true rfl) rfl ?_
  refine xr_iload_n dX8_runFrom_0 1 rfl ?_
  refine xr_istore (ls2 := [(5, .int (0)), (0, .ref (46)), (1, .int (0)), (2, .int (0)), (3, .int (x)), (4, .int (nI (e)))]) dX8_runFrom_1 (by decide) rfl ?_
  refine xr_iconst (v := 0) dX8_runFrom_3 rfl ?_
  refine xr_istore (ls2 := [(6, .int (0)), (5, .int (0)), (0, .ref (46)), (1, .int (0)), (2, .int (0)), (3, .int (x)), (4, .int (nI (e)))]) dX8_runFrom_4 (by decide) rfl ?_
  refine xr_iload dX8_runFrom_6 0 rfl ?_
  refine xr_bipush (v := 8) dX8_runFrom_8 rfl ?_
  refine xr_icmp_ge (tgt := 81) dX8_runFrom_10 rfl (fun c => absurd c (by decide)) (fun _ => ?_)
  refine xr_iload dX8_runFrom_13 1 rfl ?_
  refine xb_cN (As := [.int (0)]) (rest := []) mlX8_26 (c_X9_isKind 0) dX8_runFrom_15 rfl rfl (Nat.le_of_ble_eq_true rfl) (by decide) (by decide) ?_
  refine xb_beq (tgt := 81) dX8_runFrom_18 rfl (fun c => absurd (by decide) c) (fun _ => ?_)
  refine xr_getsO slX8_50 dX8_runFrom_21 ?_
  refine xr_iload dX8_runFrom_24 1 rfl ?_
  refine xr_iconst (v := 4) dX8_runFrom_26 rfl ?_
  refine xr_imul dX8_runFrom_27 ?_
  refine xb_top (y := 0) (by decide) ?_
  refine xr_iload_n dX8_runFrom_28 4 rfl ?_
  refine xr_iadd dX8_runFrom_29 ?_
  refine xb_top (y := 0) (by decide) ?_
  refine xr_tabO (by unfold vp_in; decide) dX8_runFrom_30 ?_
  refine xb_top (y := 1) (by decide) ?_
  refine xr_if_eq (tgt := 67) dX8_runFrom_31 rfl (fun c => absurd c (by decide)) (fun _ => ?_)
  refine xr_iload dX8_runFrom_34 6 rfl ?_
  refine xr_bipush (v := 30) dX8_runFrom_36 rfl ?_
  refine xr_icmp_ge (tgt := 65) dX8_runFrom_38 rfl (fun c => absurd c (nI_ge (a := e) (b := 30) (by omega) (by omega))) (fun _ => ?_)
  refine xr_aload_n dX8_runFrom_41 2 rfl ?_
  refine xr_getsO slX8_50 dX8_runFrom_42 ?_
  refine xr_iload dX8_runFrom_45 1 rfl ?_
  refine xr_iconst (v := 4) dX8_runFrom_47 rfl ?_
  refine xr_imul dX8_runFrom_48 ?_
  refine xb_top (y := 0) (by decide) ?_
  refine xr_iload_n dX8_runFrom_49 4 rfl ?_
  refine xr_iadd dX8_runFrom_50 ?_
  refine xb_top (y := 0) (by decide) ?_
  refine xr_tabO (by unfold vp_in; decide) dX8_runFrom_51 ?_
  refine xb_top (y := 1) (by decide) ?_
  refine xr_iload dX8_runFrom_52 1 rfl ?_
  refine xr_iload_n dX8_runFrom_54 5 rfl ?_
  refine xr_iload dX8_runFrom_55 6 rfl ?_
  refine xr_iconst (v := 1) dX8_runFrom_57 rfl ?_
  refine xr_iadd dX8_runFrom_58 ?_
  refine xb_top (y := nI (e + 1)) (nI_add (e) (1)) ?_
  refine xr_callV (As := [.int (1), .int (0), .int (x), .int (nI (e + 1))]) (rest := []) mlX8_53 (tu6_run_1_0 (e := e + 1) (ac := ac) x (by omega) (by omega) e_b (by omega) e_ra hac e_ac e_k) dX8_runFrom_59 s_46 rfl rfl (Nat.le_of_ble_eq_true rfl) (by decide) ⟨by decide, by decide⟩ (fun v s2 M4 J2 hq => ?_)
  obtain ⟨r6, rfl, rfl, rfl, k5, ⟨hr3, hx2⟩⟩ := hq
  try dsimp only [Option.toList, List.cons_append, List.nil_append]
  subst hr3
  refine xr_goto (tgt := 66) dX8_runFrom_62 rfl ?_
  exact xr_iret dX8_runFrom_66 rfl rfl (⟨_, rfl, rfl, rfl, (Ke.tr (fun _ _ h => h) Ke.rf k5), rfl, hx2⟩)
set_option maxRecDepth 100000 in
set_option maxHeartbeats 4000000 in
theorem tu6_above_6_0 {e ac : Nat} (x : Int32) (he : e + 1 ≤ 30) {l : Launch} {G : xG} {M : xM} {J : xJ} {b ra : Nat} (h_b : b ≤ 50) (e_b : M 46 2 = nI b) (h_ra : ra + 1 ≤ 900) (e_ra : M 46 3 = nI ra) (hac : ac < b) (e_ac : M 46 4 = nI ac) (e_k : M 47 ac = 6) : x_M l G fX8_above 3 0 0 [.ref (46), .int (6), .int (0), .int (x), .int (nI (e))] x_SH M J (qKI WTN M J (fun r M2 => r = (x + (nI (ac))) ∧ M2 46 3 = nI (ra + 1))) := by
  refine xb_of pX8 (Nat.le_of_ble_eq_true rfl) rfl ?_
  refine xr_iload_n dX8_above_0 1 rfl ?_
  refine xb_cN (As := [.int (6)]) (rest := []) mlX8_26 (c_X9_isKind 6) dX8_above_1 rfl rfl (Nat.le_of_ble_eq_true rfl) (by decide) (by decide) ?_
  refine xb_beq (tgt := 23) dX8_above_4 rfl (fun c => absurd (by decide) c) (fun _ => ?_)
  refine xr_aload_n dX8_above_7 0 rfl ?_
  refine xr_getsA slX8_30 dX8_above_8 ?_
  refine xr_iload_n dX8_above_11 1 rfl ?_
  refine xr_tabA (by unfold vp_in; decide) dX8_above_12 ?_
  refine xb_top (y := 0) (by decide) ?_
  refine xr_iload_n dX8_above_13 2 rfl ?_
  refine xr_iload_n dX8_above_14 3 rfl ?_
  refine xr_iload dX8_above_15 4 rfl ?_
  refine xr_callV (As := [.int (0), .int (0), .int (x), .int (nI (e))]) (rest := []) mlX8_46 (tu6_runFrom_0_0 (e := e) (ac := ac) x (by omega) (by omega) e_b (by omega) e_ra hac e_ac e_k) dX8_above_17 s_46 rfl rfl (Nat.le_of_ble_eq_true rfl) (by decide) ⟨by decide, by decide⟩ (fun v s2 M4 J2 hq => ?_)
  obtain ⟨r6, rfl, rfl, rfl, k5, ⟨hr3, hx2⟩⟩ := hq
  try dsimp only [Option.toList, List.cons_append, List.nil_append]
  subst hr3
  refine xr_goto (tgt := 24) dX8_above_20 rfl ?_
  exact xr_iret dX8_above_24 rfl rfl (⟨_, rfl, rfl, rfl, (Ke.tr (fun _ _ h => h) Ke.rf k5), rfl, hx2⟩)
set_option maxRecDepth 100000 in
set_option maxHeartbeats 4000000 in
theorem tu6_run_70_6 {e ac : Nat} (x : Int32) (he : e + 1 ≤ 30) {l : Launch} {G : xG} {M : xM} {J : xJ} {b ra : Nat} (h_b : b ≤ 50) (e_b : M 46 2 = nI b) (h_ra : ra + 2 ≤ 900) (e_ra : M 46 3 = nI ra) (hac : ac < b) (e_ac : M 46 4 = nI ac) (e_k : M 47 ac = 6) : x_M l G fX8_run 4 0 0 [.ref (46), .int (70), .int (6), .int (x), .int (nI (e))] x_SH M J (qKI WTN M J (fun r M2 => r = ((x + (nI (ac))) * 2) ∧ M2 46 3 = nI (ra + 2))) := by
  refine xb_of pX8 (Nat.le_of_ble_eq_true rfl) rfl ?_
  refine xr_aload_n dX8_run_0 0 rfl ?_
  refine xr_iload_n dX8_run_1 1 rfl ?_
  refine xr_callV (As := [.int (70)]) (rest := []) mlX8_56 (g_X8_note 70 (by omega) e_ra) dX8_run_2 s_46 rfl rfl (Nat.le_of_ble_eq_true rfl) (by decide) ⟨by decide, by decide⟩ (fun v s2 M2 J2 hq => ?_)
  obtain ⟨rfl, rfl, rfl, k3, hx1⟩ := hq
  try dsimp only [Option.toList, List.cons_append, List.nil_append]
  refine xr_iload_n dX8_run_5 1 rfl ?_
  refine xr_lookup (tgt := 241) (off := 235) dX8_run_6 (by decide) (by decide) rfl ?_
  refine xr_aload_n dX8_run_241 0 rfl ?_
  refine xr_iload_n dX8_run_242 2 rfl ?_
  refine xr_iconst (v := 0) dX8_run_243 rfl ?_
  refine xr_iload_n dX8_run_244 3 rfl ?_
  refine xr_iload dX8_run_245 4 rfl ?_
  refine xr_callV (As := [.int (6), .int (0), .int (x), .int (nI (e))]) (rest := []) mlX8_60 (tu6_above_6_0 (e := e) (ac := ac) x (by omega) (by omega) (Eq.trans (k3 46 2 (by decide)) e_b) (by omega) hx1 hac (Eq.trans (k3 46 4 (by decide)) e_ac) (Eq.trans (k3 47 ac (by unfold WTN; omega)) e_k)) dX8_run_247 s_46 rfl rfl (Nat.le_of_ble_eq_true rfl) (by decide) ⟨by decide, by decide⟩ (fun v s2 M6 J2 hq => ?_)
  obtain ⟨r8, rfl, rfl, rfl, k7, ⟨hr5, hx4⟩⟩ := hq
  try dsimp only [Option.toList, List.cons_append, List.nil_append]
  subst hr5
  refine xr_iconst (v := 2) dX8_run_250 rfl ?_
  refine xr_imul dX8_run_251 ?_
  exact xr_iret dX8_run_252 rfl rfl (⟨_, rfl, rfl, rfl, (Ke.tr (fun _ _ h => h) (Ke.tr (fun _ _ h => h) Ke.rf k3) k7), rfl, hx4⟩)
set_option maxRecDepth 100000 in
set_option maxHeartbeats 4000000 in
theorem tu6_runFrom_6_0 {e ac : Nat} (x : Int32) (he : e + 2 ≤ 30) {l : Launch} {G : xG} {M : xM} {J : xJ} {b ra : Nat} (h_b : b ≤ 50) (e_b : M 46 2 = nI b) (h_ra : ra + 2 ≤ 900) (e_ra : M 46 3 = nI ra) (hac : ac < b) (e_ac : M 46 4 = nI ac) (e_k : M 47 ac = 6) : x_M l G fX8_runFrom 5 0 0 [.ref (46), .int (6), .int (0), .int (x), .int (nI (e))] x_SH M J (qKI WTN M J (fun r M2 => r = ((x + (nI (ac))) * 2) ∧ M2 46 3 = nI (ra + 2))) := by
  refine xb_of pX8 (Nat.le_of_ble_eq_true rfl) rfl ?_
  refine xr_iload_n dX8_runFrom_0 1 rfl ?_
  refine xr_istore (ls2 := [(5, .int (6)), (0, .ref (46)), (1, .int (6)), (2, .int (0)), (3, .int (x)), (4, .int (nI (e)))]) dX8_runFrom_1 (by decide) rfl ?_
  refine xr_iconst (v := 0) dX8_runFrom_3 rfl ?_
  refine xr_istore (ls2 := [(6, .int (0)), (5, .int (6)), (0, .ref (46)), (1, .int (6)), (2, .int (0)), (3, .int (x)), (4, .int (nI (e)))]) dX8_runFrom_4 (by decide) rfl ?_
  refine xr_iload dX8_runFrom_6 0 rfl ?_
  refine xr_bipush (v := 8) dX8_runFrom_8 rfl ?_
  refine xr_icmp_ge (tgt := 81) dX8_runFrom_10 rfl (fun c => absurd c (by decide)) (fun _ => ?_)
  refine xr_iload dX8_runFrom_13 1 rfl ?_
  refine xb_cN (As := [.int (6)]) (rest := []) mlX8_26 (c_X9_isKind 6) dX8_runFrom_15 rfl rfl (Nat.le_of_ble_eq_true rfl) (by decide) (by decide) ?_
  refine xb_beq (tgt := 81) dX8_runFrom_18 rfl (fun c => absurd (by decide) c) (fun _ => ?_)
  refine xr_getsO slX8_50 dX8_runFrom_21 ?_
  refine xr_iload dX8_runFrom_24 1 rfl ?_
  refine xr_iconst (v := 4) dX8_runFrom_26 rfl ?_
  refine xr_imul dX8_runFrom_27 ?_
  refine xb_top (y := 24) (by decide) ?_
  refine xr_iload_n dX8_runFrom_28 4 rfl ?_
  refine xr_iadd dX8_runFrom_29 ?_
  refine xb_top (y := 24) (by decide) ?_
  refine xr_tabO (by unfold vp_in; decide) dX8_runFrom_30 ?_
  refine xb_top (y := 70) (by decide) ?_
  refine xr_if_eq (tgt := 67) dX8_runFrom_31 rfl (fun c => absurd c (by decide)) (fun _ => ?_)
  refine xr_iload dX8_runFrom_34 6 rfl ?_
  refine xr_bipush (v := 30) dX8_runFrom_36 rfl ?_
  refine xr_icmp_ge (tgt := 65) dX8_runFrom_38 rfl (fun c => absurd c (nI_ge (a := e) (b := 30) (by omega) (by omega))) (fun _ => ?_)
  refine xr_aload_n dX8_runFrom_41 2 rfl ?_
  refine xr_getsO slX8_50 dX8_runFrom_42 ?_
  refine xr_iload dX8_runFrom_45 1 rfl ?_
  refine xr_iconst (v := 4) dX8_runFrom_47 rfl ?_
  refine xr_imul dX8_runFrom_48 ?_
  refine xb_top (y := 24) (by decide) ?_
  refine xr_iload_n dX8_runFrom_49 4 rfl ?_
  refine xr_iadd dX8_runFrom_50 ?_
  refine xb_top (y := 24) (by decide) ?_
  refine xr_tabO (by unfold vp_in; decide) dX8_runFrom_51 ?_
  refine xb_top (y := 70) (by decide) ?_
  refine xr_iload dX8_runFrom_52 1 rfl ?_
  refine xr_iload_n dX8_runFrom_54 5 rfl ?_
  refine xr_iload dX8_runFrom_55 6 rfl ?_
  refine xr_iconst (v := 1) dX8_runFrom_57 rfl ?_
  refine xr_iadd dX8_runFrom_58 ?_
  refine xb_top (y := nI (e + 1)) (nI_add (e) (1)) ?_
  refine xr_callV (As := [.int (70), .int (6), .int (x), .int (nI (e + 1))]) (rest := []) mlX8_53 (tu6_run_70_6 (e := e + 1) (ac := ac) x (by omega) (by omega) e_b (by omega) e_ra hac e_ac e_k) dX8_runFrom_59 s_46 rfl rfl (Nat.le_of_ble_eq_true rfl) (by decide) ⟨by decide, by decide⟩ (fun v s2 M4 J2 hq => ?_)
  obtain ⟨r6, rfl, rfl, rfl, k5, ⟨hr3, hx2⟩⟩ := hq
  try dsimp only [Option.toList, List.cons_append, List.nil_append]
  subst hr3
  refine xr_goto (tgt := 66) dX8_runFrom_62 rfl ?_
  exact xr_iret dX8_runFrom_66 rfl rfl (⟨_, rfl, rfl, rfl, (Ke.tr (fun _ _ h => h) Ke.rf k5), rfl, hx2⟩)
set_option maxRecDepth 100000 in
set_option maxHeartbeats 4000000 in
theorem tu6_own_0 {e ac : Nat} (x : Int32) (he : e + 2 ≤ 30) {l : Launch} {G : xG} {M : xM} {J : xJ} {b ra : Nat} (h_b : b ≤ 50) (e_b : M 46 2 = nI b) (h_ra : ra + 2 ≤ 900) (e_ra : M 46 3 = nI ra) (hac : ac < b) (e_ac : M 46 4 = nI ac) (e_k : M 47 ac = 6) : x_M l G fX8_own 6 0 0 [.ref (46), .int (0), .int (x), .int (nI (e))] x_SH M J (qKI WTN M J (fun r M2 => r = ((x + (nI (ac))) * 2) ∧ M2 46 3 = nI (ra + 2))) := by
  refine xb_of pX8 (Nat.le_of_ble_eq_true rfl) rfl ?_
  refine xr_aload_n dX8_own_0 0 rfl ?_
  refine xr_aload_n dX8_own_1 0 rfl ?_
  refine xb_get (v := nI (ac)) flX8_36 dX8_own_2 s_46 rfl e_ac ?_
  refine xb_cV (As := [.int (nI (ac))]) (rest := []) mlX8_43 (c_X8_has (nI (ac)) (by omega) e_b) dX8_own_5 s_46 rfl rfl (Nat.le_of_ble_eq_true rfl) (by decide) (by decide) ?_
  refine xb_beq (tgt := 30) dX8_own_8 rfl (fun c => absurd ⟨nI_pos' (by omega), nI_lt (by omega) (by omega)⟩ c) (fun _ => ?_)
  refine xr_aload_n dX8_own_11 0 rfl ?_
  refine xr_aload_n dX8_own_12 0 rfl ?_
  refine xr_getR flX8_9 dX8_own_13 s_46 rfl ?_
  refine xr_aload_n dX8_own_16 0 rfl ?_
  refine xb_get (v := nI (ac)) flX8_36 dX8_own_17 s_46 rfl e_ac ?_
  refine xb_iald (j := ac) (v := 6) dX8_own_20 s_47 (by omega) (by decide) e_k ?_
  refine xr_iload_n dX8_own_21 1 rfl ?_
  refine xr_iload_n dX8_own_22 2 rfl ?_
  refine xr_iload_n dX8_own_23 3 rfl ?_
  refine xr_callV (As := [.int (6), .int (0), .int (x), .int (nI (e))]) (rest := []) mlX8_46 (tu6_runFrom_6_0 (e := e) (ac := ac) x (by omega) (by omega) e_b (by omega) e_ra hac e_ac e_k) dX8_own_24 s_46 rfl rfl (Nat.le_of_ble_eq_true rfl) (by decide) ⟨by decide, by decide⟩ (fun v s2 M4 J2 hq => ?_)
  obtain ⟨r6, rfl, rfl, rfl, k5, ⟨hr3, hx2⟩⟩ := hq
  try dsimp only [Option.toList, List.cons_append, List.nil_append]
  subst hr3
  refine xr_goto (tgt := 31) dX8_own_27 rfl ?_
  exact xr_iret dX8_own_31 rfl rfl (⟨_, rfl, rfl, rfl, (Ke.tr (fun _ _ h => h) Ke.rf k5), rfl, hx2⟩)
set_option maxRecDepth 100000 in
set_option maxHeartbeats 4000000 in
theorem tu6_run_10_0 {e ac : Nat} (x : Int32) (he : e + 2 ≤ 30) {l : Launch} {G : xG} {M : xM} {J : xJ} {b ra : Nat} (h_b : b ≤ 50) (e_b : M 46 2 = nI b) (h_ra : ra + 3 ≤ 900) (e_ra : M 46 3 = nI ra) (hac : ac < b) (e_ac : M 46 4 = nI ac) (e_k : M 47 ac = 6) : x_M l G fX8_run 7 0 0 [.ref (46), .int (10), .int (0), .int (x), .int (nI (e))] x_SH M J (qKI WTN M J (fun r M2 => r = (((x + (nI (ac))) * 2) * 2) ∧ M2 46 3 = nI (ra + 3))) := by
  refine xb_of pX8 (Nat.le_of_ble_eq_true rfl) rfl ?_
  refine xr_aload_n dX8_run_0 0 rfl ?_
  refine xr_iload_n dX8_run_1 1 rfl ?_
  refine xr_callV (As := [.int (10)]) (rest := []) mlX8_56 (g_X8_note 10 (by omega) e_ra) dX8_run_2 s_46 rfl rfl (Nat.le_of_ble_eq_true rfl) (by decide) ⟨by decide, by decide⟩ (fun v s2 M2 J2 hq => ?_)
  obtain ⟨rfl, rfl, rfl, k3, hx1⟩ := hq
  try dsimp only [Option.toList, List.cons_append, List.nil_append]
  refine xr_iload_n dX8_run_5 1 rfl ?_
  refine xr_lookup (tgt := 145) (off := 139) dX8_run_6 (by decide) (by decide) rfl ?_
  refine xr_aload_n dX8_run_145 0 rfl ?_
  refine xr_iconst (v := 0) dX8_run_146 rfl ?_
  refine xr_iload_n dX8_run_147 3 rfl ?_
  refine xr_iload dX8_run_148 4 rfl ?_
  refine xr_callV (As := [.int (0), .int (x), .int (nI (e))]) (rest := []) mlX8_39 (tu6_own_0 (e := e) (ac := ac) x (by omega) (by omega) (Eq.trans (k3 46 2 (by decide)) e_b) (by omega) hx1 hac (Eq.trans (k3 46 4 (by decide)) e_ac) (Eq.trans (k3 47 ac (by unfold WTN; omega)) e_k)) dX8_run_150 s_46 rfl rfl (Nat.le_of_ble_eq_true rfl) (by decide) ⟨by decide, by decide⟩ (fun v s2 M6 J2 hq => ?_)
  obtain ⟨r8, rfl, rfl, rfl, k7, ⟨hr5, hx4⟩⟩ := hq
  try dsimp only [Option.toList, List.cons_append, List.nil_append]
  subst hr5
  refine xr_iconst (v := 2) dX8_run_153 rfl ?_
  refine xr_imul dX8_run_154 ?_
  exact xr_iret dX8_run_155 rfl rfl (⟨_, rfl, rfl, rfl, (Ke.tr (fun _ _ h => h) (Ke.tr (fun _ _ h => h) Ke.rf k3) k7), rfl, hx4⟩)
set_option maxRecDepth 100000 in
set_option maxHeartbeats 4000000 in
theorem tu6_runFrom_6_1 {e ac : Nat} (x : Int32) (he : e + 3 ≤ 30) {l : Launch} {G : xG} {M : xM} {J : xJ} {b ra : Nat} (h_b : b ≤ 50) (e_b : M 46 2 = nI b) (h_ra : ra + 3 ≤ 900) (e_ra : M 46 3 = nI ra) (hac : ac < b) (e_ac : M 46 4 = nI ac) (e_k : M 47 ac = 6) : x_M l G fX8_runFrom 8 0 0 [.ref (46), .int (6), .int (1), .int (x), .int (nI (e))] x_SH M J (qKI WTN M J (fun r M2 => r = (((x + (nI (ac))) * 2) * 2) ∧ M2 46 3 = nI (ra + 3))) := by
  refine xb_of pX8 (Nat.le_of_ble_eq_true rfl) rfl ?_
  refine xr_iload_n dX8_runFrom_0 1 rfl ?_
  refine xr_istore (ls2 := [(5, .int (6)), (0, .ref (46)), (1, .int (6)), (2, .int (1)), (3, .int (x)), (4, .int (nI (e)))]) dX8_runFrom_1 (by decide) rfl ?_
  refine xr_iconst (v := 0) dX8_runFrom_3 rfl ?_
  refine xr_istore (ls2 := [(6, .int (0)), (5, .int (6)), (0, .ref (46)), (1, .int (6)), (2, .int (1)), (3, .int (x)), (4, .int (nI (e)))]) dX8_runFrom_4 (by decide) rfl ?_
  refine xr_iload dX8_runFrom_6 0 rfl ?_
  refine xr_bipush (v := 8) dX8_runFrom_8 rfl ?_
  refine xr_icmp_ge (tgt := 81) dX8_runFrom_10 rfl (fun c => absurd c (by decide)) (fun _ => ?_)
  refine xr_iload dX8_runFrom_13 1 rfl ?_
  refine xb_cN (As := [.int (6)]) (rest := []) mlX8_26 (c_X9_isKind 6) dX8_runFrom_15 rfl rfl (Nat.le_of_ble_eq_true rfl) (by decide) (by decide) ?_
  refine xb_beq (tgt := 81) dX8_runFrom_18 rfl (fun c => absurd (by decide) c) (fun _ => ?_)
  refine xr_getsO slX8_50 dX8_runFrom_21 ?_
  refine xr_iload dX8_runFrom_24 1 rfl ?_
  refine xr_iconst (v := 4) dX8_runFrom_26 rfl ?_
  refine xr_imul dX8_runFrom_27 ?_
  refine xb_top (y := 24) (by decide) ?_
  refine xr_iload_n dX8_runFrom_28 4 rfl ?_
  refine xr_iadd dX8_runFrom_29 ?_
  refine xb_top (y := 25) (by decide) ?_
  refine xr_tabO (by unfold vp_in; decide) dX8_runFrom_30 ?_
  refine xb_top (y := 0) (by decide) ?_
  refine xr_if_eq (tgt := 67) dX8_runFrom_31 rfl (fun _ => ?_) (fun c => absurd (by decide) c)
  refine xr_getsA slX8_30 dX8_runFrom_67 ?_
  refine xr_iload dX8_runFrom_70 1 rfl ?_
  refine xr_tabA (by unfold vp_in; decide) dX8_runFrom_72 ?_
  refine xb_top (y := 0) (by decide) ?_
  refine xr_istore (ls2 := [(5, .int (0)), (6, .int (0)), (0, .ref (46)), (1, .int (6)), (2, .int (1)), (3, .int (x)), (4, .int (nI (e)))]) dX8_runFrom_73 (by decide) rfl ?_
  refine xr_iinc (v := 1) (ls2 := [(6, .int (1)), (5, .int (0)), (0, .ref (46)), (1, .int (6)), (2, .int (1)), (3, .int (x)), (4, .int (nI (e)))]) dX8_runFrom_75 1 rfl rfl (by decide) rfl ?_
  refine xr_goto (tgt := 6) dX8_runFrom_78 rfl ?_
  refine xr_iload dX8_runFrom_6 0 rfl ?_
  refine xr_bipush (v := 8) dX8_runFrom_8 rfl ?_
  refine xr_icmp_ge (tgt := 81) dX8_runFrom_10 rfl (fun c => absurd c (by decide)) (fun _ => ?_)
  refine xr_iload dX8_runFrom_13 1 rfl ?_
  refine xb_cN (As := [.int (0)]) (rest := []) mlX8_26 (c_X9_isKind 0) dX8_runFrom_15 rfl rfl (Nat.le_of_ble_eq_true rfl) (by decide) (by decide) ?_
  refine xb_beq (tgt := 81) dX8_runFrom_18 rfl (fun c => absurd (by decide) c) (fun _ => ?_)
  refine xr_getsO slX8_50 dX8_runFrom_21 ?_
  refine xr_iload dX8_runFrom_24 1 rfl ?_
  refine xr_iconst (v := 4) dX8_runFrom_26 rfl ?_
  refine xr_imul dX8_runFrom_27 ?_
  refine xb_top (y := 0) (by decide) ?_
  refine xr_iload_n dX8_runFrom_28 4 rfl ?_
  refine xr_iadd dX8_runFrom_29 ?_
  refine xb_top (y := 1) (by decide) ?_
  refine xr_tabO (by unfold vp_in; decide) dX8_runFrom_30 ?_
  refine xb_top (y := 10) (by decide) ?_
  refine xr_if_eq (tgt := 67) dX8_runFrom_31 rfl (fun c => absurd c (by decide)) (fun _ => ?_)
  refine xr_iload dX8_runFrom_34 6 rfl ?_
  refine xr_bipush (v := 30) dX8_runFrom_36 rfl ?_
  refine xr_icmp_ge (tgt := 65) dX8_runFrom_38 rfl (fun c => absurd c (nI_ge (a := e) (b := 30) (by omega) (by omega))) (fun _ => ?_)
  refine xr_aload_n dX8_runFrom_41 2 rfl ?_
  refine xr_getsO slX8_50 dX8_runFrom_42 ?_
  refine xr_iload dX8_runFrom_45 1 rfl ?_
  refine xr_iconst (v := 4) dX8_runFrom_47 rfl ?_
  refine xr_imul dX8_runFrom_48 ?_
  refine xb_top (y := 0) (by decide) ?_
  refine xr_iload_n dX8_runFrom_49 4 rfl ?_
  refine xr_iadd dX8_runFrom_50 ?_
  refine xb_top (y := 1) (by decide) ?_
  refine xr_tabO (by unfold vp_in; decide) dX8_runFrom_51 ?_
  refine xb_top (y := 10) (by decide) ?_
  refine xr_iload dX8_runFrom_52 1 rfl ?_
  refine xr_iload_n dX8_runFrom_54 5 rfl ?_
  refine xr_iload dX8_runFrom_55 6 rfl ?_
  refine xr_iconst (v := 1) dX8_runFrom_57 rfl ?_
  refine xr_iadd dX8_runFrom_58 ?_
  refine xb_top (y := nI (e + 1)) (nI_add (e) (1)) ?_
  refine xr_callV (As := [.int (10), .int (0), .int (x), .int (nI (e + 1))]) (rest := []) mlX8_53 (tu6_run_10_0 (e := e + 1) (ac := ac) x (by omega) (by omega) e_b (by omega) e_ra hac e_ac e_k) dX8_runFrom_59 s_46 rfl rfl (Nat.le_of_ble_eq_true rfl) (by decide) ⟨by decide, by decide⟩ (fun v s2 M5 J2 hq => ?_)
  obtain ⟨r7, rfl, rfl, rfl, k6, ⟨hr4, hx3⟩⟩ := hq
  try dsimp only [Option.toList, List.cons_append, List.nil_append]
  subst hr4
  refine xr_goto (tgt := 66) dX8_runFrom_62 rfl ?_
  exact xr_iret dX8_runFrom_66 rfl rfl (⟨_, rfl, rfl, rfl, (Ke.tr (fun _ _ h => h) Ke.rf k6), rfl, hx3⟩)
set_option maxRecDepth 100000 in
set_option maxHeartbeats 4000000 in
theorem tu6_own_1 {e ac : Nat} (x : Int32) (he : e + 3 ≤ 30) {l : Launch} {G : xG} {M : xM} {J : xJ} {b ra : Nat} (h_b : b ≤ 50) (e_b : M 46 2 = nI b) (h_ra : ra + 3 ≤ 900) (e_ra : M 46 3 = nI ra) (hac : ac < b) (e_ac : M 46 4 = nI ac) (e_k : M 47 ac = 6) : x_M l G fX8_own 9 0 0 [.ref (46), .int (1), .int (x), .int (nI (e))] x_SH M J (qKI WTN M J (fun r M2 => r = (((x + (nI (ac))) * 2) * 2) ∧ M2 46 3 = nI (ra + 3))) := by
  refine xb_of pX8 (Nat.le_of_ble_eq_true rfl) rfl ?_
  refine xr_aload_n dX8_own_0 0 rfl ?_
  refine xr_aload_n dX8_own_1 0 rfl ?_
  refine xb_get (v := nI (ac)) flX8_36 dX8_own_2 s_46 rfl e_ac ?_
  refine xb_cV (As := [.int (nI (ac))]) (rest := []) mlX8_43 (c_X8_has (nI (ac)) (by omega) e_b) dX8_own_5 s_46 rfl rfl (Nat.le_of_ble_eq_true rfl) (by decide) (by decide) ?_
  refine xb_beq (tgt := 30) dX8_own_8 rfl (fun c => absurd ⟨nI_pos' (by omega), nI_lt (by omega) (by omega)⟩ c) (fun _ => ?_)
  refine xr_aload_n dX8_own_11 0 rfl ?_
  refine xr_aload_n dX8_own_12 0 rfl ?_
  refine xr_getR flX8_9 dX8_own_13 s_46 rfl ?_
  refine xr_aload_n dX8_own_16 0 rfl ?_
  refine xb_get (v := nI (ac)) flX8_36 dX8_own_17 s_46 rfl e_ac ?_
  refine xb_iald (j := ac) (v := 6) dX8_own_20 s_47 (by omega) (by decide) e_k ?_
  refine xr_iload_n dX8_own_21 1 rfl ?_
  refine xr_iload_n dX8_own_22 2 rfl ?_
  refine xr_iload_n dX8_own_23 3 rfl ?_
  refine xr_callV (As := [.int (6), .int (1), .int (x), .int (nI (e))]) (rest := []) mlX8_46 (tu6_runFrom_6_1 (e := e) (ac := ac) x (by omega) (by omega) e_b (by omega) e_ra hac e_ac e_k) dX8_own_24 s_46 rfl rfl (Nat.le_of_ble_eq_true rfl) (by decide) ⟨by decide, by decide⟩ (fun v s2 M4 J2 hq => ?_)
  obtain ⟨r6, rfl, rfl, rfl, k5, ⟨hr3, hx2⟩⟩ := hq
  try dsimp only [Option.toList, List.cons_append, List.nil_append]
  subst hr3
  refine xr_goto (tgt := 31) dX8_own_27 rfl ?_
  exact xr_iret dX8_own_31 rfl rfl (⟨_, rfl, rfl, rfl, (Ke.tr (fun _ _ h => h) Ke.rf k5), rfl, hx2⟩)
set_option maxRecDepth 100000 in
set_option maxHeartbeats 4000000 in
theorem tu6_run_11_0 {e ac : Nat} (x : Int32) (he : e + 0 ≤ 30) {l : Launch} {G : xG} {M : xM} {J : xJ} {b ra : Nat} (h_b : b ≤ 50) (e_b : M 46 2 = nI b) (h_ra : ra + 1 ≤ 900) (e_ra : M 46 3 = nI ra) (hac : ac < b) (e_ac : M 46 4 = nI ac) (e_k : M 47 ac = 6) : x_M l G fX8_run 1 0 0 [.ref (46), .int (11), .int (0), .int (x), .int (nI (e))] x_SH M J (qKI WTN M J (fun r M2 => r = (x ^^^ (nI (ac))) ∧ M2 46 3 = nI (ra + 1))) := by
  refine xb_of pX8 (Nat.le_of_ble_eq_true rfl) rfl ?_
  refine xr_aload_n dX8_run_0 0 rfl ?_
  refine xr_iload_n dX8_run_1 1 rfl ?_
  refine xr_callV (As := [.int (11)]) (rest := []) mlX8_56 (g_X8_note 11 (by omega) e_ra) dX8_run_2 s_46 rfl rfl (Nat.le_of_ble_eq_true rfl) (by decide) ⟨by decide, by decide⟩ (fun v s2 M2 J2 hq => ?_)
  obtain ⟨rfl, rfl, rfl, k3, hx1⟩ := hq
  try dsimp only [Option.toList, List.cons_append, List.nil_append]
  refine xr_iload_n dX8_run_5 1 rfl ?_
  refine xr_lookup (tgt := 156) (off := 150) dX8_run_6 (by decide) (by decide) rfl ?_
  refine xr_iload_n dX8_run_156 3 rfl ?_
  refine xr_aload_n dX8_run_157 0 rfl ?_
  refine xb_get (v := nI (ac)) flX8_36 dX8_run_158 s_46 rfl (Eq.trans (k3 46 4 (by decide)) e_ac) ?_
  refine xr_ixor dX8_run_161 ?_
  exact xr_iret dX8_run_162 rfl rfl (⟨_, rfl, rfl, rfl, (Ke.tr (fun _ _ h => h) Ke.rf k3), rfl, hx1⟩)
set_option maxRecDepth 100000 in
set_option maxHeartbeats 4000000 in
theorem tu6_runFrom_6_2 {e ac : Nat} (x : Int32) (he : e + 1 ≤ 30) {l : Launch} {G : xG} {M : xM} {J : xJ} {b ra : Nat} (h_b : b ≤ 50) (e_b : M 46 2 = nI b) (h_ra : ra + 1 ≤ 900) (e_ra : M 46 3 = nI ra) (hac : ac < b) (e_ac : M 46 4 = nI ac) (e_k : M 47 ac = 6) : x_M l G fX8_runFrom 2 0 0 [.ref (46), .int (6), .int (2), .int (x), .int (nI (e))] x_SH M J (qKI WTN M J (fun r M2 => r = (x ^^^ (nI (ac))) ∧ M2 46 3 = nI (ra + 1))) := by
  refine xb_of pX8 (Nat.le_of_ble_eq_true rfl) rfl ?_
  refine xr_iload_n dX8_runFrom_0 1 rfl ?_
  refine xr_istore (ls2 := [(5, .int (6)), (0, .ref (46)), (1, .int (6)), (2, .int (2)), (3, .int (x)), (4, .int (nI (e)))]) dX8_runFrom_1 (by decide) rfl ?_
  refine xr_iconst (v := 0) dX8_runFrom_3 rfl ?_
  refine xr_istore (ls2 := [(6, .int (0)), (5, .int (6)), (0, .ref (46)), (1, .int (6)), (2, .int (2)), (3, .int (x)), (4, .int (nI (e)))]) dX8_runFrom_4 (by decide) rfl ?_
  refine xr_iload dX8_runFrom_6 0 rfl ?_
  refine xr_bipush (v := 8) dX8_runFrom_8 rfl ?_
  refine xr_icmp_ge (tgt := 81) dX8_runFrom_10 rfl (fun c => absurd c (by decide)) (fun _ => ?_)
  refine xr_iload dX8_runFrom_13 1 rfl ?_
  refine xb_cN (As := [.int (6)]) (rest := []) mlX8_26 (c_X9_isKind 6) dX8_runFrom_15 rfl rfl (Nat.le_of_ble_eq_true rfl) (by decide) (by decide) ?_
  refine xb_beq (tgt := 81) dX8_runFrom_18 rfl (fun c => absurd (by decide) c) (fun _ => ?_)
  refine xr_getsO slX8_50 dX8_runFrom_21 ?_
  refine xr_iload dX8_runFrom_24 1 rfl ?_
  refine xr_iconst (v := 4) dX8_runFrom_26 rfl ?_
  refine xr_imul dX8_runFrom_27 ?_
  refine xb_top (y := 24) (by decide) ?_
  refine xr_iload_n dX8_runFrom_28 4 rfl ?_
  refine xr_iadd dX8_runFrom_29 ?_
  refine xb_top (y := 26) (by decide) ?_
  refine xr_tabO (by unfold vp_in; decide) dX8_runFrom_30 ?_
  refine xb_top (y := 0) (by decide) ?_
  refine xr_if_eq (tgt := 67) dX8_runFrom_31 rfl (fun _ => ?_) (fun c => absurd (by decide) c)
  refine xr_getsA slX8_30 dX8_runFrom_67 ?_
  refine xr_iload dX8_runFrom_70 1 rfl ?_
  refine xr_tabA (by unfold vp_in; decide) dX8_runFrom_72 ?_
  refine xb_top (y := 0) (by decide) ?_
  refine xr_istore (ls2 := [(5, .int (0)), (6, .int (0)), (0, .ref (46)), (1, .int (6)), (2, .int (2)), (3, .int (x)), (4, .int (nI (e)))]) dX8_runFrom_73 (by decide) rfl ?_
  refine xr_iinc (v := 1) (ls2 := [(6, .int (1)), (5, .int (0)), (0, .ref (46)), (1, .int (6)), (2, .int (2)), (3, .int (x)), (4, .int (nI (e)))]) dX8_runFrom_75 1 rfl rfl (by decide) rfl ?_
  refine xr_goto (tgt := 6) dX8_runFrom_78 rfl ?_
  refine xr_iload dX8_runFrom_6 0 rfl ?_
  refine xr_bipush (v := 8) dX8_runFrom_8 rfl ?_
  refine xr_icmp_ge (tgt := 81) dX8_runFrom_10 rfl (fun c => absurd c (by decide)) (fun _ => ?_)
  refine xr_iload dX8_runFrom_13 1 rfl ?_
  refine xb_cN (As := [.int (0)]) (rest := []) mlX8_26 (c_X9_isKind 0) dX8_runFrom_15 rfl rfl (Nat.le_of_ble_eq_true rfl) (by decide) (by decide) ?_
  refine xb_beq (tgt := 81) dX8_runFrom_18 rfl (fun c => absurd (by decide) c) (fun _ => ?_)
  refine xr_getsO slX8_50 dX8_runFrom_21 ?_
  refine xr_iload dX8_runFrom_24 1 rfl ?_
  refine xr_iconst (v := 4) dX8_runFrom_26 rfl ?_
  refine xr_imul dX8_runFrom_27 ?_
  refine xb_top (y := 0) (by decide) ?_
  refine xr_iload_n dX8_runFrom_28 4 rfl ?_
  refine xr_iadd dX8_runFrom_29 ?_
  refine xb_top (y := 2) (by decide) ?_
  refine xr_tabO (by unfold vp_in; decide) dX8_runFrom_30 ?_
  refine xb_top (y := 11) (by decide) ?_
  refine xr_if_eq (tgt := 67) dX8_runFrom_31 rfl (fun c => absurd c (by decide)) (fun _ => ?_)
  refine xr_iload dX8_runFrom_34 6 rfl ?_
  refine xr_bipush (v := 30) dX8_runFrom_36 rfl ?_
  refine xr_icmp_ge (tgt := 65) dX8_runFrom_38 rfl (fun c => absurd c (nI_ge (a := e) (b := 30) (by omega) (by omega))) (fun _ => ?_)
  refine xr_aload_n dX8_runFrom_41 2 rfl ?_
  refine xr_getsO slX8_50 dX8_runFrom_42 ?_
  refine xr_iload dX8_runFrom_45 1 rfl ?_
  refine xr_iconst (v := 4) dX8_runFrom_47 rfl ?_
  refine xr_imul dX8_runFrom_48 ?_
  refine xb_top (y := 0) (by decide) ?_
  refine xr_iload_n dX8_runFrom_49 4 rfl ?_
  refine xr_iadd dX8_runFrom_50 ?_
  refine xb_top (y := 2) (by decide) ?_
  refine xr_tabO (by unfold vp_in; decide) dX8_runFrom_51 ?_
  refine xb_top (y := 11) (by decide) ?_
  refine xr_iload dX8_runFrom_52 1 rfl ?_
  refine xr_iload_n dX8_runFrom_54 5 rfl ?_
  refine xr_iload dX8_runFrom_55 6 rfl ?_
  refine xr_iconst (v := 1) dX8_runFrom_57 rfl ?_
  refine xr_iadd dX8_runFrom_58 ?_
  refine xb_top (y := nI (e + 1)) (nI_add (e) (1)) ?_
  refine xr_callV (As := [.int (11), .int (0), .int (x), .int (nI (e + 1))]) (rest := []) mlX8_53 (tu6_run_11_0 (e := e + 1) (ac := ac) x (by omega) (by omega) e_b (by omega) e_ra hac e_ac e_k) dX8_runFrom_59 s_46 rfl rfl (Nat.le_of_ble_eq_true rfl) (by decide) ⟨by decide, by decide⟩ (fun v s2 M5 J2 hq => ?_)
  obtain ⟨r7, rfl, rfl, rfl, k6, ⟨hr4, hx3⟩⟩ := hq
  try dsimp only [Option.toList, List.cons_append, List.nil_append]
  subst hr4
  refine xr_goto (tgt := 66) dX8_runFrom_62 rfl ?_
  exact xr_iret dX8_runFrom_66 rfl rfl (⟨_, rfl, rfl, rfl, (Ke.tr (fun _ _ h => h) Ke.rf k6), rfl, hx3⟩)
set_option maxRecDepth 100000 in
set_option maxHeartbeats 4000000 in
theorem tu6_own_2 {e ac : Nat} (x : Int32) (he : e + 1 ≤ 30) {l : Launch} {G : xG} {M : xM} {J : xJ} {b ra : Nat} (h_b : b ≤ 50) (e_b : M 46 2 = nI b) (h_ra : ra + 1 ≤ 900) (e_ra : M 46 3 = nI ra) (hac : ac < b) (e_ac : M 46 4 = nI ac) (e_k : M 47 ac = 6) : x_M l G fX8_own 3 0 0 [.ref (46), .int (2), .int (x), .int (nI (e))] x_SH M J (qKI WTN M J (fun r M2 => r = (x ^^^ (nI (ac))) ∧ M2 46 3 = nI (ra + 1))) := by
  refine xb_of pX8 (Nat.le_of_ble_eq_true rfl) rfl ?_
  refine xr_aload_n dX8_own_0 0 rfl ?_
  refine xr_aload_n dX8_own_1 0 rfl ?_
  refine xb_get (v := nI (ac)) flX8_36 dX8_own_2 s_46 rfl e_ac ?_
  refine xb_cV (As := [.int (nI (ac))]) (rest := []) mlX8_43 (c_X8_has (nI (ac)) (by omega) e_b) dX8_own_5 s_46 rfl rfl (Nat.le_of_ble_eq_true rfl) (by decide) (by decide) ?_
  refine xb_beq (tgt := 30) dX8_own_8 rfl (fun c => absurd ⟨nI_pos' (by omega), nI_lt (by omega) (by omega)⟩ c) (fun _ => ?_)
  refine xr_aload_n dX8_own_11 0 rfl ?_
  refine xr_aload_n dX8_own_12 0 rfl ?_
  refine xr_getR flX8_9 dX8_own_13 s_46 rfl ?_
  refine xr_aload_n dX8_own_16 0 rfl ?_
  refine xb_get (v := nI (ac)) flX8_36 dX8_own_17 s_46 rfl e_ac ?_
  refine xb_iald (j := ac) (v := 6) dX8_own_20 s_47 (by omega) (by decide) e_k ?_
  refine xr_iload_n dX8_own_21 1 rfl ?_
  refine xr_iload_n dX8_own_22 2 rfl ?_
  refine xr_iload_n dX8_own_23 3 rfl ?_
  refine xr_callV (As := [.int (6), .int (2), .int (x), .int (nI (e))]) (rest := []) mlX8_46 (tu6_runFrom_6_2 (e := e) (ac := ac) x (by omega) (by omega) e_b (by omega) e_ra hac e_ac e_k) dX8_own_24 s_46 rfl rfl (Nat.le_of_ble_eq_true rfl) (by decide) ⟨by decide, by decide⟩ (fun v s2 M4 J2 hq => ?_)
  obtain ⟨r6, rfl, rfl, rfl, k5, ⟨hr3, hx2⟩⟩ := hq
  try dsimp only [Option.toList, List.cons_append, List.nil_append]
  subst hr3
  refine xr_goto (tgt := 31) dX8_own_27 rfl ?_
  exact xr_iret dX8_own_31 rfl rfl (⟨_, rfl, rfl, rfl, (Ke.tr (fun _ _ h => h) Ke.rf k5), rfl, hx2⟩)
set_option maxRecDepth 100000 in
set_option maxHeartbeats 4000000 in
theorem tu6_run_2_0 {e ac : Nat} (x : Int32) (he : e + 3 ≤ 30) {l : Launch} {G : xG} {M : xM} {J : xJ} {b ra : Nat} (h_b : b ≤ 50) (e_b : M 46 2 = nI b) (h_ra : ra + 5 ≤ 900) (e_ra : M 46 3 = nI ra) (hac : ac < b) (e_ac : M 46 4 = nI ac) (e_k : M 47 ac = 6) : x_M l G fX8_run 10 0 0 [.ref (46), .int (2), .int (0), .int (x), .int (nI (e))] x_SH M J (qKI WTN M J (fun r M2 => r = ((((x + (nI (ac))) * 2) * 2) - (1 ^^^ (nI (ac)))) ∧ M2 46 3 = nI (ra + 5))) := by
  refine xb_of pX8 (Nat.le_of_ble_eq_true rfl) rfl ?_
  refine xr_aload_n dX8_run_0 0 rfl ?_
  refine xr_iload_n dX8_run_1 1 rfl ?_
  refine xr_callV (As := [.int (2)]) (rest := []) mlX8_56 (g_X8_note 2 (by omega) e_ra) dX8_run_2 s_46 rfl rfl (Nat.le_of_ble_eq_true rfl) (by decide) ⟨by decide, by decide⟩ (fun v s2 M2 J2 hq => ?_)
  obtain ⟨rfl, rfl, rfl, k3, hx1⟩ := hq
  try dsimp only [Option.toList, List.cons_append, List.nil_append]
  refine xr_iload_n dX8_run_5 1 rfl ?_
  refine xr_lookup (tgt := 127) (off := 121) dX8_run_6 (by decide) (by decide) rfl ?_
  refine xr_aload_n dX8_run_127 0 rfl ?_
  refine xr_iconst (v := 1) dX8_run_128 rfl ?_
  refine xr_iload_n dX8_run_129 3 rfl ?_
  refine xr_iload dX8_run_130 4 rfl ?_
  refine xr_callV (As := [.int (1), .int (x), .int (nI (e))]) (rest := []) mlX8_39 (tu6_own_1 (e := e) (ac := ac) x (by omega) (by omega) (Eq.trans (k3 46 2 (by decide)) e_b) (by omega) hx1 hac (Eq.trans (k3 46 4 (by decide)) e_ac) (Eq.trans (k3 47 ac (by unfold WTN; omega)) e_k)) dX8_run_132 s_46 rfl rfl (Nat.le_of_ble_eq_true rfl) (by decide) ⟨by decide, by decide⟩ (fun v s2 M6 J2 hq => ?_)
  obtain ⟨r8, rfl, rfl, rfl, k7, ⟨hr5, hx4⟩⟩ := hq
  try dsimp only [Option.toList, List.cons_append, List.nil_append]
  subst hr5
  refine xr_aload_n dX8_run_135 0 rfl ?_
  refine xr_iconst (v := 2) dX8_run_136 rfl ?_
  refine xr_iconst (v := 1) dX8_run_137 rfl ?_
  refine xr_iload dX8_run_138 4 rfl ?_
  refine xr_callV (As := [.int (2), .int (1), .int (nI (e))]) (rest := [.int ((((x + (nI (ac))) * 2) * 2))]) mlX8_39 (tu6_own_2 (e := e) (ac := ac) 1 (by omega) (by omega) (Eq.trans (k7 46 2 (by decide)) (Eq.trans (k3 46 2 (by decide)) e_b)) (by omega) hx4 hac (Eq.trans (k7 46 4 (by decide)) (Eq.trans (k3 46 4 (by decide)) e_ac)) (Eq.trans (k7 47 ac (by unfold WTN; omega)) (Eq.trans (k3 47 ac (by unfold WTN; omega)) e_k))) dX8_run_140 s_46 rfl rfl (Nat.le_of_ble_eq_true rfl) (by decide) ⟨by decide, by decide⟩ (fun v s2 M11 J2 hq => ?_)
  obtain ⟨r13, rfl, rfl, rfl, k12, ⟨hr10, hx9⟩⟩ := hq
  try dsimp only [Option.toList, List.cons_append, List.nil_append]
  subst hr10
  refine xr_isub dX8_run_143 ?_
  exact xr_iret dX8_run_144 rfl rfl (⟨_, rfl, rfl, rfl, (Ke.tr (fun _ _ h => h) (Ke.tr (fun _ _ h => h) (Ke.tr (fun _ _ h => h) Ke.rf k3) k7) k12), rfl, hx9⟩)
set_option maxRecDepth 100000 in
set_option maxHeartbeats 4000000 in
theorem tu6_runFrom_6_3 {e ac : Nat} (x : Int32) (he : e + 4 ≤ 30) {l : Launch} {G : xG} {M : xM} {J : xJ} {b ra : Nat} (h_b : b ≤ 50) (e_b : M 46 2 = nI b) (h_ra : ra + 5 ≤ 900) (e_ra : M 46 3 = nI ra) (hac : ac < b) (e_ac : M 46 4 = nI ac) (e_k : M 47 ac = 6) : x_M l G fX8_runFrom 11 0 0 [.ref (46), .int (6), .int (3), .int (x), .int (nI (e))] x_SH M J (qKI WTN M J (fun r M2 => r = ((((x + (nI (ac))) * 2) * 2) - (1 ^^^ (nI (ac)))) ∧ M2 46 3 = nI (ra + 5))) := by
  refine xb_of pX8 (Nat.le_of_ble_eq_true rfl) rfl ?_
  refine xr_iload_n dX8_runFrom_0 1 rfl ?_
  refine xr_istore (ls2 := [(5, .int (6)), (0, .ref (46)), (1, .int (6)), (2, .int (3)), (3, .int (x)), (4, .int (nI (e)))]) dX8_runFrom_1 (by decide) rfl ?_
  refine xr_iconst (v := 0) dX8_runFrom_3 rfl ?_
  refine xr_istore (ls2 := [(6, .int (0)), (5, .int (6)), (0, .ref (46)), (1, .int (6)), (2, .int (3)), (3, .int (x)), (4, .int (nI (e)))]) dX8_runFrom_4 (by decide) rfl ?_
  refine xr_iload dX8_runFrom_6 0 rfl ?_
  refine xr_bipush (v := 8) dX8_runFrom_8 rfl ?_
  refine xr_icmp_ge (tgt := 81) dX8_runFrom_10 rfl (fun c => absurd c (by decide)) (fun _ => ?_)
  refine xr_iload dX8_runFrom_13 1 rfl ?_
  refine xb_cN (As := [.int (6)]) (rest := []) mlX8_26 (c_X9_isKind 6) dX8_runFrom_15 rfl rfl (Nat.le_of_ble_eq_true rfl) (by decide) (by decide) ?_
  refine xb_beq (tgt := 81) dX8_runFrom_18 rfl (fun c => absurd (by decide) c) (fun _ => ?_)
  refine xr_getsO slX8_50 dX8_runFrom_21 ?_
  refine xr_iload dX8_runFrom_24 1 rfl ?_
  refine xr_iconst (v := 4) dX8_runFrom_26 rfl ?_
  refine xr_imul dX8_runFrom_27 ?_
  refine xb_top (y := 24) (by decide) ?_
  refine xr_iload_n dX8_runFrom_28 4 rfl ?_
  refine xr_iadd dX8_runFrom_29 ?_
  refine xb_top (y := 27) (by decide) ?_
  refine xr_tabO (by unfold vp_in; decide) dX8_runFrom_30 ?_
  refine xb_top (y := 0) (by decide) ?_
  refine xr_if_eq (tgt := 67) dX8_runFrom_31 rfl (fun _ => ?_) (fun c => absurd (by decide) c)
  refine xr_getsA slX8_30 dX8_runFrom_67 ?_
  refine xr_iload dX8_runFrom_70 1 rfl ?_
  refine xr_tabA (by unfold vp_in; decide) dX8_runFrom_72 ?_
  refine xb_top (y := 0) (by decide) ?_
  refine xr_istore (ls2 := [(5, .int (0)), (6, .int (0)), (0, .ref (46)), (1, .int (6)), (2, .int (3)), (3, .int (x)), (4, .int (nI (e)))]) dX8_runFrom_73 (by decide) rfl ?_
  refine xr_iinc (v := 1) (ls2 := [(6, .int (1)), (5, .int (0)), (0, .ref (46)), (1, .int (6)), (2, .int (3)), (3, .int (x)), (4, .int (nI (e)))]) dX8_runFrom_75 1 rfl rfl (by decide) rfl ?_
  refine xr_goto (tgt := 6) dX8_runFrom_78 rfl ?_
  refine xr_iload dX8_runFrom_6 0 rfl ?_
  refine xr_bipush (v := 8) dX8_runFrom_8 rfl ?_
  refine xr_icmp_ge (tgt := 81) dX8_runFrom_10 rfl (fun c => absurd c (by decide)) (fun _ => ?_)
  refine xr_iload dX8_runFrom_13 1 rfl ?_
  refine xb_cN (As := [.int (0)]) (rest := []) mlX8_26 (c_X9_isKind 0) dX8_runFrom_15 rfl rfl (Nat.le_of_ble_eq_true rfl) (by decide) (by decide) ?_
  refine xb_beq (tgt := 81) dX8_runFrom_18 rfl (fun c => absurd (by decide) c) (fun _ => ?_)
  refine xr_getsO slX8_50 dX8_runFrom_21 ?_
  refine xr_iload dX8_runFrom_24 1 rfl ?_
  refine xr_iconst (v := 4) dX8_runFrom_26 rfl ?_
  refine xr_imul dX8_runFrom_27 ?_
  refine xb_top (y := 0) (by decide) ?_
  refine xr_iload_n dX8_runFrom_28 4 rfl ?_
  refine xr_iadd dX8_runFrom_29 ?_
  refine xb_top (y := 3) (by decide) ?_
  refine xr_tabO (by unfold vp_in; decide) dX8_runFrom_30 ?_
  refine xb_top (y := 2) (by decide) ?_
  refine xr_if_eq (tgt := 67) dX8_runFrom_31 rfl (fun c => absurd c (by decide)) (fun _ => ?_)
  refine xr_iload dX8_runFrom_34 6 rfl ?_
  refine xr_bipush (v := 30) dX8_runFrom_36 rfl ?_
  refine xr_icmp_ge (tgt := 65) dX8_runFrom_38 rfl (fun c => absurd c (nI_ge (a := e) (b := 30) (by omega) (by omega))) (fun _ => ?_)
  refine xr_aload_n dX8_runFrom_41 2 rfl ?_
  refine xr_getsO slX8_50 dX8_runFrom_42 ?_
  refine xr_iload dX8_runFrom_45 1 rfl ?_
  refine xr_iconst (v := 4) dX8_runFrom_47 rfl ?_
  refine xr_imul dX8_runFrom_48 ?_
  refine xb_top (y := 0) (by decide) ?_
  refine xr_iload_n dX8_runFrom_49 4 rfl ?_
  refine xr_iadd dX8_runFrom_50 ?_
  refine xb_top (y := 3) (by decide) ?_
  refine xr_tabO (by unfold vp_in; decide) dX8_runFrom_51 ?_
  refine xb_top (y := 2) (by decide) ?_
  refine xr_iload dX8_runFrom_52 1 rfl ?_
  refine xr_iload_n dX8_runFrom_54 5 rfl ?_
  refine xr_iload dX8_runFrom_55 6 rfl ?_
  refine xr_iconst (v := 1) dX8_runFrom_57 rfl ?_
  refine xr_iadd dX8_runFrom_58 ?_
  refine xb_top (y := nI (e + 1)) (nI_add (e) (1)) ?_
  refine xr_callV (As := [.int (2), .int (0), .int (x), .int (nI (e + 1))]) (rest := []) mlX8_53 (tu6_run_2_0 (e := e + 1) (ac := ac) x (by omega) (by omega) e_b (by omega) e_ra hac e_ac e_k) dX8_runFrom_59 s_46 rfl rfl (Nat.le_of_ble_eq_true rfl) (by decide) ⟨by decide, by decide⟩ (fun v s2 M5 J2 hq => ?_)
  obtain ⟨r7, rfl, rfl, rfl, k6, ⟨hr4, hx3⟩⟩ := hq
  try dsimp only [Option.toList, List.cons_append, List.nil_append]
  subst hr4
  refine xr_goto (tgt := 66) dX8_runFrom_62 rfl ?_
  exact xr_iret dX8_runFrom_66 rfl rfl (⟨_, rfl, rfl, rfl, (Ke.tr (fun _ _ h => h) Ke.rf k6), rfl, hx3⟩)
set_option maxRecDepth 100000 in
set_option maxHeartbeats 4000000 in
theorem tu6_own_3 {e ac : Nat} (x : Int32) (he : e + 4 ≤ 30) {l : Launch} {G : xG} {M : xM} {J : xJ} {b ra : Nat} (h_b : b ≤ 50) (e_b : M 46 2 = nI b) (h_ra : ra + 5 ≤ 900) (e_ra : M 46 3 = nI ra) (hac : ac < b) (e_ac : M 46 4 = nI ac) (e_k : M 47 ac = 6) : x_M l G fX8_own 12 0 0 [.ref (46), .int (3), .int (x), .int (nI (e))] x_SH M J (qKI WTN M J (fun r M2 => r = ((((x + (nI (ac))) * 2) * 2) - (1 ^^^ (nI (ac)))) ∧ M2 46 3 = nI (ra + 5))) := by
  refine xb_of pX8 (Nat.le_of_ble_eq_true rfl) rfl ?_
  refine xr_aload_n dX8_own_0 0 rfl ?_
  refine xr_aload_n dX8_own_1 0 rfl ?_
  refine xb_get (v := nI (ac)) flX8_36 dX8_own_2 s_46 rfl e_ac ?_
  refine xb_cV (As := [.int (nI (ac))]) (rest := []) mlX8_43 (c_X8_has (nI (ac)) (by omega) e_b) dX8_own_5 s_46 rfl rfl (Nat.le_of_ble_eq_true rfl) (by decide) (by decide) ?_
  refine xb_beq (tgt := 30) dX8_own_8 rfl (fun c => absurd ⟨nI_pos' (by omega), nI_lt (by omega) (by omega)⟩ c) (fun _ => ?_)
  refine xr_aload_n dX8_own_11 0 rfl ?_
  refine xr_aload_n dX8_own_12 0 rfl ?_
  refine xr_getR flX8_9 dX8_own_13 s_46 rfl ?_
  refine xr_aload_n dX8_own_16 0 rfl ?_
  refine xb_get (v := nI (ac)) flX8_36 dX8_own_17 s_46 rfl e_ac ?_
  refine xb_iald (j := ac) (v := 6) dX8_own_20 s_47 (by omega) (by decide) e_k ?_
  refine xr_iload_n dX8_own_21 1 rfl ?_
  refine xr_iload_n dX8_own_22 2 rfl ?_
  refine xr_iload_n dX8_own_23 3 rfl ?_
  refine xr_callV (As := [.int (6), .int (3), .int (x), .int (nI (e))]) (rest := []) mlX8_46 (tu6_runFrom_6_3 (e := e) (ac := ac) x (by omega) (by omega) e_b (by omega) e_ra hac e_ac e_k) dX8_own_24 s_46 rfl rfl (Nat.le_of_ble_eq_true rfl) (by decide) ⟨by decide, by decide⟩ (fun v s2 M4 J2 hq => ?_)
  obtain ⟨r6, rfl, rfl, rfl, k5, ⟨hr3, hx2⟩⟩ := hq
  try dsimp only [Option.toList, List.cons_append, List.nil_append]
  subst hr3
  refine xr_goto (tgt := 31) dX8_own_27 rfl ?_
  exact xr_iret dX8_own_31 rfl rfl (⟨_, rfl, rfl, rfl, (Ke.tr (fun _ _ h => h) Ke.rf k5), rfl, hx2⟩)
set_option maxRecDepth 100000 in
set_option maxHeartbeats 4000000 in
theorem tu7_run_1_0 {e ac : Nat} (x : Int32) (he : e + 0 ≤ 30) {l : Launch} {G : xG} {M : xM} {J : xJ} {b ra : Nat} (h_b : b ≤ 50) (e_b : M 46 2 = nI b) (h_ra : ra + 1 ≤ 900) (e_ra : M 46 3 = nI ra) (hac : ac < b) (e_ac : M 46 4 = nI ac) (e_k : M 47 ac = 7) : x_M l G fX8_run 1 0 0 [.ref (46), .int (1), .int (0), .int (x), .int (nI (e))] x_SH M J (qKI WTN M J (fun r M2 => r = (x + (nI (ac))) ∧ M2 46 3 = nI (ra + 1))) := by
  refine xb_of pX8 (Nat.le_of_ble_eq_true rfl) rfl ?_
  refine xr_aload_n dX8_run_0 0 rfl ?_
  refine xr_iload_n dX8_run_1 1 rfl ?_
  refine xr_callV (As := [.int (1)]) (rest := []) mlX8_56 (g_X8_note 1 (by omega) e_ra) dX8_run_2 s_46 rfl rfl (Nat.le_of_ble_eq_true rfl) (by decide) ⟨by decide, by decide⟩ (fun v s2 M2 J2 hq => ?_)
  obtain ⟨rfl, rfl, rfl, k3, hx1⟩ := hq
  try dsimp only [Option.toList, List.cons_append, List.nil_append]
  refine xr_iload_n dX8_run_5 1 rfl ?_
  refine xr_lookup (tgt := 120) (off := 114) dX8_run_6 (by decide) (by decide) rfl ?_
  refine xr_iload_n dX8_run_120 3 rfl ?_
  refine xr_aload_n dX8_run_121 0 rfl ?_
  refine xb_get (v := nI (ac)) flX8_36 dX8_run_122 s_46 rfl (Eq.trans (k3 46 4 (by decide)) e_ac) ?_
  refine xr_iadd dX8_run_125 ?_
  exact xr_iret dX8_run_126 rfl rfl (⟨_, rfl, rfl, rfl, (Ke.tr (fun _ _ h => h) Ke.rf k3), rfl, hx1⟩)
set_option maxRecDepth 100000 in
set_option maxHeartbeats 4000000 in
theorem tu7_runFrom_0_0 {e ac : Nat} (x : Int32) (he : e + 1 ≤ 30) {l : Launch} {G : xG} {M : xM} {J : xJ} {b ra : Nat} (h_b : b ≤ 50) (e_b : M 46 2 = nI b) (h_ra : ra + 1 ≤ 900) (e_ra : M 46 3 = nI ra) (hac : ac < b) (e_ac : M 46 4 = nI ac) (e_k : M 47 ac = 7) : x_M l G fX8_runFrom 2 0 0 [.ref (46), .int (0), .int (0), .int (x), .int (nI (e))] x_SH M J (qKI WTN M J (fun r M2 => r = (x + (nI (ac))) ∧ M2 46 3 = nI (ra + 1))) := by
  refine xb_of pX8 (Nat.le_of_ble_eq_true rfl) rfl ?_
  refine xr_iload_n dX8_runFrom_0 1 rfl ?_
  refine xr_istore (ls2 := [(5, .int (0)), (0, .ref (46)), (1, .int (0)), (2, .int (0)), (3, .int (x)), (4, .int (nI (e)))]) dX8_runFrom_1 (by decide) rfl ?_
  refine xr_iconst (v := 0) dX8_runFrom_3 rfl ?_
  refine xr_istore (ls2 := [(6, .int (0)), (5, .int (0)), (0, .ref (46)), (1, .int (0)), (2, .int (0)), (3, .int (x)), (4, .int (nI (e)))]) dX8_runFrom_4 (by decide) rfl ?_
  refine xr_iload dX8_runFrom_6 0 rfl ?_
  refine xr_bipush (v := 8) dX8_runFrom_8 rfl ?_
  refine xr_icmp_ge (tgt := 81) dX8_runFrom_10 rfl (fun c => absurd c (by decide)) (fun _ => ?_)
  refine xr_iload dX8_runFrom_13 1 rfl ?_
  refine xb_cN (As := [.int (0)]) (rest := []) mlX8_26 (c_X9_isKind 0) dX8_runFrom_15 rfl rfl (Nat.le_of_ble_eq_true rfl) (by decide) (by decide) ?_
  refine xb_beq (tgt := 81) dX8_runFrom_18 rfl (fun c => absurd (by decide) c) (fun _ => ?_)
  refine xr_getsO slX8_50 dX8_runFrom_21 ?_
  refine xr_iload dX8_runFrom_24 1 rfl ?_
  refine xr_iconst (v := 4) dX8_runFrom_26 rfl ?_
  refine xr_imul dX8_runFrom_27 ?_
  refine xb_top (y := 0) (by decide) ?_
  refine xr_iload_n dX8_runFrom_28 4 rfl ?_
  refine xr_iadd dX8_runFrom_29 ?_
  refine xb_top (y := 0) (by decide) ?_
  refine xr_tabO (by unfold vp_in; decide) dX8_runFrom_30 ?_
  refine xb_top (y := 1) (by decide) ?_
  refine xr_if_eq (tgt := 67) dX8_runFrom_31 rfl (fun c => absurd c (by decide)) (fun _ => ?_)
  refine xr_iload dX8_runFrom_34 6 rfl ?_
  refine xr_bipush (v := 30) dX8_runFrom_36 rfl ?_
  refine xr_icmp_ge (tgt := 65) dX8_runFrom_38 rfl (fun c => absurd c (nI_ge (a := e) (b := 30) (by omega) (by omega))) (fun _ => ?_)
  refine xr_aload_n dX8_runFrom_41 2 rfl ?_
  refine xr_getsO slX8_50 dX8_runFrom_42 ?_
  refine xr_iload dX8_runFrom_45 1 rfl ?_
  refine xr_iconst (v := 4) dX8_runFrom_47 rfl ?_
  refine xr_imul dX8_runFrom_48 ?_
  refine xb_top (y := 0) (by decide) ?_
  refine xr_iload_n dX8_runFrom_49 4 rfl ?_
  refine xr_iadd dX8_runFrom_50 ?_
  refine xb_top (y := 0) (by decide) ?_
  refine xr_tabO (by unfold vp_in; decide) dX8_runFrom_51 ?_
  refine xb_top (y := 1) (by decide) ?_
  refine xr_iload dX8_runFrom_52 1 rfl ?_
  refine xr_iload_n dX8_runFrom_54 5 rfl ?_
  refine xr_iload dX8_runFrom_55 6 rfl ?_
  refine xr_iconst (v := 1) dX8_runFrom_57 rfl ?_
  refine xr_iadd dX8_runFrom_58 ?_
  refine xb_top (y := nI (e + 1)) (nI_add (e) (1)) ?_
  refine xr_callV (As := [.int (1), .int (0), .int (x), .int (nI (e + 1))]) (rest := []) mlX8_53 (tu7_run_1_0 (e := e + 1) (ac := ac) x (by omega) (by omega) e_b (by omega) e_ra hac e_ac e_k) dX8_runFrom_59 s_46 rfl rfl (Nat.le_of_ble_eq_true rfl) (by decide) ⟨by decide, by decide⟩ (fun v s2 M4 J2 hq => ?_)
  obtain ⟨r6, rfl, rfl, rfl, k5, ⟨hr3, hx2⟩⟩ := hq
  try dsimp only [Option.toList, List.cons_append, List.nil_append]
  subst hr3
  refine xr_goto (tgt := 66) dX8_runFrom_62 rfl ?_
  exact xr_iret dX8_runFrom_66 rfl rfl (⟨_, rfl, rfl, rfl, (Ke.tr (fun _ _ h => h) Ke.rf k5), rfl, hx2⟩)
set_option maxRecDepth 100000 in
set_option maxHeartbeats 4000000 in
theorem tu7_above_1_0 {e ac : Nat} (x : Int32) (he : e + 1 ≤ 30) {l : Launch} {G : xG} {M : xM} {J : xJ} {b ra : Nat} (h_b : b ≤ 50) (e_b : M 46 2 = nI b) (h_ra : ra + 1 ≤ 900) (e_ra : M 46 3 = nI ra) (hac : ac < b) (e_ac : M 46 4 = nI ac) (e_k : M 47 ac = 7) : x_M l G fX8_above 3 0 0 [.ref (46), .int (1), .int (0), .int (x), .int (nI (e))] x_SH M J (qKI WTN M J (fun r M2 => r = (x + (nI (ac))) ∧ M2 46 3 = nI (ra + 1))) := by
  refine xb_of pX8 (Nat.le_of_ble_eq_true rfl) rfl ?_
  refine xr_iload_n dX8_above_0 1 rfl ?_
  refine xb_cN (As := [.int (1)]) (rest := []) mlX8_26 (c_X9_isKind 1) dX8_above_1 rfl rfl (Nat.le_of_ble_eq_true rfl) (by decide) (by decide) ?_
  refine xb_beq (tgt := 23) dX8_above_4 rfl (fun c => absurd (by decide) c) (fun _ => ?_)
  refine xr_aload_n dX8_above_7 0 rfl ?_
  refine xr_getsA slX8_30 dX8_above_8 ?_
  refine xr_iload_n dX8_above_11 1 rfl ?_
  refine xr_tabA (by unfold vp_in; decide) dX8_above_12 ?_
  refine xb_top (y := 0) (by decide) ?_
  refine xr_iload_n dX8_above_13 2 rfl ?_
  refine xr_iload_n dX8_above_14 3 rfl ?_
  refine xr_iload dX8_above_15 4 rfl ?_
  refine xr_callV (As := [.int (0), .int (0), .int (x), .int (nI (e))]) (rest := []) mlX8_46 (tu7_runFrom_0_0 (e := e) (ac := ac) x (by omega) (by omega) e_b (by omega) e_ra hac e_ac e_k) dX8_above_17 s_46 rfl rfl (Nat.le_of_ble_eq_true rfl) (by decide) ⟨by decide, by decide⟩ (fun v s2 M4 J2 hq => ?_)
  obtain ⟨r6, rfl, rfl, rfl, k5, ⟨hr3, hx2⟩⟩ := hq
  try dsimp only [Option.toList, List.cons_append, List.nil_append]
  subst hr3
  refine xr_goto (tgt := 24) dX8_above_20 rfl ?_
  exact xr_iret dX8_above_24 rfl rfl (⟨_, rfl, rfl, rfl, (Ke.tr (fun _ _ h => h) Ke.rf k5), rfl, hx2⟩)
set_option maxRecDepth 100000 in
set_option maxHeartbeats 4000000 in
theorem tu7_run_20_1 {e ac : Nat} (x : Int32) (he : e + 1 ≤ 30) {l : Launch} {G : xG} {M : xM} {J : xJ} {b ra : Nat} (h_b : b ≤ 50) (e_b : M 46 2 = nI b) (h_ra : ra + 2 ≤ 900) (e_ra : M 46 3 = nI ra) (hac : ac < b) (e_ac : M 46 4 = nI ac) (e_k : M 47 ac = 7) : x_M l G fX8_run 4 0 0 [.ref (46), .int (20), .int (1), .int (x), .int (nI (e))] x_SH M J (qKI WTN M J (fun r M2 => r = ((x + (nI (ac))) + 3) ∧ M2 46 3 = nI (ra + 2))) := by
  refine xb_of pX8 (Nat.le_of_ble_eq_true rfl) rfl ?_
  refine xr_aload_n dX8_run_0 0 rfl ?_
  refine xr_iload_n dX8_run_1 1 rfl ?_
  refine xr_callV (As := [.int (20)]) (rest := []) mlX8_56 (g_X8_note 20 (by omega) e_ra) dX8_run_2 s_46 rfl rfl (Nat.le_of_ble_eq_true rfl) (by decide) ⟨by decide, by decide⟩ (fun v s2 M2 J2 hq => ?_)
  obtain ⟨rfl, rfl, rfl, k3, hx1⟩ := hq
  try dsimp only [Option.toList, List.cons_append, List.nil_append]
  refine xr_iload_n dX8_run_5 1 rfl ?_
  refine xr_lookup (tgt := 163) (off := 157) dX8_run_6 (by decide) (by decide) rfl ?_
  refine xr_aload_n dX8_run_163 0 rfl ?_
  refine xr_iload_n dX8_run_164 2 rfl ?_
  refine xr_iconst (v := 0) dX8_run_165 rfl ?_
  refine xr_iload_n dX8_run_166 3 rfl ?_
  refine xr_iload dX8_run_167 4 rfl ?_
  refine xr_callV (As := [.int (1), .int (0), .int (x), .int (nI (e))]) (rest := []) mlX8_60 (tu7_above_1_0 (e := e) (ac := ac) x (by omega) (by omega) (Eq.trans (k3 46 2 (by decide)) e_b) (by omega) hx1 hac (Eq.trans (k3 46 4 (by decide)) e_ac) (Eq.trans (k3 47 ac (by unfold WTN; omega)) e_k)) dX8_run_169 s_46 rfl rfl (Nat.le_of_ble_eq_true rfl) (by decide) ⟨by decide, by decide⟩ (fun v s2 M6 J2 hq => ?_)
  obtain ⟨r8, rfl, rfl, rfl, k7, ⟨hr5, hx4⟩⟩ := hq
  try dsimp only [Option.toList, List.cons_append, List.nil_append]
  subst hr5
  refine xr_iconst (v := 3) dX8_run_172 rfl ?_
  refine xr_iadd dX8_run_173 ?_
  exact xr_iret dX8_run_174 rfl rfl (⟨_, rfl, rfl, rfl, (Ke.tr (fun _ _ h => h) (Ke.tr (fun _ _ h => h) Ke.rf k3) k7), rfl, hx4⟩)
set_option maxRecDepth 100000 in
set_option maxHeartbeats 4000000 in
theorem tu7_runFrom_7_0 {e ac : Nat} (x : Int32) (he : e + 2 ≤ 30) {l : Launch} {G : xG} {M : xM} {J : xJ} {b ra : Nat} (h_b : b ≤ 50) (e_b : M 46 2 = nI b) (h_ra : ra + 2 ≤ 900) (e_ra : M 46 3 = nI ra) (hac : ac < b) (e_ac : M 46 4 = nI ac) (e_k : M 47 ac = 7) : x_M l G fX8_runFrom 5 0 0 [.ref (46), .int (7), .int (0), .int (x), .int (nI (e))] x_SH M J (qKI WTN M J (fun r M2 => r = ((x + (nI (ac))) + 3) ∧ M2 46 3 = nI (ra + 2))) := by
  refine xb_of pX8 (Nat.le_of_ble_eq_true rfl) rfl ?_
  refine xr_iload_n dX8_runFrom_0 1 rfl ?_
  refine xr_istore (ls2 := [(5, .int (7)), (0, .ref (46)), (1, .int (7)), (2, .int (0)), (3, .int (x)), (4, .int (nI (e)))]) dX8_runFrom_1 (by decide) rfl ?_
  refine xr_iconst (v := 0) dX8_runFrom_3 rfl ?_
  refine xr_istore (ls2 := [(6, .int (0)), (5, .int (7)), (0, .ref (46)), (1, .int (7)), (2, .int (0)), (3, .int (x)), (4, .int (nI (e)))]) dX8_runFrom_4 (by decide) rfl ?_
  refine xr_iload dX8_runFrom_6 0 rfl ?_
  refine xr_bipush (v := 8) dX8_runFrom_8 rfl ?_
  refine xr_icmp_ge (tgt := 81) dX8_runFrom_10 rfl (fun c => absurd c (by decide)) (fun _ => ?_)
  refine xr_iload dX8_runFrom_13 1 rfl ?_
  refine xb_cN (As := [.int (7)]) (rest := []) mlX8_26 (c_X9_isKind 7) dX8_runFrom_15 rfl rfl (Nat.le_of_ble_eq_true rfl) (by decide) (by decide) ?_
  refine xb_beq (tgt := 81) dX8_runFrom_18 rfl (fun c => absurd (by decide) c) (fun _ => ?_)
  refine xr_getsO slX8_50 dX8_runFrom_21 ?_
  refine xr_iload dX8_runFrom_24 1 rfl ?_
  refine xr_iconst (v := 4) dX8_runFrom_26 rfl ?_
  refine xr_imul dX8_runFrom_27 ?_
  refine xb_top (y := 28) (by decide) ?_
  refine xr_iload_n dX8_runFrom_28 4 rfl ?_
  refine xr_iadd dX8_runFrom_29 ?_
  refine xb_top (y := 28) (by decide) ?_
  refine xr_tabO (by unfold vp_in; decide) dX8_runFrom_30 ?_
  refine xb_top (y := 0) (by decide) ?_
  refine xr_if_eq (tgt := 67) dX8_runFrom_31 rfl (fun _ => ?_) (fun c => absurd (by decide) c)
  refine xr_getsA slX8_30 dX8_runFrom_67 ?_
  refine xr_iload dX8_runFrom_70 1 rfl ?_
  refine xr_tabA (by unfold vp_in; decide) dX8_runFrom_72 ?_
  refine xb_top (y := 4) (by decide) ?_
  refine xr_istore (ls2 := [(5, .int (4)), (6, .int (0)), (0, .ref (46)), (1, .int (7)), (2, .int (0)), (3, .int (x)), (4, .int (nI (e)))]) dX8_runFrom_73 (by decide) rfl ?_
  refine xr_iinc (v := 1) (ls2 := [(6, .int (1)), (5, .int (4)), (0, .ref (46)), (1, .int (7)), (2, .int (0)), (3, .int (x)), (4, .int (nI (e)))]) dX8_runFrom_75 1 rfl rfl (by decide) rfl ?_
  refine xr_goto (tgt := 6) dX8_runFrom_78 rfl ?_
  refine xr_iload dX8_runFrom_6 0 rfl ?_
  refine xr_bipush (v := 8) dX8_runFrom_8 rfl ?_
  refine xr_icmp_ge (tgt := 81) dX8_runFrom_10 rfl (fun c => absurd c (by decide)) (fun _ => ?_)
  refine xr_iload dX8_runFrom_13 1 rfl ?_
  refine xb_cN (As := [.int (4)]) (rest := []) mlX8_26 (c_X9_isKind 4) dX8_runFrom_15 rfl rfl (Nat.le_of_ble_eq_true rfl) (by decide) (by decide) ?_
  refine xb_beq (tgt := 81) dX8_runFrom_18 rfl (fun c => absurd (by decide) c) (fun _ => ?_)
  refine xr_getsO slX8_50 dX8_runFrom_21 ?_
  refine xr_iload dX8_runFrom_24 1 rfl ?_
  refine xr_iconst (v := 4) dX8_runFrom_26 rfl ?_
  refine xr_imul dX8_runFrom_27 ?_
  refine xb_top (y := 16) (by decide) ?_
  refine xr_iload_n dX8_runFrom_28 4 rfl ?_
  refine xr_iadd dX8_runFrom_29 ?_
  refine xb_top (y := 16) (by decide) ?_
  refine xr_tabO (by unfold vp_in; decide) dX8_runFrom_30 ?_
  refine xb_top (y := 0) (by decide) ?_
  refine xr_if_eq (tgt := 67) dX8_runFrom_31 rfl (fun _ => ?_) (fun c => absurd (by decide) c)
  refine xr_getsA slX8_30 dX8_runFrom_67 ?_
  refine xr_iload dX8_runFrom_70 1 rfl ?_
  refine xr_tabA (by unfold vp_in; decide) dX8_runFrom_72 ?_
  refine xb_top (y := 1) (by decide) ?_
  refine xr_istore (ls2 := [(5, .int (1)), (6, .int (1)), (0, .ref (46)), (1, .int (7)), (2, .int (0)), (3, .int (x)), (4, .int (nI (e)))]) dX8_runFrom_73 (by decide) rfl ?_
  refine xr_iinc (v := 2) (ls2 := [(6, .int (2)), (5, .int (1)), (0, .ref (46)), (1, .int (7)), (2, .int (0)), (3, .int (x)), (4, .int (nI (e)))]) dX8_runFrom_75 1 rfl rfl (by decide) rfl ?_
  refine xr_goto (tgt := 6) dX8_runFrom_78 rfl ?_
  refine xr_iload dX8_runFrom_6 0 rfl ?_
  refine xr_bipush (v := 8) dX8_runFrom_8 rfl ?_
  refine xr_icmp_ge (tgt := 81) dX8_runFrom_10 rfl (fun c => absurd c (by decide)) (fun _ => ?_)
  refine xr_iload dX8_runFrom_13 1 rfl ?_
  refine xb_cN (As := [.int (1)]) (rest := []) mlX8_26 (c_X9_isKind 1) dX8_runFrom_15 rfl rfl (Nat.le_of_ble_eq_true rfl) (by decide) (by decide) ?_
  refine xb_beq (tgt := 81) dX8_runFrom_18 rfl (fun c => absurd (by decide) c) (fun _ => ?_)
  refine xr_getsO slX8_50 dX8_runFrom_21 ?_
  refine xr_iload dX8_runFrom_24 1 rfl ?_
  refine xr_iconst (v := 4) dX8_runFrom_26 rfl ?_
  refine xr_imul dX8_runFrom_27 ?_
  refine xb_top (y := 4) (by decide) ?_
  refine xr_iload_n dX8_runFrom_28 4 rfl ?_
  refine xr_iadd dX8_runFrom_29 ?_
  refine xb_top (y := 4) (by decide) ?_
  refine xr_tabO (by unfold vp_in; decide) dX8_runFrom_30 ?_
  refine xb_top (y := 20) (by decide) ?_
  refine xr_if_eq (tgt := 67) dX8_runFrom_31 rfl (fun c => absurd c (by decide)) (fun _ => ?_)
  refine xr_iload dX8_runFrom_34 6 rfl ?_
  refine xr_bipush (v := 30) dX8_runFrom_36 rfl ?_
  refine xr_icmp_ge (tgt := 65) dX8_runFrom_38 rfl (fun c => absurd c (nI_ge (a := e) (b := 30) (by omega) (by omega))) (fun _ => ?_)
  refine xr_aload_n dX8_runFrom_41 2 rfl ?_
  refine xr_getsO slX8_50 dX8_runFrom_42 ?_
  refine xr_iload dX8_runFrom_45 1 rfl ?_
  refine xr_iconst (v := 4) dX8_runFrom_47 rfl ?_
  refine xr_imul dX8_runFrom_48 ?_
  refine xb_top (y := 4) (by decide) ?_
  refine xr_iload_n dX8_runFrom_49 4 rfl ?_
  refine xr_iadd dX8_runFrom_50 ?_
  refine xb_top (y := 4) (by decide) ?_
  refine xr_tabO (by unfold vp_in; decide) dX8_runFrom_51 ?_
  refine xb_top (y := 20) (by decide) ?_
  refine xr_iload dX8_runFrom_52 1 rfl ?_
  refine xr_iload_n dX8_runFrom_54 5 rfl ?_
  refine xr_iload dX8_runFrom_55 6 rfl ?_
  refine xr_iconst (v := 1) dX8_runFrom_57 rfl ?_
  refine xr_iadd dX8_runFrom_58 ?_
  refine xb_top (y := nI (e + 1)) (nI_add (e) (1)) ?_
  refine xr_callV (As := [.int (20), .int (1), .int (x), .int (nI (e + 1))]) (rest := []) mlX8_53 (tu7_run_20_1 (e := e + 1) (ac := ac) x (by omega) (by omega) e_b (by omega) e_ra hac e_ac e_k) dX8_runFrom_59 s_46 rfl rfl (Nat.le_of_ble_eq_true rfl) (by decide) ⟨by decide, by decide⟩ (fun v s2 M6 J2 hq => ?_)
  obtain ⟨r8, rfl, rfl, rfl, k7, ⟨hr5, hx4⟩⟩ := hq
  try dsimp only [Option.toList, List.cons_append, List.nil_append]
  subst hr5
  refine xr_goto (tgt := 66) dX8_runFrom_62 rfl ?_
  exact xr_iret dX8_runFrom_66 rfl rfl (⟨_, rfl, rfl, rfl, (Ke.tr (fun _ _ h => h) Ke.rf k7), rfl, hx4⟩)
set_option maxRecDepth 100000 in
set_option maxHeartbeats 4000000 in
theorem tu7_own_0 {e ac : Nat} (x : Int32) (he : e + 2 ≤ 30) {l : Launch} {G : xG} {M : xM} {J : xJ} {b ra : Nat} (h_b : b ≤ 50) (e_b : M 46 2 = nI b) (h_ra : ra + 2 ≤ 900) (e_ra : M 46 3 = nI ra) (hac : ac < b) (e_ac : M 46 4 = nI ac) (e_k : M 47 ac = 7) : x_M l G fX8_own 6 0 0 [.ref (46), .int (0), .int (x), .int (nI (e))] x_SH M J (qKI WTN M J (fun r M2 => r = ((x + (nI (ac))) + 3) ∧ M2 46 3 = nI (ra + 2))) := by
  refine xb_of pX8 (Nat.le_of_ble_eq_true rfl) rfl ?_
  refine xr_aload_n dX8_own_0 0 rfl ?_
  refine xr_aload_n dX8_own_1 0 rfl ?_
  refine xb_get (v := nI (ac)) flX8_36 dX8_own_2 s_46 rfl e_ac ?_
  refine xb_cV (As := [.int (nI (ac))]) (rest := []) mlX8_43 (c_X8_has (nI (ac)) (by omega) e_b) dX8_own_5 s_46 rfl rfl (Nat.le_of_ble_eq_true rfl) (by decide) (by decide) ?_
  refine xb_beq (tgt := 30) dX8_own_8 rfl (fun c => absurd ⟨nI_pos' (by omega), nI_lt (by omega) (by omega)⟩ c) (fun _ => ?_)
  refine xr_aload_n dX8_own_11 0 rfl ?_
  refine xr_aload_n dX8_own_12 0 rfl ?_
  refine xr_getR flX8_9 dX8_own_13 s_46 rfl ?_
  refine xr_aload_n dX8_own_16 0 rfl ?_
  refine xb_get (v := nI (ac)) flX8_36 dX8_own_17 s_46 rfl e_ac ?_
  refine xb_iald (j := ac) (v := 7) dX8_own_20 s_47 (by omega) (by decide) e_k ?_
  refine xr_iload_n dX8_own_21 1 rfl ?_
  refine xr_iload_n dX8_own_22 2 rfl ?_
  refine xr_iload_n dX8_own_23 3 rfl ?_
  refine xr_callV (As := [.int (7), .int (0), .int (x), .int (nI (e))]) (rest := []) mlX8_46 (tu7_runFrom_7_0 (e := e) (ac := ac) x (by omega) (by omega) e_b (by omega) e_ra hac e_ac e_k) dX8_own_24 s_46 rfl rfl (Nat.le_of_ble_eq_true rfl) (by decide) ⟨by decide, by decide⟩ (fun v s2 M4 J2 hq => ?_)
  obtain ⟨r6, rfl, rfl, rfl, k5, ⟨hr3, hx2⟩⟩ := hq
  try dsimp only [Option.toList, List.cons_append, List.nil_append]
  subst hr3
  refine xr_goto (tgt := 31) dX8_own_27 rfl ?_
  exact xr_iret dX8_own_31 rfl rfl (⟨_, rfl, rfl, rfl, (Ke.tr (fun _ _ h => h) Ke.rf k5), rfl, hx2⟩)
set_option maxRecDepth 100000 in
set_option maxHeartbeats 4000000 in
theorem tu7_run_10_0 {e ac : Nat} (x : Int32) (he : e + 2 ≤ 30) {l : Launch} {G : xG} {M : xM} {J : xJ} {b ra : Nat} (h_b : b ≤ 50) (e_b : M 46 2 = nI b) (h_ra : ra + 3 ≤ 900) (e_ra : M 46 3 = nI ra) (hac : ac < b) (e_ac : M 46 4 = nI ac) (e_k : M 47 ac = 7) : x_M l G fX8_run 7 0 0 [.ref (46), .int (10), .int (0), .int (x), .int (nI (e))] x_SH M J (qKI WTN M J (fun r M2 => r = (((x + (nI (ac))) + 3) * 2) ∧ M2 46 3 = nI (ra + 3))) := by
  refine xb_of pX8 (Nat.le_of_ble_eq_true rfl) rfl ?_
  refine xr_aload_n dX8_run_0 0 rfl ?_
  refine xr_iload_n dX8_run_1 1 rfl ?_
  refine xr_callV (As := [.int (10)]) (rest := []) mlX8_56 (g_X8_note 10 (by omega) e_ra) dX8_run_2 s_46 rfl rfl (Nat.le_of_ble_eq_true rfl) (by decide) ⟨by decide, by decide⟩ (fun v s2 M2 J2 hq => ?_)
  obtain ⟨rfl, rfl, rfl, k3, hx1⟩ := hq
  try dsimp only [Option.toList, List.cons_append, List.nil_append]
  refine xr_iload_n dX8_run_5 1 rfl ?_
  refine xr_lookup (tgt := 145) (off := 139) dX8_run_6 (by decide) (by decide) rfl ?_
  refine xr_aload_n dX8_run_145 0 rfl ?_
  refine xr_iconst (v := 0) dX8_run_146 rfl ?_
  refine xr_iload_n dX8_run_147 3 rfl ?_
  refine xr_iload dX8_run_148 4 rfl ?_
  refine xr_callV (As := [.int (0), .int (x), .int (nI (e))]) (rest := []) mlX8_39 (tu7_own_0 (e := e) (ac := ac) x (by omega) (by omega) (Eq.trans (k3 46 2 (by decide)) e_b) (by omega) hx1 hac (Eq.trans (k3 46 4 (by decide)) e_ac) (Eq.trans (k3 47 ac (by unfold WTN; omega)) e_k)) dX8_run_150 s_46 rfl rfl (Nat.le_of_ble_eq_true rfl) (by decide) ⟨by decide, by decide⟩ (fun v s2 M6 J2 hq => ?_)
  obtain ⟨r8, rfl, rfl, rfl, k7, ⟨hr5, hx4⟩⟩ := hq
  try dsimp only [Option.toList, List.cons_append, List.nil_append]
  subst hr5
  refine xr_iconst (v := 2) dX8_run_153 rfl ?_
  refine xr_imul dX8_run_154 ?_
  exact xr_iret dX8_run_155 rfl rfl (⟨_, rfl, rfl, rfl, (Ke.tr (fun _ _ h => h) (Ke.tr (fun _ _ h => h) Ke.rf k3) k7), rfl, hx4⟩)
set_option maxRecDepth 100000 in
set_option maxHeartbeats 4000000 in
theorem tu7_runFrom_4_1 {e ac : Nat} (x : Int32) (he : e + 3 ≤ 30) {l : Launch} {G : xG} {M : xM} {J : xJ} {b ra : Nat} (h_b : b ≤ 50) (e_b : M 46 2 = nI b) (h_ra : ra + 3 ≤ 900) (e_ra : M 46 3 = nI ra) (hac : ac < b) (e_ac : M 46 4 = nI ac) (e_k : M 47 ac = 7) : x_M l G fX8_runFrom 8 0 0 [.ref (46), .int (4), .int (1), .int (x), .int (nI (e))] x_SH M J (qKI WTN M J (fun r M2 => r = (((x + (nI (ac))) + 3) * 2) ∧ M2 46 3 = nI (ra + 3))) := by
  refine xb_of pX8 (Nat.le_of_ble_eq_true rfl) rfl ?_
  refine xr_iload_n dX8_runFrom_0 1 rfl ?_
  refine xr_istore (ls2 := [(5, .int (4)), (0, .ref (46)), (1, .int (4)), (2, .int (1)), (3, .int (x)), (4, .int (nI (e)))]) dX8_runFrom_1 (by decide) rfl ?_
  refine xr_iconst (v := 0) dX8_runFrom_3 rfl ?_
  refine xr_istore (ls2 := [(6, .int (0)), (5, .int (4)), (0, .ref (46)), (1, .int (4)), (2, .int (1)), (3, .int (x)), (4, .int (nI (e)))]) dX8_runFrom_4 (by decide) rfl ?_
  refine xr_iload dX8_runFrom_6 0 rfl ?_
  refine xr_bipush (v := 8) dX8_runFrom_8 rfl ?_
  refine xr_icmp_ge (tgt := 81) dX8_runFrom_10 rfl (fun c => absurd c (by decide)) (fun _ => ?_)
  refine xr_iload dX8_runFrom_13 1 rfl ?_
  refine xb_cN (As := [.int (4)]) (rest := []) mlX8_26 (c_X9_isKind 4) dX8_runFrom_15 rfl rfl (Nat.le_of_ble_eq_true rfl) (by decide) (by decide) ?_
  refine xb_beq (tgt := 81) dX8_runFrom_18 rfl (fun c => absurd (by decide) c) (fun _ => ?_)
  refine xr_getsO slX8_50 dX8_runFrom_21 ?_
  refine xr_iload dX8_runFrom_24 1 rfl ?_
  refine xr_iconst (v := 4) dX8_runFrom_26 rfl ?_
  refine xr_imul dX8_runFrom_27 ?_
  refine xb_top (y := 16) (by decide) ?_
  refine xr_iload_n dX8_runFrom_28 4 rfl ?_
  refine xr_iadd dX8_runFrom_29 ?_
  refine xb_top (y := 17) (by decide) ?_
  refine xr_tabO (by unfold vp_in; decide) dX8_runFrom_30 ?_
  refine xb_top (y := 0) (by decide) ?_
  refine xr_if_eq (tgt := 67) dX8_runFrom_31 rfl (fun _ => ?_) (fun c => absurd (by decide) c)
  refine xr_getsA slX8_30 dX8_runFrom_67 ?_
  refine xr_iload dX8_runFrom_70 1 rfl ?_
  refine xr_tabA (by unfold vp_in; decide) dX8_runFrom_72 ?_
  refine xb_top (y := 1) (by decide) ?_
  refine xr_istore (ls2 := [(5, .int (1)), (6, .int (0)), (0, .ref (46)), (1, .int (4)), (2, .int (1)), (3, .int (x)), (4, .int (nI (e)))]) dX8_runFrom_73 (by decide) rfl ?_
  refine xr_iinc (v := 1) (ls2 := [(6, .int (1)), (5, .int (1)), (0, .ref (46)), (1, .int (4)), (2, .int (1)), (3, .int (x)), (4, .int (nI (e)))]) dX8_runFrom_75 1 rfl rfl (by decide) rfl ?_
  refine xr_goto (tgt := 6) dX8_runFrom_78 rfl ?_
  refine xr_iload dX8_runFrom_6 0 rfl ?_
  refine xr_bipush (v := 8) dX8_runFrom_8 rfl ?_
  refine xr_icmp_ge (tgt := 81) dX8_runFrom_10 rfl (fun c => absurd c (by decide)) (fun _ => ?_)
  refine xr_iload dX8_runFrom_13 1 rfl ?_
  refine xb_cN (As := [.int (1)]) (rest := []) mlX8_26 (c_X9_isKind 1) dX8_runFrom_15 rfl rfl (Nat.le_of_ble_eq_true rfl) (by decide) (by decide) ?_
  refine xb_beq (tgt := 81) dX8_runFrom_18 rfl (fun c => absurd (by decide) c) (fun _ => ?_)
  refine xr_getsO slX8_50 dX8_runFrom_21 ?_
  refine xr_iload dX8_runFrom_24 1 rfl ?_
  refine xr_iconst (v := 4) dX8_runFrom_26 rfl ?_
  refine xr_imul dX8_runFrom_27 ?_
  refine xb_top (y := 4) (by decide) ?_
  refine xr_iload_n dX8_runFrom_28 4 rfl ?_
  refine xr_iadd dX8_runFrom_29 ?_
  refine xb_top (y := 5) (by decide) ?_
  refine xr_tabO (by unfold vp_in; decide) dX8_runFrom_30 ?_
  refine xb_top (y := 0) (by decide) ?_
  refine xr_if_eq (tgt := 67) dX8_runFrom_31 rfl (fun _ => ?_) (fun c => absurd (by decide) c)
  refine xr_getsA slX8_30 dX8_runFrom_67 ?_
  refine xr_iload dX8_runFrom_70 1 rfl ?_
  refine xr_tabA (by unfold vp_in; decide) dX8_runFrom_72 ?_
  refine xb_top (y := 0) (by decide) ?_
  refine xr_istore (ls2 := [(5, .int (0)), (6, .int (1)), (0, .ref (46)), (1, .int (4)), (2, .int (1)), (3, .int (x)), (4, .int (nI (e)))]) dX8_runFrom_73 (by decide) rfl ?_
  refine xr_iinc (v := 2) (ls2 := [(6, .int (2)), (5, .int (0)), (0, .ref (46)), (1, .int (4)), (2, .int (1)), (3, .int (x)), (4, .int (nI (e)))]) dX8_runFrom_75 1 rfl rfl (by decide) rfl ?_
  refine xr_goto (tgt := 6) dX8_runFrom_78 rfl ?_
  refine xr_iload dX8_runFrom_6 0 rfl ?_
  refine xr_bipush (v := 8) dX8_runFrom_8 rfl ?_
  refine xr_icmp_ge (tgt := 81) dX8_runFrom_10 rfl (fun c => absurd c (by decide)) (fun _ => ?_)
  refine xr_iload dX8_runFrom_13 1 rfl ?_
  refine xb_cN (As := [.int (0)]) (rest := []) mlX8_26 (c_X9_isKind 0) dX8_runFrom_15 rfl rfl (Nat.le_of_ble_eq_true rfl) (by decide) (by decide) ?_
  refine xb_beq (tgt := 81) dX8_runFrom_18 rfl (fun c => absurd (by decide) c) (fun _ => ?_)
  refine xr_getsO slX8_50 dX8_runFrom_21 ?_
  refine xr_iload dX8_runFrom_24 1 rfl ?_
  refine xr_iconst (v := 4) dX8_runFrom_26 rfl ?_
  refine xr_imul dX8_runFrom_27 ?_
  refine xb_top (y := 0) (by decide) ?_
  refine xr_iload_n dX8_runFrom_28 4 rfl ?_
  refine xr_iadd dX8_runFrom_29 ?_
  refine xb_top (y := 1) (by decide) ?_
  refine xr_tabO (by unfold vp_in; decide) dX8_runFrom_30 ?_
  refine xb_top (y := 10) (by decide) ?_
  refine xr_if_eq (tgt := 67) dX8_runFrom_31 rfl (fun c => absurd c (by decide)) (fun _ => ?_)
  refine xr_iload dX8_runFrom_34 6 rfl ?_
  refine xr_bipush (v := 30) dX8_runFrom_36 rfl ?_
  refine xr_icmp_ge (tgt := 65) dX8_runFrom_38 rfl (fun c => absurd c (nI_ge (a := e) (b := 30) (by omega) (by omega))) (fun _ => ?_)
  refine xr_aload_n dX8_runFrom_41 2 rfl ?_
  refine xr_getsO slX8_50 dX8_runFrom_42 ?_
  refine xr_iload dX8_runFrom_45 1 rfl ?_
  refine xr_iconst (v := 4) dX8_runFrom_47 rfl ?_
  refine xr_imul dX8_runFrom_48 ?_
  refine xb_top (y := 0) (by decide) ?_
  refine xr_iload_n dX8_runFrom_49 4 rfl ?_
  refine xr_iadd dX8_runFrom_50 ?_
  refine xb_top (y := 1) (by decide) ?_
  refine xr_tabO (by unfold vp_in; decide) dX8_runFrom_51 ?_
  refine xb_top (y := 10) (by decide) ?_
  refine xr_iload dX8_runFrom_52 1 rfl ?_
  refine xr_iload_n dX8_runFrom_54 5 rfl ?_
  refine xr_iload dX8_runFrom_55 6 rfl ?_
  refine xr_iconst (v := 1) dX8_runFrom_57 rfl ?_
  refine xr_iadd dX8_runFrom_58 ?_
  refine xb_top (y := nI (e + 1)) (nI_add (e) (1)) ?_
  refine xr_callV (As := [.int (10), .int (0), .int (x), .int (nI (e + 1))]) (rest := []) mlX8_53 (tu7_run_10_0 (e := e + 1) (ac := ac) x (by omega) (by omega) e_b (by omega) e_ra hac e_ac e_k) dX8_runFrom_59 s_46 rfl rfl (Nat.le_of_ble_eq_true rfl) (by decide) ⟨by decide, by decide⟩ (fun v s2 M6 J2 hq => ?_)
  obtain ⟨r8, rfl, rfl, rfl, k7, ⟨hr5, hx4⟩⟩ := hq
  try dsimp only [Option.toList, List.cons_append, List.nil_append]
  subst hr5
  refine xr_goto (tgt := 66) dX8_runFrom_62 rfl ?_
  exact xr_iret dX8_runFrom_66 rfl rfl (⟨_, rfl, rfl, rfl, (Ke.tr (fun _ _ h => h) Ke.rf k7), rfl, hx4⟩)
set_option maxRecDepth 100000 in
set_option maxHeartbeats 4000000 in
theorem tu7_above_7_1 {e ac : Nat} (x : Int32) (he : e + 3 ≤ 30) {l : Launch} {G : xG} {M : xM} {J : xJ} {b ra : Nat} (h_b : b ≤ 50) (e_b : M 46 2 = nI b) (h_ra : ra + 3 ≤ 900) (e_ra : M 46 3 = nI ra) (hac : ac < b) (e_ac : M 46 4 = nI ac) (e_k : M 47 ac = 7) : x_M l G fX8_above 9 0 0 [.ref (46), .int (7), .int (1), .int (x), .int (nI (e))] x_SH M J (qKI WTN M J (fun r M2 => r = (((x + (nI (ac))) + 3) * 2) ∧ M2 46 3 = nI (ra + 3))) := by
  refine xb_of pX8 (Nat.le_of_ble_eq_true rfl) rfl ?_
  refine xr_iload_n dX8_above_0 1 rfl ?_
  refine xb_cN (As := [.int (7)]) (rest := []) mlX8_26 (c_X9_isKind 7) dX8_above_1 rfl rfl (Nat.le_of_ble_eq_true rfl) (by decide) (by decide) ?_
  refine xb_beq (tgt := 23) dX8_above_4 rfl (fun c => absurd (by decide) c) (fun _ => ?_)
  refine xr_aload_n dX8_above_7 0 rfl ?_
  refine xr_getsA slX8_30 dX8_above_8 ?_
  refine xr_iload_n dX8_above_11 1 rfl ?_
  refine xr_tabA (by unfold vp_in; decide) dX8_above_12 ?_
  refine xb_top (y := 4) (by decide) ?_
  refine xr_iload_n dX8_above_13 2 rfl ?_
  refine xr_iload_n dX8_above_14 3 rfl ?_
  refine xr_iload dX8_above_15 4 rfl ?_
  refine xr_callV (As := [.int (4), .int (1), .int (x), .int (nI (e))]) (rest := []) mlX8_46 (tu7_runFrom_4_1 (e := e) (ac := ac) x (by omega) (by omega) e_b (by omega) e_ra hac e_ac e_k) dX8_above_17 s_46 rfl rfl (Nat.le_of_ble_eq_true rfl) (by decide) ⟨by decide, by decide⟩ (fun v s2 M4 J2 hq => ?_)
  obtain ⟨r6, rfl, rfl, rfl, k5, ⟨hr3, hx2⟩⟩ := hq
  try dsimp only [Option.toList, List.cons_append, List.nil_append]
  subst hr3
  refine xr_goto (tgt := 24) dX8_above_20 rfl ?_
  exact xr_iret dX8_above_24 rfl rfl (⟨_, rfl, rfl, rfl, (Ke.tr (fun _ _ h => h) Ke.rf k5), rfl, hx2⟩)
set_option maxRecDepth 100000 in
set_option maxHeartbeats 4000000 in
theorem tu7_run_11_0 {e ac : Nat} (x : Int32) (he : e + 0 ≤ 30) {l : Launch} {G : xG} {M : xM} {J : xJ} {b ra : Nat} (h_b : b ≤ 50) (e_b : M 46 2 = nI b) (h_ra : ra + 1 ≤ 900) (e_ra : M 46 3 = nI ra) (hac : ac < b) (e_ac : M 46 4 = nI ac) (e_k : M 47 ac = 7) : x_M l G fX8_run 1 0 0 [.ref (46), .int (11), .int (0), .int (x), .int (nI (e))] x_SH M J (qKI WTN M J (fun r M2 => r = (x ^^^ (nI (ac))) ∧ M2 46 3 = nI (ra + 1))) := by
  refine xb_of pX8 (Nat.le_of_ble_eq_true rfl) rfl ?_
  refine xr_aload_n dX8_run_0 0 rfl ?_
  refine xr_iload_n dX8_run_1 1 rfl ?_
  refine xr_callV (As := [.int (11)]) (rest := []) mlX8_56 (g_X8_note 11 (by omega) e_ra) dX8_run_2 s_46 rfl rfl (Nat.le_of_ble_eq_true rfl) (by decide) ⟨by decide, by decide⟩ (fun v s2 M2 J2 hq => ?_)
  obtain ⟨rfl, rfl, rfl, k3, hx1⟩ := hq
  try dsimp only [Option.toList, List.cons_append, List.nil_append]
  refine xr_iload_n dX8_run_5 1 rfl ?_
  refine xr_lookup (tgt := 156) (off := 150) dX8_run_6 (by decide) (by decide) rfl ?_
  refine xr_iload_n dX8_run_156 3 rfl ?_
  refine xr_aload_n dX8_run_157 0 rfl ?_
  refine xb_get (v := nI (ac)) flX8_36 dX8_run_158 s_46 rfl (Eq.trans (k3 46 4 (by decide)) e_ac) ?_
  refine xr_ixor dX8_run_161 ?_
  exact xr_iret dX8_run_162 rfl rfl (⟨_, rfl, rfl, rfl, (Ke.tr (fun _ _ h => h) Ke.rf k3), rfl, hx1⟩)
set_option maxRecDepth 100000 in
set_option maxHeartbeats 4000000 in
theorem tu7_runFrom_1_2 {e ac : Nat} (x : Int32) (he : e + 1 ≤ 30) {l : Launch} {G : xG} {M : xM} {J : xJ} {b ra : Nat} (h_b : b ≤ 50) (e_b : M 46 2 = nI b) (h_ra : ra + 1 ≤ 900) (e_ra : M 46 3 = nI ra) (hac : ac < b) (e_ac : M 46 4 = nI ac) (e_k : M 47 ac = 7) : x_M l G fX8_runFrom 2 0 0 [.ref (46), .int (1), .int (2), .int (x), .int (nI (e))] x_SH M J (qKI WTN M J (fun r M2 => r = (x ^^^ (nI (ac))) ∧ M2 46 3 = nI (ra + 1))) := by
  refine xb_of pX8 (Nat.le_of_ble_eq_true rfl) rfl ?_
  refine xr_iload_n dX8_runFrom_0 1 rfl ?_
  refine xr_istore (ls2 := [(5, .int (1)), (0, .ref (46)), (1, .int (1)), (2, .int (2)), (3, .int (x)), (4, .int (nI (e)))]) dX8_runFrom_1 (by decide) rfl ?_
  refine xr_iconst (v := 0) dX8_runFrom_3 rfl ?_
  refine xr_istore (ls2 := [(6, .int (0)), (5, .int (1)), (0, .ref (46)), (1, .int (1)), (2, .int (2)), (3, .int (x)), (4, .int (nI (e)))]) dX8_runFrom_4 (by decide) rfl ?_
  refine xr_iload dX8_runFrom_6 0 rfl ?_
  refine xr_bipush (v := 8) dX8_runFrom_8 rfl ?_
  refine xr_icmp_ge (tgt := 81) dX8_runFrom_10 rfl (fun c => absurd c (by decide)) (fun _ => ?_)
  refine xr_iload dX8_runFrom_13 1 rfl ?_
  refine xb_cN (As := [.int (1)]) (rest := []) mlX8_26 (c_X9_isKind 1) dX8_runFrom_15 rfl rfl (Nat.le_of_ble_eq_true rfl) (by decide) (by decide) ?_
  refine xb_beq (tgt := 81) dX8_runFrom_18 rfl (fun c => absurd (by decide) c) (fun _ => ?_)
  refine xr_getsO slX8_50 dX8_runFrom_21 ?_
  refine xr_iload dX8_runFrom_24 1 rfl ?_
  refine xr_iconst (v := 4) dX8_runFrom_26 rfl ?_
  refine xr_imul dX8_runFrom_27 ?_
  refine xb_top (y := 4) (by decide) ?_
  refine xr_iload_n dX8_runFrom_28 4 rfl ?_
  refine xr_iadd dX8_runFrom_29 ?_
  refine xb_top (y := 6) (by decide) ?_
  refine xr_tabO (by unfold vp_in; decide) dX8_runFrom_30 ?_
  refine xb_top (y := 0) (by decide) ?_
  refine xr_if_eq (tgt := 67) dX8_runFrom_31 rfl (fun _ => ?_) (fun c => absurd (by decide) c)
  refine xr_getsA slX8_30 dX8_runFrom_67 ?_
  refine xr_iload dX8_runFrom_70 1 rfl ?_
  refine xr_tabA (by unfold vp_in; decide) dX8_runFrom_72 ?_
  refine xb_top (y := 0) (by decide) ?_
  refine xr_istore (ls2 := [(5, .int (0)), (6, .int (0)), (0, .ref (46)), (1, .int (1)), (2, .int (2)), (3, .int (x)), (4, .int (nI (e)))]) dX8_runFrom_73 (by decide) rfl ?_
  refine xr_iinc (v := 1) (ls2 := [(6, .int (1)), (5, .int (0)), (0, .ref (46)), (1, .int (1)), (2, .int (2)), (3, .int (x)), (4, .int (nI (e)))]) dX8_runFrom_75 1 rfl rfl (by decide) rfl ?_
  refine xr_goto (tgt := 6) dX8_runFrom_78 rfl ?_
  refine xr_iload dX8_runFrom_6 0 rfl ?_
  refine xr_bipush (v := 8) dX8_runFrom_8 rfl ?_
  refine xr_icmp_ge (tgt := 81) dX8_runFrom_10 rfl (fun c => absurd c (by decide)) (fun _ => ?_)
  refine xr_iload dX8_runFrom_13 1 rfl ?_
  refine xb_cN (As := [.int (0)]) (rest := []) mlX8_26 (c_X9_isKind 0) dX8_runFrom_15 rfl rfl (Nat.le_of_ble_eq_true rfl) (by decide) (by decide) ?_
  refine xb_beq (tgt := 81) dX8_runFrom_18 rfl (fun c => absurd (by decide) c) (fun _ => ?_)
  refine xr_getsO slX8_50 dX8_runFrom_21 ?_
  refine xr_iload dX8_runFrom_24 1 rfl ?_
  refine xr_iconst (v := 4) dX8_runFrom_26 rfl ?_
  refine xr_imul dX8_runFrom_27 ?_
  refine xb_top (y := 0) (by decide) ?_
  refine xr_iload_n dX8_runFrom_28 4 rfl ?_
  refine xr_iadd dX8_runFrom_29 ?_
  refine xb_top (y := 2) (by decide) ?_
  refine xr_tabO (by unfold vp_in; decide) dX8_runFrom_30 ?_
  refine xb_top (y := 11) (by decide) ?_
  refine xr_if_eq (tgt := 67) dX8_runFrom_31 rfl (fun c => absurd c (by decide)) (fun _ => ?_)
  refine xr_iload dX8_runFrom_34 6 rfl ?_
  refine xr_bipush (v := 30) dX8_runFrom_36 rfl ?_
  refine xr_icmp_ge (tgt := 65) dX8_runFrom_38 rfl (fun c => absurd c (nI_ge (a := e) (b := 30) (by omega) (by omega))) (fun _ => ?_)
  refine xr_aload_n dX8_runFrom_41 2 rfl ?_
  refine xr_getsO slX8_50 dX8_runFrom_42 ?_
  refine xr_iload dX8_runFrom_45 1 rfl ?_
  refine xr_iconst (v := 4) dX8_runFrom_47 rfl ?_
  refine xr_imul dX8_runFrom_48 ?_
  refine xb_top (y := 0) (by decide) ?_
  refine xr_iload_n dX8_runFrom_49 4 rfl ?_
  refine xr_iadd dX8_runFrom_50 ?_
  refine xb_top (y := 2) (by decide) ?_
  refine xr_tabO (by unfold vp_in; decide) dX8_runFrom_51 ?_
  refine xb_top (y := 11) (by decide) ?_
  refine xr_iload dX8_runFrom_52 1 rfl ?_
  refine xr_iload_n dX8_runFrom_54 5 rfl ?_
  refine xr_iload dX8_runFrom_55 6 rfl ?_
  refine xr_iconst (v := 1) dX8_runFrom_57 rfl ?_
  refine xr_iadd dX8_runFrom_58 ?_
  refine xb_top (y := nI (e + 1)) (nI_add (e) (1)) ?_
  refine xr_callV (As := [.int (11), .int (0), .int (x), .int (nI (e + 1))]) (rest := []) mlX8_53 (tu7_run_11_0 (e := e + 1) (ac := ac) x (by omega) (by omega) e_b (by omega) e_ra hac e_ac e_k) dX8_runFrom_59 s_46 rfl rfl (Nat.le_of_ble_eq_true rfl) (by decide) ⟨by decide, by decide⟩ (fun v s2 M5 J2 hq => ?_)
  obtain ⟨r7, rfl, rfl, rfl, k6, ⟨hr4, hx3⟩⟩ := hq
  try dsimp only [Option.toList, List.cons_append, List.nil_append]
  subst hr4
  refine xr_goto (tgt := 66) dX8_runFrom_62 rfl ?_
  exact xr_iret dX8_runFrom_66 rfl rfl (⟨_, rfl, rfl, rfl, (Ke.tr (fun _ _ h => h) Ke.rf k6), rfl, hx3⟩)
set_option maxRecDepth 100000 in
set_option maxHeartbeats 4000000 in
theorem tu7_above_4_2 {e ac : Nat} (x : Int32) (he : e + 1 ≤ 30) {l : Launch} {G : xG} {M : xM} {J : xJ} {b ra : Nat} (h_b : b ≤ 50) (e_b : M 46 2 = nI b) (h_ra : ra + 1 ≤ 900) (e_ra : M 46 3 = nI ra) (hac : ac < b) (e_ac : M 46 4 = nI ac) (e_k : M 47 ac = 7) : x_M l G fX8_above 3 0 0 [.ref (46), .int (4), .int (2), .int (x), .int (nI (e))] x_SH M J (qKI WTN M J (fun r M2 => r = (x ^^^ (nI (ac))) ∧ M2 46 3 = nI (ra + 1))) := by
  refine xb_of pX8 (Nat.le_of_ble_eq_true rfl) rfl ?_
  refine xr_iload_n dX8_above_0 1 rfl ?_
  refine xb_cN (As := [.int (4)]) (rest := []) mlX8_26 (c_X9_isKind 4) dX8_above_1 rfl rfl (Nat.le_of_ble_eq_true rfl) (by decide) (by decide) ?_
  refine xb_beq (tgt := 23) dX8_above_4 rfl (fun c => absurd (by decide) c) (fun _ => ?_)
  refine xr_aload_n dX8_above_7 0 rfl ?_
  refine xr_getsA slX8_30 dX8_above_8 ?_
  refine xr_iload_n dX8_above_11 1 rfl ?_
  refine xr_tabA (by unfold vp_in; decide) dX8_above_12 ?_
  refine xb_top (y := 1) (by decide) ?_
  refine xr_iload_n dX8_above_13 2 rfl ?_
  refine xr_iload_n dX8_above_14 3 rfl ?_
  refine xr_iload dX8_above_15 4 rfl ?_
  refine xr_callV (As := [.int (1), .int (2), .int (x), .int (nI (e))]) (rest := []) mlX8_46 (tu7_runFrom_1_2 (e := e) (ac := ac) x (by omega) (by omega) e_b (by omega) e_ra hac e_ac e_k) dX8_above_17 s_46 rfl rfl (Nat.le_of_ble_eq_true rfl) (by decide) ⟨by decide, by decide⟩ (fun v s2 M4 J2 hq => ?_)
  obtain ⟨r6, rfl, rfl, rfl, k5, ⟨hr3, hx2⟩⟩ := hq
  try dsimp only [Option.toList, List.cons_append, List.nil_append]
  subst hr3
  refine xr_goto (tgt := 24) dX8_above_20 rfl ?_
  exact xr_iret dX8_above_24 rfl rfl (⟨_, rfl, rfl, rfl, (Ke.tr (fun _ _ h => h) Ke.rf k5), rfl, hx2⟩)
set_option maxRecDepth 100000 in
set_option maxHeartbeats 4000000 in
theorem tu7_run_50_4 {e ac : Nat} (x : Int32) (he : e + 2 ≤ 30) {l : Launch} {G : xG} {M : xM} {J : xJ} {b ra : Nat} (h_b : b ≤ 50) (e_b : M 46 2 = nI b) (h_ra : ra + 4 ≤ 900) (e_ra : M 46 3 = nI ra) (hac : ac < b) (e_ac : M 46 4 = nI ac) (e_k : M 47 ac = 7) : x_M l G fX8_run 7 0 0 [.ref (46), .int (50), .int (4), .int (x), .int (nI (e))] x_SH M J (qKI WTN M J (fun r M2 => r = ((x ^^^ (nI (ac))) - ((2 + (nI (ac))) + 3)) ∧ M2 46 3 = nI (ra + 4))) := by
  refine xb_of pX8 (Nat.le_of_ble_eq_true rfl) rfl ?_
  refine xr_aload_n dX8_run_0 0 rfl ?_
  refine xr_iload_n dX8_run_1 1 rfl ?_
  refine xr_callV (As := [.int (50)]) (rest := []) mlX8_56 (g_X8_note 50 (by omega) e_ra) dX8_run_2 s_46 rfl rfl (Nat.le_of_ble_eq_true rfl) (by decide) ⟨by decide, by decide⟩ (fun v s2 M2 J2 hq => ?_)
  obtain ⟨rfl, rfl, rfl, k3, hx1⟩ := hq
  try dsimp only [Option.toList, List.cons_append, List.nil_append]
  refine xr_iload_n dX8_run_5 1 rfl ?_
  refine xr_lookup (tgt := 210) (off := 204) dX8_run_6 (by decide) (by decide) rfl ?_
  refine xr_aload_n dX8_run_210 0 rfl ?_
  refine xr_iload_n dX8_run_211 2 rfl ?_
  refine xr_iconst (v := 2) dX8_run_212 rfl ?_
  refine xr_iload_n dX8_run_213 3 rfl ?_
  refine xr_iload dX8_run_214 4 rfl ?_
  refine xr_callV (As := [.int (4), .int (2), .int (x), .int (nI (e))]) (rest := []) mlX8_60 (tu7_above_4_2 (e := e) (ac := ac) x (by omega) (by omega) (Eq.trans (k3 46 2 (by decide)) e_b) (by omega) hx1 hac (Eq.trans (k3 46 4 (by decide)) e_ac) (Eq.trans (k3 47 ac (by unfold WTN; omega)) e_k)) dX8_run_216 s_46 rfl rfl (Nat.le_of_ble_eq_true rfl) (by decide) ⟨by decide, by decide⟩ (fun v s2 M6 J2 hq => ?_)
  obtain ⟨r8, rfl, rfl, rfl, k7, ⟨hr5, hx4⟩⟩ := hq
  try dsimp only [Option.toList, List.cons_append, List.nil_append]
  subst hr5
  refine xr_aload_n dX8_run_219 0 rfl ?_
  refine xr_iconst (v := 0) dX8_run_220 rfl ?_
  refine xr_iconst (v := 2) dX8_run_221 rfl ?_
  refine xr_iload dX8_run_222 4 rfl ?_
  refine xr_callV (As := [.int (0), .int (2), .int (nI (e))]) (rest := [.int ((x ^^^ (nI (ac))))]) mlX8_39 (tu7_own_0 (e := e) (ac := ac) 2 (by omega) (by omega) (Eq.trans (k7 46 2 (by decide)) (Eq.trans (k3 46 2 (by decide)) e_b)) (by omega) hx4 hac (Eq.trans (k7 46 4 (by decide)) (Eq.trans (k3 46 4 (by decide)) e_ac)) (Eq.trans (k7 47 ac (by unfold WTN; omega)) (Eq.trans (k3 47 ac (by unfold WTN; omega)) e_k))) dX8_run_224 s_46 rfl rfl (Nat.le_of_ble_eq_true rfl) (by decide) ⟨by decide, by decide⟩ (fun v s2 M11 J2 hq => ?_)
  obtain ⟨r13, rfl, rfl, rfl, k12, ⟨hr10, hx9⟩⟩ := hq
  try dsimp only [Option.toList, List.cons_append, List.nil_append]
  subst hr10
  refine xr_isub dX8_run_227 ?_
  exact xr_iret dX8_run_228 rfl rfl (⟨_, rfl, rfl, rfl, (Ke.tr (fun _ _ h => h) (Ke.tr (fun _ _ h => h) (Ke.tr (fun _ _ h => h) Ke.rf k3) k7) k12), rfl, hx9⟩)
set_option maxRecDepth 100000 in
set_option maxHeartbeats 4000000 in
theorem tu7_runFrom_7_2 {e ac : Nat} (x : Int32) (he : e + 3 ≤ 30) {l : Launch} {G : xG} {M : xM} {J : xJ} {b ra : Nat} (h_b : b ≤ 50) (e_b : M 46 2 = nI b) (h_ra : ra + 4 ≤ 900) (e_ra : M 46 3 = nI ra) (hac : ac < b) (e_ac : M 46 4 = nI ac) (e_k : M 47 ac = 7) : x_M l G fX8_runFrom 8 0 0 [.ref (46), .int (7), .int (2), .int (x), .int (nI (e))] x_SH M J (qKI WTN M J (fun r M2 => r = ((x ^^^ (nI (ac))) - ((2 + (nI (ac))) + 3)) ∧ M2 46 3 = nI (ra + 4))) := by
  refine xb_of pX8 (Nat.le_of_ble_eq_true rfl) rfl ?_
  refine xr_iload_n dX8_runFrom_0 1 rfl ?_
  refine xr_istore (ls2 := [(5, .int (7)), (0, .ref (46)), (1, .int (7)), (2, .int (2)), (3, .int (x)), (4, .int (nI (e)))]) dX8_runFrom_1 (by decide) rfl ?_
  refine xr_iconst (v := 0) dX8_runFrom_3 rfl ?_
  refine xr_istore (ls2 := [(6, .int (0)), (5, .int (7)), (0, .ref (46)), (1, .int (7)), (2, .int (2)), (3, .int (x)), (4, .int (nI (e)))]) dX8_runFrom_4 (by decide) rfl ?_
  refine xr_iload dX8_runFrom_6 0 rfl ?_
  refine xr_bipush (v := 8) dX8_runFrom_8 rfl ?_
  refine xr_icmp_ge (tgt := 81) dX8_runFrom_10 rfl (fun c => absurd c (by decide)) (fun _ => ?_)
  refine xr_iload dX8_runFrom_13 1 rfl ?_
  refine xb_cN (As := [.int (7)]) (rest := []) mlX8_26 (c_X9_isKind 7) dX8_runFrom_15 rfl rfl (Nat.le_of_ble_eq_true rfl) (by decide) (by decide) ?_
  refine xb_beq (tgt := 81) dX8_runFrom_18 rfl (fun c => absurd (by decide) c) (fun _ => ?_)
  refine xr_getsO slX8_50 dX8_runFrom_21 ?_
  refine xr_iload dX8_runFrom_24 1 rfl ?_
  refine xr_iconst (v := 4) dX8_runFrom_26 rfl ?_
  refine xr_imul dX8_runFrom_27 ?_
  refine xb_top (y := 28) (by decide) ?_
  refine xr_iload_n dX8_runFrom_28 4 rfl ?_
  refine xr_iadd dX8_runFrom_29 ?_
  refine xb_top (y := 30) (by decide) ?_
  refine xr_tabO (by unfold vp_in; decide) dX8_runFrom_30 ?_
  refine xb_top (y := 0) (by decide) ?_
  refine xr_if_eq (tgt := 67) dX8_runFrom_31 rfl (fun _ => ?_) (fun c => absurd (by decide) c)
  refine xr_getsA slX8_30 dX8_runFrom_67 ?_
  refine xr_iload dX8_runFrom_70 1 rfl ?_
  refine xr_tabA (by unfold vp_in; decide) dX8_runFrom_72 ?_
  refine xb_top (y := 4) (by decide) ?_
  refine xr_istore (ls2 := [(5, .int (4)), (6, .int (0)), (0, .ref (46)), (1, .int (7)), (2, .int (2)), (3, .int (x)), (4, .int (nI (e)))]) dX8_runFrom_73 (by decide) rfl ?_
  refine xr_iinc (v := 1) (ls2 := [(6, .int (1)), (5, .int (4)), (0, .ref (46)), (1, .int (7)), (2, .int (2)), (3, .int (x)), (4, .int (nI (e)))]) dX8_runFrom_75 1 rfl rfl (by decide) rfl ?_
  refine xr_goto (tgt := 6) dX8_runFrom_78 rfl ?_
  refine xr_iload dX8_runFrom_6 0 rfl ?_
  refine xr_bipush (v := 8) dX8_runFrom_8 rfl ?_
  refine xr_icmp_ge (tgt := 81) dX8_runFrom_10 rfl (fun c => absurd c (by decide)) (fun _ => ?_)
  refine xr_iload dX8_runFrom_13 1 rfl ?_
  refine xb_cN (As := [.int (4)]) (rest := []) mlX8_26 (c_X9_isKind 4) dX8_runFrom_15 rfl rfl (Nat.le_of_ble_eq_true rfl) (by decide) (by decide) ?_
  refine xb_beq (tgt := 81) dX8_runFrom_18 rfl (fun c => absurd (by decide) c) (fun _ => ?_)
  refine xr_getsO slX8_50 dX8_runFrom_21 ?_
  refine xr_iload dX8_runFrom_24 1 rfl ?_
  refine xr_iconst (v := 4) dX8_runFrom_26 rfl ?_
  refine xr_imul dX8_runFrom_27 ?_
  refine xb_top (y := 16) (by decide) ?_
  refine xr_iload_n dX8_runFrom_28 4 rfl ?_
  refine xr_iadd dX8_runFrom_29 ?_
  refine xb_top (y := 18) (by decide) ?_
  refine xr_tabO (by unfold vp_in; decide) dX8_runFrom_30 ?_
  refine xb_top (y := 50) (by decide) ?_
  refine xr_if_eq (tgt := 67) dX8_runFrom_31 rfl (fun c => absurd c (by decide)) (fun _ => ?_)
  refine xr_iload dX8_runFrom_34 6 rfl ?_
  refine xr_bipush (v := 30) dX8_runFrom_36 rfl ?_
  refine xr_icmp_ge (tgt := 65) dX8_runFrom_38 rfl (fun c => absurd c (nI_ge (a := e) (b := 30) (by omega) (by omega))) (fun _ => ?_)
  refine xr_aload_n dX8_runFrom_41 2 rfl ?_
  refine xr_getsO slX8_50 dX8_runFrom_42 ?_
  refine xr_iload dX8_runFrom_45 1 rfl ?_
  refine xr_iconst (v := 4) dX8_runFrom_47 rfl ?_
  refine xr_imul dX8_runFrom_48 ?_
  refine xb_top (y := 16) (by decide) ?_
  refine xr_iload_n dX8_runFrom_49 4 rfl ?_
  refine xr_iadd dX8_runFrom_50 ?_
  refine xb_top (y := 18) (by decide) ?_
  refine xr_tabO (by unfold vp_in; decide) dX8_runFrom_51 ?_
  refine xb_top (y := 50) (by decide) ?_
  refine xr_iload dX8_runFrom_52 1 rfl ?_
  refine xr_iload_n dX8_runFrom_54 5 rfl ?_
  refine xr_iload dX8_runFrom_55 6 rfl ?_
  refine xr_iconst (v := 1) dX8_runFrom_57 rfl ?_
  refine xr_iadd dX8_runFrom_58 ?_
  refine xb_top (y := nI (e + 1)) (nI_add (e) (1)) ?_
  refine xr_callV (As := [.int (50), .int (4), .int (x), .int (nI (e + 1))]) (rest := []) mlX8_53 (tu7_run_50_4 (e := e + 1) (ac := ac) x (by omega) (by omega) e_b (by omega) e_ra hac e_ac e_k) dX8_runFrom_59 s_46 rfl rfl (Nat.le_of_ble_eq_true rfl) (by decide) ⟨by decide, by decide⟩ (fun v s2 M5 J2 hq => ?_)
  obtain ⟨r7, rfl, rfl, rfl, k6, ⟨hr4, hx3⟩⟩ := hq
  try dsimp only [Option.toList, List.cons_append, List.nil_append]
  subst hr4
  refine xr_goto (tgt := 66) dX8_runFrom_62 rfl ?_
  exact xr_iret dX8_runFrom_66 rfl rfl (⟨_, rfl, rfl, rfl, (Ke.tr (fun _ _ h => h) Ke.rf k6), rfl, hx3⟩)
set_option maxRecDepth 100000 in
set_option maxHeartbeats 4000000 in
theorem tu7_own_2 {e ac : Nat} (x : Int32) (he : e + 3 ≤ 30) {l : Launch} {G : xG} {M : xM} {J : xJ} {b ra : Nat} (h_b : b ≤ 50) (e_b : M 46 2 = nI b) (h_ra : ra + 4 ≤ 900) (e_ra : M 46 3 = nI ra) (hac : ac < b) (e_ac : M 46 4 = nI ac) (e_k : M 47 ac = 7) : x_M l G fX8_own 9 0 0 [.ref (46), .int (2), .int (x), .int (nI (e))] x_SH M J (qKI WTN M J (fun r M2 => r = ((x ^^^ (nI (ac))) - ((2 + (nI (ac))) + 3)) ∧ M2 46 3 = nI (ra + 4))) := by
  refine xb_of pX8 (Nat.le_of_ble_eq_true rfl) rfl ?_
  refine xr_aload_n dX8_own_0 0 rfl ?_
  refine xr_aload_n dX8_own_1 0 rfl ?_
  refine xb_get (v := nI (ac)) flX8_36 dX8_own_2 s_46 rfl e_ac ?_
  refine xb_cV (As := [.int (nI (ac))]) (rest := []) mlX8_43 (c_X8_has (nI (ac)) (by omega) e_b) dX8_own_5 s_46 rfl rfl (Nat.le_of_ble_eq_true rfl) (by decide) (by decide) ?_
  refine xb_beq (tgt := 30) dX8_own_8 rfl (fun c => absurd ⟨nI_pos' (by omega), nI_lt (by omega) (by omega)⟩ c) (fun _ => ?_)
  refine xr_aload_n dX8_own_11 0 rfl ?_
  refine xr_aload_n dX8_own_12 0 rfl ?_
  refine xr_getR flX8_9 dX8_own_13 s_46 rfl ?_
  refine xr_aload_n dX8_own_16 0 rfl ?_
  refine xb_get (v := nI (ac)) flX8_36 dX8_own_17 s_46 rfl e_ac ?_
  refine xb_iald (j := ac) (v := 7) dX8_own_20 s_47 (by omega) (by decide) e_k ?_
  refine xr_iload_n dX8_own_21 1 rfl ?_
  refine xr_iload_n dX8_own_22 2 rfl ?_
  refine xr_iload_n dX8_own_23 3 rfl ?_
  refine xr_callV (As := [.int (7), .int (2), .int (x), .int (nI (e))]) (rest := []) mlX8_46 (tu7_runFrom_7_2 (e := e) (ac := ac) x (by omega) (by omega) e_b (by omega) e_ra hac e_ac e_k) dX8_own_24 s_46 rfl rfl (Nat.le_of_ble_eq_true rfl) (by decide) ⟨by decide, by decide⟩ (fun v s2 M4 J2 hq => ?_)
  obtain ⟨r6, rfl, rfl, rfl, k5, ⟨hr3, hx2⟩⟩ := hq
  try dsimp only [Option.toList, List.cons_append, List.nil_append]
  subst hr3
  refine xr_goto (tgt := 31) dX8_own_27 rfl ?_
  exact xr_iret dX8_own_31 rfl rfl (⟨_, rfl, rfl, rfl, (Ke.tr (fun _ _ h => h) Ke.rf k5), rfl, hx2⟩)
set_option maxRecDepth 100000 in
set_option maxHeartbeats 4000000 in
theorem tu7_run_80_7 {e ac : Nat} (x : Int32) (he : e + 3 ≤ 30) {l : Launch} {G : xG} {M : xM} {J : xJ} {b ra : Nat} (h_b : b ≤ 50) (e_b : M 46 2 = nI b) (h_ra : ra + 8 ≤ 900) (e_ra : M 46 3 = nI ra) (hac : ac < b) (e_ac : M 46 4 = nI ac) (e_k : M 47 ac = 7) : x_M l G fX8_run 10 0 0 [.ref (46), .int (80), .int (7), .int (x), .int (nI (e))] x_SH M J (qKI WTN M J (fun r M2 => r = ((((x + (nI (ac))) + 3) * 2) + ((2 ^^^ (nI (ac))) - ((2 + (nI (ac))) + 3))) ∧ M2 46 3 = nI (ra + 8))) := by
  refine xb_of pX8 (Nat.le_of_ble_eq_true rfl) rfl ?_
  refine xr_aload_n dX8_run_0 0 rfl ?_
  refine xr_iload_n dX8_run_1 1 rfl ?_
  refine xr_callV (As := [.int (80)]) (rest := []) mlX8_56 (g_X8_note 80 (by omega) e_ra) dX8_run_2 s_46 rfl rfl (Nat.le_of_ble_eq_true rfl) (by decide) ⟨by decide, by decide⟩ (fun v s2 M2 J2 hq => ?_)
  obtain ⟨rfl, rfl, rfl, k3, hx1⟩ := hq
  try dsimp only [Option.toList, List.cons_append, List.nil_append]
  refine xr_iload_n dX8_run_5 1 rfl ?_
  refine xr_lookup (tgt := 253) (off := 247) dX8_run_6 (by decide) (by decide) rfl ?_
  refine xr_aload_n dX8_run_253 0 rfl ?_
  refine xr_iload_n dX8_run_254 2 rfl ?_
  refine xr_iconst (v := 1) dX8_run_255 rfl ?_
  refine xr_iload_n dX8_run_256 3 rfl ?_
  refine xr_iload dX8_run_257 4 rfl ?_
  refine xr_callV (As := [.int (7), .int (1), .int (x), .int (nI (e))]) (rest := []) mlX8_60 (tu7_above_7_1 (e := e) (ac := ac) x (by omega) (by omega) (Eq.trans (k3 46 2 (by decide)) e_b) (by omega) hx1 hac (Eq.trans (k3 46 4 (by decide)) e_ac) (Eq.trans (k3 47 ac (by unfold WTN; omega)) e_k)) dX8_run_259 s_46 rfl rfl (Nat.le_of_ble_eq_true rfl) (by decide) ⟨by decide, by decide⟩ (fun v s2 M6 J2 hq => ?_)
  obtain ⟨r8, rfl, rfl, rfl, k7, ⟨hr5, hx4⟩⟩ := hq
  try dsimp only [Option.toList, List.cons_append, List.nil_append]
  subst hr5
  refine xr_aload_n dX8_run_262 0 rfl ?_
  refine xr_iconst (v := 2) dX8_run_263 rfl ?_
  refine xr_iconst (v := 2) dX8_run_264 rfl ?_
  refine xr_iload dX8_run_265 4 rfl ?_
  refine xr_callV (As := [.int (2), .int (2), .int (nI (e))]) (rest := [.int ((((x + (nI (ac))) + 3) * 2))]) mlX8_39 (tu7_own_2 (e := e) (ac := ac) 2 (by omega) (by omega) (Eq.trans (k7 46 2 (by decide)) (Eq.trans (k3 46 2 (by decide)) e_b)) (by omega) hx4 hac (Eq.trans (k7 46 4 (by decide)) (Eq.trans (k3 46 4 (by decide)) e_ac)) (Eq.trans (k7 47 ac (by unfold WTN; omega)) (Eq.trans (k3 47 ac (by unfold WTN; omega)) e_k))) dX8_run_267 s_46 rfl rfl (Nat.le_of_ble_eq_true rfl) (by decide) ⟨by decide, by decide⟩ (fun v s2 M11 J2 hq => ?_)
  obtain ⟨r13, rfl, rfl, rfl, k12, ⟨hr10, hx9⟩⟩ := hq
  try dsimp only [Option.toList, List.cons_append, List.nil_append]
  subst hr10
  refine xr_iadd dX8_run_270 ?_
  exact xr_iret dX8_run_271 rfl rfl (⟨_, rfl, rfl, rfl, (Ke.tr (fun _ _ h => h) (Ke.tr (fun _ _ h => h) (Ke.tr (fun _ _ h => h) Ke.rf k3) k7) k12), rfl, hx9⟩)
set_option maxRecDepth 100000 in
set_option maxHeartbeats 4000000 in
theorem tu7_runFrom_7_1 {e ac : Nat} (x : Int32) (he : e + 4 ≤ 30) {l : Launch} {G : xG} {M : xM} {J : xJ} {b ra : Nat} (h_b : b ≤ 50) (e_b : M 46 2 = nI b) (h_ra : ra + 8 ≤ 900) (e_ra : M 46 3 = nI ra) (hac : ac < b) (e_ac : M 46 4 = nI ac) (e_k : M 47 ac = 7) : x_M l G fX8_runFrom 11 0 0 [.ref (46), .int (7), .int (1), .int (x), .int (nI (e))] x_SH M J (qKI WTN M J (fun r M2 => r = ((((x + (nI (ac))) + 3) * 2) + ((2 ^^^ (nI (ac))) - ((2 + (nI (ac))) + 3))) ∧ M2 46 3 = nI (ra + 8))) := by
  refine xb_of pX8 (Nat.le_of_ble_eq_true rfl) rfl ?_
  refine xr_iload_n dX8_runFrom_0 1 rfl ?_
  refine xr_istore (ls2 := [(5, .int (7)), (0, .ref (46)), (1, .int (7)), (2, .int (1)), (3, .int (x)), (4, .int (nI (e)))]) dX8_runFrom_1 (by decide) rfl ?_
  refine xr_iconst (v := 0) dX8_runFrom_3 rfl ?_
  refine xr_istore (ls2 := [(6, .int (0)), (5, .int (7)), (0, .ref (46)), (1, .int (7)), (2, .int (1)), (3, .int (x)), (4, .int (nI (e)))]) dX8_runFrom_4 (by decide) rfl ?_
  refine xr_iload dX8_runFrom_6 0 rfl ?_
  refine xr_bipush (v := 8) dX8_runFrom_8 rfl ?_
  refine xr_icmp_ge (tgt := 81) dX8_runFrom_10 rfl (fun c => absurd c (by decide)) (fun _ => ?_)
  refine xr_iload dX8_runFrom_13 1 rfl ?_
  refine xb_cN (As := [.int (7)]) (rest := []) mlX8_26 (c_X9_isKind 7) dX8_runFrom_15 rfl rfl (Nat.le_of_ble_eq_true rfl) (by decide) (by decide) ?_
  refine xb_beq (tgt := 81) dX8_runFrom_18 rfl (fun c => absurd (by decide) c) (fun _ => ?_)
  refine xr_getsO slX8_50 dX8_runFrom_21 ?_
  refine xr_iload dX8_runFrom_24 1 rfl ?_
  refine xr_iconst (v := 4) dX8_runFrom_26 rfl ?_
  refine xr_imul dX8_runFrom_27 ?_
  refine xb_top (y := 28) (by decide) ?_
  refine xr_iload_n dX8_runFrom_28 4 rfl ?_
  refine xr_iadd dX8_runFrom_29 ?_
  refine xb_top (y := 29) (by decide) ?_
  refine xr_tabO (by unfold vp_in; decide) dX8_runFrom_30 ?_
  refine xb_top (y := 80) (by decide) ?_
  refine xr_if_eq (tgt := 67) dX8_runFrom_31 rfl (fun c => absurd c (by decide)) (fun _ => ?_)
  refine xr_iload dX8_runFrom_34 6 rfl ?_
  refine xr_bipush (v := 30) dX8_runFrom_36 rfl ?_
  refine xr_icmp_ge (tgt := 65) dX8_runFrom_38 rfl (fun c => absurd c (nI_ge (a := e) (b := 30) (by omega) (by omega))) (fun _ => ?_)
  refine xr_aload_n dX8_runFrom_41 2 rfl ?_
  refine xr_getsO slX8_50 dX8_runFrom_42 ?_
  refine xr_iload dX8_runFrom_45 1 rfl ?_
  refine xr_iconst (v := 4) dX8_runFrom_47 rfl ?_
  refine xr_imul dX8_runFrom_48 ?_
  refine xb_top (y := 28) (by decide) ?_
  refine xr_iload_n dX8_runFrom_49 4 rfl ?_
  refine xr_iadd dX8_runFrom_50 ?_
  refine xb_top (y := 29) (by decide) ?_
  refine xr_tabO (by unfold vp_in; decide) dX8_runFrom_51 ?_
  refine xb_top (y := 80) (by decide) ?_
  refine xr_iload dX8_runFrom_52 1 rfl ?_
  refine xr_iload_n dX8_runFrom_54 5 rfl ?_
  refine xr_iload dX8_runFrom_55 6 rfl ?_
  refine xr_iconst (v := 1) dX8_runFrom_57 rfl ?_
  refine xr_iadd dX8_runFrom_58 ?_
  refine xb_top (y := nI (e + 1)) (nI_add (e) (1)) ?_
  refine xr_callV (As := [.int (80), .int (7), .int (x), .int (nI (e + 1))]) (rest := []) mlX8_53 (tu7_run_80_7 (e := e + 1) (ac := ac) x (by omega) (by omega) e_b (by omega) e_ra hac e_ac e_k) dX8_runFrom_59 s_46 rfl rfl (Nat.le_of_ble_eq_true rfl) (by decide) ⟨by decide, by decide⟩ (fun v s2 M4 J2 hq => ?_)
  obtain ⟨r6, rfl, rfl, rfl, k5, ⟨hr3, hx2⟩⟩ := hq
  try dsimp only [Option.toList, List.cons_append, List.nil_append]
  subst hr3
  refine xr_goto (tgt := 66) dX8_runFrom_62 rfl ?_
  exact xr_iret dX8_runFrom_66 rfl rfl (⟨_, rfl, rfl, rfl, (Ke.tr (fun _ _ h => h) Ke.rf k5), rfl, hx2⟩)
set_option maxRecDepth 100000 in
set_option maxHeartbeats 4000000 in
theorem tu7_own_1 {e ac : Nat} (x : Int32) (he : e + 4 ≤ 30) {l : Launch} {G : xG} {M : xM} {J : xJ} {b ra : Nat} (h_b : b ≤ 50) (e_b : M 46 2 = nI b) (h_ra : ra + 8 ≤ 900) (e_ra : M 46 3 = nI ra) (hac : ac < b) (e_ac : M 46 4 = nI ac) (e_k : M 47 ac = 7) : x_M l G fX8_own 12 0 0 [.ref (46), .int (1), .int (x), .int (nI (e))] x_SH M J (qKI WTN M J (fun r M2 => r = ((((x + (nI (ac))) + 3) * 2) + ((2 ^^^ (nI (ac))) - ((2 + (nI (ac))) + 3))) ∧ M2 46 3 = nI (ra + 8))) := by
  refine xb_of pX8 (Nat.le_of_ble_eq_true rfl) rfl ?_
  refine xr_aload_n dX8_own_0 0 rfl ?_
  refine xr_aload_n dX8_own_1 0 rfl ?_
  refine xb_get (v := nI (ac)) flX8_36 dX8_own_2 s_46 rfl e_ac ?_
  refine xb_cV (As := [.int (nI (ac))]) (rest := []) mlX8_43 (c_X8_has (nI (ac)) (by omega) e_b) dX8_own_5 s_46 rfl rfl (Nat.le_of_ble_eq_true rfl) (by decide) (by decide) ?_
  refine xb_beq (tgt := 30) dX8_own_8 rfl (fun c => absurd ⟨nI_pos' (by omega), nI_lt (by omega) (by omega)⟩ c) (fun _ => ?_)
  refine xr_aload_n dX8_own_11 0 rfl ?_
  refine xr_aload_n dX8_own_12 0 rfl ?_
  refine xr_getR flX8_9 dX8_own_13 s_46 rfl ?_
  refine xr_aload_n dX8_own_16 0 rfl ?_
  refine xb_get (v := nI (ac)) flX8_36 dX8_own_17 s_46 rfl e_ac ?_
  refine xb_iald (j := ac) (v := 7) dX8_own_20 s_47 (by omega) (by decide) e_k ?_
  refine xr_iload_n dX8_own_21 1 rfl ?_
  refine xr_iload_n dX8_own_22 2 rfl ?_
  refine xr_iload_n dX8_own_23 3 rfl ?_
  refine xr_callV (As := [.int (7), .int (1), .int (x), .int (nI (e))]) (rest := []) mlX8_46 (tu7_runFrom_7_1 (e := e) (ac := ac) x (by omega) (by omega) e_b (by omega) e_ra hac e_ac e_k) dX8_own_24 s_46 rfl rfl (Nat.le_of_ble_eq_true rfl) (by decide) ⟨by decide, by decide⟩ (fun v s2 M4 J2 hq => ?_)
  obtain ⟨r6, rfl, rfl, rfl, k5, ⟨hr3, hx2⟩⟩ := hq
  try dsimp only [Option.toList, List.cons_append, List.nil_append]
  subst hr3
  refine xr_goto (tgt := 31) dX8_own_27 rfl ?_
  exact xr_iret dX8_own_31 rfl rfl (⟨_, rfl, rfl, rfl, (Ke.tr (fun _ _ h => h) Ke.rf k5), rfl, hx2⟩)
set_option maxRecDepth 100000 in
set_option maxHeartbeats 4000000 in
theorem tu7_run_2_0 {e ac : Nat} (x : Int32) (he : e + 4 ≤ 30) {l : Launch} {G : xG} {M : xM} {J : xJ} {b ra : Nat} (h_b : b ≤ 50) (e_b : M 46 2 = nI b) (h_ra : ra + 13 ≤ 900) (e_ra : M 46 3 = nI ra) (hac : ac < b) (e_ac : M 46 4 = nI ac) (e_k : M 47 ac = 7) : x_M l G fX8_run 13 0 0 [.ref (46), .int (2), .int (0), .int (x), .int (nI (e))] x_SH M J (qKI WTN M J (fun r M2 => r = (((((x + (nI (ac))) + 3) * 2) + ((2 ^^^ (nI (ac))) - ((2 + (nI (ac))) + 3))) - ((1 ^^^ (nI (ac))) - ((2 + (nI (ac))) + 3))) ∧ M2 46 3 = nI (ra + 13))) := by
  refine xb_of pX8 (Nat.le_of_ble_eq_true rfl) rfl ?_
  refine xr_aload_n dX8_run_0 0 rfl ?_
  refine xr_iload_n dX8_run_1 1 rfl ?_
  refine xr_callV (As := [.int (2)]) (rest := []) mlX8_56 (g_X8_note 2 (by omega) e_ra) dX8_run_2 s_46 rfl rfl (Nat.le_of_ble_eq_true rfl) (by decide) ⟨by decide, by decide⟩ (fun v s2 M2 J2 hq => ?_)
  obtain ⟨rfl, rfl, rfl, k3, hx1⟩ := hq
  try dsimp only [Option.toList, List.cons_append, List.nil_append]
  refine xr_iload_n dX8_run_5 1 rfl ?_
  refine xr_lookup (tgt := 127) (off := 121) dX8_run_6 (by decide) (by decide) rfl ?_
  refine xr_aload_n dX8_run_127 0 rfl ?_
  refine xr_iconst (v := 1) dX8_run_128 rfl ?_
  refine xr_iload_n dX8_run_129 3 rfl ?_
  refine xr_iload dX8_run_130 4 rfl ?_
  refine xr_callV (As := [.int (1), .int (x), .int (nI (e))]) (rest := []) mlX8_39 (tu7_own_1 (e := e) (ac := ac) x (by omega) (by omega) (Eq.trans (k3 46 2 (by decide)) e_b) (by omega) hx1 hac (Eq.trans (k3 46 4 (by decide)) e_ac) (Eq.trans (k3 47 ac (by unfold WTN; omega)) e_k)) dX8_run_132 s_46 rfl rfl (Nat.le_of_ble_eq_true rfl) (by decide) ⟨by decide, by decide⟩ (fun v s2 M6 J2 hq => ?_)
  obtain ⟨r8, rfl, rfl, rfl, k7, ⟨hr5, hx4⟩⟩ := hq
  try dsimp only [Option.toList, List.cons_append, List.nil_append]
  subst hr5
  refine xr_aload_n dX8_run_135 0 rfl ?_
  refine xr_iconst (v := 2) dX8_run_136 rfl ?_
  refine xr_iconst (v := 1) dX8_run_137 rfl ?_
  refine xr_iload dX8_run_138 4 rfl ?_
  refine xr_callV (As := [.int (2), .int (1), .int (nI (e))]) (rest := [.int (((((x + (nI (ac))) + 3) * 2) + ((2 ^^^ (nI (ac))) - ((2 + (nI (ac))) + 3))))]) mlX8_39 (tu7_own_2 (e := e) (ac := ac) 1 (by omega) (by omega) (Eq.trans (k7 46 2 (by decide)) (Eq.trans (k3 46 2 (by decide)) e_b)) (by omega) hx4 hac (Eq.trans (k7 46 4 (by decide)) (Eq.trans (k3 46 4 (by decide)) e_ac)) (Eq.trans (k7 47 ac (by unfold WTN; omega)) (Eq.trans (k3 47 ac (by unfold WTN; omega)) e_k))) dX8_run_140 s_46 rfl rfl (Nat.le_of_ble_eq_true rfl) (by decide) ⟨by decide, by decide⟩ (fun v s2 M11 J2 hq => ?_)
  obtain ⟨r13, rfl, rfl, rfl, k12, ⟨hr10, hx9⟩⟩ := hq
  try dsimp only [Option.toList, List.cons_append, List.nil_append]
  subst hr10
  refine xr_isub dX8_run_143 ?_
  exact xr_iret dX8_run_144 rfl rfl (⟨_, rfl, rfl, rfl, (Ke.tr (fun _ _ h => h) (Ke.tr (fun _ _ h => h) (Ke.tr (fun _ _ h => h) Ke.rf k3) k7) k12), rfl, hx9⟩)
set_option maxRecDepth 100000 in
set_option maxHeartbeats 4000000 in
theorem tu7_runFrom_4_3 {e ac : Nat} (x : Int32) (he : e + 5 ≤ 30) {l : Launch} {G : xG} {M : xM} {J : xJ} {b ra : Nat} (h_b : b ≤ 50) (e_b : M 46 2 = nI b) (h_ra : ra + 13 ≤ 900) (e_ra : M 46 3 = nI ra) (hac : ac < b) (e_ac : M 46 4 = nI ac) (e_k : M 47 ac = 7) : x_M l G fX8_runFrom 14 0 0 [.ref (46), .int (4), .int (3), .int (x), .int (nI (e))] x_SH M J (qKI WTN M J (fun r M2 => r = (((((x + (nI (ac))) + 3) * 2) + ((2 ^^^ (nI (ac))) - ((2 + (nI (ac))) + 3))) - ((1 ^^^ (nI (ac))) - ((2 + (nI (ac))) + 3))) ∧ M2 46 3 = nI (ra + 13))) := by
  refine xb_of pX8 (Nat.le_of_ble_eq_true rfl) rfl ?_
  refine xr_iload_n dX8_runFrom_0 1 rfl ?_
  refine xr_istore (ls2 := [(5, .int (4)), (0, .ref (46)), (1, .int (4)), (2, .int (3)), (3, .int (x)), (4, .int (nI (e)))]) dX8_runFrom_1 (by decide) rfl ?_
  refine xr_iconst (v := 0) dX8_runFrom_3 rfl ?_
  refine xr_istore (ls2 := [(6, .int (0)), (5, .int (4)), (0, .ref (46)), (1, .int (4)), (2, .int (3)), (3, .int (x)), (4, .int (nI (e)))]) dX8_runFrom_4 (by decide) rfl ?_
  refine xr_iload dX8_runFrom_6 0 rfl ?_
  refine xr_bipush (v := 8) dX8_runFrom_8 rfl ?_
  refine xr_icmp_ge (tgt := 81) dX8_runFrom_10 rfl (fun c => absurd c (by decide)) (fun _ => ?_)
  refine xr_iload dX8_runFrom_13 1 rfl ?_
  refine xb_cN (As := [.int (4)]) (rest := []) mlX8_26 (c_X9_isKind 4) dX8_runFrom_15 rfl rfl (Nat.le_of_ble_eq_true rfl) (by decide) (by decide) ?_
  refine xb_beq (tgt := 81) dX8_runFrom_18 rfl (fun c => absurd (by decide) c) (fun _ => ?_)
  refine xr_getsO slX8_50 dX8_runFrom_21 ?_
  refine xr_iload dX8_runFrom_24 1 rfl ?_
  refine xr_iconst (v := 4) dX8_runFrom_26 rfl ?_
  refine xr_imul dX8_runFrom_27 ?_
  refine xb_top (y := 16) (by decide) ?_
  refine xr_iload_n dX8_runFrom_28 4 rfl ?_
  refine xr_iadd dX8_runFrom_29 ?_
  refine xb_top (y := 19) (by decide) ?_
  refine xr_tabO (by unfold vp_in; decide) dX8_runFrom_30 ?_
  refine xb_top (y := 0) (by decide) ?_
  refine xr_if_eq (tgt := 67) dX8_runFrom_31 rfl (fun _ => ?_) (fun c => absurd (by decide) c)
  refine xr_getsA slX8_30 dX8_runFrom_67 ?_
  refine xr_iload dX8_runFrom_70 1 rfl ?_
  refine xr_tabA (by unfold vp_in; decide) dX8_runFrom_72 ?_
  refine xb_top (y := 1) (by decide) ?_
  refine xr_istore (ls2 := [(5, .int (1)), (6, .int (0)), (0, .ref (46)), (1, .int (4)), (2, .int (3)), (3, .int (x)), (4, .int (nI (e)))]) dX8_runFrom_73 (by decide) rfl ?_
  refine xr_iinc (v := 1) (ls2 := [(6, .int (1)), (5, .int (1)), (0, .ref (46)), (1, .int (4)), (2, .int (3)), (3, .int (x)), (4, .int (nI (e)))]) dX8_runFrom_75 1 rfl rfl (by decide) rfl ?_
  refine xr_goto (tgt := 6) dX8_runFrom_78 rfl ?_
  refine xr_iload dX8_runFrom_6 0 rfl ?_
  refine xr_bipush (v := 8) dX8_runFrom_8 rfl ?_
  refine xr_icmp_ge (tgt := 81) dX8_runFrom_10 rfl (fun c => absurd c (by decide)) (fun _ => ?_)
  refine xr_iload dX8_runFrom_13 1 rfl ?_
  refine xb_cN (As := [.int (1)]) (rest := []) mlX8_26 (c_X9_isKind 1) dX8_runFrom_15 rfl rfl (Nat.le_of_ble_eq_true rfl) (by decide) (by decide) ?_
  refine xb_beq (tgt := 81) dX8_runFrom_18 rfl (fun c => absurd (by decide) c) (fun _ => ?_)
  refine xr_getsO slX8_50 dX8_runFrom_21 ?_
  refine xr_iload dX8_runFrom_24 1 rfl ?_
  refine xr_iconst (v := 4) dX8_runFrom_26 rfl ?_
  refine xr_imul dX8_runFrom_27 ?_
  refine xb_top (y := 4) (by decide) ?_
  refine xr_iload_n dX8_runFrom_28 4 rfl ?_
  refine xr_iadd dX8_runFrom_29 ?_
  refine xb_top (y := 7) (by decide) ?_
  refine xr_tabO (by unfold vp_in; decide) dX8_runFrom_30 ?_
  refine xb_top (y := 0) (by decide) ?_
  refine xr_if_eq (tgt := 67) dX8_runFrom_31 rfl (fun _ => ?_) (fun c => absurd (by decide) c)
  refine xr_getsA slX8_30 dX8_runFrom_67 ?_
  refine xr_iload dX8_runFrom_70 1 rfl ?_
  refine xr_tabA (by unfold vp_in; decide) dX8_runFrom_72 ?_
  refine xb_top (y := 0) (by decide) ?_
  refine xr_istore (ls2 := [(5, .int (0)), (6, .int (1)), (0, .ref (46)), (1, .int (4)), (2, .int (3)), (3, .int (x)), (4, .int (nI (e)))]) dX8_runFrom_73 (by decide) rfl ?_
  refine xr_iinc (v := 2) (ls2 := [(6, .int (2)), (5, .int (0)), (0, .ref (46)), (1, .int (4)), (2, .int (3)), (3, .int (x)), (4, .int (nI (e)))]) dX8_runFrom_75 1 rfl rfl (by decide) rfl ?_
  refine xr_goto (tgt := 6) dX8_runFrom_78 rfl ?_
  refine xr_iload dX8_runFrom_6 0 rfl ?_
  refine xr_bipush (v := 8) dX8_runFrom_8 rfl ?_
  refine xr_icmp_ge (tgt := 81) dX8_runFrom_10 rfl (fun c => absurd c (by decide)) (fun _ => ?_)
  refine xr_iload dX8_runFrom_13 1 rfl ?_
  refine xb_cN (As := [.int (0)]) (rest := []) mlX8_26 (c_X9_isKind 0) dX8_runFrom_15 rfl rfl (Nat.le_of_ble_eq_true rfl) (by decide) (by decide) ?_
  refine xb_beq (tgt := 81) dX8_runFrom_18 rfl (fun c => absurd (by decide) c) (fun _ => ?_)
  refine xr_getsO slX8_50 dX8_runFrom_21 ?_
  refine xr_iload dX8_runFrom_24 1 rfl ?_
  refine xr_iconst (v := 4) dX8_runFrom_26 rfl ?_
  refine xr_imul dX8_runFrom_27 ?_
  refine xb_top (y := 0) (by decide) ?_
  refine xr_iload_n dX8_runFrom_28 4 rfl ?_
  refine xr_iadd dX8_runFrom_29 ?_
  refine xb_top (y := 3) (by decide) ?_
  refine xr_tabO (by unfold vp_in; decide) dX8_runFrom_30 ?_
  refine xb_top (y := 2) (by decide) ?_
  refine xr_if_eq (tgt := 67) dX8_runFrom_31 rfl (fun c => absurd c (by decide)) (fun _ => ?_)
  refine xr_iload dX8_runFrom_34 6 rfl ?_
  refine xr_bipush (v := 30) dX8_runFrom_36 rfl ?_
  refine xr_icmp_ge (tgt := 65) dX8_runFrom_38 rfl (fun c => absurd c (nI_ge (a := e) (b := 30) (by omega) (by omega))) (fun _ => ?_)
  refine xr_aload_n dX8_runFrom_41 2 rfl ?_
  refine xr_getsO slX8_50 dX8_runFrom_42 ?_
  refine xr_iload dX8_runFrom_45 1 rfl ?_
  refine xr_iconst (v := 4) dX8_runFrom_47 rfl ?_
  refine xr_imul dX8_runFrom_48 ?_
  refine xb_top (y := 0) (by decide) ?_
  refine xr_iload_n dX8_runFrom_49 4 rfl ?_
  refine xr_iadd dX8_runFrom_50 ?_
  refine xb_top (y := 3) (by decide) ?_
  refine xr_tabO (by unfold vp_in; decide) dX8_runFrom_51 ?_
  refine xb_top (y := 2) (by decide) ?_
  refine xr_iload dX8_runFrom_52 1 rfl ?_
  refine xr_iload_n dX8_runFrom_54 5 rfl ?_
  refine xr_iload dX8_runFrom_55 6 rfl ?_
  refine xr_iconst (v := 1) dX8_runFrom_57 rfl ?_
  refine xr_iadd dX8_runFrom_58 ?_
  refine xb_top (y := nI (e + 1)) (nI_add (e) (1)) ?_
  refine xr_callV (As := [.int (2), .int (0), .int (x), .int (nI (e + 1))]) (rest := []) mlX8_53 (tu7_run_2_0 (e := e + 1) (ac := ac) x (by omega) (by omega) e_b (by omega) e_ra hac e_ac e_k) dX8_runFrom_59 s_46 rfl rfl (Nat.le_of_ble_eq_true rfl) (by decide) ⟨by decide, by decide⟩ (fun v s2 M6 J2 hq => ?_)
  obtain ⟨r8, rfl, rfl, rfl, k7, ⟨hr5, hx4⟩⟩ := hq
  try dsimp only [Option.toList, List.cons_append, List.nil_append]
  subst hr5
  refine xr_goto (tgt := 66) dX8_runFrom_62 rfl ?_
  exact xr_iret dX8_runFrom_66 rfl rfl (⟨_, rfl, rfl, rfl, (Ke.tr (fun _ _ h => h) Ke.rf k7), rfl, hx4⟩)
set_option maxRecDepth 100000 in
set_option maxHeartbeats 4000000 in
theorem tu7_above_7_3 {e ac : Nat} (x : Int32) (he : e + 5 ≤ 30) {l : Launch} {G : xG} {M : xM} {J : xJ} {b ra : Nat} (h_b : b ≤ 50) (e_b : M 46 2 = nI b) (h_ra : ra + 13 ≤ 900) (e_ra : M 46 3 = nI ra) (hac : ac < b) (e_ac : M 46 4 = nI ac) (e_k : M 47 ac = 7) : x_M l G fX8_above 15 0 0 [.ref (46), .int (7), .int (3), .int (x), .int (nI (e))] x_SH M J (qKI WTN M J (fun r M2 => r = (((((x + (nI (ac))) + 3) * 2) + ((2 ^^^ (nI (ac))) - ((2 + (nI (ac))) + 3))) - ((1 ^^^ (nI (ac))) - ((2 + (nI (ac))) + 3))) ∧ M2 46 3 = nI (ra + 13))) := by
  refine xb_of pX8 (Nat.le_of_ble_eq_true rfl) rfl ?_
  refine xr_iload_n dX8_above_0 1 rfl ?_
  refine xb_cN (As := [.int (7)]) (rest := []) mlX8_26 (c_X9_isKind 7) dX8_above_1 rfl rfl (Nat.le_of_ble_eq_true rfl) (by decide) (by decide) ?_
  refine xb_beq (tgt := 23) dX8_above_4 rfl (fun c => absurd (by decide) c) (fun _ => ?_)
  refine xr_aload_n dX8_above_7 0 rfl ?_
  refine xr_getsA slX8_30 dX8_above_8 ?_
  refine xr_iload_n dX8_above_11 1 rfl ?_
  refine xr_tabA (by unfold vp_in; decide) dX8_above_12 ?_
  refine xb_top (y := 4) (by decide) ?_
  refine xr_iload_n dX8_above_13 2 rfl ?_
  refine xr_iload_n dX8_above_14 3 rfl ?_
  refine xr_iload dX8_above_15 4 rfl ?_
  refine xr_callV (As := [.int (4), .int (3), .int (x), .int (nI (e))]) (rest := []) mlX8_46 (tu7_runFrom_4_3 (e := e) (ac := ac) x (by omega) (by omega) e_b (by omega) e_ra hac e_ac e_k) dX8_above_17 s_46 rfl rfl (Nat.le_of_ble_eq_true rfl) (by decide) ⟨by decide, by decide⟩ (fun v s2 M4 J2 hq => ?_)
  obtain ⟨r6, rfl, rfl, rfl, k5, ⟨hr3, hx2⟩⟩ := hq
  try dsimp only [Option.toList, List.cons_append, List.nil_append]
  subst hr3
  refine xr_goto (tgt := 24) dX8_above_20 rfl ?_
  exact xr_iret dX8_above_24 rfl rfl (⟨_, rfl, rfl, rfl, (Ke.tr (fun _ _ h => h) Ke.rf k5), rfl, hx2⟩)
set_option maxRecDepth 100000 in
set_option maxHeartbeats 4000000 in
theorem tu7_run_81_7 {e ac : Nat} (x : Int32) (he : e + 5 ≤ 30) {l : Launch} {G : xG} {M : xM} {J : xJ} {b ra : Nat} (h_b : b ≤ 50) (e_b : M 46 2 = nI b) (h_ra : ra + 14 ≤ 900) (e_ra : M 46 3 = nI ra) (hac : ac < b) (e_ac : M 46 4 = nI ac) (e_k : M 47 ac = 7) : x_M l G fX8_run 16 0 0 [.ref (46), .int (81), .int (7), .int (x), .int (nI (e))] x_SH M J (qKI WTN M J (fun r M2 => r = ((((((x + (nI (ac))) + 3) * 2) + ((2 ^^^ (nI (ac))) - ((2 + (nI (ac))) + 3))) - ((1 ^^^ (nI (ac))) - ((2 + (nI (ac))) + 3))) - 1) ∧ M2 46 3 = nI (ra + 14))) := by
  refine xb_of pX8 (Nat.le_of_ble_eq_true rfl) rfl ?_
  refine xr_aload_n dX8_run_0 0 rfl ?_
  refine xr_iload_n dX8_run_1 1 rfl ?_
  refine xr_callV (As := [.int (81)]) (rest := []) mlX8_56 (g_X8_note 81 (by omega) e_ra) dX8_run_2 s_46 rfl rfl (Nat.le_of_ble_eq_true rfl) (by decide) ⟨by decide, by decide⟩ (fun v s2 M2 J2 hq => ?_)
  obtain ⟨rfl, rfl, rfl, k3, hx1⟩ := hq
  try dsimp only [Option.toList, List.cons_append, List.nil_append]
  refine xr_iload_n dX8_run_5 1 rfl ?_
  refine xr_lookup (tgt := 272) (off := 266) dX8_run_6 (by decide) (by decide) rfl ?_
  refine xr_aload_n dX8_run_272 0 rfl ?_
  refine xr_iload_n dX8_run_273 2 rfl ?_
  refine xr_iconst (v := 3) dX8_run_274 rfl ?_
  refine xr_iload_n dX8_run_275 3 rfl ?_
  refine xr_iload dX8_run_276 4 rfl ?_
  refine xr_callV (As := [.int (7), .int (3), .int (x), .int (nI (e))]) (rest := []) mlX8_60 (tu7_above_7_3 (e := e) (ac := ac) x (by omega) (by omega) (Eq.trans (k3 46 2 (by decide)) e_b) (by omega) hx1 hac (Eq.trans (k3 46 4 (by decide)) e_ac) (Eq.trans (k3 47 ac (by unfold WTN; omega)) e_k)) dX8_run_278 s_46 rfl rfl (Nat.le_of_ble_eq_true rfl) (by decide) ⟨by decide, by decide⟩ (fun v s2 M6 J2 hq => ?_)
  obtain ⟨r8, rfl, rfl, rfl, k7, ⟨hr5, hx4⟩⟩ := hq
  try dsimp only [Option.toList, List.cons_append, List.nil_append]
  subst hr5
  refine xr_iconst (v := 1) dX8_run_281 rfl ?_
  refine xr_isub dX8_run_282 ?_
  exact xr_iret dX8_run_283 rfl rfl (⟨_, rfl, rfl, rfl, (Ke.tr (fun _ _ h => h) (Ke.tr (fun _ _ h => h) Ke.rf k3) k7), rfl, hx4⟩)
set_option maxRecDepth 100000 in
set_option maxHeartbeats 4000000 in
theorem tu7_runFrom_7_3 {e ac : Nat} (x : Int32) (he : e + 6 ≤ 30) {l : Launch} {G : xG} {M : xM} {J : xJ} {b ra : Nat} (h_b : b ≤ 50) (e_b : M 46 2 = nI b) (h_ra : ra + 14 ≤ 900) (e_ra : M 46 3 = nI ra) (hac : ac < b) (e_ac : M 46 4 = nI ac) (e_k : M 47 ac = 7) : x_M l G fX8_runFrom 17 0 0 [.ref (46), .int (7), .int (3), .int (x), .int (nI (e))] x_SH M J (qKI WTN M J (fun r M2 => r = ((((((x + (nI (ac))) + 3) * 2) + ((2 ^^^ (nI (ac))) - ((2 + (nI (ac))) + 3))) - ((1 ^^^ (nI (ac))) - ((2 + (nI (ac))) + 3))) - 1) ∧ M2 46 3 = nI (ra + 14))) := by
  refine xb_of pX8 (Nat.le_of_ble_eq_true rfl) rfl ?_
  refine xr_iload_n dX8_runFrom_0 1 rfl ?_
  refine xr_istore (ls2 := [(5, .int (7)), (0, .ref (46)), (1, .int (7)), (2, .int (3)), (3, .int (x)), (4, .int (nI (e)))]) dX8_runFrom_1 (by decide) rfl ?_
  refine xr_iconst (v := 0) dX8_runFrom_3 rfl ?_
  refine xr_istore (ls2 := [(6, .int (0)), (5, .int (7)), (0, .ref (46)), (1, .int (7)), (2, .int (3)), (3, .int (x)), (4, .int (nI (e)))]) dX8_runFrom_4 (by decide) rfl ?_
  refine xr_iload dX8_runFrom_6 0 rfl ?_
  refine xr_bipush (v := 8) dX8_runFrom_8 rfl ?_
  refine xr_icmp_ge (tgt := 81) dX8_runFrom_10 rfl (fun c => absurd c (by decide)) (fun _ => ?_)
  refine xr_iload dX8_runFrom_13 1 rfl ?_
  refine xb_cN (As := [.int (7)]) (rest := []) mlX8_26 (c_X9_isKind 7) dX8_runFrom_15 rfl rfl (Nat.le_of_ble_eq_true rfl) (by decide) (by decide) ?_
  refine xb_beq (tgt := 81) dX8_runFrom_18 rfl (fun c => absurd (by decide) c) (fun _ => ?_)
  refine xr_getsO slX8_50 dX8_runFrom_21 ?_
  refine xr_iload dX8_runFrom_24 1 rfl ?_
  refine xr_iconst (v := 4) dX8_runFrom_26 rfl ?_
  refine xr_imul dX8_runFrom_27 ?_
  refine xb_top (y := 28) (by decide) ?_
  refine xr_iload_n dX8_runFrom_28 4 rfl ?_
  refine xr_iadd dX8_runFrom_29 ?_
  refine xb_top (y := 31) (by decide) ?_
  refine xr_tabO (by unfold vp_in; decide) dX8_runFrom_30 ?_
  refine xb_top (y := 81) (by decide) ?_
  refine xr_if_eq (tgt := 67) dX8_runFrom_31 rfl (fun c => absurd c (by decide)) (fun _ => ?_)
  refine xr_iload dX8_runFrom_34 6 rfl ?_
  refine xr_bipush (v := 30) dX8_runFrom_36 rfl ?_
  refine xr_icmp_ge (tgt := 65) dX8_runFrom_38 rfl (fun c => absurd c (nI_ge (a := e) (b := 30) (by omega) (by omega))) (fun _ => ?_)
  refine xr_aload_n dX8_runFrom_41 2 rfl ?_
  refine xr_getsO slX8_50 dX8_runFrom_42 ?_
  refine xr_iload dX8_runFrom_45 1 rfl ?_
  refine xr_iconst (v := 4) dX8_runFrom_47 rfl ?_
  refine xr_imul dX8_runFrom_48 ?_
  refine xb_top (y := 28) (by decide) ?_
  refine xr_iload_n dX8_runFrom_49 4 rfl ?_
  refine xr_iadd dX8_runFrom_50 ?_
  refine xb_top (y := 31) (by decide) ?_
  refine xr_tabO (by unfold vp_in; decide) dX8_runFrom_51 ?_
  refine xb_top (y := 81) (by decide) ?_
  refine xr_iload dX8_runFrom_52 1 rfl ?_
  refine xr_iload_n dX8_runFrom_54 5 rfl ?_
  refine xr_iload dX8_runFrom_55 6 rfl ?_
  refine xr_iconst (v := 1) dX8_runFrom_57 rfl ?_
  refine xr_iadd dX8_runFrom_58 ?_
  refine xb_top (y := nI (e + 1)) (nI_add (e) (1)) ?_
  refine xr_callV (As := [.int (81), .int (7), .int (x), .int (nI (e + 1))]) (rest := []) mlX8_53 (tu7_run_81_7 (e := e + 1) (ac := ac) x (by omega) (by omega) e_b (by omega) e_ra hac e_ac e_k) dX8_runFrom_59 s_46 rfl rfl (Nat.le_of_ble_eq_true rfl) (by decide) ⟨by decide, by decide⟩ (fun v s2 M4 J2 hq => ?_)
  obtain ⟨r6, rfl, rfl, rfl, k5, ⟨hr3, hx2⟩⟩ := hq
  try dsimp only [Option.toList, List.cons_append, List.nil_append]
  subst hr3
  refine xr_goto (tgt := 66) dX8_runFrom_62 rfl ?_
  exact xr_iret dX8_runFrom_66 rfl rfl (⟨_, rfl, rfl, rfl, (Ke.tr (fun _ _ h => h) Ke.rf k5), rfl, hx2⟩)
set_option maxRecDepth 100000 in
set_option maxHeartbeats 4000000 in
theorem tu7_own_3 {e ac : Nat} (x : Int32) (he : e + 6 ≤ 30) {l : Launch} {G : xG} {M : xM} {J : xJ} {b ra : Nat} (h_b : b ≤ 50) (e_b : M 46 2 = nI b) (h_ra : ra + 14 ≤ 900) (e_ra : M 46 3 = nI ra) (hac : ac < b) (e_ac : M 46 4 = nI ac) (e_k : M 47 ac = 7) : x_M l G fX8_own 18 0 0 [.ref (46), .int (3), .int (x), .int (nI (e))] x_SH M J (qKI WTN M J (fun r M2 => r = ((((((x + (nI (ac))) + 3) * 2) + ((2 ^^^ (nI (ac))) - ((2 + (nI (ac))) + 3))) - ((1 ^^^ (nI (ac))) - ((2 + (nI (ac))) + 3))) - 1) ∧ M2 46 3 = nI (ra + 14))) := by
  refine xb_of pX8 (Nat.le_of_ble_eq_true rfl) rfl ?_
  refine xr_aload_n dX8_own_0 0 rfl ?_
  refine xr_aload_n dX8_own_1 0 rfl ?_
  refine xb_get (v := nI (ac)) flX8_36 dX8_own_2 s_46 rfl e_ac ?_
  refine xb_cV (As := [.int (nI (ac))]) (rest := []) mlX8_43 (c_X8_has (nI (ac)) (by omega) e_b) dX8_own_5 s_46 rfl rfl (Nat.le_of_ble_eq_true rfl) (by decide) (by decide) ?_
  refine xb_beq (tgt := 30) dX8_own_8 rfl (fun c => absurd ⟨nI_pos' (by omega), nI_lt (by omega) (by omega)⟩ c) (fun _ => ?_)
  refine xr_aload_n dX8_own_11 0 rfl ?_
  refine xr_aload_n dX8_own_12 0 rfl ?_
  refine xr_getR flX8_9 dX8_own_13 s_46 rfl ?_
  refine xr_aload_n dX8_own_16 0 rfl ?_
  refine xb_get (v := nI (ac)) flX8_36 dX8_own_17 s_46 rfl e_ac ?_
  refine xb_iald (j := ac) (v := 7) dX8_own_20 s_47 (by omega) (by decide) e_k ?_
  refine xr_iload_n dX8_own_21 1 rfl ?_
  refine xr_iload_n dX8_own_22 2 rfl ?_
  refine xr_iload_n dX8_own_23 3 rfl ?_
  refine xr_callV (As := [.int (7), .int (3), .int (x), .int (nI (e))]) (rest := []) mlX8_46 (tu7_runFrom_7_3 (e := e) (ac := ac) x (by omega) (by omega) e_b (by omega) e_ra hac e_ac e_k) dX8_own_24 s_46 rfl rfl (Nat.le_of_ble_eq_true rfl) (by decide) ⟨by decide, by decide⟩ (fun v s2 M4 J2 hq => ?_)
  obtain ⟨r6, rfl, rfl, rfl, k5, ⟨hr3, hx2⟩⟩ := hq
  try dsimp only [Option.toList, List.cons_append, List.nil_append]
  subst hr3
  refine xr_goto (tgt := 31) dX8_own_27 rfl ?_
  exact xr_iret dX8_own_31 rfl rfl (⟨_, rfl, rfl, rfl, (Ke.tr (fun _ _ h => h) Ke.rf k5), rfl, hx2⟩)
