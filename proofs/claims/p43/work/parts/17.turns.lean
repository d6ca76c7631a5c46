theorem dX8_has_0 : decode cX8_has 0 = .ok (.iload_n 1, 1) := by decide +kernel
theorem dX8_has_1 : decode cX8_has 1 = .ok (.ifCond .lt 15, 3) := by decide +kernel
theorem dX8_has_16 : decode cX8_has 16 = .ok (.iconst 0, 1) := by decide +kernel
theorem dX8_has_17 : decode cX8_has 17 = .ok (.ireturn, 1) := by decide +kernel
theorem dX8_has_4 : decode cX8_has 4 = .ok (.iload_n 1, 1) := by decide +kernel
theorem dX8_has_5 : decode cX8_has 5 = .ok (.aload_n 0, 1) := by decide +kernel
theorem dX8_has_6 : decode cX8_has 6 = .ok (.getfield 18, 3) := by decide +kernel
theorem dX8_has_9 : decode cX8_has 9 = .ok (.if_icmp .ge 7, 3) := by decide +kernel
theorem dX8_has_12 : decode cX8_has 12 = .ok (.iconst 1, 1) := by decide +kernel
theorem dX8_has_13 : decode cX8_has 13 = .ok (.goto 4, 3) := by decide +kernel
theorem dX8_isFull_0 : decode cX8_isFull 0 = .ok (.aload_n 0, 1) := by decide +kernel
theorem dX8_isFull_1 : decode cX8_isFull 1 = .ok (.getfield 18, 3) := by decide +kernel
theorem dX8_isFull_4 : decode cX8_isFull 4 = .ok (.bipush 50, 2) := by decide +kernel
theorem dX8_isFull_6 : decode cX8_isFull 6 = .ok (.if_icmp .lt 7, 3) := by decide +kernel
theorem dX8_isFull_13 : decode cX8_isFull 13 = .ok (.iconst 0, 1) := by decide +kernel
theorem dX8_isFull_14 : decode cX8_isFull 14 = .ok (.ireturn, 1) := by decide +kernel
theorem dX8_isFull_9 : decode cX8_isFull 9 = .ok (.iconst 1, 1) := by decide +kernel
theorem dX8_isFull_10 : decode cX8_isFull 10 = .ok (.goto 4, 3) := by decide +kernel
theorem dX8_addBody_0 : decode cX8_addBody 0 = .ok (.aload_n 0, 1) := by decide +kernel
theorem dX8_addBody_1 : decode cX8_addBody 1 = .ok (.invokevirtual 22, 3) := by decide +kernel
theorem dX8_addBody_4 : decode cX8_addBody 4 = .ok (.ifCond .eq 6, 3) := by decide +kernel
theorem dX8_addBody_10 : decode cX8_addBody 10 = .ok (.aload_n 0, 1) := by decide +kernel
theorem dX8_addBody_11 : decode cX8_addBody 11 = .ok (.getfield 9, 3) := by decide +kernel
theorem dX8_addBody_14 : decode cX8_addBody 14 = .ok (.aload_n 0, 1) := by decide +kernel
theorem dX8_addBody_15 : decode cX8_addBody 15 = .ok (.getfield 18, 3) := by decide +kernel
theorem dX8_addBody_18 : decode cX8_addBody 18 = .ok (.iload_n 1, 1) := by decide +kernel
theorem dX8_addBody_19 : decode cX8_addBody 19 = .ok (.iastore, 1) := by decide +kernel
theorem dX8_addBody_20 : decode cX8_addBody 20 = .ok (.aload_n 0, 1) := by decide +kernel
theorem dX8_addBody_21 : decode cX8_addBody 21 = .ok (.dup, 1) := by decide +kernel
theorem dX8_addBody_22 : decode cX8_addBody 22 = .ok (.getfield 18, 3) := by decide +kernel
theorem dX8_addBody_25 : decode cX8_addBody 25 = .ok (.iconst 1, 1) := by decide +kernel
theorem dX8_addBody_26 : decode cX8_addBody 26 = .ok (.iadd, 1) := by decide +kernel
theorem dX8_addBody_27 : decode cX8_addBody 27 = .ok (.putfield 18, 3) := by decide +kernel
theorem dX8_addBody_30 : decode cX8_addBody 30 = .ok (.aload_n 0, 1) := by decide +kernel
theorem dX8_addBody_31 : decode cX8_addBody 31 = .ok (.getfield 18, 3) := by decide +kernel
theorem dX8_addBody_34 : decode cX8_addBody 34 = .ok (.iconst 1, 1) := by decide +kernel
theorem dX8_addBody_35 : decode cX8_addBody 35 = .ok (.isub, 1) := by decide +kernel
theorem dX8_addBody_36 : decode cX8_addBody 36 = .ok (.ireturn, 1) := by decide +kernel
theorem dX8_addBody_7 : decode cX8_addBody 7 = .ok (.bipush (-3), 2) := by decide +kernel
theorem dX8_addBody_9 : decode cX8_addBody 9 = .ok (.ireturn, 1) := by decide +kernel
theorem dX8_isUnder_4 : decode cX8_isUnder 4 = .ok (.iload_n 3, 1) := by decide +kernel
theorem dX8_isUnder_5 : decode cX8_isUnder 5 = .ok (.bipush 8, 2) := by decide +kernel
theorem dX8_isUnder_7 : decode cX8_isUnder 7 = .ok (.if_icmp .ge 29, 3) := by decide +kernel
theorem dX8_isUnder_10 : decode cX8_isUnder 10 = .ok (.iload_n 2, 1) := by decide +kernel
theorem dX8_isUnder_11 : decode cX8_isUnder 11 = .ok (.invokestatic 26, 3) := by decide +kernel
theorem dX8_isUnder_14 : decode cX8_isUnder 14 = .ok (.ifCond .eq 22, 3) := by decide +kernel
theorem dX8_isUnder_17 : decode cX8_isUnder 17 = .ok (.iload_n 2, 1) := by decide +kernel
theorem dX8_isUnder_18 : decode cX8_isUnder 18 = .ok (.iload_n 1, 1) := by decide +kernel
theorem dX8_isUnder_19 : decode cX8_isUnder 19 = .ok (.if_icmp .ne 5, 3) := by decide +kernel
theorem dX8_isUnder_24 : decode cX8_isUnder 24 = .ok (.getstatic 30, 3) := by decide +kernel
theorem dX8_isUnder_27 : decode cX8_isUnder 27 = .ok (.iload_n 2, 1) := by decide +kernel
theorem dX8_isUnder_28 : decode cX8_isUnder 28 = .ok (.iaload, 1) := by decide +kernel
theorem dX8_isUnder_29 : decode cX8_isUnder 29 = .ok (.istore_n 2, 1) := by decide +kernel
theorem dX8_isUnder_30 : decode cX8_isUnder 30 = .ok (.iinc 3 1, 3) := by decide +kernel
theorem dX8_isUnder_33 : decode cX8_isUnder 33 = .ok (.goto (-29), 3) := by decide +kernel
theorem dX8_isUnder_22 : decode cX8_isUnder 22 = .ok (.iconst 1, 1) := by decide +kernel
theorem dX8_isUnder_23 : decode cX8_isUnder 23 = .ok (.ireturn, 1) := by decide +kernel
theorem dX8_isUnder_0 : decode cX8_isUnder 0 = .ok (.iload_n 0, 1) := by decide +kernel
theorem dX8_isUnder_1 : decode cX8_isUnder 1 = .ok (.istore_n 2, 1) := by decide +kernel
theorem dX8_isUnder_2 : decode cX8_isUnder 2 = .ok (.iconst 0, 1) := by decide +kernel
theorem dX8_isUnder_3 : decode cX8_isUnder 3 = .ok (.istore_n 3, 1) := by decide +kernel
theorem dX8_isUnder_36 : decode cX8_isUnder 36 = .ok (.iconst 0, 1) := by decide +kernel
theorem dX8_isUnder_37 : decode cX8_isUnder 37 = .ok (.ireturn, 1) := by decide +kernel
theorem dX8_note_0 : decode cX8_note 0 = .ok (.aload_n 0, 1) := by decide +kernel
theorem dX8_note_1 : decode cX8_note 1 = .ok (.getfield 33, 3) := by decide +kernel
theorem dX8_note_4 : decode cX8_note 4 = .ok (.bipush 24, 2) := by decide +kernel
theorem dX8_note_6 : decode cX8_note 6 = .ok (.if_icmp .ge 13, 3) := by decide +kernel
theorem dX8_note_19 : decode cX8_note 19 = .ok (.aload_n 0, 1) := by decide +kernel
theorem dX8_note_20 : decode cX8_note 20 = .ok (.dup, 1) := by decide +kernel
theorem dX8_note_21 : decode cX8_note 21 = .ok (.getfield 33, 3) := by decide +kernel
theorem dX8_note_24 : decode cX8_note 24 = .ok (.iconst 1, 1) := by decide +kernel
theorem dX8_note_25 : decode cX8_note 25 = .ok (.iadd, 1) := by decide +kernel
theorem dX8_note_26 : decode cX8_note 26 = .ok (.putfield 33, 3) := by decide +kernel
theorem dX8_note_29 : decode cX8_note 29 = .ok (.return_, 1) := by decide +kernel
theorem dX8_note_9 : decode cX8_note 9 = .ok (.aload_n 0, 1) := by decide +kernel
theorem dX8_note_10 : decode cX8_note 10 = .ok (.getfield 15, 3) := by decide +kernel
theorem dX8_note_13 : decode cX8_note 13 = .ok (.aload_n 0, 1) := by decide +kernel
theorem dX8_note_14 : decode cX8_note 14 = .ok (.getfield 33, 3) := by decide +kernel
theorem dX8_note_17 : decode cX8_note 17 = .ok (.iload_n 1, 1) := by decide +kernel
theorem dX8_note_18 : decode cX8_note 18 = .ok (.iastore, 1) := by decide +kernel
theorem dX8_run_0 : decode cX8_run 0 = .ok (.aload_n 0, 1) := by decide +kernel
theorem dX8_run_1 : decode cX8_run 1 = .ok (.iload_n 1, 1) := by decide +kernel
theorem dX8_run_2 : decode cX8_run 2 = .ok (.invokevirtual 56, 3) := by decide +kernel
theorem dX8_run_5 : decode cX8_run 5 = .ok (.iload_n 1, 1) := by decide +kernel
theorem dX8_run_6 : decode cX8_run 6 = .ok (.lookupswitch 278 #[(1, 114), (2, 121), (10, 139), (11, 150), (20, 157), (30, 169), (40, 180), (41, 192), (50, 204), (60, 223), (70, 235), (80, 247), (81, 266)], 114) := by decide +kernel
theorem dX8_run_120 : decode cX8_run 120 = .ok (.iload_n 3, 1) := by decide +kernel
theorem dX8_run_121 : decode cX8_run 121 = .ok (.aload_n 0, 1) := by decide +kernel
theorem dX8_run_122 : decode cX8_run 122 = .ok (.getfield 36, 3) := by decide +kernel
theorem dX8_run_125 : decode cX8_run 125 = .ok (.iadd, 1) := by decide +kernel
theorem dX8_run_126 : decode cX8_run 126 = .ok (.ireturn, 1) := by decide +kernel
theorem dX8_runFrom_0 : decode cX8_runFrom 0 = .ok (.iload_n 1, 1) := by decide +kernel
theorem dX8_runFrom_1 : decode cX8_runFrom 1 = .ok (.istore 5, 2) := by decide +kernel
theorem dX8_runFrom_3 : decode cX8_runFrom 3 = .ok (.iconst 0, 1) := by decide +kernel
theorem dX8_runFrom_4 : decode cX8_runFrom 4 = .ok (.istore 6, 2) := by decide +kernel
theorem dX8_runFrom_6 : decode cX8_runFrom 6 = .ok (.iload 6, 2) := by decide +kernel
theorem dX8_runFrom_8 : decode cX8_runFrom 8 = .ok (.bipush 8, 2) := by decide +kernel
theorem dX8_runFrom_10 : decode cX8_runFrom 10 = .ok (.if_icmp .ge 71, 3) := by decide +kernel
theorem dX8_runFrom_13 : decode cX8_runFrom 13 = .ok (.iload 5, 2) := by decide +kernel
theorem dX8_runFrom_15 : decode cX8_runFrom 15 = .ok (.invokestatic 26, 3) := by decide +kernel
theorem dX8_runFrom_18 : decode cX8_runFrom 18 = .ok (.ifCond .eq 63, 3) := by decide +kernel
theorem dX8_runFrom_21 : decode cX8_runFrom 21 = .ok (.getstatic 50, 3) := by decide +kernel
theorem dX8_runFrom_24 : decode cX8_runFrom 24 = .ok (.iload 5, 2) := by decide +kernel
theorem dX8_runFrom_26 : decode cX8_runFrom 26 = .ok (.iconst 4, 1) := by decide +kernel
theorem dX8_runFrom_27 : decode cX8_runFrom 27 = .ok (.imul, 1) := by decide +kernel
theorem dX8_runFrom_28 : decode cX8_runFrom 28 = .ok (.iload_n 2, 1) := by decide +kernel
theorem dX8_runFrom_29 : decode cX8_runFrom 29 = .ok (.iadd, 1) := by decide +kernel
theorem dX8_runFrom_30 : decode cX8_runFrom 30 = .ok (.iaload, 1) := by decide +kernel
theorem dX8_runFrom_31 : decode cX8_runFrom 31 = .ok (.ifCond .eq 36, 3) := by decide +kernel
theorem dX8_runFrom_34 : decode cX8_runFrom 34 = .ok (.iload 4, 2) := by decide +kernel
theorem dX8_runFrom_36 : decode cX8_runFrom 36 = .ok (.bipush 30, 2) := by decide +kernel
theorem dX8_runFrom_38 : decode cX8_runFrom 38 = .ok (.if_icmp .ge 27, 3) := by decide +kernel
theorem dX8_runFrom_41 : decode cX8_runFrom 41 = .ok (.aload_n 0, 1) := by decide +kernel
theorem dX8_runFrom_42 : decode cX8_runFrom 42 = .ok (.getstatic 50, 3) := by decide +kernel
theorem dX8_runFrom_45 : decode cX8_runFrom 45 = .ok (.iload 5, 2) := by decide +kernel
theorem dX8_runFrom_47 : decode cX8_runFrom 47 = .ok (.iconst 4, 1) := by decide +kernel
theorem dX8_runFrom_48 : decode cX8_runFrom 48 = .ok (.imul, 1) := by decide +kernel
theorem dX8_runFrom_49 : decode cX8_runFrom 49 = .ok (.iload_n 2, 1) := by decide +kernel
theorem dX8_runFrom_50 : decode cX8_runFrom 50 = .ok (.iadd, 1) := by decide +kernel
theorem dX8_runFrom_51 : decode cX8_runFrom 51 = .ok (.iaload, 1) := by decide +kernel
theorem dX8_runFrom_52 : decode cX8_runFrom 52 = .ok (.iload 5, 2) := by decide +kernel
theorem dX8_runFrom_54 : decode cX8_runFrom 54 = .ok (.iload_n 3, 1) := by decide +kernel
theorem dX8_runFrom_55 : decode cX8_runFrom 55 = .ok (.iload 4, 2) := by decide +kernel
theorem dX8_runFrom_57 : decode cX8_runFrom 57 = .ok (.iconst 1, 1) := by decide +kernel
theorem dX8_runFrom_58 : decode cX8_runFrom 58 = .ok (.iadd, 1) := by decide +kernel
theorem dX8_runFrom_59 : decode cX8_runFrom 59 = .ok (.invokevirtual 53, 3) := by decide +kernel
theorem dX8_runFrom_62 : decode cX8_runFrom 62 = .ok (.goto 4, 3) := by decide +kernel
theorem dX8_runFrom_66 : decode cX8_runFrom 66 = .ok (.ireturn, 1) := by decide +kernel
theorem dX8_own_0 : decode cX8_own 0 = .ok (.aload_n 0, 1) := by decide +kernel
theorem dX8_own_1 : decode cX8_own 1 = .ok (.aload_n 0, 1) := by decide +kernel
theorem dX8_own_2 : decode cX8_own 2 = .ok (.getfield 36, 3) := by decide +kernel
theorem dX8_own_5 : decode cX8_own 5 = .ok (.invokevirtual 43, 3) := by decide +kernel
theorem dX8_own_8 : decode cX8_own 8 = .ok (.ifCond .eq 22, 3) := by decide +kernel
theorem dX8_own_11 : decode cX8_own 11 = .ok (.aload_n 0, 1) := by decide +kernel
theorem dX8_own_12 : decode cX8_own 12 = .ok (.aload_n 0, 1) := by decide +kernel
theorem dX8_own_13 : decode cX8_own 13 = .ok (.getfield 9, 3) := by decide +kernel
theorem dX8_own_16 : decode cX8_own 16 = .ok (.aload_n 0, 1) := by decide +kernel
theorem dX8_own_17 : decode cX8_own 17 = .ok (.getfield 36, 3) := by decide +kernel
theorem dX8_own_20 : decode cX8_own 20 = .ok (.iaload, 1) := by decide +kernel
theorem dX8_own_21 : decode cX8_own 21 = .ok (.iload_n 1, 1) := by decide +kernel
theorem dX8_own_22 : decode cX8_own 22 = .ok (.iload_n 2, 1) := by decide +kernel
theorem dX8_own_23 : decode cX8_own 23 = .ok (.iload_n 3, 1) := by decide +kernel
theorem dX8_own_24 : decode cX8_own 24 = .ok (.invokevirtual 46, 3) := by decide +kernel
theorem dX8_own_27 : decode cX8_own 27 = .ok (.goto 4, 3) := by decide +kernel
theorem dX8_own_31 : decode cX8_own 31 = .ok (.ireturn, 1) := by decide +kernel
theorem dX8_run_145 : decode cX8_run 145 = .ok (.aload_n 0, 1) := by decide +kernel
theorem dX8_run_146 : decode cX8_run 146 = .ok (.iconst 0, 1) := by decide +kernel
theorem dX8_run_147 : decode cX8_run 147 = .ok (.iload_n 3, 1) := by decide +kernel
theorem dX8_run_148 : decode cX8_run 148 = .ok (.iload 4, 2) := by decide +kernel
theorem dX8_run_150 : decode cX8_run 150 = .ok (.invokevirtual 39, 3) := by decide +kernel
theorem dX8_run_153 : decode cX8_run 153 = .ok (.iconst 2, 1) := by decide +kernel
theorem dX8_run_154 : decode cX8_run 154 = .ok (.imul, 1) := by decide +kernel
theorem dX8_run_155 : decode cX8_run 155 = .ok (.ireturn, 1) := by decide +kernel
theorem dX8_run_156 : decode cX8_run 156 = .ok (.iload_n 3, 1) := by decide +kernel
theorem dX8_run_157 : decode cX8_run 157 = .ok (.aload_n 0, 1) := by decide +kernel
theorem dX8_run_158 : decode cX8_run 158 = .ok (.getfield 36, 3) := by decide +kernel
theorem dX8_run_161 : decode cX8_run 161 = .ok (.ixor, 1) := by decide +kernel
theorem dX8_run_162 : decode cX8_run 162 = .ok (.ireturn, 1) := by decide +kernel
theorem dX8_run_127 : decode cX8_run 127 = .ok (.aload_n 0, 1) := by decide +kernel
theorem dX8_run_128 : decode cX8_run 128 = .ok (.iconst 1, 1) := by decide +kernel
theorem dX8_run_129 : decode cX8_run 129 = .ok (.iload_n 3, 1) := by decide +kernel
theorem dX8_run_130 : decode cX8_run 130 = .ok (.iload 4, 2) := by decide +kernel
theorem dX8_run_132 : decode cX8_run 132 = .ok (.invokevirtual 39, 3) := by decide +kernel
theorem dX8_run_135 : decode cX8_run 135 = .ok (.aload_n 0, 1) := by decide +kernel
theorem dX8_run_136 : decode cX8_run 136 = .ok (.iconst 2, 1) := by decide +kernel
theorem dX8_run_137 : decode cX8_run 137 = .ok (.iconst 1, 1) := by decide +kernel
theorem dX8_run_138 : decode cX8_run 138 = .ok (.iload 4, 2) := by decide +kernel
theorem dX8_run_140 : decode cX8_run 140 = .ok (.invokevirtual 39, 3) := by decide +kernel
theorem dX8_run_143 : decode cX8_run 143 = .ok (.isub, 1) := by decide +kernel
theorem dX8_run_144 : decode cX8_run 144 = .ok (.ireturn, 1) := by decide +kernel
theorem dX8_above_0 : decode cX8_above 0 = .ok (.iload_n 1, 1) := by decide +kernel
theorem dX8_above_1 : decode cX8_above 1 = .ok (.invokestatic 26, 3) := by decide +kernel
theorem dX8_above_4 : decode cX8_above 4 = .ok (.ifCond .eq 19, 3) := by decide +kernel
theorem dX8_above_7 : decode cX8_above 7 = .ok (.aload_n 0, 1) := by decide +kernel
theorem dX8_above_8 : decode cX8_above 8 = .ok (.getstatic 30, 3) := by decide +kernel
theorem dX8_above_11 : decode cX8_above 11 = .ok (.iload_n 1, 1) := by decide +kernel
theorem dX8_above_12 : decode cX8_above 12 = .ok (.iaload, 1) := by decide +kernel
theorem dX8_above_13 : decode cX8_above 13 = .ok (.iload_n 2, 1) := by decide +kernel
theorem dX8_above_14 : decode cX8_above 14 = .ok (.iload_n 3, 1) := by decide +kernel
theorem dX8_above_15 : decode cX8_above 15 = .ok (.iload 4, 2) := by decide +kernel
theorem dX8_above_17 : decode cX8_above 17 = .ok (.invokevirtual 46, 3) := by decide +kernel
theorem dX8_above_20 : decode cX8_above 20 = .ok (.goto 4, 3) := by decide +kernel
theorem dX8_above_24 : decode cX8_above 24 = .ok (.ireturn, 1) := by decide +kernel
theorem dX8_run_163 : decode cX8_run 163 = .ok (.aload_n 0, 1) := by decide +kernel
theorem dX8_run_164 : decode cX8_run 164 = .ok (.iload_n 2, 1) := by decide +kernel
theorem dX8_run_165 : decode cX8_run 165 = .ok (.iconst 0, 1) := by decide +kernel
theorem dX8_run_166 : decode cX8_run 166 = .ok (.iload_n 3, 1) := by decide +kernel
theorem dX8_run_167 : decode cX8_run 167 = .ok (.iload 4, 2) := by decide +kernel
theorem dX8_run_169 : decode cX8_run 169 = .ok (.invokevirtual 60, 3) := by decide +kernel
theorem dX8_run_172 : decode cX8_run 172 = .ok (.iconst 3, 1) := by decide +kernel
theorem dX8_run_173 : decode cX8_run 173 = .ok (.iadd, 1) := by decide +kernel
theorem dX8_run_174 : decode cX8_run 174 = .ok (.ireturn, 1) := by decide +kernel
theorem dX8_runFrom_67 : decode cX8_runFrom 67 = .ok (.getstatic 30, 3) := by decide +kernel
theorem dX8_runFrom_70 : decode cX8_runFrom 70 = .ok (.iload 5, 2) := by decide +kernel
theorem dX8_runFrom_72 : decode cX8_runFrom 72 = .ok (.iaload, 1) := by decide +kernel
theorem dX8_runFrom_73 : decode cX8_runFrom 73 = .ok (.istore 5, 2) := by decide +kernel
theorem dX8_runFrom_75 : decode cX8_runFrom 75 = .ok (.iinc 6 1, 3) := by decide +kernel
theorem dX8_runFrom_78 : decode cX8_runFrom 78 = .ok (.goto (-72), 3) := by decide +kernel
theorem dX8_run_175 : decode cX8_run 175 = .ok (.aload_n 0, 1) := by decide +kernel
theorem dX8_run_176 : decode cX8_run 176 = .ok (.iload_n 2, 1) := by decide +kernel
theorem dX8_run_177 : decode cX8_run 177 = .ok (.iconst 1, 1) := by decide +kernel
theorem dX8_run_178 : decode cX8_run 178 = .ok (.iload_n 3, 1) := by decide +kernel
theorem dX8_run_179 : decode cX8_run 179 = .ok (.iload 4, 2) := by decide +kernel
theorem dX8_run_181 : decode cX8_run 181 = .ok (.invokevirtual 60, 3) := by decide +kernel
theorem dX8_run_184 : decode cX8_run 184 = .ok (.ineg, 1) := by decide +kernel
theorem dX8_run_185 : decode cX8_run 185 = .ok (.ireturn, 1) := by decide +kernel
theorem dX8_run_198 : decode cX8_run 198 = .ok (.aload_n 0, 1) := by decide +kernel
theorem dX8_run_199 : decode cX8_run 199 = .ok (.iload_n 2, 1) := by decide +kernel
theorem dX8_run_200 : decode cX8_run 200 = .ok (.iconst 1, 1) := by decide +kernel
theorem dX8_run_201 : decode cX8_run 201 = .ok (.iload_n 3, 1) := by decide +kernel
theorem dX8_run_202 : decode cX8_run 202 = .ok (.iconst 1, 1) := by decide +kernel
theorem dX8_run_203 : decode cX8_run 203 = .ok (.iadd, 1) := by decide +kernel
theorem dX8_run_204 : decode cX8_run 204 = .ok (.iload 4, 2) := by decide +kernel
theorem dX8_run_206 : decode cX8_run 206 = .ok (.invokevirtual 60, 3) := by decide +kernel
theorem dX8_run_209 : decode cX8_run 209 = .ok (.ireturn, 1) := by decide +kernel
theorem dX8_run_186 : decode cX8_run 186 = .ok (.aload_n 0, 1) := by decide +kernel
theorem dX8_run_187 : decode cX8_run 187 = .ok (.iload_n 2, 1) := by decide +kernel
theorem dX8_run_188 : decode cX8_run 188 = .ok (.iconst 2, 1) := by decide +kernel
theorem dX8_run_189 : decode cX8_run 189 = .ok (.iload_n 3, 1) := by decide +kernel
theorem dX8_run_190 : decode cX8_run 190 = .ok (.iload 4, 2) := by decide +kernel
theorem dX8_run_192 : decode cX8_run 192 = .ok (.invokevirtual 60, 3) := by decide +kernel
theorem dX8_run_195 : decode cX8_run 195 = .ok (.iconst 3, 1) := by decide +kernel
theorem dX8_run_196 : decode cX8_run 196 = .ok (.imul, 1) := by decide +kernel
theorem dX8_run_197 : decode cX8_run 197 = .ok (.ireturn, 1) := by decide +kernel
theorem dX8_run_210 : decode cX8_run 210 = .ok (.aload_n 0, 1) := by decide +kernel
theorem dX8_run_211 : decode cX8_run 211 = .ok (.iload_n 2, 1) := by decide +kernel
theorem dX8_run_212 : decode cX8_run 212 = .ok (.iconst 2, 1) := by decide +kernel
theorem dX8_run_213 : decode cX8_run 213 = .ok (.iload_n 3, 1) := by decide +kernel
theorem dX8_run_214 : decode cX8_run 214 = .ok (.iload 4, 2) := by decide +kernel
theorem dX8_run_216 : decode cX8_run 216 = .ok (.invokevirtual 60, 3) := by decide +kernel
theorem dX8_run_219 : decode cX8_run 219 = .ok (.aload_n 0, 1) := by decide +kernel
theorem dX8_run_220 : decode cX8_run 220 = .ok (.iconst 0, 1) := by decide +kernel
theorem dX8_run_221 : decode cX8_run 221 = .ok (.iconst 2, 1) := by decide +kernel
theorem dX8_run_222 : decode cX8_run 222 = .ok (.iload 4, 2) := by decide +kernel
theorem dX8_run_224 : decode cX8_run 224 = .ok (.invokevirtual 39, 3) := by decide +kernel
theorem dX8_run_227 : decode cX8_run 227 = .ok (.isub, 1) := by decide +kernel
theorem dX8_run_228 : decode cX8_run 228 = .ok (.ireturn, 1) := by decide +kernel
theorem dX8_run_229 : decode cX8_run 229 = .ok (.aload_n 0, 1) := by decide +kernel
theorem dX8_run_230 : decode cX8_run 230 = .ok (.iload_n 2, 1) := by decide +kernel
theorem dX8_run_231 : decode cX8_run 231 = .ok (.iconst 3, 1) := by decide +kernel
theorem dX8_run_232 : decode cX8_run 232 = .ok (.iload_n 3, 1) := by decide +kernel
theorem dX8_run_233 : decode cX8_run 233 = .ok (.iload 4, 2) := by decide +kernel
theorem dX8_run_235 : decode cX8_run 235 = .ok (.invokevirtual 60, 3) := by decide +kernel
theorem dX8_run_238 : decode cX8_run 238 = .ok (.iconst 5, 1) := by decide +kernel
theorem dX8_run_239 : decode cX8_run 239 = .ok (.ixor, 1) := by decide +kernel
theorem dX8_run_240 : decode cX8_run 240 = .ok (.ireturn, 1) := by decide +kernel
theorem dX8_run_241 : decode cX8_run 241 = .ok (.aload_n 0, 1) := by decide +kernel
theorem dX8_run_242 : decode cX8_run 242 = .ok (.iload_n 2, 1) := by decide +kernel
theorem dX8_run_243 : decode cX8_run 243 = .ok (.iconst 0, 1) := by decide +kernel
theorem dX8_run_244 : decode cX8_run 244 = .ok (.iload_n 3, 1) := by decide +kernel
theorem dX8_run_245 : decode cX8_run 245 = .ok (.iload 4, 2) := by decide +kernel
theorem dX8_run_247 : decode cX8_run 247 = .ok (.invokevirtual 60, 3) := by decide +kernel
theorem dX8_run_250 : decode cX8_run 250 = .ok (.iconst 2, 1) := by decide +kernel
theorem dX8_run_251 : decode cX8_run 251 = .ok (.imul, 1) := by decide +kernel
theorem dX8_run_252 : decode cX8_run 252 = .ok (.ireturn, 1) := by decide +kernel
theorem dX8_run_253 : decode cX8_run 253 = .ok (.aload_n 0, 1) := by decide +kernel
theorem dX8_run_254 : decode cX8_run 254 = .ok (.iload_n 2, 1) := by decide +kernel
theorem dX8_run_255 : decode cX8_run 255 = .ok (.iconst 1, 1) := by decide +kernel
theorem dX8_run_256 : decode cX8_run 256 = .ok (.iload_n 3, 1) := by decide +kernel
theorem dX8_run_257 : decode cX8_run 257 = .ok (.iload 4, 2) := by decide +kernel
theorem dX8_run_259 : decode cX8_run 259 = .ok (.invokevirtual 60, 3) := by decide +kernel
theorem dX8_run_262 : decode cX8_run 262 = .ok (.aload_n 0, 1) := by decide +kernel
theorem dX8_run_263 : decode cX8_run 263 = .ok (.iconst 2, 1) := by decide +kernel
theorem dX8_run_264 : decode cX8_run 264 = .ok (.iconst 2, 1) := by decide +kernel
theorem dX8_run_265 : decode cX8_run 265 = .ok (.iload 4, 2) := by decide +kernel
theorem dX8_run_267 : decode cX8_run 267 = .ok (.invokevirtual 39, 3) := by decide +kernel
theorem dX8_run_270 : decode cX8_run 270 = .ok (.iadd, 1) := by decide +kernel
theorem dX8_run_271 : decode cX8_run 271 = .ok (.ireturn, 1) := by decide +kernel
theorem dX8_run_272 : decode cX8_run 272 = .ok (.aload_n 0, 1) := by decide +kernel
theorem dX8_run_273 : decode cX8_run 273 = .ok (.iload_n 2, 1) := by decide +kernel
theorem dX8_run_274 : decode cX8_run 274 = .ok (.iconst 3, 1) := by decide +kernel
theorem dX8_run_275 : decode cX8_run 275 = .ok (.iload_n 3, 1) := by decide +kernel
theorem dX8_run_276 : decode cX8_run 276 = .ok (.iload 4, 2) := by decide +kernel
theorem dX8_run_278 : decode cX8_run 278 = .ok (.invokevirtual 60, 3) := by decide +kernel
theorem dX8_run_281 : decode cX8_run 281 = .ok (.iconst 1, 1) := by decide +kernel
theorem dX8_run_282 : decode cX8_run 282 = .ok (.isub, 1) := by decide +kernel
theorem dX8_run_283 : decode cX8_run 283 = .ok (.ireturn, 1) := by decide +kernel
set_option maxRecDepth 100000 in
set_option maxHeartbeats 4000000 in
theorem c_X8_has (h : Int32) {l : Launch} {G : xG} {M : xM} {J : xJ} {b : Nat} (h_b : b ≤ 50) (e_b : M 46 2 = nI b) : x_M l G fX8_has 0 0 0 [.ref (46), .int (h)] x_SH M J (qE (some (.int (bI (0 ≤ h ∧ h < nI b)))) x_SH M J) := by
  refine xb_of pX8 (Nat.le_of_ble_eq_true rfl) rfl ?_
  refine xr_iload_n dX8_has_0 1 rfl ?_
  refine xr_if_lt (tgt := 16) dX8_has_1 rfl (fun c1 => ?_) (fun c1 => ?_)
  · refine xr_iconst (v := 0) dX8_has_16 rfl ?_
    exact xr_iret dX8_has_17 rfl rfl (⟨congrArg (fun z => some (Value.int z)) (bI_f (by grind)).symm, rfl, rfl, rfl⟩)
  · refine xr_iload_n dX8_has_4 1 rfl ?_
    refine xr_aload_n dX8_has_5 0 rfl ?_
    refine xb_get (v := nI (b)) flX8_18 dX8_has_6 s_46 rfl e_b ?_
    refine xr_icmp_ge (tgt := 16) dX8_has_9 rfl (fun c2 => ?_) (fun c2 => ?_)
    · refine xr_iconst (v := 0) dX8_has_16 rfl ?_
      exact xr_iret dX8_has_17 rfl rfl (⟨congrArg (fun z => some (Value.int z)) (bI_f (by grind)).symm, rfl, rfl, rfl⟩)
    · refine xr_iconst (v := 1) dX8_has_12 rfl ?_
      refine xr_goto (tgt := 17) dX8_has_13 rfl ?_
      exact xr_iret dX8_has_17 rfl rfl (⟨congrArg (fun z => some (Value.int z)) (bI_t (by grind)).symm, rfl, rfl, rfl⟩)
set_option maxRecDepth 100000 in
set_option maxHeartbeats 4000000 in
theorem c_X8_isFull {l : Launch} {G : xG} {M : xM} {J : xJ} {b : Nat} (h_b : b ≤ 50) (e_b : M 46 2 = nI b) : x_M l G fX8_isFull 0 0 0 [.ref (46)] x_SH M J (qE (some (.int (bI (50 ≤ b)))) x_SH M J) := by
  refine xb_of pX8 (Nat.le_of_ble_eq_true rfl) rfl ?_
  refine xr_aload_n dX8_isFull_0 0 rfl ?_
  refine xb_get (v := nI (b)) flX8_18 dX8_isFull_1 s_46 rfl e_b ?_
  refine xr_bipush (v := 50) dX8_isFull_4 rfl ?_
  refine xr_icmp_lt (tgt := 13) dX8_isFull_6 rfl (fun c1 => ?_) (fun c1 => ?_)
  · have nc1 : b < 50 := (nI_ltI (a := b) (b := 50) (by omega) (by omega)).mp c1
    refine xr_iconst (v := 0) dX8_isFull_13 rfl ?_
    exact xr_iret dX8_isFull_14 rfl rfl (⟨congrArg (fun z => some (Value.int z)) (bI_f (by omega)).symm, rfl, rfl, rfl⟩)
  · have nc1 : ¬ (b < 50) := fun q => c1 ((nI_ltI (a := b) (b := 50) (by omega) (by omega)).mpr q)
    refine xr_iconst (v := 1) dX8_isFull_9 rfl ?_
    refine xr_goto (tgt := 14) dX8_isFull_10 rfl ?_
    exact xr_iret dX8_isFull_14 rfl rfl (⟨congrArg (fun z => some (Value.int z)) (bI_t (by omega)).symm, rfl, rfl, rfl⟩)
theorem ab_k {M : xM} {b : Nat} {k v : Int32} : (x_up (x_up M 47 b k) 46 2 v) 47 b = k ∧ ∀ j, j ≠ b → (x_up (x_up M 47 b k) 46 2 v) 47 j = M 47 j := ⟨(congrFun (x_up_n _ 2 v (by decide)) b).trans (x_up_s _ _ _ _), fun j hj => (congrFun (x_up_n _ 2 v (by decide)) j).trans (x_up_k _ _ _ hj)⟩
set_option maxRecDepth 100000 in
set_option maxHeartbeats 4000000 in
theorem g_X8_addBody (k : Int32) {l : Launch} {G : xG} {M : xM} {J : xJ} {b : Nat} (h_b : b ≤ 50) (e_b : M 46 2 = nI b) : x_M l G fX8_addBody 1 0 0 [.ref (46), .int (k)] x_SH M J (qKI WBD M J (fun r M2 => r = -3 ∧ 50 ≤ b ∧ M2 46 2 = nI b ∨ r = nI b ∧ b < 50 ∧ M2 46 2 = nI (b + 1) ∧ M2 47 b = k ∧ ∀ j, j ≠ b → M2 47 j = M 47 j)) := by
  refine xb_of pX8 (Nat.le_of_ble_eq_true rfl) rfl ?_
  refine xr_aload_n dX8_addBody_0 0 rfl ?_
  refine xb_cV (As := []) (rest := []) mlX8_22 (c_X8_isFull (by omega) e_b) dX8_addBody_1 s_46 rfl rfl (Nat.le_of_ble_eq_true rfl) (by decide) (by decide) ?_
  refine xb_beq (tgt := 10) dX8_addBody_4 rfl (fun c1 => ?_) (fun c1 => ?_)
  · have hb5 : b < 50 := by omega
    refine xr_aload_n dX8_addBody_10 0 rfl ?_
    refine xr_getR flX8_9 dX8_addBody_11 s_46 rfl ?_
    refine xr_aload_n dX8_addBody_14 0 rfl ?_
    refine xb_get (v := nI (b)) flX8_18 dX8_addBody_15 s_46 rfl e_b ?_
    refine xr_iload_n dX8_addBody_18 1 rfl ?_
    refine xb_iast (j := b) dX8_addBody_19 s_47 (by omega) (by decide) ?_
    refine xr_aload_n dX8_addBody_20 0 rfl ?_
    refine xr_dup dX8_addBody_21 rfl ?_
    refine xb_get (v := nI (b)) flX8_18 dX8_addBody_22 s_46 rfl (Eq.trans (congrFun (x_up_n _ _ _ (by decide)) _) e_b) ?_
    refine xr_iconst (v := 1) dX8_addBody_25 rfl ?_
    refine xr_iadd dX8_addBody_26 ?_
    refine xb_top (y := nI (b + 1)) (nI_add (b) (1)) ?_
    refine xr_putI fpX8_18 dX8_addBody_27 s_46 rfl rfl rfl ?_
    refine xr_aload_n dX8_addBody_30 0 rfl ?_
    refine xb_get (v := nI (b + 1)) flX8_18 dX8_addBody_31 s_46 rfl (x_up_s _ _ _ _) ?_
    refine xr_iconst (v := 1) dX8_addBody_34 rfl ?_
    refine xr_isub dX8_addBody_35 ?_
    refine xb_top (y := nI b) (nI_pred b) ?_
    exact xr_iret dX8_addBody_36 rfl rfl (⟨_, rfl, rfl, rfl, (Ke.up (Or.inl (by omega)) (Ke.up (Or.inr (by omega)) Ke.rf)), (Or.inr ⟨rfl, hb5, (x_up_s _ _ _ _), ab_k⟩)⟩)
  · refine xr_bipush (v := -3) dX8_addBody_7 rfl ?_
    exact xr_iret dX8_addBody_9 rfl rfl (⟨_, rfl, rfl, rfl, Ke.rf, (Or.inl ⟨rfl, c1, e_b⟩)⟩)