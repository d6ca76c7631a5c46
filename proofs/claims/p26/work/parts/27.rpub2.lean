theorem dX10_undo_0 : decode cX10_undo 0 = .ok (.aload_n 0, 1) := by decide +kernel
theorem dX10_undo_1 : decode cX10_undo 1 = .ok (.getfield 91, 3) := by decide +kernel
theorem dX10_undo_4 : decode cX10_undo 4 = .ok (.ifCond .ne 6, 3) := by decide +kernel
theorem dX10_undo_10 : decode cX10_undo 10 = .ok (.aload_n 0, 1) := by decide +kernel
theorem dX10_undo_11 : decode cX10_undo 11 = .ok (.dup, 1) := by decide +kernel
theorem dX10_undo_12 : decode cX10_undo 12 = .ok (.getfield 91, 3) := by decide +kernel
theorem dX10_undo_15 : decode cX10_undo 15 = .ok (.iconst 1, 1) := by decide +kernel
theorem dX10_undo_16 : decode cX10_undo 16 = .ok (.isub, 1) := by decide +kernel
theorem dX10_undo_17 : decode cX10_undo 17 = .ok (.putfield 91, 3) := by decide +kernel
theorem dX10_undo_20 : decode cX10_undo 20 = .ok (.aload_n 0, 1) := by decide +kernel
theorem dX10_undo_21 : decode cX10_undo 21 = .ok (.aload_n 0, 1) := by decide +kernel
theorem dX10_undo_22 : decode cX10_undo 22 = .ok (.getfield 13, 3) := by decide +kernel
theorem dX10_undo_25 : decode cX10_undo 25 = .ok (.aload_n 0, 1) := by decide +kernel
theorem dX10_undo_26 : decode cX10_undo 26 = .ok (.getfield 91, 3) := by decide +kernel
theorem dX10_undo_29 : decode cX10_undo 29 = .ok (.iaload, 1) := by decide +kernel
theorem dX10_undo_30 : decode cX10_undo 30 = .ok (.aload_n 0, 1) := by decide +kernel
theorem dX10_undo_31 : decode cX10_undo 31 = .ok (.getfield 16, 3) := by decide +kernel
theorem dX10_undo_34 : decode cX10_undo 34 = .ok (.aload_n 0, 1) := by decide +kernel
theorem dX10_undo_35 : decode cX10_undo 35 = .ok (.getfield 91, 3) := by decide +kernel
theorem dX10_undo_38 : decode cX10_undo 38 = .ok (.iaload, 1) := by decide +kernel
theorem dX10_undo_39 : decode cX10_undo 39 = .ok (.invokevirtual 105, 3) := by decide +kernel
theorem dX10_undo_42 : decode cX10_undo 42 = .ok (.aload_n 0, 1) := by decide +kernel
theorem dX10_undo_43 : decode cX10_undo 43 = .ok (.getfield 91, 3) := by decide +kernel
theorem dX10_undo_46 : decode cX10_undo 46 = .ok (.ireturn, 1) := by decide +kernel
theorem dX10_undo_7 : decode cX10_undo 7 = .ok (.bipush (-5), 2) := by decide +kernel
theorem dX10_undo_9 : decode cX10_undo 9 = .ok (.ireturn, 1) := by decide +kernel
theorem dX10_redo_0 : decode cX10_redo 0 = .ok (.aload_n 0, 1) := by decide +kernel
theorem dX10_redo_1 : decode cX10_redo 1 = .ok (.getfield 91, 3) := by decide +kernel
theorem dX10_redo_4 : decode cX10_redo 4 = .ok (.aload_n 0, 1) := by decide +kernel
theorem dX10_redo_5 : decode cX10_redo 5 = .ok (.getfield 94, 3) := by decide +kernel
theorem dX10_redo_8 : decode cX10_redo 8 = .ok (.if_icmp .ne 6, 3) := by decide +kernel
theorem dX10_redo_14 : decode cX10_redo 14 = .ok (.aload_n 0, 1) := by decide +kernel
theorem dX10_redo_15 : decode cX10_redo 15 = .ok (.aload_n 0, 1) := by decide +kernel
theorem dX10_redo_16 : decode cX10_redo 16 = .ok (.getfield 13, 3) := by decide +kernel
theorem dX10_redo_19 : decode cX10_redo 19 = .ok (.aload_n 0, 1) := by decide +kernel
theorem dX10_redo_20 : decode cX10_redo 20 = .ok (.getfield 91, 3) := by decide +kernel
theorem dX10_redo_23 : decode cX10_redo 23 = .ok (.iaload, 1) := by decide +kernel
theorem dX10_redo_24 : decode cX10_redo 24 = .ok (.aload_n 0, 1) := by decide +kernel
theorem dX10_redo_25 : decode cX10_redo 25 = .ok (.getfield 19, 3) := by decide +kernel
theorem dX10_redo_28 : decode cX10_redo 28 = .ok (.aload_n 0, 1) := by decide +kernel
theorem dX10_redo_29 : decode cX10_redo 29 = .ok (.getfield 91, 3) := by decide +kernel
theorem dX10_redo_32 : decode cX10_redo 32 = .ok (.iaload, 1) := by decide +kernel
theorem dX10_redo_33 : decode cX10_redo 33 = .ok (.invokevirtual 105, 3) := by decide +kernel
theorem dX10_redo_36 : decode cX10_redo 36 = .ok (.aload_n 0, 1) := by decide +kernel
theorem dX10_redo_37 : decode cX10_redo 37 = .ok (.dup, 1) := by decide +kernel
theorem dX10_redo_38 : decode cX10_redo 38 = .ok (.getfield 91, 3) := by decide +kernel
theorem dX10_redo_41 : decode cX10_redo 41 = .ok (.iconst 1, 1) := by decide +kernel
theorem dX10_redo_42 : decode cX10_redo 42 = .ok (.iadd, 1) := by decide +kernel
theorem dX10_redo_43 : decode cX10_redo 43 = .ok (.putfield 91, 3) := by decide +kernel
theorem dX10_redo_46 : decode cX10_redo 46 = .ok (.aload_n 0, 1) := by decide +kernel
theorem dX10_redo_47 : decode cX10_redo 47 = .ok (.getfield 94, 3) := by decide +kernel
theorem dX10_redo_50 : decode cX10_redo 50 = .ok (.aload_n 0, 1) := by decide +kernel
theorem dX10_redo_51 : decode cX10_redo 51 = .ok (.getfield 91, 3) := by decide +kernel
theorem dX10_redo_54 : decode cX10_redo 54 = .ok (.isub, 1) := by decide +kernel
theorem dX10_redo_55 : decode cX10_redo 55 = .ok (.ireturn, 1) := by decide +kernel
theorem dX10_redo_11 : decode cX10_redo 11 = .ok (.bipush (-5), 2) := by decide +kernel
theorem dX10_redo_13 : decode cX10_redo 13 = .ok (.ireturn, 1) := by decide +kernel
theorem dX10_mend_0 : decode cX10_mend 0 = .ok (.iload_n 2, 1) := by decide +kernel
theorem dX10_mend_1 : decode cX10_mend 1 = .ok (.i2l, 1) := by decide +kernel
theorem dX10_mend_2 : decode cX10_mend 2 = .ok (.lconst 0, 1) := by decide +kernel
theorem dX10_mend_3 : decode cX10_mend 3 = .ok (.ldc2_w 131, 3) := by decide +kernel
theorem dX10_mend_6 : decode cX10_mend 6 = .ok (.invokestatic 101, 3) := by decide +kernel
theorem dX10_mend_9 : decode cX10_mend 9 = .ok (.ifCond .eq 86, 3) := by decide +kernel
theorem dX10_mend_95 : decode cX10_mend 95 = .ok (.iload_n 1, 1) := by decide +kernel
theorem dX10_mend_96 : decode cX10_mend 96 = .ok (.ifCond .ne 17, 3) := by decide +kernel
theorem dX10_mend_113 : decode cX10_mend 113 = .ok (.ldc 140, 2) := by decide +kernel
theorem dX10_mend_115 : decode cX10_mend 115 = .ok (.ireturn, 1) := by decide +kernel
theorem dX10_mend_99 : decode cX10_mend 99 = .ok (.iload_n 2, 1) := by decide +kernel
theorem dX10_mend_100 : decode cX10_mend 100 = .ok (.i2l, 1) := by decide +kernel
theorem dX10_mend_101 : decode cX10_mend 101 = .ok (.ldc2_w 141, 3) := by decide +kernel
theorem dX10_mend_104 : decode cX10_mend 104 = .ok (.ldc2_w 143, 3) := by decide +kernel
theorem dX10_mend_107 : decode cX10_mend 107 = .ok (.invokestatic 101, 3) := by decide +kernel
theorem dX10_mend_110 : decode cX10_mend 110 = .ok (.ifCond .ne 6, 3) := by decide +kernel
theorem dX10_mend_116 : decode cX10_mend 116 = .ok (.iload_n 2, 1) := by decide +kernel
theorem dX10_mend_117 : decode cX10_mend 117 = .ok (.iconst 4, 1) := by decide +kernel
theorem dX10_mend_118 : decode cX10_mend 118 = .ok (.if_icmp .ne 7, 3) := by decide +kernel
theorem dX10_mend_125 : decode cX10_mend 125 = .ok (.iconst 0, 1) := by decide +kernel
theorem dX10_mend_126 : decode cX10_mend 126 = .ok (.istore 4, 2) := by decide +kernel
theorem dX10_mend_128 : decode cX10_mend 128 = .ok (.iload_n 2, 1) := by decide +kernel
theorem dX10_mend_129 : decode cX10_mend 129 = .ok (.iconst 3, 1) := by decide +kernel
theorem dX10_mend_130 : decode cX10_mend 130 = .ok (.if_icmp .ne 7, 3) := by decide +kernel
theorem dX10_mend_137 : decode cX10_mend 137 = .ok (.iload_n 2, 1) := by decide +kernel
theorem dX10_mend_138 : decode cX10_mend 138 = .ok (.iconst 4, 1) := by decide +kernel
theorem dX10_mend_139 : decode cX10_mend 139 = .ok (.if_icmp .ne 8, 3) := by decide +kernel
theorem dX10_mend_147 : decode cX10_mend 147 = .ok (.iload_n 2, 1) := by decide +kernel
theorem dX10_mend_148 : decode cX10_mend 148 = .ok (.iconst 5, 1) := by decide +kernel
theorem dX10_mend_149 : decode cX10_mend 149 = .ok (.if_icmp .ne 15, 3) := by decide +kernel
theorem dX10_mend_164 : decode cX10_mend 164 = .ok (.iload_n 2, 1) := by decide +kernel
theorem dX10_mend_165 : decode cX10_mend 165 = .ok (.bipush 6, 2) := by decide +kernel
theorem dX10_mend_167 : decode cX10_mend 167 = .ok (.if_icmp .ne 7, 3) := by decide +kernel
theorem dX10_mend_174 : decode cX10_mend 174 = .ok (.bipush 12, 2) := by decide +kernel
theorem dX10_mend_176 : decode cX10_mend 176 = .ok (.istore 5, 2) := by decide +kernel
theorem dX10_mend_178 : decode cX10_mend 178 = .ok (.iload_n 3, 1) := by decide +kernel
theorem dX10_mend_179 : decode cX10_mend 179 = .ok (.i2l, 1) := by decide +kernel
theorem dX10_mend_180 : decode cX10_mend 180 = .ok (.iload 4, 2) := by decide +kernel
theorem dX10_mend_182 : decode cX10_mend 182 = .ok (.i2l, 1) := by decide +kernel
theorem dX10_mend_183 : decode cX10_mend 183 = .ok (.iload 5, 2) := by decide +kernel
theorem dX10_mend_185 : decode cX10_mend 185 = .ok (.i2l, 1) := by decide +kernel
theorem dX10_mend_186 : decode cX10_mend 186 = .ok (.invokestatic 101, 3) := by decide +kernel
theorem dX10_mend_189 : decode cX10_mend 189 = .ok (.ifCond .eq 17, 3) := by decide +kernel
theorem dX10_mend_206 : decode cX10_mend 206 = .ok (.ldc 140, 2) := by decide +kernel
theorem dX10_mend_208 : decode cX10_mend 208 = .ok (.ireturn, 1) := by decide +kernel
theorem dX10_mend_192 : decode cX10_mend 192 = .ok (.aload_n 0, 1) := by decide +kernel
theorem dX10_mend_193 : decode cX10_mend 193 = .ok (.bipush 15, 2) := by decide +kernel
theorem dX10_mend_195 : decode cX10_mend 195 = .ok (.iload_n 2, 1) := by decide +kernel
theorem dX10_mend_196 : decode cX10_mend 196 = .ok (.iadd, 1) := by decide +kernel
theorem dX10_mend_197 : decode cX10_mend 197 = .ok (.iconst 3, 1) := by decide +kernel
theorem dX10_mend_198 : decode cX10_mend 198 = .ok (.isub, 1) := by decide +kernel
theorem dX10_mend_199 : decode cX10_mend 199 = .ok (.iload_n 3, 1) := by decide +kernel
theorem dX10_mend_200 : decode cX10_mend 200 = .ok (.invokevirtual 136, 3) := by decide +kernel
theorem dX10_mend_203 : decode cX10_mend 203 = .ok (.goto 5, 3) := by decide +kernel
theorem dX10_mend_170 : decode cX10_mend 170 = .ok (.iconst 5, 1) := by decide +kernel
theorem dX10_mend_171 : decode cX10_mend 171 = .ok (.goto 5, 3) := by decide +kernel
theorem dX10_mend_152 : decode cX10_mend 152 = .ok (.aload_n 0, 1) := by decide +kernel
theorem dX10_mend_153 : decode cX10_mend 153 = .ok (.getfield 9, 3) := by decide +kernel
theorem dX10_mend_156 : decode cX10_mend 156 = .ok (.bipush 16, 2) := by decide +kernel
theorem dX10_mend_158 : decode cX10_mend 158 = .ok (.iaload, 1) := by decide +kernel
theorem dX10_mend_159 : decode cX10_mend 159 = .ok (.iconst 1, 1) := by decide +kernel
theorem dX10_mend_160 : decode cX10_mend 160 = .ok (.isub, 1) := by decide +kernel
theorem dX10_mend_161 : decode cX10_mend 161 = .ok (.goto 15, 3) := by decide +kernel
theorem dX10_mend_142 : decode cX10_mend 142 = .ok (.bipush 24, 2) := by decide +kernel
theorem dX10_mend_144 : decode cX10_mend 144 = .ok (.goto 32, 3) := by decide +kernel
theorem dX10_mend_133 : decode cX10_mend 133 = .ok (.iconst 3, 1) := by decide +kernel
theorem dX10_mend_134 : decode cX10_mend 134 = .ok (.goto 42, 3) := by decide +kernel
theorem dX10_mend_121 : decode cX10_mend 121 = .ok (.iconst 2, 1) := by decide +kernel
theorem dX10_mend_122 : decode cX10_mend 122 = .ok (.goto 4, 3) := by decide +kernel
theorem dX10_mend_12 : decode cX10_mend 12 = .ok (.aload_n 0, 1) := by decide +kernel
theorem dX10_mend_13 : decode cX10_mend 13 = .ok (.iload_n 1, 1) := by decide +kernel
theorem dX10_mend_14 : decode cX10_mend 14 = .ok (.invokevirtual 133, 3) := by decide +kernel
theorem dX10_mend_17 : decode cX10_mend 17 = .ok (.ifCond .eq 54, 3) := by decide +kernel
theorem dX10_mend_71 : decode cX10_mend 71 = .ok (.iconst 0, 1) := by decide +kernel
theorem dX10_mend_72 : decode cX10_mend 72 = .ok (.istore 4, 2) := by decide +kernel
theorem dX10_mend_74 : decode cX10_mend 74 = .ok (.iload 4, 2) := by decide +kernel
theorem dX10_mend_76 : decode cX10_mend 76 = .ok (.ifCond .eq 16, 3) := by decide +kernel
theorem dX10_mend_92 : decode cX10_mend 92 = .ok (.ldc 140, 2) := by decide +kernel
theorem dX10_mend_94 : decode cX10_mend 94 = .ok (.ireturn, 1) := by decide +kernel
theorem dX10_mend_20 : decode cX10_mend 20 = .ok (.iload_n 2, 1) := by decide +kernel
theorem dX10_mend_21 : decode cX10_mend 21 = .ok (.iconst 2, 1) := by decide +kernel
theorem dX10_mend_22 : decode cX10_mend 22 = .ok (.if_icmp .ge 18, 3) := by decide +kernel
theorem dX10_mend_40 : decode cX10_mend 40 = .ok (.iload_n 3, 1) := by decide +kernel
theorem dX10_mend_41 : decode cX10_mend 41 = .ok (.i2l, 1) := by decide +kernel
theorem dX10_mend_42 : decode cX10_mend 42 = .ok (.ldc2_w 114, 3) := by decide +kernel
theorem dX10_mend_45 : decode cX10_mend 45 = .ok (.ldc2_w 112, 3) := by decide +kernel
theorem dX10_mend_48 : decode cX10_mend 48 = .ok (.invokestatic 101, 3) := by decide +kernel
theorem dX10_mend_51 : decode cX10_mend 51 = .ok (.ifCond .eq 20, 3) := by decide +kernel
theorem dX10_mend_54 : decode cX10_mend 54 = .ok (.aload_n 0, 1) := by decide +kernel
theorem dX10_mend_55 : decode cX10_mend 55 = .ok (.getfield 25, 3) := by decide +kernel
theorem dX10_mend_58 : decode cX10_mend 58 = .ok (.iload_n 1, 1) := by decide +kernel
theorem dX10_mend_59 : decode cX10_mend 59 = .ok (.iaload, 1) := by decide +kernel
theorem dX10_mend_60 : decode cX10_mend 60 = .ok (.ifCond .gt 7, 3) := by decide +kernel
theorem dX10_mend_67 : decode cX10_mend 67 = .ok (.iconst 1, 1) := by decide +kernel
theorem dX10_mend_68 : decode cX10_mend 68 = .ok (.goto 4, 3) := by decide +kernel
theorem dX10_mend_79 : decode cX10_mend 79 = .ok (.aload_n 0, 1) := by decide +kernel
theorem dX10_mend_80 : decode cX10_mend 80 = .ok (.iconst 5, 1) := by decide +kernel
theorem dX10_mend_81 : decode cX10_mend 81 = .ok (.iload_n 2, 1) := by decide +kernel
theorem dX10_mend_82 : decode cX10_mend 82 = .ok (.imul, 1) := by decide +kernel
theorem dX10_mend_83 : decode cX10_mend 83 = .ok (.iload_n 1, 1) := by decide +kernel
theorem dX10_mend_84 : decode cX10_mend 84 = .ok (.iadd, 1) := by decide +kernel
theorem dX10_mend_85 : decode cX10_mend 85 = .ok (.iload_n 3, 1) := by decide +kernel
theorem dX10_mend_86 : decode cX10_mend 86 = .ok (.invokevirtual 136, 3) := by decide +kernel
theorem dX10_mend_89 : decode cX10_mend 89 = .ok (.goto 5, 3) := by decide +kernel
theorem dX10_mend_63 : decode cX10_mend 63 = .ok (.iload_n 3, 1) := by decide +kernel
theorem dX10_mend_64 : decode cX10_mend 64 = .ok (.ifCond .ne 7, 3) := by decide +kernel
theorem dX10_mend_25 : decode cX10_mend 25 = .ok (.iload_n 3, 1) := by decide +kernel
theorem dX10_mend_26 : decode cX10_mend 26 = .ok (.i2l, 1) := by decide +kernel
theorem dX10_mend_27 : decode cX10_mend 27 = .ok (.lconst 1, 1) := by decide +kernel
theorem dX10_mend_28 : decode cX10_mend 28 = .ok (.ldc2_w 112, 3) := by decide +kernel
theorem dX10_mend_31 : decode cX10_mend 31 = .ok (.invokestatic 101, 3) := by decide +kernel
theorem dX10_mend_34 : decode cX10_mend 34 = .ok (.ifCond .eq 37, 3) := by decide +kernel
theorem dX10_mend_37 : decode cX10_mend 37 = .ok (.goto 30, 3) := by decide +kernel
theorem dX10_of_0 : decode cX10_of 0 = .ok (.iload_n 2, 1) := by decide +kernel
theorem dX10_of_1 : decode cX10_of 1 = .ok (.i2l, 1) := by decide +kernel
theorem dX10_of_2 : decode cX10_of 2 = .ok (.lconst 0, 1) := by decide +kernel
theorem dX10_of_3 : decode cX10_of 3 = .ok (.ldc2_w 129, 3) := by decide +kernel
theorem dX10_of_6 : decode cX10_of 6 = .ok (.invokestatic 101, 3) := by decide +kernel
theorem dX10_of_9 : decode cX10_of 9 = .ok (.ifCond .eq 66, 3) := by decide +kernel
theorem dX10_of_75 : decode cX10_of 75 = .ok (.iload_n 2, 1) := by decide +kernel
theorem dX10_of_76 : decode cX10_of 76 = .ok (.i2l, 1) := by decide +kernel
theorem dX10_of_77 : decode cX10_of 77 = .ok (.ldc2_w 97, 3) := by decide +kernel
theorem dX10_of_80 : decode cX10_of 80 = .ok (.ldc2_w 149, 3) := by decide +kernel
theorem dX10_of_83 : decode cX10_of 83 = .ok (.invokestatic 101, 3) := by decide +kernel
theorem dX10_of_86 : decode cX10_of 86 = .ok (.ifCond .eq 38, 3) := by decide +kernel
theorem dX10_of_124 : decode cX10_of 124 = .ok (.iload_n 2, 1) := by decide +kernel
theorem dX10_of_125 : decode cX10_of 125 = .ok (.i2l, 1) := by decide +kernel
theorem dX10_of_126 : decode cX10_of 126 = .ok (.ldc2_w 154, 3) := by decide +kernel
theorem dX10_of_129 : decode cX10_of 129 = .ok (.ldc2_w 156, 3) := by decide +kernel
theorem dX10_of_132 : decode cX10_of 132 = .ok (.invokestatic 101, 3) := by decide +kernel
theorem dX10_of_135 : decode cX10_of 135 = .ok (.ifCond .eq 15, 3) := by decide +kernel
theorem dX10_of_150 : decode cX10_of 150 = .ok (.ldc 140, 2) := by decide +kernel
theorem dX10_of_152 : decode cX10_of 152 = .ok (.goto 24, 3) := by decide +kernel
theorem dX10_of_176 : decode cX10_of 176 = .ok (.ireturn, 1) := by decide +kernel
theorem dX10_of_138 : decode cX10_of 138 = .ok (.iload_n 1, 1) := by decide +kernel
theorem dX10_of_139 : decode cX10_of 139 = .ok (.i2l, 1) := by decide +kernel
theorem dX10_of_140 : decode cX10_of 140 = .ok (.lconst 0, 1) := by decide +kernel
theorem dX10_of_141 : decode cX10_of 141 = .ok (.ldc2_w 158, 3) := by decide +kernel
theorem dX10_of_144 : decode cX10_of 144 = .ok (.invokestatic 101, 3) := by decide +kernel
theorem dX10_of_147 : decode cX10_of 147 = .ok (.ifCond .ne 8, 3) := by decide +kernel
theorem dX10_of_155 : decode cX10_of 155 = .ok (.iload_n 2, 1) := by decide +kernel
theorem dX10_of_156 : decode cX10_of 156 = .ok (.bipush 20, 2) := by decide +kernel
theorem dX10_of_158 : decode cX10_of 158 = .ok (.if_icmp .ne 12, 3) := by decide +kernel
theorem dX10_of_170 : decode cX10_of 170 = .ok (.aload_n 0, 1) := by decide +kernel
theorem dX10_of_171 : decode cX10_of 171 = .ok (.getfield 53, 3) := by decide +kernel
theorem dX10_of_174 : decode cX10_of 174 = .ok (.iload_n 1, 1) := by decide +kernel
theorem dX10_of_175 : decode cX10_of 175 = .ok (.iaload, 1) := by decide +kernel
theorem dX10_of_161 : decode cX10_of 161 = .ok (.aload_n 0, 1) := by decide +kernel
theorem dX10_of_162 : decode cX10_of 162 = .ok (.getfield 50, 3) := by decide +kernel
theorem dX10_of_165 : decode cX10_of 165 = .ok (.iload_n 1, 1) := by decide +kernel
theorem dX10_of_166 : decode cX10_of 166 = .ok (.iaload, 1) := by decide +kernel
theorem dX10_of_167 : decode cX10_of 167 = .ok (.goto 9, 3) := by decide +kernel
theorem dX10_of_89 : decode cX10_of 89 = .ok (.iload_n 1, 1) := by decide +kernel
theorem dX10_of_90 : decode cX10_of 90 = .ok (.ifCond .eq 8, 3) := by decide +kernel
theorem dX10_of_98 : decode cX10_of 98 = .ok (.iload_n 2, 1) := by decide +kernel
theorem dX10_of_99 : decode cX10_of 99 = .ok (.bipush 15, 2) := by decide +kernel
theorem dX10_of_101 : decode cX10_of 101 = .ok (.if_icmp .ne 10, 3) := by decide +kernel
theorem dX10_of_111 : decode cX10_of 111 = .ok (.aload_n 0, 1) := by decide +kernel
theorem dX10_of_112 : decode cX10_of 112 = .ok (.getfield 9, 3) := by decide +kernel
theorem dX10_of_115 : decode cX10_of 115 = .ok (.bipush 15, 2) := by decide +kernel
theorem dX10_of_117 : decode cX10_of 117 = .ok (.iload_n 2, 1) := by decide +kernel
theorem dX10_of_118 : decode cX10_of 118 = .ok (.iadd, 1) := by decide +kernel
theorem dX10_of_119 : decode cX10_of 119 = .ok (.bipush 10, 2) := by decide +kernel
theorem dX10_of_121 : decode cX10_of 121 = .ok (.isub, 1) := by decide +kernel
theorem dX10_of_122 : decode cX10_of 122 = .ok (.iaload, 1) := by decide +kernel
theorem dX10_of_123 : decode cX10_of 123 = .ok (.ireturn, 1) := by decide +kernel
theorem dX10_of_104 : decode cX10_of 104 = .ok (.aload_n 0, 1) := by decide +kernel
theorem dX10_of_105 : decode cX10_of 105 = .ok (.getfield 151, 3) := by decide +kernel
theorem dX10_of_108 : decode cX10_of 108 = .ok (.goto 15, 3) := by decide +kernel
theorem dX10_of_93 : decode cX10_of 93 = .ok (.ldc 140, 2) := by decide +kernel
theorem dX10_of_95 : decode cX10_of 95 = .ok (.goto 28, 3) := by decide +kernel
theorem dX10_of_12 : decode cX10_of 12 = .ok (.aload_n 0, 1) := by decide +kernel
theorem dX10_of_13 : decode cX10_of 13 = .ok (.iload_n 1, 1) := by decide +kernel
theorem dX10_of_14 : decode cX10_of 14 = .ok (.invokevirtual 133, 3) := by decide +kernel
theorem dX10_of_17 : decode cX10_of 17 = .ok (.ifCond .ne 6, 3) := by decide +kernel
theorem dX10_of_23 : decode cX10_of 23 = .ok (.iload_n 2, 1) := by decide +kernel
theorem dX10_of_24 : decode cX10_of 24 = .ok (.iconst 3, 1) := by decide +kernel
theorem dX10_of_25 : decode cX10_of 25 = .ok (.if_icmp .ge 16, 3) := by decide +kernel
theorem dX10_of_41 : decode cX10_of 41 = .ok (.iload_n 2, 1) := by decide +kernel
theorem dX10_of_42 : decode cX10_of 42 = .ok (.iconst 3, 1) := by decide +kernel
theorem dX10_of_43 : decode cX10_of 43 = .ok (.if_icmp .ne 12, 3) := by decide +kernel
theorem dX10_of_55 : decode cX10_of 55 = .ok (.iload_n 2, 1) := by decide +kernel
theorem dX10_of_56 : decode cX10_of 56 = .ok (.iconst 4, 1) := by decide +kernel
theorem dX10_of_57 : decode cX10_of 57 = .ok (.if_icmp .ne 12, 3) := by decide +kernel
theorem dX10_of_69 : decode cX10_of 69 = .ok (.aload_n 0, 1) := by decide +kernel
theorem dX10_of_70 : decode cX10_of 70 = .ok (.iload_n 1, 1) := by decide +kernel
theorem dX10_of_71 : decode cX10_of 71 = .ok (.invokevirtual 145, 3) := by decide +kernel
theorem dX10_of_74 : decode cX10_of 74 = .ok (.ireturn, 1) := by decide +kernel
theorem dX10_of_60 : decode cX10_of 60 = .ok (.aload_n 0, 1) := by decide +kernel
theorem dX10_of_61 : decode cX10_of 61 = .ok (.getfield 25, 3) := by decide +kernel
theorem dX10_of_64 : decode cX10_of 64 = .ok (.iload_n 1, 1) := by decide +kernel
theorem dX10_of_65 : decode cX10_of 65 = .ok (.iaload, 1) := by decide +kernel
theorem dX10_of_66 : decode cX10_of 66 = .ok (.goto 8, 3) := by decide +kernel
theorem dX10_of_46 : decode cX10_of 46 = .ok (.aload_n 0, 1) := by decide +kernel
theorem dX10_of_47 : decode cX10_of 47 = .ok (.getfield 22, 3) := by decide +kernel
theorem dX10_of_50 : decode cX10_of 50 = .ok (.iload_n 1, 1) := by decide +kernel
theorem dX10_of_51 : decode cX10_of 51 = .ok (.iaload, 1) := by decide +kernel
theorem dX10_of_52 : decode cX10_of 52 = .ok (.goto 22, 3) := by decide +kernel
theorem dX10_of_28 : decode cX10_of 28 = .ok (.aload_n 0, 1) := by decide +kernel
theorem dX10_of_29 : decode cX10_of 29 = .ok (.getfield 9, 3) := by decide +kernel
theorem dX10_of_32 : decode cX10_of 32 = .ok (.iconst 5, 1) := by decide +kernel
theorem dX10_of_33 : decode cX10_of 33 = .ok (.iload_n 2, 1) := by decide +kernel
theorem dX10_of_34 : decode cX10_of 34 = .ok (.imul, 1) := by decide +kernel
theorem dX10_of_35 : decode cX10_of 35 = .ok (.iload_n 1, 1) := by decide +kernel
theorem dX10_of_36 : decode cX10_of 36 = .ok (.iadd, 1) := by decide +kernel
theorem dX10_of_37 : decode cX10_of 37 = .ok (.iaload, 1) := by decide +kernel
theorem dX10_of_38 : decode cX10_of 38 = .ok (.goto 36, 3) := by decide +kernel
theorem dX10_of_20 : decode cX10_of 20 = .ok (.ldc 140, 2) := by decide +kernel
theorem dX10_of_22 : decode cX10_of 22 = .ok (.ireturn, 1) := by decide +kernel
set_option maxRecDepth 100000 in
set_option maxHeartbeats 4000000 in
theorem g_X10_of (nu w : Int32) {l : Launch} {G : xG} {M : xM} {J : xJ} (hI : InvR M) : x_M l G fX10_of 2 0 0 [.ref (62), .int (nu), .int (w)] x_SH M J (qPI M J (fun r => True)) := by
  refine xb_of pX10 (Nat.le_of_ble_eq_true rfl) rfl ?_
  obtain ⟨⟨hn, h_hn, e_hn, hw⟩, hbt, ⟨un, wn, h_uw, h_wn, e_un, e_wn⟩, hch, ⟨n, h_n, e_n⟩, htx, ⟨b, h_b, e_b⟩, hkd, ⟨ra, h_ra, e_ra⟩, hsl, ⟨ic, h_ic, e_ic⟩, hS⟩ := hI
  refine xr_iload_n dX10_of_0 2 rfl ?_
  refine xr_i2l dX10_of_1 ?_
  refine xr_lconst (v := 0) dX10_of_2 rfl ?_
  refine xr_ldc2 coX10_129 dX10_of_3 ?_
  refine xb_cS (As := [.long ((w).toInt64), .long (0), .long (5)]) (rest := []) mlX10_101 (c_within32 (w) (0) (5) (by decide) (by decide)) dX10_of_6 rfl rfl (Nat.le_of_ble_eq_true rfl) (by decide) (by decide) ?_
  refine xb_beq (tgt := 75) dX10_of_9 rfl (fun c1 => ?_) (fun c1 => ?_)
  · refine xr_iload_n dX10_of_75 2 rfl ?_
    refine xr_i2l dX10_of_76 ?_
    refine xr_ldc2 coX10_97 dX10_of_77 ?_
    refine xr_ldc2 coX10_149 dX10_of_80 ?_
    refine xb_cS (As := [.long ((w).toInt64), .long (10), .long (15)]) (rest := []) mlX10_101 (c_within32 (w) (10) (15) (by decide) (by decide)) dX10_of_83 rfl rfl (Nat.le_of_ble_eq_true rfl) (by decide) (by decide) ?_
    refine xb_beq (tgt := 124) dX10_of_86 rfl (fun c2 => ?_) (fun c2 => ?_)
    · refine xr_iload_n dX10_of_124 2 rfl ?_
      refine xr_i2l dX10_of_125 ?_
      refine xr_ldc2 coX10_154 dX10_of_126 ?_
      refine xr_ldc2 coX10_156 dX10_of_129 ?_
      refine xb_cS (As := [.long ((w).toInt64), .long (20), .long (21)]) (rest := []) mlX10_101 (c_within32 (w) (20) (21) (by decide) (by decide)) dX10_of_132 rfl rfl (Nat.le_of_ble_eq_true rfl) (by decide) (by decide) ?_
      refine xb_beq (tgt := 150) dX10_of_135 rfl (fun c3 => ?_) (fun c3 => ?_)
      · refine xr_ldc coX10_140 dX10_of_150 ?_
        refine xr_goto (tgt := 176) dX10_of_152 rfl ?_
        exact xr_iret dX10_of_176 rfl rfl (⟨_, rfl, rfl, rfl, rfl, trivial⟩)
      · refine xr_iload_n dX10_of_138 1 rfl ?_
        refine xr_i2l dX10_of_139 ?_
        refine xr_lconst (v := 0) dX10_of_140 rfl ?_
        refine xr_ldc2 coX10_158 dX10_of_141 ?_
        refine xb_cS (As := [.long ((nu).toInt64), .long (0), .long (24)]) (rest := []) mlX10_101 (c_within32 (nu) (0) (24) (by decide) (by decide)) dX10_of_144 rfl rfl (Nat.le_of_ble_eq_true rfl) (by decide) (by decide) ?_
        refine xb_bne (tgt := 155) dX10_of_147 rfl (fun c4 => ?_) (fun c4 => ?_)
        · obtain ⟨h_, hh_, rfl⟩ := x_natle (N := 24) (by decide) rfl c4
          replace hh_ := Nat.lt_succ_of_le hh_
          refine xr_iload_n dX10_of_155 2 rfl ?_
          refine xr_bipush (v := 20) dX10_of_156 rfl ?_
          refine xr_icmp_ne (tgt := 170) dX10_of_158 rfl (fun c5 => ?_) (fun c5 => ?_)
          · refine xr_aload_n dX10_of_170 0 rfl ?_
            refine xr_getR flX10_53 dX10_of_171 s_62 rfl ?_
            refine xr_iload_n dX10_of_174 1 rfl ?_
            refine xb_iald (j := h_) (v := M 76 h_) dX10_of_175 s_76 hh_ (by decide) rfl ?_
            exact xr_iret dX10_of_176 rfl rfl (⟨_, rfl, rfl, rfl, rfl, trivial⟩)
          · refine xr_aload_n dX10_of_161 0 rfl ?_
            refine xr_getR flX10_50 dX10_of_162 s_62 rfl ?_
            refine xr_iload_n dX10_of_165 1 rfl ?_
            refine xb_iald (j := h_) (v := M 75 h_) dX10_of_166 s_75 hh_ (by decide) rfl ?_
            refine xr_goto (tgt := 176) dX10_of_167 rfl ?_
            exact xr_iret dX10_of_176 rfl rfl (⟨_, rfl, rfl, rfl, rfl, trivial⟩)
        · refine xr_ldc coX10_140 dX10_of_150 ?_
          refine xr_goto (tgt := 176) dX10_of_152 rfl ?_
          exact xr_iret dX10_of_176 rfl rfl (⟨_, rfl, rfl, rfl, rfl, trivial⟩)
    · refine xr_iload_n dX10_of_89 1 rfl ?_
      refine xr_if_eq (tgt := 98) dX10_of_90 rfl (fun c6 => ?_) (fun c6 => ?_)
      · have h10w := c2.1
        obtain ⟨v2_, hv2_, rfl⟩ := x_natle (v := w) (N := 15) (K := 15) (by decide) (by decide) ⟨by grind, c2.2⟩
        have h10 : 10 ≤ v2_ := (nI_leI (a := 10) (b := v2_) (by decide) (by omega)).mp h10w
        refine xr_iload_n dX10_of_98 2 rfl ?_
        refine xr_bipush (v := 15) dX10_of_99 rfl ?_
        refine xr_icmp_ne (tgt := 111) dX10_of_101 rfl (fun c7 => ?_) (fun c7 => ?_)
        · have nc7 : ¬ (v2_ = 15) := fun q => c7 ((nI_eq (a := v2_) (b := 15) (by omega) (by omega)).mpr q)
          refine xr_aload_n dX10_of_111 0 rfl ?_
          refine xr_getR flX10_9 dX10_of_112 s_62 rfl ?_
          refine xr_bipush (v := 15) dX10_of_115 rfl ?_
          refine xr_iload_n dX10_of_117 2 rfl ?_
          refine xr_iadd dX10_of_118 ?_
          refine xb_top (y := nI (15 + v2_)) (nI_add (15) (v2_)) ?_
          refine xr_bipush (v := 10) dX10_of_119 rfl ?_
          refine xr_isub dX10_of_121 ?_
          refine xb_top (y := nI (5 + v2_)) (sx_sub10b v2_) ?_
          refine xb_iald (j := 5 + v2_) (v := M 63 (5 + v2_)) dX10_of_122 s_63 (by omega) (by decide) rfl ?_
          exact xr_iret dX10_of_123 rfl rfl (⟨_, rfl, rfl, rfl, rfl, trivial⟩)
        · have nc7 : v2_ = 15 := (nI_eq (a := v2_) (b := 15) (by omega) (by omega)).mp c7
          refine xr_aload_n dX10_of_104 0 rfl ?_
          refine xb_get (v := M 62 9) flX10_151 dX10_of_105 s_62 rfl rfl ?_
          refine xr_goto (tgt := 123) dX10_of_108 rfl ?_
          exact xr_iret dX10_of_123 rfl rfl (⟨_, rfl, rfl, rfl, rfl, trivial⟩)
      · refine xr_ldc coX10_140 dX10_of_93 ?_
        refine xr_goto (tgt := 123) dX10_of_95 rfl ?_
        exact xr_iret dX10_of_123 rfl rfl (⟨_, rfl, rfl, rfl, rfl, trivial⟩)
  · obtain ⟨w_, hw_, rfl⟩ := x_natle (N := 5) (by decide) rfl c1
    replace hw_ := Nat.lt_succ_of_le hw_
    refine xr_aload_n dX10_of_12 0 rfl ?_
    refine xr_iload_n dX10_of_13 1 rfl ?_
    refine xb_cV (As := [.int (nu)]) (rest := []) mlX10_133 (c_X10_isHoop nu (by omega) e_hn) dX10_of_14 s_62 rfl rfl (Nat.le_of_ble_eq_true rfl) (by decide) (by decide) ?_
    refine xb_bne (tgt := 23) dX10_of_17 rfl (fun c8 => ?_) (fun c8 => ?_)
    · obtain ⟨h_, hh_, rfl⟩ := x_nat (N := hn) (by omega) rfl c8
      refine xr_iload_n dX10_of_23 2 rfl ?_
      refine xr_iconst (v := 3) dX10_of_24 rfl ?_
      refine xr_icmp_ge (tgt := 41) dX10_of_25 rfl (fun c9 => ?_) (fun c9 => ?_)
      · have nc9 : 3 ≤ w_ := (nI_leI (a := 3) (b := w_) (by omega) (by omega)).mp c9
        refine xr_iload_n dX10_of_41 2 rfl ?_
        refine xr_iconst (v := 3) dX10_of_42 rfl ?_
        refine xr_icmp_ne (tgt := 55) dX10_of_43 rfl (fun c10 => ?_) (fun c10 => ?_)
        · have nc10 : ¬ (w_ = 3) := fun q => c10 ((nI_eq (a := w_) (b := 3) (by omega) (by omega)).mpr q)
          refine xr_iload_n dX10_of_55 2 rfl ?_
          refine xr_iconst (v := 4) dX10_of_56 rfl ?_
          refine xr_icmp_ne (tgt := 69) dX10_of_57 rfl (fun c11 => ?_) (fun c11 => ?_)
          · have nc11 : ¬ (w_ = 4) := fun q => c11 ((nI_eq (a := w_) (b := 4) (by omega) (by omega)).mpr q)
            refine xr_aload_n dX10_of_69 0 rfl ?_
            refine xr_iload_n dX10_of_70 1 rfl ?_
            refine xr_callV (As := [.int (nI (h_))]) (rest := []) mlX10_145 (g_X10_needOf (h := h_) (by omega)) dX10_of_71 s_62 rfl rfl (Nat.le_of_ble_eq_true rfl) (by decide) ⟨by decide, by decide⟩ (fun v s2 M9 J2 hq => ?_)
            obtain ⟨r12, rfl, rfl, rfl, rfl, _⟩ := hq
            try dsimp only [Option.toList, List.cons_append, List.nil_append]
            exact xr_iret dX10_of_74 rfl rfl (⟨_, rfl, rfl, rfl, rfl, trivial⟩)
          · have nc11 : w_ = 4 := (nI_eq (a := w_) (b := 4) (by omega) (by omega)).mp c11
            refine xr_aload_n dX10_of_60 0 rfl ?_
            refine xr_getR flX10_25 dX10_of_61 s_62 rfl ?_
            refine xr_iload_n dX10_of_64 1 rfl ?_
            refine xb_iald (j := h_) (v := M 68 h_) dX10_of_65 s_68 (by omega) (by decide) rfl ?_
            refine xr_goto (tgt := 74) dX10_of_66 rfl ?_
            exact xr_iret dX10_of_74 rfl rfl (⟨_, rfl, rfl, rfl, rfl, trivial⟩)
        · have nc10 : w_ = 3 := (nI_eq (a := w_) (b := 3) (by omega) (by omega)).mp c10
          refine xr_aload_n dX10_of_46 0 rfl ?_
          refine xr_getR flX10_22 dX10_of_47 s_62 rfl ?_
          refine xr_iload_n dX10_of_50 1 rfl ?_
          refine xb_iald (j := h_) (v := M 67 h_) dX10_of_51 s_67 (by omega) (by decide) rfl ?_
          refine xr_goto (tgt := 74) dX10_of_52 rfl ?_
          exact xr_iret dX10_of_74 rfl rfl (⟨_, rfl, rfl, rfl, rfl, trivial⟩)
      · have nc9 : ¬ (3 ≤ w_) := fun q => c9 ((nI_leI (a := 3) (b := w_) (by omega) (by omega)).mpr q)
        refine xr_aload_n dX10_of_28 0 rfl ?_
        refine xr_getR flX10_9 dX10_of_29 s_62 rfl ?_
        refine xr_iconst (v := 5) dX10_of_32 rfl ?_
        refine xr_iload_n dX10_of_33 2 rfl ?_
        refine xr_imul dX10_of_34 ?_
        refine xb_top (y := nI (5 * w_)) (nI_mulc 5 w_) ?_
        refine xr_iload_n dX10_of_35 1 rfl ?_
        refine xr_iadd dX10_of_36 ?_
        refine xb_top (y := nI (5 * w_ + h_)) (nI_add (5 * w_) (h_)) ?_
        refine xb_iald (j := 5 * w_ + h_) (v := M 63 (5 * w_ + h_)) dX10_of_37 s_63 (by omega) (by decide) rfl ?_
        refine xr_goto (tgt := 74) dX10_of_38 rfl ?_
        exact xr_iret dX10_of_74 rfl rfl (⟨_, rfl, rfl, rfl, rfl, trivial⟩)
    · refine xr_ldc coX10_140 dX10_of_20 ?_
      exact xr_iret dX10_of_22 rfl rfl (⟨_, rfl, rfl, rfl, rfl, trivial⟩)
