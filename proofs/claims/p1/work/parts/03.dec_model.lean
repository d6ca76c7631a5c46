theorem dX10_within_0 : decode cX10_within 0 = .ok (.lload_n 0, 1) := by decide +kernel
theorem dX10_within_1 : decode cX10_within 1 = .ok (.lload_n 2, 1) := by decide +kernel
theorem dX10_within_2 : decode cX10_within 2 = .ok (.lcmp, 1) := by decide +kernel
theorem dX10_within_3 : decode cX10_within 3 = .ok (.ifCond .lt 14, 3) := by decide +kernel
theorem dX10_within_6 : decode cX10_within 6 = .ok (.lload_n 0, 1) := by decide +kernel
theorem dX10_within_7 : decode cX10_within 7 = .ok (.lload 4, 2) := by decide +kernel
theorem dX10_within_9 : decode cX10_within 9 = .ok (.lcmp, 1) := by decide +kernel
theorem dX10_within_10 : decode cX10_within 10 = .ok (.ifCond .gt 7, 3) := by decide +kernel
theorem dX10_within_13 : decode cX10_within 13 = .ok (.iconst 1, 1) := by decide +kernel
theorem dX10_within_14 : decode cX10_within 14 = .ok (.goto 4, 3) := by decide +kernel
theorem dX10_within_17 : decode cX10_within 17 = .ok (.iconst 0, 1) := by decide +kernel
theorem dX10_within_18 : decode cX10_within 18 = .ok (.ireturn, 1) := by decide +kernel
theorem dX10_sizeOf_0 : decode cX10_sizeOf 0 = .ok (.iload_n 0, 1) := by decide +kernel
theorem dX10_sizeOf_1 : decode cX10_sizeOf 1 = .ok (.ifCond .ge 8, 3) := by decide +kernel
theorem dX10_sizeOf_4 : decode cX10_sizeOf 4 = .ok (.iload_n 0, 1) := by decide +kernel
theorem dX10_sizeOf_5 : decode cX10_sizeOf 5 = .ok (.ineg, 1) := by decide +kernel
theorem dX10_sizeOf_6 : decode cX10_sizeOf 6 = .ok (.goto 4, 3) := by decide +kernel
theorem dX10_sizeOf_9 : decode cX10_sizeOf 9 = .ok (.iload_n 0, 1) := by decide +kernel
theorem dX10_sizeOf_10 : decode cX10_sizeOf 10 = .ok (.ireturn, 1) := by decide +kernel
theorem dX10_isIn_0 : decode cX10_isIn 0 = .ok (.iload_n 0, 1) := by decide +kernel
theorem dX10_isIn_1 : decode cX10_isIn 1 = .ok (.iload_n 1, 1) := by decide +kernel
theorem dX10_isIn_2 : decode cX10_isIn 2 = .ok (.ishr, 1) := by decide +kernel
theorem dX10_isIn_3 : decode cX10_isIn 3 = .ok (.iconst 1, 1) := by decide +kernel
theorem dX10_isIn_4 : decode cX10_isIn 4 = .ok (.iand, 1) := by decide +kernel
theorem dX10_isIn_5 : decode cX10_isIn 5 = .ok (.iconst 1, 1) := by decide +kernel
theorem dX10_isIn_6 : decode cX10_isIn 6 = .ok (.if_icmp .ne 7, 3) := by decide +kernel
theorem dX10_isIn_9 : decode cX10_isIn 9 = .ok (.iconst 1, 1) := by decide +kernel
theorem dX10_isIn_10 : decode cX10_isIn 10 = .ok (.goto 4, 3) := by decide +kernel
theorem dX10_isIn_13 : decode cX10_isIn 13 = .ok (.iconst 0, 1) := by decide +kernel
theorem dX10_isIn_14 : decode cX10_isIn 14 = .ok (.ireturn, 1) := by decide +kernel
theorem dX10_bitsOf_0 : decode cX10_bitsOf 0 = .ok (.iconst 0, 1) := by decide +kernel
theorem dX10_bitsOf_1 : decode cX10_bitsOf 1 = .ok (.istore_n 1, 1) := by decide +kernel
theorem dX10_bitsOf_2 : decode cX10_bitsOf 2 = .ok (.iload_n 0, 1) := by decide +kernel
theorem dX10_bitsOf_3 : decode cX10_bitsOf 3 = .ok (.istore_n 2, 1) := by decide +kernel
theorem dX10_bitsOf_4 : decode cX10_bitsOf 4 = .ok (.iload_n 2, 1) := by decide +kernel
theorem dX10_bitsOf_5 : decode cX10_bitsOf 5 = .ok (.ifCond .eq 15, 3) := by decide +kernel
theorem dX10_bitsOf_8 : decode cX10_bitsOf 8 = .ok (.iinc 1 1, 3) := by decide +kernel
theorem dX10_bitsOf_11 : decode cX10_bitsOf 11 = .ok (.iload_n 2, 1) := by decide +kernel
theorem dX10_bitsOf_12 : decode cX10_bitsOf 12 = .ok (.iload_n 2, 1) := by decide +kernel
theorem dX10_bitsOf_13 : decode cX10_bitsOf 13 = .ok (.iconst 1, 1) := by decide +kernel
theorem dX10_bitsOf_14 : decode cX10_bitsOf 14 = .ok (.isub, 1) := by decide +kernel
theorem dX10_bitsOf_15 : decode cX10_bitsOf 15 = .ok (.iand, 1) := by decide +kernel
theorem dX10_bitsOf_16 : decode cX10_bitsOf 16 = .ok (.istore_n 2, 1) := by decide +kernel
theorem dX10_bitsOf_17 : decode cX10_bitsOf 17 = .ok (.goto (-13), 3) := by decide +kernel
theorem dX10_bitsOf_20 : decode cX10_bitsOf 20 = .ok (.iload_n 1, 1) := by decide +kernel
theorem dX10_bitsOf_21 : decode cX10_bitsOf 21 = .ok (.ireturn, 1) := by decide +kernel
theorem dX10_init_0 : decode cX10_init 0 = .ok (.aload_n 0, 1) := by decide +kernel
theorem dX10_init_1 : decode cX10_init 1 = .ok (.invokespecial 3, 3) := by decide +kernel
theorem dX10_init_4 : decode cX10_init 4 = .ok (.aload_n 0, 1) := by decide +kernel
theorem dX10_init_5 : decode cX10_init 5 = .ok (.bipush 20, 2) := by decide +kernel
theorem dX10_init_7 : decode cX10_init 7 = .ok (.newarray .int, 2) := by decide +kernel
theorem dX10_init_9 : decode cX10_init 9 = .ok (.putfield 9, 3) := by decide +kernel
theorem dX10_init_12 : decode cX10_init 12 = .ok (.aload_n 0, 1) := by decide +kernel
theorem dX10_init_13 : decode cX10_init 13 = .ok (.bipush 40, 2) := by decide +kernel
theorem dX10_init_15 : decode cX10_init 15 = .ok (.newarray .int, 2) := by decide +kernel
theorem dX10_init_17 : decode cX10_init 17 = .ok (.putfield 13, 3) := by decide +kernel
theorem dX10_init_20 : decode cX10_init 20 = .ok (.aload_n 0, 1) := by decide +kernel
theorem dX10_init_21 : decode cX10_init 21 = .ok (.bipush 40, 2) := by decide +kernel
theorem dX10_init_23 : decode cX10_init 23 = .ok (.newarray .int, 2) := by decide +kernel
theorem dX10_init_25 : decode cX10_init 25 = .ok (.putfield 16, 3) := by decide +kernel
theorem dX10_init_28 : decode cX10_init 28 = .ok (.aload_n 0, 1) := by decide +kernel
theorem dX10_init_29 : decode cX10_init 29 = .ok (.bipush 40, 2) := by decide +kernel
theorem dX10_init_31 : decode cX10_init 31 = .ok (.newarray .int, 2) := by decide +kernel
theorem dX10_init_33 : decode cX10_init 33 = .ok (.putfield 19, 3) := by decide +kernel
theorem dX10_init_36 : decode cX10_init 36 = .ok (.aload_n 0, 1) := by decide +kernel
theorem dX10_init_37 : decode cX10_init 37 = .ok (.iconst 5, 1) := by decide +kernel
theorem dX10_init_38 : decode cX10_init 38 = .ok (.newarray .int, 2) := by decide +kernel
theorem dX10_init_40 : decode cX10_init 40 = .ok (.putfield 22, 3) := by decide +kernel
theorem dX10_init_43 : decode cX10_init 43 = .ok (.aload_n 0, 1) := by decide +kernel
theorem dX10_init_44 : decode cX10_init 44 = .ok (.iconst 5, 1) := by decide +kernel
theorem dX10_init_45 : decode cX10_init 45 = .ok (.newarray .int, 2) := by decide +kernel
theorem dX10_init_47 : decode cX10_init 47 = .ok (.putfield 25, 3) := by decide +kernel
theorem dX10_init_50 : decode cX10_init 50 = .ok (.aload_n 0, 1) := by decide +kernel
theorem dX10_init_51 : decode cX10_init 51 = .ok (.bipush 120, 2) := by decide +kernel
theorem dX10_init_53 : decode cX10_init 53 = .ok (.newarray .int, 2) := by decide +kernel
theorem dX10_init_55 : decode cX10_init 55 = .ok (.putfield 28, 3) := by decide +kernel
theorem dX10_init_58 : decode cX10_init 58 = .ok (.aload_n 0, 1) := by decide +kernel
theorem dX10_init_59 : decode cX10_init 59 = .ok (.bipush 120, 2) := by decide +kernel
theorem dX10_init_61 : decode cX10_init 61 = .ok (.newarray .int, 2) := by decide +kernel
theorem dX10_init_63 : decode cX10_init 63 = .ok (.putfield 31, 3) := by decide +kernel
theorem dX10_init_66 : decode cX10_init 66 = .ok (.aload_n 0, 1) := by decide +kernel
theorem dX10_init_67 : decode cX10_init 67 = .ok (.bipush 6, 2) := by decide +kernel
theorem dX10_init_69 : decode cX10_init 69 = .ok (.newarray .int, 2) := by decide +kernel
theorem dX10_init_71 : decode cX10_init 71 = .ok (.putfield 34, 3) := by decide +kernel
theorem dX10_init_74 : decode cX10_init 74 = .ok (.aload_n 0, 1) := by decide +kernel
theorem dX10_init_75 : decode cX10_init 75 = .ok (.iconst 5, 1) := by decide +kernel
theorem dX10_init_76 : decode cX10_init 76 = .ok (.newarray .int, 2) := by decide +kernel
theorem dX10_init_78 : decode cX10_init 78 = .ok (.putfield 37, 3) := by decide +kernel
theorem dX10_init_81 : decode cX10_init 81 = .ok (.aload_n 0, 1) := by decide +kernel
theorem dX10_init_82 : decode cX10_init 82 = .ok (.iconst 5, 1) := by decide +kernel
theorem dX10_init_83 : decode cX10_init 83 = .ok (.newarray .int, 2) := by decide +kernel
theorem dX10_init_85 : decode cX10_init 85 = .ok (.putfield 40, 3) := by decide +kernel
theorem dX10_init_88 : decode cX10_init 88 = .ok (.aload_n 0, 1) := by decide +kernel
theorem dX10_init_89 : decode cX10_init 89 = .ok (.iconst 5, 1) := by decide +kernel
theorem dX10_init_90 : decode cX10_init 90 = .ok (.newarray .int, 2) := by decide +kernel
theorem dX10_init_92 : decode cX10_init 92 = .ok (.putfield 43, 3) := by decide +kernel
theorem dX10_init_95 : decode cX10_init 95 = .ok (.aload_n 0, 1) := by decide +kernel
theorem dX10_init_96 : decode cX10_init 96 = .ok (.bipush (-2), 2) := by decide +kernel
theorem dX10_init_98 : decode cX10_init 98 = .ok (.putfield 46, 3) := by decide +kernel
theorem dX10_init_101 : decode cX10_init 101 = .ok (.aload_n 0, 1) := by decide +kernel
theorem dX10_init_102 : decode cX10_init 102 = .ok (.bipush 25, 2) := by decide +kernel
theorem dX10_init_104 : decode cX10_init 104 = .ok (.newarray .int, 2) := by decide +kernel
theorem dX10_init_106 : decode cX10_init 106 = .ok (.putfield 50, 3) := by decide +kernel
theorem dX10_init_109 : decode cX10_init 109 = .ok (.aload_n 0, 1) := by decide +kernel
theorem dX10_init_110 : decode cX10_init 110 = .ok (.bipush 25, 2) := by decide +kernel
theorem dX10_init_112 : decode cX10_init 112 = .ok (.newarray .int, 2) := by decide +kernel
theorem dX10_init_114 : decode cX10_init 114 = .ok (.putfield 53, 3) := by decide +kernel
theorem dX10_init_117 : decode cX10_init 117 = .ok (.aload_n 0, 1) := by decide +kernel
theorem dX10_init_118 : decode cX10_init 118 = .ok (.bipush 25, 2) := by decide +kernel
theorem dX10_init_120 : decode cX10_init 120 = .ok (.newarray .boolean, 2) := by decide +kernel
theorem dX10_init_122 : decode cX10_init 122 = .ok (.putfield 56, 3) := by decide +kernel
theorem dX10_init_125 : decode cX10_init 125 = .ok (.aload_n 0, 1) := by decide +kernel
theorem dX10_init_126 : decode cX10_init 126 = .ok (.bipush 25, 2) := by decide +kernel
theorem dX10_init_128 : decode cX10_init 128 = .ok (.newarray .int, 2) := by decide +kernel
theorem dX10_init_130 : decode cX10_init 130 = .ok (.putfield 60, 3) := by decide +kernel
theorem dX10_init_133 : decode cX10_init 133 = .ok (.aload_n 0, 1) := by decide +kernel
theorem dX10_init_134 : decode cX10_init 134 = .ok (.bipush 25, 2) := by decide +kernel
theorem dX10_init_136 : decode cX10_init 136 = .ok (.newarray .int, 2) := by decide +kernel
theorem dX10_init_138 : decode cX10_init 138 = .ok (.putfield 63, 3) := by decide +kernel
theorem dX10_init_141 : decode cX10_init 141 = .ok (.aload_n 0, 1) := by decide +kernel
theorem dX10_init_142 : decode cX10_init 142 = .ok (.bipush 18, 2) := by decide +kernel
theorem dX10_init_144 : decode cX10_init 144 = .ok (.newarray .int, 2) := by decide +kernel
theorem dX10_init_146 : decode cX10_init 146 = .ok (.putfield 66, 3) := by decide +kernel
theorem dX10_init_149 : decode cX10_init 149 = .ok (.aload_n 0, 1) := by decide +kernel
theorem dX10_init_150 : decode cX10_init 150 = .ok (.bipush 50, 2) := by decide +kernel
theorem dX10_init_152 : decode cX10_init 152 = .ok (.newarray .int, 2) := by decide +kernel
theorem dX10_init_154 : decode cX10_init 154 = .ok (.putfield 69, 3) := by decide +kernel
theorem dX10_init_157 : decode cX10_init 157 = .ok (.aload_n 0, 1) := by decide +kernel
theorem dX10_init_158 : decode cX10_init 158 = .ok (.bipush 24, 2) := by decide +kernel
theorem dX10_init_160 : decode cX10_init 160 = .ok (.newarray .int, 2) := by decide +kernel
theorem dX10_init_162 : decode cX10_init 162 = .ok (.putfield 72, 3) := by decide +kernel
theorem dX10_init_165 : decode cX10_init 165 = .ok (.aload_n 0, 1) := by decide +kernel
theorem dX10_init_166 : decode cX10_init 166 = .ok (.bipush 6, 2) := by decide +kernel
theorem dX10_init_168 : decode cX10_init 168 = .ok (.newarray .int, 2) := by decide +kernel
theorem dX10_init_170 : decode cX10_init 170 = .ok (.putfield 75, 3) := by decide +kernel
theorem dX10_init_173 : decode cX10_init 173 = .ok (.aload_n 0, 1) := by decide +kernel
theorem dX10_init_174 : decode cX10_init 174 = .ok (.bipush 6, 2) := by decide +kernel
theorem dX10_init_176 : decode cX10_init 176 = .ok (.newarray .int, 2) := by decide +kernel
theorem dX10_init_178 : decode cX10_init 178 = .ok (.putfield 78, 3) := by decide +kernel
theorem dX10_init_181 : decode cX10_init 181 = .ok (.aload_n 0, 1) := by decide +kernel
theorem dX10_init_182 : decode cX10_init 182 = .ok (.sipush 360, 3) := by decide +kernel
theorem dX10_init_185 : decode cX10_init 185 = .ok (.newarray .long, 2) := by decide +kernel
theorem dX10_init_187 : decode cX10_init 187 = .ok (.putfield 81, 3) := by decide +kernel
theorem dX10_init_190 : decode cX10_init 190 = .ok (.aload_n 0, 1) := by decide +kernel
theorem dX10_init_191 : decode cX10_init 191 = .ok (.bipush 60, 2) := by decide +kernel
theorem dX10_init_193 : decode cX10_init 193 = .ok (.newarray .long, 2) := by decide +kernel
theorem dX10_init_195 : decode cX10_init 195 = .ok (.putfield 85, 3) := by decide +kernel
theorem dX10_init_198 : decode cX10_init 198 = .ok (.iconst 0, 1) := by decide +kernel
theorem dX10_init_199 : decode cX10_init 199 = .ok (.istore_n 1, 1) := by decide +kernel
theorem dX10_init_200 : decode cX10_init 200 = .ok (.iload_n 1, 1) := by decide +kernel
theorem dX10_init_201 : decode cX10_init 201 = .ok (.bipush 6, 2) := by decide +kernel
theorem dX10_init_203 : decode cX10_init 203 = .ok (.if_icmp .ge 16, 3) := by decide +kernel
theorem dX10_init_206 : decode cX10_init 206 = .ok (.aload_n 0, 1) := by decide +kernel
theorem dX10_init_207 : decode cX10_init 207 = .ok (.getfield 75, 3) := by decide +kernel
theorem dX10_init_210 : decode cX10_init 210 = .ok (.iload_n 1, 1) := by decide +kernel
theorem dX10_init_211 : decode cX10_init 211 = .ok (.iconst (-1), 1) := by decide +kernel
theorem dX10_init_212 : decode cX10_init 212 = .ok (.iastore, 1) := by decide +kernel
theorem dX10_init_213 : decode cX10_init 213 = .ok (.iinc 1 1, 3) := by decide +kernel
theorem dX10_init_216 : decode cX10_init 216 = .ok (.goto (-16), 3) := by decide +kernel
theorem dX10_init_219 : decode cX10_init 219 = .ok (.aload_n 0, 1) := by decide +kernel
theorem dX10_init_220 : decode cX10_init 220 = .ok (.iconst (-1), 1) := by decide +kernel
theorem dX10_init_221 : decode cX10_init 221 = .ok (.putfield 88, 3) := by decide +kernel
theorem dX10_init_224 : decode cX10_init 224 = .ok (.aload_n 0, 1) := by decide +kernel
theorem dX10_init_225 : decode cX10_init 225 = .ok (.getfield 9, 3) := by decide +kernel
theorem dX10_init_228 : decode cX10_init 228 = .ok (.bipush 15, 2) := by decide +kernel
theorem dX10_init_230 : decode cX10_init 230 = .ok (.iconst 1, 1) := by decide +kernel
theorem dX10_init_231 : decode cX10_init 231 = .ok (.iastore, 1) := by decide +kernel
theorem dX10_init_232 : decode cX10_init 232 = .ok (.aload_n 0, 1) := by decide +kernel
theorem dX10_init_233 : decode cX10_init 233 = .ok (.getfield 9, 3) := by decide +kernel
theorem dX10_init_236 : decode cX10_init 236 = .ok (.bipush 16, 2) := by decide +kernel
theorem dX10_init_238 : decode cX10_init 238 = .ok (.bipush 6, 2) := by decide +kernel
theorem dX10_init_240 : decode cX10_init 240 = .ok (.iastore, 1) := by decide +kernel
theorem dX10_init_241 : decode cX10_init 241 = .ok (.aload_n 0, 1) := by decide +kernel
theorem dX10_init_242 : decode cX10_init 242 = .ok (.getfield 9, 3) := by decide +kernel
theorem dX10_init_245 : decode cX10_init 245 = .ok (.bipush 18, 2) := by decide +kernel
theorem dX10_init_247 : decode cX10_init 247 = .ok (.iconst 2, 1) := by decide +kernel
theorem dX10_init_248 : decode cX10_init 248 = .ok (.iastore, 1) := by decide +kernel
theorem dX10_init_249 : decode cX10_init 249 = .ok (.aload_n 0, 1) := by decide +kernel
theorem dX10_init_250 : decode cX10_init 250 = .ok (.getfield 9, 3) := by decide +kernel
theorem dX10_init_253 : decode cX10_init 253 = .ok (.bipush 19, 2) := by decide +kernel
theorem dX10_init_255 : decode cX10_init 255 = .ok (.iconst 1, 1) := by decide +kernel
theorem dX10_init_256 : decode cX10_init 256 = .ok (.iastore, 1) := by decide +kernel
theorem dX10_init_257 : decode cX10_init 257 = .ok (.iconst 0, 1) := by decide +kernel
theorem dX10_init_258 : decode cX10_init 258 = .ok (.istore_n 1, 1) := by decide +kernel
theorem dX10_init_259 : decode cX10_init 259 = .ok (.iload_n 1, 1) := by decide +kernel
theorem dX10_init_260 : decode cX10_init 260 = .ok (.bipush 25, 2) := by decide +kernel
theorem dX10_init_262 : decode cX10_init 262 = .ok (.if_icmp .ge 17, 3) := by decide +kernel
theorem dX10_init_265 : decode cX10_init 265 = .ok (.aload_n 0, 1) := by decide +kernel
theorem dX10_init_266 : decode cX10_init 266 = .ok (.getfield 50, 3) := by decide +kernel
theorem dX10_init_269 : decode cX10_init 269 = .ok (.iload_n 1, 1) := by decide +kernel
theorem dX10_init_270 : decode cX10_init 270 = .ok (.bipush 9, 2) := by decide +kernel
theorem dX10_init_272 : decode cX10_init 272 = .ok (.iastore, 1) := by decide +kernel
theorem dX10_init_273 : decode cX10_init 273 = .ok (.iinc 1 1, 3) := by decide +kernel
theorem dX10_init_276 : decode cX10_init 276 = .ok (.goto (-17), 3) := by decide +kernel
theorem dX10_init_279 : decode cX10_init 279 = .ok (.return_, 1) := by decide +kernel
theorem dX10_becomes_0 : decode cX10_becomes 0 = .ok (.aload_n 0, 1) := by decide +kernel
theorem dX10_becomes_1 : decode cX10_becomes 1 = .ok (.getfield 9, 3) := by decide +kernel
theorem dX10_becomes_4 : decode cX10_becomes 4 = .ok (.iload_n 1, 1) := by decide +kernel
theorem dX10_becomes_5 : decode cX10_becomes 5 = .ok (.iaload, 1) := by decide +kernel
theorem dX10_becomes_6 : decode cX10_becomes 6 = .ok (.istore_n 3, 1) := by decide +kernel
theorem dX10_becomes_7 : decode cX10_becomes 7 = .ok (.iload_n 3, 1) := by decide +kernel
theorem dX10_becomes_8 : decode cX10_becomes 8 = .ok (.iload_n 2, 1) := by decide +kernel
theorem dX10_becomes_9 : decode cX10_becomes 9 = .ok (.if_icmp .ne 5, 3) := by decide +kernel
theorem dX10_becomes_12 : decode cX10_becomes 12 = .ok (.iload_n 3, 1) := by decide +kernel
theorem dX10_becomes_13 : decode cX10_becomes 13 = .ok (.ireturn, 1) := by decide +kernel
theorem dX10_becomes_14 : decode cX10_becomes 14 = .ok (.aload_n 0, 1) := by decide +kernel
theorem dX10_becomes_15 : decode cX10_becomes 15 = .ok (.getfield 91, 3) := by decide +kernel
theorem dX10_becomes_18 : decode cX10_becomes 18 = .ok (.bipush 40, 2) := by decide +kernel
theorem dX10_becomes_20 : decode cX10_becomes 20 = .ok (.if_icmp .ne 77, 3) := by decide +kernel
theorem dX10_becomes_23 : decode cX10_becomes 23 = .ok (.iconst 1, 1) := by decide +kernel
theorem dX10_becomes_24 : decode cX10_becomes 24 = .ok (.istore 4, 2) := by decide +kernel
theorem dX10_becomes_26 : decode cX10_becomes 26 = .ok (.iload 4, 2) := by decide +kernel
theorem dX10_becomes_28 : decode cX10_becomes 28 = .ok (.bipush 40, 2) := by decide +kernel
theorem dX10_becomes_30 : decode cX10_becomes 30 = .ok (.if_icmp .ge 57, 3) := by decide +kernel
theorem dX10_becomes_33 : decode cX10_becomes 33 = .ok (.aload_n 0, 1) := by decide +kernel
theorem dX10_becomes_34 : decode cX10_becomes 34 = .ok (.getfield 13, 3) := by decide +kernel
theorem dX10_becomes_37 : decode cX10_becomes 37 = .ok (.iload 4, 2) := by decide +kernel
theorem dX10_becomes_39 : decode cX10_becomes 39 = .ok (.iconst 1, 1) := by decide +kernel
theorem dX10_becomes_40 : decode cX10_becomes 40 = .ok (.isub, 1) := by decide +kernel
theorem dX10_becomes_41 : decode cX10_becomes 41 = .ok (.aload_n 0, 1) := by decide +kernel
theorem dX10_becomes_42 : decode cX10_becomes 42 = .ok (.getfield 13, 3) := by decide +kernel
theorem dX10_becomes_45 : decode cX10_becomes 45 = .ok (.iload 4, 2) := by decide +kernel
theorem dX10_becomes_47 : decode cX10_becomes 47 = .ok (.iaload, 1) := by decide +kernel
theorem dX10_becomes_48 : decode cX10_becomes 48 = .ok (.iastore, 1) := by decide +kernel
theorem dX10_becomes_49 : decode cX10_becomes 49 = .ok (.aload_n 0, 1) := by decide +kernel
theorem dX10_becomes_50 : decode cX10_becomes 50 = .ok (.getfield 16, 3) := by decide +kernel
theorem dX10_becomes_53 : decode cX10_becomes 53 = .ok (.iload 4, 2) := by decide +kernel
theorem dX10_becomes_55 : decode cX10_becomes 55 = .ok (.iconst 1, 1) := by decide +kernel
theorem dX10_becomes_56 : decode cX10_becomes 56 = .ok (.isub, 1) := by decide +kernel
theorem dX10_becomes_57 : decode cX10_becomes 57 = .ok (.aload_n 0, 1) := by decide +kernel
theorem dX10_becomes_58 : decode cX10_becomes 58 = .ok (.getfield 16, 3) := by decide +kernel
theorem dX10_becomes_61 : decode cX10_becomes 61 = .ok (.iload 4, 2) := by decide +kernel
theorem dX10_becomes_63 : decode cX10_becomes 63 = .ok (.iaload, 1) := by decide +kernel
theorem dX10_becomes_64 : decode cX10_becomes 64 = .ok (.iastore, 1) := by decide +kernel
theorem dX10_becomes_65 : decode cX10_becomes 65 = .ok (.aload_n 0, 1) := by decide +kernel
theorem dX10_becomes_66 : decode cX10_becomes 66 = .ok (.getfield 19, 3) := by decide +kernel
theorem dX10_becomes_69 : decode cX10_becomes 69 = .ok (.iload 4, 2) := by decide +kernel
theorem dX10_becomes_71 : decode cX10_becomes 71 = .ok (.iconst 1, 1) := by decide +kernel
theorem dX10_becomes_72 : decode cX10_becomes 72 = .ok (.isub, 1) := by decide +kernel
theorem dX10_becomes_73 : decode cX10_becomes 73 = .ok (.aload_n 0, 1) := by decide +kernel
theorem dX10_becomes_74 : decode cX10_becomes 74 = .ok (.getfield 19, 3) := by decide +kernel
theorem dX10_becomes_77 : decode cX10_becomes 77 = .ok (.iload 4, 2) := by decide +kernel
theorem dX10_becomes_79 : decode cX10_becomes 79 = .ok (.iaload, 1) := by decide +kernel
theorem dX10_becomes_80 : decode cX10_becomes 80 = .ok (.iastore, 1) := by decide +kernel
theorem dX10_becomes_81 : decode cX10_becomes 81 = .ok (.iinc 4 1, 3) := by decide +kernel
theorem dX10_becomes_84 : decode cX10_becomes 84 = .ok (.goto (-58), 3) := by decide +kernel
theorem dX10_becomes_87 : decode cX10_becomes 87 = .ok (.aload_n 0, 1) := by decide +kernel
theorem dX10_becomes_88 : decode cX10_becomes 88 = .ok (.dup, 1) := by decide +kernel
theorem dX10_becomes_89 : decode cX10_becomes 89 = .ok (.getfield 91, 3) := by decide +kernel
theorem dX10_becomes_92 : decode cX10_becomes 92 = .ok (.iconst 1, 1) := by decide +kernel
theorem dX10_becomes_93 : decode cX10_becomes 93 = .ok (.isub, 1) := by decide +kernel
theorem dX10_becomes_94 : decode cX10_becomes 94 = .ok (.putfield 91, 3) := by decide +kernel
theorem dX10_becomes_97 : decode cX10_becomes 97 = .ok (.aload_n 0, 1) := by decide +kernel
theorem dX10_becomes_98 : decode cX10_becomes 98 = .ok (.getfield 13, 3) := by decide +kernel
theorem dX10_becomes_101 : decode cX10_becomes 101 = .ok (.aload_n 0, 1) := by decide +kernel
theorem dX10_becomes_102 : decode cX10_becomes 102 = .ok (.getfield 91, 3) := by decide +kernel
theorem dX10_becomes_105 : decode cX10_becomes 105 = .ok (.iload_n 1, 1) := by decide +kernel
theorem dX10_becomes_106 : decode cX10_becomes 106 = .ok (.iastore, 1) := by decide +kernel
theorem dX10_becomes_107 : decode cX10_becomes 107 = .ok (.aload_n 0, 1) := by decide +kernel
theorem dX10_becomes_108 : decode cX10_becomes 108 = .ok (.getfield 16, 3) := by decide +kernel
theorem dX10_becomes_111 : decode cX10_becomes 111 = .ok (.aload_n 0, 1) := by decide +kernel
theorem dX10_becomes_112 : decode cX10_becomes 112 = .ok (.getfield 91, 3) := by decide +kernel
theorem dX10_becomes_115 : decode cX10_becomes 115 = .ok (.iload_n 3, 1) := by decide +kernel
theorem dX10_becomes_116 : decode cX10_becomes 116 = .ok (.iastore, 1) := by decide +kernel
theorem dX10_becomes_117 : decode cX10_becomes 117 = .ok (.aload_n 0, 1) := by decide +kernel
theorem dX10_becomes_118 : decode cX10_becomes 118 = .ok (.getfield 19, 3) := by decide +kernel
theorem dX10_becomes_121 : decode cX10_becomes 121 = .ok (.aload_n 0, 1) := by decide +kernel
theorem dX10_becomes_122 : decode cX10_becomes 122 = .ok (.getfield 91, 3) := by decide +kernel
theorem dX10_becomes_125 : decode cX10_becomes 125 = .ok (.iload_n 2, 1) := by decide +kernel
theorem dX10_becomes_126 : decode cX10_becomes 126 = .ok (.iastore, 1) := by decide +kernel
theorem dX10_becomes_127 : decode cX10_becomes 127 = .ok (.aload_n 0, 1) := by decide +kernel
theorem dX10_becomes_128 : decode cX10_becomes 128 = .ok (.dup, 1) := by decide +kernel
theorem dX10_becomes_129 : decode cX10_becomes 129 = .ok (.getfield 91, 3) := by decide +kernel
theorem dX10_becomes_132 : decode cX10_becomes 132 = .ok (.iconst 1, 1) := by decide +kernel
theorem dX10_becomes_133 : decode cX10_becomes 133 = .ok (.iadd, 1) := by decide +kernel
theorem dX10_becomes_134 : decode cX10_becomes 134 = .ok (.putfield 91, 3) := by decide +kernel
theorem dX10_becomes_137 : decode cX10_becomes 137 = .ok (.aload_n 0, 1) := by decide +kernel
theorem dX10_becomes_138 : decode cX10_becomes 138 = .ok (.aload_n 0, 1) := by decide +kernel
theorem dX10_becomes_139 : decode cX10_becomes 139 = .ok (.getfield 91, 3) := by decide +kernel
theorem dX10_becomes_142 : decode cX10_becomes 142 = .ok (.putfield 94, 3) := by decide +kernel
theorem dX10_becomes_145 : decode cX10_becomes 145 = .ok (.aload_n 0, 1) := by decide +kernel
theorem dX10_becomes_146 : decode cX10_becomes 146 = .ok (.getfield 9, 3) := by decide +kernel
theorem dX10_becomes_149 : decode cX10_becomes 149 = .ok (.iload_n 1, 1) := by decide +kernel
theorem dX10_becomes_150 : decode cX10_becomes 150 = .ok (.iload_n 2, 1) := by decide +kernel
theorem dX10_becomes_151 : decode cX10_becomes 151 = .ok (.iastore, 1) := by decide +kernel
theorem dX10_becomes_152 : decode cX10_becomes 152 = .ok (.iload_n 3, 1) := by decide +kernel
theorem dX10_becomes_153 : decode cX10_becomes 153 = .ok (.ireturn, 1) := by decide +kernel
theorem dX10_lays_0 : decode cX10_lays 0 = .ok (.iload_n 1, 1) := by decide +kernel
theorem dX10_lays_1 : decode cX10_lays 1 = .ok (.i2l, 1) := by decide +kernel
theorem dX10_lays_2 : decode cX10_lays 2 = .ok (.ldc2_w 97, 3) := by decide +kernel
theorem dX10_lays_5 : decode cX10_lays 5 = .ok (.ldc2_w 99, 3) := by decide +kernel
theorem dX10_lays_8 : decode cX10_lays 8 = .ok (.invokestatic 101, 3) := by decide +kernel
theorem dX10_lays_11 : decode cX10_lays 11 = .ok (.ifCond .eq 19, 3) := by decide +kernel
theorem dX10_lays_14 : decode cX10_lays 14 = .ok (.aload_n 0, 1) := by decide +kernel
theorem dX10_lays_15 : decode cX10_lays 15 = .ok (.getfield 25, 3) := by decide +kernel
theorem dX10_lays_18 : decode cX10_lays 18 = .ok (.iload_n 1, 1) := by decide +kernel
theorem dX10_lays_19 : decode cX10_lays 19 = .ok (.bipush 10, 2) := by decide +kernel
theorem dX10_lays_21 : decode cX10_lays 21 = .ok (.isub, 1) := by decide +kernel
theorem dX10_lays_22 : decode cX10_lays 22 = .ok (.iaload, 1) := by decide +kernel
theorem dX10_lays_23 : decode cX10_lays 23 = .ok (.ifCond .ne 7, 3) := by decide +kernel
theorem dX10_lays_26 : decode cX10_lays 26 = .ok (.iconst 1, 1) := by decide +kernel
theorem dX10_lays_27 : decode cX10_lays 27 = .ok (.goto 4, 3) := by decide +kernel
theorem dX10_lays_30 : decode cX10_lays 30 = .ok (.iconst 0, 1) := by decide +kernel
theorem dX10_lays_31 : decode cX10_lays 31 = .ok (.istore_n 3, 1) := by decide +kernel
theorem dX10_lays_32 : decode cX10_lays 32 = .ok (.aload_n 0, 1) := by decide +kernel
theorem dX10_lays_33 : decode cX10_lays 33 = .ok (.getfield 9, 3) := by decide +kernel
theorem dX10_lays_36 : decode cX10_lays 36 = .ok (.iload_n 1, 1) := by decide +kernel
theorem dX10_lays_37 : decode cX10_lays 37 = .ok (.iload_n 3, 1) := by decide +kernel
theorem dX10_lays_38 : decode cX10_lays 38 = .ok (.ifCond .eq 7, 3) := by decide +kernel
theorem dX10_lays_41 : decode cX10_lays 41 = .ok (.iconst 0, 1) := by decide +kernel
theorem dX10_lays_42 : decode cX10_lays 42 = .ok (.goto 4, 3) := by decide +kernel
theorem dX10_lays_45 : decode cX10_lays 45 = .ok (.iload_n 2, 1) := by decide +kernel
theorem dX10_lays_46 : decode cX10_lays 46 = .ok (.iastore, 1) := by decide +kernel
theorem dX10_lays_47 : decode cX10_lays 47 = .ok (.return_, 1) := by decide +kernel
theorem dX10_undo_0 : decode cX10_undo 0 = .ok (.aload_n 0, 1) := by decide +kernel
theorem dX10_undo_1 : decode cX10_undo 1 = .ok (.getfield 91, 3) := by decide +kernel
theorem dX10_undo_4 : decode cX10_undo 4 = .ok (.ifCond .ne 6, 3) := by decide +kernel
theorem dX10_undo_7 : decode cX10_undo 7 = .ok (.bipush (-5), 2) := by decide +kernel
theorem dX10_undo_9 : decode cX10_undo 9 = .ok (.ireturn, 1) := by decide +kernel
theorem dX10_undo_10 : decode cX10_undo 10 = .ok (.aload_n 0, 1) := by decide +kernel
theorem dX10_undo_11 : decode cX10_undo 11 = .ok (.dup, 1) := by decide +kernel
theorem dX10_undo_12 : decode cX10_undo 12 = .ok (.getfield 91, 3) := by decide +kernel
theorem dX10_undo_15 : decode cX10_undo 15 = .ok (.iconst 1, 1) := by decide +kernel
theorem dX10_undo_16 : decode cX10_undo 16 = .ok (.isub, 1) := by decide +kernel
theorem dX10_undo_17 : decode cX10_undo 17 = .ok (.putfield 91, 3) := by decide +kernel
theorem dX10_undo_20 : decode cX10_undo 20 = .ok (.aload_n 0, 1) := by decide +kernel
theorem dX10_undo_21 : decode cX10_undo 21 = .ok (.aload_n 0, 1) := by decide +kernel
theorem dX10_undo_22 : decode cX10_undo 22 = .ok (.getfield 13, 3) := by decide +kernel
theorem dX10_undo_25 : decode cX10_undo 25 = .ok (.aload_n 0, 1) := by decide +kernel
theorem dX10_undo_26 : decode cX10_undo 26 = .ok (.getfield 91, 3) := by decide +kernel
theorem dX10_undo_29 : decode cX10_undo 29 = .ok (.iaload, 1) := by decide +kernel
theorem dX10_undo_30 : decode cX10_undo 30 = .ok (.aload_n 0, 1) := by decide +kernel
theorem dX10_undo_31 : decode cX10_undo 31 = .ok (.getfield 16, 3) := by decide +kernel
theorem dX10_undo_34 : decode cX10_undo 34 = .ok (.aload_n 0, 1) := by decide +kernel
theorem dX10_undo_35 : decode cX10_undo 35 = .ok (.getfield 91, 3) := by decide +kernel
theorem dX10_undo_38 : decode cX10_undo 38 = .ok (.iaload, 1) := by decide +kernel
theorem dX10_undo_39 : decode cX10_undo 39 = .ok (.invokevirtual 105, 3) := by decide +kernel
theorem dX10_undo_42 : decode cX10_undo 42 = .ok (.aload_n 0, 1) := by decide +kernel
theorem dX10_undo_43 : decode cX10_undo 43 = .ok (.getfield 91, 3) := by decide +kernel
theorem dX10_undo_46 : decode cX10_undo 46 = .ok (.ireturn, 1) := by decide +kernel
theorem dX10_redo_0 : decode cX10_redo 0 = .ok (.aload_n 0, 1) := by decide +kernel
theorem dX10_redo_1 : decode cX10_redo 1 = .ok (.getfield 91, 3) := by decide +kernel
theorem dX10_redo_4 : decode cX10_redo 4 = .ok (.aload_n 0, 1) := by decide +kernel
theorem dX10_redo_5 : decode cX10_redo 5 = .ok (.getfield 94, 3) := by decide +kernel
theorem dX10_redo_8 : decode cX10_redo 8 = .ok (.if_icmp .ne 6, 3) := by decide +kernel
theorem dX10_redo_11 : decode cX10_redo 11 = .ok (.bipush (-5), 2) := by decide +kernel
theorem dX10_redo_13 : decode cX10_redo 13 = .ok (.ireturn, 1) := by decide +kernel
theorem dX10_redo_14 : decode cX10_redo 14 = .ok (.aload_n 0, 1) := by decide +kernel
theorem dX10_redo_15 : decode cX10_redo 15 = .ok (.aload_n 0, 1) := by decide +kernel
theorem dX10_redo_16 : decode cX10_redo 16 = .ok (.getfield 13, 3) := by decide +kernel
theorem dX10_redo_19 : decode cX10_redo 19 = .ok (.aload_n 0, 1) := by decide +kernel
theorem dX10_redo_20 : decode cX10_redo 20 = .ok (.getfield 91, 3) := by decide +kernel
theorem dX10_redo_23 : decode cX10_redo 23 = .ok (.iaload, 1) := by decide +kernel
theorem dX10_redo_24 : decode cX10_redo 24 = .ok (.aload_n 0, 1) := by decide +kernel
theorem dX10_redo_25 : decode cX10_redo 25 = .ok (.getfield 19, 3) := by decide +kernel
theorem dX10_redo_28 : decode cX10_redo 28 = .ok (.aload_n 0, 1) := by decide +kernel
theorem dX10_redo_29 : decode cX10_redo 29 = .ok (.getfield 91, 3) := by decide +kernel
theorem dX10_redo_32 : decode cX10_redo 32 = .ok (.iaload, 1) := by decide +kernel
theorem dX10_redo_33 : decode cX10_redo 33 = .ok (.invokevirtual 105, 3) := by decide +kernel
theorem dX10_redo_36 : decode cX10_redo 36 = .ok (.aload_n 0, 1) := by decide +kernel
theorem dX10_redo_37 : decode cX10_redo 37 = .ok (.dup, 1) := by decide +kernel
theorem dX10_redo_38 : decode cX10_redo 38 = .ok (.getfield 91, 3) := by decide +kernel
theorem dX10_redo_41 : decode cX10_redo 41 = .ok (.iconst 1, 1) := by decide +kernel
theorem dX10_redo_42 : decode cX10_redo 42 = .ok (.iadd, 1) := by decide +kernel
theorem dX10_redo_43 : decode cX10_redo 43 = .ok (.putfield 91, 3) := by decide +kernel
theorem dX10_redo_46 : decode cX10_redo 46 = .ok (.aload_n 0, 1) := by decide +kernel
theorem dX10_redo_47 : decode cX10_redo 47 = .ok (.getfield 94, 3) := by decide +kernel
theorem dX10_redo_50 : decode cX10_redo 50 = .ok (.aload_n 0, 1) := by decide +kernel
theorem dX10_redo_51 : decode cX10_redo 51 = .ok (.getfield 91, 3) := by decide +kernel
theorem dX10_redo_54 : decode cX10_redo 54 = .ok (.isub, 1) := by decide +kernel
theorem dX10_redo_55 : decode cX10_redo 55 = .ok (.ireturn, 1) := by decide +kernel
theorem dX10_isHoop_0 : decode cX10_isHoop 0 = .ok (.iload_n 1, 1) := by decide +kernel
theorem dX10_isHoop_1 : decode cX10_isHoop 1 = .ok (.i2l, 1) := by decide +kernel
theorem dX10_isHoop_2 : decode cX10_isHoop 2 = .ok (.lconst 0, 1) := by decide +kernel
theorem dX10_isHoop_3 : decode cX10_isHoop 3 = .ok (.aload_n 0, 1) := by decide +kernel
theorem dX10_isHoop_4 : decode cX10_isHoop 4 = .ok (.getfield 109, 3) := by decide +kernel
theorem dX10_isHoop_7 : decode cX10_isHoop 7 = .ok (.iconst 1, 1) := by decide +kernel
theorem dX10_isHoop_8 : decode cX10_isHoop 8 = .ok (.isub, 1) := by decide +kernel
theorem dX10_isHoop_9 : decode cX10_isHoop 9 = .ok (.i2l, 1) := by decide +kernel
theorem dX10_isHoop_10 : decode cX10_isHoop 10 = .ok (.invokestatic 101, 3) := by decide +kernel
theorem dX10_isHoop_13 : decode cX10_isHoop 13 = .ok (.ireturn, 1) := by decide +kernel
theorem dX10_isOne_0 : decode cX10_isOne 0 = .ok (.lload_n 0, 1) := by decide +kernel
theorem dX10_isOne_1 : decode cX10_isOne 1 = .ok (.lconst 1, 1) := by decide +kernel
theorem dX10_isOne_2 : decode cX10_isOne 2 = .ok (.ldc2_w 112, 3) := by decide +kernel
theorem dX10_isOne_5 : decode cX10_isOne 5 = .ok (.invokestatic 101, 3) := by decide +kernel
theorem dX10_isOne_8 : decode cX10_isOne 8 = .ok (.ifCond .eq 32, 3) := by decide +kernel
theorem dX10_isOne_11 : decode cX10_isOne 11 = .ok (.lload_n 2, 1) := by decide +kernel
theorem dX10_isOne_12 : decode cX10_isOne 12 = .ok (.lconst 1, 1) := by decide +kernel
theorem dX10_isOne_13 : decode cX10_isOne 13 = .ok (.ldc2_w 112, 3) := by decide +kernel
theorem dX10_isOne_16 : decode cX10_isOne 16 = .ok (.invokestatic 101, 3) := by decide +kernel
theorem dX10_isOne_19 : decode cX10_isOne 19 = .ok (.ifCond .eq 21, 3) := by decide +kernel
theorem dX10_isOne_22 : decode cX10_isOne 22 = .ok (.lload 4, 2) := by decide +kernel
theorem dX10_isOne_24 : decode cX10_isOne 24 = .ok (.ldc2_w 114, 3) := by decide +kernel
theorem dX10_isOne_27 : decode cX10_isOne 27 = .ok (.ldc2_w 112, 3) := by decide +kernel
theorem dX10_isOne_30 : decode cX10_isOne 30 = .ok (.invokestatic 101, 3) := by decide +kernel
theorem dX10_isOne_33 : decode cX10_isOne 33 = .ok (.ifCond .eq 7, 3) := by decide +kernel
theorem dX10_isOne_36 : decode cX10_isOne 36 = .ok (.iconst 1, 1) := by decide +kernel
theorem dX10_isOne_37 : decode cX10_isOne 37 = .ok (.goto 4, 3) := by decide +kernel
theorem dX10_isOne_40 : decode cX10_isOne 40 = .ok (.iconst 0, 1) := by decide +kernel
theorem dX10_isOne_41 : decode cX10_isOne 41 = .ok (.ireturn, 1) := by decide +kernel
theorem dX10_adds_0 : decode cX10_adds 0 = .ok (.aload_n 0, 1) := by decide +kernel
theorem dX10_adds_1 : decode cX10_adds 1 = .ok (.getfield 9, 3) := by decide +kernel
theorem dX10_adds_4 : decode cX10_adds 4 = .ok (.aload_n 0, 1) := by decide +kernel
theorem dX10_adds_5 : decode cX10_adds 5 = .ok (.getfield 109, 3) := by decide +kernel
theorem dX10_adds_8 : decode cX10_adds 8 = .ok (.iload_n 1, 1) := by decide +kernel
theorem dX10_adds_9 : decode cX10_adds 9 = .ok (.iastore, 1) := by decide +kernel
theorem dX10_adds_10 : decode cX10_adds 10 = .ok (.aload_n 0, 1) := by decide +kernel
theorem dX10_adds_11 : decode cX10_adds 11 = .ok (.getfield 9, 3) := by decide +kernel
theorem dX10_adds_14 : decode cX10_adds 14 = .ok (.iconst 5, 1) := by decide +kernel
theorem dX10_adds_15 : decode cX10_adds 15 = .ok (.aload_n 0, 1) := by decide +kernel
theorem dX10_adds_16 : decode cX10_adds 16 = .ok (.getfield 109, 3) := by decide +kernel
theorem dX10_adds_19 : decode cX10_adds 19 = .ok (.iadd, 1) := by decide +kernel
theorem dX10_adds_20 : decode cX10_adds 20 = .ok (.iload_n 2, 1) := by decide +kernel
theorem dX10_adds_21 : decode cX10_adds 21 = .ok (.iastore, 1) := by decide +kernel
theorem dX10_adds_22 : decode cX10_adds 22 = .ok (.aload_n 0, 1) := by decide +kernel
theorem dX10_adds_23 : decode cX10_adds 23 = .ok (.getfield 9, 3) := by decide +kernel
theorem dX10_adds_26 : decode cX10_adds 26 = .ok (.bipush 10, 2) := by decide +kernel
theorem dX10_adds_28 : decode cX10_adds 28 = .ok (.aload_n 0, 1) := by decide +kernel
theorem dX10_adds_29 : decode cX10_adds 29 = .ok (.getfield 109, 3) := by decide +kernel
theorem dX10_adds_32 : decode cX10_adds 32 = .ok (.iadd, 1) := by decide +kernel
theorem dX10_adds_33 : decode cX10_adds 33 = .ok (.iload_n 3, 1) := by decide +kernel
theorem dX10_adds_34 : decode cX10_adds 34 = .ok (.iastore, 1) := by decide +kernel
theorem dX10_adds_35 : decode cX10_adds 35 = .ok (.aload_n 0, 1) := by decide +kernel
theorem dX10_adds_36 : decode cX10_adds 36 = .ok (.getfield 22, 3) := by decide +kernel
theorem dX10_adds_39 : decode cX10_adds 39 = .ok (.aload_n 0, 1) := by decide +kernel
theorem dX10_adds_40 : decode cX10_adds 40 = .ok (.getfield 109, 3) := by decide +kernel
theorem dX10_adds_43 : decode cX10_adds 43 = .ok (.iconst 0, 1) := by decide +kernel
theorem dX10_adds_44 : decode cX10_adds 44 = .ok (.iastore, 1) := by decide +kernel
theorem dX10_adds_45 : decode cX10_adds 45 = .ok (.aload_n 0, 1) := by decide +kernel
theorem dX10_adds_46 : decode cX10_adds 46 = .ok (.getfield 25, 3) := by decide +kernel
theorem dX10_adds_49 : decode cX10_adds 49 = .ok (.aload_n 0, 1) := by decide +kernel
theorem dX10_adds_50 : decode cX10_adds 50 = .ok (.getfield 109, 3) := by decide +kernel
theorem dX10_adds_53 : decode cX10_adds 53 = .ok (.bipush 20, 2) := by decide +kernel
theorem dX10_adds_55 : decode cX10_adds 55 = .ok (.iastore, 1) := by decide +kernel
theorem dX10_adds_56 : decode cX10_adds 56 = .ok (.aload_n 0, 1) := by decide +kernel
theorem dX10_adds_57 : decode cX10_adds 57 = .ok (.dup, 1) := by decide +kernel
theorem dX10_adds_58 : decode cX10_adds 58 = .ok (.getfield 109, 3) := by decide +kernel
theorem dX10_adds_61 : decode cX10_adds 61 = .ok (.iconst 1, 1) := by decide +kernel
theorem dX10_adds_62 : decode cX10_adds 62 = .ok (.iadd, 1) := by decide +kernel
theorem dX10_adds_63 : decode cX10_adds 63 = .ok (.putfield 109, 3) := by decide +kernel
theorem dX10_adds_66 : decode cX10_adds 66 = .ok (.return_, 1) := by decide +kernel
theorem dX10_hoop_0 : decode cX10_hoop 0 = .ok (.iload_n 1, 1) := by decide +kernel
theorem dX10_hoop_1 : decode cX10_hoop 1 = .ok (.ifCond .lt 22, 3) := by decide +kernel
theorem dX10_hoop_4 : decode cX10_hoop 4 = .ok (.iload_n 1, 1) := by decide +kernel
theorem dX10_hoop_5 : decode cX10_hoop 5 = .ok (.bipush 10, 2) := by decide +kernel
theorem dX10_hoop_7 : decode cX10_hoop 7 = .ok (.idiv, 1) := by decide +kernel
theorem dX10_hoop_8 : decode cX10_hoop 8 = .ok (.i2l, 1) := by decide +kernel
theorem dX10_hoop_9 : decode cX10_hoop 9 = .ok (.iload_n 1, 1) := by decide +kernel
theorem dX10_hoop_10 : decode cX10_hoop 10 = .ok (.bipush 10, 2) := by decide +kernel
theorem dX10_hoop_12 : decode cX10_hoop 12 = .ok (.irem, 1) := by decide +kernel
theorem dX10_hoop_13 : decode cX10_hoop 13 = .ok (.i2l, 1) := by decide +kernel
theorem dX10_hoop_14 : decode cX10_hoop 14 = .ok (.ldc2_w 116, 3) := by decide +kernel
theorem dX10_hoop_17 : decode cX10_hoop 17 = .ok (.invokestatic 118, 3) := by decide +kernel
theorem dX10_hoop_20 : decode cX10_hoop 20 = .ok (.ifCond .ne 5, 3) := by decide +kernel
theorem dX10_hoop_23 : decode cX10_hoop 23 = .ok (.iconst (-1), 1) := by decide +kernel
theorem dX10_hoop_24 : decode cX10_hoop 24 = .ok (.ireturn, 1) := by decide +kernel
theorem dX10_hoop_25 : decode cX10_hoop 25 = .ok (.aload_n 0, 1) := by decide +kernel
theorem dX10_hoop_26 : decode cX10_hoop 26 = .ok (.getfield 109, 3) := by decide +kernel
theorem dX10_hoop_29 : decode cX10_hoop 29 = .ok (.iconst 5, 1) := by decide +kernel
theorem dX10_hoop_30 : decode cX10_hoop 30 = .ok (.if_icmp .ne 6, 3) := by decide +kernel
theorem dX10_hoop_33 : decode cX10_hoop 33 = .ok (.bipush (-3), 2) := by decide +kernel
theorem dX10_hoop_35 : decode cX10_hoop 35 = .ok (.ireturn, 1) := by decide +kernel
theorem dX10_hoop_36 : decode cX10_hoop 36 = .ok (.aload_n 0, 1) := by decide +kernel
theorem dX10_hoop_37 : decode cX10_hoop 37 = .ok (.iload_n 1, 1) := by decide +kernel
theorem dX10_hoop_38 : decode cX10_hoop 38 = .ok (.bipush 10, 2) := by decide +kernel
theorem dX10_hoop_40 : decode cX10_hoop 40 = .ok (.idiv, 1) := by decide +kernel
theorem dX10_hoop_41 : decode cX10_hoop 41 = .ok (.iload_n 1, 1) := by decide +kernel
theorem dX10_hoop_42 : decode cX10_hoop 42 = .ok (.bipush 10, 2) := by decide +kernel
theorem dX10_hoop_44 : decode cX10_hoop 44 = .ok (.irem, 1) := by decide +kernel
theorem dX10_hoop_45 : decode cX10_hoop 45 = .ok (.iconst 4, 1) := by decide +kernel
theorem dX10_hoop_46 : decode cX10_hoop 46 = .ok (.invokevirtual 121, 3) := by decide +kernel
theorem dX10_hoop_49 : decode cX10_hoop 49 = .ok (.aload_n 0, 1) := by decide +kernel
theorem dX10_hoop_50 : decode cX10_hoop 50 = .ok (.getfield 109, 3) := by decide +kernel
theorem dX10_hoop_53 : decode cX10_hoop 53 = .ok (.iconst 1, 1) := by decide +kernel
theorem dX10_hoop_54 : decode cX10_hoop 54 = .ok (.isub, 1) := by decide +kernel
theorem dX10_hoop_55 : decode cX10_hoop 55 = .ok (.ireturn, 1) := by decide +kernel
theorem dX10_hoops_0 : decode cX10_hoops 0 = .ok (.iload_n 1, 1) := by decide +kernel
theorem dX10_hoops_1 : decode cX10_hoops 1 = .ok (.invokestatic 125, 3) := by decide +kernel
theorem dX10_hoops_4 : decode cX10_hoops 4 = .ok (.ifCond .eq 15, 3) := by decide +kernel
theorem dX10_hoops_7 : decode cX10_hoops 7 = .ok (.iload_n 3, 1) := by decide +kernel
theorem dX10_hoops_8 : decode cX10_hoops 8 = .ok (.i2l, 1) := by decide +kernel
theorem dX10_hoops_9 : decode cX10_hoops 9 = .ok (.lconst 1, 1) := by decide +kernel
theorem dX10_hoops_10 : decode cX10_hoops 10 = .ok (.ldc2_w 129, 3) := by decide +kernel
theorem dX10_hoops_13 : decode cX10_hoops 13 = .ok (.invokestatic 101, 3) := by decide +kernel
theorem dX10_hoops_16 : decode cX10_hoops 16 = .ok (.ifCond .ne 5, 3) := by decide +kernel
theorem dX10_hoops_19 : decode cX10_hoops 19 = .ok (.iconst (-1), 1) := by decide +kernel
theorem dX10_hoops_20 : decode cX10_hoops 20 = .ok (.ireturn, 1) := by decide +kernel
theorem dX10_hoops_21 : decode cX10_hoops 21 = .ok (.aload_n 0, 1) := by decide +kernel
theorem dX10_hoops_22 : decode cX10_hoops 22 = .ok (.getfield 75, 3) := by decide +kernel
theorem dX10_hoops_25 : decode cX10_hoops 25 = .ok (.iload_n 1, 1) := by decide +kernel
theorem dX10_hoops_26 : decode cX10_hoops 26 = .ok (.iaload, 1) := by decide +kernel
theorem dX10_hoops_27 : decode cX10_hoops 27 = .ok (.ifCond .lt 17, 3) := by decide +kernel
theorem dX10_hoops_30 : decode cX10_hoops 30 = .ok (.aload_n 0, 1) := by decide +kernel
theorem dX10_hoops_31 : decode cX10_hoops 31 = .ok (.getfield 75, 3) := by decide +kernel
theorem dX10_hoops_34 : decode cX10_hoops 34 = .ok (.iload_n 1, 1) := by decide +kernel
theorem dX10_hoops_35 : decode cX10_hoops 35 = .ok (.iaload, 1) := by decide +kernel
theorem dX10_hoops_36 : decode cX10_hoops 36 = .ok (.bipush 50, 2) := by decide +kernel
theorem dX10_hoops_38 : decode cX10_hoops 38 = .ok (.if_icmp .eq 6, 3) := by decide +kernel
theorem dX10_hoops_41 : decode cX10_hoops 41 = .ok (.bipush (-12), 2) := by decide +kernel
theorem dX10_hoops_43 : decode cX10_hoops 43 = .ok (.ireturn, 1) := by decide +kernel
theorem dX10_hoops_44 : decode cX10_hoops 44 = .ok (.iconst 0, 1) := by decide +kernel
theorem dX10_hoops_45 : decode cX10_hoops 45 = .ok (.istore 4, 2) := by decide +kernel
theorem dX10_hoops_47 : decode cX10_hoops 47 = .ok (.aload_n 0, 1) := by decide +kernel
theorem dX10_hoops_48 : decode cX10_hoops 48 = .ok (.getfield 75, 3) := by decide +kernel
theorem dX10_hoops_51 : decode cX10_hoops 51 = .ok (.iload_n 1, 1) := by decide +kernel
theorem dX10_hoops_52 : decode cX10_hoops 52 = .ok (.iaload, 1) := by decide +kernel
theorem dX10_hoops_53 : decode cX10_hoops 53 = .ok (.bipush 50, 2) := by decide +kernel
theorem dX10_hoops_55 : decode cX10_hoops 55 = .ok (.if_icmp .ne 11, 3) := by decide +kernel
theorem dX10_hoops_58 : decode cX10_hoops 58 = .ok (.iload_n 2, 1) := by decide +kernel
theorem dX10_hoops_59 : decode cX10_hoops 59 = .ok (.ifCond .lt 7, 3) := by decide +kernel
theorem dX10_hoops_62 : decode cX10_hoops 62 = .ok (.iconst 1, 1) := by decide +kernel
theorem dX10_hoops_63 : decode cX10_hoops 63 = .ok (.goto 4, 3) := by decide +kernel
theorem dX10_hoops_66 : decode cX10_hoops 66 = .ok (.iconst 0, 1) := by decide +kernel
theorem dX10_hoops_67 : decode cX10_hoops 67 = .ok (.istore 5, 2) := by decide +kernel
theorem dX10_hoops_69 : decode cX10_hoops 69 = .ok (.iload 5, 2) := by decide +kernel
theorem dX10_hoops_71 : decode cX10_hoops 71 = .ok (.ifCond .eq 140, 3) := by decide +kernel
theorem dX10_hoops_74 : decode cX10_hoops 74 = .ok (.iload 4, 2) := by decide +kernel
theorem dX10_hoops_76 : decode cX10_hoops 76 = .ok (.iload_n 3, 1) := by decide +kernel
theorem dX10_hoops_77 : decode cX10_hoops 77 = .ok (.if_icmp .ge 134, 3) := by decide +kernel
theorem dX10_hoops_80 : decode cX10_hoops 80 = .ok (.iload_n 2, 1) := by decide +kernel
theorem dX10_hoops_81 : decode cX10_hoops 81 = .ok (.aload_n 0, 1) := by decide +kernel
theorem dX10_hoops_82 : decode cX10_hoops 82 = .ok (.getfield 78, 3) := by decide +kernel
theorem dX10_hoops_85 : decode cX10_hoops 85 = .ok (.iload_n 1, 1) := by decide +kernel
theorem dX10_hoops_86 : decode cX10_hoops 86 = .ok (.iaload, 1) := by decide +kernel
theorem dX10_hoops_87 : decode cX10_hoops 87 = .ok (.iconst 3, 1) := by decide +kernel
theorem dX10_hoops_88 : decode cX10_hoops 88 = .ok (.isub, 1) := by decide +kernel
theorem dX10_hoops_89 : decode cX10_hoops 89 = .ok (.iconst 3, 1) := by decide +kernel
theorem dX10_hoops_90 : decode cX10_hoops 90 = .ok (.iload 4, 2) := by decide +kernel
theorem dX10_hoops_92 : decode cX10_hoops 92 = .ok (.imul, 1) := by decide +kernel
theorem dX10_hoops_93 : decode cX10_hoops 93 = .ok (.isub, 1) := by decide +kernel
theorem dX10_hoops_94 : decode cX10_hoops 94 = .ok (.if_icmp .gt 15, 3) := by decide +kernel
theorem dX10_hoops_97 : decode cX10_hoops 97 = .ok (.aload_n 0, 1) := by decide +kernel
theorem dX10_hoops_98 : decode cX10_hoops 98 = .ok (.getfield 109, 3) := by decide +kernel
theorem dX10_hoops_101 : decode cX10_hoops 101 = .ok (.iconst 5, 1) := by decide +kernel
theorem dX10_hoops_102 : decode cX10_hoops 102 = .ok (.if_icmp .ge 7, 3) := by decide +kernel
theorem dX10_hoops_105 : decode cX10_hoops 105 = .ok (.iconst 1, 1) := by decide +kernel
theorem dX10_hoops_106 : decode cX10_hoops 106 = .ok (.goto 4, 3) := by decide +kernel
theorem dX10_hoops_109 : decode cX10_hoops 109 = .ok (.iconst 0, 1) := by decide +kernel
theorem dX10_hoops_110 : decode cX10_hoops 110 = .ok (.istore 5, 2) := by decide +kernel
theorem dX10_hoops_112 : decode cX10_hoops 112 = .ok (.bipush 60, 2) := by decide +kernel
theorem dX10_hoops_114 : decode cX10_hoops 114 = .ok (.iload_n 1, 1) := by decide +kernel
theorem dX10_hoops_115 : decode cX10_hoops 115 = .ok (.imul, 1) := by decide +kernel
theorem dX10_hoops_116 : decode cX10_hoops 116 = .ok (.iload_n 2, 1) := by decide +kernel
theorem dX10_hoops_117 : decode cX10_hoops 117 = .ok (.iadd, 1) := by decide +kernel
theorem dX10_hoops_118 : decode cX10_hoops 118 = .ok (.iconst 3, 1) := by decide +kernel
theorem dX10_hoops_119 : decode cX10_hoops 119 = .ok (.iload 4, 2) := by decide +kernel
theorem dX10_hoops_121 : decode cX10_hoops 121 = .ok (.imul, 1) := by decide +kernel
theorem dX10_hoops_122 : decode cX10_hoops 122 = .ok (.iadd, 1) := by decide +kernel
theorem dX10_hoops_123 : decode cX10_hoops 123 = .ok (.istore 6, 2) := by decide +kernel
theorem dX10_hoops_125 : decode cX10_hoops 125 = .ok (.iload 5, 2) := by decide +kernel
theorem dX10_hoops_127 : decode cX10_hoops 127 = .ok (.ifCond .eq 38, 3) := by decide +kernel
theorem dX10_hoops_130 : decode cX10_hoops 130 = .ok (.aload_n 0, 1) := by decide +kernel
theorem dX10_hoops_131 : decode cX10_hoops 131 = .ok (.getfield 81, 3) := by decide +kernel
theorem dX10_hoops_134 : decode cX10_hoops 134 = .ok (.iload 6, 2) := by decide +kernel
theorem dX10_hoops_136 : decode cX10_hoops 136 = .ok (.laload, 1) := by decide +kernel
theorem dX10_hoops_137 : decode cX10_hoops 137 = .ok (.aload_n 0, 1) := by decide +kernel
theorem dX10_hoops_138 : decode cX10_hoops 138 = .ok (.getfield 81, 3) := by decide +kernel
theorem dX10_hoops_141 : decode cX10_hoops 141 = .ok (.iload 6, 2) := by decide +kernel
theorem dX10_hoops_143 : decode cX10_hoops 143 = .ok (.iconst 1, 1) := by decide +kernel
theorem dX10_hoops_144 : decode cX10_hoops 144 = .ok (.iadd, 1) := by decide +kernel
theorem dX10_hoops_145 : decode cX10_hoops 145 = .ok (.laload, 1) := by decide +kernel
theorem dX10_hoops_146 : decode cX10_hoops 146 = .ok (.aload_n 0, 1) := by decide +kernel
theorem dX10_hoops_147 : decode cX10_hoops 147 = .ok (.getfield 81, 3) := by decide +kernel
theorem dX10_hoops_150 : decode cX10_hoops 150 = .ok (.iload 6, 2) := by decide +kernel
theorem dX10_hoops_152 : decode cX10_hoops 152 = .ok (.iconst 2, 1) := by decide +kernel
theorem dX10_hoops_153 : decode cX10_hoops 153 = .ok (.iadd, 1) := by decide +kernel
theorem dX10_hoops_154 : decode cX10_hoops 154 = .ok (.laload, 1) := by decide +kernel
theorem dX10_hoops_155 : decode cX10_hoops 155 = .ok (.invokestatic 118, 3) := by decide +kernel
theorem dX10_hoops_158 : decode cX10_hoops 158 = .ok (.ifCond .eq 7, 3) := by decide +kernel
theorem dX10_hoops_161 : decode cX10_hoops 161 = .ok (.iconst 1, 1) := by decide +kernel
theorem dX10_hoops_162 : decode cX10_hoops 162 = .ok (.goto 4, 3) := by decide +kernel
theorem dX10_hoops_165 : decode cX10_hoops 165 = .ok (.iconst 0, 1) := by decide +kernel
theorem dX10_hoops_166 : decode cX10_hoops 166 = .ok (.istore 5, 2) := by decide +kernel
theorem dX10_hoops_168 : decode cX10_hoops 168 = .ok (.iload 5, 2) := by decide +kernel
theorem dX10_hoops_170 : decode cX10_hoops 170 = .ok (.ifCond .eq 38, 3) := by decide +kernel
theorem dX10_hoops_173 : decode cX10_hoops 173 = .ok (.aload_n 0, 1) := by decide +kernel
theorem dX10_hoops_174 : decode cX10_hoops 174 = .ok (.aload_n 0, 1) := by decide +kernel
theorem dX10_hoops_175 : decode cX10_hoops 175 = .ok (.getfield 81, 3) := by decide +kernel
theorem dX10_hoops_178 : decode cX10_hoops 178 = .ok (.iload 6, 2) := by decide +kernel
theorem dX10_hoops_180 : decode cX10_hoops 180 = .ok (.laload, 1) := by decide +kernel
theorem dX10_hoops_181 : decode cX10_hoops 181 = .ok (.l2i, 1) := by decide +kernel
theorem dX10_hoops_182 : decode cX10_hoops 182 = .ok (.aload_n 0, 1) := by decide +kernel
theorem dX10_hoops_183 : decode cX10_hoops 183 = .ok (.getfield 81, 3) := by decide +kernel
theorem dX10_hoops_186 : decode cX10_hoops 186 = .ok (.iload 6, 2) := by decide +kernel
theorem dX10_hoops_188 : decode cX10_hoops 188 = .ok (.iconst 1, 1) := by decide +kernel
theorem dX10_hoops_189 : decode cX10_hoops 189 = .ok (.iadd, 1) := by decide +kernel
theorem dX10_hoops_190 : decode cX10_hoops 190 = .ok (.laload, 1) := by decide +kernel
theorem dX10_hoops_191 : decode cX10_hoops 191 = .ok (.l2i, 1) := by decide +kernel
theorem dX10_hoops_192 : decode cX10_hoops 192 = .ok (.aload_n 0, 1) := by decide +kernel
theorem dX10_hoops_193 : decode cX10_hoops 193 = .ok (.getfield 81, 3) := by decide +kernel
theorem dX10_hoops_196 : decode cX10_hoops 196 = .ok (.iload 6, 2) := by decide +kernel
theorem dX10_hoops_198 : decode cX10_hoops 198 = .ok (.iconst 2, 1) := by decide +kernel
theorem dX10_hoops_199 : decode cX10_hoops 199 = .ok (.iadd, 1) := by decide +kernel
theorem dX10_hoops_200 : decode cX10_hoops 200 = .ok (.laload, 1) := by decide +kernel
theorem dX10_hoops_201 : decode cX10_hoops 201 = .ok (.l2i, 1) := by decide +kernel
theorem dX10_hoops_202 : decode cX10_hoops 202 = .ok (.invokevirtual 121, 3) := by decide +kernel
theorem dX10_hoops_205 : decode cX10_hoops 205 = .ok (.iinc 4 1, 3) := by decide +kernel
theorem dX10_hoops_208 : decode cX10_hoops 208 = .ok (.goto (-139), 3) := by decide +kernel
theorem dX10_hoops_211 : decode cX10_hoops 211 = .ok (.iload 4, 2) := by decide +kernel
theorem dX10_hoops_213 : decode cX10_hoops 213 = .ok (.ireturn, 1) := by decide +kernel
theorem dX10_mend_0 : decode cX10_mend 0 = .ok (.iload_n 2, 1) := by decide +kernel
theorem dX10_mend_1 : decode cX10_mend 1 = .ok (.i2l, 1) := by decide +kernel
theorem dX10_mend_2 : decode cX10_mend 2 = .ok (.lconst 0, 1) := by decide +kernel
theorem dX10_mend_3 : decode cX10_mend 3 = .ok (.ldc2_w 131, 3) := by decide +kernel
theorem dX10_mend_6 : decode cX10_mend 6 = .ok (.invokestatic 101, 3) := by decide +kernel
theorem dX10_mend_9 : decode cX10_mend 9 = .ok (.ifCond .eq 86, 3) := by decide +kernel
theorem dX10_mend_12 : decode cX10_mend 12 = .ok (.aload_n 0, 1) := by decide +kernel
theorem dX10_mend_13 : decode cX10_mend 13 = .ok (.iload_n 1, 1) := by decide +kernel
theorem dX10_mend_14 : decode cX10_mend 14 = .ok (.invokevirtual 133, 3) := by decide +kernel
theorem dX10_mend_17 : decode cX10_mend 17 = .ok (.ifCond .eq 54, 3) := by decide +kernel
theorem dX10_mend_20 : decode cX10_mend 20 = .ok (.iload_n 2, 1) := by decide +kernel
theorem dX10_mend_21 : decode cX10_mend 21 = .ok (.iconst 2, 1) := by decide +kernel
theorem dX10_mend_22 : decode cX10_mend 22 = .ok (.if_icmp .ge 18, 3) := by decide +kernel
theorem dX10_mend_25 : decode cX10_mend 25 = .ok (.iload_n 3, 1) := by decide +kernel
theorem dX10_mend_26 : decode cX10_mend 26 = .ok (.i2l, 1) := by decide +kernel
theorem dX10_mend_27 : decode cX10_mend 27 = .ok (.lconst 1, 1) := by decide +kernel
theorem dX10_mend_28 : decode cX10_mend 28 = .ok (.ldc2_w 112, 3) := by decide +kernel
theorem dX10_mend_31 : decode cX10_mend 31 = .ok (.invokestatic 101, 3) := by decide +kernel
theorem dX10_mend_34 : decode cX10_mend 34 = .ok (.ifCond .eq 37, 3) := by decide +kernel
theorem dX10_mend_37 : decode cX10_mend 37 = .ok (.goto 30, 3) := by decide +kernel
theorem dX10_mend_40 : decode cX10_mend 40 = .ok (.iload_n 3, 1) := by decide +kernel
theorem dX10_mend_41 : decode cX10_mend 41 = .ok (.i2l, 1) := by decide +kernel
theorem dX10_mend_42 : decode cX10_mend 42 = .ok (.ldc2_w 114, 3) := by decide +kernel
theorem dX10_mend_45 : decode cX10_mend 45 = .ok (.ldc2_w 112, 3) := by decide +kernel
theorem dX10_mend_48 : decode cX10_mend 48 = .ok (.invokestatic 101, 3) := by decide +kernel
theorem dX10_mend_51 : decode cX10_mend 51 = .ok (.ifCond .eq 20, 3) := by decide +kernel
theorem dX10_mend_54 : decode cX10_mend 54 = .ok (.aload_n 0, 1) := by decide +kernel
theorem dX10_mend_55 : decode cX10_mend 55 = .ok (.getfield 25, 3) := by decide +kernel
theorem dX10_mend_58 : decode cX10_mend 58 = .ok (.iload_n 1, 1) := by decide +kernel
theorem dX10_mend_59 : decode cX10_mend 59 = .ok (.iaload, 1) := by decide +kernel
theorem dX10_mend_60 : decode cX10_mend 60 = .ok (.ifCond .gt 7, 3) := by decide +kernel
theorem dX10_mend_63 : decode cX10_mend 63 = .ok (.iload_n 3, 1) := by decide +kernel
theorem dX10_mend_64 : decode cX10_mend 64 = .ok (.ifCond .ne 7, 3) := by decide +kernel
theorem dX10_mend_67 : decode cX10_mend 67 = .ok (.iconst 1, 1) := by decide +kernel
theorem dX10_mend_68 : decode cX10_mend 68 = .ok (.goto 4, 3) := by decide +kernel
theorem dX10_mend_71 : decode cX10_mend 71 = .ok (.iconst 0, 1) := by decide +kernel
theorem dX10_mend_72 : decode cX10_mend 72 = .ok (.istore 4, 2) := by decide +kernel
theorem dX10_mend_74 : decode cX10_mend 74 = .ok (.iload 4, 2) := by decide +kernel
theorem dX10_mend_76 : decode cX10_mend 76 = .ok (.ifCond .eq 16, 3) := by decide +kernel
theorem dX10_mend_79 : decode cX10_mend 79 = .ok (.aload_n 0, 1) := by decide +kernel
theorem dX10_mend_80 : decode cX10_mend 80 = .ok (.iconst 5, 1) := by decide +kernel
theorem dX10_mend_81 : decode cX10_mend 81 = .ok (.iload_n 2, 1) := by decide +kernel
theorem dX10_mend_82 : decode cX10_mend 82 = .ok (.imul, 1) := by decide +kernel
theorem dX10_mend_83 : decode cX10_mend 83 = .ok (.iload_n 1, 1) := by decide +kernel
theorem dX10_mend_84 : decode cX10_mend 84 = .ok (.iadd, 1) := by decide +kernel
theorem dX10_mend_85 : decode cX10_mend 85 = .ok (.iload_n 3, 1) := by decide +kernel
theorem dX10_mend_86 : decode cX10_mend 86 = .ok (.invokevirtual 136, 3) := by decide +kernel
theorem dX10_mend_89 : decode cX10_mend 89 = .ok (.goto 5, 3) := by decide +kernel
theorem dX10_mend_92 : decode cX10_mend 92 = .ok (.ldc 140, 2) := by decide +kernel
theorem dX10_mend_94 : decode cX10_mend 94 = .ok (.ireturn, 1) := by decide +kernel
theorem dX10_mend_95 : decode cX10_mend 95 = .ok (.iload_n 1, 1) := by decide +kernel
theorem dX10_mend_96 : decode cX10_mend 96 = .ok (.ifCond .ne 17, 3) := by decide +kernel
theorem dX10_mend_99 : decode cX10_mend 99 = .ok (.iload_n 2, 1) := by decide +kernel
theorem dX10_mend_100 : decode cX10_mend 100 = .ok (.i2l, 1) := by decide +kernel
theorem dX10_mend_101 : decode cX10_mend 101 = .ok (.ldc2_w 141, 3) := by decide +kernel
theorem dX10_mend_104 : decode cX10_mend 104 = .ok (.ldc2_w 143, 3) := by decide +kernel
theorem dX10_mend_107 : decode cX10_mend 107 = .ok (.invokestatic 101, 3) := by decide +kernel
theorem dX10_mend_110 : decode cX10_mend 110 = .ok (.ifCond .ne 6, 3) := by decide +kernel
theorem dX10_mend_113 : decode cX10_mend 113 = .ok (.ldc 140, 2) := by decide +kernel
theorem dX10_mend_115 : decode cX10_mend 115 = .ok (.ireturn, 1) := by decide +kernel
theorem dX10_mend_116 : decode cX10_mend 116 = .ok (.iload_n 2, 1) := by decide +kernel
theorem dX10_mend_117 : decode cX10_mend 117 = .ok (.iconst 4, 1) := by decide +kernel
theorem dX10_mend_118 : decode cX10_mend 118 = .ok (.if_icmp .ne 7, 3) := by decide +kernel
theorem dX10_mend_121 : decode cX10_mend 121 = .ok (.iconst 2, 1) := by decide +kernel
theorem dX10_mend_122 : decode cX10_mend 122 = .ok (.goto 4, 3) := by decide +kernel
theorem dX10_mend_125 : decode cX10_mend 125 = .ok (.iconst 0, 1) := by decide +kernel
theorem dX10_mend_126 : decode cX10_mend 126 = .ok (.istore 4, 2) := by decide +kernel
theorem dX10_mend_128 : decode cX10_mend 128 = .ok (.iload_n 2, 1) := by decide +kernel
theorem dX10_mend_129 : decode cX10_mend 129 = .ok (.iconst 3, 1) := by decide +kernel
theorem dX10_mend_130 : decode cX10_mend 130 = .ok (.if_icmp .ne 7, 3) := by decide +kernel
theorem dX10_mend_133 : decode cX10_mend 133 = .ok (.iconst 3, 1) := by decide +kernel
theorem dX10_mend_134 : decode cX10_mend 134 = .ok (.goto 42, 3) := by decide +kernel
theorem dX10_mend_137 : decode cX10_mend 137 = .ok (.iload_n 2, 1) := by decide +kernel
theorem dX10_mend_138 : decode cX10_mend 138 = .ok (.iconst 4, 1) := by decide +kernel
theorem dX10_mend_139 : decode cX10_mend 139 = .ok (.if_icmp .ne 8, 3) := by decide +kernel
theorem dX10_mend_142 : decode cX10_mend 142 = .ok (.bipush 24, 2) := by decide +kernel
theorem dX10_mend_144 : decode cX10_mend 144 = .ok (.goto 32, 3) := by decide +kernel
theorem dX10_mend_147 : decode cX10_mend 147 = .ok (.iload_n 2, 1) := by decide +kernel
theorem dX10_mend_148 : decode cX10_mend 148 = .ok (.iconst 5, 1) := by decide +kernel
theorem dX10_mend_149 : decode cX10_mend 149 = .ok (.if_icmp .ne 15, 3) := by decide +kernel
theorem dX10_mend_152 : decode cX10_mend 152 = .ok (.aload_n 0, 1) := by decide +kernel
theorem dX10_mend_153 : decode cX10_mend 153 = .ok (.getfield 9, 3) := by decide +kernel
theorem dX10_mend_156 : decode cX10_mend 156 = .ok (.bipush 16, 2) := by decide +kernel
theorem dX10_mend_158 : decode cX10_mend 158 = .ok (.iaload, 1) := by decide +kernel
theorem dX10_mend_159 : decode cX10_mend 159 = .ok (.iconst 1, 1) := by decide +kernel
theorem dX10_mend_160 : decode cX10_mend 160 = .ok (.isub, 1) := by decide +kernel
theorem dX10_mend_161 : decode cX10_mend 161 = .ok (.goto 15, 3) := by decide +kernel
theorem dX10_mend_164 : decode cX10_mend 164 = .ok (.iload_n 2, 1) := by decide +kernel
theorem dX10_mend_165 : decode cX10_mend 165 = .ok (.bipush 6, 2) := by decide +kernel
theorem dX10_mend_167 : decode cX10_mend 167 = .ok (.if_icmp .ne 7, 3) := by decide +kernel
theorem dX10_mend_170 : decode cX10_mend 170 = .ok (.iconst 5, 1) := by decide +kernel
theorem dX10_mend_171 : decode cX10_mend 171 = .ok (.goto 5, 3) := by decide +kernel
theorem dX10_mend_174 : decode cX10_mend 174 = .ok (.bipush 12, 2) := by decide +kernel
theorem dX10_mend_176 : decode cX10_mend 176 = .ok (.istore 5, 2) := by decide +kernel
theorem dX10_mend_178 : decode cX10_mend 178 = .ok (.iload_n 3, 1) := by decide +kernel
theorem dX10_mend_179 : decode cX10_mend 179 = .ok (.i2l, 1) := by decide +kernel
theorem dX10_mend_180 : decode cX10_mend 180 = .ok (.iload 4, 2) := by decide +kernel
theorem dX10_mend_182 : decode cX10_mend 182 = .ok (.i2l, 1) := by decide +kernel
theorem dX10_mend_183 : decode cX10_mend 183 = .ok (.iload 5, 2) := by decide +kernel
theorem dX10_mend_185 : decode cX10_mend 185 = .ok (.i2l, 1) := by decide +kernel
theorem dX10_mend_186 : decode cX10_mend 186 = .ok (.invokestatic 101, 3) := by decide +kernel
theorem dX10_mend_189 : decode cX10_mend 189 = .ok (.ifCond .eq 17, 3) := by decide +kernel
theorem dX10_mend_192 : decode cX10_mend 192 = .ok (.aload_n 0, 1) := by decide +kernel
theorem dX10_mend_193 : decode cX10_mend 193 = .ok (.bipush 15, 2) := by decide +kernel
theorem dX10_mend_195 : decode cX10_mend 195 = .ok (.iload_n 2, 1) := by decide +kernel
theorem dX10_mend_196 : decode cX10_mend 196 = .ok (.iadd, 1) := by decide +kernel
theorem dX10_mend_197 : decode cX10_mend 197 = .ok (.iconst 3, 1) := by decide +kernel
theorem dX10_mend_198 : decode cX10_mend 198 = .ok (.isub, 1) := by decide +kernel
theorem dX10_mend_199 : decode cX10_mend 199 = .ok (.iload_n 3, 1) := by decide +kernel
theorem dX10_mend_200 : decode cX10_mend 200 = .ok (.invokevirtual 136, 3) := by decide +kernel
theorem dX10_mend_203 : decode cX10_mend 203 = .ok (.goto 5, 3) := by decide +kernel
theorem dX10_mend_206 : decode cX10_mend 206 = .ok (.ldc 140, 2) := by decide +kernel
theorem dX10_mend_208 : decode cX10_mend 208 = .ok (.ireturn, 1) := by decide +kernel
theorem dX10_needOf_0 : decode cX10_needOf 0 = .ok (.bipush 10, 2) := by decide +kernel
theorem dX10_needOf_2 : decode cX10_needOf 2 = .ok (.aload_n 0, 1) := by decide +kernel
theorem dX10_needOf_3 : decode cX10_needOf 3 = .ok (.getfield 9, 3) := by decide +kernel
theorem dX10_needOf_6 : decode cX10_needOf 6 = .ok (.iload_n 1, 1) := by decide +kernel
theorem dX10_needOf_7 : decode cX10_needOf 7 = .ok (.iaload, 1) := by decide +kernel
theorem dX10_needOf_8 : decode cX10_needOf 8 = .ok (.isub, 1) := by decide +kernel
theorem dX10_needOf_9 : decode cX10_needOf 9 = .ok (.iconst 2, 1) := by decide +kernel
theorem dX10_needOf_10 : decode cX10_needOf 10 = .ok (.idiv, 1) := by decide +kernel
theorem dX10_needOf_11 : decode cX10_needOf 11 = .ok (.iconst 1, 1) := by decide +kernel
theorem dX10_needOf_12 : decode cX10_needOf 12 = .ok (.iadd, 1) := by decide +kernel
theorem dX10_needOf_13 : decode cX10_needOf 13 = .ok (.ireturn, 1) := by decide +kernel
theorem dX10_of_0 : decode cX10_of 0 = .ok (.iload_n 2, 1) := by decide +kernel
theorem dX10_of_1 : decode cX10_of 1 = .ok (.i2l, 1) := by decide +kernel
theorem dX10_of_2 : decode cX10_of 2 = .ok (.lconst 0, 1) := by decide +kernel
theorem dX10_of_3 : decode cX10_of 3 = .ok (.ldc2_w 129, 3) := by decide +kernel
theorem dX10_of_6 : decode cX10_of 6 = .ok (.invokestatic 101, 3) := by decide +kernel
theorem dX10_of_9 : decode cX10_of 9 = .ok (.ifCond .eq 66, 3) := by decide +kernel
theorem dX10_of_12 : decode cX10_of 12 = .ok (.aload_n 0, 1) := by decide +kernel
theorem dX10_of_13 : decode cX10_of 13 = .ok (.iload_n 1, 1) := by decide +kernel
theorem dX10_of_14 : decode cX10_of 14 = .ok (.invokevirtual 133, 3) := by decide +kernel
theorem dX10_of_17 : decode cX10_of 17 = .ok (.ifCond .ne 6, 3) := by decide +kernel
theorem dX10_of_20 : decode cX10_of 20 = .ok (.ldc 140, 2) := by decide +kernel
theorem dX10_of_22 : decode cX10_of 22 = .ok (.ireturn, 1) := by decide +kernel
theorem dX10_of_23 : decode cX10_of 23 = .ok (.iload_n 2, 1) := by decide +kernel
theorem dX10_of_24 : decode cX10_of 24 = .ok (.iconst 3, 1) := by decide +kernel
theorem dX10_of_25 : decode cX10_of 25 = .ok (.if_icmp .ge 16, 3) := by decide +kernel
theorem dX10_of_28 : decode cX10_of 28 = .ok (.aload_n 0, 1) := by decide +kernel
theorem dX10_of_29 : decode cX10_of 29 = .ok (.getfield 9, 3) := by decide +kernel
theorem dX10_of_32 : decode cX10_of 32 = .ok (.iconst 5, 1) := by decide +kernel
theorem dX10_of_33 : decode cX10_of 33 = .ok (.iload_n 2, 1) := by decide +kernel
theorem dX10_of_34 : decode cX10_of 34 = .ok (.imul, 1) := by decide +kernel
theorem dX10_of_35 : decode cX10_of 35 = .ok (.iload_n 1, 1) := by decide +kernel
theorem dX10_of_36 : decode cX10_of 36 = .ok (.iadd, 1) := by decide +kernel
theorem dX10_of_37 : decode cX10_of 37 = .ok (.iaload, 1) := by decide +kernel
theorem dX10_of_38 : decode cX10_of 38 = .ok (.goto 36, 3) := by decide +kernel
theorem dX10_of_41 : decode cX10_of 41 = .ok (.iload_n 2, 1) := by decide +kernel
theorem dX10_of_42 : decode cX10_of 42 = .ok (.iconst 3, 1) := by decide +kernel
theorem dX10_of_43 : decode cX10_of 43 = .ok (.if_icmp .ne 12, 3) := by decide +kernel
theorem dX10_of_46 : decode cX10_of 46 = .ok (.aload_n 0, 1) := by decide +kernel
theorem dX10_of_47 : decode cX10_of 47 = .ok (.getfield 22, 3) := by decide +kernel
theorem dX10_of_50 : decode cX10_of 50 = .ok (.iload_n 1, 1) := by decide +kernel
theorem dX10_of_51 : decode cX10_of 51 = .ok (.iaload, 1) := by decide +kernel
theorem dX10_of_52 : decode cX10_of 52 = .ok (.goto 22, 3) := by decide +kernel
theorem dX10_of_55 : decode cX10_of 55 = .ok (.iload_n 2, 1) := by decide +kernel
theorem dX10_of_56 : decode cX10_of 56 = .ok (.iconst 4, 1) := by decide +kernel
theorem dX10_of_57 : decode cX10_of 57 = .ok (.if_icmp .ne 12, 3) := by decide +kernel
theorem dX10_of_60 : decode cX10_of 60 = .ok (.aload_n 0, 1) := by decide +kernel
theorem dX10_of_61 : decode cX10_of 61 = .ok (.getfield 25, 3) := by decide +kernel
theorem dX10_of_64 : decode cX10_of 64 = .ok (.iload_n 1, 1) := by decide +kernel
theorem dX10_of_65 : decode cX10_of 65 = .ok (.iaload, 1) := by decide +kernel
theorem dX10_of_66 : decode cX10_of 66 = .ok (.goto 8, 3) := by decide +kernel
theorem dX10_of_69 : decode cX10_of 69 = .ok (.aload_n 0, 1) := by decide +kernel
theorem dX10_of_70 : decode cX10_of 70 = .ok (.iload_n 1, 1) := by decide +kernel
theorem dX10_of_71 : decode cX10_of 71 = .ok (.invokevirtual 145, 3) := by decide +kernel
theorem dX10_of_74 : decode cX10_of 74 = .ok (.ireturn, 1) := by decide +kernel
theorem dX10_of_75 : decode cX10_of 75 = .ok (.iload_n 2, 1) := by decide +kernel
theorem dX10_of_76 : decode cX10_of 76 = .ok (.i2l, 1) := by decide +kernel
theorem dX10_of_77 : decode cX10_of 77 = .ok (.ldc2_w 97, 3) := by decide +kernel
theorem dX10_of_80 : decode cX10_of 80 = .ok (.ldc2_w 149, 3) := by decide +kernel
theorem dX10_of_83 : decode cX10_of 83 = .ok (.invokestatic 101, 3) := by decide +kernel
theorem dX10_of_86 : decode cX10_of 86 = .ok (.ifCond .eq 38, 3) := by decide +kernel
theorem dX10_of_89 : decode cX10_of 89 = .ok (.iload_n 1, 1) := by decide +kernel
theorem dX10_of_90 : decode cX10_of 90 = .ok (.ifCond .eq 8, 3) := by decide +kernel
theorem dX10_of_93 : decode cX10_of 93 = .ok (.ldc 140, 2) := by decide +kernel
theorem dX10_of_95 : decode cX10_of 95 = .ok (.goto 28, 3) := by decide +kernel
theorem dX10_of_98 : decode cX10_of 98 = .ok (.iload_n 2, 1) := by decide +kernel
theorem dX10_of_99 : decode cX10_of 99 = .ok (.bipush 15, 2) := by decide +kernel
theorem dX10_of_101 : decode cX10_of 101 = .ok (.if_icmp .ne 10, 3) := by decide +kernel
theorem dX10_of_104 : decode cX10_of 104 = .ok (.aload_n 0, 1) := by decide +kernel
theorem dX10_of_105 : decode cX10_of 105 = .ok (.getfield 151, 3) := by decide +kernel
theorem dX10_of_108 : decode cX10_of 108 = .ok (.goto 15, 3) := by decide +kernel
theorem dX10_of_111 : decode cX10_of 111 = .ok (.aload_n 0, 1) := by decide +kernel
theorem dX10_of_112 : decode cX10_of 112 = .ok (.getfield 9, 3) := by decide +kernel
theorem dX10_of_115 : decode cX10_of 115 = .ok (.bipush 15, 2) := by decide +kernel
theorem dX10_of_117 : decode cX10_of 117 = .ok (.iload_n 2, 1) := by decide +kernel
theorem dX10_of_118 : decode cX10_of 118 = .ok (.iadd, 1) := by decide +kernel
theorem dX10_of_119 : decode cX10_of 119 = .ok (.bipush 10, 2) := by decide +kernel
theorem dX10_of_121 : decode cX10_of 121 = .ok (.isub, 1) := by decide +kernel
theorem dX10_of_122 : decode cX10_of 122 = .ok (.iaload, 1) := by decide +kernel
theorem dX10_of_123 : decode cX10_of 123 = .ok (.ireturn, 1) := by decide +kernel
theorem dX10_of_124 : decode cX10_of 124 = .ok (.iload_n 2, 1) := by decide +kernel
theorem dX10_of_125 : decode cX10_of 125 = .ok (.i2l, 1) := by decide +kernel
theorem dX10_of_126 : decode cX10_of 126 = .ok (.ldc2_w 154, 3) := by decide +kernel
theorem dX10_of_129 : decode cX10_of 129 = .ok (.ldc2_w 156, 3) := by decide +kernel
theorem dX10_of_132 : decode cX10_of 132 = .ok (.invokestatic 101, 3) := by decide +kernel
theorem dX10_of_135 : decode cX10_of 135 = .ok (.ifCond .eq 15, 3) := by decide +kernel
theorem dX10_of_138 : decode cX10_of 138 = .ok (.iload_n 1, 1) := by decide +kernel
theorem dX10_of_139 : decode cX10_of 139 = .ok (.i2l, 1) := by decide +kernel
theorem dX10_of_140 : decode cX10_of 140 = .ok (.lconst 0, 1) := by decide +kernel
theorem dX10_of_141 : decode cX10_of 141 = .ok (.ldc2_w 158, 3) := by decide +kernel
theorem dX10_of_144 : decode cX10_of 144 = .ok (.invokestatic 101, 3) := by decide +kernel
theorem dX10_of_147 : decode cX10_of 147 = .ok (.ifCond .ne 8, 3) := by decide +kernel
theorem dX10_of_150 : decode cX10_of 150 = .ok (.ldc 140, 2) := by decide +kernel
theorem dX10_of_152 : decode cX10_of 152 = .ok (.goto 24, 3) := by decide +kernel
theorem dX10_of_155 : decode cX10_of 155 = .ok (.iload_n 2, 1) := by decide +kernel
theorem dX10_of_156 : decode cX10_of 156 = .ok (.bipush 20, 2) := by decide +kernel
theorem dX10_of_158 : decode cX10_of 158 = .ok (.if_icmp .ne 12, 3) := by decide +kernel
theorem dX10_of_161 : decode cX10_of 161 = .ok (.aload_n 0, 1) := by decide +kernel
theorem dX10_of_162 : decode cX10_of 162 = .ok (.getfield 50, 3) := by decide +kernel
theorem dX10_of_165 : decode cX10_of 165 = .ok (.iload_n 1, 1) := by decide +kernel
theorem dX10_of_166 : decode cX10_of 166 = .ok (.iaload, 1) := by decide +kernel
theorem dX10_of_167 : decode cX10_of 167 = .ok (.goto 9, 3) := by decide +kernel
theorem dX10_of_170 : decode cX10_of 170 = .ok (.aload_n 0, 1) := by decide +kernel
theorem dX10_of_171 : decode cX10_of 171 = .ok (.getfield 53, 3) := by decide +kernel
theorem dX10_of_174 : decode cX10_of 174 = .ok (.iload_n 1, 1) := by decide +kernel
theorem dX10_of_175 : decode cX10_of 175 = .ok (.iaload, 1) := by decide +kernel
theorem dX10_of_176 : decode cX10_of 176 = .ok (.ireturn, 1) := by decide +kernel
theorem dX10_feed_0 : decode cX10_feed 0 = .ok (.iload_n 1, 1) := by decide +kernel
theorem dX10_feed_1 : decode cX10_feed 1 = .ok (.i2l, 1) := by decide +kernel
theorem dX10_feed_2 : decode cX10_feed 2 = .ok (.lconst 0, 1) := by decide +kernel
theorem dX10_feed_3 : decode cX10_feed 3 = .ok (.ldc2_w 160, 3) := by decide +kernel
theorem dX10_feed_6 : decode cX10_feed 6 = .ok (.invokestatic 101, 3) := by decide +kernel
theorem dX10_feed_9 : decode cX10_feed 9 = .ok (.ifCond .ne 5, 3) := by decide +kernel
theorem dX10_feed_12 : decode cX10_feed 12 = .ok (.iconst (-1), 1) := by decide +kernel
theorem dX10_feed_13 : decode cX10_feed 13 = .ok (.ireturn, 1) := by decide +kernel
theorem dX10_feed_14 : decode cX10_feed 14 = .ok (.aload_n 0, 1) := by decide +kernel
theorem dX10_feed_15 : decode cX10_feed 15 = .ok (.getfield 162, 3) := by decide +kernel
theorem dX10_feed_18 : decode cX10_feed 18 = .ok (.bipush 120, 2) := by decide +kernel
theorem dX10_feed_20 : decode cX10_feed 20 = .ok (.if_icmp .ne 6, 3) := by decide +kernel
theorem dX10_feed_23 : decode cX10_feed 23 = .ok (.bipush (-3), 2) := by decide +kernel
theorem dX10_feed_25 : decode cX10_feed 25 = .ok (.ireturn, 1) := by decide +kernel
theorem dX10_feed_26 : decode cX10_feed 26 = .ok (.aload_n 0, 1) := by decide +kernel
theorem dX10_feed_27 : decode cX10_feed 27 = .ok (.getfield 28, 3) := by decide +kernel
theorem dX10_feed_30 : decode cX10_feed 30 = .ok (.aload_n 0, 1) := by decide +kernel
theorem dX10_feed_31 : decode cX10_feed 31 = .ok (.getfield 162, 3) := by decide +kernel
theorem dX10_feed_34 : decode cX10_feed 34 = .ok (.iload_n 1, 1) := by decide +kernel
theorem dX10_feed_35 : decode cX10_feed 35 = .ok (.iastore, 1) := by decide +kernel
theorem dX10_feed_36 : decode cX10_feed 36 = .ok (.aload_n 0, 1) := by decide +kernel
theorem dX10_feed_37 : decode cX10_feed 37 = .ok (.dup, 1) := by decide +kernel
theorem dX10_feed_38 : decode cX10_feed 38 = .ok (.getfield 162, 3) := by decide +kernel
theorem dX10_feed_41 : decode cX10_feed 41 = .ok (.iconst 1, 1) := by decide +kernel
theorem dX10_feed_42 : decode cX10_feed 42 = .ok (.iadd, 1) := by decide +kernel
theorem dX10_feed_43 : decode cX10_feed 43 = .ok (.putfield 162, 3) := by decide +kernel
theorem dX10_feed_46 : decode cX10_feed 46 = .ok (.aload_n 0, 1) := by decide +kernel
theorem dX10_feed_47 : decode cX10_feed 47 = .ok (.getfield 162, 3) := by decide +kernel
theorem dX10_feed_50 : decode cX10_feed 50 = .ok (.ireturn, 1) := by decide +kernel
theorem dX10_byteAt_0 : decode cX10_byteAt 0 = .ok (.aload_n 0, 1) := by decide +kernel
theorem dX10_byteAt_1 : decode cX10_byteAt 1 = .ok (.getfield 165, 3) := by decide +kernel
theorem dX10_byteAt_4 : decode cX10_byteAt 4 = .ok (.aload_n 0, 1) := by decide +kernel
theorem dX10_byteAt_5 : decode cX10_byteAt 5 = .ok (.getfield 168, 3) := by decide +kernel
theorem dX10_byteAt_8 : decode cX10_byteAt 8 = .ok (.if_icmp .ge 39, 3) := by decide +kernel
theorem dX10_byteAt_11 : decode cX10_byteAt 11 = .ok (.aload_n 0, 1) := by decide +kernel
theorem dX10_byteAt_12 : decode cX10_byteAt 12 = .ok (.getfield 171, 3) := by decide +kernel
theorem dX10_byteAt_15 : decode cX10_byteAt 15 = .ok (.ifCond .ge 15, 3) := by decide +kernel
theorem dX10_byteAt_18 : decode cX10_byteAt 18 = .ok (.aload_n 0, 1) := by decide +kernel
theorem dX10_byteAt_19 : decode cX10_byteAt 19 = .ok (.getfield 28, 3) := by decide +kernel
theorem dX10_byteAt_22 : decode cX10_byteAt 22 = .ok (.aload_n 0, 1) := by decide +kernel
theorem dX10_byteAt_23 : decode cX10_byteAt 23 = .ok (.getfield 165, 3) := by decide +kernel
theorem dX10_byteAt_26 : decode cX10_byteAt 26 = .ok (.iaload, 1) := by decide +kernel
theorem dX10_byteAt_27 : decode cX10_byteAt 27 = .ok (.goto 21, 3) := by decide +kernel
theorem dX10_byteAt_30 : decode cX10_byteAt 30 = .ok (.aload_n 0, 1) := by decide +kernel
theorem dX10_byteAt_31 : decode cX10_byteAt 31 = .ok (.getfield 31, 3) := by decide +kernel
theorem dX10_byteAt_34 : decode cX10_byteAt 34 = .ok (.aload_n 0, 1) := by decide +kernel
theorem dX10_byteAt_35 : decode cX10_byteAt 35 = .ok (.getfield 171, 3) := by decide +kernel
theorem dX10_byteAt_38 : decode cX10_byteAt 38 = .ok (.aload_n 0, 1) := by decide +kernel
theorem dX10_byteAt_39 : decode cX10_byteAt 39 = .ok (.getfield 165, 3) := by decide +kernel
theorem dX10_byteAt_42 : decode cX10_byteAt 42 = .ok (.iadd, 1) := by decide +kernel
theorem dX10_byteAt_43 : decode cX10_byteAt 43 = .ok (.iaload, 1) := by decide +kernel
theorem dX10_byteAt_44 : decode cX10_byteAt 44 = .ok (.goto 4, 3) := by decide +kernel
theorem dX10_byteAt_47 : decode cX10_byteAt 47 = .ok (.iconst 0, 1) := by decide +kernel
theorem dX10_byteAt_48 : decode cX10_byteAt 48 = .ok (.ireturn, 1) := by decide +kernel
theorem dX10_wrong_0 : decode cX10_wrong 0 = .ok (.aload_n 0, 1) := by decide +kernel
theorem dX10_wrong_1 : decode cX10_wrong 1 = .ok (.aload_n 0, 1) := by decide +kernel
theorem dX10_wrong_2 : decode cX10_wrong 2 = .ok (.getfield 174, 3) := by decide +kernel
theorem dX10_wrong_5 : decode cX10_wrong 5 = .ok (.ifCond .ge 10, 3) := by decide +kernel
theorem dX10_wrong_8 : decode cX10_wrong 8 = .ok (.aload_n 0, 1) := by decide +kernel
theorem dX10_wrong_9 : decode cX10_wrong 9 = .ok (.getfield 165, 3) := by decide +kernel
theorem dX10_wrong_12 : decode cX10_wrong 12 = .ok (.goto 7, 3) := by decide +kernel
theorem dX10_wrong_15 : decode cX10_wrong 15 = .ok (.aload_n 0, 1) := by decide +kernel
theorem dX10_wrong_16 : decode cX10_wrong 16 = .ok (.getfield 174, 3) := by decide +kernel
theorem dX10_wrong_19 : decode cX10_wrong 19 = .ok (.putfield 174, 3) := by decide +kernel
theorem dX10_wrong_22 : decode cX10_wrong 22 = .ok (.iconst 0, 1) := by decide +kernel
theorem dX10_wrong_23 : decode cX10_wrong 23 = .ok (.ireturn, 1) := by decide +kernel
theorem dX10_takes_0 : decode cX10_takes 0 = .ok (.aload_n 0, 1) := by decide +kernel
theorem dX10_takes_1 : decode cX10_takes 1 = .ok (.getfield 174, 3) := by decide +kernel
theorem dX10_takes_4 : decode cX10_takes 4 = .ok (.ifCond .ge 11, 3) := by decide +kernel
theorem dX10_takes_7 : decode cX10_takes 7 = .ok (.aload_n 0, 1) := by decide +kernel
theorem dX10_takes_8 : decode cX10_takes 8 = .ok (.invokevirtual 177, 3) := by decide +kernel
theorem dX10_takes_11 : decode cX10_takes 11 = .ok (.iload_n 1, 1) := by decide +kernel
theorem dX10_takes_12 : decode cX10_takes 12 = .ok (.if_icmp .eq 5, 3) := by decide +kernel
theorem dX10_takes_15 : decode cX10_takes 15 = .ok (.iconst 0, 1) := by decide +kernel
theorem dX10_takes_16 : decode cX10_takes 16 = .ok (.ireturn, 1) := by decide +kernel
theorem dX10_takes_17 : decode cX10_takes 17 = .ok (.aload_n 0, 1) := by decide +kernel
theorem dX10_takes_18 : decode cX10_takes 18 = .ok (.dup, 1) := by decide +kernel
theorem dX10_takes_19 : decode cX10_takes 19 = .ok (.getfield 165, 3) := by decide +kernel
theorem dX10_takes_22 : decode cX10_takes 22 = .ok (.iconst 1, 1) := by decide +kernel
theorem dX10_takes_23 : decode cX10_takes 23 = .ok (.iadd, 1) := by decide +kernel
theorem dX10_takes_24 : decode cX10_takes 24 = .ok (.putfield 165, 3) := by decide +kernel
theorem dX10_takes_27 : decode cX10_takes 27 = .ok (.iconst 1, 1) := by decide +kernel
theorem dX10_takes_28 : decode cX10_takes 28 = .ok (.ireturn, 1) := by decide +kernel
theorem dX10_either_0 : decode cX10_either 0 = .ok (.aload_n 0, 1) := by decide +kernel
theorem dX10_either_1 : decode cX10_either 1 = .ok (.invokevirtual 181, 3) := by decide +kernel
theorem dX10_either_4 : decode cX10_either 4 = .ok (.istore_n 1, 1) := by decide +kernel
theorem dX10_either_5 : decode cX10_either 5 = .ok (.aload_n 0, 1) := by decide +kernel
theorem dX10_either_6 : decode cX10_either 6 = .ok (.bipush 124, 2) := by decide +kernel
theorem dX10_either_8 : decode cX10_either 8 = .ok (.invokevirtual 184, 3) := by decide +kernel
theorem dX10_either_11 : decode cX10_either 11 = .ok (.ifCond .eq 25, 3) := by decide +kernel
theorem dX10_either_14 : decode cX10_either 14 = .ok (.aload_n 0, 1) := by decide +kernel
theorem dX10_either_15 : decode cX10_either 15 = .ok (.invokevirtual 181, 3) := by decide +kernel
theorem dX10_either_18 : decode cX10_either 18 = .ok (.istore_n 2, 1) := by decide +kernel
theorem dX10_either_19 : decode cX10_either 19 = .ok (.iload_n 1, 1) := by decide +kernel
theorem dX10_either_20 : decode cX10_either 20 = .ok (.ifCond .ne 7, 3) := by decide +kernel
theorem dX10_either_23 : decode cX10_either 23 = .ok (.iload_n 2, 1) := by decide +kernel
theorem dX10_either_24 : decode cX10_either 24 = .ok (.ifCond .eq 7, 3) := by decide +kernel
theorem dX10_either_27 : decode cX10_either 27 = .ok (.iconst 1, 1) := by decide +kernel
theorem dX10_either_28 : decode cX10_either 28 = .ok (.goto 4, 3) := by decide +kernel
theorem dX10_either_31 : decode cX10_either 31 = .ok (.iconst 0, 1) := by decide +kernel
theorem dX10_either_32 : decode cX10_either 32 = .ok (.istore_n 1, 1) := by decide +kernel
theorem dX10_either_33 : decode cX10_either 33 = .ok (.goto (-28), 3) := by decide +kernel
theorem dX10_either_36 : decode cX10_either 36 = .ok (.iload_n 1, 1) := by decide +kernel
theorem dX10_either_37 : decode cX10_either 37 = .ok (.ireturn, 1) := by decide +kernel
theorem dX10_both_0 : decode cX10_both 0 = .ok (.aload_n 0, 1) := by decide +kernel
theorem dX10_both_1 : decode cX10_both 1 = .ok (.invokevirtual 187, 3) := by decide +kernel
theorem dX10_both_4 : decode cX10_both 4 = .ok (.istore_n 1, 1) := by decide +kernel
theorem dX10_both_5 : decode cX10_both 5 = .ok (.aload_n 0, 1) := by decide +kernel
theorem dX10_both_6 : decode cX10_both 6 = .ok (.bipush 38, 2) := by decide +kernel
theorem dX10_both_8 : decode cX10_both 8 = .ok (.invokevirtual 184, 3) := by decide +kernel
theorem dX10_both_11 : decode cX10_both 11 = .ok (.ifCond .eq 25, 3) := by decide +kernel
theorem dX10_both_14 : decode cX10_both 14 = .ok (.aload_n 0, 1) := by decide +kernel
theorem dX10_both_15 : decode cX10_both 15 = .ok (.invokevirtual 187, 3) := by decide +kernel
theorem dX10_both_18 : decode cX10_both 18 = .ok (.istore_n 2, 1) := by decide +kernel
theorem dX10_both_19 : decode cX10_both 19 = .ok (.iload_n 1, 1) := by decide +kernel
theorem dX10_both_20 : decode cX10_both 20 = .ok (.ifCond .eq 11, 3) := by decide +kernel
theorem dX10_both_23 : decode cX10_both 23 = .ok (.iload_n 2, 1) := by decide +kernel
theorem dX10_both_24 : decode cX10_both 24 = .ok (.ifCond .eq 7, 3) := by decide +kernel
theorem dX10_both_27 : decode cX10_both 27 = .ok (.iconst 1, 1) := by decide +kernel
theorem dX10_both_28 : decode cX10_both 28 = .ok (.goto 4, 3) := by decide +kernel
theorem dX10_both_31 : decode cX10_both 31 = .ok (.iconst 0, 1) := by decide +kernel
theorem dX10_both_32 : decode cX10_both 32 = .ok (.istore_n 1, 1) := by decide +kernel
theorem dX10_both_33 : decode cX10_both 33 = .ok (.goto (-28), 3) := by decide +kernel
theorem dX10_both_36 : decode cX10_both 36 = .ok (.iload_n 1, 1) := by decide +kernel
theorem dX10_both_37 : decode cX10_both 37 = .ok (.ireturn, 1) := by decide +kernel
theorem dX10_compared_0 : decode cX10_compared 0 = .ok (.aload_n 0, 1) := by decide +kernel
theorem dX10_compared_1 : decode cX10_compared 1 = .ok (.invokevirtual 190, 3) := by decide +kernel
theorem dX10_compared_4 : decode cX10_compared 4 = .ok (.istore_n 1, 1) := by decide +kernel
theorem dX10_compared_5 : decode cX10_compared 5 = .ok (.aload_n 0, 1) := by decide +kernel
theorem dX10_compared_6 : decode cX10_compared 6 = .ok (.invokevirtual 177, 3) := by decide +kernel
theorem dX10_compared_9 : decode cX10_compared 9 = .ok (.istore_n 2, 1) := by decide +kernel
theorem dX10_compared_10 : decode cX10_compared 10 = .ok (.aload_n 0, 1) := by decide +kernel
theorem dX10_compared_11 : decode cX10_compared 11 = .ok (.getfield 174, 3) := by decide +kernel
theorem dX10_compared_14 : decode cX10_compared 14 = .ok (.ifCond .ge 21, 3) := by decide +kernel
theorem dX10_compared_17 : decode cX10_compared 17 = .ok (.iload_n 2, 1) := by decide +kernel
theorem dX10_compared_18 : decode cX10_compared 18 = .ok (.bipush 60, 2) := by decide +kernel
theorem dX10_compared_20 : decode cX10_compared 20 = .ok (.if_icmp .eq 17, 3) := by decide +kernel
theorem dX10_compared_23 : decode cX10_compared 23 = .ok (.iload_n 2, 1) := by decide +kernel
theorem dX10_compared_24 : decode cX10_compared 24 = .ok (.bipush 61, 2) := by decide +kernel
theorem dX10_compared_26 : decode cX10_compared 26 = .ok (.if_icmp .eq 11, 3) := by decide +kernel
theorem dX10_compared_29 : decode cX10_compared 29 = .ok (.iload_n 2, 1) := by decide +kernel
theorem dX10_compared_30 : decode cX10_compared 30 = .ok (.bipush 62, 2) := by decide +kernel
theorem dX10_compared_32 : decode cX10_compared 32 = .ok (.if_icmp .eq 5, 3) := by decide +kernel
theorem dX10_compared_35 : decode cX10_compared 35 = .ok (.iload_n 1, 1) := by decide +kernel
theorem dX10_compared_36 : decode cX10_compared 36 = .ok (.ireturn, 1) := by decide +kernel
theorem dX10_compared_37 : decode cX10_compared 37 = .ok (.aload_n 0, 1) := by decide +kernel
theorem dX10_compared_38 : decode cX10_compared 38 = .ok (.dup, 1) := by decide +kernel
theorem dX10_compared_39 : decode cX10_compared 39 = .ok (.getfield 165, 3) := by decide +kernel
theorem dX10_compared_42 : decode cX10_compared 42 = .ok (.iconst 1, 1) := by decide +kernel
theorem dX10_compared_43 : decode cX10_compared 43 = .ok (.iadd, 1) := by decide +kernel
theorem dX10_compared_44 : decode cX10_compared 44 = .ok (.putfield 165, 3) := by decide +kernel
theorem dX10_compared_47 : decode cX10_compared 47 = .ok (.aload_n 0, 1) := by decide +kernel
theorem dX10_compared_48 : decode cX10_compared 48 = .ok (.invokevirtual 190, 3) := by decide +kernel
theorem dX10_compared_51 : decode cX10_compared 51 = .ok (.istore_n 3, 1) := by decide +kernel
theorem dX10_compared_52 : decode cX10_compared 52 = .ok (.iload_n 2, 1) := by decide +kernel
theorem dX10_compared_53 : decode cX10_compared 53 = .ok (.bipush 60, 2) := by decide +kernel
theorem dX10_compared_55 : decode cX10_compared 55 = .ok (.if_icmp .ne 11, 3) := by decide +kernel
theorem dX10_compared_58 : decode cX10_compared 58 = .ok (.iload_n 1, 1) := by decide +kernel
theorem dX10_compared_59 : decode cX10_compared 59 = .ok (.iload_n 3, 1) := by decide +kernel
theorem dX10_compared_60 : decode cX10_compared 60 = .ok (.if_icmp .ge 29, 3) := by decide +kernel
theorem dX10_compared_63 : decode cX10_compared 63 = .ok (.goto 22, 3) := by decide +kernel
theorem dX10_compared_66 : decode cX10_compared 66 = .ok (.iload_n 2, 1) := by decide +kernel
theorem dX10_compared_67 : decode cX10_compared 67 = .ok (.bipush 61, 2) := by decide +kernel
theorem dX10_compared_69 : decode cX10_compared 69 = .ok (.if_icmp .ne 11, 3) := by decide +kernel
theorem dX10_compared_72 : decode cX10_compared 72 = .ok (.iload_n 1, 1) := by decide +kernel
theorem dX10_compared_73 : decode cX10_compared 73 = .ok (.iload_n 3, 1) := by decide +kernel
theorem dX10_compared_74 : decode cX10_compared 74 = .ok (.if_icmp .ne 15, 3) := by decide +kernel
theorem dX10_compared_77 : decode cX10_compared 77 = .ok (.goto 8, 3) := by decide +kernel
theorem dX10_compared_80 : decode cX10_compared 80 = .ok (.iload_n 1, 1) := by decide +kernel
theorem dX10_compared_81 : decode cX10_compared 81 = .ok (.iload_n 3, 1) := by decide +kernel
theorem dX10_compared_82 : decode cX10_compared 82 = .ok (.if_icmp .le 7, 3) := by decide +kernel
theorem dX10_compared_85 : decode cX10_compared 85 = .ok (.iconst 1, 1) := by decide +kernel
theorem dX10_compared_86 : decode cX10_compared 86 = .ok (.goto 4, 3) := by decide +kernel
theorem dX10_compared_89 : decode cX10_compared 89 = .ok (.iconst 0, 1) := by decide +kernel
theorem dX10_compared_90 : decode cX10_compared 90 = .ok (.ireturn, 1) := by decide +kernel
theorem dX10_sums_0 : decode cX10_sums 0 = .ok (.aload_n 0, 1) := by decide +kernel
theorem dX10_sums_1 : decode cX10_sums 1 = .ok (.invokevirtual 193, 3) := by decide +kernel
theorem dX10_sums_4 : decode cX10_sums 4 = .ok (.istore_n 1, 1) := by decide +kernel
theorem dX10_sums_5 : decode cX10_sums 5 = .ok (.aload_n 0, 1) := by decide +kernel
theorem dX10_sums_6 : decode cX10_sums 6 = .ok (.getfield 174, 3) := by decide +kernel
theorem dX10_sums_9 : decode cX10_sums 9 = .ok (.ifCond .ge 68, 3) := by decide +kernel
theorem dX10_sums_12 : decode cX10_sums 12 = .ok (.aload_n 0, 1) := by decide +kernel
theorem dX10_sums_13 : decode cX10_sums 13 = .ok (.invokevirtual 177, 3) := by decide +kernel
theorem dX10_sums_16 : decode cX10_sums 16 = .ok (.bipush 43, 2) := by decide +kernel
theorem dX10_sums_18 : decode cX10_sums 18 = .ok (.if_icmp .eq 12, 3) := by decide +kernel
theorem dX10_sums_21 : decode cX10_sums 21 = .ok (.aload_n 0, 1) := by decide +kernel
theorem dX10_sums_22 : decode cX10_sums 22 = .ok (.invokevirtual 177, 3) := by decide +kernel
theorem dX10_sums_25 : decode cX10_sums 25 = .ok (.bipush 45, 2) := by decide +kernel
theorem dX10_sums_27 : decode cX10_sums 27 = .ok (.if_icmp .ne 50, 3) := by decide +kernel
theorem dX10_sums_30 : decode cX10_sums 30 = .ok (.aload_n 0, 1) := by decide +kernel
theorem dX10_sums_31 : decode cX10_sums 31 = .ok (.invokevirtual 177, 3) := by decide +kernel
theorem dX10_sums_34 : decode cX10_sums 34 = .ok (.bipush 43, 2) := by decide +kernel
theorem dX10_sums_36 : decode cX10_sums 36 = .ok (.if_icmp .ne 7, 3) := by decide +kernel
theorem dX10_sums_39 : decode cX10_sums 39 = .ok (.iconst 1, 1) := by decide +kernel
theorem dX10_sums_40 : decode cX10_sums 40 = .ok (.goto 4, 3) := by decide +kernel
theorem dX10_sums_43 : decode cX10_sums 43 = .ok (.iconst 0, 1) := by decide +kernel
theorem dX10_sums_44 : decode cX10_sums 44 = .ok (.istore_n 2, 1) := by decide +kernel
theorem dX10_sums_45 : decode cX10_sums 45 = .ok (.aload_n 0, 1) := by decide +kernel
theorem dX10_sums_46 : decode cX10_sums 46 = .ok (.dup, 1) := by decide +kernel
theorem dX10_sums_47 : decode cX10_sums 47 = .ok (.getfield 165, 3) := by decide +kernel
theorem dX10_sums_50 : decode cX10_sums 50 = .ok (.iconst 1, 1) := by decide +kernel
theorem dX10_sums_51 : decode cX10_sums 51 = .ok (.iadd, 1) := by decide +kernel
theorem dX10_sums_52 : decode cX10_sums 52 = .ok (.putfield 165, 3) := by decide +kernel
theorem dX10_sums_55 : decode cX10_sums 55 = .ok (.aload_n 0, 1) := by decide +kernel
theorem dX10_sums_56 : decode cX10_sums 56 = .ok (.invokevirtual 193, 3) := by decide +kernel
theorem dX10_sums_59 : decode cX10_sums 59 = .ok (.istore_n 3, 1) := by decide +kernel
theorem dX10_sums_60 : decode cX10_sums 60 = .ok (.iload_n 2, 1) := by decide +kernel
theorem dX10_sums_61 : decode cX10_sums 61 = .ok (.ifCond .eq 9, 3) := by decide +kernel
theorem dX10_sums_64 : decode cX10_sums 64 = .ok (.iload_n 1, 1) := by decide +kernel
theorem dX10_sums_65 : decode cX10_sums 65 = .ok (.iload_n 3, 1) := by decide +kernel
theorem dX10_sums_66 : decode cX10_sums 66 = .ok (.iadd, 1) := by decide +kernel
theorem dX10_sums_67 : decode cX10_sums 67 = .ok (.goto 6, 3) := by decide +kernel
theorem dX10_sums_70 : decode cX10_sums 70 = .ok (.iload_n 1, 1) := by decide +kernel
theorem dX10_sums_71 : decode cX10_sums 71 = .ok (.iload_n 3, 1) := by decide +kernel
theorem dX10_sums_72 : decode cX10_sums 72 = .ok (.isub, 1) := by decide +kernel
theorem dX10_sums_73 : decode cX10_sums 73 = .ok (.istore_n 1, 1) := by decide +kernel
theorem dX10_sums_74 : decode cX10_sums 74 = .ok (.goto (-69), 3) := by decide +kernel
theorem dX10_sums_77 : decode cX10_sums 77 = .ok (.iload_n 1, 1) := by decide +kernel
theorem dX10_sums_78 : decode cX10_sums 78 = .ok (.ireturn, 1) := by decide +kernel
theorem dX10_product_0 : decode cX10_product 0 = .ok (.aload_n 0, 1) := by decide +kernel
theorem dX10_product_1 : decode cX10_product 1 = .ok (.invokevirtual 196, 3) := by decide +kernel
theorem dX10_product_4 : decode cX10_product 4 = .ok (.istore_n 1, 1) := by decide +kernel
theorem dX10_product_5 : decode cX10_product 5 = .ok (.aload_n 0, 1) := by decide +kernel
theorem dX10_product_6 : decode cX10_product 6 = .ok (.invokevirtual 177, 3) := by decide +kernel
theorem dX10_product_9 : decode cX10_product 9 = .ok (.istore_n 2, 1) := by decide +kernel
theorem dX10_product_10 : decode cX10_product 10 = .ok (.aload_n 0, 1) := by decide +kernel
theorem dX10_product_11 : decode cX10_product 11 = .ok (.getfield 174, 3) := by decide +kernel
theorem dX10_product_14 : decode cX10_product 14 = .ok (.ifCond .ge 80, 3) := by decide +kernel
theorem dX10_product_17 : decode cX10_product 17 = .ok (.iload_n 2, 1) := by decide +kernel
theorem dX10_product_18 : decode cX10_product 18 = .ok (.bipush 42, 2) := by decide +kernel
theorem dX10_product_20 : decode cX10_product 20 = .ok (.if_icmp .eq 15, 3) := by decide +kernel
theorem dX10_product_23 : decode cX10_product 23 = .ok (.iload_n 2, 1) := by decide +kernel
theorem dX10_product_24 : decode cX10_product 24 = .ok (.bipush 47, 2) := by decide +kernel
theorem dX10_product_26 : decode cX10_product 26 = .ok (.if_icmp .eq 9, 3) := by decide +kernel
theorem dX10_product_29 : decode cX10_product 29 = .ok (.iload_n 2, 1) := by decide +kernel
theorem dX10_product_30 : decode cX10_product 30 = .ok (.bipush 37, 2) := by decide +kernel
theorem dX10_product_32 : decode cX10_product 32 = .ok (.if_icmp .ne 62, 3) := by decide +kernel
theorem dX10_product_35 : decode cX10_product 35 = .ok (.aload_n 0, 1) := by decide +kernel
theorem dX10_product_36 : decode cX10_product 36 = .ok (.dup, 1) := by decide +kernel
theorem dX10_product_37 : decode cX10_product 37 = .ok (.getfield 165, 3) := by decide +kernel
theorem dX10_product_40 : decode cX10_product 40 = .ok (.iconst 1, 1) := by decide +kernel
theorem dX10_product_41 : decode cX10_product 41 = .ok (.iadd, 1) := by decide +kernel
theorem dX10_product_42 : decode cX10_product 42 = .ok (.putfield 165, 3) := by decide +kernel
theorem dX10_product_45 : decode cX10_product 45 = .ok (.aload_n 0, 1) := by decide +kernel
theorem dX10_product_46 : decode cX10_product 46 = .ok (.invokevirtual 196, 3) := by decide +kernel
theorem dX10_product_49 : decode cX10_product 49 = .ok (.istore_n 3, 1) := by decide +kernel
theorem dX10_product_50 : decode cX10_product 50 = .ok (.iload_n 2, 1) := by decide +kernel
theorem dX10_product_51 : decode cX10_product 51 = .ok (.bipush 42, 2) := by decide +kernel
theorem dX10_product_53 : decode cX10_product 53 = .ok (.if_icmp .ne 9, 3) := by decide +kernel
theorem dX10_product_56 : decode cX10_product 56 = .ok (.iload_n 1, 1) := by decide +kernel
theorem dX10_product_57 : decode cX10_product 57 = .ok (.iload_n 3, 1) := by decide +kernel
theorem dX10_product_58 : decode cX10_product 58 = .ok (.imul, 1) := by decide +kernel
theorem dX10_product_59 : decode cX10_product 59 = .ok (.goto 26, 3) := by decide +kernel
theorem dX10_product_62 : decode cX10_product 62 = .ok (.iload_n 3, 1) := by decide +kernel
theorem dX10_product_63 : decode cX10_product 63 = .ok (.ifCond .ne 7, 3) := by decide +kernel
theorem dX10_product_66 : decode cX10_product 66 = .ok (.iconst 0, 1) := by decide +kernel
theorem dX10_product_67 : decode cX10_product 67 = .ok (.goto 18, 3) := by decide +kernel
theorem dX10_product_70 : decode cX10_product 70 = .ok (.iload_n 2, 1) := by decide +kernel
theorem dX10_product_71 : decode cX10_product 71 = .ok (.bipush 47, 2) := by decide +kernel
theorem dX10_product_73 : decode cX10_product 73 = .ok (.if_icmp .ne 9, 3) := by decide +kernel
theorem dX10_product_76 : decode cX10_product 76 = .ok (.iload_n 1, 1) := by decide +kernel
theorem dX10_product_77 : decode cX10_product 77 = .ok (.iload_n 3, 1) := by decide +kernel
theorem dX10_product_78 : decode cX10_product 78 = .ok (.idiv, 1) := by decide +kernel
theorem dX10_product_79 : decode cX10_product 79 = .ok (.goto 6, 3) := by decide +kernel
theorem dX10_product_82 : decode cX10_product 82 = .ok (.iload_n 1, 1) := by decide +kernel
theorem dX10_product_83 : decode cX10_product 83 = .ok (.iload_n 3, 1) := by decide +kernel
theorem dX10_product_84 : decode cX10_product 84 = .ok (.irem, 1) := by decide +kernel
theorem dX10_product_85 : decode cX10_product 85 = .ok (.istore_n 1, 1) := by decide +kernel
theorem dX10_product_86 : decode cX10_product 86 = .ok (.aload_n 0, 1) := by decide +kernel
theorem dX10_product_87 : decode cX10_product 87 = .ok (.invokevirtual 177, 3) := by decide +kernel
theorem dX10_product_90 : decode cX10_product 90 = .ok (.istore_n 2, 1) := by decide +kernel
theorem dX10_product_91 : decode cX10_product 91 = .ok (.goto (-81), 3) := by decide +kernel
theorem dX10_product_94 : decode cX10_product 94 = .ok (.iload_n 1, 1) := by decide +kernel
theorem dX10_product_95 : decode cX10_product 95 = .ok (.ireturn, 1) := by decide +kernel
theorem dX10_nameOf_0 : decode cX10_nameOf 0 = .ok (.iload_n 0, 1) := by decide +kernel
theorem dX10_nameOf_1 : decode cX10_nameOf 1 = .ok (.tableswitch 107 102 121 #[103, 107, 101, 107, 107, 107, 107, 107, 95, 107, 107, 107, 107, 99, 107, 107, 97, 107, 107, 105], 95) := by decide +kernel
theorem dX10_nameOf_96 : decode cX10_nameOf 96 = .ok (.iconst 0, 1) := by decide +kernel
theorem dX10_nameOf_97 : decode cX10_nameOf 97 = .ok (.ireturn, 1) := by decide +kernel
theorem dX10_nameOf_98 : decode cX10_nameOf 98 = .ok (.iconst 1, 1) := by decide +kernel
theorem dX10_nameOf_99 : decode cX10_nameOf 99 = .ok (.ireturn, 1) := by decide +kernel
theorem dX10_nameOf_100 : decode cX10_nameOf 100 = .ok (.iconst 2, 1) := by decide +kernel
theorem dX10_nameOf_101 : decode cX10_nameOf 101 = .ok (.ireturn, 1) := by decide +kernel
theorem dX10_nameOf_102 : decode cX10_nameOf 102 = .ok (.iconst 3, 1) := by decide +kernel
theorem dX10_nameOf_103 : decode cX10_nameOf 103 = .ok (.ireturn, 1) := by decide +kernel
theorem dX10_nameOf_104 : decode cX10_nameOf 104 = .ok (.iconst 4, 1) := by decide +kernel
theorem dX10_nameOf_105 : decode cX10_nameOf 105 = .ok (.ireturn, 1) := by decide +kernel
theorem dX10_nameOf_106 : decode cX10_nameOf 106 = .ok (.iconst 5, 1) := by decide +kernel
theorem dX10_nameOf_107 : decode cX10_nameOf 107 = .ok (.ireturn, 1) := by decide +kernel
theorem dX10_nameOf_108 : decode cX10_nameOf 108 = .ok (.iconst (-1), 1) := by decide +kernel
theorem dX10_nameOf_109 : decode cX10_nameOf 109 = .ok (.ireturn, 1) := by decide +kernel
theorem dX10_one_0 : decode cX10_one 0 = .ok (.aload_n 0, 1) := by decide +kernel
theorem dX10_one_1 : decode cX10_one 1 = .ok (.getfield 174, 3) := by decide +kernel
theorem dX10_one_4 : decode cX10_one 4 = .ok (.ifCond .lt 5, 3) := by decide +kernel
theorem dX10_one_7 : decode cX10_one 7 = .ok (.iconst 0, 1) := by decide +kernel
theorem dX10_one_8 : decode cX10_one 8 = .ok (.ireturn, 1) := by decide +kernel
theorem dX10_one_9 : decode cX10_one 9 = .ok (.aload_n 0, 1) := by decide +kernel
theorem dX10_one_10 : decode cX10_one 10 = .ok (.invokevirtual 177, 3) := by decide +kernel
theorem dX10_one_13 : decode cX10_one 13 = .ok (.istore_n 1, 1) := by decide +kernel
theorem dX10_one_14 : decode cX10_one 14 = .ok (.iload_n 1, 1) := by decide +kernel
theorem dX10_one_15 : decode cX10_one 15 = .ok (.bipush 33, 2) := by decide +kernel
theorem dX10_one_17 : decode cX10_one 17 = .ok (.if_icmp .eq 15, 3) := by decide +kernel
theorem dX10_one_20 : decode cX10_one 20 = .ok (.iload_n 1, 1) := by decide +kernel
theorem dX10_one_21 : decode cX10_one 21 = .ok (.bipush 45, 2) := by decide +kernel
theorem dX10_one_23 : decode cX10_one 23 = .ok (.if_icmp .eq 9, 3) := by decide +kernel
theorem dX10_one_26 : decode cX10_one 26 = .ok (.iload_n 1, 1) := by decide +kernel
theorem dX10_one_27 : decode cX10_one 27 = .ok (.bipush 40, 2) := by decide +kernel
theorem dX10_one_29 : decode cX10_one 29 = .ok (.if_icmp .ne 116, 3) := by decide +kernel
theorem dX10_one_32 : decode cX10_one 32 = .ok (.aload_n 0, 1) := by decide +kernel
theorem dX10_one_33 : decode cX10_one 33 = .ok (.getfield 199, 3) := by decide +kernel
theorem dX10_one_36 : decode cX10_one 36 = .ok (.bipush 6, 2) := by decide +kernel
theorem dX10_one_38 : decode cX10_one 38 = .ok (.if_icmp .ne 8, 3) := by decide +kernel
theorem dX10_one_41 : decode cX10_one 41 = .ok (.aload_n 0, 1) := by decide +kernel
theorem dX10_one_42 : decode cX10_one 42 = .ok (.invokevirtual 202, 3) := by decide +kernel
theorem dX10_one_45 : decode cX10_one 45 = .ok (.ireturn, 1) := by decide +kernel
theorem dX10_one_46 : decode cX10_one 46 = .ok (.aload_n 0, 1) := by decide +kernel
theorem dX10_one_47 : decode cX10_one 47 = .ok (.dup, 1) := by decide +kernel
theorem dX10_one_48 : decode cX10_one 48 = .ok (.getfield 199, 3) := by decide +kernel
theorem dX10_one_51 : decode cX10_one 51 = .ok (.iconst 1, 1) := by decide +kernel
theorem dX10_one_52 : decode cX10_one 52 = .ok (.iadd, 1) := by decide +kernel
theorem dX10_one_53 : decode cX10_one 53 = .ok (.putfield 199, 3) := by decide +kernel
theorem dX10_one_56 : decode cX10_one 56 = .ok (.aload_n 0, 1) := by decide +kernel
theorem dX10_one_57 : decode cX10_one 57 = .ok (.dup, 1) := by decide +kernel
theorem dX10_one_58 : decode cX10_one 58 = .ok (.getfield 165, 3) := by decide +kernel
theorem dX10_one_61 : decode cX10_one 61 = .ok (.iconst 1, 1) := by decide +kernel
theorem dX10_one_62 : decode cX10_one 62 = .ok (.iadd, 1) := by decide +kernel
theorem dX10_one_63 : decode cX10_one 63 = .ok (.putfield 165, 3) := by decide +kernel
theorem dX10_one_66 : decode cX10_one 66 = .ok (.iload_n 1, 1) := by decide +kernel
theorem dX10_one_67 : decode cX10_one 67 = .ok (.bipush 40, 2) := by decide +kernel
theorem dX10_one_69 : decode cX10_one 69 = .ok (.if_icmp .ne 10, 3) := by decide +kernel
theorem dX10_one_72 : decode cX10_one 72 = .ok (.aload_n 0, 1) := by decide +kernel
theorem dX10_one_73 : decode cX10_one 73 = .ok (.invokevirtual 205, 3) := by decide +kernel
theorem dX10_one_76 : decode cX10_one 76 = .ok (.goto 7, 3) := by decide +kernel
theorem dX10_one_79 : decode cX10_one 79 = .ok (.aload_n 0, 1) := by decide +kernel
theorem dX10_one_80 : decode cX10_one 80 = .ok (.invokevirtual 196, 3) := by decide +kernel
theorem dX10_one_83 : decode cX10_one 83 = .ok (.istore_n 2, 1) := by decide +kernel
theorem dX10_one_84 : decode cX10_one 84 = .ok (.iload_n 1, 1) := by decide +kernel
theorem dX10_one_85 : decode cX10_one 85 = .ok (.bipush 40, 2) := by decide +kernel
theorem dX10_one_87 : decode cX10_one 87 = .ok (.if_icmp .ne 17, 3) := by decide +kernel
theorem dX10_one_90 : decode cX10_one 90 = .ok (.aload_n 0, 1) := by decide +kernel
theorem dX10_one_91 : decode cX10_one 91 = .ok (.bipush 41, 2) := by decide +kernel
theorem dX10_one_93 : decode cX10_one 93 = .ok (.invokevirtual 184, 3) := by decide +kernel
theorem dX10_one_96 : decode cX10_one 96 = .ok (.ifCond .ne 8, 3) := by decide +kernel
theorem dX10_one_99 : decode cX10_one 99 = .ok (.aload_n 0, 1) := by decide +kernel
theorem dX10_one_100 : decode cX10_one 100 = .ok (.invokevirtual 202, 3) := by decide +kernel
theorem dX10_one_103 : decode cX10_one 103 = .ok (.ireturn, 1) := by decide +kernel
theorem dX10_one_104 : decode cX10_one 104 = .ok (.aload_n 0, 1) := by decide +kernel
theorem dX10_one_105 : decode cX10_one 105 = .ok (.dup, 1) := by decide +kernel
theorem dX10_one_106 : decode cX10_one 106 = .ok (.getfield 199, 3) := by decide +kernel
theorem dX10_one_109 : decode cX10_one 109 = .ok (.iconst 1, 1) := by decide +kernel
theorem dX10_one_110 : decode cX10_one 110 = .ok (.isub, 1) := by decide +kernel
theorem dX10_one_111 : decode cX10_one 111 = .ok (.putfield 199, 3) := by decide +kernel
theorem dX10_one_114 : decode cX10_one 114 = .ok (.iload_n 1, 1) := by decide +kernel
theorem dX10_one_115 : decode cX10_one 115 = .ok (.bipush 40, 2) := by decide +kernel
theorem dX10_one_117 : decode cX10_one 117 = .ok (.if_icmp .ne 7, 3) := by decide +kernel
theorem dX10_one_120 : decode cX10_one 120 = .ok (.iload_n 2, 1) := by decide +kernel
theorem dX10_one_121 : decode cX10_one 121 = .ok (.goto 23, 3) := by decide +kernel
theorem dX10_one_124 : decode cX10_one 124 = .ok (.iload_n 1, 1) := by decide +kernel
theorem dX10_one_125 : decode cX10_one 125 = .ok (.bipush 45, 2) := by decide +kernel
theorem dX10_one_127 : decode cX10_one 127 = .ok (.if_icmp .ne 8, 3) := by decide +kernel
theorem dX10_one_130 : decode cX10_one 130 = .ok (.iload_n 2, 1) := by decide +kernel
theorem dX10_one_131 : decode cX10_one 131 = .ok (.ineg, 1) := by decide +kernel
theorem dX10_one_132 : decode cX10_one 132 = .ok (.goto 12, 3) := by decide +kernel
theorem dX10_one_135 : decode cX10_one 135 = .ok (.iload_n 2, 1) := by decide +kernel
theorem dX10_one_136 : decode cX10_one 136 = .ok (.ifCond .ne 7, 3) := by decide +kernel
theorem dX10_one_139 : decode cX10_one 139 = .ok (.iconst 1, 1) := by decide +kernel
theorem dX10_one_140 : decode cX10_one 140 = .ok (.goto 4, 3) := by decide +kernel
theorem dX10_one_143 : decode cX10_one 143 = .ok (.iconst 0, 1) := by decide +kernel
theorem dX10_one_144 : decode cX10_one 144 = .ok (.ireturn, 1) := by decide +kernel
theorem dX10_one_145 : decode cX10_one 145 = .ok (.iload_n 1, 1) := by decide +kernel
theorem dX10_one_146 : decode cX10_one 146 = .ok (.invokestatic 208, 3) := by decide +kernel
theorem dX10_one_149 : decode cX10_one 149 = .ok (.istore_n 2, 1) := by decide +kernel
theorem dX10_one_150 : decode cX10_one 150 = .ok (.iload_n 2, 1) := by decide +kernel
theorem dX10_one_151 : decode cX10_one 151 = .ok (.ifCond .lt 20, 3) := by decide +kernel
theorem dX10_one_154 : decode cX10_one 154 = .ok (.aload_n 0, 1) := by decide +kernel
theorem dX10_one_155 : decode cX10_one 155 = .ok (.dup, 1) := by decide +kernel
theorem dX10_one_156 : decode cX10_one 156 = .ok (.getfield 165, 3) := by decide +kernel
theorem dX10_one_159 : decode cX10_one 159 = .ok (.iconst 1, 1) := by decide +kernel
theorem dX10_one_160 : decode cX10_one 160 = .ok (.iadd, 1) := by decide +kernel
theorem dX10_one_161 : decode cX10_one 161 = .ok (.putfield 165, 3) := by decide +kernel
theorem dX10_one_164 : decode cX10_one 164 = .ok (.aload_n 0, 1) := by decide +kernel
theorem dX10_one_165 : decode cX10_one 165 = .ok (.getfield 34, 3) := by decide +kernel
theorem dX10_one_168 : decode cX10_one 168 = .ok (.iload_n 2, 1) := by decide +kernel
theorem dX10_one_169 : decode cX10_one 169 = .ok (.iaload, 1) := by decide +kernel
theorem dX10_one_170 : decode cX10_one 170 = .ok (.ireturn, 1) := by decide +kernel
theorem dX10_one_171 : decode cX10_one 171 = .ok (.iconst 0, 1) := by decide +kernel
theorem dX10_one_172 : decode cX10_one 172 = .ok (.istore_n 3, 1) := by decide +kernel
theorem dX10_one_173 : decode cX10_one 173 = .ok (.iconst 0, 1) := by decide +kernel
theorem dX10_one_174 : decode cX10_one 174 = .ok (.istore 4, 2) := by decide +kernel
theorem dX10_one_176 : decode cX10_one 176 = .ok (.iload 4, 2) := by decide +kernel
theorem dX10_one_178 : decode cX10_one 178 = .ok (.iconst 4, 1) := by decide +kernel
theorem dX10_one_179 : decode cX10_one 179 = .ok (.if_icmp .ge 50, 3) := by decide +kernel
theorem dX10_one_182 : decode cX10_one 182 = .ok (.aload_n 0, 1) := by decide +kernel
theorem dX10_one_183 : decode cX10_one 183 = .ok (.invokevirtual 177, 3) := by decide +kernel
theorem dX10_one_186 : decode cX10_one 186 = .ok (.bipush 48, 2) := by decide +kernel
theorem dX10_one_188 : decode cX10_one 188 = .ok (.if_icmp .lt 41, 3) := by decide +kernel
theorem dX10_one_191 : decode cX10_one 191 = .ok (.aload_n 0, 1) := by decide +kernel
theorem dX10_one_192 : decode cX10_one 192 = .ok (.invokevirtual 177, 3) := by decide +kernel
theorem dX10_one_195 : decode cX10_one 195 = .ok (.bipush 57, 2) := by decide +kernel
theorem dX10_one_197 : decode cX10_one 197 = .ok (.if_icmp .gt 32, 3) := by decide +kernel
theorem dX10_one_200 : decode cX10_one 200 = .ok (.bipush 10, 2) := by decide +kernel
theorem dX10_one_202 : decode cX10_one 202 = .ok (.iload_n 3, 1) := by decide +kernel
theorem dX10_one_203 : decode cX10_one 203 = .ok (.imul, 1) := by decide +kernel
theorem dX10_one_204 : decode cX10_one 204 = .ok (.aload_n 0, 1) := by decide +kernel
theorem dX10_one_205 : decode cX10_one 205 = .ok (.invokevirtual 177, 3) := by decide +kernel
theorem dX10_one_208 : decode cX10_one 208 = .ok (.iadd, 1) := by decide +kernel
theorem dX10_one_209 : decode cX10_one 209 = .ok (.bipush 48, 2) := by decide +kernel
theorem dX10_one_211 : decode cX10_one 211 = .ok (.isub, 1) := by decide +kernel
theorem dX10_one_212 : decode cX10_one 212 = .ok (.istore_n 3, 1) := by decide +kernel
theorem dX10_one_213 : decode cX10_one 213 = .ok (.iinc 4 1, 3) := by decide +kernel
theorem dX10_one_216 : decode cX10_one 216 = .ok (.aload_n 0, 1) := by decide +kernel
theorem dX10_one_217 : decode cX10_one 217 = .ok (.dup, 1) := by decide +kernel
theorem dX10_one_218 : decode cX10_one 218 = .ok (.getfield 165, 3) := by decide +kernel
theorem dX10_one_221 : decode cX10_one 221 = .ok (.iconst 1, 1) := by decide +kernel
theorem dX10_one_222 : decode cX10_one 222 = .ok (.iadd, 1) := by decide +kernel
theorem dX10_one_223 : decode cX10_one 223 = .ok (.putfield 165, 3) := by decide +kernel
theorem dX10_one_226 : decode cX10_one 226 = .ok (.goto (-50), 3) := by decide +kernel
theorem dX10_one_229 : decode cX10_one 229 = .ok (.iload 4, 2) := by decide +kernel
theorem dX10_one_231 : decode cX10_one 231 = .ok (.ifCond .ne 10, 3) := by decide +kernel
theorem dX10_one_234 : decode cX10_one 234 = .ok (.aload_n 0, 1) := by decide +kernel
theorem dX10_one_235 : decode cX10_one 235 = .ok (.invokevirtual 202, 3) := by decide +kernel
theorem dX10_one_238 : decode cX10_one 238 = .ok (.goto 4, 3) := by decide +kernel
theorem dX10_one_241 : decode cX10_one 241 = .ok (.iload_n 3, 1) := by decide +kernel
theorem dX10_one_242 : decode cX10_one 242 = .ok (.ireturn, 1) := by decide +kernel
theorem dX10_workOut_0 : decode cX10_workOut 0 = .ok (.aload_n 0, 1) := by decide +kernel
theorem dX10_workOut_1 : decode cX10_workOut 1 = .ok (.iload_n 1, 1) := by decide +kernel
theorem dX10_workOut_2 : decode cX10_workOut 2 = .ok (.putfield 171, 3) := by decide +kernel
theorem dX10_workOut_5 : decode cX10_workOut 5 = .ok (.aload_n 0, 1) := by decide +kernel
theorem dX10_workOut_6 : decode cX10_workOut 6 = .ok (.iconst 0, 1) := by decide +kernel
theorem dX10_workOut_7 : decode cX10_workOut 7 = .ok (.putfield 165, 3) := by decide +kernel
theorem dX10_workOut_10 : decode cX10_workOut 10 = .ok (.aload_n 0, 1) := by decide +kernel
theorem dX10_workOut_11 : decode cX10_workOut 11 = .ok (.iload_n 2, 1) := by decide +kernel
theorem dX10_workOut_12 : decode cX10_workOut 12 = .ok (.putfield 168, 3) := by decide +kernel
theorem dX10_workOut_15 : decode cX10_workOut 15 = .ok (.aload_n 0, 1) := by decide +kernel
theorem dX10_workOut_16 : decode cX10_workOut 16 = .ok (.iconst (-1), 1) := by decide +kernel
theorem dX10_workOut_17 : decode cX10_workOut 17 = .ok (.putfield 174, 3) := by decide +kernel
theorem dX10_workOut_20 : decode cX10_workOut 20 = .ok (.aload_n 0, 1) := by decide +kernel
theorem dX10_workOut_21 : decode cX10_workOut 21 = .ok (.iconst 0, 1) := by decide +kernel
theorem dX10_workOut_22 : decode cX10_workOut 22 = .ok (.putfield 199, 3) := by decide +kernel
theorem dX10_workOut_25 : decode cX10_workOut 25 = .ok (.iconst 0, 1) := by decide +kernel
theorem dX10_workOut_26 : decode cX10_workOut 26 = .ok (.istore_n 3, 1) := by decide +kernel
theorem dX10_workOut_27 : decode cX10_workOut 27 = .ok (.iconst 0, 1) := by decide +kernel
theorem dX10_workOut_28 : decode cX10_workOut 28 = .ok (.istore 4, 2) := by decide +kernel
theorem dX10_workOut_30 : decode cX10_workOut 30 = .ok (.iconst 1, 1) := by decide +kernel
theorem dX10_workOut_31 : decode cX10_workOut 31 = .ok (.istore 5, 2) := by decide +kernel
theorem dX10_workOut_33 : decode cX10_workOut 33 = .ok (.iload 5, 2) := by decide +kernel
theorem dX10_workOut_35 : decode cX10_workOut 35 = .ok (.ifCond .eq 72, 3) := by decide +kernel
theorem dX10_workOut_38 : decode cX10_workOut 38 = .ok (.aload_n 0, 1) := by decide +kernel
theorem dX10_workOut_39 : decode cX10_workOut 39 = .ok (.invokevirtual 205, 3) := by decide +kernel
theorem dX10_workOut_42 : decode cX10_workOut 42 = .ok (.istore 6, 2) := by decide +kernel
theorem dX10_workOut_44 : decode cX10_workOut 44 = .ok (.iconst 1, 1) := by decide +kernel
theorem dX10_workOut_45 : decode cX10_workOut 45 = .ok (.istore 7, 2) := by decide +kernel
theorem dX10_workOut_47 : decode cX10_workOut 47 = .ok (.aload_n 0, 1) := by decide +kernel
theorem dX10_workOut_48 : decode cX10_workOut 48 = .ok (.bipush 63, 2) := by decide +kernel
theorem dX10_workOut_50 : decode cX10_workOut 50 = .ok (.invokevirtual 184, 3) := by decide +kernel
theorem dX10_workOut_53 : decode cX10_workOut 53 = .ok (.ifCond .eq 21, 3) := by decide +kernel
theorem dX10_workOut_56 : decode cX10_workOut 56 = .ok (.iload 6, 2) := by decide +kernel
theorem dX10_workOut_58 : decode cX10_workOut 58 = .ok (.ifCond .eq 7, 3) := by decide +kernel
theorem dX10_workOut_61 : decode cX10_workOut 61 = .ok (.iconst 1, 1) := by decide +kernel
theorem dX10_workOut_62 : decode cX10_workOut 62 = .ok (.goto 4, 3) := by decide +kernel
theorem dX10_workOut_65 : decode cX10_workOut 65 = .ok (.iconst 0, 1) := by decide +kernel
theorem dX10_workOut_66 : decode cX10_workOut 66 = .ok (.istore 7, 2) := by decide +kernel
theorem dX10_workOut_68 : decode cX10_workOut 68 = .ok (.aload_n 0, 1) := by decide +kernel
theorem dX10_workOut_69 : decode cX10_workOut 69 = .ok (.invokevirtual 205, 3) := by decide +kernel
theorem dX10_workOut_72 : decode cX10_workOut 72 = .ok (.istore 6, 2) := by decide +kernel
theorem dX10_workOut_74 : decode cX10_workOut 74 = .ok (.aload_n 0, 1) := by decide +kernel
theorem dX10_workOut_75 : decode cX10_workOut 75 = .ok (.getfield 174, 3) := by decide +kernel
theorem dX10_workOut_78 : decode cX10_workOut 78 = .ok (.ifCond .ge 18, 3) := by decide +kernel
theorem dX10_workOut_81 : decode cX10_workOut 81 = .ok (.iload 7, 2) := by decide +kernel
theorem dX10_workOut_83 : decode cX10_workOut 83 = .ok (.ifCond .eq 13, 3) := by decide +kernel
theorem dX10_workOut_86 : decode cX10_workOut 86 = .ok (.iload_n 3, 1) := by decide +kernel
theorem dX10_workOut_87 : decode cX10_workOut 87 = .ok (.ifCond .ne 9, 3) := by decide +kernel
theorem dX10_workOut_90 : decode cX10_workOut 90 = .ok (.iconst 1, 1) := by decide +kernel
theorem dX10_workOut_91 : decode cX10_workOut 91 = .ok (.istore_n 3, 1) := by decide +kernel
theorem dX10_workOut_92 : decode cX10_workOut 92 = .ok (.iload 6, 2) := by decide +kernel
theorem dX10_workOut_94 : decode cX10_workOut 94 = .ok (.istore 4, 2) := by decide +kernel
theorem dX10_workOut_96 : decode cX10_workOut 96 = .ok (.aload_n 0, 1) := by decide +kernel
theorem dX10_workOut_97 : decode cX10_workOut 97 = .ok (.bipush 59, 2) := by decide +kernel
theorem dX10_workOut_99 : decode cX10_workOut 99 = .ok (.invokevirtual 184, 3) := by decide +kernel
theorem dX10_workOut_102 : decode cX10_workOut 102 = .ok (.istore 5, 2) := by decide +kernel
theorem dX10_workOut_104 : decode cX10_workOut 104 = .ok (.goto (-71), 3) := by decide +kernel
theorem dX10_workOut_107 : decode cX10_workOut 107 = .ok (.aload_n 0, 1) := by decide +kernel
theorem dX10_workOut_108 : decode cX10_workOut 108 = .ok (.getfield 174, 3) := by decide +kernel
theorem dX10_workOut_111 : decode cX10_workOut 111 = .ok (.ifCond .ge 19, 3) := by decide +kernel
theorem dX10_workOut_114 : decode cX10_workOut 114 = .ok (.aload_n 0, 1) := by decide +kernel
theorem dX10_workOut_115 : decode cX10_workOut 115 = .ok (.getfield 165, 3) := by decide +kernel
theorem dX10_workOut_118 : decode cX10_workOut 118 = .ok (.aload_n 0, 1) := by decide +kernel
theorem dX10_workOut_119 : decode cX10_workOut 119 = .ok (.getfield 168, 3) := by decide +kernel
theorem dX10_workOut_122 : decode cX10_workOut 122 = .ok (.if_icmp .ge 8, 3) := by decide +kernel
theorem dX10_workOut_125 : decode cX10_workOut 125 = .ok (.aload_n 0, 1) := by decide +kernel
theorem dX10_workOut_126 : decode cX10_workOut 126 = .ok (.invokevirtual 202, 3) := by decide +kernel
theorem dX10_workOut_129 : decode cX10_workOut 129 = .ok (.ireturn, 1) := by decide +kernel
theorem dX10_workOut_130 : decode cX10_workOut 130 = .ok (.iload 4, 2) := by decide +kernel
theorem dX10_workOut_132 : decode cX10_workOut 132 = .ok (.ireturn, 1) := by decide +kernel
theorem dX10_law_0 : decode cX10_law 0 = .ok (.aload_n 0, 1) := by decide +kernel
theorem dX10_law_1 : decode cX10_law 1 = .ok (.iconst (-1), 1) := by decide +kernel
theorem dX10_law_2 : decode cX10_law 2 = .ok (.aload_n 0, 1) := by decide +kernel
theorem dX10_law_3 : decode cX10_law 3 = .ok (.getfield 162, 3) := by decide +kernel
theorem dX10_law_6 : decode cX10_law 6 = .ok (.invokevirtual 211, 3) := by decide +kernel
theorem dX10_law_9 : decode cX10_law 9 = .ok (.istore_n 1, 1) := by decide +kernel
theorem dX10_law_10 : decode cX10_law 10 = .ok (.aload_n 0, 1) := by decide +kernel
theorem dX10_law_11 : decode cX10_law 11 = .ok (.getfield 162, 3) := by decide +kernel
theorem dX10_law_14 : decode cX10_law 14 = .ok (.istore_n 2, 1) := by decide +kernel
theorem dX10_law_15 : decode cX10_law 15 = .ok (.aload_n 0, 1) := by decide +kernel
theorem dX10_law_16 : decode cX10_law 16 = .ok (.iconst 0, 1) := by decide +kernel
theorem dX10_law_17 : decode cX10_law 17 = .ok (.putfield 162, 3) := by decide +kernel
theorem dX10_law_20 : decode cX10_law 20 = .ok (.aload_n 0, 1) := by decide +kernel
theorem dX10_law_21 : decode cX10_law 21 = .ok (.getfield 174, 3) := by decide +kernel
theorem dX10_law_24 : decode cX10_law 24 = .ok (.ifCond .lt 11, 3) := by decide +kernel
theorem dX10_law_27 : decode cX10_law 27 = .ok (.bipush (-100), 2) := by decide +kernel
theorem dX10_law_29 : decode cX10_law 29 = .ok (.aload_n 0, 1) := by decide +kernel
theorem dX10_law_30 : decode cX10_law 30 = .ok (.getfield 174, 3) := by decide +kernel
theorem dX10_law_33 : decode cX10_law 33 = .ok (.isub, 1) := by decide +kernel
theorem dX10_law_34 : decode cX10_law 34 = .ok (.ireturn, 1) := by decide +kernel
theorem dX10_law_35 : decode cX10_law 35 = .ok (.iconst 0, 1) := by decide +kernel
theorem dX10_law_36 : decode cX10_law 36 = .ok (.istore_n 3, 1) := by decide +kernel
theorem dX10_law_37 : decode cX10_law 37 = .ok (.iload_n 3, 1) := by decide +kernel
theorem dX10_law_38 : decode cX10_law 38 = .ok (.iload_n 2, 1) := by decide +kernel
theorem dX10_law_39 : decode cX10_law 39 = .ok (.if_icmp .ge 21, 3) := by decide +kernel
theorem dX10_law_42 : decode cX10_law 42 = .ok (.aload_n 0, 1) := by decide +kernel
theorem dX10_law_43 : decode cX10_law 43 = .ok (.getfield 31, 3) := by decide +kernel
theorem dX10_law_46 : decode cX10_law 46 = .ok (.iload_n 3, 1) := by decide +kernel
theorem dX10_law_47 : decode cX10_law 47 = .ok (.aload_n 0, 1) := by decide +kernel
theorem dX10_law_48 : decode cX10_law 48 = .ok (.getfield 28, 3) := by decide +kernel
theorem dX10_law_51 : decode cX10_law 51 = .ok (.iload_n 3, 1) := by decide +kernel
theorem dX10_law_52 : decode cX10_law 52 = .ok (.iaload, 1) := by decide +kernel
theorem dX10_law_53 : decode cX10_law 53 = .ok (.iastore, 1) := by decide +kernel
theorem dX10_law_54 : decode cX10_law 54 = .ok (.iinc 3 1, 3) := by decide +kernel
theorem dX10_law_57 : decode cX10_law 57 = .ok (.goto (-20), 3) := by decide +kernel
theorem dX10_law_60 : decode cX10_law 60 = .ok (.aload_n 0, 1) := by decide +kernel
theorem dX10_law_61 : decode cX10_law 61 = .ok (.iload_n 2, 1) := by decide +kernel
theorem dX10_law_62 : decode cX10_law 62 = .ok (.putfield 88, 3) := by decide +kernel
theorem dX10_law_65 : decode cX10_law 65 = .ok (.iconst 1, 1) := by decide +kernel
theorem dX10_law_66 : decode cX10_law 66 = .ok (.ireturn, 1) := by decide +kernel
theorem dX10_begins1_0 : decode cX10_begins1 0 = .ok (.iconst 0, 1) := by decide +kernel
theorem dX10_begins1_1 : decode cX10_begins1 1 = .ok (.istore_n 2, 1) := by decide +kernel
theorem dX10_begins1_2 : decode cX10_begins1 2 = .ok (.iload_n 2, 1) := by decide +kernel
theorem dX10_begins1_3 : decode cX10_begins1 3 = .ok (.aload_n 0, 1) := by decide +kernel
theorem dX10_begins1_4 : decode cX10_begins1 4 = .ok (.getfield 109, 3) := by decide +kernel
theorem dX10_begins1_7 : decode cX10_begins1 7 = .ok (.if_icmp .ge 72, 3) := by decide +kernel
theorem dX10_begins1_10 : decode cX10_begins1 10 = .ok (.aload_n 0, 1) := by decide +kernel
theorem dX10_begins1_11 : decode cX10_begins1 11 = .ok (.getfield 37, 3) := by decide +kernel
theorem dX10_begins1_14 : decode cX10_begins1 14 = .ok (.iload_n 2, 1) := by decide +kernel
theorem dX10_begins1_15 : decode cX10_begins1 15 = .ok (.aload_n 0, 1) := by decide +kernel
theorem dX10_begins1_16 : decode cX10_begins1 16 = .ok (.getfield 22, 3) := by decide +kernel
theorem dX10_begins1_19 : decode cX10_begins1 19 = .ok (.iload_n 2, 1) := by decide +kernel
theorem dX10_begins1_20 : decode cX10_begins1 20 = .ok (.iaload, 1) := by decide +kernel
theorem dX10_begins1_21 : decode cX10_begins1 21 = .ok (.iastore, 1) := by decide +kernel
theorem dX10_begins1_22 : decode cX10_begins1 22 = .ok (.aload_n 0, 1) := by decide +kernel
theorem dX10_begins1_23 : decode cX10_begins1 23 = .ok (.getfield 40, 3) := by decide +kernel
theorem dX10_begins1_26 : decode cX10_begins1 26 = .ok (.iload_n 2, 1) := by decide +kernel
theorem dX10_begins1_27 : decode cX10_begins1 27 = .ok (.iload_n 1, 1) := by decide +kernel
theorem dX10_begins1_28 : decode cX10_begins1 28 = .ok (.iload_n 2, 1) := by decide +kernel
theorem dX10_begins1_29 : decode cX10_begins1 29 = .ok (.invokestatic 214, 3) := by decide +kernel
theorem dX10_begins1_32 : decode cX10_begins1 32 = .ok (.ifCond .eq 15, 3) := by decide +kernel
theorem dX10_begins1_35 : decode cX10_begins1 35 = .ok (.aload_n 0, 1) := by decide +kernel
theorem dX10_begins1_36 : decode cX10_begins1 36 = .ok (.getfield 9, 3) := by decide +kernel
theorem dX10_begins1_39 : decode cX10_begins1 39 = .ok (.bipush 10, 2) := by decide +kernel
theorem dX10_begins1_41 : decode cX10_begins1 41 = .ok (.iload_n 2, 1) := by decide +kernel
theorem dX10_begins1_42 : decode cX10_begins1 42 = .ok (.iadd, 1) := by decide +kernel
theorem dX10_begins1_43 : decode cX10_begins1 43 = .ok (.iaload, 1) := by decide +kernel
theorem dX10_begins1_44 : decode cX10_begins1 44 = .ok (.goto 4, 3) := by decide +kernel
theorem dX10_begins1_47 : decode cX10_begins1 47 = .ok (.iconst 0, 1) := by decide +kernel
theorem dX10_begins1_48 : decode cX10_begins1 48 = .ok (.iastore, 1) := by decide +kernel
theorem dX10_begins1_49 : decode cX10_begins1 49 = .ok (.aload_n 0, 1) := by decide +kernel
theorem dX10_begins1_50 : decode cX10_begins1 50 = .ok (.getfield 43, 3) := by decide +kernel
theorem dX10_begins1_53 : decode cX10_begins1 53 = .ok (.iload_n 2, 1) := by decide +kernel
theorem dX10_begins1_54 : decode cX10_begins1 54 = .ok (.iload_n 1, 1) := by decide +kernel
theorem dX10_begins1_55 : decode cX10_begins1 55 = .ok (.iload_n 2, 1) := by decide +kernel
theorem dX10_begins1_56 : decode cX10_begins1 56 = .ok (.invokestatic 214, 3) := by decide +kernel
theorem dX10_begins1_59 : decode cX10_begins1 59 = .ok (.ifCond .eq 12, 3) := by decide +kernel
theorem dX10_begins1_62 : decode cX10_begins1 62 = .ok (.aload_n 0, 1) := by decide +kernel
theorem dX10_begins1_63 : decode cX10_begins1 63 = .ok (.getfield 25, 3) := by decide +kernel
theorem dX10_begins1_66 : decode cX10_begins1 66 = .ok (.iload_n 2, 1) := by decide +kernel
theorem dX10_begins1_67 : decode cX10_begins1 67 = .ok (.iaload, 1) := by decide +kernel
theorem dX10_begins1_68 : decode cX10_begins1 68 = .ok (.goto 4, 3) := by decide +kernel
theorem dX10_begins1_71 : decode cX10_begins1 71 = .ok (.iconst 0, 1) := by decide +kernel
theorem dX10_begins1_72 : decode cX10_begins1 72 = .ok (.iastore, 1) := by decide +kernel
theorem dX10_begins1_73 : decode cX10_begins1 73 = .ok (.iinc 2 1, 3) := by decide +kernel
theorem dX10_begins1_76 : decode cX10_begins1 76 = .ok (.goto (-74), 3) := by decide +kernel
theorem dX10_begins1_79 : decode cX10_begins1 79 = .ok (.return_, 1) := by decide +kernel
theorem dX10_gained_0 : decode cX10_gained 0 = .ok (.aload_n 0, 1) := by decide +kernel
theorem dX10_gained_1 : decode cX10_gained 1 = .ok (.getfield 88, 3) := by decide +kernel
theorem dX10_gained_4 : decode cX10_gained 4 = .ok (.ifCond .ge 24, 3) := by decide +kernel
theorem dX10_gained_7 : decode cX10_gained 7 = .ok (.iload_n 2, 1) := by decide +kernel
theorem dX10_gained_8 : decode cX10_gained 8 = .ok (.iconst 2, 1) := by decide +kernel
theorem dX10_gained_9 : decode cX10_gained 9 = .ok (.if_icmp .gt 7, 3) := by decide +kernel
theorem dX10_gained_12 : decode cX10_gained 12 = .ok (.iload_n 3, 1) := by decide +kernel
theorem dX10_gained_13 : decode cX10_gained 13 = .ok (.goto 14, 3) := by decide +kernel
theorem dX10_gained_16 : decode cX10_gained 16 = .ok (.iload_n 2, 1) := by decide +kernel
theorem dX10_gained_17 : decode cX10_gained 17 = .ok (.bipush 10, 2) := by decide +kernel
theorem dX10_gained_19 : decode cX10_gained 19 = .ok (.if_icmp .lt 7, 3) := by decide +kernel
theorem dX10_gained_22 : decode cX10_gained 22 = .ok (.iconst (-1), 1) := by decide +kernel
theorem dX10_gained_23 : decode cX10_gained 23 = .ok (.goto 4, 3) := by decide +kernel
theorem dX10_gained_26 : decode cX10_gained 26 = .ok (.iconst 0, 1) := by decide +kernel
theorem dX10_gained_27 : decode cX10_gained 27 = .ok (.ireturn, 1) := by decide +kernel
theorem dX10_gained_28 : decode cX10_gained 28 = .ok (.aload_n 0, 1) := by decide +kernel
theorem dX10_gained_29 : decode cX10_gained 29 = .ok (.getfield 34, 3) := by decide +kernel
theorem dX10_gained_32 : decode cX10_gained 32 = .ok (.iconst 0, 1) := by decide +kernel
theorem dX10_gained_33 : decode cX10_gained 33 = .ok (.iload_n 2, 1) := by decide +kernel
theorem dX10_gained_34 : decode cX10_gained 34 = .ok (.iastore, 1) := by decide +kernel
theorem dX10_gained_35 : decode cX10_gained 35 = .ok (.aload_n 0, 1) := by decide +kernel
theorem dX10_gained_36 : decode cX10_gained 36 = .ok (.getfield 34, 3) := by decide +kernel
theorem dX10_gained_39 : decode cX10_gained 39 = .ok (.iconst 1, 1) := by decide +kernel
theorem dX10_gained_40 : decode cX10_gained 40 = .ok (.aload_n 0, 1) := by decide +kernel
theorem dX10_gained_41 : decode cX10_gained 41 = .ok (.getfield 40, 3) := by decide +kernel
theorem dX10_gained_44 : decode cX10_gained 44 = .ok (.iload_n 1, 1) := by decide +kernel
theorem dX10_gained_45 : decode cX10_gained 45 = .ok (.iaload, 1) := by decide +kernel
theorem dX10_gained_46 : decode cX10_gained 46 = .ok (.invokestatic 218, 3) := by decide +kernel
theorem dX10_gained_49 : decode cX10_gained 49 = .ok (.iastore, 1) := by decide +kernel
theorem dX10_gained_50 : decode cX10_gained 50 = .ok (.aload_n 0, 1) := by decide +kernel
theorem dX10_gained_51 : decode cX10_gained 51 = .ok (.getfield 34, 3) := by decide +kernel
theorem dX10_gained_54 : decode cX10_gained 54 = .ok (.iconst 2, 1) := by decide +kernel
theorem dX10_gained_55 : decode cX10_gained 55 = .ok (.aload_n 0, 1) := by decide +kernel
theorem dX10_gained_56 : decode cX10_gained 56 = .ok (.getfield 9, 3) := by decide +kernel
theorem dX10_gained_59 : decode cX10_gained 59 = .ok (.iload_n 1, 1) := by decide +kernel
theorem dX10_gained_60 : decode cX10_gained 60 = .ok (.iaload, 1) := by decide +kernel
theorem dX10_gained_61 : decode cX10_gained 61 = .ok (.iastore, 1) := by decide +kernel
theorem dX10_gained_62 : decode cX10_gained 62 = .ok (.aload_n 0, 1) := by decide +kernel
theorem dX10_gained_63 : decode cX10_gained 63 = .ok (.getfield 34, 3) := by decide +kernel
theorem dX10_gained_66 : decode cX10_gained 66 = .ok (.iconst 3, 1) := by decide +kernel
theorem dX10_gained_67 : decode cX10_gained 67 = .ok (.aload_n 0, 1) := by decide +kernel
theorem dX10_gained_68 : decode cX10_gained 68 = .ok (.getfield 9, 3) := by decide +kernel
theorem dX10_gained_71 : decode cX10_gained 71 = .ok (.iconst 5, 1) := by decide +kernel
theorem dX10_gained_72 : decode cX10_gained 72 = .ok (.iload_n 1, 1) := by decide +kernel
theorem dX10_gained_73 : decode cX10_gained 73 = .ok (.iadd, 1) := by decide +kernel
theorem dX10_gained_74 : decode cX10_gained 74 = .ok (.iaload, 1) := by decide +kernel
theorem dX10_gained_75 : decode cX10_gained 75 = .ok (.iastore, 1) := by decide +kernel
theorem dX10_gained_76 : decode cX10_gained 76 = .ok (.aload_n 0, 1) := by decide +kernel
theorem dX10_gained_77 : decode cX10_gained 77 = .ok (.getfield 34, 3) := by decide +kernel
theorem dX10_gained_80 : decode cX10_gained 80 = .ok (.iconst 4, 1) := by decide +kernel
theorem dX10_gained_81 : decode cX10_gained 81 = .ok (.iload_n 3, 1) := by decide +kernel
theorem dX10_gained_82 : decode cX10_gained 82 = .ok (.iastore, 1) := by decide +kernel
theorem dX10_gained_83 : decode cX10_gained 83 = .ok (.aload_n 0, 1) := by decide +kernel
theorem dX10_gained_84 : decode cX10_gained 84 = .ok (.getfield 34, 3) := by decide +kernel
theorem dX10_gained_87 : decode cX10_gained 87 = .ok (.iconst 5, 1) := by decide +kernel
theorem dX10_gained_88 : decode cX10_gained 88 = .ok (.aload_n 0, 1) := by decide +kernel
theorem dX10_gained_89 : decode cX10_gained 89 = .ok (.getfield 43, 3) := by decide +kernel
theorem dX10_gained_92 : decode cX10_gained 92 = .ok (.iload_n 1, 1) := by decide +kernel
theorem dX10_gained_93 : decode cX10_gained 93 = .ok (.iaload, 1) := by decide +kernel
theorem dX10_gained_94 : decode cX10_gained 94 = .ok (.iastore, 1) := by decide +kernel
theorem dX10_gained_95 : decode cX10_gained 95 = .ok (.aload_n 0, 1) := by decide +kernel
theorem dX10_gained_96 : decode cX10_gained 96 = .ok (.iconst 0, 1) := by decide +kernel
theorem dX10_gained_97 : decode cX10_gained 97 = .ok (.aload_n 0, 1) := by decide +kernel
theorem dX10_gained_98 : decode cX10_gained 98 = .ok (.getfield 88, 3) := by decide +kernel
theorem dX10_gained_101 : decode cX10_gained 101 = .ok (.invokevirtual 211, 3) := by decide +kernel
theorem dX10_gained_104 : decode cX10_gained 104 = .ok (.istore 4, 2) := by decide +kernel
theorem dX10_gained_106 : decode cX10_gained 106 = .ok (.iload 4, 2) := by decide +kernel
theorem dX10_gained_108 : decode cX10_gained 108 = .ok (.bipush (-9), 2) := by decide +kernel
theorem dX10_gained_110 : decode cX10_gained 110 = .ok (.if_icmp .ge 8, 3) := by decide +kernel
theorem dX10_gained_113 : decode cX10_gained 113 = .ok (.bipush (-9), 2) := by decide +kernel
theorem dX10_gained_115 : decode cX10_gained 115 = .ok (.goto 17, 3) := by decide +kernel
theorem dX10_gained_118 : decode cX10_gained 118 = .ok (.iload 4, 2) := by decide +kernel
theorem dX10_gained_120 : decode cX10_gained 120 = .ok (.bipush 9, 2) := by decide +kernel
theorem dX10_gained_122 : decode cX10_gained 122 = .ok (.if_icmp .le 8, 3) := by decide +kernel
theorem dX10_gained_125 : decode cX10_gained 125 = .ok (.bipush 9, 2) := by decide +kernel
theorem dX10_gained_127 : decode cX10_gained 127 = .ok (.goto 5, 3) := by decide +kernel
theorem dX10_gained_130 : decode cX10_gained 130 = .ok (.iload 4, 2) := by decide +kernel
theorem dX10_gained_132 : decode cX10_gained 132 = .ok (.ireturn, 1) := by decide +kernel
theorem dX10_becomesPace_0 : decode cX10_becomesPace 0 = .ok (.iload_n 2, 1) := by decide +kernel
theorem dX10_becomesPace_1 : decode cX10_becomesPace 1 = .ok (.ifCond .ge 7, 3) := by decide +kernel
theorem dX10_becomesPace_4 : decode cX10_becomesPace 4 = .ok (.iconst 0, 1) := by decide +kernel
theorem dX10_becomesPace_5 : decode cX10_becomesPace 5 = .ok (.goto 15, 3) := by decide +kernel
theorem dX10_becomesPace_8 : decode cX10_becomesPace 8 = .ok (.iload_n 2, 1) := by decide +kernel
theorem dX10_becomesPace_9 : decode cX10_becomesPace 9 = .ok (.bipush 9, 2) := by decide +kernel
theorem dX10_becomesPace_11 : decode cX10_becomesPace 11 = .ok (.if_icmp .le 8, 3) := by decide +kernel
theorem dX10_becomesPace_14 : decode cX10_becomesPace 14 = .ok (.bipush 9, 2) := by decide +kernel
theorem dX10_becomesPace_16 : decode cX10_becomesPace 16 = .ok (.goto 4, 3) := by decide +kernel
theorem dX10_becomesPace_19 : decode cX10_becomesPace 19 = .ok (.iload_n 2, 1) := by decide +kernel
theorem dX10_becomesPace_20 : decode cX10_becomesPace 20 = .ok (.istore_n 3, 1) := by decide +kernel
theorem dX10_becomesPace_21 : decode cX10_becomesPace 21 = .ok (.aload_n 0, 1) := by decide +kernel
theorem dX10_becomesPace_22 : decode cX10_becomesPace 22 = .ok (.getfield 40, 3) := by decide +kernel
theorem dX10_becomesPace_25 : decode cX10_becomesPace 25 = .ok (.iload_n 1, 1) := by decide +kernel
theorem dX10_becomesPace_26 : decode cX10_becomesPace 26 = .ok (.aload_n 0, 1) := by decide +kernel
theorem dX10_becomesPace_27 : decode cX10_becomesPace 27 = .ok (.getfield 40, 3) := by decide +kernel
theorem dX10_becomesPace_30 : decode cX10_becomesPace 30 = .ok (.iload_n 1, 1) := by decide +kernel
theorem dX10_becomesPace_31 : decode cX10_becomesPace 31 = .ok (.iaload, 1) := by decide +kernel
theorem dX10_becomesPace_32 : decode cX10_becomesPace 32 = .ok (.ifCond .ge 8, 3) := by decide +kernel
theorem dX10_becomesPace_35 : decode cX10_becomesPace 35 = .ok (.iload_n 3, 1) := by decide +kernel
theorem dX10_becomesPace_36 : decode cX10_becomesPace 36 = .ok (.ineg, 1) := by decide +kernel
theorem dX10_becomesPace_37 : decode cX10_becomesPace 37 = .ok (.goto 4, 3) := by decide +kernel
theorem dX10_becomesPace_40 : decode cX10_becomesPace 40 = .ok (.iload_n 3, 1) := by decide +kernel
theorem dX10_becomesPace_41 : decode cX10_becomesPace 41 = .ok (.iastore, 1) := by decide +kernel
theorem dX10_becomesPace_42 : decode cX10_becomesPace 42 = .ok (.return_, 1) := by decide +kernel
theorem dX10_pushes_0 : decode cX10_pushes 0 = .ok (.iconst 0, 1) := by decide +kernel
theorem dX10_pushes_1 : decode cX10_pushes 1 = .ok (.istore_n 3, 1) := by decide +kernel
theorem dX10_pushes_2 : decode cX10_pushes 2 = .ok (.iload_n 3, 1) := by decide +kernel
theorem dX10_pushes_3 : decode cX10_pushes 3 = .ok (.aload_n 0, 1) := by decide +kernel
theorem dX10_pushes_4 : decode cX10_pushes 4 = .ok (.getfield 109, 3) := by decide +kernel
theorem dX10_pushes_7 : decode cX10_pushes 7 = .ok (.if_icmp .ge 69, 3) := by decide +kernel
theorem dX10_pushes_10 : decode cX10_pushes 10 = .ok (.aload_n 0, 1) := by decide +kernel
theorem dX10_pushes_11 : decode cX10_pushes 11 = .ok (.getfield 43, 3) := by decide +kernel
theorem dX10_pushes_14 : decode cX10_pushes 14 = .ok (.iload_n 3, 1) := by decide +kernel
theorem dX10_pushes_15 : decode cX10_pushes 15 = .ok (.iaload, 1) := by decide +kernel
theorem dX10_pushes_16 : decode cX10_pushes 16 = .ok (.ifCond .le 54, 3) := by decide +kernel
theorem dX10_pushes_19 : decode cX10_pushes 19 = .ok (.aload_n 0, 1) := by decide +kernel
theorem dX10_pushes_20 : decode cX10_pushes 20 = .ok (.getfield 37, 3) := by decide +kernel
theorem dX10_pushes_23 : decode cX10_pushes 23 = .ok (.iload_n 3, 1) := by decide +kernel
theorem dX10_pushes_24 : decode cX10_pushes 24 = .ok (.iaload, 1) := by decide +kernel
theorem dX10_pushes_25 : decode cX10_pushes 25 = .ok (.iload_n 1, 1) := by decide +kernel
theorem dX10_pushes_26 : decode cX10_pushes 26 = .ok (.isub, 1) := by decide +kernel
theorem dX10_pushes_27 : decode cX10_pushes 27 = .ok (.invokestatic 218, 3) := by decide +kernel
theorem dX10_pushes_30 : decode cX10_pushes 30 = .ok (.istore 4, 2) := by decide +kernel
theorem dX10_pushes_32 : decode cX10_pushes 32 = .ok (.aload_n 0, 1) := by decide +kernel
theorem dX10_pushes_33 : decode cX10_pushes 33 = .ok (.iload_n 3, 1) := by decide +kernel
theorem dX10_pushes_34 : decode cX10_pushes 34 = .ok (.aload_n 0, 1) := by decide +kernel
theorem dX10_pushes_35 : decode cX10_pushes 35 = .ok (.getfield 40, 3) := by decide +kernel
theorem dX10_pushes_38 : decode cX10_pushes 38 = .ok (.iload_n 3, 1) := by decide +kernel
theorem dX10_pushes_39 : decode cX10_pushes 39 = .ok (.iaload, 1) := by decide +kernel
theorem dX10_pushes_40 : decode cX10_pushes 40 = .ok (.invokestatic 218, 3) := by decide +kernel
theorem dX10_pushes_43 : decode cX10_pushes 43 = .ok (.aload_n 0, 1) := by decide +kernel
theorem dX10_pushes_44 : decode cX10_pushes 44 = .ok (.iload_n 3, 1) := by decide +kernel
theorem dX10_pushes_45 : decode cX10_pushes 45 = .ok (.iload 4, 2) := by decide +kernel
theorem dX10_pushes_47 : decode cX10_pushes 47 = .ok (.bipush 12, 2) := by decide +kernel
theorem dX10_pushes_49 : decode cX10_pushes 49 = .ok (.if_icmp .le 11, 3) := by decide +kernel
theorem dX10_pushes_52 : decode cX10_pushes 52 = .ok (.bipush 24, 2) := by decide +kernel
theorem dX10_pushes_54 : decode cX10_pushes 54 = .ok (.iload 4, 2) := by decide +kernel
theorem dX10_pushes_56 : decode cX10_pushes 56 = .ok (.isub, 1) := by decide +kernel
theorem dX10_pushes_57 : decode cX10_pushes 57 = .ok (.goto 5, 3) := by decide +kernel
theorem dX10_pushes_60 : decode cX10_pushes 60 = .ok (.iload 4, 2) := by decide +kernel
theorem dX10_pushes_62 : decode cX10_pushes 62 = .ok (.iload_n 2, 1) := by decide +kernel
theorem dX10_pushes_63 : decode cX10_pushes 63 = .ok (.invokevirtual 221, 3) := by decide +kernel
theorem dX10_pushes_66 : decode cX10_pushes 66 = .ok (.iadd, 1) := by decide +kernel
theorem dX10_pushes_67 : decode cX10_pushes 67 = .ok (.invokevirtual 225, 3) := by decide +kernel
theorem dX10_pushes_70 : decode cX10_pushes 70 = .ok (.iinc 3 1, 3) := by decide +kernel
theorem dX10_pushes_73 : decode cX10_pushes 73 = .ok (.goto (-71), 3) := by decide +kernel
theorem dX10_pushes_76 : decode cX10_pushes 76 = .ok (.return_, 1) := by decide +kernel
theorem dX10_turns_0 : decode cX10_turns 0 = .ok (.iconst 0, 1) := by decide +kernel
theorem dX10_turns_1 : decode cX10_turns 1 = .ok (.istore_n 2, 1) := by decide +kernel
theorem dX10_turns_2 : decode cX10_turns 2 = .ok (.iload_n 2, 1) := by decide +kernel
theorem dX10_turns_3 : decode cX10_turns 3 = .ok (.aload_n 0, 1) := by decide +kernel
theorem dX10_turns_4 : decode cX10_turns 4 = .ok (.getfield 109, 3) := by decide +kernel
theorem dX10_turns_7 : decode cX10_turns 7 = .ok (.if_icmp .ge 80, 3) := by decide +kernel
theorem dX10_turns_10 : decode cX10_turns 10 = .ok (.aload_n 0, 1) := by decide +kernel
theorem dX10_turns_11 : decode cX10_turns 11 = .ok (.getfield 43, 3) := by decide +kernel
theorem dX10_turns_14 : decode cX10_turns 14 = .ok (.iload_n 2, 1) := by decide +kernel
theorem dX10_turns_15 : decode cX10_turns 15 = .ok (.iaload, 1) := by decide +kernel
theorem dX10_turns_16 : decode cX10_turns 16 = .ok (.ifCond .le 65, 3) := by decide +kernel
theorem dX10_turns_19 : decode cX10_turns 19 = .ok (.iload_n 1, 1) := by decide +kernel
theorem dX10_turns_20 : decode cX10_turns 20 = .ok (.iconst 1, 1) := by decide +kernel
theorem dX10_turns_21 : decode cX10_turns 21 = .ok (.iadd, 1) := by decide +kernel
theorem dX10_turns_22 : decode cX10_turns 22 = .ok (.aload_n 0, 1) := by decide +kernel
theorem dX10_turns_23 : decode cX10_turns 23 = .ok (.getfield 9, 3) := by decide +kernel
theorem dX10_turns_26 : decode cX10_turns 26 = .ok (.iconst 5, 1) := by decide +kernel
theorem dX10_turns_27 : decode cX10_turns 27 = .ok (.iload_n 2, 1) := by decide +kernel
theorem dX10_turns_28 : decode cX10_turns 28 = .ok (.iadd, 1) := by decide +kernel
theorem dX10_turns_29 : decode cX10_turns 29 = .ok (.iaload, 1) := by decide +kernel
theorem dX10_turns_30 : decode cX10_turns 30 = .ok (.irem, 1) := by decide +kernel
theorem dX10_turns_31 : decode cX10_turns 31 = .ok (.ifCond .ne 25, 3) := by decide +kernel
theorem dX10_turns_34 : decode cX10_turns 34 = .ok (.aload_n 0, 1) := by decide +kernel
theorem dX10_turns_35 : decode cX10_turns 35 = .ok (.iload_n 2, 1) := by decide +kernel
theorem dX10_turns_36 : decode cX10_turns 36 = .ok (.aload_n 0, 1) := by decide +kernel
theorem dX10_turns_37 : decode cX10_turns 37 = .ok (.getfield 40, 3) := by decide +kernel
theorem dX10_turns_40 : decode cX10_turns 40 = .ok (.iload_n 2, 1) := by decide +kernel
theorem dX10_turns_41 : decode cX10_turns 41 = .ok (.iaload, 1) := by decide +kernel
theorem dX10_turns_42 : decode cX10_turns 42 = .ok (.invokestatic 218, 3) := by decide +kernel
theorem dX10_turns_45 : decode cX10_turns 45 = .ok (.aload_n 0, 1) := by decide +kernel
theorem dX10_turns_46 : decode cX10_turns 46 = .ok (.getfield 9, 3) := by decide +kernel
theorem dX10_turns_49 : decode cX10_turns 49 = .ok (.bipush 15, 2) := by decide +kernel
theorem dX10_turns_51 : decode cX10_turns 51 = .ok (.iaload, 1) := by decide +kernel
theorem dX10_turns_52 : decode cX10_turns 52 = .ok (.isub, 1) := by decide +kernel
theorem dX10_turns_53 : decode cX10_turns 53 = .ok (.invokevirtual 225, 3) := by decide +kernel
theorem dX10_turns_56 : decode cX10_turns 56 = .ok (.aload_n 0, 1) := by decide +kernel
theorem dX10_turns_57 : decode cX10_turns 57 = .ok (.getfield 37, 3) := by decide +kernel
theorem dX10_turns_60 : decode cX10_turns 60 = .ok (.iload_n 2, 1) := by decide +kernel
theorem dX10_turns_61 : decode cX10_turns 61 = .ok (.aload_n 0, 1) := by decide +kernel
theorem dX10_turns_62 : decode cX10_turns 62 = .ok (.getfield 37, 3) := by decide +kernel
theorem dX10_turns_65 : decode cX10_turns 65 = .ok (.iload_n 2, 1) := by decide +kernel
theorem dX10_turns_66 : decode cX10_turns 66 = .ok (.iaload, 1) := by decide +kernel
theorem dX10_turns_67 : decode cX10_turns 67 = .ok (.aload_n 0, 1) := by decide +kernel
theorem dX10_turns_68 : decode cX10_turns 68 = .ok (.getfield 40, 3) := by decide +kernel
theorem dX10_turns_71 : decode cX10_turns 71 = .ok (.iload_n 2, 1) := by decide +kernel
theorem dX10_turns_72 : decode cX10_turns 72 = .ok (.iaload, 1) := by decide +kernel
theorem dX10_turns_73 : decode cX10_turns 73 = .ok (.iadd, 1) := by decide +kernel
theorem dX10_turns_74 : decode cX10_turns 74 = .ok (.bipush 24, 2) := by decide +kernel
theorem dX10_turns_76 : decode cX10_turns 76 = .ok (.iadd, 1) := by decide +kernel
theorem dX10_turns_77 : decode cX10_turns 77 = .ok (.bipush 24, 2) := by decide +kernel
theorem dX10_turns_79 : decode cX10_turns 79 = .ok (.irem, 1) := by decide +kernel
theorem dX10_turns_80 : decode cX10_turns 80 = .ok (.iastore, 1) := by decide +kernel
theorem dX10_turns_81 : decode cX10_turns 81 = .ok (.iinc 2 1, 3) := by decide +kernel
theorem dX10_turns_84 : decode cX10_turns 84 = .ok (.goto (-82), 3) := by decide +kernel
theorem dX10_turns_87 : decode cX10_turns 87 = .ok (.iconst 0, 1) := by decide +kernel
theorem dX10_turns_88 : decode cX10_turns 88 = .ok (.istore_n 2, 1) := by decide +kernel
theorem dX10_turns_89 : decode cX10_turns 89 = .ok (.iload_n 2, 1) := by decide +kernel
theorem dX10_turns_90 : decode cX10_turns 90 = .ok (.aload_n 0, 1) := by decide +kernel
theorem dX10_turns_91 : decode cX10_turns 91 = .ok (.getfield 109, 3) := by decide +kernel
theorem dX10_turns_94 : decode cX10_turns 94 = .ok (.if_icmp .ge 92, 3) := by decide +kernel
theorem dX10_turns_97 : decode cX10_turns 97 = .ok (.iload_n 2, 1) := by decide +kernel
theorem dX10_turns_98 : decode cX10_turns 98 = .ok (.iconst 1, 1) := by decide +kernel
theorem dX10_turns_99 : decode cX10_turns 99 = .ok (.iadd, 1) := by decide +kernel
theorem dX10_turns_100 : decode cX10_turns 100 = .ok (.istore_n 3, 1) := by decide +kernel
theorem dX10_turns_101 : decode cX10_turns 101 = .ok (.iload_n 3, 1) := by decide +kernel
theorem dX10_turns_102 : decode cX10_turns 102 = .ok (.aload_n 0, 1) := by decide +kernel
theorem dX10_turns_103 : decode cX10_turns 103 = .ok (.getfield 109, 3) := by decide +kernel
theorem dX10_turns_106 : decode cX10_turns 106 = .ok (.if_icmp .ge 74, 3) := by decide +kernel
theorem dX10_turns_109 : decode cX10_turns 109 = .ok (.aload_n 0, 1) := by decide +kernel
theorem dX10_turns_110 : decode cX10_turns 110 = .ok (.getfield 43, 3) := by decide +kernel
theorem dX10_turns_113 : decode cX10_turns 113 = .ok (.iload_n 2, 1) := by decide +kernel
theorem dX10_turns_114 : decode cX10_turns 114 = .ok (.iaload, 1) := by decide +kernel
theorem dX10_turns_115 : decode cX10_turns 115 = .ok (.ifCond .le 59, 3) := by decide +kernel
theorem dX10_turns_118 : decode cX10_turns 118 = .ok (.aload_n 0, 1) := by decide +kernel
theorem dX10_turns_119 : decode cX10_turns 119 = .ok (.getfield 43, 3) := by decide +kernel
theorem dX10_turns_122 : decode cX10_turns 122 = .ok (.iload_n 3, 1) := by decide +kernel
theorem dX10_turns_123 : decode cX10_turns 123 = .ok (.iaload, 1) := by decide +kernel
theorem dX10_turns_124 : decode cX10_turns 124 = .ok (.ifCond .le 50, 3) := by decide +kernel
theorem dX10_turns_127 : decode cX10_turns 127 = .ok (.aload_n 0, 1) := by decide +kernel
theorem dX10_turns_128 : decode cX10_turns 128 = .ok (.getfield 37, 3) := by decide +kernel
theorem dX10_turns_131 : decode cX10_turns 131 = .ok (.iload_n 2, 1) := by decide +kernel
theorem dX10_turns_132 : decode cX10_turns 132 = .ok (.iaload, 1) := by decide +kernel
theorem dX10_turns_133 : decode cX10_turns 133 = .ok (.aload_n 0, 1) := by decide +kernel
theorem dX10_turns_134 : decode cX10_turns 134 = .ok (.getfield 37, 3) := by decide +kernel
theorem dX10_turns_137 : decode cX10_turns 137 = .ok (.iload_n 3, 1) := by decide +kernel
theorem dX10_turns_138 : decode cX10_turns 138 = .ok (.iaload, 1) := by decide +kernel
theorem dX10_turns_139 : decode cX10_turns 139 = .ok (.if_icmp .ne 35, 3) := by decide +kernel
theorem dX10_turns_142 : decode cX10_turns 142 = .ok (.aload_n 0, 1) := by decide +kernel
theorem dX10_turns_143 : decode cX10_turns 143 = .ok (.iload_n 2, 1) := by decide +kernel
theorem dX10_turns_144 : decode cX10_turns 144 = .ok (.aload_n 0, 1) := by decide +kernel
theorem dX10_turns_145 : decode cX10_turns 145 = .ok (.getfield 40, 3) := by decide +kernel
theorem dX10_turns_148 : decode cX10_turns 148 = .ok (.iload_n 2, 1) := by decide +kernel
theorem dX10_turns_149 : decode cX10_turns 149 = .ok (.iaload, 1) := by decide +kernel
theorem dX10_turns_150 : decode cX10_turns 150 = .ok (.invokestatic 218, 3) := by decide +kernel
theorem dX10_turns_153 : decode cX10_turns 153 = .ok (.iconst 1, 1) := by decide +kernel
theorem dX10_turns_154 : decode cX10_turns 154 = .ok (.isub, 1) := by decide +kernel
theorem dX10_turns_155 : decode cX10_turns 155 = .ok (.invokevirtual 225, 3) := by decide +kernel
theorem dX10_turns_158 : decode cX10_turns 158 = .ok (.aload_n 0, 1) := by decide +kernel
theorem dX10_turns_159 : decode cX10_turns 159 = .ok (.iload_n 3, 1) := by decide +kernel
theorem dX10_turns_160 : decode cX10_turns 160 = .ok (.aload_n 0, 1) := by decide +kernel
theorem dX10_turns_161 : decode cX10_turns 161 = .ok (.getfield 40, 3) := by decide +kernel
theorem dX10_turns_164 : decode cX10_turns 164 = .ok (.iload_n 3, 1) := by decide +kernel
theorem dX10_turns_165 : decode cX10_turns 165 = .ok (.iaload, 1) := by decide +kernel
theorem dX10_turns_166 : decode cX10_turns 166 = .ok (.invokestatic 218, 3) := by decide +kernel
theorem dX10_turns_169 : decode cX10_turns 169 = .ok (.iconst 1, 1) := by decide +kernel
theorem dX10_turns_170 : decode cX10_turns 170 = .ok (.isub, 1) := by decide +kernel
theorem dX10_turns_171 : decode cX10_turns 171 = .ok (.invokevirtual 225, 3) := by decide +kernel
theorem dX10_turns_174 : decode cX10_turns 174 = .ok (.iinc 3 1, 3) := by decide +kernel
theorem dX10_turns_177 : decode cX10_turns 177 = .ok (.goto (-76), 3) := by decide +kernel
theorem dX10_turns_180 : decode cX10_turns 180 = .ok (.iinc 2 1, 3) := by decide +kernel
theorem dX10_turns_183 : decode cX10_turns 183 = .ok (.goto (-94), 3) := by decide +kernel
theorem dX10_turns_186 : decode cX10_turns 186 = .ok (.iconst 0, 1) := by decide +kernel
theorem dX10_turns_187 : decode cX10_turns 187 = .ok (.istore_n 2, 1) := by decide +kernel
theorem dX10_turns_188 : decode cX10_turns 188 = .ok (.iload_n 2, 1) := by decide +kernel
theorem dX10_turns_189 : decode cX10_turns 189 = .ok (.aload_n 0, 1) := by decide +kernel
theorem dX10_turns_190 : decode cX10_turns 190 = .ok (.getfield 109, 3) := by decide +kernel
theorem dX10_turns_193 : decode cX10_turns 193 = .ok (.if_icmp .ge 106, 3) := by decide +kernel
theorem dX10_turns_196 : decode cX10_turns 196 = .ok (.aload_n 0, 1) := by decide +kernel
theorem dX10_turns_197 : decode cX10_turns 197 = .ok (.getfield 43, 3) := by decide +kernel
theorem dX10_turns_200 : decode cX10_turns 200 = .ok (.iload_n 2, 1) := by decide +kernel
theorem dX10_turns_201 : decode cX10_turns 201 = .ok (.iaload, 1) := by decide +kernel
theorem dX10_turns_202 : decode cX10_turns 202 = .ok (.ifCond .le 91, 3) := by decide +kernel
theorem dX10_turns_205 : decode cX10_turns 205 = .ok (.aload_n 0, 1) := by decide +kernel
theorem dX10_turns_206 : decode cX10_turns 206 = .ok (.getfield 40, 3) := by decide +kernel
theorem dX10_turns_209 : decode cX10_turns 209 = .ok (.iload_n 2, 1) := by decide +kernel
theorem dX10_turns_210 : decode cX10_turns 210 = .ok (.iaload, 1) := by decide +kernel
theorem dX10_turns_211 : decode cX10_turns 211 = .ok (.invokestatic 218, 3) := by decide +kernel
theorem dX10_turns_214 : decode cX10_turns 214 = .ok (.aload_n 0, 1) := by decide +kernel
theorem dX10_turns_215 : decode cX10_turns 215 = .ok (.iload_n 2, 1) := by decide +kernel
theorem dX10_turns_216 : decode cX10_turns 216 = .ok (.invokevirtual 145, 3) := by decide +kernel
theorem dX10_turns_219 : decode cX10_turns 219 = .ok (.if_icmp .lt 14, 3) := by decide +kernel
theorem dX10_turns_222 : decode cX10_turns 222 = .ok (.aload_n 0, 1) := by decide +kernel
theorem dX10_turns_223 : decode cX10_turns 223 = .ok (.getfield 43, 3) := by decide +kernel
theorem dX10_turns_226 : decode cX10_turns 226 = .ok (.iload_n 2, 1) := by decide +kernel
theorem dX10_turns_227 : decode cX10_turns 227 = .ok (.iaload, 1) := by decide +kernel
theorem dX10_turns_228 : decode cX10_turns 228 = .ok (.iconst 1, 1) := by decide +kernel
theorem dX10_turns_229 : decode cX10_turns 229 = .ok (.iadd, 1) := by decide +kernel
theorem dX10_turns_230 : decode cX10_turns 230 = .ok (.goto 11, 3) := by decide +kernel
theorem dX10_turns_233 : decode cX10_turns 233 = .ok (.aload_n 0, 1) := by decide +kernel
theorem dX10_turns_234 : decode cX10_turns 234 = .ok (.getfield 43, 3) := by decide +kernel
theorem dX10_turns_237 : decode cX10_turns 237 = .ok (.iload_n 2, 1) := by decide +kernel
theorem dX10_turns_238 : decode cX10_turns 238 = .ok (.iaload, 1) := by decide +kernel
theorem dX10_turns_239 : decode cX10_turns 239 = .ok (.iconst 2, 1) := by decide +kernel
theorem dX10_turns_240 : decode cX10_turns 240 = .ok (.isub, 1) := by decide +kernel
theorem dX10_turns_241 : decode cX10_turns 241 = .ok (.istore_n 3, 1) := by decide +kernel
theorem dX10_turns_242 : decode cX10_turns 242 = .ok (.aload_n 0, 1) := by decide +kernel
theorem dX10_turns_243 : decode cX10_turns 243 = .ok (.getfield 43, 3) := by decide +kernel
theorem dX10_turns_246 : decode cX10_turns 246 = .ok (.iload_n 2, 1) := by decide +kernel
theorem dX10_turns_247 : decode cX10_turns 247 = .ok (.iload_n 3, 1) := by decide +kernel
theorem dX10_turns_248 : decode cX10_turns 248 = .ok (.bipush 20, 2) := by decide +kernel
theorem dX10_turns_250 : decode cX10_turns 250 = .ok (.if_icmp .le 8, 3) := by decide +kernel
theorem dX10_turns_253 : decode cX10_turns 253 = .ok (.bipush 20, 2) := by decide +kernel
theorem dX10_turns_255 : decode cX10_turns 255 = .ok (.goto 12, 3) := by decide +kernel
theorem dX10_turns_258 : decode cX10_turns 258 = .ok (.iload_n 3, 1) := by decide +kernel
theorem dX10_turns_259 : decode cX10_turns 259 = .ok (.ifCond .ge 7, 3) := by decide +kernel
theorem dX10_turns_262 : decode cX10_turns 262 = .ok (.iconst 0, 1) := by decide +kernel
theorem dX10_turns_263 : decode cX10_turns 263 = .ok (.goto 4, 3) := by decide +kernel
theorem dX10_turns_266 : decode cX10_turns 266 = .ok (.iload_n 3, 1) := by decide +kernel
theorem dX10_turns_267 : decode cX10_turns 267 = .ok (.iastore, 1) := by decide +kernel
theorem dX10_turns_268 : decode cX10_turns 268 = .ok (.aload_n 0, 1) := by decide +kernel
theorem dX10_turns_269 : decode cX10_turns 269 = .ok (.getfield 40, 3) := by decide +kernel
theorem dX10_turns_272 : decode cX10_turns 272 = .ok (.iload_n 2, 1) := by decide +kernel
theorem dX10_turns_273 : decode cX10_turns 273 = .ok (.aload_n 0, 1) := by decide +kernel
theorem dX10_turns_274 : decode cX10_turns 274 = .ok (.getfield 43, 3) := by decide +kernel
theorem dX10_turns_277 : decode cX10_turns 277 = .ok (.iload_n 2, 1) := by decide +kernel
theorem dX10_turns_278 : decode cX10_turns 278 = .ok (.iaload, 1) := by decide +kernel
theorem dX10_turns_279 : decode cX10_turns 279 = .ok (.ifCond .ne 7, 3) := by decide +kernel
theorem dX10_turns_282 : decode cX10_turns 282 = .ok (.iconst 0, 1) := by decide +kernel
theorem dX10_turns_283 : decode cX10_turns 283 = .ok (.goto 9, 3) := by decide +kernel
theorem dX10_turns_286 : decode cX10_turns 286 = .ok (.aload_n 0, 1) := by decide +kernel
theorem dX10_turns_287 : decode cX10_turns 287 = .ok (.getfield 40, 3) := by decide +kernel
theorem dX10_turns_290 : decode cX10_turns 290 = .ok (.iload_n 2, 1) := by decide +kernel
theorem dX10_turns_291 : decode cX10_turns 291 = .ok (.iaload, 1) := by decide +kernel
theorem dX10_turns_292 : decode cX10_turns 292 = .ok (.iastore, 1) := by decide +kernel
theorem dX10_turns_293 : decode cX10_turns 293 = .ok (.iinc 2 1, 3) := by decide +kernel
theorem dX10_turns_296 : decode cX10_turns 296 = .ok (.goto (-108), 3) := by decide +kernel
theorem dX10_turns_299 : decode cX10_turns 299 = .ok (.return_, 1) := by decide +kernel
theorem dX10_isPush_0 : decode cX10_isPush 0 = .ok (.iload_n 1, 1) := by decide +kernel
theorem dX10_isPush_1 : decode cX10_isPush 1 = .ok (.aload_n 0, 1) := by decide +kernel
theorem dX10_isPush_2 : decode cX10_isPush 2 = .ok (.getfield 9, 3) := by decide +kernel
theorem dX10_isPush_5 : decode cX10_isPush 5 = .ok (.bipush 16, 2) := by decide +kernel
theorem dX10_isPush_7 : decode cX10_isPush 7 = .ok (.iaload, 1) := by decide +kernel
theorem dX10_isPush_8 : decode cX10_isPush 8 = .ok (.irem, 1) := by decide +kernel
theorem dX10_isPush_9 : decode cX10_isPush 9 = .ok (.aload_n 0, 1) := by decide +kernel
theorem dX10_isPush_10 : decode cX10_isPush 10 = .ok (.getfield 9, 3) := by decide +kernel
theorem dX10_isPush_13 : decode cX10_isPush 13 = .ok (.bipush 17, 2) := by decide +kernel
theorem dX10_isPush_15 : decode cX10_isPush 15 = .ok (.iaload, 1) := by decide +kernel
theorem dX10_isPush_16 : decode cX10_isPush 16 = .ok (.aload_n 0, 1) := by decide +kernel
theorem dX10_isPush_17 : decode cX10_isPush 17 = .ok (.getfield 9, 3) := by decide +kernel
theorem dX10_isPush_20 : decode cX10_isPush 20 = .ok (.bipush 16, 2) := by decide +kernel
theorem dX10_isPush_22 : decode cX10_isPush 22 = .ok (.iaload, 1) := by decide +kernel
theorem dX10_isPush_23 : decode cX10_isPush 23 = .ok (.irem, 1) := by decide +kernel
theorem dX10_isPush_24 : decode cX10_isPush 24 = .ok (.if_icmp .ne 7, 3) := by decide +kernel
theorem dX10_isPush_27 : decode cX10_isPush 27 = .ok (.iconst 1, 1) := by decide +kernel
theorem dX10_isPush_28 : decode cX10_isPush 28 = .ok (.goto 4, 3) := by decide +kernel
theorem dX10_isPush_31 : decode cX10_isPush 31 = .ok (.iconst 0, 1) := by decide +kernel
theorem dX10_isPush_32 : decode cX10_isPush 32 = .ok (.ireturn, 1) := by decide +kernel
theorem dX10_toOf_0 : decode cX10_toOf 0 = .ok (.iload_n 1, 1) := by decide +kernel
theorem dX10_toOf_1 : decode cX10_toOf 1 = .ok (.aload_n 0, 1) := by decide +kernel
theorem dX10_toOf_2 : decode cX10_toOf 2 = .ok (.getfield 9, 3) := by decide +kernel
theorem dX10_toOf_5 : decode cX10_toOf 5 = .ok (.bipush 16, 2) := by decide +kernel
theorem dX10_toOf_7 : decode cX10_toOf 7 = .ok (.iaload, 1) := by decide +kernel
theorem dX10_toOf_8 : decode cX10_toOf 8 = .ok (.idiv, 1) := by decide +kernel
theorem dX10_toOf_9 : decode cX10_toOf 9 = .ok (.iconst 2, 1) := by decide +kernel
theorem dX10_toOf_10 : decode cX10_toOf 10 = .ok (.irem, 1) := by decide +kernel
theorem dX10_toOf_11 : decode cX10_toOf 11 = .ok (.ifCond .ne 7, 3) := by decide +kernel
theorem dX10_toOf_14 : decode cX10_toOf 14 = .ok (.iconst 0, 1) := by decide +kernel
theorem dX10_toOf_15 : decode cX10_toOf 15 = .ok (.goto 5, 3) := by decide +kernel
theorem dX10_toOf_18 : decode cX10_toOf 18 = .ok (.bipush 12, 2) := by decide +kernel
theorem dX10_toOf_20 : decode cX10_toOf 20 = .ok (.ireturn, 1) := by decide +kernel
theorem dX10_tickGoes_0 : decode cX10_tickGoes 0 = .ok (.aload_n 0, 1) := by decide +kernel
theorem dX10_tickGoes_1 : decode cX10_tickGoes 1 = .ok (.iload_n 1, 1) := by decide +kernel
theorem dX10_tickGoes_2 : decode cX10_tickGoes 2 = .ok (.invokevirtual 228, 3) := by decide +kernel
theorem dX10_tickGoes_5 : decode cX10_tickGoes 5 = .ok (.ifCond .eq 29, 3) := by decide +kernel
theorem dX10_tickGoes_8 : decode cX10_tickGoes 8 = .ok (.aload_n 0, 1) := by decide +kernel
theorem dX10_tickGoes_9 : decode cX10_tickGoes 9 = .ok (.aload_n 0, 1) := by decide +kernel
theorem dX10_tickGoes_10 : decode cX10_tickGoes 10 = .ok (.iload_n 1, 1) := by decide +kernel
theorem dX10_tickGoes_11 : decode cX10_tickGoes 11 = .ok (.invokevirtual 231, 3) := by decide +kernel
theorem dX10_tickGoes_14 : decode cX10_tickGoes 14 = .ok (.aload_n 0, 1) := by decide +kernel
theorem dX10_tickGoes_15 : decode cX10_tickGoes 15 = .ok (.getfield 9, 3) := by decide +kernel
theorem dX10_tickGoes_18 : decode cX10_tickGoes 18 = .ok (.bipush 18, 2) := by decide +kernel
theorem dX10_tickGoes_20 : decode cX10_tickGoes 20 = .ok (.iaload, 1) := by decide +kernel
theorem dX10_tickGoes_21 : decode cX10_tickGoes 21 = .ok (.invokevirtual 234, 3) := by decide +kernel
theorem dX10_tickGoes_24 : decode cX10_tickGoes 24 = .ok (.aload_n 0, 1) := by decide +kernel
theorem dX10_tickGoes_25 : decode cX10_tickGoes 25 = .ok (.dup, 1) := by decide +kernel
theorem dX10_tickGoes_26 : decode cX10_tickGoes 26 = .ok (.getfield 237, 3) := by decide +kernel
theorem dX10_tickGoes_29 : decode cX10_tickGoes 29 = .ok (.iconst 1, 1) := by decide +kernel
theorem dX10_tickGoes_30 : decode cX10_tickGoes 30 = .ok (.iadd, 1) := by decide +kernel
theorem dX10_tickGoes_31 : decode cX10_tickGoes 31 = .ok (.putfield 237, 3) := by decide +kernel
theorem dX10_tickGoes_34 : decode cX10_tickGoes 34 = .ok (.aload_n 0, 1) := by decide +kernel
theorem dX10_tickGoes_35 : decode cX10_tickGoes 35 = .ok (.iload_n 1, 1) := by decide +kernel
theorem dX10_tickGoes_36 : decode cX10_tickGoes 36 = .ok (.invokevirtual 240, 3) := by decide +kernel
theorem dX10_tickGoes_39 : decode cX10_tickGoes 39 = .ok (.return_, 1) := by decide +kernel
theorem dX10_upNow_0 : decode cX10_upNow 0 = .ok (.iconst 0, 1) := by decide +kernel
theorem dX10_upNow_1 : decode cX10_upNow 1 = .ok (.istore_n 1, 1) := by decide +kernel
theorem dX10_upNow_2 : decode cX10_upNow 2 = .ok (.iconst 0, 1) := by decide +kernel
theorem dX10_upNow_3 : decode cX10_upNow 3 = .ok (.istore_n 2, 1) := by decide +kernel
theorem dX10_upNow_4 : decode cX10_upNow 4 = .ok (.iload_n 2, 1) := by decide +kernel
theorem dX10_upNow_5 : decode cX10_upNow 5 = .ok (.aload_n 0, 1) := by decide +kernel
theorem dX10_upNow_6 : decode cX10_upNow 6 = .ok (.getfield 109, 3) := by decide +kernel
theorem dX10_upNow_9 : decode cX10_upNow 9 = .ok (.if_icmp .ge 28, 3) := by decide +kernel
theorem dX10_upNow_12 : decode cX10_upNow 12 = .ok (.iload_n 1, 1) := by decide +kernel
theorem dX10_upNow_13 : decode cX10_upNow 13 = .ok (.aload_n 0, 1) := by decide +kernel
theorem dX10_upNow_14 : decode cX10_upNow 14 = .ok (.getfield 25, 3) := by decide +kernel
theorem dX10_upNow_17 : decode cX10_upNow 17 = .ok (.iload_n 2, 1) := by decide +kernel
theorem dX10_upNow_18 : decode cX10_upNow 18 = .ok (.iaload, 1) := by decide +kernel
theorem dX10_upNow_19 : decode cX10_upNow 19 = .ok (.ifCond .le 9, 3) := by decide +kernel
theorem dX10_upNow_22 : decode cX10_upNow 22 = .ok (.iconst 1, 1) := by decide +kernel
theorem dX10_upNow_23 : decode cX10_upNow 23 = .ok (.iload_n 2, 1) := by decide +kernel
theorem dX10_upNow_24 : decode cX10_upNow 24 = .ok (.ishl, 1) := by decide +kernel
theorem dX10_upNow_25 : decode cX10_upNow 25 = .ok (.goto 4, 3) := by decide +kernel
theorem dX10_upNow_28 : decode cX10_upNow 28 = .ok (.iconst 0, 1) := by decide +kernel
theorem dX10_upNow_29 : decode cX10_upNow 29 = .ok (.ior, 1) := by decide +kernel
theorem dX10_upNow_30 : decode cX10_upNow 30 = .ok (.istore_n 1, 1) := by decide +kernel
theorem dX10_upNow_31 : decode cX10_upNow 31 = .ok (.iinc 2 1, 3) := by decide +kernel
theorem dX10_upNow_34 : decode cX10_upNow 34 = .ok (.goto (-30), 3) := by decide +kernel
theorem dX10_upNow_37 : decode cX10_upNow 37 = .ok (.iload_n 1, 1) := by decide +kernel
theorem dX10_upNow_38 : decode cX10_upNow 38 = .ok (.ireturn, 1) := by decide +kernel
theorem dX10_lyingOf_0 : decode cX10_lyingOf 0 = .ok (.iconst 0, 1) := by decide +kernel
theorem dX10_lyingOf_1 : decode cX10_lyingOf 1 = .ok (.istore_n 2, 1) := by decide +kernel
theorem dX10_lyingOf_2 : decode cX10_lyingOf 2 = .ok (.iconst 0, 1) := by decide +kernel
theorem dX10_lyingOf_3 : decode cX10_lyingOf 3 = .ok (.istore_n 3, 1) := by decide +kernel
theorem dX10_lyingOf_4 : decode cX10_lyingOf 4 = .ok (.iload_n 3, 1) := by decide +kernel
theorem dX10_lyingOf_5 : decode cX10_lyingOf 5 = .ok (.aload_n 0, 1) := by decide +kernel
theorem dX10_lyingOf_6 : decode cX10_lyingOf 6 = .ok (.getfield 109, 3) := by decide +kernel
theorem dX10_lyingOf_9 : decode cX10_lyingOf 9 = .ok (.if_icmp .ge 34, 3) := by decide +kernel
theorem dX10_lyingOf_12 : decode cX10_lyingOf 12 = .ok (.iload_n 2, 1) := by decide +kernel
theorem dX10_lyingOf_13 : decode cX10_lyingOf 13 = .ok (.iload_n 1, 1) := by decide +kernel
theorem dX10_lyingOf_14 : decode cX10_lyingOf 14 = .ok (.iload_n 3, 1) := by decide +kernel
theorem dX10_lyingOf_15 : decode cX10_lyingOf 15 = .ok (.invokestatic 214, 3) := by decide +kernel
theorem dX10_lyingOf_18 : decode cX10_lyingOf 18 = .ok (.ifCond .eq 16, 3) := by decide +kernel
theorem dX10_lyingOf_21 : decode cX10_lyingOf 21 = .ok (.aload_n 0, 1) := by decide +kernel
theorem dX10_lyingOf_22 : decode cX10_lyingOf 22 = .ok (.getfield 43, 3) := by decide +kernel
theorem dX10_lyingOf_25 : decode cX10_lyingOf 25 = .ok (.iload_n 3, 1) := by decide +kernel
theorem dX10_lyingOf_26 : decode cX10_lyingOf 26 = .ok (.iaload, 1) := by decide +kernel
theorem dX10_lyingOf_27 : decode cX10_lyingOf 27 = .ok (.ifCond .ne 7, 3) := by decide +kernel
theorem dX10_lyingOf_30 : decode cX10_lyingOf 30 = .ok (.iconst 1, 1) := by decide +kernel
theorem dX10_lyingOf_31 : decode cX10_lyingOf 31 = .ok (.goto 4, 3) := by decide +kernel
theorem dX10_lyingOf_34 : decode cX10_lyingOf 34 = .ok (.iconst 0, 1) := by decide +kernel
theorem dX10_lyingOf_35 : decode cX10_lyingOf 35 = .ok (.iadd, 1) := by decide +kernel
theorem dX10_lyingOf_36 : decode cX10_lyingOf 36 = .ok (.istore_n 2, 1) := by decide +kernel
theorem dX10_lyingOf_37 : decode cX10_lyingOf 37 = .ok (.iinc 3 1, 3) := by decide +kernel
theorem dX10_lyingOf_40 : decode cX10_lyingOf 40 = .ok (.goto (-36), 3) := by decide +kernel
theorem dX10_lyingOf_43 : decode cX10_lyingOf 43 = .ok (.iload_n 2, 1) := by decide +kernel
theorem dX10_lyingOf_44 : decode cX10_lyingOf 44 = .ok (.ireturn, 1) := by decide +kernel
theorem dX10_go_0 : decode cX10_go 0 = .ok (.iload_n 1, 1) := by decide +kernel
theorem dX10_go_1 : decode cX10_go 1 = .ok (.i2l, 1) := by decide +kernel
theorem dX10_go_2 : decode cX10_go 2 = .ok (.lconst 1, 1) := by decide +kernel
theorem dX10_go_3 : decode cX10_go 3 = .ok (.ldc2_w 244, 3) := by decide +kernel
theorem dX10_go_6 : decode cX10_go 6 = .ok (.invokestatic 101, 3) := by decide +kernel
theorem dX10_go_9 : decode cX10_go 9 = .ok (.ifCond .ne 5, 3) := by decide +kernel
theorem dX10_go_12 : decode cX10_go 12 = .ok (.iconst (-1), 1) := by decide +kernel
theorem dX10_go_13 : decode cX10_go 13 = .ok (.ireturn, 1) := by decide +kernel
theorem dX10_go_14 : decode cX10_go 14 = .ok (.aload_n 0, 1) := by decide +kernel
theorem dX10_go_15 : decode cX10_go 15 = .ok (.invokevirtual 246, 3) := by decide +kernel
theorem dX10_go_18 : decode cX10_go 18 = .ok (.istore_n 2, 1) := by decide +kernel
theorem dX10_go_19 : decode cX10_go 19 = .ok (.aload_n 0, 1) := by decide +kernel
theorem dX10_go_20 : decode cX10_go 20 = .ok (.iload_n 2, 1) := by decide +kernel
theorem dX10_go_21 : decode cX10_go 21 = .ok (.invokevirtual 249, 3) := by decide +kernel
theorem dX10_go_24 : decode cX10_go 24 = .ok (.aload_n 0, 1) := by decide +kernel
theorem dX10_go_25 : decode cX10_go 25 = .ok (.iconst 0, 1) := by decide +kernel
theorem dX10_go_26 : decode cX10_go 26 = .ok (.putfield 237, 3) := by decide +kernel
theorem dX10_go_29 : decode cX10_go 29 = .ok (.iconst 0, 1) := by decide +kernel
theorem dX10_go_30 : decode cX10_go 30 = .ok (.istore_n 3, 1) := by decide +kernel
theorem dX10_go_31 : decode cX10_go 31 = .ok (.iload_n 3, 1) := by decide +kernel
theorem dX10_go_32 : decode cX10_go 32 = .ok (.iload_n 1, 1) := by decide +kernel
theorem dX10_go_33 : decode cX10_go 33 = .ok (.if_icmp .ge 59, 3) := by decide +kernel
theorem dX10_go_36 : decode cX10_go 36 = .ok (.aload_n 0, 1) := by decide +kernel
theorem dX10_go_37 : decode cX10_go 37 = .ok (.iload_n 2, 1) := by decide +kernel
theorem dX10_go_38 : decode cX10_go 38 = .ok (.invokevirtual 252, 3) := by decide +kernel
theorem dX10_go_41 : decode cX10_go 41 = .ok (.istore 4, 2) := by decide +kernel
theorem dX10_go_43 : decode cX10_go 43 = .ok (.aload_n 0, 1) := by decide +kernel
theorem dX10_go_44 : decode cX10_go 44 = .ok (.aload_n 0, 1) := by decide +kernel
theorem dX10_go_45 : decode cX10_go 45 = .ok (.getfield 151, 3) := by decide +kernel
theorem dX10_go_48 : decode cX10_go 48 = .ok (.invokevirtual 255, 3) := by decide +kernel
theorem dX10_go_51 : decode cX10_go 51 = .ok (.aload_n 0, 1) := by decide +kernel
theorem dX10_go_52 : decode cX10_go 52 = .ok (.aload_n 0, 1) := by decide +kernel
theorem dX10_go_53 : decode cX10_go 53 = .ok (.iload_n 2, 1) := by decide +kernel
theorem dX10_go_54 : decode cX10_go 54 = .ok (.invokevirtual 252, 3) := by decide +kernel
theorem dX10_go_57 : decode cX10_go 57 = .ok (.iload 4, 2) := by decide +kernel
theorem dX10_go_59 : decode cX10_go 59 = .ok (.if_icmp .le 10, 3) := by decide +kernel
theorem dX10_go_62 : decode cX10_go 62 = .ok (.aload_n 0, 1) := by decide +kernel
theorem dX10_go_63 : decode cX10_go 63 = .ok (.getfield 151, 3) := by decide +kernel
theorem dX10_go_66 : decode cX10_go 66 = .ok (.goto 7, 3) := by decide +kernel
theorem dX10_go_69 : decode cX10_go 69 = .ok (.aload_n 0, 1) := by decide +kernel
theorem dX10_go_70 : decode cX10_go 70 = .ok (.getfield 46, 3) := by decide +kernel
theorem dX10_go_73 : decode cX10_go 73 = .ok (.putfield 46, 3) := by decide +kernel
theorem dX10_go_76 : decode cX10_go 76 = .ok (.aload_n 0, 1) := by decide +kernel
theorem dX10_go_77 : decode cX10_go 77 = .ok (.dup, 1) := by decide +kernel
theorem dX10_go_78 : decode cX10_go 78 = .ok (.getfield 151, 3) := by decide +kernel
theorem dX10_go_81 : decode cX10_go 81 = .ok (.iconst 1, 1) := by decide +kernel
theorem dX10_go_82 : decode cX10_go 82 = .ok (.iadd, 1) := by decide +kernel
theorem dX10_go_83 : decode cX10_go 83 = .ok (.putfield 151, 3) := by decide +kernel
theorem dX10_go_86 : decode cX10_go 86 = .ok (.iinc 3 1, 3) := by decide +kernel
theorem dX10_go_89 : decode cX10_go 89 = .ok (.goto (-58), 3) := by decide +kernel
theorem dX10_go_92 : decode cX10_go 92 = .ok (.aload_n 0, 1) := by decide +kernel
theorem dX10_go_93 : decode cX10_go 93 = .ok (.dup, 1) := by decide +kernel
theorem dX10_go_94 : decode cX10_go 94 = .ok (.getfield 258, 3) := by decide +kernel
theorem dX10_go_97 : decode cX10_go 97 = .ok (.aload_n 0, 1) := by decide +kernel
theorem dX10_go_98 : decode cX10_go 98 = .ok (.getfield 237, 3) := by decide +kernel
theorem dX10_go_101 : decode cX10_go 101 = .ok (.iadd, 1) := by decide +kernel
theorem dX10_go_102 : decode cX10_go 102 = .ok (.putfield 258, 3) := by decide +kernel
theorem dX10_go_105 : decode cX10_go 105 = .ok (.iconst 0, 1) := by decide +kernel
theorem dX10_go_106 : decode cX10_go 106 = .ok (.istore_n 3, 1) := by decide +kernel
theorem dX10_go_107 : decode cX10_go 107 = .ok (.iload_n 3, 1) := by decide +kernel
theorem dX10_go_108 : decode cX10_go 108 = .ok (.aload_n 0, 1) := by decide +kernel
theorem dX10_go_109 : decode cX10_go 109 = .ok (.getfield 109, 3) := by decide +kernel
theorem dX10_go_112 : decode cX10_go 112 = .ok (.if_icmp .ge 48, 3) := by decide +kernel
theorem dX10_go_115 : decode cX10_go 115 = .ok (.aload_n 0, 1) := by decide +kernel
theorem dX10_go_116 : decode cX10_go 116 = .ok (.getfield 22, 3) := by decide +kernel
theorem dX10_go_119 : decode cX10_go 119 = .ok (.iload_n 3, 1) := by decide +kernel
theorem dX10_go_120 : decode cX10_go 120 = .ok (.aload_n 0, 1) := by decide +kernel
theorem dX10_go_121 : decode cX10_go 121 = .ok (.getfield 37, 3) := by decide +kernel
theorem dX10_go_124 : decode cX10_go 124 = .ok (.iload_n 3, 1) := by decide +kernel
theorem dX10_go_125 : decode cX10_go 125 = .ok (.iaload, 1) := by decide +kernel
theorem dX10_go_126 : decode cX10_go 126 = .ok (.iastore, 1) := by decide +kernel
theorem dX10_go_127 : decode cX10_go 127 = .ok (.aload_n 0, 1) := by decide +kernel
theorem dX10_go_128 : decode cX10_go 128 = .ok (.getfield 9, 3) := by decide +kernel
theorem dX10_go_131 : decode cX10_go 131 = .ok (.bipush 10, 2) := by decide +kernel
theorem dX10_go_133 : decode cX10_go 133 = .ok (.iload_n 3, 1) := by decide +kernel
theorem dX10_go_134 : decode cX10_go 134 = .ok (.iadd, 1) := by decide +kernel
theorem dX10_go_135 : decode cX10_go 135 = .ok (.aload_n 0, 1) := by decide +kernel
theorem dX10_go_136 : decode cX10_go 136 = .ok (.getfield 40, 3) := by decide +kernel
theorem dX10_go_139 : decode cX10_go 139 = .ok (.iload_n 3, 1) := by decide +kernel
theorem dX10_go_140 : decode cX10_go 140 = .ok (.iaload, 1) := by decide +kernel
theorem dX10_go_141 : decode cX10_go 141 = .ok (.iastore, 1) := by decide +kernel
theorem dX10_go_142 : decode cX10_go 142 = .ok (.aload_n 0, 1) := by decide +kernel
theorem dX10_go_143 : decode cX10_go 143 = .ok (.getfield 25, 3) := by decide +kernel
theorem dX10_go_146 : decode cX10_go 146 = .ok (.iload_n 3, 1) := by decide +kernel
theorem dX10_go_147 : decode cX10_go 147 = .ok (.aload_n 0, 1) := by decide +kernel
theorem dX10_go_148 : decode cX10_go 148 = .ok (.getfield 43, 3) := by decide +kernel
theorem dX10_go_151 : decode cX10_go 151 = .ok (.iload_n 3, 1) := by decide +kernel
theorem dX10_go_152 : decode cX10_go 152 = .ok (.iaload, 1) := by decide +kernel
theorem dX10_go_153 : decode cX10_go 153 = .ok (.iastore, 1) := by decide +kernel
theorem dX10_go_154 : decode cX10_go 154 = .ok (.iinc 3 1, 3) := by decide +kernel
theorem dX10_go_157 : decode cX10_go 157 = .ok (.goto (-50), 3) := by decide +kernel
theorem dX10_go_160 : decode cX10_go 160 = .ok (.aload_n 0, 1) := by decide +kernel
theorem dX10_go_161 : decode cX10_go 161 = .ok (.invokevirtual 246, 3) := by decide +kernel
theorem dX10_go_164 : decode cX10_go 164 = .ok (.invokestatic 261, 3) := by decide +kernel
theorem dX10_go_167 : decode cX10_go 167 = .ok (.ireturn, 1) := by decide +kernel
theorem dX10_lift_0 : decode cX10_lift 0 = .ok (.aload_n 0, 1) := by decide +kernel
theorem dX10_lift_1 : decode cX10_lift 1 = .ok (.iload_n 1, 1) := by decide +kernel
theorem dX10_lift_2 : decode cX10_lift 2 = .ok (.invokevirtual 133, 3) := by decide +kernel
theorem dX10_lift_5 : decode cX10_lift 5 = .ok (.ifCond .ne 5, 3) := by decide +kernel
theorem dX10_lift_8 : decode cX10_lift 8 = .ok (.iconst (-1), 1) := by decide +kernel
theorem dX10_lift_9 : decode cX10_lift 9 = .ok (.ireturn, 1) := by decide +kernel
theorem dX10_lift_10 : decode cX10_lift 10 = .ok (.aload_n 0, 1) := by decide +kernel
theorem dX10_lift_11 : decode cX10_lift 11 = .ok (.getfield 25, 3) := by decide +kernel
theorem dX10_lift_14 : decode cX10_lift 14 = .ok (.iload_n 1, 1) := by decide +kernel
theorem dX10_lift_15 : decode cX10_lift 15 = .ok (.iaload, 1) := by decide +kernel
theorem dX10_lift_16 : decode cX10_lift 16 = .ok (.ifCond .le 6, 3) := by decide +kernel
theorem dX10_lift_19 : decode cX10_lift 19 = .ok (.bipush (-5), 2) := by decide +kernel
theorem dX10_lift_21 : decode cX10_lift 21 = .ok (.ireturn, 1) := by decide +kernel
theorem dX10_lift_22 : decode cX10_lift 22 = .ok (.aload_n 0, 1) := by decide +kernel
theorem dX10_lift_23 : decode cX10_lift 23 = .ok (.getfield 25, 3) := by decide +kernel
theorem dX10_lift_26 : decode cX10_lift 26 = .ok (.iload_n 1, 1) := by decide +kernel
theorem dX10_lift_27 : decode cX10_lift 27 = .ok (.bipush 20, 2) := by decide +kernel
theorem dX10_lift_29 : decode cX10_lift 29 = .ok (.iastore, 1) := by decide +kernel
theorem dX10_lift_30 : decode cX10_lift 30 = .ok (.aload_n 0, 1) := by decide +kernel
theorem dX10_lift_31 : decode cX10_lift 31 = .ok (.getfield 22, 3) := by decide +kernel
theorem dX10_lift_34 : decode cX10_lift 34 = .ok (.iload_n 1, 1) := by decide +kernel
theorem dX10_lift_35 : decode cX10_lift 35 = .ok (.iconst 0, 1) := by decide +kernel
theorem dX10_lift_36 : decode cX10_lift 36 = .ok (.iastore, 1) := by decide +kernel
theorem dX10_lift_37 : decode cX10_lift 37 = .ok (.aload_n 0, 1) := by decide +kernel
theorem dX10_lift_38 : decode cX10_lift 38 = .ok (.getfield 9, 3) := by decide +kernel
theorem dX10_lift_41 : decode cX10_lift 41 = .ok (.bipush 10, 2) := by decide +kernel
theorem dX10_lift_43 : decode cX10_lift 43 = .ok (.iload_n 1, 1) := by decide +kernel
theorem dX10_lift_44 : decode cX10_lift 44 = .ok (.iadd, 1) := by decide +kernel
theorem dX10_lift_45 : decode cX10_lift 45 = .ok (.iconst 4, 1) := by decide +kernel
theorem dX10_lift_46 : decode cX10_lift 46 = .ok (.iastore, 1) := by decide +kernel
theorem dX10_lift_47 : decode cX10_lift 47 = .ok (.iload_n 1, 1) := by decide +kernel
theorem dX10_lift_48 : decode cX10_lift 48 = .ok (.ireturn, 1) := by decide +kernel
theorem dX10_led_0 : decode cX10_led 0 = .ok (.iload_n 1, 1) := by decide +kernel
theorem dX10_led_1 : decode cX10_led 1 = .ok (.ifCond .ne 10, 3) := by decide +kernel
theorem dX10_led_4 : decode cX10_led 4 = .ok (.aload_n 0, 1) := by decide +kernel
theorem dX10_led_5 : decode cX10_led 5 = .ok (.getfield 258, 3) := by decide +kernel
theorem dX10_led_8 : decode cX10_led 8 = .ok (.goto 16, 3) := by decide +kernel
theorem dX10_led_11 : decode cX10_led 11 = .ok (.iload_n 1, 1) := by decide +kernel
theorem dX10_led_12 : decode cX10_led 12 = .ok (.iconst 1, 1) := by decide +kernel
theorem dX10_led_13 : decode cX10_led 13 = .ok (.if_icmp .ne 10, 3) := by decide +kernel
theorem dX10_led_16 : decode cX10_led 16 = .ok (.aload_n 0, 1) := by decide +kernel
theorem dX10_led_17 : decode cX10_led 17 = .ok (.getfield 46, 3) := by decide +kernel
theorem dX10_led_20 : decode cX10_led 20 = .ok (.goto 4, 3) := by decide +kernel
theorem dX10_led_23 : decode cX10_led 23 = .ok (.iconst (-1), 1) := by decide +kernel
theorem dX10_led_24 : decode cX10_led 24 = .ok (.ireturn, 1) := by decide +kernel
theorem dX10_then_0 : decode cX10_then 0 = .ok (.aload_n 0, 1) := by decide +kernel
theorem dX10_then_1 : decode cX10_then 1 = .ok (.iload_n 1, 1) := by decide +kernel
theorem dX10_then_2 : decode cX10_then 2 = .ok (.invokevirtual 133, 3) := by decide +kernel
theorem dX10_then_5 : decode cX10_then 5 = .ok (.ifCond .eq 27, 3) := by decide +kernel
theorem dX10_then_8 : decode cX10_then 8 = .ok (.iload_n 2, 1) := by decide +kernel
theorem dX10_then_9 : decode cX10_then 9 = .ok (.i2l, 1) := by decide +kernel
theorem dX10_then_10 : decode cX10_then 10 = .ok (.lconst 0, 1) := by decide +kernel
theorem dX10_then_11 : decode cX10_then 11 = .ok (.ldc2_w 244, 3) := by decide +kernel
theorem dX10_then_14 : decode cX10_then 14 = .ok (.invokestatic 101, 3) := by decide +kernel
theorem dX10_then_17 : decode cX10_then 17 = .ok (.ifCond .eq 15, 3) := by decide +kernel
theorem dX10_then_20 : decode cX10_then 20 = .ok (.iload_n 3, 1) := by decide +kernel
theorem dX10_then_21 : decode cX10_then 21 = .ok (.i2l, 1) := by decide +kernel
theorem dX10_then_22 : decode cX10_then 22 = .ok (.lconst 0, 1) := by decide +kernel
theorem dX10_then_23 : decode cX10_then 23 = .ok (.ldc2_w 131, 3) := by decide +kernel
theorem dX10_then_26 : decode cX10_then 26 = .ok (.invokestatic 101, 3) := by decide +kernel
theorem dX10_then_29 : decode cX10_then 29 = .ok (.ifCond .ne 6, 3) := by decide +kernel
theorem dX10_then_32 : decode cX10_then 32 = .ok (.ldc 140, 2) := by decide +kernel
theorem dX10_then_34 : decode cX10_then 34 = .ok (.ireturn, 1) := by decide +kernel
theorem dX10_then_35 : decode cX10_then 35 = .ok (.aload_n 0, 1) := by decide +kernel
theorem dX10_then_36 : decode cX10_then 36 = .ok (.aload_n 0, 1) := by decide +kernel
theorem dX10_then_37 : decode cX10_then 37 = .ok (.invokevirtual 246, 3) := by decide +kernel
theorem dX10_then_40 : decode cX10_then 40 = .ok (.invokevirtual 249, 3) := by decide +kernel
theorem dX10_then_43 : decode cX10_then 43 = .ok (.iconst 0, 1) := by decide +kernel
theorem dX10_then_44 : decode cX10_then 44 = .ok (.istore 4, 2) := by decide +kernel
theorem dX10_then_46 : decode cX10_then 46 = .ok (.iload 4, 2) := by decide +kernel
theorem dX10_then_48 : decode cX10_then 48 = .ok (.iload_n 2, 1) := by decide +kernel
theorem dX10_then_49 : decode cX10_then 49 = .ok (.if_icmp .ge 20, 3) := by decide +kernel
theorem dX10_then_52 : decode cX10_then 52 = .ok (.aload_n 0, 1) := by decide +kernel
theorem dX10_then_53 : decode cX10_then 53 = .ok (.aload_n 0, 1) := by decide +kernel
theorem dX10_then_54 : decode cX10_then 54 = .ok (.getfield 151, 3) := by decide +kernel
theorem dX10_then_57 : decode cX10_then 57 = .ok (.iload 4, 2) := by decide +kernel
theorem dX10_then_59 : decode cX10_then 59 = .ok (.iadd, 1) := by decide +kernel
theorem dX10_then_60 : decode cX10_then 60 = .ok (.invokevirtual 255, 3) := by decide +kernel
theorem dX10_then_63 : decode cX10_then 63 = .ok (.iinc 4 1, 3) := by decide +kernel
theorem dX10_then_66 : decode cX10_then 66 = .ok (.goto (-20), 3) := by decide +kernel
theorem dX10_then_69 : decode cX10_then 69 = .ok (.iload_n 3, 1) := by decide +kernel
theorem dX10_then_70 : decode cX10_then 70 = .ok (.ifCond .ne 12, 3) := by decide +kernel
theorem dX10_then_73 : decode cX10_then 73 = .ok (.aload_n 0, 1) := by decide +kernel
theorem dX10_then_74 : decode cX10_then 74 = .ok (.getfield 37, 3) := by decide +kernel
theorem dX10_then_77 : decode cX10_then 77 = .ok (.iload_n 1, 1) := by decide +kernel
theorem dX10_then_78 : decode cX10_then 78 = .ok (.iaload, 1) := by decide +kernel
theorem dX10_then_79 : decode cX10_then 79 = .ok (.goto 23, 3) := by decide +kernel
theorem dX10_then_82 : decode cX10_then 82 = .ok (.iload_n 3, 1) := by decide +kernel
theorem dX10_then_83 : decode cX10_then 83 = .ok (.iconst 1, 1) := by decide +kernel
theorem dX10_then_84 : decode cX10_then 84 = .ok (.if_icmp .ne 12, 3) := by decide +kernel
theorem dX10_then_87 : decode cX10_then 87 = .ok (.aload_n 0, 1) := by decide +kernel
theorem dX10_then_88 : decode cX10_then 88 = .ok (.getfield 40, 3) := by decide +kernel
theorem dX10_then_91 : decode cX10_then 91 = .ok (.iload_n 1, 1) := by decide +kernel
theorem dX10_then_92 : decode cX10_then 92 = .ok (.iaload, 1) := by decide +kernel
theorem dX10_then_93 : decode cX10_then 93 = .ok (.goto 9, 3) := by decide +kernel
theorem dX10_then_96 : decode cX10_then 96 = .ok (.aload_n 0, 1) := by decide +kernel
theorem dX10_then_97 : decode cX10_then 97 = .ok (.getfield 43, 3) := by decide +kernel
theorem dX10_then_100 : decode cX10_then 100 = .ok (.iload_n 1, 1) := by decide +kernel
theorem dX10_then_101 : decode cX10_then 101 = .ok (.iaload, 1) := by decide +kernel
theorem dX10_then_102 : decode cX10_then 102 = .ok (.ireturn, 1) := by decide +kernel
theorem dX10_fallOf_0 : decode cX10_fallOf 0 = .ok (.aload_n 0, 1) := by decide +kernel
theorem dX10_fallOf_1 : decode cX10_fallOf 1 = .ok (.aload_n 0, 1) := by decide +kernel
theorem dX10_fallOf_2 : decode cX10_fallOf 2 = .ok (.invokevirtual 246, 3) := by decide +kernel
theorem dX10_fallOf_5 : decode cX10_fallOf 5 = .ok (.invokevirtual 249, 3) := by decide +kernel
theorem dX10_fallOf_8 : decode cX10_fallOf 8 = .ok (.iconst 0, 1) := by decide +kernel
theorem dX10_fallOf_9 : decode cX10_fallOf 9 = .ok (.istore_n 2, 1) := by decide +kernel
theorem dX10_fallOf_10 : decode cX10_fallOf 10 = .ok (.iload_n 2, 1) := by decide +kernel
theorem dX10_fallOf_11 : decode cX10_fallOf 11 = .ok (.sipush 200, 3) := by decide +kernel
theorem dX10_fallOf_14 : decode cX10_fallOf 14 = .ok (.if_icmp .gt 30, 3) := by decide +kernel
theorem dX10_fallOf_17 : decode cX10_fallOf 17 = .ok (.aload_n 0, 1) := by decide +kernel
theorem dX10_fallOf_18 : decode cX10_fallOf 18 = .ok (.getfield 43, 3) := by decide +kernel
theorem dX10_fallOf_21 : decode cX10_fallOf 21 = .ok (.iload_n 1, 1) := by decide +kernel
theorem dX10_fallOf_22 : decode cX10_fallOf 22 = .ok (.iaload, 1) := by decide +kernel
theorem dX10_fallOf_23 : decode cX10_fallOf 23 = .ok (.ifCond .ne 5, 3) := by decide +kernel
theorem dX10_fallOf_26 : decode cX10_fallOf 26 = .ok (.iload_n 2, 1) := by decide +kernel
theorem dX10_fallOf_27 : decode cX10_fallOf 27 = .ok (.ireturn, 1) := by decide +kernel
theorem dX10_fallOf_28 : decode cX10_fallOf 28 = .ok (.aload_n 0, 1) := by decide +kernel
theorem dX10_fallOf_29 : decode cX10_fallOf 29 = .ok (.aload_n 0, 1) := by decide +kernel
theorem dX10_fallOf_30 : decode cX10_fallOf 30 = .ok (.getfield 151, 3) := by decide +kernel
theorem dX10_fallOf_33 : decode cX10_fallOf 33 = .ok (.iload_n 2, 1) := by decide +kernel
theorem dX10_fallOf_34 : decode cX10_fallOf 34 = .ok (.iadd, 1) := by decide +kernel
theorem dX10_fallOf_35 : decode cX10_fallOf 35 = .ok (.invokevirtual 255, 3) := by decide +kernel
theorem dX10_fallOf_38 : decode cX10_fallOf 38 = .ok (.iinc 2 1, 3) := by decide +kernel
theorem dX10_fallOf_41 : decode cX10_fallOf 41 = .ok (.goto (-31), 3) := by decide +kernel
theorem dX10_fallOf_44 : decode cX10_fallOf 44 = .ok (.sipush 201, 3) := by decide +kernel
theorem dX10_fallOf_47 : decode cX10_fallOf 47 = .ok (.ireturn, 1) := by decide +kernel
theorem dX10_falls_0 : decode cX10_falls 0 = .ok (.aload_n 0, 1) := by decide +kernel
theorem dX10_falls_1 : decode cX10_falls 1 = .ok (.iload_n 1, 1) := by decide +kernel
theorem dX10_falls_2 : decode cX10_falls 2 = .ok (.invokevirtual 133, 3) := by decide +kernel
theorem dX10_falls_5 : decode cX10_falls 5 = .ok (.ifCond .ne 5, 3) := by decide +kernel
theorem dX10_falls_8 : decode cX10_falls 8 = .ok (.iconst (-1), 1) := by decide +kernel
theorem dX10_falls_9 : decode cX10_falls 9 = .ok (.ireturn, 1) := by decide +kernel
theorem dX10_falls_10 : decode cX10_falls 10 = .ok (.aload_n 0, 1) := by decide +kernel
theorem dX10_falls_11 : decode cX10_falls 11 = .ok (.iload_n 1, 1) := by decide +kernel
theorem dX10_falls_12 : decode cX10_falls 12 = .ok (.invokevirtual 264, 3) := by decide +kernel
theorem dX10_falls_15 : decode cX10_falls 15 = .ok (.istore_n 2, 1) := by decide +kernel
theorem dX10_falls_16 : decode cX10_falls 16 = .ok (.iload_n 2, 1) := by decide +kernel
theorem dX10_falls_17 : decode cX10_falls 17 = .ok (.sipush 201, 3) := by decide +kernel
theorem dX10_falls_20 : decode cX10_falls 20 = .ok (.if_icmp .ne 8, 3) := by decide +kernel
theorem dX10_falls_23 : decode cX10_falls 23 = .ok (.bipush (-2), 2) := by decide +kernel
theorem dX10_falls_25 : decode cX10_falls 25 = .ok (.goto 4, 3) := by decide +kernel
theorem dX10_falls_28 : decode cX10_falls 28 = .ok (.iload_n 2, 1) := by decide +kernel
theorem dX10_falls_29 : decode cX10_falls 29 = .ok (.ireturn, 1) := by decide +kernel
theorem dX10_lastsOf_0 : decode cX10_lastsOf 0 = .ok (.aload_n 0, 1) := by decide +kernel
theorem dX10_lastsOf_1 : decode cX10_lastsOf 1 = .ok (.iload_n 1, 1) := by decide +kernel
theorem dX10_lastsOf_2 : decode cX10_lastsOf 2 = .ok (.invokevirtual 249, 3) := by decide +kernel
theorem dX10_lastsOf_5 : decode cX10_lastsOf 5 = .ok (.iconst 0, 1) := by decide +kernel
theorem dX10_lastsOf_6 : decode cX10_lastsOf 6 = .ok (.istore_n 2, 1) := by decide +kernel
theorem dX10_lastsOf_7 : decode cX10_lastsOf 7 = .ok (.iload_n 2, 1) := by decide +kernel
theorem dX10_lastsOf_8 : decode cX10_lastsOf 8 = .ok (.sipush 200, 3) := by decide +kernel
theorem dX10_lastsOf_11 : decode cX10_lastsOf 11 = .ok (.if_icmp .ge 29, 3) := by decide +kernel
theorem dX10_lastsOf_14 : decode cX10_lastsOf 14 = .ok (.aload_n 0, 1) := by decide +kernel
theorem dX10_lastsOf_15 : decode cX10_lastsOf 15 = .ok (.aload_n 0, 1) := by decide +kernel
theorem dX10_lastsOf_16 : decode cX10_lastsOf 16 = .ok (.getfield 151, 3) := by decide +kernel
theorem dX10_lastsOf_19 : decode cX10_lastsOf 19 = .ok (.iload_n 2, 1) := by decide +kernel
theorem dX10_lastsOf_20 : decode cX10_lastsOf 20 = .ok (.iadd, 1) := by decide +kernel
theorem dX10_lastsOf_21 : decode cX10_lastsOf 21 = .ok (.invokevirtual 255, 3) := by decide +kernel
theorem dX10_lastsOf_24 : decode cX10_lastsOf 24 = .ok (.aload_n 0, 1) := by decide +kernel
theorem dX10_lastsOf_25 : decode cX10_lastsOf 25 = .ok (.iload_n 1, 1) := by decide +kernel
theorem dX10_lastsOf_26 : decode cX10_lastsOf 26 = .ok (.invokevirtual 252, 3) := by decide +kernel
theorem dX10_lastsOf_29 : decode cX10_lastsOf 29 = .ok (.ifCond .le 5, 3) := by decide +kernel
theorem dX10_lastsOf_32 : decode cX10_lastsOf 32 = .ok (.iload_n 2, 1) := by decide +kernel
theorem dX10_lastsOf_33 : decode cX10_lastsOf 33 = .ok (.ireturn, 1) := by decide +kernel
theorem dX10_lastsOf_34 : decode cX10_lastsOf 34 = .ok (.iinc 2 1, 3) := by decide +kernel
theorem dX10_lastsOf_37 : decode cX10_lastsOf 37 = .ok (.goto (-30), 3) := by decide +kernel
theorem dX10_lastsOf_40 : decode cX10_lastsOf 40 = .ok (.sipush 200, 3) := by decide +kernel
theorem dX10_lastsOf_43 : decode cX10_lastsOf 43 = .ok (.ireturn, 1) := by decide +kernel
theorem dX10_lasts_0 : decode cX10_lasts 0 = .ok (.aload_n 0, 1) := by decide +kernel
theorem dX10_lasts_1 : decode cX10_lasts 1 = .ok (.aload_n 0, 1) := by decide +kernel
theorem dX10_lasts_2 : decode cX10_lasts 2 = .ok (.invokevirtual 246, 3) := by decide +kernel
theorem dX10_lasts_5 : decode cX10_lasts 5 = .ok (.invokevirtual 267, 3) := by decide +kernel
theorem dX10_lasts_8 : decode cX10_lasts 8 = .ok (.ireturn, 1) := by decide +kernel
theorem dX10_beatFor_0 : decode cX10_beatFor 0 = .ok (.iload_n 1, 1) := by decide +kernel
theorem dX10_beatFor_1 : decode cX10_beatFor 1 = .ok (.i2l, 1) := by decide +kernel
theorem dX10_beatFor_2 : decode cX10_beatFor 2 = .ok (.lconst 0, 1) := by decide +kernel
theorem dX10_beatFor_3 : decode cX10_beatFor 3 = .ok (.lconst 1, 1) := by decide +kernel
theorem dX10_beatFor_4 : decode cX10_beatFor 4 = .ok (.invokestatic 101, 3) := by decide +kernel
theorem dX10_beatFor_7 : decode cX10_beatFor 7 = .ok (.ifCond .ne 5, 3) := by decide +kernel
theorem dX10_beatFor_10 : decode cX10_beatFor 10 = .ok (.iconst (-1), 1) := by decide +kernel
theorem dX10_beatFor_11 : decode cX10_beatFor 11 = .ok (.ireturn, 1) := by decide +kernel
theorem dX10_beatFor_12 : decode cX10_beatFor 12 = .ok (.aload_n 0, 1) := by decide +kernel
theorem dX10_beatFor_13 : decode cX10_beatFor 13 = .ok (.getfield 9, 3) := by decide +kernel
theorem dX10_beatFor_16 : decode cX10_beatFor 16 = .ok (.bipush 16, 2) := by decide +kernel
theorem dX10_beatFor_18 : decode cX10_beatFor 18 = .ok (.iaload, 1) := by decide +kernel
theorem dX10_beatFor_19 : decode cX10_beatFor 19 = .ok (.istore_n 2, 1) := by decide +kernel
theorem dX10_beatFor_20 : decode cX10_beatFor 20 = .ok (.aload_n 0, 1) := by decide +kernel
theorem dX10_beatFor_21 : decode cX10_beatFor 21 = .ok (.getfield 9, 3) := by decide +kernel
theorem dX10_beatFor_24 : decode cX10_beatFor 24 = .ok (.bipush 17, 2) := by decide +kernel
theorem dX10_beatFor_26 : decode cX10_beatFor 26 = .ok (.iaload, 1) := by decide +kernel
theorem dX10_beatFor_27 : decode cX10_beatFor 27 = .ok (.istore_n 3, 1) := by decide +kernel
theorem dX10_beatFor_28 : decode cX10_beatFor 28 = .ok (.iconst 0, 1) := by decide +kernel
theorem dX10_beatFor_29 : decode cX10_beatFor 29 = .ok (.istore 4, 2) := by decide +kernel
theorem dX10_beatFor_31 : decode cX10_beatFor 31 = .ok (.iconst (-1), 1) := by decide +kernel
theorem dX10_beatFor_32 : decode cX10_beatFor 32 = .ok (.istore 5, 2) := by decide +kernel
theorem dX10_beatFor_34 : decode cX10_beatFor 34 = .ok (.iconst 2, 1) := by decide +kernel
theorem dX10_beatFor_35 : decode cX10_beatFor 35 = .ok (.istore 6, 2) := by decide +kernel
theorem dX10_beatFor_37 : decode cX10_beatFor 37 = .ok (.iload 6, 2) := by decide +kernel
theorem dX10_beatFor_39 : decode cX10_beatFor 39 = .ok (.bipush 24, 2) := by decide +kernel
theorem dX10_beatFor_41 : decode cX10_beatFor 41 = .ok (.if_icmp .gt 87, 3) := by decide +kernel
theorem dX10_beatFor_44 : decode cX10_beatFor 44 = .ok (.iconst 0, 1) := by decide +kernel
theorem dX10_beatFor_45 : decode cX10_beatFor 45 = .ok (.istore 7, 2) := by decide +kernel
theorem dX10_beatFor_47 : decode cX10_beatFor 47 = .ok (.iload 7, 2) := by decide +kernel
theorem dX10_beatFor_49 : decode cX10_beatFor 49 = .ok (.iload 6, 2) := by decide +kernel
theorem dX10_beatFor_51 : decode cX10_beatFor 51 = .ok (.if_icmp .ge 71, 3) := by decide +kernel
theorem dX10_beatFor_54 : decode cX10_beatFor 54 = .ok (.aload_n 0, 1) := by decide +kernel
theorem dX10_beatFor_55 : decode cX10_beatFor 55 = .ok (.getfield 9, 3) := by decide +kernel
theorem dX10_beatFor_58 : decode cX10_beatFor 58 = .ok (.bipush 16, 2) := by decide +kernel
theorem dX10_beatFor_60 : decode cX10_beatFor 60 = .ok (.iload 6, 2) := by decide +kernel
theorem dX10_beatFor_62 : decode cX10_beatFor 62 = .ok (.iastore, 1) := by decide +kernel
theorem dX10_beatFor_63 : decode cX10_beatFor 63 = .ok (.aload_n 0, 1) := by decide +kernel
theorem dX10_beatFor_64 : decode cX10_beatFor 64 = .ok (.getfield 9, 3) := by decide +kernel
theorem dX10_beatFor_67 : decode cX10_beatFor 67 = .ok (.bipush 17, 2) := by decide +kernel
theorem dX10_beatFor_69 : decode cX10_beatFor 69 = .ok (.iload 7, 2) := by decide +kernel
theorem dX10_beatFor_71 : decode cX10_beatFor 71 = .ok (.iastore, 1) := by decide +kernel
theorem dX10_beatFor_72 : decode cX10_beatFor 72 = .ok (.aload_n 0, 1) := by decide +kernel
theorem dX10_beatFor_73 : decode cX10_beatFor 73 = .ok (.invokevirtual 270, 3) := by decide +kernel
theorem dX10_beatFor_76 : decode cX10_beatFor 76 = .ok (.istore 8, 2) := by decide +kernel
theorem dX10_beatFor_78 : decode cX10_beatFor 78 = .ok (.iload 8, 2) := by decide +kernel
theorem dX10_beatFor_80 : decode cX10_beatFor 80 = .ok (.iload 5, 2) := by decide +kernel
theorem dX10_beatFor_82 : decode cX10_beatFor 82 = .ok (.if_icmp .le 14, 3) := by decide +kernel
theorem dX10_beatFor_85 : decode cX10_beatFor 85 = .ok (.bipush 100, 2) := by decide +kernel
theorem dX10_beatFor_87 : decode cX10_beatFor 87 = .ok (.iload 6, 2) := by decide +kernel
theorem dX10_beatFor_89 : decode cX10_beatFor 89 = .ok (.imul, 1) := by decide +kernel
theorem dX10_beatFor_90 : decode cX10_beatFor 90 = .ok (.iload 7, 2) := by decide +kernel
theorem dX10_beatFor_92 : decode cX10_beatFor 92 = .ok (.iadd, 1) := by decide +kernel
theorem dX10_beatFor_93 : decode cX10_beatFor 93 = .ok (.goto 5, 3) := by decide +kernel
theorem dX10_beatFor_96 : decode cX10_beatFor 96 = .ok (.iload 4, 2) := by decide +kernel
theorem dX10_beatFor_98 : decode cX10_beatFor 98 = .ok (.istore 4, 2) := by decide +kernel
theorem dX10_beatFor_100 : decode cX10_beatFor 100 = .ok (.iload 8, 2) := by decide +kernel
theorem dX10_beatFor_102 : decode cX10_beatFor 102 = .ok (.iload 5, 2) := by decide +kernel
theorem dX10_beatFor_104 : decode cX10_beatFor 104 = .ok (.if_icmp .le 8, 3) := by decide +kernel
theorem dX10_beatFor_107 : decode cX10_beatFor 107 = .ok (.iload 8, 2) := by decide +kernel
theorem dX10_beatFor_109 : decode cX10_beatFor 109 = .ok (.goto 5, 3) := by decide +kernel
theorem dX10_beatFor_112 : decode cX10_beatFor 112 = .ok (.iload 5, 2) := by decide +kernel
theorem dX10_beatFor_114 : decode cX10_beatFor 114 = .ok (.istore 5, 2) := by decide +kernel
theorem dX10_beatFor_116 : decode cX10_beatFor 116 = .ok (.iinc 7 1, 3) := by decide +kernel
theorem dX10_beatFor_119 : decode cX10_beatFor 119 = .ok (.goto (-72), 3) := by decide +kernel
theorem dX10_beatFor_122 : decode cX10_beatFor 122 = .ok (.iinc 6 1, 3) := by decide +kernel
theorem dX10_beatFor_125 : decode cX10_beatFor 125 = .ok (.goto (-88), 3) := by decide +kernel
theorem dX10_beatFor_128 : decode cX10_beatFor 128 = .ok (.aload_n 0, 1) := by decide +kernel
theorem dX10_beatFor_129 : decode cX10_beatFor 129 = .ok (.getfield 9, 3) := by decide +kernel
theorem dX10_beatFor_132 : decode cX10_beatFor 132 = .ok (.bipush 16, 2) := by decide +kernel
theorem dX10_beatFor_134 : decode cX10_beatFor 134 = .ok (.iload_n 2, 1) := by decide +kernel
theorem dX10_beatFor_135 : decode cX10_beatFor 135 = .ok (.iastore, 1) := by decide +kernel
theorem dX10_beatFor_136 : decode cX10_beatFor 136 = .ok (.aload_n 0, 1) := by decide +kernel
theorem dX10_beatFor_137 : decode cX10_beatFor 137 = .ok (.getfield 9, 3) := by decide +kernel
theorem dX10_beatFor_140 : decode cX10_beatFor 140 = .ok (.bipush 17, 2) := by decide +kernel
theorem dX10_beatFor_142 : decode cX10_beatFor 142 = .ok (.iload_n 3, 1) := by decide +kernel
theorem dX10_beatFor_143 : decode cX10_beatFor 143 = .ok (.iastore, 1) := by decide +kernel
theorem dX10_beatFor_144 : decode cX10_beatFor 144 = .ok (.iload_n 1, 1) := by decide +kernel
theorem dX10_beatFor_145 : decode cX10_beatFor 145 = .ok (.ifCond .ne 8, 3) := by decide +kernel
theorem dX10_beatFor_148 : decode cX10_beatFor 148 = .ok (.iload 4, 2) := by decide +kernel
theorem dX10_beatFor_150 : decode cX10_beatFor 150 = .ok (.goto 5, 3) := by decide +kernel
theorem dX10_beatFor_153 : decode cX10_beatFor 153 = .ok (.iload 5, 2) := by decide +kernel
theorem dX10_beatFor_155 : decode cX10_beatFor 155 = .ok (.ireturn, 1) := by decide +kernel
theorem dX10_leastPush_0 : decode cX10_leastPush 0 = .ok (.iload_n 1, 1) := by decide +kernel
theorem dX10_leastPush_1 : decode cX10_leastPush 1 = .ok (.i2l, 1) := by decide +kernel
theorem dX10_leastPush_2 : decode cX10_leastPush 2 = .ok (.lconst 1, 1) := by decide +kernel
theorem dX10_leastPush_3 : decode cX10_leastPush 3 = .ok (.ldc2_w 244, 3) := by decide +kernel
theorem dX10_leastPush_6 : decode cX10_leastPush 6 = .ok (.invokestatic 101, 3) := by decide +kernel
theorem dX10_leastPush_9 : decode cX10_leastPush 9 = .ok (.ifCond .ne 5, 3) := by decide +kernel
theorem dX10_leastPush_12 : decode cX10_leastPush 12 = .ok (.iconst (-1), 1) := by decide +kernel
theorem dX10_leastPush_13 : decode cX10_leastPush 13 = .ok (.ireturn, 1) := by decide +kernel
theorem dX10_leastPush_14 : decode cX10_leastPush 14 = .ok (.aload_n 0, 1) := by decide +kernel
theorem dX10_leastPush_15 : decode cX10_leastPush 15 = .ok (.getfield 9, 3) := by decide +kernel
theorem dX10_leastPush_18 : decode cX10_leastPush 18 = .ok (.bipush 18, 2) := by decide +kernel
theorem dX10_leastPush_20 : decode cX10_leastPush 20 = .ok (.iaload, 1) := by decide +kernel
theorem dX10_leastPush_21 : decode cX10_leastPush 21 = .ok (.istore_n 2, 1) := by decide +kernel
theorem dX10_leastPush_22 : decode cX10_leastPush 22 = .ok (.bipush (-2), 2) := by decide +kernel
theorem dX10_leastPush_24 : decode cX10_leastPush 24 = .ok (.istore_n 3, 1) := by decide +kernel
theorem dX10_leastPush_25 : decode cX10_leastPush 25 = .ok (.iconst 5, 1) := by decide +kernel
theorem dX10_leastPush_26 : decode cX10_leastPush 26 = .ok (.istore 4, 2) := by decide +kernel
theorem dX10_leastPush_28 : decode cX10_leastPush 28 = .ok (.iload 4, 2) := by decide +kernel
theorem dX10_leastPush_30 : decode cX10_leastPush 30 = .ok (.ifCond .lt 33, 3) := by decide +kernel
theorem dX10_leastPush_33 : decode cX10_leastPush 33 = .ok (.aload_n 0, 1) := by decide +kernel
theorem dX10_leastPush_34 : decode cX10_leastPush 34 = .ok (.getfield 9, 3) := by decide +kernel
theorem dX10_leastPush_37 : decode cX10_leastPush 37 = .ok (.bipush 18, 2) := by decide +kernel
theorem dX10_leastPush_39 : decode cX10_leastPush 39 = .ok (.iload 4, 2) := by decide +kernel
theorem dX10_leastPush_41 : decode cX10_leastPush 41 = .ok (.iastore, 1) := by decide +kernel
theorem dX10_leastPush_42 : decode cX10_leastPush 42 = .ok (.aload_n 0, 1) := by decide +kernel
theorem dX10_leastPush_43 : decode cX10_leastPush 43 = .ok (.invokevirtual 270, 3) := by decide +kernel
theorem dX10_leastPush_46 : decode cX10_leastPush 46 = .ok (.iload_n 1, 1) := by decide +kernel
theorem dX10_leastPush_47 : decode cX10_leastPush 47 = .ok (.if_icmp .lt 8, 3) := by decide +kernel
theorem dX10_leastPush_50 : decode cX10_leastPush 50 = .ok (.iload 4, 2) := by decide +kernel
theorem dX10_leastPush_52 : decode cX10_leastPush 52 = .ok (.goto 4, 3) := by decide +kernel
theorem dX10_leastPush_55 : decode cX10_leastPush 55 = .ok (.iload_n 3, 1) := by decide +kernel
theorem dX10_leastPush_56 : decode cX10_leastPush 56 = .ok (.istore_n 3, 1) := by decide +kernel
theorem dX10_leastPush_57 : decode cX10_leastPush 57 = .ok (.iinc 4 (-1), 3) := by decide +kernel
theorem dX10_leastPush_60 : decode cX10_leastPush 60 = .ok (.goto (-32), 3) := by decide +kernel
theorem dX10_leastPush_63 : decode cX10_leastPush 63 = .ok (.aload_n 0, 1) := by decide +kernel
theorem dX10_leastPush_64 : decode cX10_leastPush 64 = .ok (.getfield 9, 3) := by decide +kernel
theorem dX10_leastPush_67 : decode cX10_leastPush 67 = .ok (.bipush 18, 2) := by decide +kernel
theorem dX10_leastPush_69 : decode cX10_leastPush 69 = .ok (.iload_n 2, 1) := by decide +kernel
theorem dX10_leastPush_70 : decode cX10_leastPush 70 = .ok (.iastore, 1) := by decide +kernel
theorem dX10_leastPush_71 : decode cX10_leastPush 71 = .ok (.iload_n 3, 1) := by decide +kernel
theorem dX10_leastPush_72 : decode cX10_leastPush 72 = .ok (.ireturn, 1) := by decide +kernel
theorem dX10_mistaken_0 : decode cX10_mistaken 0 = .ok (.aload_n 0, 1) := by decide +kernel
theorem dX10_mistaken_1 : decode cX10_mistaken 1 = .ok (.invokevirtual 246, 3) := by decide +kernel
theorem dX10_mistaken_4 : decode cX10_mistaken 4 = .ok (.istore_n 2, 1) := by decide +kernel
theorem dX10_mistaken_5 : decode cX10_mistaken 5 = .ok (.aload_n 0, 1) := by decide +kernel
theorem dX10_mistaken_6 : decode cX10_mistaken 6 = .ok (.iload_n 2, 1) := by decide +kernel
theorem dX10_mistaken_7 : decode cX10_mistaken 7 = .ok (.invokevirtual 249, 3) := by decide +kernel
theorem dX10_mistaken_10 : decode cX10_mistaken 10 = .ok (.iconst (-1), 1) := by decide +kernel
theorem dX10_mistaken_11 : decode cX10_mistaken 11 = .ok (.istore_n 3, 1) := by decide +kernel
theorem dX10_mistaken_12 : decode cX10_mistaken 12 = .ok (.iload_n 1, 1) := by decide +kernel
theorem dX10_mistaken_13 : decode cX10_mistaken 13 = .ok (.istore 4, 2) := by decide +kernel
theorem dX10_mistaken_15 : decode cX10_mistaken 15 = .ok (.iconst 0, 1) := by decide +kernel
theorem dX10_mistaken_16 : decode cX10_mistaken 16 = .ok (.istore 5, 2) := by decide +kernel
theorem dX10_mistaken_18 : decode cX10_mistaken 18 = .ok (.aload_n 0, 1) := by decide +kernel
theorem dX10_mistaken_19 : decode cX10_mistaken 19 = .ok (.iconst (-1), 1) := by decide +kernel
theorem dX10_mistaken_20 : decode cX10_mistaken 20 = .ok (.putfield 273, 3) := by decide +kernel
theorem dX10_mistaken_23 : decode cX10_mistaken 23 = .ok (.iconst 0, 1) := by decide +kernel
theorem dX10_mistaken_24 : decode cX10_mistaken 24 = .ok (.istore 6, 2) := by decide +kernel
theorem dX10_mistaken_26 : decode cX10_mistaken 26 = .ok (.iload 6, 2) := by decide +kernel
theorem dX10_mistaken_28 : decode cX10_mistaken 28 = .ok (.sipush 200, 3) := by decide +kernel
theorem dX10_mistaken_31 : decode cX10_mistaken 31 = .ok (.if_icmp .gt 215, 3) := by decide +kernel
theorem dX10_mistaken_34 : decode cX10_mistaken 34 = .ok (.iconst 1, 1) := by decide +kernel
theorem dX10_mistaken_35 : decode cX10_mistaken 35 = .ok (.istore 7, 2) := by decide +kernel
theorem dX10_mistaken_37 : decode cX10_mistaken 37 = .ok (.iconst 0, 1) := by decide +kernel
theorem dX10_mistaken_38 : decode cX10_mistaken 38 = .ok (.istore 8, 2) := by decide +kernel
theorem dX10_mistaken_40 : decode cX10_mistaken 40 = .ok (.iload 8, 2) := by decide +kernel
theorem dX10_mistaken_42 : decode cX10_mistaken 42 = .ok (.aload_n 0, 1) := by decide +kernel
theorem dX10_mistaken_43 : decode cX10_mistaken 43 = .ok (.getfield 109, 3) := by decide +kernel
theorem dX10_mistaken_46 : decode cX10_mistaken 46 = .ok (.if_icmp .ge 40, 3) := by decide +kernel
theorem dX10_mistaken_49 : decode cX10_mistaken 49 = .ok (.iload 7, 2) := by decide +kernel
theorem dX10_mistaken_51 : decode cX10_mistaken 51 = .ok (.iload_n 2, 1) := by decide +kernel
theorem dX10_mistaken_52 : decode cX10_mistaken 52 = .ok (.iload 8, 2) := by decide +kernel
theorem dX10_mistaken_54 : decode cX10_mistaken 54 = .ok (.invokestatic 214, 3) := by decide +kernel
theorem dX10_mistaken_57 : decode cX10_mistaken 57 = .ok (.ifCond .eq 15, 3) := by decide +kernel
theorem dX10_mistaken_60 : decode cX10_mistaken 60 = .ok (.aload_n 0, 1) := by decide +kernel
theorem dX10_mistaken_61 : decode cX10_mistaken 61 = .ok (.getfield 43, 3) := by decide +kernel
theorem dX10_mistaken_64 : decode cX10_mistaken 64 = .ok (.iload 8, 2) := by decide +kernel
theorem dX10_mistaken_66 : decode cX10_mistaken 66 = .ok (.iaload, 1) := by decide +kernel
theorem dX10_mistaken_67 : decode cX10_mistaken 67 = .ok (.bipush 20, 2) := by decide +kernel
theorem dX10_mistaken_69 : decode cX10_mistaken 69 = .ok (.if_icmp .ne 7, 3) := by decide +kernel
theorem dX10_mistaken_72 : decode cX10_mistaken 72 = .ok (.iconst 1, 1) := by decide +kernel
theorem dX10_mistaken_73 : decode cX10_mistaken 73 = .ok (.goto 4, 3) := by decide +kernel
theorem dX10_mistaken_76 : decode cX10_mistaken 76 = .ok (.iconst 0, 1) := by decide +kernel
theorem dX10_mistaken_77 : decode cX10_mistaken 77 = .ok (.iand, 1) := by decide +kernel
theorem dX10_mistaken_78 : decode cX10_mistaken 78 = .ok (.istore 7, 2) := by decide +kernel
theorem dX10_mistaken_80 : decode cX10_mistaken 80 = .ok (.iinc 8 1, 3) := by decide +kernel
theorem dX10_mistaken_83 : decode cX10_mistaken 83 = .ok (.goto (-43), 3) := by decide +kernel
theorem dX10_mistaken_86 : decode cX10_mistaken 86 = .ok (.aload_n 0, 1) := by decide +kernel
theorem dX10_mistaken_87 : decode cX10_mistaken 87 = .ok (.aload_n 0, 1) := by decide +kernel
theorem dX10_mistaken_88 : decode cX10_mistaken 88 = .ok (.getfield 273, 3) := by decide +kernel
theorem dX10_mistaken_91 : decode cX10_mistaken 91 = .ok (.ifCond .ge 18, 3) := by decide +kernel
theorem dX10_mistaken_94 : decode cX10_mistaken 94 = .ok (.iload 5, 2) := by decide +kernel
theorem dX10_mistaken_96 : decode cX10_mistaken 96 = .ok (.ifCond .eq 13, 3) := by decide +kernel
theorem dX10_mistaken_99 : decode cX10_mistaken 99 = .ok (.iload 7, 2) := by decide +kernel
theorem dX10_mistaken_101 : decode cX10_mistaken 101 = .ok (.ifCond .eq 8, 3) := by decide +kernel
theorem dX10_mistaken_104 : decode cX10_mistaken 104 = .ok (.iload 6, 2) := by decide +kernel
theorem dX10_mistaken_106 : decode cX10_mistaken 106 = .ok (.goto 7, 3) := by decide +kernel
theorem dX10_mistaken_109 : decode cX10_mistaken 109 = .ok (.aload_n 0, 1) := by decide +kernel
theorem dX10_mistaken_110 : decode cX10_mistaken 110 = .ok (.getfield 273, 3) := by decide +kernel
theorem dX10_mistaken_113 : decode cX10_mistaken 113 = .ok (.putfield 273, 3) := by decide +kernel
theorem dX10_mistaken_116 : decode cX10_mistaken 116 = .ok (.iload 5, 2) := by decide +kernel
theorem dX10_mistaken_118 : decode cX10_mistaken 118 = .ok (.iload 7, 2) := by decide +kernel
theorem dX10_mistaken_120 : decode cX10_mistaken 120 = .ok (.ifCond .ne 7, 3) := by decide +kernel
theorem dX10_mistaken_123 : decode cX10_mistaken 123 = .ok (.iconst 1, 1) := by decide +kernel
theorem dX10_mistaken_124 : decode cX10_mistaken 124 = .ok (.goto 4, 3) := by decide +kernel
theorem dX10_mistaken_127 : decode cX10_mistaken 127 = .ok (.iconst 0, 1) := by decide +kernel
theorem dX10_mistaken_128 : decode cX10_mistaken 128 = .ok (.ior, 1) := by decide +kernel
theorem dX10_mistaken_129 : decode cX10_mistaken 129 = .ok (.istore 5, 2) := by decide +kernel
theorem dX10_mistaken_131 : decode cX10_mistaken 131 = .ok (.iload_n 3, 1) := by decide +kernel
theorem dX10_mistaken_132 : decode cX10_mistaken 132 = .ok (.ifCond .ge 18, 3) := by decide +kernel
theorem dX10_mistaken_135 : decode cX10_mistaken 135 = .ok (.aload_n 0, 1) := by decide +kernel
theorem dX10_mistaken_136 : decode cX10_mistaken 136 = .ok (.iload_n 2, 1) := by decide +kernel
theorem dX10_mistaken_137 : decode cX10_mistaken 137 = .ok (.invokevirtual 252, 3) := by decide +kernel
theorem dX10_mistaken_140 : decode cX10_mistaken 140 = .ok (.ifCond .le 10, 3) := by decide +kernel
theorem dX10_mistaken_143 : decode cX10_mistaken 143 = .ok (.iload 6, 2) := by decide +kernel
theorem dX10_mistaken_145 : decode cX10_mistaken 145 = .ok (.iconst 1, 1) := by decide +kernel
theorem dX10_mistaken_146 : decode cX10_mistaken 146 = .ok (.isub, 1) := by decide +kernel
theorem dX10_mistaken_147 : decode cX10_mistaken 147 = .ok (.goto 4, 3) := by decide +kernel
theorem dX10_mistaken_150 : decode cX10_mistaken 150 = .ok (.iload_n 3, 1) := by decide +kernel
theorem dX10_mistaken_151 : decode cX10_mistaken 151 = .ok (.istore_n 3, 1) := by decide +kernel
theorem dX10_mistaken_152 : decode cX10_mistaken 152 = .ok (.iload 6, 2) := by decide +kernel
theorem dX10_mistaken_154 : decode cX10_mistaken 154 = .ok (.sipush 200, 3) := by decide +kernel
theorem dX10_mistaken_157 : decode cX10_mistaken 157 = .ok (.if_icmp .ge 83, 3) := by decide +kernel
theorem dX10_mistaken_160 : decode cX10_mistaken 160 = .ok (.aload_n 0, 1) := by decide +kernel
theorem dX10_mistaken_161 : decode cX10_mistaken 161 = .ok (.aload_n 0, 1) := by decide +kernel
theorem dX10_mistaken_162 : decode cX10_mistaken 162 = .ok (.getfield 151, 3) := by decide +kernel
theorem dX10_mistaken_165 : decode cX10_mistaken 165 = .ok (.iload 6, 2) := by decide +kernel
theorem dX10_mistaken_167 : decode cX10_mistaken 167 = .ok (.iadd, 1) := by decide +kernel
theorem dX10_mistaken_168 : decode cX10_mistaken 168 = .ok (.invokevirtual 228, 3) := by decide +kernel
theorem dX10_mistaken_171 : decode cX10_mistaken 171 = .ok (.ifCond .eq 12, 3) := by decide +kernel
theorem dX10_mistaken_174 : decode cX10_mistaken 174 = .ok (.iload 4, 2) := by decide +kernel
theorem dX10_mistaken_176 : decode cX10_mistaken 176 = .ok (.ifCond .ne 7, 3) := by decide +kernel
theorem dX10_mistaken_179 : decode cX10_mistaken 179 = .ok (.iconst 1, 1) := by decide +kernel
theorem dX10_mistaken_180 : decode cX10_mistaken 180 = .ok (.goto 4, 3) := by decide +kernel
theorem dX10_mistaken_183 : decode cX10_mistaken 183 = .ok (.iconst 0, 1) := by decide +kernel
theorem dX10_mistaken_184 : decode cX10_mistaken 184 = .ok (.istore 8, 2) := by decide +kernel
theorem dX10_mistaken_186 : decode cX10_mistaken 186 = .ok (.iload 4, 2) := by decide +kernel
theorem dX10_mistaken_188 : decode cX10_mistaken 188 = .ok (.aload_n 0, 1) := by decide +kernel
theorem dX10_mistaken_189 : decode cX10_mistaken 189 = .ok (.aload_n 0, 1) := by decide +kernel
theorem dX10_mistaken_190 : decode cX10_mistaken 190 = .ok (.getfield 151, 3) := by decide +kernel
theorem dX10_mistaken_193 : decode cX10_mistaken 193 = .ok (.iload 6, 2) := by decide +kernel
theorem dX10_mistaken_195 : decode cX10_mistaken 195 = .ok (.iadd, 1) := by decide +kernel
theorem dX10_mistaken_196 : decode cX10_mistaken 196 = .ok (.invokevirtual 228, 3) := by decide +kernel
theorem dX10_mistaken_199 : decode cX10_mistaken 199 = .ok (.ifCond .eq 7, 3) := by decide +kernel
theorem dX10_mistaken_202 : decode cX10_mistaken 202 = .ok (.iconst 1, 1) := by decide +kernel
theorem dX10_mistaken_203 : decode cX10_mistaken 203 = .ok (.goto 4, 3) := by decide +kernel
theorem dX10_mistaken_206 : decode cX10_mistaken 206 = .ok (.iconst 0, 1) := by decide +kernel
theorem dX10_mistaken_207 : decode cX10_mistaken 207 = .ok (.isub, 1) := by decide +kernel
theorem dX10_mistaken_208 : decode cX10_mistaken 208 = .ok (.istore 4, 2) := by decide +kernel
theorem dX10_mistaken_210 : decode cX10_mistaken 210 = .ok (.iload 8, 2) := by decide +kernel
theorem dX10_mistaken_212 : decode cX10_mistaken 212 = .ok (.ifCond .eq 17, 3) := by decide +kernel
theorem dX10_mistaken_215 : decode cX10_mistaken 215 = .ok (.aload_n 0, 1) := by decide +kernel
theorem dX10_mistaken_216 : decode cX10_mistaken 216 = .ok (.aload_n 0, 1) := by decide +kernel
theorem dX10_mistaken_217 : decode cX10_mistaken 217 = .ok (.getfield 151, 3) := by decide +kernel
theorem dX10_mistaken_220 : decode cX10_mistaken 220 = .ok (.iload 6, 2) := by decide +kernel
theorem dX10_mistaken_222 : decode cX10_mistaken 222 = .ok (.iadd, 1) := by decide +kernel
theorem dX10_mistaken_223 : decode cX10_mistaken 223 = .ok (.invokevirtual 240, 3) := by decide +kernel
theorem dX10_mistaken_226 : decode cX10_mistaken 226 = .ok (.goto 14, 3) := by decide +kernel
theorem dX10_mistaken_229 : decode cX10_mistaken 229 = .ok (.aload_n 0, 1) := by decide +kernel
theorem dX10_mistaken_230 : decode cX10_mistaken 230 = .ok (.aload_n 0, 1) := by decide +kernel
theorem dX10_mistaken_231 : decode cX10_mistaken 231 = .ok (.getfield 151, 3) := by decide +kernel
theorem dX10_mistaken_234 : decode cX10_mistaken 234 = .ok (.iload 6, 2) := by decide +kernel
theorem dX10_mistaken_236 : decode cX10_mistaken 236 = .ok (.iadd, 1) := by decide +kernel
theorem dX10_mistaken_237 : decode cX10_mistaken 237 = .ok (.invokevirtual 255, 3) := by decide +kernel
theorem dX10_mistaken_240 : decode cX10_mistaken 240 = .ok (.iinc 6 1, 3) := by decide +kernel
theorem dX10_mistaken_243 : decode cX10_mistaken 243 = .ok (.goto (-217), 3) := by decide +kernel
theorem dX10_mistaken_246 : decode cX10_mistaken 246 = .ok (.aload_n 0, 1) := by decide +kernel
theorem dX10_mistaken_247 : decode cX10_mistaken 247 = .ok (.aload_n 0, 1) := by decide +kernel
theorem dX10_mistaken_248 : decode cX10_mistaken 248 = .ok (.getfield 273, 3) := by decide +kernel
theorem dX10_mistaken_251 : decode cX10_mistaken 251 = .ok (.ifCond .lt 10, 3) := by decide +kernel
theorem dX10_mistaken_254 : decode cX10_mistaken 254 = .ok (.aload_n 0, 1) := by decide +kernel
theorem dX10_mistaken_255 : decode cX10_mistaken 255 = .ok (.getfield 273, 3) := by decide +kernel
theorem dX10_mistaken_258 : decode cX10_mistaken 258 = .ok (.goto 14, 3) := by decide +kernel
theorem dX10_mistaken_261 : decode cX10_mistaken 261 = .ok (.iload 5, 2) := by decide +kernel
theorem dX10_mistaken_263 : decode cX10_mistaken 263 = .ok (.ifCond .eq 8, 3) := by decide +kernel
theorem dX10_mistaken_266 : decode cX10_mistaken 266 = .ok (.bipush (-2), 2) := by decide +kernel
theorem dX10_mistaken_268 : decode cX10_mistaken 268 = .ok (.goto 4, 3) := by decide +kernel
theorem dX10_mistaken_271 : decode cX10_mistaken 271 = .ok (.iconst 0, 1) := by decide +kernel
theorem dX10_mistaken_272 : decode cX10_mistaken 272 = .ok (.putfield 273, 3) := by decide +kernel
theorem dX10_mistaken_275 : decode cX10_mistaken 275 = .ok (.iload_n 3, 1) := by decide +kernel
theorem dX10_mistaken_276 : decode cX10_mistaken 276 = .ok (.ifCond .ge 9, 3) := by decide +kernel
theorem dX10_mistaken_279 : decode cX10_mistaken 279 = .ok (.sipush 200, 3) := by decide +kernel
theorem dX10_mistaken_282 : decode cX10_mistaken 282 = .ok (.goto 4, 3) := by decide +kernel
theorem dX10_mistaken_285 : decode cX10_mistaken 285 = .ok (.iload_n 3, 1) := by decide +kernel
theorem dX10_mistaken_286 : decode cX10_mistaken 286 = .ok (.ireturn, 1) := by decide +kernel
theorem dX10_mistake_0 : decode cX10_mistake 0 = .ok (.iload_n 1, 1) := by decide +kernel
theorem dX10_mistake_1 : decode cX10_mistake 1 = .ok (.i2l, 1) := by decide +kernel
theorem dX10_mistake_2 : decode cX10_mistake 2 = .ok (.lconst 0, 1) := by decide +kernel
theorem dX10_mistake_3 : decode cX10_mistake 3 = .ok (.ldc2_w 276, 3) := by decide +kernel
theorem dX10_mistake_6 : decode cX10_mistake 6 = .ok (.invokestatic 101, 3) := by decide +kernel
theorem dX10_mistake_9 : decode cX10_mistake 9 = .ok (.ifCond .eq 13, 3) := by decide +kernel
theorem dX10_mistake_12 : decode cX10_mistake 12 = .ok (.iload_n 2, 1) := by decide +kernel
theorem dX10_mistake_13 : decode cX10_mistake 13 = .ok (.i2l, 1) := by decide +kernel
theorem dX10_mistake_14 : decode cX10_mistake 14 = .ok (.lconst 0, 1) := by decide +kernel
theorem dX10_mistake_15 : decode cX10_mistake 15 = .ok (.lconst 1, 1) := by decide +kernel
theorem dX10_mistake_16 : decode cX10_mistake 16 = .ok (.invokestatic 101, 3) := by decide +kernel
theorem dX10_mistake_19 : decode cX10_mistake 19 = .ok (.ifCond .ne 5, 3) := by decide +kernel
theorem dX10_mistake_22 : decode cX10_mistake 22 = .ok (.iconst (-1), 1) := by decide +kernel
theorem dX10_mistake_23 : decode cX10_mistake 23 = .ok (.ireturn, 1) := by decide +kernel
theorem dX10_mistake_24 : decode cX10_mistake 24 = .ok (.aload_n 0, 1) := by decide +kernel
theorem dX10_mistake_25 : decode cX10_mistake 25 = .ok (.iload_n 1, 1) := by decide +kernel
theorem dX10_mistake_26 : decode cX10_mistake 26 = .ok (.invokevirtual 278, 3) := by decide +kernel
theorem dX10_mistake_29 : decode cX10_mistake 29 = .ok (.istore_n 3, 1) := by decide +kernel
theorem dX10_mistake_30 : decode cX10_mistake 30 = .ok (.iload_n 2, 1) := by decide +kernel
theorem dX10_mistake_31 : decode cX10_mistake 31 = .ok (.ifCond .ne 7, 3) := by decide +kernel
theorem dX10_mistake_34 : decode cX10_mistake 34 = .ok (.iload_n 3, 1) := by decide +kernel
theorem dX10_mistake_35 : decode cX10_mistake 35 = .ok (.goto 7, 3) := by decide +kernel
theorem dX10_mistake_38 : decode cX10_mistake 38 = .ok (.aload_n 0, 1) := by decide +kernel
theorem dX10_mistake_39 : decode cX10_mistake 39 = .ok (.getfield 273, 3) := by decide +kernel
theorem dX10_mistake_42 : decode cX10_mistake 42 = .ok (.ireturn, 1) := by decide +kernel
theorem dX10_held_0 : decode cX10_held 0 = .ok (.iload_n 1, 1) := by decide +kernel
theorem dX10_held_1 : decode cX10_held 1 = .ok (.i2l, 1) := by decide +kernel
theorem dX10_held_2 : decode cX10_held 2 = .ok (.lconst 1, 1) := by decide +kernel
theorem dX10_held_3 : decode cX10_held 3 = .ok (.ldc2_w 244, 3) := by decide +kernel
theorem dX10_held_6 : decode cX10_held 6 = .ok (.invokestatic 101, 3) := by decide +kernel
theorem dX10_held_9 : decode cX10_held 9 = .ok (.ifCond .ne 5, 3) := by decide +kernel
theorem dX10_held_12 : decode cX10_held 12 = .ok (.iconst (-1), 1) := by decide +kernel
theorem dX10_held_13 : decode cX10_held 13 = .ok (.ireturn, 1) := by decide +kernel
theorem dX10_held_14 : decode cX10_held 14 = .ok (.aload_n 0, 1) := by decide +kernel
theorem dX10_held_15 : decode cX10_held 15 = .ok (.invokevirtual 246, 3) := by decide +kernel
theorem dX10_held_18 : decode cX10_held 18 = .ok (.istore_n 2, 1) := by decide +kernel
theorem dX10_held_19 : decode cX10_held 19 = .ok (.iconst 0, 1) := by decide +kernel
theorem dX10_held_20 : decode cX10_held 20 = .ok (.istore_n 3, 1) := by decide +kernel
theorem dX10_held_21 : decode cX10_held 21 = .ok (.iconst 1, 1) := by decide +kernel
theorem dX10_held_22 : decode cX10_held 22 = .ok (.istore 4, 2) := by decide +kernel
theorem dX10_held_24 : decode cX10_held 24 = .ok (.iload 4, 2) := by decide +kernel
theorem dX10_held_26 : decode cX10_held 26 = .ok (.iconst 1, 1) := by decide +kernel
theorem dX10_held_27 : decode cX10_held 27 = .ok (.aload_n 0, 1) := by decide +kernel
theorem dX10_held_28 : decode cX10_held 28 = .ok (.getfield 109, 3) := by decide +kernel
theorem dX10_held_31 : decode cX10_held 31 = .ok (.ishl, 1) := by decide +kernel
theorem dX10_held_32 : decode cX10_held 32 = .ok (.if_icmp .ge 47, 3) := by decide +kernel
theorem dX10_held_35 : decode cX10_held 35 = .ok (.iload 4, 2) := by decide +kernel
theorem dX10_held_37 : decode cX10_held 37 = .ok (.iload_n 2, 1) := by decide +kernel
theorem dX10_held_38 : decode cX10_held 38 = .ok (.iconst (-1), 1) := by decide +kernel
theorem dX10_held_39 : decode cX10_held 39 = .ok (.ixor, 1) := by decide +kernel
theorem dX10_held_40 : decode cX10_held 40 = .ok (.iand, 1) := by decide +kernel
theorem dX10_held_41 : decode cX10_held 41 = .ok (.ifCond .ne 30, 3) := by decide +kernel
theorem dX10_held_44 : decode cX10_held 44 = .ok (.iload 4, 2) := by decide +kernel
theorem dX10_held_46 : decode cX10_held 46 = .ok (.invokestatic 261, 3) := by decide +kernel
theorem dX10_held_49 : decode cX10_held 49 = .ok (.iload_n 3, 1) := by decide +kernel
theorem dX10_held_50 : decode cX10_held 50 = .ok (.invokestatic 261, 3) := by decide +kernel
theorem dX10_held_53 : decode cX10_held 53 = .ok (.if_icmp .le 18, 3) := by decide +kernel
theorem dX10_held_56 : decode cX10_held 56 = .ok (.aload_n 0, 1) := by decide +kernel
theorem dX10_held_57 : decode cX10_held 57 = .ok (.iload 4, 2) := by decide +kernel
theorem dX10_held_59 : decode cX10_held 59 = .ok (.invokevirtual 267, 3) := by decide +kernel
theorem dX10_held_62 : decode cX10_held 62 = .ok (.iload_n 1, 1) := by decide +kernel
theorem dX10_held_63 : decode cX10_held 63 = .ok (.if_icmp .lt 8, 3) := by decide +kernel
theorem dX10_held_66 : decode cX10_held 66 = .ok (.iload 4, 2) := by decide +kernel
theorem dX10_held_68 : decode cX10_held 68 = .ok (.goto 4, 3) := by decide +kernel
theorem dX10_held_71 : decode cX10_held 71 = .ok (.iload_n 3, 1) := by decide +kernel
theorem dX10_held_72 : decode cX10_held 72 = .ok (.istore_n 3, 1) := by decide +kernel
theorem dX10_held_73 : decode cX10_held 73 = .ok (.iinc 4 1, 3) := by decide +kernel
theorem dX10_held_76 : decode cX10_held 76 = .ok (.goto (-52), 3) := by decide +kernel
theorem dX10_held_79 : decode cX10_held 79 = .ok (.iload_n 3, 1) := by decide +kernel
theorem dX10_held_80 : decode cX10_held 80 = .ok (.ifCond .ne 8, 3) := by decide +kernel
theorem dX10_held_83 : decode cX10_held 83 = .ok (.bipush (-2), 2) := by decide +kernel
theorem dX10_held_85 : decode cX10_held 85 = .ok (.goto 4, 3) := by decide +kernel
theorem dX10_held_88 : decode cX10_held 88 = .ok (.iload_n 3, 1) := by decide +kernel
theorem dX10_held_89 : decode cX10_held 89 = .ok (.ireturn, 1) := by decide +kernel
theorem dX10_fallWith_0 : decode cX10_fallWith 0 = .ok (.aload_n 0, 1) := by decide +kernel
theorem dX10_fallWith_1 : decode cX10_fallWith 1 = .ok (.aload_n 0, 1) := by decide +kernel
theorem dX10_fallWith_2 : decode cX10_fallWith 2 = .ok (.invokevirtual 246, 3) := by decide +kernel
theorem dX10_fallWith_5 : decode cX10_fallWith 5 = .ok (.invokevirtual 249, 3) := by decide +kernel
theorem dX10_fallWith_8 : decode cX10_fallWith 8 = .ok (.iconst 0, 1) := by decide +kernel
theorem dX10_fallWith_9 : decode cX10_fallWith 9 = .ok (.istore 5, 2) := by decide +kernel
theorem dX10_fallWith_11 : decode cX10_fallWith 11 = .ok (.iload 5, 2) := by decide +kernel
theorem dX10_fallWith_13 : decode cX10_fallWith 13 = .ok (.sipush 200, 3) := by decide +kernel
theorem dX10_fallWith_16 : decode cX10_fallWith 16 = .ok (.if_icmp .gt 81, 3) := by decide +kernel
theorem dX10_fallWith_19 : decode cX10_fallWith 19 = .ok (.aload_n 0, 1) := by decide +kernel
theorem dX10_fallWith_20 : decode cX10_fallWith 20 = .ok (.getfield 43, 3) := by decide +kernel
theorem dX10_fallWith_23 : decode cX10_fallWith 23 = .ok (.iload_n 1, 1) := by decide +kernel
theorem dX10_fallWith_24 : decode cX10_fallWith 24 = .ok (.iaload, 1) := by decide +kernel
theorem dX10_fallWith_25 : decode cX10_fallWith 25 = .ok (.ifCond .ne 6, 3) := by decide +kernel
theorem dX10_fallWith_28 : decode cX10_fallWith 28 = .ok (.iload 5, 2) := by decide +kernel
theorem dX10_fallWith_30 : decode cX10_fallWith 30 = .ok (.ireturn, 1) := by decide +kernel
theorem dX10_fallWith_31 : decode cX10_fallWith 31 = .ok (.aload_n 0, 1) := by decide +kernel
theorem dX10_fallWith_32 : decode cX10_fallWith 32 = .ok (.aload_n 0, 1) := by decide +kernel
theorem dX10_fallWith_33 : decode cX10_fallWith 33 = .ok (.getfield 151, 3) := by decide +kernel
theorem dX10_fallWith_36 : decode cX10_fallWith 36 = .ok (.iload 5, 2) := by decide +kernel
theorem dX10_fallWith_38 : decode cX10_fallWith 38 = .ok (.iadd, 1) := by decide +kernel
theorem dX10_fallWith_39 : decode cX10_fallWith 39 = .ok (.invokevirtual 228, 3) := by decide +kernel
theorem dX10_fallWith_42 : decode cX10_fallWith 42 = .ok (.ifCond .eq 25, 3) := by decide +kernel
theorem dX10_fallWith_45 : decode cX10_fallWith 45 = .ok (.aload_n 0, 1) := by decide +kernel
theorem dX10_fallWith_46 : decode cX10_fallWith 46 = .ok (.aload_n 0, 1) := by decide +kernel
theorem dX10_fallWith_47 : decode cX10_fallWith 47 = .ok (.aload_n 0, 1) := by decide +kernel
theorem dX10_fallWith_48 : decode cX10_fallWith 48 = .ok (.getfield 151, 3) := by decide +kernel
theorem dX10_fallWith_51 : decode cX10_fallWith 51 = .ok (.iload 5, 2) := by decide +kernel
theorem dX10_fallWith_53 : decode cX10_fallWith 53 = .ok (.iadd, 1) := by decide +kernel
theorem dX10_fallWith_54 : decode cX10_fallWith 54 = .ok (.invokevirtual 231, 3) := by decide +kernel
theorem dX10_fallWith_57 : decode cX10_fallWith 57 = .ok (.aload_n 0, 1) := by decide +kernel
theorem dX10_fallWith_58 : decode cX10_fallWith 58 = .ok (.getfield 9, 3) := by decide +kernel
theorem dX10_fallWith_61 : decode cX10_fallWith 61 = .ok (.bipush 18, 2) := by decide +kernel
theorem dX10_fallWith_63 : decode cX10_fallWith 63 = .ok (.iaload, 1) := by decide +kernel
theorem dX10_fallWith_64 : decode cX10_fallWith 64 = .ok (.invokevirtual 234, 3) := by decide +kernel
theorem dX10_fallWith_67 : decode cX10_fallWith 67 = .ok (.iload 5, 2) := by decide +kernel
theorem dX10_fallWith_69 : decode cX10_fallWith 69 = .ok (.iload_n 2, 1) := by decide +kernel
theorem dX10_fallWith_70 : decode cX10_fallWith 70 = .ok (.if_icmp .ne 10, 3) := by decide +kernel
theorem dX10_fallWith_73 : decode cX10_fallWith 73 = .ok (.aload_n 0, 1) := by decide +kernel
theorem dX10_fallWith_74 : decode cX10_fallWith 74 = .ok (.iload_n 3, 1) := by decide +kernel
theorem dX10_fallWith_75 : decode cX10_fallWith 75 = .ok (.iload 4, 2) := by decide +kernel
theorem dX10_fallWith_77 : decode cX10_fallWith 77 = .ok (.invokevirtual 234, 3) := by decide +kernel
theorem dX10_fallWith_80 : decode cX10_fallWith 80 = .ok (.aload_n 0, 1) := by decide +kernel
theorem dX10_fallWith_81 : decode cX10_fallWith 81 = .ok (.aload_n 0, 1) := by decide +kernel
theorem dX10_fallWith_82 : decode cX10_fallWith 82 = .ok (.getfield 151, 3) := by decide +kernel
theorem dX10_fallWith_85 : decode cX10_fallWith 85 = .ok (.iload 5, 2) := by decide +kernel
theorem dX10_fallWith_87 : decode cX10_fallWith 87 = .ok (.iadd, 1) := by decide +kernel
theorem dX10_fallWith_88 : decode cX10_fallWith 88 = .ok (.invokevirtual 240, 3) := by decide +kernel
theorem dX10_fallWith_91 : decode cX10_fallWith 91 = .ok (.iinc 5 1, 3) := by decide +kernel
theorem dX10_fallWith_94 : decode cX10_fallWith 94 = .ok (.goto (-83), 3) := by decide +kernel
theorem dX10_fallWith_97 : decode cX10_fallWith 97 = .ok (.sipush 201, 3) := by decide +kernel
theorem dX10_fallWith_100 : decode cX10_fallWith 100 = .ok (.ireturn, 1) := by decide +kernel
theorem dX10_rescue_0 : decode cX10_rescue 0 = .ok (.aload_n 0, 1) := by decide +kernel
theorem dX10_rescue_1 : decode cX10_rescue 1 = .ok (.iload_n 1, 1) := by decide +kernel
theorem dX10_rescue_2 : decode cX10_rescue 2 = .ok (.invokevirtual 133, 3) := by decide +kernel
theorem dX10_rescue_5 : decode cX10_rescue 5 = .ok (.ifCond .eq 31, 3) := by decide +kernel
theorem dX10_rescue_8 : decode cX10_rescue 8 = .ok (.iload_n 2, 1) := by decide +kernel
theorem dX10_rescue_9 : decode cX10_rescue 9 = .ok (.ifCond .lt 27, 3) := by decide +kernel
theorem dX10_rescue_12 : decode cX10_rescue 12 = .ok (.iload_n 2, 1) := by decide +kernel
theorem dX10_rescue_13 : decode cX10_rescue 13 = .ok (.bipush 100, 2) := by decide +kernel
theorem dX10_rescue_15 : decode cX10_rescue 15 = .ok (.idiv, 1) := by decide +kernel
theorem dX10_rescue_16 : decode cX10_rescue 16 = .ok (.i2l, 1) := by decide +kernel
theorem dX10_rescue_17 : decode cX10_rescue 17 = .ok (.lconst 1, 1) := by decide +kernel
theorem dX10_rescue_18 : decode cX10_rescue 18 = .ok (.ldc2_w 129, 3) := by decide +kernel
theorem dX10_rescue_21 : decode cX10_rescue 21 = .ok (.invokestatic 101, 3) := by decide +kernel
theorem dX10_rescue_24 : decode cX10_rescue 24 = .ok (.ifCond .eq 12, 3) := by decide +kernel
theorem dX10_rescue_27 : decode cX10_rescue 27 = .ok (.iload_n 2, 1) := by decide +kernel
theorem dX10_rescue_28 : decode cX10_rescue 28 = .ok (.bipush 100, 2) := by decide +kernel
theorem dX10_rescue_30 : decode cX10_rescue 30 = .ok (.irem, 1) := by decide +kernel
theorem dX10_rescue_31 : decode cX10_rescue 31 = .ok (.bipush 24, 2) := by decide +kernel
theorem dX10_rescue_33 : decode cX10_rescue 33 = .ok (.if_icmp .lt 5, 3) := by decide +kernel
theorem dX10_rescue_36 : decode cX10_rescue 36 = .ok (.iconst (-1), 1) := by decide +kernel
theorem dX10_rescue_37 : decode cX10_rescue 37 = .ok (.ireturn, 1) := by decide +kernel
theorem dX10_rescue_38 : decode cX10_rescue 38 = .ok (.aload_n 0, 1) := by decide +kernel
theorem dX10_rescue_39 : decode cX10_rescue 39 = .ok (.iload_n 1, 1) := by decide +kernel
theorem dX10_rescue_40 : decode cX10_rescue 40 = .ok (.invokevirtual 264, 3) := by decide +kernel
theorem dX10_rescue_43 : decode cX10_rescue 43 = .ok (.istore_n 3, 1) := by decide +kernel
theorem dX10_rescue_44 : decode cX10_rescue 44 = .ok (.iload_n 3, 1) := by decide +kernel
theorem dX10_rescue_45 : decode cX10_rescue 45 = .ok (.ifCond .eq 10, 3) := by decide +kernel
theorem dX10_rescue_48 : decode cX10_rescue 48 = .ok (.iload_n 3, 1) := by decide +kernel
theorem dX10_rescue_49 : decode cX10_rescue 49 = .ok (.sipush 201, 3) := by decide +kernel
theorem dX10_rescue_52 : decode cX10_rescue 52 = .ok (.if_icmp .ne 6, 3) := by decide +kernel
theorem dX10_rescue_55 : decode cX10_rescue 55 = .ok (.bipush (-5), 2) := by decide +kernel
theorem dX10_rescue_57 : decode cX10_rescue 57 = .ok (.ireturn, 1) := by decide +kernel
theorem dX10_rescue_58 : decode cX10_rescue 58 = .ok (.iconst 0, 1) := by decide +kernel
theorem dX10_rescue_59 : decode cX10_rescue 59 = .ok (.istore 4, 2) := by decide +kernel
theorem dX10_rescue_61 : decode cX10_rescue 61 = .ok (.iload 4, 2) := by decide +kernel
theorem dX10_rescue_63 : decode cX10_rescue 63 = .ok (.bipush 100, 2) := by decide +kernel
theorem dX10_rescue_65 : decode cX10_rescue 65 = .ok (.if_icmp .ge 31, 3) := by decide +kernel
theorem dX10_rescue_68 : decode cX10_rescue 68 = .ok (.aload_n 0, 1) := by decide +kernel
theorem dX10_rescue_69 : decode cX10_rescue 69 = .ok (.iload_n 1, 1) := by decide +kernel
theorem dX10_rescue_70 : decode cX10_rescue 70 = .ok (.iload 4, 2) := by decide +kernel
theorem dX10_rescue_72 : decode cX10_rescue 72 = .ok (.iload_n 2, 1) := by decide +kernel
theorem dX10_rescue_73 : decode cX10_rescue 73 = .ok (.bipush 100, 2) := by decide +kernel
theorem dX10_rescue_75 : decode cX10_rescue 75 = .ok (.irem, 1) := by decide +kernel
theorem dX10_rescue_76 : decode cX10_rescue 76 = .ok (.iload_n 2, 1) := by decide +kernel
theorem dX10_rescue_77 : decode cX10_rescue 77 = .ok (.bipush 100, 2) := by decide +kernel
theorem dX10_rescue_79 : decode cX10_rescue 79 = .ok (.idiv, 1) := by decide +kernel
theorem dX10_rescue_80 : decode cX10_rescue 80 = .ok (.invokevirtual 281, 3) := by decide +kernel
theorem dX10_rescue_83 : decode cX10_rescue 83 = .ok (.iload_n 3, 1) := by decide +kernel
theorem dX10_rescue_84 : decode cX10_rescue 84 = .ok (.if_icmp .le 6, 3) := by decide +kernel
theorem dX10_rescue_87 : decode cX10_rescue 87 = .ok (.iload 4, 2) := by decide +kernel
theorem dX10_rescue_89 : decode cX10_rescue 89 = .ok (.ireturn, 1) := by decide +kernel
theorem dX10_rescue_90 : decode cX10_rescue 90 = .ok (.iinc 4 1, 3) := by decide +kernel
theorem dX10_rescue_93 : decode cX10_rescue 93 = .ok (.goto (-32), 3) := by decide +kernel
theorem dX10_rescue_96 : decode cX10_rescue 96 = .ok (.bipush (-2), 2) := by decide +kernel
theorem dX10_rescue_98 : decode cX10_rescue 98 = .ok (.ireturn, 1) := by decide +kernel
theorem dX10_start_0 : decode cX10_start 0 = .ok (.aload_n 0, 1) := by decide +kernel
theorem dX10_start_1 : decode cX10_start 1 = .ok (.iload_n 1, 1) := by decide +kernel
theorem dX10_start_2 : decode cX10_start 2 = .ok (.invokevirtual 133, 3) := by decide +kernel
theorem dX10_start_5 : decode cX10_start 5 = .ok (.ifCond .ne 6, 3) := by decide +kernel
theorem dX10_start_8 : decode cX10_start 8 = .ok (.ldc 140, 2) := by decide +kernel
theorem dX10_start_10 : decode cX10_start 10 = .ok (.ireturn, 1) := by decide +kernel
theorem dX10_start_11 : decode cX10_start 11 = .ok (.aload_n 0, 1) := by decide +kernel
theorem dX10_start_12 : decode cX10_start 12 = .ok (.getfield 25, 3) := by decide +kernel
theorem dX10_start_15 : decode cX10_start 15 = .ok (.iload_n 1, 1) := by decide +kernel
theorem dX10_start_16 : decode cX10_start 16 = .ok (.iaload, 1) := by decide +kernel
theorem dX10_start_17 : decode cX10_start 17 = .ok (.ifCond .ne 6, 3) := by decide +kernel
theorem dX10_start_20 : decode cX10_start 20 = .ok (.bipush (-5), 2) := by decide +kernel
theorem dX10_start_22 : decode cX10_start 22 = .ok (.ireturn, 1) := by decide +kernel
theorem dX10_start_23 : decode cX10_start 23 = .ok (.aload_n 0, 1) := by decide +kernel
theorem dX10_start_24 : decode cX10_start 24 = .ok (.getfield 9, 3) := by decide +kernel
theorem dX10_start_27 : decode cX10_start 27 = .ok (.bipush 10, 2) := by decide +kernel
theorem dX10_start_29 : decode cX10_start 29 = .ok (.iload_n 1, 1) := by decide +kernel
theorem dX10_start_30 : decode cX10_start 30 = .ok (.iadd, 1) := by decide +kernel
theorem dX10_start_31 : decode cX10_start 31 = .ok (.iaload, 1) := by decide +kernel
theorem dX10_start_32 : decode cX10_start 32 = .ok (.istore_n 2, 1) := by decide +kernel
theorem dX10_start_33 : decode cX10_start 33 = .ok (.ldc 140, 2) := by decide +kernel
theorem dX10_start_35 : decode cX10_start 35 = .ok (.istore_n 3, 1) := by decide +kernel
theorem dX10_start_36 : decode cX10_start 36 = .ok (.iconst (-1), 1) := by decide +kernel
theorem dX10_start_37 : decode cX10_start 37 = .ok (.istore 4, 2) := by decide +kernel
theorem dX10_start_39 : decode cX10_start 39 = .ok (.bipush (-9), 2) := by decide +kernel
theorem dX10_start_41 : decode cX10_start 41 = .ok (.istore 5, 2) := by decide +kernel
theorem dX10_start_43 : decode cX10_start 43 = .ok (.iload 5, 2) := by decide +kernel
theorem dX10_start_45 : decode cX10_start 45 = .ok (.bipush 9, 2) := by decide +kernel
theorem dX10_start_47 : decode cX10_start 47 = .ok (.if_icmp .gt 57, 3) := by decide +kernel
theorem dX10_start_50 : decode cX10_start 50 = .ok (.aload_n 0, 1) := by decide +kernel
theorem dX10_start_51 : decode cX10_start 51 = .ok (.getfield 9, 3) := by decide +kernel
theorem dX10_start_54 : decode cX10_start 54 = .ok (.bipush 10, 2) := by decide +kernel
theorem dX10_start_56 : decode cX10_start 56 = .ok (.iload_n 1, 1) := by decide +kernel
theorem dX10_start_57 : decode cX10_start 57 = .ok (.iadd, 1) := by decide +kernel
theorem dX10_start_58 : decode cX10_start 58 = .ok (.iload 5, 2) := by decide +kernel
theorem dX10_start_60 : decode cX10_start 60 = .ok (.iastore, 1) := by decide +kernel
theorem dX10_start_61 : decode cX10_start 61 = .ok (.aload_n 0, 1) := by decide +kernel
theorem dX10_start_62 : decode cX10_start 62 = .ok (.iload_n 1, 1) := by decide +kernel
theorem dX10_start_63 : decode cX10_start 63 = .ok (.invokevirtual 264, 3) := by decide +kernel
theorem dX10_start_66 : decode cX10_start 66 = .ok (.istore 6, 2) := by decide +kernel
theorem dX10_start_68 : decode cX10_start 68 = .ok (.iload 6, 2) := by decide +kernel
theorem dX10_start_70 : decode cX10_start 70 = .ok (.iload 4, 2) := by decide +kernel
theorem dX10_start_72 : decode cX10_start 72 = .ok (.if_icmp .le 8, 3) := by decide +kernel
theorem dX10_start_75 : decode cX10_start 75 = .ok (.iload 5, 2) := by decide +kernel
theorem dX10_start_77 : decode cX10_start 77 = .ok (.goto 4, 3) := by decide +kernel
theorem dX10_start_80 : decode cX10_start 80 = .ok (.iload_n 3, 1) := by decide +kernel
theorem dX10_start_81 : decode cX10_start 81 = .ok (.istore_n 3, 1) := by decide +kernel
theorem dX10_start_82 : decode cX10_start 82 = .ok (.iload 6, 2) := by decide +kernel
theorem dX10_start_84 : decode cX10_start 84 = .ok (.iload 4, 2) := by decide +kernel
theorem dX10_start_86 : decode cX10_start 86 = .ok (.if_icmp .le 8, 3) := by decide +kernel
theorem dX10_start_89 : decode cX10_start 89 = .ok (.iload 6, 2) := by decide +kernel
theorem dX10_start_91 : decode cX10_start 91 = .ok (.goto 5, 3) := by decide +kernel
theorem dX10_start_94 : decode cX10_start 94 = .ok (.iload 4, 2) := by decide +kernel
theorem dX10_start_96 : decode cX10_start 96 = .ok (.istore 4, 2) := by decide +kernel
theorem dX10_start_98 : decode cX10_start 98 = .ok (.iinc 5 1, 3) := by decide +kernel
theorem dX10_start_101 : decode cX10_start 101 = .ok (.goto (-58), 3) := by decide +kernel
theorem dX10_start_104 : decode cX10_start 104 = .ok (.aload_n 0, 1) := by decide +kernel
theorem dX10_start_105 : decode cX10_start 105 = .ok (.getfield 9, 3) := by decide +kernel
theorem dX10_start_108 : decode cX10_start 108 = .ok (.bipush 10, 2) := by decide +kernel
theorem dX10_start_110 : decode cX10_start 110 = .ok (.iload_n 1, 1) := by decide +kernel
theorem dX10_start_111 : decode cX10_start 111 = .ok (.iadd, 1) := by decide +kernel
theorem dX10_start_112 : decode cX10_start 112 = .ok (.iload_n 2, 1) := by decide +kernel
theorem dX10_start_113 : decode cX10_start 113 = .ok (.iastore, 1) := by decide +kernel
theorem dX10_start_114 : decode cX10_start 114 = .ok (.iload_n 3, 1) := by decide +kernel
theorem dX10_start_115 : decode cX10_start 115 = .ok (.ireturn, 1) := by decide +kernel
theorem dX10_rowIs_0 : decode cX10_rowIs 0 = .ok (.iload_n 1, 1) := by decide +kernel
theorem dX10_rowIs_1 : decode cX10_rowIs 1 = .ok (.invokestatic 125, 3) := by decide +kernel
theorem dX10_rowIs_4 : decode cX10_rowIs 4 = .ok (.ifCond .ne 7, 3) := by decide +kernel
theorem dX10_rowIs_7 : decode cX10_rowIs 7 = .ok (.iconst (-1), 1) := by decide +kernel
theorem dX10_rowIs_8 : decode cX10_rowIs 8 = .ok (.goto 34, 3) := by decide +kernel
theorem dX10_rowIs_11 : decode cX10_rowIs 11 = .ok (.aload_n 0, 1) := by decide +kernel
theorem dX10_rowIs_12 : decode cX10_rowIs 12 = .ok (.getfield 75, 3) := by decide +kernel
theorem dX10_rowIs_15 : decode cX10_rowIs 15 = .ok (.iload_n 1, 1) := by decide +kernel
theorem dX10_rowIs_16 : decode cX10_rowIs 16 = .ok (.iaload, 1) := by decide +kernel
theorem dX10_rowIs_17 : decode cX10_rowIs 17 = .ok (.ifCond .ge 8, 3) := by decide +kernel
theorem dX10_rowIs_20 : decode cX10_rowIs 20 = .ok (.bipush (-11), 2) := by decide +kernel
theorem dX10_rowIs_22 : decode cX10_rowIs 22 = .ok (.goto 20, 3) := by decide +kernel
theorem dX10_rowIs_25 : decode cX10_rowIs 25 = .ok (.aload_n 0, 1) := by decide +kernel
theorem dX10_rowIs_26 : decode cX10_rowIs 26 = .ok (.getfield 75, 3) := by decide +kernel
theorem dX10_rowIs_29 : decode cX10_rowIs 29 = .ok (.iload_n 1, 1) := by decide +kernel
theorem dX10_rowIs_30 : decode cX10_rowIs 30 = .ok (.iaload, 1) := by decide +kernel
theorem dX10_rowIs_31 : decode cX10_rowIs 31 = .ok (.bipush 50, 2) := by decide +kernel
theorem dX10_rowIs_33 : decode cX10_rowIs 33 = .ok (.if_icmp .ne 7, 3) := by decide +kernel
theorem dX10_rowIs_36 : decode cX10_rowIs 36 = .ok (.iconst 1, 1) := by decide +kernel
theorem dX10_rowIs_37 : decode cX10_rowIs 37 = .ok (.goto 5, 3) := by decide +kernel
theorem dX10_rowIs_40 : decode cX10_rowIs 40 = .ok (.bipush (-12), 2) := by decide +kernel
theorem dX10_rowIs_42 : decode cX10_rowIs 42 = .ok (.ireturn, 1) := by decide +kernel
theorem dX10_music_0 : decode cX10_music 0 = .ok (.aload_n 0, 1) := by decide +kernel
theorem dX10_music_1 : decode cX10_music 1 = .ok (.iload_n 1, 1) := by decide +kernel
theorem dX10_music_2 : decode cX10_music 2 = .ok (.invokevirtual 285, 3) := by decide +kernel
theorem dX10_music_5 : decode cX10_music 5 = .ok (.ifCond .ge 9, 3) := by decide +kernel
theorem dX10_music_8 : decode cX10_music 8 = .ok (.aload_n 0, 1) := by decide +kernel
theorem dX10_music_9 : decode cX10_music 9 = .ok (.iload_n 1, 1) := by decide +kernel
theorem dX10_music_10 : decode cX10_music 10 = .ok (.invokevirtual 285, 3) := by decide +kernel
theorem dX10_music_13 : decode cX10_music 13 = .ok (.ireturn, 1) := by decide +kernel
theorem dX10_music_14 : decode cX10_music 14 = .ok (.aload_n 0, 1) := by decide +kernel
theorem dX10_music_15 : decode cX10_music 15 = .ok (.invokevirtual 246, 3) := by decide +kernel
theorem dX10_music_18 : decode cX10_music 18 = .ok (.istore_n 2, 1) := by decide +kernel
theorem dX10_music_19 : decode cX10_music 19 = .ok (.aload_n 0, 1) := by decide +kernel
theorem dX10_music_20 : decode cX10_music 20 = .ok (.iload_n 2, 1) := by decide +kernel
theorem dX10_music_21 : decode cX10_music 21 = .ok (.invokevirtual 249, 3) := by decide +kernel
theorem dX10_music_24 : decode cX10_music 24 = .ok (.iconst 0, 1) := by decide +kernel
theorem dX10_music_25 : decode cX10_music 25 = .ok (.istore_n 3, 1) := by decide +kernel
theorem dX10_music_26 : decode cX10_music 26 = .ok (.aload_n 0, 1) := by decide +kernel
theorem dX10_music_27 : decode cX10_music 27 = .ok (.getfield 78, 3) := by decide +kernel
theorem dX10_music_30 : decode cX10_music 30 = .ok (.iload_n 1, 1) := by decide +kernel
theorem dX10_music_31 : decode cX10_music 31 = .ok (.iaload, 1) := by decide +kernel
theorem dX10_music_32 : decode cX10_music 32 = .ok (.ifCond .le 29, 3) := by decide +kernel
theorem dX10_music_35 : decode cX10_music 35 = .ok (.aload_n 0, 1) := by decide +kernel
theorem dX10_music_36 : decode cX10_music 36 = .ok (.getfield 81, 3) := by decide +kernel
theorem dX10_music_39 : decode cX10_music 39 = .ok (.bipush 60, 2) := by decide +kernel
theorem dX10_music_41 : decode cX10_music 41 = .ok (.iload_n 1, 1) := by decide +kernel
theorem dX10_music_42 : decode cX10_music 42 = .ok (.imul, 1) := by decide +kernel
theorem dX10_music_43 : decode cX10_music 43 = .ok (.laload, 1) := by decide +kernel
theorem dX10_music_44 : decode cX10_music 44 = .ok (.lconst 1, 1) := by decide +kernel
theorem dX10_music_45 : decode cX10_music 45 = .ok (.lcmp, 1) := by decide +kernel
theorem dX10_music_46 : decode cX10_music 46 = .ok (.ifCond .lt 15, 3) := by decide +kernel
theorem dX10_music_49 : decode cX10_music 49 = .ok (.aload_n 0, 1) := by decide +kernel
theorem dX10_music_50 : decode cX10_music 50 = .ok (.getfield 81, 3) := by decide +kernel
theorem dX10_music_53 : decode cX10_music 53 = .ok (.bipush 60, 2) := by decide +kernel
theorem dX10_music_55 : decode cX10_music 55 = .ok (.iload_n 1, 1) := by decide +kernel
theorem dX10_music_56 : decode cX10_music 56 = .ok (.imul, 1) := by decide +kernel
theorem dX10_music_57 : decode cX10_music 57 = .ok (.laload, 1) := by decide +kernel
theorem dX10_music_58 : decode cX10_music 58 = .ok (.goto 6, 3) := by decide +kernel
theorem dX10_music_61 : decode cX10_music 61 = .ok (.ldc2_w 288, 3) := by decide +kernel
theorem dX10_music_64 : decode cX10_music 64 = .ok (.lstore 4, 2) := by decide +kernel
theorem dX10_music_66 : decode cX10_music 66 = .ok (.iconst 0, 1) := by decide +kernel
theorem dX10_music_67 : decode cX10_music 67 = .ok (.istore 6, 2) := by decide +kernel
theorem dX10_music_69 : decode cX10_music 69 = .ok (.iload 6, 2) := by decide +kernel
theorem dX10_music_71 : decode cX10_music 71 = .ok (.sipush 200, 3) := by decide +kernel
theorem dX10_music_74 : decode cX10_music 74 = .ok (.if_icmp .ge 113, 3) := by decide +kernel
theorem dX10_music_77 : decode cX10_music 77 = .ok (.iload 6, 2) := by decide +kernel
theorem dX10_music_79 : decode cX10_music 79 = .ok (.i2l, 1) := by decide +kernel
theorem dX10_music_80 : decode cX10_music 80 = .ok (.lload 4, 2) := by decide +kernel
theorem dX10_music_82 : decode cX10_music 82 = .ok (.lcmp, 1) := by decide +kernel
theorem dX10_music_83 : decode cX10_music 83 = .ok (.ifCond .ne 76, 3) := by decide +kernel
theorem dX10_music_86 : decode cX10_music 86 = .ok (.aload_n 0, 1) := by decide +kernel
theorem dX10_music_87 : decode cX10_music 87 = .ok (.iload_n 3, 1) := by decide +kernel
theorem dX10_music_88 : decode cX10_music 88 = .ok (.iconst 2, 1) := by decide +kernel
theorem dX10_music_89 : decode cX10_music 89 = .ok (.irem, 1) := by decide +kernel
theorem dX10_music_90 : decode cX10_music 90 = .ok (.ifCond .ne 7, 3) := by decide +kernel
theorem dX10_music_93 : decode cX10_music 93 = .ok (.iconst 0, 1) := by decide +kernel
theorem dX10_music_94 : decode cX10_music 94 = .ok (.goto 5, 3) := by decide +kernel
theorem dX10_music_97 : decode cX10_music 97 = .ok (.bipush 12, 2) := by decide +kernel
theorem dX10_music_99 : decode cX10_music 99 = .ok (.aload_n 0, 1) := by decide +kernel
theorem dX10_music_100 : decode cX10_music 100 = .ok (.getfield 9, 3) := by decide +kernel
theorem dX10_music_103 : decode cX10_music 103 = .ok (.bipush 18, 2) := by decide +kernel
theorem dX10_music_105 : decode cX10_music 105 = .ok (.iaload, 1) := by decide +kernel
theorem dX10_music_106 : decode cX10_music 106 = .ok (.invokevirtual 234, 3) := by decide +kernel
theorem dX10_music_109 : decode cX10_music 109 = .ok (.iinc 3 1, 3) := by decide +kernel
theorem dX10_music_112 : decode cX10_music 112 = .ok (.iload_n 3, 1) := by decide +kernel
theorem dX10_music_113 : decode cX10_music 113 = .ok (.aload_n 0, 1) := by decide +kernel
theorem dX10_music_114 : decode cX10_music 114 = .ok (.getfield 78, 3) := by decide +kernel
theorem dX10_music_117 : decode cX10_music 117 = .ok (.iload_n 1, 1) := by decide +kernel
theorem dX10_music_118 : decode cX10_music 118 = .ok (.iaload, 1) := by decide +kernel
theorem dX10_music_119 : decode cX10_music 119 = .ok (.if_icmp .ge 17, 3) := by decide +kernel
theorem dX10_music_122 : decode cX10_music 122 = .ok (.aload_n 0, 1) := by decide +kernel
theorem dX10_music_123 : decode cX10_music 123 = .ok (.getfield 81, 3) := by decide +kernel
theorem dX10_music_126 : decode cX10_music 126 = .ok (.bipush 60, 2) := by decide +kernel
theorem dX10_music_128 : decode cX10_music 128 = .ok (.iload_n 1, 1) := by decide +kernel
theorem dX10_music_129 : decode cX10_music 129 = .ok (.imul, 1) := by decide +kernel
theorem dX10_music_130 : decode cX10_music 130 = .ok (.iload_n 3, 1) := by decide +kernel
theorem dX10_music_131 : decode cX10_music 131 = .ok (.iadd, 1) := by decide +kernel
theorem dX10_music_132 : decode cX10_music 132 = .ok (.laload, 1) := by decide +kernel
theorem dX10_music_133 : decode cX10_music 133 = .ok (.goto 4, 3) := by decide +kernel
theorem dX10_music_136 : decode cX10_music 136 = .ok (.lconst 0, 1) := by decide +kernel
theorem dX10_music_137 : decode cX10_music 137 = .ok (.lstore 7, 2) := by decide +kernel
theorem dX10_music_139 : decode cX10_music 139 = .ok (.lload 7, 2) := by decide +kernel
theorem dX10_music_141 : decode cX10_music 141 = .ok (.lconst 1, 1) := by decide +kernel
theorem dX10_music_142 : decode cX10_music 142 = .ok (.lcmp, 1) := by decide +kernel
theorem dX10_music_143 : decode cX10_music 143 = .ok (.ifCond .lt 11, 3) := by decide +kernel
theorem dX10_music_146 : decode cX10_music 146 = .ok (.lload 4, 2) := by decide +kernel
theorem dX10_music_148 : decode cX10_music 148 = .ok (.lload 7, 2) := by decide +kernel
theorem dX10_music_150 : decode cX10_music 150 = .ok (.ladd, 1) := by decide +kernel
theorem dX10_music_151 : decode cX10_music 151 = .ok (.goto 6, 3) := by decide +kernel
theorem dX10_music_154 : decode cX10_music 154 = .ok (.ldc2_w 288, 3) := by decide +kernel
theorem dX10_music_157 : decode cX10_music 157 = .ok (.lstore 4, 2) := by decide +kernel
theorem dX10_music_159 : decode cX10_music 159 = .ok (.aload_n 0, 1) := by decide +kernel
theorem dX10_music_160 : decode cX10_music 160 = .ok (.aload_n 0, 1) := by decide +kernel
theorem dX10_music_161 : decode cX10_music 161 = .ok (.getfield 151, 3) := by decide +kernel
theorem dX10_music_164 : decode cX10_music 164 = .ok (.iload 6, 2) := by decide +kernel
theorem dX10_music_166 : decode cX10_music 166 = .ok (.iadd, 1) := by decide +kernel
theorem dX10_music_167 : decode cX10_music 167 = .ok (.invokevirtual 240, 3) := by decide +kernel
theorem dX10_music_170 : decode cX10_music 170 = .ok (.aload_n 0, 1) := by decide +kernel
theorem dX10_music_171 : decode cX10_music 171 = .ok (.iload_n 2, 1) := by decide +kernel
theorem dX10_music_172 : decode cX10_music 172 = .ok (.invokevirtual 252, 3) := by decide +kernel
theorem dX10_music_175 : decode cX10_music 175 = .ok (.ifCond .le 6, 3) := by decide +kernel
theorem dX10_music_178 : decode cX10_music 178 = .ok (.iload 6, 2) := by decide +kernel
theorem dX10_music_180 : decode cX10_music 180 = .ok (.ireturn, 1) := by decide +kernel
theorem dX10_music_181 : decode cX10_music 181 = .ok (.iinc 6 1, 3) := by decide +kernel
theorem dX10_music_184 : decode cX10_music 184 = .ok (.goto (-115), 3) := by decide +kernel
theorem dX10_music_187 : decode cX10_music 187 = .ok (.sipush 200, 3) := by decide +kernel
theorem dX10_music_190 : decode cX10_music 190 = .ok (.ireturn, 1) := by decide +kernel
theorem dX10_firstFalse_0 : decode cX10_firstFalse 0 = .ok (.aload_n 0, 1) := by decide +kernel
theorem dX10_firstFalse_1 : decode cX10_firstFalse 1 = .ok (.aload_n 0, 1) := by decide +kernel
theorem dX10_firstFalse_2 : decode cX10_firstFalse 2 = .ok (.invokevirtual 246, 3) := by decide +kernel
theorem dX10_firstFalse_5 : decode cX10_firstFalse 5 = .ok (.invokevirtual 249, 3) := by decide +kernel
theorem dX10_firstFalse_8 : decode cX10_firstFalse 8 = .ok (.iconst 0, 1) := by decide +kernel
theorem dX10_firstFalse_9 : decode cX10_firstFalse 9 = .ok (.istore_n 3, 1) := by decide +kernel
theorem dX10_firstFalse_10 : decode cX10_firstFalse 10 = .ok (.iload_n 3, 1) := by decide +kernel
theorem dX10_firstFalse_11 : decode cX10_firstFalse 11 = .ok (.aload_n 0, 1) := by decide +kernel
theorem dX10_firstFalse_12 : decode cX10_firstFalse 12 = .ok (.getfield 78, 3) := by decide +kernel
theorem dX10_firstFalse_15 : decode cX10_firstFalse 15 = .ok (.iload_n 1, 1) := by decide +kernel
theorem dX10_firstFalse_16 : decode cX10_firstFalse 16 = .ok (.iaload, 1) := by decide +kernel
theorem dX10_firstFalse_17 : decode cX10_firstFalse 17 = .ok (.if_icmp .ge 50, 3) := by decide +kernel
theorem dX10_firstFalse_20 : decode cX10_firstFalse 20 = .ok (.iload_n 3, 1) := by decide +kernel
theorem dX10_firstFalse_21 : decode cX10_firstFalse 21 = .ok (.sipush 200, 3) := by decide +kernel
theorem dX10_firstFalse_24 : decode cX10_firstFalse 24 = .ok (.if_icmp .ge 43, 3) := by decide +kernel
theorem dX10_firstFalse_27 : decode cX10_firstFalse 27 = .ok (.aload_n 0, 1) := by decide +kernel
theorem dX10_firstFalse_28 : decode cX10_firstFalse 28 = .ok (.aload_n 0, 1) := by decide +kernel
theorem dX10_firstFalse_29 : decode cX10_firstFalse 29 = .ok (.getfield 151, 3) := by decide +kernel
theorem dX10_firstFalse_32 : decode cX10_firstFalse 32 = .ok (.iload_n 3, 1) := by decide +kernel
theorem dX10_firstFalse_33 : decode cX10_firstFalse 33 = .ok (.iadd, 1) := by decide +kernel
theorem dX10_firstFalse_34 : decode cX10_firstFalse 34 = .ok (.invokevirtual 255, 3) := by decide +kernel
theorem dX10_firstFalse_37 : decode cX10_firstFalse 37 = .ok (.aload_n 0, 1) := by decide +kernel
theorem dX10_firstFalse_38 : decode cX10_firstFalse 38 = .ok (.getfield 81, 3) := by decide +kernel
theorem dX10_firstFalse_41 : decode cX10_firstFalse 41 = .ok (.bipush 60, 2) := by decide +kernel
theorem dX10_firstFalse_43 : decode cX10_firstFalse 43 = .ok (.iload_n 1, 1) := by decide +kernel
theorem dX10_firstFalse_44 : decode cX10_firstFalse 44 = .ok (.imul, 1) := by decide +kernel
theorem dX10_firstFalse_45 : decode cX10_firstFalse 45 = .ok (.iload_n 3, 1) := by decide +kernel
theorem dX10_firstFalse_46 : decode cX10_firstFalse 46 = .ok (.iadd, 1) := by decide +kernel
theorem dX10_firstFalse_47 : decode cX10_firstFalse 47 = .ok (.laload, 1) := by decide +kernel
theorem dX10_firstFalse_48 : decode cX10_firstFalse 48 = .ok (.aload_n 0, 1) := by decide +kernel
theorem dX10_firstFalse_49 : decode cX10_firstFalse 49 = .ok (.getfield 37, 3) := by decide +kernel
theorem dX10_firstFalse_52 : decode cX10_firstFalse 52 = .ok (.iload_n 2, 1) := by decide +kernel
theorem dX10_firstFalse_53 : decode cX10_firstFalse 53 = .ok (.iaload, 1) := by decide +kernel
theorem dX10_firstFalse_54 : decode cX10_firstFalse 54 = .ok (.i2l, 1) := by decide +kernel
theorem dX10_firstFalse_55 : decode cX10_firstFalse 55 = .ok (.lcmp, 1) := by decide +kernel
theorem dX10_firstFalse_56 : decode cX10_firstFalse 56 = .ok (.ifCond .eq 5, 3) := by decide +kernel
theorem dX10_firstFalse_59 : decode cX10_firstFalse 59 = .ok (.iload_n 3, 1) := by decide +kernel
theorem dX10_firstFalse_60 : decode cX10_firstFalse 60 = .ok (.ireturn, 1) := by decide +kernel
theorem dX10_firstFalse_61 : decode cX10_firstFalse 61 = .ok (.iinc 3 1, 3) := by decide +kernel
theorem dX10_firstFalse_64 : decode cX10_firstFalse 64 = .ok (.goto (-54), 3) := by decide +kernel
theorem dX10_firstFalse_67 : decode cX10_firstFalse 67 = .ok (.bipush (-2), 2) := by decide +kernel
theorem dX10_firstFalse_69 : decode cX10_firstFalse 69 = .ok (.ireturn, 1) := by decide +kernel
theorem dX10_judge_0 : decode cX10_judge 0 = .ok (.aload_n 0, 1) := by decide +kernel
theorem dX10_judge_1 : decode cX10_judge 1 = .ok (.iload_n 1, 1) := by decide +kernel
theorem dX10_judge_2 : decode cX10_judge 2 = .ok (.invokevirtual 285, 3) := by decide +kernel
theorem dX10_judge_5 : decode cX10_judge 5 = .ok (.iconst (-1), 1) := by decide +kernel
theorem dX10_judge_6 : decode cX10_judge 6 = .ok (.if_icmp .eq 11, 3) := by decide +kernel
theorem dX10_judge_9 : decode cX10_judge 9 = .ok (.aload_n 0, 1) := by decide +kernel
theorem dX10_judge_10 : decode cX10_judge 10 = .ok (.iload_n 2, 1) := by decide +kernel
theorem dX10_judge_11 : decode cX10_judge 11 = .ok (.invokevirtual 133, 3) := by decide +kernel
theorem dX10_judge_14 : decode cX10_judge 14 = .ok (.ifCond .ne 5, 3) := by decide +kernel
theorem dX10_judge_17 : decode cX10_judge 17 = .ok (.iconst (-1), 1) := by decide +kernel
theorem dX10_judge_18 : decode cX10_judge 18 = .ok (.ireturn, 1) := by decide +kernel
theorem dX10_judge_19 : decode cX10_judge 19 = .ok (.aload_n 0, 1) := by decide +kernel
theorem dX10_judge_20 : decode cX10_judge 20 = .ok (.iload_n 1, 1) := by decide +kernel
theorem dX10_judge_21 : decode cX10_judge 21 = .ok (.invokevirtual 285, 3) := by decide +kernel
theorem dX10_judge_24 : decode cX10_judge 24 = .ok (.ifCond .ge 11, 3) := by decide +kernel
theorem dX10_judge_27 : decode cX10_judge 27 = .ok (.aload_n 0, 1) := by decide +kernel
theorem dX10_judge_28 : decode cX10_judge 28 = .ok (.iload_n 1, 1) := by decide +kernel
theorem dX10_judge_29 : decode cX10_judge 29 = .ok (.invokevirtual 285, 3) := by decide +kernel
theorem dX10_judge_32 : decode cX10_judge 32 = .ok (.goto 9, 3) := by decide +kernel
theorem dX10_judge_35 : decode cX10_judge 35 = .ok (.aload_n 0, 1) := by decide +kernel
theorem dX10_judge_36 : decode cX10_judge 36 = .ok (.iload_n 1, 1) := by decide +kernel
theorem dX10_judge_37 : decode cX10_judge 37 = .ok (.iload_n 2, 1) := by decide +kernel
theorem dX10_judge_38 : decode cX10_judge 38 = .ok (.invokevirtual 290, 3) := by decide +kernel
theorem dX10_judge_41 : decode cX10_judge 41 = .ok (.ireturn, 1) := by decide +kernel
theorem dX10_begun_0 : decode cX10_begun 0 = .ok (.aload_n 0, 1) := by decide +kernel
theorem dX10_begun_1 : decode cX10_begun 1 = .ok (.iload_n 1, 1) := by decide +kernel
theorem dX10_begun_2 : decode cX10_begun 2 = .ok (.invokevirtual 285, 3) := by decide +kernel
theorem dX10_begun_5 : decode cX10_begun 5 = .ok (.ifCond .lt 21, 3) := by decide +kernel
theorem dX10_begun_8 : decode cX10_begun 8 = .ok (.aload_n 0, 1) := by decide +kernel
theorem dX10_begun_9 : decode cX10_begun 9 = .ok (.iload_n 2, 1) := by decide +kernel
theorem dX10_begun_10 : decode cX10_begun 10 = .ok (.invokevirtual 133, 3) := by decide +kernel
theorem dX10_begun_13 : decode cX10_begun 13 = .ok (.ifCond .eq 13, 3) := by decide +kernel
theorem dX10_begun_16 : decode cX10_begun 16 = .ok (.iload_n 3, 1) := by decide +kernel
theorem dX10_begun_17 : decode cX10_begun 17 = .ok (.i2l, 1) := by decide +kernel
theorem dX10_begun_18 : decode cX10_begun 18 = .ok (.lconst 0, 1) := by decide +kernel
theorem dX10_begun_19 : decode cX10_begun 19 = .ok (.lconst 1, 1) := by decide +kernel
theorem dX10_begun_20 : decode cX10_begun 20 = .ok (.invokestatic 101, 3) := by decide +kernel
theorem dX10_begun_23 : decode cX10_begun 23 = .ok (.ifCond .ne 6, 3) := by decide +kernel
theorem dX10_begun_26 : decode cX10_begun 26 = .ok (.ldc 140, 2) := by decide +kernel
theorem dX10_begun_28 : decode cX10_begun 28 = .ok (.ireturn, 1) := by decide +kernel
theorem dX10_begun_29 : decode cX10_begun 29 = .ok (.aload_n 0, 1) := by decide +kernel
theorem dX10_begun_30 : decode cX10_begun 30 = .ok (.getfield 9, 3) := by decide +kernel
theorem dX10_begun_33 : decode cX10_begun 33 = .ok (.bipush 10, 2) := by decide +kernel
theorem dX10_begun_35 : decode cX10_begun 35 = .ok (.iload_n 2, 1) := by decide +kernel
theorem dX10_begun_36 : decode cX10_begun 36 = .ok (.iadd, 1) := by decide +kernel
theorem dX10_begun_37 : decode cX10_begun 37 = .ok (.iaload, 1) := by decide +kernel
theorem dX10_begun_38 : decode cX10_begun 38 = .ok (.istore 4, 2) := by decide +kernel
theorem dX10_begun_40 : decode cX10_begun 40 = .ok (.aload_n 0, 1) := by decide +kernel
theorem dX10_begun_41 : decode cX10_begun 41 = .ok (.getfield 25, 3) := by decide +kernel
theorem dX10_begun_44 : decode cX10_begun 44 = .ok (.iload_n 2, 1) := by decide +kernel
theorem dX10_begun_45 : decode cX10_begun 45 = .ok (.iaload, 1) := by decide +kernel
theorem dX10_begun_46 : decode cX10_begun 46 = .ok (.ifCond .le 8, 3) := by decide +kernel
theorem dX10_begun_49 : decode cX10_begun 49 = .ok (.bipush 9, 2) := by decide +kernel
theorem dX10_begun_51 : decode cX10_begun 51 = .ok (.goto 4, 3) := by decide +kernel
theorem dX10_begun_54 : decode cX10_begun 54 = .ok (.iconst 0, 1) := by decide +kernel
theorem dX10_begun_55 : decode cX10_begun 55 = .ok (.istore 5, 2) := by decide +kernel
theorem dX10_begun_57 : decode cX10_begun 57 = .ok (.iconst 0, 1) := by decide +kernel
theorem dX10_begun_58 : decode cX10_begun 58 = .ok (.istore 6, 2) := by decide +kernel
theorem dX10_begun_60 : decode cX10_begun 60 = .ok (.bipush (-2), 2) := by decide +kernel
theorem dX10_begun_62 : decode cX10_begun 62 = .ok (.istore 7, 2) := by decide +kernel
theorem dX10_begun_64 : decode cX10_begun 64 = .ok (.iload 5, 2) := by decide +kernel
theorem dX10_begun_66 : decode cX10_begun 66 = .ok (.ineg, 1) := by decide +kernel
theorem dX10_begun_67 : decode cX10_begun 67 = .ok (.istore 8, 2) := by decide +kernel
theorem dX10_begun_69 : decode cX10_begun 69 = .ok (.iload 8, 2) := by decide +kernel
theorem dX10_begun_71 : decode cX10_begun 71 = .ok (.iload 5, 2) := by decide +kernel
theorem dX10_begun_73 : decode cX10_begun 73 = .ok (.if_icmp .gt 48, 3) := by decide +kernel
theorem dX10_begun_76 : decode cX10_begun 76 = .ok (.aload_n 0, 1) := by decide +kernel
theorem dX10_begun_77 : decode cX10_begun 77 = .ok (.getfield 9, 3) := by decide +kernel
theorem dX10_begun_80 : decode cX10_begun 80 = .ok (.bipush 10, 2) := by decide +kernel
theorem dX10_begun_82 : decode cX10_begun 82 = .ok (.iload_n 2, 1) := by decide +kernel
theorem dX10_begun_83 : decode cX10_begun 83 = .ok (.iadd, 1) := by decide +kernel
theorem dX10_begun_84 : decode cX10_begun 84 = .ok (.iload 8, 2) := by decide +kernel
theorem dX10_begun_86 : decode cX10_begun 86 = .ok (.iastore, 1) := by decide +kernel
theorem dX10_begun_87 : decode cX10_begun 87 = .ok (.aload_n 0, 1) := by decide +kernel
theorem dX10_begun_88 : decode cX10_begun 88 = .ok (.iload_n 1, 1) := by decide +kernel
theorem dX10_begun_89 : decode cX10_begun 89 = .ok (.iload_n 2, 1) := by decide +kernel
theorem dX10_begun_90 : decode cX10_begun 90 = .ok (.invokevirtual 290, 3) := by decide +kernel
theorem dX10_begun_93 : decode cX10_begun 93 = .ok (.bipush (-2), 2) := by decide +kernel
theorem dX10_begun_95 : decode cX10_begun 95 = .ok (.if_icmp .ne 20, 3) := by decide +kernel
theorem dX10_begun_98 : decode cX10_begun 98 = .ok (.iload 6, 2) := by decide +kernel
theorem dX10_begun_100 : decode cX10_begun 100 = .ok (.ifCond .ne 8, 3) := by decide +kernel
theorem dX10_begun_103 : decode cX10_begun 103 = .ok (.iload 8, 2) := by decide +kernel
theorem dX10_begun_105 : decode cX10_begun 105 = .ok (.goto 5, 3) := by decide +kernel
theorem dX10_begun_108 : decode cX10_begun 108 = .ok (.iload 7, 2) := by decide +kernel
theorem dX10_begun_110 : decode cX10_begun 110 = .ok (.istore 7, 2) := by decide +kernel
theorem dX10_begun_112 : decode cX10_begun 112 = .ok (.iinc 6 1, 3) := by decide +kernel
theorem dX10_begun_115 : decode cX10_begun 115 = .ok (.iinc 8 1, 3) := by decide +kernel
theorem dX10_begun_118 : decode cX10_begun 118 = .ok (.goto (-49), 3) := by decide +kernel
theorem dX10_begun_121 : decode cX10_begun 121 = .ok (.aload_n 0, 1) := by decide +kernel
theorem dX10_begun_122 : decode cX10_begun 122 = .ok (.getfield 9, 3) := by decide +kernel
theorem dX10_begun_125 : decode cX10_begun 125 = .ok (.bipush 10, 2) := by decide +kernel
theorem dX10_begun_127 : decode cX10_begun 127 = .ok (.iload_n 2, 1) := by decide +kernel
theorem dX10_begun_128 : decode cX10_begun 128 = .ok (.iadd, 1) := by decide +kernel
theorem dX10_begun_129 : decode cX10_begun 129 = .ok (.iload 4, 2) := by decide +kernel
theorem dX10_begun_131 : decode cX10_begun 131 = .ok (.iastore, 1) := by decide +kernel
theorem dX10_begun_132 : decode cX10_begun 132 = .ok (.iload_n 3, 1) := by decide +kernel
theorem dX10_begun_133 : decode cX10_begun 133 = .ok (.ifCond .ne 8, 3) := by decide +kernel
theorem dX10_begun_136 : decode cX10_begun 136 = .ok (.iload 6, 2) := by decide +kernel
theorem dX10_begun_138 : decode cX10_begun 138 = .ok (.goto 5, 3) := by decide +kernel
theorem dX10_begun_141 : decode cX10_begun 141 = .ok (.iload 7, 2) := by decide +kernel
theorem dX10_begun_143 : decode cX10_begun 143 = .ok (.ireturn, 1) := by decide +kernel
theorem dX10_isGirl_0 : decode cX10_isGirl 0 = .ok (.iload_n 0, 1) := by decide +kernel
theorem dX10_isGirl_1 : decode cX10_isGirl 1 = .ok (.i2l, 1) := by decide +kernel
theorem dX10_isGirl_2 : decode cX10_isGirl 2 = .ok (.lconst 0, 1) := by decide +kernel
theorem dX10_isGirl_3 : decode cX10_isGirl 3 = .ok (.ldc2_w 158, 3) := by decide +kernel
theorem dX10_isGirl_6 : decode cX10_isGirl 6 = .ok (.invokestatic 101, 3) := by decide +kernel
theorem dX10_isGirl_9 : decode cX10_isGirl 9 = .ok (.ireturn, 1) := by decide +kernel
theorem dX10_skill_0 : decode cX10_skill 0 = .ok (.iload_n 1, 1) := by decide +kernel
theorem dX10_skill_1 : decode cX10_skill 1 = .ok (.invokestatic 293, 3) := by decide +kernel
theorem dX10_skill_4 : decode cX10_skill 4 = .ok (.ifCond .eq 15, 3) := by decide +kernel
theorem dX10_skill_7 : decode cX10_skill 7 = .ok (.iload_n 2, 1) := by decide +kernel
theorem dX10_skill_8 : decode cX10_skill 8 = .ok (.i2l, 1) := by decide +kernel
theorem dX10_skill_9 : decode cX10_skill 9 = .ok (.lconst 0, 1) := by decide +kernel
theorem dX10_skill_10 : decode cX10_skill 10 = .ok (.ldc2_w 296, 3) := by decide +kernel
theorem dX10_skill_13 : decode cX10_skill 13 = .ok (.invokestatic 101, 3) := by decide +kernel
theorem dX10_skill_16 : decode cX10_skill 16 = .ok (.ifCond .ne 5, 3) := by decide +kernel
theorem dX10_skill_19 : decode cX10_skill 19 = .ok (.iconst (-1), 1) := by decide +kernel
theorem dX10_skill_20 : decode cX10_skill 20 = .ok (.ireturn, 1) := by decide +kernel
theorem dX10_skill_21 : decode cX10_skill 21 = .ok (.aload_n 0, 1) := by decide +kernel
theorem dX10_skill_22 : decode cX10_skill 22 = .ok (.getfield 50, 3) := by decide +kernel
theorem dX10_skill_25 : decode cX10_skill 25 = .ok (.iload_n 1, 1) := by decide +kernel
theorem dX10_skill_26 : decode cX10_skill 26 = .ok (.iaload, 1) := by decide +kernel
theorem dX10_skill_27 : decode cX10_skill 27 = .ok (.istore_n 3, 1) := by decide +kernel
theorem dX10_skill_28 : decode cX10_skill 28 = .ok (.aload_n 0, 1) := by decide +kernel
theorem dX10_skill_29 : decode cX10_skill 29 = .ok (.getfield 50, 3) := by decide +kernel
theorem dX10_skill_32 : decode cX10_skill 32 = .ok (.iload_n 1, 1) := by decide +kernel
theorem dX10_skill_33 : decode cX10_skill 33 = .ok (.iload_n 2, 1) := by decide +kernel
theorem dX10_skill_34 : decode cX10_skill 34 = .ok (.iastore, 1) := by decide +kernel
theorem dX10_skill_35 : decode cX10_skill 35 = .ok (.aload_n 0, 1) := by decide +kernel
theorem dX10_skill_36 : decode cX10_skill 36 = .ok (.getfield 53, 3) := by decide +kernel
theorem dX10_skill_39 : decode cX10_skill 39 = .ok (.iload_n 1, 1) := by decide +kernel
theorem dX10_skill_40 : decode cX10_skill 40 = .ok (.iconst 0, 1) := by decide +kernel
theorem dX10_skill_41 : decode cX10_skill 41 = .ok (.iastore, 1) := by decide +kernel
theorem dX10_skill_42 : decode cX10_skill 42 = .ok (.iload_n 3, 1) := by decide +kernel
theorem dX10_skill_43 : decode cX10_skill 43 = .ok (.ireturn, 1) := by decide +kernel
theorem dX10_besideOf_0 : decode cX10_besideOf 0 = .ok (.iload_n 1, 1) := by decide +kernel
theorem dX10_besideOf_1 : decode cX10_besideOf 1 = .ok (.tableswitch 69 0 2 #[27, 40, 55], 27) := by decide +kernel
theorem dX10_besideOf_28 : decode cX10_besideOf 28 = .ok (.iload_n 0, 1) := by decide +kernel
theorem dX10_besideOf_29 : decode cX10_besideOf 29 = .ok (.iconst 5, 1) := by decide +kernel
theorem dX10_besideOf_30 : decode cX10_besideOf 30 = .ok (.if_icmp .ge 7, 3) := by decide +kernel
theorem dX10_besideOf_33 : decode cX10_besideOf 33 = .ok (.iconst (-1), 1) := by decide +kernel
theorem dX10_besideOf_34 : decode cX10_besideOf 34 = .ok (.goto 6, 3) := by decide +kernel
theorem dX10_besideOf_37 : decode cX10_besideOf 37 = .ok (.iload_n 0, 1) := by decide +kernel
theorem dX10_besideOf_38 : decode cX10_besideOf 38 = .ok (.iconst 5, 1) := by decide +kernel
theorem dX10_besideOf_39 : decode cX10_besideOf 39 = .ok (.isub, 1) := by decide +kernel
theorem dX10_besideOf_40 : decode cX10_besideOf 40 = .ok (.ireturn, 1) := by decide +kernel
theorem dX10_besideOf_41 : decode cX10_besideOf 41 = .ok (.iload_n 0, 1) := by decide +kernel
theorem dX10_besideOf_42 : decode cX10_besideOf 42 = .ok (.iconst 5, 1) := by decide +kernel
theorem dX10_besideOf_43 : decode cX10_besideOf 43 = .ok (.irem, 1) := by decide +kernel
theorem dX10_besideOf_44 : decode cX10_besideOf 44 = .ok (.iconst 4, 1) := by decide +kernel
theorem dX10_besideOf_45 : decode cX10_besideOf 45 = .ok (.if_icmp .ne 7, 3) := by decide +kernel
theorem dX10_besideOf_48 : decode cX10_besideOf 48 = .ok (.iconst (-1), 1) := by decide +kernel
theorem dX10_besideOf_49 : decode cX10_besideOf 49 = .ok (.goto 6, 3) := by decide +kernel
theorem dX10_besideOf_52 : decode cX10_besideOf 52 = .ok (.iload_n 0, 1) := by decide +kernel
theorem dX10_besideOf_53 : decode cX10_besideOf 53 = .ok (.iconst 1, 1) := by decide +kernel
theorem dX10_besideOf_54 : decode cX10_besideOf 54 = .ok (.iadd, 1) := by decide +kernel
theorem dX10_besideOf_55 : decode cX10_besideOf 55 = .ok (.ireturn, 1) := by decide +kernel
theorem dX10_besideOf_56 : decode cX10_besideOf 56 = .ok (.iload_n 0, 1) := by decide +kernel
theorem dX10_besideOf_57 : decode cX10_besideOf 57 = .ok (.bipush 19, 2) := by decide +kernel
theorem dX10_besideOf_59 : decode cX10_besideOf 59 = .ok (.if_icmp .le 7, 3) := by decide +kernel
theorem dX10_besideOf_62 : decode cX10_besideOf 62 = .ok (.iconst (-1), 1) := by decide +kernel
theorem dX10_besideOf_63 : decode cX10_besideOf 63 = .ok (.goto 6, 3) := by decide +kernel
theorem dX10_besideOf_66 : decode cX10_besideOf 66 = .ok (.iload_n 0, 1) := by decide +kernel
theorem dX10_besideOf_67 : decode cX10_besideOf 67 = .ok (.iconst 5, 1) := by decide +kernel
theorem dX10_besideOf_68 : decode cX10_besideOf 68 = .ok (.iadd, 1) := by decide +kernel
theorem dX10_besideOf_69 : decode cX10_besideOf 69 = .ok (.ireturn, 1) := by decide +kernel
theorem dX10_besideOf_70 : decode cX10_besideOf 70 = .ok (.iload_n 0, 1) := by decide +kernel
theorem dX10_besideOf_71 : decode cX10_besideOf 71 = .ok (.iconst 5, 1) := by decide +kernel
theorem dX10_besideOf_72 : decode cX10_besideOf 72 = .ok (.irem, 1) := by decide +kernel
theorem dX10_besideOf_73 : decode cX10_besideOf 73 = .ok (.ifCond .ne 7, 3) := by decide +kernel
theorem dX10_besideOf_76 : decode cX10_besideOf 76 = .ok (.iconst (-1), 1) := by decide +kernel
theorem dX10_besideOf_77 : decode cX10_besideOf 77 = .ok (.goto 6, 3) := by decide +kernel
theorem dX10_besideOf_80 : decode cX10_besideOf 80 = .ok (.iload_n 0, 1) := by decide +kernel
theorem dX10_besideOf_81 : decode cX10_besideOf 81 = .ok (.iconst 1, 1) := by decide +kernel
theorem dX10_besideOf_82 : decode cX10_besideOf 82 = .ok (.isub, 1) := by decide +kernel
theorem dX10_besideOf_83 : decode cX10_besideOf 83 = .ok (.ireturn, 1) := by decide +kernel
theorem dX10_draws_0 : decode cX10_draws 0 = .ok (.aload_n 0, 1) := by decide +kernel
theorem dX10_draws_1 : decode cX10_draws 1 = .ok (.aload_n 0, 1) := by decide +kernel
theorem dX10_draws_2 : decode cX10_draws 2 = .ok (.getfield 298, 3) := by decide +kernel
theorem dX10_draws_5 : decode cX10_draws 5 = .ok (.ldc_w 301, 3) := by decide +kernel
theorem dX10_draws_8 : decode cX10_draws 8 = .ok (.imul, 1) := by decide +kernel
theorem dX10_draws_9 : decode cX10_draws 9 = .ok (.sipush 12345, 3) := by decide +kernel
theorem dX10_draws_12 : decode cX10_draws 12 = .ok (.iadd, 1) := by decide +kernel
theorem dX10_draws_13 : decode cX10_draws 13 = .ok (.putfield 298, 3) := by decide +kernel
theorem dX10_draws_16 : decode cX10_draws 16 = .ok (.aload_n 0, 1) := by decide +kernel
theorem dX10_draws_17 : decode cX10_draws 17 = .ok (.getfield 298, 3) := by decide +kernel
theorem dX10_draws_20 : decode cX10_draws 20 = .ok (.bipush 8, 2) := by decide +kernel
theorem dX10_draws_22 : decode cX10_draws 22 = .ok (.iushr, 1) := by decide +kernel
theorem dX10_draws_23 : decode cX10_draws 23 = .ok (.bipush 12, 2) := by decide +kernel
theorem dX10_draws_25 : decode cX10_draws 25 = .ok (.irem, 1) := by decide +kernel
theorem dX10_draws_26 : decode cX10_draws 26 = .ok (.ireturn, 1) := by decide +kernel
theorem dX10_drops_0 : decode cX10_drops 0 = .ok (.aload_n 0, 1) := by decide +kernel
theorem dX10_drops_1 : decode cX10_drops 1 = .ok (.getfield 56, 3) := by decide +kernel
theorem dX10_drops_4 : decode cX10_drops 4 = .ok (.iload_n 1, 1) := by decide +kernel
theorem dX10_drops_5 : decode cX10_drops 5 = .ok (.iconst 0, 1) := by decide +kernel
theorem dX10_drops_6 : decode cX10_drops 6 = .ok (.bastore, 1) := by decide +kernel
theorem dX10_drops_7 : decode cX10_drops 7 = .ok (.aload_n 0, 1) := by decide +kernel
theorem dX10_drops_8 : decode cX10_drops 8 = .ok (.getfield 60, 3) := by decide +kernel
theorem dX10_drops_11 : decode cX10_drops 11 = .ok (.iload_n 1, 1) := by decide +kernel
theorem dX10_drops_12 : decode cX10_drops 12 = .ok (.iload_n 2, 1) := by decide +kernel
theorem dX10_drops_13 : decode cX10_drops 13 = .ok (.iastore, 1) := by decide +kernel
theorem dX10_drops_14 : decode cX10_drops 14 = .ok (.aload_n 0, 1) := by decide +kernel
theorem dX10_drops_15 : decode cX10_drops 15 = .ok (.getfield 63, 3) := by decide +kernel
theorem dX10_drops_18 : decode cX10_drops 18 = .ok (.iload_n 1, 1) := by decide +kernel
theorem dX10_drops_19 : decode cX10_drops 19 = .ok (.iload_n 3, 1) := by decide +kernel
theorem dX10_drops_20 : decode cX10_drops 20 = .ok (.iastore, 1) := by decide +kernel
theorem dX10_drops_21 : decode cX10_drops 21 = .ok (.return_, 1) := by decide +kernel
theorem dX10_field_0 : decode cX10_field 0 = .ok (.aload_n 0, 1) := by decide +kernel
theorem dX10_field_1 : decode cX10_field 1 = .ok (.iload_n 1, 1) := by decide +kernel
theorem dX10_field_2 : decode cX10_field 2 = .ok (.putfield 298, 3) := by decide +kernel
theorem dX10_field_5 : decode cX10_field 5 = .ok (.iconst 0, 1) := by decide +kernel
theorem dX10_field_6 : decode cX10_field 6 = .ok (.istore_n 3, 1) := by decide +kernel
theorem dX10_field_7 : decode cX10_field 7 = .ok (.iload_n 3, 1) := by decide +kernel
theorem dX10_field_8 : decode cX10_field 8 = .ok (.bipush 25, 2) := by decide +kernel
theorem dX10_field_10 : decode cX10_field 10 = .ok (.if_icmp .ge 32, 3) := by decide +kernel
theorem dX10_field_13 : decode cX10_field 13 = .ok (.aload_n 0, 1) := by decide +kernel
theorem dX10_field_14 : decode cX10_field 14 = .ok (.getfield 56, 3) := by decide +kernel
theorem dX10_field_17 : decode cX10_field 17 = .ok (.iload_n 3, 1) := by decide +kernel
theorem dX10_field_18 : decode cX10_field 18 = .ok (.iconst 1, 1) := by decide +kernel
theorem dX10_field_19 : decode cX10_field 19 = .ok (.bastore, 1) := by decide +kernel
theorem dX10_field_20 : decode cX10_field 20 = .ok (.aload_n 0, 1) := by decide +kernel
theorem dX10_field_21 : decode cX10_field 21 = .ok (.getfield 60, 3) := by decide +kernel
theorem dX10_field_24 : decode cX10_field 24 = .ok (.iload_n 3, 1) := by decide +kernel
theorem dX10_field_25 : decode cX10_field 25 = .ok (.bipush (-2), 2) := by decide +kernel
theorem dX10_field_27 : decode cX10_field 27 = .ok (.iastore, 1) := by decide +kernel
theorem dX10_field_28 : decode cX10_field 28 = .ok (.aload_n 0, 1) := by decide +kernel
theorem dX10_field_29 : decode cX10_field 29 = .ok (.getfield 63, 3) := by decide +kernel
theorem dX10_field_32 : decode cX10_field 32 = .ok (.iload_n 3, 1) := by decide +kernel
theorem dX10_field_33 : decode cX10_field 33 = .ok (.bipush 31, 2) := by decide +kernel
theorem dX10_field_35 : decode cX10_field 35 = .ok (.iastore, 1) := by decide +kernel
theorem dX10_field_36 : decode cX10_field 36 = .ok (.iinc 3 1, 3) := by decide +kernel
theorem dX10_field_39 : decode cX10_field 39 = .ok (.goto (-32), 3) := by decide +kernel
theorem dX10_field_42 : decode cX10_field 42 = .ok (.iconst 1, 1) := by decide +kernel
theorem dX10_field_43 : decode cX10_field 43 = .ok (.istore_n 3, 1) := by decide +kernel
theorem dX10_field_44 : decode cX10_field 44 = .ok (.iload_n 3, 1) := by decide +kernel
theorem dX10_field_45 : decode cX10_field 45 = .ok (.iload_n 2, 1) := by decide +kernel
theorem dX10_field_46 : decode cX10_field 46 = .ok (.if_icmp .gt 123, 3) := by decide +kernel
theorem dX10_field_49 : decode cX10_field 49 = .ok (.iconst 0, 1) := by decide +kernel
theorem dX10_field_50 : decode cX10_field 50 = .ok (.istore 4, 2) := by decide +kernel
theorem dX10_field_52 : decode cX10_field 52 = .ok (.iload 4, 2) := by decide +kernel
theorem dX10_field_54 : decode cX10_field 54 = .ok (.bipush 25, 2) := by decide +kernel
theorem dX10_field_56 : decode cX10_field 56 = .ok (.if_icmp .ge 107, 3) := by decide +kernel
theorem dX10_field_59 : decode cX10_field 59 = .ok (.aload_n 0, 1) := by decide +kernel
theorem dX10_field_60 : decode cX10_field 60 = .ok (.getfield 56, 3) := by decide +kernel
theorem dX10_field_63 : decode cX10_field 63 = .ok (.iload 4, 2) := by decide +kernel
theorem dX10_field_65 : decode cX10_field 65 = .ok (.baload, 1) := by decide +kernel
theorem dX10_field_66 : decode cX10_field 66 = .ok (.ifCond .eq 91, 3) := by decide +kernel
theorem dX10_field_69 : decode cX10_field 69 = .ok (.aload_n 0, 1) := by decide +kernel
theorem dX10_field_70 : decode cX10_field 70 = .ok (.invokevirtual 302, 3) := by decide +kernel
theorem dX10_field_73 : decode cX10_field 73 = .ok (.aload_n 0, 1) := by decide +kernel
theorem dX10_field_74 : decode cX10_field 74 = .ok (.getfield 50, 3) := by decide +kernel
theorem dX10_field_77 : decode cX10_field 77 = .ok (.iload 4, 2) := by decide +kernel
theorem dX10_field_79 : decode cX10_field 79 = .ok (.iaload, 1) := by decide +kernel
theorem dX10_field_80 : decode cX10_field 80 = .ok (.if_icmp .ge 6, 3) := by decide +kernel
theorem dX10_field_83 : decode cX10_field 83 = .ok (.goto 74, 3) := by decide +kernel
theorem dX10_field_86 : decode cX10_field 86 = .ok (.aload_n 0, 1) := by decide +kernel
theorem dX10_field_87 : decode cX10_field 87 = .ok (.iload 4, 2) := by decide +kernel
theorem dX10_field_89 : decode cX10_field 89 = .ok (.bipush (-2), 2) := by decide +kernel
theorem dX10_field_91 : decode cX10_field 91 = .ok (.iload_n 3, 1) := by decide +kernel
theorem dX10_field_92 : decode cX10_field 92 = .ok (.invokevirtual 305, 3) := by decide +kernel
theorem dX10_field_95 : decode cX10_field 95 = .ok (.iconst 0, 1) := by decide +kernel
theorem dX10_field_96 : decode cX10_field 96 = .ok (.istore 5, 2) := by decide +kernel
theorem dX10_field_98 : decode cX10_field 98 = .ok (.iload 5, 2) := by decide +kernel
theorem dX10_field_100 : decode cX10_field 100 = .ok (.iconst 4, 1) := by decide +kernel
theorem dX10_field_101 : decode cX10_field 101 = .ok (.if_icmp .ge 56, 3) := by decide +kernel
theorem dX10_field_104 : decode cX10_field 104 = .ok (.iload 4, 2) := by decide +kernel
theorem dX10_field_106 : decode cX10_field 106 = .ok (.iload 5, 2) := by decide +kernel
theorem dX10_field_108 : decode cX10_field 108 = .ok (.invokestatic 308, 3) := by decide +kernel
theorem dX10_field_111 : decode cX10_field 111 = .ok (.istore 6, 2) := by decide +kernel
theorem dX10_field_113 : decode cX10_field 113 = .ok (.iload 6, 2) := by decide +kernel
theorem dX10_field_115 : decode cX10_field 115 = .ok (.ifCond .lt 36, 3) := by decide +kernel
theorem dX10_field_118 : decode cX10_field 118 = .ok (.aload_n 0, 1) := by decide +kernel
theorem dX10_field_119 : decode cX10_field 119 = .ok (.getfield 56, 3) := by decide +kernel
theorem dX10_field_122 : decode cX10_field 122 = .ok (.iload 6, 2) := by decide +kernel
theorem dX10_field_124 : decode cX10_field 124 = .ok (.baload, 1) := by decide +kernel
theorem dX10_field_125 : decode cX10_field 125 = .ok (.ifCond .eq 26, 3) := by decide +kernel
theorem dX10_field_128 : decode cX10_field 128 = .ok (.aload_n 0, 1) := by decide +kernel
theorem dX10_field_129 : decode cX10_field 129 = .ok (.invokevirtual 302, 3) := by decide +kernel
theorem dX10_field_132 : decode cX10_field 132 = .ok (.aload_n 0, 1) := by decide +kernel
theorem dX10_field_133 : decode cX10_field 133 = .ok (.getfield 9, 3) := by decide +kernel
theorem dX10_field_136 : decode cX10_field 136 = .ok (.bipush 19, 2) := by decide +kernel
theorem dX10_field_138 : decode cX10_field 138 = .ok (.iaload, 1) := by decide +kernel
theorem dX10_field_139 : decode cX10_field 139 = .ok (.if_icmp .ge 12, 3) := by decide +kernel
theorem dX10_field_142 : decode cX10_field 142 = .ok (.aload_n 0, 1) := by decide +kernel
theorem dX10_field_143 : decode cX10_field 143 = .ok (.iload 6, 2) := by decide +kernel
theorem dX10_field_145 : decode cX10_field 145 = .ok (.iload 4, 2) := by decide +kernel
theorem dX10_field_147 : decode cX10_field 147 = .ok (.iload_n 3, 1) := by decide +kernel
theorem dX10_field_148 : decode cX10_field 148 = .ok (.invokevirtual 305, 3) := by decide +kernel
theorem dX10_field_151 : decode cX10_field 151 = .ok (.iinc 5 1, 3) := by decide +kernel
theorem dX10_field_154 : decode cX10_field 154 = .ok (.goto (-56), 3) := by decide +kernel
theorem dX10_field_157 : decode cX10_field 157 = .ok (.iinc 4 1, 3) := by decide +kernel
theorem dX10_field_160 : decode cX10_field 160 = .ok (.goto (-108), 3) := by decide +kernel
theorem dX10_field_163 : decode cX10_field 163 = .ok (.iinc 3 1, 3) := by decide +kernel
theorem dX10_field_166 : decode cX10_field 166 = .ok (.goto (-122), 3) := by decide +kernel
theorem dX10_field_169 : decode cX10_field 169 = .ok (.return_, 1) := by decide +kernel
theorem dX10_left_0 : decode cX10_left 0 = .ok (.iload_n 2, 1) := by decide +kernel
theorem dX10_left_1 : decode cX10_left 1 = .ok (.i2l, 1) := by decide +kernel
theorem dX10_left_2 : decode cX10_left 2 = .ok (.lconst 1, 1) := by decide +kernel
theorem dX10_left_3 : decode cX10_left 3 = .ok (.ldc2_w 311, 3) := by decide +kernel
theorem dX10_left_6 : decode cX10_left 6 = .ok (.invokestatic 101, 3) := by decide +kernel
theorem dX10_left_9 : decode cX10_left 9 = .ok (.ifCond .eq 15, 3) := by decide +kernel
theorem dX10_left_12 : decode cX10_left 12 = .ok (.iload_n 3, 1) := by decide +kernel
theorem dX10_left_13 : decode cX10_left 13 = .ok (.iconst (-1), 1) := by decide +kernel
theorem dX10_left_14 : decode cX10_left 14 = .ok (.if_icmp .eq 12, 3) := by decide +kernel
theorem dX10_left_17 : decode cX10_left 17 = .ok (.iload_n 3, 1) := by decide +kernel
theorem dX10_left_18 : decode cX10_left 18 = .ok (.invokestatic 293, 3) := by decide +kernel
theorem dX10_left_21 : decode cX10_left 21 = .ok (.ifCond .ne 5, 3) := by decide +kernel
theorem dX10_left_24 : decode cX10_left 24 = .ok (.iconst (-1), 1) := by decide +kernel
theorem dX10_left_25 : decode cX10_left 25 = .ok (.ireturn, 1) := by decide +kernel
theorem dX10_left_26 : decode cX10_left 26 = .ok (.aload_n 0, 1) := by decide +kernel
theorem dX10_left_27 : decode cX10_left 27 = .ok (.iload_n 1, 1) := by decide +kernel
theorem dX10_left_28 : decode cX10_left 28 = .ok (.iload_n 2, 1) := by decide +kernel
theorem dX10_left_29 : decode cX10_left 29 = .ok (.invokevirtual 313, 3) := by decide +kernel
theorem dX10_left_32 : decode cX10_left 32 = .ok (.iconst 0, 1) := by decide +kernel
theorem dX10_left_33 : decode cX10_left 33 = .ok (.istore 4, 2) := by decide +kernel
theorem dX10_left_35 : decode cX10_left 35 = .ok (.iconst 0, 1) := by decide +kernel
theorem dX10_left_36 : decode cX10_left 36 = .ok (.istore 5, 2) := by decide +kernel
theorem dX10_left_38 : decode cX10_left 38 = .ok (.iload 5, 2) := by decide +kernel
theorem dX10_left_40 : decode cX10_left 40 = .ok (.bipush 25, 2) := by decide +kernel
theorem dX10_left_42 : decode cX10_left 42 = .ok (.if_icmp .ge 29, 3) := by decide +kernel
theorem dX10_left_45 : decode cX10_left 45 = .ok (.iload 4, 2) := by decide +kernel
theorem dX10_left_47 : decode cX10_left 47 = .ok (.aload_n 0, 1) := by decide +kernel
theorem dX10_left_48 : decode cX10_left 48 = .ok (.getfield 56, 3) := by decide +kernel
theorem dX10_left_51 : decode cX10_left 51 = .ok (.iload 5, 2) := by decide +kernel
theorem dX10_left_53 : decode cX10_left 53 = .ok (.baload, 1) := by decide +kernel
theorem dX10_left_54 : decode cX10_left 54 = .ok (.ifCond .eq 7, 3) := by decide +kernel
theorem dX10_left_57 : decode cX10_left 57 = .ok (.iconst 1, 1) := by decide +kernel
theorem dX10_left_58 : decode cX10_left 58 = .ok (.goto 4, 3) := by decide +kernel
theorem dX10_left_61 : decode cX10_left 61 = .ok (.iconst 0, 1) := by decide +kernel
theorem dX10_left_62 : decode cX10_left 62 = .ok (.iadd, 1) := by decide +kernel
theorem dX10_left_63 : decode cX10_left 63 = .ok (.istore 4, 2) := by decide +kernel
theorem dX10_left_65 : decode cX10_left 65 = .ok (.iinc 5 1, 3) := by decide +kernel
theorem dX10_left_68 : decode cX10_left 68 = .ok (.goto (-30), 3) := by decide +kernel
theorem dX10_left_71 : decode cX10_left 71 = .ok (.iload_n 3, 1) := by decide +kernel
theorem dX10_left_72 : decode cX10_left 72 = .ok (.ifCond .ge 8, 3) := by decide +kernel
theorem dX10_left_75 : decode cX10_left 75 = .ok (.iload 4, 2) := by decide +kernel
theorem dX10_left_77 : decode cX10_left 77 = .ok (.goto 17, 3) := by decide +kernel
theorem dX10_left_80 : decode cX10_left 80 = .ok (.aload_n 0, 1) := by decide +kernel
theorem dX10_left_81 : decode cX10_left 81 = .ok (.getfield 56, 3) := by decide +kernel
theorem dX10_left_84 : decode cX10_left 84 = .ok (.iload_n 3, 1) := by decide +kernel
theorem dX10_left_85 : decode cX10_left 85 = .ok (.baload, 1) := by decide +kernel
theorem dX10_left_86 : decode cX10_left 86 = .ok (.ifCond .eq 7, 3) := by decide +kernel
theorem dX10_left_89 : decode cX10_left 89 = .ok (.iconst 1, 1) := by decide +kernel
theorem dX10_left_90 : decode cX10_left 90 = .ok (.goto 4, 3) := by decide +kernel
theorem dX10_left_93 : decode cX10_left 93 = .ok (.iconst 0, 1) := by decide +kernel
theorem dX10_left_94 : decode cX10_left 94 = .ok (.ireturn, 1) := by decide +kernel
theorem dX10_knocked_0 : decode cX10_knocked 0 = .ok (.iload_n 2, 1) := by decide +kernel
theorem dX10_knocked_1 : decode cX10_knocked 1 = .ok (.i2l, 1) := by decide +kernel
theorem dX10_knocked_2 : decode cX10_knocked 2 = .ok (.lconst 1, 1) := by decide +kernel
theorem dX10_knocked_3 : decode cX10_knocked 3 = .ok (.ldc2_w 311, 3) := by decide +kernel
theorem dX10_knocked_6 : decode cX10_knocked 6 = .ok (.invokestatic 101, 3) := by decide +kernel
theorem dX10_knocked_9 : decode cX10_knocked 9 = .ok (.ifCond .eq 10, 3) := by decide +kernel
theorem dX10_knocked_12 : decode cX10_knocked 12 = .ok (.iload_n 3, 1) := by decide +kernel
theorem dX10_knocked_13 : decode cX10_knocked 13 = .ok (.invokestatic 293, 3) := by decide +kernel
theorem dX10_knocked_16 : decode cX10_knocked 16 = .ok (.ifCond .ne 5, 3) := by decide +kernel
theorem dX10_knocked_19 : decode cX10_knocked 19 = .ok (.iconst (-1), 1) := by decide +kernel
theorem dX10_knocked_20 : decode cX10_knocked 20 = .ok (.ireturn, 1) := by decide +kernel
theorem dX10_knocked_21 : decode cX10_knocked 21 = .ok (.aload_n 0, 1) := by decide +kernel
theorem dX10_knocked_22 : decode cX10_knocked 22 = .ok (.iload_n 1, 1) := by decide +kernel
theorem dX10_knocked_23 : decode cX10_knocked 23 = .ok (.iload_n 2, 1) := by decide +kernel
theorem dX10_knocked_24 : decode cX10_knocked 24 = .ok (.invokevirtual 313, 3) := by decide +kernel
theorem dX10_knocked_27 : decode cX10_knocked 27 = .ok (.aload_n 0, 1) := by decide +kernel
theorem dX10_knocked_28 : decode cX10_knocked 28 = .ok (.getfield 60, 3) := by decide +kernel
theorem dX10_knocked_31 : decode cX10_knocked 31 = .ok (.iload_n 3, 1) := by decide +kernel
theorem dX10_knocked_32 : decode cX10_knocked 32 = .ok (.iaload, 1) := by decide +kernel
theorem dX10_knocked_33 : decode cX10_knocked 33 = .ok (.ireturn, 1) := by decide +kernel
theorem dX10_last_0 : decode cX10_last 0 = .ok (.iload_n 2, 1) := by decide +kernel
theorem dX10_last_1 : decode cX10_last 1 = .ok (.i2l, 1) := by decide +kernel
theorem dX10_last_2 : decode cX10_last 2 = .ok (.lconst 0, 1) := by decide +kernel
theorem dX10_last_3 : decode cX10_last 3 = .ok (.lconst 1, 1) := by decide +kernel
theorem dX10_last_4 : decode cX10_last 4 = .ok (.invokestatic 101, 3) := by decide +kernel
theorem dX10_last_7 : decode cX10_last 7 = .ok (.ifCond .ne 5, 3) := by decide +kernel
theorem dX10_last_10 : decode cX10_last 10 = .ok (.iconst (-1), 1) := by decide +kernel
theorem dX10_last_11 : decode cX10_last 11 = .ok (.ireturn, 1) := by decide +kernel
theorem dX10_last_12 : decode cX10_last 12 = .ok (.aload_n 0, 1) := by decide +kernel
theorem dX10_last_13 : decode cX10_last 13 = .ok (.iload_n 1, 1) := by decide +kernel
theorem dX10_last_14 : decode cX10_last 14 = .ok (.bipush 30, 2) := by decide +kernel
theorem dX10_last_16 : decode cX10_last 16 = .ok (.invokevirtual 313, 3) := by decide +kernel
theorem dX10_last_19 : decode cX10_last 19 = .ok (.iconst 0, 1) := by decide +kernel
theorem dX10_last_20 : decode cX10_last 20 = .ok (.istore_n 3, 1) := by decide +kernel
theorem dX10_last_21 : decode cX10_last 21 = .ok (.iconst 1, 1) := by decide +kernel
theorem dX10_last_22 : decode cX10_last 22 = .ok (.istore 4, 2) := by decide +kernel
theorem dX10_last_24 : decode cX10_last 24 = .ok (.iload 4, 2) := by decide +kernel
theorem dX10_last_26 : decode cX10_last 26 = .ok (.bipush 25, 2) := by decide +kernel
theorem dX10_last_28 : decode cX10_last 28 = .ok (.if_icmp .ge 32, 3) := by decide +kernel
theorem dX10_last_31 : decode cX10_last 31 = .ok (.aload_n 0, 1) := by decide +kernel
theorem dX10_last_32 : decode cX10_last 32 = .ok (.getfield 63, 3) := by decide +kernel
theorem dX10_last_35 : decode cX10_last 35 = .ok (.iload 4, 2) := by decide +kernel
theorem dX10_last_37 : decode cX10_last 37 = .ok (.iaload, 1) := by decide +kernel
theorem dX10_last_38 : decode cX10_last 38 = .ok (.aload_n 0, 1) := by decide +kernel
theorem dX10_last_39 : decode cX10_last 39 = .ok (.getfield 63, 3) := by decide +kernel
theorem dX10_last_42 : decode cX10_last 42 = .ok (.iload_n 3, 1) := by decide +kernel
theorem dX10_last_43 : decode cX10_last 43 = .ok (.iaload, 1) := by decide +kernel
theorem dX10_last_44 : decode cX10_last 44 = .ok (.if_icmp .le 8, 3) := by decide +kernel
theorem dX10_last_47 : decode cX10_last 47 = .ok (.iload 4, 2) := by decide +kernel
theorem dX10_last_49 : decode cX10_last 49 = .ok (.goto 4, 3) := by decide +kernel
theorem dX10_last_52 : decode cX10_last 52 = .ok (.iload_n 3, 1) := by decide +kernel
theorem dX10_last_53 : decode cX10_last 53 = .ok (.istore_n 3, 1) := by decide +kernel
theorem dX10_last_54 : decode cX10_last 54 = .ok (.iinc 4 1, 3) := by decide +kernel
theorem dX10_last_57 : decode cX10_last 57 = .ok (.goto (-33), 3) := by decide +kernel
theorem dX10_last_60 : decode cX10_last 60 = .ok (.iload_n 2, 1) := by decide +kernel
theorem dX10_last_61 : decode cX10_last 61 = .ok (.ifCond .ne 7, 3) := by decide +kernel
theorem dX10_last_64 : decode cX10_last 64 = .ok (.iload_n 3, 1) := by decide +kernel
theorem dX10_last_65 : decode cX10_last 65 = .ok (.goto 9, 3) := by decide +kernel
theorem dX10_last_68 : decode cX10_last 68 = .ok (.aload_n 0, 1) := by decide +kernel
theorem dX10_last_69 : decode cX10_last 69 = .ok (.getfield 63, 3) := by decide +kernel
theorem dX10_last_72 : decode cX10_last 72 = .ok (.iload_n 3, 1) := by decide +kernel
theorem dX10_last_73 : decode cX10_last 73 = .ok (.iaload, 1) := by decide +kernel
theorem dX10_last_74 : decode cX10_last 74 = .ok (.ireturn, 1) := by decide +kernel
theorem dX10_alone_0 : decode cX10_alone 0 = .ok (.iload_n 1, 1) := by decide +kernel
theorem dX10_alone_1 : decode cX10_alone 1 = .ok (.invokestatic 293, 3) := by decide +kernel
theorem dX10_alone_4 : decode cX10_alone 4 = .ok (.ifCond .eq 25, 3) := by decide +kernel
theorem dX10_alone_7 : decode cX10_alone 7 = .ok (.iload_n 2, 1) := by decide +kernel
theorem dX10_alone_8 : decode cX10_alone 8 = .ok (.i2l, 1) := by decide +kernel
theorem dX10_alone_9 : decode cX10_alone 9 = .ok (.lconst 0, 1) := by decide +kernel
theorem dX10_alone_10 : decode cX10_alone 10 = .ok (.ldc2_w 316, 3) := by decide +kernel
theorem dX10_alone_13 : decode cX10_alone 13 = .ok (.invokestatic 101, 3) := by decide +kernel
theorem dX10_alone_16 : decode cX10_alone 16 = .ok (.ifCond .eq 13, 3) := by decide +kernel
theorem dX10_alone_19 : decode cX10_alone 19 = .ok (.iload_n 3, 1) := by decide +kernel
theorem dX10_alone_20 : decode cX10_alone 20 = .ok (.i2l, 1) := by decide +kernel
theorem dX10_alone_21 : decode cX10_alone 21 = .ok (.lconst 0, 1) := by decide +kernel
theorem dX10_alone_22 : decode cX10_alone 22 = .ok (.lconst 1, 1) := by decide +kernel
theorem dX10_alone_23 : decode cX10_alone 23 = .ok (.invokestatic 101, 3) := by decide +kernel
theorem dX10_alone_26 : decode cX10_alone 26 = .ok (.ifCond .ne 7, 3) := by decide +kernel
theorem dX10_alone_29 : decode cX10_alone 29 = .ok (.ldc2_w 320, 3) := by decide +kernel
theorem dX10_alone_32 : decode cX10_alone 32 = .ok (.lreturn, 1) := by decide +kernel
theorem dX10_alone_33 : decode cX10_alone 33 = .ok (.lconst 1, 1) := by decide +kernel
theorem dX10_alone_34 : decode cX10_alone 34 = .ok (.lstore 4, 2) := by decide +kernel
theorem dX10_alone_36 : decode cX10_alone 36 = .ok (.lconst 1, 1) := by decide +kernel
theorem dX10_alone_37 : decode cX10_alone 37 = .ok (.lstore 6, 2) := by decide +kernel
theorem dX10_alone_39 : decode cX10_alone 39 = .ok (.iconst 0, 1) := by decide +kernel
theorem dX10_alone_40 : decode cX10_alone 40 = .ok (.istore 8, 2) := by decide +kernel
theorem dX10_alone_42 : decode cX10_alone 42 = .ok (.iload 8, 2) := by decide +kernel
theorem dX10_alone_44 : decode cX10_alone 44 = .ok (.iload_n 2, 1) := by decide +kernel
theorem dX10_alone_45 : decode cX10_alone 45 = .ok (.if_icmp .ge 29, 3) := by decide +kernel
theorem dX10_alone_48 : decode cX10_alone 48 = .ok (.lload 4, 2) := by decide +kernel
theorem dX10_alone_50 : decode cX10_alone 50 = .ok (.aload_n 0, 1) := by decide +kernel
theorem dX10_alone_51 : decode cX10_alone 51 = .ok (.getfield 50, 3) := by decide +kernel
theorem dX10_alone_54 : decode cX10_alone 54 = .ok (.iload_n 1, 1) := by decide +kernel
theorem dX10_alone_55 : decode cX10_alone 55 = .ok (.iaload, 1) := by decide +kernel
theorem dX10_alone_56 : decode cX10_alone 56 = .ok (.i2l, 1) := by decide +kernel
theorem dX10_alone_57 : decode cX10_alone 57 = .ok (.lmul, 1) := by decide +kernel
theorem dX10_alone_58 : decode cX10_alone 58 = .ok (.lstore 4, 2) := by decide +kernel
theorem dX10_alone_60 : decode cX10_alone 60 = .ok (.lload 6, 2) := by decide +kernel
theorem dX10_alone_62 : decode cX10_alone 62 = .ok (.ldc2_w 296, 3) := by decide +kernel
theorem dX10_alone_65 : decode cX10_alone 65 = .ok (.lmul, 1) := by decide +kernel
theorem dX10_alone_66 : decode cX10_alone 66 = .ok (.lstore 6, 2) := by decide +kernel
theorem dX10_alone_68 : decode cX10_alone 68 = .ok (.iinc 8 1, 3) := by decide +kernel
theorem dX10_alone_71 : decode cX10_alone 71 = .ok (.goto (-29), 3) := by decide +kernel
theorem dX10_alone_74 : decode cX10_alone 74 = .ok (.lload 4, 2) := by decide +kernel
theorem dX10_alone_76 : decode cX10_alone 76 = .ok (.lconst 0, 1) := by decide +kernel
theorem dX10_alone_77 : decode cX10_alone 77 = .ok (.lcmp, 1) := by decide +kernel
theorem dX10_alone_78 : decode cX10_alone 78 = .ok (.ifCond .ne 6, 3) := by decide +kernel
theorem dX10_alone_81 : decode cX10_alone 81 = .ok (.iload_n 3, 1) := by decide +kernel
theorem dX10_alone_82 : decode cX10_alone 82 = .ok (.i2l, 1) := by decide +kernel
theorem dX10_alone_83 : decode cX10_alone 83 = .ok (.lreturn, 1) := by decide +kernel
theorem dX10_alone_84 : decode cX10_alone 84 = .ok (.lload 6, 2) := by decide +kernel
theorem dX10_alone_86 : decode cX10_alone 86 = .ok (.lstore 8, 2) := by decide +kernel
theorem dX10_alone_88 : decode cX10_alone 88 = .ok (.lload 4, 2) := by decide +kernel
theorem dX10_alone_90 : decode cX10_alone 90 = .ok (.lstore 10, 2) := by decide +kernel
theorem dX10_alone_92 : decode cX10_alone 92 = .ok (.lload 10, 2) := by decide +kernel
theorem dX10_alone_94 : decode cX10_alone 94 = .ok (.lconst 0, 1) := by decide +kernel
theorem dX10_alone_95 : decode cX10_alone 95 = .ok (.lcmp, 1) := by decide +kernel
theorem dX10_alone_96 : decode cX10_alone 96 = .ok (.ifCond .eq 21, 3) := by decide +kernel
theorem dX10_alone_99 : decode cX10_alone 99 = .ok (.lload 8, 2) := by decide +kernel
theorem dX10_alone_101 : decode cX10_alone 101 = .ok (.lload 10, 2) := by decide +kernel
theorem dX10_alone_103 : decode cX10_alone 103 = .ok (.lrem, 1) := by decide +kernel
theorem dX10_alone_104 : decode cX10_alone 104 = .ok (.lstore 12, 2) := by decide +kernel
theorem dX10_alone_106 : decode cX10_alone 106 = .ok (.lload 10, 2) := by decide +kernel
theorem dX10_alone_108 : decode cX10_alone 108 = .ok (.lstore 8, 2) := by decide +kernel
theorem dX10_alone_110 : decode cX10_alone 110 = .ok (.lload 12, 2) := by decide +kernel
theorem dX10_alone_112 : decode cX10_alone 112 = .ok (.lstore 10, 2) := by decide +kernel
theorem dX10_alone_114 : decode cX10_alone 114 = .ok (.goto (-22), 3) := by decide +kernel
theorem dX10_alone_117 : decode cX10_alone 117 = .ok (.iload_n 3, 1) := by decide +kernel
theorem dX10_alone_118 : decode cX10_alone 118 = .ok (.ifCond .ne 11, 3) := by decide +kernel
theorem dX10_alone_121 : decode cX10_alone 121 = .ok (.lload 4, 2) := by decide +kernel
theorem dX10_alone_123 : decode cX10_alone 123 = .ok (.lload 8, 2) := by decide +kernel
theorem dX10_alone_125 : decode cX10_alone 125 = .ok (.ldiv, 1) := by decide +kernel
theorem dX10_alone_126 : decode cX10_alone 126 = .ok (.goto 8, 3) := by decide +kernel
theorem dX10_alone_129 : decode cX10_alone 129 = .ok (.lload 6, 2) := by decide +kernel
theorem dX10_alone_131 : decode cX10_alone 131 = .ok (.lload 8, 2) := by decide +kernel
theorem dX10_alone_133 : decode cX10_alone 133 = .ok (.ldiv, 1) := by decide +kernel
theorem dX10_alone_134 : decode cX10_alone 134 = .ok (.lreturn, 1) := by decide +kernel
theorem dX10_needsOf_0 : decode cX10_needsOf 0 = .ok (.iload_n 0, 1) := by decide +kernel
theorem dX10_needsOf_1 : decode cX10_needsOf 1 = .ok (.iconst 1, 1) := by decide +kernel
theorem dX10_needsOf_2 : decode cX10_needsOf 2 = .ok (.if_icmp .ge 7, 3) := by decide +kernel
theorem dX10_needsOf_5 : decode cX10_needsOf 5 = .ok (.iconst 1, 1) := by decide +kernel
theorem dX10_needsOf_6 : decode cX10_needsOf 6 = .ok (.goto 4, 3) := by decide +kernel
theorem dX10_needsOf_9 : decode cX10_needsOf 9 = .ok (.iload_n 0, 1) := by decide +kernel
theorem dX10_needsOf_10 : decode cX10_needsOf 10 = .ok (.ireturn, 1) := by decide +kernel
theorem dX10_learn_0 : decode cX10_learn 0 = .ok (.iload_n 1, 1) := by decide +kernel
theorem dX10_learn_1 : decode cX10_learn 1 = .ok (.invokestatic 293, 3) := by decide +kernel
theorem dX10_learn_4 : decode cX10_learn 4 = .ok (.ifCond .eq 15, 3) := by decide +kernel
theorem dX10_learn_7 : decode cX10_learn 7 = .ok (.iload_n 2, 1) := by decide +kernel
theorem dX10_learn_8 : decode cX10_learn 8 = .ok (.i2l, 1) := by decide +kernel
theorem dX10_learn_9 : decode cX10_learn 9 = .ok (.lconst 1, 1) := by decide +kernel
theorem dX10_learn_10 : decode cX10_learn 10 = .ok (.ldc2_w 322, 3) := by decide +kernel
theorem dX10_learn_13 : decode cX10_learn 13 = .ok (.invokestatic 101, 3) := by decide +kernel
theorem dX10_learn_16 : decode cX10_learn 16 = .ok (.ifCond .ne 5, 3) := by decide +kernel
theorem dX10_learn_19 : decode cX10_learn 19 = .ok (.iconst (-1), 1) := by decide +kernel
theorem dX10_learn_20 : decode cX10_learn 20 = .ok (.ireturn, 1) := by decide +kernel
theorem dX10_learn_21 : decode cX10_learn 21 = .ok (.iconst 0, 1) := by decide +kernel
theorem dX10_learn_22 : decode cX10_learn 22 = .ok (.istore_n 3, 1) := by decide +kernel
theorem dX10_learn_23 : decode cX10_learn 23 = .ok (.iload_n 3, 1) := by decide +kernel
theorem dX10_learn_24 : decode cX10_learn 24 = .ok (.iload_n 2, 1) := by decide +kernel
theorem dX10_learn_25 : decode cX10_learn 25 = .ok (.if_icmp .ge 65, 3) := by decide +kernel
theorem dX10_learn_28 : decode cX10_learn 28 = .ok (.aload_n 0, 1) := by decide +kernel
theorem dX10_learn_29 : decode cX10_learn 29 = .ok (.getfield 50, 3) := by decide +kernel
theorem dX10_learn_32 : decode cX10_learn 32 = .ok (.iload_n 1, 1) := by decide +kernel
theorem dX10_learn_33 : decode cX10_learn 33 = .ok (.iaload, 1) := by decide +kernel
theorem dX10_learn_34 : decode cX10_learn 34 = .ok (.bipush 12, 2) := by decide +kernel
theorem dX10_learn_36 : decode cX10_learn 36 = .ok (.if_icmp .ge 54, 3) := by decide +kernel
theorem dX10_learn_39 : decode cX10_learn 39 = .ok (.aload_n 0, 1) := by decide +kernel
theorem dX10_learn_40 : decode cX10_learn 40 = .ok (.getfield 53, 3) := by decide +kernel
theorem dX10_learn_43 : decode cX10_learn 43 = .ok (.iload_n 1, 1) := by decide +kernel
theorem dX10_learn_44 : decode cX10_learn 44 = .ok (.dup2, 1) := by decide +kernel
theorem dX10_learn_45 : decode cX10_learn 45 = .ok (.iaload, 1) := by decide +kernel
theorem dX10_learn_46 : decode cX10_learn 46 = .ok (.iconst 1, 1) := by decide +kernel
theorem dX10_learn_47 : decode cX10_learn 47 = .ok (.iadd, 1) := by decide +kernel
theorem dX10_learn_48 : decode cX10_learn 48 = .ok (.iastore, 1) := by decide +kernel
theorem dX10_learn_49 : decode cX10_learn 49 = .ok (.aload_n 0, 1) := by decide +kernel
theorem dX10_learn_50 : decode cX10_learn 50 = .ok (.getfield 53, 3) := by decide +kernel
theorem dX10_learn_53 : decode cX10_learn 53 = .ok (.iload_n 1, 1) := by decide +kernel
theorem dX10_learn_54 : decode cX10_learn 54 = .ok (.iaload, 1) := by decide +kernel
theorem dX10_learn_55 : decode cX10_learn 55 = .ok (.aload_n 0, 1) := by decide +kernel
theorem dX10_learn_56 : decode cX10_learn 56 = .ok (.getfield 50, 3) := by decide +kernel
theorem dX10_learn_59 : decode cX10_learn 59 = .ok (.iload_n 1, 1) := by decide +kernel
theorem dX10_learn_60 : decode cX10_learn 60 = .ok (.iaload, 1) := by decide +kernel
theorem dX10_learn_61 : decode cX10_learn 61 = .ok (.invokestatic 324, 3) := by decide +kernel
theorem dX10_learn_64 : decode cX10_learn 64 = .ok (.if_icmp .ne 20, 3) := by decide +kernel
theorem dX10_learn_67 : decode cX10_learn 67 = .ok (.aload_n 0, 1) := by decide +kernel
theorem dX10_learn_68 : decode cX10_learn 68 = .ok (.getfield 50, 3) := by decide +kernel
theorem dX10_learn_71 : decode cX10_learn 71 = .ok (.iload_n 1, 1) := by decide +kernel
theorem dX10_learn_72 : decode cX10_learn 72 = .ok (.dup2, 1) := by decide +kernel
theorem dX10_learn_73 : decode cX10_learn 73 = .ok (.iaload, 1) := by decide +kernel
theorem dX10_learn_74 : decode cX10_learn 74 = .ok (.iconst 1, 1) := by decide +kernel
theorem dX10_learn_75 : decode cX10_learn 75 = .ok (.iadd, 1) := by decide +kernel
theorem dX10_learn_76 : decode cX10_learn 76 = .ok (.iastore, 1) := by decide +kernel
theorem dX10_learn_77 : decode cX10_learn 77 = .ok (.aload_n 0, 1) := by decide +kernel
theorem dX10_learn_78 : decode cX10_learn 78 = .ok (.getfield 53, 3) := by decide +kernel
theorem dX10_learn_81 : decode cX10_learn 81 = .ok (.iload_n 1, 1) := by decide +kernel
theorem dX10_learn_82 : decode cX10_learn 82 = .ok (.iconst 0, 1) := by decide +kernel
theorem dX10_learn_83 : decode cX10_learn 83 = .ok (.iastore, 1) := by decide +kernel
theorem dX10_learn_84 : decode cX10_learn 84 = .ok (.iinc 3 1, 3) := by decide +kernel
theorem dX10_learn_87 : decode cX10_learn 87 = .ok (.goto (-64), 3) := by decide +kernel
theorem dX10_learn_90 : decode cX10_learn 90 = .ok (.aload_n 0, 1) := by decide +kernel
theorem dX10_learn_91 : decode cX10_learn 91 = .ok (.getfield 50, 3) := by decide +kernel
theorem dX10_learn_94 : decode cX10_learn 94 = .ok (.iload_n 1, 1) := by decide +kernel
theorem dX10_learn_95 : decode cX10_learn 95 = .ok (.iaload, 1) := by decide +kernel
theorem dX10_learn_96 : decode cX10_learn 96 = .ok (.ireturn, 1) := by decide +kernel
theorem dX10_till_0 : decode cX10_till 0 = .ok (.iload_n 1, 1) := by decide +kernel
theorem dX10_till_1 : decode cX10_till 1 = .ok (.invokestatic 293, 3) := by decide +kernel
theorem dX10_till_4 : decode cX10_till 4 = .ok (.ifCond .eq 15, 3) := by decide +kernel
theorem dX10_till_7 : decode cX10_till 7 = .ok (.iload_n 2, 1) := by decide +kernel
theorem dX10_till_8 : decode cX10_till 8 = .ok (.i2l, 1) := by decide +kernel
theorem dX10_till_9 : decode cX10_till 9 = .ok (.lconst 0, 1) := by decide +kernel
theorem dX10_till_10 : decode cX10_till 10 = .ok (.ldc2_w 296, 3) := by decide +kernel
theorem dX10_till_13 : decode cX10_till 13 = .ok (.invokestatic 101, 3) := by decide +kernel
theorem dX10_till_16 : decode cX10_till 16 = .ok (.ifCond .ne 5, 3) := by decide +kernel
theorem dX10_till_19 : decode cX10_till 19 = .ok (.iconst (-1), 1) := by decide +kernel
theorem dX10_till_20 : decode cX10_till 20 = .ok (.ireturn, 1) := by decide +kernel
theorem dX10_till_21 : decode cX10_till 21 = .ok (.aload_n 0, 1) := by decide +kernel
theorem dX10_till_22 : decode cX10_till 22 = .ok (.getfield 50, 3) := by decide +kernel
theorem dX10_till_25 : decode cX10_till 25 = .ok (.iload_n 1, 1) := by decide +kernel
theorem dX10_till_26 : decode cX10_till 26 = .ok (.iaload, 1) := by decide +kernel
theorem dX10_till_27 : decode cX10_till 27 = .ok (.iload_n 2, 1) := by decide +kernel
theorem dX10_till_28 : decode cX10_till 28 = .ok (.if_icmp .ge 13, 3) := by decide +kernel
theorem dX10_till_31 : decode cX10_till 31 = .ok (.aload_n 0, 1) := by decide +kernel
theorem dX10_till_32 : decode cX10_till 32 = .ok (.getfield 53, 3) := by decide +kernel
theorem dX10_till_35 : decode cX10_till 35 = .ok (.iload_n 1, 1) := by decide +kernel
theorem dX10_till_36 : decode cX10_till 36 = .ok (.iaload, 1) := by decide +kernel
theorem dX10_till_37 : decode cX10_till 37 = .ok (.ineg, 1) := by decide +kernel
theorem dX10_till_38 : decode cX10_till 38 = .ok (.goto 4, 3) := by decide +kernel
theorem dX10_till_41 : decode cX10_till 41 = .ok (.iconst 0, 1) := by decide +kernel
theorem dX10_till_42 : decode cX10_till 42 = .ok (.istore_n 3, 1) := by decide +kernel
theorem dX10_till_43 : decode cX10_till 43 = .ok (.aload_n 0, 1) := by decide +kernel
theorem dX10_till_44 : decode cX10_till 44 = .ok (.getfield 50, 3) := by decide +kernel
theorem dX10_till_47 : decode cX10_till 47 = .ok (.iload_n 1, 1) := by decide +kernel
theorem dX10_till_48 : decode cX10_till 48 = .ok (.iaload, 1) := by decide +kernel
theorem dX10_till_49 : decode cX10_till 49 = .ok (.istore 4, 2) := by decide +kernel
theorem dX10_till_51 : decode cX10_till 51 = .ok (.iload 4, 2) := by decide +kernel
theorem dX10_till_53 : decode cX10_till 53 = .ok (.iload_n 2, 1) := by decide +kernel
theorem dX10_till_54 : decode cX10_till 54 = .ok (.if_icmp .ge 17, 3) := by decide +kernel
theorem dX10_till_57 : decode cX10_till 57 = .ok (.iload_n 3, 1) := by decide +kernel
theorem dX10_till_58 : decode cX10_till 58 = .ok (.iload 4, 2) := by decide +kernel
theorem dX10_till_60 : decode cX10_till 60 = .ok (.invokestatic 324, 3) := by decide +kernel
theorem dX10_till_63 : decode cX10_till 63 = .ok (.iadd, 1) := by decide +kernel
theorem dX10_till_64 : decode cX10_till 64 = .ok (.istore_n 3, 1) := by decide +kernel
theorem dX10_till_65 : decode cX10_till 65 = .ok (.iinc 4 1, 3) := by decide +kernel
theorem dX10_till_68 : decode cX10_till 68 = .ok (.goto (-17), 3) := by decide +kernel
theorem dX10_till_71 : decode cX10_till 71 = .ok (.iload_n 3, 1) := by decide +kernel
theorem dX10_till_72 : decode cX10_till 72 = .ok (.ireturn, 1) := by decide +kernel
theorem dX10_image_0 : decode cX10_image 0 = .ok (.aload_n 0, 1) := by decide +kernel
theorem dX10_image_1 : decode cX10_image 1 = .ok (.iconst 1, 1) := by decide +kernel
theorem dX10_image_2 : decode cX10_image 2 = .ok (.putfield 327, 3) := by decide +kernel
theorem dX10_image_5 : decode cX10_image 5 = .ok (.aload_n 0, 1) := by decide +kernel
theorem dX10_image_6 : decode cX10_image 6 = .ok (.aload_n 0, 1) := by decide +kernel
theorem dX10_image_7 : decode cX10_image 7 = .ok (.getfield 109, 3) := by decide +kernel
theorem dX10_image_10 : decode cX10_image 10 = .ok (.putfield 331, 3) := by decide +kernel
theorem dX10_image_13 : decode cX10_image 13 = .ok (.aload_n 0, 1) := by decide +kernel
theorem dX10_image_14 : decode cX10_image 14 = .ok (.getfield 66, 3) := by decide +kernel
theorem dX10_image_17 : decode cX10_image 17 = .ok (.iconst 0, 1) := by decide +kernel
theorem dX10_image_18 : decode cX10_image 18 = .ok (.aload_n 0, 1) := by decide +kernel
theorem dX10_image_19 : decode cX10_image 19 = .ok (.getfield 151, 3) := by decide +kernel
theorem dX10_image_22 : decode cX10_image 22 = .ok (.iastore, 1) := by decide +kernel
theorem dX10_image_23 : decode cX10_image 23 = .ok (.aload_n 0, 1) := by decide +kernel
theorem dX10_image_24 : decode cX10_image 24 = .ok (.getfield 66, 3) := by decide +kernel
theorem dX10_image_27 : decode cX10_image 27 = .ok (.iconst 1, 1) := by decide +kernel
theorem dX10_image_28 : decode cX10_image 28 = .ok (.aload_n 0, 1) := by decide +kernel
theorem dX10_image_29 : decode cX10_image 29 = .ok (.getfield 258, 3) := by decide +kernel
theorem dX10_image_32 : decode cX10_image 32 = .ok (.iastore, 1) := by decide +kernel
theorem dX10_image_33 : decode cX10_image 33 = .ok (.aload_n 0, 1) := by decide +kernel
theorem dX10_image_34 : decode cX10_image 34 = .ok (.getfield 66, 3) := by decide +kernel
theorem dX10_image_37 : decode cX10_image 37 = .ok (.iconst 2, 1) := by decide +kernel
theorem dX10_image_38 : decode cX10_image 38 = .ok (.aload_n 0, 1) := by decide +kernel
theorem dX10_image_39 : decode cX10_image 39 = .ok (.getfield 46, 3) := by decide +kernel
theorem dX10_image_42 : decode cX10_image 42 = .ok (.iastore, 1) := by decide +kernel
theorem dX10_image_43 : decode cX10_image 43 = .ok (.iconst 0, 1) := by decide +kernel
theorem dX10_image_44 : decode cX10_image 44 = .ok (.istore_n 1, 1) := by decide +kernel
theorem dX10_image_45 : decode cX10_image 45 = .ok (.iload_n 1, 1) := by decide +kernel
theorem dX10_image_46 : decode cX10_image 46 = .ok (.aload_n 0, 1) := by decide +kernel
theorem dX10_image_47 : decode cX10_image 47 = .ok (.getfield 109, 3) := by decide +kernel
theorem dX10_image_50 : decode cX10_image 50 = .ok (.if_icmp .ge 60, 3) := by decide +kernel
theorem dX10_image_53 : decode cX10_image 53 = .ok (.aload_n 0, 1) := by decide +kernel
theorem dX10_image_54 : decode cX10_image 54 = .ok (.getfield 66, 3) := by decide +kernel
theorem dX10_image_57 : decode cX10_image 57 = .ok (.iconst 3, 1) := by decide +kernel
theorem dX10_image_58 : decode cX10_image 58 = .ok (.iconst 3, 1) := by decide +kernel
theorem dX10_image_59 : decode cX10_image 59 = .ok (.iload_n 1, 1) := by decide +kernel
theorem dX10_image_60 : decode cX10_image 60 = .ok (.imul, 1) := by decide +kernel
theorem dX10_image_61 : decode cX10_image 61 = .ok (.iadd, 1) := by decide +kernel
theorem dX10_image_62 : decode cX10_image 62 = .ok (.aload_n 0, 1) := by decide +kernel
theorem dX10_image_63 : decode cX10_image 63 = .ok (.getfield 22, 3) := by decide +kernel
theorem dX10_image_66 : decode cX10_image 66 = .ok (.iload_n 1, 1) := by decide +kernel
theorem dX10_image_67 : decode cX10_image 67 = .ok (.iaload, 1) := by decide +kernel
theorem dX10_image_68 : decode cX10_image 68 = .ok (.iastore, 1) := by decide +kernel
theorem dX10_image_69 : decode cX10_image 69 = .ok (.aload_n 0, 1) := by decide +kernel
theorem dX10_image_70 : decode cX10_image 70 = .ok (.getfield 66, 3) := by decide +kernel
theorem dX10_image_73 : decode cX10_image 73 = .ok (.iconst 4, 1) := by decide +kernel
theorem dX10_image_74 : decode cX10_image 74 = .ok (.iconst 3, 1) := by decide +kernel
theorem dX10_image_75 : decode cX10_image 75 = .ok (.iload_n 1, 1) := by decide +kernel
theorem dX10_image_76 : decode cX10_image 76 = .ok (.imul, 1) := by decide +kernel
theorem dX10_image_77 : decode cX10_image 77 = .ok (.iadd, 1) := by decide +kernel
theorem dX10_image_78 : decode cX10_image 78 = .ok (.aload_n 0, 1) := by decide +kernel
theorem dX10_image_79 : decode cX10_image 79 = .ok (.getfield 9, 3) := by decide +kernel
theorem dX10_image_82 : decode cX10_image 82 = .ok (.bipush 10, 2) := by decide +kernel
theorem dX10_image_84 : decode cX10_image 84 = .ok (.iload_n 1, 1) := by decide +kernel
theorem dX10_image_85 : decode cX10_image 85 = .ok (.iadd, 1) := by decide +kernel
theorem dX10_image_86 : decode cX10_image 86 = .ok (.iaload, 1) := by decide +kernel
theorem dX10_image_87 : decode cX10_image 87 = .ok (.iastore, 1) := by decide +kernel
theorem dX10_image_88 : decode cX10_image 88 = .ok (.aload_n 0, 1) := by decide +kernel
theorem dX10_image_89 : decode cX10_image 89 = .ok (.getfield 66, 3) := by decide +kernel
theorem dX10_image_92 : decode cX10_image 92 = .ok (.iconst 5, 1) := by decide +kernel
theorem dX10_image_93 : decode cX10_image 93 = .ok (.iconst 3, 1) := by decide +kernel
theorem dX10_image_94 : decode cX10_image 94 = .ok (.iload_n 1, 1) := by decide +kernel
theorem dX10_image_95 : decode cX10_image 95 = .ok (.imul, 1) := by decide +kernel
theorem dX10_image_96 : decode cX10_image 96 = .ok (.iadd, 1) := by decide +kernel
theorem dX10_image_97 : decode cX10_image 97 = .ok (.aload_n 0, 1) := by decide +kernel
theorem dX10_image_98 : decode cX10_image 98 = .ok (.getfield 25, 3) := by decide +kernel
theorem dX10_image_101 : decode cX10_image 101 = .ok (.iload_n 1, 1) := by decide +kernel
theorem dX10_image_102 : decode cX10_image 102 = .ok (.iaload, 1) := by decide +kernel
theorem dX10_image_103 : decode cX10_image 103 = .ok (.iastore, 1) := by decide +kernel
theorem dX10_image_104 : decode cX10_image 104 = .ok (.iinc 1 1, 3) := by decide +kernel
theorem dX10_image_107 : decode cX10_image 107 = .ok (.goto (-62), 3) := by decide +kernel
theorem dX10_image_110 : decode cX10_image 110 = .ok (.aload_n 0, 1) := by decide +kernel
theorem dX10_image_111 : decode cX10_image 111 = .ok (.getfield 151, 3) := by decide +kernel
theorem dX10_image_114 : decode cX10_image 114 = .ok (.ireturn, 1) := by decide +kernel
theorem dX10_back_0 : decode cX10_back 0 = .ok (.aload_n 0, 1) := by decide +kernel
theorem dX10_back_1 : decode cX10_back 1 = .ok (.getfield 327, 3) := by decide +kernel
theorem dX10_back_4 : decode cX10_back 4 = .ok (.ifCond .ne 6, 3) := by decide +kernel
theorem dX10_back_7 : decode cX10_back 7 = .ok (.bipush (-5), 2) := by decide +kernel
theorem dX10_back_9 : decode cX10_back 9 = .ok (.ireturn, 1) := by decide +kernel
theorem dX10_back_10 : decode cX10_back 10 = .ok (.aload_n 0, 1) := by decide +kernel
theorem dX10_back_11 : decode cX10_back 11 = .ok (.aload_n 0, 1) := by decide +kernel
theorem dX10_back_12 : decode cX10_back 12 = .ok (.getfield 66, 3) := by decide +kernel
theorem dX10_back_15 : decode cX10_back 15 = .ok (.iconst 0, 1) := by decide +kernel
theorem dX10_back_16 : decode cX10_back 16 = .ok (.iaload, 1) := by decide +kernel
theorem dX10_back_17 : decode cX10_back 17 = .ok (.putfield 151, 3) := by decide +kernel
theorem dX10_back_20 : decode cX10_back 20 = .ok (.aload_n 0, 1) := by decide +kernel
theorem dX10_back_21 : decode cX10_back 21 = .ok (.aload_n 0, 1) := by decide +kernel
theorem dX10_back_22 : decode cX10_back 22 = .ok (.getfield 66, 3) := by decide +kernel
theorem dX10_back_25 : decode cX10_back 25 = .ok (.iconst 1, 1) := by decide +kernel
theorem dX10_back_26 : decode cX10_back 26 = .ok (.iaload, 1) := by decide +kernel
theorem dX10_back_27 : decode cX10_back 27 = .ok (.putfield 258, 3) := by decide +kernel
theorem dX10_back_30 : decode cX10_back 30 = .ok (.aload_n 0, 1) := by decide +kernel
theorem dX10_back_31 : decode cX10_back 31 = .ok (.aload_n 0, 1) := by decide +kernel
theorem dX10_back_32 : decode cX10_back 32 = .ok (.getfield 66, 3) := by decide +kernel
theorem dX10_back_35 : decode cX10_back 35 = .ok (.iconst 2, 1) := by decide +kernel
theorem dX10_back_36 : decode cX10_back 36 = .ok (.iaload, 1) := by decide +kernel
theorem dX10_back_37 : decode cX10_back 37 = .ok (.putfield 46, 3) := by decide +kernel
theorem dX10_back_40 : decode cX10_back 40 = .ok (.iconst 0, 1) := by decide +kernel
theorem dX10_back_41 : decode cX10_back 41 = .ok (.istore_n 1, 1) := by decide +kernel
theorem dX10_back_42 : decode cX10_back 42 = .ok (.iload_n 1, 1) := by decide +kernel
theorem dX10_back_43 : decode cX10_back 43 = .ok (.aload_n 0, 1) := by decide +kernel
theorem dX10_back_44 : decode cX10_back 44 = .ok (.getfield 331, 3) := by decide +kernel
theorem dX10_back_47 : decode cX10_back 47 = .ok (.if_icmp .ge 60, 3) := by decide +kernel
theorem dX10_back_50 : decode cX10_back 50 = .ok (.aload_n 0, 1) := by decide +kernel
theorem dX10_back_51 : decode cX10_back 51 = .ok (.getfield 22, 3) := by decide +kernel
theorem dX10_back_54 : decode cX10_back 54 = .ok (.iload_n 1, 1) := by decide +kernel
theorem dX10_back_55 : decode cX10_back 55 = .ok (.aload_n 0, 1) := by decide +kernel
theorem dX10_back_56 : decode cX10_back 56 = .ok (.getfield 66, 3) := by decide +kernel
theorem dX10_back_59 : decode cX10_back 59 = .ok (.iconst 3, 1) := by decide +kernel
theorem dX10_back_60 : decode cX10_back 60 = .ok (.iconst 3, 1) := by decide +kernel
theorem dX10_back_61 : decode cX10_back 61 = .ok (.iload_n 1, 1) := by decide +kernel
theorem dX10_back_62 : decode cX10_back 62 = .ok (.imul, 1) := by decide +kernel
theorem dX10_back_63 : decode cX10_back 63 = .ok (.iadd, 1) := by decide +kernel
theorem dX10_back_64 : decode cX10_back 64 = .ok (.iaload, 1) := by decide +kernel
theorem dX10_back_65 : decode cX10_back 65 = .ok (.iastore, 1) := by decide +kernel
theorem dX10_back_66 : decode cX10_back 66 = .ok (.aload_n 0, 1) := by decide +kernel
theorem dX10_back_67 : decode cX10_back 67 = .ok (.getfield 9, 3) := by decide +kernel
theorem dX10_back_70 : decode cX10_back 70 = .ok (.bipush 10, 2) := by decide +kernel
theorem dX10_back_72 : decode cX10_back 72 = .ok (.iload_n 1, 1) := by decide +kernel
theorem dX10_back_73 : decode cX10_back 73 = .ok (.iadd, 1) := by decide +kernel
theorem dX10_back_74 : decode cX10_back 74 = .ok (.aload_n 0, 1) := by decide +kernel
theorem dX10_back_75 : decode cX10_back 75 = .ok (.getfield 66, 3) := by decide +kernel
theorem dX10_back_78 : decode cX10_back 78 = .ok (.iconst 4, 1) := by decide +kernel
theorem dX10_back_79 : decode cX10_back 79 = .ok (.iconst 3, 1) := by decide +kernel
theorem dX10_back_80 : decode cX10_back 80 = .ok (.iload_n 1, 1) := by decide +kernel
theorem dX10_back_81 : decode cX10_back 81 = .ok (.imul, 1) := by decide +kernel
theorem dX10_back_82 : decode cX10_back 82 = .ok (.iadd, 1) := by decide +kernel
theorem dX10_back_83 : decode cX10_back 83 = .ok (.iaload, 1) := by decide +kernel
theorem dX10_back_84 : decode cX10_back 84 = .ok (.iastore, 1) := by decide +kernel
theorem dX10_back_85 : decode cX10_back 85 = .ok (.aload_n 0, 1) := by decide +kernel
theorem dX10_back_86 : decode cX10_back 86 = .ok (.getfield 25, 3) := by decide +kernel
theorem dX10_back_89 : decode cX10_back 89 = .ok (.iload_n 1, 1) := by decide +kernel
theorem dX10_back_90 : decode cX10_back 90 = .ok (.aload_n 0, 1) := by decide +kernel
theorem dX10_back_91 : decode cX10_back 91 = .ok (.getfield 66, 3) := by decide +kernel
theorem dX10_back_94 : decode cX10_back 94 = .ok (.iconst 5, 1) := by decide +kernel
theorem dX10_back_95 : decode cX10_back 95 = .ok (.iconst 3, 1) := by decide +kernel
theorem dX10_back_96 : decode cX10_back 96 = .ok (.iload_n 1, 1) := by decide +kernel
theorem dX10_back_97 : decode cX10_back 97 = .ok (.imul, 1) := by decide +kernel
theorem dX10_back_98 : decode cX10_back 98 = .ok (.iadd, 1) := by decide +kernel
theorem dX10_back_99 : decode cX10_back 99 = .ok (.iaload, 1) := by decide +kernel
theorem dX10_back_100 : decode cX10_back 100 = .ok (.iastore, 1) := by decide +kernel
theorem dX10_back_101 : decode cX10_back 101 = .ok (.iinc 1 1, 3) := by decide +kernel
theorem dX10_back_104 : decode cX10_back 104 = .ok (.goto (-62), 3) := by decide +kernel
theorem dX10_back_107 : decode cX10_back 107 = .ok (.aload_n 0, 1) := by decide +kernel
theorem dX10_back_108 : decode cX10_back 108 = .ok (.getfield 151, 3) := by decide +kernel
theorem dX10_back_111 : decode cX10_back 111 = .ok (.ireturn, 1) := by decide +kernel
theorem dX10_isBody_0 : decode cX10_isBody 0 = .ok (.iload_n 1, 1) := by decide +kernel
theorem dX10_isBody_1 : decode cX10_isBody 1 = .ok (.i2l, 1) := by decide +kernel
theorem dX10_isBody_2 : decode cX10_isBody 2 = .ok (.lconst 0, 1) := by decide +kernel
theorem dX10_isBody_3 : decode cX10_isBody 3 = .ok (.aload_n 0, 1) := by decide +kernel
theorem dX10_isBody_4 : decode cX10_isBody 4 = .ok (.getfield 334, 3) := by decide +kernel
theorem dX10_isBody_7 : decode cX10_isBody 7 = .ok (.iconst 1, 1) := by decide +kernel
theorem dX10_isBody_8 : decode cX10_isBody 8 = .ok (.isub, 1) := by decide +kernel
theorem dX10_isBody_9 : decode cX10_isBody 9 = .ok (.i2l, 1) := by decide +kernel
theorem dX10_isBody_10 : decode cX10_isBody 10 = .ok (.invokestatic 101, 3) := by decide +kernel
theorem dX10_isBody_13 : decode cX10_isBody 13 = .ok (.ireturn, 1) := by decide +kernel
theorem dX10_kindOf_0 : decode cX10_kindOf 0 = .ok (.aload_n 0, 1) := by decide +kernel
theorem dX10_kindOf_1 : decode cX10_kindOf 1 = .ok (.getfield 69, 3) := by decide +kernel
theorem dX10_kindOf_4 : decode cX10_kindOf 4 = .ok (.iload_n 1, 1) := by decide +kernel
theorem dX10_kindOf_5 : decode cX10_kindOf 5 = .ok (.iaload, 1) := by decide +kernel
theorem dX10_kindOf_6 : decode cX10_kindOf 6 = .ok (.ireturn, 1) := by decide +kernel
theorem dX10_body_0 : decode cX10_body 0 = .ok (.iload_n 1, 1) := by decide +kernel
theorem dX10_body_1 : decode cX10_body 1 = .ok (.i2l, 1) := by decide +kernel
theorem dX10_body_2 : decode cX10_body 2 = .ok (.lconst 0, 1) := by decide +kernel
theorem dX10_body_3 : decode cX10_body 3 = .ok (.ldc2_w 143, 3) := by decide +kernel
theorem dX10_body_6 : decode cX10_body 6 = .ok (.invokestatic 101, 3) := by decide +kernel
theorem dX10_body_9 : decode cX10_body 9 = .ok (.ifCond .ne 5, 3) := by decide +kernel
theorem dX10_body_12 : decode cX10_body 12 = .ok (.iconst (-1), 1) := by decide +kernel
theorem dX10_body_13 : decode cX10_body 13 = .ok (.ireturn, 1) := by decide +kernel
theorem dX10_body_14 : decode cX10_body 14 = .ok (.aload_n 0, 1) := by decide +kernel
theorem dX10_body_15 : decode cX10_body 15 = .ok (.getfield 334, 3) := by decide +kernel
theorem dX10_body_18 : decode cX10_body 18 = .ok (.bipush 50, 2) := by decide +kernel
theorem dX10_body_20 : decode cX10_body 20 = .ok (.if_icmp .ne 6, 3) := by decide +kernel
theorem dX10_body_23 : decode cX10_body 23 = .ok (.bipush (-3), 2) := by decide +kernel
theorem dX10_body_25 : decode cX10_body 25 = .ok (.ireturn, 1) := by decide +kernel
theorem dX10_body_26 : decode cX10_body 26 = .ok (.aload_n 0, 1) := by decide +kernel
theorem dX10_body_27 : decode cX10_body 27 = .ok (.getfield 69, 3) := by decide +kernel
theorem dX10_body_30 : decode cX10_body 30 = .ok (.aload_n 0, 1) := by decide +kernel
theorem dX10_body_31 : decode cX10_body 31 = .ok (.getfield 334, 3) := by decide +kernel
theorem dX10_body_34 : decode cX10_body 34 = .ok (.iload_n 1, 1) := by decide +kernel
theorem dX10_body_35 : decode cX10_body 35 = .ok (.iastore, 1) := by decide +kernel
theorem dX10_body_36 : decode cX10_body 36 = .ok (.aload_n 0, 1) := by decide +kernel
theorem dX10_body_37 : decode cX10_body 37 = .ok (.dup, 1) := by decide +kernel
theorem dX10_body_38 : decode cX10_body 38 = .ok (.getfield 334, 3) := by decide +kernel
theorem dX10_body_41 : decode cX10_body 41 = .ok (.iconst 1, 1) := by decide +kernel
theorem dX10_body_42 : decode cX10_body 42 = .ok (.iadd, 1) := by decide +kernel
theorem dX10_body_43 : decode cX10_body 43 = .ok (.putfield 334, 3) := by decide +kernel
theorem dX10_body_46 : decode cX10_body 46 = .ok (.aload_n 0, 1) := by decide +kernel
theorem dX10_body_47 : decode cX10_body 47 = .ok (.getfield 334, 3) := by decide +kernel
theorem dX10_body_50 : decode cX10_body 50 = .ok (.iconst 1, 1) := by decide +kernel
theorem dX10_body_51 : decode cX10_body 51 = .ok (.isub, 1) := by decide +kernel
theorem dX10_body_52 : decode cX10_body 52 = .ok (.ireturn, 1) := by decide +kernel
theorem dX10_above_0 : decode cX10_above 0 = .ok (.iload_n 0, 1) := by decide +kernel
theorem dX10_above_1 : decode cX10_above 1 = .ok (.iconst 3, 1) := by decide +kernel
theorem dX10_above_2 : decode cX10_above 2 = .ok (.if_icmp .ne 7, 3) := by decide +kernel
theorem dX10_above_5 : decode cX10_above 5 = .ok (.iconst 2, 1) := by decide +kernel
theorem dX10_above_6 : decode cX10_above 6 = .ok (.goto 32, 3) := by decide +kernel
theorem dX10_above_9 : decode cX10_above 9 = .ok (.iload_n 0, 1) := by decide +kernel
theorem dX10_above_10 : decode cX10_above 10 = .ok (.iconst 4, 1) := by decide +kernel
theorem dX10_above_11 : decode cX10_above 11 = .ok (.if_icmp .ne 7, 3) := by decide +kernel
theorem dX10_above_14 : decode cX10_above 14 = .ok (.iconst 1, 1) := by decide +kernel
theorem dX10_above_15 : decode cX10_above 15 = .ok (.goto 23, 3) := by decide +kernel
theorem dX10_above_18 : decode cX10_above 18 = .ok (.iload_n 0, 1) := by decide +kernel
theorem dX10_above_19 : decode cX10_above 19 = .ok (.iconst 5, 1) := by decide +kernel
theorem dX10_above_20 : decode cX10_above 20 = .ok (.if_icmp .ne 7, 3) := by decide +kernel
theorem dX10_above_23 : decode cX10_above 23 = .ok (.iconst 3, 1) := by decide +kernel
theorem dX10_above_24 : decode cX10_above 24 = .ok (.goto 14, 3) := by decide +kernel
theorem dX10_above_27 : decode cX10_above 27 = .ok (.iload_n 0, 1) := by decide +kernel
theorem dX10_above_28 : decode cX10_above 28 = .ok (.bipush 7, 2) := by decide +kernel
theorem dX10_above_30 : decode cX10_above 30 = .ok (.if_icmp .ne 7, 3) := by decide +kernel
theorem dX10_above_33 : decode cX10_above 33 = .ok (.iconst 4, 1) := by decide +kernel
theorem dX10_above_34 : decode cX10_above 34 = .ok (.goto 4, 3) := by decide +kernel
theorem dX10_above_37 : decode cX10_above 37 = .ok (.iconst 0, 1) := by decide +kernel
theorem dX10_above_38 : decode cX10_above 38 = .ok (.ireturn, 1) := by decide +kernel
theorem dX10_begins_0 : decode cX10_begins 0 = .ok (.aload_n 0, 1) := by decide +kernel
theorem dX10_begins_1 : decode cX10_begins 1 = .ok (.getfield 337, 3) := by decide +kernel
theorem dX10_begins_4 : decode cX10_begins 4 = .ok (.bipush 24, 2) := by decide +kernel
theorem dX10_begins_6 : decode cX10_begins 6 = .ok (.if_icmp .ge 13, 3) := by decide +kernel
theorem dX10_begins_9 : decode cX10_begins 9 = .ok (.aload_n 0, 1) := by decide +kernel
theorem dX10_begins_10 : decode cX10_begins 10 = .ok (.getfield 72, 3) := by decide +kernel
theorem dX10_begins_13 : decode cX10_begins 13 = .ok (.aload_n 0, 1) := by decide +kernel
theorem dX10_begins_14 : decode cX10_begins 14 = .ok (.getfield 337, 3) := by decide +kernel
theorem dX10_begins_17 : decode cX10_begins 17 = .ok (.iload_n 1, 1) := by decide +kernel
theorem dX10_begins_18 : decode cX10_begins 18 = .ok (.iastore, 1) := by decide +kernel
theorem dX10_begins_19 : decode cX10_begins 19 = .ok (.aload_n 0, 1) := by decide +kernel
theorem dX10_begins_20 : decode cX10_begins 20 = .ok (.dup, 1) := by decide +kernel
theorem dX10_begins_21 : decode cX10_begins 21 = .ok (.getfield 337, 3) := by decide +kernel
theorem dX10_begins_24 : decode cX10_begins 24 = .ok (.iconst 1, 1) := by decide +kernel
theorem dX10_begins_25 : decode cX10_begins 25 = .ok (.iadd, 1) := by decide +kernel
theorem dX10_begins_26 : decode cX10_begins 26 = .ok (.putfield 337, 3) := by decide +kernel
theorem dX10_begins_29 : decode cX10_begins 29 = .ok (.return_, 1) := by decide +kernel
theorem dX10_pushesAs_0 : decode cX10_pushesAs 0 = .ok (.iload_n 1, 1) := by decide +kernel
theorem dX10_pushesAs_1 : decode cX10_pushesAs 1 = .ok (.iconst 1, 1) := by decide +kernel
theorem dX10_pushesAs_2 : decode cX10_pushesAs 2 = .ok (.if_icmp .eq 14, 3) := by decide +kernel
theorem dX10_pushesAs_5 : decode cX10_pushesAs 5 = .ok (.iload_n 1, 1) := by decide +kernel
theorem dX10_pushesAs_6 : decode cX10_pushesAs 6 = .ok (.iconst 4, 1) := by decide +kernel
theorem dX10_pushesAs_7 : decode cX10_pushesAs 7 = .ok (.if_icmp .eq 9, 3) := by decide +kernel
theorem dX10_pushesAs_10 : decode cX10_pushesAs 10 = .ok (.iload_n 1, 1) := by decide +kernel
theorem dX10_pushesAs_11 : decode cX10_pushesAs 11 = .ok (.bipush 7, 2) := by decide +kernel
theorem dX10_pushesAs_13 : decode cX10_pushesAs 13 = .ok (.if_icmp .ne 18, 3) := by decide +kernel
theorem dX10_pushesAs_16 : decode cX10_pushesAs 16 = .ok (.aload_n 0, 1) := by decide +kernel
theorem dX10_pushesAs_17 : decode cX10_pushesAs 17 = .ok (.bipush 20, 2) := by decide +kernel
theorem dX10_pushesAs_19 : decode cX10_pushesAs 19 = .ok (.invokevirtual 340, 3) := by decide +kernel
theorem dX10_pushesAs_22 : decode cX10_pushesAs 22 = .ok (.aload_n 0, 1) := by decide +kernel
theorem dX10_pushesAs_23 : decode cX10_pushesAs 23 = .ok (.iconst 0, 1) := by decide +kernel
theorem dX10_pushesAs_24 : decode cX10_pushesAs 24 = .ok (.iload_n 2, 1) := by decide +kernel
theorem dX10_pushesAs_25 : decode cX10_pushesAs 25 = .ok (.invokevirtual 343, 3) := by decide +kernel
theorem dX10_pushesAs_28 : decode cX10_pushesAs 28 = .ok (.iconst 3, 1) := by decide +kernel
theorem dX10_pushesAs_29 : decode cX10_pushesAs 29 = .ok (.iadd, 1) := by decide +kernel
theorem dX10_pushesAs_30 : decode cX10_pushesAs 30 = .ok (.ireturn, 1) := by decide +kernel
theorem dX10_pushesAs_31 : decode cX10_pushesAs 31 = .ok (.iload_n 1, 1) := by decide +kernel
theorem dX10_pushesAs_32 : decode cX10_pushesAs 32 = .ok (.bipush 6, 2) := by decide +kernel
theorem dX10_pushesAs_34 : decode cX10_pushesAs 34 = .ok (.if_icmp .ne 18, 3) := by decide +kernel
theorem dX10_pushesAs_37 : decode cX10_pushesAs 37 = .ok (.aload_n 0, 1) := by decide +kernel
theorem dX10_pushesAs_38 : decode cX10_pushesAs 38 = .ok (.bipush 70, 2) := by decide +kernel
theorem dX10_pushesAs_40 : decode cX10_pushesAs 40 = .ok (.invokevirtual 340, 3) := by decide +kernel
theorem dX10_pushesAs_43 : decode cX10_pushesAs 43 = .ok (.aload_n 0, 1) := by decide +kernel
theorem dX10_pushesAs_44 : decode cX10_pushesAs 44 = .ok (.iconst 0, 1) := by decide +kernel
theorem dX10_pushesAs_45 : decode cX10_pushesAs 45 = .ok (.iload_n 2, 1) := by decide +kernel
theorem dX10_pushesAs_46 : decode cX10_pushesAs 46 = .ok (.invokevirtual 343, 3) := by decide +kernel
theorem dX10_pushesAs_49 : decode cX10_pushesAs 49 = .ok (.iconst 2, 1) := by decide +kernel
theorem dX10_pushesAs_50 : decode cX10_pushesAs 50 = .ok (.imul, 1) := by decide +kernel
theorem dX10_pushesAs_51 : decode cX10_pushesAs 51 = .ok (.ireturn, 1) := by decide +kernel
theorem dX10_pushesAs_52 : decode cX10_pushesAs 52 = .ok (.aload_n 0, 1) := by decide +kernel
theorem dX10_pushesAs_53 : decode cX10_pushesAs 53 = .ok (.iconst 1, 1) := by decide +kernel
theorem dX10_pushesAs_54 : decode cX10_pushesAs 54 = .ok (.invokevirtual 340, 3) := by decide +kernel
theorem dX10_pushesAs_57 : decode cX10_pushesAs 57 = .ok (.iload_n 2, 1) := by decide +kernel
theorem dX10_pushesAs_58 : decode cX10_pushesAs 58 = .ok (.aload_n 0, 1) := by decide +kernel
theorem dX10_pushesAs_59 : decode cX10_pushesAs 59 = .ok (.getfield 346, 3) := by decide +kernel
theorem dX10_pushesAs_62 : decode cX10_pushesAs 62 = .ok (.iadd, 1) := by decide +kernel
theorem dX10_pushesAs_63 : decode cX10_pushesAs 63 = .ok (.ireturn, 1) := by decide +kernel
theorem dX10_turnsAs_0 : decode cX10_turnsAs 0 = .ok (.iload_n 1, 1) := by decide +kernel
theorem dX10_turnsAs_1 : decode cX10_turnsAs 1 = .ok (.iconst 3, 1) := by decide +kernel
theorem dX10_turnsAs_2 : decode cX10_turnsAs 2 = .ok (.if_icmp .eq 8, 3) := by decide +kernel
theorem dX10_turnsAs_5 : decode cX10_turnsAs 5 = .ok (.iload_n 1, 1) := by decide +kernel
theorem dX10_turnsAs_6 : decode cX10_turnsAs 6 = .ok (.iconst 5, 1) := by decide +kernel
theorem dX10_turnsAs_7 : decode cX10_turnsAs 7 = .ok (.if_icmp .ne 18, 3) := by decide +kernel
theorem dX10_turnsAs_10 : decode cX10_turnsAs 10 = .ok (.aload_n 0, 1) := by decide +kernel
theorem dX10_turnsAs_11 : decode cX10_turnsAs 11 = .ok (.bipush 41, 2) := by decide +kernel
theorem dX10_turnsAs_13 : decode cX10_turnsAs 13 = .ok (.invokevirtual 340, 3) := by decide +kernel
theorem dX10_turnsAs_16 : decode cX10_turnsAs 16 = .ok (.aload_n 0, 1) := by decide +kernel
theorem dX10_turnsAs_17 : decode cX10_turnsAs 17 = .ok (.iconst 2, 1) := by decide +kernel
theorem dX10_turnsAs_18 : decode cX10_turnsAs 18 = .ok (.iload_n 2, 1) := by decide +kernel
theorem dX10_turnsAs_19 : decode cX10_turnsAs 19 = .ok (.iconst 1, 1) := by decide +kernel
theorem dX10_turnsAs_20 : decode cX10_turnsAs 20 = .ok (.iadd, 1) := by decide +kernel
theorem dX10_turnsAs_21 : decode cX10_turnsAs 21 = .ok (.invokevirtual 349, 3) := by decide +kernel
theorem dX10_turnsAs_24 : decode cX10_turnsAs 24 = .ok (.ireturn, 1) := by decide +kernel
theorem dX10_turnsAs_25 : decode cX10_turnsAs 25 = .ok (.iload_n 1, 1) := by decide +kernel
theorem dX10_turnsAs_26 : decode cX10_turnsAs 26 = .ok (.iconst 2, 1) := by decide +kernel
theorem dX10_turnsAs_27 : decode cX10_turnsAs 27 = .ok (.if_icmp .ne 17, 3) := by decide +kernel
theorem dX10_turnsAs_30 : decode cX10_turnsAs 30 = .ok (.aload_n 0, 1) := by decide +kernel
theorem dX10_turnsAs_31 : decode cX10_turnsAs 31 = .ok (.bipush 30, 2) := by decide +kernel
theorem dX10_turnsAs_33 : decode cX10_turnsAs 33 = .ok (.invokevirtual 340, 3) := by decide +kernel
theorem dX10_turnsAs_36 : decode cX10_turnsAs 36 = .ok (.aload_n 0, 1) := by decide +kernel
theorem dX10_turnsAs_37 : decode cX10_turnsAs 37 = .ok (.iconst 0, 1) := by decide +kernel
theorem dX10_turnsAs_38 : decode cX10_turnsAs 38 = .ok (.iload_n 2, 1) := by decide +kernel
theorem dX10_turnsAs_39 : decode cX10_turnsAs 39 = .ok (.invokevirtual 349, 3) := by decide +kernel
theorem dX10_turnsAs_42 : decode cX10_turnsAs 42 = .ok (.ineg, 1) := by decide +kernel
theorem dX10_turnsAs_43 : decode cX10_turnsAs 43 = .ok (.ireturn, 1) := by decide +kernel
theorem dX10_turnsAs_44 : decode cX10_turnsAs 44 = .ok (.iload_n 1, 1) := by decide +kernel
theorem dX10_turnsAs_45 : decode cX10_turnsAs 45 = .ok (.bipush 7, 2) := by decide +kernel
theorem dX10_turnsAs_47 : decode cX10_turnsAs 47 = .ok (.if_icmp .ne 28, 3) := by decide +kernel
theorem dX10_turnsAs_50 : decode cX10_turnsAs 50 = .ok (.aload_n 0, 1) := by decide +kernel
theorem dX10_turnsAs_51 : decode cX10_turnsAs 51 = .ok (.bipush 80, 2) := by decide +kernel
theorem dX10_turnsAs_53 : decode cX10_turnsAs 53 = .ok (.invokevirtual 340, 3) := by decide +kernel
theorem dX10_turnsAs_56 : decode cX10_turnsAs 56 = .ok (.aload_n 0, 1) := by decide +kernel
theorem dX10_turnsAs_57 : decode cX10_turnsAs 57 = .ok (.iconst 4, 1) := by decide +kernel
theorem dX10_turnsAs_58 : decode cX10_turnsAs 58 = .ok (.iload_n 2, 1) := by decide +kernel
theorem dX10_turnsAs_59 : decode cX10_turnsAs 59 = .ok (.invokevirtual 349, 3) := by decide +kernel
theorem dX10_turnsAs_62 : decode cX10_turnsAs 62 = .ok (.istore_n 3, 1) := by decide +kernel
theorem dX10_turnsAs_63 : decode cX10_turnsAs 63 = .ok (.iload_n 3, 1) := by decide +kernel
theorem dX10_turnsAs_64 : decode cX10_turnsAs 64 = .ok (.aload_n 0, 1) := by decide +kernel
theorem dX10_turnsAs_65 : decode cX10_turnsAs 65 = .ok (.aload_n 0, 1) := by decide +kernel
theorem dX10_turnsAs_66 : decode cX10_turnsAs 66 = .ok (.getfield 352, 3) := by decide +kernel
theorem dX10_turnsAs_69 : decode cX10_turnsAs 69 = .ok (.iconst 2, 1) := by decide +kernel
theorem dX10_turnsAs_70 : decode cX10_turnsAs 70 = .ok (.invokevirtual 355, 3) := by decide +kernel
theorem dX10_turnsAs_73 : decode cX10_turnsAs 73 = .ok (.iadd, 1) := by decide +kernel
theorem dX10_turnsAs_74 : decode cX10_turnsAs 74 = .ok (.ireturn, 1) := by decide +kernel
theorem dX10_turnsAs_75 : decode cX10_turnsAs 75 = .ok (.aload_n 0, 1) := by decide +kernel
theorem dX10_turnsAs_76 : decode cX10_turnsAs 76 = .ok (.bipush 10, 2) := by decide +kernel
theorem dX10_turnsAs_78 : decode cX10_turnsAs 78 = .ok (.invokevirtual 340, 3) := by decide +kernel
theorem dX10_turnsAs_81 : decode cX10_turnsAs 81 = .ok (.aload_n 0, 1) := by decide +kernel
theorem dX10_turnsAs_82 : decode cX10_turnsAs 82 = .ok (.aload_n 0, 1) := by decide +kernel
theorem dX10_turnsAs_83 : decode cX10_turnsAs 83 = .ok (.getfield 352, 3) := by decide +kernel
theorem dX10_turnsAs_86 : decode cX10_turnsAs 86 = .ok (.iload_n 2, 1) := by decide +kernel
theorem dX10_turnsAs_87 : decode cX10_turnsAs 87 = .ok (.invokevirtual 343, 3) := by decide +kernel
theorem dX10_turnsAs_90 : decode cX10_turnsAs 90 = .ok (.iconst 2, 1) := by decide +kernel
theorem dX10_turnsAs_91 : decode cX10_turnsAs 91 = .ok (.imul, 1) := by decide +kernel
theorem dX10_turnsAs_92 : decode cX10_turnsAs 92 = .ok (.ireturn, 1) := by decide +kernel
theorem dX10_sinksAs_0 : decode cX10_sinksAs 0 = .ok (.iload_n 1, 1) := by decide +kernel
theorem dX10_sinksAs_1 : decode cX10_sinksAs 1 = .ok (.iconst 3, 1) := by decide +kernel
theorem dX10_sinksAs_2 : decode cX10_sinksAs 2 = .ok (.if_icmp .eq 8, 3) := by decide +kernel
theorem dX10_sinksAs_5 : decode cX10_sinksAs 5 = .ok (.iload_n 1, 1) := by decide +kernel
theorem dX10_sinksAs_6 : decode cX10_sinksAs 6 = .ok (.iconst 5, 1) := by decide +kernel
theorem dX10_sinksAs_7 : decode cX10_sinksAs 7 = .ok (.if_icmp .ne 18, 3) := by decide +kernel
theorem dX10_sinksAs_10 : decode cX10_sinksAs 10 = .ok (.aload_n 0, 1) := by decide +kernel
theorem dX10_sinksAs_11 : decode cX10_sinksAs 11 = .ok (.bipush 40, 2) := by decide +kernel
theorem dX10_sinksAs_13 : decode cX10_sinksAs 13 = .ok (.invokevirtual 340, 3) := by decide +kernel
theorem dX10_sinksAs_16 : decode cX10_sinksAs 16 = .ok (.aload_n 0, 1) := by decide +kernel
theorem dX10_sinksAs_17 : decode cX10_sinksAs 17 = .ok (.iconst 2, 1) := by decide +kernel
theorem dX10_sinksAs_18 : decode cX10_sinksAs 18 = .ok (.iload_n 2, 1) := by decide +kernel
theorem dX10_sinksAs_19 : decode cX10_sinksAs 19 = .ok (.invokevirtual 355, 3) := by decide +kernel
theorem dX10_sinksAs_22 : decode cX10_sinksAs 22 = .ok (.iconst 3, 1) := by decide +kernel
theorem dX10_sinksAs_23 : decode cX10_sinksAs 23 = .ok (.imul, 1) := by decide +kernel
theorem dX10_sinksAs_24 : decode cX10_sinksAs 24 = .ok (.ireturn, 1) := by decide +kernel
theorem dX10_sinksAs_25 : decode cX10_sinksAs 25 = .ok (.iload_n 1, 1) := by decide +kernel
theorem dX10_sinksAs_26 : decode cX10_sinksAs 26 = .ok (.iconst 4, 1) := by decide +kernel
theorem dX10_sinksAs_27 : decode cX10_sinksAs 27 = .ok (.if_icmp .eq 9, 3) := by decide +kernel
theorem dX10_sinksAs_30 : decode cX10_sinksAs 30 = .ok (.iload_n 1, 1) := by decide +kernel
theorem dX10_sinksAs_31 : decode cX10_sinksAs 31 = .ok (.bipush 7, 2) := by decide +kernel
theorem dX10_sinksAs_33 : decode cX10_sinksAs 33 = .ok (.if_icmp .ne 28, 3) := by decide +kernel
theorem dX10_sinksAs_36 : decode cX10_sinksAs 36 = .ok (.aload_n 0, 1) := by decide +kernel
theorem dX10_sinksAs_37 : decode cX10_sinksAs 37 = .ok (.bipush 50, 2) := by decide +kernel
theorem dX10_sinksAs_39 : decode cX10_sinksAs 39 = .ok (.invokevirtual 340, 3) := by decide +kernel
theorem dX10_sinksAs_42 : decode cX10_sinksAs 42 = .ok (.aload_n 0, 1) := by decide +kernel
theorem dX10_sinksAs_43 : decode cX10_sinksAs 43 = .ok (.iconst 1, 1) := by decide +kernel
theorem dX10_sinksAs_44 : decode cX10_sinksAs 44 = .ok (.iload_n 2, 1) := by decide +kernel
theorem dX10_sinksAs_45 : decode cX10_sinksAs 45 = .ok (.invokevirtual 355, 3) := by decide +kernel
theorem dX10_sinksAs_48 : decode cX10_sinksAs 48 = .ok (.istore_n 3, 1) := by decide +kernel
theorem dX10_sinksAs_49 : decode cX10_sinksAs 49 = .ok (.iload_n 3, 1) := by decide +kernel
theorem dX10_sinksAs_50 : decode cX10_sinksAs 50 = .ok (.aload_n 0, 1) := by decide +kernel
theorem dX10_sinksAs_51 : decode cX10_sinksAs 51 = .ok (.aload_n 0, 1) := by decide +kernel
theorem dX10_sinksAs_52 : decode cX10_sinksAs 52 = .ok (.getfield 352, 3) := by decide +kernel
theorem dX10_sinksAs_55 : decode cX10_sinksAs 55 = .ok (.iconst 2, 1) := by decide +kernel
theorem dX10_sinksAs_56 : decode cX10_sinksAs 56 = .ok (.invokevirtual 343, 3) := by decide +kernel
theorem dX10_sinksAs_59 : decode cX10_sinksAs 59 = .ok (.isub, 1) := by decide +kernel
theorem dX10_sinksAs_60 : decode cX10_sinksAs 60 = .ok (.ireturn, 1) := by decide +kernel
theorem dX10_sinksAs_61 : decode cX10_sinksAs 61 = .ok (.aload_n 0, 1) := by decide +kernel
theorem dX10_sinksAs_62 : decode cX10_sinksAs 62 = .ok (.bipush 11, 2) := by decide +kernel
theorem dX10_sinksAs_64 : decode cX10_sinksAs 64 = .ok (.invokevirtual 340, 3) := by decide +kernel
theorem dX10_sinksAs_67 : decode cX10_sinksAs 67 = .ok (.iload_n 2, 1) := by decide +kernel
theorem dX10_sinksAs_68 : decode cX10_sinksAs 68 = .ok (.aload_n 0, 1) := by decide +kernel
theorem dX10_sinksAs_69 : decode cX10_sinksAs 69 = .ok (.getfield 346, 3) := by decide +kernel
theorem dX10_sinksAs_72 : decode cX10_sinksAs 72 = .ok (.ixor, 1) := by decide +kernel
theorem dX10_sinksAs_73 : decode cX10_sinksAs 73 = .ok (.ireturn, 1) := by decide +kernel
theorem dX10_tellsAs_0 : decode cX10_tellsAs 0 = .ok (.iload_n 1, 1) := by decide +kernel
theorem dX10_tellsAs_1 : decode cX10_tellsAs 1 = .ok (.iconst 5, 1) := by decide +kernel
theorem dX10_tellsAs_2 : decode cX10_tellsAs 2 = .ok (.if_icmp .ne 18, 3) := by decide +kernel
theorem dX10_tellsAs_5 : decode cX10_tellsAs 5 = .ok (.aload_n 0, 1) := by decide +kernel
theorem dX10_tellsAs_6 : decode cX10_tellsAs 6 = .ok (.bipush 60, 2) := by decide +kernel
theorem dX10_tellsAs_8 : decode cX10_tellsAs 8 = .ok (.invokevirtual 340, 3) := by decide +kernel
theorem dX10_tellsAs_11 : decode cX10_tellsAs 11 = .ok (.aload_n 0, 1) := by decide +kernel
theorem dX10_tellsAs_12 : decode cX10_tellsAs 12 = .ok (.iconst 3, 1) := by decide +kernel
theorem dX10_tellsAs_13 : decode cX10_tellsAs 13 = .ok (.iload_n 2, 1) := by decide +kernel
theorem dX10_tellsAs_14 : decode cX10_tellsAs 14 = .ok (.invokevirtual 358, 3) := by decide +kernel
theorem dX10_tellsAs_17 : decode cX10_tellsAs 17 = .ok (.iconst 5, 1) := by decide +kernel
theorem dX10_tellsAs_18 : decode cX10_tellsAs 18 = .ok (.ixor, 1) := by decide +kernel
theorem dX10_tellsAs_19 : decode cX10_tellsAs 19 = .ok (.ireturn, 1) := by decide +kernel
theorem dX10_tellsAs_20 : decode cX10_tellsAs 20 = .ok (.iload_n 1, 1) := by decide +kernel
theorem dX10_tellsAs_21 : decode cX10_tellsAs 21 = .ok (.bipush 7, 2) := by decide +kernel
theorem dX10_tellsAs_23 : decode cX10_tellsAs 23 = .ok (.if_icmp .ne 18, 3) := by decide +kernel
theorem dX10_tellsAs_26 : decode cX10_tellsAs 26 = .ok (.aload_n 0, 1) := by decide +kernel
theorem dX10_tellsAs_27 : decode cX10_tellsAs 27 = .ok (.bipush 81, 2) := by decide +kernel
theorem dX10_tellsAs_29 : decode cX10_tellsAs 29 = .ok (.invokevirtual 340, 3) := by decide +kernel
theorem dX10_tellsAs_32 : decode cX10_tellsAs 32 = .ok (.aload_n 0, 1) := by decide +kernel
theorem dX10_tellsAs_33 : decode cX10_tellsAs 33 = .ok (.iconst 4, 1) := by decide +kernel
theorem dX10_tellsAs_34 : decode cX10_tellsAs 34 = .ok (.iload_n 2, 1) := by decide +kernel
theorem dX10_tellsAs_35 : decode cX10_tellsAs 35 = .ok (.invokevirtual 358, 3) := by decide +kernel
theorem dX10_tellsAs_38 : decode cX10_tellsAs 38 = .ok (.iconst 1, 1) := by decide +kernel
theorem dX10_tellsAs_39 : decode cX10_tellsAs 39 = .ok (.isub, 1) := by decide +kernel
theorem dX10_tellsAs_40 : decode cX10_tellsAs 40 = .ok (.ireturn, 1) := by decide +kernel
theorem dX10_tellsAs_41 : decode cX10_tellsAs 41 = .ok (.aload_n 0, 1) := by decide +kernel
theorem dX10_tellsAs_42 : decode cX10_tellsAs 42 = .ok (.iconst 2, 1) := by decide +kernel
theorem dX10_tellsAs_43 : decode cX10_tellsAs 43 = .ok (.invokevirtual 340, 3) := by decide +kernel
theorem dX10_tellsAs_46 : decode cX10_tellsAs 46 = .ok (.aload_n 0, 1) := by decide +kernel
theorem dX10_tellsAs_47 : decode cX10_tellsAs 47 = .ok (.aload_n 0, 1) := by decide +kernel
theorem dX10_tellsAs_48 : decode cX10_tellsAs 48 = .ok (.getfield 352, 3) := by decide +kernel
theorem dX10_tellsAs_51 : decode cX10_tellsAs 51 = .ok (.iload_n 2, 1) := by decide +kernel
theorem dX10_tellsAs_52 : decode cX10_tellsAs 52 = .ok (.invokevirtual 349, 3) := by decide +kernel
theorem dX10_tellsAs_55 : decode cX10_tellsAs 55 = .ok (.istore_n 3, 1) := by decide +kernel
theorem dX10_tellsAs_56 : decode cX10_tellsAs 56 = .ok (.iload_n 3, 1) := by decide +kernel
theorem dX10_tellsAs_57 : decode cX10_tellsAs 57 = .ok (.aload_n 0, 1) := by decide +kernel
theorem dX10_tellsAs_58 : decode cX10_tellsAs 58 = .ok (.aload_n 0, 1) := by decide +kernel
theorem dX10_tellsAs_59 : decode cX10_tellsAs 59 = .ok (.getfield 352, 3) := by decide +kernel
theorem dX10_tellsAs_62 : decode cX10_tellsAs 62 = .ok (.iconst 1, 1) := by decide +kernel
theorem dX10_tellsAs_63 : decode cX10_tellsAs 63 = .ok (.invokevirtual 355, 3) := by decide +kernel
theorem dX10_tellsAs_66 : decode cX10_tellsAs 66 = .ok (.isub, 1) := by decide +kernel
theorem dX10_tellsAs_67 : decode cX10_tellsAs 67 = .ok (.ireturn, 1) := by decide +kernel
theorem dX10_act_0 : decode cX10_act 0 = .ok (.aload_n 0, 1) := by decide +kernel
theorem dX10_act_1 : decode cX10_act 1 = .ok (.iconst 0, 1) := by decide +kernel
theorem dX10_act_2 : decode cX10_act 2 = .ok (.putfield 337, 3) := by decide +kernel
theorem dX10_act_5 : decode cX10_act 5 = .ok (.aload_n 0, 1) := by decide +kernel
theorem dX10_act_6 : decode cX10_act 6 = .ok (.iload_n 1, 1) := by decide +kernel
theorem dX10_act_7 : decode cX10_act 7 = .ok (.invokevirtual 361, 3) := by decide +kernel
theorem dX10_act_10 : decode cX10_act 10 = .ok (.ifCond .ne 5, 3) := by decide +kernel
theorem dX10_act_13 : decode cX10_act 13 = .ok (.iconst 0, 1) := by decide +kernel
theorem dX10_act_14 : decode cX10_act 14 = .ok (.ireturn, 1) := by decide +kernel
theorem dX10_act_15 : decode cX10_act 15 = .ok (.aload_n 0, 1) := by decide +kernel
theorem dX10_act_16 : decode cX10_act 16 = .ok (.aload_n 0, 1) := by decide +kernel
theorem dX10_act_17 : decode cX10_act 17 = .ok (.getfield 69, 3) := by decide +kernel
theorem dX10_act_20 : decode cX10_act 20 = .ok (.iload_n 1, 1) := by decide +kernel
theorem dX10_act_21 : decode cX10_act 21 = .ok (.iaload, 1) := by decide +kernel
theorem dX10_act_22 : decode cX10_act 22 = .ok (.putfield 352, 3) := by decide +kernel
theorem dX10_act_25 : decode cX10_act 25 = .ok (.aload_n 0, 1) := by decide +kernel
theorem dX10_act_26 : decode cX10_act 26 = .ok (.iload_n 1, 1) := by decide +kernel
theorem dX10_act_27 : decode cX10_act 27 = .ok (.putfield 346, 3) := by decide +kernel
theorem dX10_act_30 : decode cX10_act 30 = .ok (.iload_n 2, 1) := by decide +kernel
theorem dX10_act_31 : decode cX10_act 31 = .ok (.tableswitch 69 0 3 #[29, 39, 49, 59], 29) := by decide +kernel
theorem dX10_act_60 : decode cX10_act 60 = .ok (.aload_n 0, 1) := by decide +kernel
theorem dX10_act_61 : decode cX10_act 61 = .ok (.aload_n 0, 1) := by decide +kernel
theorem dX10_act_62 : decode cX10_act 62 = .ok (.getfield 352, 3) := by decide +kernel
theorem dX10_act_65 : decode cX10_act 65 = .ok (.iload_n 3, 1) := by decide +kernel
theorem dX10_act_66 : decode cX10_act 66 = .ok (.invokevirtual 343, 3) := by decide +kernel
theorem dX10_act_69 : decode cX10_act 69 = .ok (.ireturn, 1) := by decide +kernel
theorem dX10_act_70 : decode cX10_act 70 = .ok (.aload_n 0, 1) := by decide +kernel
theorem dX10_act_71 : decode cX10_act 71 = .ok (.aload_n 0, 1) := by decide +kernel
theorem dX10_act_72 : decode cX10_act 72 = .ok (.getfield 352, 3) := by decide +kernel
theorem dX10_act_75 : decode cX10_act 75 = .ok (.iload_n 3, 1) := by decide +kernel
theorem dX10_act_76 : decode cX10_act 76 = .ok (.invokevirtual 349, 3) := by decide +kernel
theorem dX10_act_79 : decode cX10_act 79 = .ok (.ireturn, 1) := by decide +kernel
theorem dX10_act_80 : decode cX10_act 80 = .ok (.aload_n 0, 1) := by decide +kernel
theorem dX10_act_81 : decode cX10_act 81 = .ok (.aload_n 0, 1) := by decide +kernel
theorem dX10_act_82 : decode cX10_act 82 = .ok (.getfield 352, 3) := by decide +kernel
theorem dX10_act_85 : decode cX10_act 85 = .ok (.iload_n 3, 1) := by decide +kernel
theorem dX10_act_86 : decode cX10_act 86 = .ok (.invokevirtual 355, 3) := by decide +kernel
theorem dX10_act_89 : decode cX10_act 89 = .ok (.ireturn, 1) := by decide +kernel
theorem dX10_act_90 : decode cX10_act 90 = .ok (.aload_n 0, 1) := by decide +kernel
theorem dX10_act_91 : decode cX10_act 91 = .ok (.aload_n 0, 1) := by decide +kernel
theorem dX10_act_92 : decode cX10_act 92 = .ok (.getfield 352, 3) := by decide +kernel
theorem dX10_act_95 : decode cX10_act 95 = .ok (.iload_n 3, 1) := by decide +kernel
theorem dX10_act_96 : decode cX10_act 96 = .ok (.invokevirtual 358, 3) := by decide +kernel
theorem dX10_act_99 : decode cX10_act 99 = .ok (.ireturn, 1) := by decide +kernel
theorem dX10_act_100 : decode cX10_act 100 = .ok (.iconst 0, 1) := by decide +kernel
theorem dX10_act_101 : decode cX10_act 101 = .ok (.ireturn, 1) := by decide +kernel
theorem dX10_trace_0 : decode cX10_trace 0 = .ok (.iload_n 1, 1) := by decide +kernel
theorem dX10_trace_1 : decode cX10_trace 1 = .ok (.ifCond .lt 26, 3) := by decide +kernel
theorem dX10_trace_4 : decode cX10_trace 4 = .ok (.iload_n 1, 1) := by decide +kernel
theorem dX10_trace_5 : decode cX10_trace 5 = .ok (.aload_n 0, 1) := by decide +kernel
theorem dX10_trace_6 : decode cX10_trace 6 = .ok (.getfield 337, 3) := by decide +kernel
theorem dX10_trace_9 : decode cX10_trace 9 = .ok (.if_icmp .ge 18, 3) := by decide +kernel
theorem dX10_trace_12 : decode cX10_trace 12 = .ok (.iload_n 1, 1) := by decide +kernel
theorem dX10_trace_13 : decode cX10_trace 13 = .ok (.bipush 24, 2) := by decide +kernel
theorem dX10_trace_15 : decode cX10_trace 15 = .ok (.if_icmp .ge 12, 3) := by decide +kernel
theorem dX10_trace_18 : decode cX10_trace 18 = .ok (.aload_n 0, 1) := by decide +kernel
theorem dX10_trace_19 : decode cX10_trace 19 = .ok (.getfield 72, 3) := by decide +kernel
theorem dX10_trace_22 : decode cX10_trace 22 = .ok (.iload_n 1, 1) := by decide +kernel
theorem dX10_trace_23 : decode cX10_trace 23 = .ok (.iaload, 1) := by decide +kernel
theorem dX10_trace_24 : decode cX10_trace 24 = .ok (.goto 4, 3) := by decide +kernel
theorem dX10_trace_27 : decode cX10_trace 27 = .ok (.iconst (-1), 1) := by decide +kernel
theorem dX10_trace_28 : decode cX10_trace 28 = .ok (.ireturn, 1) := by decide +kernel
theorem dX10_isShelf_0 : decode cX10_isShelf 0 = .ok (.iload_n 0, 1) := by decide +kernel
theorem dX10_isShelf_1 : decode cX10_isShelf 1 = .ok (.i2l, 1) := by decide +kernel
theorem dX10_isShelf_2 : decode cX10_isShelf 2 = .ok (.lconst 0, 1) := by decide +kernel
theorem dX10_isShelf_3 : decode cX10_isShelf 3 = .ok (.ldc2_w 129, 3) := by decide +kernel
theorem dX10_isShelf_6 : decode cX10_isShelf 6 = .ok (.invokestatic 101, 3) := by decide +kernel
theorem dX10_isShelf_9 : decode cX10_isShelf 9 = .ok (.ireturn, 1) := by decide +kernel
theorem dX10_keep_0 : decode cX10_keep 0 = .ok (.iload_n 1, 1) := by decide +kernel
theorem dX10_keep_1 : decode cX10_keep 1 = .ok (.invokestatic 125, 3) := by decide +kernel
theorem dX10_keep_4 : decode cX10_keep 4 = .ok (.ifCond .eq 16, 3) := by decide +kernel
theorem dX10_keep_7 : decode cX10_keep 7 = .ok (.iload_n 2, 1) := by decide +kernel
theorem dX10_keep_8 : decode cX10_keep 8 = .ok (.iconst (-1), 1) := by decide +kernel
theorem dX10_keep_9 : decode cX10_keep 9 = .ok (.if_icmp .eq 13, 3) := by decide +kernel
theorem dX10_keep_12 : decode cX10_keep 12 = .ok (.aload_n 0, 1) := by decide +kernel
theorem dX10_keep_13 : decode cX10_keep 13 = .ok (.iload_n 2, 1) := by decide +kernel
theorem dX10_keep_14 : decode cX10_keep 14 = .ok (.invokevirtual 361, 3) := by decide +kernel
theorem dX10_keep_17 : decode cX10_keep 17 = .ok (.ifCond .ne 5, 3) := by decide +kernel
theorem dX10_keep_20 : decode cX10_keep 20 = .ok (.iconst (-1), 1) := by decide +kernel
theorem dX10_keep_21 : decode cX10_keep 21 = .ok (.ireturn, 1) := by decide +kernel
theorem dX10_keep_22 : decode cX10_keep 22 = .ok (.aload_n 0, 1) := by decide +kernel
theorem dX10_keep_23 : decode cX10_keep 23 = .ok (.getfield 75, 3) := by decide +kernel
theorem dX10_keep_26 : decode cX10_keep 26 = .ok (.iload_n 1, 1) := by decide +kernel
theorem dX10_keep_27 : decode cX10_keep 27 = .ok (.iload_n 2, 1) := by decide +kernel
theorem dX10_keep_28 : decode cX10_keep 28 = .ok (.iastore, 1) := by decide +kernel
theorem dX10_keep_29 : decode cX10_keep 29 = .ok (.aload_n 0, 1) := by decide +kernel
theorem dX10_keep_30 : decode cX10_keep 30 = .ok (.getfield 78, 3) := by decide +kernel
theorem dX10_keep_33 : decode cX10_keep 33 = .ok (.iload_n 1, 1) := by decide +kernel
theorem dX10_keep_34 : decode cX10_keep 34 = .ok (.iconst 0, 1) := by decide +kernel
theorem dX10_keep_35 : decode cX10_keep 35 = .ok (.iastore, 1) := by decide +kernel
theorem dX10_keep_36 : decode cX10_keep 36 = .ok (.iconst 1, 1) := by decide +kernel
theorem dX10_keep_37 : decode cX10_keep 37 = .ok (.ireturn, 1) := by decide +kernel
theorem dX10_row_0 : decode cX10_row 0 = .ok (.iload_n 1, 1) := by decide +kernel
theorem dX10_row_1 : decode cX10_row 1 = .ok (.invokestatic 125, 3) := by decide +kernel
theorem dX10_row_4 : decode cX10_row 4 = .ok (.ifCond .eq 21, 3) := by decide +kernel
theorem dX10_row_7 : decode cX10_row 7 = .ok (.iload_n 2, 1) := by decide +kernel
theorem dX10_row_8 : decode cX10_row 8 = .ok (.i2l, 1) := by decide +kernel
theorem dX10_row_9 : decode cX10_row 9 = .ok (.lconst 0, 1) := by decide +kernel
theorem dX10_row_10 : decode cX10_row 10 = .ok (.ldc2_w 116, 3) := by decide +kernel
theorem dX10_row_13 : decode cX10_row 13 = .ok (.invokestatic 101, 3) := by decide +kernel
theorem dX10_row_16 : decode cX10_row 16 = .ok (.ifCond .eq 9, 3) := by decide +kernel
theorem dX10_row_19 : decode cX10_row 19 = .ok (.iload_n 3, 1) := by decide +kernel
theorem dX10_row_20 : decode cX10_row 20 = .ok (.bipush 60, 2) := by decide +kernel
theorem dX10_row_22 : decode cX10_row 22 = .ok (.if_icmp .le 5, 3) := by decide +kernel
theorem dX10_row_25 : decode cX10_row 25 = .ok (.iconst (-1), 1) := by decide +kernel
theorem dX10_row_26 : decode cX10_row 26 = .ok (.ireturn, 1) := by decide +kernel
theorem dX10_row_27 : decode cX10_row 27 = .ok (.iload_n 3, 1) := by decide +kernel
theorem dX10_row_28 : decode cX10_row 28 = .ok (.ifCond .ge 6, 3) := by decide +kernel
theorem dX10_row_31 : decode cX10_row 31 = .ok (.bipush (-14), 2) := by decide +kernel
theorem dX10_row_33 : decode cX10_row 33 = .ok (.ireturn, 1) := by decide +kernel
theorem dX10_row_34 : decode cX10_row 34 = .ok (.aload_n 0, 1) := by decide +kernel
theorem dX10_row_35 : decode cX10_row 35 = .ok (.getfield 75, 3) := by decide +kernel
theorem dX10_row_38 : decode cX10_row 38 = .ok (.iload_n 1, 1) := by decide +kernel
theorem dX10_row_39 : decode cX10_row 39 = .ok (.bipush 50, 2) := by decide +kernel
theorem dX10_row_41 : decode cX10_row 41 = .ok (.iload_n 2, 1) := by decide +kernel
theorem dX10_row_42 : decode cX10_row 42 = .ok (.iadd, 1) := by decide +kernel
theorem dX10_row_43 : decode cX10_row 43 = .ok (.iastore, 1) := by decide +kernel
theorem dX10_row_44 : decode cX10_row 44 = .ok (.aload_n 0, 1) := by decide +kernel
theorem dX10_row_45 : decode cX10_row 45 = .ok (.getfield 78, 3) := by decide +kernel
theorem dX10_row_48 : decode cX10_row 48 = .ok (.iload_n 1, 1) := by decide +kernel
theorem dX10_row_49 : decode cX10_row 49 = .ok (.iload_n 3, 1) := by decide +kernel
theorem dX10_row_50 : decode cX10_row 50 = .ok (.iastore, 1) := by decide +kernel
theorem dX10_row_51 : decode cX10_row 51 = .ok (.bipush 60, 2) := by decide +kernel
theorem dX10_row_53 : decode cX10_row 53 = .ok (.iload_n 1, 1) := by decide +kernel
theorem dX10_row_54 : decode cX10_row 54 = .ok (.imul, 1) := by decide +kernel
theorem dX10_row_55 : decode cX10_row 55 = .ok (.istore 4, 2) := by decide +kernel
theorem dX10_row_57 : decode cX10_row 57 = .ok (.iload 4, 2) := by decide +kernel
theorem dX10_row_59 : decode cX10_row 59 = .ok (.bipush 60, 2) := by decide +kernel
theorem dX10_row_61 : decode cX10_row 61 = .ok (.iload_n 1, 1) := by decide +kernel
theorem dX10_row_62 : decode cX10_row 62 = .ok (.imul, 1) := by decide +kernel
theorem dX10_row_63 : decode cX10_row 63 = .ok (.bipush 60, 2) := by decide +kernel
theorem dX10_row_65 : decode cX10_row 65 = .ok (.iadd, 1) := by decide +kernel
theorem dX10_row_66 : decode cX10_row 66 = .ok (.if_icmp .ge 17, 3) := by decide +kernel
theorem dX10_row_69 : decode cX10_row 69 = .ok (.aload_n 0, 1) := by decide +kernel
theorem dX10_row_70 : decode cX10_row 70 = .ok (.getfield 81, 3) := by decide +kernel
theorem dX10_row_73 : decode cX10_row 73 = .ok (.iload 4, 2) := by decide +kernel
theorem dX10_row_75 : decode cX10_row 75 = .ok (.lconst 0, 1) := by decide +kernel
theorem dX10_row_76 : decode cX10_row 76 = .ok (.lastore, 1) := by decide +kernel
theorem dX10_row_77 : decode cX10_row 77 = .ok (.iinc 4 1, 3) := by decide +kernel
theorem dX10_row_80 : decode cX10_row 80 = .ok (.goto (-23), 3) := by decide +kernel
theorem dX10_row_83 : decode cX10_row 83 = .ok (.iconst 1, 1) := by decide +kernel
theorem dX10_row_84 : decode cX10_row 84 = .ok (.ireturn, 1) := by decide +kernel
theorem dX10_refusal_0 : decode cX10_refusal 0 = .ok (.iload_n 1, 1) := by decide +kernel
theorem dX10_refusal_1 : decode cX10_refusal 1 = .ok (.invokestatic 125, 3) := by decide +kernel
theorem dX10_refusal_4 : decode cX10_refusal 4 = .ok (.ifCond .ne 5, 3) := by decide +kernel
theorem dX10_refusal_7 : decode cX10_refusal 7 = .ok (.iconst (-1), 1) := by decide +kernel
theorem dX10_refusal_8 : decode cX10_refusal 8 = .ok (.ireturn, 1) := by decide +kernel
theorem dX10_refusal_9 : decode cX10_refusal 9 = .ok (.aload_n 0, 1) := by decide +kernel
theorem dX10_refusal_10 : decode cX10_refusal 10 = .ok (.getfield 75, 3) := by decide +kernel
theorem dX10_refusal_13 : decode cX10_refusal 13 = .ok (.iload_n 1, 1) := by decide +kernel
theorem dX10_refusal_14 : decode cX10_refusal 14 = .ok (.iaload, 1) := by decide +kernel
theorem dX10_refusal_15 : decode cX10_refusal 15 = .ok (.ifCond .ge 6, 3) := by decide +kernel
theorem dX10_refusal_18 : decode cX10_refusal 18 = .ok (.bipush (-11), 2) := by decide +kernel
theorem dX10_refusal_20 : decode cX10_refusal 20 = .ok (.ireturn, 1) := by decide +kernel
theorem dX10_refusal_21 : decode cX10_refusal 21 = .ok (.aload_n 0, 1) := by decide +kernel
theorem dX10_refusal_22 : decode cX10_refusal 22 = .ok (.getfield 75, 3) := by decide +kernel
theorem dX10_refusal_25 : decode cX10_refusal 25 = .ok (.iload_n 1, 1) := by decide +kernel
theorem dX10_refusal_26 : decode cX10_refusal 26 = .ok (.iaload, 1) := by decide +kernel
theorem dX10_refusal_27 : decode cX10_refusal 27 = .ok (.bipush 50, 2) := by decide +kernel
theorem dX10_refusal_29 : decode cX10_refusal 29 = .ok (.if_icmp .ge 6, 3) := by decide +kernel
theorem dX10_refusal_32 : decode cX10_refusal 32 = .ok (.bipush (-12), 2) := by decide +kernel
theorem dX10_refusal_34 : decode cX10_refusal 34 = .ok (.ireturn, 1) := by decide +kernel
theorem dX10_refusal_35 : decode cX10_refusal 35 = .ok (.iload_n 2, 1) := by decide +kernel
theorem dX10_refusal_36 : decode cX10_refusal 36 = .ok (.ifCond .lt 17, 3) := by decide +kernel
theorem dX10_refusal_39 : decode cX10_refusal 39 = .ok (.iload_n 2, 1) := by decide +kernel
theorem dX10_refusal_40 : decode cX10_refusal 40 = .ok (.aload_n 0, 1) := by decide +kernel
theorem dX10_refusal_41 : decode cX10_refusal 41 = .ok (.getfield 78, 3) := by decide +kernel
theorem dX10_refusal_44 : decode cX10_refusal 44 = .ok (.iload_n 1, 1) := by decide +kernel
theorem dX10_refusal_45 : decode cX10_refusal 45 = .ok (.iaload, 1) := by decide +kernel
theorem dX10_refusal_46 : decode cX10_refusal 46 = .ok (.if_icmp .ge 7, 3) := by decide +kernel
theorem dX10_refusal_49 : decode cX10_refusal 49 = .ok (.iconst 0, 1) := by decide +kernel
theorem dX10_refusal_50 : decode cX10_refusal 50 = .ok (.goto 5, 3) := by decide +kernel
theorem dX10_refusal_53 : decode cX10_refusal 53 = .ok (.bipush (-13), 2) := by decide +kernel
theorem dX10_refusal_55 : decode cX10_refusal 55 = .ok (.ireturn, 1) := by decide +kernel
theorem dX10_asSort_0 : decode cX10_asSort 0 = .ok (.iload_n 0, 1) := by decide +kernel
theorem dX10_asSort_1 : decode cX10_asSort 1 = .ok (.ifCond .ne 10, 3) := by decide +kernel
theorem dX10_asSort_4 : decode cX10_asSort 4 = .ok (.lload_n 1, 1) := by decide +kernel
theorem dX10_asSort_5 : decode cX10_asSort 5 = .ok (.l2i, 1) := by decide +kernel
theorem dX10_asSort_6 : decode cX10_asSort 6 = .ok (.i2b, 1) := by decide +kernel
theorem dX10_asSort_7 : decode cX10_asSort 7 = .ok (.i2l, 1) := by decide +kernel
theorem dX10_asSort_8 : decode cX10_asSort 8 = .ok (.goto 46, 3) := by decide +kernel
theorem dX10_asSort_11 : decode cX10_asSort 11 = .ok (.iload_n 0, 1) := by decide +kernel
theorem dX10_asSort_12 : decode cX10_asSort 12 = .ok (.iconst 1, 1) := by decide +kernel
theorem dX10_asSort_13 : decode cX10_asSort 13 = .ok (.if_icmp .ne 10, 3) := by decide +kernel
theorem dX10_asSort_16 : decode cX10_asSort 16 = .ok (.lload_n 1, 1) := by decide +kernel
theorem dX10_asSort_17 : decode cX10_asSort 17 = .ok (.l2i, 1) := by decide +kernel
theorem dX10_asSort_18 : decode cX10_asSort 18 = .ok (.i2s, 1) := by decide +kernel
theorem dX10_asSort_19 : decode cX10_asSort 19 = .ok (.i2l, 1) := by decide +kernel
theorem dX10_asSort_20 : decode cX10_asSort 20 = .ok (.goto 34, 3) := by decide +kernel
theorem dX10_asSort_23 : decode cX10_asSort 23 = .ok (.iload_n 0, 1) := by decide +kernel
theorem dX10_asSort_24 : decode cX10_asSort 24 = .ok (.iconst 2, 1) := by decide +kernel
theorem dX10_asSort_25 : decode cX10_asSort 25 = .ok (.if_icmp .ne 9, 3) := by decide +kernel
theorem dX10_asSort_28 : decode cX10_asSort 28 = .ok (.lload_n 1, 1) := by decide +kernel
theorem dX10_asSort_29 : decode cX10_asSort 29 = .ok (.l2i, 1) := by decide +kernel
theorem dX10_asSort_30 : decode cX10_asSort 30 = .ok (.i2l, 1) := by decide +kernel
theorem dX10_asSort_31 : decode cX10_asSort 31 = .ok (.goto 23, 3) := by decide +kernel
theorem dX10_asSort_34 : decode cX10_asSort 34 = .ok (.iload_n 0, 1) := by decide +kernel
theorem dX10_asSort_35 : decode cX10_asSort 35 = .ok (.iconst 4, 1) := by decide +kernel
theorem dX10_asSort_36 : decode cX10_asSort 36 = .ok (.if_icmp .ne 17, 3) := by decide +kernel
theorem dX10_asSort_39 : decode cX10_asSort 39 = .ok (.lload_n 1, 1) := by decide +kernel
theorem dX10_asSort_40 : decode cX10_asSort 40 = .ok (.lconst 0, 1) := by decide +kernel
theorem dX10_asSort_41 : decode cX10_asSort 41 = .ok (.lcmp, 1) := by decide +kernel
theorem dX10_asSort_42 : decode cX10_asSort 42 = .ok (.ifCond .eq 7, 3) := by decide +kernel
theorem dX10_asSort_45 : decode cX10_asSort 45 = .ok (.lconst 1, 1) := by decide +kernel
theorem dX10_asSort_46 : decode cX10_asSort 46 = .ok (.goto 8, 3) := by decide +kernel
theorem dX10_asSort_49 : decode cX10_asSort 49 = .ok (.lconst 0, 1) := by decide +kernel
theorem dX10_asSort_50 : decode cX10_asSort 50 = .ok (.goto 4, 3) := by decide +kernel
theorem dX10_asSort_53 : decode cX10_asSort 53 = .ok (.lload_n 1, 1) := by decide +kernel
theorem dX10_asSort_54 : decode cX10_asSort 54 = .ok (.lreturn, 1) := by decide +kernel
theorem dX10_put_0 : decode cX10_put 0 = .ok (.aload_n 0, 1) := by decide +kernel
theorem dX10_put_1 : decode cX10_put 1 = .ok (.iload_n 1, 1) := by decide +kernel
theorem dX10_put_2 : decode cX10_put 2 = .ok (.iload_n 2, 1) := by decide +kernel
theorem dX10_put_3 : decode cX10_put 3 = .ok (.invokevirtual 364, 3) := by decide +kernel
theorem dX10_put_6 : decode cX10_put 6 = .ok (.istore 5, 2) := by decide +kernel
theorem dX10_put_8 : decode cX10_put 8 = .ok (.iload 5, 2) := by decide +kernel
theorem dX10_put_10 : decode cX10_put 10 = .ok (.ifCond .ne 27, 3) := by decide +kernel
theorem dX10_put_13 : decode cX10_put 13 = .ok (.aload_n 0, 1) := by decide +kernel
theorem dX10_put_14 : decode cX10_put 14 = .ok (.getfield 81, 3) := by decide +kernel
theorem dX10_put_17 : decode cX10_put 17 = .ok (.bipush 60, 2) := by decide +kernel
theorem dX10_put_19 : decode cX10_put 19 = .ok (.iload_n 1, 1) := by decide +kernel
theorem dX10_put_20 : decode cX10_put 20 = .ok (.imul, 1) := by decide +kernel
theorem dX10_put_21 : decode cX10_put 21 = .ok (.iload_n 2, 1) := by decide +kernel
theorem dX10_put_22 : decode cX10_put 22 = .ok (.iadd, 1) := by decide +kernel
theorem dX10_put_23 : decode cX10_put 23 = .ok (.aload_n 0, 1) := by decide +kernel
theorem dX10_put_24 : decode cX10_put 24 = .ok (.getfield 75, 3) := by decide +kernel
theorem dX10_put_27 : decode cX10_put 27 = .ok (.iload_n 1, 1) := by decide +kernel
theorem dX10_put_28 : decode cX10_put 28 = .ok (.iaload, 1) := by decide +kernel
theorem dX10_put_29 : decode cX10_put 29 = .ok (.bipush 50, 2) := by decide +kernel
theorem dX10_put_31 : decode cX10_put 31 = .ok (.isub, 1) := by decide +kernel
theorem dX10_put_32 : decode cX10_put 32 = .ok (.lload_n 3, 1) := by decide +kernel
theorem dX10_put_33 : decode cX10_put 33 = .ok (.invokestatic 367, 3) := by decide +kernel
theorem dX10_put_36 : decode cX10_put 36 = .ok (.lastore, 1) := by decide +kernel
theorem dX10_put_37 : decode cX10_put 37 = .ok (.iload 5, 2) := by decide +kernel
theorem dX10_put_39 : decode cX10_put 39 = .ok (.ifCond .ne 7, 3) := by decide +kernel
theorem dX10_put_42 : decode cX10_put 42 = .ok (.iconst 1, 1) := by decide +kernel
theorem dX10_put_43 : decode cX10_put 43 = .ok (.goto 5, 3) := by decide +kernel
theorem dX10_put_46 : decode cX10_put 46 = .ok (.iload 5, 2) := by decide +kernel
theorem dX10_put_48 : decode cX10_put 48 = .ok (.ireturn, 1) := by decide +kernel
theorem dX10_element_0 : decode cX10_element 0 = .ok (.aload_n 0, 1) := by decide +kernel
theorem dX10_element_1 : decode cX10_element 1 = .ok (.iload_n 1, 1) := by decide +kernel
theorem dX10_element_2 : decode cX10_element 2 = .ok (.iload_n 2, 1) := by decide +kernel
theorem dX10_element_3 : decode cX10_element 3 = .ok (.invokevirtual 364, 3) := by decide +kernel
theorem dX10_element_6 : decode cX10_element 6 = .ok (.ifCond .eq 9, 3) := by decide +kernel
theorem dX10_element_9 : decode cX10_element 9 = .ok (.ldc2_w 320, 3) := by decide +kernel
theorem dX10_element_12 : decode cX10_element 12 = .ok (.goto 14, 3) := by decide +kernel
theorem dX10_element_15 : decode cX10_element 15 = .ok (.aload_n 0, 1) := by decide +kernel
theorem dX10_element_16 : decode cX10_element 16 = .ok (.getfield 81, 3) := by decide +kernel
theorem dX10_element_19 : decode cX10_element 19 = .ok (.bipush 60, 2) := by decide +kernel
theorem dX10_element_21 : decode cX10_element 21 = .ok (.iload_n 1, 1) := by decide +kernel
theorem dX10_element_22 : decode cX10_element 22 = .ok (.imul, 1) := by decide +kernel
theorem dX10_element_23 : decode cX10_element 23 = .ok (.iload_n 2, 1) := by decide +kernel
theorem dX10_element_24 : decode cX10_element 24 = .ok (.iadd, 1) := by decide +kernel
theorem dX10_element_25 : decode cX10_element 25 = .ok (.laload, 1) := by decide +kernel
theorem dX10_element_26 : decode cX10_element 26 = .ok (.lreturn, 1) := by decide +kernel
theorem dX10_shift_0 : decode cX10_shift 0 = .ok (.iload_n 1, 1) := by decide +kernel
theorem dX10_shift_1 : decode cX10_shift 1 = .ok (.invokestatic 125, 3) := by decide +kernel
theorem dX10_shift_4 : decode cX10_shift 4 = .ok (.ifCond .eq 10, 3) := by decide +kernel
theorem dX10_shift_7 : decode cX10_shift 7 = .ok (.iload_n 3, 1) := by decide +kernel
theorem dX10_shift_8 : decode cX10_shift 8 = .ok (.invokestatic 125, 3) := by decide +kernel
theorem dX10_shift_11 : decode cX10_shift 11 = .ok (.ifCond .ne 5, 3) := by decide +kernel
theorem dX10_shift_14 : decode cX10_shift 14 = .ok (.iconst (-1), 1) := by decide +kernel
theorem dX10_shift_15 : decode cX10_shift 15 = .ok (.ireturn, 1) := by decide +kernel
theorem dX10_shift_16 : decode cX10_shift 16 = .ok (.aload_n 0, 1) := by decide +kernel
theorem dX10_shift_17 : decode cX10_shift 17 = .ok (.getfield 75, 3) := by decide +kernel
theorem dX10_shift_20 : decode cX10_shift 20 = .ok (.iload_n 1, 1) := by decide +kernel
theorem dX10_shift_21 : decode cX10_shift 21 = .ok (.iaload, 1) := by decide +kernel
theorem dX10_shift_22 : decode cX10_shift 22 = .ok (.ifCond .lt 12, 3) := by decide +kernel
theorem dX10_shift_25 : decode cX10_shift 25 = .ok (.aload_n 0, 1) := by decide +kernel
theorem dX10_shift_26 : decode cX10_shift 26 = .ok (.getfield 75, 3) := by decide +kernel
theorem dX10_shift_29 : decode cX10_shift 29 = .ok (.iload_n 3, 1) := by decide +kernel
theorem dX10_shift_30 : decode cX10_shift 30 = .ok (.iaload, 1) := by decide +kernel
theorem dX10_shift_31 : decode cX10_shift 31 = .ok (.ifCond .ge 6, 3) := by decide +kernel
theorem dX10_shift_34 : decode cX10_shift 34 = .ok (.bipush (-11), 2) := by decide +kernel
theorem dX10_shift_36 : decode cX10_shift 36 = .ok (.ireturn, 1) := by decide +kernel
theorem dX10_shift_37 : decode cX10_shift 37 = .ok (.aload_n 0, 1) := by decide +kernel
theorem dX10_shift_38 : decode cX10_shift 38 = .ok (.getfield 75, 3) := by decide +kernel
theorem dX10_shift_41 : decode cX10_shift 41 = .ok (.iload_n 1, 1) := by decide +kernel
theorem dX10_shift_42 : decode cX10_shift 42 = .ok (.iaload, 1) := by decide +kernel
theorem dX10_shift_43 : decode cX10_shift 43 = .ok (.bipush 50, 2) := by decide +kernel
theorem dX10_shift_45 : decode cX10_shift 45 = .ok (.if_icmp .lt 18, 3) := by decide +kernel
theorem dX10_shift_48 : decode cX10_shift 48 = .ok (.aload_n 0, 1) := by decide +kernel
theorem dX10_shift_49 : decode cX10_shift 49 = .ok (.getfield 75, 3) := by decide +kernel
theorem dX10_shift_52 : decode cX10_shift 52 = .ok (.iload_n 1, 1) := by decide +kernel
theorem dX10_shift_53 : decode cX10_shift 53 = .ok (.iaload, 1) := by decide +kernel
theorem dX10_shift_54 : decode cX10_shift 54 = .ok (.aload_n 0, 1) := by decide +kernel
theorem dX10_shift_55 : decode cX10_shift 55 = .ok (.getfield 75, 3) := by decide +kernel
theorem dX10_shift_58 : decode cX10_shift 58 = .ok (.iload_n 3, 1) := by decide +kernel
theorem dX10_shift_59 : decode cX10_shift 59 = .ok (.iaload, 1) := by decide +kernel
theorem dX10_shift_60 : decode cX10_shift 60 = .ok (.if_icmp .eq 6, 3) := by decide +kernel
theorem dX10_shift_63 : decode cX10_shift 63 = .ok (.bipush (-12), 2) := by decide +kernel
theorem dX10_shift_65 : decode cX10_shift 65 = .ok (.ireturn, 1) := by decide +kernel
theorem dX10_shift_66 : decode cX10_shift 66 = .ok (.iload 5, 2) := by decide +kernel
theorem dX10_shift_68 : decode cX10_shift 68 = .ok (.ifCond .lt 39, 3) := by decide +kernel
theorem dX10_shift_71 : decode cX10_shift 71 = .ok (.iload_n 2, 1) := by decide +kernel
theorem dX10_shift_72 : decode cX10_shift 72 = .ok (.ifCond .lt 35, 3) := by decide +kernel
theorem dX10_shift_75 : decode cX10_shift 75 = .ok (.iload 4, 2) := by decide +kernel
theorem dX10_shift_77 : decode cX10_shift 77 = .ok (.ifCond .lt 30, 3) := by decide +kernel
theorem dX10_shift_80 : decode cX10_shift 80 = .ok (.iload_n 2, 1) := by decide +kernel
theorem dX10_shift_81 : decode cX10_shift 81 = .ok (.aload_n 0, 1) := by decide +kernel
theorem dX10_shift_82 : decode cX10_shift 82 = .ok (.getfield 78, 3) := by decide +kernel
theorem dX10_shift_85 : decode cX10_shift 85 = .ok (.iload_n 1, 1) := by decide +kernel
theorem dX10_shift_86 : decode cX10_shift 86 = .ok (.iaload, 1) := by decide +kernel
theorem dX10_shift_87 : decode cX10_shift 87 = .ok (.iload 5, 2) := by decide +kernel
theorem dX10_shift_89 : decode cX10_shift 89 = .ok (.isub, 1) := by decide +kernel
theorem dX10_shift_90 : decode cX10_shift 90 = .ok (.if_icmp .gt 17, 3) := by decide +kernel
theorem dX10_shift_93 : decode cX10_shift 93 = .ok (.iload 4, 2) := by decide +kernel
theorem dX10_shift_95 : decode cX10_shift 95 = .ok (.aload_n 0, 1) := by decide +kernel
theorem dX10_shift_96 : decode cX10_shift 96 = .ok (.getfield 78, 3) := by decide +kernel
theorem dX10_shift_99 : decode cX10_shift 99 = .ok (.iload_n 3, 1) := by decide +kernel
theorem dX10_shift_100 : decode cX10_shift 100 = .ok (.iaload, 1) := by decide +kernel
theorem dX10_shift_101 : decode cX10_shift 101 = .ok (.iload 5, 2) := by decide +kernel
theorem dX10_shift_103 : decode cX10_shift 103 = .ok (.isub, 1) := by decide +kernel
theorem dX10_shift_104 : decode cX10_shift 104 = .ok (.if_icmp .le 6, 3) := by decide +kernel
theorem dX10_shift_107 : decode cX10_shift 107 = .ok (.bipush (-13), 2) := by decide +kernel
theorem dX10_shift_109 : decode cX10_shift 109 = .ok (.ireturn, 1) := by decide +kernel
theorem dX10_shift_110 : decode cX10_shift 110 = .ok (.iconst 0, 1) := by decide +kernel
theorem dX10_shift_111 : decode cX10_shift 111 = .ok (.istore 6, 2) := by decide +kernel
theorem dX10_shift_113 : decode cX10_shift 113 = .ok (.iload 6, 2) := by decide +kernel
theorem dX10_shift_115 : decode cX10_shift 115 = .ok (.iload 5, 2) := by decide +kernel
theorem dX10_shift_117 : decode cX10_shift 117 = .ok (.if_icmp .ge 30, 3) := by decide +kernel
theorem dX10_shift_120 : decode cX10_shift 120 = .ok (.aload_n 0, 1) := by decide +kernel
theorem dX10_shift_121 : decode cX10_shift 121 = .ok (.getfield 85, 3) := by decide +kernel
theorem dX10_shift_124 : decode cX10_shift 124 = .ok (.iload 6, 2) := by decide +kernel
theorem dX10_shift_126 : decode cX10_shift 126 = .ok (.aload_n 0, 1) := by decide +kernel
theorem dX10_shift_127 : decode cX10_shift 127 = .ok (.getfield 81, 3) := by decide +kernel
theorem dX10_shift_130 : decode cX10_shift 130 = .ok (.bipush 60, 2) := by decide +kernel
theorem dX10_shift_132 : decode cX10_shift 132 = .ok (.iload_n 1, 1) := by decide +kernel
theorem dX10_shift_133 : decode cX10_shift 133 = .ok (.imul, 1) := by decide +kernel
theorem dX10_shift_134 : decode cX10_shift 134 = .ok (.iload_n 2, 1) := by decide +kernel
theorem dX10_shift_135 : decode cX10_shift 135 = .ok (.iadd, 1) := by decide +kernel
theorem dX10_shift_136 : decode cX10_shift 136 = .ok (.iload 6, 2) := by decide +kernel
theorem dX10_shift_138 : decode cX10_shift 138 = .ok (.iadd, 1) := by decide +kernel
theorem dX10_shift_139 : decode cX10_shift 139 = .ok (.laload, 1) := by decide +kernel
theorem dX10_shift_140 : decode cX10_shift 140 = .ok (.lastore, 1) := by decide +kernel
theorem dX10_shift_141 : decode cX10_shift 141 = .ok (.iinc 6 1, 3) := by decide +kernel
theorem dX10_shift_144 : decode cX10_shift 144 = .ok (.goto (-31), 3) := by decide +kernel
theorem dX10_shift_147 : decode cX10_shift 147 = .ok (.iconst 0, 1) := by decide +kernel
theorem dX10_shift_148 : decode cX10_shift 148 = .ok (.istore 6, 2) := by decide +kernel
theorem dX10_shift_150 : decode cX10_shift 150 = .ok (.iload 6, 2) := by decide +kernel
theorem dX10_shift_152 : decode cX10_shift 152 = .ok (.iload 5, 2) := by decide +kernel
theorem dX10_shift_154 : decode cX10_shift 154 = .ok (.if_icmp .ge 31, 3) := by decide +kernel
theorem dX10_shift_157 : decode cX10_shift 157 = .ok (.aload_n 0, 1) := by decide +kernel
theorem dX10_shift_158 : decode cX10_shift 158 = .ok (.getfield 81, 3) := by decide +kernel
theorem dX10_shift_161 : decode cX10_shift 161 = .ok (.bipush 60, 2) := by decide +kernel
theorem dX10_shift_163 : decode cX10_shift 163 = .ok (.iload_n 3, 1) := by decide +kernel
theorem dX10_shift_164 : decode cX10_shift 164 = .ok (.imul, 1) := by decide +kernel
theorem dX10_shift_165 : decode cX10_shift 165 = .ok (.iload 4, 2) := by decide +kernel
theorem dX10_shift_167 : decode cX10_shift 167 = .ok (.iadd, 1) := by decide +kernel
theorem dX10_shift_168 : decode cX10_shift 168 = .ok (.iload 6, 2) := by decide +kernel
theorem dX10_shift_170 : decode cX10_shift 170 = .ok (.iadd, 1) := by decide +kernel
theorem dX10_shift_171 : decode cX10_shift 171 = .ok (.aload_n 0, 1) := by decide +kernel
theorem dX10_shift_172 : decode cX10_shift 172 = .ok (.getfield 85, 3) := by decide +kernel
theorem dX10_shift_175 : decode cX10_shift 175 = .ok (.iload 6, 2) := by decide +kernel
theorem dX10_shift_177 : decode cX10_shift 177 = .ok (.laload, 1) := by decide +kernel
theorem dX10_shift_178 : decode cX10_shift 178 = .ok (.lastore, 1) := by decide +kernel
theorem dX10_shift_179 : decode cX10_shift 179 = .ok (.iinc 6 1, 3) := by decide +kernel
theorem dX10_shift_182 : decode cX10_shift 182 = .ok (.goto (-32), 3) := by decide +kernel
theorem dX10_shift_185 : decode cX10_shift 185 = .ok (.iload 5, 2) := by decide +kernel
theorem dX10_shift_187 : decode cX10_shift 187 = .ok (.ireturn, 1) := by decide +kernel
theorem dX10_taken_0 : decode cX10_taken 0 = .ok (.iload_n 1, 1) := by decide +kernel
theorem dX10_taken_1 : decode cX10_taken 1 = .ok (.invokestatic 125, 3) := by decide +kernel
theorem dX10_taken_4 : decode cX10_taken 4 = .ok (.ifCond .eq 15, 3) := by decide +kernel
theorem dX10_taken_7 : decode cX10_taken 7 = .ok (.iload_n 2, 1) := by decide +kernel
theorem dX10_taken_8 : decode cX10_taken 8 = .ok (.i2l, 1) := by decide +kernel
theorem dX10_taken_9 : decode cX10_taken 9 = .ok (.lconst 0, 1) := by decide +kernel
theorem dX10_taken_10 : decode cX10_taken 10 = .ok (.ldc2_w 143, 3) := by decide +kernel
theorem dX10_taken_13 : decode cX10_taken 13 = .ok (.invokestatic 101, 3) := by decide +kernel
theorem dX10_taken_16 : decode cX10_taken 16 = .ok (.ifCond .ne 5, 3) := by decide +kernel
theorem dX10_taken_19 : decode cX10_taken 19 = .ok (.iconst (-1), 1) := by decide +kernel
theorem dX10_taken_20 : decode cX10_taken 20 = .ok (.ireturn, 1) := by decide +kernel
theorem dX10_taken_21 : decode cX10_taken 21 = .ok (.aload_n 0, 1) := by decide +kernel
theorem dX10_taken_22 : decode cX10_taken 22 = .ok (.getfield 75, 3) := by decide +kernel
theorem dX10_taken_25 : decode cX10_taken 25 = .ok (.iload_n 1, 1) := by decide +kernel
theorem dX10_taken_26 : decode cX10_taken 26 = .ok (.iaload, 1) := by decide +kernel
theorem dX10_taken_27 : decode cX10_taken 27 = .ok (.ifCond .ge 6, 3) := by decide +kernel
theorem dX10_taken_30 : decode cX10_taken 30 = .ok (.bipush (-11), 2) := by decide +kernel
theorem dX10_taken_32 : decode cX10_taken 32 = .ok (.ireturn, 1) := by decide +kernel
theorem dX10_taken_33 : decode cX10_taken 33 = .ok (.aload_n 0, 1) := by decide +kernel
theorem dX10_taken_34 : decode cX10_taken 34 = .ok (.getfield 75, 3) := by decide +kernel
theorem dX10_taken_37 : decode cX10_taken 37 = .ok (.iload_n 1, 1) := by decide +kernel
theorem dX10_taken_38 : decode cX10_taken 38 = .ok (.iaload, 1) := by decide +kernel
theorem dX10_taken_39 : decode cX10_taken 39 = .ok (.bipush 50, 2) := by decide +kernel
theorem dX10_taken_41 : decode cX10_taken 41 = .ok (.if_icmp .lt 6, 3) := by decide +kernel
theorem dX10_taken_44 : decode cX10_taken 44 = .ok (.bipush (-12), 2) := by decide +kernel
theorem dX10_taken_46 : decode cX10_taken 46 = .ok (.ireturn, 1) := by decide +kernel
theorem dX10_taken_47 : decode cX10_taken 47 = .ok (.aload_n 0, 1) := by decide +kernel
theorem dX10_taken_48 : decode cX10_taken 48 = .ok (.aload_n 0, 1) := by decide +kernel
theorem dX10_taken_49 : decode cX10_taken 49 = .ok (.getfield 75, 3) := by decide +kernel
theorem dX10_taken_52 : decode cX10_taken 52 = .ok (.iload_n 1, 1) := by decide +kernel
theorem dX10_taken_53 : decode cX10_taken 53 = .ok (.iaload, 1) := by decide +kernel
theorem dX10_taken_54 : decode cX10_taken 54 = .ok (.invokevirtual 371, 3) := by decide +kernel
theorem dX10_taken_57 : decode cX10_taken 57 = .ok (.istore_n 3, 1) := by decide +kernel
theorem dX10_taken_58 : decode cX10_taken 58 = .ok (.iload_n 3, 1) := by decide +kernel
theorem dX10_taken_59 : decode cX10_taken 59 = .ok (.iload_n 2, 1) := by decide +kernel
theorem dX10_taken_60 : decode cX10_taken 60 = .ok (.if_icmp .eq 15, 3) := by decide +kernel
theorem dX10_taken_63 : decode cX10_taken 63 = .ok (.iload_n 3, 1) := by decide +kernel
theorem dX10_taken_64 : decode cX10_taken 64 = .ok (.ifCond .le 11, 3) := by decide +kernel
theorem dX10_taken_67 : decode cX10_taken 67 = .ok (.iload_n 3, 1) := by decide +kernel
theorem dX10_taken_68 : decode cX10_taken 68 = .ok (.invokestatic 374, 3) := by decide +kernel
theorem dX10_taken_71 : decode cX10_taken 71 = .ok (.istore_n 3, 1) := by decide +kernel
theorem dX10_taken_72 : decode cX10_taken 72 = .ok (.goto (-14), 3) := by decide +kernel
theorem dX10_taken_75 : decode cX10_taken 75 = .ok (.iload_n 3, 1) := by decide +kernel
theorem dX10_taken_76 : decode cX10_taken 76 = .ok (.iload_n 2, 1) := by decide +kernel
theorem dX10_taken_77 : decode cX10_taken 77 = .ok (.if_icmp .ne 16, 3) := by decide +kernel
theorem dX10_taken_80 : decode cX10_taken 80 = .ok (.aload_n 0, 1) := by decide +kernel
theorem dX10_taken_81 : decode cX10_taken 81 = .ok (.aload_n 0, 1) := by decide +kernel
theorem dX10_taken_82 : decode cX10_taken 82 = .ok (.getfield 75, 3) := by decide +kernel
theorem dX10_taken_85 : decode cX10_taken 85 = .ok (.iload_n 1, 1) := by decide +kernel
theorem dX10_taken_86 : decode cX10_taken 86 = .ok (.iaload, 1) := by decide +kernel
theorem dX10_taken_87 : decode cX10_taken 87 = .ok (.invokevirtual 371, 3) := by decide +kernel
theorem dX10_taken_90 : decode cX10_taken 90 = .ok (.goto 5, 3) := by decide +kernel
theorem dX10_taken_93 : decode cX10_taken 93 = .ok (.bipush (-12), 2) := by decide +kernel
theorem dX10_taken_95 : decode cX10_taken 95 = .ok (.ireturn, 1) := by decide +kernel
theorem dX10_count_0 : decode cX10_count 0 = .ok (.iload_n 1, 1) := by decide +kernel
theorem dX10_count_1 : decode cX10_count 1 = .ok (.tableswitch 72 0 5 #[39, 44, 52, 57, 62, 67], 39) := by decide +kernel
theorem dX10_count_40 : decode cX10_count 40 = .ok (.aload_n 0, 1) := by decide +kernel
theorem dX10_count_41 : decode cX10_count 41 = .ok (.getfield 109, 3) := by decide +kernel
theorem dX10_count_44 : decode cX10_count 44 = .ok (.ireturn, 1) := by decide +kernel
theorem dX10_count_45 : decode cX10_count 45 = .ok (.aload_n 0, 1) := by decide +kernel
theorem dX10_count_46 : decode cX10_count 46 = .ok (.invokevirtual 246, 3) := by decide +kernel
theorem dX10_count_49 : decode cX10_count 49 = .ok (.invokestatic 261, 3) := by decide +kernel
theorem dX10_count_52 : decode cX10_count 52 = .ok (.ireturn, 1) := by decide +kernel
theorem dX10_count_53 : decode cX10_count 53 = .ok (.aload_n 0, 1) := by decide +kernel
theorem dX10_count_54 : decode cX10_count 54 = .ok (.getfield 162, 3) := by decide +kernel
theorem dX10_count_57 : decode cX10_count 57 = .ok (.ireturn, 1) := by decide +kernel
theorem dX10_count_58 : decode cX10_count 58 = .ok (.aload_n 0, 1) := by decide +kernel
theorem dX10_count_59 : decode cX10_count 59 = .ok (.getfield 91, 3) := by decide +kernel
theorem dX10_count_62 : decode cX10_count 62 = .ok (.ireturn, 1) := by decide +kernel
theorem dX10_count_63 : decode cX10_count 63 = .ok (.aload_n 0, 1) := by decide +kernel
theorem dX10_count_64 : decode cX10_count 64 = .ok (.getfield 334, 3) := by decide +kernel
theorem dX10_count_67 : decode cX10_count 67 = .ok (.ireturn, 1) := by decide +kernel
theorem dX10_count_68 : decode cX10_count 68 = .ok (.aload_n 0, 1) := by decide +kernel
theorem dX10_count_69 : decode cX10_count 69 = .ok (.getfield 337, 3) := by decide +kernel
theorem dX10_count_72 : decode cX10_count 72 = .ok (.ireturn, 1) := by decide +kernel
theorem dX10_count_73 : decode cX10_count 73 = .ok (.iconst (-1), 1) := by decide +kernel
theorem dX10_count_74 : decode cX10_count 74 = .ok (.ireturn, 1) := by decide +kernel
