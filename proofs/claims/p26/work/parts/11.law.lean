theorem dX3_pile_0 : decode cX3_pile 0 = .ok (.aload_n 0, 1) := by decide +kernel
theorem dX3_pile_1 : decode cX3_pile 1 = .ok (.getfield 64, 3) := by decide +kernel
theorem dX3_pile_4 : decode cX3_pile 4 = .ok (.ifCond .lt 33, 3) := by decide +kernel
theorem dX3_pile_37 : decode cX3_pile 37 = .ok (.return_, 1) := by decide +kernel
theorem dX3_pile_7 : decode cX3_pile 7 = .ok (.aload_n 0, 1) := by decide +kernel
theorem dX3_pile_8 : decode cX3_pile 8 = .ok (.getfield 64, 3) := by decide +kernel
theorem dX3_pile_11 : decode cX3_pile 11 = .ok (.sipush 128, 3) := by decide +kernel
theorem dX3_pile_14 : decode cX3_pile 14 = .ok (.if_icmp .ge 23, 3) := by decide +kernel
theorem dX3_pile_17 : decode cX3_pile 17 = .ok (.aload_n 0, 1) := by decide +kernel
theorem dX3_pile_18 : decode cX3_pile 18 = .ok (.getfield 18, 3) := by decide +kernel
theorem dX3_pile_21 : decode cX3_pile 21 = .ok (.aload_n 0, 1) := by decide +kernel
theorem dX3_pile_22 : decode cX3_pile 22 = .ok (.getfield 64, 3) := by decide +kernel
theorem dX3_pile_25 : decode cX3_pile 25 = .ok (.iload_n 1, 1) := by decide +kernel
theorem dX3_pile_26 : decode cX3_pile 26 = .ok (.iastore, 1) := by decide +kernel
theorem dX3_pile_27 : decode cX3_pile 27 = .ok (.aload_n 0, 1) := by decide +kernel
theorem dX3_pile_28 : decode cX3_pile 28 = .ok (.dup, 1) := by decide +kernel
theorem dX3_pile_29 : decode cX3_pile 29 = .ok (.getfield 64, 3) := by decide +kernel
theorem dX3_pile_32 : decode cX3_pile 32 = .ok (.iconst 1, 1) := by decide +kernel
theorem dX3_pile_33 : decode cX3_pile 33 = .ok (.iadd, 1) := by decide +kernel
theorem dX3_pile_34 : decode cX3_pile 34 = .ok (.putfield 64, 3) := by decide +kernel
theorem dX3_unpile_0 : decode cX3_unpile 0 = .ok (.aload_n 0, 1) := by decide +kernel
theorem dX3_unpile_1 : decode cX3_unpile 1 = .ok (.getfield 64, 3) := by decide +kernel
theorem dX3_unpile_4 : decode cX3_unpile 4 = .ok (.ifCond .le 13, 3) := by decide +kernel
theorem dX3_unpile_17 : decode cX3_unpile 17 = .ok (.iconst 0, 1) := by decide +kernel
theorem dX3_unpile_18 : decode cX3_unpile 18 = .ok (.ireturn, 1) := by decide +kernel
theorem dX3_unpile_7 : decode cX3_unpile 7 = .ok (.aload_n 0, 1) := by decide +kernel
theorem dX3_unpile_8 : decode cX3_unpile 8 = .ok (.getfield 64, 3) := by decide +kernel
theorem dX3_unpile_11 : decode cX3_unpile 11 = .ok (.sipush 128, 3) := by decide +kernel
theorem dX3_unpile_14 : decode cX3_unpile 14 = .ok (.if_icmp .le 5, 3) := by decide +kernel
theorem dX3_unpile_19 : decode cX3_unpile 19 = .ok (.aload_n 0, 1) := by decide +kernel
theorem dX3_unpile_20 : decode cX3_unpile 20 = .ok (.dup, 1) := by decide +kernel
theorem dX3_unpile_21 : decode cX3_unpile 21 = .ok (.getfield 64, 3) := by decide +kernel
theorem dX3_unpile_24 : decode cX3_unpile 24 = .ok (.iconst 1, 1) := by decide +kernel
theorem dX3_unpile_25 : decode cX3_unpile 25 = .ok (.isub, 1) := by decide +kernel
theorem dX3_unpile_26 : decode cX3_unpile 26 = .ok (.putfield 64, 3) := by decide +kernel
theorem dX3_unpile_29 : decode cX3_unpile 29 = .ok (.aload_n 0, 1) := by decide +kernel
theorem dX3_unpile_30 : decode cX3_unpile 30 = .ok (.getfield 18, 3) := by decide +kernel
theorem dX3_unpile_33 : decode cX3_unpile 33 = .ok (.aload_n 0, 1) := by decide +kernel
theorem dX3_unpile_34 : decode cX3_unpile 34 = .ok (.getfield 64, 3) := by decide +kernel
theorem dX3_unpile_37 : decode cX3_unpile 37 = .ok (.iaload, 1) := by decide +kernel
theorem dX3_unpile_38 : decode cX3_unpile 38 = .ok (.ireturn, 1) := by decide +kernel
theorem dX3_joined_0 : decode cX3_joined 0 = .ok (.iload_n 0, 1) := by decide +kernel
theorem dX3_joined_1 : decode cX3_joined 1 = .ok (.lookupswitch 188 #[(37, 176), (38, 105), (42, 160), (43, 152), (45, 156), (47, 164), (60, 119), (61, 130), (62, 141), (124, 91)], 91) := by decide +kernel
theorem dX3_joined_177 : decode cX3_joined 177 = .ok (.iload_n 2, 1) := by decide +kernel
theorem dX3_joined_178 : decode cX3_joined 178 = .ok (.ifCond .ne 7, 3) := by decide +kernel
theorem dX3_joined_185 : decode cX3_joined 185 = .ok (.iload_n 1, 1) := by decide +kernel
theorem dX3_joined_186 : decode cX3_joined 186 = .ok (.iload_n 2, 1) := by decide +kernel
theorem dX3_joined_187 : decode cX3_joined 187 = .ok (.irem, 1) := by decide +kernel
theorem dX3_joined_188 : decode cX3_joined 188 = .ok (.ireturn, 1) := by decide +kernel
theorem dX3_joined_181 : decode cX3_joined 181 = .ok (.iconst 0, 1) := by decide +kernel
theorem dX3_joined_182 : decode cX3_joined 182 = .ok (.goto 6, 3) := by decide +kernel
theorem dX3_joined_106 : decode cX3_joined 106 = .ok (.iload_n 1, 1) := by decide +kernel
theorem dX3_joined_107 : decode cX3_joined 107 = .ok (.ifCond .eq 11, 3) := by decide +kernel
theorem dX3_joined_118 : decode cX3_joined 118 = .ok (.iconst 0, 1) := by decide +kernel
theorem dX3_joined_119 : decode cX3_joined 119 = .ok (.ireturn, 1) := by decide +kernel
theorem dX3_joined_110 : decode cX3_joined 110 = .ok (.iload_n 2, 1) := by decide +kernel
theorem dX3_joined_111 : decode cX3_joined 111 = .ok (.ifCond .eq 7, 3) := by decide +kernel
theorem dX3_joined_114 : decode cX3_joined 114 = .ok (.iconst 1, 1) := by decide +kernel
theorem dX3_joined_115 : decode cX3_joined 115 = .ok (.goto 4, 3) := by decide +kernel
theorem dX3_joined_161 : decode cX3_joined 161 = .ok (.iload_n 1, 1) := by decide +kernel
theorem dX3_joined_162 : decode cX3_joined 162 = .ok (.iload_n 2, 1) := by decide +kernel
theorem dX3_joined_163 : decode cX3_joined 163 = .ok (.imul, 1) := by decide +kernel
theorem dX3_joined_164 : decode cX3_joined 164 = .ok (.ireturn, 1) := by decide +kernel
theorem dX3_joined_153 : decode cX3_joined 153 = .ok (.iload_n 1, 1) := by decide +kernel
theorem dX3_joined_154 : decode cX3_joined 154 = .ok (.iload_n 2, 1) := by decide +kernel
theorem dX3_joined_155 : decode cX3_joined 155 = .ok (.iadd, 1) := by decide +kernel
theorem dX3_joined_156 : decode cX3_joined 156 = .ok (.ireturn, 1) := by decide +kernel
theorem dX3_joined_157 : decode cX3_joined 157 = .ok (.iload_n 1, 1) := by decide +kernel
theorem dX3_joined_158 : decode cX3_joined 158 = .ok (.iload_n 2, 1) := by decide +kernel
theorem dX3_joined_159 : decode cX3_joined 159 = .ok (.isub, 1) := by decide +kernel
theorem dX3_joined_160 : decode cX3_joined 160 = .ok (.ireturn, 1) := by decide +kernel
theorem dX3_joined_165 : decode cX3_joined 165 = .ok (.iload_n 2, 1) := by decide +kernel
theorem dX3_joined_166 : decode cX3_joined 166 = .ok (.ifCond .ne 7, 3) := by decide +kernel
theorem dX3_joined_173 : decode cX3_joined 173 = .ok (.iload_n 1, 1) := by decide +kernel
theorem dX3_joined_174 : decode cX3_joined 174 = .ok (.iload_n 2, 1) := by decide +kernel
theorem dX3_joined_175 : decode cX3_joined 175 = .ok (.idiv, 1) := by decide +kernel
theorem dX3_joined_176 : decode cX3_joined 176 = .ok (.ireturn, 1) := by decide +kernel
theorem dX3_joined_169 : decode cX3_joined 169 = .ok (.iconst 0, 1) := by decide +kernel
theorem dX3_joined_170 : decode cX3_joined 170 = .ok (.goto 6, 3) := by decide +kernel
theorem dX3_joined_120 : decode cX3_joined 120 = .ok (.iload_n 1, 1) := by decide +kernel
theorem dX3_joined_121 : decode cX3_joined 121 = .ok (.iload_n 2, 1) := by decide +kernel
theorem dX3_joined_122 : decode cX3_joined 122 = .ok (.if_icmp .ge 7, 3) := by decide +kernel
theorem dX3_joined_129 : decode cX3_joined 129 = .ok (.iconst 0, 1) := by decide +kernel
theorem dX3_joined_130 : decode cX3_joined 130 = .ok (.ireturn, 1) := by decide +kernel
theorem dX3_joined_125 : decode cX3_joined 125 = .ok (.iconst 1, 1) := by decide +kernel
theorem dX3_joined_126 : decode cX3_joined 126 = .ok (.goto 4, 3) := by decide +kernel
theorem dX3_joined_131 : decode cX3_joined 131 = .ok (.iload_n 1, 1) := by decide +kernel
theorem dX3_joined_132 : decode cX3_joined 132 = .ok (.iload_n 2, 1) := by decide +kernel
theorem dX3_joined_133 : decode cX3_joined 133 = .ok (.if_icmp .ne 7, 3) := by decide +kernel
theorem dX3_joined_140 : decode cX3_joined 140 = .ok (.iconst 0, 1) := by decide +kernel
theorem dX3_joined_141 : decode cX3_joined 141 = .ok (.ireturn, 1) := by decide +kernel
theorem dX3_joined_136 : decode cX3_joined 136 = .ok (.iconst 1, 1) := by decide +kernel
theorem dX3_joined_137 : decode cX3_joined 137 = .ok (.goto 4, 3) := by decide +kernel
theorem dX3_joined_142 : decode cX3_joined 142 = .ok (.iload_n 1, 1) := by decide +kernel
theorem dX3_joined_143 : decode cX3_joined 143 = .ok (.iload_n 2, 1) := by decide +kernel
theorem dX3_joined_144 : decode cX3_joined 144 = .ok (.if_icmp .le 7, 3) := by decide +kernel
theorem dX3_joined_151 : decode cX3_joined 151 = .ok (.iconst 0, 1) := by decide +kernel
theorem dX3_joined_152 : decode cX3_joined 152 = .ok (.ireturn, 1) := by decide +kernel
theorem dX3_joined_147 : decode cX3_joined 147 = .ok (.iconst 1, 1) := by decide +kernel
theorem dX3_joined_148 : decode cX3_joined 148 = .ok (.goto 4, 3) := by decide +kernel
theorem dX3_joined_92 : decode cX3_joined 92 = .ok (.iload_n 1, 1) := by decide +kernel
theorem dX3_joined_93 : decode cX3_joined 93 = .ok (.ifCond .ne 7, 3) := by decide +kernel
theorem dX3_joined_100 : decode cX3_joined 100 = .ok (.iconst 1, 1) := by decide +kernel
theorem dX3_joined_101 : decode cX3_joined 101 = .ok (.goto 4, 3) := by decide +kernel
theorem dX3_joined_105 : decode cX3_joined 105 = .ok (.ireturn, 1) := by decide +kernel
theorem dX3_joined_96 : decode cX3_joined 96 = .ok (.iload_n 2, 1) := by decide +kernel
theorem dX3_joined_97 : decode cX3_joined 97 = .ok (.ifCond .eq 7, 3) := by decide +kernel
theorem dX3_joined_104 : decode cX3_joined 104 = .ok (.iconst 0, 1) := by decide +kernel
theorem dX3_joined_189 : decode cX3_joined 189 = .ok (.iconst 0, 1) := by decide +kernel
theorem dX3_joined_190 : decode cX3_joined 190 = .ok (.ireturn, 1) := by decide +kernel
theorem dX3_withoutText_0 : decode cX3_withoutText 0 = .ok (.iload_n 0, 1) := by decide +kernel
theorem dX3_withoutText_1 : decode cX3_withoutText 1 = .ok (.iconst 2, 1) := by decide +kernel
theorem dX3_withoutText_2 : decode cX3_withoutText 2 = .ok (.if_icmp .gt 5, 3) := by decide +kernel
theorem dX3_withoutText_7 : decode cX3_withoutText 7 = .ok (.iload_n 0, 1) := by decide +kernel
theorem dX3_withoutText_8 : decode cX3_withoutText 8 = .ok (.bipush 10, 2) := by decide +kernel
theorem dX3_withoutText_10 : decode cX3_withoutText 10 = .ok (.if_icmp .lt 7, 3) := by decide +kernel
theorem dX3_withoutText_17 : decode cX3_withoutText 17 = .ok (.iconst 0, 1) := by decide +kernel
theorem dX3_withoutText_18 : decode cX3_withoutText 18 = .ok (.ireturn, 1) := by decide +kernel
theorem dX3_withoutText_13 : decode cX3_withoutText 13 = .ok (.iconst (-1), 1) := by decide +kernel
theorem dX3_withoutText_14 : decode cX3_withoutText 14 = .ok (.goto 4, 3) := by decide +kernel
theorem dX3_withoutText_5 : decode cX3_withoutText 5 = .ok (.iload_n 1, 1) := by decide +kernel
theorem dX3_withoutText_6 : decode cX3_withoutText 6 = .ok (.ireturn, 1) := by decide +kernel
theorem dX3_worth_7 : decode cX3_worth 7 = .ok (.iload_n 1, 1) := by decide +kernel
theorem dX3_worth_8 : decode cX3_worth 8 = .ok (.aload_n 0, 1) := by decide +kernel
theorem dX3_worth_9 : decode cX3_worth 9 = .ok (.getfield 24, 3) := by decide +kernel
theorem dX3_worth_12 : decode cX3_worth 12 = .ok (.if_icmp .ge 163, 3) := by decide +kernel
theorem dX3_worth_175 : decode cX3_worth 175 = .ok (.iconst 0, 1) := by decide +kernel
theorem dX3_worth_176 : decode cX3_worth 176 = .ok (.ireturn, 1) := by decide +kernel
theorem dX3_worth_15 : decode cX3_worth 15 = .ok (.aload_n 0, 1) := by decide +kernel
theorem dX3_worth_16 : decode cX3_worth 16 = .ok (.getfield 15, 3) := by decide +kernel
theorem dX3_worth_19 : decode cX3_worth 19 = .ok (.iload_n 1, 1) := by decide +kernel
theorem dX3_worth_20 : decode cX3_worth 20 = .ok (.iaload, 1) := by decide +kernel
theorem dX3_worth_21 : decode cX3_worth 21 = .ok (.istore_n 2, 1) := by decide +kernel
theorem dX3_worth_22 : decode cX3_worth 22 = .ok (.aload_n 0, 1) := by decide +kernel
theorem dX3_worth_23 : decode cX3_worth 23 = .ok (.getfield 11, 3) := by decide +kernel
theorem dX3_worth_26 : decode cX3_worth 26 = .ok (.iload_n 1, 1) := by decide +kernel
theorem dX3_worth_27 : decode cX3_worth 27 = .ok (.iaload, 1) := by decide +kernel
theorem dX3_worth_28 : decode cX3_worth 28 = .ok (.tableswitch 118 0 5 #[40, 48, 102, 97, 66, 85], 40) := by decide +kernel
theorem dX3_worth_68 : decode cX3_worth 68 = .ok (.aload_n 0, 1) := by decide +kernel
theorem dX3_worth_69 : decode cX3_worth 69 = .ok (.iload_n 2, 1) := by decide +kernel
theorem dX3_worth_70 : decode cX3_worth 70 = .ok (.invokevirtual 67, 3) := by decide +kernel
theorem dX3_worth_73 : decode cX3_worth 73 = .ok (.goto 96, 3) := by decide +kernel
theorem dX3_worth_169 : decode cX3_worth 169 = .ok (.iinc 1 1, 3) := by decide +kernel
theorem dX3_worth_172 : decode cX3_worth 172 = .ok (.goto (-165), 3) := by decide +kernel
theorem dX3_worth_76 : decode cX3_worth 76 = .ok (.aload_n 0, 1) := by decide +kernel
theorem dX3_worth_77 : decode cX3_worth 77 = .ok (.aload_n 0, 1) := by decide +kernel
theorem dX3_worth_78 : decode cX3_worth 78 = .ok (.getfield 21, 3) := by decide +kernel
theorem dX3_worth_81 : decode cX3_worth 81 = .ok (.iload_n 2, 1) := by decide +kernel
theorem dX3_worth_82 : decode cX3_worth 82 = .ok (.iconst 0, 1) := by decide +kernel
theorem dX3_worth_83 : decode cX3_worth 83 = .ok (.iconst 5, 1) := by decide +kernel
theorem dX3_worth_84 : decode cX3_worth 84 = .ok (.invokestatic 60, 3) := by decide +kernel
theorem dX3_worth_87 : decode cX3_worth 87 = .ok (.iaload, 1) := by decide +kernel
theorem dX3_worth_88 : decode cX3_worth 88 = .ok (.invokevirtual 67, 3) := by decide +kernel
theorem dX3_worth_91 : decode cX3_worth 91 = .ok (.goto 78, 3) := by decide +kernel
theorem dX3_worth_130 : decode cX3_worth 130 = .ok (.aload_n 0, 1) := by decide +kernel
theorem dX3_worth_131 : decode cX3_worth 131 = .ok (.invokevirtual 71, 3) := by decide +kernel
theorem dX3_worth_134 : decode cX3_worth 134 = .ok (.ifCond .ne 35, 3) := by decide +kernel
theorem dX3_worth_137 : decode cX3_worth 137 = .ok (.iload_n 1, 1) := by decide +kernel
theorem dX3_worth_138 : decode cX3_worth 138 = .ok (.iload_n 2, 1) := by decide +kernel
theorem dX3_worth_139 : decode cX3_worth 139 = .ok (.invokestatic 74, 3) := by decide +kernel
theorem dX3_worth_142 : decode cX3_worth 142 = .ok (.istore_n 1, 1) := by decide +kernel
theorem dX3_worth_143 : decode cX3_worth 143 = .ok (.goto 26, 3) := by decide +kernel
theorem dX3_worth_125 : decode cX3_worth 125 = .ok (.aload_n 0, 1) := by decide +kernel
theorem dX3_worth_126 : decode cX3_worth 126 = .ok (.invokevirtual 71, 3) := by decide +kernel
theorem dX3_worth_129 : decode cX3_worth 129 = .ok (.ireturn, 1) := by decide +kernel
theorem dX3_worth_94 : decode cX3_worth 94 = .ok (.aload_n 0, 1) := by decide +kernel
theorem dX3_worth_95 : decode cX3_worth 95 = .ok (.aload_n 0, 1) := by decide +kernel
theorem dX3_worth_96 : decode cX3_worth 96 = .ok (.invokevirtual 71, 3) := by decide +kernel
theorem dX3_worth_99 : decode cX3_worth 99 = .ok (.ifCond .ne 7, 3) := by decide +kernel
theorem dX3_worth_106 : decode cX3_worth 106 = .ok (.iconst 0, 1) := by decide +kernel
theorem dX3_worth_107 : decode cX3_worth 107 = .ok (.invokevirtual 67, 3) := by decide +kernel
theorem dX3_worth_110 : decode cX3_worth 110 = .ok (.goto 59, 3) := by decide +kernel
theorem dX3_worth_102 : decode cX3_worth 102 = .ok (.iconst 1, 1) := by decide +kernel
theorem dX3_worth_103 : decode cX3_worth 103 = .ok (.goto 4, 3) := by decide +kernel
theorem dX3_worth_113 : decode cX3_worth 113 = .ok (.aload_n 0, 1) := by decide +kernel
theorem dX3_worth_114 : decode cX3_worth 114 = .ok (.aload_n 0, 1) := by decide +kernel
theorem dX3_worth_115 : decode cX3_worth 115 = .ok (.invokevirtual 71, 3) := by decide +kernel
theorem dX3_worth_118 : decode cX3_worth 118 = .ok (.ineg, 1) := by decide +kernel
theorem dX3_worth_119 : decode cX3_worth 119 = .ok (.invokevirtual 67, 3) := by decide +kernel
theorem dX3_worth_122 : decode cX3_worth 122 = .ok (.goto 47, 3) := by decide +kernel
theorem dX3_worth_146 : decode cX3_worth 146 = .ok (.aload_n 0, 1) := by decide +kernel
theorem dX3_worth_147 : decode cX3_worth 147 = .ok (.invokevirtual 71, 3) := by decide +kernel
theorem dX3_worth_150 : decode cX3_worth 150 = .ok (.istore_n 3, 1) := by decide +kernel
theorem dX3_worth_151 : decode cX3_worth 151 = .ok (.aload_n 0, 1) := by decide +kernel
theorem dX3_worth_152 : decode cX3_worth 152 = .ok (.aload_n 0, 1) := by decide +kernel
theorem dX3_worth_153 : decode cX3_worth 153 = .ok (.getfield 11, 3) := by decide +kernel
theorem dX3_worth_156 : decode cX3_worth 156 = .ok (.iload_n 1, 1) := by decide +kernel
theorem dX3_worth_157 : decode cX3_worth 157 = .ok (.iaload, 1) := by decide +kernel
theorem dX3_worth_158 : decode cX3_worth 158 = .ok (.aload_n 0, 1) := by decide +kernel
theorem dX3_worth_159 : decode cX3_worth 159 = .ok (.invokevirtual 71, 3) := by decide +kernel
theorem dX3_worth_162 : decode cX3_worth 162 = .ok (.iload_n 3, 1) := by decide +kernel
theorem dX3_worth_163 : decode cX3_worth 163 = .ok (.invokestatic 79, 3) := by decide +kernel
theorem dX3_worth_166 : decode cX3_worth 166 = .ok (.invokevirtual 67, 3) := by decide +kernel
theorem dX3_worth_0 : decode cX3_worth 0 = .ok (.aload_n 0, 1) := by decide +kernel
theorem dX3_worth_1 : decode cX3_worth 1 = .ok (.iconst 0, 1) := by decide +kernel
theorem dX3_worth_2 : decode cX3_worth 2 = .ok (.putfield 64, 3) := by decide +kernel
theorem dX3_worth_5 : decode cX3_worth 5 = .ok (.iconst 0, 1) := by decide +kernel
theorem dX3_worth_6 : decode cX3_worth 6 = .ok (.istore_n 1, 1) := by decide +kernel
theorem dX3_more_0 : decode cX3_more 0 = .ok (.aload_n 1, 1) := by decide +kernel
theorem dX3_more_1 : decode cX3_more 1 = .ok (.iload_n 2, 1) := by decide +kernel
theorem dX3_more_2 : decode cX3_more 2 = .ok (.invokevirtual 34, 3) := by decide +kernel
theorem dX3_more_5 : decode cX3_more 5 = .ok (.istore 4, 2) := by decide +kernel
theorem dX3_more_7 : decode cX3_more 7 = .ok (.aload_n 0, 1) := by decide +kernel
theorem dX3_more_8 : decode cX3_more 8 = .ok (.getfield 24, 3) := by decide +kernel
theorem dX3_more_11 : decode cX3_more 11 = .ok (.ifCond .ne 10, 3) := by decide +kernel
theorem dX3_more_21 : decode cX3_more 21 = .ok (.aload_n 0, 1) := by decide +kernel
theorem dX3_more_22 : decode cX3_more 22 = .ok (.getfield 21, 3) := by decide +kernel
theorem dX3_more_25 : decode cX3_more 25 = .ok (.iconst 0, 1) := by decide +kernel
theorem dX3_more_26 : decode cX3_more 26 = .ok (.iload 4, 2) := by decide +kernel
theorem dX3_more_28 : decode cX3_more 28 = .ok (.iastore, 1) := by decide +kernel
theorem dX3_more_29 : decode cX3_more 29 = .ok (.aload_n 0, 1) := by decide +kernel
theorem dX3_more_30 : decode cX3_more 30 = .ok (.getfield 21, 3) := by decide +kernel
theorem dX3_more_33 : decode cX3_more 33 = .ok (.iconst 1, 1) := by decide +kernel
theorem dX3_more_34 : decode cX3_more 34 = .ok (.aload_n 1, 1) := by decide +kernel
theorem dX3_more_35 : decode cX3_more 35 = .ok (.invokevirtual 44, 3) := by decide +kernel
theorem dX3_more_38 : decode cX3_more 38 = .ok (.iastore, 1) := by decide +kernel
theorem dX3_more_39 : decode cX3_more 39 = .ok (.aload_n 0, 1) := by decide +kernel
theorem dX3_more_40 : decode cX3_more 40 = .ok (.getfield 21, 3) := by decide +kernel
theorem dX3_more_43 : decode cX3_more 43 = .ok (.iconst 2, 1) := by decide +kernel
theorem dX3_more_44 : decode cX3_more 44 = .ok (.aload_n 1, 1) := by decide +kernel
theorem dX3_more_45 : decode cX3_more 45 = .ok (.getfield 48, 3) := by decide +kernel
theorem dX3_more_48 : decode cX3_more 48 = .ok (.iastore, 1) := by decide +kernel
theorem dX3_more_49 : decode cX3_more 49 = .ok (.aload_n 0, 1) := by decide +kernel
theorem dX3_more_50 : decode cX3_more 50 = .ok (.getfield 21, 3) := by decide +kernel
theorem dX3_more_53 : decode cX3_more 53 = .ok (.iconst 3, 1) := by decide +kernel
theorem dX3_more_54 : decode cX3_more 54 = .ok (.aload_n 1, 1) := by decide +kernel
theorem dX3_more_55 : decode cX3_more 55 = .ok (.getfield 51, 3) := by decide +kernel
theorem dX3_more_58 : decode cX3_more 58 = .ok (.iastore, 1) := by decide +kernel
theorem dX3_more_59 : decode cX3_more 59 = .ok (.aload_n 0, 1) := by decide +kernel
theorem dX3_more_60 : decode cX3_more 60 = .ok (.getfield 21, 3) := by decide +kernel
theorem dX3_more_63 : decode cX3_more 63 = .ok (.iconst 4, 1) := by decide +kernel
theorem dX3_more_64 : decode cX3_more 64 = .ok (.iload_n 3, 1) := by decide +kernel
theorem dX3_more_65 : decode cX3_more 65 = .ok (.iastore, 1) := by decide +kernel
theorem dX3_more_66 : decode cX3_more 66 = .ok (.aload_n 0, 1) := by decide +kernel
theorem dX3_more_67 : decode cX3_more 67 = .ok (.getfield 21, 3) := by decide +kernel
theorem dX3_more_70 : decode cX3_more 70 = .ok (.iconst 5, 1) := by decide +kernel
theorem dX3_more_71 : decode cX3_more 71 = .ok (.aload_n 1, 1) := by decide +kernel
theorem dX3_more_72 : decode cX3_more 72 = .ok (.getfield 54, 3) := by decide +kernel
theorem dX3_more_75 : decode cX3_more 75 = .ok (.iastore, 1) := by decide +kernel
theorem dX3_more_76 : decode cX3_more 76 = .ok (.aload_n 0, 1) := by decide +kernel
theorem dX3_more_77 : decode cX3_more 77 = .ok (.invokevirtual 57, 3) := by decide +kernel
theorem dX3_more_80 : decode cX3_more 80 = .ok (.bipush (-9), 2) := by decide +kernel
theorem dX3_more_82 : decode cX3_more 82 = .ok (.bipush 9, 2) := by decide +kernel
theorem dX3_more_84 : decode cX3_more 84 = .ok (.invokestatic 60, 3) := by decide +kernel
theorem dX3_more_87 : decode cX3_more 87 = .ok (.ireturn, 1) := by decide +kernel
theorem dX3_more_14 : decode cX3_more 14 = .ok (.iload 4, 2) := by decide +kernel
theorem dX3_more_16 : decode cX3_more 16 = .ok (.iload_n 3, 1) := by decide +kernel
theorem dX3_more_17 : decode cX3_more 17 = .ok (.invokestatic 40, 3) := by decide +kernel
theorem dX3_more_20 : decode cX3_more 20 = .ok (.ireturn, 1) := by decide +kernel
theorem sx_within5 (v : Int32) : ∃ j : Nat, j < 6 ∧ (if 0 < (if v < 5 then v else 5) then (if v < 5 then v else 5) else 0) = nI j :=
  x_nat (N := 6) (K := 6) (by decide) (by decide) ⟨by grind, by grind⟩
theorem sx_dec {t : Int32} (h1 : ¬ t ≤ 0) (h2 : t ≤ 128) : ∃ j : Nat, j < 128 ∧ t - 1 = nI j := by
  obtain ⟨n, hn, rfl⟩ := x_natle (v := t) (N := 128) (K := 128) (by decide) (by decide) ⟨by grind, h2⟩
  match n, hn with
  | 0, _ => exact absurd (by decide) h1
  | n + 1, hn => exact ⟨n, by omega, nI_pred n⟩
theorem sx_max {k : Nat} {v : Int32} (hk : k ≤ 100000) (hv : v ≤ 100000) : ∃ j : Nat, k ≤ j ∧ j ≤ 100000 ∧ (if nI k < v then v else nI k) = nI j := by
  by_cases h : nI k < v
  · rw [if_pos h]
    obtain ⟨n, hn, rfl⟩ := x_natle (v := v) (N := 100000) (K := 100000) (by decide) (by decide) ⟨by have := nI_pos' (n := k) (by omega); grind, hv⟩
    refine ⟨n, ?_, hn, rfl⟩
    exact Nat.le_of_lt ((nI_ltI (by omega) (by omega)).mp h)
  · exact ⟨k, Nat.le_refl _, hk, if_neg h⟩
set_option maxRecDepth 100000 in
set_option maxHeartbeats 4000000 in
theorem g_X3_pile (v : Int32) {l : Launch} {G : xG} {M : xM} {J : xJ} : x_M l G fX3_pile 0 0 0 [.ref (1), .int (v)] x_SH M J (qKV WL M J (fun M2 => True)) := by
  refine xb_of pX3 (Nat.le_of_ble_eq_true rfl) rfl ?_
  refine xr_aload_n dX3_pile_0 0 rfl ?_
  refine xb_get (v := M 1 5) flX3_64 dX3_pile_1 s_1 rfl rfl ?_
  refine xr_if_lt (tgt := 37) dX3_pile_4 rfl (fun c1 => ?_) (fun c1 => ?_)
  · exact xr_vret dX3_pile_37 rfl (⟨rfl, rfl, rfl, Ke.rf, trivial⟩)
  · refine xr_aload_n dX3_pile_7 0 rfl ?_
    refine xb_get (v := M 1 5) flX3_64 dX3_pile_8 s_1 rfl rfl ?_
    refine xr_sipush (v := 128) dX3_pile_11 rfl ?_
    refine xr_icmp_ge (tgt := 37) dX3_pile_14 rfl (fun c2 => ?_) (fun c2 => ?_)
    · exact xr_vret dX3_pile_37 rfl (⟨rfl, rfl, rfl, Ke.rf, trivial⟩)
    · refine xr_aload_n dX3_pile_17 0 rfl ?_
      refine xr_getR flX3_18 dX3_pile_18 s_1 rfl ?_
      refine xr_aload_n dX3_pile_21 0 rfl ?_
      refine xb_get (v := M 1 5) flX3_64 dX3_pile_22 s_1 rfl rfl ?_
      obtain ⟨j3, hj3, ej3⟩ := x_nat (v := M 1 5) (N := 128) (K := 128) (by decide) (by decide) ⟨by grind, by grind⟩
      refine xb_top (y := nI j3) ej3 ?_
      refine xr_iload_n dX3_pile_25 1 rfl ?_
      refine xb_iast (j := j3) dX3_pile_26 s_4 hj3 (by decide) ?_
      refine xr_aload_n dX3_pile_27 0 rfl ?_
      refine xr_dup dX3_pile_28 rfl ?_
      refine xb_get (v := (x_up M 4 j3 v) 1 5) flX3_64 dX3_pile_29 s_1 rfl rfl ?_
      refine xr_iconst (v := 1) dX3_pile_32 rfl ?_
      refine xr_iadd dX3_pile_33 ?_
      refine xr_putI fpX3_64 dX3_pile_34 s_1 rfl rfl rfl ?_
      exact xr_vret dX3_pile_37 rfl (⟨rfl, rfl, rfl, (Ke.up (Or.inr (by omega)) (Ke.up (Or.inl (by omega)) Ke.rf)), trivial⟩)
set_option maxRecDepth 100000 in
set_option maxHeartbeats 4000000 in
theorem g_X3_unpile {l : Launch} {G : xG} {M : xM} {J : xJ} : x_M l G fX3_unpile 0 0 0 [.ref (1)] x_SH M J (qKI WL M J (fun r M2 => True)) := by
  refine xb_of pX3 (Nat.le_of_ble_eq_true rfl) rfl ?_
  refine xr_aload_n dX3_unpile_0 0 rfl ?_
  refine xb_get (v := M 1 5) flX3_64 dX3_unpile_1 s_1 rfl rfl ?_
  refine xr_if_le (tgt := 17) dX3_unpile_4 rfl (fun c1 => ?_) (fun c1 => ?_)
  · refine xr_iconst (v := 0) dX3_unpile_17 rfl ?_
    exact xr_iret dX3_unpile_18 rfl rfl (⟨_, rfl, rfl, rfl, Ke.rf, trivial⟩)
  · refine xr_aload_n dX3_unpile_7 0 rfl ?_
    refine xb_get (v := M 1 5) flX3_64 dX3_unpile_8 s_1 rfl rfl ?_
    refine xr_sipush (v := 128) dX3_unpile_11 rfl ?_
    refine xr_icmp_le (tgt := 19) dX3_unpile_14 rfl (fun c2 => ?_) (fun c2 => ?_)
    · refine xr_aload_n dX3_unpile_19 0 rfl ?_
      refine xr_dup dX3_unpile_20 rfl ?_
      refine xb_get (v := M 1 5) flX3_64 dX3_unpile_21 s_1 rfl rfl ?_
      refine xr_iconst (v := 1) dX3_unpile_24 rfl ?_
      refine xr_isub dX3_unpile_25 ?_
      refine xr_putI fpX3_64 dX3_unpile_26 s_1 rfl rfl rfl ?_
      refine xr_aload_n dX3_unpile_29 0 rfl ?_
      refine xr_getR flX3_18 dX3_unpile_30 s_1 rfl ?_
      refine xr_aload_n dX3_unpile_33 0 rfl ?_
      refine xb_get (v := ((M 1 5) - 1)) flX3_64 dX3_unpile_34 s_1 rfl (x_up_s _ _ _ _) ?_
      obtain ⟨j, hj, ej⟩ := sx_dec c1 c2
      refine xb_top (y := nI j) ej ?_
      refine xb_iald (j := j) (v := (x_up M 1 5 ((M 1 5) - 1)) 4 j) dX3_unpile_37 s_4 hj (by decide) rfl ?_
      exact xr_iret dX3_unpile_38 rfl rfl (⟨_, rfl, rfl, rfl, (Ke.up (Or.inr (by omega)) Ke.rf), trivial⟩)
    · refine xr_iconst (v := 0) dX3_unpile_17 rfl ?_
      exact xr_iret dX3_unpile_18 rfl rfl (⟨_, rfl, rfl, rfl, Ke.rf, trivial⟩)
set_option maxRecDepth 100000 in
set_option maxHeartbeats 4000000 in
theorem g_X3_joined (si a b : Int32) {l : Launch} {G : xG} {M : xM} {J : xJ} : x_M l G fX3_joined 0 0 0 [.int (si), .int (a), .int (b)] x_SH M J (qPI M J (fun r => True)) := by
  refine xb_of pX3 (Nat.le_of_ble_eq_true rfl) rfl ?_
  refine xr_iload_n dX3_joined_0 0 rfl ?_
  refine xg_eq 37 (fun w1 => ?_) (fun w1 => ?_)
  · refine xr_lookup (tgt := 177) (off := 176) dX3_joined_1 (by decide) (by decide) rfl ?_
    refine xr_iload_n dX3_joined_177 2 rfl ?_
    refine xr_if_ne (tgt := 185) dX3_joined_178 rfl (fun c2 => ?_) (fun c2 => ?_)
    · refine xr_iload_n dX3_joined_185 1 rfl ?_
      refine xr_iload_n dX3_joined_186 2 rfl ?_
      refine xr_irem dX3_joined_187 c2 ?_
      exact xr_iret dX3_joined_188 rfl rfl (⟨_, rfl, rfl, rfl, rfl, trivial⟩)
    · refine xr_iconst (v := 0) dX3_joined_181 rfl ?_
      refine xr_goto (tgt := 188) dX3_joined_182 rfl ?_
      exact xr_iret dX3_joined_188 rfl rfl (⟨_, rfl, rfl, rfl, rfl, trivial⟩)
  refine xg_eq 38 (fun w3 => ?_) (fun w3 => ?_)
  · refine xr_lookup (tgt := 106) (off := 105) dX3_joined_1 (by decide) (by decide) rfl ?_
    refine xr_iload_n dX3_joined_106 1 rfl ?_
    refine xr_if_eq (tgt := 118) dX3_joined_107 rfl (fun c4 => ?_) (fun c4 => ?_)
    · refine xr_iconst (v := 0) dX3_joined_118 rfl ?_
      exact xr_iret dX3_joined_119 rfl rfl (⟨_, rfl, rfl, rfl, rfl, trivial⟩)
    · refine xr_iload_n dX3_joined_110 2 rfl ?_
      refine xr_if_eq (tgt := 118) dX3_joined_111 rfl (fun c5 => ?_) (fun c5 => ?_)
      · refine xr_iconst (v := 0) dX3_joined_118 rfl ?_
        exact xr_iret dX3_joined_119 rfl rfl (⟨_, rfl, rfl, rfl, rfl, trivial⟩)
      · refine xr_iconst (v := 1) dX3_joined_114 rfl ?_
        refine xr_goto (tgt := 119) dX3_joined_115 rfl ?_
        exact xr_iret dX3_joined_119 rfl rfl (⟨_, rfl, rfl, rfl, rfl, trivial⟩)
  refine xg_eq 42 (fun w6 => ?_) (fun w6 => ?_)
  · refine xr_lookup (tgt := 161) (off := 160) dX3_joined_1 (by decide) (by decide) rfl ?_
    refine xr_iload_n dX3_joined_161 1 rfl ?_
    refine xr_iload_n dX3_joined_162 2 rfl ?_
    refine xr_imul dX3_joined_163 ?_
    exact xr_iret dX3_joined_164 rfl rfl (⟨_, rfl, rfl, rfl, rfl, trivial⟩)
  refine xg_eq 43 (fun w7 => ?_) (fun w7 => ?_)
  · refine xr_lookup (tgt := 153) (off := 152) dX3_joined_1 (by decide) (by decide) rfl ?_
    refine xr_iload_n dX3_joined_153 1 rfl ?_
    refine xr_iload_n dX3_joined_154 2 rfl ?_
    refine xr_iadd dX3_joined_155 ?_
    exact xr_iret dX3_joined_156 rfl rfl (⟨_, rfl, rfl, rfl, rfl, trivial⟩)
  refine xg_eq 45 (fun w8 => ?_) (fun w8 => ?_)
  · refine xr_lookup (tgt := 157) (off := 156) dX3_joined_1 (by decide) (by decide) rfl ?_
    refine xr_iload_n dX3_joined_157 1 rfl ?_
    refine xr_iload_n dX3_joined_158 2 rfl ?_
    refine xr_isub dX3_joined_159 ?_
    exact xr_iret dX3_joined_160 rfl rfl (⟨_, rfl, rfl, rfl, rfl, trivial⟩)
  refine xg_eq 47 (fun w9 => ?_) (fun w9 => ?_)
  · refine xr_lookup (tgt := 165) (off := 164) dX3_joined_1 (by decide) (by decide) rfl ?_
    refine xr_iload_n dX3_joined_165 2 rfl ?_
    refine xr_if_ne (tgt := 173) dX3_joined_166 rfl (fun c10 => ?_) (fun c10 => ?_)
    · refine xr_iload_n dX3_joined_173 1 rfl ?_
      refine xr_iload_n dX3_joined_174 2 rfl ?_
      refine xr_idiv dX3_joined_175 c10 ?_
      exact xr_iret dX3_joined_176 rfl rfl (⟨_, rfl, rfl, rfl, rfl, trivial⟩)
    · refine xr_iconst (v := 0) dX3_joined_169 rfl ?_
      refine xr_goto (tgt := 176) dX3_joined_170 rfl ?_
      exact xr_iret dX3_joined_176 rfl rfl (⟨_, rfl, rfl, rfl, rfl, trivial⟩)
  refine xg_eq 60 (fun w11 => ?_) (fun w11 => ?_)
  · refine xr_lookup (tgt := 120) (off := 119) dX3_joined_1 (by decide) (by decide) rfl ?_
    refine xr_iload_n dX3_joined_120 1 rfl ?_
    refine xr_iload_n dX3_joined_121 2 rfl ?_
    refine xr_icmp_ge (tgt := 129) dX3_joined_122 rfl (fun c12 => ?_) (fun c12 => ?_)
    · refine xr_iconst (v := 0) dX3_joined_129 rfl ?_
      exact xr_iret dX3_joined_130 rfl rfl (⟨_, rfl, rfl, rfl, rfl, trivial⟩)
    · refine xr_iconst (v := 1) dX3_joined_125 rfl ?_
      refine xr_goto (tgt := 130) dX3_joined_126 rfl ?_
      exact xr_iret dX3_joined_130 rfl rfl (⟨_, rfl, rfl, rfl, rfl, trivial⟩)
  refine xg_eq 61 (fun w13 => ?_) (fun w13 => ?_)
  · refine xr_lookup (tgt := 131) (off := 130) dX3_joined_1 (by decide) (by decide) rfl ?_
    refine xr_iload_n dX3_joined_131 1 rfl ?_
    refine xr_iload_n dX3_joined_132 2 rfl ?_
    refine xr_icmp_ne (tgt := 140) dX3_joined_133 rfl (fun c14 => ?_) (fun c14 => ?_)
    · refine xr_iconst (v := 0) dX3_joined_140 rfl ?_
      exact xr_iret dX3_joined_141 rfl rfl (⟨_, rfl, rfl, rfl, rfl, trivial⟩)
    · refine xr_iconst (v := 1) dX3_joined_136 rfl ?_
      refine xr_goto (tgt := 141) dX3_joined_137 rfl ?_
      exact xr_iret dX3_joined_141 rfl rfl (⟨_, rfl, rfl, rfl, rfl, trivial⟩)
  refine xg_eq 62 (fun w15 => ?_) (fun w15 => ?_)
  · refine xr_lookup (tgt := 142) (off := 141) dX3_joined_1 (by decide) (by decide) rfl ?_
    refine xr_iload_n dX3_joined_142 1 rfl ?_
    refine xr_iload_n dX3_joined_143 2 rfl ?_
    refine xr_icmp_le (tgt := 151) dX3_joined_144 rfl (fun c16 => ?_) (fun c16 => ?_)
    · refine xr_iconst (v := 0) dX3_joined_151 rfl ?_
      exact xr_iret dX3_joined_152 rfl rfl (⟨_, rfl, rfl, rfl, rfl, trivial⟩)
    · refine xr_iconst (v := 1) dX3_joined_147 rfl ?_
      refine xr_goto (tgt := 152) dX3_joined_148 rfl ?_
      exact xr_iret dX3_joined_152 rfl rfl (⟨_, rfl, rfl, rfl, rfl, trivial⟩)
  refine xg_eq 124 (fun w17 => ?_) (fun w17 => ?_)
  · refine xr_lookup (tgt := 92) (off := 91) dX3_joined_1 (by decide) (by decide) rfl ?_
    refine xr_iload_n dX3_joined_92 1 rfl ?_
    refine xr_if_ne (tgt := 100) dX3_joined_93 rfl (fun c18 => ?_) (fun c18 => ?_)
    · refine xr_iconst (v := 1) dX3_joined_100 rfl ?_
      refine xr_goto (tgt := 105) dX3_joined_101 rfl ?_
      exact xr_iret dX3_joined_105 rfl rfl (⟨_, rfl, rfl, rfl, rfl, trivial⟩)
    · refine xr_iload_n dX3_joined_96 2 rfl ?_
      refine xr_if_eq (tgt := 104) dX3_joined_97 rfl (fun c19 => ?_) (fun c19 => ?_)
      · refine xr_iconst (v := 0) dX3_joined_104 rfl ?_
        exact xr_iret dX3_joined_105 rfl rfl (⟨_, rfl, rfl, rfl, rfl, trivial⟩)
      · refine xr_iconst (v := 1) dX3_joined_100 rfl ?_
        refine xr_goto (tgt := 105) dX3_joined_101 rfl ?_
        exact xr_iret dX3_joined_105 rfl rfl (⟨_, rfl, rfl, rfl, rfl, trivial⟩)
  refine xr_lookup (tgt := 189) dX3_joined_1 (by decide) (show Op.lookupswitch.offset [(37, 176), (38, 105), (42, 160), (43, 152), (45, 156), (47, 164), (60, 119), (61, 130), (62, 141), (124, 91)] (188) _ = (188) from (xg_off w1 rfl (xg_off w3 rfl (xg_off w6 rfl (xg_off w7 rfl (xg_off w8 rfl (xg_off w9 rfl (xg_off w11 rfl (xg_off w13 rfl (xg_off w15 rfl (xg_off w17 rfl rfl))))))))))) rfl ?_
  refine xr_iconst (v := 0) dX3_joined_189 rfl ?_
  exact xr_iret dX3_joined_190 rfl rfl (⟨_, rfl, rfl, rfl, rfl, trivial⟩)
set_option maxRecDepth 100000 in
set_option maxHeartbeats 4000000 in
theorem g_X3_withoutText (a b : Int32) {l : Launch} {G : xG} {M : xM} {J : xJ} : x_M l G fX3_withoutText 0 0 0 [.int (a), .int (b)] x_SH M J (qPI M J (fun r => True)) := by
  refine xb_of pX3 (Nat.le_of_ble_eq_true rfl) rfl ?_
  refine xr_iload_n dX3_withoutText_0 0 rfl ?_
  refine xr_iconst (v := 2) dX3_withoutText_1 rfl ?_
  refine xr_icmp_gt (tgt := 7) dX3_withoutText_2 rfl (fun c1 => ?_) (fun c1 => ?_)
  · refine xr_iload_n dX3_withoutText_7 0 rfl ?_
    refine xr_bipush (v := 10) dX3_withoutText_8 rfl ?_
    refine xr_icmp_lt (tgt := 17) dX3_withoutText_10 rfl (fun c2 => ?_) (fun c2 => ?_)
    · refine xr_iconst (v := 0) dX3_withoutText_17 rfl ?_
      exact xr_iret dX3_withoutText_18 rfl rfl (⟨_, rfl, rfl, rfl, rfl, trivial⟩)
    · refine xr_iconst (v := -1) dX3_withoutText_13 rfl ?_
      refine xr_goto (tgt := 18) dX3_withoutText_14 rfl ?_
      exact xr_iret dX3_withoutText_18 rfl rfl (⟨_, rfl, rfl, rfl, rfl, trivial⟩)
  · refine xr_iload_n dX3_withoutText_5 1 rfl ?_
    exact xr_iret dX3_withoutText_6 rfl rfl (⟨_, rfl, rfl, rfl, rfl, trivial⟩)
set_option maxRecDepth 100000 in
set_option maxHeartbeats 4000000 in
theorem wo_l {l : Launch} {G : xG} {M : xM} {J : xJ} {L : Nat} (h_L : L ≤ 128) (e_L : M 1 4 = nI L) (hv : ∀ k, k < 128 → M 3 k ≤ 100000) : ∀ (m k : Nat) (M1 : xM), L ≤ k + m → k ≤ 100001 → Ke WL M M1 → x_X l G fX3_worth 2 0 0 (qKI WL M J (fun r M2 => True)) 7 [(1, .int (nI (k))), (0, .ref (1))] [] x_SH M1 J 0 0 := by
  intro m
  induction m with
  | zero =>
    intro k M1 hk hk2 hM
    refine xr_iload_n dX3_worth_7 0 rfl ?_
    refine xr_aload_n dX3_worth_8 1 rfl ?_
    refine xb_get (v := nI (L)) flX3_24 dX3_worth_9 s_1 rfl (Eq.trans (hM 1 4 (by decide)) e_L) ?_
    refine xr_icmp_ge (tgt := 175) dX3_worth_12 rfl (fun _ => ?_) (fun c => absurd (nI_le (a := L) (b := k) (by omega) (by omega)) c)
    refine xr_iconst (v := 0) dX3_worth_175 rfl ?_
    exact xr_iret dX3_worth_176 rfl rfl (⟨_, rfl, rfl, rfl, hM, trivial⟩)
  | succ m ih =>
    intro k M1 hk hk2 hM
    refine xr_iload_n dX3_worth_7 0 rfl ?_
    refine xr_aload_n dX3_worth_8 1 rfl ?_
    refine xb_get (v := nI (L)) flX3_24 dX3_worth_9 s_1 rfl (Eq.trans (hM 1 4 (by decide)) e_L) ?_
    refine xr_icmp_ge (tgt := 175) dX3_worth_12 rfl (fun c1 => ?_) (fun c1 => ?_)
    · have nc1 : L ≤ k := (nI_leI (a := L) (b := k) (by omega) (by omega)).mp c1
      refine xr_iconst (v := 0) dX3_worth_175 rfl ?_
      exact xr_iret dX3_worth_176 rfl rfl (⟨_, rfl, rfl, rfl, hM, trivial⟩)
    · have nc1 : ¬ (L ≤ k) := fun q => c1 ((nI_leI (a := L) (b := k) (by omega) (by omega)).mpr q)
      have hkL : k < L := by omega
      have hv1 : M1 3 k ≤ 100000 := by rw [hM 3 k (by unfold WL; omega)]; exact hv k (by omega)
      refine xr_aload_n dX3_worth_15 1 rfl ?_
      refine xr_getR flX3_15 dX3_worth_16 s_1 rfl ?_
      refine xr_iload_n dX3_worth_19 0 rfl ?_
      refine xb_iald (j := k) (v := M1 3 k) dX3_worth_20 s_3 (by omega) (by decide) rfl ?_
      refine xr_istore_n (ls2 := [(2, .int (M1 3 k)), (1, .int (nI (k))), (0, .ref (1))]) dX3_worth_21 (by decide) rfl ?_
      refine xr_aload_n dX3_worth_22 2 rfl ?_
      refine xr_getR flX3_11 dX3_worth_23 s_1 rfl ?_
      refine xr_iload_n dX3_worth_26 1 rfl ?_
      refine xb_iald (j := k) (v := M1 2 k) dX3_worth_27 s_2 (by omega) (by decide) rfl ?_
      refine xg_eq 0 (fun w2 => ?_) (fun w2 => ?_)
      · refine xr_tableIn (tgt := 68) dX3_worth_28 (by decide) (by decide) rfl rfl ?_
        refine xr_aload_n dX3_worth_68 2 rfl ?_
        refine xr_iload_n dX3_worth_69 0 rfl ?_
        refine xr_callV (As := [.int (M1 3 k)]) (rest := []) mlX3_67 (g_X3_pile (M1 3 k)) dX3_worth_70 s_1 rfl rfl (Nat.le_of_ble_eq_true rfl) (by decide) ⟨by decide, by decide⟩ (fun v s2 M3 J2 hq => ?_)
        obtain ⟨rfl, rfl, rfl, k4, _⟩ := hq
        try dsimp only [Option.toList, List.cons_append, List.nil_append]
        refine xr_goto (tgt := 169) dX3_worth_73 rfl ?_
        refine xr_iinc (v := nI (k + 1)) (ls2 := [(1, .int (nI (k + 1))), (2, .int (M1 3 k)), (0, .ref (1))]) dX3_worth_169 1 rfl (nI_1 _) (by decide) rfl ?_
        refine xr_goto (tgt := 7) dX3_worth_172 rfl ?_
        refine xb_ls (ls2 := [(1, .int (nI (k + 1))), (0, .ref (1))]) [0, 2] rfl ?_
        exact ih (k + 1) M3 (by omega) (by omega) (Ke.tr (fun _ _ h => h) hM k4)
      refine xg_eq 1 (fun w5 => ?_) (fun w5 => ?_)
      · refine xr_tableIn (tgt := 76) dX3_worth_28 (by decide) (by decide) rfl rfl ?_
        refine xr_aload_n dX3_worth_76 2 rfl ?_
        refine xr_aload_n dX3_worth_77 2 rfl ?_
        refine xr_getR flX3_21 dX3_worth_78 s_1 rfl ?_
        refine xr_iload_n dX3_worth_81 0 rfl ?_
        refine xr_iconst (v := 0) dX3_worth_82 rfl ?_
        refine xr_iconst (v := 5) dX3_worth_83 rfl ?_
        refine xb_cN (As := [.int (M1 3 k), .int (0), .int (5)]) (rest := [.ref (5), .ref (1)]) mlX3_60 (c_X9_within (M1 3 k) 0 5) dX3_worth_84 rfl rfl (Nat.le_of_ble_eq_true rfl) (by decide) (by decide) ?_
        obtain ⟨j, hj, ej⟩ := sx_within5 (M1 3 k)
        refine xb_top (y := nI j) ej ?_
        refine xb_iald (j := j) (v := M1 5 j) dX3_worth_87 s_5 hj (by decide) rfl ?_
        refine xr_callV (As := [.int (M1 5 j)]) (rest := []) mlX3_67 (g_X3_pile (M1 5 j)) dX3_worth_88 s_1 rfl rfl (Nat.le_of_ble_eq_true rfl) (by decide) ⟨by decide, by decide⟩ (fun v s2 M6 J2 hq => ?_)
        obtain ⟨rfl, rfl, rfl, k7, _⟩ := hq
        try dsimp only [Option.toList, List.cons_append, List.nil_append]
        refine xr_goto (tgt := 169) dX3_worth_91 rfl ?_
        refine xr_iinc (v := nI (k + 1)) (ls2 := [(1, .int (nI (k + 1))), (2, .int (M1 3 k)), (0, .ref (1))]) dX3_worth_169 1 rfl (nI_1 _) (by decide) rfl ?_
        refine xr_goto (tgt := 7) dX3_worth_172 rfl ?_
        refine xb_ls (ls2 := [(1, .int (nI (k + 1))), (0, .ref (1))]) [0, 2] rfl ?_
        exact ih (k + 1) M6 (by omega) (by omega) (Ke.tr (fun _ _ h => h) hM k7)
      refine xg_eq 2 (fun w8 => ?_) (fun w8 => ?_)
      · refine xr_tableIn (tgt := 130) dX3_worth_28 (by decide) (by decide) rfl rfl ?_
        refine xr_aload_n dX3_worth_130 2 rfl ?_
        refine xr_callV (As := []) (rest := []) mlX3_71 (g_X3_unpile) dX3_worth_131 s_1 rfl rfl (Nat.le_of_ble_eq_true rfl) (by decide) ⟨by decide, by decide⟩ (fun v s2 M9 J2 hq => ?_)
        obtain ⟨r11, rfl, rfl, rfl, k10, _⟩ := hq
        try dsimp only [Option.toList, List.cons_append, List.nil_append]
        refine xr_if_ne (tgt := 169) dX3_worth_134 rfl (fun c12 => ?_) (fun c12 => ?_)
        · refine xr_iinc (v := nI (k + 1)) (ls2 := [(1, .int (nI (k + 1))), (2, .int (M1 3 k)), (0, .ref (1))]) dX3_worth_169 1 rfl (nI_1 _) (by decide) rfl ?_
          refine xr_goto (tgt := 7) dX3_worth_172 rfl ?_
          refine xb_ls (ls2 := [(1, .int (nI (k + 1))), (0, .ref (1))]) [0, 2] rfl ?_
          exact ih (k + 1) M9 (by omega) (by omega) (Ke.tr (fun _ _ h => h) hM k10)
        · refine xr_iload_n dX3_worth_137 1 rfl ?_
          refine xr_iload_n dX3_worth_138 0 rfl ?_
          refine xr_max mmX3_74 uj_max uj_mi uj_maxc dX3_worth_139 (Nat.le_of_ble_eq_true rfl) (by decide) ?_
          obtain ⟨k2, hk3, hk4, ek⟩ := sx_max (k := k) (by omega) hv1
          refine xb_top (y := nI k2) ek ?_
          refine xr_istore_n (ls2 := [(1, .int (nI (k2))), (2, .int (M1 3 k)), (0, .ref (1))]) dX3_worth_142 (by decide) rfl ?_
          refine xr_goto (tgt := 169) dX3_worth_143 rfl ?_
          refine xr_iinc (v := nI (k2 + 1)) (ls2 := [(1, .int (nI (k2 + 1))), (2, .int (M1 3 k)), (0, .ref (1))]) dX3_worth_169 0 rfl (nI_1 _) (by decide) rfl ?_
          refine xr_goto (tgt := 7) dX3_worth_172 rfl ?_
          refine xb_ls (ls2 := [(1, .int (nI (k2 + 1))), (0, .ref (1))]) [0, 2] rfl ?_
          exact ih (k2 + 1) M9 (by omega) (by omega) (Ke.tr (fun _ _ h => h) hM k10)
      refine xg_eq 3 (fun w13 => ?_) (fun w13 => ?_)
      · refine xr_tableIn (tgt := 125) dX3_worth_28 (by decide) (by decide) rfl rfl ?_
        refine xr_aload_n dX3_worth_125 2 rfl ?_
        refine xr_callV (As := []) (rest := []) mlX3_71 (g_X3_unpile) dX3_worth_126 s_1 rfl rfl (Nat.le_of_ble_eq_true rfl) (by decide) ⟨by decide, by decide⟩ (fun v s2 M14 J2 hq => ?_)
        obtain ⟨r16, rfl, rfl, rfl, k15, _⟩ := hq
        try dsimp only [Option.toList, List.cons_append, List.nil_append]
        exact xr_iret dX3_worth_129 rfl rfl (⟨_, rfl, rfl, rfl, (Ke.tr (fun _ _ h => h) hM k15), trivial⟩)
      refine xg_eq 4 (fun w17 => ?_) (fun w17 => ?_)
      · refine xr_tableIn (tgt := 94) dX3_worth_28 (by decide) (by decide) rfl rfl ?_
        refine xr_aload_n dX3_worth_94 2 rfl ?_
        refine xr_aload_n dX3_worth_95 2 rfl ?_
        refine xr_callV (As := []) (rest := [.ref (1)]) mlX3_71 (g_X3_unpile) dX3_worth_96 s_1 rfl rfl (Nat.le_of_ble_eq_true rfl) (by decide) ⟨by decide, by decide⟩ (fun v s2 M18 J2 hq => ?_)
        obtain ⟨r20, rfl, rfl, rfl, k19, _⟩ := hq
        try dsimp only [Option.toList, List.cons_append, List.nil_append]
        refine xr_if_ne (tgt := 106) dX3_worth_99 rfl (fun c21 => ?_) (fun c21 => ?_)
        · refine xr_iconst (v := 0) dX3_worth_106 rfl ?_
          refine xr_callV (As := [.int (0)]) (rest := []) mlX3_67 (g_X3_pile 0) dX3_worth_107 s_1 rfl rfl (Nat.le_of_ble_eq_true rfl) (by decide) ⟨by decide, by decide⟩ (fun v s2 M22 J2 hq => ?_)
          obtain ⟨rfl, rfl, rfl, k23, _⟩ := hq
          try dsimp only [Option.toList, List.cons_append, List.nil_append]
          refine xr_goto (tgt := 169) dX3_worth_110 rfl ?_
          refine xr_iinc (v := nI (k + 1)) (ls2 := [(1, .int (nI (k + 1))), (2, .int (M1 3 k)), (0, .ref (1))]) dX3_worth_169 1 rfl (nI_1 _) (by decide) rfl ?_
          refine xr_goto (tgt := 7) dX3_worth_172 rfl ?_
          refine xb_ls (ls2 := [(1, .int (nI (k + 1))), (0, .ref (1))]) [0, 2] rfl ?_
          exact ih (k + 1) M22 (by omega) (by omega) (Ke.tr (fun _ _ h => h) (Ke.tr (fun _ _ h => h) hM k19) k23)
        · refine xr_iconst (v := 1) dX3_worth_102 rfl ?_
          refine xr_goto (tgt := 107) dX3_worth_103 rfl ?_
          refine xr_callV (As := [.int (1)]) (rest := []) mlX3_67 (g_X3_pile 1) dX3_worth_107 s_1 rfl rfl (Nat.le_of_ble_eq_true rfl) (by decide) ⟨by decide, by decide⟩ (fun v s2 M24 J2 hq => ?_)
          obtain ⟨rfl, rfl, rfl, k25, _⟩ := hq
          try dsimp only [Option.toList, List.cons_append, List.nil_append]
          refine xr_goto (tgt := 169) dX3_worth_110 rfl ?_
          refine xr_iinc (v := nI (k + 1)) (ls2 := [(1, .int (nI (k + 1))), (2, .int (M1 3 k)), (0, .ref (1))]) dX3_worth_169 1 rfl (nI_1 _) (by decide) rfl ?_
          refine xr_goto (tgt := 7) dX3_worth_172 rfl ?_
          refine xb_ls (ls2 := [(1, .int (nI (k + 1))), (0, .ref (1))]) [0, 2] rfl ?_
          exact ih (k + 1) M24 (by omega) (by omega) (Ke.tr (fun _ _ h => h) (Ke.tr (fun _ _ h => h) hM k19) k25)
      refine xg_eq 5 (fun w26 => ?_) (fun w26 => ?_)
      · refine xr_tableIn (tgt := 113) dX3_worth_28 (by decide) (by decide) rfl rfl ?_
        refine xr_aload_n dX3_worth_113 2 rfl ?_
        refine xr_aload_n dX3_worth_114 2 rfl ?_
        refine xr_callV (As := []) (rest := [.ref (1)]) mlX3_71 (g_X3_unpile) dX3_worth_115 s_1 rfl rfl (Nat.le_of_ble_eq_true rfl) (by decide) ⟨by decide, by decide⟩ (fun v s2 M27 J2 hq => ?_)
        obtain ⟨r29, rfl, rfl, rfl, k28, _⟩ := hq
        try dsimp only [Option.toList, List.cons_append, List.nil_append]
        refine xr_ineg dX3_worth_118 ?_
        refine xr_callV (As := [.int ((-r29))]) (rest := []) mlX3_67 (g_X3_pile (-r29)) dX3_worth_119 s_1 rfl rfl (Nat.le_of_ble_eq_true rfl) (by decide) ⟨by decide, by decide⟩ (fun v s2 M30 J2 hq => ?_)
        obtain ⟨rfl, rfl, rfl, k31, _⟩ := hq
        try dsimp only [Option.toList, List.cons_append, List.nil_append]
        refine xr_goto (tgt := 169) dX3_worth_122 rfl ?_
        refine xr_iinc (v := nI (k + 1)) (ls2 := [(1, .int (nI (k + 1))), (2, .int (M1 3 k)), (0, .ref (1))]) dX3_worth_169 1 rfl (nI_1 _) (by decide) rfl ?_
        refine xr_goto (tgt := 7) dX3_worth_172 rfl ?_
        refine xb_ls (ls2 := [(1, .int (nI (k + 1))), (0, .ref (1))]) [0, 2] rfl ?_
        exact ih (k + 1) M30 (by omega) (by omega) (Ke.tr (fun _ _ h => h) (Ke.tr (fun _ _ h => h) hM k28) k31)
      refine xr_tableOut (tgt := 146) dX3_worth_28 (xg_out (lo := 0) (hi := 5) (by decide) (fun j h1 h2 qq => by have h3 : j = 0 ∨ j = 1 ∨ j = 2 ∨ j = 3 ∨ j = 4 ∨ j = 5 := (by omega); rcases h3 with rfl | rfl | rfl | rfl | rfl | rfl <;> first | exact absurd qq w2 | exact absurd qq w5 | exact absurd qq w8 | exact absurd qq w13 | exact absurd qq w17 | exact absurd qq w26)) rfl ?_
      refine xr_aload_n dX3_worth_146 2 rfl ?_
      refine xr_callV (As := []) (rest := []) mlX3_71 (g_X3_unpile) dX3_worth_147 s_1 rfl rfl (Nat.le_of_ble_eq_true rfl) (by decide) ⟨by decide, by decide⟩ (fun v s2 M32 J2 hq => ?_)
      obtain ⟨r34, rfl, rfl, rfl, k33, _⟩ := hq
      try dsimp only [Option.toList, List.cons_append, List.nil_append]
      refine xr_istore_n (ls2 := [(3, .int (r34)), (2, .int (M1 3 k)), (1, .int (nI (k))), (0, .ref (1))]) dX3_worth_150 (by decide) rfl ?_
      refine xr_aload_n dX3_worth_151 3 rfl ?_
      refine xr_aload_n dX3_worth_152 3 rfl ?_
      refine xr_getR flX3_11 dX3_worth_153 s_1 rfl ?_
      refine xr_iload_n dX3_worth_156 2 rfl ?_
      refine xb_iald (j := k) (v := M32 2 k) dX3_worth_157 s_2 (by omega) (by decide) rfl ?_
      refine xr_aload_n dX3_worth_158 3 rfl ?_
      refine xr_callV (As := []) (rest := [.int (M32 2 k), .ref (1)]) mlX3_71 (g_X3_unpile) dX3_worth_159 s_1 rfl rfl (Nat.le_of_ble_eq_true rfl) (by decide) ⟨by decide, by decide⟩ (fun v s2 M35 J2 hq => ?_)
      obtain ⟨r37, rfl, rfl, rfl, k36, _⟩ := hq
      try dsimp only [Option.toList, List.cons_append, List.nil_append]
      refine xr_iload_n dX3_worth_162 0 rfl ?_
      refine xr_callS (As := [.int (M32 2 k), .int (r37), .int (r34)]) (rest := [.ref (1)]) mlX3_79 (g_X3_joined (M32 2 k) r37 r34) dX3_worth_163 rfl rfl (Nat.le_of_ble_eq_true rfl) (by decide) ⟨by decide, by decide⟩ (fun v s2 M9 J2 hq => ?_)
      obtain ⟨r38, rfl, rfl, rfl, rfl, _⟩ := hq
      try dsimp only [Option.toList, List.cons_append, List.nil_append]
      refine xr_callV (As := [.int (r38)]) (rest := []) mlX3_67 (g_X3_pile r38) dX3_worth_166 s_1 rfl rfl (Nat.le_of_ble_eq_true rfl) (by decide) ⟨by decide, by decide⟩ (fun v s2 M39 J2 hq => ?_)
      obtain ⟨rfl, rfl, rfl, k40, _⟩ := hq
      try dsimp only [Option.toList, List.cons_append, List.nil_append]
      refine xr_iinc (v := nI (k + 1)) (ls2 := [(1, .int (nI (k + 1))), (3, .int (r34)), (2, .int (M1 3 k)), (0, .ref (1))]) dX3_worth_169 2 rfl (nI_1 _) (by decide) rfl ?_
      refine xr_goto (tgt := 7) dX3_worth_172 rfl ?_
      refine xb_ls (ls2 := [(1, .int (nI (k + 1))), (0, .ref (1))]) [0, 3] rfl ?_
      exact ih (k + 1) M39 (by omega) (by omega) (Ke.tr (fun _ _ h => h) (Ke.tr (fun _ _ h => h) (Ke.tr (fun _ _ h => h) hM k33) k36) k40)
set_option maxRecDepth 100000 in
set_option maxHeartbeats 4000000 in
theorem g_X3_worth {l : Launch} {G : xG} {M : xM} {J : xJ} (hv : ∀ k, k < 128 → M 3 k ≤ 100000)  {L : Nat} (h_L : L ≤ 128) (e_L : M 1 4 = nI L) : x_M l G fX3_worth 2 0 0 [.ref (1)] x_SH M J (qKI WL M J (fun r M2 => True)) := by
  refine xb_of pX3 (Nat.le_of_ble_eq_true rfl) rfl ?_
  refine xr_aload_n dX3_worth_0 0 rfl ?_
  refine xr_iconst (v := 0) dX3_worth_1 rfl ?_
  refine xr_putI fpX3_64 dX3_worth_2 s_1 rfl rfl rfl ?_
  refine xr_iconst (v := 0) dX3_worth_5 rfl ?_
  refine xr_istore_n (ls2 := [(1, .int (0)), (0, .ref (1))]) dX3_worth_6 (by decide) rfl ?_
  refine xb_ls (ls2 := [(1, .int (nI (0))), (0, .ref (1))]) [0, 1] rfl ?_
  exact wo_l h_L e_L hv 128 0 (x_up M 1 5 0) (by omega) (by omega) (Ke.up (Or.inr (by omega)) Ke.rf)
set_option maxRecDepth 100000 in
set_option maxHeartbeats 4000000 in
theorem g_X3_more (go fo : Int32) {q : Nat} (hq : x_SH[q]? = some (.inl (2, [none, none, none, none, none]))) {l : Launch} {G : xG} {M : xM} {J : xJ} (hv : ∀ k, k < 128 → M 3 k ≤ 100000)  {L : Nat} (h_L : L ≤ 128) (e_L : M 1 4 = nI L) : x_M l G fX3_more 3 0 0 [.ref (1), .ref (q), .int (go), .int (fo)] x_SH M J (qKI WL M J (fun r M2 => True)) := by
  refine xb_of pX3 (Nat.le_of_ble_eq_true rfl) rfl ?_
  refine xr_aload_n dX3_more_0 1 rfl ?_
  refine xr_iload_n dX3_more_1 2 rfl ?_
  refine xr_callV (As := [.int (go)]) (rest := []) mlX3_34 (g_X2_farFrom go hq) dX3_more_2 hq rfl rfl (Nat.le_of_ble_eq_true rfl) (by decide) ⟨by decide, by decide⟩ (fun v s2 M9 J2 hq => ?_)
  obtain ⟨r2, rfl, rfl, rfl, rfl, hx1⟩ := hq
  try dsimp only [Option.toList, List.cons_append, List.nil_append]
  refine xr_istore (ls2 := [(4, .int (r2)), (0, .ref (1)), (1, .ref (q)), (2, .int (go)), (3, .int (fo))]) dX3_more_5 (by decide) rfl ?_
  refine xr_aload_n dX3_more_7 1 rfl ?_
  refine xb_get (v := nI (L)) flX3_24 dX3_more_8 s_1 rfl e_L ?_
  refine xr_if_ne (tgt := 21) dX3_more_11 rfl (fun c3 => ?_) (fun c3 => ?_)
  · refine xr_aload_n dX3_more_21 1 rfl ?_
    refine xr_getR flX3_21 dX3_more_22 s_1 rfl ?_
    refine xr_iconst (v := 0) dX3_more_25 rfl ?_
    refine xr_iload dX3_more_26 0 rfl ?_
    refine xb_iast (j := 0) dX3_more_28 s_5 (by decide) (by decide) ?_
    refine xr_aload_n dX3_more_29 1 rfl ?_
    refine xr_getR flX3_21 dX3_more_30 s_1 rfl ?_
    refine xr_iconst (v := 1) dX3_more_33 rfl ?_
    refine xr_aload_n dX3_more_34 2 rfl ?_
    refine xb_cV (As := []) (rest := [.int (1), .ref (5)]) mlX3_44 (c_X2_speed hq) dX3_more_35 hq rfl rfl (Nat.le_of_ble_eq_true rfl) (by decide) (by decide) ?_
    refine xb_iast (j := 1) dX3_more_38 s_5 (by decide) (by decide) ?_
    refine xr_aload_n dX3_more_39 1 rfl ?_
    refine xr_getR flX3_21 dX3_more_40 s_1 rfl ?_
    refine xr_iconst (v := 2) dX3_more_43 rfl ?_
    refine xr_aload_n dX3_more_44 2 rfl ?_
    refine xb_get (v := (x_up (x_up M 5 0 r2) 5 1 (if 0 ≤ (x_up M 5 0 r2) q 3 then (x_up M 5 0 r2) q 3 else 0 - (x_up M 5 0 r2) q 3)) q 0) flX3_48 dX3_more_45 hq rfl rfl ?_
    refine xb_iast (j := 2) dX3_more_48 s_5 (by decide) (by decide) ?_
    refine xr_aload_n dX3_more_49 1 rfl ?_
    refine xr_getR flX3_21 dX3_more_50 s_1 rfl ?_
    refine xr_iconst (v := 3) dX3_more_53 rfl ?_
    refine xr_aload_n dX3_more_54 2 rfl ?_
    refine xb_get (v := (x_up (x_up (x_up M 5 0 r2) 5 1 (if 0 ≤ (x_up M 5 0 r2) q 3 then (x_up M 5 0 r2) q 3 else 0 - (x_up M 5 0 r2) q 3)) 5 2 ((x_up (x_up M 5 0 r2) 5 1 (if 0 ≤ (x_up M 5 0 r2) q 3 then (x_up M 5 0 r2) q 3 else 0 - (x_up M 5 0 r2) q 3)) q 0)) q 1) flX3_51 dX3_more_55 hq rfl rfl ?_
    refine xb_iast (j := 3) dX3_more_58 s_5 (by decide) (by decide) ?_
    refine xr_aload_n dX3_more_59 1 rfl ?_
    refine xr_getR flX3_21 dX3_more_60 s_1 rfl ?_
    refine xr_iconst (v := 4) dX3_more_63 rfl ?_
    refine xr_iload_n dX3_more_64 4 rfl ?_
    refine xb_iast (j := 4) dX3_more_65 s_5 (by decide) (by decide) ?_
    refine xr_aload_n dX3_more_66 1 rfl ?_
    refine xr_getR flX3_21 dX3_more_67 s_1 rfl ?_
    refine xr_iconst (v := 5) dX3_more_70 rfl ?_
    refine xr_aload_n dX3_more_71 2 rfl ?_
    refine xb_get (v := (x_up (x_up (x_up (x_up (x_up M 5 0 r2) 5 1 (if 0 ≤ (x_up M 5 0 r2) q 3 then (x_up M 5 0 r2) q 3 else 0 - (x_up M 5 0 r2) q 3)) 5 2 ((x_up (x_up M 5 0 r2) 5 1 (if 0 ≤ (x_up M 5 0 r2) q 3 then (x_up M 5 0 r2) q 3 else 0 - (x_up M 5 0 r2) q 3)) q 0)) 5 3 ((x_up (x_up (x_up M 5 0 r2) 5 1 (if 0 ≤ (x_up M 5 0 r2) q 3 then (x_up M 5 0 r2) q 3 else 0 - (x_up M 5 0 r2) q 3)) 5 2 ((x_up (x_up M 5 0 r2) 5 1 (if 0 ≤ (x_up M 5 0 r2) q 3 then (x_up M 5 0 r2) q 3 else 0 - (x_up M 5 0 r2) q 3)) q 0)) q 1)) 5 4 fo) q 4) flX3_54 dX3_more_72 hq rfl rfl ?_
    refine xb_iast (j := 5) dX3_more_75 s_5 (by decide) (by decide) ?_
    refine xr_aload_n dX3_more_76 1 rfl ?_
    refine xr_callV (As := []) (rest := []) mlX3_57 (g_X3_worth (fun k hk => by have h3 := (show (x_up (x_up (x_up (x_up (x_up (x_up M 5 0 r2) 5 1 (if 0 ≤ (x_up M 5 0 r2) q 3 then (x_up M 5 0 r2) q 3 else 0 - (x_up M 5 0 r2) q 3)) 5 2 ((x_up (x_up M 5 0 r2) 5 1 (if 0 ≤ (x_up M 5 0 r2) q 3 then (x_up M 5 0 r2) q 3 else 0 - (x_up M 5 0 r2) q 3)) q 0)) 5 3 ((x_up (x_up (x_up M 5 0 r2) 5 1 (if 0 ≤ (x_up M 5 0 r2) q 3 then (x_up M 5 0 r2) q 3 else 0 - (x_up M 5 0 r2) q 3)) 5 2 ((x_up (x_up M 5 0 r2) 5 1 (if 0 ≤ (x_up M 5 0 r2) q 3 then (x_up M 5 0 r2) q 3 else 0 - (x_up M 5 0 r2) q 3)) q 0)) q 1)) 5 4 fo) 5 5 ((x_up (x_up (x_up (x_up (x_up M 5 0 r2) 5 1 (if 0 ≤ (x_up M 5 0 r2) q 3 then (x_up M 5 0 r2) q 3 else 0 - (x_up M 5 0 r2) q 3)) 5 2 ((x_up (x_up M 5 0 r2) 5 1 (if 0 ≤ (x_up M 5 0 r2) q 3 then (x_up M 5 0 r2) q 3 else 0 - (x_up M 5 0 r2) q 3)) q 0)) 5 3 ((x_up (x_up (x_up M 5 0 r2) 5 1 (if 0 ≤ (x_up M 5 0 r2) q 3 then (x_up M 5 0 r2) q 3 else 0 - (x_up M 5 0 r2) q 3)) 5 2 ((x_up (x_up M 5 0 r2) 5 1 (if 0 ≤ (x_up M 5 0 r2) q 3 then (x_up M 5 0 r2) q 3 else 0 - (x_up M 5 0 r2) q 3)) q 0)) q 1)) 5 4 fo) q 4)) 3 k = M 3 k from (Eq.trans (congrFun (x_up_n _ _ _ (by first | decide | omega)) _) (Eq.trans (congrFun (x_up_n _ _ _ (by first | decide | omega)) _) (Eq.trans (congrFun (x_up_n _ _ _ (by first | decide | omega)) _) (Eq.trans (congrFun (x_up_n _ _ _ (by first | decide | omega)) _) (Eq.trans (congrFun (x_up_n _ _ _ (by first | decide | omega)) _) (Eq.trans (congrFun (x_up_n _ _ _ (by first | decide | omega)) _) rfl))))))); rw [h3]; exact hv k hk) (by omega) (Eq.trans (congrFun (x_up_n _ _ _ (by decide)) _) (Eq.trans (congrFun (x_up_n _ _ _ (by decide)) _) (Eq.trans (congrFun (x_up_n _ _ _ (by decide)) _) (Eq.trans (congrFun (x_up_n _ _ _ (by decide)) _) (Eq.trans (congrFun (x_up_n _ _ _ (by decide)) _) (Eq.trans (congrFun (x_up_n _ _ _ (by decide)) _) e_L))))))) dX3_more_77 s_1 rfl rfl (Nat.le_of_ble_eq_true rfl) (by decide) ⟨by decide, by decide⟩ (fun v s2 M4 J2 hq => ?_)
    obtain ⟨r6, rfl, rfl, rfl, k5, _⟩ := hq
    try dsimp only [Option.toList, List.cons_append, List.nil_append]
    refine xr_bipush (v := -9) dX3_more_80 rfl ?_
    refine xr_bipush (v := 9) dX3_more_82 rfl ?_
    refine xb_cN (As := [.int (r6), .int ((-9)), .int (9)]) (rest := []) mlX3_60 (c_X9_within r6 (-9) 9) dX3_more_84 rfl rfl (Nat.le_of_ble_eq_true rfl) (by decide) (by decide) ?_
    exact xr_iret dX3_more_87 rfl rfl (⟨_, rfl, rfl, rfl, (Ke.tr (fun _ _ h => h) (Ke.up (Or.inl (by omega)) (Ke.up (Or.inl (by omega)) (Ke.up (Or.inl (by omega)) (Ke.up (Or.inl (by omega)) (Ke.up (Or.inl (by omega)) (Ke.up (Or.inl (by omega)) Ke.rf)))))) k5), trivial⟩)
  · refine xr_iload dX3_more_14 0 rfl ?_
    refine xr_iload_n dX3_more_16 4 rfl ?_
    refine xr_callS (As := [.int (r2), .int (fo)]) (rest := []) mlX3_40 (g_X3_withoutText r2 fo) dX3_more_17 rfl rfl (Nat.le_of_ble_eq_true rfl) (by decide) ⟨by decide, by decide⟩ (fun v s2 M9 J2 hq => ?_)
    obtain ⟨r7, rfl, rfl, rfl, rfl, _⟩ := hq
    try dsimp only [Option.toList, List.cons_append, List.nil_append]
    exact xr_iret dX3_more_20 rfl rfl (⟨_, rfl, rfl, rfl, Ke.rf, trivial⟩)
