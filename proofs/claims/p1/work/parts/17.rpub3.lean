theorem dX10_byteAt_0 : decode cX10_byteAt 0 = .ok (.aload_n 0, 1) := by decide +kernel
theorem dX10_byteAt_1 : decode cX10_byteAt 1 = .ok (.getfield 165, 3) := by decide +kernel
theorem dX10_byteAt_4 : decode cX10_byteAt 4 = .ok (.aload_n 0, 1) := by decide +kernel
theorem dX10_byteAt_5 : decode cX10_byteAt 5 = .ok (.getfield 168, 3) := by decide +kernel
theorem dX10_byteAt_8 : decode cX10_byteAt 8 = .ok (.if_icmp .ge 39, 3) := by decide +kernel
theorem dX10_byteAt_47 : decode cX10_byteAt 47 = .ok (.iconst 0, 1) := by decide +kernel
theorem dX10_byteAt_48 : decode cX10_byteAt 48 = .ok (.ireturn, 1) := by decide +kernel
theorem dX10_nameOf_0 : decode cX10_nameOf 0 = .ok (.iload_n 0, 1) := by decide +kernel
theorem dX10_nameOf_1 : decode cX10_nameOf 1 = .ok (.tableswitch 107 102 121 #[103, 107, 101, 107, 107, 107, 107, 107, 95, 107, 107, 107, 107, 99, 107, 107, 97, 107, 107, 105], 95) := by decide +kernel
theorem dX10_nameOf_108 : decode cX10_nameOf 108 = .ok (.iconst (-1), 1) := by decide +kernel
theorem dX10_nameOf_109 : decode cX10_nameOf 109 = .ok (.ireturn, 1) := by decide +kernel
theorem dX10_wrong_0 : decode cX10_wrong 0 = .ok (.aload_n 0, 1) := by decide +kernel
theorem dX10_wrong_1 : decode cX10_wrong 1 = .ok (.aload_n 0, 1) := by decide +kernel
theorem dX10_wrong_2 : decode cX10_wrong 2 = .ok (.getfield 174, 3) := by decide +kernel
theorem dX10_wrong_5 : decode cX10_wrong 5 = .ok (.ifCond .ge 10, 3) := by decide +kernel
theorem dX10_wrong_8 : decode cX10_wrong 8 = .ok (.aload_n 0, 1) := by decide +kernel
theorem dX10_wrong_9 : decode cX10_wrong 9 = .ok (.getfield 165, 3) := by decide +kernel
theorem dX10_wrong_12 : decode cX10_wrong 12 = .ok (.goto 7, 3) := by decide +kernel
theorem dX10_wrong_19 : decode cX10_wrong 19 = .ok (.putfield 174, 3) := by decide +kernel
theorem dX10_wrong_22 : decode cX10_wrong 22 = .ok (.iconst 0, 1) := by decide +kernel
theorem dX10_wrong_23 : decode cX10_wrong 23 = .ok (.ireturn, 1) := by decide +kernel
theorem dX10_one_0 : decode cX10_one 0 = .ok (.aload_n 0, 1) := by decide +kernel
theorem dX10_one_1 : decode cX10_one 1 = .ok (.getfield 174, 3) := by decide +kernel
theorem dX10_one_4 : decode cX10_one 4 = .ok (.ifCond .lt 5, 3) := by decide +kernel
theorem dX10_one_9 : decode cX10_one 9 = .ok (.aload_n 0, 1) := by decide +kernel
theorem dX10_one_10 : decode cX10_one 10 = .ok (.invokevirtual 177, 3) := by decide +kernel
theorem dX10_one_13 : decode cX10_one 13 = .ok (.istore_n 1, 1) := by decide +kernel
theorem dX10_one_14 : decode cX10_one 14 = .ok (.iload_n 1, 1) := by decide +kernel
theorem dX10_one_15 : decode cX10_one 15 = .ok (.bipush 33, 2) := by decide +kernel
theorem dX10_one_17 : decode cX10_one 17 = .ok (.if_icmp .eq 15, 3) := by decide +kernel
theorem dX10_one_20 : decode cX10_one 20 = .ok (.iload_n 1, 1) := by decide +kernel
theorem dX10_one_21 : decode cX10_one 21 = .ok (.bipush 45, 2) := by decide +kernel
theorem dX10_one_23 : decode cX10_one 23 = .ok (.if_icmp .eq 9, 3) := by decide +kernel
theorem dX10_one_26 : decode cX10_one 26 = .ok (.iload_n 1, 1) := by decide +kernel
theorem dX10_one_27 : decode cX10_one 27 = .ok (.bipush 40, 2) := by decide +kernel
theorem dX10_one_29 : decode cX10_one 29 = .ok (.if_icmp .ne 116, 3) := by decide +kernel
theorem dX10_one_145 : decode cX10_one 145 = .ok (.iload_n 1, 1) := by decide +kernel
theorem dX10_one_146 : decode cX10_one 146 = .ok (.invokestatic 208, 3) := by decide +kernel
theorem dX10_one_149 : decode cX10_one 149 = .ok (.istore_n 2, 1) := by decide +kernel
theorem dX10_one_150 : decode cX10_one 150 = .ok (.iload_n 2, 1) := by decide +kernel
theorem dX10_one_151 : decode cX10_one 151 = .ok (.ifCond .lt 20, 3) := by decide +kernel
theorem dX10_one_171 : decode cX10_one 171 = .ok (.iconst 0, 1) := by decide +kernel
theorem dX10_one_172 : decode cX10_one 172 = .ok (.istore_n 3, 1) := by decide +kernel
theorem dX10_one_173 : decode cX10_one 173 = .ok (.iconst 0, 1) := by decide +kernel
theorem dX10_one_174 : decode cX10_one 174 = .ok (.istore 4, 2) := by decide +kernel
theorem dX10_one_176 : decode cX10_one 176 = .ok (.iload 4, 2) := by decide +kernel
theorem dX10_one_178 : decode cX10_one 178 = .ok (.iconst 4, 1) := by decide +kernel
theorem dX10_one_179 : decode cX10_one 179 = .ok (.if_icmp .ge 50, 3) := by decide +kernel
theorem dX10_one_182 : decode cX10_one 182 = .ok (.aload_n 0, 1) := by decide +kernel
theorem dX10_one_183 : decode cX10_one 183 = .ok (.invokevirtual 177, 3) := by decide +kernel
theorem dX10_one_186 : decode cX10_one 186 = .ok (.bipush 48, 2) := by decide +kernel
theorem dX10_one_188 : decode cX10_one 188 = .ok (.if_icmp .lt 41, 3) := by decide +kernel
theorem dX10_one_229 : decode cX10_one 229 = .ok (.iload 4, 2) := by decide +kernel
theorem dX10_one_231 : decode cX10_one 231 = .ok (.ifCond .ne 10, 3) := by decide +kernel
theorem dX10_one_234 : decode cX10_one 234 = .ok (.aload_n 0, 1) := by decide +kernel
theorem dX10_one_235 : decode cX10_one 235 = .ok (.invokevirtual 202, 3) := by decide +kernel
theorem dX10_one_238 : decode cX10_one 238 = .ok (.goto 4, 3) := by decide +kernel
theorem dX10_one_242 : decode cX10_one 242 = .ok (.ireturn, 1) := by decide +kernel
theorem dX10_product_0 : decode cX10_product 0 = .ok (.aload_n 0, 1) := by decide +kernel
theorem dX10_product_1 : decode cX10_product 1 = .ok (.invokevirtual 196, 3) := by decide +kernel
theorem dX10_product_4 : decode cX10_product 4 = .ok (.istore_n 1, 1) := by decide +kernel
theorem dX10_product_5 : decode cX10_product 5 = .ok (.aload_n 0, 1) := by decide +kernel
theorem dX10_product_6 : decode cX10_product 6 = .ok (.invokevirtual 177, 3) := by decide +kernel
theorem dX10_product_9 : decode cX10_product 9 = .ok (.istore_n 2, 1) := by decide +kernel
theorem dX10_product_10 : decode cX10_product 10 = .ok (.aload_n 0, 1) := by decide +kernel
theorem dX10_product_11 : decode cX10_product 11 = .ok (.getfield 174, 3) := by decide +kernel
theorem dX10_product_14 : decode cX10_product 14 = .ok (.ifCond .ge 80, 3) := by decide +kernel
theorem dX10_product_94 : decode cX10_product 94 = .ok (.iload_n 1, 1) := by decide +kernel
theorem dX10_product_95 : decode cX10_product 95 = .ok (.ireturn, 1) := by decide +kernel
theorem dX10_sums_0 : decode cX10_sums 0 = .ok (.aload_n 0, 1) := by decide +kernel
theorem dX10_sums_1 : decode cX10_sums 1 = .ok (.invokevirtual 193, 3) := by decide +kernel
theorem dX10_sums_4 : decode cX10_sums 4 = .ok (.istore_n 1, 1) := by decide +kernel
theorem dX10_sums_5 : decode cX10_sums 5 = .ok (.aload_n 0, 1) := by decide +kernel
theorem dX10_sums_6 : decode cX10_sums 6 = .ok (.getfield 174, 3) := by decide +kernel
theorem dX10_sums_9 : decode cX10_sums 9 = .ok (.ifCond .ge 68, 3) := by decide +kernel
theorem dX10_sums_77 : decode cX10_sums 77 = .ok (.iload_n 1, 1) := by decide +kernel
theorem dX10_sums_78 : decode cX10_sums 78 = .ok (.ireturn, 1) := by decide +kernel
theorem dX10_compared_0 : decode cX10_compared 0 = .ok (.aload_n 0, 1) := by decide +kernel
theorem dX10_compared_1 : decode cX10_compared 1 = .ok (.invokevirtual 190, 3) := by decide +kernel
theorem dX10_compared_4 : decode cX10_compared 4 = .ok (.istore_n 1, 1) := by decide +kernel
theorem dX10_compared_5 : decode cX10_compared 5 = .ok (.aload_n 0, 1) := by decide +kernel
theorem dX10_compared_6 : decode cX10_compared 6 = .ok (.invokevirtual 177, 3) := by decide +kernel
theorem dX10_compared_9 : decode cX10_compared 9 = .ok (.istore_n 2, 1) := by decide +kernel
theorem dX10_compared_10 : decode cX10_compared 10 = .ok (.aload_n 0, 1) := by decide +kernel
theorem dX10_compared_11 : decode cX10_compared 11 = .ok (.getfield 174, 3) := by decide +kernel
theorem dX10_compared_14 : decode cX10_compared 14 = .ok (.ifCond .ge 21, 3) := by decide +kernel
theorem dX10_compared_35 : decode cX10_compared 35 = .ok (.iload_n 1, 1) := by decide +kernel
theorem dX10_compared_36 : decode cX10_compared 36 = .ok (.ireturn, 1) := by decide +kernel
theorem dX10_takes_0 : decode cX10_takes 0 = .ok (.aload_n 0, 1) := by decide +kernel
theorem dX10_takes_1 : decode cX10_takes 1 = .ok (.getfield 174, 3) := by decide +kernel
theorem dX10_takes_4 : decode cX10_takes 4 = .ok (.ifCond .ge 11, 3) := by decide +kernel
theorem dX10_takes_15 : decode cX10_takes 15 = .ok (.iconst 0, 1) := by decide +kernel
theorem dX10_takes_16 : decode cX10_takes 16 = .ok (.ireturn, 1) := by decide +kernel
theorem dX10_both_0 : decode cX10_both 0 = .ok (.aload_n 0, 1) := by decide +kernel
theorem dX10_both_1 : decode cX10_both 1 = .ok (.invokevirtual 187, 3) := by decide +kernel
theorem dX10_both_4 : decode cX10_both 4 = .ok (.istore_n 1, 1) := by decide +kernel
theorem dX10_both_5 : decode cX10_both 5 = .ok (.aload_n 0, 1) := by decide +kernel
theorem dX10_both_6 : decode cX10_both 6 = .ok (.bipush 38, 2) := by decide +kernel
theorem dX10_both_8 : decode cX10_both 8 = .ok (.invokevirtual 184, 3) := by decide +kernel
theorem dX10_both_11 : decode cX10_both 11 = .ok (.ifCond .eq 25, 3) := by decide +kernel
theorem dX10_both_36 : decode cX10_both 36 = .ok (.iload_n 1, 1) := by decide +kernel
theorem dX10_both_37 : decode cX10_both 37 = .ok (.ireturn, 1) := by decide +kernel
theorem dX10_either_0 : decode cX10_either 0 = .ok (.aload_n 0, 1) := by decide +kernel
theorem dX10_either_1 : decode cX10_either 1 = .ok (.invokevirtual 181, 3) := by decide +kernel
theorem dX10_either_4 : decode cX10_either 4 = .ok (.istore_n 1, 1) := by decide +kernel
theorem dX10_either_5 : decode cX10_either 5 = .ok (.aload_n 0, 1) := by decide +kernel
theorem dX10_either_6 : decode cX10_either 6 = .ok (.bipush 124, 2) := by decide +kernel
theorem dX10_either_8 : decode cX10_either 8 = .ok (.invokevirtual 184, 3) := by decide +kernel
theorem dX10_either_11 : decode cX10_either 11 = .ok (.ifCond .eq 25, 3) := by decide +kernel
theorem dX10_either_36 : decode cX10_either 36 = .ok (.iload_n 1, 1) := by decide +kernel
theorem dX10_either_37 : decode cX10_either 37 = .ok (.ireturn, 1) := by decide +kernel
theorem dX10_workOut_0 : decode cX10_workOut 0 = .ok (.aload_n 0, 1) := by decide +kernel
theorem dX10_workOut_1 : decode cX10_workOut 1 = .ok (.iload_n 1, 1) := by decide +kernel
theorem dX10_workOut_2 : decode cX10_workOut 2 = .ok (.putfield 171, 3) := by decide +kernel
theorem dX10_workOut_5 : decode cX10_workOut 5 = .ok (.aload_n 0, 1) := by decide +kernel
theorem dX10_workOut_6 : decode cX10_workOut 6 = .ok (.iconst 0, 1) := by decide +kernel
theorem dX10_workOut_7 : decode cX10_workOut 7 = .ok (.putfield 165, 3) := by decide +kernel
theorem dX10_workOut_10 : decode cX10_workOut 10 = .ok (.aload_n 0, 1) := by decide +kernel
theorem dX10_workOut_11 : decode cX10_workOut 11 = .ok (.iload_n 2, 1) := by decide +kernel
theorem dX10_workOut_12 : decode cX10_workOut 12 = .ok (.putfield 168, 3) := by decide +kernel
theorem dX10_workOut_15 : decode cX10_workOut 15 = .ok (.aload_n 0, 1) := by decide +kernel
theorem dX10_workOut_16 : decode cX10_workOut 16 = .ok (.iconst (-1), 1) := by decide +kernel
theorem dX10_workOut_17 : decode cX10_workOut 17 = .ok (.putfield 174, 3) := by decide +kernel
theorem dX10_workOut_20 : decode cX10_workOut 20 = .ok (.aload_n 0, 1) := by decide +kernel
theorem dX10_workOut_21 : decode cX10_workOut 21 = .ok (.iconst 0, 1) := by decide +kernel
theorem dX10_workOut_22 : decode cX10_workOut 22 = .ok (.putfield 199, 3) := by decide +kernel
theorem dX10_workOut_25 : decode cX10_workOut 25 = .ok (.iconst 0, 1) := by decide +kernel
theorem dX10_workOut_26 : decode cX10_workOut 26 = .ok (.istore_n 3, 1) := by decide +kernel
theorem dX10_workOut_27 : decode cX10_workOut 27 = .ok (.iconst 0, 1) := by decide +kernel
theorem dX10_workOut_28 : decode cX10_workOut 28 = .ok (.istore 4, 2) := by decide +kernel
theorem dX10_workOut_30 : decode cX10_workOut 30 = .ok (.iconst 1, 1) := by decide +kernel
theorem dX10_workOut_31 : decode cX10_workOut 31 = .ok (.istore 5, 2) := by decide +kernel
theorem dX10_workOut_33 : decode cX10_workOut 33 = .ok (.iload 5, 2) := by decide +kernel
theorem dX10_workOut_35 : decode cX10_workOut 35 = .ok (.ifCond .eq 72, 3) := by decide +kernel
theorem dX10_workOut_38 : decode cX10_workOut 38 = .ok (.aload_n 0, 1) := by decide +kernel
theorem dX10_workOut_39 : decode cX10_workOut 39 = .ok (.invokevirtual 205, 3) := by decide +kernel
theorem dX10_workOut_42 : decode cX10_workOut 42 = .ok (.istore 6, 2) := by decide +kernel
theorem dX10_workOut_44 : decode cX10_workOut 44 = .ok (.iconst 1, 1) := by decide +kernel
theorem dX10_workOut_45 : decode cX10_workOut 45 = .ok (.istore 7, 2) := by decide +kernel
theorem dX10_workOut_47 : decode cX10_workOut 47 = .ok (.aload_n 0, 1) := by decide +kernel
theorem dX10_workOut_48 : decode cX10_workOut 48 = .ok (.bipush 63, 2) := by decide +kernel
theorem dX10_workOut_50 : decode cX10_workOut 50 = .ok (.invokevirtual 184, 3) := by decide +kernel
theorem dX10_workOut_53 : decode cX10_workOut 53 = .ok (.ifCond .eq 21, 3) := by decide +kernel
theorem dX10_workOut_74 : decode cX10_workOut 74 = .ok (.aload_n 0, 1) := by decide +kernel
theorem dX10_workOut_75 : decode cX10_workOut 75 = .ok (.getfield 174, 3) := by decide +kernel
theorem dX10_workOut_78 : decode cX10_workOut 78 = .ok (.ifCond .ge 18, 3) := by decide +kernel
theorem dX10_workOut_96 : decode cX10_workOut 96 = .ok (.aload_n 0, 1) := by decide +kernel
theorem dX10_workOut_97 : decode cX10_workOut 97 = .ok (.bipush 59, 2) := by decide +kernel
theorem dX10_workOut_99 : decode cX10_workOut 99 = .ok (.invokevirtual 184, 3) := by decide +kernel
theorem dX10_workOut_102 : decode cX10_workOut 102 = .ok (.istore 5, 2) := by decide +kernel
theorem dX10_workOut_104 : decode cX10_workOut 104 = .ok (.goto (-71), 3) := by decide +kernel
theorem dX10_workOut_107 : decode cX10_workOut 107 = .ok (.aload_n 0, 1) := by decide +kernel
theorem dX10_workOut_108 : decode cX10_workOut 108 = .ok (.getfield 174, 3) := by decide +kernel
theorem dX10_workOut_111 : decode cX10_workOut 111 = .ok (.ifCond .ge 19, 3) := by decide +kernel
theorem dX10_workOut_130 : decode cX10_workOut 130 = .ok (.iload 4, 2) := by decide +kernel
theorem dX10_workOut_132 : decode cX10_workOut 132 = .ok (.ireturn, 1) := by decide +kernel
theorem dX10_law_0 : decode cX10_law 0 = .ok (.aload_n 0, 1) := by decide +kernel
theorem dX10_law_1 : decode cX10_law 1 = .ok (.iconst (-1), 1) := by decide +kernel
theorem dX10_law_2 : decode cX10_law 2 = .ok (.aload_n 0, 1) := by decide +kernel
theorem dX10_law_3 : decode cX10_law 3 = .ok (.getfield 162, 3) := by decide +kernel
theorem dX10_law_6 : decode cX10_law 6 = .ok (.invokevirtual 211, 3) := by decide +kernel
theorem dX10_law_9 : decode cX10_law 9 = .ok (.istore_n 1, 1) := by decide +kernel
theorem dX10_law_10 : decode cX10_law 10 = .ok (.aload_n 0, 1) := by decide +kernel
theorem dX10_law_11 : decode cX10_law 11 = .ok (.getfield 162, 3) := by decide +kernel
theorem dX10_law_14 : decode cX10_law 14 = .ok (.istore_n 2, 1) := by decide +kernel
theorem dX10_law_15 : decode cX10_law 15 = .ok (.aload_n 0, 1) := by decide +kernel
theorem dX10_law_16 : decode cX10_law 16 = .ok (.iconst 0, 1) := by decide +kernel
theorem dX10_law_17 : decode cX10_law 17 = .ok (.putfield 162, 3) := by decide +kernel
theorem dX10_law_20 : decode cX10_law 20 = .ok (.aload_n 0, 1) := by decide +kernel
theorem dX10_law_21 : decode cX10_law 21 = .ok (.getfield 174, 3) := by decide +kernel
theorem dX10_law_24 : decode cX10_law 24 = .ok (.ifCond .lt 11, 3) := by decide +kernel
theorem dX10_law_27 : decode cX10_law 27 = .ok (.bipush (-100), 2) := by decide +kernel
theorem dX10_law_29 : decode cX10_law 29 = .ok (.aload_n 0, 1) := by decide +kernel
theorem dX10_law_30 : decode cX10_law 30 = .ok (.getfield 174, 3) := by decide +kernel
theorem dX10_law_33 : decode cX10_law 33 = .ok (.isub, 1) := by decide +kernel
theorem dX10_law_34 : decode cX10_law 34 = .ok (.ireturn, 1) := by decide +kernel
theorem dX10_mistaken_26 : decode cX10_mistaken 26 = .ok (.iload 6, 2) := by decide +kernel
theorem dX10_mistaken_28 : decode cX10_mistaken 28 = .ok (.sipush 200, 3) := by decide +kernel
theorem dX10_mistaken_31 : decode cX10_mistaken 31 = .ok (.if_icmp .gt 215, 3) := by decide +kernel
theorem dX10_mistaken_246 : decode cX10_mistaken 246 = .ok (.aload_n 0, 1) := by decide +kernel
theorem dX10_mistaken_247 : decode cX10_mistaken 247 = .ok (.aload_n 0, 1) := by decide +kernel
theorem dX10_mistaken_248 : decode cX10_mistaken 248 = .ok (.getfield 273, 3) := by decide +kernel
theorem dX10_mistaken_251 : decode cX10_mistaken 251 = .ok (.ifCond .lt 10, 3) := by decide +kernel
theorem dX10_mistaken_261 : decode cX10_mistaken 261 = .ok (.iload 5, 2) := by decide +kernel
theorem dX10_mistaken_263 : decode cX10_mistaken 263 = .ok (.ifCond .eq 8, 3) := by decide +kernel
theorem dX10_mistaken_271 : decode cX10_mistaken 271 = .ok (.iconst 0, 1) := by decide +kernel
theorem dX10_mistaken_272 : decode cX10_mistaken 272 = .ok (.putfield 273, 3) := by decide +kernel
theorem dX10_mistaken_275 : decode cX10_mistaken 275 = .ok (.iload_n 3, 1) := by decide +kernel
theorem dX10_mistaken_276 : decode cX10_mistaken 276 = .ok (.ifCond .ge 9, 3) := by decide +kernel
theorem dX10_mistaken_279 : decode cX10_mistaken 279 = .ok (.sipush 200, 3) := by decide +kernel
theorem dX10_mistaken_282 : decode cX10_mistaken 282 = .ok (.goto 4, 3) := by decide +kernel
theorem dX10_mistaken_286 : decode cX10_mistaken 286 = .ok (.ireturn, 1) := by decide +kernel
theorem dX10_mistaken_34 : decode cX10_mistaken 34 = .ok (.iconst 1, 1) := by decide +kernel
theorem dX10_mistaken_35 : decode cX10_mistaken 35 = .ok (.istore 7, 2) := by decide +kernel
theorem dX10_mistaken_37 : decode cX10_mistaken 37 = .ok (.iconst 0, 1) := by decide +kernel
theorem dX10_mistaken_38 : decode cX10_mistaken 38 = .ok (.istore 8, 2) := by decide +kernel
theorem dX10_mistaken_40 : decode cX10_mistaken 40 = .ok (.iload 8, 2) := by decide +kernel
theorem dX10_mistaken_42 : decode cX10_mistaken 42 = .ok (.aload_n 0, 1) := by decide +kernel
theorem dX10_mistaken_43 : decode cX10_mistaken 43 = .ok (.getfield 109, 3) := by decide +kernel
theorem dX10_mistaken_46 : decode cX10_mistaken 46 = .ok (.if_icmp .ge 40, 3) := by decide +kernel
theorem dX10_mistaken_86 : decode cX10_mistaken 86 = .ok (.aload_n 0, 1) := by decide +kernel
theorem dX10_mistaken_87 : decode cX10_mistaken 87 = .ok (.aload_n 0, 1) := by decide +kernel
theorem dX10_mistaken_88 : decode cX10_mistaken 88 = .ok (.getfield 273, 3) := by decide +kernel
theorem dX10_mistaken_91 : decode cX10_mistaken 91 = .ok (.ifCond .ge 18, 3) := by decide +kernel
theorem dX10_mistaken_94 : decode cX10_mistaken 94 = .ok (.iload 5, 2) := by decide +kernel
theorem dX10_mistaken_96 : decode cX10_mistaken 96 = .ok (.ifCond .eq 13, 3) := by decide +kernel
theorem dX10_mistaken_109 : decode cX10_mistaken 109 = .ok (.aload_n 0, 1) := by decide +kernel
theorem dX10_mistaken_110 : decode cX10_mistaken 110 = .ok (.getfield 273, 3) := by decide +kernel
theorem dX10_mistaken_113 : decode cX10_mistaken 113 = .ok (.putfield 273, 3) := by decide +kernel
theorem dX10_mistaken_116 : decode cX10_mistaken 116 = .ok (.iload 5, 2) := by decide +kernel
theorem dX10_mistaken_118 : decode cX10_mistaken 118 = .ok (.iload 7, 2) := by decide +kernel
theorem dX10_mistaken_120 : decode cX10_mistaken 120 = .ok (.ifCond .ne 7, 3) := by decide +kernel
theorem dX10_mistaken_127 : decode cX10_mistaken 127 = .ok (.iconst 0, 1) := by decide +kernel
theorem dX10_mistaken_128 : decode cX10_mistaken 128 = .ok (.ior, 1) := by decide +kernel
theorem dX10_mistaken_129 : decode cX10_mistaken 129 = .ok (.istore 5, 2) := by decide +kernel
theorem dX10_mistaken_131 : decode cX10_mistaken 131 = .ok (.iload_n 3, 1) := by decide +kernel
theorem dX10_mistaken_132 : decode cX10_mistaken 132 = .ok (.ifCond .ge 18, 3) := by decide +kernel
theorem dX10_mistaken_135 : decode cX10_mistaken 135 = .ok (.aload_n 0, 1) := by decide +kernel
theorem dX10_mistaken_136 : decode cX10_mistaken 136 = .ok (.iload_n 2, 1) := by decide +kernel
theorem dX10_mistaken_137 : decode cX10_mistaken 137 = .ok (.invokevirtual 252, 3) := by decide +kernel
theorem dX10_mistaken_140 : decode cX10_mistaken 140 = .ok (.ifCond .le 10, 3) := by decide +kernel
theorem dX10_mistaken_150 : decode cX10_mistaken 150 = .ok (.iload_n 3, 1) := by decide +kernel
theorem dX10_mistaken_151 : decode cX10_mistaken 151 = .ok (.istore_n 3, 1) := by decide +kernel
theorem dX10_mistaken_152 : decode cX10_mistaken 152 = .ok (.iload 6, 2) := by decide +kernel
theorem dX10_mistaken_154 : decode cX10_mistaken 154 = .ok (.sipush 200, 3) := by decide +kernel
theorem dX10_mistaken_157 : decode cX10_mistaken 157 = .ok (.if_icmp .ge 83, 3) := by decide +kernel
theorem dX10_mistaken_240 : decode cX10_mistaken 240 = .ok (.iinc 6 1, 3) := by decide +kernel
theorem dX10_mistaken_243 : decode cX10_mistaken 243 = .ok (.goto (-217), 3) := by decide +kernel
theorem dX10_mistaken_160 : decode cX10_mistaken 160 = .ok (.aload_n 0, 1) := by decide +kernel
theorem dX10_mistaken_161 : decode cX10_mistaken 161 = .ok (.aload_n 0, 1) := by decide +kernel
theorem dX10_mistaken_162 : decode cX10_mistaken 162 = .ok (.getfield 151, 3) := by decide +kernel
theorem dX10_mistaken_165 : decode cX10_mistaken 165 = .ok (.iload 6, 2) := by decide +kernel
theorem dX10_mistaken_167 : decode cX10_mistaken 167 = .ok (.iadd, 1) := by decide +kernel
theorem dX10_mistaken_168 : decode cX10_mistaken 168 = .ok (.invokevirtual 228, 3) := by decide +kernel
theorem dX10_mistaken_171 : decode cX10_mistaken 171 = .ok (.ifCond .eq 12, 3) := by decide +kernel
theorem dX10_mistaken_183 : decode cX10_mistaken 183 = .ok (.iconst 0, 1) := by decide +kernel
theorem dX10_mistaken_184 : decode cX10_mistaken 184 = .ok (.istore 8, 2) := by decide +kernel
theorem dX10_mistaken_186 : decode cX10_mistaken 186 = .ok (.iload 4, 2) := by decide +kernel
theorem dX10_mistaken_188 : decode cX10_mistaken 188 = .ok (.aload_n 0, 1) := by decide +kernel
theorem dX10_mistaken_189 : decode cX10_mistaken 189 = .ok (.aload_n 0, 1) := by decide +kernel
theorem dX10_mistaken_190 : decode cX10_mistaken 190 = .ok (.getfield 151, 3) := by decide +kernel
theorem dX10_mistaken_193 : decode cX10_mistaken 193 = .ok (.iload 6, 2) := by decide +kernel
theorem dX10_mistaken_195 : decode cX10_mistaken 195 = .ok (.iadd, 1) := by decide +kernel
theorem dX10_mistaken_196 : decode cX10_mistaken 196 = .ok (.invokevirtual 228, 3) := by decide +kernel
theorem dX10_mistaken_199 : decode cX10_mistaken 199 = .ok (.ifCond .eq 7, 3) := by decide +kernel
theorem dX10_mistaken_206 : decode cX10_mistaken 206 = .ok (.iconst 0, 1) := by decide +kernel
theorem dX10_mistaken_207 : decode cX10_mistaken 207 = .ok (.isub, 1) := by decide +kernel
theorem dX10_mistaken_208 : decode cX10_mistaken 208 = .ok (.istore 4, 2) := by decide +kernel
theorem dX10_mistaken_210 : decode cX10_mistaken 210 = .ok (.iload 8, 2) := by decide +kernel
theorem dX10_mistaken_212 : decode cX10_mistaken 212 = .ok (.ifCond .eq 17, 3) := by decide +kernel
theorem dX10_mistaken_229 : decode cX10_mistaken 229 = .ok (.aload_n 0, 1) := by decide +kernel
theorem dX10_mistaken_230 : decode cX10_mistaken 230 = .ok (.aload_n 0, 1) := by decide +kernel
theorem dX10_mistaken_231 : decode cX10_mistaken 231 = .ok (.getfield 151, 3) := by decide +kernel
theorem dX10_mistaken_234 : decode cX10_mistaken 234 = .ok (.iload 6, 2) := by decide +kernel
theorem dX10_mistaken_236 : decode cX10_mistaken 236 = .ok (.iadd, 1) := by decide +kernel
theorem dX10_mistaken_237 : decode cX10_mistaken 237 = .ok (.invokevirtual 255, 3) := by decide +kernel
theorem dX10_mistaken_202 : decode cX10_mistaken 202 = .ok (.iconst 1, 1) := by decide +kernel
theorem dX10_mistaken_203 : decode cX10_mistaken 203 = .ok (.goto 4, 3) := by decide +kernel
theorem dX10_mistaken_174 : decode cX10_mistaken 174 = .ok (.iload 4, 2) := by decide +kernel
theorem dX10_mistaken_176 : decode cX10_mistaken 176 = .ok (.ifCond .ne 7, 3) := by decide +kernel
theorem dX10_mistaken_179 : decode cX10_mistaken 179 = .ok (.iconst 1, 1) := by decide +kernel
theorem dX10_mistaken_180 : decode cX10_mistaken 180 = .ok (.goto 4, 3) := by decide +kernel
theorem dX10_mistaken_215 : decode cX10_mistaken 215 = .ok (.aload_n 0, 1) := by decide +kernel
theorem dX10_mistaken_216 : decode cX10_mistaken 216 = .ok (.aload_n 0, 1) := by decide +kernel
theorem dX10_mistaken_217 : decode cX10_mistaken 217 = .ok (.getfield 151, 3) := by decide +kernel
theorem dX10_mistaken_220 : decode cX10_mistaken 220 = .ok (.iload 6, 2) := by decide +kernel
theorem dX10_mistaken_222 : decode cX10_mistaken 222 = .ok (.iadd, 1) := by decide +kernel
theorem dX10_mistaken_223 : decode cX10_mistaken 223 = .ok (.invokevirtual 240, 3) := by decide +kernel
theorem dX10_mistaken_226 : decode cX10_mistaken 226 = .ok (.goto 14, 3) := by decide +kernel
theorem dX10_mistaken_0 : decode cX10_mistaken 0 = .ok (.aload_n 0, 1) := by decide +kernel
theorem dX10_mistaken_1 : decode cX10_mistaken 1 = .ok (.invokevirtual 246, 3) := by decide +kernel
theorem dX10_mistaken_4 : decode cX10_mistaken 4 = .ok (.istore_n 2, 1) := by decide +kernel
theorem dX10_mistaken_5 : decode cX10_mistaken 5 = .ok (.aload_n 0, 1) := by decide +kernel
theorem dX10_mistaken_6 : decode cX10_mistaken 6 = .ok (.iload_n 2, 1) := by decide +kernel
theorem dX10_mistaken_7 : decode cX10_mistaken 7 = .ok (.invokevirtual 249, 3) := by decide +kernel
theorem dX10_mistaken_10 : decode cX10_mistaken 10 = .ok (.iconst (-1), 1) := by decide +kernel
theorem dX10_mistaken_11 : decode cX10_mistaken 11 = .ok (.istore_n 3, 1) := by decide +kernel
theorem dX10_mistaken_12 : decode cX10_mistaken 12 = .ok (.iload_n 1, 1) := by decide +kernel
theorem dX10_mistaken_13 : decode cX10_mistaken 13 = .ok (.istore 4, 2) := by decide +kernel
theorem dX10_mistaken_15 : decode cX10_mistaken 15 = .ok (.iconst 0, 1) := by decide +kernel
theorem dX10_mistaken_16 : decode cX10_mistaken 16 = .ok (.istore 5, 2) := by decide +kernel
theorem dX10_mistaken_18 : decode cX10_mistaken 18 = .ok (.aload_n 0, 1) := by decide +kernel
theorem dX10_mistaken_19 : decode cX10_mistaken 19 = .ok (.iconst (-1), 1) := by decide +kernel
theorem dX10_mistaken_20 : decode cX10_mistaken 20 = .ok (.putfield 273, 3) := by decide +kernel
theorem dX10_mistaken_23 : decode cX10_mistaken 23 = .ok (.iconst 0, 1) := by decide +kernel
theorem dX10_mistaken_24 : decode cX10_mistaken 24 = .ok (.istore 6, 2) := by decide +kernel
theorem dX10_mistake_0 : decode cX10_mistake 0 = .ok (.iload_n 1, 1) := by decide +kernel
theorem dX10_mistake_1 : decode cX10_mistake 1 = .ok (.i2l, 1) := by decide +kernel
theorem dX10_mistake_2 : decode cX10_mistake 2 = .ok (.lconst 0, 1) := by decide +kernel
theorem dX10_mistake_3 : decode cX10_mistake 3 = .ok (.ldc2_w 276, 3) := by decide +kernel
theorem dX10_mistake_6 : decode cX10_mistake 6 = .ok (.invokestatic 101, 3) := by decide +kernel
theorem dX10_mistake_9 : decode cX10_mistake 9 = .ok (.ifCond .eq 13, 3) := by decide +kernel
theorem dX10_mistake_22 : decode cX10_mistake 22 = .ok (.iconst (-1), 1) := by decide +kernel
theorem dX10_mistake_23 : decode cX10_mistake 23 = .ok (.ireturn, 1) := by decide +kernel
theorem dX10_mistake_12 : decode cX10_mistake 12 = .ok (.iload_n 2, 1) := by decide +kernel
theorem dX10_mistake_13 : decode cX10_mistake 13 = .ok (.i2l, 1) := by decide +kernel
theorem dX10_mistake_14 : decode cX10_mistake 14 = .ok (.lconst 0, 1) := by decide +kernel
theorem dX10_mistake_15 : decode cX10_mistake 15 = .ok (.lconst 1, 1) := by decide +kernel
theorem dX10_mistake_16 : decode cX10_mistake 16 = .ok (.invokestatic 101, 3) := by decide +kernel
theorem dX10_mistake_19 : decode cX10_mistake 19 = .ok (.ifCond .ne 5, 3) := by decide +kernel
theorem dX10_mistake_24 : decode cX10_mistake 24 = .ok (.aload_n 0, 1) := by decide +kernel
theorem dX10_mistake_25 : decode cX10_mistake 25 = .ok (.iload_n 1, 1) := by decide +kernel
theorem dX10_mistake_26 : decode cX10_mistake 26 = .ok (.invokevirtual 278, 3) := by decide +kernel
theorem dX10_mistake_29 : decode cX10_mistake 29 = .ok (.istore_n 3, 1) := by decide +kernel
theorem dX10_mistake_30 : decode cX10_mistake 30 = .ok (.iload_n 2, 1) := by decide +kernel
theorem dX10_mistake_31 : decode cX10_mistake 31 = .ok (.ifCond .ne 7, 3) := by decide +kernel
theorem dX10_mistake_38 : decode cX10_mistake 38 = .ok (.aload_n 0, 1) := by decide +kernel
theorem dX10_mistake_39 : decode cX10_mistake 39 = .ok (.getfield 273, 3) := by decide +kernel
theorem dX10_mistake_42 : decode cX10_mistake 42 = .ok (.ireturn, 1) := by decide +kernel
theorem dX10_mistake_34 : decode cX10_mistake 34 = .ok (.iload_n 3, 1) := by decide +kernel
theorem dX10_mistake_35 : decode cX10_mistake 35 = .ok (.goto 7, 3) := by decide +kernel
theorem dX10_beatFor_47 : decode cX10_beatFor 47 = .ok (.iload 7, 2) := by decide +kernel
theorem dX10_beatFor_49 : decode cX10_beatFor 49 = .ok (.iload 6, 2) := by decide +kernel
theorem dX10_beatFor_51 : decode cX10_beatFor 51 = .ok (.if_icmp .ge 71, 3) := by decide +kernel
theorem dX10_beatFor_54 : decode cX10_beatFor 54 = .ok (.aload_n 0, 1) := by decide +kernel
theorem dX10_beatFor_55 : decode cX10_beatFor 55 = .ok (.getfield 9, 3) := by decide +kernel
theorem dX10_beatFor_58 : decode cX10_beatFor 58 = .ok (.bipush 16, 2) := by decide +kernel
theorem dX10_beatFor_60 : decode cX10_beatFor 60 = .ok (.iload 6, 2) := by decide +kernel
theorem dX10_beatFor_62 : decode cX10_beatFor 62 = .ok (.iastore, 1) := by decide +kernel
theorem dX10_beatFor_63 : decode cX10_beatFor 63 = .ok (.aload_n 0, 1) := by decide +kernel
theorem dX10_beatFor_64 : decode cX10_beatFor 64 = .ok (.getfield 9, 3) := by decide +kernel
theorem dX10_beatFor_67 : decode cX10_beatFor 67 = .ok (.bipush 17, 2) := by decide +kernel
theorem dX10_beatFor_69 : decode cX10_beatFor 69 = .ok (.iload 7, 2) := by decide +kernel
theorem dX10_beatFor_71 : decode cX10_beatFor 71 = .ok (.iastore, 1) := by decide +kernel
theorem dX10_beatFor_72 : decode cX10_beatFor 72 = .ok (.aload_n 0, 1) := by decide +kernel
theorem dX10_beatFor_73 : decode cX10_beatFor 73 = .ok (.invokevirtual 270, 3) := by decide +kernel
theorem dX10_beatFor_76 : decode cX10_beatFor 76 = .ok (.istore 8, 2) := by decide +kernel
theorem dX10_beatFor_78 : decode cX10_beatFor 78 = .ok (.iload 8, 2) := by decide +kernel
theorem dX10_beatFor_80 : decode cX10_beatFor 80 = .ok (.iload 5, 2) := by decide +kernel
theorem dX10_beatFor_82 : decode cX10_beatFor 82 = .ok (.if_icmp .le 14, 3) := by decide +kernel
theorem dX10_beatFor_96 : decode cX10_beatFor 96 = .ok (.iload 4, 2) := by decide +kernel
theorem dX10_beatFor_98 : decode cX10_beatFor 98 = .ok (.istore 4, 2) := by decide +kernel
theorem dX10_beatFor_100 : decode cX10_beatFor 100 = .ok (.iload 8, 2) := by decide +kernel
theorem dX10_beatFor_102 : decode cX10_beatFor 102 = .ok (.iload 5, 2) := by decide +kernel
theorem dX10_beatFor_104 : decode cX10_beatFor 104 = .ok (.if_icmp .le 8, 3) := by decide +kernel
theorem dX10_beatFor_112 : decode cX10_beatFor 112 = .ok (.iload 5, 2) := by decide +kernel
theorem dX10_beatFor_114 : decode cX10_beatFor 114 = .ok (.istore 5, 2) := by decide +kernel
theorem dX10_beatFor_116 : decode cX10_beatFor 116 = .ok (.iinc 7 1, 3) := by decide +kernel
theorem dX10_beatFor_119 : decode cX10_beatFor 119 = .ok (.goto (-72), 3) := by decide +kernel
theorem dX10_beatFor_37 : decode cX10_beatFor 37 = .ok (.iload 6, 2) := by decide +kernel
theorem dX10_beatFor_39 : decode cX10_beatFor 39 = .ok (.bipush 24, 2) := by decide +kernel
theorem dX10_beatFor_41 : decode cX10_beatFor 41 = .ok (.if_icmp .gt 87, 3) := by decide +kernel
theorem dX10_beatFor_128 : decode cX10_beatFor 128 = .ok (.aload_n 0, 1) := by decide +kernel
theorem dX10_beatFor_129 : decode cX10_beatFor 129 = .ok (.getfield 9, 3) := by decide +kernel
theorem dX10_beatFor_132 : decode cX10_beatFor 132 = .ok (.bipush 16, 2) := by decide +kernel
theorem dX10_beatFor_134 : decode cX10_beatFor 134 = .ok (.iload_n 2, 1) := by decide +kernel
theorem dX10_beatFor_135 : decode cX10_beatFor 135 = .ok (.iastore, 1) := by decide +kernel
theorem dX10_beatFor_136 : decode cX10_beatFor 136 = .ok (.aload_n 0, 1) := by decide +kernel
theorem dX10_beatFor_137 : decode cX10_beatFor 137 = .ok (.getfield 9, 3) := by decide +kernel
theorem dX10_beatFor_140 : decode cX10_beatFor 140 = .ok (.bipush 17, 2) := by decide +kernel
theorem dX10_beatFor_142 : decode cX10_beatFor 142 = .ok (.iload_n 3, 1) := by decide +kernel
theorem dX10_beatFor_143 : decode cX10_beatFor 143 = .ok (.iastore, 1) := by decide +kernel
theorem dX10_beatFor_144 : decode cX10_beatFor 144 = .ok (.iload_n 1, 1) := by decide +kernel
theorem dX10_beatFor_145 : decode cX10_beatFor 145 = .ok (.ifCond .ne 8, 3) := by decide +kernel
theorem dX10_beatFor_153 : decode cX10_beatFor 153 = .ok (.iload 5, 2) := by decide +kernel
theorem dX10_beatFor_155 : decode cX10_beatFor 155 = .ok (.ireturn, 1) := by decide +kernel
theorem dX10_beatFor_148 : decode cX10_beatFor 148 = .ok (.iload 4, 2) := by decide +kernel
theorem dX10_beatFor_150 : decode cX10_beatFor 150 = .ok (.goto 5, 3) := by decide +kernel
theorem dX10_beatFor_44 : decode cX10_beatFor 44 = .ok (.iconst 0, 1) := by decide +kernel
theorem dX10_beatFor_45 : decode cX10_beatFor 45 = .ok (.istore 7, 2) := by decide +kernel
theorem dX10_beatFor_122 : decode cX10_beatFor 122 = .ok (.iinc 6 1, 3) := by decide +kernel
theorem dX10_beatFor_125 : decode cX10_beatFor 125 = .ok (.goto (-88), 3) := by decide +kernel
theorem dX10_beatFor_0 : decode cX10_beatFor 0 = .ok (.iload_n 1, 1) := by decide +kernel
theorem dX10_beatFor_1 : decode cX10_beatFor 1 = .ok (.i2l, 1) := by decide +kernel
theorem dX10_beatFor_2 : decode cX10_beatFor 2 = .ok (.lconst 0, 1) := by decide +kernel
theorem dX10_beatFor_3 : decode cX10_beatFor 3 = .ok (.lconst 1, 1) := by decide +kernel
theorem dX10_beatFor_4 : decode cX10_beatFor 4 = .ok (.invokestatic 101, 3) := by decide +kernel
theorem dX10_beatFor_7 : decode cX10_beatFor 7 = .ok (.ifCond .ne 5, 3) := by decide +kernel
theorem dX10_beatFor_12 : decode cX10_beatFor 12 = .ok (.aload_n 0, 1) := by decide +kernel
theorem dX10_beatFor_13 : decode cX10_beatFor 13 = .ok (.getfield 9, 3) := by decide +kernel
theorem dX10_beatFor_16 : decode cX10_beatFor 16 = .ok (.bipush 16, 2) := by decide +kernel
theorem dX10_beatFor_18 : decode cX10_beatFor 18 = .ok (.iaload, 1) := by decide +kernel
theorem dX10_beatFor_19 : decode cX10_beatFor 19 = .ok (.istore_n 2, 1) := by decide +kernel
theorem dX10_beatFor_20 : decode cX10_beatFor 20 = .ok (.aload_n 0, 1) := by decide +kernel
theorem dX10_beatFor_21 : decode cX10_beatFor 21 = .ok (.getfield 9, 3) := by decide +kernel
theorem dX10_beatFor_24 : decode cX10_beatFor 24 = .ok (.bipush 17, 2) := by decide +kernel
theorem dX10_beatFor_26 : decode cX10_beatFor 26 = .ok (.iaload, 1) := by decide +kernel
theorem dX10_beatFor_27 : decode cX10_beatFor 27 = .ok (.istore_n 3, 1) := by decide +kernel
theorem dX10_beatFor_28 : decode cX10_beatFor 28 = .ok (.iconst 0, 1) := by decide +kernel
theorem dX10_beatFor_29 : decode cX10_beatFor 29 = .ok (.istore 4, 2) := by decide +kernel
theorem dX10_beatFor_31 : decode cX10_beatFor 31 = .ok (.iconst (-1), 1) := by decide +kernel
theorem dX10_beatFor_32 : decode cX10_beatFor 32 = .ok (.istore 5, 2) := by decide +kernel
theorem dX10_beatFor_34 : decode cX10_beatFor 34 = .ok (.iconst 2, 1) := by decide +kernel
theorem dX10_beatFor_35 : decode cX10_beatFor 35 = .ok (.istore 6, 2) := by decide +kernel
theorem dX10_beatFor_85 : decode cX10_beatFor 85 = .ok (.bipush 100, 2) := by decide +kernel
theorem dX10_beatFor_87 : decode cX10_beatFor 87 = .ok (.iload 6, 2) := by decide +kernel
theorem dX10_beatFor_89 : decode cX10_beatFor 89 = .ok (.imul, 1) := by decide +kernel
theorem dX10_beatFor_90 : decode cX10_beatFor 90 = .ok (.iload 7, 2) := by decide +kernel
theorem dX10_beatFor_92 : decode cX10_beatFor 92 = .ok (.iadd, 1) := by decide +kernel
theorem dX10_beatFor_93 : decode cX10_beatFor 93 = .ok (.goto 5, 3) := by decide +kernel
theorem dX10_beatFor_107 : decode cX10_beatFor 107 = .ok (.iload 8, 2) := by decide +kernel
theorem dX10_beatFor_109 : decode cX10_beatFor 109 = .ok (.goto 5, 3) := by decide +kernel
theorem dX10_beatFor_10 : decode cX10_beatFor 10 = .ok (.iconst (-1), 1) := by decide +kernel
theorem dX10_beatFor_11 : decode cX10_beatFor 11 = .ok (.ireturn, 1) := by decide +kernel
set_option maxRecDepth 100000 in
set_option maxHeartbeats 4000000 in
theorem wr_c9_byteAt {l : Launch} {G : xG} {M : xM} {J : xJ} (hF : Fr M) : x_M l G fX10_byteAt 0 0 0 [.ref (62)] x_SH (x_up (x_up (x_up (x_up (x_up M 62 14 (-1)) 62 15 0) 62 16 0) 62 17 (-1)) 62 18 0) J (qE (some (.int (0))) x_SH (x_up (x_up (x_up (x_up (x_up M 62 14 (-1)) 62 15 0) 62 16 0) 62 17 (-1)) 62 18 0) J) := by
  refine xb_of pX10 (Nat.le_of_ble_eq_true rfl) rfl ?_
  refine xr_aload_n dX10_byteAt_0 0 rfl ?_
  refine xb_get (v := 0) flX10_165 dX10_byteAt_1 s_62 rfl (Eq.trans (x_up_k _ _ _ (by decide)) (Eq.trans (x_up_k _ _ _ (by decide)) (Eq.trans (x_up_k _ _ _ (by decide)) (x_up_s _ _ _ _)))) ?_
  refine xr_aload_n dX10_byteAt_4 0 rfl ?_
  refine xb_get (v := 0) flX10_168 dX10_byteAt_5 s_62 rfl (Eq.trans (x_up_k _ _ _ (by decide)) (Eq.trans (x_up_k _ _ _ (by decide)) (x_up_s _ _ _ _))) ?_
  refine xr_icmp_ge (tgt := 47) dX10_byteAt_8 rfl (fun _ => ?_) (fun c => absurd (by decide) c)
  refine xr_iconst (v := 0) dX10_byteAt_47 rfl ?_
  exact xr_iret dX10_byteAt_48 rfl rfl (⟨rfl, rfl, rfl, rfl⟩)
set_option maxRecDepth 100000 in
set_option maxHeartbeats 4000000 in
theorem wr_c10_nameOf {l : Launch} {G : xG} {M : xM} {J : xJ} (hF : Fr M) : x_M l G fX10_nameOf 0 0 0 [.int (0)] x_SH (x_up (x_up (x_up (x_up (x_up M 62 14 (-1)) 62 15 0) 62 16 0) 62 17 (-1)) 62 18 0) J (qE (some (.int ((-1)))) x_SH (x_up (x_up (x_up (x_up (x_up M 62 14 (-1)) 62 15 0) 62 16 0) 62 17 (-1)) 62 18 0) J) := by
  refine xb_of pX10 (Nat.le_of_ble_eq_true rfl) rfl ?_
  refine xr_iload_n dX10_nameOf_0 0 rfl ?_
  refine xr_tableOut (tgt := 108) dX10_nameOf_1 (by decide) rfl ?_
  refine xr_iconst (v := -1) dX10_nameOf_108 rfl ?_
  exact xr_iret dX10_nameOf_109 rfl rfl (⟨rfl, rfl, rfl, rfl⟩)
set_option maxRecDepth 100000 in
set_option maxHeartbeats 4000000 in
theorem wr_c11_byteAt {l : Launch} {G : xG} {M : xM} {J : xJ} (hF : Fr M) : x_M l G fX10_byteAt 0 0 0 [.ref (62)] x_SH (x_up (x_up (x_up (x_up (x_up M 62 14 (-1)) 62 15 0) 62 16 0) 62 17 (-1)) 62 18 0) J (qE (some (.int (0))) x_SH (x_up (x_up (x_up (x_up (x_up M 62 14 (-1)) 62 15 0) 62 16 0) 62 17 (-1)) 62 18 0) J) := by
  refine xb_of pX10 (Nat.le_of_ble_eq_true rfl) rfl ?_
  refine xr_aload_n dX10_byteAt_0 0 rfl ?_
  refine xb_get (v := 0) flX10_165 dX10_byteAt_1 s_62 rfl (Eq.trans (x_up_k _ _ _ (by decide)) (Eq.trans (x_up_k _ _ _ (by decide)) (Eq.trans (x_up_k _ _ _ (by decide)) (x_up_s _ _ _ _)))) ?_
  refine xr_aload_n dX10_byteAt_4 0 rfl ?_
  refine xb_get (v := 0) flX10_168 dX10_byteAt_5 s_62 rfl (Eq.trans (x_up_k _ _ _ (by decide)) (Eq.trans (x_up_k _ _ _ (by decide)) (x_up_s _ _ _ _))) ?_
  refine xr_icmp_ge (tgt := 47) dX10_byteAt_8 rfl (fun _ => ?_) (fun c => absurd (by decide) c)
  refine xr_iconst (v := 0) dX10_byteAt_47 rfl ?_
  exact xr_iret dX10_byteAt_48 rfl rfl (⟨rfl, rfl, rfl, rfl⟩)
set_option maxRecDepth 100000 in
set_option maxHeartbeats 4000000 in
theorem wr_c12_wrong {l : Launch} {G : xG} {M : xM} {J : xJ} (hF : Fr M) : x_M l G fX10_wrong 0 0 0 [.ref (62)] x_SH (x_up (x_up (x_up (x_up (x_up M 62 14 (-1)) 62 15 0) 62 16 0) 62 17 (-1)) 62 18 0) J (qE (some (.int (0))) x_SH (x_up (x_up (x_up (x_up (x_up (x_up M 62 14 (-1)) 62 15 0) 62 16 0) 62 17 (-1)) 62 18 0) 62 17 0) J) := by
  refine xb_of pX10 (Nat.le_of_ble_eq_true rfl) rfl ?_
  refine xr_aload_n dX10_wrong_0 0 rfl ?_
  refine xr_aload_n dX10_wrong_1 0 rfl ?_
  refine xb_get (v := (-1)) flX10_174 dX10_wrong_2 s_62 rfl (Eq.trans (x_up_k _ _ _ (by decide)) (x_up_s _ _ _ _)) ?_
  refine xr_if_ge (tgt := 15) dX10_wrong_5 rfl (fun c => absurd c (by decide)) (fun _ => ?_)
  refine xr_aload_n dX10_wrong_8 0 rfl ?_
  refine xb_get (v := 0) flX10_165 dX10_wrong_9 s_62 rfl (Eq.trans (x_up_k _ _ _ (by decide)) (Eq.trans (x_up_k _ _ _ (by decide)) (Eq.trans (x_up_k _ _ _ (by decide)) (x_up_s _ _ _ _)))) ?_
  refine xr_goto (tgt := 19) dX10_wrong_12 rfl ?_
  refine xr_putI fpX10_174 dX10_wrong_19 s_62 rfl rfl rfl ?_
  refine xr_iconst (v := 0) dX10_wrong_22 rfl ?_
  exact xr_iret dX10_wrong_23 rfl rfl (⟨rfl, rfl, rfl, rfl⟩)
set_option maxRecDepth 100000 in
set_option maxHeartbeats 4000000 in
theorem wr_c8_one {l : Launch} {G : xG} {M : xM} {J : xJ} (hF : Fr M) : x_M l G fX10_one 1 0 0 [.ref (62)] x_SH (x_up (x_up (x_up (x_up (x_up M 62 14 (-1)) 62 15 0) 62 16 0) 62 17 (-1)) 62 18 0) J (qE (some (.int (0))) x_SH (x_up (x_up (x_up (x_up (x_up (x_up M 62 14 (-1)) 62 15 0) 62 16 0) 62 17 (-1)) 62 18 0) 62 17 0) J) := by
  refine xb_of pX10 (Nat.le_of_ble_eq_true rfl) rfl ?_
  refine xr_aload_n dX10_one_0 0 rfl ?_
  refine xb_get (v := (-1)) flX10_174 dX10_one_1 s_62 rfl (Eq.trans (x_up_k _ _ _ (by decide)) (x_up_s _ _ _ _)) ?_
  refine xr_if_lt (tgt := 9) dX10_one_4 rfl (fun _ => ?_) (fun c => absurd (by decide) c)
  refine xr_aload_n dX10_one_9 0 rfl ?_
  refine xb_cV (As := []) (rest := []) mlX10_177 (wr_c9_byteAt hF) dX10_one_10 s_62 rfl rfl (Nat.le_of_ble_eq_true rfl) (by decide) (by decide) ?_
  refine xr_istore_n (ls2 := [(1, .int (0)), (0, .ref (62))]) dX10_one_13 (by decide) rfl ?_
  refine xr_iload_n dX10_one_14 0 rfl ?_
  refine xr_bipush (v := 33) dX10_one_15 rfl ?_
  refine xr_icmp_eq (tgt := 32) dX10_one_17 rfl (fun c => absurd c (by decide)) (fun _ => ?_)
  refine xr_iload_n dX10_one_20 0 rfl ?_
  refine xr_bipush (v := 45) dX10_one_21 rfl ?_
  refine xr_icmp_eq (tgt := 32) dX10_one_23 rfl (fun c => absurd c (by decide)) (fun _ => ?_)
  refine xr_iload_n dX10_one_26 0 rfl ?_
  refine xr_bipush (v := 40) dX10_one_27 rfl ?_
  refine xr_icmp_ne (tgt := 145) dX10_one_29 rfl (fun _ => ?_) (fun c => absurd c (by decide))
  refine xr_iload_n dX10_one_145 0 rfl ?_
  refine xb_cS (As := [.int (0)]) (rest := []) mlX10_208 (wr_c10_nameOf hF) dX10_one_146 rfl rfl (Nat.le_of_ble_eq_true rfl) (by decide) (by decide) ?_
  refine xr_istore_n (ls2 := [(2, .int ((-1))), (1, .int (0)), (0, .ref (62))]) dX10_one_149 (by decide) rfl ?_
  refine xr_iload_n dX10_one_150 0 rfl ?_
  refine xr_if_lt (tgt := 171) dX10_one_151 rfl (fun _ => ?_) (fun c => absurd (by decide) c)
  refine xr_iconst (v := 0) dX10_one_171 rfl ?_
  refine xr_istore_n (ls2 := [(3, .int (0)), (2, .int ((-1))), (1, .int (0)), (0, .ref (62))]) dX10_one_172 (by decide) rfl ?_
  refine xr_iconst (v := 0) dX10_one_173 rfl ?_
  refine xr_istore (ls2 := [(4, .int (0)), (3, .int (0)), (2, .int ((-1))), (1, .int (0)), (0, .ref (62))]) dX10_one_174 (by decide) rfl ?_
  refine xr_iload dX10_one_176 0 rfl ?_
  refine xr_iconst (v := 4) dX10_one_178 rfl ?_
  refine xr_icmp_ge (tgt := 229) dX10_one_179 rfl (fun c => absurd c (by decide)) (fun _ => ?_)
  refine xr_aload_n dX10_one_182 4 rfl ?_
  refine xb_cV (As := []) (rest := []) mlX10_177 (wr_c11_byteAt hF) dX10_one_183 s_62 rfl rfl (Nat.le_of_ble_eq_true rfl) (by decide) (by decide) ?_
  refine xr_bipush (v := 48) dX10_one_186 rfl ?_
  refine xr_icmp_lt (tgt := 229) dX10_one_188 rfl (fun _ => ?_) (fun c => absurd (by decide) c)
  refine xr_iload dX10_one_229 0 rfl ?_
  refine xr_if_ne (tgt := 241) dX10_one_231 rfl (fun c => absurd (by decide) c) (fun _ => ?_)
  refine xr_aload_n dX10_one_234 4 rfl ?_
  refine xb_cV (As := []) (rest := []) mlX10_202 (wr_c12_wrong hF) dX10_one_235 s_62 rfl rfl (Nat.le_of_ble_eq_true rfl) (by decide) (by decide) ?_
  refine xr_goto (tgt := 242) dX10_one_238 rfl ?_
  exact xr_iret dX10_one_242 rfl rfl (⟨rfl, rfl, rfl, rfl⟩)
set_option maxRecDepth 100000 in
set_option maxHeartbeats 4000000 in
theorem wr_c13_byteAt {l : Launch} {G : xG} {M : xM} {J : xJ} (hF : Fr M) : x_M l G fX10_byteAt 0 0 0 [.ref (62)] x_SH (x_up (x_up (x_up (x_up (x_up (x_up M 62 14 (-1)) 62 15 0) 62 16 0) 62 17 (-1)) 62 18 0) 62 17 0) J (qE (some (.int (0))) x_SH (x_up (x_up (x_up (x_up (x_up (x_up M 62 14 (-1)) 62 15 0) 62 16 0) 62 17 (-1)) 62 18 0) 62 17 0) J) := by
  refine xb_of pX10 (Nat.le_of_ble_eq_true rfl) rfl ?_
  refine xr_aload_n dX10_byteAt_0 0 rfl ?_
  refine xb_get (v := 0) flX10_165 dX10_byteAt_1 s_62 rfl (Eq.trans (x_up_k _ _ _ (by decide)) (Eq.trans (x_up_k _ _ _ (by decide)) (Eq.trans (x_up_k _ _ _ (by decide)) (Eq.trans (x_up_k _ _ _ (by decide)) (x_up_s _ _ _ _))))) ?_
  refine xr_aload_n dX10_byteAt_4 0 rfl ?_
  refine xb_get (v := 0) flX10_168 dX10_byteAt_5 s_62 rfl (Eq.trans (x_up_k _ _ _ (by decide)) (Eq.trans (x_up_k _ _ _ (by decide)) (Eq.trans (x_up_k _ _ _ (by decide)) (x_up_s _ _ _ _)))) ?_
  refine xr_icmp_ge (tgt := 47) dX10_byteAt_8 rfl (fun _ => ?_) (fun c => absurd (by decide) c)
  refine xr_iconst (v := 0) dX10_byteAt_47 rfl ?_
  exact xr_iret dX10_byteAt_48 rfl rfl (⟨rfl, rfl, rfl, rfl⟩)
set_option maxRecDepth 100000 in
set_option maxHeartbeats 4000000 in
theorem wr_c7_product {l : Launch} {G : xG} {M : xM} {J : xJ} (hF : Fr M) : x_M l G fX10_product 2 0 0 [.ref (62)] x_SH (x_up (x_up (x_up (x_up (x_up M 62 14 (-1)) 62 15 0) 62 16 0) 62 17 (-1)) 62 18 0) J (qE (some (.int (0))) x_SH (x_up (x_up (x_up (x_up (x_up (x_up M 62 14 (-1)) 62 15 0) 62 16 0) 62 17 (-1)) 62 18 0) 62 17 0) J) := by
  refine xb_of pX10 (Nat.le_of_ble_eq_true rfl) rfl ?_
  refine xr_aload_n dX10_product_0 0 rfl ?_
  refine xb_cV (As := []) (rest := []) mlX10_196 (wr_c8_one hF) dX10_product_1 s_62 rfl rfl (Nat.le_of_ble_eq_true rfl) (by decide) (by decide) ?_
  refine xr_istore_n (ls2 := [(1, .int (0)), (0, .ref (62))]) dX10_product_4 (by decide) rfl ?_
  refine xr_aload_n dX10_product_5 1 rfl ?_
  refine xb_cV (As := []) (rest := []) mlX10_177 (wr_c13_byteAt hF) dX10_product_6 s_62 rfl rfl (Nat.le_of_ble_eq_true rfl) (by decide) (by decide) ?_
  refine xr_istore_n (ls2 := [(2, .int (0)), (1, .int (0)), (0, .ref (62))]) dX10_product_9 (by decide) rfl ?_
  refine xr_aload_n dX10_product_10 2 rfl ?_
  refine xb_get (v := 0) flX10_174 dX10_product_11 s_62 rfl (x_up_s _ _ _ _) ?_
  refine xr_if_ge (tgt := 94) dX10_product_14 rfl (fun _ => ?_) (fun c => absurd (by decide) c)
  refine xr_iload_n dX10_product_94 1 rfl ?_
  exact xr_iret dX10_product_95 rfl rfl (⟨rfl, rfl, rfl, rfl⟩)
set_option maxRecDepth 100000 in
set_option maxHeartbeats 4000000 in
theorem wr_c6_sums {l : Launch} {G : xG} {M : xM} {J : xJ} (hF : Fr M) : x_M l G fX10_sums 3 0 0 [.ref (62)] x_SH (x_up (x_up (x_up (x_up (x_up M 62 14 (-1)) 62 15 0) 62 16 0) 62 17 (-1)) 62 18 0) J (qE (some (.int (0))) x_SH (x_up (x_up (x_up (x_up (x_up (x_up M 62 14 (-1)) 62 15 0) 62 16 0) 62 17 (-1)) 62 18 0) 62 17 0) J) := by
  refine xb_of pX10 (Nat.le_of_ble_eq_true rfl) rfl ?_
  refine xr_aload_n dX10_sums_0 0 rfl ?_
  refine xb_cV (As := []) (rest := []) mlX10_193 (wr_c7_product hF) dX10_sums_1 s_62 rfl rfl (Nat.le_of_ble_eq_true rfl) (by decide) (by decide) ?_
  refine xr_istore_n (ls2 := [(1, .int (0)), (0, .ref (62))]) dX10_sums_4 (by decide) rfl ?_
  refine xr_aload_n dX10_sums_5 1 rfl ?_
  refine xb_get (v := 0) flX10_174 dX10_sums_6 s_62 rfl (x_up_s _ _ _ _) ?_
  refine xr_if_ge (tgt := 77) dX10_sums_9 rfl (fun _ => ?_) (fun c => absurd (by decide) c)
  refine xr_iload_n dX10_sums_77 0 rfl ?_
  exact xr_iret dX10_sums_78 rfl rfl (⟨rfl, rfl, rfl, rfl⟩)
set_option maxRecDepth 100000 in
set_option maxHeartbeats 4000000 in
theorem wr_c14_byteAt {l : Launch} {G : xG} {M : xM} {J : xJ} (hF : Fr M) : x_M l G fX10_byteAt 0 0 0 [.ref (62)] x_SH (x_up (x_up (x_up (x_up (x_up (x_up M 62 14 (-1)) 62 15 0) 62 16 0) 62 17 (-1)) 62 18 0) 62 17 0) J (qE (some (.int (0))) x_SH (x_up (x_up (x_up (x_up (x_up (x_up M 62 14 (-1)) 62 15 0) 62 16 0) 62 17 (-1)) 62 18 0) 62 17 0) J) := by
  refine xb_of pX10 (Nat.le_of_ble_eq_true rfl) rfl ?_
  refine xr_aload_n dX10_byteAt_0 0 rfl ?_
  refine xb_get (v := 0) flX10_165 dX10_byteAt_1 s_62 rfl (Eq.trans (x_up_k _ _ _ (by decide)) (Eq.trans (x_up_k _ _ _ (by decide)) (Eq.trans (x_up_k _ _ _ (by decide)) (Eq.trans (x_up_k _ _ _ (by decide)) (x_up_s _ _ _ _))))) ?_
  refine xr_aload_n dX10_byteAt_4 0 rfl ?_
  refine xb_get (v := 0) flX10_168 dX10_byteAt_5 s_62 rfl (Eq.trans (x_up_k _ _ _ (by decide)) (Eq.trans (x_up_k _ _ _ (by decide)) (Eq.trans (x_up_k _ _ _ (by decide)) (x_up_s _ _ _ _)))) ?_
  refine xr_icmp_ge (tgt := 47) dX10_byteAt_8 rfl (fun _ => ?_) (fun c => absurd (by decide) c)
  refine xr_iconst (v := 0) dX10_byteAt_47 rfl ?_
  exact xr_iret dX10_byteAt_48 rfl rfl (⟨rfl, rfl, rfl, rfl⟩)
set_option maxRecDepth 100000 in
set_option maxHeartbeats 4000000 in
theorem wr_c5_compared {l : Launch} {G : xG} {M : xM} {J : xJ} (hF : Fr M) : x_M l G fX10_compared 4 0 0 [.ref (62)] x_SH (x_up (x_up (x_up (x_up (x_up M 62 14 (-1)) 62 15 0) 62 16 0) 62 17 (-1)) 62 18 0) J (qE (some (.int (0))) x_SH (x_up (x_up (x_up (x_up (x_up (x_up M 62 14 (-1)) 62 15 0) 62 16 0) 62 17 (-1)) 62 18 0) 62 17 0) J) := by
  refine xb_of pX10 (Nat.le_of_ble_eq_true rfl) rfl ?_
  refine xr_aload_n dX10_compared_0 0 rfl ?_
  refine xb_cV (As := []) (rest := []) mlX10_190 (wr_c6_sums hF) dX10_compared_1 s_62 rfl rfl (Nat.le_of_ble_eq_true rfl) (by decide) (by decide) ?_
  refine xr_istore_n (ls2 := [(1, .int (0)), (0, .ref (62))]) dX10_compared_4 (by decide) rfl ?_
  refine xr_aload_n dX10_compared_5 1 rfl ?_
  refine xb_cV (As := []) (rest := []) mlX10_177 (wr_c14_byteAt hF) dX10_compared_6 s_62 rfl rfl (Nat.le_of_ble_eq_true rfl) (by decide) (by decide) ?_
  refine xr_istore_n (ls2 := [(2, .int (0)), (1, .int (0)), (0, .ref (62))]) dX10_compared_9 (by decide) rfl ?_
  refine xr_aload_n dX10_compared_10 2 rfl ?_
  refine xb_get (v := 0) flX10_174 dX10_compared_11 s_62 rfl (x_up_s _ _ _ _) ?_
  refine xr_if_ge (tgt := 35) dX10_compared_14 rfl (fun _ => ?_) (fun c => absurd (by decide) c)
  refine xr_iload_n dX10_compared_35 1 rfl ?_
  exact xr_iret dX10_compared_36 rfl rfl (⟨rfl, rfl, rfl, rfl⟩)
set_option maxRecDepth 100000 in
set_option maxHeartbeats 4000000 in
theorem wr_c15_takes {l : Launch} {G : xG} {M : xM} {J : xJ} (hF : Fr M) : x_M l G fX10_takes 0 0 0 [.ref (62), .int (38)] x_SH (x_up (x_up (x_up (x_up (x_up (x_up M 62 14 (-1)) 62 15 0) 62 16 0) 62 17 (-1)) 62 18 0) 62 17 0) J (qE (some (.int (0))) x_SH (x_up (x_up (x_up (x_up (x_up (x_up M 62 14 (-1)) 62 15 0) 62 16 0) 62 17 (-1)) 62 18 0) 62 17 0) J) := by
  refine xb_of pX10 (Nat.le_of_ble_eq_true rfl) rfl ?_
  refine xr_aload_n dX10_takes_0 0 rfl ?_
  refine xb_get (v := 0) flX10_174 dX10_takes_1 s_62 rfl (x_up_s _ _ _ _) ?_
  refine xr_if_ge (tgt := 15) dX10_takes_4 rfl (fun _ => ?_) (fun c => absurd (by decide) c)
  refine xr_iconst (v := 0) dX10_takes_15 rfl ?_
  exact xr_iret dX10_takes_16 rfl rfl (⟨rfl, rfl, rfl, rfl⟩)
set_option maxRecDepth 100000 in
set_option maxHeartbeats 4000000 in
theorem wr_c4_both {l : Launch} {G : xG} {M : xM} {J : xJ} (hF : Fr M) : x_M l G fX10_both 5 0 0 [.ref (62)] x_SH (x_up (x_up (x_up (x_up (x_up M 62 14 (-1)) 62 15 0) 62 16 0) 62 17 (-1)) 62 18 0) J (qE (some (.int (0))) x_SH (x_up (x_up (x_up (x_up (x_up (x_up M 62 14 (-1)) 62 15 0) 62 16 0) 62 17 (-1)) 62 18 0) 62 17 0) J) := by
  refine xb_of pX10 (Nat.le_of_ble_eq_true rfl) rfl ?_
  refine xr_aload_n dX10_both_0 0 rfl ?_
  refine xb_cV (As := []) (rest := []) mlX10_187 (wr_c5_compared hF) dX10_both_1 s_62 rfl rfl (Nat.le_of_ble_eq_true rfl) (by decide) (by decide) ?_
  refine xr_istore_n (ls2 := [(1, .int (0)), (0, .ref (62))]) dX10_both_4 (by decide) rfl ?_
  refine xr_aload_n dX10_both_5 1 rfl ?_
  refine xr_bipush (v := 38) dX10_both_6 rfl ?_
  refine xb_cV (As := [.int (38)]) (rest := []) mlX10_184 (wr_c15_takes hF) dX10_both_8 s_62 rfl rfl (Nat.le_of_ble_eq_true rfl) (by decide) (by decide) ?_
  refine xr_if_eq (tgt := 36) dX10_both_11 rfl (fun _ => ?_) (fun c => absurd (by decide) c)
  refine xr_iload_n dX10_both_36 0 rfl ?_
  exact xr_iret dX10_both_37 rfl rfl (⟨rfl, rfl, rfl, rfl⟩)
set_option maxRecDepth 100000 in
set_option maxHeartbeats 4000000 in
theorem wr_c16_takes {l : Launch} {G : xG} {M : xM} {J : xJ} (hF : Fr M) : x_M l G fX10_takes 0 0 0 [.ref (62), .int (124)] x_SH (x_up (x_up (x_up (x_up (x_up (x_up M 62 14 (-1)) 62 15 0) 62 16 0) 62 17 (-1)) 62 18 0) 62 17 0) J (qE (some (.int (0))) x_SH (x_up (x_up (x_up (x_up (x_up (x_up M 62 14 (-1)) 62 15 0) 62 16 0) 62 17 (-1)) 62 18 0) 62 17 0) J) := by
  refine xb_of pX10 (Nat.le_of_ble_eq_true rfl) rfl ?_
  refine xr_aload_n dX10_takes_0 0 rfl ?_
  refine xb_get (v := 0) flX10_174 dX10_takes_1 s_62 rfl (x_up_s _ _ _ _) ?_
  refine xr_if_ge (tgt := 15) dX10_takes_4 rfl (fun _ => ?_) (fun c => absurd (by decide) c)
  refine xr_iconst (v := 0) dX10_takes_15 rfl ?_
  exact xr_iret dX10_takes_16 rfl rfl (⟨rfl, rfl, rfl, rfl⟩)
set_option maxRecDepth 100000 in
set_option maxHeartbeats 4000000 in
theorem wr_c3_either {l : Launch} {G : xG} {M : xM} {J : xJ} (hF : Fr M) : x_M l G fX10_either 6 0 0 [.ref (62)] x_SH (x_up (x_up (x_up (x_up (x_up M 62 14 (-1)) 62 15 0) 62 16 0) 62 17 (-1)) 62 18 0) J (qE (some (.int (0))) x_SH (x_up (x_up (x_up (x_up (x_up (x_up M 62 14 (-1)) 62 15 0) 62 16 0) 62 17 (-1)) 62 18 0) 62 17 0) J) := by
  refine xb_of pX10 (Nat.le_of_ble_eq_true rfl) rfl ?_
  refine xr_aload_n dX10_either_0 0 rfl ?_
  refine xb_cV (As := []) (rest := []) mlX10_181 (wr_c4_both hF) dX10_either_1 s_62 rfl rfl (Nat.le_of_ble_eq_true rfl) (by decide) (by decide) ?_
  refine xr_istore_n (ls2 := [(1, .int (0)), (0, .ref (62))]) dX10_either_4 (by decide) rfl ?_
  refine xr_aload_n dX10_either_5 1 rfl ?_
  refine xr_bipush (v := 124) dX10_either_6 rfl ?_
  refine xb_cV (As := [.int (124)]) (rest := []) mlX10_184 (wr_c16_takes hF) dX10_either_8 s_62 rfl rfl (Nat.le_of_ble_eq_true rfl) (by decide) (by decide) ?_
  refine xr_if_eq (tgt := 36) dX10_either_11 rfl (fun _ => ?_) (fun c => absurd (by decide) c)
  refine xr_iload_n dX10_either_36 0 rfl ?_
  exact xr_iret dX10_either_37 rfl rfl (⟨rfl, rfl, rfl, rfl⟩)
set_option maxRecDepth 100000 in
set_option maxHeartbeats 4000000 in
theorem wr_c17_takes {l : Launch} {G : xG} {M : xM} {J : xJ} (hF : Fr M) : x_M l G fX10_takes 0 0 0 [.ref (62), .int (63)] x_SH (x_up (x_up (x_up (x_up (x_up (x_up M 62 14 (-1)) 62 15 0) 62 16 0) 62 17 (-1)) 62 18 0) 62 17 0) J (qE (some (.int (0))) x_SH (x_up (x_up (x_up (x_up (x_up (x_up M 62 14 (-1)) 62 15 0) 62 16 0) 62 17 (-1)) 62 18 0) 62 17 0) J) := by
  refine xb_of pX10 (Nat.le_of_ble_eq_true rfl) rfl ?_
  refine xr_aload_n dX10_takes_0 0 rfl ?_
  refine xb_get (v := 0) flX10_174 dX10_takes_1 s_62 rfl (x_up_s _ _ _ _) ?_
  refine xr_if_ge (tgt := 15) dX10_takes_4 rfl (fun _ => ?_) (fun c => absurd (by decide) c)
  refine xr_iconst (v := 0) dX10_takes_15 rfl ?_
  exact xr_iret dX10_takes_16 rfl rfl (⟨rfl, rfl, rfl, rfl⟩)
set_option maxRecDepth 100000 in
set_option maxHeartbeats 4000000 in
theorem wr_c18_takes {l : Launch} {G : xG} {M : xM} {J : xJ} (hF : Fr M) : x_M l G fX10_takes 0 0 0 [.ref (62), .int (59)] x_SH (x_up (x_up (x_up (x_up (x_up (x_up M 62 14 (-1)) 62 15 0) 62 16 0) 62 17 (-1)) 62 18 0) 62 17 0) J (qE (some (.int (0))) x_SH (x_up (x_up (x_up (x_up (x_up (x_up M 62 14 (-1)) 62 15 0) 62 16 0) 62 17 (-1)) 62 18 0) 62 17 0) J) := by
  refine xb_of pX10 (Nat.le_of_ble_eq_true rfl) rfl ?_
  refine xr_aload_n dX10_takes_0 0 rfl ?_
  refine xb_get (v := 0) flX10_174 dX10_takes_1 s_62 rfl (x_up_s _ _ _ _) ?_
  refine xr_if_ge (tgt := 15) dX10_takes_4 rfl (fun _ => ?_) (fun c => absurd (by decide) c)
  refine xr_iconst (v := 0) dX10_takes_15 rfl ?_
  exact xr_iret dX10_takes_16 rfl rfl (⟨rfl, rfl, rfl, rfl⟩)
set_option maxRecDepth 100000 in
set_option maxHeartbeats 4000000 in
theorem wr_c2_workOut {l : Launch} {G : xG} {M : xM} {J : xJ} (hF : Fr M) : x_M l G fX10_workOut 7 0 0 [.ref (62), .int ((-1)), .int (0)] x_SH M J (qE (some (.int (0))) x_SH (x_up (x_up (x_up (x_up (x_up (x_up M 62 14 (-1)) 62 15 0) 62 16 0) 62 17 (-1)) 62 18 0) 62 17 0) J) := by
  refine xb_of pX10 (Nat.le_of_ble_eq_true rfl) rfl ?_
  refine xr_aload_n dX10_workOut_0 0 rfl ?_
  refine xr_iload_n dX10_workOut_1 1 rfl ?_
  refine xr_putI fpX10_171 dX10_workOut_2 s_62 rfl rfl rfl ?_
  refine xr_aload_n dX10_workOut_5 0 rfl ?_
  refine xr_iconst (v := 0) dX10_workOut_6 rfl ?_
  refine xr_putI fpX10_165 dX10_workOut_7 s_62 rfl rfl rfl ?_
  refine xr_aload_n dX10_workOut_10 0 rfl ?_
  refine xr_iload_n dX10_workOut_11 2 rfl ?_
  refine xr_putI fpX10_168 dX10_workOut_12 s_62 rfl rfl rfl ?_
  refine xr_aload_n dX10_workOut_15 0 rfl ?_
  refine xr_iconst (v := -1) dX10_workOut_16 rfl ?_
  refine xr_putI fpX10_174 dX10_workOut_17 s_62 rfl rfl rfl ?_
  refine xr_aload_n dX10_workOut_20 0 rfl ?_
  refine xr_iconst (v := 0) dX10_workOut_21 rfl ?_
  refine xr_putI fpX10_199 dX10_workOut_22 s_62 rfl rfl rfl ?_
  refine xr_iconst (v := 0) dX10_workOut_25 rfl ?_
  refine xr_istore_n (ls2 := [(3, .int (0)), (0, .ref (62)), (1, .int ((-1))), (2, .int (0))]) dX10_workOut_26 (by decide) rfl ?_
  refine xr_iconst (v := 0) dX10_workOut_27 rfl ?_
  refine xr_istore (ls2 := [(4, .int (0)), (3, .int (0)), (0, .ref (62)), (1, .int ((-1))), (2, .int (0))]) dX10_workOut_28 (by decide) rfl ?_
  refine xr_iconst (v := 1) dX10_workOut_30 rfl ?_
  refine xr_istore (ls2 := [(5, .int (1)), (4, .int (0)), (3, .int (0)), (0, .ref (62)), (1, .int ((-1))), (2, .int (0))]) dX10_workOut_31 (by decide) rfl ?_
  refine xr_iload dX10_workOut_33 0 rfl ?_
  refine xr_if_eq (tgt := 107) dX10_workOut_35 rfl (fun c => absurd c (by decide)) (fun _ => ?_)
  refine xr_aload_n dX10_workOut_38 3 rfl ?_
  refine xb_cV (As := []) (rest := []) mlX10_205 (wr_c3_either hF) dX10_workOut_39 s_62 rfl rfl (Nat.le_of_ble_eq_true rfl) (by decide) (by decide) ?_
  refine xr_istore (ls2 := [(6, .int (0)), (5, .int (1)), (4, .int (0)), (3, .int (0)), (0, .ref (62)), (1, .int ((-1))), (2, .int (0))]) dX10_workOut_42 (by decide) rfl ?_
  refine xr_iconst (v := 1) dX10_workOut_44 rfl ?_
  refine xr_istore (ls2 := [(7, .int (1)), (6, .int (0)), (5, .int (1)), (4, .int (0)), (3, .int (0)), (0, .ref (62)), (1, .int ((-1))), (2, .int (0))]) dX10_workOut_45 (by decide) rfl ?_
  refine xr_aload_n dX10_workOut_47 5 rfl ?_
  refine xr_bipush (v := 63) dX10_workOut_48 rfl ?_
  refine xb_cV (As := [.int (63)]) (rest := []) mlX10_184 (wr_c17_takes hF) dX10_workOut_50 s_62 rfl rfl (Nat.le_of_ble_eq_true rfl) (by decide) (by decide) ?_
  refine xr_if_eq (tgt := 74) dX10_workOut_53 rfl (fun _ => ?_) (fun c => absurd (by decide) c)
  refine xr_aload_n dX10_workOut_74 5 rfl ?_
  refine xb_get (v := 0) flX10_174 dX10_workOut_75 s_62 rfl (x_up_s _ _ _ _) ?_
  refine xr_if_ge (tgt := 96) dX10_workOut_78 rfl (fun _ => ?_) (fun c => absurd (by decide) c)
  refine xr_aload_n dX10_workOut_96 5 rfl ?_
  refine xr_bipush (v := 59) dX10_workOut_97 rfl ?_
  refine xb_cV (As := [.int (59)]) (rest := []) mlX10_184 (wr_c18_takes hF) dX10_workOut_99 s_62 rfl rfl (Nat.le_of_ble_eq_true rfl) (by decide) (by decide) ?_
  refine xr_istore (ls2 := [(5, .int (0)), (7, .int (1)), (6, .int (0)), (4, .int (0)), (3, .int (0)), (0, .ref (62)), (1, .int ((-1))), (2, .int (0))]) dX10_workOut_102 (by decide) rfl ?_
  refine xr_goto (tgt := 33) dX10_workOut_104 rfl ?_
  refine xr_iload dX10_workOut_33 0 rfl ?_
  refine xr_if_eq (tgt := 107) dX10_workOut_35 rfl (fun _ => ?_) (fun c => absurd (by decide) c)
  refine xr_aload_n dX10_workOut_107 5 rfl ?_
  refine xb_get (v := 0) flX10_174 dX10_workOut_108 s_62 rfl (x_up_s _ _ _ _) ?_
  refine xr_if_ge (tgt := 130) dX10_workOut_111 rfl (fun _ => ?_) (fun c => absurd (by decide) c)
  refine xr_iload dX10_workOut_130 3 rfl ?_
  exact xr_iret dX10_workOut_132 rfl rfl (⟨rfl, rfl, rfl, rfl⟩)
set_option maxRecDepth 100000 in
set_option maxHeartbeats 4000000 in
theorem wr_c1_law {l : Launch} {G : xG} {M : xM} {J : xJ} (hF : Fr M) : x_M l G fX10_law 8 0 0 [.ref (62)] x_SH M J (qE (some (.int ((-100)))) x_SH (x_up (x_up (x_up (x_up (x_up (x_up (x_up M 62 14 (-1)) 62 15 0) 62 16 0) 62 17 (-1)) 62 18 0) 62 17 0) 62 11 0) J) := by
  refine xb_of pX10 (Nat.le_of_ble_eq_true rfl) rfl ?_
  refine xr_aload_n dX10_law_0 0 rfl ?_
  refine xr_iconst (v := -1) dX10_law_1 rfl ?_
  refine xr_aload_n dX10_law_2 0 rfl ?_
  refine xb_get (v := 0) flX10_162 dX10_law_3 s_62 rfl (Fr_r hF (by decide) (by decide +kernel)) ?_
  refine xb_cV (As := [.int ((-1)), .int (0)]) (rest := []) mlX10_211 (wr_c2_workOut hF) dX10_law_6 s_62 rfl rfl (Nat.le_of_ble_eq_true rfl) (by decide) (by decide) ?_
  refine xr_istore_n (ls2 := [(1, .int (0)), (0, .ref (62))]) dX10_law_9 (by decide) rfl ?_
  refine xr_aload_n dX10_law_10 1 rfl ?_
  refine xb_get (v := 0) flX10_162 dX10_law_11 s_62 rfl (Eq.trans (x_up_k _ _ _ (by decide)) (Eq.trans (x_up_k _ _ _ (by decide)) (Eq.trans (x_up_k _ _ _ (by decide)) (Eq.trans (x_up_k _ _ _ (by decide)) (Eq.trans (x_up_k _ _ _ (by decide)) (Eq.trans (x_up_k _ _ _ (by decide)) (Fr_r hF (by decide) (by decide +kernel)))))))) ?_
  refine xr_istore_n (ls2 := [(2, .int (0)), (1, .int (0)), (0, .ref (62))]) dX10_law_14 (by decide) rfl ?_
  refine xr_aload_n dX10_law_15 2 rfl ?_
  refine xr_iconst (v := 0) dX10_law_16 rfl ?_
  refine xr_putI fpX10_162 dX10_law_17 s_62 rfl rfl rfl ?_
  refine xr_aload_n dX10_law_20 2 rfl ?_
  refine xb_get (v := 0) flX10_174 dX10_law_21 s_62 rfl (Eq.trans (x_up_k _ _ _ (by decide)) (x_up_s _ _ _ _)) ?_
  refine xr_if_lt (tgt := 35) dX10_law_24 rfl (fun c => absurd c (by decide)) (fun _ => ?_)
  refine xr_bipush (v := -100) dX10_law_27 rfl ?_
  refine xr_aload_n dX10_law_29 2 rfl ?_
  refine xb_get (v := 0) flX10_174 dX10_law_30 s_62 rfl (Eq.trans (x_up_k _ _ _ (by decide)) (x_up_s _ _ _ _)) ?_
  refine xr_isub dX10_law_33 ?_
  refine xb_top (y := (-100)) (by decide) ?_
  exact xr_iret dX10_law_34 rfl rfl (⟨rfl, rfl, rfl, rfl⟩)
theorem p_X10_law {l : Launch} {G : xG} {M : xM} {J : xJ} (hF : Fr M) : x_M l G fX10_law 8 0 0 [.ref 62] x_SH M J (qE (some (.int (-100))) x_SH (x_up (x_up (x_up (x_up (x_up (x_up (x_up M 62 14 (-1)) 62 15 0) 62 16 0) 62 17 (-1)) 62 18 0) 62 17 0) 62 11 0) J) := wr_c1_law hF
set_option maxRecDepth 100000 in
set_option maxHeartbeats 4000000 in
theorem rl_mistaken (m0 : Int32) {l : Launch} {G : xG} {J : xJ} : ∀ (m k : Nat) (L : Int32) (M : xM), k + m = 201 → (R0 M ∧ M 62 26 = -1) → x_X l G fX10_mistaken 3 0 0 (fun v s2 M2 _ => v = some (.int 200) ∧ s2 = x_SH ∧ M2 62 26 = 0) 26 [(6, .int (nI (k))), (5, .int (0)), (4, .int (L)), (3, .int ((-1))), (2, .int (0)), (1, .int (m0)), (0, .ref (62))] [] x_SH M J 0 0 := by
  intro m
  induction m with
  | zero =>
    intro k L M hk e
    refine xr_iload dX10_mistaken_26 0 rfl ?_
    refine xr_sipush (v := 200) dX10_mistaken_28 rfl ?_
    refine xr_icmp_gt (tgt := 246) dX10_mistaken_31 rfl (fun _ => ?_) (fun c => absurd (nI_lt (a := 200) (b := k) (by omega) (by omega)) c)
    refine xr_aload_n dX10_mistaken_246 6 rfl ?_
    refine xr_aload_n dX10_mistaken_247 6 rfl ?_
    refine xb_get (v := (-1)) flX10_273 dX10_mistaken_248 s_62 rfl e.2 ?_
    refine xr_if_lt (tgt := 261) dX10_mistaken_251 rfl (fun _ => ?_) (fun c => absurd (by decide) c)
    refine xr_iload dX10_mistaken_261 1 rfl ?_
    refine xr_if_eq (tgt := 271) dX10_mistaken_263 rfl (fun _ => ?_) (fun c => absurd (by decide) c)
    refine xr_iconst (v := 0) dX10_mistaken_271 rfl ?_
    refine xr_putI fpX10_273 dX10_mistaken_272 s_62 rfl rfl rfl ?_
    refine xr_iload_n dX10_mistaken_275 3 rfl ?_
    refine xr_if_ge (tgt := 285) dX10_mistaken_276 rfl (fun c => absurd c (by decide)) (fun _ => ?_)
    refine xr_sipush (v := 200) dX10_mistaken_279 rfl ?_
    refine xr_goto (tgt := 286) dX10_mistaken_282 rfl ?_
    exact xr_iret dX10_mistaken_286 rfl rfl (⟨rfl, rfl, (x_up_s _ _ _ _)⟩)
  | succ m ih =>
    intro k L M hk e
    refine xr_iload dX10_mistaken_26 0 rfl ?_
    refine xr_sipush (v := 200) dX10_mistaken_28 rfl ?_
    refine xr_icmp_gt (tgt := 246) dX10_mistaken_31 rfl (fun c => absurd c (nI_nlt (a := 200) (b := k) (by omega) (by omega))) (fun _ => ?_)
    refine xr_iconst (v := 1) dX10_mistaken_34 rfl ?_
    refine xr_istore (ls2 := [(7, .int (1)), (6, .int (nI (k))), (5, .int (0)), (4, .int (L)), (3, .int ((-1))), (2, .int (0)), (1, .int (m0)), (0, .ref (62))]) dX10_mistaken_35 (by decide) rfl ?_
    refine xr_iconst (v := 0) dX10_mistaken_37 rfl ?_
    refine xr_istore (ls2 := [(8, .int (0)), (7, .int (1)), (6, .int (nI (k))), (5, .int (0)), (4, .int (L)), (3, .int ((-1))), (2, .int (0)), (1, .int (m0)), (0, .ref (62))]) dX10_mistaken_38 (by decide) rfl ?_
    refine xr_iload dX10_mistaken_40 0 rfl ?_
    refine xr_aload_n dX10_mistaken_42 8 rfl ?_
    refine xb_get (v := 0) flX10_109 dX10_mistaken_43 s_62 rfl e.1.1 ?_
    refine xr_icmp_ge (tgt := 86) dX10_mistaken_46 rfl (fun _ => ?_) (fun c => absurd (by decide) c)
    refine xr_aload_n dX10_mistaken_86 8 rfl ?_
    refine xr_aload_n dX10_mistaken_87 8 rfl ?_
    refine xb_get (v := (-1)) flX10_273 dX10_mistaken_88 s_62 rfl e.2 ?_
    refine xr_if_ge (tgt := 109) dX10_mistaken_91 rfl (fun c => absurd c (by decide)) (fun _ => ?_)
    refine xr_iload dX10_mistaken_94 3 rfl ?_
    refine xr_if_eq (tgt := 109) dX10_mistaken_96 rfl (fun _ => ?_) (fun c => absurd (by decide) c)
    refine xr_aload_n dX10_mistaken_109 8 rfl ?_
    refine xb_get (v := (-1)) flX10_273 dX10_mistaken_110 s_62 rfl e.2 ?_
    refine xr_putI fpX10_273 dX10_mistaken_113 s_62 rfl rfl rfl ?_
    refine xr_iload dX10_mistaken_116 3 rfl ?_
    refine xr_iload dX10_mistaken_118 1 rfl ?_
    refine xr_if_ne (tgt := 127) dX10_mistaken_120 rfl (fun _ => ?_) (fun c => absurd c (by decide))
    refine xr_iconst (v := 0) dX10_mistaken_127 rfl ?_
    refine xr_ior dX10_mistaken_128 ?_
    refine xr_istore (ls2 := [(5, .int ((0 ||| 0))), (8, .int (0)), (7, .int (1)), (6, .int (nI (k))), (4, .int (L)), (3, .int ((-1))), (2, .int (0)), (1, .int (m0)), (0, .ref (62))]) dX10_mistaken_129 (by decide) rfl ?_
    refine xr_iload_n dX10_mistaken_131 5 rfl ?_
    refine xr_if_ge (tgt := 150) dX10_mistaken_132 rfl (fun c => absurd c (by decide)) (fun _ => ?_)
    refine xr_aload_n dX10_mistaken_135 8 rfl ?_
    refine xr_iload_n dX10_mistaken_136 6 rfl ?_
    refine xb_cV (As := [.int (0)]) (rest := []) mlX10_252 (r0_lyingOf 0 (R0_up ⟨by decide, fun q => absurd q (by decide)⟩ e.1)) dX10_mistaken_137 s_62 rfl rfl (Nat.le_of_ble_eq_true rfl) (by decide) (by decide) ?_
    refine xr_if_le (tgt := 150) dX10_mistaken_140 rfl (fun _ => ?_) (fun c => absurd (by decide) c)
    refine xr_iload_n dX10_mistaken_150 5 rfl ?_
    refine xr_istore_n (ls2 := [(3, .int ((-1))), (5, .int ((0 ||| 0))), (8, .int (0)), (7, .int (1)), (6, .int (nI (k))), (4, .int (L)), (2, .int (0)), (1, .int (m0)), (0, .ref (62))]) dX10_mistaken_151 (by decide) rfl ?_
    refine xr_iload dX10_mistaken_152 4 rfl ?_
    refine xr_sipush (v := 200) dX10_mistaken_154 rfl ?_
    refine xr_icmp_ge (tgt := 240) dX10_mistaken_157 rfl (fun c1 => ?_) (fun c1 => ?_)
    · refine xr_iinc (v := nI (k + 1)) (ls2 := [(6, .int (nI (k + 1))), (3, .int ((-1))), (5, .int ((0 ||| 0))), (8, .int (0)), (7, .int (1)), (4, .int (L)), (2, .int (0)), (1, .int (m0)), (0, .ref (62))]) dX10_mistaken_240 4 rfl (nI_1 _) (by decide) rfl ?_
      refine xr_goto (tgt := 26) dX10_mistaken_243 rfl ?_
      refine xb_ls (ls2 := [(6, .int (nI (k + 1))), (5, .int (0)), (4, .int (L)), (3, .int ((-1))), (2, .int (0)), (1, .int (m0)), (0, .ref (62))]) [0, 2, 5, 1, 6, 7, 8] rfl ?_
      exact ih (k + 1) _ _ (by omega) ⟨(R0_up ⟨by decide, fun q => absurd q (by decide)⟩ e.1), (x_up_s _ _ _ _)⟩
    · refine xr_aload_n dX10_mistaken_160 8 rfl ?_
      refine xr_aload_n dX10_mistaken_161 8 rfl ?_
      refine xb_get (v := M 62 9) flX10_151 dX10_mistaken_162 s_62 rfl (Eq.trans (x_up_k _ _ _ (by decide)) rfl) ?_
      refine xr_iload dX10_mistaken_165 4 rfl ?_
      refine xr_iadd dX10_mistaken_167 ?_
      refine xb_cV (As := [.int (((M 62 9) + (nI (k))))]) (rest := []) mlX10_228 (r0_isPush ((M 62 9) + (nI (k))) (R0_up ⟨by decide, fun q => absurd q (by decide)⟩ e.1)) dX10_mistaken_168 s_62 rfl rfl (Nat.le_of_ble_eq_true rfl) (by decide) (by decide) ?_
      refine xb_beq (tgt := 183) dX10_mistaken_171 rfl (fun c2 => ?_) (fun c2 => ?_)
      · refine xr_iconst (v := 0) dX10_mistaken_183 rfl ?_
        refine xr_istore (ls2 := [(8, .int (0)), (3, .int ((-1))), (5, .int ((0 ||| 0))), (7, .int (1)), (6, .int (nI (k))), (4, .int (L)), (2, .int (0)), (1, .int (m0)), (0, .ref (62))]) dX10_mistaken_184 (by decide) rfl ?_
        refine xr_iload dX10_mistaken_186 5 rfl ?_
        refine xr_aload_n dX10_mistaken_188 8 rfl ?_
        refine xr_aload_n dX10_mistaken_189 8 rfl ?_
        refine xb_get (v := M 62 9) flX10_151 dX10_mistaken_190 s_62 rfl (Eq.trans (x_up_k _ _ _ (by decide)) rfl) ?_
        refine xr_iload dX10_mistaken_193 4 rfl ?_
        refine xr_iadd dX10_mistaken_195 ?_
        refine xb_cV (As := [.int (((M 62 9) + (nI (k))))]) (rest := [.int (L)]) mlX10_228 (r0_isPush ((M 62 9) + (nI (k))) (R0_up ⟨by decide, fun q => absurd q (by decide)⟩ e.1)) dX10_mistaken_196 s_62 rfl rfl (Nat.le_of_ble_eq_true rfl) (by decide) (by decide) ?_
        refine xb_beq (tgt := 206) dX10_mistaken_199 rfl (fun c3 => ?_) (fun c3 => ?_)
        · refine xr_iconst (v := 0) dX10_mistaken_206 rfl ?_
          refine xr_isub dX10_mistaken_207 ?_
          refine xr_istore (ls2 := [(4, .int ((L - 0))), (8, .int (0)), (3, .int ((-1))), (5, .int ((0 ||| 0))), (7, .int (1)), (6, .int (nI (k))), (2, .int (0)), (1, .int (m0)), (0, .ref (62))]) dX10_mistaken_208 (by decide) rfl ?_
          refine xr_iload dX10_mistaken_210 1 rfl ?_
          refine xr_if_eq (tgt := 229) dX10_mistaken_212 rfl (fun _ => ?_) (fun c => absurd (by decide) c)
          refine xr_aload_n dX10_mistaken_229 8 rfl ?_
          refine xr_aload_n dX10_mistaken_230 8 rfl ?_
          refine xb_get (v := M 62 9) flX10_151 dX10_mistaken_231 s_62 rfl (Eq.trans (x_up_k _ _ _ (by decide)) rfl) ?_
          refine xr_iload dX10_mistaken_234 5 rfl ?_
          refine xr_iadd dX10_mistaken_236 ?_
          refine xr_callV (As := [.int (((M 62 9) + (nI (k))))]) (rest := []) mlX10_255 (r0_tickGoes ((M 62 9) + (nI (k))) (R0_up ⟨by decide, fun q => absurd q (by decide)⟩ e.1)) dX10_mistaken_237 s_62 rfl rfl (Nat.le_of_ble_eq_true rfl) (by decide) ⟨by decide, by decide⟩ (fun v s2 M4 J2 hq => ?_)
          obtain ⟨rfl, rfl, rfl, w5, rfl⟩ := hq
          try dsimp only [Option.toList, List.cons_append, List.nil_append]
          refine xr_iinc (v := nI (k + 1)) (ls2 := [(6, .int (nI (k + 1))), (4, .int ((L - 0))), (8, .int (0)), (3, .int ((-1))), (5, .int ((0 ||| 0))), (7, .int (1)), (2, .int (0)), (1, .int (m0)), (0, .ref (62))]) dX10_mistaken_240 5 rfl (nI_1 _) (by decide) rfl ?_
          refine xr_goto (tgt := 26) dX10_mistaken_243 rfl ?_
          refine xb_ls (ls2 := [(6, .int (nI (k + 1))), (5, .int (0)), (4, .int ((L - 0))), (3, .int ((-1))), (2, .int (0)), (1, .int (m0)), (0, .ref (62))]) [0, 4, 1, 3, 6, 7, 8] rfl ?_
          exact ih (k + 1) _ _ (by omega) ⟨(R0_up ⟨by decide, fun q => absurd q (by decide)⟩ (R0_up ⟨by decide, fun q => absurd q (by decide)⟩ e.1)), (Eq.trans (x_up_k _ _ _ (by decide)) (x_up_s _ _ _ _))⟩
        · refine xr_iconst (v := 1) dX10_mistaken_202 rfl ?_
          refine xr_goto (tgt := 207) dX10_mistaken_203 rfl ?_
          refine xr_isub dX10_mistaken_207 ?_
          refine xr_istore (ls2 := [(4, .int ((L - 1))), (8, .int (0)), (3, .int ((-1))), (5, .int ((0 ||| 0))), (7, .int (1)), (6, .int (nI (k))), (2, .int (0)), (1, .int (m0)), (0, .ref (62))]) dX10_mistaken_208 (by decide) rfl ?_
          refine xr_iload dX10_mistaken_210 1 rfl ?_
          refine xr_if_eq (tgt := 229) dX10_mistaken_212 rfl (fun _ => ?_) (fun c => absurd (by decide) c)
          refine xr_aload_n dX10_mistaken_229 8 rfl ?_
          refine xr_aload_n dX10_mistaken_230 8 rfl ?_
          refine xb_get (v := M 62 9) flX10_151 dX10_mistaken_231 s_62 rfl (Eq.trans (x_up_k _ _ _ (by decide)) rfl) ?_
          refine xr_iload dX10_mistaken_234 5 rfl ?_
          refine xr_iadd dX10_mistaken_236 ?_
          refine xr_callV (As := [.int (((M 62 9) + (nI (k))))]) (rest := []) mlX10_255 (r0_tickGoes ((M 62 9) + (nI (k))) (R0_up ⟨by decide, fun q => absurd q (by decide)⟩ e.1)) dX10_mistaken_237 s_62 rfl rfl (Nat.le_of_ble_eq_true rfl) (by decide) ⟨by decide, by decide⟩ (fun v s2 M6 J2 hq => ?_)
          obtain ⟨rfl, rfl, rfl, w7, rfl⟩ := hq
          try dsimp only [Option.toList, List.cons_append, List.nil_append]
          refine xr_iinc (v := nI (k + 1)) (ls2 := [(6, .int (nI (k + 1))), (4, .int ((L - 1))), (8, .int (0)), (3, .int ((-1))), (5, .int ((0 ||| 0))), (7, .int (1)), (2, .int (0)), (1, .int (m0)), (0, .ref (62))]) dX10_mistaken_240 5 rfl (nI_1 _) (by decide) rfl ?_
          refine xr_goto (tgt := 26) dX10_mistaken_243 rfl ?_
          refine xb_ls (ls2 := [(6, .int (nI (k + 1))), (5, .int (0)), (4, .int ((L - 1))), (3, .int ((-1))), (2, .int (0)), (1, .int (m0)), (0, .ref (62))]) [0, 4, 1, 3, 6, 7, 8] rfl ?_
          exact ih (k + 1) _ _ (by omega) ⟨(R0_up ⟨by decide, fun q => absurd q (by decide)⟩ (R0_up ⟨by decide, fun q => absurd q (by decide)⟩ e.1)), (Eq.trans (x_up_k _ _ _ (by decide)) (x_up_s _ _ _ _))⟩
      · refine xr_iload dX10_mistaken_174 5 rfl ?_
        refine xr_if_ne (tgt := 183) dX10_mistaken_176 rfl (fun c8 => ?_) (fun c8 => ?_)
        · refine xr_iconst (v := 0) dX10_mistaken_183 rfl ?_
          refine xr_istore (ls2 := [(8, .int (0)), (3, .int ((-1))), (5, .int ((0 ||| 0))), (7, .int (1)), (6, .int (nI (k))), (4, .int (L)), (2, .int (0)), (1, .int (m0)), (0, .ref (62))]) dX10_mistaken_184 (by decide) rfl ?_
          refine xr_iload dX10_mistaken_186 5 rfl ?_
          refine xr_aload_n dX10_mistaken_188 8 rfl ?_
          refine xr_aload_n dX10_mistaken_189 8 rfl ?_
          refine xb_get (v := M 62 9) flX10_151 dX10_mistaken_190 s_62 rfl (Eq.trans (x_up_k _ _ _ (by decide)) rfl) ?_
          refine xr_iload dX10_mistaken_193 4 rfl ?_
          refine xr_iadd dX10_mistaken_195 ?_
          refine xb_cV (As := [.int (((M 62 9) + (nI (k))))]) (rest := [.int (L)]) mlX10_228 (r0_isPush ((M 62 9) + (nI (k))) (R0_up ⟨by decide, fun q => absurd q (by decide)⟩ e.1)) dX10_mistaken_196 s_62 rfl rfl (Nat.le_of_ble_eq_true rfl) (by decide) (by decide) ?_
          refine xb_beq (tgt := 206) dX10_mistaken_199 rfl (fun c9 => ?_) (fun c9 => ?_)
          · refine xr_iconst (v := 0) dX10_mistaken_206 rfl ?_
            refine xr_isub dX10_mistaken_207 ?_
            refine xr_istore (ls2 := [(4, .int ((L - 0))), (8, .int (0)), (3, .int ((-1))), (5, .int ((0 ||| 0))), (7, .int (1)), (6, .int (nI (k))), (2, .int (0)), (1, .int (m0)), (0, .ref (62))]) dX10_mistaken_208 (by decide) rfl ?_
            refine xr_iload dX10_mistaken_210 1 rfl ?_
            refine xr_if_eq (tgt := 229) dX10_mistaken_212 rfl (fun _ => ?_) (fun c => absurd (by decide) c)
            refine xr_aload_n dX10_mistaken_229 8 rfl ?_
            refine xr_aload_n dX10_mistaken_230 8 rfl ?_
            refine xb_get (v := M 62 9) flX10_151 dX10_mistaken_231 s_62 rfl (Eq.trans (x_up_k _ _ _ (by decide)) rfl) ?_
            refine xr_iload dX10_mistaken_234 5 rfl ?_
            refine xr_iadd dX10_mistaken_236 ?_
            refine xr_callV (As := [.int (((M 62 9) + (nI (k))))]) (rest := []) mlX10_255 (r0_tickGoes ((M 62 9) + (nI (k))) (R0_up ⟨by decide, fun q => absurd q (by decide)⟩ e.1)) dX10_mistaken_237 s_62 rfl rfl (Nat.le_of_ble_eq_true rfl) (by decide) ⟨by decide, by decide⟩ (fun v s2 M10 J2 hq => ?_)
            obtain ⟨rfl, rfl, rfl, w11, rfl⟩ := hq
            try dsimp only [Option.toList, List.cons_append, List.nil_append]
            refine xr_iinc (v := nI (k + 1)) (ls2 := [(6, .int (nI (k + 1))), (4, .int ((L - 0))), (8, .int (0)), (3, .int ((-1))), (5, .int ((0 ||| 0))), (7, .int (1)), (2, .int (0)), (1, .int (m0)), (0, .ref (62))]) dX10_mistaken_240 5 rfl (nI_1 _) (by decide) rfl ?_
            refine xr_goto (tgt := 26) dX10_mistaken_243 rfl ?_
            refine xb_ls (ls2 := [(6, .int (nI (k + 1))), (5, .int (0)), (4, .int ((L - 0))), (3, .int ((-1))), (2, .int (0)), (1, .int (m0)), (0, .ref (62))]) [0, 4, 1, 3, 6, 7, 8] rfl ?_
            exact ih (k + 1) _ _ (by omega) ⟨(R0_up ⟨by decide, fun q => absurd q (by decide)⟩ (R0_up ⟨by decide, fun q => absurd q (by decide)⟩ e.1)), (Eq.trans (x_up_k _ _ _ (by decide)) (x_up_s _ _ _ _))⟩
          · refine xr_iconst (v := 1) dX10_mistaken_202 rfl ?_
            refine xr_goto (tgt := 207) dX10_mistaken_203 rfl ?_
            refine xr_isub dX10_mistaken_207 ?_
            refine xr_istore (ls2 := [(4, .int ((L - 1))), (8, .int (0)), (3, .int ((-1))), (5, .int ((0 ||| 0))), (7, .int (1)), (6, .int (nI (k))), (2, .int (0)), (1, .int (m0)), (0, .ref (62))]) dX10_mistaken_208 (by decide) rfl ?_
            refine xr_iload dX10_mistaken_210 1 rfl ?_
            refine xr_if_eq (tgt := 229) dX10_mistaken_212 rfl (fun _ => ?_) (fun c => absurd (by decide) c)
            refine xr_aload_n dX10_mistaken_229 8 rfl ?_
            refine xr_aload_n dX10_mistaken_230 8 rfl ?_
            refine xb_get (v := M 62 9) flX10_151 dX10_mistaken_231 s_62 rfl (Eq.trans (x_up_k _ _ _ (by decide)) rfl) ?_
            refine xr_iload dX10_mistaken_234 5 rfl ?_
            refine xr_iadd dX10_mistaken_236 ?_
            refine xr_callV (As := [.int (((M 62 9) + (nI (k))))]) (rest := []) mlX10_255 (r0_tickGoes ((M 62 9) + (nI (k))) (R0_up ⟨by decide, fun q => absurd q (by decide)⟩ e.1)) dX10_mistaken_237 s_62 rfl rfl (Nat.le_of_ble_eq_true rfl) (by decide) ⟨by decide, by decide⟩ (fun v s2 M12 J2 hq => ?_)
            obtain ⟨rfl, rfl, rfl, w13, rfl⟩ := hq
            try dsimp only [Option.toList, List.cons_append, List.nil_append]
            refine xr_iinc (v := nI (k + 1)) (ls2 := [(6, .int (nI (k + 1))), (4, .int ((L - 1))), (8, .int (0)), (3, .int ((-1))), (5, .int ((0 ||| 0))), (7, .int (1)), (2, .int (0)), (1, .int (m0)), (0, .ref (62))]) dX10_mistaken_240 5 rfl (nI_1 _) (by decide) rfl ?_
            refine xr_goto (tgt := 26) dX10_mistaken_243 rfl ?_
            refine xb_ls (ls2 := [(6, .int (nI (k + 1))), (5, .int (0)), (4, .int ((L - 1))), (3, .int ((-1))), (2, .int (0)), (1, .int (m0)), (0, .ref (62))]) [0, 4, 1, 3, 6, 7, 8] rfl ?_
            exact ih (k + 1) _ _ (by omega) ⟨(R0_up ⟨by decide, fun q => absurd q (by decide)⟩ (R0_up ⟨by decide, fun q => absurd q (by decide)⟩ e.1)), (Eq.trans (x_up_k _ _ _ (by decide)) (x_up_s _ _ _ _))⟩
        · refine xr_iconst (v := 1) dX10_mistaken_179 rfl ?_
          refine xr_goto (tgt := 184) dX10_mistaken_180 rfl ?_
          refine xr_istore (ls2 := [(8, .int (1)), (3, .int ((-1))), (5, .int ((0 ||| 0))), (7, .int (1)), (6, .int (nI (k))), (4, .int (L)), (2, .int (0)), (1, .int (m0)), (0, .ref (62))]) dX10_mistaken_184 (by decide) rfl ?_
          refine xr_iload dX10_mistaken_186 5 rfl ?_
          refine xr_aload_n dX10_mistaken_188 8 rfl ?_
          refine xr_aload_n dX10_mistaken_189 8 rfl ?_
          refine xb_get (v := M 62 9) flX10_151 dX10_mistaken_190 s_62 rfl (Eq.trans (x_up_k _ _ _ (by decide)) rfl) ?_
          refine xr_iload dX10_mistaken_193 4 rfl ?_
          refine xr_iadd dX10_mistaken_195 ?_
          refine xb_cV (As := [.int (((M 62 9) + (nI (k))))]) (rest := [.int (L)]) mlX10_228 (r0_isPush ((M 62 9) + (nI (k))) (R0_up ⟨by decide, fun q => absurd q (by decide)⟩ e.1)) dX10_mistaken_196 s_62 rfl rfl (Nat.le_of_ble_eq_true rfl) (by decide) (by decide) ?_
          refine xb_beq (tgt := 206) dX10_mistaken_199 rfl (fun c14 => ?_) (fun c14 => ?_)
          · refine xr_iconst (v := 0) dX10_mistaken_206 rfl ?_
            refine xr_isub dX10_mistaken_207 ?_
            refine xr_istore (ls2 := [(4, .int ((L - 0))), (8, .int (1)), (3, .int ((-1))), (5, .int ((0 ||| 0))), (7, .int (1)), (6, .int (nI (k))), (2, .int (0)), (1, .int (m0)), (0, .ref (62))]) dX10_mistaken_208 (by decide) rfl ?_
            refine xr_iload dX10_mistaken_210 1 rfl ?_
            refine xr_if_eq (tgt := 229) dX10_mistaken_212 rfl (fun c => absurd c (by decide)) (fun _ => ?_)
            refine xr_aload_n dX10_mistaken_215 8 rfl ?_
            refine xr_aload_n dX10_mistaken_216 8 rfl ?_
            refine xb_get (v := M 62 9) flX10_151 dX10_mistaken_217 s_62 rfl (Eq.trans (x_up_k _ _ _ (by decide)) rfl) ?_
            refine xr_iload dX10_mistaken_220 5 rfl ?_
            refine xr_iadd dX10_mistaken_222 ?_
            refine xb_cV (As := [.int (((M 62 9) + (nI (k))))]) (rest := []) mlX10_240 (r0_turns ((M 62 9) + (nI (k))) (R0_up ⟨by decide, fun q => absurd q (by decide)⟩ e.1)) dX10_mistaken_223 s_62 rfl rfl (Nat.le_of_ble_eq_true rfl) (by decide) (by decide) ?_
            refine xr_goto (tgt := 240) dX10_mistaken_226 rfl ?_
            refine xr_iinc (v := nI (k + 1)) (ls2 := [(6, .int (nI (k + 1))), (4, .int ((L - 0))), (8, .int (1)), (3, .int ((-1))), (5, .int ((0 ||| 0))), (7, .int (1)), (2, .int (0)), (1, .int (m0)), (0, .ref (62))]) dX10_mistaken_240 5 rfl (nI_1 _) (by decide) rfl ?_
            refine xr_goto (tgt := 26) dX10_mistaken_243 rfl ?_
            refine xb_ls (ls2 := [(6, .int (nI (k + 1))), (5, .int (0)), (4, .int ((L - 0))), (3, .int ((-1))), (2, .int (0)), (1, .int (m0)), (0, .ref (62))]) [0, 4, 1, 3, 6, 7, 8] rfl ?_
            exact ih (k + 1) _ _ (by omega) ⟨(R0_up ⟨by decide, fun q => absurd q (by decide)⟩ e.1), (x_up_s _ _ _ _)⟩
          · refine xr_iconst (v := 1) dX10_mistaken_202 rfl ?_
            refine xr_goto (tgt := 207) dX10_mistaken_203 rfl ?_
            refine xr_isub dX10_mistaken_207 ?_
            refine xr_istore (ls2 := [(4, .int ((L - 1))), (8, .int (1)), (3, .int ((-1))), (5, .int ((0 ||| 0))), (7, .int (1)), (6, .int (nI (k))), (2, .int (0)), (1, .int (m0)), (0, .ref (62))]) dX10_mistaken_208 (by decide) rfl ?_
            refine xr_iload dX10_mistaken_210 1 rfl ?_
            refine xr_if_eq (tgt := 229) dX10_mistaken_212 rfl (fun c => absurd c (by decide)) (fun _ => ?_)
            refine xr_aload_n dX10_mistaken_215 8 rfl ?_
            refine xr_aload_n dX10_mistaken_216 8 rfl ?_
            refine xb_get (v := M 62 9) flX10_151 dX10_mistaken_217 s_62 rfl (Eq.trans (x_up_k _ _ _ (by decide)) rfl) ?_
            refine xr_iload dX10_mistaken_220 5 rfl ?_
            refine xr_iadd dX10_mistaken_222 ?_
            refine xb_cV (As := [.int (((M 62 9) + (nI (k))))]) (rest := []) mlX10_240 (r0_turns ((M 62 9) + (nI (k))) (R0_up ⟨by decide, fun q => absurd q (by decide)⟩ e.1)) dX10_mistaken_223 s_62 rfl rfl (Nat.le_of_ble_eq_true rfl) (by decide) (by decide) ?_
            refine xr_goto (tgt := 240) dX10_mistaken_226 rfl ?_
            refine xr_iinc (v := nI (k + 1)) (ls2 := [(6, .int (nI (k + 1))), (4, .int ((L - 1))), (8, .int (1)), (3, .int ((-1))), (5, .int ((0 ||| 0))), (7, .int (1)), (2, .int (0)), (1, .int (m0)), (0, .ref (62))]) dX10_mistaken_240 5 rfl (nI_1 _) (by decide) rfl ?_
            refine xr_goto (tgt := 26) dX10_mistaken_243 rfl ?_
            refine xb_ls (ls2 := [(6, .int (nI (k + 1))), (5, .int (0)), (4, .int ((L - 1))), (3, .int ((-1))), (2, .int (0)), (1, .int (m0)), (0, .ref (62))]) [0, 4, 1, 3, 6, 7, 8] rfl ?_
            exact ih (k + 1) _ _ (by omega) ⟨(R0_up ⟨by decide, fun q => absurd q (by decide)⟩ e.1), (x_up_s _ _ _ _)⟩
set_option maxRecDepth 100000 in
set_option maxHeartbeats 4000000 in
theorem r0_mistaken (m0 : Int32) {l : Launch} {G : xG} {M : xM} {J : xJ} (e : R0 M) : x_M l G fX10_mistaken 3 0 0 [.ref (62), .int (m0)] x_SH M J (fun v s2 M2 _ => v = some (.int 200) ∧ s2 = x_SH ∧ M2 62 26 = 0) := by
  refine xb_of pX10 (Nat.le_of_ble_eq_true rfl) rfl ?_
  refine xr_aload_n dX10_mistaken_0 0 rfl ?_
  refine xb_cV (As := []) (rest := []) mlX10_246 (r0_upNow e) dX10_mistaken_1 s_62 rfl rfl (Nat.le_of_ble_eq_true rfl) (by decide) (by decide) ?_
  refine xr_istore_n (ls2 := [(2, .int (0)), (0, .ref (62)), (1, .int (m0))]) dX10_mistaken_4 (by decide) rfl ?_
  refine xr_aload_n dX10_mistaken_5 1 rfl ?_
  refine xr_iload_n dX10_mistaken_6 0 rfl ?_
  refine xb_cV (As := [.int (0)]) (rest := []) mlX10_249 (r0_begins1 0 e) dX10_mistaken_7 s_62 rfl rfl (Nat.le_of_ble_eq_true rfl) (by decide) (by decide) ?_
  refine xr_iconst (v := -1) dX10_mistaken_10 rfl ?_
  refine xr_istore_n (ls2 := [(3, .int ((-1))), (2, .int (0)), (0, .ref (62)), (1, .int (m0))]) dX10_mistaken_11 (by decide) rfl ?_
  refine xr_iload_n dX10_mistaken_12 3 rfl ?_
  refine xr_istore (ls2 := [(4, .int (m0)), (3, .int ((-1))), (2, .int (0)), (0, .ref (62)), (1, .int (m0))]) dX10_mistaken_13 (by decide) rfl ?_
  refine xr_iconst (v := 0) dX10_mistaken_15 rfl ?_
  refine xr_istore (ls2 := [(5, .int (0)), (4, .int (m0)), (3, .int ((-1))), (2, .int (0)), (0, .ref (62)), (1, .int (m0))]) dX10_mistaken_16 (by decide) rfl ?_
  refine xr_aload_n dX10_mistaken_18 4 rfl ?_
  refine xr_iconst (v := -1) dX10_mistaken_19 rfl ?_
  refine xr_putI fpX10_273 dX10_mistaken_20 s_62 rfl rfl rfl ?_
  refine xr_iconst (v := 0) dX10_mistaken_23 rfl ?_
  refine xr_istore (ls2 := [(6, .int (0)), (5, .int (0)), (4, .int (m0)), (3, .int ((-1))), (2, .int (0)), (0, .ref (62)), (1, .int (m0))]) dX10_mistaken_24 (by decide) rfl ?_
  refine xb_ls (ls2 := [(6, .int (nI (0))), (5, .int (0)), (4, .int (m0)), (3, .int ((-1))), (2, .int (0)), (1, .int (m0)), (0, .ref (62))]) [0, 1, 2, 3, 4, 6, 5] rfl ?_
  exact rl_mistaken m0 201 0 _ _ (by omega) ⟨(R0_up ⟨by decide, fun q => absurd q (by decide)⟩ e), (x_up_s _ _ _ _)⟩
set_option maxRecDepth 100000 in
set_option maxHeartbeats 4000000 in
theorem p_X10_mistake (m what : Int32) {l : Launch} {G : xG} {M : xM} {J : xJ} (hF : Fr M)  : x_M l G fX10_mistake 4 0 0 [.ref (62), .int (m), .int (what)] x_SH M J (qR (some (.int (if (0 ≤ m ∧ m ≤ 40) ∧ 0 ≤ what ∧ what ≤ 1 then (if what = 0 then 200 else 0) else -1)))) := by
  refine xb_of pX10 (Nat.le_of_ble_eq_true rfl) rfl ?_
  refine xr_iload_n dX10_mistake_0 1 rfl ?_
  refine xr_i2l dX10_mistake_1 ?_
  refine xr_lconst (v := 0) dX10_mistake_2 rfl ?_
  refine xr_ldc2 coX10_276 dX10_mistake_3 ?_
  refine xb_cS (As := [.long ((m).toInt64), .long (0), .long (40)]) (rest := []) mlX10_101 (c_within32 (m) (0) (40) (by decide) (by decide)) dX10_mistake_6 rfl rfl (Nat.le_of_ble_eq_true rfl) (by decide) (by decide) ?_
  refine xb_beq (tgt := 22) dX10_mistake_9 rfl (fun c1 => ?_) (fun c1 => ?_)
  · refine xr_iconst (v := -1) dX10_mistake_22 rfl ?_
    exact xr_iret dX10_mistake_23 rfl rfl (by first | rfl | (refine congrArg (fun z => some (Value.int z)) ?_; first | exact (if_neg (by assumption)).symm | exact (if_pos (by assumption)).symm | grind))
  · refine xr_iload_n dX10_mistake_12 2 rfl ?_
    refine xr_i2l dX10_mistake_13 ?_
    refine xr_lconst (v := 0) dX10_mistake_14 rfl ?_
    refine xr_lconst (v := 1) dX10_mistake_15 rfl ?_
    refine xb_cS (As := [.long ((what).toInt64), .long (0), .long (1)]) (rest := []) mlX10_101 (c_within32 (what) (0) (1) (by decide) (by decide)) dX10_mistake_16 rfl rfl (Nat.le_of_ble_eq_true rfl) (by decide) (by decide) ?_
    refine xb_bne (tgt := 24) dX10_mistake_19 rfl (fun c2 => ?_) (fun c2 => ?_)
    · refine xr_aload_n dX10_mistake_24 0 rfl ?_
      refine xr_iload_n dX10_mistake_25 1 rfl ?_
      refine xr_callV (As := [.int (m)]) (rest := []) mlX10_278 (r0_mistaken m (R0_Fr hF)) dX10_mistake_26 s_62 rfl rfl (Nat.le_of_ble_eq_true rfl) (by decide) ⟨by decide, by decide⟩ (fun v s2 M3 J2 hq => ?_)
      obtain ⟨rfl, rfl, hq⟩ := hq
      try dsimp only [Option.toList, List.cons_append, List.nil_append]
      refine xr_istore_n (ls2 := [(3, .int (200)), (0, .ref (62)), (1, .int (m)), (2, .int (what))]) dX10_mistake_29 (by decide) rfl ?_
      refine xr_iload_n dX10_mistake_30 3 rfl ?_
      refine xr_if_ne (tgt := 38) dX10_mistake_31 rfl (fun c4 => ?_) (fun c4 => ?_)
      · refine xr_aload_n dX10_mistake_38 1 rfl ?_
        refine xb_get (v := 0) flX10_273 dX10_mistake_39 s_62 rfl hq ?_
        exact xr_iret dX10_mistake_42 rfl rfl (by first | rfl | (refine congrArg (fun z => some (Value.int z)) ?_; first | exact (if_neg (by assumption)).symm | exact (if_pos (by assumption)).symm | grind))
      · refine xr_iload_n dX10_mistake_34 0 rfl ?_
        refine xr_goto (tgt := 42) dX10_mistake_35 rfl ?_
        exact xr_iret dX10_mistake_42 rfl rfl (by first | rfl | (refine congrArg (fun z => some (Value.int z)) ?_; first | exact (if_neg (by assumption)).symm | exact (if_pos (by assumption)).symm | grind))
    · refine xr_iconst (v := -1) dX10_mistake_22 rfl ?_
      exact xr_iret dX10_mistake_23 rfl rfl (by first | rfl | (refine congrArg (fun z => some (Value.int z)) ?_; first | exact (if_neg (by assumption)).symm | exact (if_pos (by assumption)).symm | grind))
set_option maxRecDepth 100000 in
set_option maxHeartbeats 4000000 in
theorem rl_beat1 {what : Int32} {l : Launch} {G : xG} {J : xJ} {b : Nat} (hb : 2 ≤ b) (hb2 : b ≤ 24) (hC : ∀ M, R0 M → x_X l G fX10_beatFor 4 0 0 (qR (some (.int 200))) 122 [(6, .int (nI (b))), (5, .int (200)), (4, .int (200)), (3, .int (0)), (2, .int (6)), (1, .int (what)), (0, .ref (62))] [] x_SH M J 0 0) : ∀ (m p : Nat) (M : xM), p + m = b → R0 M → x_X l G fX10_beatFor 4 0 0 (qR (some (.int 200))) 47 [(7, .int (nI (p))), (6, .int (nI (b))), (5, .int (200)), (4, .int (200)), (3, .int (0)), (2, .int (6)), (1, .int (what)), (0, .ref (62))] [] x_SH M J 0 0 := by
  intro m
  induction m with
  | zero =>
    intro p M hk e
    refine xr_iload dX10_beatFor_47 0 rfl ?_
    refine xr_iload dX10_beatFor_49 1 rfl ?_
    refine xr_icmp_ge (tgt := 122) dX10_beatFor_51 rfl (fun _ => ?_) (fun c => absurd (nI_le (a := b) (b := p) (by omega) (by omega)) c)
    refine xb_ls (ls2 := [(6, .int (nI (b))), (5, .int (200)), (4, .int (200)), (3, .int (0)), (2, .int (6)), (1, .int (what)), (0, .ref (62))]) [1, 2, 3, 4, 5, 6, 7] rfl ?_
    exact hC _ e
  | succ m ih =>
    intro p M hk e
    refine xr_iload dX10_beatFor_47 0 rfl ?_
    refine xr_iload dX10_beatFor_49 1 rfl ?_
    refine xr_icmp_ge (tgt := 122) dX10_beatFor_51 rfl (fun c => absurd c (nI_ge (a := p) (b := b) (by omega) (by omega))) (fun _ => ?_)
    refine xr_aload_n dX10_beatFor_54 7 rfl ?_
    refine xr_getR flX10_9 dX10_beatFor_55 s_62 rfl ?_
    refine xr_bipush (v := 16) dX10_beatFor_58 rfl ?_
    refine xr_iload dX10_beatFor_60 1 rfl ?_
    refine xb_iast (j := 16) dX10_beatFor_62 s_63 (by decide) (by decide) ?_
    refine xr_aload_n dX10_beatFor_63 7 rfl ?_
    refine xr_getR flX10_9 dX10_beatFor_64 s_62 rfl ?_
    refine xr_bipush (v := 17) dX10_beatFor_67 rfl ?_
    refine xr_iload dX10_beatFor_69 0 rfl ?_
    refine xb_iast (j := 17) dX10_beatFor_71 s_63 (by decide) (by decide) ?_
    refine xr_aload_n dX10_beatFor_72 7 rfl ?_
    refine xr_callV (As := []) (rest := []) mlX10_270 (r0_lasts (R0_up ⟨by decide, fun q => absurd q (by decide)⟩ (R0_up ⟨by decide, fun _ => (fun q => absurd ((nI_eq (a := b) (b := 0) (by omega) (by omega)).mp q) (by omega))⟩ e))) dX10_beatFor_73 s_62 rfl rfl (Nat.le_of_ble_eq_true rfl) (by decide) ⟨by decide, by decide⟩ (fun v s2 M1 J2 hq => ?_)
    obtain ⟨rfl, rfl, rfl, w2, rfl⟩ := hq
    try dsimp only [Option.toList, List.cons_append, List.nil_append]
    refine xr_istore (ls2 := [(8, .int (200)), (7, .int (nI (p))), (6, .int (nI (b))), (5, .int (200)), (4, .int (200)), (3, .int (0)), (2, .int (6)), (1, .int (what)), (0, .ref (62))]) dX10_beatFor_76 (by decide) rfl ?_
    refine xr_iload dX10_beatFor_78 0 rfl ?_
    refine xr_iload dX10_beatFor_80 3 rfl ?_
    refine xr_icmp_le (tgt := 96) dX10_beatFor_82 rfl (fun _ => ?_) (fun c => absurd (by decide) c)
    refine xr_iload dX10_beatFor_96 4 rfl ?_
    refine xr_istore (ls2 := [(4, .int (200)), (8, .int (200)), (7, .int (nI (p))), (6, .int (nI (b))), (5, .int (200)), (3, .int (0)), (2, .int (6)), (1, .int (what)), (0, .ref (62))]) dX10_beatFor_98 (by decide) rfl ?_
    refine xr_iload dX10_beatFor_100 1 rfl ?_
    refine xr_iload dX10_beatFor_102 4 rfl ?_
    refine xr_icmp_le (tgt := 112) dX10_beatFor_104 rfl (fun _ => ?_) (fun c => absurd (by decide) c)
    refine xr_iload dX10_beatFor_112 4 rfl ?_
    refine xr_istore (ls2 := [(5, .int (200)), (4, .int (200)), (8, .int (200)), (7, .int (nI (p))), (6, .int (nI (b))), (3, .int (0)), (2, .int (6)), (1, .int (what)), (0, .ref (62))]) dX10_beatFor_114 (by decide) rfl ?_
    refine xr_iinc (v := nI (p + 1)) (ls2 := [(7, .int (nI (p + 1))), (5, .int (200)), (4, .int (200)), (8, .int (200)), (6, .int (nI (b))), (3, .int (0)), (2, .int (6)), (1, .int (what)), (0, .ref (62))]) dX10_beatFor_116 3 rfl (nI_1 _) (by decide) rfl ?_
    refine xr_goto (tgt := 47) dX10_beatFor_119 rfl ?_
    refine xb_ls (ls2 := [(7, .int (nI (p + 1))), (6, .int (nI (b))), (5, .int (200)), (4, .int (200)), (3, .int (0)), (2, .int (6)), (1, .int (what)), (0, .ref (62))]) [0, 4, 1, 2, 5, 6, 7, 8] rfl ?_
    exact ih (p + 1) _ (by omega) (R0_up ⟨by decide, fun q => absurd q (by decide)⟩ (R0_up ⟨by decide, fun q => absurd q (by decide)⟩ (R0_up ⟨by decide, fun _ => (fun q => absurd ((nI_eq (a := b) (b := 0) (by omega) (by omega)).mp q) (by omega))⟩ e)))
set_option maxRecDepth 100000 in
set_option maxHeartbeats 4000000 in
theorem rl_beat2 {what : Int32} {l : Launch} {G : xG} {J : xJ} : ∀ (m b : Nat) (M : xM), 2 ≤ b → b + m = 25 → R0 M → x_X l G fX10_beatFor 4 0 0 (qR (some (.int 200))) 37 [(6, .int (nI (b))), (5, .int (200)), (4, .int (200)), (3, .int (0)), (2, .int (6)), (1, .int (what)), (0, .ref (62))] [] x_SH M J 0 0 := by
  intro m
  induction m with
  | zero =>
    intro b M hb hk e
    refine xr_iload dX10_beatFor_37 0 rfl ?_
    refine xr_bipush (v := 24) dX10_beatFor_39 rfl ?_
    refine xr_icmp_gt (tgt := 128) dX10_beatFor_41 rfl (fun _ => ?_) (fun c => absurd (nI_lt (a := 24) (b := b) (by omega) (by omega)) c)
    refine xr_aload_n dX10_beatFor_128 6 rfl ?_
    refine xr_getR flX10_9 dX10_beatFor_129 s_62 rfl ?_
    refine xr_bipush (v := 16) dX10_beatFor_132 rfl ?_
    refine xr_iload_n dX10_beatFor_134 4 rfl ?_
    refine xb_iast (j := 16) dX10_beatFor_135 s_63 (by decide) (by decide) ?_
    refine xr_aload_n dX10_beatFor_136 6 rfl ?_
    refine xr_getR flX10_9 dX10_beatFor_137 s_62 rfl ?_
    refine xr_bipush (v := 17) dX10_beatFor_140 rfl ?_
    refine xr_iload_n dX10_beatFor_142 3 rfl ?_
    refine xb_iast (j := 17) dX10_beatFor_143 s_63 (by decide) (by decide) ?_
    refine xr_iload_n dX10_beatFor_144 5 rfl ?_
    refine xr_if_ne (tgt := 153) dX10_beatFor_145 rfl (fun c1 => ?_) (fun c1 => ?_)
    · refine xr_iload dX10_beatFor_153 1 rfl ?_
      exact xr_iret dX10_beatFor_155 rfl rfl (rfl)
    · refine xr_iload dX10_beatFor_148 2 rfl ?_
      refine xr_goto (tgt := 155) dX10_beatFor_150 rfl ?_
      exact xr_iret dX10_beatFor_155 rfl rfl (rfl)
  | succ m ih =>
    intro b M hb hk e
    refine xr_iload dX10_beatFor_37 0 rfl ?_
    refine xr_bipush (v := 24) dX10_beatFor_39 rfl ?_
    refine xr_icmp_gt (tgt := 128) dX10_beatFor_41 rfl (fun c => absurd c (nI_nlt (a := 24) (b := b) (by omega) (by omega))) (fun _ => ?_)
    refine xr_iconst (v := 0) dX10_beatFor_44 rfl ?_
    refine xr_istore (ls2 := [(7, .int (0)), (6, .int (nI (b))), (5, .int (200)), (4, .int (200)), (3, .int (0)), (2, .int (6)), (1, .int (what)), (0, .ref (62))]) dX10_beatFor_45 (by decide) rfl ?_
    refine xb_ls (ls2 := [(7, .int (nI (0))), (6, .int (nI (b))), (5, .int (200)), (4, .int (200)), (3, .int (0)), (2, .int (6)), (1, .int (what)), (0, .ref (62))]) [0, 1, 2, 3, 4, 5, 6, 7] rfl ?_
    refine rl_beat1 hb (by omega) (fun M3 e3 => ?_) b 0 _ (by omega) e
    refine xr_iinc (v := nI (b + 1)) (ls2 := [(6, .int (nI (b + 1))), (5, .int (200)), (4, .int (200)), (3, .int (0)), (2, .int (6)), (1, .int (what)), (0, .ref (62))]) dX10_beatFor_122 0 rfl (nI_1 _) (by decide) rfl ?_
    refine xr_goto (tgt := 37) dX10_beatFor_125 rfl ?_
    refine xb_ls (ls2 := [(6, .int (nI (b + 1))), (5, .int (200)), (4, .int (200)), (3, .int (0)), (2, .int (6)), (1, .int (what)), (0, .ref (62))]) [0, 1, 2, 3, 4, 5, 6] rfl ?_
    exact ih (b + 1) _ (by omega) (by omega) e3
set_option maxRecDepth 100000 in
set_option maxHeartbeats 4000000 in
theorem p_X10_beatFor (what : Int32) {l : Launch} {G : xG} {M : xM} {J : xJ} (hF : Fr M)  : x_M l G fX10_beatFor 4 0 0 [.ref (62), .int (what)] x_SH M J (qR (some (.int (if 0 ≤ what ∧ what ≤ 1 then 200 else -1)))) := by
  refine xb_of pX10 (Nat.le_of_ble_eq_true rfl) rfl ?_
  refine xr_iload_n dX10_beatFor_0 1 rfl ?_
  refine xr_i2l dX10_beatFor_1 ?_
  refine xr_lconst (v := 0) dX10_beatFor_2 rfl ?_
  refine xr_lconst (v := 1) dX10_beatFor_3 rfl ?_
  refine xb_cS (As := [.long ((what).toInt64), .long (0), .long (1)]) (rest := []) mlX10_101 (c_within32 (what) (0) (1) (by decide) (by decide)) dX10_beatFor_4 rfl rfl (Nat.le_of_ble_eq_true rfl) (by decide) (by decide) ?_
  refine xb_bne (tgt := 12) dX10_beatFor_7 rfl (fun c1 => ?_) (fun c1 => ?_)
  · refine xr_aload_n dX10_beatFor_12 0 rfl ?_
    refine xr_getR flX10_9 dX10_beatFor_13 s_62 rfl ?_
    refine xr_bipush (v := 16) dX10_beatFor_16 rfl ?_
    refine xb_iald (j := 16) (v := 6) dX10_beatFor_18 s_63 (by decide) (by decide) (Fr_r hF (by decide) (by decide +kernel)) ?_
    refine xr_istore_n (ls2 := [(2, .int (6)), (0, .ref (62)), (1, .int (what))]) dX10_beatFor_19 (by decide) rfl ?_
    refine xr_aload_n dX10_beatFor_20 1 rfl ?_
    refine xr_getR flX10_9 dX10_beatFor_21 s_62 rfl ?_
    refine xr_bipush (v := 17) dX10_beatFor_24 rfl ?_
    refine xb_iald (j := 17) (v := 0) dX10_beatFor_26 s_63 (by decide) (by decide) (Fr_r hF (by decide) (by decide +kernel)) ?_
    refine xr_istore_n (ls2 := [(3, .int (0)), (2, .int (6)), (0, .ref (62)), (1, .int (what))]) dX10_beatFor_27 (by decide) rfl ?_
    refine xr_iconst (v := 0) dX10_beatFor_28 rfl ?_
    refine xr_istore (ls2 := [(4, .int (0)), (3, .int (0)), (2, .int (6)), (0, .ref (62)), (1, .int (what))]) dX10_beatFor_29 (by decide) rfl ?_
    refine xr_iconst (v := -1) dX10_beatFor_31 rfl ?_
    refine xr_istore (ls2 := [(5, .int ((-1))), (4, .int (0)), (3, .int (0)), (2, .int (6)), (0, .ref (62)), (1, .int (what))]) dX10_beatFor_32 (by decide) rfl ?_
    refine xr_iconst (v := 2) dX10_beatFor_34 rfl ?_
    refine xr_istore (ls2 := [(6, .int (2)), (5, .int ((-1))), (4, .int (0)), (3, .int (0)), (2, .int (6)), (0, .ref (62)), (1, .int (what))]) dX10_beatFor_35 (by decide) rfl ?_
    refine xr_iload dX10_beatFor_37 0 rfl ?_
    refine xr_bipush (v := 24) dX10_beatFor_39 rfl ?_
    refine xr_icmp_gt (tgt := 128) dX10_beatFor_41 rfl (fun c => absurd c (by decide)) (fun _ => ?_)
    refine xr_iconst (v := 0) dX10_beatFor_44 rfl ?_
    refine xr_istore (ls2 := [(7, .int (0)), (6, .int (2)), (5, .int ((-1))), (4, .int (0)), (3, .int (0)), (2, .int (6)), (0, .ref (62)), (1, .int (what))]) dX10_beatFor_45 (by decide) rfl ?_
    refine xr_iload dX10_beatFor_47 0 rfl ?_
    refine xr_iload dX10_beatFor_49 1 rfl ?_
    refine xr_icmp_ge (tgt := 122) dX10_beatFor_51 rfl (fun c => absurd c (by decide)) (fun _ => ?_)
    refine xr_aload_n dX10_beatFor_54 6 rfl ?_
    refine xr_getR flX10_9 dX10_beatFor_55 s_62 rfl ?_
    refine xr_bipush (v := 16) dX10_beatFor_58 rfl ?_
    refine xr_iload dX10_beatFor_60 1 rfl ?_
    refine xb_iast (j := 16) dX10_beatFor_62 s_63 (by decide) (by decide) ?_
    refine xr_aload_n dX10_beatFor_63 6 rfl ?_
    refine xr_getR flX10_9 dX10_beatFor_64 s_62 rfl ?_
    refine xr_bipush (v := 17) dX10_beatFor_67 rfl ?_
    refine xr_iload dX10_beatFor_69 0 rfl ?_
    refine xb_iast (j := 17) dX10_beatFor_71 s_63 (by decide) (by decide) ?_
    refine xr_aload_n dX10_beatFor_72 6 rfl ?_
    refine xr_callV (As := []) (rest := []) mlX10_270 (r0_lasts (R0_up ⟨by decide, fun q => absurd q (by decide)⟩ (R0_up ⟨by decide, fun _ => by decide⟩ (R0_Fr hF)))) dX10_beatFor_73 s_62 rfl rfl (Nat.le_of_ble_eq_true rfl) (by decide) ⟨by decide, by decide⟩ (fun v s2 M2 J2 hq => ?_)
    obtain ⟨rfl, rfl, rfl, w3, rfl⟩ := hq
    try dsimp only [Option.toList, List.cons_append, List.nil_append]
    refine xr_istore (ls2 := [(8, .int (200)), (7, .int (0)), (6, .int (2)), (5, .int ((-1))), (4, .int (0)), (3, .int (0)), (2, .int (6)), (0, .ref (62)), (1, .int (what))]) dX10_beatFor_76 (by decide) rfl ?_
    refine xr_iload dX10_beatFor_78 0 rfl ?_
    refine xr_iload dX10_beatFor_80 3 rfl ?_
    refine xr_icmp_le (tgt := 96) dX10_beatFor_82 rfl (fun c => absurd c (by decide)) (fun _ => ?_)
    refine xr_bipush (v := 100) dX10_beatFor_85 rfl ?_
    refine xr_iload dX10_beatFor_87 2 rfl ?_
    refine xr_imul dX10_beatFor_89 ?_
    refine xb_top (y := 200) (by decide) ?_
    refine xr_iload dX10_beatFor_90 1 rfl ?_
    refine xr_iadd dX10_beatFor_92 ?_
    refine xb_top (y := 200) (by decide) ?_
    refine xr_goto (tgt := 98) dX10_beatFor_93 rfl ?_
    refine xr_istore (ls2 := [(4, .int (200)), (8, .int (200)), (7, .int (0)), (6, .int (2)), (5, .int ((-1))), (3, .int (0)), (2, .int (6)), (0, .ref (62)), (1, .int (what))]) dX10_beatFor_98 (by decide) rfl ?_
    refine xr_iload dX10_beatFor_100 1 rfl ?_
    refine xr_iload dX10_beatFor_102 4 rfl ?_
    refine xr_icmp_le (tgt := 112) dX10_beatFor_104 rfl (fun c => absurd c (by decide)) (fun _ => ?_)
    refine xr_iload dX10_beatFor_107 1 rfl ?_
    refine xr_goto (tgt := 114) dX10_beatFor_109 rfl ?_
    refine xr_istore (ls2 := [(5, .int (200)), (4, .int (200)), (8, .int (200)), (7, .int (0)), (6, .int (2)), (3, .int (0)), (2, .int (6)), (0, .ref (62)), (1, .int (what))]) dX10_beatFor_114 (by decide) rfl ?_
    refine xr_iinc (v := 1) (ls2 := [(7, .int (1)), (5, .int (200)), (4, .int (200)), (8, .int (200)), (6, .int (2)), (3, .int (0)), (2, .int (6)), (0, .ref (62)), (1, .int (what))]) dX10_beatFor_116 3 rfl rfl (by decide) rfl ?_
    refine xr_goto (tgt := 47) dX10_beatFor_119 rfl ?_
    refine x_Qeq (r := some (.int 200)) ?_ ?_
    · exact congrArg (fun z => some (Value.int z)) (if_pos (by grind)).symm
    refine xb_ls (ls2 := [(7, .int (nI (1))), (6, .int (nI (2))), (5, .int (200)), (4, .int (200)), (3, .int (0)), (2, .int (6)), (1, .int (what)), (0, .ref (62))]) [0, 4, 1, 2, 5, 6, 8, 7] rfl ?_
    refine rl_beat1 (b := 2) (by omega) (by omega) (fun M3 e3 => ?_) 1 1 _ (by omega) (R0_up ⟨by decide, fun q => absurd q (by decide)⟩ (R0_up ⟨by decide, fun q => absurd q (by decide)⟩ (R0_up ⟨by decide, fun _ => by decide⟩ (R0_Fr hF))))
    refine xr_iinc (v := nI (2 + 1)) (ls2 := [(6, .int (nI (2 + 1))), (5, .int (200)), (4, .int (200)), (3, .int (0)), (2, .int (6)), (1, .int (what)), (0, .ref (62))]) dX10_beatFor_122 0 rfl (nI_1 _) (by decide) rfl ?_
    refine xr_goto (tgt := 37) dX10_beatFor_125 rfl ?_
    refine xb_ls (ls2 := [(6, .int (nI (2 + 1))), (5, .int (200)), (4, .int (200)), (3, .int (0)), (2, .int (6)), (1, .int (what)), (0, .ref (62))]) [0, 1, 2, 3, 4, 5, 6] rfl ?_
    exact rl_beat2 22 3 _ (by omega) (by omega) e3
  · refine xr_iconst (v := -1) dX10_beatFor_10 rfl ?_
    exact xr_iret dX10_beatFor_11 rfl rfl (by first | rfl | (refine congrArg (fun z => some (Value.int z)) ?_; first | exact (if_neg (by assumption)).symm | exact (if_pos (by assumption)).symm | grind))
