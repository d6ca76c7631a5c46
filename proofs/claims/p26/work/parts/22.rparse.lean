theorem dX10_byteAt_0 : decode cX10_byteAt 0 = .ok (.aload_n 0, 1) := by decide +kernel
theorem dX10_byteAt_1 : decode cX10_byteAt 1 = .ok (.getfield 165, 3) := by decide +kernel
theorem dX10_byteAt_4 : decode cX10_byteAt 4 = .ok (.aload_n 0, 1) := by decide +kernel
theorem dX10_byteAt_5 : decode cX10_byteAt 5 = .ok (.getfield 168, 3) := by decide +kernel
theorem dX10_byteAt_8 : decode cX10_byteAt 8 = .ok (.if_icmp .ge 39, 3) := by decide +kernel
theorem dX10_byteAt_47 : decode cX10_byteAt 47 = .ok (.iconst 0, 1) := by decide +kernel
theorem dX10_byteAt_48 : decode cX10_byteAt 48 = .ok (.ireturn, 1) := by decide +kernel
theorem dX10_byteAt_11 : decode cX10_byteAt 11 = .ok (.aload_n 0, 1) := by decide +kernel
theorem dX10_byteAt_12 : decode cX10_byteAt 12 = .ok (.getfield 171, 3) := by decide +kernel
theorem dX10_byteAt_15 : decode cX10_byteAt 15 = .ok (.ifCond .ge 15, 3) := by decide +kernel
theorem dX10_byteAt_30 : decode cX10_byteAt 30 = .ok (.aload_n 0, 1) := by decide +kernel
theorem dX10_byteAt_31 : decode cX10_byteAt 31 = .ok (.getfield 31, 3) := by decide +kernel
theorem dX10_byteAt_34 : decode cX10_byteAt 34 = .ok (.aload_n 0, 1) := by decide +kernel
theorem dX10_byteAt_35 : decode cX10_byteAt 35 = .ok (.getfield 171, 3) := by decide +kernel
theorem dX10_byteAt_38 : decode cX10_byteAt 38 = .ok (.aload_n 0, 1) := by decide +kernel
theorem dX10_byteAt_39 : decode cX10_byteAt 39 = .ok (.getfield 165, 3) := by decide +kernel
theorem dX10_byteAt_42 : decode cX10_byteAt 42 = .ok (.iadd, 1) := by decide +kernel
theorem dX10_byteAt_43 : decode cX10_byteAt 43 = .ok (.iaload, 1) := by decide +kernel
theorem dX10_byteAt_44 : decode cX10_byteAt 44 = .ok (.goto 4, 3) := by decide +kernel
theorem dX10_byteAt_18 : decode cX10_byteAt 18 = .ok (.aload_n 0, 1) := by decide +kernel
theorem dX10_byteAt_19 : decode cX10_byteAt 19 = .ok (.getfield 28, 3) := by decide +kernel
theorem dX10_byteAt_22 : decode cX10_byteAt 22 = .ok (.aload_n 0, 1) := by decide +kernel
theorem dX10_byteAt_23 : decode cX10_byteAt 23 = .ok (.getfield 165, 3) := by decide +kernel
theorem dX10_byteAt_26 : decode cX10_byteAt 26 = .ok (.iaload, 1) := by decide +kernel
theorem dX10_byteAt_27 : decode cX10_byteAt 27 = .ok (.goto 21, 3) := by decide +kernel
theorem dX10_wrong_0 : decode cX10_wrong 0 = .ok (.aload_n 0, 1) := by decide +kernel
theorem dX10_wrong_1 : decode cX10_wrong 1 = .ok (.aload_n 0, 1) := by decide +kernel
theorem dX10_wrong_2 : decode cX10_wrong 2 = .ok (.getfield 174, 3) := by decide +kernel
theorem dX10_wrong_5 : decode cX10_wrong 5 = .ok (.ifCond .ge 10, 3) := by decide +kernel
theorem dX10_wrong_15 : decode cX10_wrong 15 = .ok (.aload_n 0, 1) := by decide +kernel
theorem dX10_wrong_16 : decode cX10_wrong 16 = .ok (.getfield 174, 3) := by decide +kernel
theorem dX10_wrong_19 : decode cX10_wrong 19 = .ok (.putfield 174, 3) := by decide +kernel
theorem dX10_wrong_22 : decode cX10_wrong 22 = .ok (.iconst 0, 1) := by decide +kernel
theorem dX10_wrong_23 : decode cX10_wrong 23 = .ok (.ireturn, 1) := by decide +kernel
theorem dX10_wrong_8 : decode cX10_wrong 8 = .ok (.aload_n 0, 1) := by decide +kernel
theorem dX10_wrong_9 : decode cX10_wrong 9 = .ok (.getfield 165, 3) := by decide +kernel
theorem dX10_wrong_12 : decode cX10_wrong 12 = .ok (.goto 7, 3) := by decide +kernel
theorem dX10_takes_0 : decode cX10_takes 0 = .ok (.aload_n 0, 1) := by decide +kernel
theorem dX10_takes_1 : decode cX10_takes 1 = .ok (.getfield 174, 3) := by decide +kernel
theorem dX10_takes_4 : decode cX10_takes 4 = .ok (.ifCond .ge 11, 3) := by decide +kernel
theorem dX10_takes_15 : decode cX10_takes 15 = .ok (.iconst 0, 1) := by decide +kernel
theorem dX10_takes_16 : decode cX10_takes 16 = .ok (.ireturn, 1) := by decide +kernel
theorem dX10_takes_7 : decode cX10_takes 7 = .ok (.aload_n 0, 1) := by decide +kernel
theorem dX10_takes_8 : decode cX10_takes 8 = .ok (.invokevirtual 177, 3) := by decide +kernel
theorem dX10_takes_11 : decode cX10_takes 11 = .ok (.iload_n 1, 1) := by decide +kernel
theorem dX10_takes_12 : decode cX10_takes 12 = .ok (.if_icmp .eq 5, 3) := by decide +kernel
theorem dX10_takes_17 : decode cX10_takes 17 = .ok (.aload_n 0, 1) := by decide +kernel
theorem dX10_takes_18 : decode cX10_takes 18 = .ok (.dup, 1) := by decide +kernel
theorem dX10_takes_19 : decode cX10_takes 19 = .ok (.getfield 165, 3) := by decide +kernel
theorem dX10_takes_22 : decode cX10_takes 22 = .ok (.iconst 1, 1) := by decide +kernel
theorem dX10_takes_23 : decode cX10_takes 23 = .ok (.iadd, 1) := by decide +kernel
theorem dX10_takes_24 : decode cX10_takes 24 = .ok (.putfield 165, 3) := by decide +kernel
theorem dX10_takes_27 : decode cX10_takes 27 = .ok (.iconst 1, 1) := by decide +kernel
theorem dX10_takes_28 : decode cX10_takes 28 = .ok (.ireturn, 1) := by decide +kernel
theorem dX10_product_10 : decode cX10_product 10 = .ok (.aload_n 0, 1) := by decide +kernel
theorem dX10_product_11 : decode cX10_product 11 = .ok (.getfield 174, 3) := by decide +kernel
theorem dX10_product_14 : decode cX10_product 14 = .ok (.ifCond .ge 80, 3) := by decide +kernel
theorem dX10_product_94 : decode cX10_product 94 = .ok (.iload_n 1, 1) := by decide +kernel
theorem dX10_product_95 : decode cX10_product 95 = .ok (.ireturn, 1) := by decide +kernel
theorem dX10_product_17 : decode cX10_product 17 = .ok (.iload_n 2, 1) := by decide +kernel
theorem dX10_product_18 : decode cX10_product 18 = .ok (.bipush 42, 2) := by decide +kernel
theorem dX10_product_20 : decode cX10_product 20 = .ok (.if_icmp .eq 15, 3) := by decide +kernel
theorem dX10_product_23 : decode cX10_product 23 = .ok (.iload_n 2, 1) := by decide +kernel
theorem dX10_product_24 : decode cX10_product 24 = .ok (.bipush 47, 2) := by decide +kernel
theorem dX10_product_26 : decode cX10_product 26 = .ok (.if_icmp .eq 9, 3) := by decide +kernel
theorem dX10_product_29 : decode cX10_product 29 = .ok (.iload_n 2, 1) := by decide +kernel
theorem dX10_product_30 : decode cX10_product 30 = .ok (.bipush 37, 2) := by decide +kernel
theorem dX10_product_32 : decode cX10_product 32 = .ok (.if_icmp .ne 62, 3) := by decide +kernel
theorem dX10_product_35 : decode cX10_product 35 = .ok (.aload_n 0, 1) := by decide +kernel
theorem dX10_product_36 : decode cX10_product 36 = .ok (.dup, 1) := by decide +kernel
theorem dX10_product_37 : decode cX10_product 37 = .ok (.getfield 165, 3) := by decide +kernel
theorem dX10_product_40 : decode cX10_product 40 = .ok (.iconst 1, 1) := by decide +kernel
theorem dX10_product_41 : decode cX10_product 41 = .ok (.iadd, 1) := by decide +kernel
theorem dX10_product_42 : decode cX10_product 42 = .ok (.putfield 165, 3) := by decide +kernel
theorem dX10_product_45 : decode cX10_product 45 = .ok (.aload_n 0, 1) := by decide +kernel
theorem dX10_product_46 : decode cX10_product 46 = .ok (.invokevirtual 196, 3) := by decide +kernel
theorem dX10_product_49 : decode cX10_product 49 = .ok (.istore_n 3, 1) := by decide +kernel
theorem dX10_product_50 : decode cX10_product 50 = .ok (.iload_n 2, 1) := by decide +kernel
theorem dX10_product_51 : decode cX10_product 51 = .ok (.bipush 42, 2) := by decide +kernel
theorem dX10_product_53 : decode cX10_product 53 = .ok (.if_icmp .ne 9, 3) := by decide +kernel
theorem dX10_product_62 : decode cX10_product 62 = .ok (.iload_n 3, 1) := by decide +kernel
theorem dX10_product_63 : decode cX10_product 63 = .ok (.ifCond .ne 7, 3) := by decide +kernel
theorem dX10_product_70 : decode cX10_product 70 = .ok (.iload_n 2, 1) := by decide +kernel
theorem dX10_product_71 : decode cX10_product 71 = .ok (.bipush 47, 2) := by decide +kernel
theorem dX10_product_73 : decode cX10_product 73 = .ok (.if_icmp .ne 9, 3) := by decide +kernel
theorem dX10_product_82 : decode cX10_product 82 = .ok (.iload_n 1, 1) := by decide +kernel
theorem dX10_product_83 : decode cX10_product 83 = .ok (.iload_n 3, 1) := by decide +kernel
theorem dX10_product_84 : decode cX10_product 84 = .ok (.irem, 1) := by decide +kernel
theorem dX10_product_85 : decode cX10_product 85 = .ok (.istore_n 1, 1) := by decide +kernel
theorem dX10_product_86 : decode cX10_product 86 = .ok (.aload_n 0, 1) := by decide +kernel
theorem dX10_product_87 : decode cX10_product 87 = .ok (.invokevirtual 177, 3) := by decide +kernel
theorem dX10_product_90 : decode cX10_product 90 = .ok (.istore_n 2, 1) := by decide +kernel
theorem dX10_product_91 : decode cX10_product 91 = .ok (.goto (-81), 3) := by decide +kernel
theorem dX10_product_76 : decode cX10_product 76 = .ok (.iload_n 1, 1) := by decide +kernel
theorem dX10_product_77 : decode cX10_product 77 = .ok (.iload_n 3, 1) := by decide +kernel
theorem dX10_product_78 : decode cX10_product 78 = .ok (.idiv, 1) := by decide +kernel
theorem dX10_product_79 : decode cX10_product 79 = .ok (.goto 6, 3) := by decide +kernel
theorem dX10_product_66 : decode cX10_product 66 = .ok (.iconst 0, 1) := by decide +kernel
theorem dX10_product_67 : decode cX10_product 67 = .ok (.goto 18, 3) := by decide +kernel
theorem dX10_product_56 : decode cX10_product 56 = .ok (.iload_n 1, 1) := by decide +kernel
theorem dX10_product_57 : decode cX10_product 57 = .ok (.iload_n 3, 1) := by decide +kernel
theorem dX10_product_58 : decode cX10_product 58 = .ok (.imul, 1) := by decide +kernel
theorem dX10_product_59 : decode cX10_product 59 = .ok (.goto 26, 3) := by decide +kernel
theorem dX10_product_0 : decode cX10_product 0 = .ok (.aload_n 0, 1) := by decide +kernel
theorem dX10_product_1 : decode cX10_product 1 = .ok (.invokevirtual 196, 3) := by decide +kernel
theorem dX10_product_4 : decode cX10_product 4 = .ok (.istore_n 1, 1) := by decide +kernel
theorem dX10_product_5 : decode cX10_product 5 = .ok (.aload_n 0, 1) := by decide +kernel
theorem dX10_product_6 : decode cX10_product 6 = .ok (.invokevirtual 177, 3) := by decide +kernel
theorem dX10_product_9 : decode cX10_product 9 = .ok (.istore_n 2, 1) := by decide +kernel
theorem dX10_sums_5 : decode cX10_sums 5 = .ok (.aload_n 0, 1) := by decide +kernel
theorem dX10_sums_6 : decode cX10_sums 6 = .ok (.getfield 174, 3) := by decide +kernel
theorem dX10_sums_9 : decode cX10_sums 9 = .ok (.ifCond .ge 68, 3) := by decide +kernel
theorem dX10_sums_77 : decode cX10_sums 77 = .ok (.iload_n 1, 1) := by decide +kernel
theorem dX10_sums_78 : decode cX10_sums 78 = .ok (.ireturn, 1) := by decide +kernel
theorem dX10_sums_12 : decode cX10_sums 12 = .ok (.aload_n 0, 1) := by decide +kernel
theorem dX10_sums_13 : decode cX10_sums 13 = .ok (.invokevirtual 177, 3) := by decide +kernel
theorem dX10_sums_16 : decode cX10_sums 16 = .ok (.bipush 43, 2) := by decide +kernel
theorem dX10_sums_18 : decode cX10_sums 18 = .ok (.if_icmp .eq 12, 3) := by decide +kernel
theorem dX10_sums_21 : decode cX10_sums 21 = .ok (.aload_n 0, 1) := by decide +kernel
theorem dX10_sums_22 : decode cX10_sums 22 = .ok (.invokevirtual 177, 3) := by decide +kernel
theorem dX10_sums_25 : decode cX10_sums 25 = .ok (.bipush 45, 2) := by decide +kernel
theorem dX10_sums_27 : decode cX10_sums 27 = .ok (.if_icmp .ne 50, 3) := by decide +kernel
theorem dX10_sums_30 : decode cX10_sums 30 = .ok (.aload_n 0, 1) := by decide +kernel
theorem dX10_sums_31 : decode cX10_sums 31 = .ok (.invokevirtual 177, 3) := by decide +kernel
theorem dX10_sums_34 : decode cX10_sums 34 = .ok (.bipush 43, 2) := by decide +kernel
theorem dX10_sums_36 : decode cX10_sums 36 = .ok (.if_icmp .ne 7, 3) := by decide +kernel
theorem dX10_sums_43 : decode cX10_sums 43 = .ok (.iconst 0, 1) := by decide +kernel
theorem dX10_sums_44 : decode cX10_sums 44 = .ok (.istore_n 2, 1) := by decide +kernel
theorem dX10_sums_45 : decode cX10_sums 45 = .ok (.aload_n 0, 1) := by decide +kernel
theorem dX10_sums_46 : decode cX10_sums 46 = .ok (.dup, 1) := by decide +kernel
theorem dX10_sums_47 : decode cX10_sums 47 = .ok (.getfield 165, 3) := by decide +kernel
theorem dX10_sums_50 : decode cX10_sums 50 = .ok (.iconst 1, 1) := by decide +kernel
theorem dX10_sums_51 : decode cX10_sums 51 = .ok (.iadd, 1) := by decide +kernel
theorem dX10_sums_52 : decode cX10_sums 52 = .ok (.putfield 165, 3) := by decide +kernel
theorem dX10_sums_55 : decode cX10_sums 55 = .ok (.aload_n 0, 1) := by decide +kernel
theorem dX10_sums_56 : decode cX10_sums 56 = .ok (.invokevirtual 193, 3) := by decide +kernel
theorem dX10_sums_59 : decode cX10_sums 59 = .ok (.istore_n 3, 1) := by decide +kernel
theorem dX10_sums_60 : decode cX10_sums 60 = .ok (.iload_n 2, 1) := by decide +kernel
theorem dX10_sums_61 : decode cX10_sums 61 = .ok (.ifCond .eq 9, 3) := by decide +kernel
theorem dX10_sums_70 : decode cX10_sums 70 = .ok (.iload_n 1, 1) := by decide +kernel
theorem dX10_sums_71 : decode cX10_sums 71 = .ok (.iload_n 3, 1) := by decide +kernel
theorem dX10_sums_72 : decode cX10_sums 72 = .ok (.isub, 1) := by decide +kernel
theorem dX10_sums_73 : decode cX10_sums 73 = .ok (.istore_n 1, 1) := by decide +kernel
theorem dX10_sums_74 : decode cX10_sums 74 = .ok (.goto (-69), 3) := by decide +kernel
theorem dX10_sums_39 : decode cX10_sums 39 = .ok (.iconst 1, 1) := by decide +kernel
theorem dX10_sums_40 : decode cX10_sums 40 = .ok (.goto 4, 3) := by decide +kernel
theorem dX10_sums_64 : decode cX10_sums 64 = .ok (.iload_n 1, 1) := by decide +kernel
theorem dX10_sums_65 : decode cX10_sums 65 = .ok (.iload_n 3, 1) := by decide +kernel
theorem dX10_sums_66 : decode cX10_sums 66 = .ok (.iadd, 1) := by decide +kernel
theorem dX10_sums_67 : decode cX10_sums 67 = .ok (.goto 6, 3) := by decide +kernel
theorem dX10_sums_0 : decode cX10_sums 0 = .ok (.aload_n 0, 1) := by decide +kernel
theorem dX10_sums_1 : decode cX10_sums 1 = .ok (.invokevirtual 193, 3) := by decide +kernel
theorem dX10_sums_4 : decode cX10_sums 4 = .ok (.istore_n 1, 1) := by decide +kernel
theorem dX10_compared_0 : decode cX10_compared 0 = .ok (.aload_n 0, 1) := by decide +kernel
theorem dX10_compared_1 : decode cX10_compared 1 = .ok (.invokevirtual 190, 3) := by decide +kernel
theorem dX10_compared_4 : decode cX10_compared 4 = .ok (.istore_n 1, 1) := by decide +kernel
theorem dX10_compared_5 : decode cX10_compared 5 = .ok (.aload_n 0, 1) := by decide +kernel
theorem dX10_compared_6 : decode cX10_compared 6 = .ok (.invokevirtual 177, 3) := by decide +kernel
theorem dX10_compared_9 : decode cX10_compared 9 = .ok (.istore_n 2, 1) := by decide +kernel
theorem dX10_compared_10 : decode cX10_compared 10 = .ok (.aload_n 0, 1) := by decide +kernel
theorem dX10_compared_11 : decode cX10_compared 11 = .ok (.getfield 174, 3) := by decide +kernel
theorem dX10_compared_14 : decode cX10_compared 14 = .ok (.ifCond .ge 21, 3) := by decide +kernel
theorem dX10_compared_35 : decode cX10_compared 35 = .ok (.iload_n 1, 1) := by decide +kernel
theorem dX10_compared_36 : decode cX10_compared 36 = .ok (.ireturn, 1) := by decide +kernel
theorem dX10_compared_17 : decode cX10_compared 17 = .ok (.iload_n 2, 1) := by decide +kernel
theorem dX10_compared_18 : decode cX10_compared 18 = .ok (.bipush 60, 2) := by decide +kernel
theorem dX10_compared_20 : decode cX10_compared 20 = .ok (.if_icmp .eq 17, 3) := by decide +kernel
theorem dX10_compared_37 : decode cX10_compared 37 = .ok (.aload_n 0, 1) := by decide +kernel
theorem dX10_compared_38 : decode cX10_compared 38 = .ok (.dup, 1) := by decide +kernel
theorem dX10_compared_39 : decode cX10_compared 39 = .ok (.getfield 165, 3) := by decide +kernel
theorem dX10_compared_42 : decode cX10_compared 42 = .ok (.iconst 1, 1) := by decide +kernel
theorem dX10_compared_43 : decode cX10_compared 43 = .ok (.iadd, 1) := by decide +kernel
theorem dX10_compared_44 : decode cX10_compared 44 = .ok (.putfield 165, 3) := by decide +kernel
theorem dX10_compared_47 : decode cX10_compared 47 = .ok (.aload_n 0, 1) := by decide +kernel
theorem dX10_compared_48 : decode cX10_compared 48 = .ok (.invokevirtual 190, 3) := by decide +kernel
theorem dX10_compared_51 : decode cX10_compared 51 = .ok (.istore_n 3, 1) := by decide +kernel
theorem dX10_compared_52 : decode cX10_compared 52 = .ok (.iload_n 2, 1) := by decide +kernel
theorem dX10_compared_53 : decode cX10_compared 53 = .ok (.bipush 60, 2) := by decide +kernel
theorem dX10_compared_55 : decode cX10_compared 55 = .ok (.if_icmp .ne 11, 3) := by decide +kernel
theorem dX10_compared_66 : decode cX10_compared 66 = .ok (.iload_n 2, 1) := by decide +kernel
theorem dX10_compared_67 : decode cX10_compared 67 = .ok (.bipush 61, 2) := by decide +kernel
theorem dX10_compared_69 : decode cX10_compared 69 = .ok (.if_icmp .ne 11, 3) := by decide +kernel
theorem dX10_compared_80 : decode cX10_compared 80 = .ok (.iload_n 1, 1) := by decide +kernel
theorem dX10_compared_81 : decode cX10_compared 81 = .ok (.iload_n 3, 1) := by decide +kernel
theorem dX10_compared_82 : decode cX10_compared 82 = .ok (.if_icmp .le 7, 3) := by decide +kernel
theorem dX10_compared_89 : decode cX10_compared 89 = .ok (.iconst 0, 1) := by decide +kernel
theorem dX10_compared_90 : decode cX10_compared 90 = .ok (.ireturn, 1) := by decide +kernel
theorem dX10_compared_85 : decode cX10_compared 85 = .ok (.iconst 1, 1) := by decide +kernel
theorem dX10_compared_86 : decode cX10_compared 86 = .ok (.goto 4, 3) := by decide +kernel
theorem dX10_compared_72 : decode cX10_compared 72 = .ok (.iload_n 1, 1) := by decide +kernel
theorem dX10_compared_73 : decode cX10_compared 73 = .ok (.iload_n 3, 1) := by decide +kernel
theorem dX10_compared_74 : decode cX10_compared 74 = .ok (.if_icmp .ne 15, 3) := by decide +kernel
theorem dX10_compared_77 : decode cX10_compared 77 = .ok (.goto 8, 3) := by decide +kernel
theorem dX10_compared_58 : decode cX10_compared 58 = .ok (.iload_n 1, 1) := by decide +kernel
theorem dX10_compared_59 : decode cX10_compared 59 = .ok (.iload_n 3, 1) := by decide +kernel
theorem dX10_compared_60 : decode cX10_compared 60 = .ok (.if_icmp .ge 29, 3) := by decide +kernel
theorem dX10_compared_63 : decode cX10_compared 63 = .ok (.goto 22, 3) := by decide +kernel
theorem dX10_compared_23 : decode cX10_compared 23 = .ok (.iload_n 2, 1) := by decide +kernel
theorem dX10_compared_24 : decode cX10_compared 24 = .ok (.bipush 61, 2) := by decide +kernel
theorem dX10_compared_26 : decode cX10_compared 26 = .ok (.if_icmp .eq 11, 3) := by decide +kernel
theorem dX10_compared_29 : decode cX10_compared 29 = .ok (.iload_n 2, 1) := by decide +kernel
theorem dX10_compared_30 : decode cX10_compared 30 = .ok (.bipush 62, 2) := by decide +kernel
theorem dX10_compared_32 : decode cX10_compared 32 = .ok (.if_icmp .eq 5, 3) := by decide +kernel
theorem dX10_both_5 : decode cX10_both 5 = .ok (.aload_n 0, 1) := by decide +kernel
theorem dX10_both_6 : decode cX10_both 6 = .ok (.bipush 38, 2) := by decide +kernel
theorem dX10_both_8 : decode cX10_both 8 = .ok (.invokevirtual 184, 3) := by decide +kernel
theorem dX10_both_11 : decode cX10_both 11 = .ok (.ifCond .eq 25, 3) := by decide +kernel
theorem dX10_both_36 : decode cX10_both 36 = .ok (.iload_n 1, 1) := by decide +kernel
theorem dX10_both_37 : decode cX10_both 37 = .ok (.ireturn, 1) := by decide +kernel
theorem dX10_both_14 : decode cX10_both 14 = .ok (.aload_n 0, 1) := by decide +kernel
theorem dX10_both_15 : decode cX10_both 15 = .ok (.invokevirtual 187, 3) := by decide +kernel
theorem dX10_both_18 : decode cX10_both 18 = .ok (.istore_n 2, 1) := by decide +kernel
theorem dX10_both_19 : decode cX10_both 19 = .ok (.iload_n 1, 1) := by decide +kernel
theorem dX10_both_20 : decode cX10_both 20 = .ok (.ifCond .eq 11, 3) := by decide +kernel
theorem dX10_both_31 : decode cX10_both 31 = .ok (.iconst 0, 1) := by decide +kernel
theorem dX10_both_32 : decode cX10_both 32 = .ok (.istore_n 1, 1) := by decide +kernel
theorem dX10_both_33 : decode cX10_both 33 = .ok (.goto (-28), 3) := by decide +kernel
theorem dX10_both_23 : decode cX10_both 23 = .ok (.iload_n 2, 1) := by decide +kernel
theorem dX10_both_24 : decode cX10_both 24 = .ok (.ifCond .eq 7, 3) := by decide +kernel
theorem dX10_both_27 : decode cX10_both 27 = .ok (.iconst 1, 1) := by decide +kernel
theorem dX10_both_28 : decode cX10_both 28 = .ok (.goto 4, 3) := by decide +kernel
theorem dX10_both_0 : decode cX10_both 0 = .ok (.aload_n 0, 1) := by decide +kernel
theorem dX10_both_1 : decode cX10_both 1 = .ok (.invokevirtual 187, 3) := by decide +kernel
theorem dX10_both_4 : decode cX10_both 4 = .ok (.istore_n 1, 1) := by decide +kernel
theorem dX10_either_5 : decode cX10_either 5 = .ok (.aload_n 0, 1) := by decide +kernel
theorem dX10_either_6 : decode cX10_either 6 = .ok (.bipush 124, 2) := by decide +kernel
theorem dX10_either_8 : decode cX10_either 8 = .ok (.invokevirtual 184, 3) := by decide +kernel
theorem dX10_either_11 : decode cX10_either 11 = .ok (.ifCond .eq 25, 3) := by decide +kernel
theorem dX10_either_36 : decode cX10_either 36 = .ok (.iload_n 1, 1) := by decide +kernel
theorem dX10_either_37 : decode cX10_either 37 = .ok (.ireturn, 1) := by decide +kernel
theorem dX10_either_14 : decode cX10_either 14 = .ok (.aload_n 0, 1) := by decide +kernel
theorem dX10_either_15 : decode cX10_either 15 = .ok (.invokevirtual 181, 3) := by decide +kernel
theorem dX10_either_18 : decode cX10_either 18 = .ok (.istore_n 2, 1) := by decide +kernel
theorem dX10_either_19 : decode cX10_either 19 = .ok (.iload_n 1, 1) := by decide +kernel
theorem dX10_either_20 : decode cX10_either 20 = .ok (.ifCond .ne 7, 3) := by decide +kernel
theorem dX10_either_27 : decode cX10_either 27 = .ok (.iconst 1, 1) := by decide +kernel
theorem dX10_either_28 : decode cX10_either 28 = .ok (.goto 4, 3) := by decide +kernel
theorem dX10_either_32 : decode cX10_either 32 = .ok (.istore_n 1, 1) := by decide +kernel
theorem dX10_either_33 : decode cX10_either 33 = .ok (.goto (-28), 3) := by decide +kernel
theorem dX10_either_23 : decode cX10_either 23 = .ok (.iload_n 2, 1) := by decide +kernel
theorem dX10_either_24 : decode cX10_either 24 = .ok (.ifCond .eq 7, 3) := by decide +kernel
theorem dX10_either_31 : decode cX10_either 31 = .ok (.iconst 0, 1) := by decide +kernel
theorem dX10_either_0 : decode cX10_either 0 = .ok (.aload_n 0, 1) := by decide +kernel
theorem dX10_either_1 : decode cX10_either 1 = .ok (.invokevirtual 181, 3) := by decide +kernel
theorem dX10_either_4 : decode cX10_either 4 = .ok (.istore_n 1, 1) := by decide +kernel
theorem dX10_nameOf_0 : decode cX10_nameOf 0 = .ok (.iload_n 0, 1) := by decide +kernel
theorem dX10_nameOf_1 : decode cX10_nameOf 1 = .ok (.tableswitch 107 102 121 #[103, 107, 101, 107, 107, 107, 107, 107, 95, 107, 107, 107, 107, 99, 107, 107, 97, 107, 107, 105], 95) := by decide +kernel
theorem dX10_nameOf_104 : decode cX10_nameOf 104 = .ok (.iconst 4, 1) := by decide +kernel
theorem dX10_nameOf_105 : decode cX10_nameOf 105 = .ok (.ireturn, 1) := by decide +kernel
theorem dX10_nameOf_108 : decode cX10_nameOf 108 = .ok (.iconst (-1), 1) := by decide +kernel
theorem dX10_nameOf_109 : decode cX10_nameOf 109 = .ok (.ireturn, 1) := by decide +kernel
theorem dX10_nameOf_102 : decode cX10_nameOf 102 = .ok (.iconst 3, 1) := by decide +kernel
theorem dX10_nameOf_103 : decode cX10_nameOf 103 = .ok (.ireturn, 1) := by decide +kernel
theorem dX10_nameOf_96 : decode cX10_nameOf 96 = .ok (.iconst 0, 1) := by decide +kernel
theorem dX10_nameOf_97 : decode cX10_nameOf 97 = .ok (.ireturn, 1) := by decide +kernel
theorem dX10_nameOf_100 : decode cX10_nameOf 100 = .ok (.iconst 2, 1) := by decide +kernel
theorem dX10_nameOf_101 : decode cX10_nameOf 101 = .ok (.ireturn, 1) := by decide +kernel
theorem dX10_nameOf_98 : decode cX10_nameOf 98 = .ok (.iconst 1, 1) := by decide +kernel
theorem dX10_nameOf_99 : decode cX10_nameOf 99 = .ok (.ireturn, 1) := by decide +kernel
theorem dX10_nameOf_106 : decode cX10_nameOf 106 = .ok (.iconst 5, 1) := by decide +kernel
theorem dX10_nameOf_107 : decode cX10_nameOf 107 = .ok (.ireturn, 1) := by decide +kernel
theorem dX10_one_0 : decode cX10_one 0 = .ok (.aload_n 0, 1) := by decide +kernel
theorem dX10_one_1 : decode cX10_one 1 = .ok (.getfield 174, 3) := by decide +kernel
theorem dX10_one_4 : decode cX10_one 4 = .ok (.ifCond .lt 5, 3) := by decide +kernel
theorem dX10_one_9 : decode cX10_one 9 = .ok (.aload_n 0, 1) := by decide +kernel
theorem dX10_one_10 : decode cX10_one 10 = .ok (.invokevirtual 177, 3) := by decide +kernel
theorem dX10_one_13 : decode cX10_one 13 = .ok (.istore_n 1, 1) := by decide +kernel
theorem dX10_one_14 : decode cX10_one 14 = .ok (.iload_n 1, 1) := by decide +kernel
theorem dX10_one_15 : decode cX10_one 15 = .ok (.bipush 33, 2) := by decide +kernel
theorem dX10_one_17 : decode cX10_one 17 = .ok (.if_icmp .eq 15, 3) := by decide +kernel
theorem dX10_one_32 : decode cX10_one 32 = .ok (.aload_n 0, 1) := by decide +kernel
theorem dX10_one_33 : decode cX10_one 33 = .ok (.getfield 199, 3) := by decide +kernel
theorem dX10_one_36 : decode cX10_one 36 = .ok (.bipush 6, 2) := by decide +kernel
theorem dX10_one_38 : decode cX10_one 38 = .ok (.if_icmp .ne 8, 3) := by decide +kernel
theorem dX10_one_41 : decode cX10_one 41 = .ok (.aload_n 0, 1) := by decide +kernel
theorem dX10_one_42 : decode cX10_one 42 = .ok (.invokevirtual 202, 3) := by decide +kernel
theorem dX10_one_45 : decode cX10_one 45 = .ok (.ireturn, 1) := by decide +kernel
theorem dX10_one_20 : decode cX10_one 20 = .ok (.iload_n 1, 1) := by decide +kernel
theorem dX10_one_21 : decode cX10_one 21 = .ok (.bipush 45, 2) := by decide +kernel
theorem dX10_one_23 : decode cX10_one 23 = .ok (.if_icmp .eq 9, 3) := by decide +kernel
theorem dX10_one_26 : decode cX10_one 26 = .ok (.iload_n 1, 1) := by decide +kernel
theorem dX10_one_27 : decode cX10_one 27 = .ok (.bipush 40, 2) := by decide +kernel
theorem dX10_one_29 : decode cX10_one 29 = .ok (.if_icmp .ne 116, 3) := by decide +kernel
theorem dX10_one_145 : decode cX10_one 145 = .ok (.iload_n 1, 1) := by decide +kernel
theorem dX10_one_146 : decode cX10_one 146 = .ok (.invokestatic 208, 3) := by decide +kernel
theorem dX10_one_149 : decode cX10_one 149 = .ok (.istore_n 2, 1) := by decide +kernel
theorem dX10_one_150 : decode cX10_one 150 = .ok (.iload_n 2, 1) := by decide +kernel
theorem dX10_one_151 : decode cX10_one 151 = .ok (.ifCond .lt 20, 3) := by decide +kernel
theorem dX10_one_171 : decode cX10_one 171 = .ok (.iconst 0, 1) := by decide +kernel
theorem dX10_one_172 : decode cX10_one 172 = .ok (.istore_n 3, 1) := by decide +kernel
theorem dX10_one_173 : decode cX10_one 173 = .ok (.iconst 0, 1) := by decide +kernel
theorem dX10_one_174 : decode cX10_one 174 = .ok (.istore 4, 2) := by decide +kernel
theorem dX10_one_176 : decode cX10_one 176 = .ok (.iload 4, 2) := by decide +kernel
theorem dX10_one_178 : decode cX10_one 178 = .ok (.iconst 4, 1) := by decide +kernel
theorem dX10_one_179 : decode cX10_one 179 = .ok (.if_icmp .ge 50, 3) := by decide +kernel
theorem dX10_one_182 : decode cX10_one 182 = .ok (.aload_n 0, 1) := by decide +kernel
theorem dX10_one_183 : decode cX10_one 183 = .ok (.invokevirtual 177, 3) := by decide +kernel
theorem dX10_one_186 : decode cX10_one 186 = .ok (.bipush 48, 2) := by decide +kernel
theorem dX10_one_188 : decode cX10_one 188 = .ok (.if_icmp .lt 41, 3) := by decide +kernel
theorem dX10_one_229 : decode cX10_one 229 = .ok (.iload 4, 2) := by decide +kernel
theorem dX10_one_231 : decode cX10_one 231 = .ok (.ifCond .ne 10, 3) := by decide +kernel
theorem dX10_one_234 : decode cX10_one 234 = .ok (.aload_n 0, 1) := by decide +kernel
theorem dX10_one_235 : decode cX10_one 235 = .ok (.invokevirtual 202, 3) := by decide +kernel
theorem dX10_one_238 : decode cX10_one 238 = .ok (.goto 4, 3) := by decide +kernel
theorem dX10_one_242 : decode cX10_one 242 = .ok (.ireturn, 1) := by decide +kernel
theorem dX10_one_191 : decode cX10_one 191 = .ok (.aload_n 0, 1) := by decide +kernel
theorem dX10_one_192 : decode cX10_one 192 = .ok (.invokevirtual 177, 3) := by decide +kernel
theorem dX10_one_195 : decode cX10_one 195 = .ok (.bipush 57, 2) := by decide +kernel
theorem dX10_one_197 : decode cX10_one 197 = .ok (.if_icmp .gt 32, 3) := by decide +kernel
theorem dX10_one_200 : decode cX10_one 200 = .ok (.bipush 10, 2) := by decide +kernel
theorem dX10_one_202 : decode cX10_one 202 = .ok (.iload_n 3, 1) := by decide +kernel
theorem dX10_one_203 : decode cX10_one 203 = .ok (.imul, 1) := by decide +kernel
theorem dX10_one_204 : decode cX10_one 204 = .ok (.aload_n 0, 1) := by decide +kernel
theorem dX10_one_205 : decode cX10_one 205 = .ok (.invokevirtual 177, 3) := by decide +kernel
theorem dX10_one_208 : decode cX10_one 208 = .ok (.iadd, 1) := by decide +kernel
theorem dX10_one_209 : decode cX10_one 209 = .ok (.bipush 48, 2) := by decide +kernel
theorem dX10_one_211 : decode cX10_one 211 = .ok (.isub, 1) := by decide +kernel
theorem dX10_one_212 : decode cX10_one 212 = .ok (.istore_n 3, 1) := by decide +kernel
theorem dX10_one_213 : decode cX10_one 213 = .ok (.iinc 4 1, 3) := by decide +kernel
theorem dX10_one_216 : decode cX10_one 216 = .ok (.aload_n 0, 1) := by decide +kernel
theorem dX10_one_217 : decode cX10_one 217 = .ok (.dup, 1) := by decide +kernel
theorem dX10_one_218 : decode cX10_one 218 = .ok (.getfield 165, 3) := by decide +kernel
theorem dX10_one_221 : decode cX10_one 221 = .ok (.iconst 1, 1) := by decide +kernel
theorem dX10_one_222 : decode cX10_one 222 = .ok (.iadd, 1) := by decide +kernel
theorem dX10_one_223 : decode cX10_one 223 = .ok (.putfield 165, 3) := by decide +kernel
theorem dX10_one_226 : decode cX10_one 226 = .ok (.goto (-50), 3) := by decide +kernel
theorem dX10_one_241 : decode cX10_one 241 = .ok (.iload_n 3, 1) := by decide +kernel
theorem dX10_one_154 : decode cX10_one 154 = .ok (.aload_n 0, 1) := by decide +kernel
theorem dX10_one_155 : decode cX10_one 155 = .ok (.dup, 1) := by decide +kernel
theorem dX10_one_156 : decode cX10_one 156 = .ok (.getfield 165, 3) := by decide +kernel
theorem dX10_one_159 : decode cX10_one 159 = .ok (.iconst 1, 1) := by decide +kernel
theorem dX10_one_160 : decode cX10_one 160 = .ok (.iadd, 1) := by decide +kernel
theorem dX10_one_161 : decode cX10_one 161 = .ok (.putfield 165, 3) := by decide +kernel
theorem dX10_one_164 : decode cX10_one 164 = .ok (.aload_n 0, 1) := by decide +kernel
theorem dX10_one_165 : decode cX10_one 165 = .ok (.getfield 34, 3) := by decide +kernel
theorem dX10_one_168 : decode cX10_one 168 = .ok (.iload_n 2, 1) := by decide +kernel
theorem dX10_one_169 : decode cX10_one 169 = .ok (.iaload, 1) := by decide +kernel
theorem dX10_one_170 : decode cX10_one 170 = .ok (.ireturn, 1) := by decide +kernel
theorem dX10_one_7 : decode cX10_one 7 = .ok (.iconst 0, 1) := by decide +kernel
theorem dX10_one_8 : decode cX10_one 8 = .ok (.ireturn, 1) := by decide +kernel
theorem dX10_one_46 : decode cX10_one 46 = .ok (.aload_n 0, 1) := by decide +kernel
theorem dX10_one_47 : decode cX10_one 47 = .ok (.dup, 1) := by decide +kernel
theorem dX10_one_48 : decode cX10_one 48 = .ok (.getfield 199, 3) := by decide +kernel
theorem dX10_one_51 : decode cX10_one 51 = .ok (.iconst 1, 1) := by decide +kernel
theorem dX10_one_52 : decode cX10_one 52 = .ok (.iadd, 1) := by decide +kernel
theorem dX10_one_53 : decode cX10_one 53 = .ok (.putfield 199, 3) := by decide +kernel
theorem dX10_one_56 : decode cX10_one 56 = .ok (.aload_n 0, 1) := by decide +kernel
theorem dX10_one_57 : decode cX10_one 57 = .ok (.dup, 1) := by decide +kernel
theorem dX10_one_58 : decode cX10_one 58 = .ok (.getfield 165, 3) := by decide +kernel
theorem dX10_one_61 : decode cX10_one 61 = .ok (.iconst 1, 1) := by decide +kernel
theorem dX10_one_62 : decode cX10_one 62 = .ok (.iadd, 1) := by decide +kernel
theorem dX10_one_63 : decode cX10_one 63 = .ok (.putfield 165, 3) := by decide +kernel
theorem dX10_one_66 : decode cX10_one 66 = .ok (.iload_n 1, 1) := by decide +kernel
theorem dX10_one_67 : decode cX10_one 67 = .ok (.bipush 40, 2) := by decide +kernel
theorem dX10_one_69 : decode cX10_one 69 = .ok (.if_icmp .ne 10, 3) := by decide +kernel
theorem dX10_one_79 : decode cX10_one 79 = .ok (.aload_n 0, 1) := by decide +kernel
theorem dX10_one_80 : decode cX10_one 80 = .ok (.invokevirtual 196, 3) := by decide +kernel
theorem dX10_one_83 : decode cX10_one 83 = .ok (.istore_n 2, 1) := by decide +kernel
theorem dX10_one_84 : decode cX10_one 84 = .ok (.iload_n 1, 1) := by decide +kernel
theorem dX10_one_85 : decode cX10_one 85 = .ok (.bipush 40, 2) := by decide +kernel
theorem dX10_one_87 : decode cX10_one 87 = .ok (.if_icmp .ne 17, 3) := by decide +kernel
theorem dX10_one_104 : decode cX10_one 104 = .ok (.aload_n 0, 1) := by decide +kernel
theorem dX10_one_105 : decode cX10_one 105 = .ok (.dup, 1) := by decide +kernel
theorem dX10_one_106 : decode cX10_one 106 = .ok (.getfield 199, 3) := by decide +kernel
theorem dX10_one_109 : decode cX10_one 109 = .ok (.iconst 1, 1) := by decide +kernel
theorem dX10_one_110 : decode cX10_one 110 = .ok (.isub, 1) := by decide +kernel
theorem dX10_one_111 : decode cX10_one 111 = .ok (.putfield 199, 3) := by decide +kernel
theorem dX10_one_114 : decode cX10_one 114 = .ok (.iload_n 1, 1) := by decide +kernel
theorem dX10_one_115 : decode cX10_one 115 = .ok (.bipush 40, 2) := by decide +kernel
theorem dX10_one_117 : decode cX10_one 117 = .ok (.if_icmp .ne 7, 3) := by decide +kernel
theorem dX10_one_124 : decode cX10_one 124 = .ok (.iload_n 1, 1) := by decide +kernel
theorem dX10_one_125 : decode cX10_one 125 = .ok (.bipush 45, 2) := by decide +kernel
theorem dX10_one_127 : decode cX10_one 127 = .ok (.if_icmp .ne 8, 3) := by decide +kernel
theorem dX10_one_135 : decode cX10_one 135 = .ok (.iload_n 2, 1) := by decide +kernel
theorem dX10_one_136 : decode cX10_one 136 = .ok (.ifCond .ne 7, 3) := by decide +kernel
theorem dX10_one_143 : decode cX10_one 143 = .ok (.iconst 0, 1) := by decide +kernel
theorem dX10_one_144 : decode cX10_one 144 = .ok (.ireturn, 1) := by decide +kernel
theorem dX10_one_139 : decode cX10_one 139 = .ok (.iconst 1, 1) := by decide +kernel
theorem dX10_one_140 : decode cX10_one 140 = .ok (.goto 4, 3) := by decide +kernel
theorem dX10_one_130 : decode cX10_one 130 = .ok (.iload_n 2, 1) := by decide +kernel
theorem dX10_one_131 : decode cX10_one 131 = .ok (.ineg, 1) := by decide +kernel
theorem dX10_one_132 : decode cX10_one 132 = .ok (.goto 12, 3) := by decide +kernel
theorem dX10_one_120 : decode cX10_one 120 = .ok (.iload_n 2, 1) := by decide +kernel
theorem dX10_one_121 : decode cX10_one 121 = .ok (.goto 23, 3) := by decide +kernel
theorem dX10_one_90 : decode cX10_one 90 = .ok (.aload_n 0, 1) := by decide +kernel
theorem dX10_one_91 : decode cX10_one 91 = .ok (.bipush 41, 2) := by decide +kernel
theorem dX10_one_93 : decode cX10_one 93 = .ok (.invokevirtual 184, 3) := by decide +kernel
theorem dX10_one_96 : decode cX10_one 96 = .ok (.ifCond .ne 8, 3) := by decide +kernel
theorem dX10_one_99 : decode cX10_one 99 = .ok (.aload_n 0, 1) := by decide +kernel
theorem dX10_one_100 : decode cX10_one 100 = .ok (.invokevirtual 202, 3) := by decide +kernel
theorem dX10_one_103 : decode cX10_one 103 = .ok (.ireturn, 1) := by decide +kernel
theorem dX10_one_72 : decode cX10_one 72 = .ok (.aload_n 0, 1) := by decide +kernel
theorem dX10_one_73 : decode cX10_one 73 = .ok (.invokevirtual 205, 3) := by decide +kernel
theorem dX10_one_76 : decode cX10_one 76 = .ok (.goto 7, 3) := by decide +kernel
theorem dX10_workOut_33 : decode cX10_workOut 33 = .ok (.iload 5, 2) := by decide +kernel
theorem dX10_workOut_35 : decode cX10_workOut 35 = .ok (.ifCond .eq 72, 3) := by decide +kernel
theorem dX10_workOut_38 : decode cX10_workOut 38 = .ok (.aload_n 0, 1) := by decide +kernel
theorem dX10_workOut_39 : decode cX10_workOut 39 = .ok (.invokevirtual 205, 3) := by decide +kernel
theorem dX10_workOut_42 : decode cX10_workOut 42 = .ok (.istore 6, 2) := by decide +kernel
theorem dX10_workOut_44 : decode cX10_workOut 44 = .ok (.iconst 1, 1) := by decide +kernel
theorem dX10_workOut_45 : decode cX10_workOut 45 = .ok (.istore 7, 2) := by decide +kernel
theorem dX10_workOut_47 : decode cX10_workOut 47 = .ok (.aload_n 0, 1) := by decide +kernel
theorem dX10_workOut_48 : decode cX10_workOut 48 = .ok (.bipush 63, 2) := by decide +kernel
theorem dX10_workOut_50 : decode cX10_workOut 50 = .ok (.invokevirtual 184, 3) := by decide +kernel
theorem dX10_workOut_53 : decode cX10_workOut 53 = .ok (.ifCond .eq 21, 3) := by decide +kernel
theorem dX10_workOut_74 : decode cX10_workOut 74 = .ok (.aload_n 0, 1) := by decide +kernel
theorem dX10_workOut_75 : decode cX10_workOut 75 = .ok (.getfield 174, 3) := by decide +kernel
theorem dX10_workOut_78 : decode cX10_workOut 78 = .ok (.ifCond .ge 18, 3) := by decide +kernel
theorem dX10_workOut_96 : decode cX10_workOut 96 = .ok (.aload_n 0, 1) := by decide +kernel
theorem dX10_workOut_97 : decode cX10_workOut 97 = .ok (.bipush 59, 2) := by decide +kernel
theorem dX10_workOut_99 : decode cX10_workOut 99 = .ok (.invokevirtual 184, 3) := by decide +kernel
theorem dX10_workOut_102 : decode cX10_workOut 102 = .ok (.istore 5, 2) := by decide +kernel
theorem dX10_workOut_104 : decode cX10_workOut 104 = .ok (.goto (-71), 3) := by decide +kernel
theorem dX10_workOut_107 : decode cX10_workOut 107 = .ok (.aload_n 0, 1) := by decide +kernel
theorem dX10_workOut_108 : decode cX10_workOut 108 = .ok (.getfield 174, 3) := by decide +kernel
theorem dX10_workOut_111 : decode cX10_workOut 111 = .ok (.ifCond .ge 19, 3) := by decide +kernel
theorem dX10_workOut_130 : decode cX10_workOut 130 = .ok (.iload 4, 2) := by decide +kernel
theorem dX10_workOut_132 : decode cX10_workOut 132 = .ok (.ireturn, 1) := by decide +kernel
theorem dX10_workOut_114 : decode cX10_workOut 114 = .ok (.aload_n 0, 1) := by decide +kernel
theorem dX10_workOut_115 : decode cX10_workOut 115 = .ok (.getfield 165, 3) := by decide +kernel
theorem dX10_workOut_118 : decode cX10_workOut 118 = .ok (.aload_n 0, 1) := by decide +kernel
theorem dX10_workOut_119 : decode cX10_workOut 119 = .ok (.getfield 168, 3) := by decide +kernel
theorem dX10_workOut_122 : decode cX10_workOut 122 = .ok (.if_icmp .ge 8, 3) := by decide +kernel
theorem dX10_workOut_125 : decode cX10_workOut 125 = .ok (.aload_n 0, 1) := by decide +kernel
theorem dX10_workOut_126 : decode cX10_workOut 126 = .ok (.invokevirtual 202, 3) := by decide +kernel
theorem dX10_workOut_129 : decode cX10_workOut 129 = .ok (.ireturn, 1) := by decide +kernel
theorem dX10_workOut_81 : decode cX10_workOut 81 = .ok (.iload 7, 2) := by decide +kernel
theorem dX10_workOut_83 : decode cX10_workOut 83 = .ok (.ifCond .eq 13, 3) := by decide +kernel
theorem dX10_workOut_86 : decode cX10_workOut 86 = .ok (.iload_n 3, 1) := by decide +kernel
theorem dX10_workOut_87 : decode cX10_workOut 87 = .ok (.ifCond .ne 9, 3) := by decide +kernel
theorem dX10_workOut_90 : decode cX10_workOut 90 = .ok (.iconst 1, 1) := by decide +kernel
theorem dX10_workOut_91 : decode cX10_workOut 91 = .ok (.istore_n 3, 1) := by decide +kernel
theorem dX10_workOut_92 : decode cX10_workOut 92 = .ok (.iload 6, 2) := by decide +kernel
theorem dX10_workOut_94 : decode cX10_workOut 94 = .ok (.istore 4, 2) := by decide +kernel
theorem dX10_workOut_56 : decode cX10_workOut 56 = .ok (.iload 6, 2) := by decide +kernel
theorem dX10_workOut_58 : decode cX10_workOut 58 = .ok (.ifCond .eq 7, 3) := by decide +kernel
theorem dX10_workOut_65 : decode cX10_workOut 65 = .ok (.iconst 0, 1) := by decide +kernel
theorem dX10_workOut_66 : decode cX10_workOut 66 = .ok (.istore 7, 2) := by decide +kernel
theorem dX10_workOut_68 : decode cX10_workOut 68 = .ok (.aload_n 0, 1) := by decide +kernel
theorem dX10_workOut_69 : decode cX10_workOut 69 = .ok (.invokevirtual 205, 3) := by decide +kernel
theorem dX10_workOut_72 : decode cX10_workOut 72 = .ok (.istore 6, 2) := by decide +kernel
theorem dX10_workOut_61 : decode cX10_workOut 61 = .ok (.iconst 1, 1) := by decide +kernel
theorem dX10_workOut_62 : decode cX10_workOut 62 = .ok (.goto 4, 3) := by decide +kernel
theorem dX10_workOut_0 : decode cX10_workOut 0 = .ok (.aload_n 0, 1) := by decide +kernel
theorem dX10_workOut_1 : decode cX10_workOut 1 = .ok (.iload_n 1, 1) := by decide +kernel
theorem dX10_workOut_2 : decode cX10_workOut 2 = .ok (.putfield 171, 3) := by decide +kernel
theorem dX10_workOut_5 : decode cX10_workOut 5 = .ok (.aload_n 0, 1) := by decide +kernel
theorem dX10_workOut_6 : decode cX10_workOut 6 = .ok (.iconst 0, 1) := by decide +kernel
theorem dX10_workOut_7 : decode cX10_workOut 7 = .ok (.putfield 165, 3) := by decide +kernel
theorem dX10_workOut_10 : decode cX10_workOut 10 = .ok (.aload_n 0, 1) := by decide +kernel
theorem dX10_workOut_11 : decode cX10_workOut 11 = .ok (.iload_n 2, 1) := by decide +kernel
theorem dX10_workOut_12 : decode cX10_workOut 12 = .ok (.putfield 168, 3) := by decide +kernel
theorem dX10_workOut_15 : decode cX10_workOut 15 = .ok (.aload_n 0, 1) := by decide +kernel
theorem dX10_workOut_16 : decode cX10_workOut 16 = .ok (.iconst (-1), 1) := by decide +kernel
theorem dX10_workOut_17 : decode cX10_workOut 17 = .ok (.putfield 174, 3) := by decide +kernel
theorem dX10_workOut_20 : decode cX10_workOut 20 = .ok (.aload_n 0, 1) := by decide +kernel
theorem dX10_workOut_21 : decode cX10_workOut 21 = .ok (.iconst 0, 1) := by decide +kernel
theorem dX10_workOut_22 : decode cX10_workOut 22 = .ok (.putfield 199, 3) := by decide +kernel
theorem dX10_workOut_25 : decode cX10_workOut 25 = .ok (.iconst 0, 1) := by decide +kernel
theorem dX10_workOut_26 : decode cX10_workOut 26 = .ok (.istore_n 3, 1) := by decide +kernel
theorem dX10_workOut_27 : decode cX10_workOut 27 = .ok (.iconst 0, 1) := by decide +kernel
theorem dX10_workOut_28 : decode cX10_workOut 28 = .ok (.istore 4, 2) := by decide +kernel
theorem dX10_workOut_30 : decode cX10_workOut 30 = .ok (.iconst 1, 1) := by decide +kernel
theorem dX10_workOut_31 : decode cX10_workOut 31 = .ok (.istore 5, 2) := by decide +kernel
set_option maxRecDepth 100000 in
set_option maxHeartbeats 4000000 in
theorem g_X10_byteAt {bs : Int32} {l : Launch} {G : xG} {M : xM} {J : xJ} (hbs : bs = -1 ∨ bs = 0) (e_bs : M 62 14 = bs) {a : Nat} (h_a : a ≤ 120) (e_a : M 62 15 = nI a) {E : Nat} (h_E : E ≤ 120) (e_E : M 62 16 = nI E) : x_M l G fX10_byteAt 0 0 0 [.ref (62)] x_SH M J (qPI M J (fun r => r = 0 ∨ a < E)) := by
  refine xb_of pX10 (Nat.le_of_ble_eq_true rfl) rfl ?_
  refine xr_aload_n dX10_byteAt_0 0 rfl ?_
  refine xb_get (v := nI (a)) flX10_165 dX10_byteAt_1 s_62 rfl e_a ?_
  refine xr_aload_n dX10_byteAt_4 0 rfl ?_
  refine xb_get (v := nI (E)) flX10_168 dX10_byteAt_5 s_62 rfl e_E ?_
  refine xr_icmp_ge (tgt := 47) dX10_byteAt_8 rfl (fun c1 => ?_) (fun c1 => ?_)
  · have nc1 : E ≤ a := (nI_leI (a := E) (b := a) (by omega) (by omega)).mp c1
    refine xr_iconst (v := 0) dX10_byteAt_47 rfl ?_
    exact xr_iret dX10_byteAt_48 rfl rfl (⟨_, rfl, rfl, rfl, rfl, (Or.inl rfl)⟩)
  · have nc1 : ¬ (E ≤ a) := fun q => c1 ((nI_leI (a := E) (b := a) (by omega) (by omega)).mpr q)
    have haE : a < E := by omega
    refine xr_aload_n dX10_byteAt_11 0 rfl ?_
    refine xb_get (v := bs) flX10_171 dX10_byteAt_12 s_62 rfl e_bs ?_
    refine xr_if_ge (tgt := 30) dX10_byteAt_15 rfl (fun c2 => ?_) (fun c2 => ?_)
    · obtain rfl : bs = 0 := by
        rcases hbs with h | h
        · subst h; exact absurd c2 (by decide)
        · exact h
      refine xr_aload_n dX10_byteAt_30 0 rfl ?_
      refine xr_getR flX10_31 dX10_byteAt_31 s_62 rfl ?_
      refine xr_aload_n dX10_byteAt_34 0 rfl ?_
      refine xb_get (v := 0) flX10_171 dX10_byteAt_35 s_62 rfl e_bs ?_
      refine xr_aload_n dX10_byteAt_38 0 rfl ?_
      refine xb_get (v := nI (a)) flX10_165 dX10_byteAt_39 s_62 rfl e_a ?_
      refine xr_iadd dX10_byteAt_42 ?_
      refine xb_top (y := nI (0 + a)) (nI_add (0) (a)) ?_
      refine xb_top (y := nI a) (congrArg nI (Nat.zero_add a)) ?_
      refine xb_iald (j := a) (v := M 70 a) dX10_byteAt_43 s_70 (by omega) (by decide) rfl ?_
      refine xr_goto (tgt := 48) dX10_byteAt_44 rfl ?_
      exact xr_iret dX10_byteAt_48 rfl rfl (⟨_, rfl, rfl, rfl, rfl, (Or.inr haE)⟩)
    · refine xr_aload_n dX10_byteAt_18 0 rfl ?_
      refine xr_getR flX10_28 dX10_byteAt_19 s_62 rfl ?_
      refine xr_aload_n dX10_byteAt_22 0 rfl ?_
      refine xb_get (v := nI (a)) flX10_165 dX10_byteAt_23 s_62 rfl e_a ?_
      refine xb_iald (j := a) (v := M 69 a) dX10_byteAt_26 s_69 (by omega) (by decide) rfl ?_
      refine xr_goto (tgt := 48) dX10_byteAt_27 rfl ?_
      exact xr_iret dX10_byteAt_48 rfl rfl (⟨_, rfl, rfl, rfl, rfl, (Or.inr haE)⟩)
set_option maxRecDepth 100000 in
set_option maxHeartbeats 4000000 in
theorem g_X10_wrong {l : Launch} {G : xG} {M : xM} {J : xJ} {a : Nat} (h_a : a ≤ 120) (e_a : M 62 15 = nI a) : x_M l G fX10_wrong 0 0 0 [.ref (62)] x_SH M J (qKI WPF M J (fun r M2 => r = 0 ∧ 0 ≤ M2 62 17)) := by
  refine xb_of pX10 (Nat.le_of_ble_eq_true rfl) rfl ?_
  refine xr_aload_n dX10_wrong_0 0 rfl ?_
  refine xr_aload_n dX10_wrong_1 0 rfl ?_
  refine xb_get (v := M 62 17) flX10_174 dX10_wrong_2 s_62 rfl rfl ?_
  refine xr_if_ge (tgt := 15) dX10_wrong_5 rfl (fun c1 => ?_) (fun c1 => ?_)
  · refine xr_aload_n dX10_wrong_15 0 rfl ?_
    refine xb_get (v := M 62 17) flX10_174 dX10_wrong_16 s_62 rfl rfl ?_
    refine xr_putI fpX10_174 dX10_wrong_19 s_62 rfl rfl rfl ?_
    refine xr_iconst (v := 0) dX10_wrong_22 rfl ?_
    exact xr_iret dX10_wrong_23 rfl rfl (⟨_, rfl, rfl, rfl, (Ke.up (by omega) Ke.rf), ⟨rfl, by rw [(x_up_s _ _ _ _)]; grind⟩⟩)
  · refine xr_aload_n dX10_wrong_8 0 rfl ?_
    refine xb_get (v := nI (a)) flX10_165 dX10_wrong_9 s_62 rfl e_a ?_
    refine xr_goto (tgt := 19) dX10_wrong_12 rfl ?_
    refine xr_putI fpX10_174 dX10_wrong_19 s_62 rfl rfl rfl ?_
    refine xr_iconst (v := 0) dX10_wrong_22 rfl ?_
    exact xr_iret dX10_wrong_23 rfl rfl (⟨_, rfl, rfl, rfl, (Ke.up (by omega) Ke.rf), ⟨rfl, by rw [(x_up_s _ _ _ _)]; exact nI_pos' (by omega)⟩⟩)
set_option maxRecDepth 100000 in
set_option maxHeartbeats 4000000 in
theorem g_X10_takes (si : Int32) (hsi : si ≠ 0) {bs : Int32} {l : Launch} {G : xG} {M : xM} {J : xJ} (hbs : bs = -1 ∨ bs = 0) (e_bs : M 62 14 = bs) {a : Nat} (h_a : a ≤ 120) (e_a : M 62 15 = nI a) {E : Nat} (h_E : E ≤ 120) (e_E : M 62 16 = nI E) : x_M l G fX10_takes 1 0 0 [.ref (62), .int (si)] x_SH M J (qKI WPA M J (fun r M2 => r = 0 ∧ M2 62 15 = nI a ∨ r = 1 ∧ M 62 17 < 0 ∧ a < E ∧ M2 62 15 = nI (a + 1))) := by
  refine xb_of pX10 (Nat.le_of_ble_eq_true rfl) rfl ?_
  refine xr_aload_n dX10_takes_0 0 rfl ?_
  refine xb_get (v := M 62 17) flX10_174 dX10_takes_1 s_62 rfl rfl ?_
  refine xr_if_ge (tgt := 15) dX10_takes_4 rfl (fun c1 => ?_) (fun c1 => ?_)
  · refine xr_iconst (v := 0) dX10_takes_15 rfl ?_
    exact xr_iret dX10_takes_16 rfl rfl (⟨_, rfl, rfl, rfl, Ke.rf, (Or.inl ⟨rfl, e_a⟩)⟩)
  · refine xr_aload_n dX10_takes_7 0 rfl ?_
    refine xr_callV (As := []) (rest := []) mlX10_177 (g_X10_byteAt hbs e_bs (by omega) e_a (by omega) e_E) dX10_takes_8 s_62 rfl rfl (Nat.le_of_ble_eq_true rfl) (by decide) ⟨by decide, by decide⟩ (fun v s2 M9 J2 hq => ?_)
    obtain ⟨r3, rfl, rfl, rfl, rfl, hx2⟩ := hq
    try dsimp only [Option.toList, List.cons_append, List.nil_append]
    refine xr_iload_n dX10_takes_11 1 rfl ?_
    refine xr_icmp_eq (tgt := 17) dX10_takes_12 rfl (fun c4 => ?_) (fun c4 => ?_)
    · have haE : a < E := Or.resolve_left hx2 (fun q => hsi (c4.symm.trans q))
      refine xr_aload_n dX10_takes_17 0 rfl ?_
      refine xr_dup dX10_takes_18 rfl ?_
      refine xb_get (v := nI (a)) flX10_165 dX10_takes_19 s_62 rfl e_a ?_
      refine xr_iconst (v := 1) dX10_takes_22 rfl ?_
      refine xr_iadd dX10_takes_23 ?_
      refine xb_top (y := nI (a + 1)) (nI_add (a) (1)) ?_
      refine xr_putI fpX10_165 dX10_takes_24 s_62 rfl rfl rfl ?_
      refine xr_iconst (v := 1) dX10_takes_27 rfl ?_
      exact xr_iret dX10_takes_28 rfl rfl (⟨_, rfl, rfl, rfl, (Ke.up (by omega) Ke.rf), (Or.inr ⟨rfl, by grind, haE, (x_up_s _ _ _ _)⟩)⟩)
    · refine xr_iconst (v := 0) dX10_takes_15 rfl ?_
      exact xr_iret dX10_takes_16 rfl rfl (⟨_, rfl, rfl, rfl, Ke.rf, (Or.inl ⟨rfl, e_a⟩)⟩)
/-- behind a level: how far it has read, how many are open -/
def PP_ (a E o : Nat) (M2 : xM) : Prop := ∃ a2 o2 : Nat, a ≤ a2 ∧ a2 ≤ E ∧ o ≤ o2 ∧ o2 ≤ 6 ∧ M2 62 15 = nI a2 ∧ M2 62 18 = nI o2 ∧ (M2 62 17 < 0 → o2 = o)
def LV (f : xF) (d u : Nat) : Prop := ∀ (l : Launch) (G : xG) (M : xM) (J : xJ) (bs : Int32) (a E o : Nat), (bs = -1 ∨ bs = 0) → M 62 14 = bs → a ≤ E → E ≤ 120 → M 62 15 = nI a → M 62 16 = nI E → o + u = 6 → M 62 18 = nI o → x_M l G f d 0 0 [.ref 62] x_SH M J (qKI WPR M J (fun r M2 => PP_ a E o M2))
set_option maxRecDepth 100000 in
set_option maxHeartbeats 4000000 in
theorem lp_product {u : Nat} (hs : LV fX10_one (8 * u + 3) u) {l : Launch} {G : xG} {M : xM} {J : xJ} {bs : Int32} {a E o : Nat} (hbs : bs = -1 ∨ bs = 0) (e_bs : M 62 14 = bs) (haE : a ≤ E) (hE : E ≤ 120) (e_E : M 62 16 = nI E) (ho : o + u = 6) : ∀ (m a1 o1 : Nat) (c : Int32) (v : Int32) (M1 : xM), E < a1 + m + 1 → a ≤ a1 → a1 ≤ E → o1 ≤ 6 → o ≤ o1 → Ke WPR M M1 → M1 62 15 = nI a1 → M1 62 18 = nI o1 → (M1 62 17 < 0 → o1 = o) → (c = 0 ∨ a1 < E) → x_X l G fX10_product (8 * u + 4) 0 0 (qKI WPR M J (fun r M2 => PP_ a E o M2)) 10 [(2, .int (c)), (1, .int (v)), (0, .ref (62))] [] x_SH M1 J 0 0 := by
  intro m
  induction m with
  | zero =>
    intro a1 o1 c v M1 hm h1 h2 h3 h4 hM e_a1 e_o1 hof hcc
    refine xr_aload_n dX10_product_10 2 rfl ?_
    refine xb_get (v := M1 62 17) flX10_174 dX10_product_11 s_62 rfl rfl ?_
    refine xr_if_ge (tgt := 94) dX10_product_14 rfl (fun c1 => ?_) (fun c1 => ?_)
    · refine xr_iload_n dX10_product_94 1 rfl ?_
      exact xr_iret dX10_product_95 rfl rfl (⟨_, rfl, rfl, rfl, hM, ⟨a1, o1, by omega, by omega, by omega, by omega, e_a1, e_o1, hof⟩⟩)
    · refine xr_iload_n dX10_product_17 0 rfl ?_
      refine xr_bipush (v := 42) dX10_product_18 rfl ?_
      refine xr_icmp_eq (tgt := 35) dX10_product_20 rfl (fun c2 => ?_) (fun c2 => ?_)
      · have hff : M1 62 17 < 0 := by grind
        have hoo : o1 = o := hof hff
        have ha5 : a1 < E := Or.resolve_left hcc (fun q => by grind)
        exact absurd hm (by omega)
      · refine xr_iload_n dX10_product_23 0 rfl ?_
        refine xr_bipush (v := 47) dX10_product_24 rfl ?_
        refine xr_icmp_eq (tgt := 35) dX10_product_26 rfl (fun c3 => ?_) (fun c3 => ?_)
        · have hff : M1 62 17 < 0 := by grind
          have hoo : o1 = o := hof hff
          have ha5 : a1 < E := Or.resolve_left hcc (fun q => by grind)
          exact absurd hm (by omega)
        · refine xr_iload_n dX10_product_29 0 rfl ?_
          refine xr_bipush (v := 37) dX10_product_30 rfl ?_
          refine xr_icmp_ne (tgt := 94) dX10_product_32 rfl (fun c4 => ?_) (fun c4 => ?_)
          · refine xr_iload_n dX10_product_94 1 rfl ?_
            exact xr_iret dX10_product_95 rfl rfl (⟨_, rfl, rfl, rfl, hM, ⟨a1, o1, by omega, by omega, by omega, by omega, e_a1, e_o1, hof⟩⟩)
          · have hff : M1 62 17 < 0 := by grind
            have hoo : o1 = o := hof hff
            have ha5 : a1 < E := Or.resolve_left hcc (fun q => by grind)
            exact absurd hm (by omega)
  | succ m ih =>
    intro a1 o1 c v M1 hm h1 h2 h3 h4 hM e_a1 e_o1 hof hcc
    refine xr_aload_n dX10_product_10 2 rfl ?_
    refine xb_get (v := M1 62 17) flX10_174 dX10_product_11 s_62 rfl rfl ?_
    refine xr_if_ge (tgt := 94) dX10_product_14 rfl (fun c1 => ?_) (fun c1 => ?_)
    · refine xr_iload_n dX10_product_94 1 rfl ?_
      exact xr_iret dX10_product_95 rfl rfl (⟨_, rfl, rfl, rfl, hM, ⟨a1, o1, by omega, by omega, by omega, by omega, e_a1, e_o1, hof⟩⟩)
    · refine xr_iload_n dX10_product_17 0 rfl ?_
      refine xr_bipush (v := 42) dX10_product_18 rfl ?_
      refine xr_icmp_eq (tgt := 35) dX10_product_20 rfl (fun c2 => ?_) (fun c2 => ?_)
      · have hff : M1 62 17 < 0 := by grind
        have hoo : o1 = o := hof hff
        have ha5 : a1 < E := Or.resolve_left hcc (fun q => by grind)
        refine xr_aload_n dX10_product_35 2 rfl ?_
        refine xr_dup dX10_product_36 rfl ?_
        refine xb_get (v := nI (a1)) flX10_165 dX10_product_37 s_62 rfl e_a1 ?_
        refine xr_iconst (v := 1) dX10_product_40 rfl ?_
        refine xr_iadd dX10_product_41 ?_
        refine xb_top (y := nI (a1 + 1)) (nI_add (a1) (1)) ?_
        refine xr_putI fpX10_165 dX10_product_42 s_62 rfl rfl rfl ?_
        refine xr_aload_n dX10_product_45 2 rfl ?_
        refine xr_callV (As := []) (rest := []) mlX10_196 (hs l G (x_up M1 62 15 (nI (a1 + 1))) J bs (a1 + 1) E o1 hbs (Eq.trans (x_up_k _ _ _ (by decide)) (Eq.trans (hM 62 14 (by decide)) e_bs)) (by omega) (by omega) (x_up_s _ _ _ _) (Eq.trans (x_up_k _ _ _ (by decide)) (Eq.trans (hM 62 16 (by decide)) e_E)) (by omega) (Eq.trans (x_up_k _ _ _ (by decide)) e_o1)) dX10_product_46 s_62 rfl rfl (Nat.le_of_ble_eq_true rfl) (by omega) ⟨by decide, by decide⟩ (fun v s2 M7 J2 hq => ?_)
        obtain ⟨r9, rfl, rfl, rfl, k8, ⟨a4, o5, a4a, a4b, o5d, o5c, ea4, eo5, hf6⟩⟩ := hq
        try dsimp only [Option.toList, List.cons_append, List.nil_append]
        refine xr_istore_n (ls2 := [(3, .int (r9)), (2, .int (c)), (1, .int (v)), (0, .ref (62))]) dX10_product_49 (by decide) rfl ?_
        refine xr_iload_n dX10_product_50 1 rfl ?_
        refine xr_bipush (v := 42) dX10_product_51 rfl ?_
        refine xr_icmp_ne (tgt := 62) dX10_product_53 rfl (fun c10 => ?_) (fun c10 => ?_)
        · refine xr_iload_n dX10_product_62 0 rfl ?_
          refine xr_if_ne (tgt := 70) dX10_product_63 rfl (fun c11 => ?_) (fun c11 => ?_)
          · refine xr_iload_n dX10_product_70 1 rfl ?_
            refine xr_bipush (v := 47) dX10_product_71 rfl ?_
            refine xr_icmp_ne (tgt := 82) dX10_product_73 rfl (fun c12 => ?_) (fun c12 => ?_)
            · refine xr_iload_n dX10_product_82 2 rfl ?_
              refine xr_iload_n dX10_product_83 0 rfl ?_
              refine xr_irem dX10_product_84 c11 ?_
              refine xr_istore_n (ls2 := [(1, .int ((v - v / r9 * r9))), (3, .int (r9)), (2, .int (c)), (0, .ref (62))]) dX10_product_85 (by decide) rfl ?_
              refine xr_aload_n dX10_product_86 3 rfl ?_
              refine xr_callV (As := []) (rest := []) mlX10_177 (g_X10_byteAt hbs (Eq.trans (k8 62 14 (by decide)) (Eq.trans (x_up_k _ _ _ (by decide)) (Eq.trans (hM 62 14 (by decide)) e_bs))) (by omega) ea4 (by omega) (Eq.trans (k8 62 16 (by decide)) (Eq.trans (x_up_k _ _ _ (by decide)) (Eq.trans (hM 62 16 (by decide)) e_E)))) dX10_product_87 s_62 rfl rfl (Nat.le_of_ble_eq_true rfl) (by omega) ⟨by decide, by decide⟩ (fun v s2 M9 J2 hq => ?_)
              obtain ⟨r14, rfl, rfl, rfl, rfl, hx13⟩ := hq
              try dsimp only [Option.toList, List.cons_append, List.nil_append]
              refine xr_istore_n (ls2 := [(2, .int (r14)), (1, .int ((v - v / r9 * r9))), (3, .int (r9)), (0, .ref (62))]) dX10_product_90 (by decide) rfl ?_
              refine xr_goto (tgt := 10) dX10_product_91 rfl ?_
              refine xb_ls (ls2 := [(2, .int (r14)), (1, .int ((v - v / r9 * r9))), (0, .ref (62))]) [0, 1, 3] rfl ?_
              exact ih a4 o5 r14 (v - v / r9 * r9) M7 (by omega) (by omega) (by omega) (by omega) (by omega) (Ke.tr (fun _ _ h => h) (Ke.up (Or.inl (by omega)) hM) k8) ea4 eo5 (fun q => (hf6 q).trans hoo) hx13
            · refine xr_iload_n dX10_product_76 2 rfl ?_
              refine xr_iload_n dX10_product_77 0 rfl ?_
              refine xr_idiv dX10_product_78 c11 ?_
              refine xr_goto (tgt := 85) dX10_product_79 rfl ?_
              refine xr_istore_n (ls2 := [(1, .int ((v / r9))), (3, .int (r9)), (2, .int (c)), (0, .ref (62))]) dX10_product_85 (by decide) rfl ?_
              refine xr_aload_n dX10_product_86 3 rfl ?_
              refine xr_callV (As := []) (rest := []) mlX10_177 (g_X10_byteAt hbs (Eq.trans (k8 62 14 (by decide)) (Eq.trans (x_up_k _ _ _ (by decide)) (Eq.trans (hM 62 14 (by decide)) e_bs))) (by omega) ea4 (by omega) (Eq.trans (k8 62 16 (by decide)) (Eq.trans (x_up_k _ _ _ (by decide)) (Eq.trans (hM 62 16 (by decide)) e_E)))) dX10_product_87 s_62 rfl rfl (Nat.le_of_ble_eq_true rfl) (by omega) ⟨by decide, by decide⟩ (fun v s2 M9 J2 hq => ?_)
              obtain ⟨r16, rfl, rfl, rfl, rfl, hx15⟩ := hq
              try dsimp only [Option.toList, List.cons_append, List.nil_append]
              refine xr_istore_n (ls2 := [(2, .int (r16)), (1, .int ((v / r9))), (3, .int (r9)), (0, .ref (62))]) dX10_product_90 (by decide) rfl ?_
              refine xr_goto (tgt := 10) dX10_product_91 rfl ?_
              refine xb_ls (ls2 := [(2, .int (r16)), (1, .int ((v / r9))), (0, .ref (62))]) [0, 1, 3] rfl ?_
              exact ih a4 o5 r16 (v / r9) M7 (by omega) (by omega) (by omega) (by omega) (by omega) (Ke.tr (fun _ _ h => h) (Ke.up (Or.inl (by omega)) hM) k8) ea4 eo5 (fun q => (hf6 q).trans hoo) hx15
          · refine xr_iconst (v := 0) dX10_product_66 rfl ?_
            refine xr_goto (tgt := 85) dX10_product_67 rfl ?_
            refine xr_istore_n (ls2 := [(1, .int (0)), (3, .int (r9)), (2, .int (c)), (0, .ref (62))]) dX10_product_85 (by decide) rfl ?_
            refine xr_aload_n dX10_product_86 3 rfl ?_
            refine xr_callV (As := []) (rest := []) mlX10_177 (g_X10_byteAt hbs (Eq.trans (k8 62 14 (by decide)) (Eq.trans (x_up_k _ _ _ (by decide)) (Eq.trans (hM 62 14 (by decide)) e_bs))) (by omega) ea4 (by omega) (Eq.trans (k8 62 16 (by decide)) (Eq.trans (x_up_k _ _ _ (by decide)) (Eq.trans (hM 62 16 (by decide)) e_E)))) dX10_product_87 s_62 rfl rfl (Nat.le_of_ble_eq_true rfl) (by omega) ⟨by decide, by decide⟩ (fun v s2 M9 J2 hq => ?_)
            obtain ⟨r18, rfl, rfl, rfl, rfl, hx17⟩ := hq
            try dsimp only [Option.toList, List.cons_append, List.nil_append]
            refine xr_istore_n (ls2 := [(2, .int (r18)), (1, .int (0)), (3, .int (r9)), (0, .ref (62))]) dX10_product_90 (by decide) rfl ?_
            refine xr_goto (tgt := 10) dX10_product_91 rfl ?_
            refine xb_ls (ls2 := [(2, .int (r18)), (1, .int (0)), (0, .ref (62))]) [0, 1, 3] rfl ?_
            exact ih a4 o5 r18 0 M7 (by omega) (by omega) (by omega) (by omega) (by omega) (Ke.tr (fun _ _ h => h) (Ke.up (Or.inl (by omega)) hM) k8) ea4 eo5 (fun q => (hf6 q).trans hoo) hx17
        · refine xr_iload_n dX10_product_56 2 rfl ?_
          refine xr_iload_n dX10_product_57 0 rfl ?_
          refine xr_imul dX10_product_58 ?_
          refine xr_goto (tgt := 85) dX10_product_59 rfl ?_
          refine xr_istore_n (ls2 := [(1, .int ((v * r9))), (3, .int (r9)), (2, .int (c)), (0, .ref (62))]) dX10_product_85 (by decide) rfl ?_
          refine xr_aload_n dX10_product_86 3 rfl ?_
          refine xr_callV (As := []) (rest := []) mlX10_177 (g_X10_byteAt hbs (Eq.trans (k8 62 14 (by decide)) (Eq.trans (x_up_k _ _ _ (by decide)) (Eq.trans (hM 62 14 (by decide)) e_bs))) (by omega) ea4 (by omega) (Eq.trans (k8 62 16 (by decide)) (Eq.trans (x_up_k _ _ _ (by decide)) (Eq.trans (hM 62 16 (by decide)) e_E)))) dX10_product_87 s_62 rfl rfl (Nat.le_of_ble_eq_true rfl) (by omega) ⟨by decide, by decide⟩ (fun v s2 M9 J2 hq => ?_)
          obtain ⟨r20, rfl, rfl, rfl, rfl, hx19⟩ := hq
          try dsimp only [Option.toList, List.cons_append, List.nil_append]
          refine xr_istore_n (ls2 := [(2, .int (r20)), (1, .int ((v * r9))), (3, .int (r9)), (0, .ref (62))]) dX10_product_90 (by decide) rfl ?_
          refine xr_goto (tgt := 10) dX10_product_91 rfl ?_
          refine xb_ls (ls2 := [(2, .int (r20)), (1, .int ((v * r9))), (0, .ref (62))]) [0, 1, 3] rfl ?_
          exact ih a4 o5 r20 (v * r9) M7 (by omega) (by omega) (by omega) (by omega) (by omega) (Ke.tr (fun _ _ h => h) (Ke.up (Or.inl (by omega)) hM) k8) ea4 eo5 (fun q => (hf6 q).trans hoo) hx19
      · refine xr_iload_n dX10_product_23 0 rfl ?_
        refine xr_bipush (v := 47) dX10_product_24 rfl ?_
        refine xr_icmp_eq (tgt := 35) dX10_product_26 rfl (fun c21 => ?_) (fun c21 => ?_)
        · have hff : M1 62 17 < 0 := by grind
          have hoo : o1 = o := hof hff
          have ha5 : a1 < E := Or.resolve_left hcc (fun q => by grind)
          refine xr_aload_n dX10_product_35 2 rfl ?_
          refine xr_dup dX10_product_36 rfl ?_
          refine xb_get (v := nI (a1)) flX10_165 dX10_product_37 s_62 rfl e_a1 ?_
          refine xr_iconst (v := 1) dX10_product_40 rfl ?_
          refine xr_iadd dX10_product_41 ?_
          refine xb_top (y := nI (a1 + 1)) (nI_add (a1) (1)) ?_
          refine xr_putI fpX10_165 dX10_product_42 s_62 rfl rfl rfl ?_
          refine xr_aload_n dX10_product_45 2 rfl ?_
          refine xr_callV (As := []) (rest := []) mlX10_196 (hs l G (x_up M1 62 15 (nI (a1 + 1))) J bs (a1 + 1) E o1 hbs (Eq.trans (x_up_k _ _ _ (by decide)) (Eq.trans (hM 62 14 (by decide)) e_bs)) (by omega) (by omega) (x_up_s _ _ _ _) (Eq.trans (x_up_k _ _ _ (by decide)) (Eq.trans (hM 62 16 (by decide)) e_E)) (by omega) (Eq.trans (x_up_k _ _ _ (by decide)) e_o1)) dX10_product_46 s_62 rfl rfl (Nat.le_of_ble_eq_true rfl) (by omega) ⟨by decide, by decide⟩ (fun v s2 M26 J2 hq => ?_)
          obtain ⟨r28, rfl, rfl, rfl, k27, ⟨a23, o24, a23a, a23b, o24d, o24c, ea23, eo24, hf25⟩⟩ := hq
          try dsimp only [Option.toList, List.cons_append, List.nil_append]
          refine xr_istore_n (ls2 := [(3, .int (r28)), (2, .int (c)), (1, .int (v)), (0, .ref (62))]) dX10_product_49 (by decide) rfl ?_
          refine xr_iload_n dX10_product_50 1 rfl ?_
          refine xr_bipush (v := 42) dX10_product_51 rfl ?_
          refine xr_icmp_ne (tgt := 62) dX10_product_53 rfl (fun c29 => ?_) (fun c29 => ?_)
          · refine xr_iload_n dX10_product_62 0 rfl ?_
            refine xr_if_ne (tgt := 70) dX10_product_63 rfl (fun c30 => ?_) (fun c30 => ?_)
            · refine xr_iload_n dX10_product_70 1 rfl ?_
              refine xr_bipush (v := 47) dX10_product_71 rfl ?_
              refine xr_icmp_ne (tgt := 82) dX10_product_73 rfl (fun c31 => ?_) (fun c31 => ?_)
              · refine xr_iload_n dX10_product_82 2 rfl ?_
                refine xr_iload_n dX10_product_83 0 rfl ?_
                refine xr_irem dX10_product_84 c30 ?_
                refine xr_istore_n (ls2 := [(1, .int ((v - v / r28 * r28))), (3, .int (r28)), (2, .int (c)), (0, .ref (62))]) dX10_product_85 (by decide) rfl ?_
                refine xr_aload_n dX10_product_86 3 rfl ?_
                refine xr_callV (As := []) (rest := []) mlX10_177 (g_X10_byteAt hbs (Eq.trans (k27 62 14 (by decide)) (Eq.trans (x_up_k _ _ _ (by decide)) (Eq.trans (hM 62 14 (by decide)) e_bs))) (by omega) ea23 (by omega) (Eq.trans (k27 62 16 (by decide)) (Eq.trans (x_up_k _ _ _ (by decide)) (Eq.trans (hM 62 16 (by decide)) e_E)))) dX10_product_87 s_62 rfl rfl (Nat.le_of_ble_eq_true rfl) (by omega) ⟨by decide, by decide⟩ (fun v s2 M9 J2 hq => ?_)
                obtain ⟨r33, rfl, rfl, rfl, rfl, hx32⟩ := hq
                try dsimp only [Option.toList, List.cons_append, List.nil_append]
                refine xr_istore_n (ls2 := [(2, .int (r33)), (1, .int ((v - v / r28 * r28))), (3, .int (r28)), (0, .ref (62))]) dX10_product_90 (by decide) rfl ?_
                refine xr_goto (tgt := 10) dX10_product_91 rfl ?_
                refine xb_ls (ls2 := [(2, .int (r33)), (1, .int ((v - v / r28 * r28))), (0, .ref (62))]) [0, 1, 3] rfl ?_
                exact ih a23 o24 r33 (v - v / r28 * r28) M26 (by omega) (by omega) (by omega) (by omega) (by omega) (Ke.tr (fun _ _ h => h) (Ke.up (Or.inl (by omega)) hM) k27) ea23 eo24 (fun q => (hf25 q).trans hoo) hx32
              · refine xr_iload_n dX10_product_76 2 rfl ?_
                refine xr_iload_n dX10_product_77 0 rfl ?_
                refine xr_idiv dX10_product_78 c30 ?_
                refine xr_goto (tgt := 85) dX10_product_79 rfl ?_
                refine xr_istore_n (ls2 := [(1, .int ((v / r28))), (3, .int (r28)), (2, .int (c)), (0, .ref (62))]) dX10_product_85 (by decide) rfl ?_
                refine xr_aload_n dX10_product_86 3 rfl ?_
                refine xr_callV (As := []) (rest := []) mlX10_177 (g_X10_byteAt hbs (Eq.trans (k27 62 14 (by decide)) (Eq.trans (x_up_k _ _ _ (by decide)) (Eq.trans (hM 62 14 (by decide)) e_bs))) (by omega) ea23 (by omega) (Eq.trans (k27 62 16 (by decide)) (Eq.trans (x_up_k _ _ _ (by decide)) (Eq.trans (hM 62 16 (by decide)) e_E)))) dX10_product_87 s_62 rfl rfl (Nat.le_of_ble_eq_true rfl) (by omega) ⟨by decide, by decide⟩ (fun v s2 M9 J2 hq => ?_)
                obtain ⟨r35, rfl, rfl, rfl, rfl, hx34⟩ := hq
                try dsimp only [Option.toList, List.cons_append, List.nil_append]
                refine xr_istore_n (ls2 := [(2, .int (r35)), (1, .int ((v / r28))), (3, .int (r28)), (0, .ref (62))]) dX10_product_90 (by decide) rfl ?_
                refine xr_goto (tgt := 10) dX10_product_91 rfl ?_
                refine xb_ls (ls2 := [(2, .int (r35)), (1, .int ((v / r28))), (0, .ref (62))]) [0, 1, 3] rfl ?_
                exact ih a23 o24 r35 (v / r28) M26 (by omega) (by omega) (by omega) (by omega) (by omega) (Ke.tr (fun _ _ h => h) (Ke.up (Or.inl (by omega)) hM) k27) ea23 eo24 (fun q => (hf25 q).trans hoo) hx34
            · refine xr_iconst (v := 0) dX10_product_66 rfl ?_
              refine xr_goto (tgt := 85) dX10_product_67 rfl ?_
              refine xr_istore_n (ls2 := [(1, .int (0)), (3, .int (r28)), (2, .int (c)), (0, .ref (62))]) dX10_product_85 (by decide) rfl ?_
              refine xr_aload_n dX10_product_86 3 rfl ?_
              refine xr_callV (As := []) (rest := []) mlX10_177 (g_X10_byteAt hbs (Eq.trans (k27 62 14 (by decide)) (Eq.trans (x_up_k _ _ _ (by decide)) (Eq.trans (hM 62 14 (by decide)) e_bs))) (by omega) ea23 (by omega) (Eq.trans (k27 62 16 (by decide)) (Eq.trans (x_up_k _ _ _ (by decide)) (Eq.trans (hM 62 16 (by decide)) e_E)))) dX10_product_87 s_62 rfl rfl (Nat.le_of_ble_eq_true rfl) (by omega) ⟨by decide, by decide⟩ (fun v s2 M9 J2 hq => ?_)
              obtain ⟨r37, rfl, rfl, rfl, rfl, hx36⟩ := hq
              try dsimp only [Option.toList, List.cons_append, List.nil_append]
              refine xr_istore_n (ls2 := [(2, .int (r37)), (1, .int (0)), (3, .int (r28)), (0, .ref (62))]) dX10_product_90 (by decide) rfl ?_
              refine xr_goto (tgt := 10) dX10_product_91 rfl ?_
              refine xb_ls (ls2 := [(2, .int (r37)), (1, .int (0)), (0, .ref (62))]) [0, 1, 3] rfl ?_
              exact ih a23 o24 r37 0 M26 (by omega) (by omega) (by omega) (by omega) (by omega) (Ke.tr (fun _ _ h => h) (Ke.up (Or.inl (by omega)) hM) k27) ea23 eo24 (fun q => (hf25 q).trans hoo) hx36
          · refine xr_iload_n dX10_product_56 2 rfl ?_
            refine xr_iload_n dX10_product_57 0 rfl ?_
            refine xr_imul dX10_product_58 ?_
            refine xr_goto (tgt := 85) dX10_product_59 rfl ?_
            refine xr_istore_n (ls2 := [(1, .int ((v * r28))), (3, .int (r28)), (2, .int (c)), (0, .ref (62))]) dX10_product_85 (by decide) rfl ?_
            refine xr_aload_n dX10_product_86 3 rfl ?_
            refine xr_callV (As := []) (rest := []) mlX10_177 (g_X10_byteAt hbs (Eq.trans (k27 62 14 (by decide)) (Eq.trans (x_up_k _ _ _ (by decide)) (Eq.trans (hM 62 14 (by decide)) e_bs))) (by omega) ea23 (by omega) (Eq.trans (k27 62 16 (by decide)) (Eq.trans (x_up_k _ _ _ (by decide)) (Eq.trans (hM 62 16 (by decide)) e_E)))) dX10_product_87 s_62 rfl rfl (Nat.le_of_ble_eq_true rfl) (by omega) ⟨by decide, by decide⟩ (fun v s2 M9 J2 hq => ?_)
            obtain ⟨r39, rfl, rfl, rfl, rfl, hx38⟩ := hq
            try dsimp only [Option.toList, List.cons_append, List.nil_append]
            refine xr_istore_n (ls2 := [(2, .int (r39)), (1, .int ((v * r28))), (3, .int (r28)), (0, .ref (62))]) dX10_product_90 (by decide) rfl ?_
            refine xr_goto (tgt := 10) dX10_product_91 rfl ?_
            refine xb_ls (ls2 := [(2, .int (r39)), (1, .int ((v * r28))), (0, .ref (62))]) [0, 1, 3] rfl ?_
            exact ih a23 o24 r39 (v * r28) M26 (by omega) (by omega) (by omega) (by omega) (by omega) (Ke.tr (fun _ _ h => h) (Ke.up (Or.inl (by omega)) hM) k27) ea23 eo24 (fun q => (hf25 q).trans hoo) hx38
        · refine xr_iload_n dX10_product_29 0 rfl ?_
          refine xr_bipush (v := 37) dX10_product_30 rfl ?_
          refine xr_icmp_ne (tgt := 94) dX10_product_32 rfl (fun c40 => ?_) (fun c40 => ?_)
          · refine xr_iload_n dX10_product_94 1 rfl ?_
            exact xr_iret dX10_product_95 rfl rfl (⟨_, rfl, rfl, rfl, hM, ⟨a1, o1, by omega, by omega, by omega, by omega, e_a1, e_o1, hof⟩⟩)
          · have hff : M1 62 17 < 0 := by grind
            have hoo : o1 = o := hof hff
            have ha5 : a1 < E := Or.resolve_left hcc (fun q => by grind)
            refine xr_aload_n dX10_product_35 2 rfl ?_
            refine xr_dup dX10_product_36 rfl ?_
            refine xb_get (v := nI (a1)) flX10_165 dX10_product_37 s_62 rfl e_a1 ?_
            refine xr_iconst (v := 1) dX10_product_40 rfl ?_
            refine xr_iadd dX10_product_41 ?_
            refine xb_top (y := nI (a1 + 1)) (nI_add (a1) (1)) ?_
            refine xr_putI fpX10_165 dX10_product_42 s_62 rfl rfl rfl ?_
            refine xr_aload_n dX10_product_45 2 rfl ?_
            refine xr_callV (As := []) (rest := []) mlX10_196 (hs l G (x_up M1 62 15 (nI (a1 + 1))) J bs (a1 + 1) E o1 hbs (Eq.trans (x_up_k _ _ _ (by decide)) (Eq.trans (hM 62 14 (by decide)) e_bs)) (by omega) (by omega) (x_up_s _ _ _ _) (Eq.trans (x_up_k _ _ _ (by decide)) (Eq.trans (hM 62 16 (by decide)) e_E)) (by omega) (Eq.trans (x_up_k _ _ _ (by decide)) e_o1)) dX10_product_46 s_62 rfl rfl (Nat.le_of_ble_eq_true rfl) (by omega) ⟨by decide, by decide⟩ (fun v s2 M45 J2 hq => ?_)
            obtain ⟨r47, rfl, rfl, rfl, k46, ⟨a42, o43, a42a, a42b, o43d, o43c, ea42, eo43, hf44⟩⟩ := hq
            try dsimp only [Option.toList, List.cons_append, List.nil_append]
            refine xr_istore_n (ls2 := [(3, .int (r47)), (2, .int (c)), (1, .int (v)), (0, .ref (62))]) dX10_product_49 (by decide) rfl ?_
            refine xr_iload_n dX10_product_50 1 rfl ?_
            refine xr_bipush (v := 42) dX10_product_51 rfl ?_
            refine xr_icmp_ne (tgt := 62) dX10_product_53 rfl (fun c48 => ?_) (fun c48 => ?_)
            · refine xr_iload_n dX10_product_62 0 rfl ?_
              refine xr_if_ne (tgt := 70) dX10_product_63 rfl (fun c49 => ?_) (fun c49 => ?_)
              · refine xr_iload_n dX10_product_70 1 rfl ?_
                refine xr_bipush (v := 47) dX10_product_71 rfl ?_
                refine xr_icmp_ne (tgt := 82) dX10_product_73 rfl (fun c50 => ?_) (fun c50 => ?_)
                · refine xr_iload_n dX10_product_82 2 rfl ?_
                  refine xr_iload_n dX10_product_83 0 rfl ?_
                  refine xr_irem dX10_product_84 c49 ?_
                  refine xr_istore_n (ls2 := [(1, .int ((v - v / r47 * r47))), (3, .int (r47)), (2, .int (c)), (0, .ref (62))]) dX10_product_85 (by decide) rfl ?_
                  refine xr_aload_n dX10_product_86 3 rfl ?_
                  refine xr_callV (As := []) (rest := []) mlX10_177 (g_X10_byteAt hbs (Eq.trans (k46 62 14 (by decide)) (Eq.trans (x_up_k _ _ _ (by decide)) (Eq.trans (hM 62 14 (by decide)) e_bs))) (by omega) ea42 (by omega) (Eq.trans (k46 62 16 (by decide)) (Eq.trans (x_up_k _ _ _ (by decide)) (Eq.trans (hM 62 16 (by decide)) e_E)))) dX10_product_87 s_62 rfl rfl (Nat.le_of_ble_eq_true rfl) (by omega) ⟨by decide, by decide⟩ (fun v s2 M9 J2 hq => ?_)
                  obtain ⟨r52, rfl, rfl, rfl, rfl, hx51⟩ := hq
                  try dsimp only [Option.toList, List.cons_append, List.nil_append]
                  refine xr_istore_n (ls2 := [(2, .int (r52)), (1, .int ((v - v / r47 * r47))), (3, .int (r47)), (0, .ref (62))]) dX10_product_90 (by decide) rfl ?_
                  refine xr_goto (tgt := 10) dX10_product_91 rfl ?_
                  refine xb_ls (ls2 := [(2, .int (r52)), (1, .int ((v - v / r47 * r47))), (0, .ref (62))]) [0, 1, 3] rfl ?_
                  exact ih a42 o43 r52 (v - v / r47 * r47) M45 (by omega) (by omega) (by omega) (by omega) (by omega) (Ke.tr (fun _ _ h => h) (Ke.up (Or.inl (by omega)) hM) k46) ea42 eo43 (fun q => (hf44 q).trans hoo) hx51
                · refine xr_iload_n dX10_product_76 2 rfl ?_
                  refine xr_iload_n dX10_product_77 0 rfl ?_
                  refine xr_idiv dX10_product_78 c49 ?_
                  refine xr_goto (tgt := 85) dX10_product_79 rfl ?_
                  refine xr_istore_n (ls2 := [(1, .int ((v / r47))), (3, .int (r47)), (2, .int (c)), (0, .ref (62))]) dX10_product_85 (by decide) rfl ?_
                  refine xr_aload_n dX10_product_86 3 rfl ?_
                  refine xr_callV (As := []) (rest := []) mlX10_177 (g_X10_byteAt hbs (Eq.trans (k46 62 14 (by decide)) (Eq.trans (x_up_k _ _ _ (by decide)) (Eq.trans (hM 62 14 (by decide)) e_bs))) (by omega) ea42 (by omega) (Eq.trans (k46 62 16 (by decide)) (Eq.trans (x_up_k _ _ _ (by decide)) (Eq.trans (hM 62 16 (by decide)) e_E)))) dX10_product_87 s_62 rfl rfl (Nat.le_of_ble_eq_true rfl) (by omega) ⟨by decide, by decide⟩ (fun v s2 M9 J2 hq => ?_)
                  obtain ⟨r54, rfl, rfl, rfl, rfl, hx53⟩ := hq
                  try dsimp only [Option.toList, List.cons_append, List.nil_append]
                  refine xr_istore_n (ls2 := [(2, .int (r54)), (1, .int ((v / r47))), (3, .int (r47)), (0, .ref (62))]) dX10_product_90 (by decide) rfl ?_
                  refine xr_goto (tgt := 10) dX10_product_91 rfl ?_
                  refine xb_ls (ls2 := [(2, .int (r54)), (1, .int ((v / r47))), (0, .ref (62))]) [0, 1, 3] rfl ?_
                  exact ih a42 o43 r54 (v / r47) M45 (by omega) (by omega) (by omega) (by omega) (by omega) (Ke.tr (fun _ _ h => h) (Ke.up (Or.inl (by omega)) hM) k46) ea42 eo43 (fun q => (hf44 q).trans hoo) hx53
              · refine xr_iconst (v := 0) dX10_product_66 rfl ?_
                refine xr_goto (tgt := 85) dX10_product_67 rfl ?_
                refine xr_istore_n (ls2 := [(1, .int (0)), (3, .int (r47)), (2, .int (c)), (0, .ref (62))]) dX10_product_85 (by decide) rfl ?_
                refine xr_aload_n dX10_product_86 3 rfl ?_
                refine xr_callV (As := []) (rest := []) mlX10_177 (g_X10_byteAt hbs (Eq.trans (k46 62 14 (by decide)) (Eq.trans (x_up_k _ _ _ (by decide)) (Eq.trans (hM 62 14 (by decide)) e_bs))) (by omega) ea42 (by omega) (Eq.trans (k46 62 16 (by decide)) (Eq.trans (x_up_k _ _ _ (by decide)) (Eq.trans (hM 62 16 (by decide)) e_E)))) dX10_product_87 s_62 rfl rfl (Nat.le_of_ble_eq_true rfl) (by omega) ⟨by decide, by decide⟩ (fun v s2 M9 J2 hq => ?_)
                obtain ⟨r56, rfl, rfl, rfl, rfl, hx55⟩ := hq
                try dsimp only [Option.toList, List.cons_append, List.nil_append]
                refine xr_istore_n (ls2 := [(2, .int (r56)), (1, .int (0)), (3, .int (r47)), (0, .ref (62))]) dX10_product_90 (by decide) rfl ?_
                refine xr_goto (tgt := 10) dX10_product_91 rfl ?_
                refine xb_ls (ls2 := [(2, .int (r56)), (1, .int (0)), (0, .ref (62))]) [0, 1, 3] rfl ?_
                exact ih a42 o43 r56 0 M45 (by omega) (by omega) (by omega) (by omega) (by omega) (Ke.tr (fun _ _ h => h) (Ke.up (Or.inl (by omega)) hM) k46) ea42 eo43 (fun q => (hf44 q).trans hoo) hx55
            · refine xr_iload_n dX10_product_56 2 rfl ?_
              refine xr_iload_n dX10_product_57 0 rfl ?_
              refine xr_imul dX10_product_58 ?_
              refine xr_goto (tgt := 85) dX10_product_59 rfl ?_
              refine xr_istore_n (ls2 := [(1, .int ((v * r47))), (3, .int (r47)), (2, .int (c)), (0, .ref (62))]) dX10_product_85 (by decide) rfl ?_
              refine xr_aload_n dX10_product_86 3 rfl ?_
              refine xr_callV (As := []) (rest := []) mlX10_177 (g_X10_byteAt hbs (Eq.trans (k46 62 14 (by decide)) (Eq.trans (x_up_k _ _ _ (by decide)) (Eq.trans (hM 62 14 (by decide)) e_bs))) (by omega) ea42 (by omega) (Eq.trans (k46 62 16 (by decide)) (Eq.trans (x_up_k _ _ _ (by decide)) (Eq.trans (hM 62 16 (by decide)) e_E)))) dX10_product_87 s_62 rfl rfl (Nat.le_of_ble_eq_true rfl) (by omega) ⟨by decide, by decide⟩ (fun v s2 M9 J2 hq => ?_)
              obtain ⟨r58, rfl, rfl, rfl, rfl, hx57⟩ := hq
              try dsimp only [Option.toList, List.cons_append, List.nil_append]
              refine xr_istore_n (ls2 := [(2, .int (r58)), (1, .int ((v * r47))), (3, .int (r47)), (0, .ref (62))]) dX10_product_90 (by decide) rfl ?_
              refine xr_goto (tgt := 10) dX10_product_91 rfl ?_
              refine xb_ls (ls2 := [(2, .int (r58)), (1, .int ((v * r47))), (0, .ref (62))]) [0, 1, 3] rfl ?_
              exact ih a42 o43 r58 (v * r47) M45 (by omega) (by omega) (by omega) (by omega) (by omega) (Ke.tr (fun _ _ h => h) (Ke.up (Or.inl (by omega)) hM) k46) ea42 eo43 (fun q => (hf44 q).trans hoo) hx57
set_option maxRecDepth 100000 in
set_option maxHeartbeats 4000000 in
theorem lv_product {u : Nat} (hs : LV fX10_one (8 * u + 3) u) : LV fX10_product (8 * u + 4) u := by
  intro l G M J bs a E o hbs e_bs haE hE e_a e_E ho e_o
  refine xb_of pX10 (Nat.le_of_ble_eq_true rfl) rfl ?_
  refine xr_aload_n dX10_product_0 0 rfl ?_
  refine xr_callV (As := []) (rest := []) mlX10_196 (hs l G M J bs a E o hbs e_bs (by omega) (by omega) e_a e_E (by omega) e_o) dX10_product_1 s_62 rfl rfl (Nat.le_of_ble_eq_true rfl) (by omega) ⟨by decide, by decide⟩ (fun v s2 M5 J2 hq => ?_)
  obtain ⟨r7, rfl, rfl, rfl, k6, ⟨a2, o3, a2a, a2b, o3d, o3c, ea2, eo3, hf4⟩⟩ := hq
  try dsimp only [Option.toList, List.cons_append, List.nil_append]
  refine xr_istore_n (ls2 := [(1, .int (r7)), (0, .ref (62))]) dX10_product_4 (by decide) rfl ?_
  refine xr_aload_n dX10_product_5 1 rfl ?_
  refine xr_callV (As := []) (rest := []) mlX10_177 (g_X10_byteAt hbs (Eq.trans (k6 62 14 (by decide)) e_bs) (by omega) ea2 (by omega) (Eq.trans (k6 62 16 (by decide)) e_E)) dX10_product_6 s_62 rfl rfl (Nat.le_of_ble_eq_true rfl) (by omega) ⟨by decide, by decide⟩ (fun v s2 M9 J2 hq => ?_)
  obtain ⟨r9, rfl, rfl, rfl, rfl, hx8⟩ := hq
  try dsimp only [Option.toList, List.cons_append, List.nil_append]
  refine xr_istore_n (ls2 := [(2, .int (r9)), (1, .int (r7)), (0, .ref (62))]) dX10_product_9 (by decide) rfl ?_
  refine xb_ls (ls2 := [(2, .int (r9)), (1, .int (r7)), (0, .ref (62))]) [0, 1, 2] rfl ?_
  exact lp_product hs hbs e_bs haE hE e_E ho E a2 o3 r9 r7 M5 (by omega) (by omega) (by omega) (by omega) (by omega) (Ke.tr (fun _ _ h => h) Ke.rf k6) ea2 eo3 hf4 hx8
set_option maxRecDepth 100000 in
set_option maxHeartbeats 4000000 in
theorem lp_sums {u : Nat} (hs : LV fX10_product (8 * u + 4) u) {l : Launch} {G : xG} {M : xM} {J : xJ} {bs : Int32} {a E o : Nat} (hbs : bs = -1 ∨ bs = 0) (e_bs : M 62 14 = bs) (haE : a ≤ E) (hE : E ≤ 120) (e_E : M 62 16 = nI E) (ho : o + u = 6) : ∀ (m a1 o1 : Nat) (v : Int32) (M1 : xM), E < a1 + m + 1 → a ≤ a1 → a1 ≤ E → o1 ≤ 6 → o ≤ o1 → Ke WPR M M1 → M1 62 15 = nI a1 → M1 62 18 = nI o1 → (M1 62 17 < 0 → o1 = o) → x_X l G fX10_sums (8 * u + 5) 0 0 (qKI WPR M J (fun r M2 => PP_ a E o M2)) 5 [(1, .int (v)), (0, .ref (62))] [] x_SH M1 J 0 0 := by
  intro m
  induction m with
  | zero =>
    intro a1 o1 v M1 hm h1 h2 h3 h4 hM e_a1 e_o1 hof
    refine xr_aload_n dX10_sums_5 1 rfl ?_
    refine xb_get (v := M1 62 17) flX10_174 dX10_sums_6 s_62 rfl rfl ?_
    refine xr_if_ge (tgt := 77) dX10_sums_9 rfl (fun c1 => ?_) (fun c1 => ?_)
    · refine xr_iload_n dX10_sums_77 0 rfl ?_
      exact xr_iret dX10_sums_78 rfl rfl (⟨_, rfl, rfl, rfl, hM, ⟨a1, o1, by omega, by omega, by omega, by omega, e_a1, e_o1, hof⟩⟩)
    · refine xr_aload_n dX10_sums_12 1 rfl ?_
      refine xr_callV (As := []) (rest := []) mlX10_177 (g_X10_byteAt hbs (Eq.trans (hM 62 14 (by decide)) e_bs) (by omega) e_a1 (by omega) (Eq.trans (hM 62 16 (by decide)) e_E)) dX10_sums_13 s_62 rfl rfl (Nat.le_of_ble_eq_true rfl) (by omega) ⟨by decide, by decide⟩ (fun v s2 M9 J2 hq => ?_)
      obtain ⟨r3, rfl, rfl, rfl, rfl, hx2⟩ := hq
      try dsimp only [Option.toList, List.cons_append, List.nil_append]
      refine xr_bipush (v := 43) dX10_sums_16 rfl ?_
      refine xr_icmp_eq (tgt := 30) dX10_sums_18 rfl (fun c4 => ?_) (fun c4 => ?_)
      · have hff : M1 62 17 < 0 := by grind
        have hoo : o1 = o := hof hff
        have ha5 : a1 < E := Or.resolve_left hx2 (fun q => by grind)
        exact absurd hm (by omega)
      · refine xr_aload_n dX10_sums_21 1 rfl ?_
        refine xr_callV (As := []) (rest := []) mlX10_177 (g_X10_byteAt hbs (Eq.trans (hM 62 14 (by decide)) e_bs) (by omega) e_a1 (by omega) (Eq.trans (hM 62 16 (by decide)) e_E)) dX10_sums_22 s_62 rfl rfl (Nat.le_of_ble_eq_true rfl) (by omega) ⟨by decide, by decide⟩ (fun v s2 M9 J2 hq => ?_)
        obtain ⟨r6, rfl, rfl, rfl, rfl, hx5⟩ := hq
        try dsimp only [Option.toList, List.cons_append, List.nil_append]
        refine xr_bipush (v := 45) dX10_sums_25 rfl ?_
        refine xr_icmp_ne (tgt := 77) dX10_sums_27 rfl (fun c7 => ?_) (fun c7 => ?_)
        · refine xr_iload_n dX10_sums_77 0 rfl ?_
          exact xr_iret dX10_sums_78 rfl rfl (⟨_, rfl, rfl, rfl, hM, ⟨a1, o1, by omega, by omega, by omega, by omega, e_a1, e_o1, hof⟩⟩)
        · have hff : M1 62 17 < 0 := by grind
          have hoo : o1 = o := hof hff
          have ha5 : a1 < E := Or.resolve_left hx5 (fun q => by grind)
          exact absurd hm (by omega)
  | succ m ih =>
    intro a1 o1 v M1 hm h1 h2 h3 h4 hM e_a1 e_o1 hof
    refine xr_aload_n dX10_sums_5 1 rfl ?_
    refine xb_get (v := M1 62 17) flX10_174 dX10_sums_6 s_62 rfl rfl ?_
    refine xr_if_ge (tgt := 77) dX10_sums_9 rfl (fun c1 => ?_) (fun c1 => ?_)
    · refine xr_iload_n dX10_sums_77 0 rfl ?_
      exact xr_iret dX10_sums_78 rfl rfl (⟨_, rfl, rfl, rfl, hM, ⟨a1, o1, by omega, by omega, by omega, by omega, e_a1, e_o1, hof⟩⟩)
    · refine xr_aload_n dX10_sums_12 1 rfl ?_
      refine xr_callV (As := []) (rest := []) mlX10_177 (g_X10_byteAt hbs (Eq.trans (hM 62 14 (by decide)) e_bs) (by omega) e_a1 (by omega) (Eq.trans (hM 62 16 (by decide)) e_E)) dX10_sums_13 s_62 rfl rfl (Nat.le_of_ble_eq_true rfl) (by omega) ⟨by decide, by decide⟩ (fun v s2 M9 J2 hq => ?_)
      obtain ⟨r3, rfl, rfl, rfl, rfl, hx2⟩ := hq
      try dsimp only [Option.toList, List.cons_append, List.nil_append]
      refine xr_bipush (v := 43) dX10_sums_16 rfl ?_
      refine xr_icmp_eq (tgt := 30) dX10_sums_18 rfl (fun c4 => ?_) (fun c4 => ?_)
      · have hff : M1 62 17 < 0 := by grind
        have hoo : o1 = o := hof hff
        have ha5 : a1 < E := Or.resolve_left hx2 (fun q => by grind)
        refine xr_aload_n dX10_sums_30 1 rfl ?_
        refine xr_callV (As := []) (rest := []) mlX10_177 (g_X10_byteAt hbs (Eq.trans (hM 62 14 (by decide)) e_bs) (by omega) e_a1 (by omega) (Eq.trans (hM 62 16 (by decide)) e_E)) dX10_sums_31 s_62 rfl rfl (Nat.le_of_ble_eq_true rfl) (by omega) ⟨by decide, by decide⟩ (fun v s2 M9 J2 hq => ?_)
        obtain ⟨r6, rfl, rfl, rfl, rfl, hx5⟩ := hq
        try dsimp only [Option.toList, List.cons_append, List.nil_append]
        refine xr_bipush (v := 43) dX10_sums_34 rfl ?_
        refine xr_icmp_ne (tgt := 43) dX10_sums_36 rfl (fun c7 => ?_) (fun c7 => ?_)
        · refine xr_iconst (v := 0) dX10_sums_43 rfl ?_
          refine xr_istore_n (ls2 := [(2, .int (0)), (1, .int (v)), (0, .ref (62))]) dX10_sums_44 (by decide) rfl ?_
          refine xr_aload_n dX10_sums_45 2 rfl ?_
          refine xr_dup dX10_sums_46 rfl ?_
          refine xb_get (v := nI (a1)) flX10_165 dX10_sums_47 s_62 rfl e_a1 ?_
          refine xr_iconst (v := 1) dX10_sums_50 rfl ?_
          refine xr_iadd dX10_sums_51 ?_
          refine xb_top (y := nI (a1 + 1)) (nI_add (a1) (1)) ?_
          refine xr_putI fpX10_165 dX10_sums_52 s_62 rfl rfl rfl ?_
          refine xr_aload_n dX10_sums_55 2 rfl ?_
          refine xr_callV (As := []) (rest := []) mlX10_193 (hs l G (x_up M1 62 15 (nI (a1 + 1))) J bs (a1 + 1) E o1 hbs (Eq.trans (x_up_k _ _ _ (by decide)) (Eq.trans (hM 62 14 (by decide)) e_bs)) (by omega) (by omega) (x_up_s _ _ _ _) (Eq.trans (x_up_k _ _ _ (by decide)) (Eq.trans (hM 62 16 (by decide)) e_E)) (by omega) (Eq.trans (x_up_k _ _ _ (by decide)) e_o1)) dX10_sums_56 s_62 rfl rfl (Nat.le_of_ble_eq_true rfl) (by omega) ⟨by decide, by decide⟩ (fun v s2 M12 J2 hq => ?_)
          obtain ⟨r14, rfl, rfl, rfl, k13, ⟨a9, o10, a9a, a9b, o10d, o10c, ea9, eo10, hf11⟩⟩ := hq
          try dsimp only [Option.toList, List.cons_append, List.nil_append]
          refine xr_istore_n (ls2 := [(3, .int (r14)), (2, .int (0)), (1, .int (v)), (0, .ref (62))]) dX10_sums_59 (by decide) rfl ?_
          refine xr_iload_n dX10_sums_60 1 rfl ?_
          refine xr_if_eq (tgt := 70) dX10_sums_61 rfl (fun _ => ?_) (fun c => absurd (by decide) c)
          refine xr_iload_n dX10_sums_70 2 rfl ?_
          refine xr_iload_n dX10_sums_71 0 rfl ?_
          refine xr_isub dX10_sums_72 ?_
          refine xr_istore_n (ls2 := [(1, .int ((v - r14))), (3, .int (r14)), (2, .int (0)), (0, .ref (62))]) dX10_sums_73 (by decide) rfl ?_
          refine xr_goto (tgt := 5) dX10_sums_74 rfl ?_
          refine xb_ls (ls2 := [(1, .int ((v - r14))), (0, .ref (62))]) [0, 3] rfl ?_
          exact ih a9 o10 (v - r14) M12 (by omega) (by omega) (by omega) (by omega) (by omega) (Ke.tr (fun _ _ h => h) (Ke.up (Or.inl (by omega)) hM) k13) ea9 eo10 (fun q => (hf11 q).trans hoo)
        · refine xr_iconst (v := 1) dX10_sums_39 rfl ?_
          refine xr_goto (tgt := 44) dX10_sums_40 rfl ?_
          refine xr_istore_n (ls2 := [(2, .int (1)), (1, .int (v)), (0, .ref (62))]) dX10_sums_44 (by decide) rfl ?_
          refine xr_aload_n dX10_sums_45 2 rfl ?_
          refine xr_dup dX10_sums_46 rfl ?_
          refine xb_get (v := nI (a1)) flX10_165 dX10_sums_47 s_62 rfl e_a1 ?_
          refine xr_iconst (v := 1) dX10_sums_50 rfl ?_
          refine xr_iadd dX10_sums_51 ?_
          refine xb_top (y := nI (a1 + 1)) (nI_add (a1) (1)) ?_
          refine xr_putI fpX10_165 dX10_sums_52 s_62 rfl rfl rfl ?_
          refine xr_aload_n dX10_sums_55 2 rfl ?_
          refine xr_callV (As := []) (rest := []) mlX10_193 (hs l G (x_up M1 62 15 (nI (a1 + 1))) J bs (a1 + 1) E o1 hbs (Eq.trans (x_up_k _ _ _ (by decide)) (Eq.trans (hM 62 14 (by decide)) e_bs)) (by omega) (by omega) (x_up_s _ _ _ _) (Eq.trans (x_up_k _ _ _ (by decide)) (Eq.trans (hM 62 16 (by decide)) e_E)) (by omega) (Eq.trans (x_up_k _ _ _ (by decide)) e_o1)) dX10_sums_56 s_62 rfl rfl (Nat.le_of_ble_eq_true rfl) (by omega) ⟨by decide, by decide⟩ (fun v s2 M19 J2 hq => ?_)
          obtain ⟨r21, rfl, rfl, rfl, k20, ⟨a16, o17, a16a, a16b, o17d, o17c, ea16, eo17, hf18⟩⟩ := hq
          try dsimp only [Option.toList, List.cons_append, List.nil_append]
          refine xr_istore_n (ls2 := [(3, .int (r21)), (2, .int (1)), (1, .int (v)), (0, .ref (62))]) dX10_sums_59 (by decide) rfl ?_
          refine xr_iload_n dX10_sums_60 1 rfl ?_
          refine xr_if_eq (tgt := 70) dX10_sums_61 rfl (fun c => absurd c (by decide)) (fun _ => ?_)
          refine xr_iload_n dX10_sums_64 2 rfl ?_
          refine xr_iload_n dX10_sums_65 0 rfl ?_
          refine xr_iadd dX10_sums_66 ?_
          refine xr_goto (tgt := 73) dX10_sums_67 rfl ?_
          refine xr_istore_n (ls2 := [(1, .int ((v + r21))), (3, .int (r21)), (2, .int (1)), (0, .ref (62))]) dX10_sums_73 (by decide) rfl ?_
          refine xr_goto (tgt := 5) dX10_sums_74 rfl ?_
          refine xb_ls (ls2 := [(1, .int ((v + r21))), (0, .ref (62))]) [0, 3] rfl ?_
          exact ih a16 o17 (v + r21) M19 (by omega) (by omega) (by omega) (by omega) (by omega) (Ke.tr (fun _ _ h => h) (Ke.up (Or.inl (by omega)) hM) k20) ea16 eo17 (fun q => (hf18 q).trans hoo)
      · refine xr_aload_n dX10_sums_21 1 rfl ?_
        refine xr_callV (As := []) (rest := []) mlX10_177 (g_X10_byteAt hbs (Eq.trans (hM 62 14 (by decide)) e_bs) (by omega) e_a1 (by omega) (Eq.trans (hM 62 16 (by decide)) e_E)) dX10_sums_22 s_62 rfl rfl (Nat.le_of_ble_eq_true rfl) (by omega) ⟨by decide, by decide⟩ (fun v s2 M9 J2 hq => ?_)
        obtain ⟨r23, rfl, rfl, rfl, rfl, hx22⟩ := hq
        try dsimp only [Option.toList, List.cons_append, List.nil_append]
        refine xr_bipush (v := 45) dX10_sums_25 rfl ?_
        refine xr_icmp_ne (tgt := 77) dX10_sums_27 rfl (fun c24 => ?_) (fun c24 => ?_)
        · refine xr_iload_n dX10_sums_77 0 rfl ?_
          exact xr_iret dX10_sums_78 rfl rfl (⟨_, rfl, rfl, rfl, hM, ⟨a1, o1, by omega, by omega, by omega, by omega, e_a1, e_o1, hof⟩⟩)
        · have hff : M1 62 17 < 0 := by grind
          have hoo : o1 = o := hof hff
          have ha5 : a1 < E := Or.resolve_left hx22 (fun q => by grind)
          refine xr_aload_n dX10_sums_30 1 rfl ?_
          refine xr_callV (As := []) (rest := []) mlX10_177 (g_X10_byteAt hbs (Eq.trans (hM 62 14 (by decide)) e_bs) (by omega) e_a1 (by omega) (Eq.trans (hM 62 16 (by decide)) e_E)) dX10_sums_31 s_62 rfl rfl (Nat.le_of_ble_eq_true rfl) (by omega) ⟨by decide, by decide⟩ (fun v s2 M9 J2 hq => ?_)
          obtain ⟨r26, rfl, rfl, rfl, rfl, hx25⟩ := hq
          try dsimp only [Option.toList, List.cons_append, List.nil_append]
          refine xr_bipush (v := 43) dX10_sums_34 rfl ?_
          refine xr_icmp_ne (tgt := 43) dX10_sums_36 rfl (fun c27 => ?_) (fun c27 => ?_)
          · refine xr_iconst (v := 0) dX10_sums_43 rfl ?_
            refine xr_istore_n (ls2 := [(2, .int (0)), (1, .int (v)), (0, .ref (62))]) dX10_sums_44 (by decide) rfl ?_
            refine xr_aload_n dX10_sums_45 2 rfl ?_
            refine xr_dup dX10_sums_46 rfl ?_
            refine xb_get (v := nI (a1)) flX10_165 dX10_sums_47 s_62 rfl e_a1 ?_
            refine xr_iconst (v := 1) dX10_sums_50 rfl ?_
            refine xr_iadd dX10_sums_51 ?_
            refine xb_top (y := nI (a1 + 1)) (nI_add (a1) (1)) ?_
            refine xr_putI fpX10_165 dX10_sums_52 s_62 rfl rfl rfl ?_
            refine xr_aload_n dX10_sums_55 2 rfl ?_
            refine xr_callV (As := []) (rest := []) mlX10_193 (hs l G (x_up M1 62 15 (nI (a1 + 1))) J bs (a1 + 1) E o1 hbs (Eq.trans (x_up_k _ _ _ (by decide)) (Eq.trans (hM 62 14 (by decide)) e_bs)) (by omega) (by omega) (x_up_s _ _ _ _) (Eq.trans (x_up_k _ _ _ (by decide)) (Eq.trans (hM 62 16 (by decide)) e_E)) (by omega) (Eq.trans (x_up_k _ _ _ (by decide)) e_o1)) dX10_sums_56 s_62 rfl rfl (Nat.le_of_ble_eq_true rfl) (by omega) ⟨by decide, by decide⟩ (fun v s2 M32 J2 hq => ?_)
            obtain ⟨r34, rfl, rfl, rfl, k33, ⟨a29, o30, a29a, a29b, o30d, o30c, ea29, eo30, hf31⟩⟩ := hq
            try dsimp only [Option.toList, List.cons_append, List.nil_append]
            refine xr_istore_n (ls2 := [(3, .int (r34)), (2, .int (0)), (1, .int (v)), (0, .ref (62))]) dX10_sums_59 (by decide) rfl ?_
            refine xr_iload_n dX10_sums_60 1 rfl ?_
            refine xr_if_eq (tgt := 70) dX10_sums_61 rfl (fun _ => ?_) (fun c => absurd (by decide) c)
            refine xr_iload_n dX10_sums_70 2 rfl ?_
            refine xr_iload_n dX10_sums_71 0 rfl ?_
            refine xr_isub dX10_sums_72 ?_
            refine xr_istore_n (ls2 := [(1, .int ((v - r34))), (3, .int (r34)), (2, .int (0)), (0, .ref (62))]) dX10_sums_73 (by decide) rfl ?_
            refine xr_goto (tgt := 5) dX10_sums_74 rfl ?_
            refine xb_ls (ls2 := [(1, .int ((v - r34))), (0, .ref (62))]) [0, 3] rfl ?_
            exact ih a29 o30 (v - r34) M32 (by omega) (by omega) (by omega) (by omega) (by omega) (Ke.tr (fun _ _ h => h) (Ke.up (Or.inl (by omega)) hM) k33) ea29 eo30 (fun q => (hf31 q).trans hoo)
          · refine xr_iconst (v := 1) dX10_sums_39 rfl ?_
            refine xr_goto (tgt := 44) dX10_sums_40 rfl ?_
            refine xr_istore_n (ls2 := [(2, .int (1)), (1, .int (v)), (0, .ref (62))]) dX10_sums_44 (by decide) rfl ?_
            refine xr_aload_n dX10_sums_45 2 rfl ?_
            refine xr_dup dX10_sums_46 rfl ?_
            refine xb_get (v := nI (a1)) flX10_165 dX10_sums_47 s_62 rfl e_a1 ?_
            refine xr_iconst (v := 1) dX10_sums_50 rfl ?_
            refine xr_iadd dX10_sums_51 ?_
            refine xb_top (y := nI (a1 + 1)) (nI_add (a1) (1)) ?_
            refine xr_putI fpX10_165 dX10_sums_52 s_62 rfl rfl rfl ?_
            refine xr_aload_n dX10_sums_55 2 rfl ?_
            refine xr_callV (As := []) (rest := []) mlX10_193 (hs l G (x_up M1 62 15 (nI (a1 + 1))) J bs (a1 + 1) E o1 hbs (Eq.trans (x_up_k _ _ _ (by decide)) (Eq.trans (hM 62 14 (by decide)) e_bs)) (by omega) (by omega) (x_up_s _ _ _ _) (Eq.trans (x_up_k _ _ _ (by decide)) (Eq.trans (hM 62 16 (by decide)) e_E)) (by omega) (Eq.trans (x_up_k _ _ _ (by decide)) e_o1)) dX10_sums_56 s_62 rfl rfl (Nat.le_of_ble_eq_true rfl) (by omega) ⟨by decide, by decide⟩ (fun v s2 M39 J2 hq => ?_)
            obtain ⟨r41, rfl, rfl, rfl, k40, ⟨a36, o37, a36a, a36b, o37d, o37c, ea36, eo37, hf38⟩⟩ := hq
            try dsimp only [Option.toList, List.cons_append, List.nil_append]
            refine xr_istore_n (ls2 := [(3, .int (r41)), (2, .int (1)), (1, .int (v)), (0, .ref (62))]) dX10_sums_59 (by decide) rfl ?_
            refine xr_iload_n dX10_sums_60 1 rfl ?_
            refine xr_if_eq (tgt := 70) dX10_sums_61 rfl (fun c => absurd c (by decide)) (fun _ => ?_)
            refine xr_iload_n dX10_sums_64 2 rfl ?_
            refine xr_iload_n dX10_sums_65 0 rfl ?_
            refine xr_iadd dX10_sums_66 ?_
            refine xr_goto (tgt := 73) dX10_sums_67 rfl ?_
            refine xr_istore_n (ls2 := [(1, .int ((v + r41))), (3, .int (r41)), (2, .int (1)), (0, .ref (62))]) dX10_sums_73 (by decide) rfl ?_
            refine xr_goto (tgt := 5) dX10_sums_74 rfl ?_
            refine xb_ls (ls2 := [(1, .int ((v + r41))), (0, .ref (62))]) [0, 3] rfl ?_
            exact ih a36 o37 (v + r41) M39 (by omega) (by omega) (by omega) (by omega) (by omega) (Ke.tr (fun _ _ h => h) (Ke.up (Or.inl (by omega)) hM) k40) ea36 eo37 (fun q => (hf38 q).trans hoo)
set_option maxRecDepth 100000 in
set_option maxHeartbeats 4000000 in
theorem lv_sums {u : Nat} (hs : LV fX10_product (8 * u + 4) u) : LV fX10_sums (8 * u + 5) u := by
  intro l G M J bs a E o hbs e_bs haE hE e_a e_E ho e_o
  refine xb_of pX10 (Nat.le_of_ble_eq_true rfl) rfl ?_
  refine xr_aload_n dX10_sums_0 0 rfl ?_
  refine xr_callV (As := []) (rest := []) mlX10_193 (hs l G M J bs a E o hbs e_bs (by omega) (by omega) e_a e_E (by omega) e_o) dX10_sums_1 s_62 rfl rfl (Nat.le_of_ble_eq_true rfl) (by omega) ⟨by decide, by decide⟩ (fun v s2 M5 J2 hq => ?_)
  obtain ⟨r7, rfl, rfl, rfl, k6, ⟨a2, o3, a2a, a2b, o3d, o3c, ea2, eo3, hf4⟩⟩ := hq
  try dsimp only [Option.toList, List.cons_append, List.nil_append]
  refine xr_istore_n (ls2 := [(1, .int (r7)), (0, .ref (62))]) dX10_sums_4 (by decide) rfl ?_
  refine xb_ls (ls2 := [(1, .int (r7)), (0, .ref (62))]) [0, 1] rfl ?_
  exact lp_sums hs hbs e_bs haE hE e_E ho E a2 o3 r7 M5 (by omega) (by omega) (by omega) (by omega) (by omega) (Ke.tr (fun _ _ h => h) Ke.rf k6) ea2 eo3 hf4
set_option maxRecDepth 100000 in
set_option maxHeartbeats 4000000 in
theorem lv_compared {u : Nat} (hs : LV fX10_sums (8 * u + 5) u) : LV fX10_compared (8 * u + 6) u := by
  intro l G M J bs a E o hbs e_bs haE hE e_a e_E ho e_o
  refine xb_of pX10 (Nat.le_of_ble_eq_true rfl) rfl ?_
  refine xr_aload_n dX10_compared_0 0 rfl ?_
  refine xr_callV (As := []) (rest := []) mlX10_190 (hs l G M J bs a E o hbs e_bs (by omega) (by omega) e_a e_E (by omega) e_o) dX10_compared_1 s_62 rfl rfl (Nat.le_of_ble_eq_true rfl) (by omega) ⟨by decide, by decide⟩ (fun v s2 M5 J2 hq => ?_)
  obtain ⟨r7, rfl, rfl, rfl, k6, ⟨a2, o3, a2a, a2b, o3d, o3c, ea2, eo3, hf4⟩⟩ := hq
  try dsimp only [Option.toList, List.cons_append, List.nil_append]
  refine xr_istore_n (ls2 := [(1, .int (r7)), (0, .ref (62))]) dX10_compared_4 (by decide) rfl ?_
  refine xr_aload_n dX10_compared_5 1 rfl ?_
  refine xr_callV (As := []) (rest := []) mlX10_177 (g_X10_byteAt hbs (Eq.trans (k6 62 14 (by decide)) e_bs) (by omega) ea2 (by omega) (Eq.trans (k6 62 16 (by decide)) e_E)) dX10_compared_6 s_62 rfl rfl (Nat.le_of_ble_eq_true rfl) (by omega) ⟨by decide, by decide⟩ (fun v s2 M9 J2 hq => ?_)
  obtain ⟨r9, rfl, rfl, rfl, rfl, hx8⟩ := hq
  try dsimp only [Option.toList, List.cons_append, List.nil_append]
  refine xr_istore_n (ls2 := [(2, .int (r9)), (1, .int (r7)), (0, .ref (62))]) dX10_compared_9 (by decide) rfl ?_
  refine xr_aload_n dX10_compared_10 2 rfl ?_
  refine xb_get (v := M5 62 17) flX10_174 dX10_compared_11 s_62 rfl rfl ?_
  refine xr_if_ge (tgt := 35) dX10_compared_14 rfl (fun c10 => ?_) (fun c10 => ?_)
  · refine xr_iload_n dX10_compared_35 1 rfl ?_
    exact xr_iret dX10_compared_36 rfl rfl (⟨_, rfl, rfl, rfl, (Ke.tr (fun _ _ h => h) Ke.rf k6), ⟨a2, o3, by omega, by omega, by omega, by omega, ea2, eo3, hf4⟩⟩)
  · refine xr_iload_n dX10_compared_17 0 rfl ?_
    refine xr_bipush (v := 60) dX10_compared_18 rfl ?_
    refine xr_icmp_eq (tgt := 37) dX10_compared_20 rfl (fun c11 => ?_) (fun c11 => ?_)
    · have hoo_o3 : o3 = o := hf4 (by grind)
      have haE3 := Or.resolve_left hx8 (fun q => by grind)
      refine xr_aload_n dX10_compared_37 2 rfl ?_
      refine xr_dup dX10_compared_38 rfl ?_
      refine xb_get (v := nI (a2)) flX10_165 dX10_compared_39 s_62 rfl ea2 ?_
      refine xr_iconst (v := 1) dX10_compared_42 rfl ?_
      refine xr_iadd dX10_compared_43 ?_
      refine xb_top (y := nI (a2 + 1)) (nI_add (a2) (1)) ?_
      refine xr_putI fpX10_165 dX10_compared_44 s_62 rfl rfl rfl ?_
      refine xr_aload_n dX10_compared_47 2 rfl ?_
      refine xr_callV (As := []) (rest := []) mlX10_190 (hs l G (x_up M5 62 15 (nI (a2 + 1))) J bs (a2 + 1) E o3 hbs (Eq.trans (x_up_k _ _ _ (by decide)) (Eq.trans (k6 62 14 (by decide)) e_bs)) (by omega) (by omega) (x_up_s _ _ _ _) (Eq.trans (x_up_k _ _ _ (by decide)) (Eq.trans (k6 62 16 (by decide)) e_E)) (by omega) (Eq.trans (x_up_k _ _ _ (by decide)) eo3)) dX10_compared_48 s_62 rfl rfl (Nat.le_of_ble_eq_true rfl) (by omega) ⟨by decide, by decide⟩ (fun v s2 M16 J2 hq => ?_)
      obtain ⟨r18, rfl, rfl, rfl, k17, ⟨a13, o14, a13a, a13b, o14d, o14c, ea13, eo14, hf15⟩⟩ := hq
      try dsimp only [Option.toList, List.cons_append, List.nil_append]
      refine xr_istore_n (ls2 := [(3, .int (r18)), (2, .int (r9)), (1, .int (r7)), (0, .ref (62))]) dX10_compared_51 (by decide) rfl ?_
      refine xr_iload_n dX10_compared_52 1 rfl ?_
      refine xr_bipush (v := 60) dX10_compared_53 rfl ?_
      refine xr_icmp_ne (tgt := 66) dX10_compared_55 rfl (fun c19 => ?_) (fun c19 => ?_)
      · refine xr_iload_n dX10_compared_66 1 rfl ?_
        refine xr_bipush (v := 61) dX10_compared_67 rfl ?_
        refine xr_icmp_ne (tgt := 80) dX10_compared_69 rfl (fun c20 => ?_) (fun c20 => ?_)
        · refine xr_iload_n dX10_compared_80 2 rfl ?_
          refine xr_iload_n dX10_compared_81 0 rfl ?_
          refine xr_icmp_le (tgt := 89) dX10_compared_82 rfl (fun c21 => ?_) (fun c21 => ?_)
          · refine xr_iconst (v := 0) dX10_compared_89 rfl ?_
            exact xr_iret dX10_compared_90 rfl rfl (⟨_, rfl, rfl, rfl, (Ke.tr (fun _ _ h => h) (Ke.up (Or.inl (by omega)) (Ke.tr (fun _ _ h => h) Ke.rf k6)) k17), ⟨a13, o14, by omega, by omega, by omega, by omega, ea13, eo14, (fun q => (hf15 q).trans hoo_o3)⟩⟩)
          · refine xr_iconst (v := 1) dX10_compared_85 rfl ?_
            refine xr_goto (tgt := 90) dX10_compared_86 rfl ?_
            exact xr_iret dX10_compared_90 rfl rfl (⟨_, rfl, rfl, rfl, (Ke.tr (fun _ _ h => h) (Ke.up (Or.inl (by omega)) (Ke.tr (fun _ _ h => h) Ke.rf k6)) k17), ⟨a13, o14, by omega, by omega, by omega, by omega, ea13, eo14, (fun q => (hf15 q).trans hoo_o3)⟩⟩)
        · refine xr_iload_n dX10_compared_72 2 rfl ?_
          refine xr_iload_n dX10_compared_73 0 rfl ?_
          refine xr_icmp_ne (tgt := 89) dX10_compared_74 rfl (fun c22 => ?_) (fun c22 => ?_)
          · refine xr_iconst (v := 0) dX10_compared_89 rfl ?_
            exact xr_iret dX10_compared_90 rfl rfl (⟨_, rfl, rfl, rfl, (Ke.tr (fun _ _ h => h) (Ke.up (Or.inl (by omega)) (Ke.tr (fun _ _ h => h) Ke.rf k6)) k17), ⟨a13, o14, by omega, by omega, by omega, by omega, ea13, eo14, (fun q => (hf15 q).trans hoo_o3)⟩⟩)
          · refine xr_goto (tgt := 85) dX10_compared_77 rfl ?_
            refine xr_iconst (v := 1) dX10_compared_85 rfl ?_
            refine xr_goto (tgt := 90) dX10_compared_86 rfl ?_
            exact xr_iret dX10_compared_90 rfl rfl (⟨_, rfl, rfl, rfl, (Ke.tr (fun _ _ h => h) (Ke.up (Or.inl (by omega)) (Ke.tr (fun _ _ h => h) Ke.rf k6)) k17), ⟨a13, o14, by omega, by omega, by omega, by omega, ea13, eo14, (fun q => (hf15 q).trans hoo_o3)⟩⟩)
      · refine xr_iload_n dX10_compared_58 2 rfl ?_
        refine xr_iload_n dX10_compared_59 0 rfl ?_
        refine xr_icmp_ge (tgt := 89) dX10_compared_60 rfl (fun c23 => ?_) (fun c23 => ?_)
        · refine xr_iconst (v := 0) dX10_compared_89 rfl ?_
          exact xr_iret dX10_compared_90 rfl rfl (⟨_, rfl, rfl, rfl, (Ke.tr (fun _ _ h => h) (Ke.up (Or.inl (by omega)) (Ke.tr (fun _ _ h => h) Ke.rf k6)) k17), ⟨a13, o14, by omega, by omega, by omega, by omega, ea13, eo14, (fun q => (hf15 q).trans hoo_o3)⟩⟩)
        · refine xr_goto (tgt := 85) dX10_compared_63 rfl ?_
          refine xr_iconst (v := 1) dX10_compared_85 rfl ?_
          refine xr_goto (tgt := 90) dX10_compared_86 rfl ?_
          exact xr_iret dX10_compared_90 rfl rfl (⟨_, rfl, rfl, rfl, (Ke.tr (fun _ _ h => h) (Ke.up (Or.inl (by omega)) (Ke.tr (fun _ _ h => h) Ke.rf k6)) k17), ⟨a13, o14, by omega, by omega, by omega, by omega, ea13, eo14, (fun q => (hf15 q).trans hoo_o3)⟩⟩)
    · refine xr_iload_n dX10_compared_23 0 rfl ?_
      refine xr_bipush (v := 61) dX10_compared_24 rfl ?_
      refine xr_icmp_eq (tgt := 37) dX10_compared_26 rfl (fun c24 => ?_) (fun c24 => ?_)
      · have hoo_o3 : o3 = o := hf4 (by grind)
        have haE3 := Or.resolve_left hx8 (fun q => by grind)
        refine xr_aload_n dX10_compared_37 2 rfl ?_
        refine xr_dup dX10_compared_38 rfl ?_
        refine xb_get (v := nI (a2)) flX10_165 dX10_compared_39 s_62 rfl ea2 ?_
        refine xr_iconst (v := 1) dX10_compared_42 rfl ?_
        refine xr_iadd dX10_compared_43 ?_
        refine xb_top (y := nI (a2 + 1)) (nI_add (a2) (1)) ?_
        refine xr_putI fpX10_165 dX10_compared_44 s_62 rfl rfl rfl ?_
        refine xr_aload_n dX10_compared_47 2 rfl ?_
        refine xr_callV (As := []) (rest := []) mlX10_190 (hs l G (x_up M5 62 15 (nI (a2 + 1))) J bs (a2 + 1) E o3 hbs (Eq.trans (x_up_k _ _ _ (by decide)) (Eq.trans (k6 62 14 (by decide)) e_bs)) (by omega) (by omega) (x_up_s _ _ _ _) (Eq.trans (x_up_k _ _ _ (by decide)) (Eq.trans (k6 62 16 (by decide)) e_E)) (by omega) (Eq.trans (x_up_k _ _ _ (by decide)) eo3)) dX10_compared_48 s_62 rfl rfl (Nat.le_of_ble_eq_true rfl) (by omega) ⟨by decide, by decide⟩ (fun v s2 M29 J2 hq => ?_)
        obtain ⟨r31, rfl, rfl, rfl, k30, ⟨a26, o27, a26a, a26b, o27d, o27c, ea26, eo27, hf28⟩⟩ := hq
        try dsimp only [Option.toList, List.cons_append, List.nil_append]
        refine xr_istore_n (ls2 := [(3, .int (r31)), (2, .int (r9)), (1, .int (r7)), (0, .ref (62))]) dX10_compared_51 (by decide) rfl ?_
        refine xr_iload_n dX10_compared_52 1 rfl ?_
        refine xr_bipush (v := 60) dX10_compared_53 rfl ?_
        refine xr_icmp_ne (tgt := 66) dX10_compared_55 rfl (fun c32 => ?_) (fun c32 => ?_)
        · refine xr_iload_n dX10_compared_66 1 rfl ?_
          refine xr_bipush (v := 61) dX10_compared_67 rfl ?_
          refine xr_icmp_ne (tgt := 80) dX10_compared_69 rfl (fun c33 => ?_) (fun c33 => ?_)
          · refine xr_iload_n dX10_compared_80 2 rfl ?_
            refine xr_iload_n dX10_compared_81 0 rfl ?_
            refine xr_icmp_le (tgt := 89) dX10_compared_82 rfl (fun c34 => ?_) (fun c34 => ?_)
            · refine xr_iconst (v := 0) dX10_compared_89 rfl ?_
              exact xr_iret dX10_compared_90 rfl rfl (⟨_, rfl, rfl, rfl, (Ke.tr (fun _ _ h => h) (Ke.up (Or.inl (by omega)) (Ke.tr (fun _ _ h => h) Ke.rf k6)) k30), ⟨a26, o27, by omega, by omega, by omega, by omega, ea26, eo27, (fun q => (hf28 q).trans hoo_o3)⟩⟩)
            · refine xr_iconst (v := 1) dX10_compared_85 rfl ?_
              refine xr_goto (tgt := 90) dX10_compared_86 rfl ?_
              exact xr_iret dX10_compared_90 rfl rfl (⟨_, rfl, rfl, rfl, (Ke.tr (fun _ _ h => h) (Ke.up (Or.inl (by omega)) (Ke.tr (fun _ _ h => h) Ke.rf k6)) k30), ⟨a26, o27, by omega, by omega, by omega, by omega, ea26, eo27, (fun q => (hf28 q).trans hoo_o3)⟩⟩)
          · refine xr_iload_n dX10_compared_72 2 rfl ?_
            refine xr_iload_n dX10_compared_73 0 rfl ?_
            refine xr_icmp_ne (tgt := 89) dX10_compared_74 rfl (fun c35 => ?_) (fun c35 => ?_)
            · refine xr_iconst (v := 0) dX10_compared_89 rfl ?_
              exact xr_iret dX10_compared_90 rfl rfl (⟨_, rfl, rfl, rfl, (Ke.tr (fun _ _ h => h) (Ke.up (Or.inl (by omega)) (Ke.tr (fun _ _ h => h) Ke.rf k6)) k30), ⟨a26, o27, by omega, by omega, by omega, by omega, ea26, eo27, (fun q => (hf28 q).trans hoo_o3)⟩⟩)
            · refine xr_goto (tgt := 85) dX10_compared_77 rfl ?_
              refine xr_iconst (v := 1) dX10_compared_85 rfl ?_
              refine xr_goto (tgt := 90) dX10_compared_86 rfl ?_
              exact xr_iret dX10_compared_90 rfl rfl (⟨_, rfl, rfl, rfl, (Ke.tr (fun _ _ h => h) (Ke.up (Or.inl (by omega)) (Ke.tr (fun _ _ h => h) Ke.rf k6)) k30), ⟨a26, o27, by omega, by omega, by omega, by omega, ea26, eo27, (fun q => (hf28 q).trans hoo_o3)⟩⟩)
        · refine xr_iload_n dX10_compared_58 2 rfl ?_
          refine xr_iload_n dX10_compared_59 0 rfl ?_
          refine xr_icmp_ge (tgt := 89) dX10_compared_60 rfl (fun c36 => ?_) (fun c36 => ?_)
          · refine xr_iconst (v := 0) dX10_compared_89 rfl ?_
            exact xr_iret dX10_compared_90 rfl rfl (⟨_, rfl, rfl, rfl, (Ke.tr (fun _ _ h => h) (Ke.up (Or.inl (by omega)) (Ke.tr (fun _ _ h => h) Ke.rf k6)) k30), ⟨a26, o27, by omega, by omega, by omega, by omega, ea26, eo27, (fun q => (hf28 q).trans hoo_o3)⟩⟩)
          · refine xr_goto (tgt := 85) dX10_compared_63 rfl ?_
            refine xr_iconst (v := 1) dX10_compared_85 rfl ?_
            refine xr_goto (tgt := 90) dX10_compared_86 rfl ?_
            exact xr_iret dX10_compared_90 rfl rfl (⟨_, rfl, rfl, rfl, (Ke.tr (fun _ _ h => h) (Ke.up (Or.inl (by omega)) (Ke.tr (fun _ _ h => h) Ke.rf k6)) k30), ⟨a26, o27, by omega, by omega, by omega, by omega, ea26, eo27, (fun q => (hf28 q).trans hoo_o3)⟩⟩)
      · refine xr_iload_n dX10_compared_29 0 rfl ?_
        refine xr_bipush (v := 62) dX10_compared_30 rfl ?_
        refine xr_icmp_eq (tgt := 37) dX10_compared_32 rfl (fun c37 => ?_) (fun c37 => ?_)
        · have hoo_o3 : o3 = o := hf4 (by grind)
          have haE3 := Or.resolve_left hx8 (fun q => by grind)
          refine xr_aload_n dX10_compared_37 2 rfl ?_
          refine xr_dup dX10_compared_38 rfl ?_
          refine xb_get (v := nI (a2)) flX10_165 dX10_compared_39 s_62 rfl ea2 ?_
          refine xr_iconst (v := 1) dX10_compared_42 rfl ?_
          refine xr_iadd dX10_compared_43 ?_
          refine xb_top (y := nI (a2 + 1)) (nI_add (a2) (1)) ?_
          refine xr_putI fpX10_165 dX10_compared_44 s_62 rfl rfl rfl ?_
          refine xr_aload_n dX10_compared_47 2 rfl ?_
          refine xr_callV (As := []) (rest := []) mlX10_190 (hs l G (x_up M5 62 15 (nI (a2 + 1))) J bs (a2 + 1) E o3 hbs (Eq.trans (x_up_k _ _ _ (by decide)) (Eq.trans (k6 62 14 (by decide)) e_bs)) (by omega) (by omega) (x_up_s _ _ _ _) (Eq.trans (x_up_k _ _ _ (by decide)) (Eq.trans (k6 62 16 (by decide)) e_E)) (by omega) (Eq.trans (x_up_k _ _ _ (by decide)) eo3)) dX10_compared_48 s_62 rfl rfl (Nat.le_of_ble_eq_true rfl) (by omega) ⟨by decide, by decide⟩ (fun v s2 M42 J2 hq => ?_)
          obtain ⟨r44, rfl, rfl, rfl, k43, ⟨a39, o40, a39a, a39b, o40d, o40c, ea39, eo40, hf41⟩⟩ := hq
          try dsimp only [Option.toList, List.cons_append, List.nil_append]
          refine xr_istore_n (ls2 := [(3, .int (r44)), (2, .int (r9)), (1, .int (r7)), (0, .ref (62))]) dX10_compared_51 (by decide) rfl ?_
          refine xr_iload_n dX10_compared_52 1 rfl ?_
          refine xr_bipush (v := 60) dX10_compared_53 rfl ?_
          refine xr_icmp_ne (tgt := 66) dX10_compared_55 rfl (fun c45 => ?_) (fun c45 => ?_)
          · refine xr_iload_n dX10_compared_66 1 rfl ?_
            refine xr_bipush (v := 61) dX10_compared_67 rfl ?_
            refine xr_icmp_ne (tgt := 80) dX10_compared_69 rfl (fun c46 => ?_) (fun c46 => ?_)
            · refine xr_iload_n dX10_compared_80 2 rfl ?_
              refine xr_iload_n dX10_compared_81 0 rfl ?_
              refine xr_icmp_le (tgt := 89) dX10_compared_82 rfl (fun c47 => ?_) (fun c47 => ?_)
              · refine xr_iconst (v := 0) dX10_compared_89 rfl ?_
                exact xr_iret dX10_compared_90 rfl rfl (⟨_, rfl, rfl, rfl, (Ke.tr (fun _ _ h => h) (Ke.up (Or.inl (by omega)) (Ke.tr (fun _ _ h => h) Ke.rf k6)) k43), ⟨a39, o40, by omega, by omega, by omega, by omega, ea39, eo40, (fun q => (hf41 q).trans hoo_o3)⟩⟩)
              · refine xr_iconst (v := 1) dX10_compared_85 rfl ?_
                refine xr_goto (tgt := 90) dX10_compared_86 rfl ?_
                exact xr_iret dX10_compared_90 rfl rfl (⟨_, rfl, rfl, rfl, (Ke.tr (fun _ _ h => h) (Ke.up (Or.inl (by omega)) (Ke.tr (fun _ _ h => h) Ke.rf k6)) k43), ⟨a39, o40, by omega, by omega, by omega, by omega, ea39, eo40, (fun q => (hf41 q).trans hoo_o3)⟩⟩)
            · refine xr_iload_n dX10_compared_72 2 rfl ?_
              refine xr_iload_n dX10_compared_73 0 rfl ?_
              refine xr_icmp_ne (tgt := 89) dX10_compared_74 rfl (fun c48 => ?_) (fun c48 => ?_)
              · refine xr_iconst (v := 0) dX10_compared_89 rfl ?_
                exact xr_iret dX10_compared_90 rfl rfl (⟨_, rfl, rfl, rfl, (Ke.tr (fun _ _ h => h) (Ke.up (Or.inl (by omega)) (Ke.tr (fun _ _ h => h) Ke.rf k6)) k43), ⟨a39, o40, by omega, by omega, by omega, by omega, ea39, eo40, (fun q => (hf41 q).trans hoo_o3)⟩⟩)
              · refine xr_goto (tgt := 85) dX10_compared_77 rfl ?_
                refine xr_iconst (v := 1) dX10_compared_85 rfl ?_
                refine xr_goto (tgt := 90) dX10_compared_86 rfl ?_
                exact xr_iret dX10_compared_90 rfl rfl (⟨_, rfl, rfl, rfl, (Ke.tr (fun _ _ h => h) (Ke.up (Or.inl (by omega)) (Ke.tr (fun _ _ h => h) Ke.rf k6)) k43), ⟨a39, o40, by omega, by omega, by omega, by omega, ea39, eo40, (fun q => (hf41 q).trans hoo_o3)⟩⟩)
          · refine xr_iload_n dX10_compared_58 2 rfl ?_
            refine xr_iload_n dX10_compared_59 0 rfl ?_
            refine xr_icmp_ge (tgt := 89) dX10_compared_60 rfl (fun c49 => ?_) (fun c49 => ?_)
            · refine xr_iconst (v := 0) dX10_compared_89 rfl ?_
              exact xr_iret dX10_compared_90 rfl rfl (⟨_, rfl, rfl, rfl, (Ke.tr (fun _ _ h => h) (Ke.up (Or.inl (by omega)) (Ke.tr (fun _ _ h => h) Ke.rf k6)) k43), ⟨a39, o40, by omega, by omega, by omega, by omega, ea39, eo40, (fun q => (hf41 q).trans hoo_o3)⟩⟩)
            · refine xr_goto (tgt := 85) dX10_compared_63 rfl ?_
              refine xr_iconst (v := 1) dX10_compared_85 rfl ?_
              refine xr_goto (tgt := 90) dX10_compared_86 rfl ?_
              exact xr_iret dX10_compared_90 rfl rfl (⟨_, rfl, rfl, rfl, (Ke.tr (fun _ _ h => h) (Ke.up (Or.inl (by omega)) (Ke.tr (fun _ _ h => h) Ke.rf k6)) k43), ⟨a39, o40, by omega, by omega, by omega, by omega, ea39, eo40, (fun q => (hf41 q).trans hoo_o3)⟩⟩)
        · refine xr_iload_n dX10_compared_35 1 rfl ?_
          exact xr_iret dX10_compared_36 rfl rfl (⟨_, rfl, rfl, rfl, (Ke.tr (fun _ _ h => h) Ke.rf k6), ⟨a2, o3, by omega, by omega, by omega, by omega, ea2, eo3, hf4⟩⟩)
set_option maxRecDepth 100000 in
set_option maxHeartbeats 4000000 in
theorem lp_both {u : Nat} (hs : LV fX10_compared (8 * u + 6) u) {l : Launch} {G : xG} {M : xM} {J : xJ} {bs : Int32} {a E o : Nat} (hbs : bs = -1 ∨ bs = 0) (e_bs : M 62 14 = bs) (haE : a ≤ E) (hE : E ≤ 120) (e_E : M 62 16 = nI E) (ho : o + u = 6) : ∀ (m a1 o1 : Nat) (v : Int32) (M1 : xM), E < a1 + m + 1 → a ≤ a1 → a1 ≤ E → o1 ≤ 6 → o ≤ o1 → Ke WPR M M1 → M1 62 15 = nI a1 → M1 62 18 = nI o1 → (M1 62 17 < 0 → o1 = o) → x_X l G fX10_both (8 * u + 7) 0 0 (qKI WPR M J (fun r M2 => PP_ a E o M2)) 5 [(1, .int (v)), (0, .ref (62))] [] x_SH M1 J 0 0 := by
  intro m
  induction m with
  | zero =>
    intro a1 o1 v M1 hm h1 h2 h3 h4 hM e_a1 e_o1 hof
    refine xr_aload_n dX10_both_5 1 rfl ?_
    refine xr_bipush (v := 38) dX10_both_6 rfl ?_
    refine xr_callV (As := [.int (38)]) (rest := []) mlX10_184 (g_X10_takes 38 (by decide) hbs (Eq.trans (hM 62 14 (by decide)) e_bs) (by omega) e_a1 (by omega) (Eq.trans (hM 62 16 (by decide)) e_E)) dX10_both_8 s_62 rfl rfl (Nat.le_of_ble_eq_true rfl) (by omega) ⟨by decide, by decide⟩ (fun v s2 M2 J2 hq => ?_)
    obtain ⟨r4, rfl, rfl, rfl, k3, hx1⟩ := hq
    try dsimp only [Option.toList, List.cons_append, List.nil_append]
    refine xr_if_eq (tgt := 36) dX10_both_11 rfl (fun c5 => ?_) (fun c5 => ?_)
    · have ea5 := (Or.resolve_right hx1 (fun q => absurd (c5.symm.trans q.1) (by decide))).2
      refine xr_iload_n dX10_both_36 0 rfl ?_
      exact xr_iret dX10_both_37 rfl rfl (⟨_, rfl, rfl, rfl, (Ke.tr (fun pp kk h => (Or.inl h)) hM k3), ⟨a1, o1, by omega, by omega, by omega, by omega, ea5, (Eq.trans (k3 62 18 (by decide)) e_o1), (fun q => hof (by rw [← k3 62 17 (by decide)]; exact q))⟩⟩)
    · obtain ⟨-, hff, ha5, ea5⟩ := Or.resolve_left hx1 (fun q => c5 q.1)
      have hoo : o1 = o := hof hff
      exact absurd hm (by omega)
  | succ m ih =>
    intro a1 o1 v M1 hm h1 h2 h3 h4 hM e_a1 e_o1 hof
    refine xr_aload_n dX10_both_5 1 rfl ?_
    refine xr_bipush (v := 38) dX10_both_6 rfl ?_
    refine xr_callV (As := [.int (38)]) (rest := []) mlX10_184 (g_X10_takes 38 (by decide) hbs (Eq.trans (hM 62 14 (by decide)) e_bs) (by omega) e_a1 (by omega) (Eq.trans (hM 62 16 (by decide)) e_E)) dX10_both_8 s_62 rfl rfl (Nat.le_of_ble_eq_true rfl) (by omega) ⟨by decide, by decide⟩ (fun v s2 M2 J2 hq => ?_)
    obtain ⟨r4, rfl, rfl, rfl, k3, hx1⟩ := hq
    try dsimp only [Option.toList, List.cons_append, List.nil_append]
    refine xr_if_eq (tgt := 36) dX10_both_11 rfl (fun c5 => ?_) (fun c5 => ?_)
    · have ea5 := (Or.resolve_right hx1 (fun q => absurd (c5.symm.trans q.1) (by decide))).2
      refine xr_iload_n dX10_both_36 0 rfl ?_
      exact xr_iret dX10_both_37 rfl rfl (⟨_, rfl, rfl, rfl, (Ke.tr (fun pp kk h => (Or.inl h)) hM k3), ⟨a1, o1, by omega, by omega, by omega, by omega, ea5, (Eq.trans (k3 62 18 (by decide)) e_o1), (fun q => hof (by rw [← k3 62 17 (by decide)]; exact q))⟩⟩)
    · obtain ⟨-, hff, ha5, ea5⟩ := Or.resolve_left hx1 (fun q => c5 q.1)
      have hoo : o1 = o := hof hff
      refine xr_aload_n dX10_both_14 1 rfl ?_
      refine xr_callV (As := []) (rest := []) mlX10_187 (hs l G M2 J bs (a1 + 1) E o1 hbs (Eq.trans (k3 62 14 (by decide)) (Eq.trans (hM 62 14 (by decide)) e_bs)) (by omega) (by omega) ea5 (Eq.trans (k3 62 16 (by decide)) (Eq.trans (hM 62 16 (by decide)) e_E)) (by omega) (Eq.trans (k3 62 18 (by decide)) e_o1)) dX10_both_15 s_62 rfl rfl (Nat.le_of_ble_eq_true rfl) (by omega) ⟨by decide, by decide⟩ (fun v s2 M10 J2 hq => ?_)
      obtain ⟨r12, rfl, rfl, rfl, k11, ⟨a7, o8, a7a, a7b, o8d, o8c, ea7, eo8, hf9⟩⟩ := hq
      try dsimp only [Option.toList, List.cons_append, List.nil_append]
      refine xr_istore_n (ls2 := [(2, .int (r12)), (1, .int (v)), (0, .ref (62))]) dX10_both_18 (by decide) rfl ?_
      refine xr_iload_n dX10_both_19 1 rfl ?_
      refine xr_if_eq (tgt := 31) dX10_both_20 rfl (fun c13 => ?_) (fun c13 => ?_)
      · refine xr_iconst (v := 0) dX10_both_31 rfl ?_
        refine xr_istore_n (ls2 := [(1, .int (0)), (2, .int (r12)), (0, .ref (62))]) dX10_both_32 (by decide) rfl ?_
        refine xr_goto (tgt := 5) dX10_both_33 rfl ?_
        refine xb_ls (ls2 := [(1, .int (0)), (0, .ref (62))]) [0, 2] rfl ?_
        exact ih a7 o8 0 M10 (by omega) (by omega) (by omega) (by omega) (by omega) (Ke.tr (fun _ _ h => h) (Ke.tr (fun pp kk h => (Or.inl h)) hM k3) k11) ea7 eo8 (fun q => (hf9 q).trans hoo)
      · refine xr_iload_n dX10_both_23 0 rfl ?_
        refine xr_if_eq (tgt := 31) dX10_both_24 rfl (fun c14 => ?_) (fun c14 => ?_)
        · refine xr_iconst (v := 0) dX10_both_31 rfl ?_
          refine xr_istore_n (ls2 := [(1, .int (0)), (2, .int (r12)), (0, .ref (62))]) dX10_both_32 (by decide) rfl ?_
          refine xr_goto (tgt := 5) dX10_both_33 rfl ?_
          refine xb_ls (ls2 := [(1, .int (0)), (0, .ref (62))]) [0, 2] rfl ?_
          exact ih a7 o8 0 M10 (by omega) (by omega) (by omega) (by omega) (by omega) (Ke.tr (fun _ _ h => h) (Ke.tr (fun pp kk h => (Or.inl h)) hM k3) k11) ea7 eo8 (fun q => (hf9 q).trans hoo)
        · refine xr_iconst (v := 1) dX10_both_27 rfl ?_
          refine xr_goto (tgt := 32) dX10_both_28 rfl ?_
          refine xr_istore_n (ls2 := [(1, .int (1)), (2, .int (r12)), (0, .ref (62))]) dX10_both_32 (by decide) rfl ?_
          refine xr_goto (tgt := 5) dX10_both_33 rfl ?_
          refine xb_ls (ls2 := [(1, .int (1)), (0, .ref (62))]) [0, 2] rfl ?_
          exact ih a7 o8 1 M10 (by omega) (by omega) (by omega) (by omega) (by omega) (Ke.tr (fun _ _ h => h) (Ke.tr (fun pp kk h => (Or.inl h)) hM k3) k11) ea7 eo8 (fun q => (hf9 q).trans hoo)
set_option maxRecDepth 100000 in
set_option maxHeartbeats 4000000 in
theorem lv_both {u : Nat} (hs : LV fX10_compared (8 * u + 6) u) : LV fX10_both (8 * u + 7) u := by
  intro l G M J bs a E o hbs e_bs haE hE e_a e_E ho e_o
  refine xb_of pX10 (Nat.le_of_ble_eq_true rfl) rfl ?_
  refine xr_aload_n dX10_both_0 0 rfl ?_
  refine xr_callV (As := []) (rest := []) mlX10_187 (hs l G M J bs a E o hbs e_bs (by omega) (by omega) e_a e_E (by omega) e_o) dX10_both_1 s_62 rfl rfl (Nat.le_of_ble_eq_true rfl) (by omega) ⟨by decide, by decide⟩ (fun v s2 M5 J2 hq => ?_)
  obtain ⟨r7, rfl, rfl, rfl, k6, ⟨a2, o3, a2a, a2b, o3d, o3c, ea2, eo3, hf4⟩⟩ := hq
  try dsimp only [Option.toList, List.cons_append, List.nil_append]
  refine xr_istore_n (ls2 := [(1, .int (r7)), (0, .ref (62))]) dX10_both_4 (by decide) rfl ?_
  refine xb_ls (ls2 := [(1, .int (r7)), (0, .ref (62))]) [0, 1] rfl ?_
  exact lp_both hs hbs e_bs haE hE e_E ho E a2 o3 r7 M5 (by omega) (by omega) (by omega) (by omega) (by omega) (Ke.tr (fun _ _ h => h) Ke.rf k6) ea2 eo3 hf4
set_option maxRecDepth 100000 in
set_option maxHeartbeats 4000000 in
theorem lp_either {u : Nat} (hs : LV fX10_both (8 * u + 7) u) {l : Launch} {G : xG} {M : xM} {J : xJ} {bs : Int32} {a E o : Nat} (hbs : bs = -1 ∨ bs = 0) (e_bs : M 62 14 = bs) (haE : a ≤ E) (hE : E ≤ 120) (e_E : M 62 16 = nI E) (ho : o + u = 6) : ∀ (m a1 o1 : Nat) (v : Int32) (M1 : xM), E < a1 + m + 1 → a ≤ a1 → a1 ≤ E → o1 ≤ 6 → o ≤ o1 → Ke WPR M M1 → M1 62 15 = nI a1 → M1 62 18 = nI o1 → (M1 62 17 < 0 → o1 = o) → x_X l G fX10_either (8 * u + 8) 0 0 (qKI WPR M J (fun r M2 => PP_ a E o M2)) 5 [(1, .int (v)), (0, .ref (62))] [] x_SH M1 J 0 0 := by
  intro m
  induction m with
  | zero =>
    intro a1 o1 v M1 hm h1 h2 h3 h4 hM e_a1 e_o1 hof
    refine xr_aload_n dX10_either_5 1 rfl ?_
    refine xr_bipush (v := 124) dX10_either_6 rfl ?_
    refine xr_callV (As := [.int (124)]) (rest := []) mlX10_184 (g_X10_takes 124 (by decide) hbs (Eq.trans (hM 62 14 (by decide)) e_bs) (by omega) e_a1 (by omega) (Eq.trans (hM 62 16 (by decide)) e_E)) dX10_either_8 s_62 rfl rfl (Nat.le_of_ble_eq_true rfl) (by omega) ⟨by decide, by decide⟩ (fun v s2 M2 J2 hq => ?_)
    obtain ⟨r4, rfl, rfl, rfl, k3, hx1⟩ := hq
    try dsimp only [Option.toList, List.cons_append, List.nil_append]
    refine xr_if_eq (tgt := 36) dX10_either_11 rfl (fun c5 => ?_) (fun c5 => ?_)
    · have ea5 := (Or.resolve_right hx1 (fun q => absurd (c5.symm.trans q.1) (by decide))).2
      refine xr_iload_n dX10_either_36 0 rfl ?_
      exact xr_iret dX10_either_37 rfl rfl (⟨_, rfl, rfl, rfl, (Ke.tr (fun pp kk h => (Or.inl h)) hM k3), ⟨a1, o1, by omega, by omega, by omega, by omega, ea5, (Eq.trans (k3 62 18 (by decide)) e_o1), (fun q => hof (by rw [← k3 62 17 (by decide)]; exact q))⟩⟩)
    · obtain ⟨-, hff, ha5, ea5⟩ := Or.resolve_left hx1 (fun q => c5 q.1)
      have hoo : o1 = o := hof hff
      exact absurd hm (by omega)
  | succ m ih =>
    intro a1 o1 v M1 hm h1 h2 h3 h4 hM e_a1 e_o1 hof
    refine xr_aload_n dX10_either_5 1 rfl ?_
    refine xr_bipush (v := 124) dX10_either_6 rfl ?_
    refine xr_callV (As := [.int (124)]) (rest := []) mlX10_184 (g_X10_takes 124 (by decide) hbs (Eq.trans (hM 62 14 (by decide)) e_bs) (by omega) e_a1 (by omega) (Eq.trans (hM 62 16 (by decide)) e_E)) dX10_either_8 s_62 rfl rfl (Nat.le_of_ble_eq_true rfl) (by omega) ⟨by decide, by decide⟩ (fun v s2 M2 J2 hq => ?_)
    obtain ⟨r4, rfl, rfl, rfl, k3, hx1⟩ := hq
    try dsimp only [Option.toList, List.cons_append, List.nil_append]
    refine xr_if_eq (tgt := 36) dX10_either_11 rfl (fun c5 => ?_) (fun c5 => ?_)
    · have ea5 := (Or.resolve_right hx1 (fun q => absurd (c5.symm.trans q.1) (by decide))).2
      refine xr_iload_n dX10_either_36 0 rfl ?_
      exact xr_iret dX10_either_37 rfl rfl (⟨_, rfl, rfl, rfl, (Ke.tr (fun pp kk h => (Or.inl h)) hM k3), ⟨a1, o1, by omega, by omega, by omega, by omega, ea5, (Eq.trans (k3 62 18 (by decide)) e_o1), (fun q => hof (by rw [← k3 62 17 (by decide)]; exact q))⟩⟩)
    · obtain ⟨-, hff, ha5, ea5⟩ := Or.resolve_left hx1 (fun q => c5 q.1)
      have hoo : o1 = o := hof hff
      refine xr_aload_n dX10_either_14 1 rfl ?_
      refine xr_callV (As := []) (rest := []) mlX10_181 (hs l G M2 J bs (a1 + 1) E o1 hbs (Eq.trans (k3 62 14 (by decide)) (Eq.trans (hM 62 14 (by decide)) e_bs)) (by omega) (by omega) ea5 (Eq.trans (k3 62 16 (by decide)) (Eq.trans (hM 62 16 (by decide)) e_E)) (by omega) (Eq.trans (k3 62 18 (by decide)) e_o1)) dX10_either_15 s_62 rfl rfl (Nat.le_of_ble_eq_true rfl) (by omega) ⟨by decide, by decide⟩ (fun v s2 M10 J2 hq => ?_)
      obtain ⟨r12, rfl, rfl, rfl, k11, ⟨a7, o8, a7a, a7b, o8d, o8c, ea7, eo8, hf9⟩⟩ := hq
      try dsimp only [Option.toList, List.cons_append, List.nil_append]
      refine xr_istore_n (ls2 := [(2, .int (r12)), (1, .int (v)), (0, .ref (62))]) dX10_either_18 (by decide) rfl ?_
      refine xr_iload_n dX10_either_19 1 rfl ?_
      refine xr_if_ne (tgt := 27) dX10_either_20 rfl (fun c13 => ?_) (fun c13 => ?_)
      · refine xr_iconst (v := 1) dX10_either_27 rfl ?_
        refine xr_goto (tgt := 32) dX10_either_28 rfl ?_
        refine xr_istore_n (ls2 := [(1, .int (1)), (2, .int (r12)), (0, .ref (62))]) dX10_either_32 (by decide) rfl ?_
        refine xr_goto (tgt := 5) dX10_either_33 rfl ?_
        refine xb_ls (ls2 := [(1, .int (1)), (0, .ref (62))]) [0, 2] rfl ?_
        exact ih a7 o8 1 M10 (by omega) (by omega) (by omega) (by omega) (by omega) (Ke.tr (fun _ _ h => h) (Ke.tr (fun pp kk h => (Or.inl h)) hM k3) k11) ea7 eo8 (fun q => (hf9 q).trans hoo)
      · refine xr_iload_n dX10_either_23 0 rfl ?_
        refine xr_if_eq (tgt := 31) dX10_either_24 rfl (fun c14 => ?_) (fun c14 => ?_)
        · refine xr_iconst (v := 0) dX10_either_31 rfl ?_
          refine xr_istore_n (ls2 := [(1, .int (0)), (2, .int (r12)), (0, .ref (62))]) dX10_either_32 (by decide) rfl ?_
          refine xr_goto (tgt := 5) dX10_either_33 rfl ?_
          refine xb_ls (ls2 := [(1, .int (0)), (0, .ref (62))]) [0, 2] rfl ?_
          exact ih a7 o8 0 M10 (by omega) (by omega) (by omega) (by omega) (by omega) (Ke.tr (fun _ _ h => h) (Ke.tr (fun pp kk h => (Or.inl h)) hM k3) k11) ea7 eo8 (fun q => (hf9 q).trans hoo)
        · refine xr_iconst (v := 1) dX10_either_27 rfl ?_
          refine xr_goto (tgt := 32) dX10_either_28 rfl ?_
          refine xr_istore_n (ls2 := [(1, .int (1)), (2, .int (r12)), (0, .ref (62))]) dX10_either_32 (by decide) rfl ?_
          refine xr_goto (tgt := 5) dX10_either_33 rfl ?_
          refine xb_ls (ls2 := [(1, .int (1)), (0, .ref (62))]) [0, 2] rfl ?_
          exact ih a7 o8 1 M10 (by omega) (by omega) (by omega) (by omega) (by omega) (Ke.tr (fun _ _ h => h) (Ke.tr (fun pp kk h => (Or.inl h)) hM k3) k11) ea7 eo8 (fun q => (hf9 q).trans hoo)
set_option maxRecDepth 100000 in
set_option maxHeartbeats 4000000 in
theorem lv_either {u : Nat} (hs : LV fX10_both (8 * u + 7) u) : LV fX10_either (8 * u + 8) u := by
  intro l G M J bs a E o hbs e_bs haE hE e_a e_E ho e_o
  refine xb_of pX10 (Nat.le_of_ble_eq_true rfl) rfl ?_
  refine xr_aload_n dX10_either_0 0 rfl ?_
  refine xr_callV (As := []) (rest := []) mlX10_181 (hs l G M J bs a E o hbs e_bs (by omega) (by omega) e_a e_E (by omega) e_o) dX10_either_1 s_62 rfl rfl (Nat.le_of_ble_eq_true rfl) (by omega) ⟨by decide, by decide⟩ (fun v s2 M5 J2 hq => ?_)
  obtain ⟨r7, rfl, rfl, rfl, k6, ⟨a2, o3, a2a, a2b, o3d, o3c, ea2, eo3, hf4⟩⟩ := hq
  try dsimp only [Option.toList, List.cons_append, List.nil_append]
  refine xr_istore_n (ls2 := [(1, .int (r7)), (0, .ref (62))]) dX10_either_4 (by decide) rfl ?_
  refine xb_ls (ls2 := [(1, .int (r7)), (0, .ref (62))]) [0, 1] rfl ?_
  exact lp_either hs hbs e_bs haE hE e_E ho E a2 o3 r7 M5 (by omega) (by omega) (by omega) (by omega) (by omega) (Ke.tr (fun _ _ h => h) Ke.rf k6) ea2 eo3 hf4
set_option maxRecDepth 100000 in
set_option maxHeartbeats 4000000 in
theorem g_X10_nameOf (v : Int32) {l : Launch} {G : xG} {M : xM} {J : xJ} : x_M l G fX10_nameOf 0 0 0 [.int (v)] x_SH M J (qPI M J (fun r => r ≤ 5 ∧ (r < 0 ∨ v ≠ 0))) := by
  refine xb_of pX10 (Nat.le_of_ble_eq_true rfl) rfl ?_
  refine xr_iload_n dX10_nameOf_0 0 rfl ?_
  refine xg_eq 102 (fun w1 => ?_) (fun w1 => ?_)
  · refine xr_tableIn (tgt := 104) dX10_nameOf_1 (by decide) (by decide) rfl rfl ?_
    refine xr_iconst (v := 4) dX10_nameOf_104 rfl ?_
    exact xr_iret dX10_nameOf_105 rfl rfl (⟨_, rfl, rfl, rfl, rfl, ⟨by decide, Or.inr (by rw [w1]; decide)⟩⟩)
  refine xg_eq 103 (fun w2 => ?_) (fun w2 => ?_)
  · refine xr_tableIn (tgt := 108) dX10_nameOf_1 (by decide) (by decide) rfl rfl ?_
    refine xr_iconst (v := -1) dX10_nameOf_108 rfl ?_
    exact xr_iret dX10_nameOf_109 rfl rfl (⟨_, rfl, rfl, rfl, rfl, ⟨by decide, Or.inl (by decide)⟩⟩)
  refine xg_eq 104 (fun w3 => ?_) (fun w3 => ?_)
  · refine xr_tableIn (tgt := 102) dX10_nameOf_1 (by decide) (by decide) rfl rfl ?_
    refine xr_iconst (v := 3) dX10_nameOf_102 rfl ?_
    exact xr_iret dX10_nameOf_103 rfl rfl (⟨_, rfl, rfl, rfl, rfl, ⟨by decide, Or.inr (by rw [w3]; decide)⟩⟩)
  refine xg_eq 105 (fun w4 => ?_) (fun w4 => ?_)
  · refine xr_tableIn (tgt := 108) dX10_nameOf_1 (by decide) (by decide) rfl rfl ?_
    refine xr_iconst (v := -1) dX10_nameOf_108 rfl ?_
    exact xr_iret dX10_nameOf_109 rfl rfl (⟨_, rfl, rfl, rfl, rfl, ⟨by decide, Or.inl (by decide)⟩⟩)
  refine xg_eq 106 (fun w5 => ?_) (fun w5 => ?_)
  · refine xr_tableIn (tgt := 108) dX10_nameOf_1 (by decide) (by decide) rfl rfl ?_
    refine xr_iconst (v := -1) dX10_nameOf_108 rfl ?_
    exact xr_iret dX10_nameOf_109 rfl rfl (⟨_, rfl, rfl, rfl, rfl, ⟨by decide, Or.inl (by decide)⟩⟩)
  refine xg_eq 107 (fun w6 => ?_) (fun w6 => ?_)
  · refine xr_tableIn (tgt := 108) dX10_nameOf_1 (by decide) (by decide) rfl rfl ?_
    refine xr_iconst (v := -1) dX10_nameOf_108 rfl ?_
    exact xr_iret dX10_nameOf_109 rfl rfl (⟨_, rfl, rfl, rfl, rfl, ⟨by decide, Or.inl (by decide)⟩⟩)
  refine xg_eq 108 (fun w7 => ?_) (fun w7 => ?_)
  · refine xr_tableIn (tgt := 108) dX10_nameOf_1 (by decide) (by decide) rfl rfl ?_
    refine xr_iconst (v := -1) dX10_nameOf_108 rfl ?_
    exact xr_iret dX10_nameOf_109 rfl rfl (⟨_, rfl, rfl, rfl, rfl, ⟨by decide, Or.inl (by decide)⟩⟩)
  refine xg_eq 109 (fun w8 => ?_) (fun w8 => ?_)
  · refine xr_tableIn (tgt := 108) dX10_nameOf_1 (by decide) (by decide) rfl rfl ?_
    refine xr_iconst (v := -1) dX10_nameOf_108 rfl ?_
    exact xr_iret dX10_nameOf_109 rfl rfl (⟨_, rfl, rfl, rfl, rfl, ⟨by decide, Or.inl (by decide)⟩⟩)
  refine xg_eq 110 (fun w9 => ?_) (fun w9 => ?_)
  · refine xr_tableIn (tgt := 96) dX10_nameOf_1 (by decide) (by decide) rfl rfl ?_
    refine xr_iconst (v := 0) dX10_nameOf_96 rfl ?_
    exact xr_iret dX10_nameOf_97 rfl rfl (⟨_, rfl, rfl, rfl, rfl, ⟨by decide, Or.inr (by rw [w9]; decide)⟩⟩)
  refine xg_eq 111 (fun w10 => ?_) (fun w10 => ?_)
  · refine xr_tableIn (tgt := 108) dX10_nameOf_1 (by decide) (by decide) rfl rfl ?_
    refine xr_iconst (v := -1) dX10_nameOf_108 rfl ?_
    exact xr_iret dX10_nameOf_109 rfl rfl (⟨_, rfl, rfl, rfl, rfl, ⟨by decide, Or.inl (by decide)⟩⟩)
  refine xg_eq 112 (fun w11 => ?_) (fun w11 => ?_)
  · refine xr_tableIn (tgt := 108) dX10_nameOf_1 (by decide) (by decide) rfl rfl ?_
    refine xr_iconst (v := -1) dX10_nameOf_108 rfl ?_
    exact xr_iret dX10_nameOf_109 rfl rfl (⟨_, rfl, rfl, rfl, rfl, ⟨by decide, Or.inl (by decide)⟩⟩)
  refine xg_eq 113 (fun w12 => ?_) (fun w12 => ?_)
  · refine xr_tableIn (tgt := 108) dX10_nameOf_1 (by decide) (by decide) rfl rfl ?_
    refine xr_iconst (v := -1) dX10_nameOf_108 rfl ?_
    exact xr_iret dX10_nameOf_109 rfl rfl (⟨_, rfl, rfl, rfl, rfl, ⟨by decide, Or.inl (by decide)⟩⟩)
  refine xg_eq 114 (fun w13 => ?_) (fun w13 => ?_)
  · refine xr_tableIn (tgt := 108) dX10_nameOf_1 (by decide) (by decide) rfl rfl ?_
    refine xr_iconst (v := -1) dX10_nameOf_108 rfl ?_
    exact xr_iret dX10_nameOf_109 rfl rfl (⟨_, rfl, rfl, rfl, rfl, ⟨by decide, Or.inl (by decide)⟩⟩)
  refine xg_eq 115 (fun w14 => ?_) (fun w14 => ?_)
  · refine xr_tableIn (tgt := 100) dX10_nameOf_1 (by decide) (by decide) rfl rfl ?_
    refine xr_iconst (v := 2) dX10_nameOf_100 rfl ?_
    exact xr_iret dX10_nameOf_101 rfl rfl (⟨_, rfl, rfl, rfl, rfl, ⟨by decide, Or.inr (by rw [w14]; decide)⟩⟩)
  refine xg_eq 116 (fun w15 => ?_) (fun w15 => ?_)
  · refine xr_tableIn (tgt := 108) dX10_nameOf_1 (by decide) (by decide) rfl rfl ?_
    refine xr_iconst (v := -1) dX10_nameOf_108 rfl ?_
    exact xr_iret dX10_nameOf_109 rfl rfl (⟨_, rfl, rfl, rfl, rfl, ⟨by decide, Or.inl (by decide)⟩⟩)
  refine xg_eq 117 (fun w16 => ?_) (fun w16 => ?_)
  · refine xr_tableIn (tgt := 108) dX10_nameOf_1 (by decide) (by decide) rfl rfl ?_
    refine xr_iconst (v := -1) dX10_nameOf_108 rfl ?_
    exact xr_iret dX10_nameOf_109 rfl rfl (⟨_, rfl, rfl, rfl, rfl, ⟨by decide, Or.inl (by decide)⟩⟩)
  refine xg_eq 118 (fun w17 => ?_) (fun w17 => ?_)
  · refine xr_tableIn (tgt := 98) dX10_nameOf_1 (by decide) (by decide) rfl rfl ?_
    refine xr_iconst (v := 1) dX10_nameOf_98 rfl ?_
    exact xr_iret dX10_nameOf_99 rfl rfl (⟨_, rfl, rfl, rfl, rfl, ⟨by decide, Or.inr (by rw [w17]; decide)⟩⟩)
  refine xg_eq 119 (fun w18 => ?_) (fun w18 => ?_)
  · refine xr_tableIn (tgt := 108) dX10_nameOf_1 (by decide) (by decide) rfl rfl ?_
    refine xr_iconst (v := -1) dX10_nameOf_108 rfl ?_
    exact xr_iret dX10_nameOf_109 rfl rfl (⟨_, rfl, rfl, rfl, rfl, ⟨by decide, Or.inl (by decide)⟩⟩)
  refine xg_eq 120 (fun w19 => ?_) (fun w19 => ?_)
  · refine xr_tableIn (tgt := 108) dX10_nameOf_1 (by decide) (by decide) rfl rfl ?_
    refine xr_iconst (v := -1) dX10_nameOf_108 rfl ?_
    exact xr_iret dX10_nameOf_109 rfl rfl (⟨_, rfl, rfl, rfl, rfl, ⟨by decide, Or.inl (by decide)⟩⟩)
  refine xg_eq 121 (fun w20 => ?_) (fun w20 => ?_)
  · refine xr_tableIn (tgt := 106) dX10_nameOf_1 (by decide) (by decide) rfl rfl ?_
    refine xr_iconst (v := 5) dX10_nameOf_106 rfl ?_
    exact xr_iret dX10_nameOf_107 rfl rfl (⟨_, rfl, rfl, rfl, rfl, ⟨by decide, Or.inr (by rw [w20]; decide)⟩⟩)
  refine xr_tableOut (tgt := 108) dX10_nameOf_1 (xg_out (lo := 102) (hi := 121) (by decide) (fun j h1 h2 qq => by have h3 : j = 102 ∨ j = 103 ∨ j = 104 ∨ j = 105 ∨ j = 106 ∨ j = 107 ∨ j = 108 ∨ j = 109 ∨ j = 110 ∨ j = 111 ∨ j = 112 ∨ j = 113 ∨ j = 114 ∨ j = 115 ∨ j = 116 ∨ j = 117 ∨ j = 118 ∨ j = 119 ∨ j = 120 ∨ j = 121 := (by omega); rcases h3 with rfl | rfl | rfl | rfl | rfl | rfl | rfl | rfl | rfl | rfl | rfl | rfl | rfl | rfl | rfl | rfl | rfl | rfl | rfl | rfl <;> first | exact absurd qq w1 | exact absurd qq w2 | exact absurd qq w3 | exact absurd qq w4 | exact absurd qq w5 | exact absurd qq w6 | exact absurd qq w7 | exact absurd qq w8 | exact absurd qq w9 | exact absurd qq w10 | exact absurd qq w11 | exact absurd qq w12 | exact absurd qq w13 | exact absurd qq w14 | exact absurd qq w15 | exact absurd qq w16 | exact absurd qq w17 | exact absurd qq w18 | exact absurd qq w19 | exact absurd qq w20)) rfl ?_
  refine xr_iconst (v := -1) dX10_nameOf_108 rfl ?_
  exact xr_iret dX10_nameOf_109 rfl rfl (⟨_, rfl, rfl, rfl, rfl, ⟨by decide, Or.inl (by decide)⟩⟩)
set_option maxRecDepth 100000 in
set_option maxHeartbeats 4000000 in
theorem lv_one0  : LV fX10_one (8 * 0 + 3) 0 := by
  intro l G M J bs a E o hbs e_bs haE hE e_a e_E ho e_o
  refine xb_of pX10 (Nat.le_of_ble_eq_true rfl) rfl ?_
  refine xr_aload_n dX10_one_0 0 rfl ?_
  refine xb_get (v := M 62 17) flX10_174 dX10_one_1 s_62 rfl rfl ?_
  refine xr_if_lt (tgt := 9) dX10_one_4 rfl (fun c1 => ?_) (fun c1 => ?_)
  · refine xr_aload_n dX10_one_9 0 rfl ?_
    refine xr_callV (As := []) (rest := []) mlX10_177 (g_X10_byteAt hbs e_bs (by omega) e_a (by omega) e_E) dX10_one_10 s_62 rfl rfl (Nat.le_of_ble_eq_true rfl) (by omega) ⟨by decide, by decide⟩ (fun v s2 M9 J2 hq => ?_)
    obtain ⟨r3, rfl, rfl, rfl, rfl, hx2⟩ := hq
    try dsimp only [Option.toList, List.cons_append, List.nil_append]
    refine xr_istore_n (ls2 := [(1, .int (r3)), (0, .ref (62))]) dX10_one_13 (by decide) rfl ?_
    refine xr_iload_n dX10_one_14 0 rfl ?_
    refine xr_bipush (v := 33) dX10_one_15 rfl ?_
    refine xr_icmp_eq (tgt := 32) dX10_one_17 rfl (fun c4 => ?_) (fun c4 => ?_)
    · have haE1 : a < E := Or.resolve_left hx2 (fun q => by grind)
      refine xr_aload_n dX10_one_32 1 rfl ?_
      refine xb_get (v := nI (o)) flX10_199 dX10_one_33 s_62 rfl e_o ?_
      refine xr_bipush (v := 6) dX10_one_36 rfl ?_
      refine xr_icmp_ne (tgt := 46) dX10_one_38 rfl (fun c => absurd (by have h6 : o = 6 := (by omega); rw [h6]; rfl) c) (fun _ => ?_)
      refine xr_aload_n dX10_one_41 1 rfl ?_
      refine xr_callV (As := []) (rest := []) mlX10_202 (g_X10_wrong (by omega) e_a) dX10_one_42 s_62 rfl rfl (Nat.le_of_ble_eq_true rfl) (by omega) ⟨by decide, by decide⟩ (fun v s2 M6 J2 hq => ?_)
      obtain ⟨r8, rfl, rfl, rfl, k7, hx5⟩ := hq
      try dsimp only [Option.toList, List.cons_append, List.nil_append]
      exact xr_iret dX10_one_45 rfl rfl (⟨_, rfl, rfl, rfl, (Ke.tr (fun pp kk h => (Or.inr (Or.inl h))) Ke.rf k7), ⟨a, o, by omega, by omega, by omega, by omega, (Eq.trans (k7 62 15 (by decide)) e_a), (Eq.trans (k7 62 18 (by decide)) e_o), (fun q => absurd q (by have := hx5.2; grind))⟩⟩)
    · refine xr_iload_n dX10_one_20 0 rfl ?_
      refine xr_bipush (v := 45) dX10_one_21 rfl ?_
      refine xr_icmp_eq (tgt := 32) dX10_one_23 rfl (fun c9 => ?_) (fun c9 => ?_)
      · have haE1 : a < E := Or.resolve_left hx2 (fun q => by grind)
        refine xr_aload_n dX10_one_32 1 rfl ?_
        refine xb_get (v := nI (o)) flX10_199 dX10_one_33 s_62 rfl e_o ?_
        refine xr_bipush (v := 6) dX10_one_36 rfl ?_
        refine xr_icmp_ne (tgt := 46) dX10_one_38 rfl (fun c => absurd (by have h6 : o = 6 := (by omega); rw [h6]; rfl) c) (fun _ => ?_)
        refine xr_aload_n dX10_one_41 1 rfl ?_
        refine xr_callV (As := []) (rest := []) mlX10_202 (g_X10_wrong (by omega) e_a) dX10_one_42 s_62 rfl rfl (Nat.le_of_ble_eq_true rfl) (by omega) ⟨by decide, by decide⟩ (fun v s2 M11 J2 hq => ?_)
        obtain ⟨r13, rfl, rfl, rfl, k12, hx10⟩ := hq
        try dsimp only [Option.toList, List.cons_append, List.nil_append]
        exact xr_iret dX10_one_45 rfl rfl (⟨_, rfl, rfl, rfl, (Ke.tr (fun pp kk h => (Or.inr (Or.inl h))) Ke.rf k12), ⟨a, o, by omega, by omega, by omega, by omega, (Eq.trans (k12 62 15 (by decide)) e_a), (Eq.trans (k12 62 18 (by decide)) e_o), (fun q => absurd q (by have := hx10.2; grind))⟩⟩)
      · refine xr_iload_n dX10_one_26 0 rfl ?_
        refine xr_bipush (v := 40) dX10_one_27 rfl ?_
        refine xr_icmp_ne (tgt := 145) dX10_one_29 rfl (fun c14 => ?_) (fun c14 => ?_)
        · refine xr_iload_n dX10_one_145 0 rfl ?_
          refine xr_callS (As := [.int (r3)]) (rest := []) mlX10_208 (g_X10_nameOf r3) dX10_one_146 rfl rfl (Nat.le_of_ble_eq_true rfl) (by omega) ⟨by decide, by decide⟩ (fun v s2 M9 J2 hq => ?_)
          obtain ⟨r16, rfl, rfl, rfl, rfl, hx15⟩ := hq
          try dsimp only [Option.toList, List.cons_append, List.nil_append]
          refine xr_istore_n (ls2 := [(2, .int (r16)), (1, .int (r3)), (0, .ref (62))]) dX10_one_149 (by decide) rfl ?_
          refine xr_iload_n dX10_one_150 0 rfl ?_
          refine xr_if_lt (tgt := 171) dX10_one_151 rfl (fun c17 => ?_) (fun c17 => ?_)
          · refine xr_iconst (v := 0) dX10_one_171 rfl ?_
            refine xr_istore_n (ls2 := [(3, .int (0)), (2, .int (r16)), (1, .int (r3)), (0, .ref (62))]) dX10_one_172 (by decide) rfl ?_
            refine xr_iconst (v := 0) dX10_one_173 rfl ?_
            refine xr_istore (ls2 := [(4, .int (0)), (3, .int (0)), (2, .int (r16)), (1, .int (r3)), (0, .ref (62))]) dX10_one_174 (by decide) rfl ?_
            refine xr_iload dX10_one_176 0 rfl ?_
            refine xr_iconst (v := 4) dX10_one_178 rfl ?_
            refine xr_icmp_ge (tgt := 229) dX10_one_179 rfl (fun c => absurd c (by decide)) (fun _ => ?_)
            refine xr_aload_n dX10_one_182 4 rfl ?_
            refine xr_callV (As := []) (rest := []) mlX10_177 (g_X10_byteAt hbs e_bs (by omega) e_a (by omega) e_E) dX10_one_183 s_62 rfl rfl (Nat.le_of_ble_eq_true rfl) (by omega) ⟨by decide, by decide⟩ (fun v s2 M9 J2 hq => ?_)
            obtain ⟨r19, rfl, rfl, rfl, rfl, hx18⟩ := hq
            try dsimp only [Option.toList, List.cons_append, List.nil_append]
            refine xr_bipush (v := 48) dX10_one_186 rfl ?_
            refine xr_icmp_lt (tgt := 229) dX10_one_188 rfl (fun c20 => ?_) (fun c20 => ?_)
            · refine xr_iload dX10_one_229 0 rfl ?_
              refine xr_if_ne (tgt := 241) dX10_one_231 rfl (fun c => absurd (by decide) c) (fun _ => ?_)
              refine xr_aload_n dX10_one_234 4 rfl ?_
              refine xr_callV (As := []) (rest := []) mlX10_202 (g_X10_wrong (by omega) e_a) dX10_one_235 s_62 rfl rfl (Nat.le_of_ble_eq_true rfl) (by omega) ⟨by decide, by decide⟩ (fun v s2 M22 J2 hq => ?_)
              obtain ⟨r24, rfl, rfl, rfl, k23, hx21⟩ := hq
              try dsimp only [Option.toList, List.cons_append, List.nil_append]
              refine xr_goto (tgt := 242) dX10_one_238 rfl ?_
              exact xr_iret dX10_one_242 rfl rfl (⟨_, rfl, rfl, rfl, (Ke.tr (fun pp kk h => (Or.inr (Or.inl h))) Ke.rf k23), ⟨a, o, by omega, by omega, by omega, by omega, (Eq.trans (k23 62 15 (by decide)) e_a), (Eq.trans (k23 62 18 (by decide)) e_o), (fun _ => rfl)⟩⟩)
            · refine xr_aload_n dX10_one_191 4 rfl ?_
              refine xr_callV (As := []) (rest := []) mlX10_177 (g_X10_byteAt hbs e_bs (by omega) e_a (by omega) e_E) dX10_one_192 s_62 rfl rfl (Nat.le_of_ble_eq_true rfl) (by omega) ⟨by decide, by decide⟩ (fun v s2 M9 J2 hq => ?_)
              obtain ⟨r26, rfl, rfl, rfl, rfl, hx25⟩ := hq
              try dsimp only [Option.toList, List.cons_append, List.nil_append]
              refine xr_bipush (v := 57) dX10_one_195 rfl ?_
              refine xr_icmp_gt (tgt := 229) dX10_one_197 rfl (fun c27 => ?_) (fun c27 => ?_)
              · refine xr_iload dX10_one_229 0 rfl ?_
                refine xr_if_ne (tgt := 241) dX10_one_231 rfl (fun c => absurd (by decide) c) (fun _ => ?_)
                refine xr_aload_n dX10_one_234 4 rfl ?_
                refine xr_callV (As := []) (rest := []) mlX10_202 (g_X10_wrong (by omega) e_a) dX10_one_235 s_62 rfl rfl (Nat.le_of_ble_eq_true rfl) (by omega) ⟨by decide, by decide⟩ (fun v s2 M29 J2 hq => ?_)
                obtain ⟨r31, rfl, rfl, rfl, k30, hx28⟩ := hq
                try dsimp only [Option.toList, List.cons_append, List.nil_append]
                refine xr_goto (tgt := 242) dX10_one_238 rfl ?_
                exact xr_iret dX10_one_242 rfl rfl (⟨_, rfl, rfl, rfl, (Ke.tr (fun pp kk h => (Or.inr (Or.inl h))) Ke.rf k30), ⟨a, o, by omega, by omega, by omega, by omega, (Eq.trans (k30 62 15 (by decide)) e_a), (Eq.trans (k30 62 18 (by decide)) e_o), (fun _ => rfl)⟩⟩)
              · refine xr_bipush (v := 10) dX10_one_200 rfl ?_
                refine xr_iload_n dX10_one_202 1 rfl ?_
                refine xr_imul dX10_one_203 ?_
                refine xb_top (y := 0) (by decide) ?_
                refine xr_aload_n dX10_one_204 4 rfl ?_
                refine xr_callV (As := []) (rest := [.int (0)]) mlX10_177 (g_X10_byteAt hbs e_bs (by omega) e_a (by omega) e_E) dX10_one_205 s_62 rfl rfl (Nat.le_of_ble_eq_true rfl) (by omega) ⟨by decide, by decide⟩ (fun v s2 M9 J2 hq => ?_)
                obtain ⟨r33, rfl, rfl, rfl, rfl, hx32⟩ := hq
                try dsimp only [Option.toList, List.cons_append, List.nil_append]
                refine xr_iadd dX10_one_208 ?_
                refine xr_bipush (v := 48) dX10_one_209 rfl ?_
                refine xr_isub dX10_one_211 ?_
                refine xr_istore_n (ls2 := [(3, .int (((0 + r33) - 48))), (4, .int (0)), (2, .int (r16)), (1, .int (r3)), (0, .ref (62))]) dX10_one_212 (by decide) rfl ?_
                have haE34 : a < E := Or.resolve_left hx18 (fun q => by grind)
                refine xr_iinc (v := 1) (ls2 := [(4, .int (1)), (3, .int (((0 + r33) - 48))), (2, .int (r16)), (1, .int (r3)), (0, .ref (62))]) dX10_one_213 1 rfl rfl (by decide) rfl ?_
                refine xr_aload_n dX10_one_216 4 rfl ?_
                refine xr_dup dX10_one_217 rfl ?_
                refine xb_get (v := nI (a)) flX10_165 dX10_one_218 s_62 rfl e_a ?_
                refine xr_iconst (v := 1) dX10_one_221 rfl ?_
                refine xr_iadd dX10_one_222 ?_
                refine xb_top (y := nI (a + 1)) (nI_add (a) (1)) ?_
                refine xr_putI fpX10_165 dX10_one_223 s_62 rfl rfl rfl ?_
                refine xr_goto (tgt := 176) dX10_one_226 rfl ?_
                refine xr_iload dX10_one_176 0 rfl ?_
                refine xr_iconst (v := 4) dX10_one_178 rfl ?_
                refine xr_icmp_ge (tgt := 229) dX10_one_179 rfl (fun c => absurd c (by decide)) (fun _ => ?_)
                refine xr_aload_n dX10_one_182 4 rfl ?_
                refine xr_callV (As := []) (rest := []) mlX10_177 (g_X10_byteAt hbs (Eq.trans (x_up_k _ _ _ (by decide)) e_bs) (by omega) (x_up_s _ _ _ _) (by omega) (Eq.trans (x_up_k _ _ _ (by decide)) e_E)) dX10_one_183 s_62 rfl rfl (Nat.le_of_ble_eq_true rfl) (by omega) ⟨by decide, by decide⟩ (fun v s2 M9 J2 hq => ?_)
                obtain ⟨r36, rfl, rfl, rfl, rfl, hx35⟩ := hq
                try dsimp only [Option.toList, List.cons_append, List.nil_append]
                refine xr_bipush (v := 48) dX10_one_186 rfl ?_
                refine xr_icmp_lt (tgt := 229) dX10_one_188 rfl (fun c37 => ?_) (fun c37 => ?_)
                · refine xr_iload dX10_one_229 0 rfl ?_
                  refine xr_if_ne (tgt := 241) dX10_one_231 rfl (fun _ => ?_) (fun c => absurd c (by decide))
                  refine xr_iload_n dX10_one_241 1 rfl ?_
                  exact xr_iret dX10_one_242 rfl rfl (⟨_, rfl, rfl, rfl, (Ke.up (Or.inl (by omega)) Ke.rf), ⟨a + 1, o, by omega, by omega, by omega, by omega, (x_up_s _ _ _ _), (Eq.trans (x_up_k _ _ _ (by decide)) e_o), (fun _ => rfl)⟩⟩)
                · refine xr_aload_n dX10_one_191 4 rfl ?_
                  refine xr_callV (As := []) (rest := []) mlX10_177 (g_X10_byteAt hbs (Eq.trans (x_up_k _ _ _ (by decide)) e_bs) (by omega) (x_up_s _ _ _ _) (by omega) (Eq.trans (x_up_k _ _ _ (by decide)) e_E)) dX10_one_192 s_62 rfl rfl (Nat.le_of_ble_eq_true rfl) (by omega) ⟨by decide, by decide⟩ (fun v s2 M9 J2 hq => ?_)
                  obtain ⟨r39, rfl, rfl, rfl, rfl, hx38⟩ := hq
                  try dsimp only [Option.toList, List.cons_append, List.nil_append]
                  refine xr_bipush (v := 57) dX10_one_195 rfl ?_
                  refine xr_icmp_gt (tgt := 229) dX10_one_197 rfl (fun c40 => ?_) (fun c40 => ?_)
                  · refine xr_iload dX10_one_229 0 rfl ?_
                    refine xr_if_ne (tgt := 241) dX10_one_231 rfl (fun _ => ?_) (fun c => absurd c (by decide))
                    refine xr_iload_n dX10_one_241 1 rfl ?_
                    exact xr_iret dX10_one_242 rfl rfl (⟨_, rfl, rfl, rfl, (Ke.up (Or.inl (by omega)) Ke.rf), ⟨a + 1, o, by omega, by omega, by omega, by omega, (x_up_s _ _ _ _), (Eq.trans (x_up_k _ _ _ (by decide)) e_o), (fun _ => rfl)⟩⟩)
                  · refine xr_bipush (v := 10) dX10_one_200 rfl ?_
                    refine xr_iload_n dX10_one_202 1 rfl ?_
                    refine xr_imul dX10_one_203 ?_
                    refine xr_aload_n dX10_one_204 4 rfl ?_
                    refine xr_callV (As := []) (rest := [.int ((10 * ((0 + r33) - 48)))]) mlX10_177 (g_X10_byteAt hbs (Eq.trans (x_up_k _ _ _ (by decide)) e_bs) (by omega) (x_up_s _ _ _ _) (by omega) (Eq.trans (x_up_k _ _ _ (by decide)) e_E)) dX10_one_205 s_62 rfl rfl (Nat.le_of_ble_eq_true rfl) (by omega) ⟨by decide, by decide⟩ (fun v s2 M9 J2 hq => ?_)
                    obtain ⟨r42, rfl, rfl, rfl, rfl, hx41⟩ := hq
                    try dsimp only [Option.toList, List.cons_append, List.nil_append]
                    refine xr_iadd dX10_one_208 ?_
                    refine xr_bipush (v := 48) dX10_one_209 rfl ?_
                    refine xr_isub dX10_one_211 ?_
                    refine xr_istore_n (ls2 := [(3, .int ((((10 * ((0 + r33) - 48)) + r42) - 48))), (4, .int (1)), (2, .int (r16)), (1, .int (r3)), (0, .ref (62))]) dX10_one_212 (by decide) rfl ?_
                    have haE43 : a + 1 < E := Or.resolve_left hx35 (fun q => by grind)
                    refine xr_iinc (v := 2) (ls2 := [(4, .int (2)), (3, .int ((((10 * ((0 + r33) - 48)) + r42) - 48))), (2, .int (r16)), (1, .int (r3)), (0, .ref (62))]) dX10_one_213 1 rfl rfl (by decide) rfl ?_
                    refine xr_aload_n dX10_one_216 4 rfl ?_
                    refine xr_dup dX10_one_217 rfl ?_
                    refine xb_get (v := nI (a + 1)) flX10_165 dX10_one_218 s_62 rfl (x_up_s _ _ _ _) ?_
                    refine xr_iconst (v := 1) dX10_one_221 rfl ?_
                    refine xr_iadd dX10_one_222 ?_
                    refine xb_top (y := nI (a + 1 + 1)) (nI_add (a + 1) (1)) ?_
                    refine xr_putI fpX10_165 dX10_one_223 s_62 rfl rfl rfl ?_
                    refine xr_goto (tgt := 176) dX10_one_226 rfl ?_
                    refine xr_iload dX10_one_176 0 rfl ?_
                    refine xr_iconst (v := 4) dX10_one_178 rfl ?_
                    refine xr_icmp_ge (tgt := 229) dX10_one_179 rfl (fun c => absurd c (by decide)) (fun _ => ?_)
                    refine xr_aload_n dX10_one_182 4 rfl ?_
                    refine xr_callV (As := []) (rest := []) mlX10_177 (g_X10_byteAt hbs (Eq.trans (x_up_k _ _ _ (by decide)) (Eq.trans (x_up_k _ _ _ (by decide)) e_bs)) (by omega) (x_up_s _ _ _ _) (by omega) (Eq.trans (x_up_k _ _ _ (by decide)) (Eq.trans (x_up_k _ _ _ (by decide)) e_E))) dX10_one_183 s_62 rfl rfl (Nat.le_of_ble_eq_true rfl) (by omega) ⟨by decide, by decide⟩ (fun v s2 M9 J2 hq => ?_)
                    obtain ⟨r45, rfl, rfl, rfl, rfl, hx44⟩ := hq
                    try dsimp only [Option.toList, List.cons_append, List.nil_append]
                    refine xr_bipush (v := 48) dX10_one_186 rfl ?_
                    refine xr_icmp_lt (tgt := 229) dX10_one_188 rfl (fun c46 => ?_) (fun c46 => ?_)
                    · refine xr_iload dX10_one_229 0 rfl ?_
                      refine xr_if_ne (tgt := 241) dX10_one_231 rfl (fun _ => ?_) (fun c => absurd c (by decide))
                      refine xr_iload_n dX10_one_241 1 rfl ?_
                      exact xr_iret dX10_one_242 rfl rfl (⟨_, rfl, rfl, rfl, (Ke.up (Or.inl (by omega)) (Ke.up (Or.inl (by omega)) Ke.rf)), ⟨a + 1 + 1, o, by omega, by omega, by omega, by omega, (x_up_s _ _ _ _), (Eq.trans (x_up_k _ _ _ (by decide)) (Eq.trans (x_up_k _ _ _ (by decide)) e_o)), (fun _ => rfl)⟩⟩)
                    · refine xr_aload_n dX10_one_191 4 rfl ?_
                      refine xr_callV (As := []) (rest := []) mlX10_177 (g_X10_byteAt hbs (Eq.trans (x_up_k _ _ _ (by decide)) (Eq.trans (x_up_k _ _ _ (by decide)) e_bs)) (by omega) (x_up_s _ _ _ _) (by omega) (Eq.trans (x_up_k _ _ _ (by decide)) (Eq.trans (x_up_k _ _ _ (by decide)) e_E))) dX10_one_192 s_62 rfl rfl (Nat.le_of_ble_eq_true rfl) (by omega) ⟨by decide, by decide⟩ (fun v s2 M9 J2 hq => ?_)
                      obtain ⟨r48, rfl, rfl, rfl, rfl, hx47⟩ := hq
                      try dsimp only [Option.toList, List.cons_append, List.nil_append]
                      refine xr_bipush (v := 57) dX10_one_195 rfl ?_
                      refine xr_icmp_gt (tgt := 229) dX10_one_197 rfl (fun c49 => ?_) (fun c49 => ?_)
                      · refine xr_iload dX10_one_229 0 rfl ?_
                        refine xr_if_ne (tgt := 241) dX10_one_231 rfl (fun _ => ?_) (fun c => absurd c (by decide))
                        refine xr_iload_n dX10_one_241 1 rfl ?_
                        exact xr_iret dX10_one_242 rfl rfl (⟨_, rfl, rfl, rfl, (Ke.up (Or.inl (by omega)) (Ke.up (Or.inl (by omega)) Ke.rf)), ⟨a + 1 + 1, o, by omega, by omega, by omega, by omega, (x_up_s _ _ _ _), (Eq.trans (x_up_k _ _ _ (by decide)) (Eq.trans (x_up_k _ _ _ (by decide)) e_o)), (fun _ => rfl)⟩⟩)
                      · refine xr_bipush (v := 10) dX10_one_200 rfl ?_
                        refine xr_iload_n dX10_one_202 1 rfl ?_
                        refine xr_imul dX10_one_203 ?_
                        refine xr_aload_n dX10_one_204 4 rfl ?_
                        refine xr_callV (As := []) (rest := [.int ((10 * (((10 * ((0 + r33) - 48)) + r42) - 48)))]) mlX10_177 (g_X10_byteAt hbs (Eq.trans (x_up_k _ _ _ (by decide)) (Eq.trans (x_up_k _ _ _ (by decide)) e_bs)) (by omega) (x_up_s _ _ _ _) (by omega) (Eq.trans (x_up_k _ _ _ (by decide)) (Eq.trans (x_up_k _ _ _ (by decide)) e_E))) dX10_one_205 s_62 rfl rfl (Nat.le_of_ble_eq_true rfl) (by omega) ⟨by decide, by decide⟩ (fun v s2 M9 J2 hq => ?_)
                        obtain ⟨r51, rfl, rfl, rfl, rfl, hx50⟩ := hq
                        try dsimp only [Option.toList, List.cons_append, List.nil_append]
                        refine xr_iadd dX10_one_208 ?_
                        refine xr_bipush (v := 48) dX10_one_209 rfl ?_
                        refine xr_isub dX10_one_211 ?_
                        refine xr_istore_n (ls2 := [(3, .int ((((10 * (((10 * ((0 + r33) - 48)) + r42) - 48)) + r51) - 48))), (4, .int (2)), (2, .int (r16)), (1, .int (r3)), (0, .ref (62))]) dX10_one_212 (by decide) rfl ?_
                        have haE52 : a + 1 + 1 < E := Or.resolve_left hx44 (fun q => by grind)
                        refine xr_iinc (v := 3) (ls2 := [(4, .int (3)), (3, .int ((((10 * (((10 * ((0 + r33) - 48)) + r42) - 48)) + r51) - 48))), (2, .int (r16)), (1, .int (r3)), (0, .ref (62))]) dX10_one_213 1 rfl rfl (by decide) rfl ?_
                        refine xr_aload_n dX10_one_216 4 rfl ?_
                        refine xr_dup dX10_one_217 rfl ?_
                        refine xb_get (v := nI (a + 1 + 1)) flX10_165 dX10_one_218 s_62 rfl (x_up_s _ _ _ _) ?_
                        refine xr_iconst (v := 1) dX10_one_221 rfl ?_
                        refine xr_iadd dX10_one_222 ?_
                        refine xb_top (y := nI (a + 1 + 1 + 1)) (nI_add (a + 1 + 1) (1)) ?_
                        refine xr_putI fpX10_165 dX10_one_223 s_62 rfl rfl rfl ?_
                        refine xr_goto (tgt := 176) dX10_one_226 rfl ?_
                        refine xr_iload dX10_one_176 0 rfl ?_
                        refine xr_iconst (v := 4) dX10_one_178 rfl ?_
                        refine xr_icmp_ge (tgt := 229) dX10_one_179 rfl (fun c => absurd c (by decide)) (fun _ => ?_)
                        refine xr_aload_n dX10_one_182 4 rfl ?_
                        refine xr_callV (As := []) (rest := []) mlX10_177 (g_X10_byteAt hbs (Eq.trans (x_up_k _ _ _ (by decide)) (Eq.trans (x_up_k _ _ _ (by decide)) (Eq.trans (x_up_k _ _ _ (by decide)) e_bs))) (by omega) (x_up_s _ _ _ _) (by omega) (Eq.trans (x_up_k _ _ _ (by decide)) (Eq.trans (x_up_k _ _ _ (by decide)) (Eq.trans (x_up_k _ _ _ (by decide)) e_E)))) dX10_one_183 s_62 rfl rfl (Nat.le_of_ble_eq_true rfl) (by omega) ⟨by decide, by decide⟩ (fun v s2 M9 J2 hq => ?_)
                        obtain ⟨r54, rfl, rfl, rfl, rfl, hx53⟩ := hq
                        try dsimp only [Option.toList, List.cons_append, List.nil_append]
                        refine xr_bipush (v := 48) dX10_one_186 rfl ?_
                        refine xr_icmp_lt (tgt := 229) dX10_one_188 rfl (fun c55 => ?_) (fun c55 => ?_)
                        · refine xr_iload dX10_one_229 0 rfl ?_
                          refine xr_if_ne (tgt := 241) dX10_one_231 rfl (fun _ => ?_) (fun c => absurd c (by decide))
                          refine xr_iload_n dX10_one_241 1 rfl ?_
                          exact xr_iret dX10_one_242 rfl rfl (⟨_, rfl, rfl, rfl, (Ke.up (Or.inl (by omega)) (Ke.up (Or.inl (by omega)) (Ke.up (Or.inl (by omega)) Ke.rf))), ⟨a + 1 + 1 + 1, o, by omega, by omega, by omega, by omega, (x_up_s _ _ _ _), (Eq.trans (x_up_k _ _ _ (by decide)) (Eq.trans (x_up_k _ _ _ (by decide)) (Eq.trans (x_up_k _ _ _ (by decide)) e_o))), (fun _ => rfl)⟩⟩)
                        · refine xr_aload_n dX10_one_191 4 rfl ?_
                          refine xr_callV (As := []) (rest := []) mlX10_177 (g_X10_byteAt hbs (Eq.trans (x_up_k _ _ _ (by decide)) (Eq.trans (x_up_k _ _ _ (by decide)) (Eq.trans (x_up_k _ _ _ (by decide)) e_bs))) (by omega) (x_up_s _ _ _ _) (by omega) (Eq.trans (x_up_k _ _ _ (by decide)) (Eq.trans (x_up_k _ _ _ (by decide)) (Eq.trans (x_up_k _ _ _ (by decide)) e_E)))) dX10_one_192 s_62 rfl rfl (Nat.le_of_ble_eq_true rfl) (by omega) ⟨by decide, by decide⟩ (fun v s2 M9 J2 hq => ?_)
                          obtain ⟨r57, rfl, rfl, rfl, rfl, hx56⟩ := hq
                          try dsimp only [Option.toList, List.cons_append, List.nil_append]
                          refine xr_bipush (v := 57) dX10_one_195 rfl ?_
                          refine xr_icmp_gt (tgt := 229) dX10_one_197 rfl (fun c58 => ?_) (fun c58 => ?_)
                          · refine xr_iload dX10_one_229 0 rfl ?_
                            refine xr_if_ne (tgt := 241) dX10_one_231 rfl (fun _ => ?_) (fun c => absurd c (by decide))
                            refine xr_iload_n dX10_one_241 1 rfl ?_
                            exact xr_iret dX10_one_242 rfl rfl (⟨_, rfl, rfl, rfl, (Ke.up (Or.inl (by omega)) (Ke.up (Or.inl (by omega)) (Ke.up (Or.inl (by omega)) Ke.rf))), ⟨a + 1 + 1 + 1, o, by omega, by omega, by omega, by omega, (x_up_s _ _ _ _), (Eq.trans (x_up_k _ _ _ (by decide)) (Eq.trans (x_up_k _ _ _ (by decide)) (Eq.trans (x_up_k _ _ _ (by decide)) e_o))), (fun _ => rfl)⟩⟩)
                          · refine xr_bipush (v := 10) dX10_one_200 rfl ?_
                            refine xr_iload_n dX10_one_202 1 rfl ?_
                            refine xr_imul dX10_one_203 ?_
                            refine xr_aload_n dX10_one_204 4 rfl ?_
                            refine xr_callV (As := []) (rest := [.int ((10 * (((10 * (((10 * ((0 + r33) - 48)) + r42) - 48)) + r51) - 48)))]) mlX10_177 (g_X10_byteAt hbs (Eq.trans (x_up_k _ _ _ (by decide)) (Eq.trans (x_up_k _ _ _ (by decide)) (Eq.trans (x_up_k _ _ _ (by decide)) e_bs))) (by omega) (x_up_s _ _ _ _) (by omega) (Eq.trans (x_up_k _ _ _ (by decide)) (Eq.trans (x_up_k _ _ _ (by decide)) (Eq.trans (x_up_k _ _ _ (by decide)) e_E)))) dX10_one_205 s_62 rfl rfl (Nat.le_of_ble_eq_true rfl) (by omega) ⟨by decide, by decide⟩ (fun v s2 M9 J2 hq => ?_)
                            obtain ⟨r60, rfl, rfl, rfl, rfl, hx59⟩ := hq
                            try dsimp only [Option.toList, List.cons_append, List.nil_append]
                            refine xr_iadd dX10_one_208 ?_
                            refine xr_bipush (v := 48) dX10_one_209 rfl ?_
                            refine xr_isub dX10_one_211 ?_
                            refine xr_istore_n (ls2 := [(3, .int ((((10 * (((10 * (((10 * ((0 + r33) - 48)) + r42) - 48)) + r51) - 48)) + r60) - 48))), (4, .int (3)), (2, .int (r16)), (1, .int (r3)), (0, .ref (62))]) dX10_one_212 (by decide) rfl ?_
                            have haE61 : a + 1 + 1 + 1 < E := Or.resolve_left hx53 (fun q => by grind)
                            refine xr_iinc (v := 4) (ls2 := [(4, .int (4)), (3, .int ((((10 * (((10 * (((10 * ((0 + r33) - 48)) + r42) - 48)) + r51) - 48)) + r60) - 48))), (2, .int (r16)), (1, .int (r3)), (0, .ref (62))]) dX10_one_213 1 rfl rfl (by decide) rfl ?_
                            refine xr_aload_n dX10_one_216 4 rfl ?_
                            refine xr_dup dX10_one_217 rfl ?_
                            refine xb_get (v := nI (a + 1 + 1 + 1)) flX10_165 dX10_one_218 s_62 rfl (x_up_s _ _ _ _) ?_
                            refine xr_iconst (v := 1) dX10_one_221 rfl ?_
                            refine xr_iadd dX10_one_222 ?_
                            refine xb_top (y := nI (a + 1 + 1 + 1 + 1)) (nI_add (a + 1 + 1 + 1) (1)) ?_
                            refine xr_putI fpX10_165 dX10_one_223 s_62 rfl rfl rfl ?_
                            refine xr_goto (tgt := 176) dX10_one_226 rfl ?_
                            refine xr_iload dX10_one_176 0 rfl ?_
                            refine xr_iconst (v := 4) dX10_one_178 rfl ?_
                            refine xr_icmp_ge (tgt := 229) dX10_one_179 rfl (fun _ => ?_) (fun c => absurd (by decide) c)
                            refine xr_iload dX10_one_229 0 rfl ?_
                            refine xr_if_ne (tgt := 241) dX10_one_231 rfl (fun _ => ?_) (fun c => absurd c (by decide))
                            refine xr_iload_n dX10_one_241 1 rfl ?_
                            exact xr_iret dX10_one_242 rfl rfl (⟨_, rfl, rfl, rfl, (Ke.up (Or.inl (by omega)) (Ke.up (Or.inl (by omega)) (Ke.up (Or.inl (by omega)) (Ke.up (Or.inl (by omega)) Ke.rf)))), ⟨a + 1 + 1 + 1 + 1, o, by omega, by omega, by omega, by omega, (x_up_s _ _ _ _), (Eq.trans (x_up_k _ _ _ (by decide)) (Eq.trans (x_up_k _ _ _ (by decide)) (Eq.trans (x_up_k _ _ _ (by decide)) (Eq.trans (x_up_k _ _ _ (by decide)) e_o)))), (fun _ => rfl)⟩⟩)
          · have haE1 : a < E := Or.resolve_left hx2 (Or.resolve_left hx15.2 c17)
            obtain ⟨nk, hnk, enk⟩ := x_natle (v := r16) (N := 5) (K := 5) (by decide) (by decide) ⟨by grind, hx15.1⟩
            refine xr_aload_n dX10_one_154 2 rfl ?_
            refine xr_dup dX10_one_155 rfl ?_
            refine xb_get (v := nI (a)) flX10_165 dX10_one_156 s_62 rfl e_a ?_
            refine xr_iconst (v := 1) dX10_one_159 rfl ?_
            refine xr_iadd dX10_one_160 ?_
            refine xb_top (y := nI (a + 1)) (nI_add (a) (1)) ?_
            refine xr_putI fpX10_165 dX10_one_161 s_62 rfl rfl rfl ?_
            refine xr_aload_n dX10_one_164 2 rfl ?_
            refine xr_getR flX10_34 dX10_one_165 s_62 rfl ?_
            refine xr_iload_n dX10_one_168 0 rfl ?_
            refine xb_top (y := nI nk) enk ?_
            refine xb_iald (j := nk) (v := (x_up M 62 15 (nI (a + 1))) 71 nk) dX10_one_169 s_71 (by omega) (by decide) rfl ?_
            exact xr_iret dX10_one_170 rfl rfl (⟨_, rfl, rfl, rfl, (Ke.up (Or.inl (by omega)) Ke.rf), ⟨a + 1, o, by omega, by omega, by omega, by omega, (x_up_s _ _ _ _), (Eq.trans (x_up_k _ _ _ (by decide)) e_o), (fun _ => rfl)⟩⟩)
        · have haE1 : a < E := Or.resolve_left hx2 (fun q => by grind)
          refine xr_aload_n dX10_one_32 1 rfl ?_
          refine xb_get (v := nI (o)) flX10_199 dX10_one_33 s_62 rfl e_o ?_
          refine xr_bipush (v := 6) dX10_one_36 rfl ?_
          refine xr_icmp_ne (tgt := 46) dX10_one_38 rfl (fun c => absurd (by have h6 : o = 6 := (by omega); rw [h6]; rfl) c) (fun _ => ?_)
          refine xr_aload_n dX10_one_41 1 rfl ?_
          refine xr_callV (As := []) (rest := []) mlX10_202 (g_X10_wrong (by omega) e_a) dX10_one_42 s_62 rfl rfl (Nat.le_of_ble_eq_true rfl) (by omega) ⟨by decide, by decide⟩ (fun v s2 M63 J2 hq => ?_)
          obtain ⟨r65, rfl, rfl, rfl, k64, hx62⟩ := hq
          try dsimp only [Option.toList, List.cons_append, List.nil_append]
          exact xr_iret dX10_one_45 rfl rfl (⟨_, rfl, rfl, rfl, (Ke.tr (fun pp kk h => (Or.inr (Or.inl h))) Ke.rf k64), ⟨a, o, by omega, by omega, by omega, by omega, (Eq.trans (k64 62 15 (by decide)) e_a), (Eq.trans (k64 62 18 (by decide)) e_o), (fun q => absurd q (by have := hx62.2; grind))⟩⟩)
  · refine xr_iconst (v := 0) dX10_one_7 rfl ?_
    exact xr_iret dX10_one_8 rfl rfl (⟨_, rfl, rfl, rfl, Ke.rf, ⟨a, o, by omega, by omega, by omega, by omega, e_a, e_o, (fun _ => rfl)⟩⟩)
set_option maxRecDepth 100000 in
set_option maxHeartbeats 4000000 in
theorem lv_oneS {u : Nat} (h0 : LV fX10_one (8 * u + 3) u) (h1 : LV fX10_either (8 * u + 8) u) : LV fX10_one (8 * (u + 1) + 3) (u + 1) := by
  intro l G M J bs a E o hbs e_bs haE hE e_a e_E ho e_o
  refine xb_of pX10 (Nat.le_of_ble_eq_true rfl) rfl ?_
  refine xr_aload_n dX10_one_0 0 rfl ?_
  refine xb_get (v := M 62 17) flX10_174 dX10_one_1 s_62 rfl rfl ?_
  refine xr_if_lt (tgt := 9) dX10_one_4 rfl (fun c1 => ?_) (fun c1 => ?_)
  · refine xr_aload_n dX10_one_9 0 rfl ?_
    refine xr_callV (As := []) (rest := []) mlX10_177 (g_X10_byteAt hbs e_bs (by omega) e_a (by omega) e_E) dX10_one_10 s_62 rfl rfl (Nat.le_of_ble_eq_true rfl) (by omega) ⟨by decide, by decide⟩ (fun v s2 M9 J2 hq => ?_)
    obtain ⟨r3, rfl, rfl, rfl, rfl, hx2⟩ := hq
    try dsimp only [Option.toList, List.cons_append, List.nil_append]
    refine xr_istore_n (ls2 := [(1, .int (r3)), (0, .ref (62))]) dX10_one_13 (by decide) rfl ?_
    refine xr_iload_n dX10_one_14 0 rfl ?_
    refine xr_bipush (v := 33) dX10_one_15 rfl ?_
    refine xr_icmp_eq (tgt := 32) dX10_one_17 rfl (fun c4 => ?_) (fun c4 => ?_)
    · have haE1 : a < E := Or.resolve_left hx2 (fun q => by grind)
      refine xr_aload_n dX10_one_32 1 rfl ?_
      refine xb_get (v := nI (o)) flX10_199 dX10_one_33 s_62 rfl e_o ?_
      refine xr_bipush (v := 6) dX10_one_36 rfl ?_
      refine xr_icmp_ne (tgt := 46) dX10_one_38 rfl (fun _ => ?_) (fun c => absurd c (fun q => absurd ((nI_eq (a := o) (b := 6) (by omega) (by decide)).mp q) (by omega)))
      refine xr_aload_n dX10_one_46 1 rfl ?_
      refine xr_dup dX10_one_47 rfl ?_
      refine xb_get (v := nI (o)) flX10_199 dX10_one_48 s_62 rfl e_o ?_
      refine xr_iconst (v := 1) dX10_one_51 rfl ?_
      refine xr_iadd dX10_one_52 ?_
      refine xb_top (y := nI (o + 1)) (nI_add (o) (1)) ?_
      refine xr_putI fpX10_199 dX10_one_53 s_62 rfl rfl rfl ?_
      refine xr_aload_n dX10_one_56 1 rfl ?_
      refine xr_dup dX10_one_57 rfl ?_
      refine xb_get (v := nI (a)) flX10_165 dX10_one_58 s_62 rfl (Eq.trans (x_up_k _ _ _ (by decide)) e_a) ?_
      refine xr_iconst (v := 1) dX10_one_61 rfl ?_
      refine xr_iadd dX10_one_62 ?_
      refine xb_top (y := nI (a + 1)) (nI_add (a) (1)) ?_
      refine xr_putI fpX10_165 dX10_one_63 s_62 rfl rfl rfl ?_
      refine xr_iload_n dX10_one_66 0 rfl ?_
      refine xr_bipush (v := 40) dX10_one_67 rfl ?_
      refine xr_icmp_ne (tgt := 79) dX10_one_69 rfl (fun c5 => ?_) (fun c5 => ?_)
      · refine xr_aload_n dX10_one_79 1 rfl ?_
        refine xr_callV (As := []) (rest := []) mlX10_196 (h0 l G (x_up (x_up M 62 18 (nI (o + 1))) 62 15 (nI (a + 1))) J bs (a + 1) E (o + 1) hbs (Eq.trans (x_up_k _ _ _ (by decide)) (Eq.trans (x_up_k _ _ _ (by decide)) e_bs)) (by omega) (by omega) (x_up_s _ _ _ _) (Eq.trans (x_up_k _ _ _ (by decide)) (Eq.trans (x_up_k _ _ _ (by decide)) e_E)) (by omega) (Eq.trans (x_up_k _ _ _ (by decide)) (x_up_s _ _ _ _))) dX10_one_80 s_62 rfl rfl (Nat.le_of_ble_eq_true rfl) (by omega) ⟨by decide, by decide⟩ (fun v s2 M10 J2 hq => ?_)
        obtain ⟨r12, rfl, rfl, rfl, k11, ⟨a7, o8, a7a, a7b, o8d, o8c, ea7, eo8, hf9⟩⟩ := hq
        try dsimp only [Option.toList, List.cons_append, List.nil_append]
        obtain ⟨o8_, rfl⟩ : ∃ q, o8 = q + 1 := ⟨o8 - 1, by omega⟩
        refine xr_istore_n (ls2 := [(2, .int (r12)), (1, .int (r3)), (0, .ref (62))]) dX10_one_83 (by decide) rfl ?_
        refine xr_iload_n dX10_one_84 1 rfl ?_
        refine xr_bipush (v := 40) dX10_one_85 rfl ?_
        refine xr_icmp_ne (tgt := 104) dX10_one_87 rfl (fun c13 => ?_) (fun c13 => ?_)
        · refine xr_aload_n dX10_one_104 2 rfl ?_
          refine xr_dup dX10_one_105 rfl ?_
          refine xb_get (v := nI (o8_ + 1)) flX10_199 dX10_one_106 s_62 rfl eo8 ?_
          refine xr_iconst (v := 1) dX10_one_109 rfl ?_
          refine xr_isub dX10_one_110 ?_
          refine xb_top (y := nI o8_) (nI_pred o8_) ?_
          refine xr_putI fpX10_199 dX10_one_111 s_62 rfl rfl rfl ?_
          refine xr_iload_n dX10_one_114 1 rfl ?_
          refine xr_bipush (v := 40) dX10_one_115 rfl ?_
          refine xr_icmp_ne (tgt := 124) dX10_one_117 rfl (fun c14 => ?_) (fun c14 => ?_)
          · refine xr_iload_n dX10_one_124 1 rfl ?_
            refine xr_bipush (v := 45) dX10_one_125 rfl ?_
            refine xr_icmp_ne (tgt := 135) dX10_one_127 rfl (fun c15 => ?_) (fun c15 => ?_)
            · refine xr_iload_n dX10_one_135 0 rfl ?_
              refine xr_if_ne (tgt := 143) dX10_one_136 rfl (fun c16 => ?_) (fun c16 => ?_)
              · refine xr_iconst (v := 0) dX10_one_143 rfl ?_
                exact xr_iret dX10_one_144 rfl rfl (⟨_, rfl, rfl, rfl, (Ke.up (Or.inr (Or.inr (by omega))) (Ke.tr (fun _ _ h => h) (Ke.up (Or.inl (by omega)) (Ke.up (Or.inr (Or.inr (by omega))) Ke.rf)) k11)), ⟨a7, o8_, by omega, by omega, by omega, by omega, (Eq.trans (x_up_k _ _ _ (by decide)) ea7), (x_up_s _ _ _ _), (fun q => Nat.succ.inj (hf9 q))⟩⟩)
              · refine xr_iconst (v := 1) dX10_one_139 rfl ?_
                refine xr_goto (tgt := 144) dX10_one_140 rfl ?_
                exact xr_iret dX10_one_144 rfl rfl (⟨_, rfl, rfl, rfl, (Ke.up (Or.inr (Or.inr (by omega))) (Ke.tr (fun _ _ h => h) (Ke.up (Or.inl (by omega)) (Ke.up (Or.inr (Or.inr (by omega))) Ke.rf)) k11)), ⟨a7, o8_, by omega, by omega, by omega, by omega, (Eq.trans (x_up_k _ _ _ (by decide)) ea7), (x_up_s _ _ _ _), (fun q => Nat.succ.inj (hf9 q))⟩⟩)
            · refine xr_iload_n dX10_one_130 0 rfl ?_
              refine xr_ineg dX10_one_131 ?_
              refine xr_goto (tgt := 144) dX10_one_132 rfl ?_
              exact xr_iret dX10_one_144 rfl rfl (⟨_, rfl, rfl, rfl, (Ke.up (Or.inr (Or.inr (by omega))) (Ke.tr (fun _ _ h => h) (Ke.up (Or.inl (by omega)) (Ke.up (Or.inr (Or.inr (by omega))) Ke.rf)) k11)), ⟨a7, o8_, by omega, by omega, by omega, by omega, (Eq.trans (x_up_k _ _ _ (by decide)) ea7), (x_up_s _ _ _ _), (fun q => Nat.succ.inj (hf9 q))⟩⟩)
          · refine xr_iload_n dX10_one_120 0 rfl ?_
            refine xr_goto (tgt := 144) dX10_one_121 rfl ?_
            exact xr_iret dX10_one_144 rfl rfl (⟨_, rfl, rfl, rfl, (Ke.up (Or.inr (Or.inr (by omega))) (Ke.tr (fun _ _ h => h) (Ke.up (Or.inl (by omega)) (Ke.up (Or.inr (Or.inr (by omega))) Ke.rf)) k11)), ⟨a7, o8_, by omega, by omega, by omega, by omega, (Eq.trans (x_up_k _ _ _ (by decide)) ea7), (x_up_s _ _ _ _), (fun q => Nat.succ.inj (hf9 q))⟩⟩)
        · refine xr_aload_n dX10_one_90 2 rfl ?_
          refine xr_bipush (v := 41) dX10_one_91 rfl ?_
          refine xr_callV (As := [.int (41)]) (rest := []) mlX10_184 (g_X10_takes 41 (by decide) hbs (Eq.trans (k11 62 14 (by decide)) (Eq.trans (x_up_k _ _ _ (by decide)) (Eq.trans (x_up_k _ _ _ (by decide)) e_bs))) (by omega) ea7 (by omega) (Eq.trans (k11 62 16 (by decide)) (Eq.trans (x_up_k _ _ _ (by decide)) (Eq.trans (x_up_k _ _ _ (by decide)) e_E)))) dX10_one_93 s_62 rfl rfl (Nat.le_of_ble_eq_true rfl) (by omega) ⟨by decide, by decide⟩ (fun v s2 M18 J2 hq => ?_)
          obtain ⟨r20, rfl, rfl, rfl, k19, hx17⟩ := hq
          try dsimp only [Option.toList, List.cons_append, List.nil_append]
          refine xr_if_ne (tgt := 104) dX10_one_96 rfl (fun c21 => ?_) (fun c21 => ?_)
          · obtain ⟨-, hff, ha5, ea5⟩ := Or.resolve_left hx17 (fun q => c21 q.1)
            refine xr_aload_n dX10_one_104 2 rfl ?_
            refine xr_dup dX10_one_105 rfl ?_
            refine xb_get (v := nI (o8_ + 1)) flX10_199 dX10_one_106 s_62 rfl (Eq.trans (k19 62 18 (by decide)) eo8) ?_
            refine xr_iconst (v := 1) dX10_one_109 rfl ?_
            refine xr_isub dX10_one_110 ?_
            refine xb_top (y := nI o8_) (nI_pred o8_) ?_
            refine xr_putI fpX10_199 dX10_one_111 s_62 rfl rfl rfl ?_
            refine xr_iload_n dX10_one_114 1 rfl ?_
            refine xr_bipush (v := 40) dX10_one_115 rfl ?_
            refine xr_icmp_ne (tgt := 124) dX10_one_117 rfl (fun c22 => ?_) (fun c22 => ?_)
            · refine xr_iload_n dX10_one_124 1 rfl ?_
              refine xr_bipush (v := 45) dX10_one_125 rfl ?_
              refine xr_icmp_ne (tgt := 135) dX10_one_127 rfl (fun c23 => ?_) (fun c23 => ?_)
              · refine xr_iload_n dX10_one_135 0 rfl ?_
                refine xr_if_ne (tgt := 143) dX10_one_136 rfl (fun c24 => ?_) (fun c24 => ?_)
                · refine xr_iconst (v := 0) dX10_one_143 rfl ?_
                  exact xr_iret dX10_one_144 rfl rfl (⟨_, rfl, rfl, rfl, (Ke.up (Or.inr (Or.inr (by omega))) (Ke.tr (fun pp kk h => (Or.inl h)) (Ke.tr (fun _ _ h => h) (Ke.up (Or.inl (by omega)) (Ke.up (Or.inr (Or.inr (by omega))) Ke.rf)) k11) k19)), ⟨a7 + 1, o8_, by omega, by omega, by omega, by omega, (Eq.trans (x_up_k _ _ _ (by decide)) ea5), (x_up_s _ _ _ _), (fun q => Nat.succ.inj ((fun q => hf9 (by rw [← k19 62 17 (by decide)]; exact q)) q))⟩⟩)
                · refine xr_iconst (v := 1) dX10_one_139 rfl ?_
                  refine xr_goto (tgt := 144) dX10_one_140 rfl ?_
                  exact xr_iret dX10_one_144 rfl rfl (⟨_, rfl, rfl, rfl, (Ke.up (Or.inr (Or.inr (by omega))) (Ke.tr (fun pp kk h => (Or.inl h)) (Ke.tr (fun _ _ h => h) (Ke.up (Or.inl (by omega)) (Ke.up (Or.inr (Or.inr (by omega))) Ke.rf)) k11) k19)), ⟨a7 + 1, o8_, by omega, by omega, by omega, by omega, (Eq.trans (x_up_k _ _ _ (by decide)) ea5), (x_up_s _ _ _ _), (fun q => Nat.succ.inj ((fun q => hf9 (by rw [← k19 62 17 (by decide)]; exact q)) q))⟩⟩)
              · refine xr_iload_n dX10_one_130 0 rfl ?_
                refine xr_ineg dX10_one_131 ?_
                refine xr_goto (tgt := 144) dX10_one_132 rfl ?_
                exact xr_iret dX10_one_144 rfl rfl (⟨_, rfl, rfl, rfl, (Ke.up (Or.inr (Or.inr (by omega))) (Ke.tr (fun pp kk h => (Or.inl h)) (Ke.tr (fun _ _ h => h) (Ke.up (Or.inl (by omega)) (Ke.up (Or.inr (Or.inr (by omega))) Ke.rf)) k11) k19)), ⟨a7 + 1, o8_, by omega, by omega, by omega, by omega, (Eq.trans (x_up_k _ _ _ (by decide)) ea5), (x_up_s _ _ _ _), (fun q => Nat.succ.inj ((fun q => hf9 (by rw [← k19 62 17 (by decide)]; exact q)) q))⟩⟩)
            · refine xr_iload_n dX10_one_120 0 rfl ?_
              refine xr_goto (tgt := 144) dX10_one_121 rfl ?_
              exact xr_iret dX10_one_144 rfl rfl (⟨_, rfl, rfl, rfl, (Ke.up (Or.inr (Or.inr (by omega))) (Ke.tr (fun pp kk h => (Or.inl h)) (Ke.tr (fun _ _ h => h) (Ke.up (Or.inl (by omega)) (Ke.up (Or.inr (Or.inr (by omega))) Ke.rf)) k11) k19)), ⟨a7 + 1, o8_, by omega, by omega, by omega, by omega, (Eq.trans (x_up_k _ _ _ (by decide)) ea5), (x_up_s _ _ _ _), (fun q => Nat.succ.inj ((fun q => hf9 (by rw [← k19 62 17 (by decide)]; exact q)) q))⟩⟩)
          · have ea5 := (Or.resolve_right hx17 (fun q => absurd (c21.symm.trans q.1) (by decide))).2
            refine xr_aload_n dX10_one_99 2 rfl ?_
            refine xr_callV (As := []) (rest := []) mlX10_202 (g_X10_wrong (by omega) ea5) dX10_one_100 s_62 rfl rfl (Nat.le_of_ble_eq_true rfl) (by omega) ⟨by decide, by decide⟩ (fun v s2 M26 J2 hq => ?_)
            obtain ⟨r28, rfl, rfl, rfl, k27, hx25⟩ := hq
            try dsimp only [Option.toList, List.cons_append, List.nil_append]
            exact xr_iret dX10_one_103 rfl rfl (⟨_, rfl, rfl, rfl, (Ke.tr (fun pp kk h => (Or.inr (Or.inl h))) (Ke.tr (fun pp kk h => (Or.inl h)) (Ke.tr (fun _ _ h => h) (Ke.up (Or.inl (by omega)) (Ke.up (Or.inr (Or.inr (by omega))) Ke.rf)) k11) k19) k27), ⟨a7, o8_ + 1, by omega, by omega, by omega, by omega, (Eq.trans (k27 62 15 (by decide)) ea5), (Eq.trans (k27 62 18 (by decide)) (Eq.trans (k19 62 18 (by decide)) eo8)), (fun q => absurd q (by have := hx25.2; grind))⟩⟩)
      · refine xr_aload_n dX10_one_72 1 rfl ?_
        refine xr_callV (As := []) (rest := []) mlX10_205 (h1 l G (x_up (x_up M 62 18 (nI (o + 1))) 62 15 (nI (a + 1))) J bs (a + 1) E (o + 1) hbs (Eq.trans (x_up_k _ _ _ (by decide)) (Eq.trans (x_up_k _ _ _ (by decide)) e_bs)) (by omega) (by omega) (x_up_s _ _ _ _) (Eq.trans (x_up_k _ _ _ (by decide)) (Eq.trans (x_up_k _ _ _ (by decide)) e_E)) (by omega) (Eq.trans (x_up_k _ _ _ (by decide)) (x_up_s _ _ _ _))) dX10_one_73 s_62 rfl rfl (Nat.le_of_ble_eq_true rfl) (by omega) ⟨by decide, by decide⟩ (fun v s2 M33 J2 hq => ?_)
        obtain ⟨r35, rfl, rfl, rfl, k34, ⟨a30, o31, a30a, a30b, o31d, o31c, ea30, eo31, hf32⟩⟩ := hq
        try dsimp only [Option.toList, List.cons_append, List.nil_append]
        obtain ⟨o31_, rfl⟩ : ∃ q, o31 = q + 1 := ⟨o31 - 1, by omega⟩
        refine xr_goto (tgt := 83) dX10_one_76 rfl ?_
        refine xr_istore_n (ls2 := [(2, .int (r35)), (1, .int (r3)), (0, .ref (62))]) dX10_one_83 (by decide) rfl ?_
        refine xr_iload_n dX10_one_84 1 rfl ?_
        refine xr_bipush (v := 40) dX10_one_85 rfl ?_
        refine xr_icmp_ne (tgt := 104) dX10_one_87 rfl (fun c36 => ?_) (fun c36 => ?_)
        · refine xr_aload_n dX10_one_104 2 rfl ?_
          refine xr_dup dX10_one_105 rfl ?_
          refine xb_get (v := nI (o31_ + 1)) flX10_199 dX10_one_106 s_62 rfl eo31 ?_
          refine xr_iconst (v := 1) dX10_one_109 rfl ?_
          refine xr_isub dX10_one_110 ?_
          refine xb_top (y := nI o31_) (nI_pred o31_) ?_
          refine xr_putI fpX10_199 dX10_one_111 s_62 rfl rfl rfl ?_
          refine xr_iload_n dX10_one_114 1 rfl ?_
          refine xr_bipush (v := 40) dX10_one_115 rfl ?_
          refine xr_icmp_ne (tgt := 124) dX10_one_117 rfl (fun c37 => ?_) (fun c37 => ?_)
          · refine xr_iload_n dX10_one_124 1 rfl ?_
            refine xr_bipush (v := 45) dX10_one_125 rfl ?_
            refine xr_icmp_ne (tgt := 135) dX10_one_127 rfl (fun c38 => ?_) (fun c38 => ?_)
            · refine xr_iload_n dX10_one_135 0 rfl ?_
              refine xr_if_ne (tgt := 143) dX10_one_136 rfl (fun c39 => ?_) (fun c39 => ?_)
              · refine xr_iconst (v := 0) dX10_one_143 rfl ?_
                exact xr_iret dX10_one_144 rfl rfl (⟨_, rfl, rfl, rfl, (Ke.up (Or.inr (Or.inr (by omega))) (Ke.tr (fun _ _ h => h) (Ke.up (Or.inl (by omega)) (Ke.up (Or.inr (Or.inr (by omega))) Ke.rf)) k34)), ⟨a30, o31_, by omega, by omega, by omega, by omega, (Eq.trans (x_up_k _ _ _ (by decide)) ea30), (x_up_s _ _ _ _), (fun q => Nat.succ.inj (hf32 q))⟩⟩)
              · refine xr_iconst (v := 1) dX10_one_139 rfl ?_
                refine xr_goto (tgt := 144) dX10_one_140 rfl ?_
                exact xr_iret dX10_one_144 rfl rfl (⟨_, rfl, rfl, rfl, (Ke.up (Or.inr (Or.inr (by omega))) (Ke.tr (fun _ _ h => h) (Ke.up (Or.inl (by omega)) (Ke.up (Or.inr (Or.inr (by omega))) Ke.rf)) k34)), ⟨a30, o31_, by omega, by omega, by omega, by omega, (Eq.trans (x_up_k _ _ _ (by decide)) ea30), (x_up_s _ _ _ _), (fun q => Nat.succ.inj (hf32 q))⟩⟩)
            · refine xr_iload_n dX10_one_130 0 rfl ?_
              refine xr_ineg dX10_one_131 ?_
              refine xr_goto (tgt := 144) dX10_one_132 rfl ?_
              exact xr_iret dX10_one_144 rfl rfl (⟨_, rfl, rfl, rfl, (Ke.up (Or.inr (Or.inr (by omega))) (Ke.tr (fun _ _ h => h) (Ke.up (Or.inl (by omega)) (Ke.up (Or.inr (Or.inr (by omega))) Ke.rf)) k34)), ⟨a30, o31_, by omega, by omega, by omega, by omega, (Eq.trans (x_up_k _ _ _ (by decide)) ea30), (x_up_s _ _ _ _), (fun q => Nat.succ.inj (hf32 q))⟩⟩)
          · refine xr_iload_n dX10_one_120 0 rfl ?_
            refine xr_goto (tgt := 144) dX10_one_121 rfl ?_
            exact xr_iret dX10_one_144 rfl rfl (⟨_, rfl, rfl, rfl, (Ke.up (Or.inr (Or.inr (by omega))) (Ke.tr (fun _ _ h => h) (Ke.up (Or.inl (by omega)) (Ke.up (Or.inr (Or.inr (by omega))) Ke.rf)) k34)), ⟨a30, o31_, by omega, by omega, by omega, by omega, (Eq.trans (x_up_k _ _ _ (by decide)) ea30), (x_up_s _ _ _ _), (fun q => Nat.succ.inj (hf32 q))⟩⟩)
        · refine xr_aload_n dX10_one_90 2 rfl ?_
          refine xr_bipush (v := 41) dX10_one_91 rfl ?_
          refine xr_callV (As := [.int (41)]) (rest := []) mlX10_184 (g_X10_takes 41 (by decide) hbs (Eq.trans (k34 62 14 (by decide)) (Eq.trans (x_up_k _ _ _ (by decide)) (Eq.trans (x_up_k _ _ _ (by decide)) e_bs))) (by omega) ea30 (by omega) (Eq.trans (k34 62 16 (by decide)) (Eq.trans (x_up_k _ _ _ (by decide)) (Eq.trans (x_up_k _ _ _ (by decide)) e_E)))) dX10_one_93 s_62 rfl rfl (Nat.le_of_ble_eq_true rfl) (by omega) ⟨by decide, by decide⟩ (fun v s2 M41 J2 hq => ?_)
          obtain ⟨r43, rfl, rfl, rfl, k42, hx40⟩ := hq
          try dsimp only [Option.toList, List.cons_append, List.nil_append]
          refine xr_if_ne (tgt := 104) dX10_one_96 rfl (fun c44 => ?_) (fun c44 => ?_)
          · obtain ⟨-, hff, ha5, ea5⟩ := Or.resolve_left hx40 (fun q => c44 q.1)
            refine xr_aload_n dX10_one_104 2 rfl ?_
            refine xr_dup dX10_one_105 rfl ?_
            refine xb_get (v := nI (o31_ + 1)) flX10_199 dX10_one_106 s_62 rfl (Eq.trans (k42 62 18 (by decide)) eo31) ?_
            refine xr_iconst (v := 1) dX10_one_109 rfl ?_
            refine xr_isub dX10_one_110 ?_
            refine xb_top (y := nI o31_) (nI_pred o31_) ?_
            refine xr_putI fpX10_199 dX10_one_111 s_62 rfl rfl rfl ?_
            refine xr_iload_n dX10_one_114 1 rfl ?_
            refine xr_bipush (v := 40) dX10_one_115 rfl ?_
            refine xr_icmp_ne (tgt := 124) dX10_one_117 rfl (fun c45 => ?_) (fun c45 => ?_)
            · refine xr_iload_n dX10_one_124 1 rfl ?_
              refine xr_bipush (v := 45) dX10_one_125 rfl ?_
              refine xr_icmp_ne (tgt := 135) dX10_one_127 rfl (fun c46 => ?_) (fun c46 => ?_)
              · refine xr_iload_n dX10_one_135 0 rfl ?_
                refine xr_if_ne (tgt := 143) dX10_one_136 rfl (fun c47 => ?_) (fun c47 => ?_)
                · refine xr_iconst (v := 0) dX10_one_143 rfl ?_
                  exact xr_iret dX10_one_144 rfl rfl (⟨_, rfl, rfl, rfl, (Ke.up (Or.inr (Or.inr (by omega))) (Ke.tr (fun pp kk h => (Or.inl h)) (Ke.tr (fun _ _ h => h) (Ke.up (Or.inl (by omega)) (Ke.up (Or.inr (Or.inr (by omega))) Ke.rf)) k34) k42)), ⟨a30 + 1, o31_, by omega, by omega, by omega, by omega, (Eq.trans (x_up_k _ _ _ (by decide)) ea5), (x_up_s _ _ _ _), (fun q => Nat.succ.inj ((fun q => hf32 (by rw [← k42 62 17 (by decide)]; exact q)) q))⟩⟩)
                · refine xr_iconst (v := 1) dX10_one_139 rfl ?_
                  refine xr_goto (tgt := 144) dX10_one_140 rfl ?_
                  exact xr_iret dX10_one_144 rfl rfl (⟨_, rfl, rfl, rfl, (Ke.up (Or.inr (Or.inr (by omega))) (Ke.tr (fun pp kk h => (Or.inl h)) (Ke.tr (fun _ _ h => h) (Ke.up (Or.inl (by omega)) (Ke.up (Or.inr (Or.inr (by omega))) Ke.rf)) k34) k42)), ⟨a30 + 1, o31_, by omega, by omega, by omega, by omega, (Eq.trans (x_up_k _ _ _ (by decide)) ea5), (x_up_s _ _ _ _), (fun q => Nat.succ.inj ((fun q => hf32 (by rw [← k42 62 17 (by decide)]; exact q)) q))⟩⟩)
              · refine xr_iload_n dX10_one_130 0 rfl ?_
                refine xr_ineg dX10_one_131 ?_
                refine xr_goto (tgt := 144) dX10_one_132 rfl ?_
                exact xr_iret dX10_one_144 rfl rfl (⟨_, rfl, rfl, rfl, (Ke.up (Or.inr (Or.inr (by omega))) (Ke.tr (fun pp kk h => (Or.inl h)) (Ke.tr (fun _ _ h => h) (Ke.up (Or.inl (by omega)) (Ke.up (Or.inr (Or.inr (by omega))) Ke.rf)) k34) k42)), ⟨a30 + 1, o31_, by omega, by omega, by omega, by omega, (Eq.trans (x_up_k _ _ _ (by decide)) ea5), (x_up_s _ _ _ _), (fun q => Nat.succ.inj ((fun q => hf32 (by rw [← k42 62 17 (by decide)]; exact q)) q))⟩⟩)
            · refine xr_iload_n dX10_one_120 0 rfl ?_
              refine xr_goto (tgt := 144) dX10_one_121 rfl ?_
              exact xr_iret dX10_one_144 rfl rfl (⟨_, rfl, rfl, rfl, (Ke.up (Or.inr (Or.inr (by omega))) (Ke.tr (fun pp kk h => (Or.inl h)) (Ke.tr (fun _ _ h => h) (Ke.up (Or.inl (by omega)) (Ke.up (Or.inr (Or.inr (by omega))) Ke.rf)) k34) k42)), ⟨a30 + 1, o31_, by omega, by omega, by omega, by omega, (Eq.trans (x_up_k _ _ _ (by decide)) ea5), (x_up_s _ _ _ _), (fun q => Nat.succ.inj ((fun q => hf32 (by rw [← k42 62 17 (by decide)]; exact q)) q))⟩⟩)
          · have ea5 := (Or.resolve_right hx40 (fun q => absurd (c44.symm.trans q.1) (by decide))).2
            refine xr_aload_n dX10_one_99 2 rfl ?_
            refine xr_callV (As := []) (rest := []) mlX10_202 (g_X10_wrong (by omega) ea5) dX10_one_100 s_62 rfl rfl (Nat.le_of_ble_eq_true rfl) (by omega) ⟨by decide, by decide⟩ (fun v s2 M49 J2 hq => ?_)
            obtain ⟨r51, rfl, rfl, rfl, k50, hx48⟩ := hq
            try dsimp only [Option.toList, List.cons_append, List.nil_append]
            exact xr_iret dX10_one_103 rfl rfl (⟨_, rfl, rfl, rfl, (Ke.tr (fun pp kk h => (Or.inr (Or.inl h))) (Ke.tr (fun pp kk h => (Or.inl h)) (Ke.tr (fun _ _ h => h) (Ke.up (Or.inl (by omega)) (Ke.up (Or.inr (Or.inr (by omega))) Ke.rf)) k34) k42) k50), ⟨a30, o31_ + 1, by omega, by omega, by omega, by omega, (Eq.trans (k50 62 15 (by decide)) ea5), (Eq.trans (k50 62 18 (by decide)) (Eq.trans (k42 62 18 (by decide)) eo31)), (fun q => absurd q (by have := hx48.2; grind))⟩⟩)
    · refine xr_iload_n dX10_one_20 0 rfl ?_
      refine xr_bipush (v := 45) dX10_one_21 rfl ?_
      refine xr_icmp_eq (tgt := 32) dX10_one_23 rfl (fun c52 => ?_) (fun c52 => ?_)
      · have haE1 : a < E := Or.resolve_left hx2 (fun q => by grind)
        refine xr_aload_n dX10_one_32 1 rfl ?_
        refine xb_get (v := nI (o)) flX10_199 dX10_one_33 s_62 rfl e_o ?_
        refine xr_bipush (v := 6) dX10_one_36 rfl ?_
        refine xr_icmp_ne (tgt := 46) dX10_one_38 rfl (fun _ => ?_) (fun c => absurd c (fun q => absurd ((nI_eq (a := o) (b := 6) (by omega) (by decide)).mp q) (by omega)))
        refine xr_aload_n dX10_one_46 1 rfl ?_
        refine xr_dup dX10_one_47 rfl ?_
        refine xb_get (v := nI (o)) flX10_199 dX10_one_48 s_62 rfl e_o ?_
        refine xr_iconst (v := 1) dX10_one_51 rfl ?_
        refine xr_iadd dX10_one_52 ?_
        refine xb_top (y := nI (o + 1)) (nI_add (o) (1)) ?_
        refine xr_putI fpX10_199 dX10_one_53 s_62 rfl rfl rfl ?_
        refine xr_aload_n dX10_one_56 1 rfl ?_
        refine xr_dup dX10_one_57 rfl ?_
        refine xb_get (v := nI (a)) flX10_165 dX10_one_58 s_62 rfl (Eq.trans (x_up_k _ _ _ (by decide)) e_a) ?_
        refine xr_iconst (v := 1) dX10_one_61 rfl ?_
        refine xr_iadd dX10_one_62 ?_
        refine xb_top (y := nI (a + 1)) (nI_add (a) (1)) ?_
        refine xr_putI fpX10_165 dX10_one_63 s_62 rfl rfl rfl ?_
        refine xr_iload_n dX10_one_66 0 rfl ?_
        refine xr_bipush (v := 40) dX10_one_67 rfl ?_
        refine xr_icmp_ne (tgt := 79) dX10_one_69 rfl (fun c53 => ?_) (fun c53 => ?_)
        · refine xr_aload_n dX10_one_79 1 rfl ?_
          refine xr_callV (As := []) (rest := []) mlX10_196 (h0 l G (x_up (x_up M 62 18 (nI (o + 1))) 62 15 (nI (a + 1))) J bs (a + 1) E (o + 1) hbs (Eq.trans (x_up_k _ _ _ (by decide)) (Eq.trans (x_up_k _ _ _ (by decide)) e_bs)) (by omega) (by omega) (x_up_s _ _ _ _) (Eq.trans (x_up_k _ _ _ (by decide)) (Eq.trans (x_up_k _ _ _ (by decide)) e_E)) (by omega) (Eq.trans (x_up_k _ _ _ (by decide)) (x_up_s _ _ _ _))) dX10_one_80 s_62 rfl rfl (Nat.le_of_ble_eq_true rfl) (by omega) ⟨by decide, by decide⟩ (fun v s2 M58 J2 hq => ?_)
          obtain ⟨r60, rfl, rfl, rfl, k59, ⟨a55, o56, a55a, a55b, o56d, o56c, ea55, eo56, hf57⟩⟩ := hq
          try dsimp only [Option.toList, List.cons_append, List.nil_append]
          obtain ⟨o56_, rfl⟩ : ∃ q, o56 = q + 1 := ⟨o56 - 1, by omega⟩
          refine xr_istore_n (ls2 := [(2, .int (r60)), (1, .int (r3)), (0, .ref (62))]) dX10_one_83 (by decide) rfl ?_
          refine xr_iload_n dX10_one_84 1 rfl ?_
          refine xr_bipush (v := 40) dX10_one_85 rfl ?_
          refine xr_icmp_ne (tgt := 104) dX10_one_87 rfl (fun c61 => ?_) (fun c61 => ?_)
          · refine xr_aload_n dX10_one_104 2 rfl ?_
            refine xr_dup dX10_one_105 rfl ?_
            refine xb_get (v := nI (o56_ + 1)) flX10_199 dX10_one_106 s_62 rfl eo56 ?_
            refine xr_iconst (v := 1) dX10_one_109 rfl ?_
            refine xr_isub dX10_one_110 ?_
            refine xb_top (y := nI o56_) (nI_pred o56_) ?_
            refine xr_putI fpX10_199 dX10_one_111 s_62 rfl rfl rfl ?_
            refine xr_iload_n dX10_one_114 1 rfl ?_
            refine xr_bipush (v := 40) dX10_one_115 rfl ?_
            refine xr_icmp_ne (tgt := 124) dX10_one_117 rfl (fun c62 => ?_) (fun c62 => ?_)
            · refine xr_iload_n dX10_one_124 1 rfl ?_
              refine xr_bipush (v := 45) dX10_one_125 rfl ?_
              refine xr_icmp_ne (tgt := 135) dX10_one_127 rfl (fun c63 => ?_) (fun c63 => ?_)
              · refine xr_iload_n dX10_one_135 0 rfl ?_
                refine xr_if_ne (tgt := 143) dX10_one_136 rfl (fun c64 => ?_) (fun c64 => ?_)
                · refine xr_iconst (v := 0) dX10_one_143 rfl ?_
                  exact xr_iret dX10_one_144 rfl rfl (⟨_, rfl, rfl, rfl, (Ke.up (Or.inr (Or.inr (by omega))) (Ke.tr (fun _ _ h => h) (Ke.up (Or.inl (by omega)) (Ke.up (Or.inr (Or.inr (by omega))) Ke.rf)) k59)), ⟨a55, o56_, by omega, by omega, by omega, by omega, (Eq.trans (x_up_k _ _ _ (by decide)) ea55), (x_up_s _ _ _ _), (fun q => Nat.succ.inj (hf57 q))⟩⟩)
                · refine xr_iconst (v := 1) dX10_one_139 rfl ?_
                  refine xr_goto (tgt := 144) dX10_one_140 rfl ?_
                  exact xr_iret dX10_one_144 rfl rfl (⟨_, rfl, rfl, rfl, (Ke.up (Or.inr (Or.inr (by omega))) (Ke.tr (fun _ _ h => h) (Ke.up (Or.inl (by omega)) (Ke.up (Or.inr (Or.inr (by omega))) Ke.rf)) k59)), ⟨a55, o56_, by omega, by omega, by omega, by omega, (Eq.trans (x_up_k _ _ _ (by decide)) ea55), (x_up_s _ _ _ _), (fun q => Nat.succ.inj (hf57 q))⟩⟩)
              · refine xr_iload_n dX10_one_130 0 rfl ?_
                refine xr_ineg dX10_one_131 ?_
                refine xr_goto (tgt := 144) dX10_one_132 rfl ?_
                exact xr_iret dX10_one_144 rfl rfl (⟨_, rfl, rfl, rfl, (Ke.up (Or.inr (Or.inr (by omega))) (Ke.tr (fun _ _ h => h) (Ke.up (Or.inl (by omega)) (Ke.up (Or.inr (Or.inr (by omega))) Ke.rf)) k59)), ⟨a55, o56_, by omega, by omega, by omega, by omega, (Eq.trans (x_up_k _ _ _ (by decide)) ea55), (x_up_s _ _ _ _), (fun q => Nat.succ.inj (hf57 q))⟩⟩)
            · refine xr_iload_n dX10_one_120 0 rfl ?_
              refine xr_goto (tgt := 144) dX10_one_121 rfl ?_
              exact xr_iret dX10_one_144 rfl rfl (⟨_, rfl, rfl, rfl, (Ke.up (Or.inr (Or.inr (by omega))) (Ke.tr (fun _ _ h => h) (Ke.up (Or.inl (by omega)) (Ke.up (Or.inr (Or.inr (by omega))) Ke.rf)) k59)), ⟨a55, o56_, by omega, by omega, by omega, by omega, (Eq.trans (x_up_k _ _ _ (by decide)) ea55), (x_up_s _ _ _ _), (fun q => Nat.succ.inj (hf57 q))⟩⟩)
          · refine xr_aload_n dX10_one_90 2 rfl ?_
            refine xr_bipush (v := 41) dX10_one_91 rfl ?_
            refine xr_callV (As := [.int (41)]) (rest := []) mlX10_184 (g_X10_takes 41 (by decide) hbs (Eq.trans (k59 62 14 (by decide)) (Eq.trans (x_up_k _ _ _ (by decide)) (Eq.trans (x_up_k _ _ _ (by decide)) e_bs))) (by omega) ea55 (by omega) (Eq.trans (k59 62 16 (by decide)) (Eq.trans (x_up_k _ _ _ (by decide)) (Eq.trans (x_up_k _ _ _ (by decide)) e_E)))) dX10_one_93 s_62 rfl rfl (Nat.le_of_ble_eq_true rfl) (by omega) ⟨by decide, by decide⟩ (fun v s2 M66 J2 hq => ?_)
            obtain ⟨r68, rfl, rfl, rfl, k67, hx65⟩ := hq
            try dsimp only [Option.toList, List.cons_append, List.nil_append]
            refine xr_if_ne (tgt := 104) dX10_one_96 rfl (fun c69 => ?_) (fun c69 => ?_)
            · obtain ⟨-, hff, ha5, ea5⟩ := Or.resolve_left hx65 (fun q => c69 q.1)
              refine xr_aload_n dX10_one_104 2 rfl ?_
              refine xr_dup dX10_one_105 rfl ?_
              refine xb_get (v := nI (o56_ + 1)) flX10_199 dX10_one_106 s_62 rfl (Eq.trans (k67 62 18 (by decide)) eo56) ?_
              refine xr_iconst (v := 1) dX10_one_109 rfl ?_
              refine xr_isub dX10_one_110 ?_
              refine xb_top (y := nI o56_) (nI_pred o56_) ?_
              refine xr_putI fpX10_199 dX10_one_111 s_62 rfl rfl rfl ?_
              refine xr_iload_n dX10_one_114 1 rfl ?_
              refine xr_bipush (v := 40) dX10_one_115 rfl ?_
              refine xr_icmp_ne (tgt := 124) dX10_one_117 rfl (fun c70 => ?_) (fun c70 => ?_)
              · refine xr_iload_n dX10_one_124 1 rfl ?_
                refine xr_bipush (v := 45) dX10_one_125 rfl ?_
                refine xr_icmp_ne (tgt := 135) dX10_one_127 rfl (fun c71 => ?_) (fun c71 => ?_)
                · refine xr_iload_n dX10_one_135 0 rfl ?_
                  refine xr_if_ne (tgt := 143) dX10_one_136 rfl (fun c72 => ?_) (fun c72 => ?_)
                  · refine xr_iconst (v := 0) dX10_one_143 rfl ?_
                    exact xr_iret dX10_one_144 rfl rfl (⟨_, rfl, rfl, rfl, (Ke.up (Or.inr (Or.inr (by omega))) (Ke.tr (fun pp kk h => (Or.inl h)) (Ke.tr (fun _ _ h => h) (Ke.up (Or.inl (by omega)) (Ke.up (Or.inr (Or.inr (by omega))) Ke.rf)) k59) k67)), ⟨a55 + 1, o56_, by omega, by omega, by omega, by omega, (Eq.trans (x_up_k _ _ _ (by decide)) ea5), (x_up_s _ _ _ _), (fun q => Nat.succ.inj ((fun q => hf57 (by rw [← k67 62 17 (by decide)]; exact q)) q))⟩⟩)
                  · refine xr_iconst (v := 1) dX10_one_139 rfl ?_
                    refine xr_goto (tgt := 144) dX10_one_140 rfl ?_
                    exact xr_iret dX10_one_144 rfl rfl (⟨_, rfl, rfl, rfl, (Ke.up (Or.inr (Or.inr (by omega))) (Ke.tr (fun pp kk h => (Or.inl h)) (Ke.tr (fun _ _ h => h) (Ke.up (Or.inl (by omega)) (Ke.up (Or.inr (Or.inr (by omega))) Ke.rf)) k59) k67)), ⟨a55 + 1, o56_, by omega, by omega, by omega, by omega, (Eq.trans (x_up_k _ _ _ (by decide)) ea5), (x_up_s _ _ _ _), (fun q => Nat.succ.inj ((fun q => hf57 (by rw [← k67 62 17 (by decide)]; exact q)) q))⟩⟩)
                · refine xr_iload_n dX10_one_130 0 rfl ?_
                  refine xr_ineg dX10_one_131 ?_
                  refine xr_goto (tgt := 144) dX10_one_132 rfl ?_
                  exact xr_iret dX10_one_144 rfl rfl (⟨_, rfl, rfl, rfl, (Ke.up (Or.inr (Or.inr (by omega))) (Ke.tr (fun pp kk h => (Or.inl h)) (Ke.tr (fun _ _ h => h) (Ke.up (Or.inl (by omega)) (Ke.up (Or.inr (Or.inr (by omega))) Ke.rf)) k59) k67)), ⟨a55 + 1, o56_, by omega, by omega, by omega, by omega, (Eq.trans (x_up_k _ _ _ (by decide)) ea5), (x_up_s _ _ _ _), (fun q => Nat.succ.inj ((fun q => hf57 (by rw [← k67 62 17 (by decide)]; exact q)) q))⟩⟩)
              · refine xr_iload_n dX10_one_120 0 rfl ?_
                refine xr_goto (tgt := 144) dX10_one_121 rfl ?_
                exact xr_iret dX10_one_144 rfl rfl (⟨_, rfl, rfl, rfl, (Ke.up (Or.inr (Or.inr (by omega))) (Ke.tr (fun pp kk h => (Or.inl h)) (Ke.tr (fun _ _ h => h) (Ke.up (Or.inl (by omega)) (Ke.up (Or.inr (Or.inr (by omega))) Ke.rf)) k59) k67)), ⟨a55 + 1, o56_, by omega, by omega, by omega, by omega, (Eq.trans (x_up_k _ _ _ (by decide)) ea5), (x_up_s _ _ _ _), (fun q => Nat.succ.inj ((fun q => hf57 (by rw [← k67 62 17 (by decide)]; exact q)) q))⟩⟩)
            · have ea5 := (Or.resolve_right hx65 (fun q => absurd (c69.symm.trans q.1) (by decide))).2
              refine xr_aload_n dX10_one_99 2 rfl ?_
              refine xr_callV (As := []) (rest := []) mlX10_202 (g_X10_wrong (by omega) ea5) dX10_one_100 s_62 rfl rfl (Nat.le_of_ble_eq_true rfl) (by omega) ⟨by decide, by decide⟩ (fun v s2 M74 J2 hq => ?_)
              obtain ⟨r76, rfl, rfl, rfl, k75, hx73⟩ := hq
              try dsimp only [Option.toList, List.cons_append, List.nil_append]
              exact xr_iret dX10_one_103 rfl rfl (⟨_, rfl, rfl, rfl, (Ke.tr (fun pp kk h => (Or.inr (Or.inl h))) (Ke.tr (fun pp kk h => (Or.inl h)) (Ke.tr (fun _ _ h => h) (Ke.up (Or.inl (by omega)) (Ke.up (Or.inr (Or.inr (by omega))) Ke.rf)) k59) k67) k75), ⟨a55, o56_ + 1, by omega, by omega, by omega, by omega, (Eq.trans (k75 62 15 (by decide)) ea5), (Eq.trans (k75 62 18 (by decide)) (Eq.trans (k67 62 18 (by decide)) eo56)), (fun q => absurd q (by have := hx73.2; grind))⟩⟩)
        · refine xr_aload_n dX10_one_72 1 rfl ?_
          refine xr_callV (As := []) (rest := []) mlX10_205 (h1 l G (x_up (x_up M 62 18 (nI (o + 1))) 62 15 (nI (a + 1))) J bs (a + 1) E (o + 1) hbs (Eq.trans (x_up_k _ _ _ (by decide)) (Eq.trans (x_up_k _ _ _ (by decide)) e_bs)) (by omega) (by omega) (x_up_s _ _ _ _) (Eq.trans (x_up_k _ _ _ (by decide)) (Eq.trans (x_up_k _ _ _ (by decide)) e_E)) (by omega) (Eq.trans (x_up_k _ _ _ (by decide)) (x_up_s _ _ _ _))) dX10_one_73 s_62 rfl rfl (Nat.le_of_ble_eq_true rfl) (by omega) ⟨by decide, by decide⟩ (fun v s2 M81 J2 hq => ?_)
          obtain ⟨r83, rfl, rfl, rfl, k82, ⟨a78, o79, a78a, a78b, o79d, o79c, ea78, eo79, hf80⟩⟩ := hq
          try dsimp only [Option.toList, List.cons_append, List.nil_append]
          obtain ⟨o79_, rfl⟩ : ∃ q, o79 = q + 1 := ⟨o79 - 1, by omega⟩
          refine xr_goto (tgt := 83) dX10_one_76 rfl ?_
          refine xr_istore_n (ls2 := [(2, .int (r83)), (1, .int (r3)), (0, .ref (62))]) dX10_one_83 (by decide) rfl ?_
          refine xr_iload_n dX10_one_84 1 rfl ?_
          refine xr_bipush (v := 40) dX10_one_85 rfl ?_
          refine xr_icmp_ne (tgt := 104) dX10_one_87 rfl (fun c84 => ?_) (fun c84 => ?_)
          · refine xr_aload_n dX10_one_104 2 rfl ?_
            refine xr_dup dX10_one_105 rfl ?_
            refine xb_get (v := nI (o79_ + 1)) flX10_199 dX10_one_106 s_62 rfl eo79 ?_
            refine xr_iconst (v := 1) dX10_one_109 rfl ?_
            refine xr_isub dX10_one_110 ?_
            refine xb_top (y := nI o79_) (nI_pred o79_) ?_
            refine xr_putI fpX10_199 dX10_one_111 s_62 rfl rfl rfl ?_
            refine xr_iload_n dX10_one_114 1 rfl ?_
            refine xr_bipush (v := 40) dX10_one_115 rfl ?_
            refine xr_icmp_ne (tgt := 124) dX10_one_117 rfl (fun c85 => ?_) (fun c85 => ?_)
            · refine xr_iload_n dX10_one_124 1 rfl ?_
              refine xr_bipush (v := 45) dX10_one_125 rfl ?_
              refine xr_icmp_ne (tgt := 135) dX10_one_127 rfl (fun c86 => ?_) (fun c86 => ?_)
              · refine xr_iload_n dX10_one_135 0 rfl ?_
                refine xr_if_ne (tgt := 143) dX10_one_136 rfl (fun c87 => ?_) (fun c87 => ?_)
                · refine xr_iconst (v := 0) dX10_one_143 rfl ?_
                  exact xr_iret dX10_one_144 rfl rfl (⟨_, rfl, rfl, rfl, (Ke.up (Or.inr (Or.inr (by omega))) (Ke.tr (fun _ _ h => h) (Ke.up (Or.inl (by omega)) (Ke.up (Or.inr (Or.inr (by omega))) Ke.rf)) k82)), ⟨a78, o79_, by omega, by omega, by omega, by omega, (Eq.trans (x_up_k _ _ _ (by decide)) ea78), (x_up_s _ _ _ _), (fun q => Nat.succ.inj (hf80 q))⟩⟩)
                · refine xr_iconst (v := 1) dX10_one_139 rfl ?_
                  refine xr_goto (tgt := 144) dX10_one_140 rfl ?_
                  exact xr_iret dX10_one_144 rfl rfl (⟨_, rfl, rfl, rfl, (Ke.up (Or.inr (Or.inr (by omega))) (Ke.tr (fun _ _ h => h) (Ke.up (Or.inl (by omega)) (Ke.up (Or.inr (Or.inr (by omega))) Ke.rf)) k82)), ⟨a78, o79_, by omega, by omega, by omega, by omega, (Eq.trans (x_up_k _ _ _ (by decide)) ea78), (x_up_s _ _ _ _), (fun q => Nat.succ.inj (hf80 q))⟩⟩)
              · refine xr_iload_n dX10_one_130 0 rfl ?_
                refine xr_ineg dX10_one_131 ?_
                refine xr_goto (tgt := 144) dX10_one_132 rfl ?_
                exact xr_iret dX10_one_144 rfl rfl (⟨_, rfl, rfl, rfl, (Ke.up (Or.inr (Or.inr (by omega))) (Ke.tr (fun _ _ h => h) (Ke.up (Or.inl (by omega)) (Ke.up (Or.inr (Or.inr (by omega))) Ke.rf)) k82)), ⟨a78, o79_, by omega, by omega, by omega, by omega, (Eq.trans (x_up_k _ _ _ (by decide)) ea78), (x_up_s _ _ _ _), (fun q => Nat.succ.inj (hf80 q))⟩⟩)
            · refine xr_iload_n dX10_one_120 0 rfl ?_
              refine xr_goto (tgt := 144) dX10_one_121 rfl ?_
              exact xr_iret dX10_one_144 rfl rfl (⟨_, rfl, rfl, rfl, (Ke.up (Or.inr (Or.inr (by omega))) (Ke.tr (fun _ _ h => h) (Ke.up (Or.inl (by omega)) (Ke.up (Or.inr (Or.inr (by omega))) Ke.rf)) k82)), ⟨a78, o79_, by omega, by omega, by omega, by omega, (Eq.trans (x_up_k _ _ _ (by decide)) ea78), (x_up_s _ _ _ _), (fun q => Nat.succ.inj (hf80 q))⟩⟩)
          · refine xr_aload_n dX10_one_90 2 rfl ?_
            refine xr_bipush (v := 41) dX10_one_91 rfl ?_
            refine xr_callV (As := [.int (41)]) (rest := []) mlX10_184 (g_X10_takes 41 (by decide) hbs (Eq.trans (k82 62 14 (by decide)) (Eq.trans (x_up_k _ _ _ (by decide)) (Eq.trans (x_up_k _ _ _ (by decide)) e_bs))) (by omega) ea78 (by omega) (Eq.trans (k82 62 16 (by decide)) (Eq.trans (x_up_k _ _ _ (by decide)) (Eq.trans (x_up_k _ _ _ (by decide)) e_E)))) dX10_one_93 s_62 rfl rfl (Nat.le_of_ble_eq_true rfl) (by omega) ⟨by decide, by decide⟩ (fun v s2 M89 J2 hq => ?_)
            obtain ⟨r91, rfl, rfl, rfl, k90, hx88⟩ := hq
            try dsimp only [Option.toList, List.cons_append, List.nil_append]
            refine xr_if_ne (tgt := 104) dX10_one_96 rfl (fun c92 => ?_) (fun c92 => ?_)
            · obtain ⟨-, hff, ha5, ea5⟩ := Or.resolve_left hx88 (fun q => c92 q.1)
              refine xr_aload_n dX10_one_104 2 rfl ?_
              refine xr_dup dX10_one_105 rfl ?_
              refine xb_get (v := nI (o79_ + 1)) flX10_199 dX10_one_106 s_62 rfl (Eq.trans (k90 62 18 (by decide)) eo79) ?_
              refine xr_iconst (v := 1) dX10_one_109 rfl ?_
              refine xr_isub dX10_one_110 ?_
              refine xb_top (y := nI o79_) (nI_pred o79_) ?_
              refine xr_putI fpX10_199 dX10_one_111 s_62 rfl rfl rfl ?_
              refine xr_iload_n dX10_one_114 1 rfl ?_
              refine xr_bipush (v := 40) dX10_one_115 rfl ?_
              refine xr_icmp_ne (tgt := 124) dX10_one_117 rfl (fun c93 => ?_) (fun c93 => ?_)
              · refine xr_iload_n dX10_one_124 1 rfl ?_
                refine xr_bipush (v := 45) dX10_one_125 rfl ?_
                refine xr_icmp_ne (tgt := 135) dX10_one_127 rfl (fun c94 => ?_) (fun c94 => ?_)
                · refine xr_iload_n dX10_one_135 0 rfl ?_
                  refine xr_if_ne (tgt := 143) dX10_one_136 rfl (fun c95 => ?_) (fun c95 => ?_)
                  · refine xr_iconst (v := 0) dX10_one_143 rfl ?_
                    exact xr_iret dX10_one_144 rfl rfl (⟨_, rfl, rfl, rfl, (Ke.up (Or.inr (Or.inr (by omega))) (Ke.tr (fun pp kk h => (Or.inl h)) (Ke.tr (fun _ _ h => h) (Ke.up (Or.inl (by omega)) (Ke.up (Or.inr (Or.inr (by omega))) Ke.rf)) k82) k90)), ⟨a78 + 1, o79_, by omega, by omega, by omega, by omega, (Eq.trans (x_up_k _ _ _ (by decide)) ea5), (x_up_s _ _ _ _), (fun q => Nat.succ.inj ((fun q => hf80 (by rw [← k90 62 17 (by decide)]; exact q)) q))⟩⟩)
                  · refine xr_iconst (v := 1) dX10_one_139 rfl ?_
                    refine xr_goto (tgt := 144) dX10_one_140 rfl ?_
                    exact xr_iret dX10_one_144 rfl rfl (⟨_, rfl, rfl, rfl, (Ke.up (Or.inr (Or.inr (by omega))) (Ke.tr (fun pp kk h => (Or.inl h)) (Ke.tr (fun _ _ h => h) (Ke.up (Or.inl (by omega)) (Ke.up (Or.inr (Or.inr (by omega))) Ke.rf)) k82) k90)), ⟨a78 + 1, o79_, by omega, by omega, by omega, by omega, (Eq.trans (x_up_k _ _ _ (by decide)) ea5), (x_up_s _ _ _ _), (fun q => Nat.succ.inj ((fun q => hf80 (by rw [← k90 62 17 (by decide)]; exact q)) q))⟩⟩)
                · refine xr_iload_n dX10_one_130 0 rfl ?_
                  refine xr_ineg dX10_one_131 ?_
                  refine xr_goto (tgt := 144) dX10_one_132 rfl ?_
                  exact xr_iret dX10_one_144 rfl rfl (⟨_, rfl, rfl, rfl, (Ke.up (Or.inr (Or.inr (by omega))) (Ke.tr (fun pp kk h => (Or.inl h)) (Ke.tr (fun _ _ h => h) (Ke.up (Or.inl (by omega)) (Ke.up (Or.inr (Or.inr (by omega))) Ke.rf)) k82) k90)), ⟨a78 + 1, o79_, by omega, by omega, by omega, by omega, (Eq.trans (x_up_k _ _ _ (by decide)) ea5), (x_up_s _ _ _ _), (fun q => Nat.succ.inj ((fun q => hf80 (by rw [← k90 62 17 (by decide)]; exact q)) q))⟩⟩)
              · refine xr_iload_n dX10_one_120 0 rfl ?_
                refine xr_goto (tgt := 144) dX10_one_121 rfl ?_
                exact xr_iret dX10_one_144 rfl rfl (⟨_, rfl, rfl, rfl, (Ke.up (Or.inr (Or.inr (by omega))) (Ke.tr (fun pp kk h => (Or.inl h)) (Ke.tr (fun _ _ h => h) (Ke.up (Or.inl (by omega)) (Ke.up (Or.inr (Or.inr (by omega))) Ke.rf)) k82) k90)), ⟨a78 + 1, o79_, by omega, by omega, by omega, by omega, (Eq.trans (x_up_k _ _ _ (by decide)) ea5), (x_up_s _ _ _ _), (fun q => Nat.succ.inj ((fun q => hf80 (by rw [← k90 62 17 (by decide)]; exact q)) q))⟩⟩)
            · have ea5 := (Or.resolve_right hx88 (fun q => absurd (c92.symm.trans q.1) (by decide))).2
              refine xr_aload_n dX10_one_99 2 rfl ?_
              refine xr_callV (As := []) (rest := []) mlX10_202 (g_X10_wrong (by omega) ea5) dX10_one_100 s_62 rfl rfl (Nat.le_of_ble_eq_true rfl) (by omega) ⟨by decide, by decide⟩ (fun v s2 M97 J2 hq => ?_)
              obtain ⟨r99, rfl, rfl, rfl, k98, hx96⟩ := hq
              try dsimp only [Option.toList, List.cons_append, List.nil_append]
              exact xr_iret dX10_one_103 rfl rfl (⟨_, rfl, rfl, rfl, (Ke.tr (fun pp kk h => (Or.inr (Or.inl h))) (Ke.tr (fun pp kk h => (Or.inl h)) (Ke.tr (fun _ _ h => h) (Ke.up (Or.inl (by omega)) (Ke.up (Or.inr (Or.inr (by omega))) Ke.rf)) k82) k90) k98), ⟨a78, o79_ + 1, by omega, by omega, by omega, by omega, (Eq.trans (k98 62 15 (by decide)) ea5), (Eq.trans (k98 62 18 (by decide)) (Eq.trans (k90 62 18 (by decide)) eo79)), (fun q => absurd q (by have := hx96.2; grind))⟩⟩)
      · refine xr_iload_n dX10_one_26 0 rfl ?_
        refine xr_bipush (v := 40) dX10_one_27 rfl ?_
        refine xr_icmp_ne (tgt := 145) dX10_one_29 rfl (fun c100 => ?_) (fun c100 => ?_)
        · refine xr_iload_n dX10_one_145 0 rfl ?_
          refine xr_callS (As := [.int (r3)]) (rest := []) mlX10_208 (g_X10_nameOf r3) dX10_one_146 rfl rfl (Nat.le_of_ble_eq_true rfl) (by omega) ⟨by decide, by decide⟩ (fun v s2 M9 J2 hq => ?_)
          obtain ⟨r102, rfl, rfl, rfl, rfl, hx101⟩ := hq
          try dsimp only [Option.toList, List.cons_append, List.nil_append]
          refine xr_istore_n (ls2 := [(2, .int (r102)), (1, .int (r3)), (0, .ref (62))]) dX10_one_149 (by decide) rfl ?_
          refine xr_iload_n dX10_one_150 0 rfl ?_
          refine xr_if_lt (tgt := 171) dX10_one_151 rfl (fun c103 => ?_) (fun c103 => ?_)
          · refine xr_iconst (v := 0) dX10_one_171 rfl ?_
            refine xr_istore_n (ls2 := [(3, .int (0)), (2, .int (r102)), (1, .int (r3)), (0, .ref (62))]) dX10_one_172 (by decide) rfl ?_
            refine xr_iconst (v := 0) dX10_one_173 rfl ?_
            refine xr_istore (ls2 := [(4, .int (0)), (3, .int (0)), (2, .int (r102)), (1, .int (r3)), (0, .ref (62))]) dX10_one_174 (by decide) rfl ?_
            refine xr_iload dX10_one_176 0 rfl ?_
            refine xr_iconst (v := 4) dX10_one_178 rfl ?_
            refine xr_icmp_ge (tgt := 229) dX10_one_179 rfl (fun c => absurd c (by decide)) (fun _ => ?_)
            refine xr_aload_n dX10_one_182 4 rfl ?_
            refine xr_callV (As := []) (rest := []) mlX10_177 (g_X10_byteAt hbs e_bs (by omega) e_a (by omega) e_E) dX10_one_183 s_62 rfl rfl (Nat.le_of_ble_eq_true rfl) (by omega) ⟨by decide, by decide⟩ (fun v s2 M9 J2 hq => ?_)
            obtain ⟨r105, rfl, rfl, rfl, rfl, hx104⟩ := hq
            try dsimp only [Option.toList, List.cons_append, List.nil_append]
            refine xr_bipush (v := 48) dX10_one_186 rfl ?_
            refine xr_icmp_lt (tgt := 229) dX10_one_188 rfl (fun c106 => ?_) (fun c106 => ?_)
            · refine xr_iload dX10_one_229 0 rfl ?_
              refine xr_if_ne (tgt := 241) dX10_one_231 rfl (fun c => absurd (by decide) c) (fun _ => ?_)
              refine xr_aload_n dX10_one_234 4 rfl ?_
              refine xr_callV (As := []) (rest := []) mlX10_202 (g_X10_wrong (by omega) e_a) dX10_one_235 s_62 rfl rfl (Nat.le_of_ble_eq_true rfl) (by omega) ⟨by decide, by decide⟩ (fun v s2 M108 J2 hq => ?_)
              obtain ⟨r110, rfl, rfl, rfl, k109, hx107⟩ := hq
              try dsimp only [Option.toList, List.cons_append, List.nil_append]
              refine xr_goto (tgt := 242) dX10_one_238 rfl ?_
              exact xr_iret dX10_one_242 rfl rfl (⟨_, rfl, rfl, rfl, (Ke.tr (fun pp kk h => (Or.inr (Or.inl h))) Ke.rf k109), ⟨a, o, by omega, by omega, by omega, by omega, (Eq.trans (k109 62 15 (by decide)) e_a), (Eq.trans (k109 62 18 (by decide)) e_o), (fun _ => rfl)⟩⟩)
            · refine xr_aload_n dX10_one_191 4 rfl ?_
              refine xr_callV (As := []) (rest := []) mlX10_177 (g_X10_byteAt hbs e_bs (by omega) e_a (by omega) e_E) dX10_one_192 s_62 rfl rfl (Nat.le_of_ble_eq_true rfl) (by omega) ⟨by decide, by decide⟩ (fun v s2 M9 J2 hq => ?_)
              obtain ⟨r112, rfl, rfl, rfl, rfl, hx111⟩ := hq
              try dsimp only [Option.toList, List.cons_append, List.nil_append]
              refine xr_bipush (v := 57) dX10_one_195 rfl ?_
              refine xr_icmp_gt (tgt := 229) dX10_one_197 rfl (fun c113 => ?_) (fun c113 => ?_)
              · refine xr_iload dX10_one_229 0 rfl ?_
                refine xr_if_ne (tgt := 241) dX10_one_231 rfl (fun c => absurd (by decide) c) (fun _ => ?_)
                refine xr_aload_n dX10_one_234 4 rfl ?_
                refine xr_callV (As := []) (rest := []) mlX10_202 (g_X10_wrong (by omega) e_a) dX10_one_235 s_62 rfl rfl (Nat.le_of_ble_eq_true rfl) (by omega) ⟨by decide, by decide⟩ (fun v s2 M115 J2 hq => ?_)
                obtain ⟨r117, rfl, rfl, rfl, k116, hx114⟩ := hq
                try dsimp only [Option.toList, List.cons_append, List.nil_append]
                refine xr_goto (tgt := 242) dX10_one_238 rfl ?_
                exact xr_iret dX10_one_242 rfl rfl (⟨_, rfl, rfl, rfl, (Ke.tr (fun pp kk h => (Or.inr (Or.inl h))) Ke.rf k116), ⟨a, o, by omega, by omega, by omega, by omega, (Eq.trans (k116 62 15 (by decide)) e_a), (Eq.trans (k116 62 18 (by decide)) e_o), (fun _ => rfl)⟩⟩)
              · refine xr_bipush (v := 10) dX10_one_200 rfl ?_
                refine xr_iload_n dX10_one_202 1 rfl ?_
                refine xr_imul dX10_one_203 ?_
                refine xb_top (y := 0) (by decide) ?_
                refine xr_aload_n dX10_one_204 4 rfl ?_
                refine xr_callV (As := []) (rest := [.int (0)]) mlX10_177 (g_X10_byteAt hbs e_bs (by omega) e_a (by omega) e_E) dX10_one_205 s_62 rfl rfl (Nat.le_of_ble_eq_true rfl) (by omega) ⟨by decide, by decide⟩ (fun v s2 M9 J2 hq => ?_)
                obtain ⟨r119, rfl, rfl, rfl, rfl, hx118⟩ := hq
                try dsimp only [Option.toList, List.cons_append, List.nil_append]
                refine xr_iadd dX10_one_208 ?_
                refine xr_bipush (v := 48) dX10_one_209 rfl ?_
                refine xr_isub dX10_one_211 ?_
                refine xr_istore_n (ls2 := [(3, .int (((0 + r119) - 48))), (4, .int (0)), (2, .int (r102)), (1, .int (r3)), (0, .ref (62))]) dX10_one_212 (by decide) rfl ?_
                have haE120 : a < E := Or.resolve_left hx104 (fun q => by grind)
                refine xr_iinc (v := 1) (ls2 := [(4, .int (1)), (3, .int (((0 + r119) - 48))), (2, .int (r102)), (1, .int (r3)), (0, .ref (62))]) dX10_one_213 1 rfl rfl (by decide) rfl ?_
                refine xr_aload_n dX10_one_216 4 rfl ?_
                refine xr_dup dX10_one_217 rfl ?_
                refine xb_get (v := nI (a)) flX10_165 dX10_one_218 s_62 rfl e_a ?_
                refine xr_iconst (v := 1) dX10_one_221 rfl ?_
                refine xr_iadd dX10_one_222 ?_
                refine xb_top (y := nI (a + 1)) (nI_add (a) (1)) ?_
                refine xr_putI fpX10_165 dX10_one_223 s_62 rfl rfl rfl ?_
                refine xr_goto (tgt := 176) dX10_one_226 rfl ?_
                refine xr_iload dX10_one_176 0 rfl ?_
                refine xr_iconst (v := 4) dX10_one_178 rfl ?_
                refine xr_icmp_ge (tgt := 229) dX10_one_179 rfl (fun c => absurd c (by decide)) (fun _ => ?_)
                refine xr_aload_n dX10_one_182 4 rfl ?_
                refine xr_callV (As := []) (rest := []) mlX10_177 (g_X10_byteAt hbs (Eq.trans (x_up_k _ _ _ (by decide)) e_bs) (by omega) (x_up_s _ _ _ _) (by omega) (Eq.trans (x_up_k _ _ _ (by decide)) e_E)) dX10_one_183 s_62 rfl rfl (Nat.le_of_ble_eq_true rfl) (by omega) ⟨by decide, by decide⟩ (fun v s2 M9 J2 hq => ?_)
                obtain ⟨r122, rfl, rfl, rfl, rfl, hx121⟩ := hq
                try dsimp only [Option.toList, List.cons_append, List.nil_append]
                refine xr_bipush (v := 48) dX10_one_186 rfl ?_
                refine xr_icmp_lt (tgt := 229) dX10_one_188 rfl (fun c123 => ?_) (fun c123 => ?_)
                · refine xr_iload dX10_one_229 0 rfl ?_
                  refine xr_if_ne (tgt := 241) dX10_one_231 rfl (fun _ => ?_) (fun c => absurd c (by decide))
                  refine xr_iload_n dX10_one_241 1 rfl ?_
                  exact xr_iret dX10_one_242 rfl rfl (⟨_, rfl, rfl, rfl, (Ke.up (Or.inl (by omega)) Ke.rf), ⟨a + 1, o, by omega, by omega, by omega, by omega, (x_up_s _ _ _ _), (Eq.trans (x_up_k _ _ _ (by decide)) e_o), (fun _ => rfl)⟩⟩)
                · refine xr_aload_n dX10_one_191 4 rfl ?_
                  refine xr_callV (As := []) (rest := []) mlX10_177 (g_X10_byteAt hbs (Eq.trans (x_up_k _ _ _ (by decide)) e_bs) (by omega) (x_up_s _ _ _ _) (by omega) (Eq.trans (x_up_k _ _ _ (by decide)) e_E)) dX10_one_192 s_62 rfl rfl (Nat.le_of_ble_eq_true rfl) (by omega) ⟨by decide, by decide⟩ (fun v s2 M9 J2 hq => ?_)
                  obtain ⟨r125, rfl, rfl, rfl, rfl, hx124⟩ := hq
                  try dsimp only [Option.toList, List.cons_append, List.nil_append]
                  refine xr_bipush (v := 57) dX10_one_195 rfl ?_
                  refine xr_icmp_gt (tgt := 229) dX10_one_197 rfl (fun c126 => ?_) (fun c126 => ?_)
                  · refine xr_iload dX10_one_229 0 rfl ?_
                    refine xr_if_ne (tgt := 241) dX10_one_231 rfl (fun _ => ?_) (fun c => absurd c (by decide))
                    refine xr_iload_n dX10_one_241 1 rfl ?_
                    exact xr_iret dX10_one_242 rfl rfl (⟨_, rfl, rfl, rfl, (Ke.up (Or.inl (by omega)) Ke.rf), ⟨a + 1, o, by omega, by omega, by omega, by omega, (x_up_s _ _ _ _), (Eq.trans (x_up_k _ _ _ (by decide)) e_o), (fun _ => rfl)⟩⟩)
                  · refine xr_bipush (v := 10) dX10_one_200 rfl ?_
                    refine xr_iload_n dX10_one_202 1 rfl ?_
                    refine xr_imul dX10_one_203 ?_
                    refine xr_aload_n dX10_one_204 4 rfl ?_
                    refine xr_callV (As := []) (rest := [.int ((10 * ((0 + r119) - 48)))]) mlX10_177 (g_X10_byteAt hbs (Eq.trans (x_up_k _ _ _ (by decide)) e_bs) (by omega) (x_up_s _ _ _ _) (by omega) (Eq.trans (x_up_k _ _ _ (by decide)) e_E)) dX10_one_205 s_62 rfl rfl (Nat.le_of_ble_eq_true rfl) (by omega) ⟨by decide, by decide⟩ (fun v s2 M9 J2 hq => ?_)
                    obtain ⟨r128, rfl, rfl, rfl, rfl, hx127⟩ := hq
                    try dsimp only [Option.toList, List.cons_append, List.nil_append]
                    refine xr_iadd dX10_one_208 ?_
                    refine xr_bipush (v := 48) dX10_one_209 rfl ?_
                    refine xr_isub dX10_one_211 ?_
                    refine xr_istore_n (ls2 := [(3, .int ((((10 * ((0 + r119) - 48)) + r128) - 48))), (4, .int (1)), (2, .int (r102)), (1, .int (r3)), (0, .ref (62))]) dX10_one_212 (by decide) rfl ?_
                    have haE129 : a + 1 < E := Or.resolve_left hx121 (fun q => by grind)
                    refine xr_iinc (v := 2) (ls2 := [(4, .int (2)), (3, .int ((((10 * ((0 + r119) - 48)) + r128) - 48))), (2, .int (r102)), (1, .int (r3)), (0, .ref (62))]) dX10_one_213 1 rfl rfl (by decide) rfl ?_
                    refine xr_aload_n dX10_one_216 4 rfl ?_
                    refine xr_dup dX10_one_217 rfl ?_
                    refine xb_get (v := nI (a + 1)) flX10_165 dX10_one_218 s_62 rfl (x_up_s _ _ _ _) ?_
                    refine xr_iconst (v := 1) dX10_one_221 rfl ?_
                    refine xr_iadd dX10_one_222 ?_
                    refine xb_top (y := nI (a + 1 + 1)) (nI_add (a + 1) (1)) ?_
                    refine xr_putI fpX10_165 dX10_one_223 s_62 rfl rfl rfl ?_
                    refine xr_goto (tgt := 176) dX10_one_226 rfl ?_
                    refine xr_iload dX10_one_176 0 rfl ?_
                    refine xr_iconst (v := 4) dX10_one_178 rfl ?_
                    refine xr_icmp_ge (tgt := 229) dX10_one_179 rfl (fun c => absurd c (by decide)) (fun _ => ?_)
                    refine xr_aload_n dX10_one_182 4 rfl ?_
                    refine xr_callV (As := []) (rest := []) mlX10_177 (g_X10_byteAt hbs (Eq.trans (x_up_k _ _ _ (by decide)) (Eq.trans (x_up_k _ _ _ (by decide)) e_bs)) (by omega) (x_up_s _ _ _ _) (by omega) (Eq.trans (x_up_k _ _ _ (by decide)) (Eq.trans (x_up_k _ _ _ (by decide)) e_E))) dX10_one_183 s_62 rfl rfl (Nat.le_of_ble_eq_true rfl) (by omega) ⟨by decide, by decide⟩ (fun v s2 M9 J2 hq => ?_)
                    obtain ⟨r131, rfl, rfl, rfl, rfl, hx130⟩ := hq
                    try dsimp only [Option.toList, List.cons_append, List.nil_append]
                    refine xr_bipush (v := 48) dX10_one_186 rfl ?_
                    refine xr_icmp_lt (tgt := 229) dX10_one_188 rfl (fun c132 => ?_) (fun c132 => ?_)
                    · refine xr_iload dX10_one_229 0 rfl ?_
                      refine xr_if_ne (tgt := 241) dX10_one_231 rfl (fun _ => ?_) (fun c => absurd c (by decide))
                      refine xr_iload_n dX10_one_241 1 rfl ?_
                      exact xr_iret dX10_one_242 rfl rfl (⟨_, rfl, rfl, rfl, (Ke.up (Or.inl (by omega)) (Ke.up (Or.inl (by omega)) Ke.rf)), ⟨a + 1 + 1, o, by omega, by omega, by omega, by omega, (x_up_s _ _ _ _), (Eq.trans (x_up_k _ _ _ (by decide)) (Eq.trans (x_up_k _ _ _ (by decide)) e_o)), (fun _ => rfl)⟩⟩)
                    · refine xr_aload_n dX10_one_191 4 rfl ?_
                      refine xr_callV (As := []) (rest := []) mlX10_177 (g_X10_byteAt hbs (Eq.trans (x_up_k _ _ _ (by decide)) (Eq.trans (x_up_k _ _ _ (by decide)) e_bs)) (by omega) (x_up_s _ _ _ _) (by omega) (Eq.trans (x_up_k _ _ _ (by decide)) (Eq.trans (x_up_k _ _ _ (by decide)) e_E))) dX10_one_192 s_62 rfl rfl (Nat.le_of_ble_eq_true rfl) (by omega) ⟨by decide, by decide⟩ (fun v s2 M9 J2 hq => ?_)
                      obtain ⟨r134, rfl, rfl, rfl, rfl, hx133⟩ := hq
                      try dsimp only [Option.toList, List.cons_append, List.nil_append]
                      refine xr_bipush (v := 57) dX10_one_195 rfl ?_
                      refine xr_icmp_gt (tgt := 229) dX10_one_197 rfl (fun c135 => ?_) (fun c135 => ?_)
                      · refine xr_iload dX10_one_229 0 rfl ?_
                        refine xr_if_ne (tgt := 241) dX10_one_231 rfl (fun _ => ?_) (fun c => absurd c (by decide))
                        refine xr_iload_n dX10_one_241 1 rfl ?_
                        exact xr_iret dX10_one_242 rfl rfl (⟨_, rfl, rfl, rfl, (Ke.up (Or.inl (by omega)) (Ke.up (Or.inl (by omega)) Ke.rf)), ⟨a + 1 + 1, o, by omega, by omega, by omega, by omega, (x_up_s _ _ _ _), (Eq.trans (x_up_k _ _ _ (by decide)) (Eq.trans (x_up_k _ _ _ (by decide)) e_o)), (fun _ => rfl)⟩⟩)
                      · refine xr_bipush (v := 10) dX10_one_200 rfl ?_
                        refine xr_iload_n dX10_one_202 1 rfl ?_
                        refine xr_imul dX10_one_203 ?_
                        refine xr_aload_n dX10_one_204 4 rfl ?_
                        refine xr_callV (As := []) (rest := [.int ((10 * (((10 * ((0 + r119) - 48)) + r128) - 48)))]) mlX10_177 (g_X10_byteAt hbs (Eq.trans (x_up_k _ _ _ (by decide)) (Eq.trans (x_up_k _ _ _ (by decide)) e_bs)) (by omega) (x_up_s _ _ _ _) (by omega) (Eq.trans (x_up_k _ _ _ (by decide)) (Eq.trans (x_up_k _ _ _ (by decide)) e_E))) dX10_one_205 s_62 rfl rfl (Nat.le_of_ble_eq_true rfl) (by omega) ⟨by decide, by decide⟩ (fun v s2 M9 J2 hq => ?_)
                        obtain ⟨r137, rfl, rfl, rfl, rfl, hx136⟩ := hq
                        try dsimp only [Option.toList, List.cons_append, List.nil_append]
                        refine xr_iadd dX10_one_208 ?_
                        refine xr_bipush (v := 48) dX10_one_209 rfl ?_
                        refine xr_isub dX10_one_211 ?_
                        refine xr_istore_n (ls2 := [(3, .int ((((10 * (((10 * ((0 + r119) - 48)) + r128) - 48)) + r137) - 48))), (4, .int (2)), (2, .int (r102)), (1, .int (r3)), (0, .ref (62))]) dX10_one_212 (by decide) rfl ?_
                        have haE138 : a + 1 + 1 < E := Or.resolve_left hx130 (fun q => by grind)
                        refine xr_iinc (v := 3) (ls2 := [(4, .int (3)), (3, .int ((((10 * (((10 * ((0 + r119) - 48)) + r128) - 48)) + r137) - 48))), (2, .int (r102)), (1, .int (r3)), (0, .ref (62))]) dX10_one_213 1 rfl rfl (by decide) rfl ?_
                        refine xr_aload_n dX10_one_216 4 rfl ?_
                        refine xr_dup dX10_one_217 rfl ?_
                        refine xb_get (v := nI (a + 1 + 1)) flX10_165 dX10_one_218 s_62 rfl (x_up_s _ _ _ _) ?_
                        refine xr_iconst (v := 1) dX10_one_221 rfl ?_
                        refine xr_iadd dX10_one_222 ?_
                        refine xb_top (y := nI (a + 1 + 1 + 1)) (nI_add (a + 1 + 1) (1)) ?_
                        refine xr_putI fpX10_165 dX10_one_223 s_62 rfl rfl rfl ?_
                        refine xr_goto (tgt := 176) dX10_one_226 rfl ?_
                        refine xr_iload dX10_one_176 0 rfl ?_
                        refine xr_iconst (v := 4) dX10_one_178 rfl ?_
                        refine xr_icmp_ge (tgt := 229) dX10_one_179 rfl (fun c => absurd c (by decide)) (fun _ => ?_)
                        refine xr_aload_n dX10_one_182 4 rfl ?_
                        refine xr_callV (As := []) (rest := []) mlX10_177 (g_X10_byteAt hbs (Eq.trans (x_up_k _ _ _ (by decide)) (Eq.trans (x_up_k _ _ _ (by decide)) (Eq.trans (x_up_k _ _ _ (by decide)) e_bs))) (by omega) (x_up_s _ _ _ _) (by omega) (Eq.trans (x_up_k _ _ _ (by decide)) (Eq.trans (x_up_k _ _ _ (by decide)) (Eq.trans (x_up_k _ _ _ (by decide)) e_E)))) dX10_one_183 s_62 rfl rfl (Nat.le_of_ble_eq_true rfl) (by omega) ⟨by decide, by decide⟩ (fun v s2 M9 J2 hq => ?_)
                        obtain ⟨r140, rfl, rfl, rfl, rfl, hx139⟩ := hq
                        try dsimp only [Option.toList, List.cons_append, List.nil_append]
                        refine xr_bipush (v := 48) dX10_one_186 rfl ?_
                        refine xr_icmp_lt (tgt := 229) dX10_one_188 rfl (fun c141 => ?_) (fun c141 => ?_)
                        · refine xr_iload dX10_one_229 0 rfl ?_
                          refine xr_if_ne (tgt := 241) dX10_one_231 rfl (fun _ => ?_) (fun c => absurd c (by decide))
                          refine xr_iload_n dX10_one_241 1 rfl ?_
                          exact xr_iret dX10_one_242 rfl rfl (⟨_, rfl, rfl, rfl, (Ke.up (Or.inl (by omega)) (Ke.up (Or.inl (by omega)) (Ke.up (Or.inl (by omega)) Ke.rf))), ⟨a + 1 + 1 + 1, o, by omega, by omega, by omega, by omega, (x_up_s _ _ _ _), (Eq.trans (x_up_k _ _ _ (by decide)) (Eq.trans (x_up_k _ _ _ (by decide)) (Eq.trans (x_up_k _ _ _ (by decide)) e_o))), (fun _ => rfl)⟩⟩)
                        · refine xr_aload_n dX10_one_191 4 rfl ?_
                          refine xr_callV (As := []) (rest := []) mlX10_177 (g_X10_byteAt hbs (Eq.trans (x_up_k _ _ _ (by decide)) (Eq.trans (x_up_k _ _ _ (by decide)) (Eq.trans (x_up_k _ _ _ (by decide)) e_bs))) (by omega) (x_up_s _ _ _ _) (by omega) (Eq.trans (x_up_k _ _ _ (by decide)) (Eq.trans (x_up_k _ _ _ (by decide)) (Eq.trans (x_up_k _ _ _ (by decide)) e_E)))) dX10_one_192 s_62 rfl rfl (Nat.le_of_ble_eq_true rfl) (by omega) ⟨by decide, by decide⟩ (fun v s2 M9 J2 hq => ?_)
                          obtain ⟨r143, rfl, rfl, rfl, rfl, hx142⟩ := hq
                          try dsimp only [Option.toList, List.cons_append, List.nil_append]
                          refine xr_bipush (v := 57) dX10_one_195 rfl ?_
                          refine xr_icmp_gt (tgt := 229) dX10_one_197 rfl (fun c144 => ?_) (fun c144 => ?_)
                          · refine xr_iload dX10_one_229 0 rfl ?_
                            refine xr_if_ne (tgt := 241) dX10_one_231 rfl (fun _ => ?_) (fun c => absurd c (by decide))
                            refine xr_iload_n dX10_one_241 1 rfl ?_
                            exact xr_iret dX10_one_242 rfl rfl (⟨_, rfl, rfl, rfl, (Ke.up (Or.inl (by omega)) (Ke.up (Or.inl (by omega)) (Ke.up (Or.inl (by omega)) Ke.rf))), ⟨a + 1 + 1 + 1, o, by omega, by omega, by omega, by omega, (x_up_s _ _ _ _), (Eq.trans (x_up_k _ _ _ (by decide)) (Eq.trans (x_up_k _ _ _ (by decide)) (Eq.trans (x_up_k _ _ _ (by decide)) e_o))), (fun _ => rfl)⟩⟩)
                          · refine xr_bipush (v := 10) dX10_one_200 rfl ?_
                            refine xr_iload_n dX10_one_202 1 rfl ?_
                            refine xr_imul dX10_one_203 ?_
                            refine xr_aload_n dX10_one_204 4 rfl ?_
                            refine xr_callV (As := []) (rest := [.int ((10 * (((10 * (((10 * ((0 + r119) - 48)) + r128) - 48)) + r137) - 48)))]) mlX10_177 (g_X10_byteAt hbs (Eq.trans (x_up_k _ _ _ (by decide)) (Eq.trans (x_up_k _ _ _ (by decide)) (Eq.trans (x_up_k _ _ _ (by decide)) e_bs))) (by omega) (x_up_s _ _ _ _) (by omega) (Eq.trans (x_up_k _ _ _ (by decide)) (Eq.trans (x_up_k _ _ _ (by decide)) (Eq.trans (x_up_k _ _ _ (by decide)) e_E)))) dX10_one_205 s_62 rfl rfl (Nat.le_of_ble_eq_true rfl) (by omega) ⟨by decide, by decide⟩ (fun v s2 M9 J2 hq => ?_)
                            obtain ⟨r146, rfl, rfl, rfl, rfl, hx145⟩ := hq
                            try dsimp only [Option.toList, List.cons_append, List.nil_append]
                            refine xr_iadd dX10_one_208 ?_
                            refine xr_bipush (v := 48) dX10_one_209 rfl ?_
                            refine xr_isub dX10_one_211 ?_
                            refine xr_istore_n (ls2 := [(3, .int ((((10 * (((10 * (((10 * ((0 + r119) - 48)) + r128) - 48)) + r137) - 48)) + r146) - 48))), (4, .int (3)), (2, .int (r102)), (1, .int (r3)), (0, .ref (62))]) dX10_one_212 (by decide) rfl ?_
                            have haE147 : a + 1 + 1 + 1 < E := Or.resolve_left hx139 (fun q => by grind)
                            refine xr_iinc (v := 4) (ls2 := [(4, .int (4)), (3, .int ((((10 * (((10 * (((10 * ((0 + r119) - 48)) + r128) - 48)) + r137) - 48)) + r146) - 48))), (2, .int (r102)), (1, .int (r3)), (0, .ref (62))]) dX10_one_213 1 rfl rfl (by decide) rfl ?_
                            refine xr_aload_n dX10_one_216 4 rfl ?_
                            refine xr_dup dX10_one_217 rfl ?_
                            refine xb_get (v := nI (a + 1 + 1 + 1)) flX10_165 dX10_one_218 s_62 rfl (x_up_s _ _ _ _) ?_
                            refine xr_iconst (v := 1) dX10_one_221 rfl ?_
                            refine xr_iadd dX10_one_222 ?_
                            refine xb_top (y := nI (a + 1 + 1 + 1 + 1)) (nI_add (a + 1 + 1 + 1) (1)) ?_
                            refine xr_putI fpX10_165 dX10_one_223 s_62 rfl rfl rfl ?_
                            refine xr_goto (tgt := 176) dX10_one_226 rfl ?_
                            refine xr_iload dX10_one_176 0 rfl ?_
                            refine xr_iconst (v := 4) dX10_one_178 rfl ?_
                            refine xr_icmp_ge (tgt := 229) dX10_one_179 rfl (fun _ => ?_) (fun c => absurd (by decide) c)
                            refine xr_iload dX10_one_229 0 rfl ?_
                            refine xr_if_ne (tgt := 241) dX10_one_231 rfl (fun _ => ?_) (fun c => absurd c (by decide))
                            refine xr_iload_n dX10_one_241 1 rfl ?_
                            exact xr_iret dX10_one_242 rfl rfl (⟨_, rfl, rfl, rfl, (Ke.up (Or.inl (by omega)) (Ke.up (Or.inl (by omega)) (Ke.up (Or.inl (by omega)) (Ke.up (Or.inl (by omega)) Ke.rf)))), ⟨a + 1 + 1 + 1 + 1, o, by omega, by omega, by omega, by omega, (x_up_s _ _ _ _), (Eq.trans (x_up_k _ _ _ (by decide)) (Eq.trans (x_up_k _ _ _ (by decide)) (Eq.trans (x_up_k _ _ _ (by decide)) (Eq.trans (x_up_k _ _ _ (by decide)) e_o)))), (fun _ => rfl)⟩⟩)
          · have haE1 : a < E := Or.resolve_left hx2 (Or.resolve_left hx101.2 c103)
            obtain ⟨nk, hnk, enk⟩ := x_natle (v := r102) (N := 5) (K := 5) (by decide) (by decide) ⟨by grind, hx101.1⟩
            refine xr_aload_n dX10_one_154 2 rfl ?_
            refine xr_dup dX10_one_155 rfl ?_
            refine xb_get (v := nI (a)) flX10_165 dX10_one_156 s_62 rfl e_a ?_
            refine xr_iconst (v := 1) dX10_one_159 rfl ?_
            refine xr_iadd dX10_one_160 ?_
            refine xb_top (y := nI (a + 1)) (nI_add (a) (1)) ?_
            refine xr_putI fpX10_165 dX10_one_161 s_62 rfl rfl rfl ?_
            refine xr_aload_n dX10_one_164 2 rfl ?_
            refine xr_getR flX10_34 dX10_one_165 s_62 rfl ?_
            refine xr_iload_n dX10_one_168 0 rfl ?_
            refine xb_top (y := nI nk) enk ?_
            refine xb_iald (j := nk) (v := (x_up M 62 15 (nI (a + 1))) 71 nk) dX10_one_169 s_71 (by omega) (by decide) rfl ?_
            exact xr_iret dX10_one_170 rfl rfl (⟨_, rfl, rfl, rfl, (Ke.up (Or.inl (by omega)) Ke.rf), ⟨a + 1, o, by omega, by omega, by omega, by omega, (x_up_s _ _ _ _), (Eq.trans (x_up_k _ _ _ (by decide)) e_o), (fun _ => rfl)⟩⟩)
        · have haE1 : a < E := Or.resolve_left hx2 (fun q => by grind)
          refine xr_aload_n dX10_one_32 1 rfl ?_
          refine xb_get (v := nI (o)) flX10_199 dX10_one_33 s_62 rfl e_o ?_
          refine xr_bipush (v := 6) dX10_one_36 rfl ?_
          refine xr_icmp_ne (tgt := 46) dX10_one_38 rfl (fun _ => ?_) (fun c => absurd c (fun q => absurd ((nI_eq (a := o) (b := 6) (by omega) (by decide)).mp q) (by omega)))
          refine xr_aload_n dX10_one_46 1 rfl ?_
          refine xr_dup dX10_one_47 rfl ?_
          refine xb_get (v := nI (o)) flX10_199 dX10_one_48 s_62 rfl e_o ?_
          refine xr_iconst (v := 1) dX10_one_51 rfl ?_
          refine xr_iadd dX10_one_52 ?_
          refine xb_top (y := nI (o + 1)) (nI_add (o) (1)) ?_
          refine xr_putI fpX10_199 dX10_one_53 s_62 rfl rfl rfl ?_
          refine xr_aload_n dX10_one_56 1 rfl ?_
          refine xr_dup dX10_one_57 rfl ?_
          refine xb_get (v := nI (a)) flX10_165 dX10_one_58 s_62 rfl (Eq.trans (x_up_k _ _ _ (by decide)) e_a) ?_
          refine xr_iconst (v := 1) dX10_one_61 rfl ?_
          refine xr_iadd dX10_one_62 ?_
          refine xb_top (y := nI (a + 1)) (nI_add (a) (1)) ?_
          refine xr_putI fpX10_165 dX10_one_63 s_62 rfl rfl rfl ?_
          refine xr_iload_n dX10_one_66 0 rfl ?_
          refine xr_bipush (v := 40) dX10_one_67 rfl ?_
          refine xr_icmp_ne (tgt := 79) dX10_one_69 rfl (fun c148 => ?_) (fun c148 => ?_)
          · refine xr_aload_n dX10_one_79 1 rfl ?_
            refine xr_callV (As := []) (rest := []) mlX10_196 (h0 l G (x_up (x_up M 62 18 (nI (o + 1))) 62 15 (nI (a + 1))) J bs (a + 1) E (o + 1) hbs (Eq.trans (x_up_k _ _ _ (by decide)) (Eq.trans (x_up_k _ _ _ (by decide)) e_bs)) (by omega) (by omega) (x_up_s _ _ _ _) (Eq.trans (x_up_k _ _ _ (by decide)) (Eq.trans (x_up_k _ _ _ (by decide)) e_E)) (by omega) (Eq.trans (x_up_k _ _ _ (by decide)) (x_up_s _ _ _ _))) dX10_one_80 s_62 rfl rfl (Nat.le_of_ble_eq_true rfl) (by omega) ⟨by decide, by decide⟩ (fun v s2 M153 J2 hq => ?_)
            obtain ⟨r155, rfl, rfl, rfl, k154, ⟨a150, o151, a150a, a150b, o151d, o151c, ea150, eo151, hf152⟩⟩ := hq
            try dsimp only [Option.toList, List.cons_append, List.nil_append]
            obtain ⟨o151_, rfl⟩ : ∃ q, o151 = q + 1 := ⟨o151 - 1, by omega⟩
            refine xr_istore_n (ls2 := [(2, .int (r155)), (1, .int (r3)), (0, .ref (62))]) dX10_one_83 (by decide) rfl ?_
            refine xr_iload_n dX10_one_84 1 rfl ?_
            refine xr_bipush (v := 40) dX10_one_85 rfl ?_
            refine xr_icmp_ne (tgt := 104) dX10_one_87 rfl (fun c156 => ?_) (fun c156 => ?_)
            · refine xr_aload_n dX10_one_104 2 rfl ?_
              refine xr_dup dX10_one_105 rfl ?_
              refine xb_get (v := nI (o151_ + 1)) flX10_199 dX10_one_106 s_62 rfl eo151 ?_
              refine xr_iconst (v := 1) dX10_one_109 rfl ?_
              refine xr_isub dX10_one_110 ?_
              refine xb_top (y := nI o151_) (nI_pred o151_) ?_
              refine xr_putI fpX10_199 dX10_one_111 s_62 rfl rfl rfl ?_
              refine xr_iload_n dX10_one_114 1 rfl ?_
              refine xr_bipush (v := 40) dX10_one_115 rfl ?_
              refine xr_icmp_ne (tgt := 124) dX10_one_117 rfl (fun c157 => ?_) (fun c157 => ?_)
              · refine xr_iload_n dX10_one_124 1 rfl ?_
                refine xr_bipush (v := 45) dX10_one_125 rfl ?_
                refine xr_icmp_ne (tgt := 135) dX10_one_127 rfl (fun c158 => ?_) (fun c158 => ?_)
                · refine xr_iload_n dX10_one_135 0 rfl ?_
                  refine xr_if_ne (tgt := 143) dX10_one_136 rfl (fun c159 => ?_) (fun c159 => ?_)
                  · refine xr_iconst (v := 0) dX10_one_143 rfl ?_
                    exact xr_iret dX10_one_144 rfl rfl (⟨_, rfl, rfl, rfl, (Ke.up (Or.inr (Or.inr (by omega))) (Ke.tr (fun _ _ h => h) (Ke.up (Or.inl (by omega)) (Ke.up (Or.inr (Or.inr (by omega))) Ke.rf)) k154)), ⟨a150, o151_, by omega, by omega, by omega, by omega, (Eq.trans (x_up_k _ _ _ (by decide)) ea150), (x_up_s _ _ _ _), (fun q => Nat.succ.inj (hf152 q))⟩⟩)
                  · refine xr_iconst (v := 1) dX10_one_139 rfl ?_
                    refine xr_goto (tgt := 144) dX10_one_140 rfl ?_
                    exact xr_iret dX10_one_144 rfl rfl (⟨_, rfl, rfl, rfl, (Ke.up (Or.inr (Or.inr (by omega))) (Ke.tr (fun _ _ h => h) (Ke.up (Or.inl (by omega)) (Ke.up (Or.inr (Or.inr (by omega))) Ke.rf)) k154)), ⟨a150, o151_, by omega, by omega, by omega, by omega, (Eq.trans (x_up_k _ _ _ (by decide)) ea150), (x_up_s _ _ _ _), (fun q => Nat.succ.inj (hf152 q))⟩⟩)
                · refine xr_iload_n dX10_one_130 0 rfl ?_
                  refine xr_ineg dX10_one_131 ?_
                  refine xr_goto (tgt := 144) dX10_one_132 rfl ?_
                  exact xr_iret dX10_one_144 rfl rfl (⟨_, rfl, rfl, rfl, (Ke.up (Or.inr (Or.inr (by omega))) (Ke.tr (fun _ _ h => h) (Ke.up (Or.inl (by omega)) (Ke.up (Or.inr (Or.inr (by omega))) Ke.rf)) k154)), ⟨a150, o151_, by omega, by omega, by omega, by omega, (Eq.trans (x_up_k _ _ _ (by decide)) ea150), (x_up_s _ _ _ _), (fun q => Nat.succ.inj (hf152 q))⟩⟩)
              · refine xr_iload_n dX10_one_120 0 rfl ?_
                refine xr_goto (tgt := 144) dX10_one_121 rfl ?_
                exact xr_iret dX10_one_144 rfl rfl (⟨_, rfl, rfl, rfl, (Ke.up (Or.inr (Or.inr (by omega))) (Ke.tr (fun _ _ h => h) (Ke.up (Or.inl (by omega)) (Ke.up (Or.inr (Or.inr (by omega))) Ke.rf)) k154)), ⟨a150, o151_, by omega, by omega, by omega, by omega, (Eq.trans (x_up_k _ _ _ (by decide)) ea150), (x_up_s _ _ _ _), (fun q => Nat.succ.inj (hf152 q))⟩⟩)
            · refine xr_aload_n dX10_one_90 2 rfl ?_
              refine xr_bipush (v := 41) dX10_one_91 rfl ?_
              refine xr_callV (As := [.int (41)]) (rest := []) mlX10_184 (g_X10_takes 41 (by decide) hbs (Eq.trans (k154 62 14 (by decide)) (Eq.trans (x_up_k _ _ _ (by decide)) (Eq.trans (x_up_k _ _ _ (by decide)) e_bs))) (by omega) ea150 (by omega) (Eq.trans (k154 62 16 (by decide)) (Eq.trans (x_up_k _ _ _ (by decide)) (Eq.trans (x_up_k _ _ _ (by decide)) e_E)))) dX10_one_93 s_62 rfl rfl (Nat.le_of_ble_eq_true rfl) (by omega) ⟨by decide, by decide⟩ (fun v s2 M161 J2 hq => ?_)
              obtain ⟨r163, rfl, rfl, rfl, k162, hx160⟩ := hq
              try dsimp only [Option.toList, List.cons_append, List.nil_append]
              refine xr_if_ne (tgt := 104) dX10_one_96 rfl (fun c164 => ?_) (fun c164 => ?_)
              · obtain ⟨-, hff, ha5, ea5⟩ := Or.resolve_left hx160 (fun q => c164 q.1)
                refine xr_aload_n dX10_one_104 2 rfl ?_
                refine xr_dup dX10_one_105 rfl ?_
                refine xb_get (v := nI (o151_ + 1)) flX10_199 dX10_one_106 s_62 rfl (Eq.trans (k162 62 18 (by decide)) eo151) ?_
                refine xr_iconst (v := 1) dX10_one_109 rfl ?_
                refine xr_isub dX10_one_110 ?_
                refine xb_top (y := nI o151_) (nI_pred o151_) ?_
                refine xr_putI fpX10_199 dX10_one_111 s_62 rfl rfl rfl ?_
                refine xr_iload_n dX10_one_114 1 rfl ?_
                refine xr_bipush (v := 40) dX10_one_115 rfl ?_
                refine xr_icmp_ne (tgt := 124) dX10_one_117 rfl (fun c165 => ?_) (fun c165 => ?_)
                · refine xr_iload_n dX10_one_124 1 rfl ?_
                  refine xr_bipush (v := 45) dX10_one_125 rfl ?_
                  refine xr_icmp_ne (tgt := 135) dX10_one_127 rfl (fun c166 => ?_) (fun c166 => ?_)
                  · refine xr_iload_n dX10_one_135 0 rfl ?_
                    refine xr_if_ne (tgt := 143) dX10_one_136 rfl (fun c167 => ?_) (fun c167 => ?_)
                    · refine xr_iconst (v := 0) dX10_one_143 rfl ?_
                      exact xr_iret dX10_one_144 rfl rfl (⟨_, rfl, rfl, rfl, (Ke.up (Or.inr (Or.inr (by omega))) (Ke.tr (fun pp kk h => (Or.inl h)) (Ke.tr (fun _ _ h => h) (Ke.up (Or.inl (by omega)) (Ke.up (Or.inr (Or.inr (by omega))) Ke.rf)) k154) k162)), ⟨a150 + 1, o151_, by omega, by omega, by omega, by omega, (Eq.trans (x_up_k _ _ _ (by decide)) ea5), (x_up_s _ _ _ _), (fun q => Nat.succ.inj ((fun q => hf152 (by rw [← k162 62 17 (by decide)]; exact q)) q))⟩⟩)
                    · refine xr_iconst (v := 1) dX10_one_139 rfl ?_
                      refine xr_goto (tgt := 144) dX10_one_140 rfl ?_
                      exact xr_iret dX10_one_144 rfl rfl (⟨_, rfl, rfl, rfl, (Ke.up (Or.inr (Or.inr (by omega))) (Ke.tr (fun pp kk h => (Or.inl h)) (Ke.tr (fun _ _ h => h) (Ke.up (Or.inl (by omega)) (Ke.up (Or.inr (Or.inr (by omega))) Ke.rf)) k154) k162)), ⟨a150 + 1, o151_, by omega, by omega, by omega, by omega, (Eq.trans (x_up_k _ _ _ (by decide)) ea5), (x_up_s _ _ _ _), (fun q => Nat.succ.inj ((fun q => hf152 (by rw [← k162 62 17 (by decide)]; exact q)) q))⟩⟩)
                  · refine xr_iload_n dX10_one_130 0 rfl ?_
                    refine xr_ineg dX10_one_131 ?_
                    refine xr_goto (tgt := 144) dX10_one_132 rfl ?_
                    exact xr_iret dX10_one_144 rfl rfl (⟨_, rfl, rfl, rfl, (Ke.up (Or.inr (Or.inr (by omega))) (Ke.tr (fun pp kk h => (Or.inl h)) (Ke.tr (fun _ _ h => h) (Ke.up (Or.inl (by omega)) (Ke.up (Or.inr (Or.inr (by omega))) Ke.rf)) k154) k162)), ⟨a150 + 1, o151_, by omega, by omega, by omega, by omega, (Eq.trans (x_up_k _ _ _ (by decide)) ea5), (x_up_s _ _ _ _), (fun q => Nat.succ.inj ((fun q => hf152 (by rw [← k162 62 17 (by decide)]; exact q)) q))⟩⟩)
                · refine xr_iload_n dX10_one_120 0 rfl ?_
                  refine xr_goto (tgt := 144) dX10_one_121 rfl ?_
                  exact xr_iret dX10_one_144 rfl rfl (⟨_, rfl, rfl, rfl, (Ke.up (Or.inr (Or.inr (by omega))) (Ke.tr (fun pp kk h => (Or.inl h)) (Ke.tr (fun _ _ h => h) (Ke.up (Or.inl (by omega)) (Ke.up (Or.inr (Or.inr (by omega))) Ke.rf)) k154) k162)), ⟨a150 + 1, o151_, by omega, by omega, by omega, by omega, (Eq.trans (x_up_k _ _ _ (by decide)) ea5), (x_up_s _ _ _ _), (fun q => Nat.succ.inj ((fun q => hf152 (by rw [← k162 62 17 (by decide)]; exact q)) q))⟩⟩)
              · have ea5 := (Or.resolve_right hx160 (fun q => absurd (c164.symm.trans q.1) (by decide))).2
                refine xr_aload_n dX10_one_99 2 rfl ?_
                refine xr_callV (As := []) (rest := []) mlX10_202 (g_X10_wrong (by omega) ea5) dX10_one_100 s_62 rfl rfl (Nat.le_of_ble_eq_true rfl) (by omega) ⟨by decide, by decide⟩ (fun v s2 M169 J2 hq => ?_)
                obtain ⟨r171, rfl, rfl, rfl, k170, hx168⟩ := hq
                try dsimp only [Option.toList, List.cons_append, List.nil_append]
                exact xr_iret dX10_one_103 rfl rfl (⟨_, rfl, rfl, rfl, (Ke.tr (fun pp kk h => (Or.inr (Or.inl h))) (Ke.tr (fun pp kk h => (Or.inl h)) (Ke.tr (fun _ _ h => h) (Ke.up (Or.inl (by omega)) (Ke.up (Or.inr (Or.inr (by omega))) Ke.rf)) k154) k162) k170), ⟨a150, o151_ + 1, by omega, by omega, by omega, by omega, (Eq.trans (k170 62 15 (by decide)) ea5), (Eq.trans (k170 62 18 (by decide)) (Eq.trans (k162 62 18 (by decide)) eo151)), (fun q => absurd q (by have := hx168.2; grind))⟩⟩)
          · refine xr_aload_n dX10_one_72 1 rfl ?_
            refine xr_callV (As := []) (rest := []) mlX10_205 (h1 l G (x_up (x_up M 62 18 (nI (o + 1))) 62 15 (nI (a + 1))) J bs (a + 1) E (o + 1) hbs (Eq.trans (x_up_k _ _ _ (by decide)) (Eq.trans (x_up_k _ _ _ (by decide)) e_bs)) (by omega) (by omega) (x_up_s _ _ _ _) (Eq.trans (x_up_k _ _ _ (by decide)) (Eq.trans (x_up_k _ _ _ (by decide)) e_E)) (by omega) (Eq.trans (x_up_k _ _ _ (by decide)) (x_up_s _ _ _ _))) dX10_one_73 s_62 rfl rfl (Nat.le_of_ble_eq_true rfl) (by omega) ⟨by decide, by decide⟩ (fun v s2 M176 J2 hq => ?_)
            obtain ⟨r178, rfl, rfl, rfl, k177, ⟨a173, o174, a173a, a173b, o174d, o174c, ea173, eo174, hf175⟩⟩ := hq
            try dsimp only [Option.toList, List.cons_append, List.nil_append]
            obtain ⟨o174_, rfl⟩ : ∃ q, o174 = q + 1 := ⟨o174 - 1, by omega⟩
            refine xr_goto (tgt := 83) dX10_one_76 rfl ?_
            refine xr_istore_n (ls2 := [(2, .int (r178)), (1, .int (r3)), (0, .ref (62))]) dX10_one_83 (by decide) rfl ?_
            refine xr_iload_n dX10_one_84 1 rfl ?_
            refine xr_bipush (v := 40) dX10_one_85 rfl ?_
            refine xr_icmp_ne (tgt := 104) dX10_one_87 rfl (fun c179 => ?_) (fun c179 => ?_)
            · refine xr_aload_n dX10_one_104 2 rfl ?_
              refine xr_dup dX10_one_105 rfl ?_
              refine xb_get (v := nI (o174_ + 1)) flX10_199 dX10_one_106 s_62 rfl eo174 ?_
              refine xr_iconst (v := 1) dX10_one_109 rfl ?_
              refine xr_isub dX10_one_110 ?_
              refine xb_top (y := nI o174_) (nI_pred o174_) ?_
              refine xr_putI fpX10_199 dX10_one_111 s_62 rfl rfl rfl ?_
              refine xr_iload_n dX10_one_114 1 rfl ?_
              refine xr_bipush (v := 40) dX10_one_115 rfl ?_
              refine xr_icmp_ne (tgt := 124) dX10_one_117 rfl (fun c180 => ?_) (fun c180 => ?_)
              · refine xr_iload_n dX10_one_124 1 rfl ?_
                refine xr_bipush (v := 45) dX10_one_125 rfl ?_
                refine xr_icmp_ne (tgt := 135) dX10_one_127 rfl (fun c181 => ?_) (fun c181 => ?_)
                · refine xr_iload_n dX10_one_135 0 rfl ?_
                  refine xr_if_ne (tgt := 143) dX10_one_136 rfl (fun c182 => ?_) (fun c182 => ?_)
                  · refine xr_iconst (v := 0) dX10_one_143 rfl ?_
                    exact xr_iret dX10_one_144 rfl rfl (⟨_, rfl, rfl, rfl, (Ke.up (Or.inr (Or.inr (by omega))) (Ke.tr (fun _ _ h => h) (Ke.up (Or.inl (by omega)) (Ke.up (Or.inr (Or.inr (by omega))) Ke.rf)) k177)), ⟨a173, o174_, by omega, by omega, by omega, by omega, (Eq.trans (x_up_k _ _ _ (by decide)) ea173), (x_up_s _ _ _ _), (fun q => Nat.succ.inj (hf175 q))⟩⟩)
                  · refine xr_iconst (v := 1) dX10_one_139 rfl ?_
                    refine xr_goto (tgt := 144) dX10_one_140 rfl ?_
                    exact xr_iret dX10_one_144 rfl rfl (⟨_, rfl, rfl, rfl, (Ke.up (Or.inr (Or.inr (by omega))) (Ke.tr (fun _ _ h => h) (Ke.up (Or.inl (by omega)) (Ke.up (Or.inr (Or.inr (by omega))) Ke.rf)) k177)), ⟨a173, o174_, by omega, by omega, by omega, by omega, (Eq.trans (x_up_k _ _ _ (by decide)) ea173), (x_up_s _ _ _ _), (fun q => Nat.succ.inj (hf175 q))⟩⟩)
                · refine xr_iload_n dX10_one_130 0 rfl ?_
                  refine xr_ineg dX10_one_131 ?_
                  refine xr_goto (tgt := 144) dX10_one_132 rfl ?_
                  exact xr_iret dX10_one_144 rfl rfl (⟨_, rfl, rfl, rfl, (Ke.up (Or.inr (Or.inr (by omega))) (Ke.tr (fun _ _ h => h) (Ke.up (Or.inl (by omega)) (Ke.up (Or.inr (Or.inr (by omega))) Ke.rf)) k177)), ⟨a173, o174_, by omega, by omega, by omega, by omega, (Eq.trans (x_up_k _ _ _ (by decide)) ea173), (x_up_s _ _ _ _), (fun q => Nat.succ.inj (hf175 q))⟩⟩)
              · refine xr_iload_n dX10_one_120 0 rfl ?_
                refine xr_goto (tgt := 144) dX10_one_121 rfl ?_
                exact xr_iret dX10_one_144 rfl rfl (⟨_, rfl, rfl, rfl, (Ke.up (Or.inr (Or.inr (by omega))) (Ke.tr (fun _ _ h => h) (Ke.up (Or.inl (by omega)) (Ke.up (Or.inr (Or.inr (by omega))) Ke.rf)) k177)), ⟨a173, o174_, by omega, by omega, by omega, by omega, (Eq.trans (x_up_k _ _ _ (by decide)) ea173), (x_up_s _ _ _ _), (fun q => Nat.succ.inj (hf175 q))⟩⟩)
            · refine xr_aload_n dX10_one_90 2 rfl ?_
              refine xr_bipush (v := 41) dX10_one_91 rfl ?_
              refine xr_callV (As := [.int (41)]) (rest := []) mlX10_184 (g_X10_takes 41 (by decide) hbs (Eq.trans (k177 62 14 (by decide)) (Eq.trans (x_up_k _ _ _ (by decide)) (Eq.trans (x_up_k _ _ _ (by decide)) e_bs))) (by omega) ea173 (by omega) (Eq.trans (k177 62 16 (by decide)) (Eq.trans (x_up_k _ _ _ (by decide)) (Eq.trans (x_up_k _ _ _ (by decide)) e_E)))) dX10_one_93 s_62 rfl rfl (Nat.le_of_ble_eq_true rfl) (by omega) ⟨by decide, by decide⟩ (fun v s2 M184 J2 hq => ?_)
              obtain ⟨r186, rfl, rfl, rfl, k185, hx183⟩ := hq
              try dsimp only [Option.toList, List.cons_append, List.nil_append]
              refine xr_if_ne (tgt := 104) dX10_one_96 rfl (fun c187 => ?_) (fun c187 => ?_)
              · obtain ⟨-, hff, ha5, ea5⟩ := Or.resolve_left hx183 (fun q => c187 q.1)
                refine xr_aload_n dX10_one_104 2 rfl ?_
                refine xr_dup dX10_one_105 rfl ?_
                refine xb_get (v := nI (o174_ + 1)) flX10_199 dX10_one_106 s_62 rfl (Eq.trans (k185 62 18 (by decide)) eo174) ?_
                refine xr_iconst (v := 1) dX10_one_109 rfl ?_
                refine xr_isub dX10_one_110 ?_
                refine xb_top (y := nI o174_) (nI_pred o174_) ?_
                refine xr_putI fpX10_199 dX10_one_111 s_62 rfl rfl rfl ?_
                refine xr_iload_n dX10_one_114 1 rfl ?_
                refine xr_bipush (v := 40) dX10_one_115 rfl ?_
                refine xr_icmp_ne (tgt := 124) dX10_one_117 rfl (fun c188 => ?_) (fun c188 => ?_)
                · refine xr_iload_n dX10_one_124 1 rfl ?_
                  refine xr_bipush (v := 45) dX10_one_125 rfl ?_
                  refine xr_icmp_ne (tgt := 135) dX10_one_127 rfl (fun c189 => ?_) (fun c189 => ?_)
                  · refine xr_iload_n dX10_one_135 0 rfl ?_
                    refine xr_if_ne (tgt := 143) dX10_one_136 rfl (fun c190 => ?_) (fun c190 => ?_)
                    · refine xr_iconst (v := 0) dX10_one_143 rfl ?_
                      exact xr_iret dX10_one_144 rfl rfl (⟨_, rfl, rfl, rfl, (Ke.up (Or.inr (Or.inr (by omega))) (Ke.tr (fun pp kk h => (Or.inl h)) (Ke.tr (fun _ _ h => h) (Ke.up (Or.inl (by omega)) (Ke.up (Or.inr (Or.inr (by omega))) Ke.rf)) k177) k185)), ⟨a173 + 1, o174_, by omega, by omega, by omega, by omega, (Eq.trans (x_up_k _ _ _ (by decide)) ea5), (x_up_s _ _ _ _), (fun q => Nat.succ.inj ((fun q => hf175 (by rw [← k185 62 17 (by decide)]; exact q)) q))⟩⟩)
                    · refine xr_iconst (v := 1) dX10_one_139 rfl ?_
                      refine xr_goto (tgt := 144) dX10_one_140 rfl ?_
                      exact xr_iret dX10_one_144 rfl rfl (⟨_, rfl, rfl, rfl, (Ke.up (Or.inr (Or.inr (by omega))) (Ke.tr (fun pp kk h => (Or.inl h)) (Ke.tr (fun _ _ h => h) (Ke.up (Or.inl (by omega)) (Ke.up (Or.inr (Or.inr (by omega))) Ke.rf)) k177) k185)), ⟨a173 + 1, o174_, by omega, by omega, by omega, by omega, (Eq.trans (x_up_k _ _ _ (by decide)) ea5), (x_up_s _ _ _ _), (fun q => Nat.succ.inj ((fun q => hf175 (by rw [← k185 62 17 (by decide)]; exact q)) q))⟩⟩)
                  · refine xr_iload_n dX10_one_130 0 rfl ?_
                    refine xr_ineg dX10_one_131 ?_
                    refine xr_goto (tgt := 144) dX10_one_132 rfl ?_
                    exact xr_iret dX10_one_144 rfl rfl (⟨_, rfl, rfl, rfl, (Ke.up (Or.inr (Or.inr (by omega))) (Ke.tr (fun pp kk h => (Or.inl h)) (Ke.tr (fun _ _ h => h) (Ke.up (Or.inl (by omega)) (Ke.up (Or.inr (Or.inr (by omega))) Ke.rf)) k177) k185)), ⟨a173 + 1, o174_, by omega, by omega, by omega, by omega, (Eq.trans (x_up_k _ _ _ (by decide)) ea5), (x_up_s _ _ _ _), (fun q => Nat.succ.inj ((fun q => hf175 (by rw [← k185 62 17 (by decide)]; exact q)) q))⟩⟩)
                · refine xr_iload_n dX10_one_120 0 rfl ?_
                  refine xr_goto (tgt := 144) dX10_one_121 rfl ?_
                  exact xr_iret dX10_one_144 rfl rfl (⟨_, rfl, rfl, rfl, (Ke.up (Or.inr (Or.inr (by omega))) (Ke.tr (fun pp kk h => (Or.inl h)) (Ke.tr (fun _ _ h => h) (Ke.up (Or.inl (by omega)) (Ke.up (Or.inr (Or.inr (by omega))) Ke.rf)) k177) k185)), ⟨a173 + 1, o174_, by omega, by omega, by omega, by omega, (Eq.trans (x_up_k _ _ _ (by decide)) ea5), (x_up_s _ _ _ _), (fun q => Nat.succ.inj ((fun q => hf175 (by rw [← k185 62 17 (by decide)]; exact q)) q))⟩⟩)
              · have ea5 := (Or.resolve_right hx183 (fun q => absurd (c187.symm.trans q.1) (by decide))).2
                refine xr_aload_n dX10_one_99 2 rfl ?_
                refine xr_callV (As := []) (rest := []) mlX10_202 (g_X10_wrong (by omega) ea5) dX10_one_100 s_62 rfl rfl (Nat.le_of_ble_eq_true rfl) (by omega) ⟨by decide, by decide⟩ (fun v s2 M192 J2 hq => ?_)
                obtain ⟨r194, rfl, rfl, rfl, k193, hx191⟩ := hq
                try dsimp only [Option.toList, List.cons_append, List.nil_append]
                exact xr_iret dX10_one_103 rfl rfl (⟨_, rfl, rfl, rfl, (Ke.tr (fun pp kk h => (Or.inr (Or.inl h))) (Ke.tr (fun pp kk h => (Or.inl h)) (Ke.tr (fun _ _ h => h) (Ke.up (Or.inl (by omega)) (Ke.up (Or.inr (Or.inr (by omega))) Ke.rf)) k177) k185) k193), ⟨a173, o174_ + 1, by omega, by omega, by omega, by omega, (Eq.trans (k193 62 15 (by decide)) ea5), (Eq.trans (k193 62 18 (by decide)) (Eq.trans (k185 62 18 (by decide)) eo174)), (fun q => absurd q (by have := hx191.2; grind))⟩⟩)
  · refine xr_iconst (v := 0) dX10_one_7 rfl ?_
    exact xr_iret dX10_one_8 rfl rfl (⟨_, rfl, rfl, rfl, Ke.rf, ⟨a, o, by omega, by omega, by omega, by omega, e_a, e_o, (fun _ => rfl)⟩⟩)
theorem lv_chain {u : Nat} (h : LV fX10_one (8 * u + 3) u) : LV fX10_either (8 * u + 8) u := lv_either (lv_both (lv_compared (lv_sums (lv_product h))))
theorem lv_all : ∀ u, LV fX10_one (8 * u + 3) u := by
  intro u
  induction u with
  | zero => exact lv_one0
  | succ u ih => exact lv_oneS ih (lv_chain ih)
theorem lv_top : LV fX10_either 56 6 := lv_chain (lv_all 6)
set_option maxRecDepth 100000 in
set_option maxHeartbeats 4000000 in
theorem wo_loop {l : Launch} {G : xG} {M : xM} {J : xJ} {bs : Int32} {E : Nat} (hbs : bs = -1 ∨ bs = 0) (hE : E ≤ 120) : ∀ (m a1 : Nat) (gi gv : Int32) (M1 : xM), E < a1 + m + 1 → a1 ≤ E → Ke WPW M M1 → M1 62 15 = nI a1 → M1 62 18 = nI 0 → M1 62 14 = bs → M1 62 16 = nI E → x_X l G fX10_workOut 58 0 0 (qKI WPW M J (fun r M2 => True)) 33 [(5, .int (1)), (4, .int (gi)), (3, .int (gv)), (0, .ref (62))] [] x_SH M1 J 0 0 := by
  intro m
  induction m with
  | zero =>
    intro a1 gi gv M1 hm h2 hM e_a1 e_o1 e_bs e_E
    refine xr_iload dX10_workOut_33 0 rfl ?_
    refine xr_if_eq (tgt := 107) dX10_workOut_35 rfl (fun c => absurd c (by decide)) (fun _ => ?_)
    refine xr_aload_n dX10_workOut_38 3 rfl ?_
    refine xr_callV (As := []) (rest := []) mlX10_205 (lv_top l G M1 J bs a1 E 0 hbs e_bs (by omega) (by omega) e_a1 e_E (by omega) e_o1) dX10_workOut_39 s_62 rfl rfl (Nat.le_of_ble_eq_true rfl) (by decide) ⟨by decide, by decide⟩ (fun v s2 M5 J2 hq => ?_)
    obtain ⟨r7, rfl, rfl, rfl, k6, ⟨a2, o3, a2a, a2b, o3d, o3c, ea2, eo3, hf4⟩⟩ := hq
    try dsimp only [Option.toList, List.cons_append, List.nil_append]
    refine xr_istore (ls2 := [(6, .int (r7)), (5, .int (1)), (4, .int (gi)), (3, .int (gv)), (0, .ref (62))]) dX10_workOut_42 (by decide) rfl ?_
    refine xr_iconst (v := 1) dX10_workOut_44 rfl ?_
    refine xr_istore (ls2 := [(7, .int (1)), (6, .int (r7)), (5, .int (1)), (4, .int (gi)), (3, .int (gv)), (0, .ref (62))]) dX10_workOut_45 (by decide) rfl ?_
    refine xr_aload_n dX10_workOut_47 5 rfl ?_
    refine xr_bipush (v := 63) dX10_workOut_48 rfl ?_
    refine xr_callV (As := [.int (63)]) (rest := []) mlX10_184 (g_X10_takes 63 (by decide) hbs (Eq.trans (k6 62 14 (by decide)) e_bs) (by omega) ea2 (by omega) (Eq.trans (k6 62 16 (by decide)) e_E)) dX10_workOut_50 s_62 rfl rfl (Nat.le_of_ble_eq_true rfl) (by decide) ⟨by decide, by decide⟩ (fun v s2 M9 J2 hq => ?_)
    obtain ⟨r11, rfl, rfl, rfl, k10, hx8⟩ := hq
    try dsimp only [Option.toList, List.cons_append, List.nil_append]
    refine xr_if_eq (tgt := 74) dX10_workOut_53 rfl (fun c12 => ?_) (fun c12 => ?_)
    · have ea13 := (Or.resolve_right hx8 (fun q => absurd (c12.symm.trans q.1) (by decide))).2
      refine xr_aload_n dX10_workOut_74 5 rfl ?_
      refine xb_get (v := M9 62 17) flX10_174 dX10_workOut_75 s_62 rfl rfl ?_
      refine xr_if_ge (tgt := 96) dX10_workOut_78 rfl (fun c14 => ?_) (fun c14 => ?_)
      · refine xr_aload_n dX10_workOut_96 5 rfl ?_
        refine xr_bipush (v := 59) dX10_workOut_97 rfl ?_
        refine xr_callV (As := [.int (59)]) (rest := []) mlX10_184 (g_X10_takes 59 (by decide) hbs (Eq.trans (k10 62 14 (by decide)) (Eq.trans (k6 62 14 (by decide)) e_bs)) (by omega) ea13 (by omega) (Eq.trans (k10 62 16 (by decide)) (Eq.trans (k6 62 16 (by decide)) e_E))) dX10_workOut_99 s_62 rfl rfl (Nat.le_of_ble_eq_true rfl) (by decide) ⟨by decide, by decide⟩ (fun v s2 M16 J2 hq => ?_)
        obtain ⟨r18, rfl, rfl, rfl, k17, hx15⟩ := hq
        try dsimp only [Option.toList, List.cons_append, List.nil_append]
        refine xr_istore (ls2 := [(5, .int (r18)), (7, .int (1)), (6, .int (r7)), (4, .int (gi)), (3, .int (gv)), (0, .ref (62))]) dX10_workOut_102 (by decide) rfl ?_
        refine xr_goto (tgt := 33) dX10_workOut_104 rfl ?_
        rcases hx15 with ⟨hr0, ea9⟩ | ⟨hr1, hff9, ha9, ea9⟩
        · subst hr0
          refine xr_iload dX10_workOut_33 0 rfl ?_
          refine xr_if_eq (tgt := 107) dX10_workOut_35 rfl (fun _ => ?_) (fun c => absurd (by decide) c)
          refine xr_aload_n dX10_workOut_107 5 rfl ?_
          refine xb_get (v := M16 62 17) flX10_174 dX10_workOut_108 s_62 rfl rfl ?_
          refine xr_if_ge (tgt := 130) dX10_workOut_111 rfl (fun c19 => ?_) (fun c19 => ?_)
          · refine xr_iload dX10_workOut_130 3 rfl ?_
            exact xr_iret dX10_workOut_132 rfl rfl (⟨_, rfl, rfl, rfl, (Ke.tr (fun pp kk h => (Or.inr (Or.inl h))) (Ke.tr (fun pp kk h => (Or.inr (Or.inl h))) (Ke.tr (fun pp kk => (fun hh => Or.elim hh (fun h => (Or.inr (Or.inl h))) (fun hh => Or.elim hh (fun h => (Or.inr (Or.inr (Or.inr (Or.inl h))))) (fun h => (Or.inr (Or.inr (Or.inr (Or.inr h)))))))) hM k6) k10) k17), trivial⟩)
          · refine xr_aload_n dX10_workOut_114 5 rfl ?_
            refine xb_get (v := nI (a2)) flX10_165 dX10_workOut_115 s_62 rfl ea9 ?_
            refine xr_aload_n dX10_workOut_118 5 rfl ?_
            refine xb_get (v := nI (E)) flX10_168 dX10_workOut_119 s_62 rfl (Eq.trans (k17 62 16 (by decide)) (Eq.trans (k10 62 16 (by decide)) (Eq.trans (k6 62 16 (by decide)) e_E))) ?_
            refine xr_icmp_ge (tgt := 130) dX10_workOut_122 rfl (fun c20 => ?_) (fun c20 => ?_)
            · refine xr_iload dX10_workOut_130 3 rfl ?_
              exact xr_iret dX10_workOut_132 rfl rfl (⟨_, rfl, rfl, rfl, (Ke.tr (fun pp kk h => (Or.inr (Or.inl h))) (Ke.tr (fun pp kk h => (Or.inr (Or.inl h))) (Ke.tr (fun pp kk => (fun hh => Or.elim hh (fun h => (Or.inr (Or.inl h))) (fun hh => Or.elim hh (fun h => (Or.inr (Or.inr (Or.inr (Or.inl h))))) (fun h => (Or.inr (Or.inr (Or.inr (Or.inr h)))))))) hM k6) k10) k17), trivial⟩)
            · refine xr_aload_n dX10_workOut_125 5 rfl ?_
              refine xr_callV (As := []) (rest := []) mlX10_202 (g_X10_wrong (by omega) ea9) dX10_workOut_126 s_62 rfl rfl (Nat.le_of_ble_eq_true rfl) (by decide) ⟨by decide, by decide⟩ (fun v s2 M22 J2 hq => ?_)
              obtain ⟨r24, rfl, rfl, rfl, k23, hx21⟩ := hq
              try dsimp only [Option.toList, List.cons_append, List.nil_append]
              exact xr_iret dX10_workOut_129 rfl rfl (⟨_, rfl, rfl, rfl, (Ke.tr (fun pp kk h => (Or.inr (Or.inr (Or.inr (Or.inl h))))) (Ke.tr (fun pp kk h => (Or.inr (Or.inl h))) (Ke.tr (fun pp kk h => (Or.inr (Or.inl h))) (Ke.tr (fun pp kk => (fun hh => Or.elim hh (fun h => (Or.inr (Or.inl h))) (fun hh => Or.elim hh (fun h => (Or.inr (Or.inr (Or.inr (Or.inl h))))) (fun h => (Or.inr (Or.inr (Or.inr (Or.inr h)))))))) hM k6) k10) k17) k23), trivial⟩)
        · subst hr1
          have ho9 : o3 = 0 := (fun q => hf4 (by rw [← k10 62 17 (by decide)]; exact q)) hff9
          obtain rfl := ho9
          exact absurd hm (by omega)
      · refine xr_iload dX10_workOut_81 0 rfl ?_
        refine xr_if_eq (tgt := 96) dX10_workOut_83 rfl (fun c => absurd c (by decide)) (fun _ => ?_)
        refine xr_iload_n dX10_workOut_86 4 rfl ?_
        refine xr_if_ne (tgt := 96) dX10_workOut_87 rfl (fun c25 => ?_) (fun c25 => ?_)
        · refine xr_aload_n dX10_workOut_96 5 rfl ?_
          refine xr_bipush (v := 59) dX10_workOut_97 rfl ?_
          refine xr_callV (As := [.int (59)]) (rest := []) mlX10_184 (g_X10_takes 59 (by decide) hbs (Eq.trans (k10 62 14 (by decide)) (Eq.trans (k6 62 14 (by decide)) e_bs)) (by omega) ea13 (by omega) (Eq.trans (k10 62 16 (by decide)) (Eq.trans (k6 62 16 (by decide)) e_E))) dX10_workOut_99 s_62 rfl rfl (Nat.le_of_ble_eq_true rfl) (by decide) ⟨by decide, by decide⟩ (fun v s2 M27 J2 hq => ?_)
          obtain ⟨r29, rfl, rfl, rfl, k28, hx26⟩ := hq
          try dsimp only [Option.toList, List.cons_append, List.nil_append]
          refine xr_istore (ls2 := [(5, .int (r29)), (7, .int (1)), (6, .int (r7)), (4, .int (gi)), (3, .int (gv)), (0, .ref (62))]) dX10_workOut_102 (by decide) rfl ?_
          refine xr_goto (tgt := 33) dX10_workOut_104 rfl ?_
          rcases hx26 with ⟨hr0, ea9⟩ | ⟨hr1, hff9, ha9, ea9⟩
          · subst hr0
            refine xr_iload dX10_workOut_33 0 rfl ?_
            refine xr_if_eq (tgt := 107) dX10_workOut_35 rfl (fun _ => ?_) (fun c => absurd (by decide) c)
            refine xr_aload_n dX10_workOut_107 5 rfl ?_
            refine xb_get (v := M27 62 17) flX10_174 dX10_workOut_108 s_62 rfl rfl ?_
            refine xr_if_ge (tgt := 130) dX10_workOut_111 rfl (fun c30 => ?_) (fun c30 => ?_)
            · refine xr_iload dX10_workOut_130 3 rfl ?_
              exact xr_iret dX10_workOut_132 rfl rfl (⟨_, rfl, rfl, rfl, (Ke.tr (fun pp kk h => (Or.inr (Or.inl h))) (Ke.tr (fun pp kk h => (Or.inr (Or.inl h))) (Ke.tr (fun pp kk => (fun hh => Or.elim hh (fun h => (Or.inr (Or.inl h))) (fun hh => Or.elim hh (fun h => (Or.inr (Or.inr (Or.inr (Or.inl h))))) (fun h => (Or.inr (Or.inr (Or.inr (Or.inr h)))))))) hM k6) k10) k28), trivial⟩)
            · refine xr_aload_n dX10_workOut_114 5 rfl ?_
              refine xb_get (v := nI (a2)) flX10_165 dX10_workOut_115 s_62 rfl ea9 ?_
              refine xr_aload_n dX10_workOut_118 5 rfl ?_
              refine xb_get (v := nI (E)) flX10_168 dX10_workOut_119 s_62 rfl (Eq.trans (k28 62 16 (by decide)) (Eq.trans (k10 62 16 (by decide)) (Eq.trans (k6 62 16 (by decide)) e_E))) ?_
              refine xr_icmp_ge (tgt := 130) dX10_workOut_122 rfl (fun c31 => ?_) (fun c31 => ?_)
              · refine xr_iload dX10_workOut_130 3 rfl ?_
                exact xr_iret dX10_workOut_132 rfl rfl (⟨_, rfl, rfl, rfl, (Ke.tr (fun pp kk h => (Or.inr (Or.inl h))) (Ke.tr (fun pp kk h => (Or.inr (Or.inl h))) (Ke.tr (fun pp kk => (fun hh => Or.elim hh (fun h => (Or.inr (Or.inl h))) (fun hh => Or.elim hh (fun h => (Or.inr (Or.inr (Or.inr (Or.inl h))))) (fun h => (Or.inr (Or.inr (Or.inr (Or.inr h)))))))) hM k6) k10) k28), trivial⟩)
              · refine xr_aload_n dX10_workOut_125 5 rfl ?_
                refine xr_callV (As := []) (rest := []) mlX10_202 (g_X10_wrong (by omega) ea9) dX10_workOut_126 s_62 rfl rfl (Nat.le_of_ble_eq_true rfl) (by decide) ⟨by decide, by decide⟩ (fun v s2 M33 J2 hq => ?_)
                obtain ⟨r35, rfl, rfl, rfl, k34, hx32⟩ := hq
                try dsimp only [Option.toList, List.cons_append, List.nil_append]
                exact xr_iret dX10_workOut_129 rfl rfl (⟨_, rfl, rfl, rfl, (Ke.tr (fun pp kk h => (Or.inr (Or.inr (Or.inr (Or.inl h))))) (Ke.tr (fun pp kk h => (Or.inr (Or.inl h))) (Ke.tr (fun pp kk h => (Or.inr (Or.inl h))) (Ke.tr (fun pp kk => (fun hh => Or.elim hh (fun h => (Or.inr (Or.inl h))) (fun hh => Or.elim hh (fun h => (Or.inr (Or.inr (Or.inr (Or.inl h))))) (fun h => (Or.inr (Or.inr (Or.inr (Or.inr h)))))))) hM k6) k10) k28) k34), trivial⟩)
          · subst hr1
            have ho9 : o3 = 0 := (fun q => hf4 (by rw [← k10 62 17 (by decide)]; exact q)) hff9
            obtain rfl := ho9
            exact absurd hm (by omega)
        · refine xr_iconst (v := 1) dX10_workOut_90 rfl ?_
          refine xr_istore_n (ls2 := [(3, .int (1)), (7, .int (1)), (6, .int (r7)), (5, .int (1)), (4, .int (gi)), (0, .ref (62))]) dX10_workOut_91 (by decide) rfl ?_
          refine xr_iload dX10_workOut_92 2 rfl ?_
          refine xr_istore (ls2 := [(4, .int (r7)), (3, .int (1)), (7, .int (1)), (6, .int (r7)), (5, .int (1)), (0, .ref (62))]) dX10_workOut_94 (by decide) rfl ?_
          refine xr_aload_n dX10_workOut_96 5 rfl ?_
          refine xr_bipush (v := 59) dX10_workOut_97 rfl ?_
          refine xr_callV (As := [.int (59)]) (rest := []) mlX10_184 (g_X10_takes 59 (by decide) hbs (Eq.trans (k10 62 14 (by decide)) (Eq.trans (k6 62 14 (by decide)) e_bs)) (by omega) ea13 (by omega) (Eq.trans (k10 62 16 (by decide)) (Eq.trans (k6 62 16 (by decide)) e_E))) dX10_workOut_99 s_62 rfl rfl (Nat.le_of_ble_eq_true rfl) (by decide) ⟨by decide, by decide⟩ (fun v s2 M37 J2 hq => ?_)
          obtain ⟨r39, rfl, rfl, rfl, k38, hx36⟩ := hq
          try dsimp only [Option.toList, List.cons_append, List.nil_append]
          refine xr_istore (ls2 := [(5, .int (r39)), (4, .int (r7)), (3, .int (1)), (7, .int (1)), (6, .int (r7)), (0, .ref (62))]) dX10_workOut_102 (by decide) rfl ?_
          refine xr_goto (tgt := 33) dX10_workOut_104 rfl ?_
          rcases hx36 with ⟨hr0, ea9⟩ | ⟨hr1, hff9, ha9, ea9⟩
          · subst hr0
            refine xr_iload dX10_workOut_33 0 rfl ?_
            refine xr_if_eq (tgt := 107) dX10_workOut_35 rfl (fun _ => ?_) (fun c => absurd (by decide) c)
            refine xr_aload_n dX10_workOut_107 5 rfl ?_
            refine xb_get (v := M37 62 17) flX10_174 dX10_workOut_108 s_62 rfl rfl ?_
            refine xr_if_ge (tgt := 130) dX10_workOut_111 rfl (fun c40 => ?_) (fun c40 => ?_)
            · refine xr_iload dX10_workOut_130 1 rfl ?_
              exact xr_iret dX10_workOut_132 rfl rfl (⟨_, rfl, rfl, rfl, (Ke.tr (fun pp kk h => (Or.inr (Or.inl h))) (Ke.tr (fun pp kk h => (Or.inr (Or.inl h))) (Ke.tr (fun pp kk => (fun hh => Or.elim hh (fun h => (Or.inr (Or.inl h))) (fun hh => Or.elim hh (fun h => (Or.inr (Or.inr (Or.inr (Or.inl h))))) (fun h => (Or.inr (Or.inr (Or.inr (Or.inr h)))))))) hM k6) k10) k38), trivial⟩)
            · refine xr_aload_n dX10_workOut_114 5 rfl ?_
              refine xb_get (v := nI (a2)) flX10_165 dX10_workOut_115 s_62 rfl ea9 ?_
              refine xr_aload_n dX10_workOut_118 5 rfl ?_
              refine xb_get (v := nI (E)) flX10_168 dX10_workOut_119 s_62 rfl (Eq.trans (k38 62 16 (by decide)) (Eq.trans (k10 62 16 (by decide)) (Eq.trans (k6 62 16 (by decide)) e_E))) ?_
              refine xr_icmp_ge (tgt := 130) dX10_workOut_122 rfl (fun c41 => ?_) (fun c41 => ?_)
              · refine xr_iload dX10_workOut_130 1 rfl ?_
                exact xr_iret dX10_workOut_132 rfl rfl (⟨_, rfl, rfl, rfl, (Ke.tr (fun pp kk h => (Or.inr (Or.inl h))) (Ke.tr (fun pp kk h => (Or.inr (Or.inl h))) (Ke.tr (fun pp kk => (fun hh => Or.elim hh (fun h => (Or.inr (Or.inl h))) (fun hh => Or.elim hh (fun h => (Or.inr (Or.inr (Or.inr (Or.inl h))))) (fun h => (Or.inr (Or.inr (Or.inr (Or.inr h)))))))) hM k6) k10) k38), trivial⟩)
              · refine xr_aload_n dX10_workOut_125 5 rfl ?_
                refine xr_callV (As := []) (rest := []) mlX10_202 (g_X10_wrong (by omega) ea9) dX10_workOut_126 s_62 rfl rfl (Nat.le_of_ble_eq_true rfl) (by decide) ⟨by decide, by decide⟩ (fun v s2 M43 J2 hq => ?_)
                obtain ⟨r45, rfl, rfl, rfl, k44, hx42⟩ := hq
                try dsimp only [Option.toList, List.cons_append, List.nil_append]
                exact xr_iret dX10_workOut_129 rfl rfl (⟨_, rfl, rfl, rfl, (Ke.tr (fun pp kk h => (Or.inr (Or.inr (Or.inr (Or.inl h))))) (Ke.tr (fun pp kk h => (Or.inr (Or.inl h))) (Ke.tr (fun pp kk h => (Or.inr (Or.inl h))) (Ke.tr (fun pp kk => (fun hh => Or.elim hh (fun h => (Or.inr (Or.inl h))) (fun hh => Or.elim hh (fun h => (Or.inr (Or.inr (Or.inr (Or.inl h))))) (fun h => (Or.inr (Or.inr (Or.inr (Or.inr h)))))))) hM k6) k10) k38) k44), trivial⟩)
          · subst hr1
            have ho9 : o3 = 0 := (fun q => hf4 (by rw [← k10 62 17 (by decide)]; exact q)) hff9
            obtain rfl := ho9
            exact absurd hm (by omega)
    · obtain ⟨-, hff_ea46, ha_ea46, ea46⟩ := Or.resolve_left hx8 (fun q => c12 q.1)
      have ho_ea46 : o3 = 0 := hf4 hff_ea46
      obtain rfl := ho_ea46
      refine xr_iload dX10_workOut_56 1 rfl ?_
      refine xr_if_eq (tgt := 65) dX10_workOut_58 rfl (fun c47 => ?_) (fun c47 => ?_)
      · refine xr_iconst (v := 0) dX10_workOut_65 rfl ?_
        refine xr_istore (ls2 := [(7, .int (0)), (6, .int (r7)), (5, .int (1)), (4, .int (gi)), (3, .int (gv)), (0, .ref (62))]) dX10_workOut_66 (by decide) rfl ?_
        refine xr_aload_n dX10_workOut_68 5 rfl ?_
        refine xr_callV (As := []) (rest := []) mlX10_205 (lv_top l G M9 J bs (a2 + 1) E 0 hbs (Eq.trans (k10 62 14 (by decide)) (Eq.trans (k6 62 14 (by decide)) e_bs)) (by omega) (by omega) ea46 (Eq.trans (k10 62 16 (by decide)) (Eq.trans (k6 62 16 (by decide)) e_E)) (by omega) (Eq.trans (k10 62 18 (by decide)) eo3)) dX10_workOut_69 s_62 rfl rfl (Nat.le_of_ble_eq_true rfl) (by decide) ⟨by decide, by decide⟩ (fun v s2 M52 J2 hq => ?_)
        obtain ⟨r54, rfl, rfl, rfl, k53, ⟨a49, o50, a49a, a49b, o50d, o50c, ea49, eo50, hf51⟩⟩ := hq
        try dsimp only [Option.toList, List.cons_append, List.nil_append]
        refine xr_istore (ls2 := [(6, .int (r54)), (7, .int (0)), (5, .int (1)), (4, .int (gi)), (3, .int (gv)), (0, .ref (62))]) dX10_workOut_72 (by decide) rfl ?_
        refine xr_aload_n dX10_workOut_74 5 rfl ?_
        refine xb_get (v := M52 62 17) flX10_174 dX10_workOut_75 s_62 rfl rfl ?_
        refine xr_if_ge (tgt := 96) dX10_workOut_78 rfl (fun c55 => ?_) (fun c55 => ?_)
        · refine xr_aload_n dX10_workOut_96 5 rfl ?_
          refine xr_bipush (v := 59) dX10_workOut_97 rfl ?_
          refine xr_callV (As := [.int (59)]) (rest := []) mlX10_184 (g_X10_takes 59 (by decide) hbs (Eq.trans (k53 62 14 (by decide)) (Eq.trans (k10 62 14 (by decide)) (Eq.trans (k6 62 14 (by decide)) e_bs))) (by omega) ea49 (by omega) (Eq.trans (k53 62 16 (by decide)) (Eq.trans (k10 62 16 (by decide)) (Eq.trans (k6 62 16 (by decide)) e_E)))) dX10_workOut_99 s_62 rfl rfl (Nat.le_of_ble_eq_true rfl) (by decide) ⟨by decide, by decide⟩ (fun v s2 M57 J2 hq => ?_)
          obtain ⟨r59, rfl, rfl, rfl, k58, hx56⟩ := hq
          try dsimp only [Option.toList, List.cons_append, List.nil_append]
          refine xr_istore (ls2 := [(5, .int (r59)), (6, .int (r54)), (7, .int (0)), (4, .int (gi)), (3, .int (gv)), (0, .ref (62))]) dX10_workOut_102 (by decide) rfl ?_
          refine xr_goto (tgt := 33) dX10_workOut_104 rfl ?_
          rcases hx56 with ⟨hr0, ea9⟩ | ⟨hr1, hff9, ha9, ea9⟩
          · subst hr0
            refine xr_iload dX10_workOut_33 0 rfl ?_
            refine xr_if_eq (tgt := 107) dX10_workOut_35 rfl (fun _ => ?_) (fun c => absurd (by decide) c)
            refine xr_aload_n dX10_workOut_107 5 rfl ?_
            refine xb_get (v := M57 62 17) flX10_174 dX10_workOut_108 s_62 rfl rfl ?_
            refine xr_if_ge (tgt := 130) dX10_workOut_111 rfl (fun c60 => ?_) (fun c60 => ?_)
            · refine xr_iload dX10_workOut_130 3 rfl ?_
              exact xr_iret dX10_workOut_132 rfl rfl (⟨_, rfl, rfl, rfl, (Ke.tr (fun pp kk h => (Or.inr (Or.inl h))) (Ke.tr (fun pp kk => (fun hh => Or.elim hh (fun h => (Or.inr (Or.inl h))) (fun hh => Or.elim hh (fun h => (Or.inr (Or.inr (Or.inr (Or.inl h))))) (fun h => (Or.inr (Or.inr (Or.inr (Or.inr h)))))))) (Ke.tr (fun pp kk h => (Or.inr (Or.inl h))) (Ke.tr (fun pp kk => (fun hh => Or.elim hh (fun h => (Or.inr (Or.inl h))) (fun hh => Or.elim hh (fun h => (Or.inr (Or.inr (Or.inr (Or.inl h))))) (fun h => (Or.inr (Or.inr (Or.inr (Or.inr h)))))))) hM k6) k10) k53) k58), trivial⟩)
            · refine xr_aload_n dX10_workOut_114 5 rfl ?_
              refine xb_get (v := nI (a49)) flX10_165 dX10_workOut_115 s_62 rfl ea9 ?_
              refine xr_aload_n dX10_workOut_118 5 rfl ?_
              refine xb_get (v := nI (E)) flX10_168 dX10_workOut_119 s_62 rfl (Eq.trans (k58 62 16 (by decide)) (Eq.trans (k53 62 16 (by decide)) (Eq.trans (k10 62 16 (by decide)) (Eq.trans (k6 62 16 (by decide)) e_E)))) ?_
              refine xr_icmp_ge (tgt := 130) dX10_workOut_122 rfl (fun c61 => ?_) (fun c61 => ?_)
              · refine xr_iload dX10_workOut_130 3 rfl ?_
                exact xr_iret dX10_workOut_132 rfl rfl (⟨_, rfl, rfl, rfl, (Ke.tr (fun pp kk h => (Or.inr (Or.inl h))) (Ke.tr (fun pp kk => (fun hh => Or.elim hh (fun h => (Or.inr (Or.inl h))) (fun hh => Or.elim hh (fun h => (Or.inr (Or.inr (Or.inr (Or.inl h))))) (fun h => (Or.inr (Or.inr (Or.inr (Or.inr h)))))))) (Ke.tr (fun pp kk h => (Or.inr (Or.inl h))) (Ke.tr (fun pp kk => (fun hh => Or.elim hh (fun h => (Or.inr (Or.inl h))) (fun hh => Or.elim hh (fun h => (Or.inr (Or.inr (Or.inr (Or.inl h))))) (fun h => (Or.inr (Or.inr (Or.inr (Or.inr h)))))))) hM k6) k10) k53) k58), trivial⟩)
              · refine xr_aload_n dX10_workOut_125 5 rfl ?_
                refine xr_callV (As := []) (rest := []) mlX10_202 (g_X10_wrong (by omega) ea9) dX10_workOut_126 s_62 rfl rfl (Nat.le_of_ble_eq_true rfl) (by decide) ⟨by decide, by decide⟩ (fun v s2 M63 J2 hq => ?_)
                obtain ⟨r65, rfl, rfl, rfl, k64, hx62⟩ := hq
                try dsimp only [Option.toList, List.cons_append, List.nil_append]
                exact xr_iret dX10_workOut_129 rfl rfl (⟨_, rfl, rfl, rfl, (Ke.tr (fun pp kk h => (Or.inr (Or.inr (Or.inr (Or.inl h))))) (Ke.tr (fun pp kk h => (Or.inr (Or.inl h))) (Ke.tr (fun pp kk => (fun hh => Or.elim hh (fun h => (Or.inr (Or.inl h))) (fun hh => Or.elim hh (fun h => (Or.inr (Or.inr (Or.inr (Or.inl h))))) (fun h => (Or.inr (Or.inr (Or.inr (Or.inr h)))))))) (Ke.tr (fun pp kk h => (Or.inr (Or.inl h))) (Ke.tr (fun pp kk => (fun hh => Or.elim hh (fun h => (Or.inr (Or.inl h))) (fun hh => Or.elim hh (fun h => (Or.inr (Or.inr (Or.inr (Or.inl h))))) (fun h => (Or.inr (Or.inr (Or.inr (Or.inr h)))))))) hM k6) k10) k53) k58) k64), trivial⟩)
          · subst hr1
            have ho9 : o50 = 0 := hf51 hff9
            obtain rfl := ho9
            exact absurd hm (by omega)
        · refine xr_iload dX10_workOut_81 1 rfl ?_
          refine xr_if_eq (tgt := 96) dX10_workOut_83 rfl (fun _ => ?_) (fun c => absurd (by decide) c)
          refine xr_aload_n dX10_workOut_96 5 rfl ?_
          refine xr_bipush (v := 59) dX10_workOut_97 rfl ?_
          refine xr_callV (As := [.int (59)]) (rest := []) mlX10_184 (g_X10_takes 59 (by decide) hbs (Eq.trans (k53 62 14 (by decide)) (Eq.trans (k10 62 14 (by decide)) (Eq.trans (k6 62 14 (by decide)) e_bs))) (by omega) ea49 (by omega) (Eq.trans (k53 62 16 (by decide)) (Eq.trans (k10 62 16 (by decide)) (Eq.trans (k6 62 16 (by decide)) e_E)))) dX10_workOut_99 s_62 rfl rfl (Nat.le_of_ble_eq_true rfl) (by decide) ⟨by decide, by decide⟩ (fun v s2 M67 J2 hq => ?_)
          obtain ⟨r69, rfl, rfl, rfl, k68, hx66⟩ := hq
          try dsimp only [Option.toList, List.cons_append, List.nil_append]
          refine xr_istore (ls2 := [(5, .int (r69)), (6, .int (r54)), (7, .int (0)), (4, .int (gi)), (3, .int (gv)), (0, .ref (62))]) dX10_workOut_102 (by decide) rfl ?_
          refine xr_goto (tgt := 33) dX10_workOut_104 rfl ?_
          rcases hx66 with ⟨hr0, ea9⟩ | ⟨hr1, hff9, ha9, ea9⟩
          · subst hr0
            refine xr_iload dX10_workOut_33 0 rfl ?_
            refine xr_if_eq (tgt := 107) dX10_workOut_35 rfl (fun _ => ?_) (fun c => absurd (by decide) c)
            refine xr_aload_n dX10_workOut_107 5 rfl ?_
            refine xb_get (v := M67 62 17) flX10_174 dX10_workOut_108 s_62 rfl rfl ?_
            refine xr_if_ge (tgt := 130) dX10_workOut_111 rfl (fun c70 => ?_) (fun c70 => ?_)
            · refine xr_iload dX10_workOut_130 3 rfl ?_
              exact xr_iret dX10_workOut_132 rfl rfl (⟨_, rfl, rfl, rfl, (Ke.tr (fun pp kk h => (Or.inr (Or.inl h))) (Ke.tr (fun pp kk => (fun hh => Or.elim hh (fun h => (Or.inr (Or.inl h))) (fun hh => Or.elim hh (fun h => (Or.inr (Or.inr (Or.inr (Or.inl h))))) (fun h => (Or.inr (Or.inr (Or.inr (Or.inr h)))))))) (Ke.tr (fun pp kk h => (Or.inr (Or.inl h))) (Ke.tr (fun pp kk => (fun hh => Or.elim hh (fun h => (Or.inr (Or.inl h))) (fun hh => Or.elim hh (fun h => (Or.inr (Or.inr (Or.inr (Or.inl h))))) (fun h => (Or.inr (Or.inr (Or.inr (Or.inr h)))))))) hM k6) k10) k53) k68), trivial⟩)
            · refine xr_aload_n dX10_workOut_114 5 rfl ?_
              refine xb_get (v := nI (a49)) flX10_165 dX10_workOut_115 s_62 rfl ea9 ?_
              refine xr_aload_n dX10_workOut_118 5 rfl ?_
              refine xb_get (v := nI (E)) flX10_168 dX10_workOut_119 s_62 rfl (Eq.trans (k68 62 16 (by decide)) (Eq.trans (k53 62 16 (by decide)) (Eq.trans (k10 62 16 (by decide)) (Eq.trans (k6 62 16 (by decide)) e_E)))) ?_
              refine xr_icmp_ge (tgt := 130) dX10_workOut_122 rfl (fun c71 => ?_) (fun c71 => ?_)
              · refine xr_iload dX10_workOut_130 3 rfl ?_
                exact xr_iret dX10_workOut_132 rfl rfl (⟨_, rfl, rfl, rfl, (Ke.tr (fun pp kk h => (Or.inr (Or.inl h))) (Ke.tr (fun pp kk => (fun hh => Or.elim hh (fun h => (Or.inr (Or.inl h))) (fun hh => Or.elim hh (fun h => (Or.inr (Or.inr (Or.inr (Or.inl h))))) (fun h => (Or.inr (Or.inr (Or.inr (Or.inr h)))))))) (Ke.tr (fun pp kk h => (Or.inr (Or.inl h))) (Ke.tr (fun pp kk => (fun hh => Or.elim hh (fun h => (Or.inr (Or.inl h))) (fun hh => Or.elim hh (fun h => (Or.inr (Or.inr (Or.inr (Or.inl h))))) (fun h => (Or.inr (Or.inr (Or.inr (Or.inr h)))))))) hM k6) k10) k53) k68), trivial⟩)
              · refine xr_aload_n dX10_workOut_125 5 rfl ?_
                refine xr_callV (As := []) (rest := []) mlX10_202 (g_X10_wrong (by omega) ea9) dX10_workOut_126 s_62 rfl rfl (Nat.le_of_ble_eq_true rfl) (by decide) ⟨by decide, by decide⟩ (fun v s2 M73 J2 hq => ?_)
                obtain ⟨r75, rfl, rfl, rfl, k74, hx72⟩ := hq
                try dsimp only [Option.toList, List.cons_append, List.nil_append]
                exact xr_iret dX10_workOut_129 rfl rfl (⟨_, rfl, rfl, rfl, (Ke.tr (fun pp kk h => (Or.inr (Or.inr (Or.inr (Or.inl h))))) (Ke.tr (fun pp kk h => (Or.inr (Or.inl h))) (Ke.tr (fun pp kk => (fun hh => Or.elim hh (fun h => (Or.inr (Or.inl h))) (fun hh => Or.elim hh (fun h => (Or.inr (Or.inr (Or.inr (Or.inl h))))) (fun h => (Or.inr (Or.inr (Or.inr (Or.inr h)))))))) (Ke.tr (fun pp kk h => (Or.inr (Or.inl h))) (Ke.tr (fun pp kk => (fun hh => Or.elim hh (fun h => (Or.inr (Or.inl h))) (fun hh => Or.elim hh (fun h => (Or.inr (Or.inr (Or.inr (Or.inl h))))) (fun h => (Or.inr (Or.inr (Or.inr (Or.inr h)))))))) hM k6) k10) k53) k68) k74), trivial⟩)
          · subst hr1
            have ho9 : o50 = 0 := hf51 hff9
            obtain rfl := ho9
            exact absurd hm (by omega)
      · refine xr_iconst (v := 1) dX10_workOut_61 rfl ?_
        refine xr_goto (tgt := 66) dX10_workOut_62 rfl ?_
        refine xr_istore (ls2 := [(7, .int (1)), (6, .int (r7)), (5, .int (1)), (4, .int (gi)), (3, .int (gv)), (0, .ref (62))]) dX10_workOut_66 (by decide) rfl ?_
        refine xr_aload_n dX10_workOut_68 5 rfl ?_
        refine xr_callV (As := []) (rest := []) mlX10_205 (lv_top l G M9 J bs (a2 + 1) E 0 hbs (Eq.trans (k10 62 14 (by decide)) (Eq.trans (k6 62 14 (by decide)) e_bs)) (by omega) (by omega) ea46 (Eq.trans (k10 62 16 (by decide)) (Eq.trans (k6 62 16 (by decide)) e_E)) (by omega) (Eq.trans (k10 62 18 (by decide)) eo3)) dX10_workOut_69 s_62 rfl rfl (Nat.le_of_ble_eq_true rfl) (by decide) ⟨by decide, by decide⟩ (fun v s2 M80 J2 hq => ?_)
        obtain ⟨r82, rfl, rfl, rfl, k81, ⟨a77, o78, a77a, a77b, o78d, o78c, ea77, eo78, hf79⟩⟩ := hq
        try dsimp only [Option.toList, List.cons_append, List.nil_append]
        refine xr_istore (ls2 := [(6, .int (r82)), (7, .int (1)), (5, .int (1)), (4, .int (gi)), (3, .int (gv)), (0, .ref (62))]) dX10_workOut_72 (by decide) rfl ?_
        refine xr_aload_n dX10_workOut_74 5 rfl ?_
        refine xb_get (v := M80 62 17) flX10_174 dX10_workOut_75 s_62 rfl rfl ?_
        refine xr_if_ge (tgt := 96) dX10_workOut_78 rfl (fun c83 => ?_) (fun c83 => ?_)
        · refine xr_aload_n dX10_workOut_96 5 rfl ?_
          refine xr_bipush (v := 59) dX10_workOut_97 rfl ?_
          refine xr_callV (As := [.int (59)]) (rest := []) mlX10_184 (g_X10_takes 59 (by decide) hbs (Eq.trans (k81 62 14 (by decide)) (Eq.trans (k10 62 14 (by decide)) (Eq.trans (k6 62 14 (by decide)) e_bs))) (by omega) ea77 (by omega) (Eq.trans (k81 62 16 (by decide)) (Eq.trans (k10 62 16 (by decide)) (Eq.trans (k6 62 16 (by decide)) e_E)))) dX10_workOut_99 s_62 rfl rfl (Nat.le_of_ble_eq_true rfl) (by decide) ⟨by decide, by decide⟩ (fun v s2 M85 J2 hq => ?_)
          obtain ⟨r87, rfl, rfl, rfl, k86, hx84⟩ := hq
          try dsimp only [Option.toList, List.cons_append, List.nil_append]
          refine xr_istore (ls2 := [(5, .int (r87)), (6, .int (r82)), (7, .int (1)), (4, .int (gi)), (3, .int (gv)), (0, .ref (62))]) dX10_workOut_102 (by decide) rfl ?_
          refine xr_goto (tgt := 33) dX10_workOut_104 rfl ?_
          rcases hx84 with ⟨hr0, ea9⟩ | ⟨hr1, hff9, ha9, ea9⟩
          · subst hr0
            refine xr_iload dX10_workOut_33 0 rfl ?_
            refine xr_if_eq (tgt := 107) dX10_workOut_35 rfl (fun _ => ?_) (fun c => absurd (by decide) c)
            refine xr_aload_n dX10_workOut_107 5 rfl ?_
            refine xb_get (v := M85 62 17) flX10_174 dX10_workOut_108 s_62 rfl rfl ?_
            refine xr_if_ge (tgt := 130) dX10_workOut_111 rfl (fun c88 => ?_) (fun c88 => ?_)
            · refine xr_iload dX10_workOut_130 3 rfl ?_
              exact xr_iret dX10_workOut_132 rfl rfl (⟨_, rfl, rfl, rfl, (Ke.tr (fun pp kk h => (Or.inr (Or.inl h))) (Ke.tr (fun pp kk => (fun hh => Or.elim hh (fun h => (Or.inr (Or.inl h))) (fun hh => Or.elim hh (fun h => (Or.inr (Or.inr (Or.inr (Or.inl h))))) (fun h => (Or.inr (Or.inr (Or.inr (Or.inr h)))))))) (Ke.tr (fun pp kk h => (Or.inr (Or.inl h))) (Ke.tr (fun pp kk => (fun hh => Or.elim hh (fun h => (Or.inr (Or.inl h))) (fun hh => Or.elim hh (fun h => (Or.inr (Or.inr (Or.inr (Or.inl h))))) (fun h => (Or.inr (Or.inr (Or.inr (Or.inr h)))))))) hM k6) k10) k81) k86), trivial⟩)
            · refine xr_aload_n dX10_workOut_114 5 rfl ?_
              refine xb_get (v := nI (a77)) flX10_165 dX10_workOut_115 s_62 rfl ea9 ?_
              refine xr_aload_n dX10_workOut_118 5 rfl ?_
              refine xb_get (v := nI (E)) flX10_168 dX10_workOut_119 s_62 rfl (Eq.trans (k86 62 16 (by decide)) (Eq.trans (k81 62 16 (by decide)) (Eq.trans (k10 62 16 (by decide)) (Eq.trans (k6 62 16 (by decide)) e_E)))) ?_
              refine xr_icmp_ge (tgt := 130) dX10_workOut_122 rfl (fun c89 => ?_) (fun c89 => ?_)
              · refine xr_iload dX10_workOut_130 3 rfl ?_
                exact xr_iret dX10_workOut_132 rfl rfl (⟨_, rfl, rfl, rfl, (Ke.tr (fun pp kk h => (Or.inr (Or.inl h))) (Ke.tr (fun pp kk => (fun hh => Or.elim hh (fun h => (Or.inr (Or.inl h))) (fun hh => Or.elim hh (fun h => (Or.inr (Or.inr (Or.inr (Or.inl h))))) (fun h => (Or.inr (Or.inr (Or.inr (Or.inr h)))))))) (Ke.tr (fun pp kk h => (Or.inr (Or.inl h))) (Ke.tr (fun pp kk => (fun hh => Or.elim hh (fun h => (Or.inr (Or.inl h))) (fun hh => Or.elim hh (fun h => (Or.inr (Or.inr (Or.inr (Or.inl h))))) (fun h => (Or.inr (Or.inr (Or.inr (Or.inr h)))))))) hM k6) k10) k81) k86), trivial⟩)
              · refine xr_aload_n dX10_workOut_125 5 rfl ?_
                refine xr_callV (As := []) (rest := []) mlX10_202 (g_X10_wrong (by omega) ea9) dX10_workOut_126 s_62 rfl rfl (Nat.le_of_ble_eq_true rfl) (by decide) ⟨by decide, by decide⟩ (fun v s2 M91 J2 hq => ?_)
                obtain ⟨r93, rfl, rfl, rfl, k92, hx90⟩ := hq
                try dsimp only [Option.toList, List.cons_append, List.nil_append]
                exact xr_iret dX10_workOut_129 rfl rfl (⟨_, rfl, rfl, rfl, (Ke.tr (fun pp kk h => (Or.inr (Or.inr (Or.inr (Or.inl h))))) (Ke.tr (fun pp kk h => (Or.inr (Or.inl h))) (Ke.tr (fun pp kk => (fun hh => Or.elim hh (fun h => (Or.inr (Or.inl h))) (fun hh => Or.elim hh (fun h => (Or.inr (Or.inr (Or.inr (Or.inl h))))) (fun h => (Or.inr (Or.inr (Or.inr (Or.inr h)))))))) (Ke.tr (fun pp kk h => (Or.inr (Or.inl h))) (Ke.tr (fun pp kk => (fun hh => Or.elim hh (fun h => (Or.inr (Or.inl h))) (fun hh => Or.elim hh (fun h => (Or.inr (Or.inr (Or.inr (Or.inl h))))) (fun h => (Or.inr (Or.inr (Or.inr (Or.inr h)))))))) hM k6) k10) k81) k86) k92), trivial⟩)
          · subst hr1
            have ho9 : o78 = 0 := hf79 hff9
            obtain rfl := ho9
            exact absurd hm (by omega)
        · refine xr_iload dX10_workOut_81 1 rfl ?_
          refine xr_if_eq (tgt := 96) dX10_workOut_83 rfl (fun c => absurd c (by decide)) (fun _ => ?_)
          refine xr_iload_n dX10_workOut_86 4 rfl ?_
          refine xr_if_ne (tgt := 96) dX10_workOut_87 rfl (fun c94 => ?_) (fun c94 => ?_)
          · refine xr_aload_n dX10_workOut_96 5 rfl ?_
            refine xr_bipush (v := 59) dX10_workOut_97 rfl ?_
            refine xr_callV (As := [.int (59)]) (rest := []) mlX10_184 (g_X10_takes 59 (by decide) hbs (Eq.trans (k81 62 14 (by decide)) (Eq.trans (k10 62 14 (by decide)) (Eq.trans (k6 62 14 (by decide)) e_bs))) (by omega) ea77 (by omega) (Eq.trans (k81 62 16 (by decide)) (Eq.trans (k10 62 16 (by decide)) (Eq.trans (k6 62 16 (by decide)) e_E)))) dX10_workOut_99 s_62 rfl rfl (Nat.le_of_ble_eq_true rfl) (by decide) ⟨by decide, by decide⟩ (fun v s2 M96 J2 hq => ?_)
            obtain ⟨r98, rfl, rfl, rfl, k97, hx95⟩ := hq
            try dsimp only [Option.toList, List.cons_append, List.nil_append]
            refine xr_istore (ls2 := [(5, .int (r98)), (6, .int (r82)), (7, .int (1)), (4, .int (gi)), (3, .int (gv)), (0, .ref (62))]) dX10_workOut_102 (by decide) rfl ?_
            refine xr_goto (tgt := 33) dX10_workOut_104 rfl ?_
            rcases hx95 with ⟨hr0, ea9⟩ | ⟨hr1, hff9, ha9, ea9⟩
            · subst hr0
              refine xr_iload dX10_workOut_33 0 rfl ?_
              refine xr_if_eq (tgt := 107) dX10_workOut_35 rfl (fun _ => ?_) (fun c => absurd (by decide) c)
              refine xr_aload_n dX10_workOut_107 5 rfl ?_
              refine xb_get (v := M96 62 17) flX10_174 dX10_workOut_108 s_62 rfl rfl ?_
              refine xr_if_ge (tgt := 130) dX10_workOut_111 rfl (fun c99 => ?_) (fun c99 => ?_)
              · refine xr_iload dX10_workOut_130 3 rfl ?_
                exact xr_iret dX10_workOut_132 rfl rfl (⟨_, rfl, rfl, rfl, (Ke.tr (fun pp kk h => (Or.inr (Or.inl h))) (Ke.tr (fun pp kk => (fun hh => Or.elim hh (fun h => (Or.inr (Or.inl h))) (fun hh => Or.elim hh (fun h => (Or.inr (Or.inr (Or.inr (Or.inl h))))) (fun h => (Or.inr (Or.inr (Or.inr (Or.inr h)))))))) (Ke.tr (fun pp kk h => (Or.inr (Or.inl h))) (Ke.tr (fun pp kk => (fun hh => Or.elim hh (fun h => (Or.inr (Or.inl h))) (fun hh => Or.elim hh (fun h => (Or.inr (Or.inr (Or.inr (Or.inl h))))) (fun h => (Or.inr (Or.inr (Or.inr (Or.inr h)))))))) hM k6) k10) k81) k97), trivial⟩)
              · refine xr_aload_n dX10_workOut_114 5 rfl ?_
                refine xb_get (v := nI (a77)) flX10_165 dX10_workOut_115 s_62 rfl ea9 ?_
                refine xr_aload_n dX10_workOut_118 5 rfl ?_
                refine xb_get (v := nI (E)) flX10_168 dX10_workOut_119 s_62 rfl (Eq.trans (k97 62 16 (by decide)) (Eq.trans (k81 62 16 (by decide)) (Eq.trans (k10 62 16 (by decide)) (Eq.trans (k6 62 16 (by decide)) e_E)))) ?_
                refine xr_icmp_ge (tgt := 130) dX10_workOut_122 rfl (fun c100 => ?_) (fun c100 => ?_)
                · refine xr_iload dX10_workOut_130 3 rfl ?_
                  exact xr_iret dX10_workOut_132 rfl rfl (⟨_, rfl, rfl, rfl, (Ke.tr (fun pp kk h => (Or.inr (Or.inl h))) (Ke.tr (fun pp kk => (fun hh => Or.elim hh (fun h => (Or.inr (Or.inl h))) (fun hh => Or.elim hh (fun h => (Or.inr (Or.inr (Or.inr (Or.inl h))))) (fun h => (Or.inr (Or.inr (Or.inr (Or.inr h)))))))) (Ke.tr (fun pp kk h => (Or.inr (Or.inl h))) (Ke.tr (fun pp kk => (fun hh => Or.elim hh (fun h => (Or.inr (Or.inl h))) (fun hh => Or.elim hh (fun h => (Or.inr (Or.inr (Or.inr (Or.inl h))))) (fun h => (Or.inr (Or.inr (Or.inr (Or.inr h)))))))) hM k6) k10) k81) k97), trivial⟩)
                · refine xr_aload_n dX10_workOut_125 5 rfl ?_
                  refine xr_callV (As := []) (rest := []) mlX10_202 (g_X10_wrong (by omega) ea9) dX10_workOut_126 s_62 rfl rfl (Nat.le_of_ble_eq_true rfl) (by decide) ⟨by decide, by decide⟩ (fun v s2 M102 J2 hq => ?_)
                  obtain ⟨r104, rfl, rfl, rfl, k103, hx101⟩ := hq
                  try dsimp only [Option.toList, List.cons_append, List.nil_append]
                  exact xr_iret dX10_workOut_129 rfl rfl (⟨_, rfl, rfl, rfl, (Ke.tr (fun pp kk h => (Or.inr (Or.inr (Or.inr (Or.inl h))))) (Ke.tr (fun pp kk h => (Or.inr (Or.inl h))) (Ke.tr (fun pp kk => (fun hh => Or.elim hh (fun h => (Or.inr (Or.inl h))) (fun hh => Or.elim hh (fun h => (Or.inr (Or.inr (Or.inr (Or.inl h))))) (fun h => (Or.inr (Or.inr (Or.inr (Or.inr h)))))))) (Ke.tr (fun pp kk h => (Or.inr (Or.inl h))) (Ke.tr (fun pp kk => (fun hh => Or.elim hh (fun h => (Or.inr (Or.inl h))) (fun hh => Or.elim hh (fun h => (Or.inr (Or.inr (Or.inr (Or.inl h))))) (fun h => (Or.inr (Or.inr (Or.inr (Or.inr h)))))))) hM k6) k10) k81) k97) k103), trivial⟩)
            · subst hr1
              have ho9 : o78 = 0 := hf79 hff9
              obtain rfl := ho9
              exact absurd hm (by omega)
          · refine xr_iconst (v := 1) dX10_workOut_90 rfl ?_
            refine xr_istore_n (ls2 := [(3, .int (1)), (6, .int (r82)), (7, .int (1)), (5, .int (1)), (4, .int (gi)), (0, .ref (62))]) dX10_workOut_91 (by decide) rfl ?_
            refine xr_iload dX10_workOut_92 1 rfl ?_
            refine xr_istore (ls2 := [(4, .int (r82)), (3, .int (1)), (6, .int (r82)), (7, .int (1)), (5, .int (1)), (0, .ref (62))]) dX10_workOut_94 (by decide) rfl ?_
            refine xr_aload_n dX10_workOut_96 5 rfl ?_
            refine xr_bipush (v := 59) dX10_workOut_97 rfl ?_
            refine xr_callV (As := [.int (59)]) (rest := []) mlX10_184 (g_X10_takes 59 (by decide) hbs (Eq.trans (k81 62 14 (by decide)) (Eq.trans (k10 62 14 (by decide)) (Eq.trans (k6 62 14 (by decide)) e_bs))) (by omega) ea77 (by omega) (Eq.trans (k81 62 16 (by decide)) (Eq.trans (k10 62 16 (by decide)) (Eq.trans (k6 62 16 (by decide)) e_E)))) dX10_workOut_99 s_62 rfl rfl (Nat.le_of_ble_eq_true rfl) (by decide) ⟨by decide, by decide⟩ (fun v s2 M106 J2 hq => ?_)
            obtain ⟨r108, rfl, rfl, rfl, k107, hx105⟩ := hq
            try dsimp only [Option.toList, List.cons_append, List.nil_append]
            refine xr_istore (ls2 := [(5, .int (r108)), (4, .int (r82)), (3, .int (1)), (6, .int (r82)), (7, .int (1)), (0, .ref (62))]) dX10_workOut_102 (by decide) rfl ?_
            refine xr_goto (tgt := 33) dX10_workOut_104 rfl ?_
            rcases hx105 with ⟨hr0, ea9⟩ | ⟨hr1, hff9, ha9, ea9⟩
            · subst hr0
              refine xr_iload dX10_workOut_33 0 rfl ?_
              refine xr_if_eq (tgt := 107) dX10_workOut_35 rfl (fun _ => ?_) (fun c => absurd (by decide) c)
              refine xr_aload_n dX10_workOut_107 5 rfl ?_
              refine xb_get (v := M106 62 17) flX10_174 dX10_workOut_108 s_62 rfl rfl ?_
              refine xr_if_ge (tgt := 130) dX10_workOut_111 rfl (fun c109 => ?_) (fun c109 => ?_)
              · refine xr_iload dX10_workOut_130 1 rfl ?_
                exact xr_iret dX10_workOut_132 rfl rfl (⟨_, rfl, rfl, rfl, (Ke.tr (fun pp kk h => (Or.inr (Or.inl h))) (Ke.tr (fun pp kk => (fun hh => Or.elim hh (fun h => (Or.inr (Or.inl h))) (fun hh => Or.elim hh (fun h => (Or.inr (Or.inr (Or.inr (Or.inl h))))) (fun h => (Or.inr (Or.inr (Or.inr (Or.inr h)))))))) (Ke.tr (fun pp kk h => (Or.inr (Or.inl h))) (Ke.tr (fun pp kk => (fun hh => Or.elim hh (fun h => (Or.inr (Or.inl h))) (fun hh => Or.elim hh (fun h => (Or.inr (Or.inr (Or.inr (Or.inl h))))) (fun h => (Or.inr (Or.inr (Or.inr (Or.inr h)))))))) hM k6) k10) k81) k107), trivial⟩)
              · refine xr_aload_n dX10_workOut_114 5 rfl ?_
                refine xb_get (v := nI (a77)) flX10_165 dX10_workOut_115 s_62 rfl ea9 ?_
                refine xr_aload_n dX10_workOut_118 5 rfl ?_
                refine xb_get (v := nI (E)) flX10_168 dX10_workOut_119 s_62 rfl (Eq.trans (k107 62 16 (by decide)) (Eq.trans (k81 62 16 (by decide)) (Eq.trans (k10 62 16 (by decide)) (Eq.trans (k6 62 16 (by decide)) e_E)))) ?_
                refine xr_icmp_ge (tgt := 130) dX10_workOut_122 rfl (fun c110 => ?_) (fun c110 => ?_)
                · refine xr_iload dX10_workOut_130 1 rfl ?_
                  exact xr_iret dX10_workOut_132 rfl rfl (⟨_, rfl, rfl, rfl, (Ke.tr (fun pp kk h => (Or.inr (Or.inl h))) (Ke.tr (fun pp kk => (fun hh => Or.elim hh (fun h => (Or.inr (Or.inl h))) (fun hh => Or.elim hh (fun h => (Or.inr (Or.inr (Or.inr (Or.inl h))))) (fun h => (Or.inr (Or.inr (Or.inr (Or.inr h)))))))) (Ke.tr (fun pp kk h => (Or.inr (Or.inl h))) (Ke.tr (fun pp kk => (fun hh => Or.elim hh (fun h => (Or.inr (Or.inl h))) (fun hh => Or.elim hh (fun h => (Or.inr (Or.inr (Or.inr (Or.inl h))))) (fun h => (Or.inr (Or.inr (Or.inr (Or.inr h)))))))) hM k6) k10) k81) k107), trivial⟩)
                · refine xr_aload_n dX10_workOut_125 5 rfl ?_
                  refine xr_callV (As := []) (rest := []) mlX10_202 (g_X10_wrong (by omega) ea9) dX10_workOut_126 s_62 rfl rfl (Nat.le_of_ble_eq_true rfl) (by decide) ⟨by decide, by decide⟩ (fun v s2 M112 J2 hq => ?_)
                  obtain ⟨r114, rfl, rfl, rfl, k113, hx111⟩ := hq
                  try dsimp only [Option.toList, List.cons_append, List.nil_append]
                  exact xr_iret dX10_workOut_129 rfl rfl (⟨_, rfl, rfl, rfl, (Ke.tr (fun pp kk h => (Or.inr (Or.inr (Or.inr (Or.inl h))))) (Ke.tr (fun pp kk h => (Or.inr (Or.inl h))) (Ke.tr (fun pp kk => (fun hh => Or.elim hh (fun h => (Or.inr (Or.inl h))) (fun hh => Or.elim hh (fun h => (Or.inr (Or.inr (Or.inr (Or.inl h))))) (fun h => (Or.inr (Or.inr (Or.inr (Or.inr h)))))))) (Ke.tr (fun pp kk h => (Or.inr (Or.inl h))) (Ke.tr (fun pp kk => (fun hh => Or.elim hh (fun h => (Or.inr (Or.inl h))) (fun hh => Or.elim hh (fun h => (Or.inr (Or.inr (Or.inr (Or.inl h))))) (fun h => (Or.inr (Or.inr (Or.inr (Or.inr h)))))))) hM k6) k10) k81) k107) k113), trivial⟩)
            · subst hr1
              have ho9 : o78 = 0 := hf79 hff9
              obtain rfl := ho9
              exact absurd hm (by omega)
  | succ m ih =>
    intro a1 gi gv M1 hm h2 hM e_a1 e_o1 e_bs e_E
    refine xr_iload dX10_workOut_33 0 rfl ?_
    refine xr_if_eq (tgt := 107) dX10_workOut_35 rfl (fun c => absurd c (by decide)) (fun _ => ?_)
    refine xr_aload_n dX10_workOut_38 3 rfl ?_
    refine xr_callV (As := []) (rest := []) mlX10_205 (lv_top l G M1 J bs a1 E 0 hbs e_bs (by omega) (by omega) e_a1 e_E (by omega) e_o1) dX10_workOut_39 s_62 rfl rfl (Nat.le_of_ble_eq_true rfl) (by decide) ⟨by decide, by decide⟩ (fun v s2 M5 J2 hq => ?_)
    obtain ⟨r7, rfl, rfl, rfl, k6, ⟨a2, o3, a2a, a2b, o3d, o3c, ea2, eo3, hf4⟩⟩ := hq
    try dsimp only [Option.toList, List.cons_append, List.nil_append]
    refine xr_istore (ls2 := [(6, .int (r7)), (5, .int (1)), (4, .int (gi)), (3, .int (gv)), (0, .ref (62))]) dX10_workOut_42 (by decide) rfl ?_
    refine xr_iconst (v := 1) dX10_workOut_44 rfl ?_
    refine xr_istore (ls2 := [(7, .int (1)), (6, .int (r7)), (5, .int (1)), (4, .int (gi)), (3, .int (gv)), (0, .ref (62))]) dX10_workOut_45 (by decide) rfl ?_
    refine xr_aload_n dX10_workOut_47 5 rfl ?_
    refine xr_bipush (v := 63) dX10_workOut_48 rfl ?_
    refine xr_callV (As := [.int (63)]) (rest := []) mlX10_184 (g_X10_takes 63 (by decide) hbs (Eq.trans (k6 62 14 (by decide)) e_bs) (by omega) ea2 (by omega) (Eq.trans (k6 62 16 (by decide)) e_E)) dX10_workOut_50 s_62 rfl rfl (Nat.le_of_ble_eq_true rfl) (by decide) ⟨by decide, by decide⟩ (fun v s2 M9 J2 hq => ?_)
    obtain ⟨r11, rfl, rfl, rfl, k10, hx8⟩ := hq
    try dsimp only [Option.toList, List.cons_append, List.nil_append]
    refine xr_if_eq (tgt := 74) dX10_workOut_53 rfl (fun c12 => ?_) (fun c12 => ?_)
    · have ea13 := (Or.resolve_right hx8 (fun q => absurd (c12.symm.trans q.1) (by decide))).2
      refine xr_aload_n dX10_workOut_74 5 rfl ?_
      refine xb_get (v := M9 62 17) flX10_174 dX10_workOut_75 s_62 rfl rfl ?_
      refine xr_if_ge (tgt := 96) dX10_workOut_78 rfl (fun c14 => ?_) (fun c14 => ?_)
      · refine xr_aload_n dX10_workOut_96 5 rfl ?_
        refine xr_bipush (v := 59) dX10_workOut_97 rfl ?_
        refine xr_callV (As := [.int (59)]) (rest := []) mlX10_184 (g_X10_takes 59 (by decide) hbs (Eq.trans (k10 62 14 (by decide)) (Eq.trans (k6 62 14 (by decide)) e_bs)) (by omega) ea13 (by omega) (Eq.trans (k10 62 16 (by decide)) (Eq.trans (k6 62 16 (by decide)) e_E))) dX10_workOut_99 s_62 rfl rfl (Nat.le_of_ble_eq_true rfl) (by decide) ⟨by decide, by decide⟩ (fun v s2 M16 J2 hq => ?_)
        obtain ⟨r18, rfl, rfl, rfl, k17, hx15⟩ := hq
        try dsimp only [Option.toList, List.cons_append, List.nil_append]
        refine xr_istore (ls2 := [(5, .int (r18)), (7, .int (1)), (6, .int (r7)), (4, .int (gi)), (3, .int (gv)), (0, .ref (62))]) dX10_workOut_102 (by decide) rfl ?_
        refine xr_goto (tgt := 33) dX10_workOut_104 rfl ?_
        rcases hx15 with ⟨hr0, ea9⟩ | ⟨hr1, hff9, ha9, ea9⟩
        · subst hr0
          refine xr_iload dX10_workOut_33 0 rfl ?_
          refine xr_if_eq (tgt := 107) dX10_workOut_35 rfl (fun _ => ?_) (fun c => absurd (by decide) c)
          refine xr_aload_n dX10_workOut_107 5 rfl ?_
          refine xb_get (v := M16 62 17) flX10_174 dX10_workOut_108 s_62 rfl rfl ?_
          refine xr_if_ge (tgt := 130) dX10_workOut_111 rfl (fun c19 => ?_) (fun c19 => ?_)
          · refine xr_iload dX10_workOut_130 3 rfl ?_
            exact xr_iret dX10_workOut_132 rfl rfl (⟨_, rfl, rfl, rfl, (Ke.tr (fun pp kk h => (Or.inr (Or.inl h))) (Ke.tr (fun pp kk h => (Or.inr (Or.inl h))) (Ke.tr (fun pp kk => (fun hh => Or.elim hh (fun h => (Or.inr (Or.inl h))) (fun hh => Or.elim hh (fun h => (Or.inr (Or.inr (Or.inr (Or.inl h))))) (fun h => (Or.inr (Or.inr (Or.inr (Or.inr h)))))))) hM k6) k10) k17), trivial⟩)
          · refine xr_aload_n dX10_workOut_114 5 rfl ?_
            refine xb_get (v := nI (a2)) flX10_165 dX10_workOut_115 s_62 rfl ea9 ?_
            refine xr_aload_n dX10_workOut_118 5 rfl ?_
            refine xb_get (v := nI (E)) flX10_168 dX10_workOut_119 s_62 rfl (Eq.trans (k17 62 16 (by decide)) (Eq.trans (k10 62 16 (by decide)) (Eq.trans (k6 62 16 (by decide)) e_E))) ?_
            refine xr_icmp_ge (tgt := 130) dX10_workOut_122 rfl (fun c20 => ?_) (fun c20 => ?_)
            · refine xr_iload dX10_workOut_130 3 rfl ?_
              exact xr_iret dX10_workOut_132 rfl rfl (⟨_, rfl, rfl, rfl, (Ke.tr (fun pp kk h => (Or.inr (Or.inl h))) (Ke.tr (fun pp kk h => (Or.inr (Or.inl h))) (Ke.tr (fun pp kk => (fun hh => Or.elim hh (fun h => (Or.inr (Or.inl h))) (fun hh => Or.elim hh (fun h => (Or.inr (Or.inr (Or.inr (Or.inl h))))) (fun h => (Or.inr (Or.inr (Or.inr (Or.inr h)))))))) hM k6) k10) k17), trivial⟩)
            · refine xr_aload_n dX10_workOut_125 5 rfl ?_
              refine xr_callV (As := []) (rest := []) mlX10_202 (g_X10_wrong (by omega) ea9) dX10_workOut_126 s_62 rfl rfl (Nat.le_of_ble_eq_true rfl) (by decide) ⟨by decide, by decide⟩ (fun v s2 M22 J2 hq => ?_)
              obtain ⟨r24, rfl, rfl, rfl, k23, hx21⟩ := hq
              try dsimp only [Option.toList, List.cons_append, List.nil_append]
              exact xr_iret dX10_workOut_129 rfl rfl (⟨_, rfl, rfl, rfl, (Ke.tr (fun pp kk h => (Or.inr (Or.inr (Or.inr (Or.inl h))))) (Ke.tr (fun pp kk h => (Or.inr (Or.inl h))) (Ke.tr (fun pp kk h => (Or.inr (Or.inl h))) (Ke.tr (fun pp kk => (fun hh => Or.elim hh (fun h => (Or.inr (Or.inl h))) (fun hh => Or.elim hh (fun h => (Or.inr (Or.inr (Or.inr (Or.inl h))))) (fun h => (Or.inr (Or.inr (Or.inr (Or.inr h)))))))) hM k6) k10) k17) k23), trivial⟩)
        · subst hr1
          have ho9 : o3 = 0 := (fun q => hf4 (by rw [← k10 62 17 (by decide)]; exact q)) hff9
          obtain rfl := ho9
          refine xb_ls (ls2 := [(5, .int (1)), (4, .int (gi)), (3, .int (gv)), (0, .ref (62))]) [0, 3, 4, 5] rfl ?_
          exact ih (a2 + 1) gi gv M16 (by omega) (by omega) (Ke.tr (fun pp kk h => (Or.inr (Or.inl h))) (Ke.tr (fun pp kk h => (Or.inr (Or.inl h))) (Ke.tr (fun pp kk => (fun hh => Or.elim hh (fun h => (Or.inr (Or.inl h))) (fun hh => Or.elim hh (fun h => (Or.inr (Or.inr (Or.inr (Or.inl h))))) (fun h => (Or.inr (Or.inr (Or.inr (Or.inr h)))))))) hM k6) k10) k17) ea9 (Eq.trans (k17 62 18 (by decide)) (Eq.trans (k10 62 18 (by decide)) eo3)) (Eq.trans (k17 62 14 (by decide)) (Eq.trans (k10 62 14 (by decide)) (Eq.trans (k6 62 14 (by decide)) e_bs))) (Eq.trans (k17 62 16 (by decide)) (Eq.trans (k10 62 16 (by decide)) (Eq.trans (k6 62 16 (by decide)) e_E)))
      · refine xr_iload dX10_workOut_81 0 rfl ?_
        refine xr_if_eq (tgt := 96) dX10_workOut_83 rfl (fun c => absurd c (by decide)) (fun _ => ?_)
        refine xr_iload_n dX10_workOut_86 4 rfl ?_
        refine xr_if_ne (tgt := 96) dX10_workOut_87 rfl (fun c25 => ?_) (fun c25 => ?_)
        · refine xr_aload_n dX10_workOut_96 5 rfl ?_
          refine xr_bipush (v := 59) dX10_workOut_97 rfl ?_
          refine xr_callV (As := [.int (59)]) (rest := []) mlX10_184 (g_X10_takes 59 (by decide) hbs (Eq.trans (k10 62 14 (by decide)) (Eq.trans (k6 62 14 (by decide)) e_bs)) (by omega) ea13 (by omega) (Eq.trans (k10 62 16 (by decide)) (Eq.trans (k6 62 16 (by decide)) e_E))) dX10_workOut_99 s_62 rfl rfl (Nat.le_of_ble_eq_true rfl) (by decide) ⟨by decide, by decide⟩ (fun v s2 M27 J2 hq => ?_)
          obtain ⟨r29, rfl, rfl, rfl, k28, hx26⟩ := hq
          try dsimp only [Option.toList, List.cons_append, List.nil_append]
          refine xr_istore (ls2 := [(5, .int (r29)), (7, .int (1)), (6, .int (r7)), (4, .int (gi)), (3, .int (gv)), (0, .ref (62))]) dX10_workOut_102 (by decide) rfl ?_
          refine xr_goto (tgt := 33) dX10_workOut_104 rfl ?_
          rcases hx26 with ⟨hr0, ea9⟩ | ⟨hr1, hff9, ha9, ea9⟩
          · subst hr0
            refine xr_iload dX10_workOut_33 0 rfl ?_
            refine xr_if_eq (tgt := 107) dX10_workOut_35 rfl (fun _ => ?_) (fun c => absurd (by decide) c)
            refine xr_aload_n dX10_workOut_107 5 rfl ?_
            refine xb_get (v := M27 62 17) flX10_174 dX10_workOut_108 s_62 rfl rfl ?_
            refine xr_if_ge (tgt := 130) dX10_workOut_111 rfl (fun c30 => ?_) (fun c30 => ?_)
            · refine xr_iload dX10_workOut_130 3 rfl ?_
              exact xr_iret dX10_workOut_132 rfl rfl (⟨_, rfl, rfl, rfl, (Ke.tr (fun pp kk h => (Or.inr (Or.inl h))) (Ke.tr (fun pp kk h => (Or.inr (Or.inl h))) (Ke.tr (fun pp kk => (fun hh => Or.elim hh (fun h => (Or.inr (Or.inl h))) (fun hh => Or.elim hh (fun h => (Or.inr (Or.inr (Or.inr (Or.inl h))))) (fun h => (Or.inr (Or.inr (Or.inr (Or.inr h)))))))) hM k6) k10) k28), trivial⟩)
            · refine xr_aload_n dX10_workOut_114 5 rfl ?_
              refine xb_get (v := nI (a2)) flX10_165 dX10_workOut_115 s_62 rfl ea9 ?_
              refine xr_aload_n dX10_workOut_118 5 rfl ?_
              refine xb_get (v := nI (E)) flX10_168 dX10_workOut_119 s_62 rfl (Eq.trans (k28 62 16 (by decide)) (Eq.trans (k10 62 16 (by decide)) (Eq.trans (k6 62 16 (by decide)) e_E))) ?_
              refine xr_icmp_ge (tgt := 130) dX10_workOut_122 rfl (fun c31 => ?_) (fun c31 => ?_)
              · refine xr_iload dX10_workOut_130 3 rfl ?_
                exact xr_iret dX10_workOut_132 rfl rfl (⟨_, rfl, rfl, rfl, (Ke.tr (fun pp kk h => (Or.inr (Or.inl h))) (Ke.tr (fun pp kk h => (Or.inr (Or.inl h))) (Ke.tr (fun pp kk => (fun hh => Or.elim hh (fun h => (Or.inr (Or.inl h))) (fun hh => Or.elim hh (fun h => (Or.inr (Or.inr (Or.inr (Or.inl h))))) (fun h => (Or.inr (Or.inr (Or.inr (Or.inr h)))))))) hM k6) k10) k28), trivial⟩)
              · refine xr_aload_n dX10_workOut_125 5 rfl ?_
                refine xr_callV (As := []) (rest := []) mlX10_202 (g_X10_wrong (by omega) ea9) dX10_workOut_126 s_62 rfl rfl (Nat.le_of_ble_eq_true rfl) (by decide) ⟨by decide, by decide⟩ (fun v s2 M33 J2 hq => ?_)
                obtain ⟨r35, rfl, rfl, rfl, k34, hx32⟩ := hq
                try dsimp only [Option.toList, List.cons_append, List.nil_append]
                exact xr_iret dX10_workOut_129 rfl rfl (⟨_, rfl, rfl, rfl, (Ke.tr (fun pp kk h => (Or.inr (Or.inr (Or.inr (Or.inl h))))) (Ke.tr (fun pp kk h => (Or.inr (Or.inl h))) (Ke.tr (fun pp kk h => (Or.inr (Or.inl h))) (Ke.tr (fun pp kk => (fun hh => Or.elim hh (fun h => (Or.inr (Or.inl h))) (fun hh => Or.elim hh (fun h => (Or.inr (Or.inr (Or.inr (Or.inl h))))) (fun h => (Or.inr (Or.inr (Or.inr (Or.inr h)))))))) hM k6) k10) k28) k34), trivial⟩)
          · subst hr1
            have ho9 : o3 = 0 := (fun q => hf4 (by rw [← k10 62 17 (by decide)]; exact q)) hff9
            obtain rfl := ho9
            refine xb_ls (ls2 := [(5, .int (1)), (4, .int (gi)), (3, .int (gv)), (0, .ref (62))]) [0, 3, 4, 5] rfl ?_
            exact ih (a2 + 1) gi gv M27 (by omega) (by omega) (Ke.tr (fun pp kk h => (Or.inr (Or.inl h))) (Ke.tr (fun pp kk h => (Or.inr (Or.inl h))) (Ke.tr (fun pp kk => (fun hh => Or.elim hh (fun h => (Or.inr (Or.inl h))) (fun hh => Or.elim hh (fun h => (Or.inr (Or.inr (Or.inr (Or.inl h))))) (fun h => (Or.inr (Or.inr (Or.inr (Or.inr h)))))))) hM k6) k10) k28) ea9 (Eq.trans (k28 62 18 (by decide)) (Eq.trans (k10 62 18 (by decide)) eo3)) (Eq.trans (k28 62 14 (by decide)) (Eq.trans (k10 62 14 (by decide)) (Eq.trans (k6 62 14 (by decide)) e_bs))) (Eq.trans (k28 62 16 (by decide)) (Eq.trans (k10 62 16 (by decide)) (Eq.trans (k6 62 16 (by decide)) e_E)))
        · refine xr_iconst (v := 1) dX10_workOut_90 rfl ?_
          refine xr_istore_n (ls2 := [(3, .int (1)), (7, .int (1)), (6, .int (r7)), (5, .int (1)), (4, .int (gi)), (0, .ref (62))]) dX10_workOut_91 (by decide) rfl ?_
          refine xr_iload dX10_workOut_92 2 rfl ?_
          refine xr_istore (ls2 := [(4, .int (r7)), (3, .int (1)), (7, .int (1)), (6, .int (r7)), (5, .int (1)), (0, .ref (62))]) dX10_workOut_94 (by decide) rfl ?_
          refine xr_aload_n dX10_workOut_96 5 rfl ?_
          refine xr_bipush (v := 59) dX10_workOut_97 rfl ?_
          refine xr_callV (As := [.int (59)]) (rest := []) mlX10_184 (g_X10_takes 59 (by decide) hbs (Eq.trans (k10 62 14 (by decide)) (Eq.trans (k6 62 14 (by decide)) e_bs)) (by omega) ea13 (by omega) (Eq.trans (k10 62 16 (by decide)) (Eq.trans (k6 62 16 (by decide)) e_E))) dX10_workOut_99 s_62 rfl rfl (Nat.le_of_ble_eq_true rfl) (by decide) ⟨by decide, by decide⟩ (fun v s2 M37 J2 hq => ?_)
          obtain ⟨r39, rfl, rfl, rfl, k38, hx36⟩ := hq
          try dsimp only [Option.toList, List.cons_append, List.nil_append]
          refine xr_istore (ls2 := [(5, .int (r39)), (4, .int (r7)), (3, .int (1)), (7, .int (1)), (6, .int (r7)), (0, .ref (62))]) dX10_workOut_102 (by decide) rfl ?_
          refine xr_goto (tgt := 33) dX10_workOut_104 rfl ?_
          rcases hx36 with ⟨hr0, ea9⟩ | ⟨hr1, hff9, ha9, ea9⟩
          · subst hr0
            refine xr_iload dX10_workOut_33 0 rfl ?_
            refine xr_if_eq (tgt := 107) dX10_workOut_35 rfl (fun _ => ?_) (fun c => absurd (by decide) c)
            refine xr_aload_n dX10_workOut_107 5 rfl ?_
            refine xb_get (v := M37 62 17) flX10_174 dX10_workOut_108 s_62 rfl rfl ?_
            refine xr_if_ge (tgt := 130) dX10_workOut_111 rfl (fun c40 => ?_) (fun c40 => ?_)
            · refine xr_iload dX10_workOut_130 1 rfl ?_
              exact xr_iret dX10_workOut_132 rfl rfl (⟨_, rfl, rfl, rfl, (Ke.tr (fun pp kk h => (Or.inr (Or.inl h))) (Ke.tr (fun pp kk h => (Or.inr (Or.inl h))) (Ke.tr (fun pp kk => (fun hh => Or.elim hh (fun h => (Or.inr (Or.inl h))) (fun hh => Or.elim hh (fun h => (Or.inr (Or.inr (Or.inr (Or.inl h))))) (fun h => (Or.inr (Or.inr (Or.inr (Or.inr h)))))))) hM k6) k10) k38), trivial⟩)
            · refine xr_aload_n dX10_workOut_114 5 rfl ?_
              refine xb_get (v := nI (a2)) flX10_165 dX10_workOut_115 s_62 rfl ea9 ?_
              refine xr_aload_n dX10_workOut_118 5 rfl ?_
              refine xb_get (v := nI (E)) flX10_168 dX10_workOut_119 s_62 rfl (Eq.trans (k38 62 16 (by decide)) (Eq.trans (k10 62 16 (by decide)) (Eq.trans (k6 62 16 (by decide)) e_E))) ?_
              refine xr_icmp_ge (tgt := 130) dX10_workOut_122 rfl (fun c41 => ?_) (fun c41 => ?_)
              · refine xr_iload dX10_workOut_130 1 rfl ?_
                exact xr_iret dX10_workOut_132 rfl rfl (⟨_, rfl, rfl, rfl, (Ke.tr (fun pp kk h => (Or.inr (Or.inl h))) (Ke.tr (fun pp kk h => (Or.inr (Or.inl h))) (Ke.tr (fun pp kk => (fun hh => Or.elim hh (fun h => (Or.inr (Or.inl h))) (fun hh => Or.elim hh (fun h => (Or.inr (Or.inr (Or.inr (Or.inl h))))) (fun h => (Or.inr (Or.inr (Or.inr (Or.inr h)))))))) hM k6) k10) k38), trivial⟩)
              · refine xr_aload_n dX10_workOut_125 5 rfl ?_
                refine xr_callV (As := []) (rest := []) mlX10_202 (g_X10_wrong (by omega) ea9) dX10_workOut_126 s_62 rfl rfl (Nat.le_of_ble_eq_true rfl) (by decide) ⟨by decide, by decide⟩ (fun v s2 M43 J2 hq => ?_)
                obtain ⟨r45, rfl, rfl, rfl, k44, hx42⟩ := hq
                try dsimp only [Option.toList, List.cons_append, List.nil_append]
                exact xr_iret dX10_workOut_129 rfl rfl (⟨_, rfl, rfl, rfl, (Ke.tr (fun pp kk h => (Or.inr (Or.inr (Or.inr (Or.inl h))))) (Ke.tr (fun pp kk h => (Or.inr (Or.inl h))) (Ke.tr (fun pp kk h => (Or.inr (Or.inl h))) (Ke.tr (fun pp kk => (fun hh => Or.elim hh (fun h => (Or.inr (Or.inl h))) (fun hh => Or.elim hh (fun h => (Or.inr (Or.inr (Or.inr (Or.inl h))))) (fun h => (Or.inr (Or.inr (Or.inr (Or.inr h)))))))) hM k6) k10) k38) k44), trivial⟩)
          · subst hr1
            have ho9 : o3 = 0 := (fun q => hf4 (by rw [← k10 62 17 (by decide)]; exact q)) hff9
            obtain rfl := ho9
            refine xb_ls (ls2 := [(5, .int (1)), (4, .int (r7)), (3, .int (1)), (0, .ref (62))]) [0, 1, 2, 5] rfl ?_
            exact ih (a2 + 1) r7 1 M37 (by omega) (by omega) (Ke.tr (fun pp kk h => (Or.inr (Or.inl h))) (Ke.tr (fun pp kk h => (Or.inr (Or.inl h))) (Ke.tr (fun pp kk => (fun hh => Or.elim hh (fun h => (Or.inr (Or.inl h))) (fun hh => Or.elim hh (fun h => (Or.inr (Or.inr (Or.inr (Or.inl h))))) (fun h => (Or.inr (Or.inr (Or.inr (Or.inr h)))))))) hM k6) k10) k38) ea9 (Eq.trans (k38 62 18 (by decide)) (Eq.trans (k10 62 18 (by decide)) eo3)) (Eq.trans (k38 62 14 (by decide)) (Eq.trans (k10 62 14 (by decide)) (Eq.trans (k6 62 14 (by decide)) e_bs))) (Eq.trans (k38 62 16 (by decide)) (Eq.trans (k10 62 16 (by decide)) (Eq.trans (k6 62 16 (by decide)) e_E)))
    · obtain ⟨-, hff_ea46, ha_ea46, ea46⟩ := Or.resolve_left hx8 (fun q => c12 q.1)
      have ho_ea46 : o3 = 0 := hf4 hff_ea46
      obtain rfl := ho_ea46
      refine xr_iload dX10_workOut_56 1 rfl ?_
      refine xr_if_eq (tgt := 65) dX10_workOut_58 rfl (fun c47 => ?_) (fun c47 => ?_)
      · refine xr_iconst (v := 0) dX10_workOut_65 rfl ?_
        refine xr_istore (ls2 := [(7, .int (0)), (6, .int (r7)), (5, .int (1)), (4, .int (gi)), (3, .int (gv)), (0, .ref (62))]) dX10_workOut_66 (by decide) rfl ?_
        refine xr_aload_n dX10_workOut_68 5 rfl ?_
        refine xr_callV (As := []) (rest := []) mlX10_205 (lv_top l G M9 J bs (a2 + 1) E 0 hbs (Eq.trans (k10 62 14 (by decide)) (Eq.trans (k6 62 14 (by decide)) e_bs)) (by omega) (by omega) ea46 (Eq.trans (k10 62 16 (by decide)) (Eq.trans (k6 62 16 (by decide)) e_E)) (by omega) (Eq.trans (k10 62 18 (by decide)) eo3)) dX10_workOut_69 s_62 rfl rfl (Nat.le_of_ble_eq_true rfl) (by decide) ⟨by decide, by decide⟩ (fun v s2 M52 J2 hq => ?_)
        obtain ⟨r54, rfl, rfl, rfl, k53, ⟨a49, o50, a49a, a49b, o50d, o50c, ea49, eo50, hf51⟩⟩ := hq
        try dsimp only [Option.toList, List.cons_append, List.nil_append]
        refine xr_istore (ls2 := [(6, .int (r54)), (7, .int (0)), (5, .int (1)), (4, .int (gi)), (3, .int (gv)), (0, .ref (62))]) dX10_workOut_72 (by decide) rfl ?_
        refine xr_aload_n dX10_workOut_74 5 rfl ?_
        refine xb_get (v := M52 62 17) flX10_174 dX10_workOut_75 s_62 rfl rfl ?_
        refine xr_if_ge (tgt := 96) dX10_workOut_78 rfl (fun c55 => ?_) (fun c55 => ?_)
        · refine xr_aload_n dX10_workOut_96 5 rfl ?_
          refine xr_bipush (v := 59) dX10_workOut_97 rfl ?_
          refine xr_callV (As := [.int (59)]) (rest := []) mlX10_184 (g_X10_takes 59 (by decide) hbs (Eq.trans (k53 62 14 (by decide)) (Eq.trans (k10 62 14 (by decide)) (Eq.trans (k6 62 14 (by decide)) e_bs))) (by omega) ea49 (by omega) (Eq.trans (k53 62 16 (by decide)) (Eq.trans (k10 62 16 (by decide)) (Eq.trans (k6 62 16 (by decide)) e_E)))) dX10_workOut_99 s_62 rfl rfl (Nat.le_of_ble_eq_true rfl) (by decide) ⟨by decide, by decide⟩ (fun v s2 M57 J2 hq => ?_)
          obtain ⟨r59, rfl, rfl, rfl, k58, hx56⟩ := hq
          try dsimp only [Option.toList, List.cons_append, List.nil_append]
          refine xr_istore (ls2 := [(5, .int (r59)), (6, .int (r54)), (7, .int (0)), (4, .int (gi)), (3, .int (gv)), (0, .ref (62))]) dX10_workOut_102 (by decide) rfl ?_
          refine xr_goto (tgt := 33) dX10_workOut_104 rfl ?_
          rcases hx56 with ⟨hr0, ea9⟩ | ⟨hr1, hff9, ha9, ea9⟩
          · subst hr0
            refine xr_iload dX10_workOut_33 0 rfl ?_
            refine xr_if_eq (tgt := 107) dX10_workOut_35 rfl (fun _ => ?_) (fun c => absurd (by decide) c)
            refine xr_aload_n dX10_workOut_107 5 rfl ?_
            refine xb_get (v := M57 62 17) flX10_174 dX10_workOut_108 s_62 rfl rfl ?_
            refine xr_if_ge (tgt := 130) dX10_workOut_111 rfl (fun c60 => ?_) (fun c60 => ?_)
            · refine xr_iload dX10_workOut_130 3 rfl ?_
              exact xr_iret dX10_workOut_132 rfl rfl (⟨_, rfl, rfl, rfl, (Ke.tr (fun pp kk h => (Or.inr (Or.inl h))) (Ke.tr (fun pp kk => (fun hh => Or.elim hh (fun h => (Or.inr (Or.inl h))) (fun hh => Or.elim hh (fun h => (Or.inr (Or.inr (Or.inr (Or.inl h))))) (fun h => (Or.inr (Or.inr (Or.inr (Or.inr h)))))))) (Ke.tr (fun pp kk h => (Or.inr (Or.inl h))) (Ke.tr (fun pp kk => (fun hh => Or.elim hh (fun h => (Or.inr (Or.inl h))) (fun hh => Or.elim hh (fun h => (Or.inr (Or.inr (Or.inr (Or.inl h))))) (fun h => (Or.inr (Or.inr (Or.inr (Or.inr h)))))))) hM k6) k10) k53) k58), trivial⟩)
            · refine xr_aload_n dX10_workOut_114 5 rfl ?_
              refine xb_get (v := nI (a49)) flX10_165 dX10_workOut_115 s_62 rfl ea9 ?_
              refine xr_aload_n dX10_workOut_118 5 rfl ?_
              refine xb_get (v := nI (E)) flX10_168 dX10_workOut_119 s_62 rfl (Eq.trans (k58 62 16 (by decide)) (Eq.trans (k53 62 16 (by decide)) (Eq.trans (k10 62 16 (by decide)) (Eq.trans (k6 62 16 (by decide)) e_E)))) ?_
              refine xr_icmp_ge (tgt := 130) dX10_workOut_122 rfl (fun c61 => ?_) (fun c61 => ?_)
              · refine xr_iload dX10_workOut_130 3 rfl ?_
                exact xr_iret dX10_workOut_132 rfl rfl (⟨_, rfl, rfl, rfl, (Ke.tr (fun pp kk h => (Or.inr (Or.inl h))) (Ke.tr (fun pp kk => (fun hh => Or.elim hh (fun h => (Or.inr (Or.inl h))) (fun hh => Or.elim hh (fun h => (Or.inr (Or.inr (Or.inr (Or.inl h))))) (fun h => (Or.inr (Or.inr (Or.inr (Or.inr h)))))))) (Ke.tr (fun pp kk h => (Or.inr (Or.inl h))) (Ke.tr (fun pp kk => (fun hh => Or.elim hh (fun h => (Or.inr (Or.inl h))) (fun hh => Or.elim hh (fun h => (Or.inr (Or.inr (Or.inr (Or.inl h))))) (fun h => (Or.inr (Or.inr (Or.inr (Or.inr h)))))))) hM k6) k10) k53) k58), trivial⟩)
              · refine xr_aload_n dX10_workOut_125 5 rfl ?_
                refine xr_callV (As := []) (rest := []) mlX10_202 (g_X10_wrong (by omega) ea9) dX10_workOut_126 s_62 rfl rfl (Nat.le_of_ble_eq_true rfl) (by decide) ⟨by decide, by decide⟩ (fun v s2 M63 J2 hq => ?_)
                obtain ⟨r65, rfl, rfl, rfl, k64, hx62⟩ := hq
                try dsimp only [Option.toList, List.cons_append, List.nil_append]
                exact xr_iret dX10_workOut_129 rfl rfl (⟨_, rfl, rfl, rfl, (Ke.tr (fun pp kk h => (Or.inr (Or.inr (Or.inr (Or.inl h))))) (Ke.tr (fun pp kk h => (Or.inr (Or.inl h))) (Ke.tr (fun pp kk => (fun hh => Or.elim hh (fun h => (Or.inr (Or.inl h))) (fun hh => Or.elim hh (fun h => (Or.inr (Or.inr (Or.inr (Or.inl h))))) (fun h => (Or.inr (Or.inr (Or.inr (Or.inr h)))))))) (Ke.tr (fun pp kk h => (Or.inr (Or.inl h))) (Ke.tr (fun pp kk => (fun hh => Or.elim hh (fun h => (Or.inr (Or.inl h))) (fun hh => Or.elim hh (fun h => (Or.inr (Or.inr (Or.inr (Or.inl h))))) (fun h => (Or.inr (Or.inr (Or.inr (Or.inr h)))))))) hM k6) k10) k53) k58) k64), trivial⟩)
          · subst hr1
            have ho9 : o50 = 0 := hf51 hff9
            obtain rfl := ho9
            refine xb_ls (ls2 := [(5, .int (1)), (4, .int (gi)), (3, .int (gv)), (0, .ref (62))]) [0, 3, 4, 5] rfl ?_
            exact ih (a49 + 1) gi gv M57 (by omega) (by omega) (Ke.tr (fun pp kk h => (Or.inr (Or.inl h))) (Ke.tr (fun pp kk => (fun hh => Or.elim hh (fun h => (Or.inr (Or.inl h))) (fun hh => Or.elim hh (fun h => (Or.inr (Or.inr (Or.inr (Or.inl h))))) (fun h => (Or.inr (Or.inr (Or.inr (Or.inr h)))))))) (Ke.tr (fun pp kk h => (Or.inr (Or.inl h))) (Ke.tr (fun pp kk => (fun hh => Or.elim hh (fun h => (Or.inr (Or.inl h))) (fun hh => Or.elim hh (fun h => (Or.inr (Or.inr (Or.inr (Or.inl h))))) (fun h => (Or.inr (Or.inr (Or.inr (Or.inr h)))))))) hM k6) k10) k53) k58) ea9 (Eq.trans (k58 62 18 (by decide)) eo50) (Eq.trans (k58 62 14 (by decide)) (Eq.trans (k53 62 14 (by decide)) (Eq.trans (k10 62 14 (by decide)) (Eq.trans (k6 62 14 (by decide)) e_bs)))) (Eq.trans (k58 62 16 (by decide)) (Eq.trans (k53 62 16 (by decide)) (Eq.trans (k10 62 16 (by decide)) (Eq.trans (k6 62 16 (by decide)) e_E))))
        · refine xr_iload dX10_workOut_81 1 rfl ?_
          refine xr_if_eq (tgt := 96) dX10_workOut_83 rfl (fun _ => ?_) (fun c => absurd (by decide) c)
          refine xr_aload_n dX10_workOut_96 5 rfl ?_
          refine xr_bipush (v := 59) dX10_workOut_97 rfl ?_
          refine xr_callV (As := [.int (59)]) (rest := []) mlX10_184 (g_X10_takes 59 (by decide) hbs (Eq.trans (k53 62 14 (by decide)) (Eq.trans (k10 62 14 (by decide)) (Eq.trans (k6 62 14 (by decide)) e_bs))) (by omega) ea49 (by omega) (Eq.trans (k53 62 16 (by decide)) (Eq.trans (k10 62 16 (by decide)) (Eq.trans (k6 62 16 (by decide)) e_E)))) dX10_workOut_99 s_62 rfl rfl (Nat.le_of_ble_eq_true rfl) (by decide) ⟨by decide, by decide⟩ (fun v s2 M67 J2 hq => ?_)
          obtain ⟨r69, rfl, rfl, rfl, k68, hx66⟩ := hq
          try dsimp only [Option.toList, List.cons_append, List.nil_append]
          refine xr_istore (ls2 := [(5, .int (r69)), (6, .int (r54)), (7, .int (0)), (4, .int (gi)), (3, .int (gv)), (0, .ref (62))]) dX10_workOut_102 (by decide) rfl ?_
          refine xr_goto (tgt := 33) dX10_workOut_104 rfl ?_
          rcases hx66 with ⟨hr0, ea9⟩ | ⟨hr1, hff9, ha9, ea9⟩
          · subst hr0
            refine xr_iload dX10_workOut_33 0 rfl ?_
            refine xr_if_eq (tgt := 107) dX10_workOut_35 rfl (fun _ => ?_) (fun c => absurd (by decide) c)
            refine xr_aload_n dX10_workOut_107 5 rfl ?_
            refine xb_get (v := M67 62 17) flX10_174 dX10_workOut_108 s_62 rfl rfl ?_
            refine xr_if_ge (tgt := 130) dX10_workOut_111 rfl (fun c70 => ?_) (fun c70 => ?_)
            · refine xr_iload dX10_workOut_130 3 rfl ?_
              exact xr_iret dX10_workOut_132 rfl rfl (⟨_, rfl, rfl, rfl, (Ke.tr (fun pp kk h => (Or.inr (Or.inl h))) (Ke.tr (fun pp kk => (fun hh => Or.elim hh (fun h => (Or.inr (Or.inl h))) (fun hh => Or.elim hh (fun h => (Or.inr (Or.inr (Or.inr (Or.inl h))))) (fun h => (Or.inr (Or.inr (Or.inr (Or.inr h)))))))) (Ke.tr (fun pp kk h => (Or.inr (Or.inl h))) (Ke.tr (fun pp kk => (fun hh => Or.elim hh (fun h => (Or.inr (Or.inl h))) (fun hh => Or.elim hh (fun h => (Or.inr (Or.inr (Or.inr (Or.inl h))))) (fun h => (Or.inr (Or.inr (Or.inr (Or.inr h)))))))) hM k6) k10) k53) k68), trivial⟩)
            · refine xr_aload_n dX10_workOut_114 5 rfl ?_
              refine xb_get (v := nI (a49)) flX10_165 dX10_workOut_115 s_62 rfl ea9 ?_
              refine xr_aload_n dX10_workOut_118 5 rfl ?_
              refine xb_get (v := nI (E)) flX10_168 dX10_workOut_119 s_62 rfl (Eq.trans (k68 62 16 (by decide)) (Eq.trans (k53 62 16 (by decide)) (Eq.trans (k10 62 16 (by decide)) (Eq.trans (k6 62 16 (by decide)) e_E)))) ?_
              refine xr_icmp_ge (tgt := 130) dX10_workOut_122 rfl (fun c71 => ?_) (fun c71 => ?_)
              · refine xr_iload dX10_workOut_130 3 rfl ?_
                exact xr_iret dX10_workOut_132 rfl rfl (⟨_, rfl, rfl, rfl, (Ke.tr (fun pp kk h => (Or.inr (Or.inl h))) (Ke.tr (fun pp kk => (fun hh => Or.elim hh (fun h => (Or.inr (Or.inl h))) (fun hh => Or.elim hh (fun h => (Or.inr (Or.inr (Or.inr (Or.inl h))))) (fun h => (Or.inr (Or.inr (Or.inr (Or.inr h)))))))) (Ke.tr (fun pp kk h => (Or.inr (Or.inl h))) (Ke.tr (fun pp kk => (fun hh => Or.elim hh (fun h => (Or.inr (Or.inl h))) (fun hh => Or.elim hh (fun h => (Or.inr (Or.inr (Or.inr (Or.inl h))))) (fun h => (Or.inr (Or.inr (Or.inr (Or.inr h)))))))) hM k6) k10) k53) k68), trivial⟩)
              · refine xr_aload_n dX10_workOut_125 5 rfl ?_
                refine xr_callV (As := []) (rest := []) mlX10_202 (g_X10_wrong (by omega) ea9) dX10_workOut_126 s_62 rfl rfl (Nat.le_of_ble_eq_true rfl) (by decide) ⟨by decide, by decide⟩ (fun v s2 M73 J2 hq => ?_)
                obtain ⟨r75, rfl, rfl, rfl, k74, hx72⟩ := hq
                try dsimp only [Option.toList, List.cons_append, List.nil_append]
                exact xr_iret dX10_workOut_129 rfl rfl (⟨_, rfl, rfl, rfl, (Ke.tr (fun pp kk h => (Or.inr (Or.inr (Or.inr (Or.inl h))))) (Ke.tr (fun pp kk h => (Or.inr (Or.inl h))) (Ke.tr (fun pp kk => (fun hh => Or.elim hh (fun h => (Or.inr (Or.inl h))) (fun hh => Or.elim hh (fun h => (Or.inr (Or.inr (Or.inr (Or.inl h))))) (fun h => (Or.inr (Or.inr (Or.inr (Or.inr h)))))))) (Ke.tr (fun pp kk h => (Or.inr (Or.inl h))) (Ke.tr (fun pp kk => (fun hh => Or.elim hh (fun h => (Or.inr (Or.inl h))) (fun hh => Or.elim hh (fun h => (Or.inr (Or.inr (Or.inr (Or.inl h))))) (fun h => (Or.inr (Or.inr (Or.inr (Or.inr h)))))))) hM k6) k10) k53) k68) k74), trivial⟩)
          · subst hr1
            have ho9 : o50 = 0 := hf51 hff9
            obtain rfl := ho9
            refine xb_ls (ls2 := [(5, .int (1)), (4, .int (gi)), (3, .int (gv)), (0, .ref (62))]) [0, 3, 4, 5] rfl ?_
            exact ih (a49 + 1) gi gv M67 (by omega) (by omega) (Ke.tr (fun pp kk h => (Or.inr (Or.inl h))) (Ke.tr (fun pp kk => (fun hh => Or.elim hh (fun h => (Or.inr (Or.inl h))) (fun hh => Or.elim hh (fun h => (Or.inr (Or.inr (Or.inr (Or.inl h))))) (fun h => (Or.inr (Or.inr (Or.inr (Or.inr h)))))))) (Ke.tr (fun pp kk h => (Or.inr (Or.inl h))) (Ke.tr (fun pp kk => (fun hh => Or.elim hh (fun h => (Or.inr (Or.inl h))) (fun hh => Or.elim hh (fun h => (Or.inr (Or.inr (Or.inr (Or.inl h))))) (fun h => (Or.inr (Or.inr (Or.inr (Or.inr h)))))))) hM k6) k10) k53) k68) ea9 (Eq.trans (k68 62 18 (by decide)) eo50) (Eq.trans (k68 62 14 (by decide)) (Eq.trans (k53 62 14 (by decide)) (Eq.trans (k10 62 14 (by decide)) (Eq.trans (k6 62 14 (by decide)) e_bs)))) (Eq.trans (k68 62 16 (by decide)) (Eq.trans (k53 62 16 (by decide)) (Eq.trans (k10 62 16 (by decide)) (Eq.trans (k6 62 16 (by decide)) e_E))))
      · refine xr_iconst (v := 1) dX10_workOut_61 rfl ?_
        refine xr_goto (tgt := 66) dX10_workOut_62 rfl ?_
        refine xr_istore (ls2 := [(7, .int (1)), (6, .int (r7)), (5, .int (1)), (4, .int (gi)), (3, .int (gv)), (0, .ref (62))]) dX10_workOut_66 (by decide) rfl ?_
        refine xr_aload_n dX10_workOut_68 5 rfl ?_
        refine xr_callV (As := []) (rest := []) mlX10_205 (lv_top l G M9 J bs (a2 + 1) E 0 hbs (Eq.trans (k10 62 14 (by decide)) (Eq.trans (k6 62 14 (by decide)) e_bs)) (by omega) (by omega) ea46 (Eq.trans (k10 62 16 (by decide)) (Eq.trans (k6 62 16 (by decide)) e_E)) (by omega) (Eq.trans (k10 62 18 (by decide)) eo3)) dX10_workOut_69 s_62 rfl rfl (Nat.le_of_ble_eq_true rfl) (by decide) ⟨by decide, by decide⟩ (fun v s2 M80 J2 hq => ?_)
        obtain ⟨r82, rfl, rfl, rfl, k81, ⟨a77, o78, a77a, a77b, o78d, o78c, ea77, eo78, hf79⟩⟩ := hq
        try dsimp only [Option.toList, List.cons_append, List.nil_append]
        refine xr_istore (ls2 := [(6, .int (r82)), (7, .int (1)), (5, .int (1)), (4, .int (gi)), (3, .int (gv)), (0, .ref (62))]) dX10_workOut_72 (by decide) rfl ?_
        refine xr_aload_n dX10_workOut_74 5 rfl ?_
        refine xb_get (v := M80 62 17) flX10_174 dX10_workOut_75 s_62 rfl rfl ?_
        refine xr_if_ge (tgt := 96) dX10_workOut_78 rfl (fun c83 => ?_) (fun c83 => ?_)
        · refine xr_aload_n dX10_workOut_96 5 rfl ?_
          refine xr_bipush (v := 59) dX10_workOut_97 rfl ?_
          refine xr_callV (As := [.int (59)]) (rest := []) mlX10_184 (g_X10_takes 59 (by decide) hbs (Eq.trans (k81 62 14 (by decide)) (Eq.trans (k10 62 14 (by decide)) (Eq.trans (k6 62 14 (by decide)) e_bs))) (by omega) ea77 (by omega) (Eq.trans (k81 62 16 (by decide)) (Eq.trans (k10 62 16 (by decide)) (Eq.trans (k6 62 16 (by decide)) e_E)))) dX10_workOut_99 s_62 rfl rfl (Nat.le_of_ble_eq_true rfl) (by decide) ⟨by decide, by decide⟩ (fun v s2 M85 J2 hq => ?_)
          obtain ⟨r87, rfl, rfl, rfl, k86, hx84⟩ := hq
          try dsimp only [Option.toList, List.cons_append, List.nil_append]
          refine xr_istore (ls2 := [(5, .int (r87)), (6, .int (r82)), (7, .int (1)), (4, .int (gi)), (3, .int (gv)), (0, .ref (62))]) dX10_workOut_102 (by decide) rfl ?_
          refine xr_goto (tgt := 33) dX10_workOut_104 rfl ?_
          rcases hx84 with ⟨hr0, ea9⟩ | ⟨hr1, hff9, ha9, ea9⟩
          · subst hr0
            refine xr_iload dX10_workOut_33 0 rfl ?_
            refine xr_if_eq (tgt := 107) dX10_workOut_35 rfl (fun _ => ?_) (fun c => absurd (by decide) c)
            refine xr_aload_n dX10_workOut_107 5 rfl ?_
            refine xb_get (v := M85 62 17) flX10_174 dX10_workOut_108 s_62 rfl rfl ?_
            refine xr_if_ge (tgt := 130) dX10_workOut_111 rfl (fun c88 => ?_) (fun c88 => ?_)
            · refine xr_iload dX10_workOut_130 3 rfl ?_
              exact xr_iret dX10_workOut_132 rfl rfl (⟨_, rfl, rfl, rfl, (Ke.tr (fun pp kk h => (Or.inr (Or.inl h))) (Ke.tr (fun pp kk => (fun hh => Or.elim hh (fun h => (Or.inr (Or.inl h))) (fun hh => Or.elim hh (fun h => (Or.inr (Or.inr (Or.inr (Or.inl h))))) (fun h => (Or.inr (Or.inr (Or.inr (Or.inr h)))))))) (Ke.tr (fun pp kk h => (Or.inr (Or.inl h))) (Ke.tr (fun pp kk => (fun hh => Or.elim hh (fun h => (Or.inr (Or.inl h))) (fun hh => Or.elim hh (fun h => (Or.inr (Or.inr (Or.inr (Or.inl h))))) (fun h => (Or.inr (Or.inr (Or.inr (Or.inr h)))))))) hM k6) k10) k81) k86), trivial⟩)
            · refine xr_aload_n dX10_workOut_114 5 rfl ?_
              refine xb_get (v := nI (a77)) flX10_165 dX10_workOut_115 s_62 rfl ea9 ?_
              refine xr_aload_n dX10_workOut_118 5 rfl ?_
              refine xb_get (v := nI (E)) flX10_168 dX10_workOut_119 s_62 rfl (Eq.trans (k86 62 16 (by decide)) (Eq.trans (k81 62 16 (by decide)) (Eq.trans (k10 62 16 (by decide)) (Eq.trans (k6 62 16 (by decide)) e_E)))) ?_
              refine xr_icmp_ge (tgt := 130) dX10_workOut_122 rfl (fun c89 => ?_) (fun c89 => ?_)
              · refine xr_iload dX10_workOut_130 3 rfl ?_
                exact xr_iret dX10_workOut_132 rfl rfl (⟨_, rfl, rfl, rfl, (Ke.tr (fun pp kk h => (Or.inr (Or.inl h))) (Ke.tr (fun pp kk => (fun hh => Or.elim hh (fun h => (Or.inr (Or.inl h))) (fun hh => Or.elim hh (fun h => (Or.inr (Or.inr (Or.inr (Or.inl h))))) (fun h => (Or.inr (Or.inr (Or.inr (Or.inr h)))))))) (Ke.tr (fun pp kk h => (Or.inr (Or.inl h))) (Ke.tr (fun pp kk => (fun hh => Or.elim hh (fun h => (Or.inr (Or.inl h))) (fun hh => Or.elim hh (fun h => (Or.inr (Or.inr (Or.inr (Or.inl h))))) (fun h => (Or.inr (Or.inr (Or.inr (Or.inr h)))))))) hM k6) k10) k81) k86), trivial⟩)
              · refine xr_aload_n dX10_workOut_125 5 rfl ?_
                refine xr_callV (As := []) (rest := []) mlX10_202 (g_X10_wrong (by omega) ea9) dX10_workOut_126 s_62 rfl rfl (Nat.le_of_ble_eq_true rfl) (by decide) ⟨by decide, by decide⟩ (fun v s2 M91 J2 hq => ?_)
                obtain ⟨r93, rfl, rfl, rfl, k92, hx90⟩ := hq
                try dsimp only [Option.toList, List.cons_append, List.nil_append]
                exact xr_iret dX10_workOut_129 rfl rfl (⟨_, rfl, rfl, rfl, (Ke.tr (fun pp kk h => (Or.inr (Or.inr (Or.inr (Or.inl h))))) (Ke.tr (fun pp kk h => (Or.inr (Or.inl h))) (Ke.tr (fun pp kk => (fun hh => Or.elim hh (fun h => (Or.inr (Or.inl h))) (fun hh => Or.elim hh (fun h => (Or.inr (Or.inr (Or.inr (Or.inl h))))) (fun h => (Or.inr (Or.inr (Or.inr (Or.inr h)))))))) (Ke.tr (fun pp kk h => (Or.inr (Or.inl h))) (Ke.tr (fun pp kk => (fun hh => Or.elim hh (fun h => (Or.inr (Or.inl h))) (fun hh => Or.elim hh (fun h => (Or.inr (Or.inr (Or.inr (Or.inl h))))) (fun h => (Or.inr (Or.inr (Or.inr (Or.inr h)))))))) hM k6) k10) k81) k86) k92), trivial⟩)
          · subst hr1
            have ho9 : o78 = 0 := hf79 hff9
            obtain rfl := ho9
            refine xb_ls (ls2 := [(5, .int (1)), (4, .int (gi)), (3, .int (gv)), (0, .ref (62))]) [0, 3, 4, 5] rfl ?_
            exact ih (a77 + 1) gi gv M85 (by omega) (by omega) (Ke.tr (fun pp kk h => (Or.inr (Or.inl h))) (Ke.tr (fun pp kk => (fun hh => Or.elim hh (fun h => (Or.inr (Or.inl h))) (fun hh => Or.elim hh (fun h => (Or.inr (Or.inr (Or.inr (Or.inl h))))) (fun h => (Or.inr (Or.inr (Or.inr (Or.inr h)))))))) (Ke.tr (fun pp kk h => (Or.inr (Or.inl h))) (Ke.tr (fun pp kk => (fun hh => Or.elim hh (fun h => (Or.inr (Or.inl h))) (fun hh => Or.elim hh (fun h => (Or.inr (Or.inr (Or.inr (Or.inl h))))) (fun h => (Or.inr (Or.inr (Or.inr (Or.inr h)))))))) hM k6) k10) k81) k86) ea9 (Eq.trans (k86 62 18 (by decide)) eo78) (Eq.trans (k86 62 14 (by decide)) (Eq.trans (k81 62 14 (by decide)) (Eq.trans (k10 62 14 (by decide)) (Eq.trans (k6 62 14 (by decide)) e_bs)))) (Eq.trans (k86 62 16 (by decide)) (Eq.trans (k81 62 16 (by decide)) (Eq.trans (k10 62 16 (by decide)) (Eq.trans (k6 62 16 (by decide)) e_E))))
        · refine xr_iload dX10_workOut_81 1 rfl ?_
          refine xr_if_eq (tgt := 96) dX10_workOut_83 rfl (fun c => absurd c (by decide)) (fun _ => ?_)
          refine xr_iload_n dX10_workOut_86 4 rfl ?_
          refine xr_if_ne (tgt := 96) dX10_workOut_87 rfl (fun c94 => ?_) (fun c94 => ?_)
          · refine xr_aload_n dX10_workOut_96 5 rfl ?_
            refine xr_bipush (v := 59) dX10_workOut_97 rfl ?_
            refine xr_callV (As := [.int (59)]) (rest := []) mlX10_184 (g_X10_takes 59 (by decide) hbs (Eq.trans (k81 62 14 (by decide)) (Eq.trans (k10 62 14 (by decide)) (Eq.trans (k6 62 14 (by decide)) e_bs))) (by omega) ea77 (by omega) (Eq.trans (k81 62 16 (by decide)) (Eq.trans (k10 62 16 (by decide)) (Eq.trans (k6 62 16 (by decide)) e_E)))) dX10_workOut_99 s_62 rfl rfl (Nat.le_of_ble_eq_true rfl) (by decide) ⟨by decide, by decide⟩ (fun v s2 M96 J2 hq => ?_)
            obtain ⟨r98, rfl, rfl, rfl, k97, hx95⟩ := hq
            try dsimp only [Option.toList, List.cons_append, List.nil_append]
            refine xr_istore (ls2 := [(5, .int (r98)), (6, .int (r82)), (7, .int (1)), (4, .int (gi)), (3, .int (gv)), (0, .ref (62))]) dX10_workOut_102 (by decide) rfl ?_
            refine xr_goto (tgt := 33) dX10_workOut_104 rfl ?_
            rcases hx95 with ⟨hr0, ea9⟩ | ⟨hr1, hff9, ha9, ea9⟩
            · subst hr0
              refine xr_iload dX10_workOut_33 0 rfl ?_
              refine xr_if_eq (tgt := 107) dX10_workOut_35 rfl (fun _ => ?_) (fun c => absurd (by decide) c)
              refine xr_aload_n dX10_workOut_107 5 rfl ?_
              refine xb_get (v := M96 62 17) flX10_174 dX10_workOut_108 s_62 rfl rfl ?_
              refine xr_if_ge (tgt := 130) dX10_workOut_111 rfl (fun c99 => ?_) (fun c99 => ?_)
              · refine xr_iload dX10_workOut_130 3 rfl ?_
                exact xr_iret dX10_workOut_132 rfl rfl (⟨_, rfl, rfl, rfl, (Ke.tr (fun pp kk h => (Or.inr (Or.inl h))) (Ke.tr (fun pp kk => (fun hh => Or.elim hh (fun h => (Or.inr (Or.inl h))) (fun hh => Or.elim hh (fun h => (Or.inr (Or.inr (Or.inr (Or.inl h))))) (fun h => (Or.inr (Or.inr (Or.inr (Or.inr h)))))))) (Ke.tr (fun pp kk h => (Or.inr (Or.inl h))) (Ke.tr (fun pp kk => (fun hh => Or.elim hh (fun h => (Or.inr (Or.inl h))) (fun hh => Or.elim hh (fun h => (Or.inr (Or.inr (Or.inr (Or.inl h))))) (fun h => (Or.inr (Or.inr (Or.inr (Or.inr h)))))))) hM k6) k10) k81) k97), trivial⟩)
              · refine xr_aload_n dX10_workOut_114 5 rfl ?_
                refine xb_get (v := nI (a77)) flX10_165 dX10_workOut_115 s_62 rfl ea9 ?_
                refine xr_aload_n dX10_workOut_118 5 rfl ?_
                refine xb_get (v := nI (E)) flX10_168 dX10_workOut_119 s_62 rfl (Eq.trans (k97 62 16 (by decide)) (Eq.trans (k81 62 16 (by decide)) (Eq.trans (k10 62 16 (by decide)) (Eq.trans (k6 62 16 (by decide)) e_E)))) ?_
                refine xr_icmp_ge (tgt := 130) dX10_workOut_122 rfl (fun c100 => ?_) (fun c100 => ?_)
                · refine xr_iload dX10_workOut_130 3 rfl ?_
                  exact xr_iret dX10_workOut_132 rfl rfl (⟨_, rfl, rfl, rfl, (Ke.tr (fun pp kk h => (Or.inr (Or.inl h))) (Ke.tr (fun pp kk => (fun hh => Or.elim hh (fun h => (Or.inr (Or.inl h))) (fun hh => Or.elim hh (fun h => (Or.inr (Or.inr (Or.inr (Or.inl h))))) (fun h => (Or.inr (Or.inr (Or.inr (Or.inr h)))))))) (Ke.tr (fun pp kk h => (Or.inr (Or.inl h))) (Ke.tr (fun pp kk => (fun hh => Or.elim hh (fun h => (Or.inr (Or.inl h))) (fun hh => Or.elim hh (fun h => (Or.inr (Or.inr (Or.inr (Or.inl h))))) (fun h => (Or.inr (Or.inr (Or.inr (Or.inr h)))))))) hM k6) k10) k81) k97), trivial⟩)
                · refine xr_aload_n dX10_workOut_125 5 rfl ?_
                  refine xr_callV (As := []) (rest := []) mlX10_202 (g_X10_wrong (by omega) ea9) dX10_workOut_126 s_62 rfl rfl (Nat.le_of_ble_eq_true rfl) (by decide) ⟨by decide, by decide⟩ (fun v s2 M102 J2 hq => ?_)
                  obtain ⟨r104, rfl, rfl, rfl, k103, hx101⟩ := hq
                  try dsimp only [Option.toList, List.cons_append, List.nil_append]
                  exact xr_iret dX10_workOut_129 rfl rfl (⟨_, rfl, rfl, rfl, (Ke.tr (fun pp kk h => (Or.inr (Or.inr (Or.inr (Or.inl h))))) (Ke.tr (fun pp kk h => (Or.inr (Or.inl h))) (Ke.tr (fun pp kk => (fun hh => Or.elim hh (fun h => (Or.inr (Or.inl h))) (fun hh => Or.elim hh (fun h => (Or.inr (Or.inr (Or.inr (Or.inl h))))) (fun h => (Or.inr (Or.inr (Or.inr (Or.inr h)))))))) (Ke.tr (fun pp kk h => (Or.inr (Or.inl h))) (Ke.tr (fun pp kk => (fun hh => Or.elim hh (fun h => (Or.inr (Or.inl h))) (fun hh => Or.elim hh (fun h => (Or.inr (Or.inr (Or.inr (Or.inl h))))) (fun h => (Or.inr (Or.inr (Or.inr (Or.inr h)))))))) hM k6) k10) k81) k97) k103), trivial⟩)
            · subst hr1
              have ho9 : o78 = 0 := hf79 hff9
              obtain rfl := ho9
              refine xb_ls (ls2 := [(5, .int (1)), (4, .int (gi)), (3, .int (gv)), (0, .ref (62))]) [0, 3, 4, 5] rfl ?_
              exact ih (a77 + 1) gi gv M96 (by omega) (by omega) (Ke.tr (fun pp kk h => (Or.inr (Or.inl h))) (Ke.tr (fun pp kk => (fun hh => Or.elim hh (fun h => (Or.inr (Or.inl h))) (fun hh => Or.elim hh (fun h => (Or.inr (Or.inr (Or.inr (Or.inl h))))) (fun h => (Or.inr (Or.inr (Or.inr (Or.inr h)))))))) (Ke.tr (fun pp kk h => (Or.inr (Or.inl h))) (Ke.tr (fun pp kk => (fun hh => Or.elim hh (fun h => (Or.inr (Or.inl h))) (fun hh => Or.elim hh (fun h => (Or.inr (Or.inr (Or.inr (Or.inl h))))) (fun h => (Or.inr (Or.inr (Or.inr (Or.inr h)))))))) hM k6) k10) k81) k97) ea9 (Eq.trans (k97 62 18 (by decide)) eo78) (Eq.trans (k97 62 14 (by decide)) (Eq.trans (k81 62 14 (by decide)) (Eq.trans (k10 62 14 (by decide)) (Eq.trans (k6 62 14 (by decide)) e_bs)))) (Eq.trans (k97 62 16 (by decide)) (Eq.trans (k81 62 16 (by decide)) (Eq.trans (k10 62 16 (by decide)) (Eq.trans (k6 62 16 (by decide)) e_E))))
          · refine xr_iconst (v := 1) dX10_workOut_90 rfl ?_
            refine xr_istore_n (ls2 := [(3, .int (1)), (6, .int (r82)), (7, .int (1)), (5, .int (1)), (4, .int (gi)), (0, .ref (62))]) dX10_workOut_91 (by decide) rfl ?_
            refine xr_iload dX10_workOut_92 1 rfl ?_
            refine xr_istore (ls2 := [(4, .int (r82)), (3, .int (1)), (6, .int (r82)), (7, .int (1)), (5, .int (1)), (0, .ref (62))]) dX10_workOut_94 (by decide) rfl ?_
            refine xr_aload_n dX10_workOut_96 5 rfl ?_
            refine xr_bipush (v := 59) dX10_workOut_97 rfl ?_
            refine xr_callV (As := [.int (59)]) (rest := []) mlX10_184 (g_X10_takes 59 (by decide) hbs (Eq.trans (k81 62 14 (by decide)) (Eq.trans (k10 62 14 (by decide)) (Eq.trans (k6 62 14 (by decide)) e_bs))) (by omega) ea77 (by omega) (Eq.trans (k81 62 16 (by decide)) (Eq.trans (k10 62 16 (by decide)) (Eq.trans (k6 62 16 (by decide)) e_E)))) dX10_workOut_99 s_62 rfl rfl (Nat.le_of_ble_eq_true rfl) (by decide) ⟨by decide, by decide⟩ (fun v s2 M106 J2 hq => ?_)
            obtain ⟨r108, rfl, rfl, rfl, k107, hx105⟩ := hq
            try dsimp only [Option.toList, List.cons_append, List.nil_append]
            refine xr_istore (ls2 := [(5, .int (r108)), (4, .int (r82)), (3, .int (1)), (6, .int (r82)), (7, .int (1)), (0, .ref (62))]) dX10_workOut_102 (by decide) rfl ?_
            refine xr_goto (tgt := 33) dX10_workOut_104 rfl ?_
            rcases hx105 with ⟨hr0, ea9⟩ | ⟨hr1, hff9, ha9, ea9⟩
            · subst hr0
              refine xr_iload dX10_workOut_33 0 rfl ?_
              refine xr_if_eq (tgt := 107) dX10_workOut_35 rfl (fun _ => ?_) (fun c => absurd (by decide) c)
              refine xr_aload_n dX10_workOut_107 5 rfl ?_
              refine xb_get (v := M106 62 17) flX10_174 dX10_workOut_108 s_62 rfl rfl ?_
              refine xr_if_ge (tgt := 130) dX10_workOut_111 rfl (fun c109 => ?_) (fun c109 => ?_)
              · refine xr_iload dX10_workOut_130 1 rfl ?_
                exact xr_iret dX10_workOut_132 rfl rfl (⟨_, rfl, rfl, rfl, (Ke.tr (fun pp kk h => (Or.inr (Or.inl h))) (Ke.tr (fun pp kk => (fun hh => Or.elim hh (fun h => (Or.inr (Or.inl h))) (fun hh => Or.elim hh (fun h => (Or.inr (Or.inr (Or.inr (Or.inl h))))) (fun h => (Or.inr (Or.inr (Or.inr (Or.inr h)))))))) (Ke.tr (fun pp kk h => (Or.inr (Or.inl h))) (Ke.tr (fun pp kk => (fun hh => Or.elim hh (fun h => (Or.inr (Or.inl h))) (fun hh => Or.elim hh (fun h => (Or.inr (Or.inr (Or.inr (Or.inl h))))) (fun h => (Or.inr (Or.inr (Or.inr (Or.inr h)))))))) hM k6) k10) k81) k107), trivial⟩)
              · refine xr_aload_n dX10_workOut_114 5 rfl ?_
                refine xb_get (v := nI (a77)) flX10_165 dX10_workOut_115 s_62 rfl ea9 ?_
                refine xr_aload_n dX10_workOut_118 5 rfl ?_
                refine xb_get (v := nI (E)) flX10_168 dX10_workOut_119 s_62 rfl (Eq.trans (k107 62 16 (by decide)) (Eq.trans (k81 62 16 (by decide)) (Eq.trans (k10 62 16 (by decide)) (Eq.trans (k6 62 16 (by decide)) e_E)))) ?_
                refine xr_icmp_ge (tgt := 130) dX10_workOut_122 rfl (fun c110 => ?_) (fun c110 => ?_)
                · refine xr_iload dX10_workOut_130 1 rfl ?_
                  exact xr_iret dX10_workOut_132 rfl rfl (⟨_, rfl, rfl, rfl, (Ke.tr (fun pp kk h => (Or.inr (Or.inl h))) (Ke.tr (fun pp kk => (fun hh => Or.elim hh (fun h => (Or.inr (Or.inl h))) (fun hh => Or.elim hh (fun h => (Or.inr (Or.inr (Or.inr (Or.inl h))))) (fun h => (Or.inr (Or.inr (Or.inr (Or.inr h)))))))) (Ke.tr (fun pp kk h => (Or.inr (Or.inl h))) (Ke.tr (fun pp kk => (fun hh => Or.elim hh (fun h => (Or.inr (Or.inl h))) (fun hh => Or.elim hh (fun h => (Or.inr (Or.inr (Or.inr (Or.inl h))))) (fun h => (Or.inr (Or.inr (Or.inr (Or.inr h)))))))) hM k6) k10) k81) k107), trivial⟩)
                · refine xr_aload_n dX10_workOut_125 5 rfl ?_
                  refine xr_callV (As := []) (rest := []) mlX10_202 (g_X10_wrong (by omega) ea9) dX10_workOut_126 s_62 rfl rfl (Nat.le_of_ble_eq_true rfl) (by decide) ⟨by decide, by decide⟩ (fun v s2 M112 J2 hq => ?_)
                  obtain ⟨r114, rfl, rfl, rfl, k113, hx111⟩ := hq
                  try dsimp only [Option.toList, List.cons_append, List.nil_append]
                  exact xr_iret dX10_workOut_129 rfl rfl (⟨_, rfl, rfl, rfl, (Ke.tr (fun pp kk h => (Or.inr (Or.inr (Or.inr (Or.inl h))))) (Ke.tr (fun pp kk h => (Or.inr (Or.inl h))) (Ke.tr (fun pp kk => (fun hh => Or.elim hh (fun h => (Or.inr (Or.inl h))) (fun hh => Or.elim hh (fun h => (Or.inr (Or.inr (Or.inr (Or.inl h))))) (fun h => (Or.inr (Or.inr (Or.inr (Or.inr h)))))))) (Ke.tr (fun pp kk h => (Or.inr (Or.inl h))) (Ke.tr (fun pp kk => (fun hh => Or.elim hh (fun h => (Or.inr (Or.inl h))) (fun hh => Or.elim hh (fun h => (Or.inr (Or.inr (Or.inr (Or.inl h))))) (fun h => (Or.inr (Or.inr (Or.inr (Or.inr h)))))))) hM k6) k10) k81) k107) k113), trivial⟩)
            · subst hr1
              have ho9 : o78 = 0 := hf79 hff9
              obtain rfl := ho9
              refine xb_ls (ls2 := [(5, .int (1)), (4, .int (r82)), (3, .int (1)), (0, .ref (62))]) [0, 1, 2, 5] rfl ?_
              exact ih (a77 + 1) r82 1 M106 (by omega) (by omega) (Ke.tr (fun pp kk h => (Or.inr (Or.inl h))) (Ke.tr (fun pp kk => (fun hh => Or.elim hh (fun h => (Or.inr (Or.inl h))) (fun hh => Or.elim hh (fun h => (Or.inr (Or.inr (Or.inr (Or.inl h))))) (fun h => (Or.inr (Or.inr (Or.inr (Or.inr h)))))))) (Ke.tr (fun pp kk h => (Or.inr (Or.inl h))) (Ke.tr (fun pp kk => (fun hh => Or.elim hh (fun h => (Or.inr (Or.inl h))) (fun hh => Or.elim hh (fun h => (Or.inr (Or.inr (Or.inr (Or.inl h))))) (fun h => (Or.inr (Or.inr (Or.inr (Or.inr h)))))))) hM k6) k10) k81) k107) ea9 (Eq.trans (k107 62 18 (by decide)) eo78) (Eq.trans (k107 62 14 (by decide)) (Eq.trans (k81 62 14 (by decide)) (Eq.trans (k10 62 14 (by decide)) (Eq.trans (k6 62 14 (by decide)) e_bs)))) (Eq.trans (k107 62 16 (by decide)) (Eq.trans (k81 62 16 (by decide)) (Eq.trans (k10 62 16 (by decide)) (Eq.trans (k6 62 16 (by decide)) e_E))))
set_option maxRecDepth 100000 in
set_option maxHeartbeats 4000000 in
theorem g_X10_workOut {bs : Int32} {E : Nat} (hbs : bs = -1 ∨ bs = 0) (h_E : E ≤ 120) {l : Launch} {G : xG} {M : xM} {J : xJ} : x_M l G fX10_workOut 58 0 0 [.ref (62), .int (bs), .int (nI (E))] x_SH M J (qKI WPW M J (fun r M2 => True)) := by
  refine xb_of pX10 (Nat.le_of_ble_eq_true rfl) rfl ?_
  refine xr_aload_n dX10_workOut_0 0 rfl ?_
  refine xr_iload_n dX10_workOut_1 1 rfl ?_
  refine xr_putI fpX10_171 dX10_workOut_2 s_62 rfl rfl rfl ?_
  refine xr_aload_n dX10_workOut_5 0 rfl ?_
  refine xr_iconst (v := 0) dX10_workOut_6 rfl ?_
  refine xr_putI fpX10_165 dX10_workOut_7 s_62 rfl rfl rfl ?_
  refine xr_aload_n dX10_workOut_10 0 rfl ?_
  refine xr_iload_n dX10_workOut_11 2 rfl ?_
  refine xr_putI fpX10_168 dX10_workOut_12 s_62 rfl rfl rfl ?_
  refine xr_aload_n dX10_workOut_15 0 rfl ?_
  refine xr_iconst (v := -1) dX10_workOut_16 rfl ?_
  refine xr_putI fpX10_174 dX10_workOut_17 s_62 rfl rfl rfl ?_
  refine xr_aload_n dX10_workOut_20 0 rfl ?_
  refine xr_iconst (v := 0) dX10_workOut_21 rfl ?_
  refine xr_putI fpX10_199 dX10_workOut_22 s_62 rfl rfl rfl ?_
  refine xr_iconst (v := 0) dX10_workOut_25 rfl ?_
  refine xr_istore_n (ls2 := [(3, .int (0)), (0, .ref (62)), (1, .int (bs)), (2, .int (nI (E)))]) dX10_workOut_26 (by decide) rfl ?_
  refine xr_iconst (v := 0) dX10_workOut_27 rfl ?_
  refine xr_istore (ls2 := [(4, .int (0)), (3, .int (0)), (0, .ref (62)), (1, .int (bs)), (2, .int (nI (E)))]) dX10_workOut_28 (by decide) rfl ?_
  refine xr_iconst (v := 1) dX10_workOut_30 rfl ?_
  refine xr_istore (ls2 := [(5, .int (1)), (4, .int (0)), (3, .int (0)), (0, .ref (62)), (1, .int (bs)), (2, .int (nI (E)))]) dX10_workOut_31 (by decide) rfl ?_
  refine xb_ls (ls2 := [(5, .int (1)), (4, .int (0)), (3, .int (0)), (0, .ref (62))]) [0, 1, 2, 3] rfl ?_
  exact wo_loop hbs h_E E 0 0 0 (x_up (x_up (x_up (x_up (x_up M 62 14 bs) 62 15 0) 62 16 (nI (E))) 62 17 (-1)) 62 18 0) (by omega) (by omega) (Ke.up (Or.inr (Or.inr (Or.inr (Or.inr (by omega))))) (Ke.up (Or.inr (Or.inr (Or.inr (Or.inl (by omega))))) (Ke.up (Or.inr (Or.inr (Or.inl (by omega)))) (Ke.up (Or.inr (Or.inl (by omega))) (Ke.up (Or.inl (by omega)) Ke.rf))))) (Eq.trans (x_up_k _ _ _ (by decide)) (Eq.trans (x_up_k _ _ _ (by decide)) (Eq.trans (x_up_k _ _ _ (by decide)) (x_up_s _ _ _ _)))) (x_up_s _ _ _ _) (Eq.trans (x_up_k _ _ _ (by decide)) (Eq.trans (x_up_k _ _ _ (by decide)) (Eq.trans (x_up_k _ _ _ (by decide)) (Eq.trans (x_up_k _ _ _ (by decide)) (x_up_s _ _ _ _))))) (Eq.trans (x_up_k _ _ _ (by decide)) (Eq.trans (x_up_k _ _ _ (by decide)) (x_up_s _ _ _ _)))
