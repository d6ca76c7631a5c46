theorem dX4_next_0 : decode cX4_next 0 = .ok (.aload_n 0, 1) := by decide +kernel
theorem dX4_next_1 : decode cX4_next 1 = .ok (.getfield 24, 3) := by decide +kernel
theorem dX4_next_4 : decode cX4_next 4 = .ok (.ifCond .lt 35, 3) := by decide +kernel
theorem dX4_next_7 : decode cX4_next 7 = .ok (.aload_n 0, 1) := by decide +kernel
theorem dX4_next_8 : decode cX4_next 8 = .ok (.getfield 24, 3) := by decide +kernel
theorem dX4_next_11 : decode cX4_next 11 = .ok (.aload_n 0, 1) := by decide +kernel
theorem dX4_next_12 : decode cX4_next 12 = .ok (.getfield 20, 3) := by decide +kernel
theorem dX4_next_15 : decode cX4_next 15 = .ok (.if_icmp .ge 24, 3) := by decide +kernel
theorem dX4_next_39 : decode cX4_next 39 = .ok (.iconst (-1), 1) := by decide +kernel
theorem dX4_next_40 : decode cX4_next 40 = .ok (.ireturn, 1) := by decide +kernel
theorem dX4_isDigit_0 : decode cX4_isDigit 0 = .ok (.iload_n 0, 1) := by decide +kernel
theorem dX4_isDigit_1 : decode cX4_isDigit 1 = .ok (.bipush 48, 2) := by decide +kernel
theorem dX4_isDigit_3 : decode cX4_isDigit 3 = .ok (.if_icmp .lt 13, 3) := by decide +kernel
theorem dX4_isDigit_16 : decode cX4_isDigit 16 = .ok (.iconst 0, 1) := by decide +kernel
theorem dX4_isDigit_17 : decode cX4_isDigit 17 = .ok (.ireturn, 1) := by decide +kernel
theorem dX4_nameOf_0 : decode cX4_nameOf 0 = .ok (.iload_n 0, 1) := by decide +kernel
theorem dX4_nameOf_1 : decode cX4_nameOf 1 = .ok (.tableswitch 107 102 121 #[103, 107, 101, 107, 107, 107, 107, 107, 95, 107, 107, 107, 107, 99, 107, 107, 97, 107, 107, 105], 95) := by decide +kernel
theorem dX4_nameOf_108 : decode cX4_nameOf 108 = .ok (.iconst (-1), 1) := by decide +kernel
theorem dX4_nameOf_109 : decode cX4_nameOf 109 = .ok (.ireturn, 1) := by decide +kernel
theorem dX4_readOperand_0 : decode cX4_readOperand 0 = .ok (.aload_n 0, 1) := by decide +kernel
theorem dX4_readOperand_1 : decode cX4_readOperand 1 = .ok (.invokevirtual 57, 3) := by decide +kernel
theorem dX4_readOperand_4 : decode cX4_readOperand 4 = .ok (.istore_n 2, 1) := by decide +kernel
theorem dX4_readOperand_5 : decode cX4_readOperand 5 = .ok (.iload_n 2, 1) := by decide +kernel
theorem dX4_readOperand_6 : decode cX4_readOperand 6 = .ok (.invokestatic 61, 3) := by decide +kernel
theorem dX4_readOperand_9 : decode cX4_readOperand 9 = .ok (.ifCond .eq 10, 3) := by decide +kernel
theorem dX4_readOperand_19 : decode cX4_readOperand 19 = .ok (.iload_n 2, 1) := by decide +kernel
theorem dX4_readOperand_20 : decode cX4_readOperand 20 = .ok (.invokestatic 67, 3) := by decide +kernel
theorem dX4_readOperand_23 : decode cX4_readOperand 23 = .ok (.ifCond .lt 29, 3) := by decide +kernel
theorem dX4_readOperand_52 : decode cX4_readOperand 52 = .ok (.iload_n 1, 1) := by decide +kernel
theorem dX4_readOperand_53 : decode cX4_readOperand 53 = .ok (.bipush 6, 2) := by decide +kernel
theorem dX4_readOperand_55 : decode cX4_readOperand 55 = .ok (.if_icmp .ge 42, 3) := by decide +kernel
theorem dX4_readOperand_58 : decode cX4_readOperand 58 = .ok (.iload_n 2, 1) := by decide +kernel
theorem dX4_readOperand_59 : decode cX4_readOperand 59 = .ok (.bipush 40, 2) := by decide +kernel
theorem dX4_readOperand_61 : decode cX4_readOperand 61 = .ok (.if_icmp .eq 15, 3) := by decide +kernel
theorem dX4_readOperand_64 : decode cX4_readOperand 64 = .ok (.iload_n 2, 1) := by decide +kernel
theorem dX4_readOperand_65 : decode cX4_readOperand 65 = .ok (.bipush 33, 2) := by decide +kernel
theorem dX4_readOperand_67 : decode cX4_readOperand 67 = .ok (.if_icmp .eq 9, 3) := by decide +kernel
theorem dX4_readOperand_70 : decode cX4_readOperand 70 = .ok (.iload_n 2, 1) := by decide +kernel
theorem dX4_readOperand_71 : decode cX4_readOperand 71 = .ok (.bipush 45, 2) := by decide +kernel
theorem dX4_readOperand_73 : decode cX4_readOperand 73 = .ok (.if_icmp .ne 24, 3) := by decide +kernel
theorem dX4_readOperand_97 : decode cX4_readOperand 97 = .ok (.aload_n 0, 1) := by decide +kernel
theorem dX4_readOperand_98 : decode cX4_readOperand 98 = .ok (.iconst 1, 1) := by decide +kernel
theorem dX4_readOperand_99 : decode cX4_readOperand 99 = .ok (.putfield 27, 3) := by decide +kernel
theorem dX4_readOperand_102 : decode cX4_readOperand 102 = .ok (.return_, 1) := by decide +kernel
theorem dX4_readChain_0 : decode cX4_readChain 0 = .ok (.iload_n 1, 1) := by decide +kernel
theorem dX4_readChain_1 : decode cX4_readChain 1 = .ok (.iconst 5, 1) := by decide +kernel
theorem dX4_readChain_2 : decode cX4_readChain 2 = .ok (.if_icmp .lt 9, 3) := by decide +kernel
theorem dX4_readChain_5 : decode cX4_readChain 5 = .ok (.aload_n 0, 1) := by decide +kernel
theorem dX4_readChain_6 : decode cX4_readChain 6 = .ok (.iload_n 2, 1) := by decide +kernel
theorem dX4_readChain_7 : decode cX4_readChain 7 = .ok (.invokevirtual 50, 3) := by decide +kernel
theorem dX4_readChain_10 : decode cX4_readChain 10 = .ok (.return_, 1) := by decide +kernel
theorem dX4_isJoin_0 : decode cX4_isJoin 0 = .ok (.aload_n 0, 1) := by decide +kernel
theorem dX4_isJoin_1 : decode cX4_isJoin 1 = .ok (.getfield 27, 3) := by decide +kernel
theorem dX4_isJoin_4 : decode cX4_isJoin 4 = .ok (.ifCond .eq 7, 3) := by decide +kernel
theorem dX4_isJoin_7 : decode cX4_isJoin 7 = .ok (.iconst (-1), 1) := by decide +kernel
theorem dX4_isJoin_8 : decode cX4_isJoin 8 = .ok (.goto 7, 3) := by decide +kernel
theorem dX4_isJoin_15 : decode cX4_isJoin 15 = .ok (.istore_n 2, 1) := by decide +kernel
theorem dX4_isJoin_16 : decode cX4_isJoin 16 = .ok (.iload_n 1, 1) := by decide +kernel
theorem dX4_isJoin_17 : decode cX4_isJoin 17 = .ok (.tableswitch 125 0 4 #[35, 47, 59, 83, 101], 35) := by decide +kernel
theorem dX4_isJoin_118 : decode cX4_isJoin 118 = .ok (.iload_n 2, 1) := by decide +kernel
theorem dX4_isJoin_119 : decode cX4_isJoin 119 = .ok (.bipush 42, 2) := by decide +kernel
theorem dX4_isJoin_121 : decode cX4_isJoin 121 = .ok (.if_icmp .eq 15, 3) := by decide +kernel
theorem dX4_isJoin_124 : decode cX4_isJoin 124 = .ok (.iload_n 2, 1) := by decide +kernel
theorem dX4_isJoin_125 : decode cX4_isJoin 125 = .ok (.bipush 47, 2) := by decide +kernel
theorem dX4_isJoin_127 : decode cX4_isJoin 127 = .ok (.if_icmp .eq 9, 3) := by decide +kernel
theorem dX4_isJoin_130 : decode cX4_isJoin 130 = .ok (.iload_n 2, 1) := by decide +kernel
theorem dX4_isJoin_131 : decode cX4_isJoin 131 = .ok (.bipush 37, 2) := by decide +kernel
theorem dX4_isJoin_133 : decode cX4_isJoin 133 = .ok (.if_icmp .ne 7, 3) := by decide +kernel
theorem dX4_isJoin_140 : decode cX4_isJoin 140 = .ok (.iconst 0, 1) := by decide +kernel
theorem dX4_isJoin_141 : decode cX4_isJoin 141 = .ok (.ireturn, 1) := by decide +kernel
theorem dX4_readChain_11 : decode cX4_readChain 11 = .ok (.aload_n 0, 1) := by decide +kernel
theorem dX4_readChain_12 : decode cX4_readChain 12 = .ok (.iload_n 1, 1) := by decide +kernel
theorem dX4_readChain_13 : decode cX4_readChain 13 = .ok (.iconst 1, 1) := by decide +kernel
theorem dX4_readChain_14 : decode cX4_readChain 14 = .ok (.iadd, 1) := by decide +kernel
theorem dX4_readChain_15 : decode cX4_readChain 15 = .ok (.iload_n 2, 1) := by decide +kernel
theorem dX4_readChain_16 : decode cX4_readChain 16 = .ok (.invokevirtual 39, 3) := by decide +kernel
theorem dX4_readChain_19 : decode cX4_readChain 19 = .ok (.aload_n 0, 1) := by decide +kernel
theorem dX4_readChain_20 : decode cX4_readChain 20 = .ok (.iload_n 1, 1) := by decide +kernel
theorem dX4_readChain_21 : decode cX4_readChain 21 = .ok (.invokevirtual 54, 3) := by decide +kernel
theorem dX4_readChain_24 : decode cX4_readChain 24 = .ok (.istore_n 3, 1) := by decide +kernel
theorem dX4_readChain_25 : decode cX4_readChain 25 = .ok (.iconst 0, 1) := by decide +kernel
theorem dX4_readChain_26 : decode cX4_readChain 26 = .ok (.istore 4, 2) := by decide +kernel
theorem dX4_readChain_28 : decode cX4_readChain 28 = .ok (.iload_n 3, 1) := by decide +kernel
theorem dX4_readChain_29 : decode cX4_readChain 29 = .ok (.ifCond .eq 70, 3) := by decide +kernel
theorem dX4_readChain_99 : decode cX4_readChain 99 = .ok (.return_, 1) := by decide +kernel
theorem dX4_isJoin_100 : decode cX4_isJoin 100 = .ok (.iload_n 2, 1) := by decide +kernel
theorem dX4_isJoin_101 : decode cX4_isJoin 101 = .ok (.bipush 43, 2) := by decide +kernel
theorem dX4_isJoin_103 : decode cX4_isJoin 103 = .ok (.if_icmp .eq 9, 3) := by decide +kernel
theorem dX4_isJoin_106 : decode cX4_isJoin 106 = .ok (.iload_n 2, 1) := by decide +kernel
theorem dX4_isJoin_107 : decode cX4_isJoin 107 = .ok (.bipush 45, 2) := by decide +kernel
theorem dX4_isJoin_109 : decode cX4_isJoin 109 = .ok (.if_icmp .ne 7, 3) := by decide +kernel
theorem dX4_isJoin_116 : decode cX4_isJoin 116 = .ok (.iconst 0, 1) := by decide +kernel
theorem dX4_isJoin_117 : decode cX4_isJoin 117 = .ok (.ireturn, 1) := by decide +kernel
theorem dX4_isJoin_76 : decode cX4_isJoin 76 = .ok (.iload_n 2, 1) := by decide +kernel
theorem dX4_isJoin_77 : decode cX4_isJoin 77 = .ok (.bipush 60, 2) := by decide +kernel
theorem dX4_isJoin_79 : decode cX4_isJoin 79 = .ok (.if_icmp .eq 15, 3) := by decide +kernel
theorem dX4_isJoin_82 : decode cX4_isJoin 82 = .ok (.iload_n 2, 1) := by decide +kernel
theorem dX4_isJoin_83 : decode cX4_isJoin 83 = .ok (.bipush 61, 2) := by decide +kernel
theorem dX4_isJoin_85 : decode cX4_isJoin 85 = .ok (.if_icmp .eq 9, 3) := by decide +kernel
theorem dX4_isJoin_88 : decode cX4_isJoin 88 = .ok (.iload_n 2, 1) := by decide +kernel
theorem dX4_isJoin_89 : decode cX4_isJoin 89 = .ok (.bipush 62, 2) := by decide +kernel
theorem dX4_isJoin_91 : decode cX4_isJoin 91 = .ok (.if_icmp .ne 7, 3) := by decide +kernel
theorem dX4_isJoin_98 : decode cX4_isJoin 98 = .ok (.iconst 0, 1) := by decide +kernel
theorem dX4_isJoin_99 : decode cX4_isJoin 99 = .ok (.ireturn, 1) := by decide +kernel
theorem dX4_isJoin_64 : decode cX4_isJoin 64 = .ok (.iload_n 2, 1) := by decide +kernel
theorem dX4_isJoin_65 : decode cX4_isJoin 65 = .ok (.bipush 38, 2) := by decide +kernel
theorem dX4_isJoin_67 : decode cX4_isJoin 67 = .ok (.if_icmp .ne 7, 3) := by decide +kernel
theorem dX4_isJoin_74 : decode cX4_isJoin 74 = .ok (.iconst 0, 1) := by decide +kernel
theorem dX4_isJoin_75 : decode cX4_isJoin 75 = .ok (.ireturn, 1) := by decide +kernel
theorem dX4_isJoin_52 : decode cX4_isJoin 52 = .ok (.iload_n 2, 1) := by decide +kernel
theorem dX4_isJoin_53 : decode cX4_isJoin 53 = .ok (.bipush 124, 2) := by decide +kernel
theorem dX4_isJoin_55 : decode cX4_isJoin 55 = .ok (.if_icmp .ne 7, 3) := by decide +kernel
theorem dX4_isJoin_62 : decode cX4_isJoin 62 = .ok (.iconst 0, 1) := by decide +kernel
theorem dX4_isJoin_63 : decode cX4_isJoin 63 = .ok (.ireturn, 1) := by decide +kernel
theorem dX4_takes_0 : decode cX4_takes 0 = .ok (.aload_n 0, 1) := by decide +kernel
theorem dX4_takes_1 : decode cX4_takes 1 = .ok (.getfield 27, 3) := by decide +kernel
theorem dX4_takes_4 : decode cX4_takes 4 = .ok (.ifCond .ne 11, 3) := by decide +kernel
theorem dX4_takes_15 : decode cX4_takes 15 = .ok (.iconst 0, 1) := by decide +kernel
theorem dX4_takes_16 : decode cX4_takes 16 = .ok (.ireturn, 1) := by decide +kernel
theorem dX3_add_0 : decode cX3_add 0 = .ok (.aload_n 0, 1) := by decide +kernel
theorem dX3_add_1 : decode cX3_add 1 = .ok (.getfield 24, 3) := by decide +kernel
theorem dX3_add_4 : decode cX3_add 4 = .ok (.sipush 128, 3) := by decide +kernel
theorem dX3_add_7 : decode cX3_add 7 = .ok (.if_icmp .lt 6, 3) := by decide +kernel
theorem dX3_add_13 : decode cX3_add 13 = .ok (.aload_n 0, 1) := by decide +kernel
theorem dX3_add_14 : decode cX3_add 14 = .ok (.getfield 11, 3) := by decide +kernel
theorem dX3_add_17 : decode cX3_add 17 = .ok (.aload_n 0, 1) := by decide +kernel
theorem dX3_add_18 : decode cX3_add 18 = .ok (.getfield 24, 3) := by decide +kernel
theorem dX3_add_21 : decode cX3_add 21 = .ok (.iload_n 1, 1) := by decide +kernel
theorem dX3_add_22 : decode cX3_add 22 = .ok (.iastore, 1) := by decide +kernel
theorem dX3_add_23 : decode cX3_add 23 = .ok (.aload_n 0, 1) := by decide +kernel
theorem dX3_add_24 : decode cX3_add 24 = .ok (.getfield 15, 3) := by decide +kernel
theorem dX3_add_27 : decode cX3_add 27 = .ok (.aload_n 0, 1) := by decide +kernel
theorem dX3_add_28 : decode cX3_add 28 = .ok (.getfield 24, 3) := by decide +kernel
theorem dX3_add_31 : decode cX3_add 31 = .ok (.iload_n 2, 1) := by decide +kernel
theorem dX3_add_32 : decode cX3_add 32 = .ok (.iastore, 1) := by decide +kernel
theorem dX3_add_33 : decode cX3_add 33 = .ok (.aload_n 0, 1) := by decide +kernel
theorem dX3_add_34 : decode cX3_add 34 = .ok (.dup, 1) := by decide +kernel
theorem dX3_add_35 : decode cX3_add 35 = .ok (.getfield 24, 3) := by decide +kernel
theorem dX3_add_38 : decode cX3_add 38 = .ok (.iconst 1, 1) := by decide +kernel
theorem dX3_add_39 : decode cX3_add 39 = .ok (.iadd, 1) := by decide +kernel
theorem dX3_add_40 : decode cX3_add 40 = .ok (.putfield 24, 3) := by decide +kernel
theorem dX3_add_43 : decode cX3_add 43 = .ok (.aload_n 0, 1) := by decide +kernel
theorem dX3_add_44 : decode cX3_add 44 = .ok (.getfield 24, 3) := by decide +kernel
theorem dX3_add_47 : decode cX3_add 47 = .ok (.iconst 1, 1) := by decide +kernel
theorem dX3_add_48 : decode cX3_add 48 = .ok (.isub, 1) := by decide +kernel
theorem dX3_add_49 : decode cX3_add 49 = .ok (.ireturn, 1) := by decide +kernel
theorem dX4_readLine_0 : decode cX4_readLine 0 = .ok (.aload_n 0, 1) := by decide +kernel
theorem dX4_readLine_1 : decode cX4_readLine 1 = .ok (.iconst 0, 1) := by decide +kernel
theorem dX4_readLine_2 : decode cX4_readLine 2 = .ok (.iconst 0, 1) := by decide +kernel
theorem dX4_readLine_3 : decode cX4_readLine 3 = .ok (.invokevirtual 39, 3) := by decide +kernel
theorem dX4_readLine_6 : decode cX4_readLine 6 = .ok (.iconst (-1), 1) := by decide +kernel
theorem dX4_readLine_7 : decode cX4_readLine 7 = .ok (.istore_n 1, 1) := by decide +kernel
theorem dX4_readLine_8 : decode cX4_readLine 8 = .ok (.aload_n 0, 1) := by decide +kernel
theorem dX4_readLine_9 : decode cX4_readLine 9 = .ok (.bipush 63, 2) := by decide +kernel
theorem dX4_readLine_11 : decode cX4_readLine 11 = .ok (.invokevirtual 35, 3) := by decide +kernel
theorem dX4_readLine_14 : decode cX4_readLine 14 = .ok (.ifCond .eq 19, 3) := by decide +kernel
theorem dX4_readLine_33 : decode cX4_readLine 33 = .ok (.aload_n 0, 1) := by decide +kernel
theorem dX4_readLine_34 : decode cX4_readLine 34 = .ok (.getfield 16, 3) := by decide +kernel
theorem dX4_readLine_37 : decode cX4_readLine 37 = .ok (.iconst 3, 1) := by decide +kernel
theorem dX4_readLine_38 : decode cX4_readLine 38 = .ok (.iconst 0, 1) := by decide +kernel
theorem dX4_readLine_39 : decode cX4_readLine 39 = .ok (.invokevirtual 43, 3) := by decide +kernel
theorem dX4_readLine_42 : decode cX4_readLine 42 = .ok (.istore_n 2, 1) := by decide +kernel
theorem dX4_readLine_43 : decode cX4_readLine 43 = .ok (.iload_n 1, 1) := by decide +kernel
theorem dX4_readLine_44 : decode cX4_readLine 44 = .ok (.ifCond .lt 13, 3) := by decide +kernel
theorem dX4_readLine_57 : decode cX4_readLine 57 = .ok (.return_, 1) := by decide +kernel
theorem dX4_readText_0 : decode cX4_readText 0 = .ok (.aload_n 0, 1) := by decide +kernel
theorem dX4_readText_1 : decode cX4_readText 1 = .ok (.iconst 0, 1) := by decide +kernel
theorem dX4_readText_2 : decode cX4_readText 2 = .ok (.putfield 24, 3) := by decide +kernel
theorem dX4_readText_5 : decode cX4_readText 5 = .ok (.aload_n 0, 1) := by decide +kernel
theorem dX4_readText_6 : decode cX4_readText 6 = .ok (.iconst 0, 1) := by decide +kernel
theorem dX4_readText_7 : decode cX4_readText 7 = .ok (.putfield 27, 3) := by decide +kernel
theorem dX4_readText_10 : decode cX4_readText 10 = .ok (.aload_n 0, 1) := by decide +kernel
theorem dX4_readText_11 : decode cX4_readText 11 = .ok (.getfield 16, 3) := by decide +kernel
theorem dX4_readText_14 : decode cX4_readText 14 = .ok (.iconst 0, 1) := by decide +kernel
theorem dX4_readText_15 : decode cX4_readText 15 = .ok (.putfield 31, 3) := by decide +kernel
theorem dX4_readText_18 : decode cX4_readText 18 = .ok (.iconst 1, 1) := by decide +kernel
theorem dX4_readText_19 : decode cX4_readText 19 = .ok (.istore_n 1, 1) := by decide +kernel
theorem dX4_readText_20 : decode cX4_readText 20 = .ok (.iconst 0, 1) := by decide +kernel
theorem dX4_readText_21 : decode cX4_readText 21 = .ok (.istore_n 2, 1) := by decide +kernel
theorem dX4_readText_22 : decode cX4_readText 22 = .ok (.iload_n 1, 1) := by decide +kernel
theorem dX4_readText_23 : decode cX4_readText 23 = .ok (.ifCond .eq 26, 3) := by decide +kernel
theorem dX4_readText_26 : decode cX4_readText 26 = .ok (.iload_n 2, 1) := by decide +kernel
theorem dX4_readText_27 : decode cX4_readText 27 = .ok (.bipush 120, 2) := by decide +kernel
theorem dX4_readText_29 : decode cX4_readText 29 = .ok (.if_icmp .gt 20, 3) := by decide +kernel
theorem dX4_readText_32 : decode cX4_readText 32 = .ok (.aload_n 0, 1) := by decide +kernel
theorem dX4_readText_33 : decode cX4_readText 33 = .ok (.invokevirtual 32, 3) := by decide +kernel
theorem dX4_readText_36 : decode cX4_readText 36 = .ok (.aload_n 0, 1) := by decide +kernel
theorem dX4_readText_37 : decode cX4_readText 37 = .ok (.bipush 59, 2) := by decide +kernel
theorem dX4_readText_39 : decode cX4_readText 39 = .ok (.invokevirtual 35, 3) := by decide +kernel
theorem dX4_readText_42 : decode cX4_readText 42 = .ok (.istore_n 1, 1) := by decide +kernel
theorem dX4_readText_43 : decode cX4_readText 43 = .ok (.iinc 2 1, 3) := by decide +kernel
theorem dX4_readText_46 : decode cX4_readText 46 = .ok (.goto (-24), 3) := by decide +kernel
theorem dX4_readText_49 : decode cX4_readText 49 = .ok (.aload_n 0, 1) := by decide +kernel
theorem dX4_readText_50 : decode cX4_readText 50 = .ok (.getfield 27, 3) := by decide +kernel
theorem dX4_readText_53 : decode cX4_readText 53 = .ok (.ifCond .ne 14, 3) := by decide +kernel
theorem dX4_readText_67 : decode cX4_readText 67 = .ok (.aload_n 0, 1) := by decide +kernel
theorem dX4_readText_68 : decode cX4_readText 68 = .ok (.getfield 24, 3) := by decide +kernel
theorem dX4_readText_71 : decode cX4_readText 71 = .ok (.goto 4, 3) := by decide +kernel
theorem dX4_readText_75 : decode cX4_readText 75 = .ok (.ireturn, 1) := by decide +kernel
theorem dX9_law_0 : decode cX9_law 0 = .ok (.aload_n 0, 1) := by decide +kernel
theorem dX9_law_1 : decode cX9_law 1 = .ok (.getfield 19, 3) := by decide +kernel
theorem dX9_law_4 : decode cX9_law 4 = .ok (.invokevirtual 151, 3) := by decide +kernel
theorem dX9_law_7 : decode cX9_law 7 = .ok (.istore_n 1, 1) := by decide +kernel
theorem dX9_law_8 : decode cX9_law 8 = .ok (.aload_n 0, 1) := by decide +kernel
theorem dX9_law_9 : decode cX9_law 9 = .ok (.getfield 19, 3) := by decide +kernel
theorem dX9_law_12 : decode cX9_law 12 = .ok (.iconst 0, 1) := by decide +kernel
theorem dX9_law_13 : decode cX9_law 13 = .ok (.putfield 147, 3) := by decide +kernel
theorem dX9_law_16 : decode cX9_law 16 = .ok (.iload_n 1, 1) := by decide +kernel
theorem dX9_law_17 : decode cX9_law 17 = .ok (.ifCond .lt 8, 3) := by decide +kernel
theorem dX9_law_20 : decode cX9_law 20 = .ok (.bipush (-100), 2) := by decide +kernel
theorem dX9_law_22 : decode cX9_law 22 = .ok (.iload_n 1, 1) := by decide +kernel
theorem dX9_law_23 : decode cX9_law 23 = .ok (.isub, 1) := by decide +kernel
theorem dX9_law_24 : decode cX9_law 24 = .ok (.ireturn, 1) := by decide +kernel
theorem dX4_takeIn_0 : decode cX4_takeIn 0 = .ok (.aload_n 0, 1) := by decide +kernel
theorem dX4_takeIn_1 : decode cX4_takeIn 1 = .ok (.getfield 20, 3) := by decide +kernel
theorem dX4_takeIn_4 : decode cX4_takeIn 4 = .ok (.bipush 120, 2) := by decide +kernel
theorem dX4_takeIn_6 : decode cX4_takeIn 6 = .ok (.if_icmp .lt 5, 3) := by decide +kernel
theorem dX4_takeIn_11 : decode cX4_takeIn 11 = .ok (.aload_n 0, 1) := by decide +kernel
theorem dX4_takeIn_12 : decode cX4_takeIn 12 = .ok (.getfield 9, 3) := by decide +kernel
theorem dX4_takeIn_15 : decode cX4_takeIn 15 = .ok (.aload_n 0, 1) := by decide +kernel
theorem dX4_takeIn_16 : decode cX4_takeIn 16 = .ok (.getfield 20, 3) := by decide +kernel
theorem dX4_takeIn_19 : decode cX4_takeIn 19 = .ok (.iload_n 1, 1) := by decide +kernel
theorem dX4_takeIn_20 : decode cX4_takeIn 20 = .ok (.iastore, 1) := by decide +kernel
theorem dX4_takeIn_21 : decode cX4_takeIn 21 = .ok (.aload_n 0, 1) := by decide +kernel
theorem dX4_takeIn_22 : decode cX4_takeIn 22 = .ok (.dup, 1) := by decide +kernel
theorem dX4_takeIn_23 : decode cX4_takeIn 23 = .ok (.getfield 20, 3) := by decide +kernel
theorem dX4_takeIn_26 : decode cX4_takeIn 26 = .ok (.iconst 1, 1) := by decide +kernel
theorem dX4_takeIn_27 : decode cX4_takeIn 27 = .ok (.iadd, 1) := by decide +kernel
theorem dX4_takeIn_28 : decode cX4_takeIn 28 = .ok (.putfield 20, 3) := by decide +kernel
theorem dX4_takeIn_31 : decode cX4_takeIn 31 = .ok (.iconst 1, 1) := by decide +kernel
theorem dX4_takeIn_32 : decode cX4_takeIn 32 = .ok (.ireturn, 1) := by decide +kernel
theorem dX9_feed_0 : decode cX9_feed 0 = .ok (.iload_n 1, 1) := by decide +kernel
theorem dX9_feed_1 : decode cX9_feed 1 = .ok (.ifCond .lt 10, 3) := by decide +kernel
theorem dX9_feed_11 : decode cX9_feed 11 = .ok (.iconst (-1), 1) := by decide +kernel
theorem dX9_feed_12 : decode cX9_feed 12 = .ok (.ireturn, 1) := by decide +kernel
theorem dX9_feed_4 : decode cX9_feed 4 = .ok (.iload_n 1, 1) := by decide +kernel
theorem dX9_feed_5 : decode cX9_feed 5 = .ok (.sipush 255, 3) := by decide +kernel
theorem dX9_feed_8 : decode cX9_feed 8 = .ok (.if_icmp .le 5, 3) := by decide +kernel
theorem dX9_feed_13 : decode cX9_feed 13 = .ok (.aload_n 0, 1) := by decide +kernel
theorem dX9_feed_14 : decode cX9_feed 14 = .ok (.getfield 19, 3) := by decide +kernel
theorem dX9_feed_17 : decode cX9_feed 17 = .ok (.iload_n 1, 1) := by decide +kernel
theorem dX9_feed_18 : decode cX9_feed 18 = .ok (.invokevirtual 144, 3) := by decide +kernel
theorem dX9_feed_21 : decode cX9_feed 21 = .ok (.ifCond .eq 13, 3) := by decide +kernel
theorem dX9_feed_24 : decode cX9_feed 24 = .ok (.aload_n 0, 1) := by decide +kernel
theorem dX9_feed_25 : decode cX9_feed 25 = .ok (.getfield 19, 3) := by decide +kernel
theorem dX9_feed_28 : decode cX9_feed 28 = .ok (.getfield 147, 3) := by decide +kernel
theorem dX9_feed_31 : decode cX9_feed 31 = .ok (.goto 5, 3) := by decide +kernel
theorem dX9_feed_36 : decode cX9_feed 36 = .ok (.ireturn, 1) := by decide +kernel
def wl_1 : xM := (x_up (x_up (x_up z_M 6 3 0) 6 4 0) 8 4 0)
set_option maxRecDepth 100000 in
set_option maxHeartbeats 4000000 in
theorem wl_c11_next {l : Launch} {G : xG} : x_M l G fX4_next 0 0 0 [.ref (6)] x_SH wl_1 x_J0 (qE (some (.int ((-1)))) x_SH wl_1 x_J0) := by
  refine xb_of pX4 (Nat.le_of_ble_eq_true rfl) rfl ?_
  refine xr_aload_n dX4_next_0 0 rfl ?_
  refine xb_get (v := 0) flX4_24 dX4_next_1 s_6 rfl (by decide +kernel) ?_
  refine xr_if_lt (tgt := 39) dX4_next_4 rfl (fun c => absurd c (by decide)) (fun _ => ?_)
  refine xr_aload_n dX4_next_7 0 rfl ?_
  refine xb_get (v := 0) flX4_24 dX4_next_8 s_6 rfl (by decide +kernel) ?_
  refine xr_aload_n dX4_next_11 0 rfl ?_
  refine xb_get (v := 0) flX4_20 dX4_next_12 s_6 rfl (by decide +kernel) ?_
  refine xr_icmp_ge (tgt := 39) dX4_next_15 rfl (fun _ => ?_) (fun c => absurd (by decide) c)
  refine xr_iconst (v := -1) dX4_next_39 rfl ?_
  exact xr_iret dX4_next_40 rfl rfl (⟨rfl, rfl, rfl, rfl⟩)
set_option maxRecDepth 100000 in
set_option maxHeartbeats 4000000 in
theorem wl_c12_isDigit {l : Launch} {G : xG} : x_M l G fX4_isDigit 0 0 0 [.int ((-1))] x_SH wl_1 x_J0 (qE (some (.int (0))) x_SH wl_1 x_J0) := by
  refine xb_of pX4 (Nat.le_of_ble_eq_true rfl) rfl ?_
  refine xr_iload_n dX4_isDigit_0 0 rfl ?_
  refine xr_bipush (v := 48) dX4_isDigit_1 rfl ?_
  refine xr_icmp_lt (tgt := 16) dX4_isDigit_3 rfl (fun _ => ?_) (fun c => absurd (by decide) c)
  refine xr_iconst (v := 0) dX4_isDigit_16 rfl ?_
  exact xr_iret dX4_isDigit_17 rfl rfl (⟨rfl, rfl, rfl, rfl⟩)
set_option maxRecDepth 100000 in
set_option maxHeartbeats 4000000 in
theorem wl_c13_nameOf {l : Launch} {G : xG} : x_M l G fX4_nameOf 0 0 0 [.int ((-1))] x_SH wl_1 x_J0 (qE (some (.int ((-1)))) x_SH wl_1 x_J0) := by
  refine xb_of pX4 (Nat.le_of_ble_eq_true rfl) rfl ?_
  refine xr_iload_n dX4_nameOf_0 0 rfl ?_
  refine xr_tableOut (tgt := 108) dX4_nameOf_1 (by decide) rfl ?_
  refine xr_iconst (v := -1) dX4_nameOf_108 rfl ?_
  exact xr_iret dX4_nameOf_109 rfl rfl (⟨rfl, rfl, rfl, rfl⟩)
def wl_2 : xM := (x_up wl_1 6 4 1)
set_option maxRecDepth 100000 in
set_option maxHeartbeats 4000000 in
theorem wl_c10_readOperand {l : Launch} {G : xG} : x_M l G fX4_readOperand 1 0 0 [.ref (6), .int (0)] x_SH wl_1 x_J0 (qE (none) x_SH wl_2 x_J0) := by
  refine xb_of pX4 (Nat.le_of_ble_eq_true rfl) rfl ?_
  refine xr_aload_n dX4_readOperand_0 0 rfl ?_
  refine xb_cV (As := []) (rest := []) mlX4_57 (wl_c11_next) dX4_readOperand_1 s_6 rfl rfl (Nat.le_of_ble_eq_true rfl) (by decide) (by decide) ?_
  refine xr_istore_n (ls2 := [(2, .int ((-1))), (0, .ref (6)), (1, .int (0))]) dX4_readOperand_4 (by decide) rfl ?_
  refine xr_iload_n dX4_readOperand_5 0 rfl ?_
  refine xb_cS (As := [.int ((-1))]) (rest := []) mlX4_61 (wl_c12_isDigit) dX4_readOperand_6 rfl rfl (Nat.le_of_ble_eq_true rfl) (by decide) (by decide) ?_
  refine xr_if_eq (tgt := 19) dX4_readOperand_9 rfl (fun _ => ?_) (fun c => absurd (by decide) c)
  refine xr_iload_n dX4_readOperand_19 0 rfl ?_
  refine xb_cS (As := [.int ((-1))]) (rest := []) mlX4_67 (wl_c13_nameOf) dX4_readOperand_20 rfl rfl (Nat.le_of_ble_eq_true rfl) (by decide) (by decide) ?_
  refine xr_if_lt (tgt := 52) dX4_readOperand_23 rfl (fun _ => ?_) (fun c => absurd (by decide) c)
  refine xr_iload_n dX4_readOperand_52 2 rfl ?_
  refine xr_bipush (v := 6) dX4_readOperand_53 rfl ?_
  refine xr_icmp_ge (tgt := 97) dX4_readOperand_55 rfl (fun c => absurd c (by decide)) (fun _ => ?_)
  refine xr_iload_n dX4_readOperand_58 0 rfl ?_
  refine xr_bipush (v := 40) dX4_readOperand_59 rfl ?_
  refine xr_icmp_eq (tgt := 76) dX4_readOperand_61 rfl (fun c => absurd c (by decide)) (fun _ => ?_)
  refine xr_iload_n dX4_readOperand_64 0 rfl ?_
  refine xr_bipush (v := 33) dX4_readOperand_65 rfl ?_
  refine xr_icmp_eq (tgt := 76) dX4_readOperand_67 rfl (fun c => absurd c (by decide)) (fun _ => ?_)
  refine xr_iload_n dX4_readOperand_70 0 rfl ?_
  refine xr_bipush (v := 45) dX4_readOperand_71 rfl ?_
  refine xr_icmp_ne (tgt := 97) dX4_readOperand_73 rfl (fun _ => ?_) (fun c => absurd c (by decide))
  refine xr_aload_n dX4_readOperand_97 1 rfl ?_
  refine xr_iconst (v := 1) dX4_readOperand_98 rfl ?_
  refine xr_putI fpX4_27 dX4_readOperand_99 s_6 rfl rfl rfl ?_
  refine xb_M (M2 := wl_2) rfl ?_
  exact xr_vret dX4_readOperand_102 rfl (⟨rfl, rfl, rfl, rfl⟩)
set_option maxRecDepth 100000 in
set_option maxHeartbeats 4000000 in
theorem wl_c9_readChain {l : Launch} {G : xG} : x_M l G fX4_readChain 2 0 0 [.ref (6), .int (5), .int (0)] x_SH wl_1 x_J0 (qE (none) x_SH wl_2 x_J0) := by
  refine xb_of pX4 (Nat.le_of_ble_eq_true rfl) rfl ?_
  refine xr_iload_n dX4_readChain_0 1 rfl ?_
  refine xr_iconst (v := 5) dX4_readChain_1 rfl ?_
  refine xr_icmp_lt (tgt := 11) dX4_readChain_2 rfl (fun c => absurd c (by decide)) (fun _ => ?_)
  refine xr_aload_n dX4_readChain_5 0 rfl ?_
  refine xr_iload_n dX4_readChain_6 2 rfl ?_
  refine xb_cV (As := [.int (0)]) (rest := []) mlX4_50 (wl_c10_readOperand) dX4_readChain_7 s_6 rfl rfl (Nat.le_of_ble_eq_true rfl) (by decide) (by decide) ?_
  exact xr_vret dX4_readChain_10 rfl (⟨rfl, rfl, rfl, rfl⟩)
set_option maxRecDepth 100000 in
set_option maxHeartbeats 4000000 in
theorem wl_c14_isJoin {l : Launch} {G : xG} : x_M l G fX4_isJoin 0 0 0 [.ref (6), .int (4)] x_SH wl_2 x_J0 (qE (some (.int (0))) x_SH wl_2 x_J0) := by
  refine xb_of pX4 (Nat.le_of_ble_eq_true rfl) rfl ?_
  refine xr_aload_n dX4_isJoin_0 0 rfl ?_
  refine xb_get (v := 1) flX4_27 dX4_isJoin_1 s_6 rfl (by decide +kernel) ?_
  refine xr_if_eq (tgt := 11) dX4_isJoin_4 rfl (fun c => absurd c (by decide)) (fun _ => ?_)
  refine xr_iconst (v := -1) dX4_isJoin_7 rfl ?_
  refine xr_goto (tgt := 15) dX4_isJoin_8 rfl ?_
  refine xr_istore_n (ls2 := [(2, .int ((-1))), (0, .ref (6)), (1, .int (4))]) dX4_isJoin_15 (by decide) rfl ?_
  refine xr_iload_n dX4_isJoin_16 2 rfl ?_
  refine xr_tableIn (tgt := 118) dX4_isJoin_17 (by decide) (by decide) rfl rfl ?_
  refine xr_iload_n dX4_isJoin_118 0 rfl ?_
  refine xr_bipush (v := 42) dX4_isJoin_119 rfl ?_
  refine xr_icmp_eq (tgt := 136) dX4_isJoin_121 rfl (fun c => absurd c (by decide)) (fun _ => ?_)
  refine xr_iload_n dX4_isJoin_124 0 rfl ?_
  refine xr_bipush (v := 47) dX4_isJoin_125 rfl ?_
  refine xr_icmp_eq (tgt := 136) dX4_isJoin_127 rfl (fun c => absurd c (by decide)) (fun _ => ?_)
  refine xr_iload_n dX4_isJoin_130 0 rfl ?_
  refine xr_bipush (v := 37) dX4_isJoin_131 rfl ?_
  refine xr_icmp_ne (tgt := 140) dX4_isJoin_133 rfl (fun _ => ?_) (fun c => absurd c (by decide))
  refine xr_iconst (v := 0) dX4_isJoin_140 rfl ?_
  exact xr_iret dX4_isJoin_141 rfl rfl (⟨rfl, rfl, rfl, rfl⟩)
set_option maxRecDepth 100000 in
set_option maxHeartbeats 4000000 in
theorem wl_c8_readChain {l : Launch} {G : xG} : x_M l G fX4_readChain 3 0 0 [.ref (6), .int (4), .int (0)] x_SH wl_1 x_J0 (qE (none) x_SH wl_2 x_J0) := by
  refine xb_of pX4 (Nat.le_of_ble_eq_true rfl) rfl ?_
  refine xr_iload_n dX4_readChain_0 1 rfl ?_
  refine xr_iconst (v := 5) dX4_readChain_1 rfl ?_
  refine xr_icmp_lt (tgt := 11) dX4_readChain_2 rfl (fun _ => ?_) (fun c => absurd (by decide) c)
  refine xr_aload_n dX4_readChain_11 0 rfl ?_
  refine xr_iload_n dX4_readChain_12 1 rfl ?_
  refine xr_iconst (v := 1) dX4_readChain_13 rfl ?_
  refine xr_iadd dX4_readChain_14 ?_
  refine xb_top (y := 5) (by decide) ?_
  refine xr_iload_n dX4_readChain_15 2 rfl ?_
  refine xb_cV (As := [.int (5), .int (0)]) (rest := []) mlX4_39 (wl_c9_readChain) dX4_readChain_16 s_6 rfl rfl (Nat.le_of_ble_eq_true rfl) (by decide) (by decide) ?_
  refine xr_aload_n dX4_readChain_19 0 rfl ?_
  refine xr_iload_n dX4_readChain_20 1 rfl ?_
  refine xb_cV (As := [.int (4)]) (rest := []) mlX4_54 (wl_c14_isJoin) dX4_readChain_21 s_6 rfl rfl (Nat.le_of_ble_eq_true rfl) (by decide) (by decide) ?_
  refine xr_istore_n (ls2 := [(3, .int (0)), (0, .ref (6)), (1, .int (4)), (2, .int (0))]) dX4_readChain_24 (by decide) rfl ?_
  refine xr_iconst (v := 0) dX4_readChain_25 rfl ?_
  refine xr_istore (ls2 := [(4, .int (0)), (3, .int (0)), (0, .ref (6)), (1, .int (4)), (2, .int (0))]) dX4_readChain_26 (by decide) rfl ?_
  refine xr_iload_n dX4_readChain_28 1 rfl ?_
  refine xr_if_eq (tgt := 99) dX4_readChain_29 rfl (fun _ => ?_) (fun c => absurd (by decide) c)
  exact xr_vret dX4_readChain_99 rfl (⟨rfl, rfl, rfl, rfl⟩)
set_option maxRecDepth 100000 in
set_option maxHeartbeats 4000000 in
theorem wl_c15_isJoin {l : Launch} {G : xG} : x_M l G fX4_isJoin 0 0 0 [.ref (6), .int (3)] x_SH wl_2 x_J0 (qE (some (.int (0))) x_SH wl_2 x_J0) := by
  refine xb_of pX4 (Nat.le_of_ble_eq_true rfl) rfl ?_
  refine xr_aload_n dX4_isJoin_0 0 rfl ?_
  refine xb_get (v := 1) flX4_27 dX4_isJoin_1 s_6 rfl (by decide +kernel) ?_
  refine xr_if_eq (tgt := 11) dX4_isJoin_4 rfl (fun c => absurd c (by decide)) (fun _ => ?_)
  refine xr_iconst (v := -1) dX4_isJoin_7 rfl ?_
  refine xr_goto (tgt := 15) dX4_isJoin_8 rfl ?_
  refine xr_istore_n (ls2 := [(2, .int ((-1))), (0, .ref (6)), (1, .int (3))]) dX4_isJoin_15 (by decide) rfl ?_
  refine xr_iload_n dX4_isJoin_16 2 rfl ?_
  refine xr_tableIn (tgt := 100) dX4_isJoin_17 (by decide) (by decide) rfl rfl ?_
  refine xr_iload_n dX4_isJoin_100 0 rfl ?_
  refine xr_bipush (v := 43) dX4_isJoin_101 rfl ?_
  refine xr_icmp_eq (tgt := 112) dX4_isJoin_103 rfl (fun c => absurd c (by decide)) (fun _ => ?_)
  refine xr_iload_n dX4_isJoin_106 0 rfl ?_
  refine xr_bipush (v := 45) dX4_isJoin_107 rfl ?_
  refine xr_icmp_ne (tgt := 116) dX4_isJoin_109 rfl (fun _ => ?_) (fun c => absurd c (by decide))
  refine xr_iconst (v := 0) dX4_isJoin_116 rfl ?_
  exact xr_iret dX4_isJoin_117 rfl rfl (⟨rfl, rfl, rfl, rfl⟩)
set_option maxRecDepth 100000 in
set_option maxHeartbeats 4000000 in
theorem wl_c7_readChain {l : Launch} {G : xG} : x_M l G fX4_readChain 4 0 0 [.ref (6), .int (3), .int (0)] x_SH wl_1 x_J0 (qE (none) x_SH wl_2 x_J0) := by
  refine xb_of pX4 (Nat.le_of_ble_eq_true rfl) rfl ?_
  refine xr_iload_n dX4_readChain_0 1 rfl ?_
  refine xr_iconst (v := 5) dX4_readChain_1 rfl ?_
  refine xr_icmp_lt (tgt := 11) dX4_readChain_2 rfl (fun _ => ?_) (fun c => absurd (by decide) c)
  refine xr_aload_n dX4_readChain_11 0 rfl ?_
  refine xr_iload_n dX4_readChain_12 1 rfl ?_
  refine xr_iconst (v := 1) dX4_readChain_13 rfl ?_
  refine xr_iadd dX4_readChain_14 ?_
  refine xb_top (y := 4) (by decide) ?_
  refine xr_iload_n dX4_readChain_15 2 rfl ?_
  refine xb_cV (As := [.int (4), .int (0)]) (rest := []) mlX4_39 (wl_c8_readChain) dX4_readChain_16 s_6 rfl rfl (Nat.le_of_ble_eq_true rfl) (by decide) (by decide) ?_
  refine xr_aload_n dX4_readChain_19 0 rfl ?_
  refine xr_iload_n dX4_readChain_20 1 rfl ?_
  refine xb_cV (As := [.int (3)]) (rest := []) mlX4_54 (wl_c15_isJoin) dX4_readChain_21 s_6 rfl rfl (Nat.le_of_ble_eq_true rfl) (by decide) (by decide) ?_
  refine xr_istore_n (ls2 := [(3, .int (0)), (0, .ref (6)), (1, .int (3)), (2, .int (0))]) dX4_readChain_24 (by decide) rfl ?_
  refine xr_iconst (v := 0) dX4_readChain_25 rfl ?_
  refine xr_istore (ls2 := [(4, .int (0)), (3, .int (0)), (0, .ref (6)), (1, .int (3)), (2, .int (0))]) dX4_readChain_26 (by decide) rfl ?_
  refine xr_iload_n dX4_readChain_28 1 rfl ?_
  refine xr_if_eq (tgt := 99) dX4_readChain_29 rfl (fun _ => ?_) (fun c => absurd (by decide) c)
  exact xr_vret dX4_readChain_99 rfl (⟨rfl, rfl, rfl, rfl⟩)
set_option maxRecDepth 100000 in
set_option maxHeartbeats 4000000 in
theorem wl_c16_isJoin {l : Launch} {G : xG} : x_M l G fX4_isJoin 0 0 0 [.ref (6), .int (2)] x_SH wl_2 x_J0 (qE (some (.int (0))) x_SH wl_2 x_J0) := by
  refine xb_of pX4 (Nat.le_of_ble_eq_true rfl) rfl ?_
  refine xr_aload_n dX4_isJoin_0 0 rfl ?_
  refine xb_get (v := 1) flX4_27 dX4_isJoin_1 s_6 rfl (by decide +kernel) ?_
  refine xr_if_eq (tgt := 11) dX4_isJoin_4 rfl (fun c => absurd c (by decide)) (fun _ => ?_)
  refine xr_iconst (v := -1) dX4_isJoin_7 rfl ?_
  refine xr_goto (tgt := 15) dX4_isJoin_8 rfl ?_
  refine xr_istore_n (ls2 := [(2, .int ((-1))), (0, .ref (6)), (1, .int (2))]) dX4_isJoin_15 (by decide) rfl ?_
  refine xr_iload_n dX4_isJoin_16 2 rfl ?_
  refine xr_tableIn (tgt := 76) dX4_isJoin_17 (by decide) (by decide) rfl rfl ?_
  refine xr_iload_n dX4_isJoin_76 0 rfl ?_
  refine xr_bipush (v := 60) dX4_isJoin_77 rfl ?_
  refine xr_icmp_eq (tgt := 94) dX4_isJoin_79 rfl (fun c => absurd c (by decide)) (fun _ => ?_)
  refine xr_iload_n dX4_isJoin_82 0 rfl ?_
  refine xr_bipush (v := 61) dX4_isJoin_83 rfl ?_
  refine xr_icmp_eq (tgt := 94) dX4_isJoin_85 rfl (fun c => absurd c (by decide)) (fun _ => ?_)
  refine xr_iload_n dX4_isJoin_88 0 rfl ?_
  refine xr_bipush (v := 62) dX4_isJoin_89 rfl ?_
  refine xr_icmp_ne (tgt := 98) dX4_isJoin_91 rfl (fun _ => ?_) (fun c => absurd c (by decide))
  refine xr_iconst (v := 0) dX4_isJoin_98 rfl ?_
  exact xr_iret dX4_isJoin_99 rfl rfl (⟨rfl, rfl, rfl, rfl⟩)
set_option maxRecDepth 100000 in
set_option maxHeartbeats 4000000 in
theorem wl_c6_readChain {l : Launch} {G : xG} : x_M l G fX4_readChain 5 0 0 [.ref (6), .int (2), .int (0)] x_SH wl_1 x_J0 (qE (none) x_SH wl_2 x_J0) := by
  refine xb_of pX4 (Nat.le_of_ble_eq_true rfl) rfl ?_
  refine xr_iload_n dX4_readChain_0 1 rfl ?_
  refine xr_iconst (v := 5) dX4_readChain_1 rfl ?_
  refine xr_icmp_lt (tgt := 11) dX4_readChain_2 rfl (fun _ => ?_) (fun c => absurd (by decide) c)
  refine xr_aload_n dX4_readChain_11 0 rfl ?_
  refine xr_iload_n dX4_readChain_12 1 rfl ?_
  refine xr_iconst (v := 1) dX4_readChain_13 rfl ?_
  refine xr_iadd dX4_readChain_14 ?_
  refine xb_top (y := 3) (by decide) ?_
  refine xr_iload_n dX4_readChain_15 2 rfl ?_
  refine xb_cV (As := [.int (3), .int (0)]) (rest := []) mlX4_39 (wl_c7_readChain) dX4_readChain_16 s_6 rfl rfl (Nat.le_of_ble_eq_true rfl) (by decide) (by decide) ?_
  refine xr_aload_n dX4_readChain_19 0 rfl ?_
  refine xr_iload_n dX4_readChain_20 1 rfl ?_
  refine xb_cV (As := [.int (2)]) (rest := []) mlX4_54 (wl_c16_isJoin) dX4_readChain_21 s_6 rfl rfl (Nat.le_of_ble_eq_true rfl) (by decide) (by decide) ?_
  refine xr_istore_n (ls2 := [(3, .int (0)), (0, .ref (6)), (1, .int (2)), (2, .int (0))]) dX4_readChain_24 (by decide) rfl ?_
  refine xr_iconst (v := 0) dX4_readChain_25 rfl ?_
  refine xr_istore (ls2 := [(4, .int (0)), (3, .int (0)), (0, .ref (6)), (1, .int (2)), (2, .int (0))]) dX4_readChain_26 (by decide) rfl ?_
  refine xr_iload_n dX4_readChain_28 1 rfl ?_
  refine xr_if_eq (tgt := 99) dX4_readChain_29 rfl (fun _ => ?_) (fun c => absurd (by decide) c)
  exact xr_vret dX4_readChain_99 rfl (⟨rfl, rfl, rfl, rfl⟩)
set_option maxRecDepth 100000 in
set_option maxHeartbeats 4000000 in
theorem wl_c17_isJoin {l : Launch} {G : xG} : x_M l G fX4_isJoin 0 0 0 [.ref (6), .int (1)] x_SH wl_2 x_J0 (qE (some (.int (0))) x_SH wl_2 x_J0) := by
  refine xb_of pX4 (Nat.le_of_ble_eq_true rfl) rfl ?_
  refine xr_aload_n dX4_isJoin_0 0 rfl ?_
  refine xb_get (v := 1) flX4_27 dX4_isJoin_1 s_6 rfl (by decide +kernel) ?_
  refine xr_if_eq (tgt := 11) dX4_isJoin_4 rfl (fun c => absurd c (by decide)) (fun _ => ?_)
  refine xr_iconst (v := -1) dX4_isJoin_7 rfl ?_
  refine xr_goto (tgt := 15) dX4_isJoin_8 rfl ?_
  refine xr_istore_n (ls2 := [(2, .int ((-1))), (0, .ref (6)), (1, .int (1))]) dX4_isJoin_15 (by decide) rfl ?_
  refine xr_iload_n dX4_isJoin_16 2 rfl ?_
  refine xr_tableIn (tgt := 64) dX4_isJoin_17 (by decide) (by decide) rfl rfl ?_
  refine xr_iload_n dX4_isJoin_64 0 rfl ?_
  refine xr_bipush (v := 38) dX4_isJoin_65 rfl ?_
  refine xr_icmp_ne (tgt := 74) dX4_isJoin_67 rfl (fun _ => ?_) (fun c => absurd c (by decide))
  refine xr_iconst (v := 0) dX4_isJoin_74 rfl ?_
  exact xr_iret dX4_isJoin_75 rfl rfl (⟨rfl, rfl, rfl, rfl⟩)
set_option maxRecDepth 100000 in
set_option maxHeartbeats 4000000 in
theorem wl_c5_readChain {l : Launch} {G : xG} : x_M l G fX4_readChain 6 0 0 [.ref (6), .int (1), .int (0)] x_SH wl_1 x_J0 (qE (none) x_SH wl_2 x_J0) := by
  refine xb_of pX4 (Nat.le_of_ble_eq_true rfl) rfl ?_
  refine xr_iload_n dX4_readChain_0 1 rfl ?_
  refine xr_iconst (v := 5) dX4_readChain_1 rfl ?_
  refine xr_icmp_lt (tgt := 11) dX4_readChain_2 rfl (fun _ => ?_) (fun c => absurd (by decide) c)
  refine xr_aload_n dX4_readChain_11 0 rfl ?_
  refine xr_iload_n dX4_readChain_12 1 rfl ?_
  refine xr_iconst (v := 1) dX4_readChain_13 rfl ?_
  refine xr_iadd dX4_readChain_14 ?_
  refine xb_top (y := 2) (by decide) ?_
  refine xr_iload_n dX4_readChain_15 2 rfl ?_
  refine xb_cV (As := [.int (2), .int (0)]) (rest := []) mlX4_39 (wl_c6_readChain) dX4_readChain_16 s_6 rfl rfl (Nat.le_of_ble_eq_true rfl) (by decide) (by decide) ?_
  refine xr_aload_n dX4_readChain_19 0 rfl ?_
  refine xr_iload_n dX4_readChain_20 1 rfl ?_
  refine xb_cV (As := [.int (1)]) (rest := []) mlX4_54 (wl_c17_isJoin) dX4_readChain_21 s_6 rfl rfl (Nat.le_of_ble_eq_true rfl) (by decide) (by decide) ?_
  refine xr_istore_n (ls2 := [(3, .int (0)), (0, .ref (6)), (1, .int (1)), (2, .int (0))]) dX4_readChain_24 (by decide) rfl ?_
  refine xr_iconst (v := 0) dX4_readChain_25 rfl ?_
  refine xr_istore (ls2 := [(4, .int (0)), (3, .int (0)), (0, .ref (6)), (1, .int (1)), (2, .int (0))]) dX4_readChain_26 (by decide) rfl ?_
  refine xr_iload_n dX4_readChain_28 1 rfl ?_
  refine xr_if_eq (tgt := 99) dX4_readChain_29 rfl (fun _ => ?_) (fun c => absurd (by decide) c)
  exact xr_vret dX4_readChain_99 rfl (⟨rfl, rfl, rfl, rfl⟩)
set_option maxRecDepth 100000 in
set_option maxHeartbeats 4000000 in
theorem wl_c18_isJoin {l : Launch} {G : xG} : x_M l G fX4_isJoin 0 0 0 [.ref (6), .int (0)] x_SH wl_2 x_J0 (qE (some (.int (0))) x_SH wl_2 x_J0) := by
  refine xb_of pX4 (Nat.le_of_ble_eq_true rfl) rfl ?_
  refine xr_aload_n dX4_isJoin_0 0 rfl ?_
  refine xb_get (v := 1) flX4_27 dX4_isJoin_1 s_6 rfl (by decide +kernel) ?_
  refine xr_if_eq (tgt := 11) dX4_isJoin_4 rfl (fun c => absurd c (by decide)) (fun _ => ?_)
  refine xr_iconst (v := -1) dX4_isJoin_7 rfl ?_
  refine xr_goto (tgt := 15) dX4_isJoin_8 rfl ?_
  refine xr_istore_n (ls2 := [(2, .int ((-1))), (0, .ref (6)), (1, .int (0))]) dX4_isJoin_15 (by decide) rfl ?_
  refine xr_iload_n dX4_isJoin_16 2 rfl ?_
  refine xr_tableIn (tgt := 52) dX4_isJoin_17 (by decide) (by decide) rfl rfl ?_
  refine xr_iload_n dX4_isJoin_52 0 rfl ?_
  refine xr_bipush (v := 124) dX4_isJoin_53 rfl ?_
  refine xr_icmp_ne (tgt := 62) dX4_isJoin_55 rfl (fun _ => ?_) (fun c => absurd c (by decide))
  refine xr_iconst (v := 0) dX4_isJoin_62 rfl ?_
  exact xr_iret dX4_isJoin_63 rfl rfl (⟨rfl, rfl, rfl, rfl⟩)
set_option maxRecDepth 100000 in
set_option maxHeartbeats 4000000 in
theorem wl_c4_readChain {l : Launch} {G : xG} : x_M l G fX4_readChain 7 0 0 [.ref (6), .int (0), .int (0)] x_SH wl_1 x_J0 (qE (none) x_SH wl_2 x_J0) := by
  refine xb_of pX4 (Nat.le_of_ble_eq_true rfl) rfl ?_
  refine xr_iload_n dX4_readChain_0 1 rfl ?_
  refine xr_iconst (v := 5) dX4_readChain_1 rfl ?_
  refine xr_icmp_lt (tgt := 11) dX4_readChain_2 rfl (fun _ => ?_) (fun c => absurd (by decide) c)
  refine xr_aload_n dX4_readChain_11 0 rfl ?_
  refine xr_iload_n dX4_readChain_12 1 rfl ?_
  refine xr_iconst (v := 1) dX4_readChain_13 rfl ?_
  refine xr_iadd dX4_readChain_14 ?_
  refine xb_top (y := 1) (by decide) ?_
  refine xr_iload_n dX4_readChain_15 2 rfl ?_
  refine xb_cV (As := [.int (1), .int (0)]) (rest := []) mlX4_39 (wl_c5_readChain) dX4_readChain_16 s_6 rfl rfl (Nat.le_of_ble_eq_true rfl) (by decide) (by decide) ?_
  refine xr_aload_n dX4_readChain_19 0 rfl ?_
  refine xr_iload_n dX4_readChain_20 1 rfl ?_
  refine xb_cV (As := [.int (0)]) (rest := []) mlX4_54 (wl_c18_isJoin) dX4_readChain_21 s_6 rfl rfl (Nat.le_of_ble_eq_true rfl) (by decide) (by decide) ?_
  refine xr_istore_n (ls2 := [(3, .int (0)), (0, .ref (6)), (1, .int (0)), (2, .int (0))]) dX4_readChain_24 (by decide) rfl ?_
  refine xr_iconst (v := 0) dX4_readChain_25 rfl ?_
  refine xr_istore (ls2 := [(4, .int (0)), (3, .int (0)), (0, .ref (6)), (1, .int (0)), (2, .int (0))]) dX4_readChain_26 (by decide) rfl ?_
  refine xr_iload_n dX4_readChain_28 1 rfl ?_
  refine xr_if_eq (tgt := 99) dX4_readChain_29 rfl (fun _ => ?_) (fun c => absurd (by decide) c)
  exact xr_vret dX4_readChain_99 rfl (⟨rfl, rfl, rfl, rfl⟩)
set_option maxRecDepth 100000 in
set_option maxHeartbeats 4000000 in
theorem wl_c19_takes {l : Launch} {G : xG} : x_M l G fX4_takes 0 0 0 [.ref (6), .int (63)] x_SH wl_2 x_J0 (qE (some (.int (0))) x_SH wl_2 x_J0) := by
  refine xb_of pX4 (Nat.le_of_ble_eq_true rfl) rfl ?_
  refine xr_aload_n dX4_takes_0 0 rfl ?_
  refine xb_get (v := 1) flX4_27 dX4_takes_1 s_6 rfl (by decide +kernel) ?_
  refine xr_if_ne (tgt := 15) dX4_takes_4 rfl (fun _ => ?_) (fun c => absurd c (by decide))
  refine xr_iconst (v := 0) dX4_takes_15 rfl ?_
  exact xr_iret dX4_takes_16 rfl rfl (⟨rfl, rfl, rfl, rfl⟩)
def wl_3 : xM := (x_up (x_up (x_up wl_2 9 0 3) 10 0 0) 8 4 1)
set_option maxRecDepth 100000 in
set_option maxHeartbeats 4000000 in
theorem wl_c20_add {l : Launch} {G : xG} : x_M l G fX3_add 0 0 0 [.ref (8), .int (3), .int (0)] x_SH wl_2 x_J0 (qE (some (.int (0))) x_SH wl_3 x_J0) := by
  refine xb_of pX3 (Nat.le_of_ble_eq_true rfl) rfl ?_
  refine xr_aload_n dX3_add_0 0 rfl ?_
  refine xb_get (v := 0) flX3_24 dX3_add_1 s_8 rfl (by decide +kernel) ?_
  refine xr_sipush (v := 128) dX3_add_4 rfl ?_
  refine xr_icmp_lt (tgt := 13) dX3_add_7 rfl (fun _ => ?_) (fun c => absurd (by decide) c)
  refine xr_aload_n dX3_add_13 0 rfl ?_
  refine xr_getR flX3_11 dX3_add_14 s_8 rfl ?_
  refine xr_aload_n dX3_add_17 0 rfl ?_
  refine xb_get (v := 0) flX3_24 dX3_add_18 s_8 rfl (by decide +kernel) ?_
  refine xr_iload_n dX3_add_21 1 rfl ?_
  refine xb_iast (j := 0) dX3_add_22 s_9 (by decide) (by decide) ?_
  refine xr_aload_n dX3_add_23 0 rfl ?_
  refine xr_getR flX3_15 dX3_add_24 s_8 rfl ?_
  refine xr_aload_n dX3_add_27 0 rfl ?_
  refine xb_get (v := 0) flX3_24 dX3_add_28 s_8 rfl (Eq.trans (congrFun (x_up_n _ _ _ (by decide)) _) (by decide +kernel)) ?_
  refine xr_iload_n dX3_add_31 2 rfl ?_
  refine xb_iast (j := 0) dX3_add_32 s_10 (by decide) (by decide) ?_
  refine xr_aload_n dX3_add_33 0 rfl ?_
  refine xr_dup dX3_add_34 rfl ?_
  refine xb_get (v := 0) flX3_24 dX3_add_35 s_8 rfl (Eq.trans (congrFun (x_up_n _ _ _ (by decide)) _) (Eq.trans (congrFun (x_up_n _ _ _ (by decide)) _) (by decide +kernel))) ?_
  refine xr_iconst (v := 1) dX3_add_38 rfl ?_
  refine xr_iadd dX3_add_39 ?_
  refine xb_top (y := 1) (by decide) ?_
  refine xr_putI fpX3_24 dX3_add_40 s_8 rfl rfl rfl ?_
  refine xr_aload_n dX3_add_43 0 rfl ?_
  refine xb_get (v := 1) flX3_24 dX3_add_44 s_8 rfl (x_up_s _ _ _ _) ?_
  refine xr_iconst (v := 1) dX3_add_47 rfl ?_
  refine xr_isub dX3_add_48 ?_
  refine xb_top (y := 0) (by decide) ?_
  refine xb_M (M2 := wl_3) rfl ?_
  exact xr_iret dX3_add_49 rfl rfl (⟨rfl, rfl, rfl, rfl⟩)
set_option maxRecDepth 100000 in
set_option maxHeartbeats 4000000 in
theorem wl_c3_readLine {l : Launch} {G : xG} : x_M l G fX4_readLine 8 0 0 [.ref (6)] x_SH wl_1 x_J0 (qE (none) x_SH wl_3 x_J0) := by
  refine xb_of pX4 (Nat.le_of_ble_eq_true rfl) rfl ?_
  refine xr_aload_n dX4_readLine_0 0 rfl ?_
  refine xr_iconst (v := 0) dX4_readLine_1 rfl ?_
  refine xr_iconst (v := 0) dX4_readLine_2 rfl ?_
  refine xb_cV (As := [.int (0), .int (0)]) (rest := []) mlX4_39 (wl_c4_readChain) dX4_readLine_3 s_6 rfl rfl (Nat.le_of_ble_eq_true rfl) (by decide) (by decide) ?_
  refine xr_iconst (v := -1) dX4_readLine_6 rfl ?_
  refine xr_istore_n (ls2 := [(1, .int ((-1))), (0, .ref (6))]) dX4_readLine_7 (by decide) rfl ?_
  refine xr_aload_n dX4_readLine_8 1 rfl ?_
  refine xr_bipush (v := 63) dX4_readLine_9 rfl ?_
  refine xb_cV (As := [.int (63)]) (rest := []) mlX4_35 (wl_c19_takes) dX4_readLine_11 s_6 rfl rfl (Nat.le_of_ble_eq_true rfl) (by decide) (by decide) ?_
  refine xr_if_eq (tgt := 33) dX4_readLine_14 rfl (fun _ => ?_) (fun c => absurd (by decide) c)
  refine xr_aload_n dX4_readLine_33 1 rfl ?_
  refine xr_getR flX4_16 dX4_readLine_34 s_6 rfl ?_
  refine xr_iconst (v := 3) dX4_readLine_37 rfl ?_
  refine xr_iconst (v := 0) dX4_readLine_38 rfl ?_
  refine xb_cV (As := [.int (3), .int (0)]) (rest := []) mlX4_43 (wl_c20_add) dX4_readLine_39 s_8 rfl rfl (Nat.le_of_ble_eq_true rfl) (by decide) (by decide) ?_
  refine xr_istore_n (ls2 := [(2, .int (0)), (1, .int ((-1))), (0, .ref (6))]) dX4_readLine_42 (by decide) rfl ?_
  refine xr_iload_n dX4_readLine_43 1 rfl ?_
  refine xr_if_lt (tgt := 57) dX4_readLine_44 rfl (fun _ => ?_) (fun c => absurd (by decide) c)
  exact xr_vret dX4_readLine_57 rfl (⟨rfl, rfl, rfl, rfl⟩)
set_option maxRecDepth 100000 in
set_option maxHeartbeats 4000000 in
theorem wl_c21_takes {l : Launch} {G : xG} : x_M l G fX4_takes 0 0 0 [.ref (6), .int (59)] x_SH wl_3 x_J0 (qE (some (.int (0))) x_SH wl_3 x_J0) := by
  refine xb_of pX4 (Nat.le_of_ble_eq_true rfl) rfl ?_
  refine xr_aload_n dX4_takes_0 0 rfl ?_
  refine xb_get (v := 1) flX4_27 dX4_takes_1 s_6 rfl (by decide +kernel) ?_
  refine xr_if_ne (tgt := 15) dX4_takes_4 rfl (fun _ => ?_) (fun c => absurd c (by decide))
  refine xr_iconst (v := 0) dX4_takes_15 rfl ?_
  exact xr_iret dX4_takes_16 rfl rfl (⟨rfl, rfl, rfl, rfl⟩)
set_option maxRecDepth 100000 in
set_option maxHeartbeats 4000000 in
theorem wl_c2_readText {l : Launch} {G : xG} : x_M l G fX4_readText 9 0 0 [.ref (6)] x_SH z_M x_J0 (qE (some (.int (0))) x_SH wl_3 x_J0) := by
  refine xb_of pX4 (Nat.le_of_ble_eq_true rfl) rfl ?_
  refine xr_aload_n dX4_readText_0 0 rfl ?_
  refine xr_iconst (v := 0) dX4_readText_1 rfl ?_
  refine xr_putI fpX4_24 dX4_readText_2 s_6 rfl rfl rfl ?_
  refine xr_aload_n dX4_readText_5 0 rfl ?_
  refine xr_iconst (v := 0) dX4_readText_6 rfl ?_
  refine xr_putI fpX4_27 dX4_readText_7 s_6 rfl rfl rfl ?_
  refine xr_aload_n dX4_readText_10 0 rfl ?_
  refine xr_getR flX4_16 dX4_readText_11 s_6 rfl ?_
  refine xr_iconst (v := 0) dX4_readText_14 rfl ?_
  refine xr_putI fpX4_31 dX4_readText_15 s_8 rfl rfl rfl ?_
  refine xr_iconst (v := 1) dX4_readText_18 rfl ?_
  refine xr_istore_n (ls2 := [(1, .int (1)), (0, .ref (6))]) dX4_readText_19 (by decide) rfl ?_
  refine xr_iconst (v := 0) dX4_readText_20 rfl ?_
  refine xr_istore_n (ls2 := [(2, .int (0)), (1, .int (1)), (0, .ref (6))]) dX4_readText_21 (by decide) rfl ?_
  refine xr_iload_n dX4_readText_22 1 rfl ?_
  refine xr_if_eq (tgt := 49) dX4_readText_23 rfl (fun c => absurd c (by decide)) (fun _ => ?_)
  refine xr_iload_n dX4_readText_26 0 rfl ?_
  refine xr_bipush (v := 120) dX4_readText_27 rfl ?_
  refine xr_icmp_gt (tgt := 49) dX4_readText_29 rfl (fun c => absurd c (by decide)) (fun _ => ?_)
  refine xr_aload_n dX4_readText_32 2 rfl ?_
  refine xb_M (M2 := wl_1) rfl ?_
  refine xb_cV (As := []) (rest := []) mlX4_32 (wl_c3_readLine) dX4_readText_33 s_6 rfl rfl (Nat.le_of_ble_eq_true rfl) (by decide) (by decide) ?_
  refine xr_aload_n dX4_readText_36 2 rfl ?_
  refine xr_bipush (v := 59) dX4_readText_37 rfl ?_
  refine xb_cV (As := [.int (59)]) (rest := []) mlX4_35 (wl_c21_takes) dX4_readText_39 s_6 rfl rfl (Nat.le_of_ble_eq_true rfl) (by decide) (by decide) ?_
  refine xr_istore_n (ls2 := [(1, .int (0)), (2, .int (0)), (0, .ref (6))]) dX4_readText_42 (by decide) rfl ?_
  refine xr_iinc (v := 1) (ls2 := [(2, .int (1)), (1, .int (0)), (0, .ref (6))]) dX4_readText_43 1 rfl rfl (by decide) rfl ?_
  refine xr_goto (tgt := 22) dX4_readText_46 rfl ?_
  refine xr_iload_n dX4_readText_22 1 rfl ?_
  refine xr_if_eq (tgt := 49) dX4_readText_23 rfl (fun _ => ?_) (fun c => absurd (by decide) c)
  refine xr_aload_n dX4_readText_49 2 rfl ?_
  refine xb_get (v := 1) flX4_27 dX4_readText_50 s_6 rfl (by decide +kernel) ?_
  refine xr_if_ne (tgt := 67) dX4_readText_53 rfl (fun _ => ?_) (fun c => absurd c (by decide))
  refine xr_aload_n dX4_readText_67 2 rfl ?_
  refine xb_get (v := 0) flX4_24 dX4_readText_68 s_6 rfl (by decide +kernel) ?_
  refine xr_goto (tgt := 75) dX4_readText_71 rfl ?_
  exact xr_iret dX4_readText_75 rfl rfl (⟨rfl, rfl, rfl, rfl⟩)
def wl_4 : xM := (x_up wl_3 6 2 0)
set_option maxRecDepth 100000 in
set_option maxHeartbeats 4000000 in
theorem wl_c1_law {l : Launch} {G : xG} : x_M l G fX9_law 10 0 0 [.ref (0)] x_SH z_M x_J0 (qE (some (.int ((-100)))) x_SH wl_4 x_J0) := by
  refine xb_of pX9 (Nat.le_of_ble_eq_true rfl) rfl ?_
  refine xr_aload_n dX9_law_0 0 rfl ?_
  refine xr_getR flX9_19 dX9_law_1 s_0 rfl ?_
  refine xb_cV (As := []) (rest := []) mlX9_151 (wl_c2_readText) dX9_law_4 s_6 rfl rfl (Nat.le_of_ble_eq_true rfl) (by decide) (by decide) ?_
  refine xr_istore_n (ls2 := [(1, .int (0)), (0, .ref (0))]) dX9_law_7 (by decide) rfl ?_
  refine xr_aload_n dX9_law_8 1 rfl ?_
  refine xr_getR flX9_19 dX9_law_9 s_0 rfl ?_
  refine xr_iconst (v := 0) dX9_law_12 rfl ?_
  refine xr_putI fpX9_147 dX9_law_13 s_6 rfl rfl rfl ?_
  refine xr_iload_n dX9_law_16 0 rfl ?_
  refine xr_if_lt (tgt := 25) dX9_law_17 rfl (fun c => absurd c (by decide)) (fun _ => ?_)
  refine xr_bipush (v := -100) dX9_law_20 rfl ?_
  refine xr_iload_n dX9_law_22 0 rfl ?_
  refine xr_isub dX9_law_23 ?_
  refine xb_top (y := (-100)) (by decide) ?_
  refine xb_M (M2 := wl_4) rfl ?_
  exact xr_iret dX9_law_24 rfl rfl (⟨rfl, rfl, rfl, rfl⟩)
theorem p_X9_law {l : Launch} {G : xG} : x_M l G fX9_law 10 0 0 [.ref 0] x_SH z_M x_J0 (qE (some (.int (-100))) x_SH wl_4 x_J0) := wl_c1_law
theorem Fr_wl : Fr wl_4 := by unfold wl_4 wl_3 wl_2 wl_1; repeat (first | (with_reducible assumption) | (with_reducible exact Fr_z) | (with_reducible exact E0_fr (by assumption)) | ((with_reducible refine Fr_up ?_ ?_); first | decide | omega))
set_option maxRecDepth 100000 in
set_option maxHeartbeats 4000000 in
theorem p_takeIn (a : Int32) {l : Launch} {G : xG}  : x_M l G fX4_takeIn 0 0 0 [.ref (6), .int (a)] x_SH z_M x_J0 (qE (some (.int 1)) x_SH (x_up (x_up z_M 7 0 a) 6 2 1) x_J0) := by
  refine xb_of pX4 (Nat.le_of_ble_eq_true rfl) rfl ?_
  refine xr_aload_n dX4_takeIn_0 0 rfl ?_
  refine xb_get (v := 0) flX4_20 dX4_takeIn_1 s_6 rfl (by decide +kernel) ?_
  refine xr_bipush (v := 120) dX4_takeIn_4 rfl ?_
  refine xr_icmp_lt (tgt := 11) dX4_takeIn_6 rfl (fun _ => ?_) (fun c => absurd (by decide) c)
  refine xr_aload_n dX4_takeIn_11 0 rfl ?_
  refine xr_getR flX4_9 dX4_takeIn_12 s_6 rfl ?_
  refine xr_aload_n dX4_takeIn_15 0 rfl ?_
  refine xb_get (v := 0) flX4_20 dX4_takeIn_16 s_6 rfl (by decide +kernel) ?_
  refine xr_iload_n dX4_takeIn_19 1 rfl ?_
  refine xb_iast (j := 0) dX4_takeIn_20 s_7 (by decide) (by decide) ?_
  refine xr_aload_n dX4_takeIn_21 0 rfl ?_
  refine xr_dup dX4_takeIn_22 rfl ?_
  refine xb_get (v := 0) flX4_20 dX4_takeIn_23 s_6 rfl (Eq.trans (congrFun (x_up_n _ _ _ (by decide)) _) (by decide +kernel)) ?_
  refine xr_iconst (v := 1) dX4_takeIn_26 rfl ?_
  refine xr_iadd dX4_takeIn_27 ?_
  refine xb_top (y := 1) (by decide) ?_
  refine xr_putI fpX4_20 dX4_takeIn_28 s_6 rfl rfl rfl ?_
  refine xr_iconst (v := 1) dX4_takeIn_31 rfl ?_
  exact xr_iret dX4_takeIn_32 rfl rfl (⟨by first | rfl | grind, rfl, rfl, rfl⟩)
set_option maxRecDepth 100000 in
set_option maxHeartbeats 4000000 in
theorem p_X9_feed (letter : Int32) {l : Launch} {G : xG}  : x_M l G fX9_feed 4 0 0 [.ref (0), .int (letter)] x_SH z_M x_J0 (qF (some (.int (if 0 ≤ letter ∧ letter ≤ 255 then 1 else -1)))) := by
  refine xb_of pX9 (Nat.le_of_ble_eq_true rfl) rfl ?_
  refine xr_iload_n dX9_feed_0 1 rfl ?_
  refine xr_if_lt (tgt := 11) dX9_feed_1 rfl (fun c1 => ?_) (fun c1 => ?_)
  · refine xr_iconst (v := -1) dX9_feed_11 rfl ?_
    exact xr_iret dX9_feed_12 rfl rfl (⟨by first | rfl | (refine congrArg (fun z => some (Value.int z)) ?_; first | exact (if_neg (by assumption)).symm | exact (if_pos (by assumption)).symm | grind), rfl, by repeat (first | (with_reducible assumption) | (with_reducible exact Fr_z) | (with_reducible exact E0_fr (by assumption)) | ((with_reducible refine Fr_up ?_ ?_); first | decide | omega))⟩)
  · refine xr_iload_n dX9_feed_4 1 rfl ?_
    refine xr_sipush (v := 255) dX9_feed_5 rfl ?_
    refine xr_icmp_le (tgt := 13) dX9_feed_8 rfl (fun c2 => ?_) (fun c2 => ?_)
    · refine xr_aload_n dX9_feed_13 0 rfl ?_
      refine xr_getR flX9_19 dX9_feed_14 s_0 rfl ?_
      refine xr_iload_n dX9_feed_17 1 rfl ?_
      refine xb_cV (As := [.int (letter)]) (rest := []) mlX9_144 (p_takeIn letter) dX9_feed_18 s_6 rfl rfl (Nat.le_of_ble_eq_true rfl) (by decide) (by decide) ?_
      refine xr_if_eq (tgt := 34) dX9_feed_21 rfl (fun c => absurd c (by decide)) (fun _ => ?_)
      refine xr_aload_n dX9_feed_24 0 rfl ?_
      refine xr_getR flX9_19 dX9_feed_25 s_0 rfl ?_
      refine xb_get (v := 1) flX9_147 dX9_feed_28 s_6 rfl (x_up_s _ _ _ _) ?_
      refine xr_goto (tgt := 36) dX9_feed_31 rfl ?_
      exact xr_iret dX9_feed_36 rfl rfl (⟨by first | rfl | (refine congrArg (fun z => some (Value.int z)) ?_; first | exact (if_neg (by assumption)).symm | exact (if_pos (by assumption)).symm | grind), rfl, by repeat (first | (with_reducible assumption) | (with_reducible exact Fr_z) | (with_reducible exact E0_fr (by assumption)) | ((with_reducible refine Fr_up ?_ ?_); first | decide | omega))⟩)
    · refine xr_iconst (v := -1) dX9_feed_11 rfl ?_
      exact xr_iret dX9_feed_12 rfl rfl (⟨by first | rfl | (refine congrArg (fun z => some (Value.int z)) ?_; first | exact (if_neg (by assumption)).symm | exact (if_pos (by assumption)).symm | grind), rfl, by repeat (first | (with_reducible assumption) | (with_reducible exact Fr_z) | (with_reducible exact E0_fr (by assumption)) | ((with_reducible refine Fr_up ?_ ?_); first | decide | omega))⟩)
