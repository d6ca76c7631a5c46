theorem dX4_next_0 : decode cX4_next 0 = .ok (.aload_n 0, 1) := by decide +kernel
theorem dX4_next_1 : decode cX4_next 1 = .ok (.getfield 24, 3) := by decide +kernel
theorem dX4_next_4 : decode cX4_next 4 = .ok (.ifCond .lt 35, 3) := by decide +kernel
theorem dX4_next_39 : decode cX4_next 39 = .ok (.iconst (-1), 1) := by decide +kernel
theorem dX4_next_40 : decode cX4_next 40 = .ok (.ireturn, 1) := by decide +kernel
theorem dX4_next_7 : decode cX4_next 7 = .ok (.aload_n 0, 1) := by decide +kernel
theorem dX4_next_8 : decode cX4_next 8 = .ok (.getfield 24, 3) := by decide +kernel
theorem dX4_next_11 : decode cX4_next 11 = .ok (.aload_n 0, 1) := by decide +kernel
theorem dX4_next_12 : decode cX4_next 12 = .ok (.getfield 20, 3) := by decide +kernel
theorem dX4_next_15 : decode cX4_next 15 = .ok (.if_icmp .ge 24, 3) := by decide +kernel
theorem dX4_next_18 : decode cX4_next 18 = .ok (.aload_n 0, 1) := by decide +kernel
theorem dX4_next_19 : decode cX4_next 19 = .ok (.getfield 24, 3) := by decide +kernel
theorem dX4_next_22 : decode cX4_next 22 = .ok (.bipush 120, 2) := by decide +kernel
theorem dX4_next_24 : decode cX4_next 24 = .ok (.if_icmp .ge 15, 3) := by decide +kernel
theorem dX4_next_27 : decode cX4_next 27 = .ok (.aload_n 0, 1) := by decide +kernel
theorem dX4_next_28 : decode cX4_next 28 = .ok (.getfield 9, 3) := by decide +kernel
theorem dX4_next_31 : decode cX4_next 31 = .ok (.aload_n 0, 1) := by decide +kernel
theorem dX4_next_32 : decode cX4_next 32 = .ok (.getfield 24, 3) := by decide +kernel
theorem dX4_next_35 : decode cX4_next 35 = .ok (.iaload, 1) := by decide +kernel
theorem dX4_next_36 : decode cX4_next 36 = .ok (.goto 4, 3) := by decide +kernel
theorem dX4_takes_0 : decode cX4_takes 0 = .ok (.aload_n 0, 1) := by decide +kernel
theorem dX4_takes_1 : decode cX4_takes 1 = .ok (.getfield 27, 3) := by decide +kernel
theorem dX4_takes_4 : decode cX4_takes 4 = .ok (.ifCond .ne 11, 3) := by decide +kernel
theorem dX4_takes_15 : decode cX4_takes 15 = .ok (.iconst 0, 1) := by decide +kernel
theorem dX4_takes_16 : decode cX4_takes 16 = .ok (.ireturn, 1) := by decide +kernel
theorem dX4_takes_7 : decode cX4_takes 7 = .ok (.aload_n 0, 1) := by decide +kernel
theorem dX4_takes_8 : decode cX4_takes 8 = .ok (.invokevirtual 57, 3) := by decide +kernel
theorem dX4_takes_11 : decode cX4_takes 11 = .ok (.iload_n 1, 1) := by decide +kernel
theorem dX4_takes_12 : decode cX4_takes 12 = .ok (.if_icmp .eq 5, 3) := by decide +kernel
theorem dX4_takes_17 : decode cX4_takes 17 = .ok (.aload_n 0, 1) := by decide +kernel
theorem dX4_takes_18 : decode cX4_takes 18 = .ok (.dup, 1) := by decide +kernel
theorem dX4_takes_19 : decode cX4_takes 19 = .ok (.getfield 24, 3) := by decide +kernel
theorem dX4_takes_22 : decode cX4_takes 22 = .ok (.iconst 1, 1) := by decide +kernel
theorem dX4_takes_23 : decode cX4_takes 23 = .ok (.iadd, 1) := by decide +kernel
theorem dX4_takes_24 : decode cX4_takes 24 = .ok (.putfield 24, 3) := by decide +kernel
theorem dX4_takes_27 : decode cX4_takes 27 = .ok (.iconst 1, 1) := by decide +kernel
theorem dX4_takes_28 : decode cX4_takes 28 = .ok (.ireturn, 1) := by decide +kernel
theorem dX4_isJoin_0 : decode cX4_isJoin 0 = .ok (.aload_n 0, 1) := by decide +kernel
theorem dX4_isJoin_1 : decode cX4_isJoin 1 = .ok (.getfield 27, 3) := by decide +kernel
theorem dX4_isJoin_4 : decode cX4_isJoin 4 = .ok (.ifCond .eq 7, 3) := by decide +kernel
theorem dX4_isJoin_11 : decode cX4_isJoin 11 = .ok (.aload_n 0, 1) := by decide +kernel
theorem dX4_isJoin_12 : decode cX4_isJoin 12 = .ok (.invokevirtual 57, 3) := by decide +kernel
theorem dX4_isJoin_15 : decode cX4_isJoin 15 = .ok (.istore_n 2, 1) := by decide +kernel
theorem dX4_isJoin_16 : decode cX4_isJoin 16 = .ok (.iload_n 1, 1) := by decide +kernel
theorem dX4_isJoin_17 : decode cX4_isJoin 17 = .ok (.tableswitch 125 0 4 #[35, 47, 59, 83, 101], 35) := by decide +kernel
theorem dX4_isJoin_52 : decode cX4_isJoin 52 = .ok (.iload_n 2, 1) := by decide +kernel
theorem dX4_isJoin_53 : decode cX4_isJoin 53 = .ok (.bipush 124, 2) := by decide +kernel
theorem dX4_isJoin_55 : decode cX4_isJoin 55 = .ok (.if_icmp .ne 7, 3) := by decide +kernel
theorem dX4_isJoin_62 : decode cX4_isJoin 62 = .ok (.iconst 0, 1) := by decide +kernel
theorem dX4_isJoin_63 : decode cX4_isJoin 63 = .ok (.ireturn, 1) := by decide +kernel
theorem dX4_isJoin_58 : decode cX4_isJoin 58 = .ok (.iconst 1, 1) := by decide +kernel
theorem dX4_isJoin_59 : decode cX4_isJoin 59 = .ok (.goto 4, 3) := by decide +kernel
theorem dX4_isJoin_64 : decode cX4_isJoin 64 = .ok (.iload_n 2, 1) := by decide +kernel
theorem dX4_isJoin_65 : decode cX4_isJoin 65 = .ok (.bipush 38, 2) := by decide +kernel
theorem dX4_isJoin_67 : decode cX4_isJoin 67 = .ok (.if_icmp .ne 7, 3) := by decide +kernel
theorem dX4_isJoin_74 : decode cX4_isJoin 74 = .ok (.iconst 0, 1) := by decide +kernel
theorem dX4_isJoin_75 : decode cX4_isJoin 75 = .ok (.ireturn, 1) := by decide +kernel
theorem dX4_isJoin_70 : decode cX4_isJoin 70 = .ok (.iconst 1, 1) := by decide +kernel
theorem dX4_isJoin_71 : decode cX4_isJoin 71 = .ok (.goto 4, 3) := by decide +kernel
theorem dX4_isJoin_76 : decode cX4_isJoin 76 = .ok (.iload_n 2, 1) := by decide +kernel
theorem dX4_isJoin_77 : decode cX4_isJoin 77 = .ok (.bipush 60, 2) := by decide +kernel
theorem dX4_isJoin_79 : decode cX4_isJoin 79 = .ok (.if_icmp .eq 15, 3) := by decide +kernel
theorem dX4_isJoin_94 : decode cX4_isJoin 94 = .ok (.iconst 1, 1) := by decide +kernel
theorem dX4_isJoin_95 : decode cX4_isJoin 95 = .ok (.goto 4, 3) := by decide +kernel
theorem dX4_isJoin_99 : decode cX4_isJoin 99 = .ok (.ireturn, 1) := by decide +kernel
theorem dX4_isJoin_82 : decode cX4_isJoin 82 = .ok (.iload_n 2, 1) := by decide +kernel
theorem dX4_isJoin_83 : decode cX4_isJoin 83 = .ok (.bipush 61, 2) := by decide +kernel
theorem dX4_isJoin_85 : decode cX4_isJoin 85 = .ok (.if_icmp .eq 9, 3) := by decide +kernel
theorem dX4_isJoin_88 : decode cX4_isJoin 88 = .ok (.iload_n 2, 1) := by decide +kernel
theorem dX4_isJoin_89 : decode cX4_isJoin 89 = .ok (.bipush 62, 2) := by decide +kernel
theorem dX4_isJoin_91 : decode cX4_isJoin 91 = .ok (.if_icmp .ne 7, 3) := by decide +kernel
theorem dX4_isJoin_98 : decode cX4_isJoin 98 = .ok (.iconst 0, 1) := by decide +kernel
theorem dX4_isJoin_100 : decode cX4_isJoin 100 = .ok (.iload_n 2, 1) := by decide +kernel
theorem dX4_isJoin_101 : decode cX4_isJoin 101 = .ok (.bipush 43, 2) := by decide +kernel
theorem dX4_isJoin_103 : decode cX4_isJoin 103 = .ok (.if_icmp .eq 9, 3) := by decide +kernel
theorem dX4_isJoin_112 : decode cX4_isJoin 112 = .ok (.iconst 1, 1) := by decide +kernel
theorem dX4_isJoin_113 : decode cX4_isJoin 113 = .ok (.goto 4, 3) := by decide +kernel
theorem dX4_isJoin_117 : decode cX4_isJoin 117 = .ok (.ireturn, 1) := by decide +kernel
theorem dX4_isJoin_106 : decode cX4_isJoin 106 = .ok (.iload_n 2, 1) := by decide +kernel
theorem dX4_isJoin_107 : decode cX4_isJoin 107 = .ok (.bipush 45, 2) := by decide +kernel
theorem dX4_isJoin_109 : decode cX4_isJoin 109 = .ok (.if_icmp .ne 7, 3) := by decide +kernel
theorem dX4_isJoin_116 : decode cX4_isJoin 116 = .ok (.iconst 0, 1) := by decide +kernel
theorem dX4_isJoin_118 : decode cX4_isJoin 118 = .ok (.iload_n 2, 1) := by decide +kernel
theorem dX4_isJoin_119 : decode cX4_isJoin 119 = .ok (.bipush 42, 2) := by decide +kernel
theorem dX4_isJoin_121 : decode cX4_isJoin 121 = .ok (.if_icmp .eq 15, 3) := by decide +kernel
theorem dX4_isJoin_136 : decode cX4_isJoin 136 = .ok (.iconst 1, 1) := by decide +kernel
theorem dX4_isJoin_137 : decode cX4_isJoin 137 = .ok (.goto 4, 3) := by decide +kernel
theorem dX4_isJoin_141 : decode cX4_isJoin 141 = .ok (.ireturn, 1) := by decide +kernel
theorem dX4_isJoin_124 : decode cX4_isJoin 124 = .ok (.iload_n 2, 1) := by decide +kernel
theorem dX4_isJoin_125 : decode cX4_isJoin 125 = .ok (.bipush 47, 2) := by decide +kernel
theorem dX4_isJoin_127 : decode cX4_isJoin 127 = .ok (.if_icmp .eq 9, 3) := by decide +kernel
theorem dX4_isJoin_130 : decode cX4_isJoin 130 = .ok (.iload_n 2, 1) := by decide +kernel
theorem dX4_isJoin_131 : decode cX4_isJoin 131 = .ok (.bipush 37, 2) := by decide +kernel
theorem dX4_isJoin_133 : decode cX4_isJoin 133 = .ok (.if_icmp .ne 7, 3) := by decide +kernel
theorem dX4_isJoin_140 : decode cX4_isJoin 140 = .ok (.iconst 0, 1) := by decide +kernel
theorem dX4_isJoin_7 : decode cX4_isJoin 7 = .ok (.iconst (-1), 1) := by decide +kernel
theorem dX4_isJoin_8 : decode cX4_isJoin 8 = .ok (.goto 7, 3) := by decide +kernel
theorem dX4_isDigit_0 : decode cX4_isDigit 0 = .ok (.iload_n 0, 1) := by decide +kernel
theorem dX4_isDigit_1 : decode cX4_isDigit 1 = .ok (.bipush 48, 2) := by decide +kernel
theorem dX4_isDigit_3 : decode cX4_isDigit 3 = .ok (.if_icmp .lt 13, 3) := by decide +kernel
theorem dX4_isDigit_16 : decode cX4_isDigit 16 = .ok (.iconst 0, 1) := by decide +kernel
theorem dX4_isDigit_17 : decode cX4_isDigit 17 = .ok (.ireturn, 1) := by decide +kernel
theorem dX4_isDigit_6 : decode cX4_isDigit 6 = .ok (.iload_n 0, 1) := by decide +kernel
theorem dX4_isDigit_7 : decode cX4_isDigit 7 = .ok (.bipush 57, 2) := by decide +kernel
theorem dX4_isDigit_9 : decode cX4_isDigit 9 = .ok (.if_icmp .gt 7, 3) := by decide +kernel
theorem dX4_isDigit_12 : decode cX4_isDigit 12 = .ok (.iconst 1, 1) := by decide +kernel
theorem dX4_isDigit_13 : decode cX4_isDigit 13 = .ok (.goto 4, 3) := by decide +kernel
theorem dX4_nameOf_0 : decode cX4_nameOf 0 = .ok (.iload_n 0, 1) := by decide +kernel
theorem dX4_nameOf_1 : decode cX4_nameOf 1 = .ok (.tableswitch 107 102 121 #[103, 107, 101, 107, 107, 107, 107, 107, 95, 107, 107, 107, 107, 99, 107, 107, 97, 107, 107, 105], 95) := by decide +kernel
theorem dX4_nameOf_104 : decode cX4_nameOf 104 = .ok (.iconst 4, 1) := by decide +kernel
theorem dX4_nameOf_105 : decode cX4_nameOf 105 = .ok (.ireturn, 1) := by decide +kernel
theorem dX4_nameOf_108 : decode cX4_nameOf 108 = .ok (.iconst (-1), 1) := by decide +kernel
theorem dX4_nameOf_109 : decode cX4_nameOf 109 = .ok (.ireturn, 1) := by decide +kernel
theorem dX4_nameOf_102 : decode cX4_nameOf 102 = .ok (.iconst 3, 1) := by decide +kernel
theorem dX4_nameOf_103 : decode cX4_nameOf 103 = .ok (.ireturn, 1) := by decide +kernel
theorem dX4_nameOf_96 : decode cX4_nameOf 96 = .ok (.iconst 0, 1) := by decide +kernel
theorem dX4_nameOf_97 : decode cX4_nameOf 97 = .ok (.ireturn, 1) := by decide +kernel
theorem dX4_nameOf_100 : decode cX4_nameOf 100 = .ok (.iconst 2, 1) := by decide +kernel
theorem dX4_nameOf_101 : decode cX4_nameOf 101 = .ok (.ireturn, 1) := by decide +kernel
theorem dX4_nameOf_98 : decode cX4_nameOf 98 = .ok (.iconst 1, 1) := by decide +kernel
theorem dX4_nameOf_99 : decode cX4_nameOf 99 = .ok (.ireturn, 1) := by decide +kernel
theorem dX4_nameOf_106 : decode cX4_nameOf 106 = .ok (.iconst 5, 1) := by decide +kernel
theorem dX4_nameOf_107 : decode cX4_nameOf 107 = .ok (.ireturn, 1) := by decide +kernel
theorem dX3_add_0 : decode cX3_add 0 = .ok (.aload_n 0, 1) := by decide +kernel
theorem dX3_add_1 : decode cX3_add 1 = .ok (.getfield 24, 3) := by decide +kernel
theorem dX3_add_4 : decode cX3_add 4 = .ok (.sipush 128, 3) := by decide +kernel
theorem dX3_add_7 : decode cX3_add 7 = .ok (.if_icmp .lt 6, 3) := by decide +kernel
theorem dX3_add_13 : decode cX3_add 13 = .ok (.aload_n 0, 1) := by decide +kernel
theorem dX3_add_14 : decode cX3_add 14 = .ok (.getfield 11, 3) := by decide +kernel
theorem dX3_add_17 : decode cX3_add 17 = .ok (.aload_n 0, 1) := by decide +kernel
theorem dX3_add_18 : decode cX3_add 18 = .ok (.getfield 24, 3) := by decide +kernel
theorem dX3_add_21 : decode cX3_add 21 = .ok (.iload_n 1, 1) := by decide +kernel
theorem dX3_add_22 : decode cX3_add 22 = .ok (.iastore, 1) := by decide +kernel
theorem dX3_add_23 : decode cX3_add 23 = .ok (.aload_n 0, 1) := by decide +kernel
theorem dX3_add_24 : decode cX3_add 24 = .ok (.getfield 15, 3) := by decide +kernel
theorem dX3_add_27 : decode cX3_add 27 = .ok (.aload_n 0, 1) := by decide +kernel
theorem dX3_add_28 : decode cX3_add 28 = .ok (.getfield 24, 3) := by decide +kernel
theorem dX3_add_31 : decode cX3_add 31 = .ok (.iload_n 2, 1) := by decide +kernel
theorem dX3_add_32 : decode cX3_add 32 = .ok (.iastore, 1) := by decide +kernel
theorem dX3_add_33 : decode cX3_add 33 = .ok (.aload_n 0, 1) := by decide +kernel
theorem dX3_add_34 : decode cX3_add 34 = .ok (.dup, 1) := by decide +kernel
theorem dX3_add_35 : decode cX3_add 35 = .ok (.getfield 24, 3) := by decide +kernel
theorem dX3_add_38 : decode cX3_add 38 = .ok (.iconst 1, 1) := by decide +kernel
theorem dX3_add_39 : decode cX3_add 39 = .ok (.iadd, 1) := by decide +kernel
theorem dX3_add_40 : decode cX3_add 40 = .ok (.putfield 24, 3) := by decide +kernel
theorem dX3_add_43 : decode cX3_add 43 = .ok (.aload_n 0, 1) := by decide +kernel
theorem dX3_add_44 : decode cX3_add 44 = .ok (.getfield 24, 3) := by decide +kernel
theorem dX3_add_47 : decode cX3_add 47 = .ok (.iconst 1, 1) := by decide +kernel
theorem dX3_add_48 : decode cX3_add 48 = .ok (.isub, 1) := by decide +kernel
theorem dX3_add_49 : decode cX3_add 49 = .ok (.ireturn, 1) := by decide +kernel
theorem dX4_takeIn_0 : decode cX4_takeIn 0 = .ok (.aload_n 0, 1) := by decide +kernel
theorem dX4_takeIn_1 : decode cX4_takeIn 1 = .ok (.getfield 20, 3) := by decide +kernel
theorem dX4_takeIn_4 : decode cX4_takeIn 4 = .ok (.bipush 120, 2) := by decide +kernel
theorem dX4_takeIn_6 : decode cX4_takeIn 6 = .ok (.if_icmp .lt 5, 3) := by decide +kernel
theorem dX4_takeIn_11 : decode cX4_takeIn 11 = .ok (.aload_n 0, 1) := by decide +kernel
theorem dX4_takeIn_12 : decode cX4_takeIn 12 = .ok (.getfield 9, 3) := by decide +kernel
theorem dX4_takeIn_15 : decode cX4_takeIn 15 = .ok (.aload_n 0, 1) := by decide +kernel
theorem dX4_takeIn_16 : decode cX4_takeIn 16 = .ok (.getfield 20, 3) := by decide +kernel
theorem dX4_takeIn_19 : decode cX4_takeIn 19 = .ok (.iload_n 1, 1) := by decide +kernel
theorem dX4_takeIn_20 : decode cX4_takeIn 20 = .ok (.iastore, 1) := by decide +kernel
theorem dX4_takeIn_21 : decode cX4_takeIn 21 = .ok (.aload_n 0, 1) := by decide +kernel
theorem dX4_takeIn_22 : decode cX4_takeIn 22 = .ok (.dup, 1) := by decide +kernel
theorem dX4_takeIn_23 : decode cX4_takeIn 23 = .ok (.getfield 20, 3) := by decide +kernel
theorem dX4_takeIn_26 : decode cX4_takeIn 26 = .ok (.iconst 1, 1) := by decide +kernel
theorem dX4_takeIn_27 : decode cX4_takeIn 27 = .ok (.iadd, 1) := by decide +kernel
theorem dX4_takeIn_28 : decode cX4_takeIn 28 = .ok (.putfield 20, 3) := by decide +kernel
theorem dX4_takeIn_31 : decode cX4_takeIn 31 = .ok (.iconst 1, 1) := by decide +kernel
theorem dX4_takeIn_32 : decode cX4_takeIn 32 = .ok (.ireturn, 1) := by decide +kernel
theorem dX4_takeIn_9 : decode cX4_takeIn 9 = .ok (.iconst 0, 1) := by decide +kernel
theorem dX4_takeIn_10 : decode cX4_takeIn 10 = .ok (.ireturn, 1) := by decide +kernel
theorem dX4_readNumber_4 : decode cX4_readNumber 4 = .ok (.iload_n 2, 1) := by decide +kernel
theorem dX4_readNumber_5 : decode cX4_readNumber 5 = .ok (.iconst 4, 1) := by decide +kernel
theorem dX4_readNumber_6 : decode cX4_readNumber 6 = .ok (.if_icmp .ge 42, 3) := by decide +kernel
theorem dX4_readNumber_48 : decode cX4_readNumber 48 = .ok (.aload_n 0, 1) := by decide +kernel
theorem dX4_readNumber_49 : decode cX4_readNumber 49 = .ok (.getfield 16, 3) := by decide +kernel
theorem dX4_readNumber_52 : decode cX4_readNumber 52 = .ok (.iconst 0, 1) := by decide +kernel
theorem dX4_readNumber_53 : decode cX4_readNumber 53 = .ok (.iload_n 1, 1) := by decide +kernel
theorem dX4_readNumber_54 : decode cX4_readNumber 54 = .ok (.invokevirtual 43, 3) := by decide +kernel
theorem dX4_readNumber_57 : decode cX4_readNumber 57 = .ok (.pop, 1) := by decide +kernel
theorem dX4_readNumber_58 : decode cX4_readNumber 58 = .ok (.return_, 1) := by decide +kernel
theorem dX4_readNumber_9 : decode cX4_readNumber 9 = .ok (.aload_n 0, 1) := by decide +kernel
theorem dX4_readNumber_10 : decode cX4_readNumber 10 = .ok (.invokevirtual 57, 3) := by decide +kernel
theorem dX4_readNumber_13 : decode cX4_readNumber 13 = .ok (.invokestatic 61, 3) := by decide +kernel
theorem dX4_readNumber_16 : decode cX4_readNumber 16 = .ok (.ifCond .eq 32, 3) := by decide +kernel
theorem dX4_readNumber_19 : decode cX4_readNumber 19 = .ok (.bipush 10, 2) := by decide +kernel
theorem dX4_readNumber_21 : decode cX4_readNumber 21 = .ok (.iload_n 1, 1) := by decide +kernel
theorem dX4_readNumber_22 : decode cX4_readNumber 22 = .ok (.imul, 1) := by decide +kernel
theorem dX4_readNumber_23 : decode cX4_readNumber 23 = .ok (.aload_n 0, 1) := by decide +kernel
theorem dX4_readNumber_24 : decode cX4_readNumber 24 = .ok (.invokevirtual 57, 3) := by decide +kernel
theorem dX4_readNumber_27 : decode cX4_readNumber 27 = .ok (.iadd, 1) := by decide +kernel
theorem dX4_readNumber_28 : decode cX4_readNumber 28 = .ok (.bipush 48, 2) := by decide +kernel
theorem dX4_readNumber_30 : decode cX4_readNumber 30 = .ok (.isub, 1) := by decide +kernel
theorem dX4_readNumber_31 : decode cX4_readNumber 31 = .ok (.istore_n 1, 1) := by decide +kernel
theorem dX4_readNumber_32 : decode cX4_readNumber 32 = .ok (.aload_n 0, 1) := by decide +kernel
theorem dX4_readNumber_33 : decode cX4_readNumber 33 = .ok (.dup, 1) := by decide +kernel
theorem dX4_readNumber_34 : decode cX4_readNumber 34 = .ok (.getfield 24, 3) := by decide +kernel
theorem dX4_readNumber_37 : decode cX4_readNumber 37 = .ok (.iconst 1, 1) := by decide +kernel
theorem dX4_readNumber_38 : decode cX4_readNumber 38 = .ok (.iadd, 1) := by decide +kernel
theorem dX4_readNumber_39 : decode cX4_readNumber 39 = .ok (.putfield 24, 3) := by decide +kernel
theorem dX4_readNumber_42 : decode cX4_readNumber 42 = .ok (.iinc 2 1, 3) := by decide +kernel
theorem dX4_readNumber_45 : decode cX4_readNumber 45 = .ok (.goto (-41), 3) := by decide +kernel
theorem dX4_readNumber_0 : decode cX4_readNumber 0 = .ok (.iconst 0, 1) := by decide +kernel
theorem dX4_readNumber_1 : decode cX4_readNumber 1 = .ok (.istore_n 1, 1) := by decide +kernel
theorem dX4_readNumber_2 : decode cX4_readNumber 2 = .ok (.iconst 0, 1) := by decide +kernel
theorem dX4_readNumber_3 : decode cX4_readNumber 3 = .ok (.istore_n 2, 1) := by decide +kernel
theorem dX4_readOpened_0 : decode cX4_readOpened 0 = .ok (.iload_n 1, 1) := by decide +kernel
theorem dX4_readOpened_1 : decode cX4_readOpened 1 = .ok (.bipush 40, 2) := by decide +kernel
theorem dX4_readOpened_3 : decode cX4_readOpened 3 = .ok (.if_icmp .ne 26, 3) := by decide +kernel
theorem dX4_readOpened_29 : decode cX4_readOpened 29 = .ok (.aload_n 0, 1) := by decide +kernel
theorem dX4_readOpened_30 : decode cX4_readOpened 30 = .ok (.iload_n 2, 1) := by decide +kernel
theorem dX4_readOpened_31 : decode cX4_readOpened 31 = .ok (.invokevirtual 50, 3) := by decide +kernel
theorem dX4_readOpened_34 : decode cX4_readOpened 34 = .ok (.aload_n 0, 1) := by decide +kernel
theorem dX4_readOpened_35 : decode cX4_readOpened 35 = .ok (.getfield 16, 3) := by decide +kernel
theorem dX4_readOpened_38 : decode cX4_readOpened 38 = .ok (.iload_n 1, 1) := by decide +kernel
theorem dX4_readOpened_39 : decode cX4_readOpened 39 = .ok (.bipush 33, 2) := by decide +kernel
theorem dX4_readOpened_41 : decode cX4_readOpened 41 = .ok (.if_icmp .ne 7, 3) := by decide +kernel
theorem dX4_readOpened_48 : decode cX4_readOpened 48 = .ok (.iconst 5, 1) := by decide +kernel
theorem dX4_readOpened_49 : decode cX4_readOpened 49 = .ok (.iconst 0, 1) := by decide +kernel
theorem dX4_readOpened_50 : decode cX4_readOpened 50 = .ok (.invokevirtual 43, 3) := by decide +kernel
theorem dX4_readOpened_53 : decode cX4_readOpened 53 = .ok (.pop, 1) := by decide +kernel
theorem dX4_readOpened_54 : decode cX4_readOpened 54 = .ok (.return_, 1) := by decide +kernel
theorem dX4_readOpened_44 : decode cX4_readOpened 44 = .ok (.iconst 4, 1) := by decide +kernel
theorem dX4_readOpened_45 : decode cX4_readOpened 45 = .ok (.goto 4, 3) := by decide +kernel
theorem dX4_readOpened_6 : decode cX4_readOpened 6 = .ok (.aload_n 0, 1) := by decide +kernel
theorem dX4_readOpened_7 : decode cX4_readOpened 7 = .ok (.iconst 0, 1) := by decide +kernel
theorem dX4_readOpened_8 : decode cX4_readOpened 8 = .ok (.iload_n 2, 1) := by decide +kernel
theorem dX4_readOpened_9 : decode cX4_readOpened 9 = .ok (.invokevirtual 39, 3) := by decide +kernel
theorem dX4_readOpened_12 : decode cX4_readOpened 12 = .ok (.aload_n 0, 1) := by decide +kernel
theorem dX4_readOpened_13 : decode cX4_readOpened 13 = .ok (.bipush 41, 2) := by decide +kernel
theorem dX4_readOpened_15 : decode cX4_readOpened 15 = .ok (.invokevirtual 35, 3) := by decide +kernel
theorem dX4_readOpened_18 : decode cX4_readOpened 18 = .ok (.ifCond .ne 36, 3) := by decide +kernel
theorem dX4_readOpened_21 : decode cX4_readOpened 21 = .ok (.aload_n 0, 1) := by decide +kernel
theorem dX4_readOpened_22 : decode cX4_readOpened 22 = .ok (.iconst 1, 1) := by decide +kernel
theorem dX4_readOpened_23 : decode cX4_readOpened 23 = .ok (.putfield 27, 3) := by decide +kernel
theorem dX4_readOpened_26 : decode cX4_readOpened 26 = .ok (.goto 28, 3) := by decide +kernel
theorem dX4_readOperand_0 : decode cX4_readOperand 0 = .ok (.aload_n 0, 1) := by decide +kernel
theorem dX4_readOperand_1 : decode cX4_readOperand 1 = .ok (.invokevirtual 57, 3) := by decide +kernel
theorem dX4_readOperand_4 : decode cX4_readOperand 4 = .ok (.istore_n 2, 1) := by decide +kernel
theorem dX4_readOperand_5 : decode cX4_readOperand 5 = .ok (.iload_n 2, 1) := by decide +kernel
theorem dX4_readOperand_6 : decode cX4_readOperand 6 = .ok (.invokestatic 61, 3) := by decide +kernel
theorem dX4_readOperand_9 : decode cX4_readOperand 9 = .ok (.ifCond .eq 10, 3) := by decide +kernel
theorem dX4_readOperand_19 : decode cX4_readOperand 19 = .ok (.iload_n 2, 1) := by decide +kernel
theorem dX4_readOperand_20 : decode cX4_readOperand 20 = .ok (.invokestatic 67, 3) := by decide +kernel
theorem dX4_readOperand_23 : decode cX4_readOperand 23 = .ok (.ifCond .lt 29, 3) := by decide +kernel
theorem dX4_readOperand_52 : decode cX4_readOperand 52 = .ok (.iload_n 1, 1) := by decide +kernel
theorem dX4_readOperand_53 : decode cX4_readOperand 53 = .ok (.bipush 6, 2) := by decide +kernel
theorem dX4_readOperand_55 : decode cX4_readOperand 55 = .ok (.if_icmp .ge 42, 3) := by decide +kernel
theorem dX4_readOperand_97 : decode cX4_readOperand 97 = .ok (.aload_n 0, 1) := by decide +kernel
theorem dX4_readOperand_98 : decode cX4_readOperand 98 = .ok (.iconst 1, 1) := by decide +kernel
theorem dX4_readOperand_99 : decode cX4_readOperand 99 = .ok (.putfield 27, 3) := by decide +kernel
theorem dX4_readOperand_102 : decode cX4_readOperand 102 = .ok (.return_, 1) := by decide +kernel
theorem dX4_readOperand_26 : decode cX4_readOperand 26 = .ok (.aload_n 0, 1) := by decide +kernel
theorem dX4_readOperand_27 : decode cX4_readOperand 27 = .ok (.getfield 16, 3) := by decide +kernel
theorem dX4_readOperand_30 : decode cX4_readOperand 30 = .ok (.iconst 1, 1) := by decide +kernel
theorem dX4_readOperand_31 : decode cX4_readOperand 31 = .ok (.iload_n 2, 1) := by decide +kernel
theorem dX4_readOperand_32 : decode cX4_readOperand 32 = .ok (.invokestatic 67, 3) := by decide +kernel
theorem dX4_readOperand_35 : decode cX4_readOperand 35 = .ok (.invokevirtual 43, 3) := by decide +kernel
theorem dX4_readOperand_38 : decode cX4_readOperand 38 = .ok (.pop, 1) := by decide +kernel
theorem dX4_readOperand_39 : decode cX4_readOperand 39 = .ok (.aload_n 0, 1) := by decide +kernel
theorem dX4_readOperand_40 : decode cX4_readOperand 40 = .ok (.dup, 1) := by decide +kernel
theorem dX4_readOperand_41 : decode cX4_readOperand 41 = .ok (.getfield 24, 3) := by decide +kernel
theorem dX4_readOperand_44 : decode cX4_readOperand 44 = .ok (.iconst 1, 1) := by decide +kernel
theorem dX4_readOperand_45 : decode cX4_readOperand 45 = .ok (.iadd, 1) := by decide +kernel
theorem dX4_readOperand_46 : decode cX4_readOperand 46 = .ok (.putfield 24, 3) := by decide +kernel
theorem dX4_readOperand_49 : decode cX4_readOperand 49 = .ok (.goto 53, 3) := by decide +kernel
theorem dX4_readOperand_12 : decode cX4_readOperand 12 = .ok (.aload_n 0, 1) := by decide +kernel
theorem dX4_readOperand_13 : decode cX4_readOperand 13 = .ok (.invokevirtual 64, 3) := by decide +kernel
theorem dX4_readOperand_16 : decode cX4_readOperand 16 = .ok (.goto 86, 3) := by decide +kernel
theorem dX4_readOperand_58 : decode cX4_readOperand 58 = .ok (.iload_n 2, 1) := by decide +kernel
theorem dX4_readOperand_59 : decode cX4_readOperand 59 = .ok (.bipush 40, 2) := by decide +kernel
theorem dX4_readOperand_61 : decode cX4_readOperand 61 = .ok (.if_icmp .eq 15, 3) := by decide +kernel
theorem dX4_readOperand_76 : decode cX4_readOperand 76 = .ok (.aload_n 0, 1) := by decide +kernel
theorem dX4_readOperand_77 : decode cX4_readOperand 77 = .ok (.dup, 1) := by decide +kernel
theorem dX4_readOperand_78 : decode cX4_readOperand 78 = .ok (.getfield 24, 3) := by decide +kernel
theorem dX4_readOperand_81 : decode cX4_readOperand 81 = .ok (.iconst 1, 1) := by decide +kernel
theorem dX4_readOperand_82 : decode cX4_readOperand 82 = .ok (.iadd, 1) := by decide +kernel
theorem dX4_readOperand_83 : decode cX4_readOperand 83 = .ok (.putfield 24, 3) := by decide +kernel
theorem dX4_readOperand_86 : decode cX4_readOperand 86 = .ok (.aload_n 0, 1) := by decide +kernel
theorem dX4_readOperand_87 : decode cX4_readOperand 87 = .ok (.iload_n 2, 1) := by decide +kernel
theorem dX4_readOperand_88 : decode cX4_readOperand 88 = .ok (.iload_n 1, 1) := by decide +kernel
theorem dX4_readOperand_89 : decode cX4_readOperand 89 = .ok (.iconst 1, 1) := by decide +kernel
theorem dX4_readOperand_90 : decode cX4_readOperand 90 = .ok (.iadd, 1) := by decide +kernel
theorem dX4_readOperand_91 : decode cX4_readOperand 91 = .ok (.invokevirtual 71, 3) := by decide +kernel
theorem dX4_readOperand_94 : decode cX4_readOperand 94 = .ok (.goto 8, 3) := by decide +kernel
theorem dX4_readOperand_64 : decode cX4_readOperand 64 = .ok (.iload_n 2, 1) := by decide +kernel
theorem dX4_readOperand_65 : decode cX4_readOperand 65 = .ok (.bipush 33, 2) := by decide +kernel
theorem dX4_readOperand_67 : decode cX4_readOperand 67 = .ok (.if_icmp .eq 9, 3) := by decide +kernel
theorem dX4_readOperand_70 : decode cX4_readOperand 70 = .ok (.iload_n 2, 1) := by decide +kernel
theorem dX4_readOperand_71 : decode cX4_readOperand 71 = .ok (.bipush 45, 2) := by decide +kernel
theorem dX4_readOperand_73 : decode cX4_readOperand 73 = .ok (.if_icmp .ne 24, 3) := by decide +kernel
theorem dX4_readChain_0 : decode cX4_readChain 0 = .ok (.iload_n 1, 1) := by decide +kernel
theorem dX4_readChain_1 : decode cX4_readChain 1 = .ok (.iconst 5, 1) := by decide +kernel
theorem dX4_readChain_2 : decode cX4_readChain 2 = .ok (.if_icmp .lt 9, 3) := by decide +kernel
theorem dX4_readChain_5 : decode cX4_readChain 5 = .ok (.aload_n 0, 1) := by decide +kernel
theorem dX4_readChain_6 : decode cX4_readChain 6 = .ok (.iload_n 2, 1) := by decide +kernel
theorem dX4_readChain_7 : decode cX4_readChain 7 = .ok (.invokevirtual 50, 3) := by decide +kernel
theorem dX4_readChain_10 : decode cX4_readChain 10 = .ok (.return_, 1) := by decide +kernel
theorem dX4_readChain_28 : decode cX4_readChain 28 = .ok (.iload_n 3, 1) := by decide +kernel
theorem dX4_readChain_29 : decode cX4_readChain 29 = .ok (.ifCond .eq 70, 3) := by decide +kernel
theorem dX4_readChain_32 : decode cX4_readChain 32 = .ok (.iload 4, 2) := by decide +kernel
theorem dX4_readChain_34 : decode cX4_readChain 34 = .ok (.bipush 120, 2) := by decide +kernel
theorem dX4_readChain_36 : decode cX4_readChain 36 = .ok (.if_icmp .ge 63, 3) := by decide +kernel
theorem dX4_readChain_39 : decode cX4_readChain 39 = .ok (.aload_n 0, 1) := by decide +kernel
theorem dX4_readChain_40 : decode cX4_readChain 40 = .ok (.invokevirtual 57, 3) := by decide +kernel
theorem dX4_readChain_43 : decode cX4_readChain 43 = .ok (.istore 5, 2) := by decide +kernel
theorem dX4_readChain_45 : decode cX4_readChain 45 = .ok (.aload_n 0, 1) := by decide +kernel
theorem dX4_readChain_46 : decode cX4_readChain 46 = .ok (.dup, 1) := by decide +kernel
theorem dX4_readChain_47 : decode cX4_readChain 47 = .ok (.getfield 24, 3) := by decide +kernel
theorem dX4_readChain_50 : decode cX4_readChain 50 = .ok (.iconst 1, 1) := by decide +kernel
theorem dX4_readChain_51 : decode cX4_readChain 51 = .ok (.iadd, 1) := by decide +kernel
theorem dX4_readChain_52 : decode cX4_readChain 52 = .ok (.putfield 24, 3) := by decide +kernel
theorem dX4_readChain_55 : decode cX4_readChain 55 = .ok (.aload_n 0, 1) := by decide +kernel
theorem dX4_readChain_56 : decode cX4_readChain 56 = .ok (.iload_n 1, 1) := by decide +kernel
theorem dX4_readChain_57 : decode cX4_readChain 57 = .ok (.iconst 1, 1) := by decide +kernel
theorem dX4_readChain_58 : decode cX4_readChain 58 = .ok (.iadd, 1) := by decide +kernel
theorem dX4_readChain_59 : decode cX4_readChain 59 = .ok (.iload_n 2, 1) := by decide +kernel
theorem dX4_readChain_60 : decode cX4_readChain 60 = .ok (.invokevirtual 39, 3) := by decide +kernel
theorem dX4_readChain_63 : decode cX4_readChain 63 = .ok (.aload_n 0, 1) := by decide +kernel
theorem dX4_readChain_64 : decode cX4_readChain 64 = .ok (.getfield 16, 3) := by decide +kernel
theorem dX4_readChain_67 : decode cX4_readChain 67 = .ok (.iload 5, 2) := by decide +kernel
theorem dX4_readChain_69 : decode cX4_readChain 69 = .ok (.iconst 0, 1) := by decide +kernel
theorem dX4_readChain_70 : decode cX4_readChain 70 = .ok (.invokevirtual 43, 3) := by decide +kernel
theorem dX4_readChain_73 : decode cX4_readChain 73 = .ok (.pop, 1) := by decide +kernel
theorem dX4_readChain_74 : decode cX4_readChain 74 = .ok (.iload_n 1, 1) := by decide +kernel
theorem dX4_readChain_75 : decode cX4_readChain 75 = .ok (.iconst 2, 1) := by decide +kernel
theorem dX4_readChain_76 : decode cX4_readChain 76 = .ok (.if_icmp .eq 15, 3) := by decide +kernel
theorem dX4_readChain_91 : decode cX4_readChain 91 = .ok (.iconst 0, 1) := by decide +kernel
theorem dX4_readChain_92 : decode cX4_readChain 92 = .ok (.istore_n 3, 1) := by decide +kernel
theorem dX4_readChain_93 : decode cX4_readChain 93 = .ok (.iinc 4 1, 3) := by decide +kernel
theorem dX4_readChain_96 : decode cX4_readChain 96 = .ok (.goto (-68), 3) := by decide +kernel
theorem dX4_readChain_79 : decode cX4_readChain 79 = .ok (.aload_n 0, 1) := by decide +kernel
theorem dX4_readChain_80 : decode cX4_readChain 80 = .ok (.iload_n 1, 1) := by decide +kernel
theorem dX4_readChain_81 : decode cX4_readChain 81 = .ok (.invokevirtual 54, 3) := by decide +kernel
theorem dX4_readChain_84 : decode cX4_readChain 84 = .ok (.ifCond .eq 7, 3) := by decide +kernel
theorem dX4_readChain_87 : decode cX4_readChain 87 = .ok (.iconst 1, 1) := by decide +kernel
theorem dX4_readChain_88 : decode cX4_readChain 88 = .ok (.goto 4, 3) := by decide +kernel
theorem dX4_readChain_11 : decode cX4_readChain 11 = .ok (.aload_n 0, 1) := by decide +kernel
theorem dX4_readChain_12 : decode cX4_readChain 12 = .ok (.iload_n 1, 1) := by decide +kernel
theorem dX4_readChain_13 : decode cX4_readChain 13 = .ok (.iconst 1, 1) := by decide +kernel
theorem dX4_readChain_14 : decode cX4_readChain 14 = .ok (.iadd, 1) := by decide +kernel
theorem dX4_readChain_15 : decode cX4_readChain 15 = .ok (.iload_n 2, 1) := by decide +kernel
theorem dX4_readChain_16 : decode cX4_readChain 16 = .ok (.invokevirtual 39, 3) := by decide +kernel
theorem dX4_readChain_19 : decode cX4_readChain 19 = .ok (.aload_n 0, 1) := by decide +kernel
theorem dX4_readChain_20 : decode cX4_readChain 20 = .ok (.iload_n 1, 1) := by decide +kernel
theorem dX4_readChain_21 : decode cX4_readChain 21 = .ok (.invokevirtual 54, 3) := by decide +kernel
theorem dX4_readChain_24 : decode cX4_readChain 24 = .ok (.istore_n 3, 1) := by decide +kernel
theorem dX4_readChain_25 : decode cX4_readChain 25 = .ok (.iconst 0, 1) := by decide +kernel
theorem dX4_readChain_26 : decode cX4_readChain 26 = .ok (.istore 4, 2) := by decide +kernel
theorem dX4_readChain_99 : decode cX4_readChain 99 = .ok (.return_, 1) := by decide +kernel
theorem dX4_readLine_0 : decode cX4_readLine 0 = .ok (.aload_n 0, 1) := by decide +kernel
theorem dX4_readLine_1 : decode cX4_readLine 1 = .ok (.iconst 0, 1) := by decide +kernel
theorem dX4_readLine_2 : decode cX4_readLine 2 = .ok (.iconst 0, 1) := by decide +kernel
theorem dX4_readLine_3 : decode cX4_readLine 3 = .ok (.invokevirtual 39, 3) := by decide +kernel
theorem dX4_readLine_6 : decode cX4_readLine 6 = .ok (.iconst (-1), 1) := by decide +kernel
theorem dX4_readLine_7 : decode cX4_readLine 7 = .ok (.istore_n 1, 1) := by decide +kernel
theorem dX4_readLine_8 : decode cX4_readLine 8 = .ok (.aload_n 0, 1) := by decide +kernel
theorem dX4_readLine_9 : decode cX4_readLine 9 = .ok (.bipush 63, 2) := by decide +kernel
theorem dX4_readLine_11 : decode cX4_readLine 11 = .ok (.invokevirtual 35, 3) := by decide +kernel
theorem dX4_readLine_14 : decode cX4_readLine 14 = .ok (.ifCond .eq 19, 3) := by decide +kernel
theorem dX4_readLine_33 : decode cX4_readLine 33 = .ok (.aload_n 0, 1) := by decide +kernel
theorem dX4_readLine_34 : decode cX4_readLine 34 = .ok (.getfield 16, 3) := by decide +kernel
theorem dX4_readLine_37 : decode cX4_readLine 37 = .ok (.iconst 3, 1) := by decide +kernel
theorem dX4_readLine_38 : decode cX4_readLine 38 = .ok (.iconst 0, 1) := by decide +kernel
theorem dX4_readLine_39 : decode cX4_readLine 39 = .ok (.invokevirtual 43, 3) := by decide +kernel
theorem dX4_readLine_42 : decode cX4_readLine 42 = .ok (.istore_n 2, 1) := by decide +kernel
theorem dX4_readLine_43 : decode cX4_readLine 43 = .ok (.iload_n 1, 1) := by decide +kernel
theorem dX4_readLine_44 : decode cX4_readLine 44 = .ok (.ifCond .lt 13, 3) := by decide +kernel
theorem dX4_readLine_57 : decode cX4_readLine 57 = .ok (.return_, 1) := by decide +kernel
theorem dX4_readLine_17 : decode cX4_readLine 17 = .ok (.aload_n 0, 1) := by decide +kernel
theorem dX4_readLine_18 : decode cX4_readLine 18 = .ok (.getfield 16, 3) := by decide +kernel
theorem dX4_readLine_21 : decode cX4_readLine 21 = .ok (.iconst 2, 1) := by decide +kernel
theorem dX4_readLine_22 : decode cX4_readLine 22 = .ok (.iconst 0, 1) := by decide +kernel
theorem dX4_readLine_23 : decode cX4_readLine 23 = .ok (.invokevirtual 43, 3) := by decide +kernel
theorem dX4_readLine_26 : decode cX4_readLine 26 = .ok (.istore_n 1, 1) := by decide +kernel
theorem dX4_readLine_27 : decode cX4_readLine 27 = .ok (.aload_n 0, 1) := by decide +kernel
theorem dX4_readLine_28 : decode cX4_readLine 28 = .ok (.iconst 0, 1) := by decide +kernel
theorem dX4_readLine_29 : decode cX4_readLine 29 = .ok (.iconst 0, 1) := by decide +kernel
theorem dX4_readLine_30 : decode cX4_readLine 30 = .ok (.invokevirtual 39, 3) := by decide +kernel
theorem dX4_readLine_47 : decode cX4_readLine 47 = .ok (.aload_n 0, 1) := by decide +kernel
theorem dX4_readLine_48 : decode cX4_readLine 48 = .ok (.getfield 16, 3) := by decide +kernel
theorem dX4_readLine_51 : decode cX4_readLine 51 = .ok (.getfield 47, 3) := by decide +kernel
theorem dX4_readLine_54 : decode cX4_readLine 54 = .ok (.iload_n 1, 1) := by decide +kernel
theorem dX4_readLine_55 : decode cX4_readLine 55 = .ok (.iload_n 2, 1) := by decide +kernel
theorem dX4_readLine_56 : decode cX4_readLine 56 = .ok (.iastore, 1) := by decide +kernel
theorem dX4_readText_22 : decode cX4_readText 22 = .ok (.iload_n 1, 1) := by decide +kernel
theorem dX4_readText_23 : decode cX4_readText 23 = .ok (.ifCond .eq 26, 3) := by decide +kernel
theorem dX4_readText_26 : decode cX4_readText 26 = .ok (.iload_n 2, 1) := by decide +kernel
theorem dX4_readText_27 : decode cX4_readText 27 = .ok (.bipush 120, 2) := by decide +kernel
theorem dX4_readText_29 : decode cX4_readText 29 = .ok (.if_icmp .gt 20, 3) := by decide +kernel
theorem dX4_readText_32 : decode cX4_readText 32 = .ok (.aload_n 0, 1) := by decide +kernel
theorem dX4_readText_33 : decode cX4_readText 33 = .ok (.invokevirtual 32, 3) := by decide +kernel
theorem dX4_readText_36 : decode cX4_readText 36 = .ok (.aload_n 0, 1) := by decide +kernel
theorem dX4_readText_37 : decode cX4_readText 37 = .ok (.bipush 59, 2) := by decide +kernel
theorem dX4_readText_39 : decode cX4_readText 39 = .ok (.invokevirtual 35, 3) := by decide +kernel
theorem dX4_readText_42 : decode cX4_readText 42 = .ok (.istore_n 1, 1) := by decide +kernel
theorem dX4_readText_43 : decode cX4_readText 43 = .ok (.iinc 2 1, 3) := by decide +kernel
theorem dX4_readText_46 : decode cX4_readText 46 = .ok (.goto (-24), 3) := by decide +kernel
theorem dX4_readText_0 : decode cX4_readText 0 = .ok (.aload_n 0, 1) := by decide +kernel
theorem dX4_readText_1 : decode cX4_readText 1 = .ok (.iconst 0, 1) := by decide +kernel
theorem dX4_readText_2 : decode cX4_readText 2 = .ok (.putfield 24, 3) := by decide +kernel
theorem dX4_readText_5 : decode cX4_readText 5 = .ok (.aload_n 0, 1) := by decide +kernel
theorem dX4_readText_6 : decode cX4_readText 6 = .ok (.iconst 0, 1) := by decide +kernel
theorem dX4_readText_7 : decode cX4_readText 7 = .ok (.putfield 27, 3) := by decide +kernel
theorem dX4_readText_10 : decode cX4_readText 10 = .ok (.aload_n 0, 1) := by decide +kernel
theorem dX4_readText_11 : decode cX4_readText 11 = .ok (.getfield 16, 3) := by decide +kernel
theorem dX4_readText_14 : decode cX4_readText 14 = .ok (.iconst 0, 1) := by decide +kernel
theorem dX4_readText_15 : decode cX4_readText 15 = .ok (.putfield 31, 3) := by decide +kernel
theorem dX4_readText_18 : decode cX4_readText 18 = .ok (.iconst 1, 1) := by decide +kernel
theorem dX4_readText_19 : decode cX4_readText 19 = .ok (.istore_n 1, 1) := by decide +kernel
theorem dX4_readText_20 : decode cX4_readText 20 = .ok (.iconst 0, 1) := by decide +kernel
theorem dX4_readText_21 : decode cX4_readText 21 = .ok (.istore_n 2, 1) := by decide +kernel
theorem dX4_readText_49 : decode cX4_readText 49 = .ok (.aload_n 0, 1) := by decide +kernel
theorem dX4_readText_50 : decode cX4_readText 50 = .ok (.getfield 27, 3) := by decide +kernel
theorem dX4_readText_53 : decode cX4_readText 53 = .ok (.ifCond .ne 14, 3) := by decide +kernel
theorem dX4_readText_67 : decode cX4_readText 67 = .ok (.aload_n 0, 1) := by decide +kernel
theorem dX4_readText_68 : decode cX4_readText 68 = .ok (.getfield 24, 3) := by decide +kernel
theorem dX4_readText_71 : decode cX4_readText 71 = .ok (.goto 4, 3) := by decide +kernel
theorem dX4_readText_75 : decode cX4_readText 75 = .ok (.ireturn, 1) := by decide +kernel
theorem dX4_readText_56 : decode cX4_readText 56 = .ok (.aload_n 0, 1) := by decide +kernel
theorem dX4_readText_57 : decode cX4_readText 57 = .ok (.getfield 24, 3) := by decide +kernel
theorem dX4_readText_60 : decode cX4_readText 60 = .ok (.aload_n 0, 1) := by decide +kernel
theorem dX4_readText_61 : decode cX4_readText 61 = .ok (.getfield 20, 3) := by decide +kernel
theorem dX4_readText_64 : decode cX4_readText 64 = .ok (.if_icmp .ge 10, 3) := by decide +kernel
theorem dX4_readText_74 : decode cX4_readText 74 = .ok (.iconst (-1), 1) := by decide +kernel
/-- the draft of a law: its length in its row, what its signs carry small -/
def DI (M : xM) : Prop := (∃ n : Nat, n ≤ 128 ∧ M 8 4 = nI n) ∧ ∀ k, k < 128 → M 10 k ≤ 100000
theorem DI_up {M : xM} {p k : Nat} {v : Int32} (h : p ≠ 8 ∧ p ≠ 10) (d : DI M) : DI (x_up M p k v) := by
  obtain ⟨⟨n, hn, e⟩, hv⟩ := d
  refine ⟨⟨n, hn, (congrFun (x_up_n M k v (fun q => h.1 q.symm)) 4).trans e⟩, fun j hj => ?_⟩
  rw [congrFun (x_up_n M k v (fun q => h.2 q.symm)) j]
  exact hv j hj
theorem DI_ke {A : Nat → Nat → Prop} {M M2 : xM} (hA : ∀ k, ¬ A 8 k ∧ ¬ A 10 k) (h : Ke A M M2) (d : DI M) : DI M2 := by
  obtain ⟨⟨n, hn, e⟩, hv⟩ := d
  refine ⟨⟨n, hn, (h 8 4 (hA 4).1).trans e⟩, fun j hj => ?_⟩
  rw [h 10 j (hA j).2]
  exact hv j hj
def nx (M : xM) : Int32 := if 0 ≤ M 6 3 ∧ M 6 3 < M 6 2 ∧ M 6 3 < 120 then M 7 (M 6 3).toNatClampNeg else -1
theorem sx_dig {k w : Nat} {v : Int32} (hk : k < 4) (hw : w < 10 ^ k) (h : 48 ≤ v ∧ v ≤ 57) : ∃ w2 : Nat, w2 < 10 ^ (k + 1) ∧ 10 * nI w + v - 48 = nI w2 := by
  obtain ⟨d, hd, rfl⟩ := x_natle (v := v) (N := 57) (K := 57) (by decide) (by decide) ⟨by grind, h.2⟩
  have h48 : 48 ≤ d := (nI_leI (a := 48) (b := d) (by decide) (by omega)).mp h.1
  have e : ∃ f, d = 48 + f := ⟨d - 48, by omega⟩
  obtain ⟨f, rfl⟩ := e
  refine ⟨10 * w + f, by rw [Nat.pow_succ]; omega, ?_⟩
  have hw2 : w < 10 ^ 4 := Nat.lt_of_lt_of_le hw (Nat.pow_le_pow_right (n := 10) (by decide) (by omega))
  apply Int32.toInt_inj.mp
  rw [show (10 : Int32) * nI w = nI (10 * w) from (Int32.ofNat_mul 10 w).symm, nI_add, show 10 * w + (48 + f) = (10 * w + f) + 48 by omega, ← nI_add, show nI 48 = 48 from rfl, Int32.add_sub_cancel]
set_option maxRecDepth 100000 in
set_option maxHeartbeats 4000000 in
theorem c_X4_next {l : Launch} {G : xG} {M : xM} {J : xJ} : x_M l G fX4_next 0 0 0 [.ref 6] x_SH M J (qE (some (.int (nx M))) x_SH M J) := by
  refine xb_of pX4 (Nat.le_of_ble_eq_true rfl) rfl ?_
  refine xr_aload_n dX4_next_0 0 rfl ?_
  refine xb_get (v := M 6 3) flX4_24 dX4_next_1 s_6 rfl rfl ?_
  refine xr_if_lt (tgt := 39) dX4_next_4 rfl (fun c1 => ?_) (fun c1 => ?_)
  · refine xr_iconst (v := -1) dX4_next_39 rfl ?_
    exact xr_iret dX4_next_40 rfl rfl (⟨congrArg (fun z => some (Value.int z)) (if_neg (by grind)).symm, rfl, rfl, rfl⟩)
  · refine xr_aload_n dX4_next_7 0 rfl ?_
    refine xb_get (v := M 6 3) flX4_24 dX4_next_8 s_6 rfl rfl ?_
    refine xr_aload_n dX4_next_11 0 rfl ?_
    refine xb_get (v := M 6 2) flX4_20 dX4_next_12 s_6 rfl rfl ?_
    refine xr_icmp_ge (tgt := 39) dX4_next_15 rfl (fun c2 => ?_) (fun c2 => ?_)
    · refine xr_iconst (v := -1) dX4_next_39 rfl ?_
      exact xr_iret dX4_next_40 rfl rfl (⟨congrArg (fun z => some (Value.int z)) (if_neg (by grind)).symm, rfl, rfl, rfl⟩)
    · refine xr_aload_n dX4_next_18 0 rfl ?_
      refine xb_get (v := M 6 3) flX4_24 dX4_next_19 s_6 rfl rfl ?_
      refine xr_bipush (v := 120) dX4_next_22 rfl ?_
      refine xr_icmp_ge (tgt := 39) dX4_next_24 rfl (fun c3 => ?_) (fun c3 => ?_)
      · refine xr_iconst (v := -1) dX4_next_39 rfl ?_
        exact xr_iret dX4_next_40 rfl rfl (⟨congrArg (fun z => some (Value.int z)) (if_neg (by grind)).symm, rfl, rfl, rfl⟩)
      · refine xr_aload_n dX4_next_27 0 rfl ?_
        refine xr_getR flX4_9 dX4_next_28 s_6 rfl ?_
        refine xr_aload_n dX4_next_31 0 rfl ?_
        refine xb_get (v := M 6 3) flX4_24 dX4_next_32 s_6 rfl rfl ?_
        obtain ⟨j4, hj4, ej4⟩ := x_nat (v := M 6 3) (N := 120) (K := 120) (by decide) (by decide) ⟨by grind, by grind⟩
        refine xb_top (y := nI j4) ej4 ?_
        refine xb_iald (j := j4) (v := M 7 j4) dX4_next_35 s_7 hj4 (by decide) rfl ?_
        refine xr_goto (tgt := 40) dX4_next_36 rfl ?_
        exact xr_iret dX4_next_40 rfl rfl (⟨congrArg (fun z => some (Value.int z)) (by unfold nx; rw [if_pos ⟨by grind, by grind, by grind⟩, ej4, nI_clamp (by omega)]), rfl, rfl, rfl⟩)
set_option maxRecDepth 100000 in
set_option maxHeartbeats 4000000 in
theorem c_X4_isDigit (v : Int32) {l : Launch} {G : xG} {sh : List xS} {M : xM} {J : xJ} : x_M l G fX4_isDigit 0 0 0 [.int (v)] sh M J (qE (some (.int (bI (48 ≤ v ∧ v ≤ 57)))) sh M J) := by
  refine xb_of pX4 (Nat.le_of_ble_eq_true rfl) rfl ?_
  refine xr_iload_n dX4_isDigit_0 0 rfl ?_
  refine xr_bipush (v := 48) dX4_isDigit_1 rfl ?_
  refine xr_icmp_lt (tgt := 16) dX4_isDigit_3 rfl (fun c1 => ?_) (fun c1 => ?_)
  · refine xr_iconst (v := 0) dX4_isDigit_16 rfl ?_
    exact xr_iret dX4_isDigit_17 rfl rfl (⟨congrArg (fun z => some (Value.int z)) (bI_f (by grind)).symm, rfl, rfl, rfl⟩)
  · refine xr_iload_n dX4_isDigit_6 0 rfl ?_
    refine xr_bipush (v := 57) dX4_isDigit_7 rfl ?_
    refine xr_icmp_gt (tgt := 16) dX4_isDigit_9 rfl (fun c2 => ?_) (fun c2 => ?_)
    · refine xr_iconst (v := 0) dX4_isDigit_16 rfl ?_
      exact xr_iret dX4_isDigit_17 rfl rfl (⟨congrArg (fun z => some (Value.int z)) (bI_f (by grind)).symm, rfl, rfl, rfl⟩)
    · refine xr_iconst (v := 1) dX4_isDigit_12 rfl ?_
      refine xr_goto (tgt := 17) dX4_isDigit_13 rfl ?_
      exact xr_iret dX4_isDigit_17 rfl rfl (⟨congrArg (fun z => some (Value.int z)) (bI_t (by grind)).symm, rfl, rfl, rfl⟩)
theorem di_add {M : xM} {n : Nat} {a b v : Int32} (hv0 : v ≤ 100000) (h : ∀ k, k < 128 → M 10 k ≤ 100000) : ∀ k, k < 128 → (x_up (x_up (x_up M 9 n a) 10 n v) 8 4 b) 10 k ≤ 100000 := fun k hk => by
  rw [congrFun (x_up_n _ 4 b (by decide)) k]
  by_cases e : k = n
  · subst e; rw [x_up_s]; exact hv0
  · rw [x_up_k _ _ _ e, congrFun (x_up_n _ n a (by decide)) k]; exact h k hk
theorem sx_w4 {k w : Nat} (h : w < 10 ^ k) (hk : k ≤ 4) : nI w ≤ 100000 := by
  have h2 : w < 10 ^ 4 := Nat.lt_of_lt_of_le h (Nat.pow_le_pow_right (n := 10) (by decide) hk)
  exact nI_le (a := w) (b := 100000) (by omega) (by decide)
theorem DI_val {M : xM} {j : Nat} {v : Int32} (hv : v ≤ 100000) (d : DI M) : DI (x_up M 10 j v) := by
  obtain ⟨⟨n, hn, e⟩, h⟩ := d
  refine ⟨⟨n, hn, (congrFun (x_up_n M j v (by decide)) 4).trans e⟩, fun k hk => ?_⟩
  by_cases q : k = j
  · subst q; rw [x_up_s]; exact hv
  · rw [x_up_k _ _ _ q]; exact h k hk