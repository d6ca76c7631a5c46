theorem dX9_hoop_0 : decode cX9_hoop 0 = .ok (.iload_n 1, 1) := by decide +kernel
theorem dX9_hoop_1 : decode cX9_hoop 1 = .ok (.ifCond .lt 23, 3) := by decide +kernel
theorem dX9_hoop_24 : decode cX9_hoop 24 = .ok (.iconst (-1), 1) := by decide +kernel
theorem dX9_hoop_25 : decode cX9_hoop 25 = .ok (.ireturn, 1) := by decide +kernel
theorem dX9_hoop_4 : decode cX9_hoop 4 = .ok (.iload_n 1, 1) := by decide +kernel
theorem dX9_hoop_5 : decode cX9_hoop 5 = .ok (.bipush 10, 2) := by decide +kernel
theorem dX9_hoop_7 : decode cX9_hoop 7 = .ok (.idiv, 1) := by decide +kernel
theorem dX9_hoop_8 : decode cX9_hoop 8 = .ok (.invokestatic 76, 3) := by decide +kernel
theorem dX9_hoop_11 : decode cX9_hoop 11 = .ok (.ifCond .eq 13, 3) := by decide +kernel
theorem dX9_hoop_14 : decode cX9_hoop 14 = .ok (.iload_n 1, 1) := by decide +kernel
theorem dX9_hoop_15 : decode cX9_hoop 15 = .ok (.bipush 10, 2) := by decide +kernel
theorem dX9_hoop_17 : decode cX9_hoop 17 = .ok (.irem, 1) := by decide +kernel
theorem dX9_hoop_18 : decode cX9_hoop 18 = .ok (.invokestatic 76, 3) := by decide +kernel
theorem dX9_hoop_21 : decode cX9_hoop 21 = .ok (.ifCond .ne 5, 3) := by decide +kernel
theorem dX9_hoop_26 : decode cX9_hoop 26 = .ok (.aload_n 0, 1) := by decide +kernel
theorem dX9_hoop_27 : decode cX9_hoop 27 = .ok (.getfield 28, 3) := by decide +kernel
theorem dX9_hoop_30 : decode cX9_hoop 30 = .ok (.invokevirtual 80, 3) := by decide +kernel
theorem dX9_hoop_33 : decode cX9_hoop 33 = .ok (.ifCond .eq 6, 3) := by decide +kernel
theorem dX9_hoop_39 : decode cX9_hoop 39 = .ok (.aload_n 0, 1) := by decide +kernel
theorem dX9_hoop_40 : decode cX9_hoop 40 = .ok (.getfield 28, 3) := by decide +kernel
theorem dX9_hoop_43 : decode cX9_hoop 43 = .ok (.iload_n 1, 1) := by decide +kernel
theorem dX9_hoop_44 : decode cX9_hoop 44 = .ok (.bipush 10, 2) := by decide +kernel
theorem dX9_hoop_46 : decode cX9_hoop 46 = .ok (.idiv, 1) := by decide +kernel
theorem dX9_hoop_47 : decode cX9_hoop 47 = .ok (.iload_n 1, 1) := by decide +kernel
theorem dX9_hoop_48 : decode cX9_hoop 48 = .ok (.bipush 10, 2) := by decide +kernel
theorem dX9_hoop_50 : decode cX9_hoop 50 = .ok (.irem, 1) := by decide +kernel
theorem dX9_hoop_51 : decode cX9_hoop 51 = .ok (.iconst 4, 1) := by decide +kernel
theorem dX9_hoop_52 : decode cX9_hoop 52 = .ok (.invokevirtual 84, 3) := by decide +kernel
theorem dX9_hoop_55 : decode cX9_hoop 55 = .ok (.ireturn, 1) := by decide +kernel
theorem dX9_hoop_36 : decode cX9_hoop 36 = .ok (.bipush (-3), 2) := by decide +kernel
theorem dX9_hoop_38 : decode cX9_hoop 38 = .ok (.ireturn, 1) := by decide +kernel
theorem dX9_hoops_0 : decode cX9_hoops 0 = .ok (.iload_n 1, 1) := by decide +kernel
theorem dX9_hoops_1 : decode cX9_hoops 1 = .ok (.invokestatic 88, 3) := by decide +kernel
theorem dX9_hoops_4 : decode cX9_hoops 4 = .ok (.ifCond .eq 13, 3) := by decide +kernel
theorem dX9_hoops_17 : decode cX9_hoops 17 = .ok (.iconst (-1), 1) := by decide +kernel
theorem dX9_hoops_18 : decode cX9_hoops 18 = .ok (.ireturn, 1) := by decide +kernel
theorem dX9_hoops_7 : decode cX9_hoops 7 = .ok (.iload_n 3, 1) := by decide +kernel
theorem dX9_hoops_8 : decode cX9_hoops 8 = .ok (.iconst 1, 1) := by decide +kernel
theorem dX9_hoops_9 : decode cX9_hoops 9 = .ok (.if_icmp .lt 8, 3) := by decide +kernel
theorem dX9_hoops_12 : decode cX9_hoops 12 = .ok (.iload_n 3, 1) := by decide +kernel
theorem dX9_hoops_13 : decode cX9_hoops 13 = .ok (.iconst 5, 1) := by decide +kernel
theorem dX9_hoops_14 : decode cX9_hoops 14 = .ok (.if_icmp .le 5, 3) := by decide +kernel
theorem dX9_hoops_19 : decode cX9_hoops 19 = .ok (.aload_n 0, 1) := by decide +kernel
theorem dX9_hoops_20 : decode cX9_hoops 20 = .ok (.getfield 67, 3) := by decide +kernel
theorem dX9_hoops_23 : decode cX9_hoops 23 = .ok (.iload_n 1, 1) := by decide +kernel
theorem dX9_hoops_24 : decode cX9_hoops 24 = .ok (.aaload, 1) := by decide +kernel
theorem dX9_hoops_25 : decode cX9_hoops 25 = .ok (.astore 4, 2) := by decide +kernel
theorem dX9_hoops_27 : decode cX9_hoops 27 = .ok (.aload 4, 2) := by decide +kernel
theorem dX9_hoops_29 : decode cX9_hoops 29 = .ok (.invokevirtual 91, 3) := by decide +kernel
theorem dX9_hoops_32 : decode cX9_hoops 32 = .ok (.ifCond .ne 14, 3) := by decide +kernel
theorem dX9_hoops_46 : decode cX9_hoops 46 = .ok (.iconst 0, 1) := by decide +kernel
theorem dX9_hoops_47 : decode cX9_hoops 47 = .ok (.istore 5, 2) := by decide +kernel
theorem dX9_hoops_35 : decode cX9_hoops 35 = .ok (.aload 4, 2) := by decide +kernel
theorem dX9_hoops_37 : decode cX9_hoops 37 = .ok (.invokevirtual 94, 3) := by decide +kernel
theorem dX9_hoops_40 : decode cX9_hoops 40 = .ok (.ifCond .ne 6, 3) := by decide +kernel
theorem dX9_hoops_43 : decode cX9_hoops 43 = .ok (.bipush (-12), 2) := by decide +kernel
theorem dX9_hoops_45 : decode cX9_hoops 45 = .ok (.ireturn, 1) := by decide +kernel
theorem dX9_mend_0 : decode cX9_mend 0 = .ok (.aload_n 0, 1) := by decide +kernel
theorem dX9_mend_1 : decode cX9_mend 1 = .ok (.iload_n 1, 1) := by decide +kernel
theorem dX9_mend_2 : decode cX9_mend 2 = .ok (.iload_n 2, 1) := by decide +kernel
theorem dX9_mend_3 : decode cX9_mend 3 = .ok (.iload_n 3, 1) := by decide +kernel
theorem dX9_mend_4 : decode cX9_mend 4 = .ok (.invokevirtual 101, 3) := by decide +kernel
theorem dX9_mend_7 : decode cX9_mend 7 = .ok (.ifCond .ne 6, 3) := by decide +kernel
theorem dX9_mend_13 : decode cX9_mend 13 = .ok (.aload_n 0, 1) := by decide +kernel
theorem dX9_mend_14 : decode cX9_mend 14 = .ok (.iload_n 1, 1) := by decide +kernel
theorem dX9_mend_15 : decode cX9_mend 15 = .ok (.iload_n 2, 1) := by decide +kernel
theorem dX9_mend_16 : decode cX9_mend 16 = .ok (.invokevirtual 106, 3) := by decide +kernel
theorem dX9_mend_19 : decode cX9_mend 19 = .ok (.istore 4, 2) := by decide +kernel
theorem dX9_mend_21 : decode cX9_mend 21 = .ok (.iload 4, 2) := by decide +kernel
theorem dX9_mend_23 : decode cX9_mend 23 = .ok (.iload_n 3, 1) := by decide +kernel
theorem dX9_mend_24 : decode cX9_mend 24 = .ok (.if_icmp .eq 22, 3) := by decide +kernel
theorem dX9_mend_46 : decode cX9_mend 46 = .ok (.iload 4, 2) := by decide +kernel
theorem dX9_mend_48 : decode cX9_mend 48 = .ok (.ireturn, 1) := by decide +kernel
theorem dX9_mend_27 : decode cX9_mend 27 = .ok (.aload_n 0, 1) := by decide +kernel
theorem dX9_mend_28 : decode cX9_mend 28 = .ok (.iload_n 1, 1) := by decide +kernel
theorem dX9_mend_29 : decode cX9_mend 29 = .ok (.iload_n 2, 1) := by decide +kernel
theorem dX9_mend_30 : decode cX9_mend 30 = .ok (.iload_n 3, 1) := by decide +kernel
theorem dX9_mend_31 : decode cX9_mend 31 = .ok (.invokevirtual 110, 3) := by decide +kernel
theorem dX9_mend_34 : decode cX9_mend 34 = .ok (.aload_n 0, 1) := by decide +kernel
theorem dX9_mend_35 : decode cX9_mend 35 = .ok (.getfield 54, 3) := by decide +kernel
theorem dX9_mend_38 : decode cX9_mend 38 = .ok (.iload_n 1, 1) := by decide +kernel
theorem dX9_mend_39 : decode cX9_mend 39 = .ok (.iload_n 2, 1) := by decide +kernel
theorem dX9_mend_40 : decode cX9_mend 40 = .ok (.iload 4, 2) := by decide +kernel
theorem dX9_mend_42 : decode cX9_mend 42 = .ok (.iload_n 3, 1) := by decide +kernel
theorem dX9_mend_43 : decode cX9_mend 43 = .ok (.invokevirtual 114, 3) := by decide +kernel
theorem dX9_mend_10 : decode cX9_mend 10 = .ok (.ldc 105, 2) := by decide +kernel
theorem dX9_mend_12 : decode cX9_mend 12 = .ok (.ireturn, 1) := by decide +kernel
theorem dX9_of_0 : decode cX9_of 0 = .ok (.iload_n 2, 1) := by decide +kernel
theorem dX9_of_1 : decode cX9_of 1 = .ok (.ifCond .lt 38, 3) := by decide +kernel
theorem dX9_of_39 : decode cX9_of 39 = .ok (.iload_n 2, 1) := by decide +kernel
theorem dX9_of_40 : decode cX9_of 40 = .ok (.bipush 10, 2) := by decide +kernel
theorem dX9_of_42 : decode cX9_of 42 = .ok (.if_icmp .lt 24, 3) := by decide +kernel
theorem dX9_of_66 : decode cX9_of 66 = .ok (.iload_n 2, 1) := by decide +kernel
theorem dX9_of_67 : decode cX9_of 67 = .ok (.bipush 20, 2) := by decide +kernel
theorem dX9_of_69 : decode cX9_of 69 = .ok (.if_icmp .eq 9, 3) := by decide +kernel
theorem dX9_of_78 : decode cX9_of 78 = .ok (.iload_n 1, 1) := by decide +kernel
theorem dX9_of_79 : decode cX9_of 79 = .ok (.invokestatic 134, 3) := by decide +kernel
theorem dX9_of_82 : decode cX9_of 82 = .ok (.ifCond .eq 31, 3) := by decide +kernel
theorem dX9_of_113 : decode cX9_of 113 = .ok (.ldc 105, 2) := by decide +kernel
theorem dX9_of_115 : decode cX9_of 115 = .ok (.ireturn, 1) := by decide +kernel
theorem dX9_of_85 : decode cX9_of 85 = .ok (.iload_n 2, 1) := by decide +kernel
theorem dX9_of_86 : decode cX9_of 86 = .ok (.bipush 20, 2) := by decide +kernel
theorem dX9_of_88 : decode cX9_of 88 = .ok (.if_icmp .ne 15, 3) := by decide +kernel
theorem dX9_of_103 : decode cX9_of 103 = .ok (.aload_n 0, 1) := by decide +kernel
theorem dX9_of_104 : decode cX9_of 104 = .ok (.getfield 47, 3) := by decide +kernel
theorem dX9_of_107 : decode cX9_of 107 = .ok (.getfield 141, 3) := by decide +kernel
theorem dX9_of_110 : decode cX9_of 110 = .ok (.iload_n 1, 1) := by decide +kernel
theorem dX9_of_111 : decode cX9_of 111 = .ok (.iaload, 1) := by decide +kernel
theorem dX9_of_112 : decode cX9_of 112 = .ok (.ireturn, 1) := by decide +kernel
theorem dX9_of_91 : decode cX9_of 91 = .ok (.aload_n 0, 1) := by decide +kernel
theorem dX9_of_92 : decode cX9_of 92 = .ok (.getfield 47, 3) := by decide +kernel
theorem dX9_of_95 : decode cX9_of 95 = .ok (.getfield 137, 3) := by decide +kernel
theorem dX9_of_98 : decode cX9_of 98 = .ok (.iload_n 1, 1) := by decide +kernel
theorem dX9_of_99 : decode cX9_of 99 = .ok (.iaload, 1) := by decide +kernel
theorem dX9_of_100 : decode cX9_of 100 = .ok (.goto 12, 3) := by decide +kernel
theorem dX9_of_72 : decode cX9_of 72 = .ok (.iload_n 2, 1) := by decide +kernel
theorem dX9_of_73 : decode cX9_of 73 = .ok (.bipush 21, 2) := by decide +kernel
theorem dX9_of_75 : decode cX9_of 75 = .ok (.if_icmp .ne 38, 3) := by decide +kernel
theorem dX9_of_45 : decode cX9_of 45 = .ok (.iload_n 2, 1) := by decide +kernel
theorem dX9_of_46 : decode cX9_of 46 = .ok (.bipush 15, 2) := by decide +kernel
theorem dX9_of_48 : decode cX9_of 48 = .ok (.if_icmp .gt 18, 3) := by decide +kernel
theorem dX9_of_51 : decode cX9_of 51 = .ok (.iload_n 1, 1) := by decide +kernel
theorem dX9_of_52 : decode cX9_of 52 = .ok (.ifCond .ne 11, 3) := by decide +kernel
theorem dX9_of_63 : decode cX9_of 63 = .ok (.ldc 105, 2) := by decide +kernel
theorem dX9_of_65 : decode cX9_of 65 = .ok (.ireturn, 1) := by decide +kernel
theorem dX9_of_55 : decode cX9_of 55 = .ok (.aload_n 0, 1) := by decide +kernel
theorem dX9_of_56 : decode cX9_of 56 = .ok (.iload_n 2, 1) := by decide +kernel
theorem dX9_of_57 : decode cX9_of 57 = .ok (.invokevirtual 131, 3) := by decide +kernel
theorem dX9_of_60 : decode cX9_of 60 = .ok (.goto 5, 3) := by decide +kernel
theorem dX9_of_4 : decode cX9_of 4 = .ok (.iload_n 2, 1) := by decide +kernel
theorem dX9_of_5 : decode cX9_of 5 = .ok (.iconst 5, 1) := by decide +kernel
theorem dX9_of_6 : decode cX9_of 6 = .ok (.if_icmp .gt 33, 3) := by decide +kernel
theorem dX9_of_9 : decode cX9_of 9 = .ok (.aload_n 0, 1) := by decide +kernel
theorem dX9_of_10 : decode cX9_of 10 = .ok (.getfield 28, 3) := by decide +kernel
theorem dX9_of_13 : decode cX9_of 13 = .ok (.iload_n 1, 1) := by decide +kernel
theorem dX9_of_14 : decode cX9_of 14 = .ok (.invokevirtual 118, 3) := by decide +kernel
theorem dX9_of_17 : decode cX9_of 17 = .ok (.ifCond .eq 19, 3) := by decide +kernel
theorem dX9_of_36 : decode cX9_of 36 = .ok (.ldc 105, 2) := by decide +kernel
theorem dX9_of_38 : decode cX9_of 38 = .ok (.ireturn, 1) := by decide +kernel
theorem dX9_of_20 : decode cX9_of 20 = .ok (.aload_n 0, 1) := by decide +kernel
theorem dX9_of_21 : decode cX9_of 21 = .ok (.getfield 28, 3) := by decide +kernel
theorem dX9_of_24 : decode cX9_of 24 = .ok (.getfield 121, 3) := by decide +kernel
theorem dX9_of_27 : decode cX9_of 27 = .ok (.iload_n 1, 1) := by decide +kernel
theorem dX9_of_28 : decode cX9_of 28 = .ok (.aaload, 1) := by decide +kernel
theorem dX9_of_29 : decode cX9_of 29 = .ok (.iload_n 2, 1) := by decide +kernel
theorem dX9_of_30 : decode cX9_of 30 = .ok (.invokevirtual 125, 3) := by decide +kernel
theorem dX9_of_33 : decode cX9_of 33 = .ok (.goto 5, 3) := by decide +kernel
theorem dX9_feed_0 : decode cX9_feed 0 = .ok (.iload_n 1, 1) := by decide +kernel
theorem dX9_feed_1 : decode cX9_feed 1 = .ok (.ifCond .lt 10, 3) := by decide +kernel
theorem dX9_feed_11 : decode cX9_feed 11 = .ok (.iconst (-1), 1) := by decide +kernel
theorem dX9_feed_12 : decode cX9_feed 12 = .ok (.ireturn, 1) := by decide +kernel
theorem dX9_feed_4 : decode cX9_feed 4 = .ok (.iload_n 1, 1) := by decide +kernel
theorem dX9_feed_5 : decode cX9_feed 5 = .ok (.sipush 255, 3) := by decide +kernel
theorem dX9_feed_8 : decode cX9_feed 8 = .ok (.if_icmp .le 5, 3) := by decide +kernel
theorem dX9_feed_13 : decode cX9_feed 13 = .ok (.aload_n 0, 1) := by decide +kernel
theorem dX9_feed_14 : decode cX9_feed 14 = .ok (.getfield 19, 3) := by decide +kernel
theorem dX9_feed_17 : decode cX9_feed 17 = .ok (.iload_n 1, 1) := by decide +kernel
theorem dX9_feed_18 : decode cX9_feed 18 = .ok (.invokevirtual 144, 3) := by decide +kernel
theorem dX9_feed_21 : decode cX9_feed 21 = .ok (.ifCond .eq 13, 3) := by decide +kernel
theorem dX9_feed_34 : decode cX9_feed 34 = .ok (.bipush (-3), 2) := by decide +kernel
theorem dX9_feed_36 : decode cX9_feed 36 = .ok (.ireturn, 1) := by decide +kernel
theorem dX9_feed_24 : decode cX9_feed 24 = .ok (.aload_n 0, 1) := by decide +kernel
theorem dX9_feed_25 : decode cX9_feed 25 = .ok (.getfield 19, 3) := by decide +kernel
theorem dX9_feed_28 : decode cX9_feed 28 = .ok (.getfield 147, 3) := by decide +kernel
theorem dX9_feed_31 : decode cX9_feed 31 = .ok (.goto 5, 3) := by decide +kernel
theorem dX9_law_0 : decode cX9_law 0 = .ok (.aload_n 0, 1) := by decide +kernel
theorem dX9_law_1 : decode cX9_law 1 = .ok (.getfield 19, 3) := by decide +kernel
theorem dX9_law_4 : decode cX9_law 4 = .ok (.invokevirtual 151, 3) := by decide +kernel
theorem dX9_law_7 : decode cX9_law 7 = .ok (.istore_n 1, 1) := by decide +kernel
theorem dX9_law_8 : decode cX9_law 8 = .ok (.aload_n 0, 1) := by decide +kernel
theorem dX9_law_9 : decode cX9_law 9 = .ok (.getfield 19, 3) := by decide +kernel
theorem dX9_law_12 : decode cX9_law 12 = .ok (.iconst 0, 1) := by decide +kernel
theorem dX9_law_13 : decode cX9_law 13 = .ok (.putfield 147, 3) := by decide +kernel
theorem dX9_law_16 : decode cX9_law 16 = .ok (.iload_n 1, 1) := by decide +kernel
theorem dX9_law_17 : decode cX9_law 17 = .ok (.ifCond .lt 8, 3) := by decide +kernel
theorem dX9_law_25 : decode cX9_law 25 = .ok (.aload_n 0, 1) := by decide +kernel
theorem dX9_law_26 : decode cX9_law 26 = .ok (.getfield 10, 3) := by decide +kernel
theorem dX9_law_29 : decode cX9_law 29 = .ok (.aload_n 0, 1) := by decide +kernel
theorem dX9_law_30 : decode cX9_law 30 = .ok (.getfield 19, 3) := by decide +kernel
theorem dX9_law_33 : decode cX9_law 33 = .ok (.getfield 155, 3) := by decide +kernel
theorem dX9_law_36 : decode cX9_law 36 = .ok (.invokevirtual 158, 3) := by decide +kernel
theorem dX9_law_39 : decode cX9_law 39 = .ok (.iconst 1, 1) := by decide +kernel
theorem dX9_law_40 : decode cX9_law 40 = .ok (.ireturn, 1) := by decide +kernel
theorem dX9_law_20 : decode cX9_law 20 = .ok (.bipush (-100), 2) := by decide +kernel
theorem dX9_law_22 : decode cX9_law 22 = .ok (.iload_n 1, 1) := by decide +kernel
theorem dX9_law_23 : decode cX9_law 23 = .ok (.isub, 1) := by decide +kernel
theorem dX9_law_24 : decode cX9_law 24 = .ok (.ireturn, 1) := by decide +kernel
theorem dX9_go_0 : decode cX9_go 0 = .ok (.iload_n 1, 1) := by decide +kernel
theorem dX9_go_1 : decode cX9_go 1 = .ok (.iconst 1, 1) := by decide +kernel
theorem dX9_go_2 : decode cX9_go 2 = .ok (.if_icmp .lt 10, 3) := by decide +kernel
theorem dX9_go_12 : decode cX9_go 12 = .ok (.iconst (-1), 1) := by decide +kernel
theorem dX9_go_13 : decode cX9_go 13 = .ok (.ireturn, 1) := by decide +kernel
theorem dX9_go_5 : decode cX9_go 5 = .ok (.iload_n 1, 1) := by decide +kernel
theorem dX9_go_6 : decode cX9_go 6 = .ok (.sipush 200, 3) := by decide +kernel
theorem dX9_go_9 : decode cX9_go 9 = .ok (.if_icmp .le 5, 3) := by decide +kernel
theorem dX9_go_14 : decode cX9_go 14 = .ok (.iconst 0, 1) := by decide +kernel
theorem dX9_go_15 : decode cX9_go 15 = .ok (.istore_n 2, 1) := by decide +kernel
theorem dX9_go_34 : decode cX9_go 34 = .ok (.aload_n 0, 1) := by decide +kernel
theorem dX9_go_35 : decode cX9_go 35 = .ok (.getfield 28, 3) := by decide +kernel
theorem dX9_go_38 : decode cX9_go 38 = .ok (.invokevirtual 164, 3) := by decide +kernel
theorem dX9_go_41 : decode cX9_go 41 = .ok (.ireturn, 1) := by decide +kernel
theorem dX9_lift_0 : decode cX9_lift 0 = .ok (.aload_n 0, 1) := by decide +kernel
theorem dX9_lift_1 : decode cX9_lift 1 = .ok (.getfield 28, 3) := by decide +kernel
theorem dX9_lift_4 : decode cX9_lift 4 = .ok (.iload_n 1, 1) := by decide +kernel
theorem dX9_lift_5 : decode cX9_lift 5 = .ok (.invokevirtual 118, 3) := by decide +kernel
theorem dX9_lift_8 : decode cX9_lift 8 = .ok (.ifCond .ne 5, 3) := by decide +kernel
theorem dX9_lift_13 : decode cX9_lift 13 = .ok (.aload_n 0, 1) := by decide +kernel
theorem dX9_lift_14 : decode cX9_lift 14 = .ok (.getfield 28, 3) := by decide +kernel
theorem dX9_lift_17 : decode cX9_lift 17 = .ok (.getfield 121, 3) := by decide +kernel
theorem dX9_lift_20 : decode cX9_lift 20 = .ok (.iload_n 1, 1) := by decide +kernel
theorem dX9_lift_21 : decode cX9_lift 21 = .ok (.aaload, 1) := by decide +kernel
theorem dX9_lift_22 : decode cX9_lift 22 = .ok (.invokevirtual 167, 3) := by decide +kernel
theorem dX9_lift_25 : decode cX9_lift 25 = .ok (.ifCond .ne 6, 3) := by decide +kernel
theorem dX9_lift_31 : decode cX9_lift 31 = .ok (.aload_n 0, 1) := by decide +kernel
theorem dX9_lift_32 : decode cX9_lift 32 = .ok (.getfield 28, 3) := by decide +kernel
theorem dX9_lift_35 : decode cX9_lift 35 = .ok (.getfield 121, 3) := by decide +kernel
theorem dX9_lift_38 : decode cX9_lift 38 = .ok (.iload_n 1, 1) := by decide +kernel
theorem dX9_lift_39 : decode cX9_lift 39 = .ok (.aaload, 1) := by decide +kernel
theorem dX9_lift_40 : decode cX9_lift 40 = .ok (.invokevirtual 170, 3) := by decide +kernel
theorem dX9_lift_43 : decode cX9_lift 43 = .ok (.iload_n 1, 1) := by decide +kernel
theorem dX9_lift_44 : decode cX9_lift 44 = .ok (.ireturn, 1) := by decide +kernel
theorem dX9_lift_28 : decode cX9_lift 28 = .ok (.bipush (-5), 2) := by decide +kernel
theorem dX9_lift_30 : decode cX9_lift 30 = .ok (.ireturn, 1) := by decide +kernel
theorem dX9_lift_11 : decode cX9_lift 11 = .ok (.iconst (-1), 1) := by decide +kernel
theorem dX9_lift_12 : decode cX9_lift 12 = .ok (.ireturn, 1) := by decide +kernel
theorem dX9_led_0 : decode cX9_led 0 = .ok (.iload_n 1, 1) := by decide +kernel
theorem dX9_led_1 : decode cX9_led 1 = .ok (.ifCond .ne 11, 3) := by decide +kernel
theorem dX9_led_12 : decode cX9_led 12 = .ok (.iload_n 1, 1) := by decide +kernel
theorem dX9_led_13 : decode cX9_led 13 = .ok (.iconst 1, 1) := by decide +kernel
theorem dX9_led_14 : decode cX9_led 14 = .ok (.if_icmp .ne 13, 3) := by decide +kernel
theorem dX9_led_27 : decode cX9_led 27 = .ok (.iconst (-1), 1) := by decide +kernel
theorem dX9_led_28 : decode cX9_led 28 = .ok (.ireturn, 1) := by decide +kernel
theorem dX9_led_17 : decode cX9_led 17 = .ok (.aload_n 0, 1) := by decide +kernel
theorem dX9_led_18 : decode cX9_led 18 = .ok (.getfield 28, 3) := by decide +kernel
theorem dX9_led_21 : decode cX9_led 21 = .ok (.getfield 176, 3) := by decide +kernel
theorem dX9_led_24 : decode cX9_led 24 = .ok (.goto 4, 3) := by decide +kernel
theorem dX9_led_4 : decode cX9_led 4 = .ok (.aload_n 0, 1) := by decide +kernel
theorem dX9_led_5 : decode cX9_led 5 = .ok (.getfield 28, 3) := by decide +kernel
theorem dX9_led_8 : decode cX9_led 8 = .ok (.getfield 173, 3) := by decide +kernel
theorem dX9_led_11 : decode cX9_led 11 = .ok (.ireturn, 1) := by decide +kernel
theorem dX9_then_0 : decode cX9_then 0 = .ok (.aload_n 0, 1) := by decide +kernel
theorem dX9_then_1 : decode cX9_then 1 = .ok (.getfield 28, 3) := by decide +kernel
theorem dX9_then_4 : decode cX9_then 4 = .ok (.iload_n 1, 1) := by decide +kernel
theorem dX9_then_5 : decode cX9_then 5 = .ok (.invokevirtual 118, 3) := by decide +kernel
theorem dX9_then_8 : decode cX9_then 8 = .ok (.ifCond .eq 23, 3) := by decide +kernel
theorem dX9_then_31 : decode cX9_then 31 = .ok (.ldc 105, 2) := by decide +kernel
theorem dX9_then_33 : decode cX9_then 33 = .ok (.ireturn, 1) := by decide +kernel
theorem dX9_then_11 : decode cX9_then 11 = .ok (.iload_n 2, 1) := by decide +kernel
theorem dX9_then_12 : decode cX9_then 12 = .ok (.ifCond .lt 19, 3) := by decide +kernel
theorem dX9_then_15 : decode cX9_then 15 = .ok (.iload_n 2, 1) := by decide +kernel
theorem dX9_then_16 : decode cX9_then 16 = .ok (.sipush 200, 3) := by decide +kernel
theorem dX9_then_19 : decode cX9_then 19 = .ok (.if_icmp .gt 12, 3) := by decide +kernel
theorem dX9_then_22 : decode cX9_then 22 = .ok (.iload_n 3, 1) := by decide +kernel
theorem dX9_then_23 : decode cX9_then 23 = .ok (.ifCond .lt 8, 3) := by decide +kernel
theorem dX9_then_26 : decode cX9_then 26 = .ok (.iload_n 3, 1) := by decide +kernel
theorem dX9_then_27 : decode cX9_then 27 = .ok (.iconst 2, 1) := by decide +kernel
theorem dX9_then_28 : decode cX9_then 28 = .ok (.if_icmp .le 6, 3) := by decide +kernel
theorem dX9_then_34 : decode cX9_then 34 = .ok (.aload_n 0, 1) := by decide +kernel
theorem dX9_then_35 : decode cX9_then 35 = .ok (.getfield 40, 3) := by decide +kernel
theorem dX9_then_38 : decode cX9_then 38 = .ok (.iload_n 1, 1) := by decide +kernel
theorem dX9_then_39 : decode cX9_then 39 = .ok (.iload_n 2, 1) := by decide +kernel
theorem dX9_then_40 : decode cX9_then 40 = .ok (.invokevirtual 179, 3) := by decide +kernel
theorem dX9_then_43 : decode cX9_then 43 = .ok (.astore 4, 2) := by decide +kernel
theorem dX9_then_45 : decode cX9_then 45 = .ok (.iload_n 3, 1) := by decide +kernel
theorem dX9_then_46 : decode cX9_then 46 = .ok (.ifCond .ne 9, 3) := by decide +kernel
theorem dX9_then_55 : decode cX9_then 55 = .ok (.iload_n 3, 1) := by decide +kernel
theorem dX9_then_56 : decode cX9_then 56 = .ok (.iconst 1, 1) := by decide +kernel
theorem dX9_then_57 : decode cX9_then 57 = .ok (.if_icmp .ne 11, 3) := by decide +kernel
theorem dX9_then_68 : decode cX9_then 68 = .ok (.aload 4, 2) := by decide +kernel
theorem dX9_then_70 : decode cX9_then 70 = .ok (.getfield 189, 3) := by decide +kernel
theorem dX9_then_73 : decode cX9_then 73 = .ok (.ireturn, 1) := by decide +kernel
theorem dX9_then_60 : decode cX9_then 60 = .ok (.aload 4, 2) := by decide +kernel
theorem dX9_then_62 : decode cX9_then 62 = .ok (.getfield 186, 3) := by decide +kernel
theorem dX9_then_65 : decode cX9_then 65 = .ok (.goto 8, 3) := by decide +kernel
theorem dX9_then_49 : decode cX9_then 49 = .ok (.aload 4, 2) := by decide +kernel
theorem dX9_then_51 : decode cX9_then 51 = .ok (.getfield 183, 3) := by decide +kernel
theorem dX9_then_54 : decode cX9_then 54 = .ok (.ireturn, 1) := by decide +kernel
theorem dX9_falls_0 : decode cX9_falls 0 = .ok (.aload_n 0, 1) := by decide +kernel
theorem dX9_falls_1 : decode cX9_falls 1 = .ok (.getfield 28, 3) := by decide +kernel
theorem dX9_falls_4 : decode cX9_falls 4 = .ok (.iload_n 1, 1) := by decide +kernel
theorem dX9_falls_5 : decode cX9_falls 5 = .ok (.invokevirtual 118, 3) := by decide +kernel
theorem dX9_falls_8 : decode cX9_falls 8 = .ok (.ifCond .ne 5, 3) := by decide +kernel
theorem dX9_falls_13 : decode cX9_falls 13 = .ok (.aload_n 0, 1) := by decide +kernel
theorem dX9_falls_14 : decode cX9_falls 14 = .ok (.getfield 40, 3) := by decide +kernel
theorem dX9_falls_17 : decode cX9_falls 17 = .ok (.invokevirtual 192, 3) := by decide +kernel
theorem dX9_falls_20 : decode cX9_falls 20 = .ok (.aload_n 0, 1) := by decide +kernel
theorem dX9_falls_21 : decode cX9_falls 21 = .ok (.getfield 40, 3) := by decide +kernel
theorem dX9_falls_24 : decode cX9_falls 24 = .ok (.iload_n 1, 1) := by decide +kernel
theorem dX9_falls_25 : decode cX9_falls 25 = .ok (.invokevirtual 195, 3) := by decide +kernel
theorem dX9_falls_28 : decode cX9_falls 28 = .ok (.ireturn, 1) := by decide +kernel
theorem dX9_falls_11 : decode cX9_falls 11 = .ok (.iconst (-1), 1) := by decide +kernel
theorem dX9_falls_12 : decode cX9_falls 12 = .ok (.ireturn, 1) := by decide +kernel
theorem dX9_lasts_0 : decode cX9_lasts 0 = .ok (.aload_n 0, 1) := by decide +kernel
theorem dX9_lasts_1 : decode cX9_lasts 1 = .ok (.getfield 40, 3) := by decide +kernel
theorem dX9_lasts_4 : decode cX9_lasts 4 = .ok (.invokevirtual 192, 3) := by decide +kernel
theorem dX9_lasts_7 : decode cX9_lasts 7 = .ok (.aload_n 0, 1) := by decide +kernel
theorem dX9_lasts_8 : decode cX9_lasts 8 = .ok (.getfield 40, 3) := by decide +kernel
theorem dX9_lasts_11 : decode cX9_lasts 11 = .ok (.invokevirtual 198, 3) := by decide +kernel
theorem dX9_lasts_14 : decode cX9_lasts 14 = .ok (.ireturn, 1) := by decide +kernel
set_option maxRecDepth 100000 in
set_option maxHeartbeats 4000000 in
theorem g_X9_of (nu w : Int32) {l : Launch} {G : xG} {M : xM} {J : xJ} (hI : InvC M) : x_M l G fX9_of 2 0 0 [.ref (0), .int (nu), .int (w)] x_SH M J (qPI M J (fun r => True)) := by
  refine xb_of pX9 (Nat.le_of_ble_eq_true rfl) rfl ?_
  obtain ⟨⟨cn, h_cn, e_cn⟩, ⟨cm, h_cm, e_cm⟩, ⟨L, h_L, e_L⟩, hv, hD, ⟨n, h_n, e_n⟩, ⟨un, wn, h_uw, h_wn, e_un, e_wn⟩, ⟨b, h_b, e_b⟩, hkd, ⟨ra, h_ra, e_ra⟩, hsl, hS⟩ := hI
  refine xr_iload_n dX9_of_0 2 rfl ?_
  refine xr_if_lt (tgt := 39) dX9_of_1 rfl (fun c1 => ?_) (fun c1 => ?_)
  · refine xr_iload_n dX9_of_39 2 rfl ?_
    refine xr_bipush (v := 10) dX9_of_40 rfl ?_
    refine xr_icmp_lt (tgt := 66) dX9_of_42 rfl (fun c2 => ?_) (fun c2 => ?_)
    · refine xr_iload_n dX9_of_66 2 rfl ?_
      refine xr_bipush (v := 20) dX9_of_67 rfl ?_
      refine xr_icmp_eq (tgt := 78) dX9_of_69 rfl (fun c3 => ?_) (fun c3 => ?_)
      · refine xr_iload_n dX9_of_78 1 rfl ?_
        refine xb_cS (As := [.int (nu)]) (rest := []) mlX9_134 (c_X9_isGirl nu) dX9_of_79 rfl rfl (Nat.le_of_ble_eq_true rfl) (by decide) (by decide) ?_
        refine xb_beq (tgt := 113) dX9_of_82 rfl (fun c4 => ?_) (fun c4 => ?_)
        · refine xr_ldc coX9_105 dX9_of_113 ?_
          exact xr_iret dX9_of_115 rfl rfl (⟨_, rfl, rfl, rfl, rfl, trivial⟩)
        · obtain ⟨h_, hh_, rfl⟩ := x_nat (N := 25) (by decide) rfl c4
          refine xr_iload_n dX9_of_85 2 rfl ?_
          refine xr_bipush (v := 20) dX9_of_86 rfl ?_
          refine xr_icmp_ne (tgt := 103) dX9_of_88 rfl (fun c5 => ?_) (fun c5 => ?_)
          · refine xr_aload_n dX9_of_103 0 rfl ?_
            refine xr_getR flX9_47 dX9_of_104 s_0 rfl ?_
            refine xr_getR flX9_141 dX9_of_107 s_35 rfl ?_
            refine xr_iload_n dX9_of_110 1 rfl ?_
            refine xb_iald (j := h_) (v := M 37 h_) dX9_of_111 s_37 hh_ (by decide) rfl ?_
            exact xr_iret dX9_of_112 rfl rfl (⟨_, rfl, rfl, rfl, rfl, trivial⟩)
          · refine xr_aload_n dX9_of_91 0 rfl ?_
            refine xr_getR flX9_47 dX9_of_92 s_0 rfl ?_
            refine xr_getR flX9_137 dX9_of_95 s_35 rfl ?_
            refine xr_iload_n dX9_of_98 1 rfl ?_
            refine xb_iald (j := h_) (v := M 36 h_) dX9_of_99 s_36 hh_ (by decide) rfl ?_
            refine xr_goto (tgt := 112) dX9_of_100 rfl ?_
            exact xr_iret dX9_of_112 rfl rfl (⟨_, rfl, rfl, rfl, rfl, trivial⟩)
      · refine xr_iload_n dX9_of_72 2 rfl ?_
        refine xr_bipush (v := 21) dX9_of_73 rfl ?_
        refine xr_icmp_ne (tgt := 113) dX9_of_75 rfl (fun c6 => ?_) (fun c6 => ?_)
        · refine xr_ldc coX9_105 dX9_of_113 ?_
          exact xr_iret dX9_of_115 rfl rfl (⟨_, rfl, rfl, rfl, rfl, trivial⟩)
        · refine xr_iload_n dX9_of_78 1 rfl ?_
          refine xb_cS (As := [.int (nu)]) (rest := []) mlX9_134 (c_X9_isGirl nu) dX9_of_79 rfl rfl (Nat.le_of_ble_eq_true rfl) (by decide) (by decide) ?_
          refine xb_beq (tgt := 113) dX9_of_82 rfl (fun c7 => ?_) (fun c7 => ?_)
          · refine xr_ldc coX9_105 dX9_of_113 ?_
            exact xr_iret dX9_of_115 rfl rfl (⟨_, rfl, rfl, rfl, rfl, trivial⟩)
          · obtain ⟨h_, hh_, rfl⟩ := x_nat (N := 25) (by decide) rfl c7
            refine xr_iload_n dX9_of_85 2 rfl ?_
            refine xr_bipush (v := 20) dX9_of_86 rfl ?_
            refine xr_icmp_ne (tgt := 103) dX9_of_88 rfl (fun c8 => ?_) (fun c8 => ?_)
            · refine xr_aload_n dX9_of_103 0 rfl ?_
              refine xr_getR flX9_47 dX9_of_104 s_0 rfl ?_
              refine xr_getR flX9_141 dX9_of_107 s_35 rfl ?_
              refine xr_iload_n dX9_of_110 1 rfl ?_
              refine xb_iald (j := h_) (v := M 37 h_) dX9_of_111 s_37 hh_ (by decide) rfl ?_
              exact xr_iret dX9_of_112 rfl rfl (⟨_, rfl, rfl, rfl, rfl, trivial⟩)
            · refine xr_aload_n dX9_of_91 0 rfl ?_
              refine xr_getR flX9_47 dX9_of_92 s_0 rfl ?_
              refine xr_getR flX9_137 dX9_of_95 s_35 rfl ?_
              refine xr_iload_n dX9_of_98 1 rfl ?_
              refine xb_iald (j := h_) (v := M 36 h_) dX9_of_99 s_36 hh_ (by decide) rfl ?_
              refine xr_goto (tgt := 112) dX9_of_100 rfl ?_
              exact xr_iret dX9_of_112 rfl rfl (⟨_, rfl, rfl, rfl, rfl, trivial⟩)
    · refine xr_iload_n dX9_of_45 2 rfl ?_
      refine xr_bipush (v := 15) dX9_of_46 rfl ?_
      refine xr_icmp_gt (tgt := 66) dX9_of_48 rfl (fun c9 => ?_) (fun c9 => ?_)
      · refine xr_iload_n dX9_of_66 2 rfl ?_
        refine xr_bipush (v := 20) dX9_of_67 rfl ?_
        refine xr_icmp_eq (tgt := 78) dX9_of_69 rfl (fun c10 => ?_) (fun c10 => ?_)
        · refine xr_iload_n dX9_of_78 1 rfl ?_
          refine xb_cS (As := [.int (nu)]) (rest := []) mlX9_134 (c_X9_isGirl nu) dX9_of_79 rfl rfl (Nat.le_of_ble_eq_true rfl) (by decide) (by decide) ?_
          refine xb_beq (tgt := 113) dX9_of_82 rfl (fun c11 => ?_) (fun c11 => ?_)
          · refine xr_ldc coX9_105 dX9_of_113 ?_
            exact xr_iret dX9_of_115 rfl rfl (⟨_, rfl, rfl, rfl, rfl, trivial⟩)
          · obtain ⟨h_, hh_, rfl⟩ := x_nat (N := 25) (by decide) rfl c11
            refine xr_iload_n dX9_of_85 2 rfl ?_
            refine xr_bipush (v := 20) dX9_of_86 rfl ?_
            refine xr_icmp_ne (tgt := 103) dX9_of_88 rfl (fun c12 => ?_) (fun c12 => ?_)
            · refine xr_aload_n dX9_of_103 0 rfl ?_
              refine xr_getR flX9_47 dX9_of_104 s_0 rfl ?_
              refine xr_getR flX9_141 dX9_of_107 s_35 rfl ?_
              refine xr_iload_n dX9_of_110 1 rfl ?_
              refine xb_iald (j := h_) (v := M 37 h_) dX9_of_111 s_37 hh_ (by decide) rfl ?_
              exact xr_iret dX9_of_112 rfl rfl (⟨_, rfl, rfl, rfl, rfl, trivial⟩)
            · refine xr_aload_n dX9_of_91 0 rfl ?_
              refine xr_getR flX9_47 dX9_of_92 s_0 rfl ?_
              refine xr_getR flX9_137 dX9_of_95 s_35 rfl ?_
              refine xr_iload_n dX9_of_98 1 rfl ?_
              refine xb_iald (j := h_) (v := M 36 h_) dX9_of_99 s_36 hh_ (by decide) rfl ?_
              refine xr_goto (tgt := 112) dX9_of_100 rfl ?_
              exact xr_iret dX9_of_112 rfl rfl (⟨_, rfl, rfl, rfl, rfl, trivial⟩)
        · refine xr_iload_n dX9_of_72 2 rfl ?_
          refine xr_bipush (v := 21) dX9_of_73 rfl ?_
          refine xr_icmp_ne (tgt := 113) dX9_of_75 rfl (fun c13 => ?_) (fun c13 => ?_)
          · refine xr_ldc coX9_105 dX9_of_113 ?_
            exact xr_iret dX9_of_115 rfl rfl (⟨_, rfl, rfl, rfl, rfl, trivial⟩)
          · refine xr_iload_n dX9_of_78 1 rfl ?_
            refine xb_cS (As := [.int (nu)]) (rest := []) mlX9_134 (c_X9_isGirl nu) dX9_of_79 rfl rfl (Nat.le_of_ble_eq_true rfl) (by decide) (by decide) ?_
            refine xb_beq (tgt := 113) dX9_of_82 rfl (fun c14 => ?_) (fun c14 => ?_)
            · refine xr_ldc coX9_105 dX9_of_113 ?_
              exact xr_iret dX9_of_115 rfl rfl (⟨_, rfl, rfl, rfl, rfl, trivial⟩)
            · obtain ⟨h_, hh_, rfl⟩ := x_nat (N := 25) (by decide) rfl c14
              refine xr_iload_n dX9_of_85 2 rfl ?_
              refine xr_bipush (v := 20) dX9_of_86 rfl ?_
              refine xr_icmp_ne (tgt := 103) dX9_of_88 rfl (fun c15 => ?_) (fun c15 => ?_)
              · refine xr_aload_n dX9_of_103 0 rfl ?_
                refine xr_getR flX9_47 dX9_of_104 s_0 rfl ?_
                refine xr_getR flX9_141 dX9_of_107 s_35 rfl ?_
                refine xr_iload_n dX9_of_110 1 rfl ?_
                refine xb_iald (j := h_) (v := M 37 h_) dX9_of_111 s_37 hh_ (by decide) rfl ?_
                exact xr_iret dX9_of_112 rfl rfl (⟨_, rfl, rfl, rfl, rfl, trivial⟩)
              · refine xr_aload_n dX9_of_91 0 rfl ?_
                refine xr_getR flX9_47 dX9_of_92 s_0 rfl ?_
                refine xr_getR flX9_137 dX9_of_95 s_35 rfl ?_
                refine xr_iload_n dX9_of_98 1 rfl ?_
                refine xb_iald (j := h_) (v := M 36 h_) dX9_of_99 s_36 hh_ (by decide) rfl ?_
                refine xr_goto (tgt := 112) dX9_of_100 rfl ?_
                exact xr_iret dX9_of_112 rfl rfl (⟨_, rfl, rfl, rfl, rfl, trivial⟩)
      · refine xr_iload_n dX9_of_51 1 rfl ?_
        refine xr_if_ne (tgt := 63) dX9_of_52 rfl (fun c16 => ?_) (fun c16 => ?_)
        · refine xr_ldc coX9_105 dX9_of_63 ?_
          exact xr_iret dX9_of_65 rfl rfl (⟨_, rfl, rfl, rfl, rfl, trivial⟩)
        · refine xr_aload_n dX9_of_55 0 rfl ?_
          refine xr_iload_n dX9_of_56 2 rfl ?_
          refine xr_callV (As := [.int (w)]) (rest := []) mlX9_131 (g_X9_settingOf w) dX9_of_57 s_0 rfl rfl (Nat.le_of_ble_eq_true rfl) (by decide) ⟨by decide, by decide⟩ (fun v s2 M9 J2 hq => ?_)
          obtain ⟨r17, rfl, rfl, rfl, rfl, _⟩ := hq
          try dsimp only [Option.toList, List.cons_append, List.nil_append]
          refine xr_goto (tgt := 65) dX9_of_60 rfl ?_
          exact xr_iret dX9_of_65 rfl rfl (⟨_, rfl, rfl, rfl, rfl, trivial⟩)
  · refine xr_iload_n dX9_of_4 2 rfl ?_
    refine xr_iconst (v := 5) dX9_of_5 rfl ?_
    refine xr_icmp_gt (tgt := 39) dX9_of_6 rfl (fun c18 => ?_) (fun c18 => ?_)
    · refine xr_iload_n dX9_of_39 2 rfl ?_
      refine xr_bipush (v := 10) dX9_of_40 rfl ?_
      refine xr_icmp_lt (tgt := 66) dX9_of_42 rfl (fun c19 => ?_) (fun c19 => ?_)
      · refine xr_iload_n dX9_of_66 2 rfl ?_
        refine xr_bipush (v := 20) dX9_of_67 rfl ?_
        refine xr_icmp_eq (tgt := 78) dX9_of_69 rfl (fun c20 => ?_) (fun c20 => ?_)
        · refine xr_iload_n dX9_of_78 1 rfl ?_
          refine xb_cS (As := [.int (nu)]) (rest := []) mlX9_134 (c_X9_isGirl nu) dX9_of_79 rfl rfl (Nat.le_of_ble_eq_true rfl) (by decide) (by decide) ?_
          refine xb_beq (tgt := 113) dX9_of_82 rfl (fun c21 => ?_) (fun c21 => ?_)
          · refine xr_ldc coX9_105 dX9_of_113 ?_
            exact xr_iret dX9_of_115 rfl rfl (⟨_, rfl, rfl, rfl, rfl, trivial⟩)
          · obtain ⟨h_, hh_, rfl⟩ := x_nat (N := 25) (by decide) rfl c21
            refine xr_iload_n dX9_of_85 2 rfl ?_
            refine xr_bipush (v := 20) dX9_of_86 rfl ?_
            refine xr_icmp_ne (tgt := 103) dX9_of_88 rfl (fun c22 => ?_) (fun c22 => ?_)
            · refine xr_aload_n dX9_of_103 0 rfl ?_
              refine xr_getR flX9_47 dX9_of_104 s_0 rfl ?_
              refine xr_getR flX9_141 dX9_of_107 s_35 rfl ?_
              refine xr_iload_n dX9_of_110 1 rfl ?_
              refine xb_iald (j := h_) (v := M 37 h_) dX9_of_111 s_37 hh_ (by decide) rfl ?_
              exact xr_iret dX9_of_112 rfl rfl (⟨_, rfl, rfl, rfl, rfl, trivial⟩)
            · refine xr_aload_n dX9_of_91 0 rfl ?_
              refine xr_getR flX9_47 dX9_of_92 s_0 rfl ?_
              refine xr_getR flX9_137 dX9_of_95 s_35 rfl ?_
              refine xr_iload_n dX9_of_98 1 rfl ?_
              refine xb_iald (j := h_) (v := M 36 h_) dX9_of_99 s_36 hh_ (by decide) rfl ?_
              refine xr_goto (tgt := 112) dX9_of_100 rfl ?_
              exact xr_iret dX9_of_112 rfl rfl (⟨_, rfl, rfl, rfl, rfl, trivial⟩)
        · refine xr_iload_n dX9_of_72 2 rfl ?_
          refine xr_bipush (v := 21) dX9_of_73 rfl ?_
          refine xr_icmp_ne (tgt := 113) dX9_of_75 rfl (fun c23 => ?_) (fun c23 => ?_)
          · refine xr_ldc coX9_105 dX9_of_113 ?_
            exact xr_iret dX9_of_115 rfl rfl (⟨_, rfl, rfl, rfl, rfl, trivial⟩)
          · refine xr_iload_n dX9_of_78 1 rfl ?_
            refine xb_cS (As := [.int (nu)]) (rest := []) mlX9_134 (c_X9_isGirl nu) dX9_of_79 rfl rfl (Nat.le_of_ble_eq_true rfl) (by decide) (by decide) ?_
            refine xb_beq (tgt := 113) dX9_of_82 rfl (fun c24 => ?_) (fun c24 => ?_)
            · refine xr_ldc coX9_105 dX9_of_113 ?_
              exact xr_iret dX9_of_115 rfl rfl (⟨_, rfl, rfl, rfl, rfl, trivial⟩)
            · obtain ⟨h_, hh_, rfl⟩ := x_nat (N := 25) (by decide) rfl c24
              refine xr_iload_n dX9_of_85 2 rfl ?_
              refine xr_bipush (v := 20) dX9_of_86 rfl ?_
              refine xr_icmp_ne (tgt := 103) dX9_of_88 rfl (fun c25 => ?_) (fun c25 => ?_)
              · refine xr_aload_n dX9_of_103 0 rfl ?_
                refine xr_getR flX9_47 dX9_of_104 s_0 rfl ?_
                refine xr_getR flX9_141 dX9_of_107 s_35 rfl ?_
                refine xr_iload_n dX9_of_110 1 rfl ?_
                refine xb_iald (j := h_) (v := M 37 h_) dX9_of_111 s_37 hh_ (by decide) rfl ?_
                exact xr_iret dX9_of_112 rfl rfl (⟨_, rfl, rfl, rfl, rfl, trivial⟩)
              · refine xr_aload_n dX9_of_91 0 rfl ?_
                refine xr_getR flX9_47 dX9_of_92 s_0 rfl ?_
                refine xr_getR flX9_137 dX9_of_95 s_35 rfl ?_
                refine xr_iload_n dX9_of_98 1 rfl ?_
                refine xb_iald (j := h_) (v := M 36 h_) dX9_of_99 s_36 hh_ (by decide) rfl ?_
                refine xr_goto (tgt := 112) dX9_of_100 rfl ?_
                exact xr_iret dX9_of_112 rfl rfl (⟨_, rfl, rfl, rfl, rfl, trivial⟩)
      · refine xr_iload_n dX9_of_45 2 rfl ?_
        refine xr_bipush (v := 15) dX9_of_46 rfl ?_
        refine xr_icmp_gt (tgt := 66) dX9_of_48 rfl (fun c26 => ?_) (fun c26 => ?_)
        · refine xr_iload_n dX9_of_66 2 rfl ?_
          refine xr_bipush (v := 20) dX9_of_67 rfl ?_
          refine xr_icmp_eq (tgt := 78) dX9_of_69 rfl (fun c27 => ?_) (fun c27 => ?_)
          · refine xr_iload_n dX9_of_78 1 rfl ?_
            refine xb_cS (As := [.int (nu)]) (rest := []) mlX9_134 (c_X9_isGirl nu) dX9_of_79 rfl rfl (Nat.le_of_ble_eq_true rfl) (by decide) (by decide) ?_
            refine xb_beq (tgt := 113) dX9_of_82 rfl (fun c28 => ?_) (fun c28 => ?_)
            · refine xr_ldc coX9_105 dX9_of_113 ?_
              exact xr_iret dX9_of_115 rfl rfl (⟨_, rfl, rfl, rfl, rfl, trivial⟩)
            · obtain ⟨h_, hh_, rfl⟩ := x_nat (N := 25) (by decide) rfl c28
              refine xr_iload_n dX9_of_85 2 rfl ?_
              refine xr_bipush (v := 20) dX9_of_86 rfl ?_
              refine xr_icmp_ne (tgt := 103) dX9_of_88 rfl (fun c29 => ?_) (fun c29 => ?_)
              · refine xr_aload_n dX9_of_103 0 rfl ?_
                refine xr_getR flX9_47 dX9_of_104 s_0 rfl ?_
                refine xr_getR flX9_141 dX9_of_107 s_35 rfl ?_
                refine xr_iload_n dX9_of_110 1 rfl ?_
                refine xb_iald (j := h_) (v := M 37 h_) dX9_of_111 s_37 hh_ (by decide) rfl ?_
                exact xr_iret dX9_of_112 rfl rfl (⟨_, rfl, rfl, rfl, rfl, trivial⟩)
              · refine xr_aload_n dX9_of_91 0 rfl ?_
                refine xr_getR flX9_47 dX9_of_92 s_0 rfl ?_
                refine xr_getR flX9_137 dX9_of_95 s_35 rfl ?_
                refine xr_iload_n dX9_of_98 1 rfl ?_
                refine xb_iald (j := h_) (v := M 36 h_) dX9_of_99 s_36 hh_ (by decide) rfl ?_
                refine xr_goto (tgt := 112) dX9_of_100 rfl ?_
                exact xr_iret dX9_of_112 rfl rfl (⟨_, rfl, rfl, rfl, rfl, trivial⟩)
          · refine xr_iload_n dX9_of_72 2 rfl ?_
            refine xr_bipush (v := 21) dX9_of_73 rfl ?_
            refine xr_icmp_ne (tgt := 113) dX9_of_75 rfl (fun c30 => ?_) (fun c30 => ?_)
            · refine xr_ldc coX9_105 dX9_of_113 ?_
              exact xr_iret dX9_of_115 rfl rfl (⟨_, rfl, rfl, rfl, rfl, trivial⟩)
            · refine xr_iload_n dX9_of_78 1 rfl ?_
              refine xb_cS (As := [.int (nu)]) (rest := []) mlX9_134 (c_X9_isGirl nu) dX9_of_79 rfl rfl (Nat.le_of_ble_eq_true rfl) (by decide) (by decide) ?_
              refine xb_beq (tgt := 113) dX9_of_82 rfl (fun c31 => ?_) (fun c31 => ?_)
              · refine xr_ldc coX9_105 dX9_of_113 ?_
                exact xr_iret dX9_of_115 rfl rfl (⟨_, rfl, rfl, rfl, rfl, trivial⟩)
              · obtain ⟨h_, hh_, rfl⟩ := x_nat (N := 25) (by decide) rfl c31
                refine xr_iload_n dX9_of_85 2 rfl ?_
                refine xr_bipush (v := 20) dX9_of_86 rfl ?_
                refine xr_icmp_ne (tgt := 103) dX9_of_88 rfl (fun c32 => ?_) (fun c32 => ?_)
                · refine xr_aload_n dX9_of_103 0 rfl ?_
                  refine xr_getR flX9_47 dX9_of_104 s_0 rfl ?_
                  refine xr_getR flX9_141 dX9_of_107 s_35 rfl ?_
                  refine xr_iload_n dX9_of_110 1 rfl ?_
                  refine xb_iald (j := h_) (v := M 37 h_) dX9_of_111 s_37 hh_ (by decide) rfl ?_
                  exact xr_iret dX9_of_112 rfl rfl (⟨_, rfl, rfl, rfl, rfl, trivial⟩)
                · refine xr_aload_n dX9_of_91 0 rfl ?_
                  refine xr_getR flX9_47 dX9_of_92 s_0 rfl ?_
                  refine xr_getR flX9_137 dX9_of_95 s_35 rfl ?_
                  refine xr_iload_n dX9_of_98 1 rfl ?_
                  refine xb_iald (j := h_) (v := M 36 h_) dX9_of_99 s_36 hh_ (by decide) rfl ?_
                  refine xr_goto (tgt := 112) dX9_of_100 rfl ?_
                  exact xr_iret dX9_of_112 rfl rfl (⟨_, rfl, rfl, rfl, rfl, trivial⟩)
        · refine xr_iload_n dX9_of_51 1 rfl ?_
          refine xr_if_ne (tgt := 63) dX9_of_52 rfl (fun c33 => ?_) (fun c33 => ?_)
          · refine xr_ldc coX9_105 dX9_of_63 ?_
            exact xr_iret dX9_of_65 rfl rfl (⟨_, rfl, rfl, rfl, rfl, trivial⟩)
          · refine xr_aload_n dX9_of_55 0 rfl ?_
            refine xr_iload_n dX9_of_56 2 rfl ?_
            refine xr_callV (As := [.int (w)]) (rest := []) mlX9_131 (g_X9_settingOf w) dX9_of_57 s_0 rfl rfl (Nat.le_of_ble_eq_true rfl) (by decide) ⟨by decide, by decide⟩ (fun v s2 M9 J2 hq => ?_)
            obtain ⟨r34, rfl, rfl, rfl, rfl, _⟩ := hq
            try dsimp only [Option.toList, List.cons_append, List.nil_append]
            refine xr_goto (tgt := 65) dX9_of_60 rfl ?_
            exact xr_iret dX9_of_65 rfl rfl (⟨_, rfl, rfl, rfl, rfl, trivial⟩)
    · refine xr_aload_n dX9_of_9 0 rfl ?_
      refine xr_getR flX9_28 dX9_of_10 s_0 rfl ?_
      refine xr_iload_n dX9_of_13 1 rfl ?_
      refine xb_cV (As := [.int (nu)]) (rest := []) mlX9_118 (c_X5_has nu (by omega) e_cn) dX9_of_14 s_13 rfl rfl (Nat.le_of_ble_eq_true rfl) (by decide) (by decide) ?_
      refine xb_beq (tgt := 36) dX9_of_17 rfl (fun c35 => ?_) (fun c35 => ?_)
      · refine xr_ldc coX9_105 dX9_of_36 ?_
        exact xr_iret dX9_of_38 rfl rfl (⟨_, rfl, rfl, rfl, rfl, trivial⟩)
      · obtain ⟨h_, hh_, rfl⟩ := x_nat (N := cn) (by omega) rfl c35
        refine xr_aload_n dX9_of_20 0 rfl ?_
        refine xr_getR flX9_28 dX9_of_21 s_0 rfl ?_
        refine xr_getR flX9_121 dX9_of_24 s_13 rfl ?_
        refine xr_iload_n dX9_of_27 1 rfl ?_
        refine xb_aald (j := h_) (q := 15 + h_) (by decide) dX9_of_28 s_14 (by omega) (by decide) (if_pos (by omega)) ?_
        refine xr_iload_n dX9_of_29 2 rfl ?_
        refine xr_callV (As := [.int (w)]) (rest := []) mlX9_125 (g_X2_told w (s_hp15 (by omega))) dX9_of_30 (s_hp15 (by omega)) rfl rfl (Nat.le_of_ble_eq_true rfl) (by decide) ⟨by decide, by decide⟩ (fun v s2 M9 J2 hq => ?_)
        obtain ⟨r37, rfl, rfl, rfl, rfl, hx36⟩ := hq
        try dsimp only [Option.toList, List.cons_append, List.nil_append]
        refine xr_goto (tgt := 38) dX9_of_33 rfl ?_
        exact xr_iret dX9_of_38 rfl rfl (⟨_, rfl, rfl, rfl, rfl, trivial⟩)
set_option maxRecDepth 100000 in
set_option maxHeartbeats 4000000 in
theorem g_X9_led (w : Int32) {l : Launch} {G : xG} {M : xM} {J : xJ} (hI : InvC M) : x_M l G fX9_led 0 0 0 [.ref (0), .int (w)] x_SH M J (qPI M J (fun r => True)) := by
  refine xb_of pX9 (Nat.le_of_ble_eq_true rfl) rfl ?_
  obtain ⟨⟨cn, h_cn, e_cn⟩, ⟨cm, h_cm, e_cm⟩, ⟨L, h_L, e_L⟩, hv, hD, ⟨n, h_n, e_n⟩, ⟨un, wn, h_uw, h_wn, e_un, e_wn⟩, ⟨b, h_b, e_b⟩, hkd, ⟨ra, h_ra, e_ra⟩, hsl, hS⟩ := hI
  refine xr_iload_n dX9_led_0 1 rfl ?_
  refine xr_if_ne (tgt := 12) dX9_led_1 rfl (fun c1 => ?_) (fun c1 => ?_)
  · refine xr_iload_n dX9_led_12 1 rfl ?_
    refine xr_iconst (v := 1) dX9_led_13 rfl ?_
    refine xr_icmp_ne (tgt := 27) dX9_led_14 rfl (fun c2 => ?_) (fun c2 => ?_)
    · refine xr_iconst (v := -1) dX9_led_27 rfl ?_
      exact xr_iret dX9_led_28 rfl rfl (⟨_, rfl, rfl, rfl, rfl, trivial⟩)
    · refine xr_aload_n dX9_led_17 0 rfl ?_
      refine xr_getR flX9_28 dX9_led_18 s_0 rfl ?_
      refine xb_get (v := M 13 9) flX9_176 dX9_led_21 s_13 rfl rfl ?_
      refine xr_goto (tgt := 28) dX9_led_24 rfl ?_
      exact xr_iret dX9_led_28 rfl rfl (⟨_, rfl, rfl, rfl, rfl, trivial⟩)
  · refine xr_aload_n dX9_led_4 0 rfl ?_
    refine xr_getR flX9_28 dX9_led_5 s_0 rfl ?_
    refine xb_get (v := M 13 8) flX9_173 dX9_led_8 s_13 rfl rfl ?_
    exact xr_iret dX9_led_11 rfl rfl (⟨_, rfl, rfl, rfl, rfl, trivial⟩)
set_option maxRecDepth 100000 in
set_option maxHeartbeats 4000000 in
theorem g_X9_then (h kk w : Int32) {l : Launch} {G : xG} {M : xM} {J : xJ} (hI : InvC M) : x_M l G fX9_then 7 0 0 [.ref (0), .int (h), .int (kk), .int (w)] x_SH M J (qKI WTH M J (fun r M2 => InvC M2)) := by
  refine xb_of pX9 (Nat.le_of_ble_eq_true rfl) rfl ?_
  obtain ⟨⟨cn, h_cn, e_cn⟩, ⟨cm, h_cm, e_cm⟩, ⟨L, h_L, e_L⟩, hv, hD, ⟨n, h_n, e_n⟩, ⟨un, wn, h_uw, h_wn, e_un, e_wn⟩, ⟨b, h_b, e_b⟩, hkd, ⟨ra, h_ra, e_ra⟩, hsl, hS⟩ := hI
  refine xr_aload_n dX9_then_0 0 rfl ?_
  refine xr_getR flX9_28 dX9_then_1 s_0 rfl ?_
  refine xr_iload_n dX9_then_4 1 rfl ?_
  refine xb_cV (As := [.int (h)]) (rest := []) mlX9_118 (c_X5_has h (by omega) e_cn) dX9_then_5 s_13 rfl rfl (Nat.le_of_ble_eq_true rfl) (by decide) (by decide) ?_
  refine xb_beq (tgt := 31) dX9_then_8 rfl (fun c1 => ?_) (fun c1 => ?_)
  · refine xr_ldc coX9_105 dX9_then_31 ?_
    exact xr_iret dX9_then_33 rfl rfl (⟨_, rfl, rfl, rfl, Ke.rf, ⟨⟨cn, by omega, e_cn⟩, ⟨cm, by omega, e_cm⟩, ⟨L, by omega, e_L⟩, (fun kk hkk => by rw [show M 3 kk = M 3 kk from rfl]; exact hv kk hkk), hD, ⟨n, by omega, e_n⟩, ⟨un, wn, by omega, by omega, e_un, e_wn⟩, ⟨b, by omega, e_b⟩, (fun j hj => by obtain ⟨q, hq, eq⟩ := hkd j hj; exact ⟨q, hq, (show M 47 j = M 47 j from rfl).trans eq⟩), ⟨ra, by omega, e_ra⟩, (fun j hj => by obtain ⟨s, hs, es⟩ := hsl j hj; exact ⟨s, hs, (show M (50 + 2 * j) 3 = M (50 + 2 * j) 3 from rfl).trans es⟩), (fun j hj => by obtain ⟨q, hq, eq⟩ := hS j hj; exact ⟨q, hq, (show M 36 j = M 36 j from rfl).trans eq⟩)⟩⟩)
  · obtain ⟨h_, hh_, rfl⟩ := x_nat (N := cn) (by omega) rfl c1
    refine xr_iload_n dX9_then_11 2 rfl ?_
    refine xr_if_lt (tgt := 31) dX9_then_12 rfl (fun c2 => ?_) (fun c2 => ?_)
    · refine xr_ldc coX9_105 dX9_then_31 ?_
      exact xr_iret dX9_then_33 rfl rfl (⟨_, rfl, rfl, rfl, Ke.rf, ⟨⟨cn, by omega, e_cn⟩, ⟨cm, by omega, e_cm⟩, ⟨L, by omega, e_L⟩, (fun kk hkk => by rw [show M 3 kk = M 3 kk from rfl]; exact hv kk hkk), hD, ⟨n, by omega, e_n⟩, ⟨un, wn, by omega, by omega, e_un, e_wn⟩, ⟨b, by omega, e_b⟩, (fun j hj => by obtain ⟨q, hq, eq⟩ := hkd j hj; exact ⟨q, hq, (show M 47 j = M 47 j from rfl).trans eq⟩), ⟨ra, by omega, e_ra⟩, (fun j hj => by obtain ⟨s, hs, es⟩ := hsl j hj; exact ⟨s, hs, (show M (50 + 2 * j) 3 = M (50 + 2 * j) 3 from rfl).trans es⟩), (fun j hj => by obtain ⟨q, hq, eq⟩ := hS j hj; exact ⟨q, hq, (show M 36 j = M 36 j from rfl).trans eq⟩)⟩⟩)
    · refine xr_iload_n dX9_then_15 2 rfl ?_
      refine xr_sipush (v := 200) dX9_then_16 rfl ?_
      refine xr_icmp_gt (tgt := 31) dX9_then_19 rfl (fun c3 => ?_) (fun c3 => ?_)
      · refine xr_ldc coX9_105 dX9_then_31 ?_
        exact xr_iret dX9_then_33 rfl rfl (⟨_, rfl, rfl, rfl, Ke.rf, ⟨⟨cn, by omega, e_cn⟩, ⟨cm, by omega, e_cm⟩, ⟨L, by omega, e_L⟩, (fun kk hkk => by rw [show M 3 kk = M 3 kk from rfl]; exact hv kk hkk), hD, ⟨n, by omega, e_n⟩, ⟨un, wn, by omega, by omega, e_un, e_wn⟩, ⟨b, by omega, e_b⟩, (fun j hj => by obtain ⟨q, hq, eq⟩ := hkd j hj; exact ⟨q, hq, (show M 47 j = M 47 j from rfl).trans eq⟩), ⟨ra, by omega, e_ra⟩, (fun j hj => by obtain ⟨s, hs, es⟩ := hsl j hj; exact ⟨s, hs, (show M (50 + 2 * j) 3 = M (50 + 2 * j) 3 from rfl).trans es⟩), (fun j hj => by obtain ⟨q, hq, eq⟩ := hS j hj; exact ⟨q, hq, (show M 36 j = M 36 j from rfl).trans eq⟩)⟩⟩)
      · refine xr_iload_n dX9_then_22 3 rfl ?_
        refine xr_if_lt (tgt := 31) dX9_then_23 rfl (fun c4 => ?_) (fun c4 => ?_)
        · refine xr_ldc coX9_105 dX9_then_31 ?_
          exact xr_iret dX9_then_33 rfl rfl (⟨_, rfl, rfl, rfl, Ke.rf, ⟨⟨cn, by omega, e_cn⟩, ⟨cm, by omega, e_cm⟩, ⟨L, by omega, e_L⟩, (fun kk hkk => by rw [show M 3 kk = M 3 kk from rfl]; exact hv kk hkk), hD, ⟨n, by omega, e_n⟩, ⟨un, wn, by omega, by omega, e_un, e_wn⟩, ⟨b, by omega, e_b⟩, (fun j hj => by obtain ⟨q, hq, eq⟩ := hkd j hj; exact ⟨q, hq, (show M 47 j = M 47 j from rfl).trans eq⟩), ⟨ra, by omega, e_ra⟩, (fun j hj => by obtain ⟨s, hs, es⟩ := hsl j hj; exact ⟨s, hs, (show M (50 + 2 * j) 3 = M (50 + 2 * j) 3 from rfl).trans es⟩), (fun j hj => by obtain ⟨q, hq, eq⟩ := hS j hj; exact ⟨q, hq, (show M 36 j = M 36 j from rfl).trans eq⟩)⟩⟩)
        · refine xr_iload_n dX9_then_26 3 rfl ?_
          refine xr_iconst (v := 2) dX9_then_27 rfl ?_
          refine xr_icmp_le (tgt := 34) dX9_then_28 rfl (fun c5 => ?_) (fun c5 => ?_)
          · obtain ⟨K, hK, rfl⟩ := x_natle (v := kk) (N := 200) (K := 200) (by decide) (by decide) ⟨by grind, by grind⟩
            refine xr_aload_n dX9_then_34 0 rfl ?_
            refine xr_getR flX9_40 dX9_then_35 s_0 rfl ?_
            refine xr_iload_n dX9_then_38 1 rfl ?_
            refine xr_iload_n dX9_then_39 2 rfl ?_
            refine xr_callV (As := [.int (nI (h_)), .int (nI (K))]) (rest := []) mlX9_179 (g_X7_behind (h := h_) (K := K) (by omega) (by omega) (fun k hk => by have h3 := (show M 3 k = M 3 k from rfl); rw [h3]; exact hv k hk) (by omega) e_L (by omega) e_cn) dX9_then_40 s_27 rfl rfl (Nat.le_of_ble_eq_true rfl) (by decide) ⟨by decide, by decide⟩ (fun v s2 M6 J2 hq => ?_)
            obtain ⟨rfl, rfl, rfl, k7⟩ := hq
            try dsimp only [Option.toList, List.cons_append, List.nil_append]
            refine xr_astore (ls2 := [(4, .ref (30 + h_)), (0, .ref (0)), (1, .int (nI (h_))), (2, .int (nI (K))), (3, .int (w))]) dX9_then_43 (by decide) rfl ?_
            refine xr_iload_n dX9_then_45 4 rfl ?_
            refine xr_if_ne (tgt := 55) dX9_then_46 rfl (fun c8 => ?_) (fun c8 => ?_)
            · refine xr_iload_n dX9_then_55 4 rfl ?_
              refine xr_iconst (v := 1) dX9_then_56 rfl ?_
              refine xr_icmp_ne (tgt := 68) dX9_then_57 rfl (fun c9 => ?_) (fun c9 => ?_)
              · refine xr_aload dX9_then_68 0 rfl ?_
                refine xb_get (v := M6 (30 + h_) 4) flX9_189 dX9_then_70 (s_hp30 (by omega)) rfl rfl ?_
                exact xr_iret dX9_then_73 rfl rfl (⟨_, rfl, rfl, rfl, (Ke.tr (fun pp kk => (fun hh => Or.elim hh (fun h => (Or.inl h)) (fun hh => Or.elim hh (fun h => (Or.inr (Or.inl h))) (fun hh => Or.elim hh (fun h => (Or.inr (Or.inr (Or.inl h)))) (fun h => (Or.inr (Or.inr (Or.inr h)))))))) Ke.rf k7), ⟨⟨cn, by omega, (Eq.trans (k7 13 2 (by decide)) e_cn)⟩, ⟨cm, by omega, (Eq.trans (k7 20 2 (by decide)) e_cm)⟩, ⟨L, by omega, (Eq.trans (k7 1 4 (by decide)) e_L)⟩, (fun kk hkk => by rw [show M6 3 kk = M 3 kk from (Eq.trans (k7 3 kk (by unfold WTS; omega)) rfl)]; exact hv kk hkk), (DI_ke (by intro k; unfold WTS; omega) k7 hD), ⟨n, by omega, (Eq.trans (k7 6 2 (by decide)) e_n)⟩, ⟨un, wn, by omega, by omega, (Eq.trans (k7 41 4 (by decide)) e_un), (Eq.trans (k7 41 5 (by decide)) e_wn)⟩, ⟨b, by omega, (Eq.trans (k7 46 2 (by decide)) e_b)⟩, (fun j hj => by obtain ⟨q, hq, eq⟩ := hkd j hj; exact ⟨q, hq, (show M6 47 j = M 47 j from (Eq.trans (k7 47 j (by unfold WTS; omega)) rfl)).trans eq⟩), ⟨ra, by omega, (Eq.trans (k7 46 3 (by decide)) e_ra)⟩, (fun j hj => by obtain ⟨s, hs, es⟩ := hsl j hj; exact ⟨s, hs, (show M6 (50 + 2 * j) 3 = M (50 + 2 * j) 3 from (Eq.trans (k7 (50 + 2 * j) 3 (by unfold WTS; omega)) rfl)).trans es⟩), (fun j hj => by obtain ⟨q, hq, eq⟩ := hS j hj; exact ⟨q, hq, (show M6 36 j = M 36 j from (Eq.trans (k7 36 j (by unfold WTS; omega)) rfl)).trans eq⟩)⟩⟩)
              · refine xr_aload dX9_then_60 0 rfl ?_
                refine xb_get (v := M6 (30 + h_) 3) flX9_186 dX9_then_62 (s_hp30 (by omega)) rfl rfl ?_
                refine xr_goto (tgt := 73) dX9_then_65 rfl ?_
                exact xr_iret dX9_then_73 rfl rfl (⟨_, rfl, rfl, rfl, (Ke.tr (fun pp kk => (fun hh => Or.elim hh (fun h => (Or.inl h)) (fun hh => Or.elim hh (fun h => (Or.inr (Or.inl h))) (fun hh => Or.elim hh (fun h => (Or.inr (Or.inr (Or.inl h)))) (fun h => (Or.inr (Or.inr (Or.inr h)))))))) Ke.rf k7), ⟨⟨cn, by omega, (Eq.trans (k7 13 2 (by decide)) e_cn)⟩, ⟨cm, by omega, (Eq.trans (k7 20 2 (by decide)) e_cm)⟩, ⟨L, by omega, (Eq.trans (k7 1 4 (by decide)) e_L)⟩, (fun kk hkk => by rw [show M6 3 kk = M 3 kk from (Eq.trans (k7 3 kk (by unfold WTS; omega)) rfl)]; exact hv kk hkk), (DI_ke (by intro k; unfold WTS; omega) k7 hD), ⟨n, by omega, (Eq.trans (k7 6 2 (by decide)) e_n)⟩, ⟨un, wn, by omega, by omega, (Eq.trans (k7 41 4 (by decide)) e_un), (Eq.trans (k7 41 5 (by decide)) e_wn)⟩, ⟨b, by omega, (Eq.trans (k7 46 2 (by decide)) e_b)⟩, (fun j hj => by obtain ⟨q, hq, eq⟩ := hkd j hj; exact ⟨q, hq, (show M6 47 j = M 47 j from (Eq.trans (k7 47 j (by unfold WTS; omega)) rfl)).trans eq⟩), ⟨ra, by omega, (Eq.trans (k7 46 3 (by decide)) e_ra)⟩, (fun j hj => by obtain ⟨s, hs, es⟩ := hsl j hj; exact ⟨s, hs, (show M6 (50 + 2 * j) 3 = M (50 + 2 * j) 3 from (Eq.trans (k7 (50 + 2 * j) 3 (by unfold WTS; omega)) rfl)).trans es⟩), (fun j hj => by obtain ⟨q, hq, eq⟩ := hS j hj; exact ⟨q, hq, (show M6 36 j = M 36 j from (Eq.trans (k7 36 j (by unfold WTS; omega)) rfl)).trans eq⟩)⟩⟩)
            · refine xr_aload dX9_then_49 0 rfl ?_
              refine xb_get (v := M6 (30 + h_) 2) flX9_183 dX9_then_51 (s_hp30 (by omega)) rfl rfl ?_
              exact xr_iret dX9_then_54 rfl rfl (⟨_, rfl, rfl, rfl, (Ke.tr (fun pp kk => (fun hh => Or.elim hh (fun h => (Or.inl h)) (fun hh => Or.elim hh (fun h => (Or.inr (Or.inl h))) (fun hh => Or.elim hh (fun h => (Or.inr (Or.inr (Or.inl h)))) (fun h => (Or.inr (Or.inr (Or.inr h)))))))) Ke.rf k7), ⟨⟨cn, by omega, (Eq.trans (k7 13 2 (by decide)) e_cn)⟩, ⟨cm, by omega, (Eq.trans (k7 20 2 (by decide)) e_cm)⟩, ⟨L, by omega, (Eq.trans (k7 1 4 (by decide)) e_L)⟩, (fun kk hkk => by rw [show M6 3 kk = M 3 kk from (Eq.trans (k7 3 kk (by unfold WTS; omega)) rfl)]; exact hv kk hkk), (DI_ke (by intro k; unfold WTS; omega) k7 hD), ⟨n, by omega, (Eq.trans (k7 6 2 (by decide)) e_n)⟩, ⟨un, wn, by omega, by omega, (Eq.trans (k7 41 4 (by decide)) e_un), (Eq.trans (k7 41 5 (by decide)) e_wn)⟩, ⟨b, by omega, (Eq.trans (k7 46 2 (by decide)) e_b)⟩, (fun j hj => by obtain ⟨q, hq, eq⟩ := hkd j hj; exact ⟨q, hq, (show M6 47 j = M 47 j from (Eq.trans (k7 47 j (by unfold WTS; omega)) rfl)).trans eq⟩), ⟨ra, by omega, (Eq.trans (k7 46 3 (by decide)) e_ra)⟩, (fun j hj => by obtain ⟨s, hs, es⟩ := hsl j hj; exact ⟨s, hs, (show M6 (50 + 2 * j) 3 = M (50 + 2 * j) 3 from (Eq.trans (k7 (50 + 2 * j) 3 (by unfold WTS; omega)) rfl)).trans es⟩), (fun j hj => by obtain ⟨q, hq, eq⟩ := hS j hj; exact ⟨q, hq, (show M6 36 j = M 36 j from (Eq.trans (k7 36 j (by unfold WTS; omega)) rfl)).trans eq⟩)⟩⟩)
          · refine xr_ldc coX9_105 dX9_then_31 ?_
            exact xr_iret dX9_then_33 rfl rfl (⟨_, rfl, rfl, rfl, Ke.rf, ⟨⟨cn, by omega, e_cn⟩, ⟨cm, by omega, e_cm⟩, ⟨L, by omega, e_L⟩, (fun kk hkk => by rw [show M 3 kk = M 3 kk from rfl]; exact hv kk hkk), hD, ⟨n, by omega, e_n⟩, ⟨un, wn, by omega, by omega, e_un, e_wn⟩, ⟨b, by omega, e_b⟩, (fun j hj => by obtain ⟨q, hq, eq⟩ := hkd j hj; exact ⟨q, hq, (show M 47 j = M 47 j from rfl).trans eq⟩), ⟨ra, by omega, e_ra⟩, (fun j hj => by obtain ⟨s, hs, es⟩ := hsl j hj; exact ⟨s, hs, (show M (50 + 2 * j) 3 = M (50 + 2 * j) 3 from rfl).trans es⟩), (fun j hj => by obtain ⟨q, hq, eq⟩ := hS j hj; exact ⟨q, hq, (show M 36 j = M 36 j from rfl).trans eq⟩)⟩⟩)
set_option maxRecDepth 100000 in
set_option maxHeartbeats 4000000 in
theorem g_X9_falls (h : Int32) {l : Launch} {G : xG} {M : xM} {J : xJ} (hI : InvC M) : x_M l G fX9_falls 7 0 0 [.ref (0), .int (h)] x_SH M J (qKI WTH M J (fun r M2 => InvC M2)) := by
  refine xb_of pX9 (Nat.le_of_ble_eq_true rfl) rfl ?_
  obtain ⟨⟨cn, h_cn, e_cn⟩, ⟨cm, h_cm, e_cm⟩, ⟨L, h_L, e_L⟩, hv, hD, ⟨n, h_n, e_n⟩, ⟨un, wn, h_uw, h_wn, e_un, e_wn⟩, ⟨b, h_b, e_b⟩, hkd, ⟨ra, h_ra, e_ra⟩, hsl, hS⟩ := hI
  refine xr_aload_n dX9_falls_0 0 rfl ?_
  refine xr_getR flX9_28 dX9_falls_1 s_0 rfl ?_
  refine xr_iload_n dX9_falls_4 1 rfl ?_
  refine xb_cV (As := [.int (h)]) (rest := []) mlX9_118 (c_X5_has h (by omega) e_cn) dX9_falls_5 s_13 rfl rfl (Nat.le_of_ble_eq_true rfl) (by decide) (by decide) ?_
  refine xb_bne (tgt := 13) dX9_falls_8 rfl (fun c1 => ?_) (fun c1 => ?_)
  · obtain ⟨h_, hh_, rfl⟩ := x_nat (N := cn) (by omega) rfl c1
    refine xr_aload_n dX9_falls_13 0 rfl ?_
    refine xr_getR flX9_40 dX9_falls_14 s_0 rfl ?_
    refine xr_callV (As := []) (rest := []) mlX9_192 (g_X7_begin (by omega) e_cn) dX9_falls_17 s_27 rfl rfl (Nat.le_of_ble_eq_true rfl) (by decide) ⟨by decide, by decide⟩ (fun v s2 M3 J2 hq => ?_)
    obtain ⟨rfl, rfl, rfl, k4, hx2⟩ := hq
    try dsimp only [Option.toList, List.cons_append, List.nil_append]
    refine xr_aload_n dX9_falls_20 0 rfl ?_
    refine xr_getR flX9_40 dX9_falls_21 s_0 rfl ?_
    refine xr_iload_n dX9_falls_24 1 rfl ?_
    refine xr_callV (As := [.int (nI (h_))]) (rest := []) mlX9_195 (g_X7_fallOf (h := h_) (by omega) (fun k hk => by have h3 := (show M3 3 k = M 3 k from (Eq.trans (k4 3 k (by unfold WTB; omega)) rfl)); rw [h3]; exact hv k hk) (by omega) (Eq.trans (k4 1 4 (by decide)) e_L) (by omega) hx2) dX9_falls_25 s_27 rfl rfl (Nat.le_of_ble_eq_true rfl) (by decide) ⟨by decide, by decide⟩ (fun v s2 M6 J2 hq => ?_)
    obtain ⟨r8, rfl, rfl, rfl, k7, hx5⟩ := hq
    try dsimp only [Option.toList, List.cons_append, List.nil_append]
    exact xr_iret dX9_falls_28 rfl rfl (⟨_, rfl, rfl, rfl, (Ke.tr (fun pp kk => (fun hh => Or.elim hh (fun h => (Or.inl h)) (fun hh => Or.elim hh (fun h => (Or.inr (Or.inl h))) (fun hh => Or.elim hh (fun h => (Or.inr (Or.inr (Or.inl (by omega))))) (fun hh => Or.elim hh (fun h => (Or.inr (Or.inr (Or.inl (by omega))))) (fun h => (Or.inr (Or.inr (Or.inr h))))))))) (Ke.tr (fun pp kk => (fun hh => Or.elim hh (fun h => (Or.inr (Or.inr (Or.inl h)))) (fun h => (Or.inr (Or.inr (Or.inr h)))))) Ke.rf k4) k7), ⟨⟨cn, by omega, (Eq.trans (k7 13 2 (by decide)) (Eq.trans (k4 13 2 (by decide)) e_cn))⟩, ⟨cm, by omega, (Eq.trans (k7 20 2 (by decide)) (Eq.trans (k4 20 2 (by decide)) e_cm))⟩, ⟨L, by omega, (Eq.trans (k7 1 4 (by decide)) (Eq.trans (k4 1 4 (by decide)) e_L))⟩, (fun kk hkk => by rw [show M6 3 kk = M 3 kk from (Eq.trans (k7 3 kk (by unfold WS; omega)) (Eq.trans (k4 3 kk (by unfold WTB; omega)) rfl))]; exact hv kk hkk), (DI_ke (by intro k; unfold WS; omega) k7 (DI_ke (by intro k; unfold WTB; omega) k4 hD)), ⟨n, by omega, (Eq.trans (k7 6 2 (by decide)) (Eq.trans (k4 6 2 (by decide)) e_n))⟩, ⟨un, wn, by omega, by omega, (Eq.trans (k7 41 4 (by decide)) (Eq.trans (k4 41 4 (by decide)) e_un)), (Eq.trans (k7 41 5 (by decide)) (Eq.trans (k4 41 5 (by decide)) e_wn))⟩, ⟨b, by omega, (Eq.trans (k7 46 2 (by decide)) (Eq.trans (k4 46 2 (by decide)) e_b))⟩, (fun j hj => by obtain ⟨q, hq, eq⟩ := hkd j hj; exact ⟨q, hq, (show M6 47 j = M 47 j from (Eq.trans (k7 47 j (by unfold WS; omega)) (Eq.trans (k4 47 j (by unfold WTB; omega)) rfl))).trans eq⟩), ⟨ra, by omega, (Eq.trans (k7 46 3 (by decide)) (Eq.trans (k4 46 3 (by decide)) e_ra))⟩, (fun j hj => by obtain ⟨s, hs, es⟩ := hsl j hj; exact ⟨s, hs, (show M6 (50 + 2 * j) 3 = M (50 + 2 * j) 3 from (Eq.trans (k7 (50 + 2 * j) 3 (by unfold WS; omega)) (Eq.trans (k4 (50 + 2 * j) 3 (by unfold WTB; omega)) rfl))).trans es⟩), (fun j hj => by obtain ⟨q, hq, eq⟩ := hS j hj; exact ⟨q, hq, (show M6 36 j = M 36 j from (Eq.trans (k7 36 j (by unfold WS; omega)) (Eq.trans (k4 36 j (by unfold WTB; omega)) rfl))).trans eq⟩)⟩⟩)
  · refine xr_iconst (v := -1) dX9_falls_11 rfl ?_
    exact xr_iret dX9_falls_12 rfl rfl (⟨_, rfl, rfl, rfl, Ke.rf, ⟨⟨cn, by omega, e_cn⟩, ⟨cm, by omega, e_cm⟩, ⟨L, by omega, e_L⟩, (fun kk hkk => by rw [show M 3 kk = M 3 kk from rfl]; exact hv kk hkk), hD, ⟨n, by omega, e_n⟩, ⟨un, wn, by omega, by omega, e_un, e_wn⟩, ⟨b, by omega, e_b⟩, (fun j hj => by obtain ⟨q, hq, eq⟩ := hkd j hj; exact ⟨q, hq, (show M 47 j = M 47 j from rfl).trans eq⟩), ⟨ra, by omega, e_ra⟩, (fun j hj => by obtain ⟨s, hs, es⟩ := hsl j hj; exact ⟨s, hs, (show M (50 + 2 * j) 3 = M (50 + 2 * j) 3 from rfl).trans es⟩), (fun j hj => by obtain ⟨q, hq, eq⟩ := hS j hj; exact ⟨q, hq, (show M 36 j = M 36 j from rfl).trans eq⟩)⟩⟩)
set_option maxRecDepth 100000 in
set_option maxHeartbeats 4000000 in
theorem g_X9_lasts {l : Launch} {G : xG} {M : xM} {J : xJ} (hI : InvC M) : x_M l G fX9_lasts 7 0 0 [.ref (0)] x_SH M J (qKI WTH M J (fun r M2 => InvC M2)) := by
  refine xb_of pX9 (Nat.le_of_ble_eq_true rfl) rfl ?_
  obtain ⟨⟨cn, h_cn, e_cn⟩, ⟨cm, h_cm, e_cm⟩, ⟨L, h_L, e_L⟩, hv, hD, ⟨n, h_n, e_n⟩, ⟨un, wn, h_uw, h_wn, e_un, e_wn⟩, ⟨b, h_b, e_b⟩, hkd, ⟨ra, h_ra, e_ra⟩, hsl, hS⟩ := hI
  refine xr_aload_n dX9_lasts_0 0 rfl ?_
  refine xr_getR flX9_40 dX9_lasts_1 s_0 rfl ?_
  refine xr_callV (As := []) (rest := []) mlX9_192 (g_X7_begin (by omega) e_cn) dX9_lasts_4 s_27 rfl rfl (Nat.le_of_ble_eq_true rfl) (by decide) ⟨by decide, by decide⟩ (fun v s2 M2 J2 hq => ?_)
  obtain ⟨rfl, rfl, rfl, k3, hx1⟩ := hq
  try dsimp only [Option.toList, List.cons_append, List.nil_append]
  refine xr_aload_n dX9_lasts_7 0 rfl ?_
  refine xr_getR flX9_40 dX9_lasts_8 s_0 rfl ?_
  refine xr_callV (As := []) (rest := []) mlX9_198 (g_X7_lasting (fun k hk => by have h3 := (show M2 3 k = M 3 k from (Eq.trans (k3 3 k (by unfold WTB; omega)) rfl)); rw [h3]; exact hv k hk) (by omega) (Eq.trans (k3 1 4 (by decide)) e_L) (by omega) hx1) dX9_lasts_11 s_27 rfl rfl (Nat.le_of_ble_eq_true rfl) (by decide) ⟨by decide, by decide⟩ (fun v s2 M4 J2 hq => ?_)
  obtain ⟨r6, rfl, rfl, rfl, k5, _⟩ := hq
  try dsimp only [Option.toList, List.cons_append, List.nil_append]
  exact xr_iret dX9_lasts_14 rfl rfl (⟨_, rfl, rfl, rfl, (Ke.tr (fun pp kk => (fun hh => Or.elim hh (fun h => (Or.inl h)) (fun hh => Or.elim hh (fun h => (Or.inr (Or.inl h))) (fun hh => Or.elim hh (fun h => (Or.inr (Or.inr (Or.inl (by omega))))) (fun hh => Or.elim hh (fun h => (Or.inr (Or.inr (Or.inl (by omega))))) (fun h => (Or.inr (Or.inr (Or.inr h))))))))) (Ke.tr (fun pp kk => (fun hh => Or.elim hh (fun h => (Or.inr (Or.inr (Or.inl h)))) (fun h => (Or.inr (Or.inr (Or.inr h)))))) Ke.rf k3) k5), ⟨⟨cn, by omega, (Eq.trans (k5 13 2 (by decide)) (Eq.trans (k3 13 2 (by decide)) e_cn))⟩, ⟨cm, by omega, (Eq.trans (k5 20 2 (by decide)) (Eq.trans (k3 20 2 (by decide)) e_cm))⟩, ⟨L, by omega, (Eq.trans (k5 1 4 (by decide)) (Eq.trans (k3 1 4 (by decide)) e_L))⟩, (fun kk hkk => by rw [show M4 3 kk = M 3 kk from (Eq.trans (k5 3 kk (by unfold WS; omega)) (Eq.trans (k3 3 kk (by unfold WTB; omega)) rfl))]; exact hv kk hkk), (DI_ke (by intro k; unfold WS; omega) k5 (DI_ke (by intro k; unfold WTB; omega) k3 hD)), ⟨n, by omega, (Eq.trans (k5 6 2 (by decide)) (Eq.trans (k3 6 2 (by decide)) e_n))⟩, ⟨un, wn, by omega, by omega, (Eq.trans (k5 41 4 (by decide)) (Eq.trans (k3 41 4 (by decide)) e_un)), (Eq.trans (k5 41 5 (by decide)) (Eq.trans (k3 41 5 (by decide)) e_wn))⟩, ⟨b, by omega, (Eq.trans (k5 46 2 (by decide)) (Eq.trans (k3 46 2 (by decide)) e_b))⟩, (fun j hj => by obtain ⟨q, hq, eq⟩ := hkd j hj; exact ⟨q, hq, (show M4 47 j = M 47 j from (Eq.trans (k5 47 j (by unfold WS; omega)) (Eq.trans (k3 47 j (by unfold WTB; omega)) rfl))).trans eq⟩), ⟨ra, by omega, (Eq.trans (k5 46 3 (by decide)) (Eq.trans (k3 46 3 (by decide)) e_ra))⟩, (fun j hj => by obtain ⟨s, hs, es⟩ := hsl j hj; exact ⟨s, hs, (show M4 (50 + 2 * j) 3 = M (50 + 2 * j) 3 from (Eq.trans (k5 (50 + 2 * j) 3 (by unfold WS; omega)) (Eq.trans (k3 (50 + 2 * j) 3 (by unfold WTB; omega)) rfl))).trans es⟩), (fun j hj => by obtain ⟨q, hq, eq⟩ := hS j hj; exact ⟨q, hq, (show M4 36 j = M 36 j from (Eq.trans (k5 36 j (by unfold WS; omega)) (Eq.trans (k3 36 j (by unfold WTB; omega)) rfl))).trans eq⟩)⟩⟩)
