theorem dX5_areCrossed_0 : decode cX5_areCrossed 0 = .ok (.aload_n 0, 1) := by decide +kernel
theorem dX5_areCrossed_1 : decode cX5_areCrossed 1 = .ok (.invokevirtual 70, 3) := by decide +kernel
theorem dX5_areCrossed_4 : decode cX5_areCrossed 4 = .ok (.ifCond .ne 25, 3) := by decide +kernel
theorem dX5_areCrossed_29 : decode cX5_areCrossed 29 = .ok (.iconst 0, 1) := by decide +kernel
theorem dX5_areCrossed_30 : decode cX5_areCrossed 30 = .ok (.ireturn, 1) := by decide +kernel
theorem dX5_areCrossed_7 : decode cX5_areCrossed 7 = .ok (.aload_n 1, 1) := by decide +kernel
theorem dX5_areCrossed_8 : decode cX5_areCrossed 8 = .ok (.invokevirtual 70, 3) := by decide +kernel
theorem dX5_areCrossed_11 : decode cX5_areCrossed 11 = .ok (.ifCond .ne 18, 3) := by decide +kernel
theorem dX5_areCrossed_14 : decode cX5_areCrossed 14 = .ok (.aload_n 0, 1) := by decide +kernel
theorem dX5_areCrossed_15 : decode cX5_areCrossed 15 = .ok (.getfield 124, 3) := by decide +kernel
theorem dX5_areCrossed_18 : decode cX5_areCrossed 18 = .ok (.aload_n 1, 1) := by decide +kernel
theorem dX5_areCrossed_19 : decode cX5_areCrossed 19 = .ok (.getfield 124, 3) := by decide +kernel
theorem dX5_areCrossed_22 : decode cX5_areCrossed 22 = .ok (.if_icmp .ne 7, 3) := by decide +kernel
theorem dX5_areCrossed_25 : decode cX5_areCrossed 25 = .ok (.iconst 1, 1) := by decide +kernel
theorem dX5_areCrossed_26 : decode cX5_areCrossed 26 = .ok (.goto 4, 3) := by decide +kernel
theorem dX5_upright_4 : decode cX5_upright 4 = .ok (.iload_n 2, 1) := by decide +kernel
theorem dX5_upright_5 : decode cX5_upright 5 = .ok (.aload_n 0, 1) := by decide +kernel
theorem dX5_upright_6 : decode cX5_upright 6 = .ok (.getfield 35, 3) := by decide +kernel
theorem dX5_upright_9 : decode cX5_upright 9 = .ok (.if_icmp .ge 24, 3) := by decide +kernel
theorem dX5_upright_12 : decode cX5_upright 12 = .ok (.aload_n 0, 1) := by decide +kernel
theorem dX5_upright_13 : decode cX5_upright 13 = .ok (.getfield 17, 3) := by decide +kernel
theorem dX5_upright_16 : decode cX5_upright 16 = .ok (.iload_n 2, 1) := by decide +kernel
theorem dX5_upright_17 : decode cX5_upright 17 = .ok (.aaload, 1) := by decide +kernel
theorem dX5_upright_18 : decode cX5_upright 18 = .ok (.invokevirtual 70, 3) := by decide +kernel
theorem dX5_upright_21 : decode cX5_upright 21 = .ok (.ifCond .ne 6, 3) := by decide +kernel
theorem dX5_upright_27 : decode cX5_upright 27 = .ok (.iinc 2 1, 3) := by decide +kernel
theorem dX5_upright_30 : decode cX5_upright 30 = .ok (.goto (-26), 3) := by decide +kernel
theorem dX5_upright_24 : decode cX5_upright 24 = .ok (.iinc 1 1, 3) := by decide +kernel
theorem dX5_upright_0 : decode cX5_upright 0 = .ok (.iconst 0, 1) := by decide +kernel
theorem dX5_upright_1 : decode cX5_upright 1 = .ok (.istore_n 1, 1) := by decide +kernel
theorem dX5_upright_2 : decode cX5_upright 2 = .ok (.iconst 0, 1) := by decide +kernel
theorem dX5_upright_3 : decode cX5_upright 3 = .ok (.istore_n 2, 1) := by decide +kernel
theorem dX5_upright_33 : decode cX5_upright 33 = .ok (.iload_n 1, 1) := by decide +kernel
theorem dX5_upright_34 : decode cX5_upright 34 = .ok (.ireturn, 1) := by decide +kernel
theorem dX5_allUp_2 : decode cX5_allUp 2 = .ok (.iload_n 2, 1) := by decide +kernel
theorem dX5_allUp_3 : decode cX5_allUp 3 = .ok (.aload_n 0, 1) := by decide +kernel
theorem dX5_allUp_4 : decode cX5_allUp 4 = .ok (.getfield 35, 3) := by decide +kernel
theorem dX5_allUp_7 : decode cX5_allUp 7 = .ok (.if_icmp .ge 32, 3) := by decide +kernel
theorem dX5_allUp_10 : decode cX5_allUp 10 = .ok (.iload_n 1, 1) := by decide +kernel
theorem dX5_allUp_11 : decode cX5_allUp 11 = .ok (.iload_n 2, 1) := by decide +kernel
theorem dX5_allUp_12 : decode cX5_allUp 12 = .ok (.ishr, 1) := by decide +kernel
theorem dX5_allUp_13 : decode cX5_allUp 13 = .ok (.iconst 1, 1) := by decide +kernel
theorem dX5_allUp_14 : decode cX5_allUp 14 = .ok (.iand, 1) := by decide +kernel
theorem dX5_allUp_15 : decode cX5_allUp 15 = .ok (.iconst 1, 1) := by decide +kernel
theorem dX5_allUp_16 : decode cX5_allUp 16 = .ok (.if_icmp .ne 17, 3) := by decide +kernel
theorem dX5_allUp_33 : decode cX5_allUp 33 = .ok (.iinc 2 1, 3) := by decide +kernel
theorem dX5_allUp_36 : decode cX5_allUp 36 = .ok (.goto (-34), 3) := by decide +kernel
theorem dX5_allUp_19 : decode cX5_allUp 19 = .ok (.aload_n 0, 1) := by decide +kernel
theorem dX5_allUp_20 : decode cX5_allUp 20 = .ok (.getfield 17, 3) := by decide +kernel
theorem dX5_allUp_23 : decode cX5_allUp 23 = .ok (.iload_n 2, 1) := by decide +kernel
theorem dX5_allUp_24 : decode cX5_allUp 24 = .ok (.aaload, 1) := by decide +kernel
theorem dX5_allUp_25 : decode cX5_allUp 25 = .ok (.invokevirtual 70, 3) := by decide +kernel
theorem dX5_allUp_28 : decode cX5_allUp 28 = .ok (.ifCond .eq 5, 3) := by decide +kernel
theorem dX5_allUp_31 : decode cX5_allUp 31 = .ok (.iconst 0, 1) := by decide +kernel
theorem dX5_allUp_32 : decode cX5_allUp 32 = .ok (.ireturn, 1) := by decide +kernel
theorem dX5_allUp_0 : decode cX5_allUp 0 = .ok (.iconst 0, 1) := by decide +kernel
theorem dX5_allUp_1 : decode cX5_allUp 1 = .ok (.istore_n 2, 1) := by decide +kernel
theorem dX5_allUp_39 : decode cX5_allUp 39 = .ok (.iconst 1, 1) := by decide +kernel
theorem dX5_allUp_40 : decode cX5_allUp 40 = .ok (.ireturn, 1) := by decide +kernel
theorem dX5_allHighest_2 : decode cX5_allHighest 2 = .ok (.iload_n 1, 1) := by decide +kernel
theorem dX5_allHighest_3 : decode cX5_allHighest 3 = .ok (.aload_n 0, 1) := by decide +kernel
theorem dX5_allHighest_4 : decode cX5_allHighest 4 = .ok (.getfield 35, 3) := by decide +kernel
theorem dX5_allHighest_7 : decode cX5_allHighest 7 = .ok (.if_icmp .ge 25, 3) := by decide +kernel
theorem dX5_allHighest_10 : decode cX5_allHighest 10 = .ok (.aload_n 0, 1) := by decide +kernel
theorem dX5_allHighest_11 : decode cX5_allHighest 11 = .ok (.getfield 17, 3) := by decide +kernel
theorem dX5_allHighest_14 : decode cX5_allHighest 14 = .ok (.iload_n 1, 1) := by decide +kernel
theorem dX5_allHighest_15 : decode cX5_allHighest 15 = .ok (.aaload, 1) := by decide +kernel
theorem dX5_allHighest_16 : decode cX5_allHighest 16 = .ok (.getfield 73, 3) := by decide +kernel
theorem dX5_allHighest_19 : decode cX5_allHighest 19 = .ok (.bipush 20, 2) := by decide +kernel
theorem dX5_allHighest_21 : decode cX5_allHighest 21 = .ok (.if_icmp .ge 5, 3) := by decide +kernel
theorem dX5_allHighest_26 : decode cX5_allHighest 26 = .ok (.iinc 1 1, 3) := by decide +kernel
theorem dX5_allHighest_29 : decode cX5_allHighest 29 = .ok (.goto (-27), 3) := by decide +kernel
theorem dX5_allHighest_24 : decode cX5_allHighest 24 = .ok (.iconst 0, 1) := by decide +kernel
theorem dX5_allHighest_25 : decode cX5_allHighest 25 = .ok (.ireturn, 1) := by decide +kernel
theorem dX5_allHighest_0 : decode cX5_allHighest 0 = .ok (.iconst 0, 1) := by decide +kernel
theorem dX5_allHighest_1 : decode cX5_allHighest 1 = .ok (.istore_n 1, 1) := by decide +kernel
theorem dX5_allHighest_32 : decode cX5_allHighest 32 = .ok (.iconst 1, 1) := by decide +kernel
theorem dX5_allHighest_33 : decode cX5_allHighest 33 = .ok (.ireturn, 1) := by decide +kernel
theorem dX5_layAllBut_2 : decode cX5_layAllBut 2 = .ok (.iload_n 2, 1) := by decide +kernel
theorem dX5_layAllBut_3 : decode cX5_layAllBut 3 = .ok (.aload_n 0, 1) := by decide +kernel
theorem dX5_layAllBut_4 : decode cX5_layAllBut 4 = .ok (.getfield 35, 3) := by decide +kernel
theorem dX5_layAllBut_7 : decode cX5_layAllBut 7 = .ok (.if_icmp .ge 26, 3) := by decide +kernel
theorem dX5_layAllBut_10 : decode cX5_layAllBut 10 = .ok (.iload_n 1, 1) := by decide +kernel
theorem dX5_layAllBut_11 : decode cX5_layAllBut 11 = .ok (.iload_n 2, 1) := by decide +kernel
theorem dX5_layAllBut_12 : decode cX5_layAllBut 12 = .ok (.ishr, 1) := by decide +kernel
theorem dX5_layAllBut_13 : decode cX5_layAllBut 13 = .ok (.iconst 1, 1) := by decide +kernel
theorem dX5_layAllBut_14 : decode cX5_layAllBut 14 = .ok (.iand, 1) := by decide +kernel
theorem dX5_layAllBut_15 : decode cX5_layAllBut 15 = .ok (.ifCond .ne 12, 3) := by decide +kernel
theorem dX5_layAllBut_27 : decode cX5_layAllBut 27 = .ok (.iinc 2 1, 3) := by decide +kernel
theorem dX5_layAllBut_30 : decode cX5_layAllBut 30 = .ok (.goto (-28), 3) := by decide +kernel
theorem dX5_layAllBut_18 : decode cX5_layAllBut 18 = .ok (.aload_n 0, 1) := by decide +kernel
theorem dX5_layAllBut_19 : decode cX5_layAllBut 19 = .ok (.getfield 17, 3) := by decide +kernel
theorem dX5_layAllBut_22 : decode cX5_layAllBut 22 = .ok (.iload_n 2, 1) := by decide +kernel
theorem dX5_layAllBut_23 : decode cX5_layAllBut 23 = .ok (.aaload, 1) := by decide +kernel
theorem dX5_layAllBut_24 : decode cX5_layAllBut 24 = .ok (.invokevirtual 76, 3) := by decide +kernel
theorem dX5_layAllBut_0 : decode cX5_layAllBut 0 = .ok (.iconst 0, 1) := by decide +kernel
theorem dX5_layAllBut_1 : decode cX5_layAllBut 1 = .ok (.istore_n 2, 1) := by decide +kernel
theorem dX5_layAllBut_33 : decode cX5_layAllBut 33 = .ok (.return_, 1) := by decide +kernel
theorem dX5_isPushDue_0 : decode cX5_isPushDue 0 = .ok (.aload_n 0, 1) := by decide +kernel
theorem dX5_isPushDue_1 : decode cX5_isPushDue 1 = .ok (.getfield 42, 3) := by decide +kernel
theorem dX5_isPushDue_4 : decode cX5_isPushDue 4 = .ok (.aload_n 0, 1) := by decide +kernel
theorem dX5_isPushDue_5 : decode cX5_isPushDue 5 = .ok (.getfield 26, 3) := by decide +kernel
theorem dX5_isPushDue_8 : decode cX5_isPushDue 8 = .ok (.invokestatic 79, 3) := by decide +kernel
theorem dX5_isPushDue_11 : decode cX5_isPushDue 11 = .ok (.aload_n 0, 1) := by decide +kernel
theorem dX5_isPushDue_12 : decode cX5_isPushDue 12 = .ok (.getfield 45, 3) := by decide +kernel
theorem dX5_isPushDue_15 : decode cX5_isPushDue 15 = .ok (.aload_n 0, 1) := by decide +kernel
theorem dX5_isPushDue_16 : decode cX5_isPushDue 16 = .ok (.getfield 26, 3) := by decide +kernel
theorem dX5_isPushDue_19 : decode cX5_isPushDue 19 = .ok (.invokestatic 79, 3) := by decide +kernel
theorem dX5_isPushDue_22 : decode cX5_isPushDue 22 = .ok (.if_icmp .ne 7, 3) := by decide +kernel
theorem dX5_isPushDue_29 : decode cX5_isPushDue 29 = .ok (.iconst 0, 1) := by decide +kernel
theorem dX5_isPushDue_30 : decode cX5_isPushDue 30 = .ok (.ireturn, 1) := by decide +kernel
theorem dX5_isPushDue_25 : decode cX5_isPushDue 25 = .ok (.iconst 1, 1) := by decide +kernel
theorem dX5_isPushDue_26 : decode cX5_isPushDue 26 = .ok (.goto 4, 3) := by decide +kernel
theorem dX5_goalInTurn_0 : decode cX5_goalInTurn 0 = .ok (.aload_n 0, 1) := by decide +kernel
theorem dX5_goalInTurn_1 : decode cX5_goalInTurn 1 = .ok (.getfield 26, 3) := by decide +kernel
theorem dX5_goalInTurn_4 : decode cX5_goalInTurn 4 = .ok (.ifCond .ne 7, 3) := by decide +kernel
theorem dX5_goalInTurn_11 : decode cX5_goalInTurn 11 = .ok (.aload_n 0, 1) := by decide +kernel
theorem dX5_goalInTurn_12 : decode cX5_goalInTurn 12 = .ok (.getfield 42, 3) := by decide +kernel
theorem dX5_goalInTurn_15 : decode cX5_goalInTurn 15 = .ok (.aload_n 0, 1) := by decide +kernel
theorem dX5_goalInTurn_16 : decode cX5_goalInTurn 16 = .ok (.getfield 26, 3) := by decide +kernel
theorem dX5_goalInTurn_19 : decode cX5_goalInTurn 19 = .ok (.idiv, 1) := by decide +kernel
theorem dX5_goalInTurn_20 : decode cX5_goalInTurn 20 = .ok (.invokestatic 83, 3) := by decide +kernel
theorem dX5_goalInTurn_23 : decode cX5_goalInTurn 23 = .ok (.ireturn, 1) := by decide +kernel
theorem dX5_goalInTurn_7 : decode cX5_goalInTurn 7 = .ok (.iconst 0, 1) := by decide +kernel
theorem dX5_goalInTurn_8 : decode cX5_goalInTurn 8 = .ok (.goto 12, 3) := by decide +kernel
theorem dX5_push_2 : decode cX5_push 2 = .ok (.iload_n 3, 1) := by decide +kernel
theorem dX5_push_3 : decode cX5_push 3 = .ok (.aload_n 0, 1) := by decide +kernel
theorem dX5_push_4 : decode cX5_push 4 = .ok (.getfield 35, 3) := by decide +kernel
theorem dX5_push_7 : decode cX5_push 7 = .ok (.if_icmp .ge 45, 3) := by decide +kernel
theorem dX5_push_10 : decode cX5_push 10 = .ok (.aload_n 0, 1) := by decide +kernel
theorem dX5_push_11 : decode cX5_push 11 = .ok (.getfield 17, 3) := by decide +kernel
theorem dX5_push_14 : decode cX5_push 14 = .ok (.iload_n 3, 1) := by decide +kernel
theorem dX5_push_15 : decode cX5_push 15 = .ok (.aaload, 1) := by decide +kernel
theorem dX5_push_16 : decode cX5_push 16 = .ok (.invokevirtual 70, 3) := by decide +kernel
theorem dX5_push_19 : decode cX5_push 19 = .ok (.ifCond .ne 27, 3) := by decide +kernel
theorem dX5_push_46 : decode cX5_push 46 = .ok (.iinc 3 1, 3) := by decide +kernel
theorem dX5_push_49 : decode cX5_push 49 = .ok (.goto (-47), 3) := by decide +kernel
theorem dX5_push_22 : decode cX5_push 22 = .ok (.aload_n 0, 1) := by decide +kernel
theorem dX5_push_23 : decode cX5_push 23 = .ok (.getfield 17, 3) := by decide +kernel
theorem dX5_push_26 : decode cX5_push 26 = .ok (.iload_n 3, 1) := by decide +kernel
theorem dX5_push_27 : decode cX5_push 27 = .ok (.aaload, 1) := by decide +kernel
theorem dX5_push_28 : decode cX5_push 28 = .ok (.aload_n 0, 1) := by decide +kernel
theorem dX5_push_29 : decode cX5_push 29 = .ok (.getfield 9, 3) := by decide +kernel
theorem dX5_push_32 : decode cX5_push 32 = .ok (.aload_n 0, 1) := by decide +kernel
theorem dX5_push_33 : decode cX5_push 33 = .ok (.getfield 17, 3) := by decide +kernel
theorem dX5_push_36 : decode cX5_push 36 = .ok (.iload_n 3, 1) := by decide +kernel
theorem dX5_push_37 : decode cX5_push 37 = .ok (.aaload, 1) := by decide +kernel
theorem dX5_push_38 : decode cX5_push 38 = .ok (.iload_n 2, 1) := by decide +kernel
theorem dX5_push_39 : decode cX5_push 39 = .ok (.iload_n 1, 1) := by decide +kernel
theorem dX5_push_40 : decode cX5_push 40 = .ok (.invokevirtual 101, 3) := by decide +kernel
theorem dX5_push_43 : decode cX5_push 43 = .ok (.invokevirtual 107, 3) := by decide +kernel
theorem dX5_push_0 : decode cX5_push 0 = .ok (.iconst 0, 1) := by decide +kernel
theorem dX5_push_1 : decode cX5_push 1 = .ok (.istore_n 3, 1) := by decide +kernel
theorem dX5_push_52 : decode cX5_push 52 = .ok (.return_, 1) := by decide +kernel
theorem dX5_cross_14 : decode cX5_cross 14 = .ok (.iload_n 2, 1) := by decide +kernel
theorem dX5_cross_15 : decode cX5_cross 15 = .ok (.aload_n 0, 1) := by decide +kernel
theorem dX5_cross_16 : decode cX5_cross 16 = .ok (.getfield 35, 3) := by decide +kernel
theorem dX5_cross_19 : decode cX5_cross 19 = .ok (.if_icmp .ge 47, 3) := by decide +kernel
theorem dX5_cross_22 : decode cX5_cross 22 = .ok (.aload_n 0, 1) := by decide +kernel
theorem dX5_cross_23 : decode cX5_cross 23 = .ok (.getfield 17, 3) := by decide +kernel
theorem dX5_cross_26 : decode cX5_cross 26 = .ok (.iload_n 1, 1) := by decide +kernel
theorem dX5_cross_27 : decode cX5_cross 27 = .ok (.aaload, 1) := by decide +kernel
theorem dX5_cross_28 : decode cX5_cross 28 = .ok (.aload_n 0, 1) := by decide +kernel
theorem dX5_cross_29 : decode cX5_cross 29 = .ok (.getfield 17, 3) := by decide +kernel
theorem dX5_cross_32 : decode cX5_cross 32 = .ok (.iload_n 2, 1) := by decide +kernel
theorem dX5_cross_33 : decode cX5_cross 33 = .ok (.aaload, 1) := by decide +kernel
theorem dX5_cross_34 : decode cX5_cross 34 = .ok (.invokestatic 120, 3) := by decide +kernel
theorem dX5_cross_37 : decode cX5_cross 37 = .ok (.ifCond .eq 23, 3) := by decide +kernel
theorem dX5_cross_60 : decode cX5_cross 60 = .ok (.iinc 2 1, 3) := by decide +kernel
theorem dX5_cross_63 : decode cX5_cross 63 = .ok (.goto (-49), 3) := by decide +kernel
theorem dX5_cross_40 : decode cX5_cross 40 = .ok (.aload_n 0, 1) := by decide +kernel
theorem dX5_cross_41 : decode cX5_cross 41 = .ok (.getfield 17, 3) := by decide +kernel
theorem dX5_cross_44 : decode cX5_cross 44 = .ok (.iload_n 1, 1) := by decide +kernel
theorem dX5_cross_45 : decode cX5_cross 45 = .ok (.aaload, 1) := by decide +kernel
theorem dX5_cross_46 : decode cX5_cross 46 = .ok (.iconst (-1), 1) := by decide +kernel
theorem dX5_cross_47 : decode cX5_cross 47 = .ok (.invokevirtual 107, 3) := by decide +kernel
theorem dX5_cross_50 : decode cX5_cross 50 = .ok (.aload_n 0, 1) := by decide +kernel
theorem dX5_cross_51 : decode cX5_cross 51 = .ok (.getfield 17, 3) := by decide +kernel
theorem dX5_cross_54 : decode cX5_cross 54 = .ok (.iload_n 2, 1) := by decide +kernel
theorem dX5_cross_55 : decode cX5_cross 55 = .ok (.aaload, 1) := by decide +kernel
theorem dX5_cross_56 : decode cX5_cross 56 = .ok (.iconst (-1), 1) := by decide +kernel
theorem dX5_cross_57 : decode cX5_cross 57 = .ok (.invokevirtual 107, 3) := by decide +kernel
theorem dX5_cross_2 : decode cX5_cross 2 = .ok (.iload_n 1, 1) := by decide +kernel
theorem dX5_cross_3 : decode cX5_cross 3 = .ok (.aload_n 0, 1) := by decide +kernel
theorem dX5_cross_4 : decode cX5_cross 4 = .ok (.getfield 35, 3) := by decide +kernel
theorem dX5_cross_7 : decode cX5_cross 7 = .ok (.if_icmp .ge 65, 3) := by decide +kernel
theorem dX5_cross_10 : decode cX5_cross 10 = .ok (.iload_n 1, 1) := by decide +kernel
theorem dX5_cross_11 : decode cX5_cross 11 = .ok (.iconst 1, 1) := by decide +kernel
theorem dX5_cross_12 : decode cX5_cross 12 = .ok (.iadd, 1) := by decide +kernel
theorem dX5_cross_13 : decode cX5_cross 13 = .ok (.istore_n 2, 1) := by decide +kernel
theorem dX5_cross_66 : decode cX5_cross 66 = .ok (.iinc 1 1, 3) := by decide +kernel
theorem dX5_cross_69 : decode cX5_cross 69 = .ok (.goto (-67), 3) := by decide +kernel
theorem dX5_cross_0 : decode cX5_cross 0 = .ok (.iconst 0, 1) := by decide +kernel
theorem dX5_cross_1 : decode cX5_cross 1 = .ok (.istore_n 1, 1) := by decide +kernel
theorem dX5_cross_72 : decode cX5_cross 72 = .ok (.return_, 1) := by decide +kernel
theorem dX5_settle_2 : decode cX5_settle 2 = .ok (.iload_n 1, 1) := by decide +kernel
theorem dX5_settle_3 : decode cX5_settle 3 = .ok (.aload_n 0, 1) := by decide +kernel
theorem dX5_settle_4 : decode cX5_settle 4 = .ok (.getfield 35, 3) := by decide +kernel
theorem dX5_settle_7 : decode cX5_settle 7 = .ok (.if_icmp .ge 53, 3) := by decide +kernel
theorem dX5_settle_10 : decode cX5_settle 10 = .ok (.aload_n 0, 1) := by decide +kernel
theorem dX5_settle_11 : decode cX5_settle 11 = .ok (.getfield 42, 3) := by decide +kernel
theorem dX5_settle_14 : decode cX5_settle 14 = .ok (.iconst 1, 1) := by decide +kernel
theorem dX5_settle_15 : decode cX5_settle 15 = .ok (.iadd, 1) := by decide +kernel
theorem dX5_settle_16 : decode cX5_settle 16 = .ok (.aload_n 0, 1) := by decide +kernel
theorem dX5_settle_17 : decode cX5_settle 17 = .ok (.getfield 17, 3) := by decide +kernel
theorem dX5_settle_20 : decode cX5_settle 20 = .ok (.iload_n 1, 1) := by decide +kernel
theorem dX5_settle_21 : decode cX5_settle 21 = .ok (.aaload, 1) := by decide +kernel
theorem dX5_settle_22 : decode cX5_settle 22 = .ok (.getfield 61, 3) := by decide +kernel
theorem dX5_settle_25 : decode cX5_settle 25 = .ok (.invokestatic 79, 3) := by decide +kernel
theorem dX5_settle_28 : decode cX5_settle 28 = .ok (.ifCond .ne 17, 3) := by decide +kernel
theorem dX5_settle_45 : decode cX5_settle 45 = .ok (.aload_n 0, 1) := by decide +kernel
theorem dX5_settle_46 : decode cX5_settle 46 = .ok (.getfield 17, 3) := by decide +kernel
theorem dX5_settle_49 : decode cX5_settle 49 = .ok (.iload_n 1, 1) := by decide +kernel
theorem dX5_settle_50 : decode cX5_settle 50 = .ok (.aaload, 1) := by decide +kernel
theorem dX5_settle_51 : decode cX5_settle 51 = .ok (.invokevirtual 111, 3) := by decide +kernel
theorem dX5_settle_54 : decode cX5_settle 54 = .ok (.iinc 1 1, 3) := by decide +kernel
theorem dX5_settle_57 : decode cX5_settle 57 = .ok (.goto (-55), 3) := by decide +kernel
theorem dX5_settle_31 : decode cX5_settle 31 = .ok (.aload_n 0, 1) := by decide +kernel
theorem dX5_settle_32 : decode cX5_settle 32 = .ok (.getfield 17, 3) := by decide +kernel
theorem dX5_settle_35 : decode cX5_settle 35 = .ok (.iload_n 1, 1) := by decide +kernel
theorem dX5_settle_36 : decode cX5_settle 36 = .ok (.aaload, 1) := by decide +kernel
theorem dX5_settle_37 : decode cX5_settle 37 = .ok (.aload_n 0, 1) := by decide +kernel
theorem dX5_settle_38 : decode cX5_settle 38 = .ok (.getfield 22, 3) := by decide +kernel
theorem dX5_settle_41 : decode cX5_settle 41 = .ok (.ineg, 1) := by decide +kernel
theorem dX5_settle_42 : decode cX5_settle 42 = .ok (.invokevirtual 107, 3) := by decide +kernel
theorem dX5_settle_66 : decode cX5_settle 66 = .ok (.iload_n 1, 1) := by decide +kernel
theorem dX5_settle_67 : decode cX5_settle 67 = .ok (.aload_n 0, 1) := by decide +kernel
theorem dX5_settle_68 : decode cX5_settle 68 = .ok (.getfield 35, 3) := by decide +kernel
theorem dX5_settle_71 : decode cX5_settle 71 = .ok (.if_icmp .ge 29, 3) := by decide +kernel
theorem dX5_settle_74 : decode cX5_settle 74 = .ok (.aload_n 0, 1) := by decide +kernel
theorem dX5_settle_75 : decode cX5_settle 75 = .ok (.getfield 17, 3) := by decide +kernel
theorem dX5_settle_78 : decode cX5_settle 78 = .ok (.iload_n 1, 1) := by decide +kernel
theorem dX5_settle_79 : decode cX5_settle 79 = .ok (.aaload, 1) := by decide +kernel
theorem dX5_settle_80 : decode cX5_settle 80 = .ok (.invokevirtual 117, 3) := by decide +kernel
theorem dX5_settle_83 : decode cX5_settle 83 = .ok (.ifCond .eq 11, 3) := by decide +kernel
theorem dX5_settle_94 : decode cX5_settle 94 = .ok (.iinc 1 1, 3) := by decide +kernel
theorem dX5_settle_97 : decode cX5_settle 97 = .ok (.goto (-31), 3) := by decide +kernel
theorem dX5_settle_86 : decode cX5_settle 86 = .ok (.aload_n 0, 1) := by decide +kernel
theorem dX5_settle_87 : decode cX5_settle 87 = .ok (.aload_n 0, 1) := by decide +kernel
theorem dX5_settle_88 : decode cX5_settle 88 = .ok (.getfield 42, 3) := by decide +kernel
theorem dX5_settle_91 : decode cX5_settle 91 = .ok (.putfield 32, 3) := by decide +kernel
theorem dX5_settle_0 : decode cX5_settle 0 = .ok (.iconst 0, 1) := by decide +kernel
theorem dX5_settle_1 : decode cX5_settle 1 = .ok (.istore_n 1, 1) := by decide +kernel
theorem dX5_settle_60 : decode cX5_settle 60 = .ok (.aload_n 0, 1) := by decide +kernel
theorem dX5_settle_61 : decode cX5_settle 61 = .ok (.invokevirtual 114, 3) := by decide +kernel
theorem dX5_settle_64 : decode cX5_settle 64 = .ok (.iconst 0, 1) := by decide +kernel
theorem dX5_settle_65 : decode cX5_settle 65 = .ok (.istore_n 1, 1) := by decide +kernel
theorem dX5_settle_100 : decode cX5_settle 100 = .ok (.aload_n 0, 1) := by decide +kernel
theorem dX5_settle_101 : decode cX5_settle 101 = .ok (.dup, 1) := by decide +kernel
theorem dX5_settle_102 : decode cX5_settle 102 = .ok (.getfield 42, 3) := by decide +kernel
theorem dX5_settle_105 : decode cX5_settle 105 = .ok (.iconst 1, 1) := by decide +kernel
theorem dX5_settle_106 : decode cX5_settle 106 = .ok (.iadd, 1) := by decide +kernel
theorem dX5_settle_107 : decode cX5_settle 107 = .ok (.putfield 42, 3) := by decide +kernel
theorem dX5_settle_110 : decode cX5_settle 110 = .ok (.return_, 1) := by decide +kernel
theorem dX5_tick_0 : decode cX5_tick 0 = .ok (.aload_n 0, 1) := by decide +kernel
theorem dX5_tick_1 : decode cX5_tick 1 = .ok (.invokevirtual 87, 3) := by decide +kernel
theorem dX5_tick_4 : decode cX5_tick 4 = .ok (.ifCond .eq 25, 3) := by decide +kernel
theorem dX5_tick_29 : decode cX5_tick 29 = .ok (.aload_n 0, 1) := by decide +kernel
theorem dX5_tick_30 : decode cX5_tick 30 = .ok (.invokevirtual 98, 3) := by decide +kernel
theorem dX5_tick_33 : decode cX5_tick 33 = .ok (.return_, 1) := by decide +kernel
theorem dX5_tick_7 : decode cX5_tick 7 = .ok (.aload_n 0, 1) := by decide +kernel
theorem dX5_tick_8 : decode cX5_tick 8 = .ok (.aload_n 0, 1) := by decide +kernel
theorem dX5_tick_9 : decode cX5_tick 9 = .ok (.getfield 29, 3) := by decide +kernel
theorem dX5_tick_12 : decode cX5_tick 12 = .ok (.aload_n 0, 1) := by decide +kernel
theorem dX5_tick_13 : decode cX5_tick 13 = .ok (.invokevirtual 90, 3) := by decide +kernel
theorem dX5_tick_16 : decode cX5_tick 16 = .ok (.invokevirtual 94, 3) := by decide +kernel
theorem dX5_tick_19 : decode cX5_tick 19 = .ok (.aload_n 0, 1) := by decide +kernel
theorem dX5_tick_20 : decode cX5_tick 20 = .ok (.dup, 1) := by decide +kernel
theorem dX5_tick_21 : decode cX5_tick 21 = .ok (.getfield 48, 3) := by decide +kernel
theorem dX5_tick_24 : decode cX5_tick 24 = .ok (.iconst 1, 1) := by decide +kernel
theorem dX5_tick_25 : decode cX5_tick 25 = .ok (.iadd, 1) := by decide +kernel
theorem dX5_tick_26 : decode cX5_tick 26 = .ok (.putfield 48, 3) := by decide +kernel
theorem dX5_copy_2 : decode cX5_copy 2 = .ok (.iload_n 2, 1) := by decide +kernel
theorem dX5_copy_3 : decode cX5_copy 3 = .ok (.aload_n 1, 1) := by decide +kernel
theorem dX5_copy_4 : decode cX5_copy 4 = .ok (.getfield 35, 3) := by decide +kernel
theorem dX5_copy_7 : decode cX5_copy 7 = .ok (.if_icmp .ge 24, 3) := by decide +kernel
theorem dX5_copy_10 : decode cX5_copy 10 = .ok (.aload_n 0, 1) := by decide +kernel
theorem dX5_copy_11 : decode cX5_copy 11 = .ok (.getfield 17, 3) := by decide +kernel
theorem dX5_copy_14 : decode cX5_copy 14 = .ok (.iload_n 2, 1) := by decide +kernel
theorem dX5_copy_15 : decode cX5_copy 15 = .ok (.aaload, 1) := by decide +kernel
theorem dX5_copy_16 : decode cX5_copy 16 = .ok (.aload_n 1, 1) := by decide +kernel
theorem dX5_copy_17 : decode cX5_copy 17 = .ok (.getfield 17, 3) := by decide +kernel
theorem dX5_copy_20 : decode cX5_copy 20 = .ok (.iload_n 2, 1) := by decide +kernel
theorem dX5_copy_21 : decode cX5_copy 21 = .ok (.aaload, 1) := by decide +kernel
theorem dX5_copy_22 : decode cX5_copy 22 = .ok (.invokevirtual 38, 3) := by decide +kernel
theorem dX5_copy_25 : decode cX5_copy 25 = .ok (.iinc 2 1, 3) := by decide +kernel
theorem dX5_copy_28 : decode cX5_copy 28 = .ok (.goto (-26), 3) := by decide +kernel
theorem dX5_copy_0 : decode cX5_copy 0 = .ok (.iconst 0, 1) := by decide +kernel
theorem dX5_copy_1 : decode cX5_copy 1 = .ok (.istore_n 2, 1) := by decide +kernel
theorem dX5_copy_31 : decode cX5_copy 31 = .ok (.aload_n 0, 1) := by decide +kernel
theorem dX5_copy_32 : decode cX5_copy 32 = .ok (.aload_n 1, 1) := by decide +kernel
theorem dX5_copy_33 : decode cX5_copy 33 = .ok (.getfield 35, 3) := by decide +kernel
theorem dX5_copy_36 : decode cX5_copy 36 = .ok (.putfield 35, 3) := by decide +kernel
theorem dX5_copy_39 : decode cX5_copy 39 = .ok (.aload_n 0, 1) := by decide +kernel
theorem dX5_copy_40 : decode cX5_copy 40 = .ok (.aload_n 1, 1) := by decide +kernel
theorem dX5_copy_41 : decode cX5_copy 41 = .ok (.getfield 42, 3) := by decide +kernel
theorem dX5_copy_44 : decode cX5_copy 44 = .ok (.putfield 42, 3) := by decide +kernel
theorem dX5_copy_47 : decode cX5_copy 47 = .ok (.aload_n 0, 1) := by decide +kernel
theorem dX5_copy_48 : decode cX5_copy 48 = .ok (.aload_n 1, 1) := by decide +kernel
theorem dX5_copy_49 : decode cX5_copy 49 = .ok (.getfield 22, 3) := by decide +kernel
theorem dX5_copy_52 : decode cX5_copy 52 = .ok (.putfield 22, 3) := by decide +kernel
theorem dX5_copy_55 : decode cX5_copy 55 = .ok (.aload_n 0, 1) := by decide +kernel
theorem dX5_copy_56 : decode cX5_copy 56 = .ok (.aload_n 1, 1) := by decide +kernel
theorem dX5_copy_57 : decode cX5_copy 57 = .ok (.getfield 26, 3) := by decide +kernel
theorem dX5_copy_60 : decode cX5_copy 60 = .ok (.putfield 26, 3) := by decide +kernel
theorem dX5_copy_63 : decode cX5_copy 63 = .ok (.aload_n 0, 1) := by decide +kernel
theorem dX5_copy_64 : decode cX5_copy 64 = .ok (.aload_n 1, 1) := by decide +kernel
theorem dX5_copy_65 : decode cX5_copy 65 = .ok (.getfield 45, 3) := by decide +kernel
theorem dX5_copy_68 : decode cX5_copy 68 = .ok (.putfield 45, 3) := by decide +kernel
theorem dX5_copy_71 : decode cX5_copy 71 = .ok (.aload_n 0, 1) := by decide +kernel
theorem dX5_copy_72 : decode cX5_copy 72 = .ok (.aload_n 1, 1) := by decide +kernel
theorem dX5_copy_73 : decode cX5_copy 73 = .ok (.getfield 29, 3) := by decide +kernel
theorem dX5_copy_76 : decode cX5_copy 76 = .ok (.putfield 29, 3) := by decide +kernel
theorem dX5_copy_79 : decode cX5_copy 79 = .ok (.aload_n 0, 1) := by decide +kernel
theorem dX5_copy_80 : decode cX5_copy 80 = .ok (.aload_n 1, 1) := by decide +kernel
theorem dX5_copy_81 : decode cX5_copy 81 = .ok (.getfield 48, 3) := by decide +kernel
theorem dX5_copy_84 : decode cX5_copy 84 = .ok (.putfield 48, 3) := by decide +kernel
theorem dX5_copy_87 : decode cX5_copy 87 = .ok (.aload_n 0, 1) := by decide +kernel
theorem dX5_copy_88 : decode cX5_copy 88 = .ok (.aload_n 1, 1) := by decide +kernel
theorem dX5_copy_89 : decode cX5_copy 89 = .ok (.getfield 32, 3) := by decide +kernel
theorem dX5_copy_92 : decode cX5_copy 92 = .ok (.putfield 32, 3) := by decide +kernel
theorem dX5_copy_95 : decode cX5_copy 95 = .ok (.return_, 1) := by decide +kernel
theorem dX5_layBack_2 : decode cX5_layBack 2 = .ok (.iload_n 2, 1) := by decide +kernel
theorem dX5_layBack_3 : decode cX5_layBack 3 = .ok (.aload_n 1, 1) := by decide +kernel
theorem dX5_layBack_4 : decode cX5_layBack 4 = .ok (.getfield 35, 3) := by decide +kernel
theorem dX5_layBack_7 : decode cX5_layBack 7 = .ok (.if_icmp .ge 32, 3) := by decide +kernel
theorem dX5_layBack_10 : decode cX5_layBack 10 = .ok (.iload_n 2, 1) := by decide +kernel
theorem dX5_layBack_11 : decode cX5_layBack 11 = .ok (.aload_n 0, 1) := by decide +kernel
theorem dX5_layBack_12 : decode cX5_layBack 12 = .ok (.getfield 35, 3) := by decide +kernel
theorem dX5_layBack_15 : decode cX5_layBack 15 = .ok (.if_icmp .ge 24, 3) := by decide +kernel
theorem dX5_layBack_18 : decode cX5_layBack 18 = .ok (.aload_n 0, 1) := by decide +kernel
theorem dX5_layBack_19 : decode cX5_layBack 19 = .ok (.getfield 17, 3) := by decide +kernel
theorem dX5_layBack_22 : decode cX5_layBack 22 = .ok (.iload_n 2, 1) := by decide +kernel
theorem dX5_layBack_23 : decode cX5_layBack 23 = .ok (.aaload, 1) := by decide +kernel
theorem dX5_layBack_24 : decode cX5_layBack 24 = .ok (.aload_n 1, 1) := by decide +kernel
theorem dX5_layBack_25 : decode cX5_layBack 25 = .ok (.getfield 17, 3) := by decide +kernel
theorem dX5_layBack_28 : decode cX5_layBack 28 = .ok (.iload_n 2, 1) := by decide +kernel
theorem dX5_layBack_29 : decode cX5_layBack 29 = .ok (.aaload, 1) := by decide +kernel
theorem dX5_layBack_30 : decode cX5_layBack 30 = .ok (.invokevirtual 51, 3) := by decide +kernel
theorem dX5_layBack_33 : decode cX5_layBack 33 = .ok (.iinc 2 1, 3) := by decide +kernel
theorem dX5_layBack_36 : decode cX5_layBack 36 = .ok (.goto (-34), 3) := by decide +kernel
theorem dX5_layBack_0 : decode cX5_layBack 0 = .ok (.iconst 0, 1) := by decide +kernel
theorem dX5_layBack_1 : decode cX5_layBack 1 = .ok (.istore_n 2, 1) := by decide +kernel
theorem dX5_layBack_39 : decode cX5_layBack 39 = .ok (.aload_n 0, 1) := by decide +kernel
theorem dX5_layBack_40 : decode cX5_layBack 40 = .ok (.aload_n 1, 1) := by decide +kernel
theorem dX5_layBack_41 : decode cX5_layBack 41 = .ok (.getfield 42, 3) := by decide +kernel
theorem dX5_layBack_44 : decode cX5_layBack 44 = .ok (.putfield 42, 3) := by decide +kernel
theorem dX5_layBack_47 : decode cX5_layBack 47 = .ok (.aload_n 0, 1) := by decide +kernel
theorem dX5_layBack_48 : decode cX5_layBack 48 = .ok (.aload_n 1, 1) := by decide +kernel
theorem dX5_layBack_49 : decode cX5_layBack 49 = .ok (.getfield 48, 3) := by decide +kernel
theorem dX5_layBack_52 : decode cX5_layBack 52 = .ok (.putfield 48, 3) := by decide +kernel
theorem dX5_layBack_55 : decode cX5_layBack 55 = .ok (.aload_n 0, 1) := by decide +kernel
theorem dX5_layBack_56 : decode cX5_layBack 56 = .ok (.aload_n 1, 1) := by decide +kernel
theorem dX5_layBack_57 : decode cX5_layBack 57 = .ok (.getfield 32, 3) := by decide +kernel
theorem dX5_layBack_60 : decode cX5_layBack 60 = .ok (.putfield 32, 3) := by decide +kernel
theorem dX5_layBack_63 : decode cX5_layBack 63 = .ok (.return_, 1) := by decide +kernel
theorem dX5_has_0 : decode cX5_has 0 = .ok (.iload_n 1, 1) := by decide +kernel
theorem dX5_has_1 : decode cX5_has 1 = .ok (.ifCond .lt 15, 3) := by decide +kernel
theorem dX5_has_16 : decode cX5_has 16 = .ok (.iconst 0, 1) := by decide +kernel
theorem dX5_has_17 : decode cX5_has 17 = .ok (.ireturn, 1) := by decide +kernel
theorem dX5_has_4 : decode cX5_has 4 = .ok (.iload_n 1, 1) := by decide +kernel
theorem dX5_has_5 : decode cX5_has 5 = .ok (.aload_n 0, 1) := by decide +kernel
theorem dX5_has_6 : decode cX5_has 6 = .ok (.getfield 35, 3) := by decide +kernel
theorem dX5_has_9 : decode cX5_has 9 = .ok (.if_icmp .ge 7, 3) := by decide +kernel
theorem dX5_has_12 : decode cX5_has 12 = .ok (.iconst 1, 1) := by decide +kernel
theorem dX5_has_13 : decode cX5_has 13 = .ok (.goto 4, 3) := by decide +kernel
theorem dX5_isFull_0 : decode cX5_isFull 0 = .ok (.aload_n 0, 1) := by decide +kernel
theorem dX5_isFull_1 : decode cX5_isFull 1 = .ok (.getfield 35, 3) := by decide +kernel
theorem dX5_isFull_4 : decode cX5_isFull 4 = .ok (.iconst 5, 1) := by decide +kernel
theorem dX5_isFull_5 : decode cX5_isFull 5 = .ok (.if_icmp .lt 7, 3) := by decide +kernel
theorem dX5_isFull_12 : decode cX5_isFull 12 = .ok (.iconst 0, 1) := by decide +kernel
theorem dX5_isFull_13 : decode cX5_isFull 13 = .ok (.ireturn, 1) := by decide +kernel
theorem dX5_isFull_8 : decode cX5_isFull 8 = .ok (.iconst 1, 1) := by decide +kernel
theorem dX5_isFull_9 : decode cX5_isFull 9 = .ok (.goto 4, 3) := by decide +kernel
set_option maxRecDepth 100000 in
set_option maxHeartbeats 4000000 in
theorem g_X5_areCrossed {q : Nat} (hq : x_SH[q]? = some (.inl (2, [none, none, none, none, none]))) {o : Nat} (ho : x_SH[o]? = some (.inl (2, [none, none, none, none, none]))) {l : Launch} {G : xG} {M : xM} {J : xJ} : x_M l G fX5_areCrossed 1 0 0 [.ref (q), .ref (o)] x_SH M J (qPI M J (fun r => r = 0 ∨ r = 1)) := by
  refine xb_of pX5 (Nat.le_of_ble_eq_true rfl) rfl ?_
  refine xr_aload_n dX5_areCrossed_0 0 rfl ?_
  refine xb_cV (As := []) (rest := []) mlX5_70 (c_X2_lies hq) dX5_areCrossed_1 hq rfl rfl (Nat.le_of_ble_eq_true rfl) (by decide) (by decide) ?_
  refine xb_bne (tgt := 29) dX5_areCrossed_4 rfl (fun c1 => ?_) (fun c1 => ?_)
  · refine xr_iconst (v := 0) dX5_areCrossed_29 rfl ?_
    exact xr_iret dX5_areCrossed_30 rfl rfl (⟨_, rfl, rfl, rfl, rfl, (Or.inl rfl)⟩)
  · refine xr_aload_n dX5_areCrossed_7 1 rfl ?_
    refine xb_cV (As := []) (rest := []) mlX5_70 (c_X2_lies ho) dX5_areCrossed_8 ho rfl rfl (Nat.le_of_ble_eq_true rfl) (by decide) (by decide) ?_
    refine xb_bne (tgt := 29) dX5_areCrossed_11 rfl (fun c2 => ?_) (fun c2 => ?_)
    · refine xr_iconst (v := 0) dX5_areCrossed_29 rfl ?_
      exact xr_iret dX5_areCrossed_30 rfl rfl (⟨_, rfl, rfl, rfl, rfl, (Or.inl rfl)⟩)
    · refine xr_aload_n dX5_areCrossed_14 0 rfl ?_
      refine xb_get (v := M q 2) flX5_124 dX5_areCrossed_15 hq rfl rfl ?_
      refine xr_aload_n dX5_areCrossed_18 1 rfl ?_
      refine xb_get (v := M o 2) flX5_124 dX5_areCrossed_19 ho rfl rfl ?_
      refine xr_icmp_ne (tgt := 29) dX5_areCrossed_22 rfl (fun c3 => ?_) (fun c3 => ?_)
      · refine xr_iconst (v := 0) dX5_areCrossed_29 rfl ?_
        exact xr_iret dX5_areCrossed_30 rfl rfl (⟨_, rfl, rfl, rfl, rfl, (Or.inl rfl)⟩)
      · refine xr_iconst (v := 1) dX5_areCrossed_25 rfl ?_
        refine xr_goto (tgt := 30) dX5_areCrossed_26 rfl ?_
        exact xr_iret dX5_areCrossed_30 rfl rfl (⟨_, rfl, rfl, rfl, rfl, (Or.inr rfl)⟩)
set_option maxRecDepth 100000 in
set_option maxHeartbeats 4000000 in
theorem up_13 {l : Launch} {G : xG} {M : xM} {J : xJ} {Q : xQ} {cn : Nat} (h_cn : cn ≤ 5) (e_cn : M 13 2 = nI cn) (hC : ∀ (up : Int32), x_X l G fX5_upright 1 0 0 Q 33 [(1, .int (up)), (0, .ref (13))] [] x_SH M J 0 0) : ∀ (m k : Nat) (up : Int32), k + m = cn → x_X l G fX5_upright 1 0 0 Q 4 [(2, .int (nI (k))), (1, .int (up)), (0, .ref (13))] [] x_SH M J 0 0 := by
  intro m
  induction m with
  | zero =>
    intro k up hk
    refine xr_iload_n dX5_upright_4 0 rfl ?_
    refine xr_aload_n dX5_upright_5 2 rfl ?_
    refine xb_get (v := nI (cn)) flX5_35 dX5_upright_6 s_13 rfl e_cn ?_
    refine xr_icmp_ge (tgt := 33) dX5_upright_9 rfl (fun _ => ?_) (fun c => absurd (nI_le (a := cn) (b := k) (by omega) (by omega)) c)
    refine xb_ls (ls2 := [(1, .int (up)), (0, .ref (13))]) [1, 2] rfl ?_
    exact hC up
  | succ m ih =>
    intro k up hk
    have hkN : k < cn := by omega
    refine xr_iload_n dX5_upright_4 0 rfl ?_
    refine xr_aload_n dX5_upright_5 2 rfl ?_
    refine xb_get (v := nI (cn)) flX5_35 dX5_upright_6 s_13 rfl e_cn ?_
    refine xr_icmp_ge (tgt := 33) dX5_upright_9 rfl (fun c => absurd c (nI_ge (a := k) (b := cn) (by omega) (by omega))) (fun _ => ?_)
    refine xr_aload_n dX5_upright_12 2 rfl ?_
    refine xr_getR flX5_17 dX5_upright_13 s_13 rfl ?_
    refine xr_iload_n dX5_upright_16 0 rfl ?_
    refine xb_aald (j := k) (q := 15 + k) (by decide) dX5_upright_17 s_14 (by omega) (by decide) (if_pos (by omega)) ?_
    refine xb_cV (As := []) (rest := []) mlX5_70 (c_X2_lies (s_hp15 (by omega))) dX5_upright_18 (s_hp15 (by omega)) rfl rfl (Nat.le_of_ble_eq_true rfl) (by decide) (by decide) ?_
    refine xb_bne (tgt := 27) dX5_upright_21 rfl (fun c1 => ?_) (fun c1 => ?_)
    · refine xr_iinc (v := nI (k + 1)) (ls2 := [(2, .int (nI (k + 1))), (1, .int (up)), (0, .ref (13))]) dX5_upright_27 0 rfl (nI_1 _) (by decide) rfl ?_
      refine xr_goto (tgt := 4) dX5_upright_30 rfl ?_
      refine xb_ls (ls2 := [(2, .int (nI (k + 1))), (1, .int (up)), (0, .ref (13))]) [0, 1, 2] rfl ?_
      exact ih (k + 1) up (by omega)
    · refine xr_iinc (v := up + 1) (ls2 := [(1, .int (up + 1)), (2, .int (nI (k))), (0, .ref (13))]) dX5_upright_24 1 rfl rfl (by decide) rfl ?_
      refine xr_iinc (v := nI (k + 1)) (ls2 := [(2, .int (nI (k + 1))), (1, .int (up + 1)), (0, .ref (13))]) dX5_upright_27 1 rfl (nI_1 _) (by decide) rfl ?_
      refine xr_goto (tgt := 4) dX5_upright_30 rfl ?_
      refine xb_ls (ls2 := [(2, .int (nI (k + 1))), (1, .int (up + 1)), (0, .ref (13))]) [0, 1, 2] rfl ?_
      exact ih (k + 1) (up + 1) (by omega)
set_option maxRecDepth 100000 in
set_option maxHeartbeats 4000000 in
theorem g_X5_upright_13 {l : Launch} {G : xG} {M : xM} {J : xJ} {cn : Nat} (h_cn : cn ≤ 5) (e_cn : M 13 2 = nI cn) : x_M l G fX5_upright 1 0 0 [.ref (13)] x_SH M J (qPI M J (fun r => True)) := by
  refine xb_of pX5 (Nat.le_of_ble_eq_true rfl) rfl ?_
  refine xr_iconst (v := 0) dX5_upright_0 rfl ?_
  refine xr_istore_n (ls2 := [(1, .int (0)), (0, .ref (13))]) dX5_upright_1 (by decide) rfl ?_
  refine xr_iconst (v := 0) dX5_upright_2 rfl ?_
  refine xr_istore_n (ls2 := [(2, .int (0)), (1, .int (0)), (0, .ref (13))]) dX5_upright_3 (by decide) rfl ?_
  refine xb_ls (ls2 := [(2, .int (nI (0))), (1, .int (0)), (0, .ref (13))]) [0, 1, 2] rfl ?_
  refine up_13 (by omega) e_cn (fun q1 => ?_) (cn - 0) 0 0 (by omega)
  refine xr_iload_n dX5_upright_33 0 rfl ?_
  exact xr_iret dX5_upright_34 rfl rfl (⟨_, rfl, rfl, rfl, rfl, trivial⟩)
set_option maxRecDepth 100000 in
set_option maxHeartbeats 4000000 in
theorem au_13 {bi : Int32} {l : Launch} {G : xG} {M : xM} {J : xJ} {Q : xQ} {cn : Nat} (h_cn : cn ≤ 5) (e_cn : M 13 2 = nI cn) (hC : x_X l G fX5_allUp 1 0 0 Q 39 [(1, .int (bi)), (0, .ref (13))] [] x_SH M J 0 0) (hR : ∀ (r : Int32), (r = 0 ∨ r = 1) → Q (some (.int r)) x_SH M J) : ∀ (m k : Nat), k + m = cn → x_X l G fX5_allUp 1 0 0 Q 2 [(2, .int (nI (k))), (1, .int (bi)), (0, .ref (13))] [] x_SH M J 0 0 := by
  intro m
  induction m with
  | zero =>
    intro k hk
    refine xr_iload_n dX5_allUp_2 0 rfl ?_
    refine xr_aload_n dX5_allUp_3 2 rfl ?_
    refine xb_get (v := nI (cn)) flX5_35 dX5_allUp_4 s_13 rfl e_cn ?_
    refine xr_icmp_ge (tgt := 39) dX5_allUp_7 rfl (fun _ => ?_) (fun c => absurd (nI_le (a := cn) (b := k) (by omega) (by omega)) c)
    refine xb_ls (ls2 := [(1, .int (bi)), (0, .ref (13))]) [1, 2] rfl ?_
    exact hC
  | succ m ih =>
    intro k hk
    have hkN : k < cn := by omega
    refine xr_iload_n dX5_allUp_2 0 rfl ?_
    refine xr_aload_n dX5_allUp_3 2 rfl ?_
    refine xb_get (v := nI (cn)) flX5_35 dX5_allUp_4 s_13 rfl e_cn ?_
    refine xr_icmp_ge (tgt := 39) dX5_allUp_7 rfl (fun c => absurd c (nI_ge (a := k) (b := cn) (by omega) (by omega))) (fun _ => ?_)
    refine xr_iload_n dX5_allUp_10 1 rfl ?_
    refine xr_iload_n dX5_allUp_11 0 rfl ?_
    refine xr_ishr dX5_allUp_12 ?_
    refine xr_iconst (v := 1) dX5_allUp_13 rfl ?_
    refine xr_iand dX5_allUp_14 ?_
    refine xr_iconst (v := 1) dX5_allUp_15 rfl ?_
    refine xr_icmp_ne (tgt := 33) dX5_allUp_16 rfl (fun c1 => ?_) (fun c1 => ?_)
    · refine xr_iinc (v := nI (k + 1)) (ls2 := [(2, .int (nI (k + 1))), (1, .int (bi)), (0, .ref (13))]) dX5_allUp_33 0 rfl (nI_1 _) (by decide) rfl ?_
      refine xr_goto (tgt := 2) dX5_allUp_36 rfl ?_
      refine xb_ls (ls2 := [(2, .int (nI (k + 1))), (1, .int (bi)), (0, .ref (13))]) [0, 1, 2] rfl ?_
      exact ih (k + 1) (by omega)
    · refine xr_aload_n dX5_allUp_19 2 rfl ?_
      refine xr_getR flX5_17 dX5_allUp_20 s_13 rfl ?_
      refine xr_iload_n dX5_allUp_23 0 rfl ?_
      refine xb_aald (j := k) (q := 15 + k) (by decide) dX5_allUp_24 s_14 (by omega) (by decide) (if_pos (by omega)) ?_
      refine xb_cV (As := []) (rest := []) mlX5_70 (c_X2_lies (s_hp15 (by omega))) dX5_allUp_25 (s_hp15 (by omega)) rfl rfl (Nat.le_of_ble_eq_true rfl) (by decide) (by decide) ?_
      refine xb_beq (tgt := 33) dX5_allUp_28 rfl (fun c2 => ?_) (fun c2 => ?_)
      · refine xr_iinc (v := nI (k + 1)) (ls2 := [(2, .int (nI (k + 1))), (1, .int (bi)), (0, .ref (13))]) dX5_allUp_33 0 rfl (nI_1 _) (by decide) rfl ?_
        refine xr_goto (tgt := 2) dX5_allUp_36 rfl ?_
        refine xb_ls (ls2 := [(2, .int (nI (k + 1))), (1, .int (bi)), (0, .ref (13))]) [0, 1, 2] rfl ?_
        exact ih (k + 1) (by omega)
      · refine xr_iconst (v := 0) dX5_allUp_31 rfl ?_
        exact xr_iret dX5_allUp_32 rfl rfl (hR _ (Or.inl rfl))
set_option maxRecDepth 100000 in
set_option maxHeartbeats 4000000 in
theorem g_X5_allUp_13 (bi : Int32) {l : Launch} {G : xG} {M : xM} {J : xJ} {cn : Nat} (h_cn : cn ≤ 5) (e_cn : M 13 2 = nI cn) : x_M l G fX5_allUp 1 0 0 [.ref (13), .int (bi)] x_SH M J (qPI M J (fun r => r = 0 ∨ r = 1)) := by
  refine xb_of pX5 (Nat.le_of_ble_eq_true rfl) rfl ?_
  refine xr_iconst (v := 0) dX5_allUp_0 rfl ?_
  refine xr_istore_n (ls2 := [(2, .int (0)), (0, .ref (13)), (1, .int (bi))]) dX5_allUp_1 (by decide) rfl ?_
  refine xb_ls (ls2 := [(2, .int (nI (0))), (1, .int (bi)), (0, .ref (13))]) [0, 2, 1] rfl ?_
  refine au_13 (by omega) e_cn ?_ (fun r hz => ⟨_, rfl, rfl, rfl, rfl, hz⟩) (cn - 0) 0 (by omega)
  refine xr_iconst (v := 1) dX5_allUp_39 rfl ?_
  exact xr_iret dX5_allUp_40 rfl rfl (⟨_, rfl, rfl, rfl, rfl, (Or.inr rfl)⟩)
set_option maxRecDepth 100000 in
set_option maxHeartbeats 4000000 in
theorem up_28 {l : Launch} {G : xG} {M : xM} {J : xJ} {Q : xQ} {cn : Nat} (h_cn : cn ≤ 5) (e_cn : M 28 2 = nI cn) (hC : ∀ (up : Int32), x_X l G fX5_upright 1 0 0 Q 33 [(1, .int (up)), (0, .ref (28))] [] x_SH M J 0 0) : ∀ (m k : Nat) (up : Int32), k + m = cn → x_X l G fX5_upright 1 0 0 Q 4 [(2, .int (nI (k))), (1, .int (up)), (0, .ref (28))] [] x_SH M J 0 0 := by
  intro m
  induction m with
  | zero =>
    intro k up hk
    refine xr_iload_n dX5_upright_4 0 rfl ?_
    refine xr_aload_n dX5_upright_5 2 rfl ?_
    refine xb_get (v := nI (cn)) flX5_35 dX5_upright_6 s_28 rfl e_cn ?_
    refine xr_icmp_ge (tgt := 33) dX5_upright_9 rfl (fun _ => ?_) (fun c => absurd (nI_le (a := cn) (b := k) (by omega) (by omega)) c)
    refine xb_ls (ls2 := [(1, .int (up)), (0, .ref (28))]) [1, 2] rfl ?_
    exact hC up
  | succ m ih =>
    intro k up hk
    have hkN : k < cn := by omega
    refine xr_iload_n dX5_upright_4 0 rfl ?_
    refine xr_aload_n dX5_upright_5 2 rfl ?_
    refine xb_get (v := nI (cn)) flX5_35 dX5_upright_6 s_28 rfl e_cn ?_
    refine xr_icmp_ge (tgt := 33) dX5_upright_9 rfl (fun c => absurd c (nI_ge (a := k) (b := cn) (by omega) (by omega))) (fun _ => ?_)
    refine xr_aload_n dX5_upright_12 2 rfl ?_
    refine xr_getR flX5_17 dX5_upright_13 s_28 rfl ?_
    refine xr_iload_n dX5_upright_16 0 rfl ?_
    refine xb_aald (j := k) (q := 30 + k) (by decide) dX5_upright_17 s_29 (by omega) (by decide) (if_pos (by omega)) ?_
    refine xb_cV (As := []) (rest := []) mlX5_70 (c_X2_lies (s_hp30 (by omega))) dX5_upright_18 (s_hp30 (by omega)) rfl rfl (Nat.le_of_ble_eq_true rfl) (by decide) (by decide) ?_
    refine xb_bne (tgt := 27) dX5_upright_21 rfl (fun c1 => ?_) (fun c1 => ?_)
    · refine xr_iinc (v := nI (k + 1)) (ls2 := [(2, .int (nI (k + 1))), (1, .int (up)), (0, .ref (28))]) dX5_upright_27 0 rfl (nI_1 _) (by decide) rfl ?_
      refine xr_goto (tgt := 4) dX5_upright_30 rfl ?_
      refine xb_ls (ls2 := [(2, .int (nI (k + 1))), (1, .int (up)), (0, .ref (28))]) [0, 1, 2] rfl ?_
      exact ih (k + 1) up (by omega)
    · refine xr_iinc (v := up + 1) (ls2 := [(1, .int (up + 1)), (2, .int (nI (k))), (0, .ref (28))]) dX5_upright_24 1 rfl rfl (by decide) rfl ?_
      refine xr_iinc (v := nI (k + 1)) (ls2 := [(2, .int (nI (k + 1))), (1, .int (up + 1)), (0, .ref (28))]) dX5_upright_27 1 rfl (nI_1 _) (by decide) rfl ?_
      refine xr_goto (tgt := 4) dX5_upright_30 rfl ?_
      refine xb_ls (ls2 := [(2, .int (nI (k + 1))), (1, .int (up + 1)), (0, .ref (28))]) [0, 1, 2] rfl ?_
      exact ih (k + 1) (up + 1) (by omega)
set_option maxRecDepth 100000 in
set_option maxHeartbeats 4000000 in
theorem g_X5_upright_28 {l : Launch} {G : xG} {M : xM} {J : xJ} {cn : Nat} (h_cn : cn ≤ 5) (e_cn : M 28 2 = nI cn) : x_M l G fX5_upright 1 0 0 [.ref (28)] x_SH M J (qPI M J (fun r => True)) := by
  refine xb_of pX5 (Nat.le_of_ble_eq_true rfl) rfl ?_
  refine xr_iconst (v := 0) dX5_upright_0 rfl ?_
  refine xr_istore_n (ls2 := [(1, .int (0)), (0, .ref (28))]) dX5_upright_1 (by decide) rfl ?_
  refine xr_iconst (v := 0) dX5_upright_2 rfl ?_
  refine xr_istore_n (ls2 := [(2, .int (0)), (1, .int (0)), (0, .ref (28))]) dX5_upright_3 (by decide) rfl ?_
  refine xb_ls (ls2 := [(2, .int (nI (0))), (1, .int (0)), (0, .ref (28))]) [0, 1, 2] rfl ?_
  refine up_28 (by omega) e_cn (fun q1 => ?_) (cn - 0) 0 0 (by omega)
  refine xr_iload_n dX5_upright_33 0 rfl ?_
  exact xr_iret dX5_upright_34 rfl rfl (⟨_, rfl, rfl, rfl, rfl, trivial⟩)
set_option maxRecDepth 100000 in
set_option maxHeartbeats 4000000 in
theorem ah_28 {l : Launch} {G : xG} {M : xM} {J : xJ} {Q : xQ} {cn : Nat} (h_cn : cn ≤ 5) (e_cn : M 28 2 = nI cn) (hC : x_X l G fX5_allHighest 0 0 0 Q 32 [(0, .ref (28))] [] x_SH M J 0 0) (hR : ∀ (r : Int32), (r = 0 ∨ r = 1) → Q (some (.int r)) x_SH M J) : ∀ (m k : Nat), k + m = cn → x_X l G fX5_allHighest 0 0 0 Q 2 [(1, .int (nI (k))), (0, .ref (28))] [] x_SH M J 0 0 := by
  intro m
  induction m with
  | zero =>
    intro k hk
    refine xr_iload_n dX5_allHighest_2 0 rfl ?_
    refine xr_aload_n dX5_allHighest_3 1 rfl ?_
    refine xb_get (v := nI (cn)) flX5_35 dX5_allHighest_4 s_28 rfl e_cn ?_
    refine xr_icmp_ge (tgt := 32) dX5_allHighest_7 rfl (fun _ => ?_) (fun c => absurd (nI_le (a := cn) (b := k) (by omega) (by omega)) c)
    refine xb_ls (ls2 := [(0, .ref (28))]) [1] rfl ?_
    exact hC
  | succ m ih =>
    intro k hk
    have hkN : k < cn := by omega
    refine xr_iload_n dX5_allHighest_2 0 rfl ?_
    refine xr_aload_n dX5_allHighest_3 1 rfl ?_
    refine xb_get (v := nI (cn)) flX5_35 dX5_allHighest_4 s_28 rfl e_cn ?_
    refine xr_icmp_ge (tgt := 32) dX5_allHighest_7 rfl (fun c => absurd c (nI_ge (a := k) (b := cn) (by omega) (by omega))) (fun _ => ?_)
    refine xr_aload_n dX5_allHighest_10 1 rfl ?_
    refine xr_getR flX5_17 dX5_allHighest_11 s_28 rfl ?_
    refine xr_iload_n dX5_allHighest_14 0 rfl ?_
    refine xb_aald (j := k) (q := 30 + k) (by decide) dX5_allHighest_15 s_29 (by omega) (by decide) (if_pos (by omega)) ?_
    refine xb_get (v := M (30 + k) 4) flX5_73 dX5_allHighest_16 (s_hp30 (by omega)) rfl rfl ?_
    refine xr_bipush (v := 20) dX5_allHighest_19 rfl ?_
    refine xr_icmp_ge (tgt := 26) dX5_allHighest_21 rfl (fun c1 => ?_) (fun c1 => ?_)
    · refine xr_iinc (v := nI (k + 1)) (ls2 := [(1, .int (nI (k + 1))), (0, .ref (28))]) dX5_allHighest_26 0 rfl (nI_1 _) (by decide) rfl ?_
      refine xr_goto (tgt := 2) dX5_allHighest_29 rfl ?_
      refine xb_ls (ls2 := [(1, .int (nI (k + 1))), (0, .ref (28))]) [0, 1] rfl ?_
      exact ih (k + 1) (by omega)
    · refine xr_iconst (v := 0) dX5_allHighest_24 rfl ?_
      exact xr_iret dX5_allHighest_25 rfl rfl (hR _ (Or.inl rfl))
set_option maxRecDepth 100000 in
set_option maxHeartbeats 4000000 in
theorem g_X5_allHighest_28 {l : Launch} {G : xG} {M : xM} {J : xJ} {cn : Nat} (h_cn : cn ≤ 5) (e_cn : M 28 2 = nI cn) : x_M l G fX5_allHighest 0 0 0 [.ref (28)] x_SH M J (qPI M J (fun r => r = 0 ∨ r = 1)) := by
  refine xb_of pX5 (Nat.le_of_ble_eq_true rfl) rfl ?_
  refine xr_iconst (v := 0) dX5_allHighest_0 rfl ?_
  refine xr_istore_n (ls2 := [(1, .int (0)), (0, .ref (28))]) dX5_allHighest_1 (by decide) rfl ?_
  refine xb_ls (ls2 := [(1, .int (nI (0))), (0, .ref (28))]) [0, 1] rfl ?_
  refine ah_28 (by omega) e_cn ?_ (fun r hz => ⟨_, rfl, rfl, rfl, rfl, hz⟩) (cn - 0) 0 (by omega)
  refine xr_iconst (v := 1) dX5_allHighest_32 rfl ?_
  exact xr_iret dX5_allHighest_33 rfl rfl (⟨_, rfl, rfl, rfl, rfl, (Or.inr rfl)⟩)
set_option maxRecDepth 100000 in
set_option maxHeartbeats 4000000 in
theorem lb_28 {bi : Int32} {l : Launch} {G : xG} {M : xM} {J : xJ} {Q : xQ} {cn : Nat} (h_cn : cn ≤ 5) (e_cn : M 28 2 = nI cn) (hC : ∀ (M2 : xM), Ke W28h M M2 → x_X l G fX5_layAllBut 1 0 0 Q 33 [(1, .int (bi)), (0, .ref (28))] [] x_SH M2 J 0 0) : ∀ (m k : Nat) (M1 : xM), k + m = cn → Ke W28h M M1 → x_X l G fX5_layAllBut 1 0 0 Q 2 [(2, .int (nI (k))), (1, .int (bi)), (0, .ref (28))] [] x_SH M1 J 0 0 := by
  intro m
  induction m with
  | zero =>
    intro k M1 hk hM
    refine xr_iload_n dX5_layAllBut_2 0 rfl ?_
    refine xr_aload_n dX5_layAllBut_3 2 rfl ?_
    refine xb_get (v := nI (cn)) flX5_35 dX5_layAllBut_4 s_28 rfl (Eq.trans (hM 28 2 (by decide)) e_cn) ?_
    refine xr_icmp_ge (tgt := 33) dX5_layAllBut_7 rfl (fun _ => ?_) (fun c => absurd (nI_le (a := cn) (b := k) (by omega) (by omega)) c)
    refine xb_ls (ls2 := [(1, .int (bi)), (0, .ref (28))]) [1, 2] rfl ?_
    exact hC _ hM
  | succ m ih =>
    intro k M1 hk hM
    have hkN : k < cn := by omega
    refine xr_iload_n dX5_layAllBut_2 0 rfl ?_
    refine xr_aload_n dX5_layAllBut_3 2 rfl ?_
    refine xb_get (v := nI (cn)) flX5_35 dX5_layAllBut_4 s_28 rfl (Eq.trans (hM 28 2 (by decide)) e_cn) ?_
    refine xr_icmp_ge (tgt := 33) dX5_layAllBut_7 rfl (fun c => absurd c (nI_ge (a := k) (b := cn) (by omega) (by omega))) (fun _ => ?_)
    refine xr_iload_n dX5_layAllBut_10 1 rfl ?_
    refine xr_iload_n dX5_layAllBut_11 0 rfl ?_
    refine xr_ishr dX5_layAllBut_12 ?_
    refine xr_iconst (v := 1) dX5_layAllBut_13 rfl ?_
    refine xr_iand dX5_layAllBut_14 ?_
    refine xr_if_ne (tgt := 27) dX5_layAllBut_15 rfl (fun c1 => ?_) (fun c1 => ?_)
    · refine xr_iinc (v := nI (k + 1)) (ls2 := [(2, .int (nI (k + 1))), (1, .int (bi)), (0, .ref (28))]) dX5_layAllBut_27 0 rfl (nI_1 _) (by decide) rfl ?_
      refine xr_goto (tgt := 2) dX5_layAllBut_30 rfl ?_
      refine xb_ls (ls2 := [(2, .int (nI (k + 1))), (1, .int (bi)), (0, .ref (28))]) [0, 1, 2] rfl ?_
      exact ih (k + 1) M1 (by omega) hM
    · refine xr_aload_n dX5_layAllBut_18 2 rfl ?_
      refine xr_getR flX5_17 dX5_layAllBut_19 s_28 rfl ?_
      refine xr_iload_n dX5_layAllBut_22 0 rfl ?_
      refine xb_aald (j := k) (q := 30 + k) (by decide) dX5_layAllBut_23 s_29 (by omega) (by decide) (if_pos (by omega)) ?_
      refine xr_callV (As := []) (rest := []) mlX5_76 (g_X2_drop (s_hp30 (by omega))) dX5_layAllBut_24 (s_hp30 (by omega)) rfl rfl (Nat.le_of_ble_eq_true rfl) (by decide) ⟨by decide, by decide⟩ (fun v s2 M3 J2 hq => ?_)
      obtain ⟨rfl, rfl, rfl, k4, hx2⟩ := hq
      try dsimp only [Option.toList, List.cons_append, List.nil_append]
      refine xr_iinc (v := nI (k + 1)) (ls2 := [(2, .int (nI (k + 1))), (1, .int (bi)), (0, .ref (28))]) dX5_layAllBut_27 0 rfl (nI_1 _) (by decide) rfl ?_
      refine xr_goto (tgt := 2) dX5_layAllBut_30 rfl ?_
      refine xb_ls (ls2 := [(2, .int (nI (k + 1))), (1, .int (bi)), (0, .ref (28))]) [0, 1, 2] rfl ?_
      exact ih (k + 1) M3 (by omega) (Ke.tr (fun pp kk hh => by have h2 : pp = 30 + k := hh; unfold W28h; omega) hM k4)
set_option maxRecDepth 100000 in
set_option maxHeartbeats 4000000 in
theorem g_X5_layAllBut_28 (bi : Int32) {l : Launch} {G : xG} {M : xM} {J : xJ} {cn : Nat} (h_cn : cn ≤ 5) (e_cn : M 28 2 = nI cn) : x_M l G fX5_layAllBut 1 0 0 [.ref (28), .int (bi)] x_SH M J (qKV W28h M J (fun M2 => True)) := by
  refine xb_of pX5 (Nat.le_of_ble_eq_true rfl) rfl ?_
  refine xr_iconst (v := 0) dX5_layAllBut_0 rfl ?_
  refine xr_istore_n (ls2 := [(2, .int (0)), (0, .ref (28)), (1, .int (bi))]) dX5_layAllBut_1 (by decide) rfl ?_
  refine xb_ls (ls2 := [(2, .int (nI (0))), (1, .int (bi)), (0, .ref (28))]) [0, 2, 1] rfl ?_
  refine lb_28 (by omega) e_cn (fun M1 k2 => ?_) (cn - 0) 0 M (by omega) Ke.rf
  exact xr_vret dX5_layAllBut_33 rfl (⟨rfl, rfl, rfl, (Ke.tr (fun _ _ h => h) Ke.rf k2), trivial⟩)
set_option maxRecDepth 100000 in
set_option maxHeartbeats 4000000 in
theorem g_X5_isPushDue_28 {l : Launch} {G : xG} {M : xM} {J : xJ} : x_M l G fX5_isPushDue 1 0 0 [.ref (28)] x_SH M J (qPI M J (fun r => r = 0 ∨ r = 1)) := by
  refine xb_of pX5 (Nat.le_of_ble_eq_true rfl) rfl ?_
  refine xr_aload_n dX5_isPushDue_0 0 rfl ?_
  refine xb_get (v := M 28 3) flX5_42 dX5_isPushDue_1 s_28 rfl rfl ?_
  refine xr_aload_n dX5_isPushDue_4 0 rfl ?_
  refine xb_get (v := M 28 5) flX5_26 dX5_isPushDue_5 s_28 rfl rfl ?_
  refine xb_cN (As := [.int (M 28 3), .int (M 28 5)]) (rest := []) mlX5_79 (c_X9_rest (M 28 3) (M 28 5)) dX5_isPushDue_8 rfl rfl (Nat.le_of_ble_eq_true rfl) (by decide) (by decide) ?_
  refine xr_aload_n dX5_isPushDue_11 0 rfl ?_
  refine xb_get (v := M 28 6) flX5_45 dX5_isPushDue_12 s_28 rfl rfl ?_
  refine xr_aload_n dX5_isPushDue_15 0 rfl ?_
  refine xb_get (v := M 28 5) flX5_26 dX5_isPushDue_16 s_28 rfl rfl ?_
  refine xb_cN (As := [.int (M 28 6), .int (M 28 5)]) (rest := [.int ((if (M 28 5) = 0 then 0 else (M 28 3) - (M 28 3) / (M 28 5) * (M 28 5)))]) mlX5_79 (c_X9_rest (M 28 6) (M 28 5)) dX5_isPushDue_19 rfl rfl (Nat.le_of_ble_eq_true rfl) (by decide) (by decide) ?_
  refine xr_icmp_ne (tgt := 29) dX5_isPushDue_22 rfl (fun c1 => ?_) (fun c1 => ?_)
  · refine xr_iconst (v := 0) dX5_isPushDue_29 rfl ?_
    exact xr_iret dX5_isPushDue_30 rfl rfl (⟨_, rfl, rfl, rfl, rfl, (Or.inl rfl)⟩)
  · refine xr_iconst (v := 1) dX5_isPushDue_25 rfl ?_
    refine xr_goto (tgt := 30) dX5_isPushDue_26 rfl ?_
    exact xr_iret dX5_isPushDue_30 rfl rfl (⟨_, rfl, rfl, rfl, rfl, (Or.inr rfl)⟩)
set_option maxRecDepth 100000 in
set_option maxHeartbeats 4000000 in
theorem g_X5_goalInTurn_28 {l : Launch} {G : xG} {M : xM} {J : xJ} : x_M l G fX5_goalInTurn 1 0 0 [.ref (28)] x_SH M J (qPI M J (fun r => True)) := by
  refine xb_of pX5 (Nat.le_of_ble_eq_true rfl) rfl ?_
  refine xr_aload_n dX5_goalInTurn_0 0 rfl ?_
  refine xb_get (v := M 28 5) flX5_26 dX5_goalInTurn_1 s_28 rfl rfl ?_
  refine xr_if_ne (tgt := 11) dX5_goalInTurn_4 rfl (fun c1 => ?_) (fun c1 => ?_)
  · refine xr_aload_n dX5_goalInTurn_11 0 rfl ?_
    refine xb_get (v := M 28 3) flX5_42 dX5_goalInTurn_12 s_28 rfl rfl ?_
    refine xr_aload_n dX5_goalInTurn_15 0 rfl ?_
    refine xb_get (v := M 28 5) flX5_26 dX5_goalInTurn_16 s_28 rfl rfl ?_
    refine xr_idiv dX5_goalInTurn_19 c1 ?_
    refine xb_cN (As := [.int (((M 28 3) / (M 28 5)))]) (rest := []) mlX5_83 (c_X9_goalOf ((M 28 3) / (M 28 5))) dX5_goalInTurn_20 rfl rfl (Nat.le_of_ble_eq_true rfl) (by decide) (by decide) ?_
    exact xr_iret dX5_goalInTurn_23 rfl rfl (⟨_, rfl, rfl, rfl, rfl, trivial⟩)
  · refine xr_iconst (v := 0) dX5_goalInTurn_7 rfl ?_
    refine xr_goto (tgt := 20) dX5_goalInTurn_8 rfl ?_
    refine xb_cN (As := [.int (0)]) (rest := []) mlX5_83 (c_X9_goalOf 0) dX5_goalInTurn_20 rfl rfl (Nat.le_of_ble_eq_true rfl) (by decide) (by decide) ?_
    exact xr_iret dX5_goalInTurn_23 rfl rfl (⟨_, rfl, rfl, rfl, rfl, trivial⟩)
set_option maxRecDepth 100000 in
set_option maxHeartbeats 4000000 in
theorem pu_28 {fo go : Int32} {l : Launch} {G : xG} {M : xM} {J : xJ} {Q : xQ} (hv : ∀ k, k < 128 → M 3 k ≤ 100000)  {L : Nat} (h_L : L ≤ 128) (e_L : M 1 4 = nI L) {cn : Nat} (h_cn : cn ≤ 5) (e_cn : M 28 2 = nI cn) (hC : ∀ (M2 : xM), Ke W28p M M2 → x_X l G fX5_push 4 0 0 Q 52 [(2, .int (go)), (1, .int (fo)), (0, .ref (28))] [] x_SH M2 J 0 0) : ∀ (m k : Nat) (M1 : xM), k + m = cn → Ke W28p M M1 → x_X l G fX5_push 4 0 0 Q 2 [(3, .int (nI (k))), (2, .int (go)), (1, .int (fo)), (0, .ref (28))] [] x_SH M1 J 0 0 := by
  intro m
  induction m with
  | zero =>
    intro k M1 hk hM
    refine xr_iload_n dX5_push_2 0 rfl ?_
    refine xr_aload_n dX5_push_3 3 rfl ?_
    refine xb_get (v := nI (cn)) flX5_35 dX5_push_4 s_28 rfl (Eq.trans (hM 28 2 (by decide)) e_cn) ?_
    refine xr_icmp_ge (tgt := 52) dX5_push_7 rfl (fun _ => ?_) (fun c => absurd (nI_le (a := cn) (b := k) (by omega) (by omega)) c)
    refine xb_ls (ls2 := [(2, .int (go)), (1, .int (fo)), (0, .ref (28))]) [1, 2, 3] rfl ?_
    exact hC _ hM
  | succ m ih =>
    intro k M1 hk hM
    have hkN : k < cn := by omega
    refine xr_iload_n dX5_push_2 0 rfl ?_
    refine xr_aload_n dX5_push_3 3 rfl ?_
    refine xb_get (v := nI (cn)) flX5_35 dX5_push_4 s_28 rfl (Eq.trans (hM 28 2 (by decide)) e_cn) ?_
    refine xr_icmp_ge (tgt := 52) dX5_push_7 rfl (fun c => absurd c (nI_ge (a := k) (b := cn) (by omega) (by omega))) (fun _ => ?_)
    refine xr_aload_n dX5_push_10 3 rfl ?_
    refine xr_getR flX5_17 dX5_push_11 s_28 rfl ?_
    refine xr_iload_n dX5_push_14 0 rfl ?_
    refine xb_aald (j := k) (q := 30 + k) (by decide) dX5_push_15 s_29 (by omega) (by decide) (if_pos (by omega)) ?_
    refine xb_cV (As := []) (rest := []) mlX5_70 (c_X2_lies (s_hp30 (by omega))) dX5_push_16 (s_hp30 (by omega)) rfl rfl (Nat.le_of_ble_eq_true rfl) (by decide) (by decide) ?_
    refine xb_bne (tgt := 46) dX5_push_19 rfl (fun c1 => ?_) (fun c1 => ?_)
    · refine xr_iinc (v := nI (k + 1)) (ls2 := [(3, .int (nI (k + 1))), (2, .int (go)), (1, .int (fo)), (0, .ref (28))]) dX5_push_46 0 rfl (nI_1 _) (by decide) rfl ?_
      refine xr_goto (tgt := 2) dX5_push_49 rfl ?_
      refine xb_ls (ls2 := [(3, .int (nI (k + 1))), (2, .int (go)), (1, .int (fo)), (0, .ref (28))]) [0, 1, 2, 3] rfl ?_
      exact ih (k + 1) M1 (by omega) hM
    · refine xr_aload_n dX5_push_22 3 rfl ?_
      refine xr_getR flX5_17 dX5_push_23 s_28 rfl ?_
      refine xr_iload_n dX5_push_26 0 rfl ?_
      refine xb_aald (j := k) (q := 30 + k) (by decide) dX5_push_27 s_29 (by omega) (by decide) (if_pos (by omega)) ?_
      refine xr_aload_n dX5_push_28 3 rfl ?_
      refine xr_getR flX5_9 dX5_push_29 s_28 rfl ?_
      refine xr_aload_n dX5_push_32 3 rfl ?_
      refine xr_getR flX5_17 dX5_push_33 s_28 rfl ?_
      refine xr_iload_n dX5_push_36 0 rfl ?_
      refine xb_aald (j := k) (q := 30 + k) (by decide) dX5_push_37 s_29 (by omega) (by decide) (if_pos (by omega)) ?_
      refine xr_iload_n dX5_push_38 1 rfl ?_
      refine xr_iload_n dX5_push_39 2 rfl ?_
      refine xr_callV (As := [.ref (30 + k), .int (go), .int (fo)]) (rest := [.ref (30 + k)]) mlX5_101 (g_X3_more go fo (s_hp30 (by omega)) (fun k hk => by have h3 := (show M1 3 k = M 3 k from (Eq.trans (hM 3 k (by unfold W28p; omega)) rfl)); rw [h3]; exact hv k hk) (by omega) (Eq.trans (hM 1 4 (by decide)) e_L)) dX5_push_40 s_1 rfl rfl (Nat.le_of_ble_eq_true rfl) (by decide) ⟨by decide, by decide⟩ (fun v s2 M2 J2 hq => ?_)
      obtain ⟨r4, rfl, rfl, rfl, k3, _⟩ := hq
      try dsimp only [Option.toList, List.cons_append, List.nil_append]
      refine xr_callV (As := [.int (r4)]) (rest := []) mlX5_107 (g_X2_quicken r4 (s_hp30 (by omega))) dX5_push_43 (s_hp30 (by omega)) rfl rfl (Nat.le_of_ble_eq_true rfl) (by decide) ⟨by decide, by decide⟩ (fun v s2 M6 J2 hq => ?_)
      obtain ⟨rfl, rfl, rfl, k7, hx5⟩ := hq
      try dsimp only [Option.toList, List.cons_append, List.nil_append]
      refine xr_iinc (v := nI (k + 1)) (ls2 := [(3, .int (nI (k + 1))), (2, .int (go)), (1, .int (fo)), (0, .ref (28))]) dX5_push_46 0 rfl (nI_1 _) (by decide) rfl ?_
      refine xr_goto (tgt := 2) dX5_push_49 rfl ?_
      refine xb_ls (ls2 := [(3, .int (nI (k + 1))), (2, .int (go)), (1, .int (fo)), (0, .ref (28))]) [0, 1, 2, 3] rfl ?_
      exact ih (k + 1) M6 (by omega) (Ke.tr (fun pp kk hh => by have h2 : pp = 30 + k := hh; unfold W28p; omega) (Ke.tr (fun pp kk => (fun hh => Or.elim hh (fun h => (Or.inl h)) (fun h => (Or.inr (Or.inl h))))) hM k3) k7)
set_option maxRecDepth 100000 in
set_option maxHeartbeats 4000000 in
theorem g_X5_push_28 (fo go : Int32) {l : Launch} {G : xG} {M : xM} {J : xJ} (hv : ∀ k, k < 128 → M 3 k ≤ 100000)  {L : Nat} (h_L : L ≤ 128) (e_L : M 1 4 = nI L) {cn : Nat} (h_cn : cn ≤ 5) (e_cn : M 28 2 = nI cn) : x_M l G fX5_push 4 0 0 [.ref (28), .int (fo), .int (go)] x_SH M J (qKV W28p M J (fun M2 => True)) := by
  refine xb_of pX5 (Nat.le_of_ble_eq_true rfl) rfl ?_
  refine xr_iconst (v := 0) dX5_push_0 rfl ?_
  refine xr_istore_n (ls2 := [(3, .int (0)), (0, .ref (28)), (1, .int (fo)), (2, .int (go))]) dX5_push_1 (by decide) rfl ?_
  refine xb_ls (ls2 := [(3, .int (nI (0))), (2, .int (go)), (1, .int (fo)), (0, .ref (28))]) [0, 3, 2, 1] rfl ?_
  refine pu_28 (fun k hk => by have h3 := (show M 3 k = M 3 k from rfl); rw [h3]; exact hv k hk) (by omega) e_L (by omega) e_cn (fun M1 k2 => ?_) (cn - 0) 0 M (by omega) Ke.rf
  exact xr_vret dX5_push_52 rfl (⟨rfl, rfl, rfl, (Ke.tr (fun _ _ h => h) Ke.rf k2), trivial⟩)
set_option maxRecDepth 100000 in
set_option maxHeartbeats 4000000 in
theorem cj_28 {a : Nat} (ha : a < 5) {l : Launch} {G : xG} {M : xM} {J : xJ} {Q : xQ} {cn : Nat} (h_cn : cn ≤ 5) (e_cn : M 28 2 = nI cn) (hC : ∀ (M2 : xM), Ke W28h M M2 → x_X l G fX5_cross 3 0 0 Q 66 [(1, .int (nI (a))), (0, .ref (28))] [] x_SH M2 J 0 0) : ∀ (m k : Nat) (M1 : xM), k + m = cn → Ke W28h M M1 → x_X l G fX5_cross 3 0 0 Q 14 [(2, .int (nI (k))), (1, .int (nI (a))), (0, .ref (28))] [] x_SH M1 J 0 0 := by
  intro m
  induction m with
  | zero =>
    intro k M1 hk hM
    refine xr_iload_n dX5_cross_14 0 rfl ?_
    refine xr_aload_n dX5_cross_15 2 rfl ?_
    refine xb_get (v := nI (cn)) flX5_35 dX5_cross_16 s_28 rfl (Eq.trans (hM 28 2 (by decide)) e_cn) ?_
    refine xr_icmp_ge (tgt := 66) dX5_cross_19 rfl (fun _ => ?_) (fun c => absurd (nI_le (a := cn) (b := k) (by omega) (by omega)) c)
    refine xb_ls (ls2 := [(1, .int (nI (a))), (0, .ref (28))]) [1, 2] rfl ?_
    exact hC _ hM
  | succ m ih =>
    intro k M1 hk hM
    have hkN : k < cn := by omega
    refine xr_iload_n dX5_cross_14 0 rfl ?_
    refine xr_aload_n dX5_cross_15 2 rfl ?_
    refine xb_get (v := nI (cn)) flX5_35 dX5_cross_16 s_28 rfl (Eq.trans (hM 28 2 (by decide)) e_cn) ?_
    refine xr_icmp_ge (tgt := 66) dX5_cross_19 rfl (fun c => absurd c (nI_ge (a := k) (b := cn) (by omega) (by omega))) (fun _ => ?_)
    refine xr_aload_n dX5_cross_22 2 rfl ?_
    refine xr_getR flX5_17 dX5_cross_23 s_28 rfl ?_
    refine xr_iload_n dX5_cross_26 1 rfl ?_
    refine xb_aald (j := a) (q := 30 + a) (by decide) dX5_cross_27 s_29 (by omega) (by decide) (if_pos (by omega)) ?_
    refine xr_aload_n dX5_cross_28 2 rfl ?_
    refine xr_getR flX5_17 dX5_cross_29 s_28 rfl ?_
    refine xr_iload_n dX5_cross_32 0 rfl ?_
    refine xb_aald (j := k) (q := 30 + k) (by decide) dX5_cross_33 s_29 (by omega) (by decide) (if_pos (by omega)) ?_
    refine xr_callS (As := [.ref (30 + a), .ref (30 + k)]) (rest := []) mlX5_120 (g_X5_areCrossed (s_hp30 (by omega)) (s_hp30 (by omega))) dX5_cross_34 rfl rfl (Nat.le_of_ble_eq_true rfl) (by decide) ⟨by decide, by decide⟩ (fun v s2 M9 J2 hq => ?_)
    obtain ⟨r2, rfl, rfl, rfl, rfl, hx1⟩ := hq
    try dsimp only [Option.toList, List.cons_append, List.nil_append]
    refine xr_if_eq (tgt := 60) dX5_cross_37 rfl (fun c3 => ?_) (fun c3 => ?_)
    · refine xr_iinc (v := nI (k + 1)) (ls2 := [(2, .int (nI (k + 1))), (1, .int (nI (a))), (0, .ref (28))]) dX5_cross_60 0 rfl (nI_1 _) (by decide) rfl ?_
      refine xr_goto (tgt := 14) dX5_cross_63 rfl ?_
      refine xb_ls (ls2 := [(2, .int (nI (k + 1))), (1, .int (nI (a))), (0, .ref (28))]) [0, 1, 2] rfl ?_
      exact ih (k + 1) M1 (by omega) hM
    · refine xr_aload_n dX5_cross_40 2 rfl ?_
      refine xr_getR flX5_17 dX5_cross_41 s_28 rfl ?_
      refine xr_iload_n dX5_cross_44 1 rfl ?_
      refine xb_aald (j := a) (q := 30 + a) (by decide) dX5_cross_45 s_29 (by omega) (by decide) (if_pos (by omega)) ?_
      refine xr_iconst (v := -1) dX5_cross_46 rfl ?_
      refine xr_callV (As := [.int ((-1))]) (rest := []) mlX5_107 (g_X2_quicken (-1) (s_hp30 (by omega))) dX5_cross_47 (s_hp30 (by omega)) rfl rfl (Nat.le_of_ble_eq_true rfl) (by decide) ⟨by decide, by decide⟩ (fun v s2 M5 J2 hq => ?_)
      obtain ⟨rfl, rfl, rfl, k6, hx4⟩ := hq
      try dsimp only [Option.toList, List.cons_append, List.nil_append]
      refine xr_aload_n dX5_cross_50 2 rfl ?_
      refine xr_getR flX5_17 dX5_cross_51 s_28 rfl ?_
      refine xr_iload_n dX5_cross_54 0 rfl ?_
      refine xb_aald (j := k) (q := 30 + k) (by decide) dX5_cross_55 s_29 (by omega) (by decide) (if_pos (by omega)) ?_
      refine xr_iconst (v := -1) dX5_cross_56 rfl ?_
      refine xr_callV (As := [.int ((-1))]) (rest := []) mlX5_107 (g_X2_quicken (-1) (s_hp30 (by omega))) dX5_cross_57 (s_hp30 (by omega)) rfl rfl (Nat.le_of_ble_eq_true rfl) (by decide) ⟨by decide, by decide⟩ (fun v s2 M8 J2 hq => ?_)
      obtain ⟨rfl, rfl, rfl, k9, hx7⟩ := hq
      try dsimp only [Option.toList, List.cons_append, List.nil_append]
      refine xr_iinc (v := nI (k + 1)) (ls2 := [(2, .int (nI (k + 1))), (1, .int (nI (a))), (0, .ref (28))]) dX5_cross_60 0 rfl (nI_1 _) (by decide) rfl ?_
      refine xr_goto (tgt := 14) dX5_cross_63 rfl ?_
      refine xb_ls (ls2 := [(2, .int (nI (k + 1))), (1, .int (nI (a))), (0, .ref (28))]) [0, 1, 2] rfl ?_
      exact ih (k + 1) M8 (by omega) (Ke.tr (fun pp kk hh => by have h2 : pp = 30 + k := hh; unfold W28h; omega) (Ke.tr (fun pp kk hh => by have h2 : pp = 30 + a := hh; unfold W28h; omega) hM k6) k9)
set_option maxRecDepth 100000 in
set_option maxHeartbeats 4000000 in
theorem ci_28 {l : Launch} {G : xG} {M : xM} {J : xJ} {Q : xQ} {cn : Nat} (h_cn : cn ≤ 5) (e_cn : M 28 2 = nI cn) (hC : ∀ (M2 : xM), Ke W28h M M2 → x_X l G fX5_cross 3 0 0 Q 72 [(0, .ref (28))] [] x_SH M2 J 0 0) : ∀ (m k : Nat) (M1 : xM), k + m = cn → Ke W28h M M1 → x_X l G fX5_cross 3 0 0 Q 2 [(1, .int (nI (k))), (0, .ref (28))] [] x_SH M1 J 0 0 := by
  intro m
  induction m with
  | zero =>
    intro k M1 hk hM
    refine xr_iload_n dX5_cross_2 0 rfl ?_
    refine xr_aload_n dX5_cross_3 1 rfl ?_
    refine xb_get (v := nI (cn)) flX5_35 dX5_cross_4 s_28 rfl (Eq.trans (hM 28 2 (by decide)) e_cn) ?_
    refine xr_icmp_ge (tgt := 72) dX5_cross_7 rfl (fun _ => ?_) (fun c => absurd (nI_le (a := cn) (b := k) (by omega) (by omega)) c)
    refine xb_ls (ls2 := [(0, .ref (28))]) [1] rfl ?_
    exact hC _ hM
  | succ m ih =>
    intro k M1 hk hM
    have hkN : k < cn := by omega
    refine xr_iload_n dX5_cross_2 0 rfl ?_
    refine xr_aload_n dX5_cross_3 1 rfl ?_
    refine xb_get (v := nI (cn)) flX5_35 dX5_cross_4 s_28 rfl (Eq.trans (hM 28 2 (by decide)) e_cn) ?_
    refine xr_icmp_ge (tgt := 72) dX5_cross_7 rfl (fun c => absurd c (nI_ge (a := k) (b := cn) (by omega) (by omega))) (fun _ => ?_)
    refine xr_iload_n dX5_cross_10 0 rfl ?_
    refine xr_iconst (v := 1) dX5_cross_11 rfl ?_
    refine xr_iadd dX5_cross_12 ?_
    refine xb_top (y := nI (k + 1)) (nI_add (k) (1)) ?_
    refine xr_istore_n (ls2 := [(2, .int (nI (k + 1))), (1, .int (nI (k))), (0, .ref (28))]) dX5_cross_13 (by decide) rfl ?_
    refine xb_ls (ls2 := [(2, .int (nI (k + 1))), (1, .int (nI (k))), (0, .ref (28))]) [0, 1, 2] rfl ?_
    refine cj_28 (a := k) (by omega) (by omega) (Eq.trans (hM 28 2 (by decide)) e_cn) (fun M1 k2 => ?_) (cn - (k + 1)) (k + 1) M1 (by omega) Ke.rf
    refine xr_iinc (v := nI (k + 1)) (ls2 := [(1, .int (nI (k + 1))), (0, .ref (28))]) dX5_cross_66 0 rfl (nI_1 _) (by decide) rfl ?_
    refine xr_goto (tgt := 2) dX5_cross_69 rfl ?_
    refine xb_ls (ls2 := [(1, .int (nI (k + 1))), (0, .ref (28))]) [0, 1] rfl ?_
    exact ih (k + 1) M1 (by omega) (Ke.tr (fun _ _ h => h) hM k2)
set_option maxRecDepth 100000 in
set_option maxHeartbeats 4000000 in
theorem g_X5_cross_28 {l : Launch} {G : xG} {M : xM} {J : xJ} {cn : Nat} (h_cn : cn ≤ 5) (e_cn : M 28 2 = nI cn) : x_M l G fX5_cross 3 0 0 [.ref (28)] x_SH M J (qKV W28h M J (fun M2 => True)) := by
  refine xb_of pX5 (Nat.le_of_ble_eq_true rfl) rfl ?_
  refine xr_iconst (v := 0) dX5_cross_0 rfl ?_
  refine xr_istore_n (ls2 := [(1, .int (0)), (0, .ref (28))]) dX5_cross_1 (by decide) rfl ?_
  refine xb_ls (ls2 := [(1, .int (nI (0))), (0, .ref (28))]) [0, 1] rfl ?_
  refine ci_28 (by omega) e_cn (fun M1 k2 => ?_) (cn - 0) 0 M (by omega) Ke.rf
  exact xr_vret dX5_cross_72 rfl (⟨rfl, rfl, rfl, (Ke.tr (fun _ _ h => h) Ke.rf k2), trivial⟩)
set_option maxRecDepth 100000 in
set_option maxHeartbeats 4000000 in
theorem s1_28 {l : Launch} {G : xG} {M : xM} {J : xJ} {Q : xQ} {cn : Nat} (h_cn : cn ≤ 5) (e_cn : M 28 2 = nI cn) (hC : ∀ (M2 : xM), Ke W28h M M2 → x_X l G fX5_settle 4 0 0 Q 60 [(0, .ref (28))] [] x_SH M2 J 0 0) : ∀ (m k : Nat) (M1 : xM), k + m = cn → Ke W28h M M1 → x_X l G fX5_settle 4 0 0 Q 2 [(1, .int (nI (k))), (0, .ref (28))] [] x_SH M1 J 0 0 := by
  intro m
  induction m with
  | zero =>
    intro k M1 hk hM
    refine xr_iload_n dX5_settle_2 0 rfl ?_
    refine xr_aload_n dX5_settle_3 1 rfl ?_
    refine xb_get (v := nI (cn)) flX5_35 dX5_settle_4 s_28 rfl (Eq.trans (hM 28 2 (by decide)) e_cn) ?_
    refine xr_icmp_ge (tgt := 60) dX5_settle_7 rfl (fun _ => ?_) (fun c => absurd (nI_le (a := cn) (b := k) (by omega) (by omega)) c)
    refine xb_ls (ls2 := [(0, .ref (28))]) [1] rfl ?_
    exact hC _ hM
  | succ m ih =>
    intro k M1 hk hM
    have hkN : k < cn := by omega
    refine xr_iload_n dX5_settle_2 0 rfl ?_
    refine xr_aload_n dX5_settle_3 1 rfl ?_
    refine xb_get (v := nI (cn)) flX5_35 dX5_settle_4 s_28 rfl (Eq.trans (hM 28 2 (by decide)) e_cn) ?_
    refine xr_icmp_ge (tgt := 60) dX5_settle_7 rfl (fun c => absurd c (nI_ge (a := k) (b := cn) (by omega) (by omega))) (fun _ => ?_)
    refine xr_aload_n dX5_settle_10 1 rfl ?_
    refine xb_get (v := M1 28 3) flX5_42 dX5_settle_11 s_28 rfl rfl ?_
    refine xr_iconst (v := 1) dX5_settle_14 rfl ?_
    refine xr_iadd dX5_settle_15 ?_
    refine xr_aload_n dX5_settle_16 1 rfl ?_
    refine xr_getR flX5_17 dX5_settle_17 s_28 rfl ?_
    refine xr_iload_n dX5_settle_20 0 rfl ?_
    refine xb_aald (j := k) (q := 30 + k) (by decide) dX5_settle_21 s_29 (by omega) (by decide) (if_pos (by omega)) ?_
    refine xb_get (v := M1 (30 + k) 1) flX5_61 dX5_settle_22 (s_hp30 (by omega)) rfl rfl ?_
    refine xb_cN (As := [.int (((M1 28 3) + 1)), .int (M1 (30 + k) 1)]) (rest := []) mlX5_79 (c_X9_rest ((M1 28 3) + 1) (M1 (30 + k) 1)) dX5_settle_25 rfl rfl (Nat.le_of_ble_eq_true rfl) (by decide) (by decide) ?_
    refine xr_if_ne (tgt := 45) dX5_settle_28 rfl (fun c1 => ?_) (fun c1 => ?_)
    · refine xr_aload_n dX5_settle_45 1 rfl ?_
      refine xr_getR flX5_17 dX5_settle_46 s_28 rfl ?_
      refine xr_iload_n dX5_settle_49 0 rfl ?_
      refine xb_aald (j := k) (q := 30 + k) (by decide) dX5_settle_50 s_29 (by omega) (by decide) (if_pos (by omega)) ?_
      refine xr_callV (As := []) (rest := []) mlX5_111 (g_X2_move (s_hp30 (by omega))) dX5_settle_51 (s_hp30 (by omega)) rfl rfl (Nat.le_of_ble_eq_true rfl) (by decide) ⟨by decide, by decide⟩ (fun v s2 M3 J2 hq => ?_)
      obtain ⟨rfl, rfl, rfl, k4, hx2⟩ := hq
      try dsimp only [Option.toList, List.cons_append, List.nil_append]
      refine xr_iinc (v := nI (k + 1)) (ls2 := [(1, .int (nI (k + 1))), (0, .ref (28))]) dX5_settle_54 0 rfl (nI_1 _) (by decide) rfl ?_
      refine xr_goto (tgt := 2) dX5_settle_57 rfl ?_
      refine xb_ls (ls2 := [(1, .int (nI (k + 1))), (0, .ref (28))]) [0, 1] rfl ?_
      exact ih (k + 1) M3 (by omega) (Ke.tr (fun pp kk hh => by have h2 : pp = 30 + k := hh; unfold W28h; omega) hM k4)
    · refine xr_aload_n dX5_settle_31 1 rfl ?_
      refine xr_getR flX5_17 dX5_settle_32 s_28 rfl ?_
      refine xr_iload_n dX5_settle_35 0 rfl ?_
      refine xb_aald (j := k) (q := 30 + k) (by decide) dX5_settle_36 s_29 (by omega) (by decide) (if_pos (by omega)) ?_
      refine xr_aload_n dX5_settle_37 1 rfl ?_
      refine xb_get (v := M1 28 4) flX5_22 dX5_settle_38 s_28 rfl rfl ?_
      refine xr_ineg dX5_settle_41 ?_
      refine xr_callV (As := [.int ((-(M1 28 4)))]) (rest := []) mlX5_107 (g_X2_quicken (-(M1 28 4)) (s_hp30 (by omega))) dX5_settle_42 (s_hp30 (by omega)) rfl rfl (Nat.le_of_ble_eq_true rfl) (by decide) ⟨by decide, by decide⟩ (fun v s2 M6 J2 hq => ?_)
      obtain ⟨rfl, rfl, rfl, k7, hx5⟩ := hq
      try dsimp only [Option.toList, List.cons_append, List.nil_append]
      refine xr_aload_n dX5_settle_45 1 rfl ?_
      refine xr_getR flX5_17 dX5_settle_46 s_28 rfl ?_
      refine xr_iload_n dX5_settle_49 0 rfl ?_
      refine xb_aald (j := k) (q := 30 + k) (by decide) dX5_settle_50 s_29 (by omega) (by decide) (if_pos (by omega)) ?_
      refine xr_callV (As := []) (rest := []) mlX5_111 (g_X2_move (s_hp30 (by omega))) dX5_settle_51 (s_hp30 (by omega)) rfl rfl (Nat.le_of_ble_eq_true rfl) (by decide) ⟨by decide, by decide⟩ (fun v s2 M9 J2 hq => ?_)
      obtain ⟨rfl, rfl, rfl, k10, hx8⟩ := hq
      try dsimp only [Option.toList, List.cons_append, List.nil_append]
      refine xr_iinc (v := nI (k + 1)) (ls2 := [(1, .int (nI (k + 1))), (0, .ref (28))]) dX5_settle_54 0 rfl (nI_1 _) (by decide) rfl ?_
      refine xr_goto (tgt := 2) dX5_settle_57 rfl ?_
      refine xb_ls (ls2 := [(1, .int (nI (k + 1))), (0, .ref (28))]) [0, 1] rfl ?_
      exact ih (k + 1) M9 (by omega) (Ke.tr (fun pp kk hh => by have h2 : pp = 30 + k := hh; unfold W28h; omega) (Ke.tr (fun pp kk hh => by have h2 : pp = 30 + k := hh; unfold W28h; omega) hM k7) k10)
set_option maxRecDepth 100000 in
set_option maxHeartbeats 4000000 in
theorem s2_28 {l : Launch} {G : xG} {M : xM} {J : xJ} {Q : xQ} {cn : Nat} (h_cn : cn ≤ 5) (e_cn : M 28 2 = nI cn) (hC : ∀ (M2 : xM), Ke W28f M M2 → x_X l G fX5_settle 4 0 0 Q 100 [(0, .ref (28))] [] x_SH M2 J 0 0) : ∀ (m k : Nat) (M1 : xM), k + m = cn → Ke W28f M M1 → x_X l G fX5_settle 4 0 0 Q 66 [(1, .int (nI (k))), (0, .ref (28))] [] x_SH M1 J 0 0 := by
  intro m
  induction m with
  | zero =>
    intro k M1 hk hM
    refine xr_iload_n dX5_settle_66 0 rfl ?_
    refine xr_aload_n dX5_settle_67 1 rfl ?_
    refine xb_get (v := nI (cn)) flX5_35 dX5_settle_68 s_28 rfl (Eq.trans (hM 28 2 (by decide)) e_cn) ?_
    refine xr_icmp_ge (tgt := 100) dX5_settle_71 rfl (fun _ => ?_) (fun c => absurd (nI_le (a := cn) (b := k) (by omega) (by omega)) c)
    refine xb_ls (ls2 := [(0, .ref (28))]) [1] rfl ?_
    exact hC _ hM
  | succ m ih =>
    intro k M1 hk hM
    have hkN : k < cn := by omega
    refine xr_iload_n dX5_settle_66 0 rfl ?_
    refine xr_aload_n dX5_settle_67 1 rfl ?_
    refine xb_get (v := nI (cn)) flX5_35 dX5_settle_68 s_28 rfl (Eq.trans (hM 28 2 (by decide)) e_cn) ?_
    refine xr_icmp_ge (tgt := 100) dX5_settle_71 rfl (fun c => absurd c (nI_ge (a := k) (b := cn) (by omega) (by omega))) (fun _ => ?_)
    refine xr_aload_n dX5_settle_74 1 rfl ?_
    refine xr_getR flX5_17 dX5_settle_75 s_28 rfl ?_
    refine xr_iload_n dX5_settle_78 0 rfl ?_
    refine xb_aald (j := k) (q := 30 + k) (by decide) dX5_settle_79 s_29 (by omega) (by decide) (if_pos (by omega)) ?_
    refine xr_callV (As := []) (rest := []) mlX5_117 (g_X2_sankToLie (s_hp30 (by omega))) dX5_settle_80 (s_hp30 (by omega)) rfl rfl (Nat.le_of_ble_eq_true rfl) (by decide) ⟨by decide, by decide⟩ (fun v s2 M2 J2 hq => ?_)
    obtain ⟨r4, rfl, rfl, rfl, k3, hx1⟩ := hq
    try dsimp only [Option.toList, List.cons_append, List.nil_append]
    refine xr_if_eq (tgt := 94) dX5_settle_83 rfl (fun c5 => ?_) (fun c5 => ?_)
    · refine xr_iinc (v := nI (k + 1)) (ls2 := [(1, .int (nI (k + 1))), (0, .ref (28))]) dX5_settle_94 0 rfl (nI_1 _) (by decide) rfl ?_
      refine xr_goto (tgt := 66) dX5_settle_97 rfl ?_
      refine xb_ls (ls2 := [(1, .int (nI (k + 1))), (0, .ref (28))]) [0, 1] rfl ?_
      exact ih (k + 1) M2 (by omega) (Ke.tr (fun pp kk hh => by have h2 : pp = 30 + k := hh; unfold W28f; omega) hM k3)
    · refine xr_aload_n dX5_settle_86 1 rfl ?_
      refine xr_aload_n dX5_settle_87 1 rfl ?_
      refine xb_get (v := M2 28 3) flX5_42 dX5_settle_88 s_28 rfl rfl ?_
      refine xr_putI fpX5_32 dX5_settle_91 s_28 rfl rfl rfl ?_
      refine xr_iinc (v := nI (k + 1)) (ls2 := [(1, .int (nI (k + 1))), (0, .ref (28))]) dX5_settle_94 0 rfl (nI_1 _) (by decide) rfl ?_
      refine xr_goto (tgt := 66) dX5_settle_97 rfl ?_
      refine xb_ls (ls2 := [(1, .int (nI (k + 1))), (0, .ref (28))]) [0, 1] rfl ?_
      exact ih (k + 1) (x_up M2 28 9 (M2 28 3)) (by omega) (Ke.up (Or.inl (by omega)) (Ke.tr (fun pp kk hh => by have h2 : pp = 30 + k := hh; unfold W28f; omega) hM k3))
set_option maxRecDepth 100000 in
set_option maxHeartbeats 4000000 in
theorem g_X5_settle_28 {l : Launch} {G : xG} {M : xM} {J : xJ} {cn : Nat} (h_cn : cn ≤ 5) (e_cn : M 28 2 = nI cn) : x_M l G fX5_settle 4 0 0 [.ref (28)] x_SH M J (qKV W28s M J (fun M2 => M2 28 3 = M 28 3 + 1)) := by
  refine xb_of pX5 (Nat.le_of_ble_eq_true rfl) rfl ?_
  refine xr_iconst (v := 0) dX5_settle_0 rfl ?_
  refine xr_istore_n (ls2 := [(1, .int (0)), (0, .ref (28))]) dX5_settle_1 (by decide) rfl ?_
  refine xb_ls (ls2 := [(1, .int (nI (0))), (0, .ref (28))]) [0, 1] rfl ?_
  refine s1_28 (by omega) e_cn (fun M1 k2 => ?_) (cn - 0) 0 M (by omega) Ke.rf
  refine xr_aload_n dX5_settle_60 0 rfl ?_
  refine xr_callV (As := []) (rest := []) mlX5_114 (g_X5_cross_28 (by omega) (Eq.trans (k2 28 2 (by decide)) e_cn)) dX5_settle_61 s_28 rfl rfl (Nat.le_of_ble_eq_true rfl) (by decide) ⟨by decide, by decide⟩ (fun v s2 M3 J2 hq => ?_)
  obtain ⟨rfl, rfl, rfl, k4, _⟩ := hq
  try dsimp only [Option.toList, List.cons_append, List.nil_append]
  refine xr_iconst (v := 0) dX5_settle_64 rfl ?_
  refine xr_istore_n (ls2 := [(1, .int (0)), (0, .ref (28))]) dX5_settle_65 (by decide) rfl ?_
  refine xb_ls (ls2 := [(1, .int (nI (0))), (0, .ref (28))]) [0, 1] rfl ?_
  refine s2_28 (by omega) (Eq.trans (k4 28 2 (by decide)) (Eq.trans (k2 28 2 (by decide)) e_cn)) (fun M5 k6 => ?_) (cn - 0) 0 M3 (by omega) Ke.rf
  refine xr_aload_n dX5_settle_100 0 rfl ?_
  refine xr_dup dX5_settle_101 rfl ?_
  refine xb_get (v := (M 28 3)) flX5_42 dX5_settle_102 s_28 rfl (Eq.trans (k6 28 3 (by decide)) (Eq.trans (k4 28 3 (by decide)) (Eq.trans (k2 28 3 (by decide)) rfl))) ?_
  refine xr_iconst (v := 1) dX5_settle_105 rfl ?_
  refine xr_iadd dX5_settle_106 ?_
  refine xr_putI fpX5_42 dX5_settle_107 s_28 rfl rfl rfl ?_
  exact xr_vret dX5_settle_110 rfl (⟨rfl, rfl, rfl, (Ke.up (Or.inl (by omega)) (Ke.tr (fun pp kk => (fun hh => Or.elim hh (fun h => (Or.inr (Or.inl h))) (fun h => (Or.inr (Or.inr h))))) (Ke.tr (fun pp kk h => (Or.inr (Or.inr h))) (Ke.tr (fun pp kk h => (Or.inr (Or.inr h))) Ke.rf k2) k4) k6)), (x_up_s _ _ _ _)⟩)
set_option maxRecDepth 100000 in
set_option maxHeartbeats 4000000 in
theorem cp_28 {l : Launch} {G : xG} {M : xM} {J : xJ} {Q : xQ} {cn : Nat} (h_cn : cn ≤ 5) (e_cn : M 13 2 = nI cn) (hC : ∀ (M2 : xM), Ke W28h M M2 → x_X l G fX5_copy 2 0 0 Q 31 [(1, .ref (13)), (0, .ref (28))] [] x_SH M2 J 0 0) : ∀ (m k : Nat) (M1 : xM), k + m = cn → Ke W28h M M1 → x_X l G fX5_copy 2 0 0 Q 2 [(2, .int (nI (k))), (1, .ref (13)), (0, .ref (28))] [] x_SH M1 J 0 0 := by
  intro m
  induction m with
  | zero =>
    intro k M1 hk hM
    refine xr_iload_n dX5_copy_2 0 rfl ?_
    refine xr_aload_n dX5_copy_3 1 rfl ?_
    refine xb_get (v := nI (cn)) flX5_35 dX5_copy_4 s_13 rfl (Eq.trans (hM 13 2 (by decide)) e_cn) ?_
    refine xr_icmp_ge (tgt := 31) dX5_copy_7 rfl (fun _ => ?_) (fun c => absurd (nI_le (a := cn) (b := k) (by omega) (by omega)) c)
    refine xb_ls (ls2 := [(1, .ref (13)), (0, .ref (28))]) [1, 2] rfl ?_
    exact hC _ hM
  | succ m ih =>
    intro k M1 hk hM
    have hkN : k < cn := by omega
    refine xr_iload_n dX5_copy_2 0 rfl ?_
    refine xr_aload_n dX5_copy_3 1 rfl ?_
    refine xb_get (v := nI (cn)) flX5_35 dX5_copy_4 s_13 rfl (Eq.trans (hM 13 2 (by decide)) e_cn) ?_
    refine xr_icmp_ge (tgt := 31) dX5_copy_7 rfl (fun c => absurd c (nI_ge (a := k) (b := cn) (by omega) (by omega))) (fun _ => ?_)
    refine xr_aload_n dX5_copy_10 2 rfl ?_
    refine xr_getR flX5_17 dX5_copy_11 s_28 rfl ?_
    refine xr_iload_n dX5_copy_14 0 rfl ?_
    refine xb_aald (j := k) (q := 30 + k) (by decide) dX5_copy_15 s_29 (by omega) (by decide) (if_pos (by omega)) ?_
    refine xr_aload_n dX5_copy_16 1 rfl ?_
    refine xr_getR flX5_17 dX5_copy_17 s_13 rfl ?_
    refine xr_iload_n dX5_copy_20 0 rfl ?_
    refine xb_aald (j := k) (q := 15 + k) (by decide) dX5_copy_21 s_14 (by omega) (by decide) (if_pos (by omega)) ?_
    refine xr_callV (As := [.ref (15 + k)]) (rest := []) mlX5_38 (g_X2_copy (s_hp30 (by omega)) (s_hp15 (by omega))) dX5_copy_22 (s_hp30 (by omega)) rfl rfl (Nat.le_of_ble_eq_true rfl) (by decide) ⟨by decide, by decide⟩ (fun v s2 M1 J2 hq => ?_)
    obtain ⟨rfl, rfl, rfl, k2, _⟩ := hq
    try dsimp only [Option.toList, List.cons_append, List.nil_append]
    refine xr_iinc (v := nI (k + 1)) (ls2 := [(2, .int (nI (k + 1))), (1, .ref (13)), (0, .ref (28))]) dX5_copy_25 0 rfl (nI_1 _) (by decide) rfl ?_
    refine xr_goto (tgt := 2) dX5_copy_28 rfl ?_
    refine xb_ls (ls2 := [(2, .int (nI (k + 1))), (1, .ref (13)), (0, .ref (28))]) [0, 1, 2] rfl ?_
    exact ih (k + 1) M1 (by omega) (Ke.tr (fun pp kk hh => by have h2 : pp = 30 + k := hh; unfold W28h; omega) hM k2)
set_option maxRecDepth 100000 in
set_option maxHeartbeats 4000000 in
theorem g_X5_copy_28 {l : Launch} {G : xG} {M : xM} {J : xJ} {cn : Nat} (h_cn : cn ≤ 5) (e_cn : M 13 2 = nI cn) : x_M l G fX5_copy 2 0 0 [.ref (28), .ref (13)] x_SH M J (qKV W28c M J (fun M2 => M2 28 2 = nI cn ∧ M2 28 3 = M 13 3)) := by
  refine xb_of pX5 (Nat.le_of_ble_eq_true rfl) rfl ?_
  refine xr_iconst (v := 0) dX5_copy_0 rfl ?_
  refine xr_istore_n (ls2 := [(2, .int (0)), (0, .ref (28)), (1, .ref (13))]) dX5_copy_1 (by decide) rfl ?_
  refine xb_ls (ls2 := [(2, .int (nI (0))), (1, .ref (13)), (0, .ref (28))]) [0, 2, 1] rfl ?_
  refine cp_28 (by omega) e_cn (fun M1 k2 => ?_) (cn - 0) 0 M (by omega) Ke.rf
  refine xr_aload_n dX5_copy_31 1 rfl ?_
  refine xr_aload_n dX5_copy_32 0 rfl ?_
  refine xb_get (v := nI (cn)) flX5_35 dX5_copy_33 s_13 rfl (Eq.trans (k2 13 2 (by decide)) e_cn) ?_
  refine xr_putI fpX5_35 dX5_copy_36 s_28 rfl rfl rfl ?_
  refine xr_aload_n dX5_copy_39 1 rfl ?_
  refine xr_aload_n dX5_copy_40 0 rfl ?_
  refine xb_get (v := (M 13 3)) flX5_42 dX5_copy_41 s_13 rfl (Eq.trans (congrFun (x_up_n _ _ _ (by decide)) _) (Eq.trans (k2 13 3 (by decide)) rfl)) ?_
  refine xr_putI fpX5_42 dX5_copy_44 s_28 rfl rfl rfl ?_
  refine xr_aload_n dX5_copy_47 1 rfl ?_
  refine xr_aload_n dX5_copy_48 0 rfl ?_
  refine xb_get (v := (x_up (x_up M1 28 2 (nI (cn))) 28 3 (M 13 3)) 13 4) flX5_22 dX5_copy_49 s_13 rfl rfl ?_
  refine xr_putI fpX5_22 dX5_copy_52 s_28 rfl rfl rfl ?_
  refine xr_aload_n dX5_copy_55 1 rfl ?_
  refine xr_aload_n dX5_copy_56 0 rfl ?_
  refine xb_get (v := (x_up (x_up (x_up M1 28 2 (nI (cn))) 28 3 (M 13 3)) 28 4 ((x_up (x_up M1 28 2 (nI (cn))) 28 3 (M 13 3)) 13 4)) 13 5) flX5_26 dX5_copy_57 s_13 rfl rfl ?_
  refine xr_putI fpX5_26 dX5_copy_60 s_28 rfl rfl rfl ?_
  refine xr_aload_n dX5_copy_63 1 rfl ?_
  refine xr_aload_n dX5_copy_64 0 rfl ?_
  refine xb_get (v := (x_up (x_up (x_up (x_up M1 28 2 (nI (cn))) 28 3 (M 13 3)) 28 4 ((x_up (x_up M1 28 2 (nI (cn))) 28 3 (M 13 3)) 13 4)) 28 5 ((x_up (x_up (x_up M1 28 2 (nI (cn))) 28 3 (M 13 3)) 28 4 ((x_up (x_up M1 28 2 (nI (cn))) 28 3 (M 13 3)) 13 4)) 13 5)) 13 6) flX5_45 dX5_copy_65 s_13 rfl rfl ?_
  refine xr_putI fpX5_45 dX5_copy_68 s_28 rfl rfl rfl ?_
  refine xr_aload_n dX5_copy_71 1 rfl ?_
  refine xr_aload_n dX5_copy_72 0 rfl ?_
  refine xb_get (v := (x_up (x_up (x_up (x_up (x_up M1 28 2 (nI (cn))) 28 3 (M 13 3)) 28 4 ((x_up (x_up M1 28 2 (nI (cn))) 28 3 (M 13 3)) 13 4)) 28 5 ((x_up (x_up (x_up M1 28 2 (nI (cn))) 28 3 (M 13 3)) 28 4 ((x_up (x_up M1 28 2 (nI (cn))) 28 3 (M 13 3)) 13 4)) 13 5)) 28 6 ((x_up (x_up (x_up (x_up M1 28 2 (nI (cn))) 28 3 (M 13 3)) 28 4 ((x_up (x_up M1 28 2 (nI (cn))) 28 3 (M 13 3)) 13 4)) 28 5 ((x_up (x_up (x_up M1 28 2 (nI (cn))) 28 3 (M 13 3)) 28 4 ((x_up (x_up M1 28 2 (nI (cn))) 28 3 (M 13 3)) 13 4)) 13 5)) 13 6)) 13 7) flX5_29 dX5_copy_73 s_13 rfl rfl ?_
  refine xr_putI fpX5_29 dX5_copy_76 s_28 rfl rfl rfl ?_
  refine xr_aload_n dX5_copy_79 1 rfl ?_
  refine xr_aload_n dX5_copy_80 0 rfl ?_
  refine xb_get (v := (x_up (x_up (x_up (x_up (x_up (x_up M1 28 2 (nI (cn))) 28 3 (M 13 3)) 28 4 ((x_up (x_up M1 28 2 (nI (cn))) 28 3 (M 13 3)) 13 4)) 28 5 ((x_up (x_up (x_up M1 28 2 (nI (cn))) 28 3 (M 13 3)) 28 4 ((x_up (x_up M1 28 2 (nI (cn))) 28 3 (M 13 3)) 13 4)) 13 5)) 28 6 ((x_up (x_up (x_up (x_up M1 28 2 (nI (cn))) 28 3 (M 13 3)) 28 4 ((x_up (x_up M1 28 2 (nI (cn))) 28 3 (M 13 3)) 13 4)) 28 5 ((x_up (x_up (x_up M1 28 2 (nI (cn))) 28 3 (M 13 3)) 28 4 ((x_up (x_up M1 28 2 (nI (cn))) 28 3 (M 13 3)) 13 4)) 13 5)) 13 6)) 28 7 ((x_up (x_up (x_up (x_up (x_up M1 28 2 (nI (cn))) 28 3 (M 13 3)) 28 4 ((x_up (x_up M1 28 2 (nI (cn))) 28 3 (M 13 3)) 13 4)) 28 5 ((x_up (x_up (x_up M1 28 2 (nI (cn))) 28 3 (M 13 3)) 28 4 ((x_up (x_up M1 28 2 (nI (cn))) 28 3 (M 13 3)) 13 4)) 13 5)) 28 6 ((x_up (x_up (x_up (x_up M1 28 2 (nI (cn))) 28 3 (M 13 3)) 28 4 ((x_up (x_up M1 28 2 (nI (cn))) 28 3 (M 13 3)) 13 4)) 28 5 ((x_up (x_up (x_up M1 28 2 (nI (cn))) 28 3 (M 13 3)) 28 4 ((x_up (x_up M1 28 2 (nI (cn))) 28 3 (M 13 3)) 13 4)) 13 5)) 13 6)) 13 7)) 13 8) flX5_48 dX5_copy_81 s_13 rfl rfl ?_
  refine xr_putI fpX5_48 dX5_copy_84 s_28 rfl rfl rfl ?_
  refine xr_aload_n dX5_copy_87 1 rfl ?_
  refine xr_aload_n dX5_copy_88 0 rfl ?_
  refine xb_get (v := (x_up (x_up (x_up (x_up (x_up (x_up (x_up M1 28 2 (nI (cn))) 28 3 (M 13 3)) 28 4 ((x_up (x_up M1 28 2 (nI (cn))) 28 3 (M 13 3)) 13 4)) 28 5 ((x_up (x_up (x_up M1 28 2 (nI (cn))) 28 3 (M 13 3)) 28 4 ((x_up (x_up M1 28 2 (nI (cn))) 28 3 (M 13 3)) 13 4)) 13 5)) 28 6 ((x_up (x_up (x_up (x_up M1 28 2 (nI (cn))) 28 3 (M 13 3)) 28 4 ((x_up (x_up M1 28 2 (nI (cn))) 28 3 (M 13 3)) 13 4)) 28 5 ((x_up (x_up (x_up M1 28 2 (nI (cn))) 28 3 (M 13 3)) 28 4 ((x_up (x_up M1 28 2 (nI (cn))) 28 3 (M 13 3)) 13 4)) 13 5)) 13 6)) 28 7 ((x_up (x_up (x_up (x_up (x_up M1 28 2 (nI (cn))) 28 3 (M 13 3)) 28 4 ((x_up (x_up M1 28 2 (nI (cn))) 28 3 (M 13 3)) 13 4)) 28 5 ((x_up (x_up (x_up M1 28 2 (nI (cn))) 28 3 (M 13 3)) 28 4 ((x_up (x_up M1 28 2 (nI (cn))) 28 3 (M 13 3)) 13 4)) 13 5)) 28 6 ((x_up (x_up (x_up (x_up M1 28 2 (nI (cn))) 28 3 (M 13 3)) 28 4 ((x_up (x_up M1 28 2 (nI (cn))) 28 3 (M 13 3)) 13 4)) 28 5 ((x_up (x_up (x_up M1 28 2 (nI (cn))) 28 3 (M 13 3)) 28 4 ((x_up (x_up M1 28 2 (nI (cn))) 28 3 (M 13 3)) 13 4)) 13 5)) 13 6)) 13 7)) 28 8 ((x_up (x_up (x_up (x_up (x_up (x_up M1 28 2 (nI (cn))) 28 3 (M 13 3)) 28 4 ((x_up (x_up M1 28 2 (nI (cn))) 28 3 (M 13 3)) 13 4)) 28 5 ((x_up (x_up (x_up M1 28 2 (nI (cn))) 28 3 (M 13 3)) 28 4 ((x_up (x_up M1 28 2 (nI (cn))) 28 3 (M 13 3)) 13 4)) 13 5)) 28 6 ((x_up (x_up (x_up (x_up M1 28 2 (nI (cn))) 28 3 (M 13 3)) 28 4 ((x_up (x_up M1 28 2 (nI (cn))) 28 3 (M 13 3)) 13 4)) 28 5 ((x_up (x_up (x_up M1 28 2 (nI (cn))) 28 3 (M 13 3)) 28 4 ((x_up (x_up M1 28 2 (nI (cn))) 28 3 (M 13 3)) 13 4)) 13 5)) 13 6)) 28 7 ((x_up (x_up (x_up (x_up (x_up M1 28 2 (nI (cn))) 28 3 (M 13 3)) 28 4 ((x_up (x_up M1 28 2 (nI (cn))) 28 3 (M 13 3)) 13 4)) 28 5 ((x_up (x_up (x_up M1 28 2 (nI (cn))) 28 3 (M 13 3)) 28 4 ((x_up (x_up M1 28 2 (nI (cn))) 28 3 (M 13 3)) 13 4)) 13 5)) 28 6 ((x_up (x_up (x_up (x_up M1 28 2 (nI (cn))) 28 3 (M 13 3)) 28 4 ((x_up (x_up M1 28 2 (nI (cn))) 28 3 (M 13 3)) 13 4)) 28 5 ((x_up (x_up (x_up M1 28 2 (nI (cn))) 28 3 (M 13 3)) 28 4 ((x_up (x_up M1 28 2 (nI (cn))) 28 3 (M 13 3)) 13 4)) 13 5)) 13 6)) 13 7)) 13 8)) 13 9) flX5_32 dX5_copy_89 s_13 rfl rfl ?_
  refine xr_putI fpX5_32 dX5_copy_92 s_28 rfl rfl rfl ?_
  exact xr_vret dX5_copy_95 rfl (⟨rfl, rfl, rfl, (Ke.up (Or.inl (by omega)) (Ke.up (Or.inl (by omega)) (Ke.up (Or.inl (by omega)) (Ke.up (Or.inl (by omega)) (Ke.up (Or.inl (by omega)) (Ke.up (Or.inl (by omega)) (Ke.up (Or.inl (by omega)) (Ke.up (Or.inl (by omega)) (Ke.tr (fun pp kk hh => by unfold W28h at hh; unfold W28c; omega) Ke.rf k2))))))))), ⟨(Eq.trans (x_up_k _ _ _ (by decide)) (Eq.trans (x_up_k _ _ _ (by decide)) (Eq.trans (x_up_k _ _ _ (by decide)) (Eq.trans (x_up_k _ _ _ (by decide)) (Eq.trans (x_up_k _ _ _ (by decide)) (Eq.trans (x_up_k _ _ _ (by decide)) (Eq.trans (x_up_k _ _ _ (by decide)) (x_up_s _ _ _ _)))))))), (Eq.trans (x_up_k _ _ _ (by decide)) (Eq.trans (x_up_k _ _ _ (by decide)) (Eq.trans (x_up_k _ _ _ (by decide)) (Eq.trans (x_up_k _ _ _ (by decide)) (Eq.trans (x_up_k _ _ _ (by decide)) (Eq.trans (x_up_k _ _ _ (by decide)) (x_up_s _ _ _ _)))))))⟩⟩)
set_option maxRecDepth 100000 in
set_option maxHeartbeats 4000000 in
theorem c_X5_has (h : Int32) {l : Launch} {G : xG} {M : xM} {J : xJ} {cn : Nat} (h_cn : cn ≤ 5) (e_cn : M 13 2 = nI cn) : x_M l G fX5_has 0 0 0 [.ref (13), .int (h)] x_SH M J (qE (some (.int (bI (0 ≤ h ∧ h < nI cn)))) x_SH M J) := by
  refine xb_of pX5 (Nat.le_of_ble_eq_true rfl) rfl ?_
  refine xr_iload_n dX5_has_0 1 rfl ?_
  refine xr_if_lt (tgt := 16) dX5_has_1 rfl (fun c1 => ?_) (fun c1 => ?_)
  · refine xr_iconst (v := 0) dX5_has_16 rfl ?_
    exact xr_iret dX5_has_17 rfl rfl (⟨congrArg (fun z => some (Value.int z)) (bI_f (by grind)).symm, rfl, rfl, rfl⟩)
  · refine xr_iload_n dX5_has_4 1 rfl ?_
    refine xr_aload_n dX5_has_5 0 rfl ?_
    refine xb_get (v := nI (cn)) flX5_35 dX5_has_6 s_13 rfl e_cn ?_
    refine xr_icmp_ge (tgt := 16) dX5_has_9 rfl (fun c2 => ?_) (fun c2 => ?_)
    · refine xr_iconst (v := 0) dX5_has_16 rfl ?_
      exact xr_iret dX5_has_17 rfl rfl (⟨congrArg (fun z => some (Value.int z)) (bI_f (by grind)).symm, rfl, rfl, rfl⟩)
    · refine xr_iconst (v := 1) dX5_has_12 rfl ?_
      refine xr_goto (tgt := 17) dX5_has_13 rfl ?_
      exact xr_iret dX5_has_17 rfl rfl (⟨congrArg (fun z => some (Value.int z)) (bI_t (by grind)).symm, rfl, rfl, rfl⟩)
set_option maxRecDepth 100000 in
set_option maxHeartbeats 4000000 in
theorem c_X5_isFull {l : Launch} {G : xG} {M : xM} {J : xJ} {cn : Nat} (h_cn : cn ≤ 5) (e_cn : M 13 2 = nI cn) : x_M l G fX5_isFull 0 0 0 [.ref (13)] x_SH M J (qE (some (.int (bI (5 ≤ cn)))) x_SH M J) := by
  refine xb_of pX5 (Nat.le_of_ble_eq_true rfl) rfl ?_
  refine xr_aload_n dX5_isFull_0 0 rfl ?_
  refine xb_get (v := nI (cn)) flX5_35 dX5_isFull_1 s_13 rfl e_cn ?_
  refine xr_iconst (v := 5) dX5_isFull_4 rfl ?_
  refine xr_icmp_lt (tgt := 12) dX5_isFull_5 rfl (fun c1 => ?_) (fun c1 => ?_)
  · have nc1 : cn < 5 := (nI_ltI (a := cn) (b := 5) (by omega) (by omega)).mp c1
    refine xr_iconst (v := 0) dX5_isFull_12 rfl ?_
    exact xr_iret dX5_isFull_13 rfl rfl (⟨congrArg (fun z => some (Value.int z)) (bI_f (by omega)).symm, rfl, rfl, rfl⟩)
  · have nc1 : ¬ (cn < 5) := fun q => c1 ((nI_ltI (a := cn) (b := 5) (by omega) (by omega)).mpr q)
    refine xr_iconst (v := 1) dX5_isFull_8 rfl ?_
    refine xr_goto (tgt := 13) dX5_isFull_9 rfl ?_
    exact xr_iret dX5_isFull_13 rfl rfl (⟨congrArg (fun z => some (Value.int z)) (bI_t (by omega)).symm, rfl, rfl, rfl⟩)
