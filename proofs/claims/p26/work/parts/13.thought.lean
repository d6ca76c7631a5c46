theorem dX7_begin_0 : decode cX7_begin 0 = .ok (.aload_n 0, 1) := by decide +kernel
theorem dX7_begin_1 : decode cX7_begin 1 = .ok (.getfield 15, 3) := by decide +kernel
theorem dX7_begin_4 : decode cX7_begin 4 = .ok (.aload_n 0, 1) := by decide +kernel
theorem dX7_begin_5 : decode cX7_begin 5 = .ok (.getfield 9, 3) := by decide +kernel
theorem dX7_begin_8 : decode cX7_begin 8 = .ok (.invokevirtual 18, 3) := by decide +kernel
theorem dX7_begin_11 : decode cX7_begin 11 = .ok (.aload_n 0, 1) := by decide +kernel
theorem dX7_begin_12 : decode cX7_begin 12 = .ok (.iconst 0, 1) := by decide +kernel
theorem dX7_begin_13 : decode cX7_begin 13 = .ok (.putfield 24, 3) := by decide +kernel
theorem dX7_begin_16 : decode cX7_begin 16 = .ok (.aload_n 0, 1) := by decide +kernel
theorem dX7_begin_17 : decode cX7_begin 17 = .ok (.iconst 0, 1) := by decide +kernel
theorem dX7_begin_18 : decode cX7_begin 18 = .ok (.putfield 28, 3) := by decide +kernel
theorem dX7_begin_21 : decode cX7_begin 21 = .ok (.aload_n 0, 1) := by decide +kernel
theorem dX7_begin_22 : decode cX7_begin 22 = .ok (.iconst (-1), 1) := by decide +kernel
theorem dX7_begin_23 : decode cX7_begin 23 = .ok (.putfield 31, 3) := by decide +kernel
theorem dX7_begin_26 : decode cX7_begin 26 = .ok (.aload_n 0, 1) := by decide +kernel
theorem dX7_begin_27 : decode cX7_begin 27 = .ok (.iconst (-1), 1) := by decide +kernel
theorem dX7_begin_28 : decode cX7_begin 28 = .ok (.putfield 34, 3) := by decide +kernel
theorem dX7_begin_31 : decode cX7_begin 31 = .ok (.return_, 1) := by decide +kernel
theorem dX7_leaveOut_0 : decode cX7_leaveOut 0 = .ok (.aload_n 0, 1) := by decide +kernel
theorem dX7_leaveOut_1 : decode cX7_leaveOut 1 = .ok (.iload_n 1, 1) := by decide +kernel
theorem dX7_leaveOut_2 : decode cX7_leaveOut 2 = .ok (.putfield 31, 3) := by decide +kernel
theorem dX7_leaveOut_5 : decode cX7_leaveOut 5 = .ok (.return_, 1) := by decide +kernel
theorem dX7_addPush_0 : decode cX7_addPush 0 = .ok (.aload_n 0, 1) := by decide +kernel
theorem dX7_addPush_1 : decode cX7_addPush 1 = .ok (.iload_n 1, 1) := by decide +kernel
theorem dX7_addPush_2 : decode cX7_addPush 2 = .ok (.putfield 34, 3) := by decide +kernel
theorem dX7_addPush_5 : decode cX7_addPush 5 = .ok (.aload_n 0, 1) := by decide +kernel
theorem dX7_addPush_6 : decode cX7_addPush 6 = .ok (.iload_n 2, 1) := by decide +kernel
theorem dX7_addPush_7 : decode cX7_addPush 7 = .ok (.putfield 37, 3) := by decide +kernel
theorem dX7_addPush_10 : decode cX7_addPush 10 = .ok (.aload_n 0, 1) := by decide +kernel
theorem dX7_addPush_11 : decode cX7_addPush 11 = .ok (.iload_n 3, 1) := by decide +kernel
theorem dX7_addPush_12 : decode cX7_addPush 12 = .ok (.putfield 40, 3) := by decide +kernel
theorem dX7_addPush_15 : decode cX7_addPush 15 = .ok (.return_, 1) := by decide +kernel
theorem dX7_step_0 : decode cX7_step 0 = .ok (.aload_n 0, 1) := by decide +kernel
theorem dX7_step_1 : decode cX7_step 1 = .ok (.getfield 15, 3) := by decide +kernel
theorem dX7_step_4 : decode cX7_step 4 = .ok (.invokevirtual 43, 3) := by decide +kernel
theorem dX7_step_7 : decode cX7_step 7 = .ok (.ifCond .eq 45, 3) := by decide +kernel
theorem dX7_step_52 : decode cX7_step 52 = .ok (.aload_n 0, 1) := by decide +kernel
theorem dX7_step_53 : decode cX7_step 53 = .ok (.getfield 24, 3) := by decide +kernel
theorem dX7_step_56 : decode cX7_step 56 = .ok (.aload_n 0, 1) := by decide +kernel
theorem dX7_step_57 : decode cX7_step 57 = .ok (.getfield 34, 3) := by decide +kernel
theorem dX7_step_60 : decode cX7_step 60 = .ok (.if_icmp .ne 18, 3) := by decide +kernel
theorem dX7_step_78 : decode cX7_step 78 = .ok (.aload_n 0, 1) := by decide +kernel
theorem dX7_step_79 : decode cX7_step 79 = .ok (.getfield 15, 3) := by decide +kernel
theorem dX7_step_82 : decode cX7_step 82 = .ok (.invokevirtual 58, 3) := by decide +kernel
theorem dX7_step_85 : decode cX7_step 85 = .ok (.aload_n 0, 1) := by decide +kernel
theorem dX7_step_86 : decode cX7_step 86 = .ok (.dup, 1) := by decide +kernel
theorem dX7_step_87 : decode cX7_step 87 = .ok (.getfield 24, 3) := by decide +kernel
theorem dX7_step_90 : decode cX7_step 90 = .ok (.iconst 1, 1) := by decide +kernel
theorem dX7_step_91 : decode cX7_step 91 = .ok (.iadd, 1) := by decide +kernel
theorem dX7_step_92 : decode cX7_step 92 = .ok (.putfield 24, 3) := by decide +kernel
theorem dX7_step_95 : decode cX7_step 95 = .ok (.return_, 1) := by decide +kernel
theorem dX7_step_63 : decode cX7_step 63 = .ok (.aload_n 0, 1) := by decide +kernel
theorem dX7_step_64 : decode cX7_step 64 = .ok (.getfield 15, 3) := by decide +kernel
theorem dX7_step_67 : decode cX7_step 67 = .ok (.aload_n 0, 1) := by decide +kernel
theorem dX7_step_68 : decode cX7_step 68 = .ok (.getfield 37, 3) := by decide +kernel
theorem dX7_step_71 : decode cX7_step 71 = .ok (.aload_n 0, 1) := by decide +kernel
theorem dX7_step_72 : decode cX7_step 72 = .ok (.getfield 40, 3) := by decide +kernel
theorem dX7_step_75 : decode cX7_step 75 = .ok (.invokevirtual 54, 3) := by decide +kernel
theorem dX7_step_10 : decode cX7_step 10 = .ok (.aload_n 0, 1) := by decide +kernel
theorem dX7_step_11 : decode cX7_step 11 = .ok (.getfield 28, 3) := by decide +kernel
theorem dX7_step_14 : decode cX7_step 14 = .ok (.aload_n 0, 1) := by decide +kernel
theorem dX7_step_15 : decode cX7_step 15 = .ok (.getfield 31, 3) := by decide +kernel
theorem dX7_step_18 : decode cX7_step 18 = .ok (.if_icmp .eq 24, 3) := by decide +kernel
theorem dX7_step_42 : decode cX7_step 42 = .ok (.aload_n 0, 1) := by decide +kernel
theorem dX7_step_43 : decode cX7_step 43 = .ok (.dup, 1) := by decide +kernel
theorem dX7_step_44 : decode cX7_step 44 = .ok (.getfield 28, 3) := by decide +kernel
theorem dX7_step_47 : decode cX7_step 47 = .ok (.iconst 1, 1) := by decide +kernel
theorem dX7_step_48 : decode cX7_step 48 = .ok (.iadd, 1) := by decide +kernel
theorem dX7_step_49 : decode cX7_step 49 = .ok (.putfield 28, 3) := by decide +kernel
theorem dX7_step_21 : decode cX7_step 21 = .ok (.aload_n 0, 1) := by decide +kernel
theorem dX7_step_22 : decode cX7_step 22 = .ok (.getfield 15, 3) := by decide +kernel
theorem dX7_step_25 : decode cX7_step 25 = .ok (.aload_n 0, 1) := by decide +kernel
theorem dX7_step_26 : decode cX7_step 26 = .ok (.getfield 15, 3) := by decide +kernel
theorem dX7_step_29 : decode cX7_step 29 = .ok (.getfield 47, 3) := by decide +kernel
theorem dX7_step_32 : decode cX7_step 32 = .ok (.aload_n 0, 1) := by decide +kernel
theorem dX7_step_33 : decode cX7_step 33 = .ok (.getfield 15, 3) := by decide +kernel
theorem dX7_step_36 : decode cX7_step 36 = .ok (.invokevirtual 50, 3) := by decide +kernel
theorem dX7_step_39 : decode cX7_step 39 = .ok (.invokevirtual 54, 3) := by decide +kernel
theorem dX7_behind_6 : decode cX7_behind 6 = .ok (.iload_n 3, 1) := by decide +kernel
theorem dX7_behind_7 : decode cX7_behind 7 = .ok (.iload_n 2, 1) := by decide +kernel
theorem dX7_behind_8 : decode cX7_behind 8 = .ok (.if_icmp .ge 13, 3) := by decide +kernel
theorem dX7_behind_11 : decode cX7_behind 11 = .ok (.aload_n 0, 1) := by decide +kernel
theorem dX7_behind_12 : decode cX7_behind 12 = .ok (.invokevirtual 64, 3) := by decide +kernel
theorem dX7_behind_15 : decode cX7_behind 15 = .ok (.iinc 3 1, 3) := by decide +kernel
theorem dX7_behind_18 : decode cX7_behind 18 = .ok (.goto (-12), 3) := by decide +kernel
theorem dX7_behind_0 : decode cX7_behind 0 = .ok (.aload_n 0, 1) := by decide +kernel
theorem dX7_behind_1 : decode cX7_behind 1 = .ok (.invokevirtual 61, 3) := by decide +kernel
theorem dX7_behind_4 : decode cX7_behind 4 = .ok (.iconst 0, 1) := by decide +kernel
theorem dX7_behind_5 : decode cX7_behind 5 = .ok (.istore_n 3, 1) := by decide +kernel
theorem dX7_behind_21 : decode cX7_behind 21 = .ok (.aload_n 0, 1) := by decide +kernel
theorem dX7_behind_22 : decode cX7_behind 22 = .ok (.getfield 15, 3) := by decide +kernel
theorem dX7_behind_25 : decode cX7_behind 25 = .ok (.getfield 67, 3) := by decide +kernel
theorem dX7_behind_28 : decode cX7_behind 28 = .ok (.iload_n 1, 1) := by decide +kernel
theorem dX7_behind_29 : decode cX7_behind 29 = .ok (.aaload, 1) := by decide +kernel
theorem dX7_behind_30 : decode cX7_behind 30 = .ok (.areturn, 1) := by decide +kernel
theorem dX7_fallOf_2 : decode cX7_fallOf 2 = .ok (.iload_n 2, 1) := by decide +kernel
theorem dX7_fallOf_3 : decode cX7_fallOf 3 = .ok (.sipush 200, 3) := by decide +kernel
theorem dX7_fallOf_6 : decode cX7_fallOf 6 = .ok (.if_icmp .gt 30, 3) := by decide +kernel
theorem dX7_fallOf_9 : decode cX7_fallOf 9 = .ok (.aload_n 0, 1) := by decide +kernel
theorem dX7_fallOf_10 : decode cX7_fallOf 10 = .ok (.getfield 15, 3) := by decide +kernel
theorem dX7_fallOf_13 : decode cX7_fallOf 13 = .ok (.getfield 67, 3) := by decide +kernel
theorem dX7_fallOf_16 : decode cX7_fallOf 16 = .ok (.iload_n 1, 1) := by decide +kernel
theorem dX7_fallOf_17 : decode cX7_fallOf 17 = .ok (.aaload, 1) := by decide +kernel
theorem dX7_fallOf_18 : decode cX7_fallOf 18 = .ok (.invokevirtual 71, 3) := by decide +kernel
theorem dX7_fallOf_21 : decode cX7_fallOf 21 = .ok (.ifCond .eq 5, 3) := by decide +kernel
theorem dX7_fallOf_26 : decode cX7_fallOf 26 = .ok (.aload_n 0, 1) := by decide +kernel
theorem dX7_fallOf_27 : decode cX7_fallOf 27 = .ok (.invokevirtual 64, 3) := by decide +kernel
theorem dX7_fallOf_30 : decode cX7_fallOf 30 = .ok (.iinc 2 1, 3) := by decide +kernel
theorem dX7_fallOf_33 : decode cX7_fallOf 33 = .ok (.goto (-31), 3) := by decide +kernel
theorem dX7_fallOf_24 : decode cX7_fallOf 24 = .ok (.iload_n 2, 1) := by decide +kernel
theorem dX7_fallOf_25 : decode cX7_fallOf 25 = .ok (.ireturn, 1) := by decide +kernel
theorem dX7_fallOf_0 : decode cX7_fallOf 0 = .ok (.iconst 0, 1) := by decide +kernel
theorem dX7_fallOf_1 : decode cX7_fallOf 1 = .ok (.istore_n 2, 1) := by decide +kernel
theorem dX7_fallOf_36 : decode cX7_fallOf 36 = .ok (.bipush (-2), 2) := by decide +kernel
theorem dX7_fallOf_38 : decode cX7_fallOf 38 = .ok (.ireturn, 1) := by decide +kernel
theorem dX7_isUpBehind_2 : decode cX7_isUpBehind 2 = .ok (.iload_n 3, 1) := by decide +kernel
theorem dX7_isUpBehind_3 : decode cX7_isUpBehind 3 = .ok (.iload_n 2, 1) := by decide +kernel
theorem dX7_isUpBehind_4 : decode cX7_isUpBehind 4 = .ok (.if_icmp .ge 28, 3) := by decide +kernel
theorem dX7_isUpBehind_7 : decode cX7_isUpBehind 7 = .ok (.aload_n 0, 1) := by decide +kernel
theorem dX7_isUpBehind_8 : decode cX7_isUpBehind 8 = .ok (.getfield 15, 3) := by decide +kernel
theorem dX7_isUpBehind_11 : decode cX7_isUpBehind 11 = .ok (.getfield 67, 3) := by decide +kernel
theorem dX7_isUpBehind_14 : decode cX7_isUpBehind 14 = .ok (.iload_n 1, 1) := by decide +kernel
theorem dX7_isUpBehind_15 : decode cX7_isUpBehind 15 = .ok (.aaload, 1) := by decide +kernel
theorem dX7_isUpBehind_16 : decode cX7_isUpBehind 16 = .ok (.invokevirtual 71, 3) := by decide +kernel
theorem dX7_isUpBehind_19 : decode cX7_isUpBehind 19 = .ok (.ifCond .ne 13, 3) := by decide +kernel
theorem dX7_isUpBehind_22 : decode cX7_isUpBehind 22 = .ok (.aload_n 0, 1) := by decide +kernel
theorem dX7_isUpBehind_23 : decode cX7_isUpBehind 23 = .ok (.invokevirtual 64, 3) := by decide +kernel
theorem dX7_isUpBehind_26 : decode cX7_isUpBehind 26 = .ok (.iinc 3 1, 3) := by decide +kernel
theorem dX7_isUpBehind_29 : decode cX7_isUpBehind 29 = .ok (.goto (-27), 3) := by decide +kernel
theorem dX7_isUpBehind_0 : decode cX7_isUpBehind 0 = .ok (.iconst 0, 1) := by decide +kernel
theorem dX7_isUpBehind_1 : decode cX7_isUpBehind 1 = .ok (.istore_n 3, 1) := by decide +kernel
theorem dX7_isUpBehind_32 : decode cX7_isUpBehind 32 = .ok (.aload_n 0, 1) := by decide +kernel
theorem dX7_isUpBehind_33 : decode cX7_isUpBehind 33 = .ok (.getfield 15, 3) := by decide +kernel
theorem dX7_isUpBehind_36 : decode cX7_isUpBehind 36 = .ok (.getfield 67, 3) := by decide +kernel
theorem dX7_isUpBehind_39 : decode cX7_isUpBehind 39 = .ok (.iload_n 1, 1) := by decide +kernel
theorem dX7_isUpBehind_40 : decode cX7_isUpBehind 40 = .ok (.aaload, 1) := by decide +kernel
theorem dX7_isUpBehind_41 : decode cX7_isUpBehind 41 = .ok (.invokevirtual 71, 3) := by decide +kernel
theorem dX7_isUpBehind_44 : decode cX7_isUpBehind 44 = .ok (.ifCond .ne 7, 3) := by decide +kernel
theorem dX7_isUpBehind_51 : decode cX7_isUpBehind 51 = .ok (.iconst 0, 1) := by decide +kernel
theorem dX7_isUpBehind_52 : decode cX7_isUpBehind 52 = .ok (.ireturn, 1) := by decide +kernel
theorem dX7_isUpBehind_47 : decode cX7_isUpBehind 47 = .ok (.iconst 1, 1) := by decide +kernel
theorem dX7_isUpBehind_48 : decode cX7_isUpBehind 48 = .ok (.goto 4, 3) := by decide +kernel
theorem dX7_lasting_10 : decode cX7_lasting 10 = .ok (.iload_n 2, 1) := by decide +kernel
theorem dX7_lasting_11 : decode cX7_lasting 11 = .ok (.sipush 200, 3) := by decide +kernel
theorem dX7_lasting_14 : decode cX7_lasting 14 = .ok (.if_icmp .ge 26, 3) := by decide +kernel
theorem dX7_lasting_17 : decode cX7_lasting 17 = .ok (.aload_n 0, 1) := by decide +kernel
theorem dX7_lasting_18 : decode cX7_lasting 18 = .ok (.invokevirtual 64, 3) := by decide +kernel
theorem dX7_lasting_21 : decode cX7_lasting 21 = .ok (.aload_n 0, 1) := by decide +kernel
theorem dX7_lasting_22 : decode cX7_lasting 22 = .ok (.getfield 15, 3) := by decide +kernel
theorem dX7_lasting_25 : decode cX7_lasting 25 = .ok (.invokevirtual 76, 3) := by decide +kernel
theorem dX7_lasting_28 : decode cX7_lasting 28 = .ok (.iload_n 1, 1) := by decide +kernel
theorem dX7_lasting_29 : decode cX7_lasting 29 = .ok (.if_icmp .ge 5, 3) := by decide +kernel
theorem dX7_lasting_34 : decode cX7_lasting 34 = .ok (.iinc 2 1, 3) := by decide +kernel
theorem dX7_lasting_37 : decode cX7_lasting 37 = .ok (.goto (-27), 3) := by decide +kernel
theorem dX7_lasting_32 : decode cX7_lasting 32 = .ok (.iload_n 2, 1) := by decide +kernel
theorem dX7_lasting_33 : decode cX7_lasting 33 = .ok (.ireturn, 1) := by decide +kernel
theorem dX7_lasting_0 : decode cX7_lasting 0 = .ok (.aload_n 0, 1) := by decide +kernel
theorem dX7_lasting_1 : decode cX7_lasting 1 = .ok (.getfield 15, 3) := by decide +kernel
theorem dX7_lasting_4 : decode cX7_lasting 4 = .ok (.invokevirtual 76, 3) := by decide +kernel
theorem dX7_lasting_7 : decode cX7_lasting 7 = .ok (.istore_n 1, 1) := by decide +kernel
theorem dX7_lasting_8 : decode cX7_lasting 8 = .ok (.iconst 0, 1) := by decide +kernel
theorem dX7_lasting_9 : decode cX7_lasting 9 = .ok (.istore_n 2, 1) := by decide +kernel
theorem dX7_lasting_40 : decode cX7_lasting 40 = .ok (.sipush 200, 3) := by decide +kernel
theorem dX7_lasting_43 : decode cX7_lasting 43 = .ok (.ireturn, 1) := by decide +kernel
theorem dX7_caughtAgain_4 : decode cX7_caughtAgain 4 = .ok (.iload_n 2, 1) := by decide +kernel
theorem dX7_caughtAgain_5 : decode cX7_caughtAgain 5 = .ok (.sipush 200, 3) := by decide +kernel
theorem dX7_caughtAgain_8 : decode cX7_caughtAgain 8 = .ok (.if_icmp .gt 45, 3) := by decide +kernel
theorem dX7_caughtAgain_11 : decode cX7_caughtAgain 11 = .ok (.aload_n 0, 1) := by decide +kernel
theorem dX7_caughtAgain_12 : decode cX7_caughtAgain 12 = .ok (.getfield 15, 3) := by decide +kernel
theorem dX7_caughtAgain_15 : decode cX7_caughtAgain 15 = .ok (.invokevirtual 79, 3) := by decide +kernel
theorem dX7_caughtAgain_18 : decode cX7_caughtAgain 18 = .ok (.istore_n 3, 1) := by decide +kernel
theorem dX7_caughtAgain_19 : decode cX7_caughtAgain 19 = .ok (.iload_n 3, 1) := by decide +kernel
theorem dX7_caughtAgain_20 : decode cX7_caughtAgain 20 = .ok (.ifCond .eq 9, 3) := by decide +kernel
theorem dX7_caughtAgain_29 : decode cX7_caughtAgain 29 = .ok (.iload_n 3, 1) := by decide +kernel
theorem dX7_caughtAgain_30 : decode cX7_caughtAgain 30 = .ok (.ifCond .eq 7, 3) := by decide +kernel
theorem dX7_caughtAgain_37 : decode cX7_caughtAgain 37 = .ok (.iconst 1, 1) := by decide +kernel
theorem dX7_caughtAgain_38 : decode cX7_caughtAgain 38 = .ok (.goto 4, 3) := by decide +kernel
theorem dX7_caughtAgain_42 : decode cX7_caughtAgain 42 = .ok (.istore_n 1, 1) := by decide +kernel
theorem dX7_caughtAgain_43 : decode cX7_caughtAgain 43 = .ok (.aload_n 0, 1) := by decide +kernel
theorem dX7_caughtAgain_44 : decode cX7_caughtAgain 44 = .ok (.invokevirtual 64, 3) := by decide +kernel
theorem dX7_caughtAgain_47 : decode cX7_caughtAgain 47 = .ok (.iinc 2 1, 3) := by decide +kernel
theorem dX7_caughtAgain_50 : decode cX7_caughtAgain 50 = .ok (.goto (-46), 3) := by decide +kernel
theorem dX7_caughtAgain_33 : decode cX7_caughtAgain 33 = .ok (.iload_n 1, 1) := by decide +kernel
theorem dX7_caughtAgain_34 : decode cX7_caughtAgain 34 = .ok (.ifCond .eq 7, 3) := by decide +kernel
theorem dX7_caughtAgain_41 : decode cX7_caughtAgain 41 = .ok (.iconst 0, 1) := by decide +kernel
theorem dX7_caughtAgain_23 : decode cX7_caughtAgain 23 = .ok (.iload_n 1, 1) := by decide +kernel
theorem dX7_caughtAgain_24 : decode cX7_caughtAgain 24 = .ok (.ifCond .eq 5, 3) := by decide +kernel
theorem dX7_caughtAgain_27 : decode cX7_caughtAgain 27 = .ok (.iload_n 2, 1) := by decide +kernel
theorem dX7_caughtAgain_28 : decode cX7_caughtAgain 28 = .ok (.ireturn, 1) := by decide +kernel
theorem dX7_caughtAgain_0 : decode cX7_caughtAgain 0 = .ok (.iconst 0, 1) := by decide +kernel
theorem dX7_caughtAgain_1 : decode cX7_caughtAgain 1 = .ok (.istore_n 1, 1) := by decide +kernel
theorem dX7_caughtAgain_2 : decode cX7_caughtAgain 2 = .ok (.iconst 0, 1) := by decide +kernel
theorem dX7_caughtAgain_3 : decode cX7_caughtAgain 3 = .ok (.istore_n 2, 1) := by decide +kernel
theorem dX7_caughtAgain_53 : decode cX7_caughtAgain 53 = .ok (.iload_n 1, 1) := by decide +kernel
theorem dX7_caughtAgain_54 : decode cX7_caughtAgain 54 = .ok (.ifCond .eq 8, 3) := by decide +kernel
theorem dX7_caughtAgain_62 : decode cX7_caughtAgain 62 = .ok (.iconst 0, 1) := by decide +kernel
theorem dX7_caughtAgain_63 : decode cX7_caughtAgain 63 = .ok (.ireturn, 1) := by decide +kernel
theorem dX7_caughtAgain_57 : decode cX7_caughtAgain 57 = .ok (.bipush (-2), 2) := by decide +kernel
theorem dX7_caughtAgain_59 : decode cX7_caughtAgain 59 = .ok (.goto 4, 3) := by decide +kernel
theorem dX6_gapAt_0 : decode cX6_gapAt 0 = .ok (.iload_n 1, 1) := by decide +kernel
theorem dX6_gapAt_1 : decode cX6_gapAt 1 = .ok (.ifCond .lt 28, 3) := by decide +kernel
theorem dX6_gapAt_29 : decode cX6_gapAt 29 = .ok (.iconst (-1), 1) := by decide +kernel
theorem dX6_gapAt_30 : decode cX6_gapAt 30 = .ok (.ireturn, 1) := by decide +kernel
theorem dX6_gapAt_4 : decode cX6_gapAt 4 = .ok (.iload_n 1, 1) := by decide +kernel
theorem dX6_gapAt_5 : decode cX6_gapAt 5 = .ok (.aload_n 0, 1) := by decide +kernel
theorem dX6_gapAt_6 : decode cX6_gapAt 6 = .ok (.getfield 26, 3) := by decide +kernel
theorem dX6_gapAt_9 : decode cX6_gapAt 9 = .ok (.if_icmp .ge 20, 3) := by decide +kernel
theorem dX6_gapAt_12 : decode cX6_gapAt 12 = .ok (.iload_n 1, 1) := by decide +kernel
theorem dX6_gapAt_13 : decode cX6_gapAt 13 = .ok (.bipush 60, 2) := by decide +kernel
theorem dX6_gapAt_15 : decode cX6_gapAt 15 = .ok (.if_icmp .ge 14, 3) := by decide +kernel
theorem dX6_gapAt_18 : decode cX6_gapAt 18 = .ok (.aload_n 0, 1) := by decide +kernel
theorem dX6_gapAt_19 : decode cX6_gapAt 19 = .ok (.getfield 9, 3) := by decide +kernel
theorem dX6_gapAt_22 : decode cX6_gapAt 22 = .ok (.iload_n 1, 1) := by decide +kernel
theorem dX6_gapAt_23 : decode cX6_gapAt 23 = .ok (.laload, 1) := by decide +kernel
theorem dX6_gapAt_24 : decode cX6_gapAt 24 = .ok (.lconst 1, 1) := by decide +kernel
theorem dX6_gapAt_25 : decode cX6_gapAt 25 = .ok (.lcmp, 1) := by decide +kernel
theorem dX6_gapAt_26 : decode cX6_gapAt 26 = .ok (.ifCond .ge 5, 3) := by decide +kernel
theorem dX6_gapAt_31 : decode cX6_gapAt 31 = .ok (.aload_n 0, 1) := by decide +kernel
theorem dX6_gapAt_32 : decode cX6_gapAt 32 = .ok (.getfield 9, 3) := by decide +kernel
theorem dX6_gapAt_35 : decode cX6_gapAt 35 = .ok (.iload_n 1, 1) := by decide +kernel
theorem dX6_gapAt_36 : decode cX6_gapAt 36 = .ok (.laload, 1) := by decide +kernel
theorem dX6_gapAt_37 : decode cX6_gapAt 37 = .ok (.l2i, 1) := by decide +kernel
theorem dX6_gapAt_38 : decode cX6_gapAt 38 = .ok (.ireturn, 1) := by decide +kernel
theorem dX7_lastingBy_20 : decode cX7_lastingBy 20 = .ok (.iload 5, 2) := by decide +kernel
theorem dX7_lastingBy_22 : decode cX7_lastingBy 22 = .ok (.sipush 200, 3) := by decide +kernel
theorem dX7_lastingBy_25 : decode cX7_lastingBy 25 = .ok (.if_icmp .ge 80, 3) := by decide +kernel
theorem dX7_lastingBy_28 : decode cX7_lastingBy 28 = .ok (.iload 5, 2) := by decide +kernel
theorem dX7_lastingBy_30 : decode cX7_lastingBy 30 = .ok (.iload 4, 2) := by decide +kernel
theorem dX7_lastingBy_32 : decode cX7_lastingBy 32 = .ok (.if_icmp .ne 46, 3) := by decide +kernel
theorem dX7_lastingBy_78 : decode cX7_lastingBy 78 = .ok (.aload_n 0, 1) := by decide +kernel
theorem dX7_lastingBy_79 : decode cX7_lastingBy 79 = .ok (.getfield 15, 3) := by decide +kernel
theorem dX7_lastingBy_82 : decode cX7_lastingBy 82 = .ok (.invokevirtual 58, 3) := by decide +kernel
theorem dX7_lastingBy_85 : decode cX7_lastingBy 85 = .ok (.aload_n 0, 1) := by decide +kernel
theorem dX7_lastingBy_86 : decode cX7_lastingBy 86 = .ok (.getfield 15, 3) := by decide +kernel
theorem dX7_lastingBy_89 : decode cX7_lastingBy 89 = .ok (.invokevirtual 76, 3) := by decide +kernel
theorem dX7_lastingBy_92 : decode cX7_lastingBy 92 = .ok (.iload_n 2, 1) := by decide +kernel
theorem dX7_lastingBy_93 : decode cX7_lastingBy 93 = .ok (.if_icmp .ge 6, 3) := by decide +kernel
theorem dX7_lastingBy_99 : decode cX7_lastingBy 99 = .ok (.iinc 5 1, 3) := by decide +kernel
theorem dX7_lastingBy_102 : decode cX7_lastingBy 102 = .ok (.goto (-82), 3) := by decide +kernel
theorem dX7_lastingBy_96 : decode cX7_lastingBy 96 = .ok (.iload 5, 2) := by decide +kernel
theorem dX7_lastingBy_98 : decode cX7_lastingBy 98 = .ok (.ireturn, 1) := by decide +kernel
theorem dX7_lastingBy_35 : decode cX7_lastingBy 35 = .ok (.aload_n 0, 1) := by decide +kernel
theorem dX7_lastingBy_36 : decode cX7_lastingBy 36 = .ok (.getfield 15, 3) := by decide +kernel
theorem dX7_lastingBy_39 : decode cX7_lastingBy 39 = .ok (.aload_n 0, 1) := by decide +kernel
theorem dX7_lastingBy_40 : decode cX7_lastingBy 40 = .ok (.getfield 15, 3) := by decide +kernel
theorem dX7_lastingBy_43 : decode cX7_lastingBy 43 = .ok (.getfield 47, 3) := by decide +kernel
theorem dX7_lastingBy_46 : decode cX7_lastingBy 46 = .ok (.iload_n 3, 1) := by decide +kernel
theorem dX7_lastingBy_47 : decode cX7_lastingBy 47 = .ok (.invokestatic 88, 3) := by decide +kernel
theorem dX7_lastingBy_50 : decode cX7_lastingBy 50 = .ok (.invokevirtual 54, 3) := by decide +kernel
theorem dX7_lastingBy_53 : decode cX7_lastingBy 53 = .ok (.iinc 3 1, 3) := by decide +kernel
theorem dX7_lastingBy_56 : decode cX7_lastingBy 56 = .ok (.aload_n 1, 1) := by decide +kernel
theorem dX7_lastingBy_57 : decode cX7_lastingBy 57 = .ok (.iload_n 3, 1) := by decide +kernel
theorem dX7_lastingBy_58 : decode cX7_lastingBy 58 = .ok (.invokevirtual 82, 3) := by decide +kernel
theorem dX7_lastingBy_61 : decode cX7_lastingBy 61 = .ok (.ifCond .ge 7, 3) := by decide +kernel
theorem dX7_lastingBy_68 : decode cX7_lastingBy 68 = .ok (.iload 5, 2) := by decide +kernel
theorem dX7_lastingBy_70 : decode cX7_lastingBy 70 = .ok (.aload_n 1, 1) := by decide +kernel
theorem dX7_lastingBy_71 : decode cX7_lastingBy 71 = .ok (.iload_n 3, 1) := by decide +kernel
theorem dX7_lastingBy_72 : decode cX7_lastingBy 72 = .ok (.invokevirtual 82, 3) := by decide +kernel
theorem dX7_lastingBy_75 : decode cX7_lastingBy 75 = .ok (.iadd, 1) := by decide +kernel
theorem dX7_lastingBy_76 : decode cX7_lastingBy 76 = .ok (.istore 4, 2) := by decide +kernel
theorem dX7_lastingBy_64 : decode cX7_lastingBy 64 = .ok (.iconst (-1), 1) := by decide +kernel
theorem dX7_lastingBy_65 : decode cX7_lastingBy 65 = .ok (.goto 11, 3) := by decide +kernel
theorem dX7_lastingBy_0 : decode cX7_lastingBy 0 = .ok (.aload_n 0, 1) := by decide +kernel
theorem dX7_lastingBy_1 : decode cX7_lastingBy 1 = .ok (.getfield 15, 3) := by decide +kernel
theorem dX7_lastingBy_4 : decode cX7_lastingBy 4 = .ok (.invokevirtual 76, 3) := by decide +kernel
theorem dX7_lastingBy_7 : decode cX7_lastingBy 7 = .ok (.istore_n 2, 1) := by decide +kernel
theorem dX7_lastingBy_8 : decode cX7_lastingBy 8 = .ok (.iconst 0, 1) := by decide +kernel
theorem dX7_lastingBy_9 : decode cX7_lastingBy 9 = .ok (.istore_n 3, 1) := by decide +kernel
theorem dX7_lastingBy_10 : decode cX7_lastingBy 10 = .ok (.aload_n 1, 1) := by decide +kernel
theorem dX7_lastingBy_11 : decode cX7_lastingBy 11 = .ok (.iconst 0, 1) := by decide +kernel
theorem dX7_lastingBy_12 : decode cX7_lastingBy 12 = .ok (.invokevirtual 82, 3) := by decide +kernel
theorem dX7_lastingBy_15 : decode cX7_lastingBy 15 = .ok (.istore 4, 2) := by decide +kernel
theorem dX7_lastingBy_17 : decode cX7_lastingBy 17 = .ok (.iconst 0, 1) := by decide +kernel
theorem dX7_lastingBy_18 : decode cX7_lastingBy 18 = .ok (.istore 5, 2) := by decide +kernel
theorem dX7_lastingBy_105 : decode cX7_lastingBy 105 = .ok (.sipush 200, 3) := by decide +kernel
theorem dX7_lastingBy_108 : decode cX7_lastingBy 108 = .ok (.ireturn, 1) := by decide +kernel
theorem dX7_firstUnlike_2 : decode cX7_firstUnlike 2 = .ok (.iload_n 3, 1) := by decide +kernel
theorem dX7_firstUnlike_3 : decode cX7_firstUnlike 3 = .ok (.aload_n 1, 1) := by decide +kernel
theorem dX7_firstUnlike_4 : decode cX7_firstUnlike 4 = .ok (.getfield 91, 3) := by decide +kernel
theorem dX7_firstUnlike_7 : decode cX7_firstUnlike 7 = .ok (.if_icmp .ge 44, 3) := by decide +kernel
theorem dX7_firstUnlike_10 : decode cX7_firstUnlike 10 = .ok (.iload_n 3, 1) := by decide +kernel
theorem dX7_firstUnlike_11 : decode cX7_firstUnlike 11 = .ok (.bipush 60, 2) := by decide +kernel
theorem dX7_firstUnlike_13 : decode cX7_firstUnlike 13 = .ok (.if_icmp .ge 38, 3) := by decide +kernel
theorem dX7_firstUnlike_16 : decode cX7_firstUnlike 16 = .ok (.aload_n 0, 1) := by decide +kernel
theorem dX7_firstUnlike_17 : decode cX7_firstUnlike 17 = .ok (.invokevirtual 64, 3) := by decide +kernel
theorem dX7_firstUnlike_20 : decode cX7_firstUnlike 20 = .ok (.aload_n 0, 1) := by decide +kernel
theorem dX7_firstUnlike_21 : decode cX7_firstUnlike 21 = .ok (.getfield 15, 3) := by decide +kernel
theorem dX7_firstUnlike_24 : decode cX7_firstUnlike 24 = .ok (.getfield 67, 3) := by decide +kernel
theorem dX7_firstUnlike_27 : decode cX7_firstUnlike 27 = .ok (.iload_n 2, 1) := by decide +kernel
theorem dX7_firstUnlike_28 : decode cX7_firstUnlike 28 = .ok (.aaload, 1) := by decide +kernel
theorem dX7_firstUnlike_29 : decode cX7_firstUnlike 29 = .ok (.getfield 94, 3) := by decide +kernel
theorem dX7_firstUnlike_32 : decode cX7_firstUnlike 32 = .ok (.i2l, 1) := by decide +kernel
theorem dX7_firstUnlike_33 : decode cX7_firstUnlike 33 = .ok (.aload_n 1, 1) := by decide +kernel
theorem dX7_firstUnlike_34 : decode cX7_firstUnlike 34 = .ok (.getfield 97, 3) := by decide +kernel
theorem dX7_firstUnlike_37 : decode cX7_firstUnlike 37 = .ok (.iload_n 3, 1) := by decide +kernel
theorem dX7_firstUnlike_38 : decode cX7_firstUnlike 38 = .ok (.laload, 1) := by decide +kernel
theorem dX7_firstUnlike_39 : decode cX7_firstUnlike 39 = .ok (.lcmp, 1) := by decide +kernel
theorem dX7_firstUnlike_40 : decode cX7_firstUnlike 40 = .ok (.ifCond .eq 5, 3) := by decide +kernel
theorem dX7_firstUnlike_45 : decode cX7_firstUnlike 45 = .ok (.iinc 3 1, 3) := by decide +kernel
theorem dX7_firstUnlike_48 : decode cX7_firstUnlike 48 = .ok (.goto (-46), 3) := by decide +kernel
theorem dX7_firstUnlike_43 : decode cX7_firstUnlike 43 = .ok (.iload_n 3, 1) := by decide +kernel
theorem dX7_firstUnlike_44 : decode cX7_firstUnlike 44 = .ok (.ireturn, 1) := by decide +kernel
theorem dX7_firstUnlike_0 : decode cX7_firstUnlike 0 = .ok (.iconst 0, 1) := by decide +kernel
theorem dX7_firstUnlike_1 : decode cX7_firstUnlike 1 = .ok (.istore_n 3, 1) := by decide +kernel
theorem dX7_firstUnlike_51 : decode cX7_firstUnlike 51 = .ok (.bipush (-2), 2) := by decide +kernel
theorem dX7_firstUnlike_53 : decode cX7_firstUnlike 53 = .ok (.ireturn, 1) := by decide +kernel
def qKR (A : Nat → Nat → Prop) (M : xM) (J : xJ) (a : Nat) : xQ := fun v s M2 J2 => v = some (.ref a) ∧ s = x_SH ∧ J = J2 ∧ Ke A M M2
set_option maxRecDepth 100000 in
set_option maxHeartbeats 4000000 in
theorem g_X7_begin {l : Launch} {G : xG} {M : xM} {J : xJ} {cn : Nat} (h_cn : cn ≤ 5) (e_cn : M 13 2 = nI cn) : x_M l G fX7_begin 3 0 0 [.ref (27)] x_SH M J (qKV WTB M J (fun M2 => M2 28 2 = nI cn)) := by
  refine xb_of pX7 (Nat.le_of_ble_eq_true rfl) rfl ?_
  refine xr_aload_n dX7_begin_0 0 rfl ?_
  refine xr_getR flX7_15 dX7_begin_1 s_27 rfl ?_
  refine xr_aload_n dX7_begin_4 0 rfl ?_
  refine xr_getR flX7_9 dX7_begin_5 s_27 rfl ?_
  refine xr_callV (As := [.ref (13)]) (rest := []) mlX7_18 (g_X5_copy_28 (by omega) e_cn) dX7_begin_8 s_28 rfl rfl (Nat.le_of_ble_eq_true rfl) (by decide) ⟨by decide, by decide⟩ (fun v s2 M2 J2 hq => ?_)
  obtain ⟨rfl, rfl, rfl, k3, hx1⟩ := hq
  try dsimp only [Option.toList, List.cons_append, List.nil_append]
  refine xr_aload_n dX7_begin_11 0 rfl ?_
  refine xr_iconst (v := 0) dX7_begin_12 rfl ?_
  refine xr_putI fpX7_24 dX7_begin_13 s_27 rfl rfl rfl ?_
  refine xr_aload_n dX7_begin_16 0 rfl ?_
  refine xr_iconst (v := 0) dX7_begin_17 rfl ?_
  refine xr_putI fpX7_28 dX7_begin_18 s_27 rfl rfl rfl ?_
  refine xr_aload_n dX7_begin_21 0 rfl ?_
  refine xr_iconst (v := -1) dX7_begin_22 rfl ?_
  refine xr_putI fpX7_31 dX7_begin_23 s_27 rfl rfl rfl ?_
  refine xr_aload_n dX7_begin_26 0 rfl ?_
  refine xr_iconst (v := -1) dX7_begin_27 rfl ?_
  refine xr_putI fpX7_34 dX7_begin_28 s_27 rfl rfl rfl ?_
  exact xr_vret dX7_begin_31 rfl (⟨rfl, rfl, rfl, (Ke.up (Or.inl (by omega)) (Ke.up (Or.inl (by omega)) (Ke.up (Or.inl (by omega)) (Ke.up (Or.inl (by omega)) (Ke.tr (fun pp kk => (fun hh => Or.elim hh (fun h => (Or.inl (by omega))) (fun h => (Or.inr h)))) Ke.rf k3))))), (Eq.trans (congrFun (x_up_n _ _ _ (by decide)) _) (Eq.trans (congrFun (x_up_n _ _ _ (by decide)) _) (Eq.trans (congrFun (x_up_n _ _ _ (by decide)) _) (Eq.trans (congrFun (x_up_n _ _ _ (by decide)) _) hx1.1))))⟩)
set_option maxRecDepth 100000 in
set_option maxHeartbeats 4000000 in
theorem g_X7_leaveOut (m : Int32) {l : Launch} {G : xG} {M : xM} {J : xJ} : x_M l G fX7_leaveOut 0 0 0 [.ref (27), .int (m)] x_SH M J (qKV W27 M J (fun M2 => True)) := by
  refine xb_of pX7 (Nat.le_of_ble_eq_true rfl) rfl ?_
  refine xr_aload_n dX7_leaveOut_0 0 rfl ?_
  refine xr_iload_n dX7_leaveOut_1 1 rfl ?_
  refine xr_putI fpX7_31 dX7_leaveOut_2 s_27 rfl rfl rfl ?_
  exact xr_vret dX7_leaveOut_5 rfl (⟨rfl, rfl, rfl, (Ke.up (by omega) Ke.rf), trivial⟩)
set_option maxRecDepth 100000 in
set_option maxHeartbeats 4000000 in
theorem g_X7_addPush (ti fo go : Int32) {l : Launch} {G : xG} {M : xM} {J : xJ} : x_M l G fX7_addPush 0 0 0 [.ref (27), .int (ti), .int (fo), .int (go)] x_SH M J (qKV W27 M J (fun M2 => True)) := by
  refine xb_of pX7 (Nat.le_of_ble_eq_true rfl) rfl ?_
  refine xr_aload_n dX7_addPush_0 0 rfl ?_
  refine xr_iload_n dX7_addPush_1 1 rfl ?_
  refine xr_putI fpX7_34 dX7_addPush_2 s_27 rfl rfl rfl ?_
  refine xr_aload_n dX7_addPush_5 0 rfl ?_
  refine xr_iload_n dX7_addPush_6 2 rfl ?_
  refine xr_putI fpX7_37 dX7_addPush_7 s_27 rfl rfl rfl ?_
  refine xr_aload_n dX7_addPush_10 0 rfl ?_
  refine xr_iload_n dX7_addPush_11 3 rfl ?_
  refine xr_putI fpX7_40 dX7_addPush_12 s_27 rfl rfl rfl ?_
  exact xr_vret dX7_addPush_15 rfl (⟨rfl, rfl, rfl, (Ke.up (by omega) (Ke.up (by omega) (Ke.up (by omega) Ke.rf))), trivial⟩)
set_option maxRecDepth 100000 in
set_option maxHeartbeats 4000000 in
theorem g_X7_step {l : Launch} {G : xG} {M : xM} {J : xJ} (hv : ∀ k, k < 128 → M 3 k ≤ 100000)  {L : Nat} (h_L : L ≤ 128) (e_L : M 1 4 = nI L) {cn : Nat} (h_cn : cn ≤ 5) (e_cn : M 28 2 = nI cn) : x_M l G fX7_step 5 0 0 [.ref (27)] x_SH M J (qKV WS M J (fun M2 => True)) := by
  refine xb_of pX7 (Nat.le_of_ble_eq_true rfl) rfl ?_
  refine xr_aload_n dX7_step_0 0 rfl ?_
  refine xr_getR flX7_15 dX7_step_1 s_27 rfl ?_
  refine xr_callV (As := []) (rest := []) mlX7_43 (g_X5_isPushDue_28) dX7_step_4 s_28 rfl rfl (Nat.le_of_ble_eq_true rfl) (by decide) ⟨by decide, by decide⟩ (fun v s2 M9 J2 hq => ?_)
  obtain ⟨r2, rfl, rfl, rfl, rfl, hx1⟩ := hq
  try dsimp only [Option.toList, List.cons_append, List.nil_append]
  refine xr_if_eq (tgt := 52) dX7_step_7 rfl (fun c3 => ?_) (fun c3 => ?_)
  · refine xr_aload_n dX7_step_52 0 rfl ?_
    refine xb_get (v := M 27 2) flX7_24 dX7_step_53 s_27 rfl rfl ?_
    refine xr_aload_n dX7_step_56 0 rfl ?_
    refine xb_get (v := M 27 5) flX7_34 dX7_step_57 s_27 rfl rfl ?_
    refine xr_icmp_ne (tgt := 78) dX7_step_60 rfl (fun c4 => ?_) (fun c4 => ?_)
    · refine xr_aload_n dX7_step_78 0 rfl ?_
      refine xr_getR flX7_15 dX7_step_79 s_27 rfl ?_
      refine xr_callV (As := []) (rest := []) mlX7_58 (g_X5_settle_28 (by omega) e_cn) dX7_step_82 s_28 rfl rfl (Nat.le_of_ble_eq_true rfl) (by decide) ⟨by decide, by decide⟩ (fun v s2 M6 J2 hq => ?_)
      obtain ⟨rfl, rfl, rfl, k7, hx5⟩ := hq
      try dsimp only [Option.toList, List.cons_append, List.nil_append]
      refine xr_aload_n dX7_step_85 0 rfl ?_
      refine xr_dup dX7_step_86 rfl ?_
      refine xb_get (v := M6 27 2) flX7_24 dX7_step_87 s_27 rfl rfl ?_
      refine xr_iconst (v := 1) dX7_step_90 rfl ?_
      refine xr_iadd dX7_step_91 ?_
      refine xr_putI fpX7_24 dX7_step_92 s_27 rfl rfl rfl ?_
      exact xr_vret dX7_step_95 rfl (⟨rfl, rfl, rfl, (Ke.up (Or.inr (Or.inr (Or.inl (by omega)))) (Ke.tr (fun pp kk => (fun hh => Or.elim hh (fun h => (Or.inr (Or.inr (Or.inr (Or.inl (by omega)))))) (fun hh => Or.elim hh (fun h => (Or.inr (Or.inr (Or.inr (Or.inl (by omega)))))) (fun h => (Or.inr (Or.inr (Or.inr (Or.inr h)))))))) Ke.rf k7)), trivial⟩)
    · refine xr_aload_n dX7_step_63 0 rfl ?_
      refine xr_getR flX7_15 dX7_step_64 s_27 rfl ?_
      refine xr_aload_n dX7_step_67 0 rfl ?_
      refine xb_get (v := M 27 6) flX7_37 dX7_step_68 s_27 rfl rfl ?_
      refine xr_aload_n dX7_step_71 0 rfl ?_
      refine xb_get (v := M 27 7) flX7_40 dX7_step_72 s_27 rfl rfl ?_
      refine xr_callV (As := [.int (M 27 6), .int (M 27 7)]) (rest := []) mlX7_54 (g_X5_push_28 (M 27 6) (M 27 7) (fun k hk => by have h3 := (show M 3 k = M 3 k from rfl); rw [h3]; exact hv k hk) (by omega) e_L (by omega) e_cn) dX7_step_75 s_28 rfl rfl (Nat.le_of_ble_eq_true rfl) (by decide) ⟨by decide, by decide⟩ (fun v s2 M9 J2 hq => ?_)
      obtain ⟨rfl, rfl, rfl, k10, hx8⟩ := hq
      try dsimp only [Option.toList, List.cons_append, List.nil_append]
      refine xr_aload_n dX7_step_78 0 rfl ?_
      refine xr_getR flX7_15 dX7_step_79 s_27 rfl ?_
      refine xr_callV (As := []) (rest := []) mlX7_58 (g_X5_settle_28 (by omega) (Eq.trans (k10 28 2 (by decide)) e_cn)) dX7_step_82 s_28 rfl rfl (Nat.le_of_ble_eq_true rfl) (by decide) ⟨by decide, by decide⟩ (fun v s2 M12 J2 hq => ?_)
      obtain ⟨rfl, rfl, rfl, k13, hx11⟩ := hq
      try dsimp only [Option.toList, List.cons_append, List.nil_append]
      refine xr_aload_n dX7_step_85 0 rfl ?_
      refine xr_dup dX7_step_86 rfl ?_
      refine xb_get (v := M12 27 2) flX7_24 dX7_step_87 s_27 rfl rfl ?_
      refine xr_iconst (v := 1) dX7_step_90 rfl ?_
      refine xr_iadd dX7_step_91 ?_
      refine xr_putI fpX7_24 dX7_step_92 s_27 rfl rfl rfl ?_
      exact xr_vret dX7_step_95 rfl (⟨rfl, rfl, rfl, (Ke.up (Or.inr (Or.inr (Or.inl (by omega)))) (Ke.tr (fun pp kk => (fun hh => Or.elim hh (fun h => (Or.inr (Or.inr (Or.inr (Or.inl (by omega)))))) (fun hh => Or.elim hh (fun h => (Or.inr (Or.inr (Or.inr (Or.inl (by omega)))))) (fun h => (Or.inr (Or.inr (Or.inr (Or.inr h)))))))) (Ke.tr (fun pp kk => (fun hh => Or.elim hh (fun h => (Or.inl h)) (fun hh => Or.elim hh (fun h => (Or.inr (Or.inl h))) (fun h => (Or.inr (Or.inr (Or.inr (Or.inr h)))))))) Ke.rf k10) k13)), trivial⟩)
  · refine xr_aload_n dX7_step_10 0 rfl ?_
    refine xb_get (v := M 27 3) flX7_28 dX7_step_11 s_27 rfl rfl ?_
    refine xr_aload_n dX7_step_14 0 rfl ?_
    refine xb_get (v := M 27 4) flX7_31 dX7_step_15 s_27 rfl rfl ?_
    refine xr_icmp_eq (tgt := 42) dX7_step_18 rfl (fun c14 => ?_) (fun c14 => ?_)
    · refine xr_aload_n dX7_step_42 0 rfl ?_
      refine xr_dup dX7_step_43 rfl ?_
      refine xb_get (v := M 27 3) flX7_28 dX7_step_44 s_27 rfl rfl ?_
      refine xr_iconst (v := 1) dX7_step_47 rfl ?_
      refine xr_iadd dX7_step_48 ?_
      refine xr_putI fpX7_28 dX7_step_49 s_27 rfl rfl rfl ?_
      refine xr_aload_n dX7_step_52 0 rfl ?_
      refine xb_get (v := (x_up M 27 3 ((M 27 3) + 1)) 27 2) flX7_24 dX7_step_53 s_27 rfl rfl ?_
      refine xr_aload_n dX7_step_56 0 rfl ?_
      refine xb_get (v := (x_up M 27 3 ((M 27 3) + 1)) 27 5) flX7_34 dX7_step_57 s_27 rfl rfl ?_
      refine xr_icmp_ne (tgt := 78) dX7_step_60 rfl (fun c15 => ?_) (fun c15 => ?_)
      · refine xr_aload_n dX7_step_78 0 rfl ?_
        refine xr_getR flX7_15 dX7_step_79 s_27 rfl ?_
        refine xr_callV (As := []) (rest := []) mlX7_58 (g_X5_settle_28 (by omega) (Eq.trans (congrFun (x_up_n _ _ _ (by decide)) _) e_cn)) dX7_step_82 s_28 rfl rfl (Nat.le_of_ble_eq_true rfl) (by decide) ⟨by decide, by decide⟩ (fun v s2 M17 J2 hq => ?_)
        obtain ⟨rfl, rfl, rfl, k18, hx16⟩ := hq
        try dsimp only [Option.toList, List.cons_append, List.nil_append]
        refine xr_aload_n dX7_step_85 0 rfl ?_
        refine xr_dup dX7_step_86 rfl ?_
        refine xb_get (v := M17 27 2) flX7_24 dX7_step_87 s_27 rfl rfl ?_
        refine xr_iconst (v := 1) dX7_step_90 rfl ?_
        refine xr_iadd dX7_step_91 ?_
        refine xr_putI fpX7_24 dX7_step_92 s_27 rfl rfl rfl ?_
        exact xr_vret dX7_step_95 rfl (⟨rfl, rfl, rfl, (Ke.up (Or.inr (Or.inr (Or.inl (by omega)))) (Ke.tr (fun pp kk => (fun hh => Or.elim hh (fun h => (Or.inr (Or.inr (Or.inr (Or.inl (by omega)))))) (fun hh => Or.elim hh (fun h => (Or.inr (Or.inr (Or.inr (Or.inl (by omega)))))) (fun h => (Or.inr (Or.inr (Or.inr (Or.inr h)))))))) (Ke.up (Or.inr (Or.inr (Or.inl (by omega)))) Ke.rf) k18)), trivial⟩)
      · refine xr_aload_n dX7_step_63 0 rfl ?_
        refine xr_getR flX7_15 dX7_step_64 s_27 rfl ?_
        refine xr_aload_n dX7_step_67 0 rfl ?_
        refine xb_get (v := (x_up M 27 3 ((M 27 3) + 1)) 27 6) flX7_37 dX7_step_68 s_27 rfl rfl ?_
        refine xr_aload_n dX7_step_71 0 rfl ?_
        refine xb_get (v := (x_up M 27 3 ((M 27 3) + 1)) 27 7) flX7_40 dX7_step_72 s_27 rfl rfl ?_
        refine xr_callV (As := [.int ((x_up M 27 3 ((M 27 3) + 1)) 27 6), .int ((x_up M 27 3 ((M 27 3) + 1)) 27 7)]) (rest := []) mlX7_54 (g_X5_push_28 ((x_up M 27 3 ((M 27 3) + 1)) 27 6) ((x_up M 27 3 ((M 27 3) + 1)) 27 7) (fun k hk => by have h3 := (show (x_up M 27 3 ((M 27 3) + 1)) 3 k = M 3 k from (Eq.trans (congrFun (x_up_n _ _ _ (by first | decide | omega)) _) rfl)); rw [h3]; exact hv k hk) (by omega) (Eq.trans (congrFun (x_up_n _ _ _ (by decide)) _) e_L) (by omega) (Eq.trans (congrFun (x_up_n _ _ _ (by decide)) _) e_cn)) dX7_step_75 s_28 rfl rfl (Nat.le_of_ble_eq_true rfl) (by decide) ⟨by decide, by decide⟩ (fun v s2 M20 J2 hq => ?_)
        obtain ⟨rfl, rfl, rfl, k21, hx19⟩ := hq
        try dsimp only [Option.toList, List.cons_append, List.nil_append]
        refine xr_aload_n dX7_step_78 0 rfl ?_
        refine xr_getR flX7_15 dX7_step_79 s_27 rfl ?_
        refine xr_callV (As := []) (rest := []) mlX7_58 (g_X5_settle_28 (by omega) (Eq.trans (k21 28 2 (by decide)) (Eq.trans (congrFun (x_up_n _ _ _ (by decide)) _) e_cn))) dX7_step_82 s_28 rfl rfl (Nat.le_of_ble_eq_true rfl) (by decide) ⟨by decide, by decide⟩ (fun v s2 M23 J2 hq => ?_)
        obtain ⟨rfl, rfl, rfl, k24, hx22⟩ := hq
        try dsimp only [Option.toList, List.cons_append, List.nil_append]
        refine xr_aload_n dX7_step_85 0 rfl ?_
        refine xr_dup dX7_step_86 rfl ?_
        refine xb_get (v := M23 27 2) flX7_24 dX7_step_87 s_27 rfl rfl ?_
        refine xr_iconst (v := 1) dX7_step_90 rfl ?_
        refine xr_iadd dX7_step_91 ?_
        refine xr_putI fpX7_24 dX7_step_92 s_27 rfl rfl rfl ?_
        exact xr_vret dX7_step_95 rfl (⟨rfl, rfl, rfl, (Ke.up (Or.inr (Or.inr (Or.inl (by omega)))) (Ke.tr (fun pp kk => (fun hh => Or.elim hh (fun h => (Or.inr (Or.inr (Or.inr (Or.inl (by omega)))))) (fun hh => Or.elim hh (fun h => (Or.inr (Or.inr (Or.inr (Or.inl (by omega)))))) (fun h => (Or.inr (Or.inr (Or.inr (Or.inr h)))))))) (Ke.tr (fun pp kk => (fun hh => Or.elim hh (fun h => (Or.inl h)) (fun hh => Or.elim hh (fun h => (Or.inr (Or.inl h))) (fun h => (Or.inr (Or.inr (Or.inr (Or.inr h)))))))) (Ke.up (Or.inr (Or.inr (Or.inl (by omega)))) Ke.rf) k21) k24)), trivial⟩)
    · refine xr_aload_n dX7_step_21 0 rfl ?_
      refine xr_getR flX7_15 dX7_step_22 s_27 rfl ?_
      refine xr_aload_n dX7_step_25 0 rfl ?_
      refine xr_getR flX7_15 dX7_step_26 s_27 rfl ?_
      refine xb_get (v := M 28 7) flX7_47 dX7_step_29 s_28 rfl rfl ?_
      refine xr_aload_n dX7_step_32 0 rfl ?_
      refine xr_getR flX7_15 dX7_step_33 s_27 rfl ?_
      refine xr_callV (As := []) (rest := [.int (M 28 7), .ref (28)]) mlX7_50 (g_X5_goalInTurn_28) dX7_step_36 s_28 rfl rfl (Nat.le_of_ble_eq_true rfl) (by decide) ⟨by decide, by decide⟩ (fun v s2 M9 J2 hq => ?_)
      obtain ⟨r26, rfl, rfl, rfl, rfl, hx25⟩ := hq
      try dsimp only [Option.toList, List.cons_append, List.nil_append]
      refine xr_callV (As := [.int (M 28 7), .int (r26)]) (rest := []) mlX7_54 (g_X5_push_28 (M 28 7) r26 (fun k hk => by have h3 := (show M 3 k = M 3 k from rfl); rw [h3]; exact hv k hk) (by omega) e_L (by omega) e_cn) dX7_step_39 s_28 rfl rfl (Nat.le_of_ble_eq_true rfl) (by decide) ⟨by decide, by decide⟩ (fun v s2 M28 J2 hq => ?_)
      obtain ⟨rfl, rfl, rfl, k29, hx27⟩ := hq
      try dsimp only [Option.toList, List.cons_append, List.nil_append]
      refine xr_aload_n dX7_step_42 0 rfl ?_
      refine xr_dup dX7_step_43 rfl ?_
      refine xb_get (v := M28 27 3) flX7_28 dX7_step_44 s_27 rfl rfl ?_
      refine xr_iconst (v := 1) dX7_step_47 rfl ?_
      refine xr_iadd dX7_step_48 ?_
      refine xr_putI fpX7_28 dX7_step_49 s_27 rfl rfl rfl ?_
      refine xr_aload_n dX7_step_52 0 rfl ?_
      refine xb_get (v := (x_up M28 27 3 ((M28 27 3) + 1)) 27 2) flX7_24 dX7_step_53 s_27 rfl rfl ?_
      refine xr_aload_n dX7_step_56 0 rfl ?_
      refine xb_get (v := (x_up M28 27 3 ((M28 27 3) + 1)) 27 5) flX7_34 dX7_step_57 s_27 rfl rfl ?_
      refine xr_icmp_ne (tgt := 78) dX7_step_60 rfl (fun c30 => ?_) (fun c30 => ?_)
      · refine xr_aload_n dX7_step_78 0 rfl ?_
        refine xr_getR flX7_15 dX7_step_79 s_27 rfl ?_
        refine xr_callV (As := []) (rest := []) mlX7_58 (g_X5_settle_28 (by omega) (Eq.trans (congrFun (x_up_n _ _ _ (by decide)) _) (Eq.trans (k29 28 2 (by decide)) e_cn))) dX7_step_82 s_28 rfl rfl (Nat.le_of_ble_eq_true rfl) (by decide) ⟨by decide, by decide⟩ (fun v s2 M32 J2 hq => ?_)
        obtain ⟨rfl, rfl, rfl, k33, hx31⟩ := hq
        try dsimp only [Option.toList, List.cons_append, List.nil_append]
        refine xr_aload_n dX7_step_85 0 rfl ?_
        refine xr_dup dX7_step_86 rfl ?_
        refine xb_get (v := M32 27 2) flX7_24 dX7_step_87 s_27 rfl rfl ?_
        refine xr_iconst (v := 1) dX7_step_90 rfl ?_
        refine xr_iadd dX7_step_91 ?_
        refine xr_putI fpX7_24 dX7_step_92 s_27 rfl rfl rfl ?_
        exact xr_vret dX7_step_95 rfl (⟨rfl, rfl, rfl, (Ke.up (Or.inr (Or.inr (Or.inl (by omega)))) (Ke.tr (fun pp kk => (fun hh => Or.elim hh (fun h => (Or.inr (Or.inr (Or.inr (Or.inl (by omega)))))) (fun hh => Or.elim hh (fun h => (Or.inr (Or.inr (Or.inr (Or.inl (by omega)))))) (fun h => (Or.inr (Or.inr (Or.inr (Or.inr h)))))))) (Ke.up (Or.inr (Or.inr (Or.inl (by omega)))) (Ke.tr (fun pp kk => (fun hh => Or.elim hh (fun h => (Or.inl h)) (fun hh => Or.elim hh (fun h => (Or.inr (Or.inl h))) (fun h => (Or.inr (Or.inr (Or.inr (Or.inr h)))))))) Ke.rf k29)) k33)), trivial⟩)
      · refine xr_aload_n dX7_step_63 0 rfl ?_
        refine xr_getR flX7_15 dX7_step_64 s_27 rfl ?_
        refine xr_aload_n dX7_step_67 0 rfl ?_
        refine xb_get (v := (x_up M28 27 3 ((M28 27 3) + 1)) 27 6) flX7_37 dX7_step_68 s_27 rfl rfl ?_
        refine xr_aload_n dX7_step_71 0 rfl ?_
        refine xb_get (v := (x_up M28 27 3 ((M28 27 3) + 1)) 27 7) flX7_40 dX7_step_72 s_27 rfl rfl ?_
        refine xr_callV (As := [.int ((x_up M28 27 3 ((M28 27 3) + 1)) 27 6), .int ((x_up M28 27 3 ((M28 27 3) + 1)) 27 7)]) (rest := []) mlX7_54 (g_X5_push_28 ((x_up M28 27 3 ((M28 27 3) + 1)) 27 6) ((x_up M28 27 3 ((M28 27 3) + 1)) 27 7) (fun k hk => by have h3 := (show (x_up M28 27 3 ((M28 27 3) + 1)) 3 k = M 3 k from (Eq.trans (congrFun (x_up_n _ _ _ (by first | decide | omega)) _) (Eq.trans (k29 3 k (by unfold W28p; omega)) rfl))); rw [h3]; exact hv k hk) (by omega) (Eq.trans (congrFun (x_up_n _ _ _ (by decide)) _) (Eq.trans (k29 1 4 (by decide)) e_L)) (by omega) (Eq.trans (congrFun (x_up_n _ _ _ (by decide)) _) (Eq.trans (k29 28 2 (by decide)) e_cn))) dX7_step_75 s_28 rfl rfl (Nat.le_of_ble_eq_true rfl) (by decide) ⟨by decide, by decide⟩ (fun v s2 M35 J2 hq => ?_)
        obtain ⟨rfl, rfl, rfl, k36, hx34⟩ := hq
        try dsimp only [Option.toList, List.cons_append, List.nil_append]
        refine xr_aload_n dX7_step_78 0 rfl ?_
        refine xr_getR flX7_15 dX7_step_79 s_27 rfl ?_
        refine xr_callV (As := []) (rest := []) mlX7_58 (g_X5_settle_28 (by omega) (Eq.trans (k36 28 2 (by decide)) (Eq.trans (congrFun (x_up_n _ _ _ (by decide)) _) (Eq.trans (k29 28 2 (by decide)) e_cn)))) dX7_step_82 s_28 rfl rfl (Nat.le_of_ble_eq_true rfl) (by decide) ⟨by decide, by decide⟩ (fun v s2 M38 J2 hq => ?_)
        obtain ⟨rfl, rfl, rfl, k39, hx37⟩ := hq
        try dsimp only [Option.toList, List.cons_append, List.nil_append]
        refine xr_aload_n dX7_step_85 0 rfl ?_
        refine xr_dup dX7_step_86 rfl ?_
        refine xb_get (v := M38 27 2) flX7_24 dX7_step_87 s_27 rfl rfl ?_
        refine xr_iconst (v := 1) dX7_step_90 rfl ?_
        refine xr_iadd dX7_step_91 ?_
        refine xr_putI fpX7_24 dX7_step_92 s_27 rfl rfl rfl ?_
        exact xr_vret dX7_step_95 rfl (⟨rfl, rfl, rfl, (Ke.up (Or.inr (Or.inr (Or.inl (by omega)))) (Ke.tr (fun pp kk => (fun hh => Or.elim hh (fun h => (Or.inr (Or.inr (Or.inr (Or.inl (by omega)))))) (fun hh => Or.elim hh (fun h => (Or.inr (Or.inr (Or.inr (Or.inl (by omega)))))) (fun h => (Or.inr (Or.inr (Or.inr (Or.inr h)))))))) (Ke.tr (fun pp kk => (fun hh => Or.elim hh (fun h => (Or.inl h)) (fun hh => Or.elim hh (fun h => (Or.inr (Or.inl h))) (fun h => (Or.inr (Or.inr (Or.inr (Or.inr h)))))))) (Ke.up (Or.inr (Or.inr (Or.inl (by omega)))) (Ke.tr (fun pp kk => (fun hh => Or.elim hh (fun h => (Or.inl h)) (fun hh => Or.elim hh (fun h => (Or.inr (Or.inl h))) (fun h => (Or.inr (Or.inr (Or.inr (Or.inr h)))))))) Ke.rf k29)) k36) k39)), trivial⟩)
set_option maxRecDepth 100000 in
set_option maxHeartbeats 4000000 in
theorem be_l {h K : Nat} (hK : K ≤ 1000) {l : Launch} {G : xG} {M : xM} {J : xJ} {Q : xQ} (hv : ∀ k, k < 128 → M 3 k ≤ 100000)  {L : Nat} (h_L : L ≤ 128) (e_L : M 1 4 = nI L) {cn : Nat} (h_cn : cn ≤ 5) (e_cn : M 28 2 = nI cn) (hC : ∀ (M2 : xM), Ke WS M M2 → x_X l G fX7_behind 6 0 0 Q 21 [(2, .int (nI (K))), (1, .int (nI (h))), (0, .ref (27))] [] x_SH M2 J 0 0) : ∀ (m k : Nat) (M1 : xM), k + m = K → Ke WS M M1 → x_X l G fX7_behind 6 0 0 Q 6 [(3, .int (nI (k))), (2, .int (nI (K))), (1, .int (nI (h))), (0, .ref (27))] [] x_SH M1 J 0 0 := by
  intro m
  induction m with
  | zero =>
    intro k M1 hk hM
    refine xr_iload_n dX7_behind_6 0 rfl ?_
    refine xr_iload_n dX7_behind_7 1 rfl ?_
    refine xr_icmp_ge (tgt := 21) dX7_behind_8 rfl (fun _ => ?_) (fun c => absurd (nI_le (a := K) (b := k) (by omega) (by omega)) c)
    refine xb_ls (ls2 := [(2, .int (nI (K))), (1, .int (nI (h))), (0, .ref (27))]) [1, 2, 3] rfl ?_
    exact hC _ hM
  | succ m ih =>
    intro k M1 hk hM
    have hkN : k < K := by omega
    refine xr_iload_n dX7_behind_6 0 rfl ?_
    refine xr_iload_n dX7_behind_7 1 rfl ?_
    refine xr_icmp_ge (tgt := 21) dX7_behind_8 rfl (fun c => absurd c (nI_ge (a := k) (b := K) (by omega) (by omega))) (fun _ => ?_)
    refine xr_aload_n dX7_behind_11 3 rfl ?_
    refine xr_callV (As := []) (rest := []) mlX7_64 (g_X7_step (fun k hk => by have h3 := (show M1 3 k = M 3 k from (Eq.trans (hM 3 k (by unfold WS; omega)) rfl)); rw [h3]; exact hv k hk) (by omega) (Eq.trans (hM 1 4 (by decide)) e_L) (by omega) (Eq.trans (hM 28 2 (by decide)) e_cn)) dX7_behind_12 s_27 rfl rfl (Nat.le_of_ble_eq_true rfl) (by decide) ⟨by decide, by decide⟩ (fun v s2 M1 J2 hq => ?_)
    obtain ⟨rfl, rfl, rfl, k2, _⟩ := hq
    try dsimp only [Option.toList, List.cons_append, List.nil_append]
    refine xr_iinc (v := nI (k + 1)) (ls2 := [(3, .int (nI (k + 1))), (2, .int (nI (K))), (1, .int (nI (h))), (0, .ref (27))]) dX7_behind_15 0 rfl (nI_1 _) (by decide) rfl ?_
    refine xr_goto (tgt := 6) dX7_behind_18 rfl ?_
    refine xb_ls (ls2 := [(3, .int (nI (k + 1))), (2, .int (nI (K))), (1, .int (nI (h))), (0, .ref (27))]) [0, 1, 2, 3] rfl ?_
    exact ih (k + 1) M1 (by omega) (Ke.tr (fun _ _ h => h) hM k2)
set_option maxRecDepth 100000 in
set_option maxHeartbeats 4000000 in
theorem g_X7_behind {h K : Nat} (hh : h < 5) (hK : K ≤ 1000) {l : Launch} {G : xG} {M : xM} {J : xJ} (hv : ∀ k, k < 128 → M 3 k ≤ 100000)  {L : Nat} (h_L : L ≤ 128) (e_L : M 1 4 = nI L) {cn : Nat} (h_cn : cn ≤ 5) (e_cn : M 13 2 = nI cn) : x_M l G fX7_behind 6 0 0 [.ref (27), .int (nI (h)), .int (nI (K))] x_SH M J (qKR WTS M J (30 + h)) := by
  refine xb_of pX7 (Nat.le_of_ble_eq_true rfl) rfl ?_
  refine xr_aload_n dX7_behind_0 0 rfl ?_
  refine xr_callV (As := []) (rest := []) mlX7_61 (g_X7_begin (by omega) e_cn) dX7_behind_1 s_27 rfl rfl (Nat.le_of_ble_eq_true rfl) (by decide) ⟨by decide, by decide⟩ (fun v s2 M2 J2 hq => ?_)
  obtain ⟨rfl, rfl, rfl, k3, hx1⟩ := hq
  try dsimp only [Option.toList, List.cons_append, List.nil_append]
  refine xr_iconst (v := 0) dX7_behind_4 rfl ?_
  refine xr_istore_n (ls2 := [(3, .int (0)), (0, .ref (27)), (1, .int (nI (h))), (2, .int (nI (K)))]) dX7_behind_5 (by decide) rfl ?_
  refine xb_ls (ls2 := [(3, .int (nI (0))), (2, .int (nI (K))), (1, .int (nI (h))), (0, .ref (27))]) [0, 3, 2, 1] rfl ?_
  refine be_l hK (fun k hk => by have h3 := (show M2 3 k = M 3 k from (Eq.trans (k3 3 k (by unfold WTB; omega)) rfl)); rw [h3]; exact hv k hk) (by omega) (Eq.trans (k3 1 4 (by decide)) e_L) (by omega) hx1 (fun M4 k5 => ?_) (K - 0) 0 M2 (by omega) Ke.rf
  refine xr_aload_n dX7_behind_21 2 rfl ?_
  refine xr_getR flX7_15 dX7_behind_22 s_27 rfl ?_
  refine xr_getR flX7_67 dX7_behind_25 s_28 rfl ?_
  refine xr_iload_n dX7_behind_28 1 rfl ?_
  refine xb_aald (j := h) (q := 30 + h) (by decide) dX7_behind_29 s_29 (by omega) (by decide) (if_pos (by omega)) ?_
  exact xr_aret dX7_behind_30 rfl (⟨rfl, rfl, rfl, (Ke.tr (fun pp kk => (fun hh => Or.elim hh (fun h => (Or.inl h)) (fun hh => Or.elim hh (fun h => (Or.inr (Or.inl h))) (fun hh => Or.elim hh (fun h => (Or.inr (Or.inr (Or.inl (by omega))))) (fun hh => Or.elim hh (fun h => (Or.inr (Or.inr (Or.inl (by omega))))) (fun h => (Or.inr (Or.inr (Or.inr h))))))))) (Ke.tr (fun pp kk => (fun hh => Or.elim hh (fun h => (Or.inr (Or.inr (Or.inl h)))) (fun h => (Or.inr (Or.inr (Or.inr h)))))) Ke.rf k3) k5)⟩)
set_option maxRecDepth 100000 in
set_option maxHeartbeats 4000000 in
theorem fo_l {h : Nat} (hh : h < 5) {l : Launch} {G : xG} {M : xM} {J : xJ} {Q : xQ} (hv : ∀ k, k < 128 → M 3 k ≤ 100000)  {L : Nat} (h_L : L ≤ 128) (e_L : M 1 4 = nI L) {cn : Nat} (h_cn : cn ≤ 5) (e_cn : M 28 2 = nI cn) (hC : ∀ (M2 : xM), Ke WS M M2 → x_X l G fX7_fallOf 6 0 0 Q 36 [(1, .int (nI (h))), (0, .ref (27))] [] x_SH M2 J 0 0) (hR : ∀ (r : Int32) (M2 : xM), (∃ j : Nat, j ≤ 200 ∧ r = nI j) → Ke WS M M2 → Q (some (.int r)) x_SH M2 J) : ∀ (m k : Nat) (M1 : xM), k + m = 201 → Ke WS M M1 → x_X l G fX7_fallOf 6 0 0 Q 2 [(2, .int (nI (k))), (1, .int (nI (h))), (0, .ref (27))] [] x_SH M1 J 0 0 := by
  intro m
  induction m with
  | zero =>
    intro k M1 hk hM
    refine xr_iload_n dX7_fallOf_2 0 rfl ?_
    refine xr_sipush (v := 200) dX7_fallOf_3 rfl ?_
    refine xr_icmp_gt (tgt := 36) dX7_fallOf_6 rfl (fun _ => ?_) (fun c => absurd (nI_lt (a := 200) (b := k) (by omega) (by omega)) c)
    refine xb_ls (ls2 := [(1, .int (nI (h))), (0, .ref (27))]) [1, 2] rfl ?_
    exact hC _ hM
  | succ m ih =>
    intro k M1 hk hM
    have hkN : k < 201 := by omega
    refine xr_iload_n dX7_fallOf_2 0 rfl ?_
    refine xr_sipush (v := 200) dX7_fallOf_3 rfl ?_
    refine xr_icmp_gt (tgt := 36) dX7_fallOf_6 rfl (fun c => absurd c (nI_nlt (a := 200) (b := k) (by omega) (by omega))) (fun _ => ?_)
    refine xr_aload_n dX7_fallOf_9 2 rfl ?_
    refine xr_getR flX7_15 dX7_fallOf_10 s_27 rfl ?_
    refine xr_getR flX7_67 dX7_fallOf_13 s_28 rfl ?_
    refine xr_iload_n dX7_fallOf_16 1 rfl ?_
    refine xb_aald (j := h) (q := 30 + h) (by decide) dX7_fallOf_17 s_29 (by omega) (by decide) (if_pos (by omega)) ?_
    refine xb_cV (As := []) (rest := []) mlX7_71 (c_X2_lies (s_hp30 (by omega))) dX7_fallOf_18 (s_hp30 (by omega)) rfl rfl (Nat.le_of_ble_eq_true rfl) (by decide) (by decide) ?_
    refine xb_beq (tgt := 26) dX7_fallOf_21 rfl (fun c1 => ?_) (fun c1 => ?_)
    · refine xr_aload_n dX7_fallOf_26 2 rfl ?_
      refine xr_callV (As := []) (rest := []) mlX7_64 (g_X7_step (fun k hk => by have h3 := (show M1 3 k = M 3 k from (Eq.trans (hM 3 k (by unfold WS; omega)) rfl)); rw [h3]; exact hv k hk) (by omega) (Eq.trans (hM 1 4 (by decide)) e_L) (by omega) (Eq.trans (hM 28 2 (by decide)) e_cn)) dX7_fallOf_27 s_27 rfl rfl (Nat.le_of_ble_eq_true rfl) (by decide) ⟨by decide, by decide⟩ (fun v s2 M2 J2 hq => ?_)
      obtain ⟨rfl, rfl, rfl, k3, _⟩ := hq
      try dsimp only [Option.toList, List.cons_append, List.nil_append]
      refine xr_iinc (v := nI (k + 1)) (ls2 := [(2, .int (nI (k + 1))), (1, .int (nI (h))), (0, .ref (27))]) dX7_fallOf_30 0 rfl (nI_1 _) (by decide) rfl ?_
      refine xr_goto (tgt := 2) dX7_fallOf_33 rfl ?_
      refine xb_ls (ls2 := [(2, .int (nI (k + 1))), (1, .int (nI (h))), (0, .ref (27))]) [0, 1, 2] rfl ?_
      exact ih (k + 1) M2 (by omega) (Ke.tr (fun _ _ h => h) hM k3)
    · refine xr_iload_n dX7_fallOf_24 0 rfl ?_
      exact xr_iret dX7_fallOf_25 rfl rfl (hR _ _ ⟨k, by omega, rfl⟩ hM)
set_option maxRecDepth 100000 in
set_option maxHeartbeats 4000000 in
theorem g_X7_fallOf {h : Nat} (hh : h < 5) {l : Launch} {G : xG} {M : xM} {J : xJ} (hv : ∀ k, k < 128 → M 3 k ≤ 100000)  {L : Nat} (h_L : L ≤ 128) (e_L : M 1 4 = nI L) {cn : Nat} (h_cn : cn ≤ 5) (e_cn : M 28 2 = nI cn) : x_M l G fX7_fallOf 6 0 0 [.ref (27), .int (nI (h))] x_SH M J (qKI WS M J (fun r M2 => r = -2 ∨ ∃ j : Nat, j ≤ 200 ∧ r = nI j)) := by
  refine xb_of pX7 (Nat.le_of_ble_eq_true rfl) rfl ?_
  refine xr_iconst (v := 0) dX7_fallOf_0 rfl ?_
  refine xr_istore_n (ls2 := [(2, .int (0)), (0, .ref (27)), (1, .int (nI (h)))]) dX7_fallOf_1 (by decide) rfl ?_
  refine xb_ls (ls2 := [(2, .int (nI (0))), (1, .int (nI (h))), (0, .ref (27))]) [0, 2, 1] rfl ?_
  refine fo_l hh (fun k hk => by have h3 := (show M 3 k = M 3 k from rfl); rw [h3]; exact hv k hk) (by omega) e_L (by omega) e_cn (fun M1 k2 => ?_) (fun r M2 hz hk => ⟨_, rfl, rfl, rfl, Ke.tr (fun _ _ h => h) Ke.rf hk, (Or.inr hz)⟩) (201 - 0) 0 M (by omega) Ke.rf
  refine xr_bipush (v := -2) dX7_fallOf_36 rfl ?_
  exact xr_iret dX7_fallOf_38 rfl rfl (⟨_, rfl, rfl, rfl, (Ke.tr (fun _ _ h => h) Ke.rf k2), (Or.inl rfl)⟩)
set_option maxRecDepth 100000 in
set_option maxHeartbeats 4000000 in
theorem iu_l {h K : Nat} (hh : h < 5) (hK : K ≤ 1000) {l : Launch} {G : xG} {M : xM} {J : xJ} {Q : xQ} (hv : ∀ k, k < 128 → M 3 k ≤ 100000)  {L : Nat} (h_L : L ≤ 128) (e_L : M 1 4 = nI L) {cn : Nat} (h_cn : cn ≤ 5) (e_cn : M 28 2 = nI cn) (hC : ∀ (M2 : xM), Ke WS M M2 → x_X l G fX7_isUpBehind 6 0 0 Q 32 [(2, .int (nI (K))), (1, .int (nI (h))), (0, .ref (27))] [] x_SH M2 J 0 0) : ∀ (m k : Nat) (M1 : xM), k + m = K → Ke WS M M1 → x_X l G fX7_isUpBehind 6 0 0 Q 2 [(3, .int (nI (k))), (2, .int (nI (K))), (1, .int (nI (h))), (0, .ref (27))] [] x_SH M1 J 0 0 := by
  intro m
  induction m with
  | zero =>
    intro k M1 hk hM
    refine xr_iload_n dX7_isUpBehind_2 0 rfl ?_
    refine xr_iload_n dX7_isUpBehind_3 1 rfl ?_
    refine xr_icmp_ge (tgt := 32) dX7_isUpBehind_4 rfl (fun _ => ?_) (fun c => absurd (nI_le (a := K) (b := k) (by omega) (by omega)) c)
    refine xb_ls (ls2 := [(2, .int (nI (K))), (1, .int (nI (h))), (0, .ref (27))]) [1, 2, 3] rfl ?_
    exact hC _ hM
  | succ m ih =>
    intro k M1 hk hM
    have hkN : k < K := by omega
    refine xr_iload_n dX7_isUpBehind_2 0 rfl ?_
    refine xr_iload_n dX7_isUpBehind_3 1 rfl ?_
    refine xr_icmp_ge (tgt := 32) dX7_isUpBehind_4 rfl (fun c => absurd c (nI_ge (a := k) (b := K) (by omega) (by omega))) (fun _ => ?_)
    refine xr_aload_n dX7_isUpBehind_7 3 rfl ?_
    refine xr_getR flX7_15 dX7_isUpBehind_8 s_27 rfl ?_
    refine xr_getR flX7_67 dX7_isUpBehind_11 s_28 rfl ?_
    refine xr_iload_n dX7_isUpBehind_14 2 rfl ?_
    refine xb_aald (j := h) (q := 30 + h) (by decide) dX7_isUpBehind_15 s_29 (by omega) (by decide) (if_pos (by omega)) ?_
    refine xb_cV (As := []) (rest := []) mlX7_71 (c_X2_lies (s_hp30 (by omega))) dX7_isUpBehind_16 (s_hp30 (by omega)) rfl rfl (Nat.le_of_ble_eq_true rfl) (by decide) (by decide) ?_
    refine xb_bne (tgt := 32) dX7_isUpBehind_19 rfl (fun c1 => ?_) (fun c1 => ?_)
    · refine xb_ls (ls2 := [(2, .int (nI (K))), (1, .int (nI (h))), (0, .ref (27))]) [1, 2, 3] rfl ?_
      exact hC _ hM
    · refine xr_aload_n dX7_isUpBehind_22 3 rfl ?_
      refine xr_callV (As := []) (rest := []) mlX7_64 (g_X7_step (fun k hk => by have h3 := (show M1 3 k = M 3 k from (Eq.trans (hM 3 k (by unfold WS; omega)) rfl)); rw [h3]; exact hv k hk) (by omega) (Eq.trans (hM 1 4 (by decide)) e_L) (by omega) (Eq.trans (hM 28 2 (by decide)) e_cn)) dX7_isUpBehind_23 s_27 rfl rfl (Nat.le_of_ble_eq_true rfl) (by decide) ⟨by decide, by decide⟩ (fun v s2 M2 J2 hq => ?_)
      obtain ⟨rfl, rfl, rfl, k3, _⟩ := hq
      try dsimp only [Option.toList, List.cons_append, List.nil_append]
      refine xr_iinc (v := nI (k + 1)) (ls2 := [(3, .int (nI (k + 1))), (2, .int (nI (K))), (1, .int (nI (h))), (0, .ref (27))]) dX7_isUpBehind_26 0 rfl (nI_1 _) (by decide) rfl ?_
      refine xr_goto (tgt := 2) dX7_isUpBehind_29 rfl ?_
      refine xb_ls (ls2 := [(3, .int (nI (k + 1))), (2, .int (nI (K))), (1, .int (nI (h))), (0, .ref (27))]) [0, 1, 2, 3] rfl ?_
      exact ih (k + 1) M2 (by omega) (Ke.tr (fun _ _ h => h) hM k3)
set_option maxRecDepth 100000 in
set_option maxHeartbeats 4000000 in
theorem g_X7_isUpBehind {h K : Nat} (hh : h < 5) (hK : K ≤ 1000) {l : Launch} {G : xG} {M : xM} {J : xJ} (hv : ∀ k, k < 128 → M 3 k ≤ 100000)  {L : Nat} (h_L : L ≤ 128) (e_L : M 1 4 = nI L) {cn : Nat} (h_cn : cn ≤ 5) (e_cn : M 28 2 = nI cn) : x_M l G fX7_isUpBehind 6 0 0 [.ref (27), .int (nI (h)), .int (nI (K))] x_SH M J (qKI WS M J (fun r M2 => r = 0 ∨ r = 1)) := by
  refine xb_of pX7 (Nat.le_of_ble_eq_true rfl) rfl ?_
  refine xr_iconst (v := 0) dX7_isUpBehind_0 rfl ?_
  refine xr_istore_n (ls2 := [(3, .int (0)), (0, .ref (27)), (1, .int (nI (h))), (2, .int (nI (K)))]) dX7_isUpBehind_1 (by decide) rfl ?_
  refine xb_ls (ls2 := [(3, .int (nI (0))), (2, .int (nI (K))), (1, .int (nI (h))), (0, .ref (27))]) [0, 3, 2, 1] rfl ?_
  refine iu_l hh hK (fun k hk => by have h3 := (show M 3 k = M 3 k from rfl); rw [h3]; exact hv k hk) (by omega) e_L (by omega) e_cn (fun M1 k2 => ?_) (K - 0) 0 M (by omega) Ke.rf
  refine xr_aload_n dX7_isUpBehind_32 2 rfl ?_
  refine xr_getR flX7_15 dX7_isUpBehind_33 s_27 rfl ?_
  refine xr_getR flX7_67 dX7_isUpBehind_36 s_28 rfl ?_
  refine xr_iload_n dX7_isUpBehind_39 1 rfl ?_
  refine xb_aald (j := h) (q := 30 + h) (by decide) dX7_isUpBehind_40 s_29 (by omega) (by decide) (if_pos (by omega)) ?_
  refine xb_cV (As := []) (rest := []) mlX7_71 (c_X2_lies (s_hp30 (by omega))) dX7_isUpBehind_41 (s_hp30 (by omega)) rfl rfl (Nat.le_of_ble_eq_true rfl) (by decide) (by decide) ?_
  refine xb_bne (tgt := 51) dX7_isUpBehind_44 rfl (fun c3 => ?_) (fun c3 => ?_)
  · refine xr_iconst (v := 0) dX7_isUpBehind_51 rfl ?_
    exact xr_iret dX7_isUpBehind_52 rfl rfl (⟨_, rfl, rfl, rfl, (Ke.tr (fun _ _ h => h) Ke.rf k2), (Or.inl rfl)⟩)
  · refine xr_iconst (v := 1) dX7_isUpBehind_47 rfl ?_
    refine xr_goto (tgt := 52) dX7_isUpBehind_48 rfl ?_
    exact xr_iret dX7_isUpBehind_52 rfl rfl (⟨_, rfl, rfl, rfl, (Ke.tr (fun _ _ h => h) Ke.rf k2), (Or.inr rfl)⟩)
set_option maxRecDepth 100000 in
set_option maxHeartbeats 4000000 in
theorem la_l {up : Int32} {l : Launch} {G : xG} {M : xM} {J : xJ} {Q : xQ} (hv : ∀ k, k < 128 → M 3 k ≤ 100000)  {L : Nat} (h_L : L ≤ 128) (e_L : M 1 4 = nI L) {cn : Nat} (h_cn : cn ≤ 5) (e_cn : M 28 2 = nI cn) (hC : ∀ (M2 : xM), Ke WS M M2 → x_X l G fX7_lasting 6 0 0 Q 40 [(1, .int (up)), (0, .ref (27))] [] x_SH M2 J 0 0) (hR : ∀ (r : Int32) (M2 : xM), Ke WS M M2 → Q (some (.int r)) x_SH M2 J) : ∀ (m k : Nat) (M1 : xM), k + m = 200 → Ke WS M M1 → x_X l G fX7_lasting 6 0 0 Q 10 [(2, .int (nI (k))), (1, .int (up)), (0, .ref (27))] [] x_SH M1 J 0 0 := by
  intro m
  induction m with
  | zero =>
    intro k M1 hk hM
    refine xr_iload_n dX7_lasting_10 0 rfl ?_
    refine xr_sipush (v := 200) dX7_lasting_11 rfl ?_
    refine xr_icmp_ge (tgt := 40) dX7_lasting_14 rfl (fun _ => ?_) (fun c => absurd (nI_le (a := 200) (b := k) (by omega) (by omega)) c)
    refine xb_ls (ls2 := [(1, .int (up)), (0, .ref (27))]) [1, 2] rfl ?_
    exact hC _ hM
  | succ m ih =>
    intro k M1 hk hM
    have hkN : k < 200 := by omega
    refine xr_iload_n dX7_lasting_10 0 rfl ?_
    refine xr_sipush (v := 200) dX7_lasting_11 rfl ?_
    refine xr_icmp_ge (tgt := 40) dX7_lasting_14 rfl (fun c => absurd c (nI_ge (a := k) (b := 200) (by omega) (by omega))) (fun _ => ?_)
    refine xr_aload_n dX7_lasting_17 2 rfl ?_
    refine xr_callV (As := []) (rest := []) mlX7_64 (g_X7_step (fun k hk => by have h3 := (show M1 3 k = M 3 k from (Eq.trans (hM 3 k (by unfold WS; omega)) rfl)); rw [h3]; exact hv k hk) (by omega) (Eq.trans (hM 1 4 (by decide)) e_L) (by omega) (Eq.trans (hM 28 2 (by decide)) e_cn)) dX7_lasting_18 s_27 rfl rfl (Nat.le_of_ble_eq_true rfl) (by decide) ⟨by decide, by decide⟩ (fun v s2 M1 J2 hq => ?_)
    obtain ⟨rfl, rfl, rfl, k2, _⟩ := hq
    try dsimp only [Option.toList, List.cons_append, List.nil_append]
    refine xr_aload_n dX7_lasting_21 2 rfl ?_
    refine xr_getR flX7_15 dX7_lasting_22 s_27 rfl ?_
    refine xr_callV (As := []) (rest := []) mlX7_76 (g_X5_upright_28 (by omega) (Eq.trans (k2 28 2 (by decide)) (Eq.trans (hM 28 2 (by decide)) e_cn))) dX7_lasting_25 s_28 rfl rfl (Nat.le_of_ble_eq_true rfl) (by decide) ⟨by decide, by decide⟩ (fun v s2 M9 J2 hq => ?_)
    obtain ⟨r4, rfl, rfl, rfl, rfl, hx3⟩ := hq
    try dsimp only [Option.toList, List.cons_append, List.nil_append]
    refine xr_iload_n dX7_lasting_28 1 rfl ?_
    refine xr_icmp_ge (tgt := 34) dX7_lasting_29 rfl (fun c5 => ?_) (fun c5 => ?_)
    · refine xr_iinc (v := nI (k + 1)) (ls2 := [(2, .int (nI (k + 1))), (1, .int (up)), (0, .ref (27))]) dX7_lasting_34 0 rfl (nI_1 _) (by decide) rfl ?_
      refine xr_goto (tgt := 10) dX7_lasting_37 rfl ?_
      refine xb_ls (ls2 := [(2, .int (nI (k + 1))), (1, .int (up)), (0, .ref (27))]) [0, 1, 2] rfl ?_
      exact ih (k + 1) M1 (by omega) (Ke.tr (fun _ _ h => h) hM k2)
    · refine xr_iload_n dX7_lasting_32 0 rfl ?_
      exact xr_iret dX7_lasting_33 rfl rfl (hR _ _ (Ke.tr (fun _ _ h => h) hM k2))
set_option maxRecDepth 100000 in
set_option maxHeartbeats 4000000 in
theorem g_X7_lasting {l : Launch} {G : xG} {M : xM} {J : xJ} (hv : ∀ k, k < 128 → M 3 k ≤ 100000)  {L : Nat} (h_L : L ≤ 128) (e_L : M 1 4 = nI L) {cn : Nat} (h_cn : cn ≤ 5) (e_cn : M 28 2 = nI cn) : x_M l G fX7_lasting 6 0 0 [.ref (27)] x_SH M J (qKI WS M J (fun r M2 => True)) := by
  refine xb_of pX7 (Nat.le_of_ble_eq_true rfl) rfl ?_
  refine xr_aload_n dX7_lasting_0 0 rfl ?_
  refine xr_getR flX7_15 dX7_lasting_1 s_27 rfl ?_
  refine xr_callV (As := []) (rest := []) mlX7_76 (g_X5_upright_28 (by omega) e_cn) dX7_lasting_4 s_28 rfl rfl (Nat.le_of_ble_eq_true rfl) (by decide) ⟨by decide, by decide⟩ (fun v s2 M9 J2 hq => ?_)
  obtain ⟨r2, rfl, rfl, rfl, rfl, hx1⟩ := hq
  try dsimp only [Option.toList, List.cons_append, List.nil_append]
  refine xr_istore_n (ls2 := [(1, .int (r2)), (0, .ref (27))]) dX7_lasting_7 (by decide) rfl ?_
  refine xr_iconst (v := 0) dX7_lasting_8 rfl ?_
  refine xr_istore_n (ls2 := [(2, .int (0)), (1, .int (r2)), (0, .ref (27))]) dX7_lasting_9 (by decide) rfl ?_
  refine xb_ls (ls2 := [(2, .int (nI (0))), (1, .int (r2)), (0, .ref (27))]) [0, 1, 2] rfl ?_
  refine la_l (fun k hk => by have h3 := (show M 3 k = M 3 k from rfl); rw [h3]; exact hv k hk) (by omega) e_L (by omega) e_cn (fun M3 k4 => ?_) (fun r M2 hk => ⟨_, rfl, rfl, rfl, Ke.tr (fun _ _ h => h) Ke.rf hk, trivial⟩) (200 - 0) 0 M (by omega) Ke.rf
  refine xr_sipush (v := 200) dX7_lasting_40 rfl ?_
  exact xr_iret dX7_lasting_43 rfl rfl (⟨_, rfl, rfl, rfl, (Ke.tr (fun _ _ h => h) Ke.rf k4), trivial⟩)
set_option maxRecDepth 100000 in
set_option maxHeartbeats 4000000 in
theorem ca_l {l : Launch} {G : xG} {M : xM} {J : xJ} {Q : xQ} (hv : ∀ k, k < 128 → M 3 k ≤ 100000)  {L : Nat} (h_L : L ≤ 128) (e_L : M 1 4 = nI L) {cn : Nat} (h_cn : cn ≤ 5) (e_cn : M 28 2 = nI cn) (hC : ∀ (wb : Int32) (M2 : xM), Ke WS M M2 → x_X l G fX7_caughtAgain 6 0 0 Q 53 [(1, .int (wb)), (0, .ref (27))] [] x_SH M2 J 0 0) (hR : ∀ (r : Int32) (M2 : xM), Ke WS M M2 → Q (some (.int r)) x_SH M2 J) : ∀ (m k : Nat) (wb : Int32) (M1 : xM), k + m = 201 → Ke WS M M1 → x_X l G fX7_caughtAgain 6 0 0 Q 4 [(2, .int (nI (k))), (1, .int (wb)), (0, .ref (27))] [] x_SH M1 J 0 0 := by
  intro m
  induction m with
  | zero =>
    intro k wb M1 hk hM
    refine xr_iload_n dX7_caughtAgain_4 0 rfl ?_
    refine xr_sipush (v := 200) dX7_caughtAgain_5 rfl ?_
    refine xr_icmp_gt (tgt := 53) dX7_caughtAgain_8 rfl (fun _ => ?_) (fun c => absurd (nI_lt (a := 200) (b := k) (by omega) (by omega)) c)
    refine xb_ls (ls2 := [(1, .int (wb)), (0, .ref (27))]) [1, 2] rfl ?_
    exact hC wb _ hM
  | succ m ih =>
    intro k wb M1 hk hM
    have hkN : k < 201 := by omega
    refine xr_iload_n dX7_caughtAgain_4 0 rfl ?_
    refine xr_sipush (v := 200) dX7_caughtAgain_5 rfl ?_
    refine xr_icmp_gt (tgt := 53) dX7_caughtAgain_8 rfl (fun c => absurd c (nI_nlt (a := 200) (b := k) (by omega) (by omega))) (fun _ => ?_)
    refine xr_aload_n dX7_caughtAgain_11 2 rfl ?_
    refine xr_getR flX7_15 dX7_caughtAgain_12 s_27 rfl ?_
    refine xr_callV (As := []) (rest := []) mlX7_79 (g_X5_allHighest_28 (by omega) (Eq.trans (hM 28 2 (by decide)) e_cn)) dX7_caughtAgain_15 s_28 rfl rfl (Nat.le_of_ble_eq_true rfl) (by decide) ⟨by decide, by decide⟩ (fun v s2 M9 J2 hq => ?_)
    obtain ⟨r2, rfl, rfl, rfl, rfl, hx1⟩ := hq
    try dsimp only [Option.toList, List.cons_append, List.nil_append]
    refine xr_istore_n (ls2 := [(3, .int (r2)), (2, .int (nI (k))), (1, .int (wb)), (0, .ref (27))]) dX7_caughtAgain_18 (by decide) rfl ?_
    refine xr_iload_n dX7_caughtAgain_19 0 rfl ?_
    refine xr_if_eq (tgt := 29) dX7_caughtAgain_20 rfl (fun c3 => ?_) (fun c3 => ?_)
    · refine xr_iload_n dX7_caughtAgain_29 0 rfl ?_
      refine xr_if_eq (tgt := 37) dX7_caughtAgain_30 rfl (fun c4 => ?_) (fun c4 => ?_)
      · refine xr_iconst (v := 1) dX7_caughtAgain_37 rfl ?_
        refine xr_goto (tgt := 42) dX7_caughtAgain_38 rfl ?_
        refine xr_istore_n (ls2 := [(1, .int (1)), (3, .int (r2)), (2, .int (nI (k))), (0, .ref (27))]) dX7_caughtAgain_42 (by decide) rfl ?_
        refine xr_aload_n dX7_caughtAgain_43 3 rfl ?_
        refine xr_callV (As := []) (rest := []) mlX7_64 (g_X7_step (fun k hk => by have h3 := (show M1 3 k = M 3 k from (Eq.trans (hM 3 k (by unfold WS; omega)) rfl)); rw [h3]; exact hv k hk) (by omega) (Eq.trans (hM 1 4 (by decide)) e_L) (by omega) (Eq.trans (hM 28 2 (by decide)) e_cn)) dX7_caughtAgain_44 s_27 rfl rfl (Nat.le_of_ble_eq_true rfl) (by decide) ⟨by decide, by decide⟩ (fun v s2 M5 J2 hq => ?_)
        obtain ⟨rfl, rfl, rfl, k6, _⟩ := hq
        try dsimp only [Option.toList, List.cons_append, List.nil_append]
        refine xr_iinc (v := nI (k + 1)) (ls2 := [(2, .int (nI (k + 1))), (1, .int (1)), (3, .int (r2)), (0, .ref (27))]) dX7_caughtAgain_47 2 rfl (nI_1 _) (by decide) rfl ?_
        refine xr_goto (tgt := 4) dX7_caughtAgain_50 rfl ?_
        refine xb_ls (ls2 := [(2, .int (nI (k + 1))), (1, .int (1)), (0, .ref (27))]) [0, 1, 3] rfl ?_
        exact ih (k + 1) 1 M5 (by omega) (Ke.tr (fun _ _ h => h) hM k6)
      · refine xr_iload_n dX7_caughtAgain_33 2 rfl ?_
        refine xr_if_eq (tgt := 41) dX7_caughtAgain_34 rfl (fun c7 => ?_) (fun c7 => ?_)
        · refine xr_iconst (v := 0) dX7_caughtAgain_41 rfl ?_
          refine xr_istore_n (ls2 := [(1, .int (0)), (3, .int (r2)), (2, .int (nI (k))), (0, .ref (27))]) dX7_caughtAgain_42 (by decide) rfl ?_
          refine xr_aload_n dX7_caughtAgain_43 3 rfl ?_
          refine xr_callV (As := []) (rest := []) mlX7_64 (g_X7_step (fun k hk => by have h3 := (show M1 3 k = M 3 k from (Eq.trans (hM 3 k (by unfold WS; omega)) rfl)); rw [h3]; exact hv k hk) (by omega) (Eq.trans (hM 1 4 (by decide)) e_L) (by omega) (Eq.trans (hM 28 2 (by decide)) e_cn)) dX7_caughtAgain_44 s_27 rfl rfl (Nat.le_of_ble_eq_true rfl) (by decide) ⟨by decide, by decide⟩ (fun v s2 M8 J2 hq => ?_)
          obtain ⟨rfl, rfl, rfl, k9, _⟩ := hq
          try dsimp only [Option.toList, List.cons_append, List.nil_append]
          refine xr_iinc (v := nI (k + 1)) (ls2 := [(2, .int (nI (k + 1))), (1, .int (0)), (3, .int (r2)), (0, .ref (27))]) dX7_caughtAgain_47 2 rfl (nI_1 _) (by decide) rfl ?_
          refine xr_goto (tgt := 4) dX7_caughtAgain_50 rfl ?_
          refine xb_ls (ls2 := [(2, .int (nI (k + 1))), (1, .int (0)), (0, .ref (27))]) [0, 1, 3] rfl ?_
          exact ih (k + 1) 0 M8 (by omega) (Ke.tr (fun _ _ h => h) hM k9)
        · refine xr_iconst (v := 1) dX7_caughtAgain_37 rfl ?_
          refine xr_goto (tgt := 42) dX7_caughtAgain_38 rfl ?_
          refine xr_istore_n (ls2 := [(1, .int (1)), (3, .int (r2)), (2, .int (nI (k))), (0, .ref (27))]) dX7_caughtAgain_42 (by decide) rfl ?_
          refine xr_aload_n dX7_caughtAgain_43 3 rfl ?_
          refine xr_callV (As := []) (rest := []) mlX7_64 (g_X7_step (fun k hk => by have h3 := (show M1 3 k = M 3 k from (Eq.trans (hM 3 k (by unfold WS; omega)) rfl)); rw [h3]; exact hv k hk) (by omega) (Eq.trans (hM 1 4 (by decide)) e_L) (by omega) (Eq.trans (hM 28 2 (by decide)) e_cn)) dX7_caughtAgain_44 s_27 rfl rfl (Nat.le_of_ble_eq_true rfl) (by decide) ⟨by decide, by decide⟩ (fun v s2 M10 J2 hq => ?_)
          obtain ⟨rfl, rfl, rfl, k11, _⟩ := hq
          try dsimp only [Option.toList, List.cons_append, List.nil_append]
          refine xr_iinc (v := nI (k + 1)) (ls2 := [(2, .int (nI (k + 1))), (1, .int (1)), (3, .int (r2)), (0, .ref (27))]) dX7_caughtAgain_47 2 rfl (nI_1 _) (by decide) rfl ?_
          refine xr_goto (tgt := 4) dX7_caughtAgain_50 rfl ?_
          refine xb_ls (ls2 := [(2, .int (nI (k + 1))), (1, .int (1)), (0, .ref (27))]) [0, 1, 3] rfl ?_
          exact ih (k + 1) 1 M10 (by omega) (Ke.tr (fun _ _ h => h) hM k11)
    · refine xr_iload_n dX7_caughtAgain_23 2 rfl ?_
      refine xr_if_eq (tgt := 29) dX7_caughtAgain_24 rfl (fun c12 => ?_) (fun c12 => ?_)
      · refine xr_iload_n dX7_caughtAgain_29 0 rfl ?_
        refine xr_if_eq (tgt := 37) dX7_caughtAgain_30 rfl (fun c13 => ?_) (fun c13 => ?_)
        · refine xr_iconst (v := 1) dX7_caughtAgain_37 rfl ?_
          refine xr_goto (tgt := 42) dX7_caughtAgain_38 rfl ?_
          refine xr_istore_n (ls2 := [(1, .int (1)), (3, .int (r2)), (2, .int (nI (k))), (0, .ref (27))]) dX7_caughtAgain_42 (by decide) rfl ?_
          refine xr_aload_n dX7_caughtAgain_43 3 rfl ?_
          refine xr_callV (As := []) (rest := []) mlX7_64 (g_X7_step (fun k hk => by have h3 := (show M1 3 k = M 3 k from (Eq.trans (hM 3 k (by unfold WS; omega)) rfl)); rw [h3]; exact hv k hk) (by omega) (Eq.trans (hM 1 4 (by decide)) e_L) (by omega) (Eq.trans (hM 28 2 (by decide)) e_cn)) dX7_caughtAgain_44 s_27 rfl rfl (Nat.le_of_ble_eq_true rfl) (by decide) ⟨by decide, by decide⟩ (fun v s2 M14 J2 hq => ?_)
          obtain ⟨rfl, rfl, rfl, k15, _⟩ := hq
          try dsimp only [Option.toList, List.cons_append, List.nil_append]
          refine xr_iinc (v := nI (k + 1)) (ls2 := [(2, .int (nI (k + 1))), (1, .int (1)), (3, .int (r2)), (0, .ref (27))]) dX7_caughtAgain_47 2 rfl (nI_1 _) (by decide) rfl ?_
          refine xr_goto (tgt := 4) dX7_caughtAgain_50 rfl ?_
          refine xb_ls (ls2 := [(2, .int (nI (k + 1))), (1, .int (1)), (0, .ref (27))]) [0, 1, 3] rfl ?_
          exact ih (k + 1) 1 M14 (by omega) (Ke.tr (fun _ _ h => h) hM k15)
        · refine xr_iload_n dX7_caughtAgain_33 2 rfl ?_
          refine xr_if_eq (tgt := 41) dX7_caughtAgain_34 rfl (fun c16 => ?_) (fun c16 => ?_)
          · refine xr_iconst (v := 0) dX7_caughtAgain_41 rfl ?_
            refine xr_istore_n (ls2 := [(1, .int (0)), (3, .int (r2)), (2, .int (nI (k))), (0, .ref (27))]) dX7_caughtAgain_42 (by decide) rfl ?_
            refine xr_aload_n dX7_caughtAgain_43 3 rfl ?_
            refine xr_callV (As := []) (rest := []) mlX7_64 (g_X7_step (fun k hk => by have h3 := (show M1 3 k = M 3 k from (Eq.trans (hM 3 k (by unfold WS; omega)) rfl)); rw [h3]; exact hv k hk) (by omega) (Eq.trans (hM 1 4 (by decide)) e_L) (by omega) (Eq.trans (hM 28 2 (by decide)) e_cn)) dX7_caughtAgain_44 s_27 rfl rfl (Nat.le_of_ble_eq_true rfl) (by decide) ⟨by decide, by decide⟩ (fun v s2 M17 J2 hq => ?_)
            obtain ⟨rfl, rfl, rfl, k18, _⟩ := hq
            try dsimp only [Option.toList, List.cons_append, List.nil_append]
            refine xr_iinc (v := nI (k + 1)) (ls2 := [(2, .int (nI (k + 1))), (1, .int (0)), (3, .int (r2)), (0, .ref (27))]) dX7_caughtAgain_47 2 rfl (nI_1 _) (by decide) rfl ?_
            refine xr_goto (tgt := 4) dX7_caughtAgain_50 rfl ?_
            refine xb_ls (ls2 := [(2, .int (nI (k + 1))), (1, .int (0)), (0, .ref (27))]) [0, 1, 3] rfl ?_
            exact ih (k + 1) 0 M17 (by omega) (Ke.tr (fun _ _ h => h) hM k18)
          · refine xr_iconst (v := 1) dX7_caughtAgain_37 rfl ?_
            refine xr_goto (tgt := 42) dX7_caughtAgain_38 rfl ?_
            refine xr_istore_n (ls2 := [(1, .int (1)), (3, .int (r2)), (2, .int (nI (k))), (0, .ref (27))]) dX7_caughtAgain_42 (by decide) rfl ?_
            refine xr_aload_n dX7_caughtAgain_43 3 rfl ?_
            refine xr_callV (As := []) (rest := []) mlX7_64 (g_X7_step (fun k hk => by have h3 := (show M1 3 k = M 3 k from (Eq.trans (hM 3 k (by unfold WS; omega)) rfl)); rw [h3]; exact hv k hk) (by omega) (Eq.trans (hM 1 4 (by decide)) e_L) (by omega) (Eq.trans (hM 28 2 (by decide)) e_cn)) dX7_caughtAgain_44 s_27 rfl rfl (Nat.le_of_ble_eq_true rfl) (by decide) ⟨by decide, by decide⟩ (fun v s2 M19 J2 hq => ?_)
            obtain ⟨rfl, rfl, rfl, k20, _⟩ := hq
            try dsimp only [Option.toList, List.cons_append, List.nil_append]
            refine xr_iinc (v := nI (k + 1)) (ls2 := [(2, .int (nI (k + 1))), (1, .int (1)), (3, .int (r2)), (0, .ref (27))]) dX7_caughtAgain_47 2 rfl (nI_1 _) (by decide) rfl ?_
            refine xr_goto (tgt := 4) dX7_caughtAgain_50 rfl ?_
            refine xb_ls (ls2 := [(2, .int (nI (k + 1))), (1, .int (1)), (0, .ref (27))]) [0, 1, 3] rfl ?_
            exact ih (k + 1) 1 M19 (by omega) (Ke.tr (fun _ _ h => h) hM k20)
      · refine xr_iload_n dX7_caughtAgain_27 1 rfl ?_
        exact xr_iret dX7_caughtAgain_28 rfl rfl (hR _ _ hM)
set_option maxRecDepth 100000 in
set_option maxHeartbeats 4000000 in
theorem g_X7_caughtAgain {l : Launch} {G : xG} {M : xM} {J : xJ} (hv : ∀ k, k < 128 → M 3 k ≤ 100000)  {L : Nat} (h_L : L ≤ 128) (e_L : M 1 4 = nI L) {cn : Nat} (h_cn : cn ≤ 5) (e_cn : M 28 2 = nI cn) : x_M l G fX7_caughtAgain 6 0 0 [.ref (27)] x_SH M J (qKI WS M J (fun r M2 => True)) := by
  refine xb_of pX7 (Nat.le_of_ble_eq_true rfl) rfl ?_
  refine xr_iconst (v := 0) dX7_caughtAgain_0 rfl ?_
  refine xr_istore_n (ls2 := [(1, .int (0)), (0, .ref (27))]) dX7_caughtAgain_1 (by decide) rfl ?_
  refine xr_iconst (v := 0) dX7_caughtAgain_2 rfl ?_
  refine xr_istore_n (ls2 := [(2, .int (0)), (1, .int (0)), (0, .ref (27))]) dX7_caughtAgain_3 (by decide) rfl ?_
  refine xb_ls (ls2 := [(2, .int (nI (0))), (1, .int (0)), (0, .ref (27))]) [0, 1, 2] rfl ?_
  refine ca_l (fun k hk => by have h3 := (show M 3 k = M 3 k from rfl); rw [h3]; exact hv k hk) (by omega) e_L (by omega) e_cn (fun q1 M2 k3 => ?_) (fun r M2 hk => ⟨_, rfl, rfl, rfl, Ke.tr (fun _ _ h => h) Ke.rf hk, trivial⟩) (201 - 0) 0 0 M (by omega) Ke.rf
  refine xr_iload_n dX7_caughtAgain_53 0 rfl ?_
  refine xr_if_eq (tgt := 62) dX7_caughtAgain_54 rfl (fun c4 => ?_) (fun c4 => ?_)
  · refine xr_iconst (v := 0) dX7_caughtAgain_62 rfl ?_
    exact xr_iret dX7_caughtAgain_63 rfl rfl (⟨_, rfl, rfl, rfl, (Ke.tr (fun _ _ h => h) Ke.rf k3), trivial⟩)
  · refine xr_bipush (v := -2) dX7_caughtAgain_57 rfl ?_
    refine xr_goto (tgt := 63) dX7_caughtAgain_59 rfl ?_
    exact xr_iret dX7_caughtAgain_63 rfl rfl (⟨_, rfl, rfl, rfl, (Ke.tr (fun _ _ h => h) Ke.rf k3), trivial⟩)
set_option maxRecDepth 100000 in
set_option maxHeartbeats 4000000 in
theorem g_X6_gapAt (i : Int32) {sq el : Nat} (hs : x_SH[sq]? = some (.inl (6, [none, none, none, none, some (some el)]))) (hel : x_SH[el]? = some (.inr (2, 60, fun _ => none))) {l : Launch} {G : xG} {M : xM} {J : xJ} : x_M l G fX6_gapAt 0 0 0 [.ref (sq), .int (i)] x_SH M J (qPI M J (fun r => True)) := by
  refine xb_of pX6 (Nat.le_of_ble_eq_true rfl) rfl ?_
  refine xr_iload_n dX6_gapAt_0 1 rfl ?_
  refine xr_if_lt (tgt := 29) dX6_gapAt_1 rfl (fun c1 => ?_) (fun c1 => ?_)
  · refine xr_iconst (v := -1) dX6_gapAt_29 rfl ?_
    exact xr_iret dX6_gapAt_30 rfl rfl (⟨_, rfl, rfl, rfl, rfl, trivial⟩)
  · refine xr_iload_n dX6_gapAt_4 1 rfl ?_
    refine xr_aload_n dX6_gapAt_5 0 rfl ?_
    refine xb_get (v := M sq 3) flX6_26 dX6_gapAt_6 hs rfl rfl ?_
    refine xr_icmp_ge (tgt := 29) dX6_gapAt_9 rfl (fun c2 => ?_) (fun c2 => ?_)
    · refine xr_iconst (v := -1) dX6_gapAt_29 rfl ?_
      exact xr_iret dX6_gapAt_30 rfl rfl (⟨_, rfl, rfl, rfl, rfl, trivial⟩)
    · refine xr_iload_n dX6_gapAt_12 1 rfl ?_
      refine xr_bipush (v := 60) dX6_gapAt_13 rfl ?_
      refine xr_icmp_ge (tgt := 29) dX6_gapAt_15 rfl (fun c3 => ?_) (fun c3 => ?_)
      · refine xr_iconst (v := -1) dX6_gapAt_29 rfl ?_
        exact xr_iret dX6_gapAt_30 rfl rfl (⟨_, rfl, rfl, rfl, rfl, trivial⟩)
      · refine xr_aload_n dX6_gapAt_18 0 rfl ?_
        refine xr_getR flX6_9 dX6_gapAt_19 hs rfl ?_
        refine xr_iload_n dX6_gapAt_22 1 rfl ?_
        obtain ⟨j4, hj4, ej4⟩ := x_nat (v := i) (N := 60) (K := 60) (by decide) (by decide) ⟨by grind, by grind⟩
        refine xb_top (y := nI j4) ej4 ?_
        refine xb_lald (j := j4) (v := J el j4) dX6_gapAt_23 hel hj4 (by decide) rfl ?_
        refine xr_lconst (v := 1) dX6_gapAt_24 rfl ?_
        refine xr_lcmp dX6_gapAt_25 ?_
        refine xl_ge (tgt := 31) dX6_gapAt_26 rfl (fun c5 => ?_) (fun c5 => ?_)
        · refine xr_aload_n dX6_gapAt_31 0 rfl ?_
          refine xr_getR flX6_9 dX6_gapAt_32 hs rfl ?_
          refine xr_iload_n dX6_gapAt_35 1 rfl ?_
          obtain ⟨j6, hj6, ej6⟩ := x_nat (v := i) (N := 60) (K := 60) (by decide) (by decide) ⟨by grind, by grind⟩
          refine xb_top (y := nI j6) ej6 ?_
          refine xb_lald (j := j6) (v := J el j6) dX6_gapAt_36 hel hj6 (by decide) rfl ?_
          refine xr_l2i dX6_gapAt_37 ?_
          exact xr_iret dX6_gapAt_38 rfl rfl (⟨_, rfl, rfl, rfl, rfl, trivial⟩)
        · refine xr_iconst (v := -1) dX6_gapAt_29 rfl ?_
          exact xr_iret dX6_gapAt_30 rfl rfl (⟨_, rfl, rfl, rfl, rfl, trivial⟩)
set_option maxRecDepth 100000 in
set_option maxHeartbeats 4000000 in
theorem lm_l {up : Int32} {sq el : Nat} (hs : x_SH[sq]? = some (.inl (6, [none, none, none, none, some (some el)]))) (hel : x_SH[el]? = some (.inr (2, 60, fun _ => none))) {l : Launch} {G : xG} {M : xM} {J : xJ} {Q : xQ} (hv : ∀ k, k < 128 → M 3 k ≤ 100000)  {L : Nat} (h_L : L ≤ 128) (e_L : M 1 4 = nI L) {cn : Nat} (h_cn : cn ≤ 5) (e_cn : M 28 2 = nI cn) (hC : ∀ (du : Int32) (nx : Int32) (M2 : xM), Ke WS M M2 → x_X l G fX7_lastingBy 5 0 0 Q 105 [(4, .int (du)), (3, .int (nx)), (2, .int (up)), (1, .ref (sq)), (0, .ref (27))] [] x_SH M2 J 0 0) (hR : ∀ (r : Int32) (M2 : xM), Ke WS M M2 → Q (some (.int r)) x_SH M2 J) : ∀ (m k : Nat) (du : Int32) (nx : Int32) (M1 : xM), k + m = 200 → Ke WS M M1 → x_X l G fX7_lastingBy 5 0 0 Q 20 [(5, .int (nI (k))), (4, .int (du)), (3, .int (nx)), (2, .int (up)), (1, .ref (sq)), (0, .ref (27))] [] x_SH M1 J 0 0 := by
  intro m
  induction m with
  | zero =>
    intro k du nx M1 hk hM
    refine xr_iload dX7_lastingBy_20 0 rfl ?_
    refine xr_sipush (v := 200) dX7_lastingBy_22 rfl ?_
    refine xr_icmp_ge (tgt := 105) dX7_lastingBy_25 rfl (fun _ => ?_) (fun c => absurd (nI_le (a := 200) (b := k) (by omega) (by omega)) c)
    refine xb_ls (ls2 := [(4, .int (du)), (3, .int (nx)), (2, .int (up)), (1, .ref (sq)), (0, .ref (27))]) [1, 2, 3, 4, 5] rfl ?_
    exact hC du nx _ hM
  | succ m ih =>
    intro k du nx M1 hk hM
    have hkN : k < 200 := by omega
    refine xr_iload dX7_lastingBy_20 0 rfl ?_
    refine xr_sipush (v := 200) dX7_lastingBy_22 rfl ?_
    refine xr_icmp_ge (tgt := 105) dX7_lastingBy_25 rfl (fun c => absurd c (nI_ge (a := k) (b := 200) (by omega) (by omega))) (fun _ => ?_)
    refine xr_iload dX7_lastingBy_28 0 rfl ?_
    refine xr_iload dX7_lastingBy_30 1 rfl ?_
    refine xr_icmp_ne (tgt := 78) dX7_lastingBy_32 rfl (fun c1 => ?_) (fun c1 => ?_)
    · refine xr_aload_n dX7_lastingBy_78 5 rfl ?_
      refine xr_getR flX7_15 dX7_lastingBy_79 s_27 rfl ?_
      refine xr_callV (As := []) (rest := []) mlX7_58 (g_X5_settle_28 (by omega) (Eq.trans (hM 28 2 (by decide)) e_cn)) dX7_lastingBy_82 s_28 rfl rfl (Nat.le_of_ble_eq_true rfl) (by decide) ⟨by decide, by decide⟩ (fun v s2 M3 J2 hq => ?_)
      obtain ⟨rfl, rfl, rfl, k4, hx2⟩ := hq
      try dsimp only [Option.toList, List.cons_append, List.nil_append]
      refine xr_aload_n dX7_lastingBy_85 5 rfl ?_
      refine xr_getR flX7_15 dX7_lastingBy_86 s_27 rfl ?_
      refine xr_callV (As := []) (rest := []) mlX7_76 (g_X5_upright_28 (by omega) (Eq.trans (k4 28 2 (by decide)) (Eq.trans (hM 28 2 (by decide)) e_cn))) dX7_lastingBy_89 s_28 rfl rfl (Nat.le_of_ble_eq_true rfl) (by decide) ⟨by decide, by decide⟩ (fun v s2 M9 J2 hq => ?_)
      obtain ⟨r6, rfl, rfl, rfl, rfl, hx5⟩ := hq
      try dsimp only [Option.toList, List.cons_append, List.nil_append]
      refine xr_iload_n dX7_lastingBy_92 3 rfl ?_
      refine xr_icmp_ge (tgt := 99) dX7_lastingBy_93 rfl (fun c7 => ?_) (fun c7 => ?_)
      · refine xr_iinc (v := nI (k + 1)) (ls2 := [(5, .int (nI (k + 1))), (4, .int (du)), (3, .int (nx)), (2, .int (up)), (1, .ref (sq)), (0, .ref (27))]) dX7_lastingBy_99 0 rfl (nI_1 _) (by decide) rfl ?_
        refine xr_goto (tgt := 20) dX7_lastingBy_102 rfl ?_
        refine xb_ls (ls2 := [(5, .int (nI (k + 1))), (4, .int (du)), (3, .int (nx)), (2, .int (up)), (1, .ref (sq)), (0, .ref (27))]) [0, 1, 2, 3, 4, 5] rfl ?_
        exact ih (k + 1) du nx M3 (by omega) (Ke.tr (fun pp kk => (fun hh => Or.elim hh (fun h => (Or.inr (Or.inr (Or.inr (Or.inl (by omega)))))) (fun hh => Or.elim hh (fun h => (Or.inr (Or.inr (Or.inr (Or.inl (by omega)))))) (fun h => (Or.inr (Or.inr (Or.inr (Or.inr h)))))))) hM k4)
      · refine xr_iload dX7_lastingBy_96 0 rfl ?_
        exact xr_iret dX7_lastingBy_98 rfl rfl (hR _ _ (Ke.tr (fun pp kk => (fun hh => Or.elim hh (fun h => (Or.inr (Or.inr (Or.inr (Or.inl (by omega)))))) (fun hh => Or.elim hh (fun h => (Or.inr (Or.inr (Or.inr (Or.inl (by omega)))))) (fun h => (Or.inr (Or.inr (Or.inr (Or.inr h)))))))) hM k4))
    · refine xr_aload_n dX7_lastingBy_35 5 rfl ?_
      refine xr_getR flX7_15 dX7_lastingBy_36 s_27 rfl ?_
      refine xr_aload_n dX7_lastingBy_39 5 rfl ?_
      refine xr_getR flX7_15 dX7_lastingBy_40 s_27 rfl ?_
      refine xb_get (v := M1 28 7) flX7_47 dX7_lastingBy_43 s_28 rfl rfl ?_
      refine xr_iload_n dX7_lastingBy_46 2 rfl ?_
      refine xb_cN (As := [.int (nx)]) (rest := [.int (M1 28 7), .ref (28)]) mlX7_88 (c_X9_goalOf nx) dX7_lastingBy_47 rfl rfl (Nat.le_of_ble_eq_true rfl) (by decide) (by decide) ?_
      refine xr_callV (As := [.int (M1 28 7), .int ((if nx - nx / 2 * 2 = 0 then 0 else 12))]) (rest := []) mlX7_54 (g_X5_push_28 (M1 28 7) (if nx - nx / 2 * 2 = 0 then 0 else 12) (fun k hk => by have h3 := (show M1 3 k = M 3 k from (Eq.trans (hM 3 k (by unfold WS; omega)) rfl)); rw [h3]; exact hv k hk) (by omega) (Eq.trans (hM 1 4 (by decide)) e_L) (by omega) (Eq.trans (hM 28 2 (by decide)) e_cn)) dX7_lastingBy_50 s_28 rfl rfl (Nat.le_of_ble_eq_true rfl) (by decide) ⟨by decide, by decide⟩ (fun v s2 M9 J2 hq => ?_)
      obtain ⟨rfl, rfl, rfl, k10, hx8⟩ := hq
      try dsimp only [Option.toList, List.cons_append, List.nil_append]
      refine xr_iinc (v := nx + 1) (ls2 := [(3, .int (nx + 1)), (5, .int (nI (k))), (4, .int (du)), (2, .int (up)), (1, .ref (sq)), (0, .ref (27))]) dX7_lastingBy_53 2 rfl rfl (by decide) rfl ?_
      refine xr_aload_n dX7_lastingBy_56 4 rfl ?_
      refine xr_iload_n dX7_lastingBy_57 0 rfl ?_
      refine xr_callV (As := [.int (nx + 1)]) (rest := []) mlX7_82 (g_X6_gapAt (nx + 1) hs hel) dX7_lastingBy_58 hs rfl rfl (Nat.le_of_ble_eq_true rfl) (by decide) ⟨by decide, by decide⟩ (fun v s2 M9 J2 hq => ?_)
      obtain ⟨r11, rfl, rfl, rfl, rfl, _⟩ := hq
      try dsimp only [Option.toList, List.cons_append, List.nil_append]
      refine xr_if_ge (tgt := 68) dX7_lastingBy_61 rfl (fun c12 => ?_) (fun c12 => ?_)
      · refine xr_iload dX7_lastingBy_68 1 rfl ?_
        refine xr_aload_n dX7_lastingBy_70 4 rfl ?_
        refine xr_iload_n dX7_lastingBy_71 0 rfl ?_
        refine xr_callV (As := [.int (nx + 1)]) (rest := [.int (nI (k))]) mlX7_82 (g_X6_gapAt (nx + 1) hs hel) dX7_lastingBy_72 hs rfl rfl (Nat.le_of_ble_eq_true rfl) (by decide) ⟨by decide, by decide⟩ (fun v s2 M9 J2 hq => ?_)
        obtain ⟨r13, rfl, rfl, rfl, rfl, _⟩ := hq
        try dsimp only [Option.toList, List.cons_append, List.nil_append]
        refine xr_iadd dX7_lastingBy_75 ?_
        refine xr_istore (ls2 := [(4, .int (((nI (k)) + r13))), (3, .int (nx + 1)), (5, .int (nI (k))), (2, .int (up)), (1, .ref (sq)), (0, .ref (27))]) dX7_lastingBy_76 (by decide) rfl ?_
        refine xr_aload_n dX7_lastingBy_78 5 rfl ?_
        refine xr_getR flX7_15 dX7_lastingBy_79 s_27 rfl ?_
        refine xr_callV (As := []) (rest := []) mlX7_58 (g_X5_settle_28 (by omega) (Eq.trans (k10 28 2 (by decide)) (Eq.trans (hM 28 2 (by decide)) e_cn))) dX7_lastingBy_82 s_28 rfl rfl (Nat.le_of_ble_eq_true rfl) (by decide) ⟨by decide, by decide⟩ (fun v s2 M15 J2 hq => ?_)
        obtain ⟨rfl, rfl, rfl, k16, hx14⟩ := hq
        try dsimp only [Option.toList, List.cons_append, List.nil_append]
        refine xr_aload_n dX7_lastingBy_85 5 rfl ?_
        refine xr_getR flX7_15 dX7_lastingBy_86 s_27 rfl ?_
        refine xr_callV (As := []) (rest := []) mlX7_76 (g_X5_upright_28 (by omega) (Eq.trans (k16 28 2 (by decide)) (Eq.trans (k10 28 2 (by decide)) (Eq.trans (hM 28 2 (by decide)) e_cn)))) dX7_lastingBy_89 s_28 rfl rfl (Nat.le_of_ble_eq_true rfl) (by decide) ⟨by decide, by decide⟩ (fun v s2 M9 J2 hq => ?_)
        obtain ⟨r18, rfl, rfl, rfl, rfl, hx17⟩ := hq
        try dsimp only [Option.toList, List.cons_append, List.nil_append]
        refine xr_iload_n dX7_lastingBy_92 3 rfl ?_
        refine xr_icmp_ge (tgt := 99) dX7_lastingBy_93 rfl (fun c19 => ?_) (fun c19 => ?_)
        · refine xr_iinc (v := nI (k + 1)) (ls2 := [(5, .int (nI (k + 1))), (4, .int (((nI (k)) + r13))), (3, .int (nx + 1)), (2, .int (up)), (1, .ref (sq)), (0, .ref (27))]) dX7_lastingBy_99 2 rfl (nI_1 _) (by decide) rfl ?_
          refine xr_goto (tgt := 20) dX7_lastingBy_102 rfl ?_
          refine xb_ls (ls2 := [(5, .int (nI (k + 1))), (4, .int (((nI (k)) + r13))), (3, .int (nx + 1)), (2, .int (up)), (1, .ref (sq)), (0, .ref (27))]) [0, 1, 2, 3, 4, 5] rfl ?_
          exact ih (k + 1) ((nI (k)) + r13) (nx + 1) M15 (by omega) (Ke.tr (fun pp kk => (fun hh => Or.elim hh (fun h => (Or.inr (Or.inr (Or.inr (Or.inl (by omega)))))) (fun hh => Or.elim hh (fun h => (Or.inr (Or.inr (Or.inr (Or.inl (by omega)))))) (fun h => (Or.inr (Or.inr (Or.inr (Or.inr h)))))))) (Ke.tr (fun pp kk => (fun hh => Or.elim hh (fun h => (Or.inl h)) (fun hh => Or.elim hh (fun h => (Or.inr (Or.inl h))) (fun h => (Or.inr (Or.inr (Or.inr (Or.inr h)))))))) hM k10) k16)
        · refine xr_iload dX7_lastingBy_96 2 rfl ?_
          exact xr_iret dX7_lastingBy_98 rfl rfl (hR _ _ (Ke.tr (fun pp kk => (fun hh => Or.elim hh (fun h => (Or.inr (Or.inr (Or.inr (Or.inl (by omega)))))) (fun hh => Or.elim hh (fun h => (Or.inr (Or.inr (Or.inr (Or.inl (by omega)))))) (fun h => (Or.inr (Or.inr (Or.inr (Or.inr h)))))))) (Ke.tr (fun pp kk => (fun hh => Or.elim hh (fun h => (Or.inl h)) (fun hh => Or.elim hh (fun h => (Or.inr (Or.inl h))) (fun h => (Or.inr (Or.inr (Or.inr (Or.inr h)))))))) hM k10) k16))
      · refine xr_iconst (v := -1) dX7_lastingBy_64 rfl ?_
        refine xr_goto (tgt := 76) dX7_lastingBy_65 rfl ?_
        refine xr_istore (ls2 := [(4, .int ((-1))), (3, .int (nx + 1)), (5, .int (nI (k))), (2, .int (up)), (1, .ref (sq)), (0, .ref (27))]) dX7_lastingBy_76 (by decide) rfl ?_
        refine xr_aload_n dX7_lastingBy_78 5 rfl ?_
        refine xr_getR flX7_15 dX7_lastingBy_79 s_27 rfl ?_
        refine xr_callV (As := []) (rest := []) mlX7_58 (g_X5_settle_28 (by omega) (Eq.trans (k10 28 2 (by decide)) (Eq.trans (hM 28 2 (by decide)) e_cn))) dX7_lastingBy_82 s_28 rfl rfl (Nat.le_of_ble_eq_true rfl) (by decide) ⟨by decide, by decide⟩ (fun v s2 M21 J2 hq => ?_)
        obtain ⟨rfl, rfl, rfl, k22, hx20⟩ := hq
        try dsimp only [Option.toList, List.cons_append, List.nil_append]
        refine xr_aload_n dX7_lastingBy_85 5 rfl ?_
        refine xr_getR flX7_15 dX7_lastingBy_86 s_27 rfl ?_
        refine xr_callV (As := []) (rest := []) mlX7_76 (g_X5_upright_28 (by omega) (Eq.trans (k22 28 2 (by decide)) (Eq.trans (k10 28 2 (by decide)) (Eq.trans (hM 28 2 (by decide)) e_cn)))) dX7_lastingBy_89 s_28 rfl rfl (Nat.le_of_ble_eq_true rfl) (by decide) ⟨by decide, by decide⟩ (fun v s2 M9 J2 hq => ?_)
        obtain ⟨r24, rfl, rfl, rfl, rfl, hx23⟩ := hq
        try dsimp only [Option.toList, List.cons_append, List.nil_append]
        refine xr_iload_n dX7_lastingBy_92 3 rfl ?_
        refine xr_icmp_ge (tgt := 99) dX7_lastingBy_93 rfl (fun c25 => ?_) (fun c25 => ?_)
        · refine xr_iinc (v := nI (k + 1)) (ls2 := [(5, .int (nI (k + 1))), (4, .int ((-1))), (3, .int (nx + 1)), (2, .int (up)), (1, .ref (sq)), (0, .ref (27))]) dX7_lastingBy_99 2 rfl (nI_1 _) (by decide) rfl ?_
          refine xr_goto (tgt := 20) dX7_lastingBy_102 rfl ?_
          refine xb_ls (ls2 := [(5, .int (nI (k + 1))), (4, .int ((-1))), (3, .int (nx + 1)), (2, .int (up)), (1, .ref (sq)), (0, .ref (27))]) [0, 1, 2, 3, 4, 5] rfl ?_
          exact ih (k + 1) (-1) (nx + 1) M21 (by omega) (Ke.tr (fun pp kk => (fun hh => Or.elim hh (fun h => (Or.inr (Or.inr (Or.inr (Or.inl (by omega)))))) (fun hh => Or.elim hh (fun h => (Or.inr (Or.inr (Or.inr (Or.inl (by omega)))))) (fun h => (Or.inr (Or.inr (Or.inr (Or.inr h)))))))) (Ke.tr (fun pp kk => (fun hh => Or.elim hh (fun h => (Or.inl h)) (fun hh => Or.elim hh (fun h => (Or.inr (Or.inl h))) (fun h => (Or.inr (Or.inr (Or.inr (Or.inr h)))))))) hM k10) k22)
        · refine xr_iload dX7_lastingBy_96 2 rfl ?_
          exact xr_iret dX7_lastingBy_98 rfl rfl (hR _ _ (Ke.tr (fun pp kk => (fun hh => Or.elim hh (fun h => (Or.inr (Or.inr (Or.inr (Or.inl (by omega)))))) (fun hh => Or.elim hh (fun h => (Or.inr (Or.inr (Or.inr (Or.inl (by omega)))))) (fun h => (Or.inr (Or.inr (Or.inr (Or.inr h)))))))) (Ke.tr (fun pp kk => (fun hh => Or.elim hh (fun h => (Or.inl h)) (fun hh => Or.elim hh (fun h => (Or.inr (Or.inl h))) (fun h => (Or.inr (Or.inr (Or.inr (Or.inr h)))))))) hM k10) k22))
set_option maxRecDepth 100000 in
set_option maxHeartbeats 4000000 in
theorem g_X7_lastingBy {sq el : Nat} (hs : x_SH[sq]? = some (.inl (6, [none, none, none, none, some (some el)]))) (hel : x_SH[el]? = some (.inr (2, 60, fun _ => none))) {l : Launch} {G : xG} {M : xM} {J : xJ} (hv : ∀ k, k < 128 → M 3 k ≤ 100000)  {L : Nat} (h_L : L ≤ 128) (e_L : M 1 4 = nI L) {cn : Nat} (h_cn : cn ≤ 5) (e_cn : M 28 2 = nI cn) : x_M l G fX7_lastingBy 5 0 0 [.ref (27), .ref (sq)] x_SH M J (qKI WS M J (fun r M2 => True)) := by
  refine xb_of pX7 (Nat.le_of_ble_eq_true rfl) rfl ?_
  refine xr_aload_n dX7_lastingBy_0 0 rfl ?_
  refine xr_getR flX7_15 dX7_lastingBy_1 s_27 rfl ?_
  refine xr_callV (As := []) (rest := []) mlX7_76 (g_X5_upright_28 (by omega) e_cn) dX7_lastingBy_4 s_28 rfl rfl (Nat.le_of_ble_eq_true rfl) (by decide) ⟨by decide, by decide⟩ (fun v s2 M9 J2 hq => ?_)
  obtain ⟨r2, rfl, rfl, rfl, rfl, hx1⟩ := hq
  try dsimp only [Option.toList, List.cons_append, List.nil_append]
  refine xr_istore_n (ls2 := [(2, .int (r2)), (0, .ref (27)), (1, .ref (sq))]) dX7_lastingBy_7 (by decide) rfl ?_
  refine xr_iconst (v := 0) dX7_lastingBy_8 rfl ?_
  refine xr_istore_n (ls2 := [(3, .int (0)), (2, .int (r2)), (0, .ref (27)), (1, .ref (sq))]) dX7_lastingBy_9 (by decide) rfl ?_
  refine xr_aload_n dX7_lastingBy_10 3 rfl ?_
  refine xr_iconst (v := 0) dX7_lastingBy_11 rfl ?_
  refine xr_callV (As := [.int (0)]) (rest := []) mlX7_82 (g_X6_gapAt 0 hs hel) dX7_lastingBy_12 hs rfl rfl (Nat.le_of_ble_eq_true rfl) (by decide) ⟨by decide, by decide⟩ (fun v s2 M9 J2 hq => ?_)
  obtain ⟨r3, rfl, rfl, rfl, rfl, _⟩ := hq
  try dsimp only [Option.toList, List.cons_append, List.nil_append]
  refine xr_istore (ls2 := [(4, .int (r3)), (3, .int (0)), (2, .int (r2)), (0, .ref (27)), (1, .ref (sq))]) dX7_lastingBy_15 (by decide) rfl ?_
  refine xr_iconst (v := 0) dX7_lastingBy_17 rfl ?_
  refine xr_istore (ls2 := [(5, .int (0)), (4, .int (r3)), (3, .int (0)), (2, .int (r2)), (0, .ref (27)), (1, .ref (sq))]) dX7_lastingBy_18 (by decide) rfl ?_
  refine xb_ls (ls2 := [(5, .int (nI (0))), (4, .int (r3)), (3, .int (0)), (2, .int (r2)), (1, .ref (sq)), (0, .ref (27))]) [0, 1, 2, 3, 5, 4] rfl ?_
  refine lm_l hs hel (fun k hk => by have h3 := (show M 3 k = M 3 k from rfl); rw [h3]; exact hv k hk) (by omega) e_L (by omega) e_cn (fun q4 q5 M6 k7 => ?_) (fun r M2 hk => ⟨_, rfl, rfl, rfl, Ke.tr (fun _ _ h => h) Ke.rf hk, trivial⟩) (200 - 0) 0 r3 0 M (by omega) Ke.rf
  refine xr_sipush (v := 200) dX7_lastingBy_105 rfl ?_
  exact xr_iret dX7_lastingBy_108 rfl rfl (⟨_, rfl, rfl, rfl, (Ke.tr (fun _ _ h => h) Ke.rf k7), trivial⟩)
set_option maxRecDepth 100000 in
set_option maxHeartbeats 4000000 in
theorem fu_l {h : Nat} (hh : h < 5) {sq el : Nat} (hs : x_SH[sq]? = some (.inl (6, [none, none, none, none, some (some el)]))) (hel : x_SH[el]? = some (.inr (2, 60, fun _ => none))) {l : Launch} {G : xG} {M : xM} {J : xJ} {Q : xQ} (hv : ∀ k, k < 128 → M 3 k ≤ 100000)  {L : Nat} (h_L : L ≤ 128) (e_L : M 1 4 = nI L) {cn : Nat} (h_cn : cn ≤ 5) (e_cn : M 28 2 = nI cn) (hC : ∀ (M2 : xM), Ke WS M M2 → x_X l G fX7_firstUnlike 6 0 0 Q 51 [(2, .int (nI (h))), (1, .ref (sq)), (0, .ref (27))] [] x_SH M2 J 0 0) (hR : ∀ (r : Int32) (M2 : xM), Ke WS M M2 → Q (some (.int r)) x_SH M2 J) : ∀ (m k : Nat) (M1 : xM), k + m = 60 → Ke WS M M1 → x_X l G fX7_firstUnlike 6 0 0 Q 2 [(3, .int (nI (k))), (2, .int (nI (h))), (1, .ref (sq)), (0, .ref (27))] [] x_SH M1 J 0 0 := by
  intro m
  induction m with
  | zero =>
    intro k M1 hk hM
    refine xr_iload_n dX7_firstUnlike_2 0 rfl ?_
    refine xr_aload_n dX7_firstUnlike_3 2 rfl ?_
    refine xb_get (v := M1 sq 3) flX7_91 dX7_firstUnlike_4 hs rfl rfl ?_
    refine xr_icmp_ge (tgt := 51) dX7_firstUnlike_7 rfl (fun c1 => ?_) (fun c1 => ?_)
    · refine xb_ls (ls2 := [(2, .int (nI (h))), (1, .ref (sq)), (0, .ref (27))]) [1, 2, 3] rfl ?_
      exact hC _ hM
    · refine xr_iload_n dX7_firstUnlike_10 0 rfl ?_
      refine xr_bipush (v := 60) dX7_firstUnlike_11 rfl ?_
      refine xr_icmp_ge (tgt := 51) dX7_firstUnlike_13 rfl (fun _ => ?_) (fun c => absurd (nI_le (a := 60) (b := k) (by omega) (by omega)) c)
      refine xb_ls (ls2 := [(2, .int (nI (h))), (1, .ref (sq)), (0, .ref (27))]) [1, 2, 3] rfl ?_
      exact hC _ hM
  | succ m ih =>
    intro k M1 hk hM
    have hkN : k < 60 := by omega
    refine xr_iload_n dX7_firstUnlike_2 0 rfl ?_
    refine xr_aload_n dX7_firstUnlike_3 2 rfl ?_
    refine xb_get (v := M1 sq 3) flX7_91 dX7_firstUnlike_4 hs rfl rfl ?_
    refine xr_icmp_ge (tgt := 51) dX7_firstUnlike_7 rfl (fun c1 => ?_) (fun c1 => ?_)
    · refine xb_ls (ls2 := [(2, .int (nI (h))), (1, .ref (sq)), (0, .ref (27))]) [1, 2, 3] rfl ?_
      exact hC _ hM
    · refine xr_iload_n dX7_firstUnlike_10 0 rfl ?_
      refine xr_bipush (v := 60) dX7_firstUnlike_11 rfl ?_
      refine xr_icmp_ge (tgt := 51) dX7_firstUnlike_13 rfl (fun c => absurd c (nI_ge (a := k) (b := 60) (by omega) (by omega))) (fun _ => ?_)
      refine xr_aload_n dX7_firstUnlike_16 3 rfl ?_
      refine xr_callV (As := []) (rest := []) mlX7_64 (g_X7_step (fun k hk => by have h3 := (show M1 3 k = M 3 k from (Eq.trans (hM 3 k (by unfold WS; omega)) rfl)); rw [h3]; exact hv k hk) (by omega) (Eq.trans (hM 1 4 (by decide)) e_L) (by omega) (Eq.trans (hM 28 2 (by decide)) e_cn)) dX7_firstUnlike_17 s_27 rfl rfl (Nat.le_of_ble_eq_true rfl) (by decide) ⟨by decide, by decide⟩ (fun v s2 M2 J2 hq => ?_)
      obtain ⟨rfl, rfl, rfl, k3, _⟩ := hq
      try dsimp only [Option.toList, List.cons_append, List.nil_append]
      refine xr_aload_n dX7_firstUnlike_20 3 rfl ?_
      refine xr_getR flX7_15 dX7_firstUnlike_21 s_27 rfl ?_
      refine xr_getR flX7_67 dX7_firstUnlike_24 s_28 rfl ?_
      refine xr_iload_n dX7_firstUnlike_27 1 rfl ?_
      refine xb_aald (j := h) (q := 30 + h) (by decide) dX7_firstUnlike_28 s_29 (by omega) (by decide) (if_pos (by omega)) ?_
      refine xb_get (v := M2 (30 + h) 2) flX7_94 dX7_firstUnlike_29 (s_hp30 (by omega)) rfl rfl ?_
      refine xr_i2l dX7_firstUnlike_32 ?_
      refine xr_aload_n dX7_firstUnlike_33 2 rfl ?_
      refine xr_getR flX7_97 dX7_firstUnlike_34 hs rfl ?_
      refine xr_iload_n dX7_firstUnlike_37 0 rfl ?_
      refine xb_lald (j := k) (v := J el k) dX7_firstUnlike_38 hel (by omega) (by decide) rfl ?_
      refine xr_lcmp dX7_firstUnlike_39 ?_
      refine xl_eq (tgt := 45) dX7_firstUnlike_40 rfl (fun c4 => ?_) (fun c4 => ?_)
      · refine xr_iinc (v := nI (k + 1)) (ls2 := [(3, .int (nI (k + 1))), (2, .int (nI (h))), (1, .ref (sq)), (0, .ref (27))]) dX7_firstUnlike_45 0 rfl (nI_1 _) (by decide) rfl ?_
        refine xr_goto (tgt := 2) dX7_firstUnlike_48 rfl ?_
        refine xb_ls (ls2 := [(3, .int (nI (k + 1))), (2, .int (nI (h))), (1, .ref (sq)), (0, .ref (27))]) [0, 1, 2, 3] rfl ?_
        exact ih (k + 1) M2 (by omega) (Ke.tr (fun _ _ h => h) hM k3)
      · refine xr_iload_n dX7_firstUnlike_43 0 rfl ?_
        exact xr_iret dX7_firstUnlike_44 rfl rfl (hR _ _ (Ke.tr (fun _ _ h => h) hM k3))
set_option maxRecDepth 100000 in
set_option maxHeartbeats 4000000 in
theorem g_X7_firstUnlike {h : Nat} (hh : h < 5) {sq el : Nat} (hs : x_SH[sq]? = some (.inl (6, [none, none, none, none, some (some el)]))) (hel : x_SH[el]? = some (.inr (2, 60, fun _ => none))) {l : Launch} {G : xG} {M : xM} {J : xJ} (hv : ∀ k, k < 128 → M 3 k ≤ 100000)  {L : Nat} (h_L : L ≤ 128) (e_L : M 1 4 = nI L) {cn : Nat} (h_cn : cn ≤ 5) (e_cn : M 28 2 = nI cn) : x_M l G fX7_firstUnlike 6 0 0 [.ref (27), .ref (sq), .int (nI (h))] x_SH M J (qKI WS M J (fun r M2 => True)) := by
  refine xb_of pX7 (Nat.le_of_ble_eq_true rfl) rfl ?_
  refine xr_iconst (v := 0) dX7_firstUnlike_0 rfl ?_
  refine xr_istore_n (ls2 := [(3, .int (0)), (0, .ref (27)), (1, .ref (sq)), (2, .int (nI (h)))]) dX7_firstUnlike_1 (by decide) rfl ?_
  refine xb_ls (ls2 := [(3, .int (nI (0))), (2, .int (nI (h))), (1, .ref (sq)), (0, .ref (27))]) [0, 3, 2, 1] rfl ?_
  refine fu_l hh hs hel (fun k hk => by have h3 := (show M 3 k = M 3 k from rfl); rw [h3]; exact hv k hk) (by omega) e_L (by omega) e_cn (fun M1 k2 => ?_) (fun r M2 hk => ⟨_, rfl, rfl, rfl, Ke.tr (fun _ _ h => h) Ke.rf hk, trivial⟩) (60 - 0) 0 M (by omega) Ke.rf
  refine xr_bipush (v := -2) dX7_firstUnlike_51 rfl ?_
  exact xr_iret dX7_firstUnlike_53 rfl rfl (⟨_, rfl, rfl, rfl, (Ke.tr (fun _ _ h => h) Ke.rf k2), trivial⟩)
