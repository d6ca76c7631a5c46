theorem dX9_go_16 : decode cX9_go 16 = .ok (.iload_n 2, 1) := by decide +kernel
theorem dX9_go_17 : decode cX9_go 17 = .ok (.iload_n 1, 1) := by decide +kernel
theorem dX9_go_18 : decode cX9_go 18 = .ok (.if_icmp .ge 16, 3) := by decide +kernel
theorem dX9_go_34 : decode cX9_go 34 = .ok (.aload_n 0, 1) := by decide +kernel
theorem dX9_go_35 : decode cX9_go 35 = .ok (.getfield 28, 3) := by decide +kernel
theorem dX9_go_38 : decode cX9_go 38 = .ok (.invokevirtual 164, 3) := by decide +kernel
theorem dX9_go_41 : decode cX9_go 41 = .ok (.ireturn, 1) := by decide +kernel
theorem dX9_go_21 : decode cX9_go 21 = .ok (.aload_n 0, 1) := by decide +kernel
theorem dX9_go_22 : decode cX9_go 22 = .ok (.getfield 28, 3) := by decide +kernel
theorem dX9_go_25 : decode cX9_go 25 = .ok (.invokevirtual 161, 3) := by decide +kernel
theorem dX9_go_28 : decode cX9_go 28 = .ok (.iinc 2 1, 3) := by decide +kernel
theorem dX9_go_31 : decode cX9_go 31 = .ok (.goto (-15), 3) := by decide +kernel
theorem dX9_go_0 : decode cX9_go 0 = .ok (.iload_n 1, 1) := by decide +kernel
theorem dX9_go_1 : decode cX9_go 1 = .ok (.iconst 1, 1) := by decide +kernel
theorem dX9_go_2 : decode cX9_go 2 = .ok (.if_icmp .lt 10, 3) := by decide +kernel
theorem dX9_go_12 : decode cX9_go 12 = .ok (.iconst (-1), 1) := by decide +kernel
theorem dX9_go_13 : decode cX9_go 13 = .ok (.ireturn, 1) := by decide +kernel
theorem dX9_go_5 : decode cX9_go 5 = .ok (.iload_n 1, 1) := by decide +kernel
theorem dX9_go_6 : decode cX9_go 6 = .ok (.sipush 200, 3) := by decide +kernel
theorem dX9_go_9 : decode cX9_go 9 = .ok (.if_icmp .le 5, 3) := by decide +kernel
theorem dX9_go_14 : decode cX9_go 14 = .ok (.iconst 0, 1) := by decide +kernel
theorem dX9_go_15 : decode cX9_go 15 = .ok (.istore_n 2, 1) := by decide +kernel
theorem dX9_image_0 : decode cX9_image 0 = .ok (.aload_n 0, 1) := by decide +kernel
theorem dX9_image_1 : decode cX9_image 1 = .ok (.getfield 32, 3) := by decide +kernel
theorem dX9_image_4 : decode cX9_image 4 = .ok (.aload_n 0, 1) := by decide +kernel
theorem dX9_image_5 : decode cX9_image 5 = .ok (.getfield 28, 3) := by decide +kernel
theorem dX9_image_8 : decode cX9_image 8 = .ok (.invokevirtual 300, 3) := by decide +kernel
theorem dX9_image_11 : decode cX9_image 11 = .ok (.aload_n 0, 1) := by decide +kernel
theorem dX9_image_12 : decode cX9_image 12 = .ok (.iconst 1, 1) := by decide +kernel
theorem dX9_image_13 : decode cX9_image 13 = .ok (.putfield 72, 3) := by decide +kernel
theorem dX9_image_16 : decode cX9_image 16 = .ok (.aload_n 0, 1) := by decide +kernel
theorem dX9_image_17 : decode cX9_image 17 = .ok (.getfield 28, 3) := by decide +kernel
theorem dX9_image_20 : decode cX9_image 20 = .ok (.getfield 303, 3) := by decide +kernel
theorem dX9_image_23 : decode cX9_image 23 = .ok (.ireturn, 1) := by decide +kernel
theorem dX6_holdRow_17 : decode cX6_holdRow 17 = .ok (.iload_n 3, 1) := by decide +kernel
theorem dX6_holdRow_18 : decode cX6_holdRow 18 = .ok (.bipush 60, 2) := by decide +kernel
theorem dX6_holdRow_20 : decode cX6_holdRow 20 = .ok (.if_icmp .ge 16, 3) := by decide +kernel
theorem dX6_holdRow_36 : decode cX6_holdRow 36 = .ok (.return_, 1) := by decide +kernel
theorem dX6_holdRow_23 : decode cX6_holdRow 23 = .ok (.aload_n 0, 1) := by decide +kernel
theorem dX6_holdRow_24 : decode cX6_holdRow 24 = .ok (.getfield 9, 3) := by decide +kernel
theorem dX6_holdRow_27 : decode cX6_holdRow 27 = .ok (.iload_n 3, 1) := by decide +kernel
theorem dX6_holdRow_28 : decode cX6_holdRow 28 = .ok (.lconst 0, 1) := by decide +kernel
theorem dX6_holdRow_29 : decode cX6_holdRow 29 = .ok (.lastore, 1) := by decide +kernel
theorem dX6_holdRow_30 : decode cX6_holdRow 30 = .ok (.iinc 3 1, 3) := by decide +kernel
theorem dX6_holdRow_33 : decode cX6_holdRow 33 = .ok (.goto (-16), 3) := by decide +kernel
theorem dX6_holdRow_0 : decode cX6_holdRow 0 = .ok (.aload_n 0, 1) := by decide +kernel
theorem dX6_holdRow_1 : decode cX6_holdRow 1 = .ok (.iconst 2, 1) := by decide +kernel
theorem dX6_holdRow_2 : decode cX6_holdRow 2 = .ok (.putfield 15, 3) := by decide +kernel
theorem dX6_holdRow_5 : decode cX6_holdRow 5 = .ok (.aload_n 0, 1) := by decide +kernel
theorem dX6_holdRow_6 : decode cX6_holdRow 6 = .ok (.iload_n 1, 1) := by decide +kernel
theorem dX6_holdRow_7 : decode cX6_holdRow 7 = .ok (.putfield 23, 3) := by decide +kernel
theorem dX6_holdRow_10 : decode cX6_holdRow 10 = .ok (.aload_n 0, 1) := by decide +kernel
theorem dX6_holdRow_11 : decode cX6_holdRow 11 = .ok (.iload_n 2, 1) := by decide +kernel
theorem dX6_holdRow_12 : decode cX6_holdRow 12 = .ok (.putfield 26, 3) := by decide +kernel
theorem dX6_holdRow_15 : decode cX6_holdRow 15 = .ok (.iconst 0, 1) := by decide +kernel
theorem dX6_holdRow_16 : decode cX6_holdRow 16 = .ok (.istore_n 3, 1) := by decide +kernel
theorem dX9_row_0 : decode cX9_row 0 = .ok (.iload_n 1, 1) := by decide +kernel
theorem dX9_row_1 : decode cX9_row 1 = .ok (.invokestatic 88, 3) := by decide +kernel
theorem dX9_row_4 : decode cX9_row 4 = .ok (.ifCond .eq 16, 3) := by decide +kernel
theorem dX9_row_20 : decode cX9_row 20 = .ok (.iconst (-1), 1) := by decide +kernel
theorem dX9_row_21 : decode cX9_row 21 = .ok (.ireturn, 1) := by decide +kernel
theorem dX9_row_7 : decode cX9_row 7 = .ok (.iload_n 2, 1) := by decide +kernel
theorem dX9_row_8 : decode cX9_row 8 = .ok (.invokestatic 350, 3) := by decide +kernel
theorem dX9_row_11 : decode cX9_row 11 = .ok (.ifCond .eq 9, 3) := by decide +kernel
theorem dX9_row_14 : decode cX9_row 14 = .ok (.iload_n 3, 1) := by decide +kernel
theorem dX9_row_15 : decode cX9_row 15 = .ok (.bipush 60, 2) := by decide +kernel
theorem dX9_row_17 : decode cX9_row 17 = .ok (.if_icmp .le 5, 3) := by decide +kernel
theorem dX9_row_22 : decode cX9_row 22 = .ok (.iload_n 3, 1) := by decide +kernel
theorem dX9_row_23 : decode cX9_row 23 = .ok (.ifCond .ge 6, 3) := by decide +kernel
theorem dX9_row_29 : decode cX9_row 29 = .ok (.aload_n 0, 1) := by decide +kernel
theorem dX9_row_30 : decode cX9_row 30 = .ok (.getfield 67, 3) := by decide +kernel
theorem dX9_row_33 : decode cX9_row 33 = .ok (.iload_n 1, 1) := by decide +kernel
theorem dX9_row_34 : decode cX9_row 34 = .ok (.aaload, 1) := by decide +kernel
theorem dX9_row_35 : decode cX9_row 35 = .ok (.iload_n 2, 1) := by decide +kernel
theorem dX9_row_36 : decode cX9_row 36 = .ok (.iload_n 3, 1) := by decide +kernel
theorem dX9_row_37 : decode cX9_row 37 = .ok (.invokevirtual 353, 3) := by decide +kernel
theorem dX9_row_40 : decode cX9_row 40 = .ok (.iconst 1, 1) := by decide +kernel
theorem dX9_row_41 : decode cX9_row 41 = .ok (.ireturn, 1) := by decide +kernel
theorem dX9_row_26 : decode cX9_row 26 = .ok (.bipush (-14), 2) := by decide +kernel
theorem dX9_row_28 : decode cX9_row 28 = .ok (.ireturn, 1) := by decide +kernel
theorem dX1_becomes_0 : decode cX1_becomes 0 = .ok (.aload_n 0, 1) := by decide +kernel
theorem dX1_becomes_1 : decode cX1_becomes 1 = .ok (.getfield 9, 3) := by decide +kernel
theorem dX1_becomes_4 : decode cX1_becomes 4 = .ok (.iload_n 1, 1) := by decide +kernel
theorem dX1_becomes_5 : decode cX1_becomes 5 = .ok (.iload_n 2, 1) := by decide +kernel
theorem dX1_becomes_6 : decode cX1_becomes 6 = .ok (.iastore, 1) := by decide +kernel
theorem dX1_becomes_7 : decode cX1_becomes 7 = .ok (.aload_n 0, 1) := by decide +kernel
theorem dX1_becomes_8 : decode cX1_becomes 8 = .ok (.getfield 15, 3) := by decide +kernel
theorem dX1_becomes_11 : decode cX1_becomes 11 = .ok (.iload_n 1, 1) := by decide +kernel
theorem dX1_becomes_12 : decode cX1_becomes 12 = .ok (.iconst 0, 1) := by decide +kernel
theorem dX1_becomes_13 : decode cX1_becomes 13 = .ok (.iastore, 1) := by decide +kernel
theorem dX1_becomes_14 : decode cX1_becomes 14 = .ok (.return_, 1) := by decide +kernel
theorem dX9_skill_0 : decode cX9_skill 0 = .ok (.iload_n 1, 1) := by decide +kernel
theorem dX9_skill_1 : decode cX9_skill 1 = .ok (.invokestatic 134, 3) := by decide +kernel
theorem dX9_skill_4 : decode cX9_skill 4 = .ok (.ifCond .eq 10, 3) := by decide +kernel
theorem dX9_skill_14 : decode cX9_skill 14 = .ok (.iconst (-1), 1) := by decide +kernel
theorem dX9_skill_15 : decode cX9_skill 15 = .ok (.ireturn, 1) := by decide +kernel
theorem dX9_skill_7 : decode cX9_skill 7 = .ok (.iload_n 2, 1) := by decide +kernel
theorem dX9_skill_8 : decode cX9_skill 8 = .ok (.invokestatic 255, 3) := by decide +kernel
theorem dX9_skill_11 : decode cX9_skill 11 = .ok (.ifCond .ne 5, 3) := by decide +kernel
theorem dX9_skill_16 : decode cX9_skill 16 = .ok (.aload_n 0, 1) := by decide +kernel
theorem dX9_skill_17 : decode cX9_skill 17 = .ok (.getfield 47, 3) := by decide +kernel
theorem dX9_skill_20 : decode cX9_skill 20 = .ok (.getfield 137, 3) := by decide +kernel
theorem dX9_skill_23 : decode cX9_skill 23 = .ok (.iload_n 1, 1) := by decide +kernel
theorem dX9_skill_24 : decode cX9_skill 24 = .ok (.iaload, 1) := by decide +kernel
theorem dX9_skill_25 : decode cX9_skill 25 = .ok (.istore_n 3, 1) := by decide +kernel
theorem dX9_skill_26 : decode cX9_skill 26 = .ok (.aload_n 0, 1) := by decide +kernel
theorem dX9_skill_27 : decode cX9_skill 27 = .ok (.getfield 47, 3) := by decide +kernel
theorem dX9_skill_30 : decode cX9_skill 30 = .ok (.iload_n 1, 1) := by decide +kernel
theorem dX9_skill_31 : decode cX9_skill 31 = .ok (.iload_n 2, 1) := by decide +kernel
theorem dX9_skill_32 : decode cX9_skill 32 = .ok (.invokevirtual 258, 3) := by decide +kernel
theorem dX9_skill_35 : decode cX9_skill 35 = .ok (.iload_n 3, 1) := by decide +kernel
theorem dX9_skill_36 : decode cX9_skill 36 = .ok (.ireturn, 1) := by decide +kernel
theorem dX1_minutesAt_0 : decode cX1_minutesAt 0 = .ok (.iconst 1, 1) := by decide +kernel
theorem dX1_minutesAt_1 : decode cX1_minutesAt 1 = .ok (.iload_n 0, 1) := by decide +kernel
theorem dX1_minutesAt_2 : decode cX1_minutesAt 2 = .ok (.invokestatic 32, 3) := by decide +kernel
theorem dX1_minutesAt_5 : decode cX1_minutesAt 5 = .ok (.ireturn, 1) := by decide +kernel
theorem dX1_learnMinute_0 : decode cX1_learnMinute 0 = .ok (.aload_n 0, 1) := by decide +kernel
theorem dX1_learnMinute_1 : decode cX1_learnMinute 1 = .ok (.getfield 9, 3) := by decide +kernel
theorem dX1_learnMinute_4 : decode cX1_learnMinute 4 = .ok (.iload_n 1, 1) := by decide +kernel
theorem dX1_learnMinute_5 : decode cX1_learnMinute 5 = .ok (.iaload, 1) := by decide +kernel
theorem dX1_learnMinute_6 : decode cX1_learnMinute 6 = .ok (.bipush 12, 2) := by decide +kernel
theorem dX1_learnMinute_8 : decode cX1_learnMinute 8 = .ok (.if_icmp .lt 4, 3) := by decide +kernel
theorem dX1_learnMinute_12 : decode cX1_learnMinute 12 = .ok (.aload_n 0, 1) := by decide +kernel
theorem dX1_learnMinute_13 : decode cX1_learnMinute 13 = .ok (.getfield 15, 3) := by decide +kernel
theorem dX1_learnMinute_16 : decode cX1_learnMinute 16 = .ok (.iload_n 1, 1) := by decide +kernel
theorem dX1_learnMinute_17 : decode cX1_learnMinute 17 = .ok (.dup2, 1) := by decide +kernel
theorem dX1_learnMinute_18 : decode cX1_learnMinute 18 = .ok (.iaload, 1) := by decide +kernel
theorem dX1_learnMinute_19 : decode cX1_learnMinute 19 = .ok (.iconst 1, 1) := by decide +kernel
theorem dX1_learnMinute_20 : decode cX1_learnMinute 20 = .ok (.iadd, 1) := by decide +kernel
theorem dX1_learnMinute_21 : decode cX1_learnMinute 21 = .ok (.iastore, 1) := by decide +kernel
theorem dX1_learnMinute_22 : decode cX1_learnMinute 22 = .ok (.aload_n 0, 1) := by decide +kernel
theorem dX1_learnMinute_23 : decode cX1_learnMinute 23 = .ok (.getfield 15, 3) := by decide +kernel
theorem dX1_learnMinute_26 : decode cX1_learnMinute 26 = .ok (.iload_n 1, 1) := by decide +kernel
theorem dX1_learnMinute_27 : decode cX1_learnMinute 27 = .ok (.iaload, 1) := by decide +kernel
theorem dX1_learnMinute_28 : decode cX1_learnMinute 28 = .ok (.aload_n 0, 1) := by decide +kernel
theorem dX1_learnMinute_29 : decode cX1_learnMinute 29 = .ok (.getfield 9, 3) := by decide +kernel
theorem dX1_learnMinute_32 : decode cX1_learnMinute 32 = .ok (.iload_n 1, 1) := by decide +kernel
theorem dX1_learnMinute_33 : decode cX1_learnMinute 33 = .ok (.iaload, 1) := by decide +kernel
theorem dX1_learnMinute_34 : decode cX1_learnMinute 34 = .ok (.invokestatic 38, 3) := by decide +kernel
theorem dX1_learnMinute_37 : decode cX1_learnMinute 37 = .ok (.if_icmp .lt 16, 3) := by decide +kernel
theorem dX1_learnMinute_53 : decode cX1_learnMinute 53 = .ok (.return_, 1) := by decide +kernel
theorem dX1_learnMinute_40 : decode cX1_learnMinute 40 = .ok (.aload_n 0, 1) := by decide +kernel
theorem dX1_learnMinute_41 : decode cX1_learnMinute 41 = .ok (.iload_n 1, 1) := by decide +kernel
theorem dX1_learnMinute_42 : decode cX1_learnMinute 42 = .ok (.aload_n 0, 1) := by decide +kernel
theorem dX1_learnMinute_43 : decode cX1_learnMinute 43 = .ok (.getfield 9, 3) := by decide +kernel
theorem dX1_learnMinute_46 : decode cX1_learnMinute 46 = .ok (.iload_n 1, 1) := by decide +kernel
theorem dX1_learnMinute_47 : decode cX1_learnMinute 47 = .ok (.iaload, 1) := by decide +kernel
theorem dX1_learnMinute_48 : decode cX1_learnMinute 48 = .ok (.iconst 1, 1) := by decide +kernel
theorem dX1_learnMinute_49 : decode cX1_learnMinute 49 = .ok (.iadd, 1) := by decide +kernel
theorem dX1_learnMinute_50 : decode cX1_learnMinute 50 = .ok (.invokevirtual 42, 3) := by decide +kernel
theorem dX1_learnMinute_11 : decode cX1_learnMinute 11 = .ok (.return_, 1) := by decide +kernel
theorem dX9_learn_22 : decode cX9_learn 22 = .ok (.iload_n 3, 1) := by decide +kernel
theorem dX9_learn_23 : decode cX9_learn 23 = .ok (.iload_n 2, 1) := by decide +kernel
theorem dX9_learn_24 : decode cX9_learn 24 = .ok (.if_icmp .ge 17, 3) := by decide +kernel
theorem dX9_learn_41 : decode cX9_learn 41 = .ok (.aload_n 0, 1) := by decide +kernel
theorem dX9_learn_42 : decode cX9_learn 42 = .ok (.getfield 47, 3) := by decide +kernel
theorem dX9_learn_45 : decode cX9_learn 45 = .ok (.getfield 137, 3) := by decide +kernel
theorem dX9_learn_48 : decode cX9_learn 48 = .ok (.iload_n 1, 1) := by decide +kernel
theorem dX9_learn_49 : decode cX9_learn 49 = .ok (.iaload, 1) := by decide +kernel
theorem dX9_learn_50 : decode cX9_learn 50 = .ok (.ireturn, 1) := by decide +kernel
theorem dX9_learn_27 : decode cX9_learn 27 = .ok (.aload_n 0, 1) := by decide +kernel
theorem dX9_learn_28 : decode cX9_learn 28 = .ok (.getfield 47, 3) := by decide +kernel
theorem dX9_learn_31 : decode cX9_learn 31 = .ok (.iload_n 1, 1) := by decide +kernel
theorem dX9_learn_32 : decode cX9_learn 32 = .ok (.invokevirtual 294, 3) := by decide +kernel
theorem dX9_learn_35 : decode cX9_learn 35 = .ok (.iinc 3 1, 3) := by decide +kernel
theorem dX9_learn_38 : decode cX9_learn 38 = .ok (.goto (-16), 3) := by decide +kernel
theorem dX9_learn_0 : decode cX9_learn 0 = .ok (.iload_n 1, 1) := by decide +kernel
theorem dX9_learn_1 : decode cX9_learn 1 = .ok (.invokestatic 134, 3) := by decide +kernel
theorem dX9_learn_4 : decode cX9_learn 4 = .ok (.ifCond .eq 14, 3) := by decide +kernel
theorem dX9_learn_18 : decode cX9_learn 18 = .ok (.iconst (-1), 1) := by decide +kernel
theorem dX9_learn_19 : decode cX9_learn 19 = .ok (.ireturn, 1) := by decide +kernel
theorem dX9_learn_7 : decode cX9_learn 7 = .ok (.iload_n 2, 1) := by decide +kernel
theorem dX9_learn_8 : decode cX9_learn 8 = .ok (.iconst 1, 1) := by decide +kernel
theorem dX9_learn_9 : decode cX9_learn 9 = .ok (.if_icmp .lt 9, 3) := by decide +kernel
theorem dX9_learn_12 : decode cX9_learn 12 = .ok (.iload_n 2, 1) := by decide +kernel
theorem dX9_learn_13 : decode cX9_learn 13 = .ok (.bipush 99, 2) := by decide +kernel
theorem dX9_learn_15 : decode cX9_learn 15 = .ok (.if_icmp .le 5, 3) := by decide +kernel
theorem dX9_learn_20 : decode cX9_learn 20 = .ok (.iconst 0, 1) := by decide +kernel
theorem dX9_learn_21 : decode cX9_learn 21 = .ok (.istore_n 3, 1) := by decide +kernel
theorem dX9_till_0 : decode cX9_till 0 = .ok (.iload_n 1, 1) := by decide +kernel
theorem dX9_till_1 : decode cX9_till 1 = .ok (.invokestatic 134, 3) := by decide +kernel
theorem dX9_till_4 : decode cX9_till 4 = .ok (.ifCond .eq 10, 3) := by decide +kernel
theorem dX9_till_14 : decode cX9_till 14 = .ok (.iconst (-1), 1) := by decide +kernel
theorem dX9_till_15 : decode cX9_till 15 = .ok (.ireturn, 1) := by decide +kernel
theorem dX9_till_7 : decode cX9_till 7 = .ok (.iload_n 2, 1) := by decide +kernel
theorem dX9_till_8 : decode cX9_till 8 = .ok (.invokestatic 255, 3) := by decide +kernel
theorem dX9_till_11 : decode cX9_till 11 = .ok (.ifCond .ne 5, 3) := by decide +kernel
theorem dX9_till_16 : decode cX9_till 16 = .ok (.aload_n 0, 1) := by decide +kernel
theorem dX9_till_17 : decode cX9_till 17 = .ok (.getfield 47, 3) := by decide +kernel
theorem dX9_till_20 : decode cX9_till 20 = .ok (.getfield 137, 3) := by decide +kernel
theorem dX9_till_23 : decode cX9_till 23 = .ok (.iload_n 1, 1) := by decide +kernel
theorem dX9_till_24 : decode cX9_till 24 = .ok (.iaload, 1) := by decide +kernel
theorem dX9_till_25 : decode cX9_till 25 = .ok (.iload_n 2, 1) := by decide +kernel
theorem dX9_till_26 : decode cX9_till 26 = .ok (.if_icmp .lt 5, 3) := by decide +kernel
theorem dX9_till_31 : decode cX9_till 31 = .ok (.aload_n 0, 1) := by decide +kernel
theorem dX9_till_32 : decode cX9_till 32 = .ok (.getfield 47, 3) := by decide +kernel
theorem dX9_till_35 : decode cX9_till 35 = .ok (.getfield 141, 3) := by decide +kernel
theorem dX9_till_38 : decode cX9_till 38 = .ok (.iload_n 1, 1) := by decide +kernel
theorem dX9_till_39 : decode cX9_till 39 = .ok (.iaload, 1) := by decide +kernel
theorem dX9_till_40 : decode cX9_till 40 = .ok (.ineg, 1) := by decide +kernel
theorem dX9_till_41 : decode cX9_till 41 = .ok (.istore_n 3, 1) := by decide +kernel
theorem dX9_till_42 : decode cX9_till 42 = .ok (.aload_n 0, 1) := by decide +kernel
theorem dX9_till_43 : decode cX9_till 43 = .ok (.getfield 47, 3) := by decide +kernel
theorem dX9_till_46 : decode cX9_till 46 = .ok (.getfield 137, 3) := by decide +kernel
theorem dX9_till_49 : decode cX9_till 49 = .ok (.iload_n 1, 1) := by decide +kernel
theorem dX9_till_50 : decode cX9_till 50 = .ok (.iaload, 1) := by decide +kernel
theorem dX9_till_51 : decode cX9_till 51 = .ok (.istore 4, 2) := by decide +kernel
theorem dX9_till_53 : decode cX9_till 53 = .ok (.iload 4, 2) := by decide +kernel
theorem dX9_till_55 : decode cX9_till 55 = .ok (.iload_n 2, 1) := by decide +kernel
theorem dX9_till_56 : decode cX9_till 56 = .ok (.if_icmp .ge 17, 3) := by decide +kernel
theorem dX9_till_59 : decode cX9_till 59 = .ok (.iload_n 3, 1) := by decide +kernel
theorem dX9_till_60 : decode cX9_till 60 = .ok (.iload 4, 2) := by decide +kernel
theorem dX9_till_62 : decode cX9_till 62 = .ok (.invokestatic 297, 3) := by decide +kernel
theorem dX9_till_65 : decode cX9_till 65 = .ok (.iadd, 1) := by decide +kernel
theorem dX9_till_66 : decode cX9_till 66 = .ok (.istore_n 3, 1) := by decide +kernel
theorem dX9_till_67 : decode cX9_till 67 = .ok (.iinc 4 1, 3) := by decide +kernel
theorem dX9_till_70 : decode cX9_till 70 = .ok (.goto (-17), 3) := by decide +kernel
theorem dX9_till_73 : decode cX9_till 73 = .ok (.iload_n 3, 1) := by decide +kernel
theorem dX9_till_74 : decode cX9_till 74 = .ok (.ireturn, 1) := by decide +kernel
theorem dX9_till_29 : decode cX9_till 29 = .ok (.iconst 0, 1) := by decide +kernel
theorem dX9_till_30 : decode cX9_till 30 = .ok (.ireturn, 1) := by decide +kernel
theorem dX9_greatestDivisor_0 : decode cX9_greatestDivisor 0 = .ok (.iconst 1, 1) := by decide +kernel
theorem dX9_greatestDivisor_1 : decode cX9_greatestDivisor 1 = .ok (.istore_n 2, 1) := by decide +kernel
theorem dX9_greatestDivisor_2 : decode cX9_greatestDivisor 2 = .ok (.iconst 2, 1) := by decide +kernel
theorem dX9_greatestDivisor_3 : decode cX9_greatestDivisor 3 = .ok (.istore_n 3, 1) := by decide +kernel
theorem dX9_greatestDivisor_4 : decode cX9_greatestDivisor 4 = .ok (.iload_n 3, 1) := by decide +kernel
theorem dX9_greatestDivisor_5 : decode cX9_greatestDivisor 5 = .ok (.iload_n 1, 1) := by decide +kernel
theorem dX9_greatestDivisor_6 : decode cX9_greatestDivisor 6 = .ok (.if_icmp .gt 27, 3) := by decide +kernel
theorem dX9_greatestDivisor_9 : decode cX9_greatestDivisor 9 = .ok (.iload_n 0, 1) := by decide +kernel
theorem dX9_greatestDivisor_10 : decode cX9_greatestDivisor 10 = .ok (.iload_n 3, 1) := by decide +kernel
theorem dX9_greatestDivisor_11 : decode cX9_greatestDivisor 11 = .ok (.invokestatic 396, 3) := by decide +kernel
theorem dX9_greatestDivisor_14 : decode cX9_greatestDivisor 14 = .ok (.ifCond .ne 13, 3) := by decide +kernel
theorem dX9_greatestDivisor_27 : decode cX9_greatestDivisor 27 = .ok (.iinc 3 1, 3) := by decide +kernel
theorem dX9_greatestDivisor_30 : decode cX9_greatestDivisor 30 = .ok (.goto (-26), 3) := by decide +kernel
theorem dX9_greatestDivisor_17 : decode cX9_greatestDivisor 17 = .ok (.iload_n 1, 1) := by decide +kernel
theorem dX9_greatestDivisor_18 : decode cX9_greatestDivisor 18 = .ok (.iload_n 3, 1) := by decide +kernel
theorem dX9_greatestDivisor_19 : decode cX9_greatestDivisor 19 = .ok (.invokestatic 396, 3) := by decide +kernel
theorem dX9_greatestDivisor_22 : decode cX9_greatestDivisor 22 = .ok (.ifCond .ne 5, 3) := by decide +kernel
theorem dX9_greatestDivisor_25 : decode cX9_greatestDivisor 25 = .ok (.iload_n 3, 1) := by decide +kernel
theorem dX9_greatestDivisor_26 : decode cX9_greatestDivisor 26 = .ok (.istore_n 2, 1) := by decide +kernel
theorem dX9_greatestDivisor_33 : decode cX9_greatestDivisor 33 = .ok (.iload_n 2, 1) := by decide +kernel
theorem dX9_greatestDivisor_34 : decode cX9_greatestDivisor 34 = .ok (.ireturn, 1) := by decide +kernel
theorem dX9_alone_0 : decode cX9_alone 0 = .ok (.iload_n 1, 1) := by decide +kernel
theorem dX9_alone_1 : decode cX9_alone 1 = .ok (.invokestatic 134, 3) := by decide +kernel
theorem dX9_alone_4 : decode cX9_alone 4 = .ok (.ifCond .eq 22, 3) := by decide +kernel
theorem dX9_alone_26 : decode cX9_alone 26 = .ok (.ldc2_w 286, 3) := by decide +kernel
theorem dX9_alone_29 : decode cX9_alone 29 = .ok (.lreturn, 1) := by decide +kernel
theorem dX9_alone_7 : decode cX9_alone 7 = .ok (.iload_n 2, 1) := by decide +kernel
theorem dX9_alone_8 : decode cX9_alone 8 = .ok (.ifCond .lt 18, 3) := by decide +kernel
theorem dX9_alone_11 : decode cX9_alone 11 = .ok (.iload_n 2, 1) := by decide +kernel
theorem dX9_alone_12 : decode cX9_alone 12 = .ok (.bipush 8, 2) := by decide +kernel
theorem dX9_alone_14 : decode cX9_alone 14 = .ok (.if_icmp .gt 12, 3) := by decide +kernel
theorem dX9_alone_17 : decode cX9_alone 17 = .ok (.iload_n 3, 1) := by decide +kernel
theorem dX9_alone_18 : decode cX9_alone 18 = .ok (.ifCond .lt 8, 3) := by decide +kernel
theorem dX9_alone_21 : decode cX9_alone 21 = .ok (.iload_n 3, 1) := by decide +kernel
theorem dX9_alone_22 : decode cX9_alone 22 = .ok (.iconst 1, 1) := by decide +kernel
theorem dX9_alone_23 : decode cX9_alone 23 = .ok (.if_icmp .le 7, 3) := by decide +kernel
theorem dX9_alone_30 : decode cX9_alone 30 = .ok (.aload_n 0, 1) := by decide +kernel
theorem dX9_alone_31 : decode cX9_alone 31 = .ok (.getfield 47, 3) := by decide +kernel
theorem dX9_alone_34 : decode cX9_alone 34 = .ok (.getfield 137, 3) := by decide +kernel
theorem dX9_alone_37 : decode cX9_alone 37 = .ok (.iload_n 1, 1) := by decide +kernel
theorem dX9_alone_38 : decode cX9_alone 38 = .ok (.iaload, 1) := by decide +kernel
theorem dX9_alone_39 : decode cX9_alone 39 = .ok (.istore 4, 2) := by decide +kernel
theorem dX9_alone_41 : decode cX9_alone 41 = .ok (.iload 4, 2) := by decide +kernel
theorem dX9_alone_43 : decode cX9_alone 43 = .ok (.bipush 12, 2) := by decide +kernel
theorem dX9_alone_45 : decode cX9_alone 45 = .ok (.invokestatic 288, 3) := by decide +kernel
theorem dX9_alone_48 : decode cX9_alone 48 = .ok (.istore 5, 2) := by decide +kernel
theorem dX9_alone_50 : decode cX9_alone 50 = .ok (.iload_n 3, 1) := by decide +kernel
theorem dX9_alone_51 : decode cX9_alone 51 = .ok (.ifCond .ne 8, 3) := by decide +kernel
theorem dX9_alone_59 : decode cX9_alone 59 = .ok (.bipush 12, 2) := by decide +kernel
theorem dX9_alone_61 : decode cX9_alone 61 = .ok (.iconst 1, 1) := by decide +kernel
theorem dX9_alone_62 : decode cX9_alone 62 = .ok (.iload 5, 2) := by decide +kernel
theorem dX9_alone_64 : decode cX9_alone 64 = .ok (.invokestatic 291, 3) := by decide +kernel
theorem dX9_alone_67 : decode cX9_alone 67 = .ok (.idiv, 1) := by decide +kernel
theorem dX9_alone_68 : decode cX9_alone 68 = .ok (.istore 6, 2) := by decide +kernel
theorem dX9_alone_70 : decode cX9_alone 70 = .ok (.lconst 1, 1) := by decide +kernel
theorem dX9_alone_71 : decode cX9_alone 71 = .ok (.lstore 7, 2) := by decide +kernel
theorem dX9_alone_73 : decode cX9_alone 73 = .ok (.iconst 0, 1) := by decide +kernel
theorem dX9_alone_74 : decode cX9_alone 74 = .ok (.istore 9, 2) := by decide +kernel
theorem dX9_alone_76 : decode cX9_alone 76 = .ok (.iload 9, 2) := by decide +kernel
theorem dX9_alone_78 : decode cX9_alone 78 = .ok (.iload_n 2, 1) := by decide +kernel
theorem dX9_alone_79 : decode cX9_alone 79 = .ok (.if_icmp .ge 17, 3) := by decide +kernel
theorem dX9_alone_96 : decode cX9_alone 96 = .ok (.lload 7, 2) := by decide +kernel
theorem dX9_alone_98 : decode cX9_alone 98 = .ok (.lreturn, 1) := by decide +kernel
theorem dX9_alone_82 : decode cX9_alone 82 = .ok (.lload 7, 2) := by decide +kernel
theorem dX9_alone_84 : decode cX9_alone 84 = .ok (.iload 6, 2) := by decide +kernel
theorem dX9_alone_86 : decode cX9_alone 86 = .ok (.i2l, 1) := by decide +kernel
theorem dX9_alone_87 : decode cX9_alone 87 = .ok (.lmul, 1) := by decide +kernel
theorem dX9_alone_88 : decode cX9_alone 88 = .ok (.lstore 7, 2) := by decide +kernel
theorem dX9_alone_90 : decode cX9_alone 90 = .ok (.iinc 9 1, 3) := by decide +kernel
theorem dX9_alone_93 : decode cX9_alone 93 = .ok (.goto (-17), 3) := by decide +kernel
theorem dX9_alone_54 : decode cX9_alone 54 = .ok (.iload 4, 2) := by decide +kernel
theorem dX9_alone_56 : decode cX9_alone 56 = .ok (.goto 5, 3) := by decide +kernel
set_option maxRecDepth 100000 in
set_option maxHeartbeats 4000000 in
theorem lp_go (N : Nat) (R : Int32) (hN : N ≤ 200) (hR : 0 = R) {l : Launch} {G : xG} {J : xJ} : ∀ (m k : Nat) (M : xM), k + m = N → E0 M → x_X l G fX9_go 4 0 0 (qF (some (.int R))) 16 [(2, .int (nI (k))), (1, .int (nI (N))), (0, .ref (0))] [] x_SH M J 0 0 := by
  intro m
  induction m with
  | zero =>
    intro k M hk e
    refine xr_iload_n dX9_go_16 0 rfl ?_
    refine xr_iload_n dX9_go_17 1 rfl ?_
    refine xr_icmp_ge (tgt := 34) dX9_go_18 rfl (fun _ => ?_) (fun c => absurd (nI_le (a := N) (b := k) (by omega) (by omega)) c)
    refine xr_aload_n dX9_go_34 2 rfl ?_
    refine xr_getR flX9_28 dX9_go_35 s_0 rfl ?_
    refine xb_cV (As := []) (rest := []) mlX9_164 (c0_upright_13 e) dX9_go_38 s_13 rfl rfl (Nat.le_of_ble_eq_true rfl) (by decide) (by decide) ?_
    exact xr_iret dX9_go_41 rfl rfl (⟨congrArg (fun z => some (Value.int z)) hR, rfl, by repeat (first | (with_reducible assumption) | (with_reducible exact Fr_z) | (with_reducible exact E0_fr (by assumption)) | ((with_reducible refine Fr_up ?_ ?_); first | decide | omega))⟩)
  | succ m ih =>
    intro k M hk e
    refine xr_iload_n dX9_go_16 0 rfl ?_
    refine xr_iload_n dX9_go_17 1 rfl ?_
    refine xr_icmp_ge (tgt := 34) dX9_go_18 rfl (fun c => absurd c (nI_ge (a := k) (b := N) (by omega) (by omega))) (fun _ => ?_)
    refine xr_aload_n dX9_go_21 2 rfl ?_
    refine xr_getR flX9_28 dX9_go_22 s_0 rfl ?_
    refine xr_callV (As := []) (rest := []) mlX9_161 (c0_tick e) dX9_go_25 s_13 rfl rfl (Nat.le_of_ble_eq_true rfl) (by decide) ⟨by decide, by decide⟩ (fun v s2 M1 J2 hq => ?_)
    obtain ⟨rfl, rfl, rfl, e2⟩ := hq
    try dsimp only [Option.toList, List.cons_append, List.nil_append]
    refine xr_iinc (v := nI (k + 1)) (ls2 := [(2, .int (nI (k + 1))), (1, .int (nI (N))), (0, .ref (0))]) dX9_go_28 0 rfl (nI_1 _) (by decide) rfl ?_
    refine xr_goto (tgt := 16) dX9_go_31 rfl ?_
    refine xb_ls (ls2 := [(2, .int (nI (k + 1))), (1, .int (nI (N))), (0, .ref (0))]) [0, 1, 2] rfl ?_
    exact ih (k + 1) M1 (by omega) e2
set_option maxRecDepth 100000 in
set_option maxHeartbeats 4000000 in
theorem p_X9_go (n : Int32) {l : Launch} {G : xG}  : x_M l G fX9_go 4 0 0 [.ref (0), .int (n)] x_SH z_M x_J0 (qF (some (.int (if 1 ≤ n ∧ n ≤ 200 then 0 else -1)))) := by
  refine xb_of pX9 (Nat.le_of_ble_eq_true rfl) rfl ?_
  refine xr_iload_n dX9_go_0 1 rfl ?_
  refine xr_iconst (v := 1) dX9_go_1 rfl ?_
  refine xr_icmp_lt (tgt := 12) dX9_go_2 rfl (fun c1 => ?_) (fun c1 => ?_)
  · refine xr_iconst (v := -1) dX9_go_12 rfl ?_
    exact xr_iret dX9_go_13 rfl rfl (⟨by first | rfl | (refine congrArg (fun z => some (Value.int z)) ?_; first | exact (if_neg (by assumption)).symm | exact (if_pos (by assumption)).symm | grind), rfl, by repeat (first | (with_reducible assumption) | (with_reducible exact Fr_z) | (with_reducible exact E0_fr (by assumption)) | ((with_reducible refine Fr_up ?_ ?_); first | decide | omega))⟩)
  · refine xr_iload_n dX9_go_5 1 rfl ?_
    refine xr_sipush (v := 200) dX9_go_6 rfl ?_
    refine xr_icmp_le (tgt := 14) dX9_go_9 rfl (fun c2 => ?_) (fun c2 => ?_)
    · refine xr_iconst (v := 0) dX9_go_14 rfl ?_
      refine xr_istore_n (ls2 := [(2, .int (0)), (0, .ref (0)), (1, .int (n))]) dX9_go_15 (by decide) rfl ?_
      obtain ⟨N, hN, rfl⟩ := x_natle (v := n) (N := 200) (by decide) rfl ⟨by grind, c2⟩
      refine xb_ls (ls2 := [(2, .int (nI (0))), (1, .int (nI (N))), (0, .ref (0))]) [0, 2, 1] rfl ?_
      exact lp_go N _ hN (by rw [if_pos ⟨by grind, by grind⟩]) N 0 z_M (by omega) E0_MI
    · refine xr_iconst (v := -1) dX9_go_12 rfl ?_
      exact xr_iret dX9_go_13 rfl rfl (⟨by first | rfl | (refine congrArg (fun z => some (Value.int z)) ?_; first | exact (if_neg (by assumption)).symm | exact (if_pos (by assumption)).symm | grind), rfl, by repeat (first | (with_reducible assumption) | (with_reducible exact Fr_z) | (with_reducible exact E0_fr (by assumption)) | ((with_reducible refine Fr_up ?_ ?_); first | decide | omega))⟩)
set_option maxRecDepth 100000 in
set_option maxHeartbeats 4000000 in
theorem p_copy {l : Launch} {G : xG}  : x_M l G fX5_copy 0 0 0 [.ref (20), .ref (13)] x_SH z_M x_J0 (qE (none) x_SH (x_up (x_up (x_up (x_up (x_up (x_up (x_up (x_up z_M 20 2 0) 20 3 0) 20 4 1) 20 5 6) 20 6 0) 20 7 2) 20 8 0) 20 9 (-2)) x_J0) := by
  refine xb_of pX5 (Nat.le_of_ble_eq_true rfl) rfl ?_
  refine xr_iconst (v := 0) dX5_copy_0 rfl ?_
  refine xr_istore_n (ls2 := [(2, .int (0)), (0, .ref (20)), (1, .ref (13))]) dX5_copy_1 (by decide) rfl ?_
  refine xr_iload_n dX5_copy_2 0 rfl ?_
  refine xr_aload_n dX5_copy_3 2 rfl ?_
  refine xb_get (v := 0) flX5_35 dX5_copy_4 s_13 rfl (by decide +kernel) ?_
  refine xr_icmp_ge (tgt := 31) dX5_copy_7 rfl (fun _ => ?_) (fun c => absurd (by decide) c)
  refine xr_aload_n dX5_copy_31 1 rfl ?_
  refine xr_aload_n dX5_copy_32 2 rfl ?_
  refine xb_get (v := 0) flX5_35 dX5_copy_33 s_13 rfl (by decide +kernel) ?_
  refine xr_putI fpX5_35 dX5_copy_36 s_20 rfl rfl rfl ?_
  refine xr_aload_n dX5_copy_39 1 rfl ?_
  refine xr_aload_n dX5_copy_40 2 rfl ?_
  refine xb_get (v := 0) flX5_42 dX5_copy_41 s_13 rfl (Eq.trans (congrFun (x_up_n _ _ _ (by decide)) _) (by decide +kernel)) ?_
  refine xr_putI fpX5_42 dX5_copy_44 s_20 rfl rfl rfl ?_
  refine xr_aload_n dX5_copy_47 1 rfl ?_
  refine xr_aload_n dX5_copy_48 2 rfl ?_
  refine xb_get (v := 1) flX5_22 dX5_copy_49 s_13 rfl (Eq.trans (congrFun (x_up_n _ _ _ (by decide)) _) (Eq.trans (congrFun (x_up_n _ _ _ (by decide)) _) (by decide +kernel))) ?_
  refine xr_putI fpX5_22 dX5_copy_52 s_20 rfl rfl rfl ?_
  refine xr_aload_n dX5_copy_55 1 rfl ?_
  refine xr_aload_n dX5_copy_56 2 rfl ?_
  refine xb_get (v := 6) flX5_26 dX5_copy_57 s_13 rfl (Eq.trans (congrFun (x_up_n _ _ _ (by decide)) _) (Eq.trans (congrFun (x_up_n _ _ _ (by decide)) _) (Eq.trans (congrFun (x_up_n _ _ _ (by decide)) _) (by decide +kernel)))) ?_
  refine xr_putI fpX5_26 dX5_copy_60 s_20 rfl rfl rfl ?_
  refine xr_aload_n dX5_copy_63 1 rfl ?_
  refine xr_aload_n dX5_copy_64 2 rfl ?_
  refine xb_get (v := 0) flX5_45 dX5_copy_65 s_13 rfl (Eq.trans (congrFun (x_up_n _ _ _ (by decide)) _) (Eq.trans (congrFun (x_up_n _ _ _ (by decide)) _) (Eq.trans (congrFun (x_up_n _ _ _ (by decide)) _) (Eq.trans (congrFun (x_up_n _ _ _ (by decide)) _) (by decide +kernel))))) ?_
  refine xr_putI fpX5_45 dX5_copy_68 s_20 rfl rfl rfl ?_
  refine xr_aload_n dX5_copy_71 1 rfl ?_
  refine xr_aload_n dX5_copy_72 2 rfl ?_
  refine xb_get (v := 2) flX5_29 dX5_copy_73 s_13 rfl (Eq.trans (congrFun (x_up_n _ _ _ (by decide)) _) (Eq.trans (congrFun (x_up_n _ _ _ (by decide)) _) (Eq.trans (congrFun (x_up_n _ _ _ (by decide)) _) (Eq.trans (congrFun (x_up_n _ _ _ (by decide)) _) (Eq.trans (congrFun (x_up_n _ _ _ (by decide)) _) (by decide +kernel)))))) ?_
  refine xr_putI fpX5_29 dX5_copy_76 s_20 rfl rfl rfl ?_
  refine xr_aload_n dX5_copy_79 1 rfl ?_
  refine xr_aload_n dX5_copy_80 2 rfl ?_
  refine xb_get (v := 0) flX5_48 dX5_copy_81 s_13 rfl (Eq.trans (congrFun (x_up_n _ _ _ (by decide)) _) (Eq.trans (congrFun (x_up_n _ _ _ (by decide)) _) (Eq.trans (congrFun (x_up_n _ _ _ (by decide)) _) (Eq.trans (congrFun (x_up_n _ _ _ (by decide)) _) (Eq.trans (congrFun (x_up_n _ _ _ (by decide)) _) (Eq.trans (congrFun (x_up_n _ _ _ (by decide)) _) (by decide +kernel))))))) ?_
  refine xr_putI fpX5_48 dX5_copy_84 s_20 rfl rfl rfl ?_
  refine xr_aload_n dX5_copy_87 1 rfl ?_
  refine xr_aload_n dX5_copy_88 2 rfl ?_
  refine xb_get (v := (-2)) flX5_32 dX5_copy_89 s_13 rfl (Eq.trans (congrFun (x_up_n _ _ _ (by decide)) _) (Eq.trans (congrFun (x_up_n _ _ _ (by decide)) _) (Eq.trans (congrFun (x_up_n _ _ _ (by decide)) _) (Eq.trans (congrFun (x_up_n _ _ _ (by decide)) _) (Eq.trans (congrFun (x_up_n _ _ _ (by decide)) _) (Eq.trans (congrFun (x_up_n _ _ _ (by decide)) _) (Eq.trans (congrFun (x_up_n _ _ _ (by decide)) _) (by decide +kernel)))))))) ?_
  refine xr_putI fpX5_32 dX5_copy_92 s_20 rfl rfl rfl ?_
  exact xr_vret dX5_copy_95 rfl (⟨rfl, rfl, rfl, rfl⟩)
set_option maxRecDepth 100000 in
set_option maxHeartbeats 4000000 in
theorem p_X9_image {l : Launch} {G : xG}  : x_M l G fX9_image 4 0 0 [.ref (0)] x_SH z_M x_J0 (qF (some (.int 0))) := by
  refine xb_of pX9 (Nat.le_of_ble_eq_true rfl) rfl ?_
  refine xr_aload_n dX9_image_0 0 rfl ?_
  refine xr_getR flX9_32 dX9_image_1 s_0 rfl ?_
  refine xr_aload_n dX9_image_4 0 rfl ?_
  refine xr_getR flX9_28 dX9_image_5 s_0 rfl ?_
  refine xb_cV (As := [.ref (13)]) (rest := []) mlX9_300 (p_copy) dX9_image_8 s_20 rfl rfl (Nat.le_of_ble_eq_true rfl) (by decide) (by decide) ?_
  refine xr_aload_n dX9_image_11 0 rfl ?_
  refine xr_iconst (v := 1) dX9_image_12 rfl ?_
  refine xr_putI fpX9_72 dX9_image_13 s_0 rfl rfl rfl ?_
  refine xr_aload_n dX9_image_16 0 rfl ?_
  refine xr_getR flX9_28 dX9_image_17 s_0 rfl ?_
  refine xb_get (v := 0) flX9_303 dX9_image_20 s_13 rfl (Eq.trans (congrFun (x_up_n _ _ _ (by decide)) _) (Eq.trans (congrFun (x_up_n _ _ _ (by decide)) _) (Eq.trans (congrFun (x_up_n _ _ _ (by decide)) _) (Eq.trans (congrFun (x_up_n _ _ _ (by decide)) _) (Eq.trans (congrFun (x_up_n _ _ _ (by decide)) _) (Eq.trans (congrFun (x_up_n _ _ _ (by decide)) _) (Eq.trans (congrFun (x_up_n _ _ _ (by decide)) _) (Eq.trans (congrFun (x_up_n _ _ _ (by decide)) _) (Eq.trans (congrFun (x_up_n _ _ _ (by decide)) _) (by decide +kernel)))))))))) ?_
  exact xr_iret dX9_image_23 rfl rfl (⟨by first | rfl | (refine congrArg (fun z => some (Value.int z)) ?_; first | exact (if_neg (by assumption)).symm | exact (if_pos (by assumption)).symm | grind), rfl, by repeat (first | (with_reducible assumption) | (with_reducible exact Fr_z) | (with_reducible exact E0_fr (by assumption)) | ((with_reducible refine Fr_up ?_ ?_); first | decide | omega))⟩)
set_option maxRecDepth 100000 in
set_option maxHeartbeats 4000000 in
theorem lp_holdRow {l : Launch} {G : xG} {M : xM} {p el : Nat} (hs : x_SH[p]? = some (.inl (6, [none, none, none, none, some (some el)]))) (hel : x_SH[el]? = some (.inr (2, 60, fun _ => none))) : ∀ (m k : Nat) (J : xJ), k + m = 60 → x_X l G fX6_holdRow 0 0 0 (fun v sh2 M2 _ => v = none ∧ sh2 = x_SH ∧ M2 = M) 17 [(3, .int (nI (k))), (0, .ref (p))] [] x_SH M J 0 0 := by
  intro m
  induction m with
  | zero =>
    intro k J hk
    refine xr_iload_n dX6_holdRow_17 0 rfl ?_
    refine xr_bipush (v := 60) dX6_holdRow_18 rfl ?_
    refine xr_icmp_ge (tgt := 36) dX6_holdRow_20 rfl (fun _ => ?_) (fun c => absurd (nI_le (a := 60) (b := k) (by omega) (by omega)) c)
    exact xr_vret dX6_holdRow_36 rfl (⟨rfl, rfl, rfl⟩)
  | succ m ih =>
    intro k J hk
    refine xr_iload_n dX6_holdRow_17 0 rfl ?_
    refine xr_bipush (v := 60) dX6_holdRow_18 rfl ?_
    refine xr_icmp_ge (tgt := 36) dX6_holdRow_20 rfl (fun c => absurd c (nI_ge (a := k) (b := 60) (by omega) (by omega))) (fun _ => ?_)
    refine xr_aload_n dX6_holdRow_23 1 rfl ?_
    refine xr_getR flX6_9 dX6_holdRow_24 hs rfl ?_
    refine xr_iload_n dX6_holdRow_27 0 rfl ?_
    refine xr_lconst (v := 0) dX6_holdRow_28 rfl ?_
    refine xb_last (j := k) dX6_holdRow_29 hel (by omega) (by decide) ?_
    refine xr_iinc (v := nI (k + 1)) (ls2 := [(3, .int (nI (k + 1))), (0, .ref (p))]) dX6_holdRow_30 0 rfl (nI_1 _) (by decide) rfl ?_
    refine xr_goto (tgt := 17) dX6_holdRow_33 rfl ?_
    refine xb_ls (ls2 := [(3, .int (nI (k + 1))), (0, .ref p)]) [0, 1] rfl ?_
    exact ih (k + 1) _ (by omega)
set_option maxRecDepth 100000 in
set_option maxHeartbeats 4000000 in
theorem c_X6_holdRow (a b : Int32) {p el : Nat} (hs : x_SH[p]? = some (.inl (6, [none, none, none, none, some (some el)]))) (hel : x_SH[el]? = some (.inr (2, 60, fun _ => none))) {l : Launch} {G : xG} {M : xM} {J : xJ} : x_M l G fX6_holdRow 0 0 0 [.ref (p), .int (a), .int (b)] x_SH M J (fun v sh2 M2 _ => v = none ∧ sh2 = x_SH ∧ M2 = (x_up (x_up (x_up M p 0 2) p 2 a) p 3 b)) := by
  refine xb_of pX6 (Nat.le_of_ble_eq_true rfl) rfl ?_
  refine xr_aload_n dX6_holdRow_0 0 rfl ?_
  refine xr_iconst (v := 2) dX6_holdRow_1 rfl ?_
  refine xr_putI fpX6_15 dX6_holdRow_2 hs rfl rfl rfl ?_
  refine xr_aload_n dX6_holdRow_5 0 rfl ?_
  refine xr_iload_n dX6_holdRow_6 1 rfl ?_
  refine xr_putI fpX6_23 dX6_holdRow_7 hs rfl rfl rfl ?_
  refine xr_aload_n dX6_holdRow_10 0 rfl ?_
  refine xr_iload_n dX6_holdRow_11 2 rfl ?_
  refine xr_putI fpX6_26 dX6_holdRow_12 hs rfl rfl rfl ?_
  refine xr_iconst (v := 0) dX6_holdRow_15 rfl ?_
  refine xr_istore_n (ls2 := [(3, .int (0)), (0, .ref (p)), (1, .int (a)), (2, .int (b))]) dX6_holdRow_16 (by decide) rfl ?_
  refine xb_ls (ls2 := [(3, .int (nI (0))), (0, .ref (p))]) [0, 1] rfl ?_
  exact lp_holdRow hs hel 60 0 _ (by omega)
set_option maxRecDepth 100000 in
set_option maxHeartbeats 4000000 in
theorem p_X9_row (shelf sort n : Int32) {l : Launch} {G : xG}  : x_M l G fX9_row 4 0 0 [.ref (0), .int (shelf), .int (sort), .int (n)] x_SH z_M x_J0 (qF (some (.int (if (0 ≤ shelf ∧ shelf < 6) ∧ (0 ≤ sort ∧ sort ≤ 4) ∧ n ≤ 60 then (if n < 0 then -14 else 1) else -1)))) := by
  refine xb_of pX9 (Nat.le_of_ble_eq_true rfl) rfl ?_
  refine xr_iload_n dX9_row_0 1 rfl ?_
  refine xb_cS (As := [.int (shelf)]) (rest := []) mlX9_88 (c_X9_isShelf shelf) dX9_row_1 rfl rfl (Nat.le_of_ble_eq_true rfl) (by decide) (by decide) ?_
  refine xb_beq (tgt := 20) dX9_row_4 rfl (fun c1 => ?_) (fun c1 => ?_)
  · refine xr_iconst (v := -1) dX9_row_20 rfl ?_
    exact xr_iret dX9_row_21 rfl rfl (⟨by first | rfl | (refine congrArg (fun z => some (Value.int z)) ?_; first | exact (if_neg (by assumption)).symm | exact (if_pos (by assumption)).symm | grind), rfl, by repeat (first | (with_reducible assumption) | (with_reducible exact Fr_z) | (with_reducible exact E0_fr (by assumption)) | ((with_reducible refine Fr_up ?_ ?_); first | decide | omega))⟩)
  · obtain ⟨j, hj, rfl⟩ := x_nat (N := 6) (by decide) rfl c1
    refine xr_iload_n dX9_row_7 2 rfl ?_
    refine xb_cS (As := [.int (sort)]) (rest := []) mlX9_350 (c_X6_isSort sort) dX9_row_8 rfl rfl (Nat.le_of_ble_eq_true rfl) (by decide) (by decide) ?_
    refine xb_beq (tgt := 20) dX9_row_11 rfl (fun c2 => ?_) (fun c2 => ?_)
    · refine xr_iconst (v := -1) dX9_row_20 rfl ?_
      exact xr_iret dX9_row_21 rfl rfl (⟨by first | rfl | (refine congrArg (fun z => some (Value.int z)) ?_; first | exact (if_neg (by assumption)).symm | exact (if_pos (by assumption)).symm | grind), rfl, by repeat (first | (with_reducible assumption) | (with_reducible exact Fr_z) | (with_reducible exact E0_fr (by assumption)) | ((with_reducible refine Fr_up ?_ ?_); first | decide | omega))⟩)
    · refine xr_iload_n dX9_row_14 3 rfl ?_
      refine xr_bipush (v := 60) dX9_row_15 rfl ?_
      refine xr_icmp_le (tgt := 22) dX9_row_17 rfl (fun c3 => ?_) (fun c3 => ?_)
      · refine xr_iload_n dX9_row_22 3 rfl ?_
        refine xr_if_ge (tgt := 29) dX9_row_23 rfl (fun c4 => ?_) (fun c4 => ?_)
        · refine xr_aload_n dX9_row_29 0 rfl ?_
          refine xr_getR flX9_67 dX9_row_30 s_0 rfl ?_
          refine xr_iload_n dX9_row_33 1 rfl ?_
          refine xb_aald (j := j) (q := 50 + 2 * j) (by decide) dX9_row_34 s_49 hj (by decide) (if_pos hj) ?_
          refine xr_iload_n dX9_row_35 2 rfl ?_
          refine xr_iload_n dX9_row_36 3 rfl ?_
          refine xr_callV (As := [.int (sort), .int (n)]) (rest := []) mlX9_353 (c_X6_holdRow sort n (s_shelf hj) (s_elem hj)) dX9_row_37 (s_shelf hj) rfl rfl (Nat.le_of_ble_eq_true rfl) (by decide) ⟨by decide, by decide⟩ (fun v s2 M2 J2 hq => ?_)
          obtain ⟨rfl, rfl, rfl⟩ := hq
          try dsimp only [Option.toList, List.cons_append, List.nil_append]
          refine xr_iconst (v := 1) dX9_row_40 rfl ?_
          exact xr_iret dX9_row_41 rfl rfl (⟨by first | rfl | (refine congrArg (fun z => some (Value.int z)) ?_; first | exact (if_neg (by assumption)).symm | exact (if_pos (by assumption)).symm | grind), rfl, by repeat (first | (with_reducible assumption) | (with_reducible exact Fr_z) | (with_reducible exact E0_fr (by assumption)) | ((with_reducible refine Fr_up ?_ ?_); first | decide | omega))⟩)
        · refine xr_bipush (v := -14) dX9_row_26 rfl ?_
          exact xr_iret dX9_row_28 rfl rfl (⟨by first | rfl | (refine congrArg (fun z => some (Value.int z)) ?_; first | exact (if_neg (by assumption)).symm | exact (if_pos (by assumption)).symm | grind), rfl, by repeat (first | (with_reducible assumption) | (with_reducible exact Fr_z) | (with_reducible exact E0_fr (by assumption)) | ((with_reducible refine Fr_up ?_ ?_); first | decide | omega))⟩)
      · refine xr_iconst (v := -1) dX9_row_20 rfl ?_
        exact xr_iret dX9_row_21 rfl rfl (⟨by first | rfl | (refine congrArg (fun z => some (Value.int z)) ?_; first | exact (if_neg (by assumption)).symm | exact (if_pos (by assumption)).symm | grind), rfl, by repeat (first | (with_reducible assumption) | (with_reducible exact Fr_z) | (with_reducible exact E0_fr (by assumption)) | ((with_reducible refine Fr_up ?_ ?_); first | decide | omega))⟩)
set_option maxRecDepth 100000 in
set_option maxHeartbeats 4000000 in
theorem c_X1_becomes {j : Nat} (hj : j < 25) (v : Int32) {l : Launch} {G : xG} {M : xM} {J : xJ} : x_M l G fX1_becomes 0 0 0 [.ref (35), .int (nI (j)), .int (v)] x_SH M J (qE (none) x_SH (x_up (x_up M 36 j v) 37 j 0) J) := by
  refine xb_of pX1 (Nat.le_of_ble_eq_true rfl) rfl ?_
  refine xr_aload_n dX1_becomes_0 0 rfl ?_
  refine xr_getR flX1_9 dX1_becomes_1 s_35 rfl ?_
  refine xr_iload_n dX1_becomes_4 1 rfl ?_
  refine xr_iload_n dX1_becomes_5 2 rfl ?_
  refine xb_iast (j := j) dX1_becomes_6 s_36 hj (by decide) ?_
  refine xr_aload_n dX1_becomes_7 0 rfl ?_
  refine xr_getR flX1_15 dX1_becomes_8 s_35 rfl ?_
  refine xr_iload_n dX1_becomes_11 1 rfl ?_
  refine xr_iconst (v := 0) dX1_becomes_12 rfl ?_
  refine xb_iast (j := j) dX1_becomes_13 s_37 hj (by decide) ?_
  exact xr_vret dX1_becomes_14 rfl (⟨rfl, rfl, rfl, rfl⟩)
set_option maxRecDepth 100000 in
set_option maxHeartbeats 4000000 in
theorem p_X9_skill (girl v : Int32) {l : Launch} {G : xG}  : x_M l G fX9_skill 4 0 0 [.ref (0), .int (girl), .int (v)] x_SH z_M x_J0 (qF (some (.int (if (0 ≤ girl ∧ girl < 25) ∧ (0 ≤ v ∧ v ≤ 12) then 9 else -1)))) := by
  refine xb_of pX9 (Nat.le_of_ble_eq_true rfl) rfl ?_
  refine xr_iload_n dX9_skill_0 1 rfl ?_
  refine xb_cS (As := [.int (girl)]) (rest := []) mlX9_134 (c_X9_isGirl girl) dX9_skill_1 rfl rfl (Nat.le_of_ble_eq_true rfl) (by decide) (by decide) ?_
  refine xb_beq (tgt := 14) dX9_skill_4 rfl (fun c1 => ?_) (fun c1 => ?_)
  · refine xr_iconst (v := -1) dX9_skill_14 rfl ?_
    exact xr_iret dX9_skill_15 rfl rfl (⟨by first | rfl | (refine congrArg (fun z => some (Value.int z)) ?_; first | exact (if_neg (by assumption)).symm | exact (if_pos (by assumption)).symm | grind), rfl, by repeat (first | (with_reducible assumption) | (with_reducible exact Fr_z) | (with_reducible exact E0_fr (by assumption)) | ((with_reducible refine Fr_up ?_ ?_); first | decide | omega))⟩)
  · obtain ⟨j, hj, rfl⟩ := x_nat (N := 25) (by decide) rfl c1
    refine xr_iload_n dX9_skill_7 2 rfl ?_
    refine xb_cS (As := [.int (v)]) (rest := []) mlX9_255 (c_X9_isSkill v) dX9_skill_8 rfl rfl (Nat.le_of_ble_eq_true rfl) (by decide) (by decide) ?_
    refine xb_bne (tgt := 16) dX9_skill_11 rfl (fun c2 => ?_) (fun c2 => ?_)
    · refine xr_aload_n dX9_skill_16 0 rfl ?_
      refine xr_getR flX9_47 dX9_skill_17 s_0 rfl ?_
      refine xr_getR flX9_137 dX9_skill_20 s_35 rfl ?_
      refine xr_iload_n dX9_skill_23 1 rfl ?_
      refine xb_iald (j := j) (v := 9) dX9_skill_24 s_36 hj (by decide) (mi_36 j hj) ?_
      refine xr_istore_n (ls2 := [(3, .int (9)), (0, .ref (0)), (1, .int (nI (j))), (2, .int (v))]) dX9_skill_25 (by decide) rfl ?_
      refine xr_aload_n dX9_skill_26 1 rfl ?_
      refine xr_getR flX9_47 dX9_skill_27 s_0 rfl ?_
      refine xr_iload_n dX9_skill_30 2 rfl ?_
      refine xr_iload_n dX9_skill_31 3 rfl ?_
      refine xb_cV (As := [.int (nI (j)), .int (v)]) (rest := []) mlX9_258 (c_X1_becomes hj v) dX9_skill_32 s_35 rfl rfl (Nat.le_of_ble_eq_true rfl) (by decide) (by decide) ?_
      refine xr_iload_n dX9_skill_35 0 rfl ?_
      exact xr_iret dX9_skill_36 rfl rfl (⟨by first | rfl | (refine congrArg (fun z => some (Value.int z)) ?_; first | exact (if_neg (by assumption)).symm | exact (if_pos (by assumption)).symm | grind), rfl, by repeat (first | (with_reducible assumption) | (with_reducible exact Fr_z) | (with_reducible exact E0_fr (by assumption)) | ((with_reducible refine Fr_up ?_ ?_); first | decide | omega))⟩)
    · refine xr_iconst (v := -1) dX9_skill_14 rfl ?_
      exact xr_iret dX9_skill_15 rfl rfl (⟨by first | rfl | (refine congrArg (fun z => some (Value.int z)) ?_; first | exact (if_neg (by assumption)).symm | exact (if_pos (by assumption)).symm | grind), rfl, by repeat (first | (with_reducible assumption) | (with_reducible exact Fr_z) | (with_reducible exact E0_fr (by assumption)) | ((with_reducible refine Fr_up ?_ ?_); first | decide | omega))⟩)
def z_stp (q : Nat × Nat) : Nat × Nat := if 12 ≤ q.1 then q else if max 1 q.1 ≤ q.2 + 1 then (q.1 + 1, 0) else (q.1, q.2 + 1)
def z_T : Nat → Nat × Nat
  | 0 => (9, 0)
  | k + 1 => z_stp (z_T k)
theorem z_T_in : ∀ k, (z_T k).1 ≤ 12 ∧ (z_T k).2 < 13
  | 0 => by decide
  | k + 1 => by
    have h := z_T_in k
    show (z_stp (z_T k)).1 ≤ 12 ∧ (z_stp (z_T k)).2 < 13
    unfold z_stp
    split
    · exact h
    · split <;> dsimp only <;> omega
theorem z_max1 {s : Nat} (h : s < 2 ^ 31) : (if 1 < nI s then nI s else 1) = nI (max 1 s) := by
  show (if nI 1 < nI s then nI s else nI 1) = nI (max 1 s)
  by_cases q : 1 < s
  · rw [if_pos (nI_lt q h), Nat.max_eq_right (by omega)]
  · rw [if_neg (nI_nlt (a := 1) (b := s) (by omega) (by decide)), Nat.max_eq_left (by omega)]
set_option maxRecDepth 100000 in
set_option maxHeartbeats 4000000 in
theorem c_X1_minutesAt {s : Nat} (hs : s < 2 ^ 31) {l : Launch} {G : xG} {M : xM} {J : xJ} : x_M l G fX1_minutesAt 1 0 0 [.int (nI (s))] x_SH M J (qE (some (.int (nI (max 1 s)))) x_SH M J) := by
  refine xb_of pX1 (Nat.le_of_ble_eq_true rfl) rfl ?_
  refine xr_iconst (v := 1) dX1_minutesAt_0 rfl ?_
  refine xr_iload_n dX1_minutesAt_1 0 rfl ?_
  refine xr_max mmX1_32 uj_max uj_mi uj_maxc dX1_minutesAt_2 (Nat.le_of_ble_eq_true rfl) (by decide) ?_
  exact xr_iret dX1_minutesAt_5 rfl rfl (⟨congrArg (fun z => some (Value.int z)) (z_max1 hs), rfl, rfl, rfl⟩)
set_option maxRecDepth 100000 in
set_option maxHeartbeats 4000000 in
theorem c_X1_learnMinute {l : Launch} {G : xG} {M : xM} {J : xJ} {j s t : Nat} (hj : j < 25) (hs : s ≤ 12) (ht : t < 100) (h36 : M 36 j = nI s) (h37 : M 37 j = nI t) (hF : Fr M) : x_M l G fX1_learnMinute 2 0 0 [.ref 35, .int (nI (j))] x_SH M J (fun v sh2 M2 J2 => v = none ∧ sh2 = x_SH ∧ J = J2 ∧ M2 36 j = nI (z_stp (s, t)).1 ∧ M2 37 j = nI (z_stp (s, t)).2 ∧ Fr M2) := by
  refine xb_of pX1 (Nat.le_of_ble_eq_true rfl) rfl ?_
  refine xr_aload_n dX1_learnMinute_0 0 rfl ?_
  refine xr_getR flX1_9 dX1_learnMinute_1 s_35 rfl ?_
  refine xr_iload_n dX1_learnMinute_4 1 rfl ?_
  refine xb_iald (j := j) (v := nI (s)) dX1_learnMinute_5 s_36 hj (by decide) h36 ?_
  refine xr_bipush (v := 12) dX1_learnMinute_6 rfl ?_
  refine xr_icmp_lt (tgt := 12) dX1_learnMinute_8 rfl (fun c1 => ?_) (fun c1 => ?_)
  · have nc1 : s < 12 := (nI_ltI (a := s) (b := 12) (by omega) (by omega)).mp c1
    refine xr_aload_n dX1_learnMinute_12 0 rfl ?_
    refine xr_getR flX1_15 dX1_learnMinute_13 s_35 rfl ?_
    refine xr_iload_n dX1_learnMinute_16 1 rfl ?_
    refine xr_dup2 dX1_learnMinute_17 rfl rfl ?_
    refine xb_iald (j := j) (v := nI (t)) dX1_learnMinute_18 s_37 hj (by decide) h37 ?_
    refine xr_iconst (v := 1) dX1_learnMinute_19 rfl ?_
    refine xr_iadd dX1_learnMinute_20 ?_
    refine xb_top (y := nI (t + 1)) (nI_add (t) (1)) ?_
    refine xb_iast (j := j) dX1_learnMinute_21 s_37 hj (by decide) ?_
    refine xr_aload_n dX1_learnMinute_22 0 rfl ?_
    refine xr_getR flX1_15 dX1_learnMinute_23 s_35 rfl ?_
    refine xr_iload_n dX1_learnMinute_26 1 rfl ?_
    refine xb_iald (j := j) (v := nI (t + 1)) dX1_learnMinute_27 s_37 hj (by decide) (x_up_s _ _ _ _) ?_
    refine xr_aload_n dX1_learnMinute_28 0 rfl ?_
    refine xr_getR flX1_9 dX1_learnMinute_29 s_35 rfl ?_
    refine xr_iload_n dX1_learnMinute_32 1 rfl ?_
    refine xb_iald (j := j) (v := nI (s)) dX1_learnMinute_33 s_36 hj (by decide) (Eq.trans (congrFun (x_up_n _ _ _ (by decide)) _) h36) ?_
    refine xb_cS (As := [.int (nI (s))]) (rest := [.int (nI (t + 1))]) mlX1_38 (c_X1_minutesAt (s := s) (by omega)) dX1_learnMinute_34 rfl rfl (Nat.le_of_ble_eq_true rfl) (by decide) (by decide) ?_
    refine xr_icmp_lt (tgt := 53) dX1_learnMinute_37 rfl (fun c2 => ?_) (fun c2 => ?_)
    · have nc2 : t + 1 < max 1 (s) := (nI_ltI (a := t + 1) (b := max 1 (s)) (by omega) (by omega)).mp c2
      exact xr_vret dX1_learnMinute_53 rfl (⟨rfl, rfl, rfl, Eq.trans (Eq.trans (congrFun (x_up_n _ _ _ (by decide)) _) h36) (congrArg nI (show s = (z_stp (s, t)).1 from (by simp only [z_stp]; (repeat' split) <;> (try dsimp only) <;> omega))), Eq.trans (x_up_s _ _ _ _) (congrArg nI (show t + 1 = (z_stp (s, t)).2 from (by simp only [z_stp]; (repeat' split) <;> (try dsimp only) <;> omega))), by repeat (first | (with_reducible assumption) | (with_reducible exact Fr_z) | (with_reducible exact E0_fr (by assumption)) | ((with_reducible refine Fr_up ?_ ?_); first | decide | omega))⟩)
    · have nc2 : ¬ (t + 1 < max 1 (s)) := fun q => c2 ((nI_ltI (a := t + 1) (b := max 1 (s)) (by omega) (by omega)).mpr q)
      refine xr_aload_n dX1_learnMinute_40 0 rfl ?_
      refine xr_iload_n dX1_learnMinute_41 1 rfl ?_
      refine xr_aload_n dX1_learnMinute_42 0 rfl ?_
      refine xr_getR flX1_9 dX1_learnMinute_43 s_35 rfl ?_
      refine xr_iload_n dX1_learnMinute_46 1 rfl ?_
      refine xb_iald (j := j) (v := nI (s)) dX1_learnMinute_47 s_36 hj (by decide) (Eq.trans (congrFun (x_up_n _ _ _ (by decide)) _) h36) ?_
      refine xr_iconst (v := 1) dX1_learnMinute_48 rfl ?_
      refine xr_iadd dX1_learnMinute_49 ?_
      refine xb_top (y := nI (s + 1)) (nI_add (s) (1)) ?_
      refine xb_cV (As := [.int (nI (j)), .int (nI (s + 1))]) (rest := []) mlX1_42 (c_X1_becomes hj (nI (s + 1))) dX1_learnMinute_50 s_35 rfl rfl (Nat.le_of_ble_eq_true rfl) (by decide) (by decide) ?_
      exact xr_vret dX1_learnMinute_53 rfl (⟨rfl, rfl, rfl, Eq.trans (Eq.trans (congrFun (x_up_n _ _ _ (by decide)) _) (x_up_s _ _ _ _)) (congrArg nI (show s + 1 = (z_stp (s, t)).1 from (by simp only [z_stp]; (repeat' split) <;> (try dsimp only) <;> omega))), Eq.trans (x_up_s _ _ _ _) (congrArg nI (show 0 = (z_stp (s, t)).2 from (by simp only [z_stp]; (repeat' split) <;> (try dsimp only) <;> omega))), by repeat (first | (with_reducible assumption) | (with_reducible exact Fr_z) | (with_reducible exact E0_fr (by assumption)) | ((with_reducible refine Fr_up ?_ ?_); first | decide | omega))⟩)
  · have nc1 : ¬ (s < 12) := fun q => c1 ((nI_ltI (a := s) (b := 12) (by omega) (by omega)).mpr q)
    exact xr_vret dX1_learnMinute_11 rfl (⟨rfl, rfl, rfl, Eq.trans h36 (congrArg nI (show s = (z_stp (s, t)).1 from (by simp only [z_stp]; (repeat' split) <;> (try dsimp only) <;> omega))), Eq.trans h37 (congrArg nI (show t = (z_stp (s, t)).2 from (by simp only [z_stp]; (repeat' split) <;> (try dsimp only) <;> omega))), by repeat (first | (with_reducible assumption) | (with_reducible exact Fr_z) | (with_reducible exact E0_fr (by assumption)) | ((with_reducible refine Fr_up ?_ ?_); first | decide | omega))⟩)
set_option maxRecDepth 100000 in
set_option maxHeartbeats 4000000 in
theorem lp_learn {j : Nat} (hj : j < 25) (N : Nat) (R : Int32) (hN : N ≤ 99) (hR : nI (z_T N).1 = R) {l : Launch} {G : xG} {J : xJ} : ∀ (m k : Nat) (M : xM), k + m = N → (M 36 j = nI (z_T k).1 ∧ M 37 j = nI (z_T k).2 ∧ Fr M) → x_X l G fX9_learn 4 0 0 (qF (some (.int R))) 22 [(3, .int (nI (k))), (2, .int (nI (N))), (1, .int (nI (j))), (0, .ref (0))] [] x_SH M J 0 0 := by
  intro m
  induction m with
  | zero =>
    intro k M hk e
    refine xr_iload_n dX9_learn_22 0 rfl ?_
    refine xr_iload_n dX9_learn_23 1 rfl ?_
    refine xr_icmp_ge (tgt := 41) dX9_learn_24 rfl (fun _ => ?_) (fun c => absurd (nI_le (a := N) (b := k) (by omega) (by omega)) c)
    refine xr_aload_n dX9_learn_41 3 rfl ?_
    refine xr_getR flX9_47 dX9_learn_42 s_0 rfl ?_
    refine xr_getR flX9_137 dX9_learn_45 s_35 rfl ?_
    refine xr_iload_n dX9_learn_48 2 rfl ?_
    refine xb_iald (j := j) (v := nI ((z_T k).1)) dX9_learn_49 s_36 hj (by decide) e.1 ?_
    exact xr_iret dX9_learn_50 rfl rfl (⟨(show k = N from by omega) ▸ congrArg (fun z => some (Value.int z)) hR, rfl, e.2.2⟩)
  | succ m ih =>
    intro k M hk e
    refine xr_iload_n dX9_learn_22 0 rfl ?_
    refine xr_iload_n dX9_learn_23 1 rfl ?_
    refine xr_icmp_ge (tgt := 41) dX9_learn_24 rfl (fun c => absurd c (nI_ge (a := k) (b := N) (by omega) (by omega))) (fun _ => ?_)
    refine xr_aload_n dX9_learn_27 3 rfl ?_
    refine xr_getR flX9_47 dX9_learn_28 s_0 rfl ?_
    refine xr_iload_n dX9_learn_31 2 rfl ?_
    refine xr_callV (As := [.int (nI (j))]) (rest := []) mlX9_294 (c_X1_learnMinute hj (z_T_in k).1 (Nat.lt_trans (z_T_in k).2 (by decide)) e.1 e.2.1 e.2.2) dX9_learn_32 s_35 rfl rfl (Nat.le_of_ble_eq_true rfl) (by decide) ⟨by decide, by decide⟩ (fun v s2 M1 J2 hq => ?_)
    obtain ⟨rfl, rfl, rfl, e2⟩ := hq
    try dsimp only [Option.toList, List.cons_append, List.nil_append]
    refine xr_iinc (v := nI (k + 1)) (ls2 := [(3, .int (nI (k + 1))), (2, .int (nI (N))), (1, .int (nI (j))), (0, .ref (0))]) dX9_learn_35 0 rfl (nI_1 _) (by decide) rfl ?_
    refine xr_goto (tgt := 22) dX9_learn_38 rfl ?_
    refine xb_ls (ls2 := [(3, .int (nI (k + 1))), (2, .int (nI (N))), (1, .int (nI (j))), (0, .ref (0))]) [0, 1, 2, 3] rfl ?_
    exact ih (k + 1) M1 (by omega) e2
set_option maxRecDepth 100000 in
set_option maxHeartbeats 4000000 in
theorem p_X9_learn (girl n : Int32) {l : Launch} {G : xG}  : x_M l G fX9_learn 4 0 0 [.ref (0), .int (girl), .int (n)] x_SH z_M x_J0 (qF (some (.int (if (0 ≤ girl ∧ girl < 25) ∧ 1 ≤ n ∧ n ≤ 99 then nI (z_T n.toNatClampNeg).1 else -1)))) := by
  refine xb_of pX9 (Nat.le_of_ble_eq_true rfl) rfl ?_
  refine xr_iload_n dX9_learn_0 1 rfl ?_
  refine xb_cS (As := [.int (girl)]) (rest := []) mlX9_134 (c_X9_isGirl girl) dX9_learn_1 rfl rfl (Nat.le_of_ble_eq_true rfl) (by decide) (by decide) ?_
  refine xb_beq (tgt := 18) dX9_learn_4 rfl (fun c1 => ?_) (fun c1 => ?_)
  · refine xr_iconst (v := -1) dX9_learn_18 rfl ?_
    exact xr_iret dX9_learn_19 rfl rfl (⟨by first | rfl | (refine congrArg (fun z => some (Value.int z)) ?_; first | exact (if_neg (by assumption)).symm | exact (if_pos (by assumption)).symm | grind), rfl, by repeat (first | (with_reducible assumption) | (with_reducible exact Fr_z) | (with_reducible exact E0_fr (by assumption)) | ((with_reducible refine Fr_up ?_ ?_); first | decide | omega))⟩)
  · obtain ⟨j, hj, rfl⟩ := x_nat (N := 25) (by decide) rfl c1
    refine xr_iload_n dX9_learn_7 2 rfl ?_
    refine xr_iconst (v := 1) dX9_learn_8 rfl ?_
    refine xr_icmp_lt (tgt := 18) dX9_learn_9 rfl (fun c2 => ?_) (fun c2 => ?_)
    · refine xr_iconst (v := -1) dX9_learn_18 rfl ?_
      exact xr_iret dX9_learn_19 rfl rfl (⟨by first | rfl | (refine congrArg (fun z => some (Value.int z)) ?_; first | exact (if_neg (by assumption)).symm | exact (if_pos (by assumption)).symm | grind), rfl, by repeat (first | (with_reducible assumption) | (with_reducible exact Fr_z) | (with_reducible exact E0_fr (by assumption)) | ((with_reducible refine Fr_up ?_ ?_); first | decide | omega))⟩)
    · refine xr_iload_n dX9_learn_12 2 rfl ?_
      refine xr_bipush (v := 99) dX9_learn_13 rfl ?_
      refine xr_icmp_le (tgt := 20) dX9_learn_15 rfl (fun c3 => ?_) (fun c3 => ?_)
      · refine xr_iconst (v := 0) dX9_learn_20 rfl ?_
        refine xr_istore_n (ls2 := [(3, .int (0)), (0, .ref (0)), (1, .int (nI (j))), (2, .int (n))]) dX9_learn_21 (by decide) rfl ?_
        obtain ⟨N, hN, rfl⟩ := x_natle (v := n) (N := 99) (by decide) rfl ⟨by grind, c3⟩
        refine xb_ls (ls2 := [(3, .int (nI (0))), (2, .int (nI (N))), (1, .int (nI (j))), (0, .ref (0))]) [0, 3, 2, 1] rfl ?_
        exact lp_learn hj N _ hN (by rw [if_pos ⟨⟨by grind, by grind⟩, by grind, by grind⟩, nI_clamp (by omega)]) N 0 z_M (by omega) ⟨mi_36 j hj, mi_37 j hj, Fr_z⟩
      · refine xr_iconst (v := -1) dX9_learn_18 rfl ?_
        exact xr_iret dX9_learn_19 rfl rfl (⟨by first | rfl | (refine congrArg (fun z => some (Value.int z)) ?_; first | exact (if_neg (by assumption)).symm | exact (if_pos (by assumption)).symm | grind), rfl, by repeat (first | (with_reducible assumption) | (with_reducible exact Fr_z) | (with_reducible exact E0_fr (by assumption)) | ((with_reducible refine Fr_up ?_ ?_); first | decide | omega))⟩)
set_option maxRecDepth 100000 in
set_option maxHeartbeats 4000000 in
theorem p_X9_till (girl v : Int32) {l : Launch} {G : xG}  : x_M l G fX9_till 4 0 0 [.ref (0), .int (girl), .int (v)] x_SH z_M x_J0 (qF (some (.int (if (0 ≤ girl ∧ girl < 25) ∧ (0 ≤ v ∧ v ≤ 12) then (if v ≤ 9 then 0 else if v = 10 then 9 else if v = 11 then 19 else 30) else -1)))) := by
  refine xb_of pX9 (Nat.le_of_ble_eq_true rfl) rfl ?_
  refine xr_iload_n dX9_till_0 1 rfl ?_
  refine xb_cS (As := [.int (girl)]) (rest := []) mlX9_134 (c_X9_isGirl girl) dX9_till_1 rfl rfl (Nat.le_of_ble_eq_true rfl) (by decide) (by decide) ?_
  refine xb_beq (tgt := 14) dX9_till_4 rfl (fun c1 => ?_) (fun c1 => ?_)
  · refine xr_iconst (v := -1) dX9_till_14 rfl ?_
    exact xr_iret dX9_till_15 rfl rfl (⟨by first | rfl | (refine congrArg (fun z => some (Value.int z)) ?_; first | exact (if_neg (by assumption)).symm | exact (if_pos (by assumption)).symm | grind), rfl, by repeat (first | (with_reducible assumption) | (with_reducible exact Fr_z) | (with_reducible exact E0_fr (by assumption)) | ((with_reducible refine Fr_up ?_ ?_); first | decide | omega))⟩)
  · obtain ⟨j, hj, rfl⟩ := x_nat (N := 25) (by decide) rfl c1
    refine xr_iload_n dX9_till_7 2 rfl ?_
    refine xb_cS (As := [.int (v)]) (rest := []) mlX9_255 (c_X9_isSkill v) dX9_till_8 rfl rfl (Nat.le_of_ble_eq_true rfl) (by decide) (by decide) ?_
    refine xb_bne (tgt := 16) dX9_till_11 rfl (fun c2 => ?_) (fun c2 => ?_)
    · refine xr_aload_n dX9_till_16 0 rfl ?_
      refine xr_getR flX9_47 dX9_till_17 s_0 rfl ?_
      refine xr_getR flX9_137 dX9_till_20 s_35 rfl ?_
      refine xr_iload_n dX9_till_23 1 rfl ?_
      refine xb_iald (j := j) (v := 9) dX9_till_24 s_36 hj (by decide) (mi_36 j hj) ?_
      refine xr_iload_n dX9_till_25 2 rfl ?_
      refine xr_icmp_lt (tgt := 31) dX9_till_26 rfl (fun c3 => ?_) (fun c3 => ?_)
      · rcases (show v = 10 ∨ v = 11 ∨ v = 12 by grind) with rfl | rfl | rfl
        · refine xr_aload_n dX9_till_31 0 rfl ?_
          refine xr_getR flX9_47 dX9_till_32 s_0 rfl ?_
          refine xr_getR flX9_141 dX9_till_35 s_35 rfl ?_
          refine xr_iload_n dX9_till_38 1 rfl ?_
          refine xb_iald (j := j) (v := 0) dX9_till_39 s_37 hj (by decide) (mi_37 j hj) ?_
          refine xr_ineg dX9_till_40 ?_
          refine xb_top (y := 0) (by decide) ?_
          refine xr_istore_n (ls2 := [(3, .int (0)), (0, .ref (0)), (1, .int (nI (j))), (2, .int (10))]) dX9_till_41 (by decide) rfl ?_
          refine xr_aload_n dX9_till_42 1 rfl ?_
          refine xr_getR flX9_47 dX9_till_43 s_0 rfl ?_
          refine xr_getR flX9_137 dX9_till_46 s_35 rfl ?_
          refine xr_iload_n dX9_till_49 2 rfl ?_
          refine xb_iald (j := j) (v := 9) dX9_till_50 s_36 hj (by decide) (mi_36 j hj) ?_
          refine xr_istore (ls2 := [(4, .int (9)), (3, .int (0)), (0, .ref (0)), (1, .int (nI (j))), (2, .int (10))]) dX9_till_51 (by decide) rfl ?_
          refine xr_iload dX9_till_53 0 rfl ?_
          refine xr_iload_n dX9_till_55 4 rfl ?_
          refine xr_icmp_ge (tgt := 73) dX9_till_56 rfl (fun c => absurd c (by decide)) (fun _ => ?_)
          refine xr_iload_n dX9_till_59 1 rfl ?_
          refine xr_iload dX9_till_60 0 rfl ?_
          refine xb_cS (As := [.int (9)]) (rest := [.int (0)]) mlX9_297 (c_X1_minutesAt (s := 9) (by decide)) dX9_till_62 rfl rfl (Nat.le_of_ble_eq_true rfl) (by decide) (by decide) ?_
          refine xb_top (y := 9) (by decide) ?_
          refine xr_iadd dX9_till_65 ?_
          refine xb_top (y := 9) (by decide) ?_
          refine xr_istore_n (ls2 := [(3, .int (9)), (4, .int (9)), (0, .ref (0)), (1, .int (nI (j))), (2, .int (10))]) dX9_till_66 (by decide) rfl ?_
          refine xr_iinc (v := 10) (ls2 := [(4, .int (10)), (3, .int (9)), (0, .ref (0)), (1, .int (nI (j))), (2, .int (10))]) dX9_till_67 1 rfl rfl (by decide) rfl ?_
          refine xr_goto (tgt := 53) dX9_till_70 rfl ?_
          refine xr_iload dX9_till_53 0 rfl ?_
          refine xr_iload_n dX9_till_55 4 rfl ?_
          refine xr_icmp_ge (tgt := 73) dX9_till_56 rfl (fun _ => ?_) (fun c => absurd (by decide) c)
          refine xr_iload_n dX9_till_73 1 rfl ?_
          exact xr_iret dX9_till_74 rfl rfl (⟨by first | rfl | (refine congrArg (fun z => some (Value.int z)) ?_; first | exact (if_neg (by assumption)).symm | exact (if_pos (by assumption)).symm | grind), rfl, by repeat (first | (with_reducible assumption) | (with_reducible exact Fr_z) | (with_reducible exact E0_fr (by assumption)) | ((with_reducible refine Fr_up ?_ ?_); first | decide | omega))⟩)
        · refine xr_aload_n dX9_till_31 0 rfl ?_
          refine xr_getR flX9_47 dX9_till_32 s_0 rfl ?_
          refine xr_getR flX9_141 dX9_till_35 s_35 rfl ?_
          refine xr_iload_n dX9_till_38 1 rfl ?_
          refine xb_iald (j := j) (v := 0) dX9_till_39 s_37 hj (by decide) (mi_37 j hj) ?_
          refine xr_ineg dX9_till_40 ?_
          refine xb_top (y := 0) (by decide) ?_
          refine xr_istore_n (ls2 := [(3, .int (0)), (0, .ref (0)), (1, .int (nI (j))), (2, .int (11))]) dX9_till_41 (by decide) rfl ?_
          refine xr_aload_n dX9_till_42 1 rfl ?_
          refine xr_getR flX9_47 dX9_till_43 s_0 rfl ?_
          refine xr_getR flX9_137 dX9_till_46 s_35 rfl ?_
          refine xr_iload_n dX9_till_49 2 rfl ?_
          refine xb_iald (j := j) (v := 9) dX9_till_50 s_36 hj (by decide) (mi_36 j hj) ?_
          refine xr_istore (ls2 := [(4, .int (9)), (3, .int (0)), (0, .ref (0)), (1, .int (nI (j))), (2, .int (11))]) dX9_till_51 (by decide) rfl ?_
          refine xr_iload dX9_till_53 0 rfl ?_
          refine xr_iload_n dX9_till_55 4 rfl ?_
          refine xr_icmp_ge (tgt := 73) dX9_till_56 rfl (fun c => absurd c (by decide)) (fun _ => ?_)
          refine xr_iload_n dX9_till_59 1 rfl ?_
          refine xr_iload dX9_till_60 0 rfl ?_
          refine xb_cS (As := [.int (9)]) (rest := [.int (0)]) mlX9_297 (c_X1_minutesAt (s := 9) (by decide)) dX9_till_62 rfl rfl (Nat.le_of_ble_eq_true rfl) (by decide) (by decide) ?_
          refine xb_top (y := 9) (by decide) ?_
          refine xr_iadd dX9_till_65 ?_
          refine xb_top (y := 9) (by decide) ?_
          refine xr_istore_n (ls2 := [(3, .int (9)), (4, .int (9)), (0, .ref (0)), (1, .int (nI (j))), (2, .int (11))]) dX9_till_66 (by decide) rfl ?_
          refine xr_iinc (v := 10) (ls2 := [(4, .int (10)), (3, .int (9)), (0, .ref (0)), (1, .int (nI (j))), (2, .int (11))]) dX9_till_67 1 rfl rfl (by decide) rfl ?_
          refine xr_goto (tgt := 53) dX9_till_70 rfl ?_
          refine xr_iload dX9_till_53 0 rfl ?_
          refine xr_iload_n dX9_till_55 4 rfl ?_
          refine xr_icmp_ge (tgt := 73) dX9_till_56 rfl (fun c => absurd c (by decide)) (fun _ => ?_)
          refine xr_iload_n dX9_till_59 1 rfl ?_
          refine xr_iload dX9_till_60 0 rfl ?_
          refine xb_cS (As := [.int (10)]) (rest := [.int (9)]) mlX9_297 (c_X1_minutesAt (s := 10) (by decide)) dX9_till_62 rfl rfl (Nat.le_of_ble_eq_true rfl) (by decide) (by decide) ?_
          refine xb_top (y := 10) (by decide) ?_
          refine xr_iadd dX9_till_65 ?_
          refine xb_top (y := 19) (by decide) ?_
          refine xr_istore_n (ls2 := [(3, .int (19)), (4, .int (10)), (0, .ref (0)), (1, .int (nI (j))), (2, .int (11))]) dX9_till_66 (by decide) rfl ?_
          refine xr_iinc (v := 11) (ls2 := [(4, .int (11)), (3, .int (19)), (0, .ref (0)), (1, .int (nI (j))), (2, .int (11))]) dX9_till_67 1 rfl rfl (by decide) rfl ?_
          refine xr_goto (tgt := 53) dX9_till_70 rfl ?_
          refine xr_iload dX9_till_53 0 rfl ?_
          refine xr_iload_n dX9_till_55 4 rfl ?_
          refine xr_icmp_ge (tgt := 73) dX9_till_56 rfl (fun _ => ?_) (fun c => absurd (by decide) c)
          refine xr_iload_n dX9_till_73 1 rfl ?_
          exact xr_iret dX9_till_74 rfl rfl (⟨by first | rfl | (refine congrArg (fun z => some (Value.int z)) ?_; first | exact (if_neg (by assumption)).symm | exact (if_pos (by assumption)).symm | grind), rfl, by repeat (first | (with_reducible assumption) | (with_reducible exact Fr_z) | (with_reducible exact E0_fr (by assumption)) | ((with_reducible refine Fr_up ?_ ?_); first | decide | omega))⟩)
        · refine xr_aload_n dX9_till_31 0 rfl ?_
          refine xr_getR flX9_47 dX9_till_32 s_0 rfl ?_
          refine xr_getR flX9_141 dX9_till_35 s_35 rfl ?_
          refine xr_iload_n dX9_till_38 1 rfl ?_
          refine xb_iald (j := j) (v := 0) dX9_till_39 s_37 hj (by decide) (mi_37 j hj) ?_
          refine xr_ineg dX9_till_40 ?_
          refine xb_top (y := 0) (by decide) ?_
          refine xr_istore_n (ls2 := [(3, .int (0)), (0, .ref (0)), (1, .int (nI (j))), (2, .int (12))]) dX9_till_41 (by decide) rfl ?_
          refine xr_aload_n dX9_till_42 1 rfl ?_
          refine xr_getR flX9_47 dX9_till_43 s_0 rfl ?_
          refine xr_getR flX9_137 dX9_till_46 s_35 rfl ?_
          refine xr_iload_n dX9_till_49 2 rfl ?_
          refine xb_iald (j := j) (v := 9) dX9_till_50 s_36 hj (by decide) (mi_36 j hj) ?_
          refine xr_istore (ls2 := [(4, .int (9)), (3, .int (0)), (0, .ref (0)), (1, .int (nI (j))), (2, .int (12))]) dX9_till_51 (by decide) rfl ?_
          refine xr_iload dX9_till_53 0 rfl ?_
          refine xr_iload_n dX9_till_55 4 rfl ?_
          refine xr_icmp_ge (tgt := 73) dX9_till_56 rfl (fun c => absurd c (by decide)) (fun _ => ?_)
          refine xr_iload_n dX9_till_59 1 rfl ?_
          refine xr_iload dX9_till_60 0 rfl ?_
          refine xb_cS (As := [.int (9)]) (rest := [.int (0)]) mlX9_297 (c_X1_minutesAt (s := 9) (by decide)) dX9_till_62 rfl rfl (Nat.le_of_ble_eq_true rfl) (by decide) (by decide) ?_
          refine xb_top (y := 9) (by decide) ?_
          refine xr_iadd dX9_till_65 ?_
          refine xb_top (y := 9) (by decide) ?_
          refine xr_istore_n (ls2 := [(3, .int (9)), (4, .int (9)), (0, .ref (0)), (1, .int (nI (j))), (2, .int (12))]) dX9_till_66 (by decide) rfl ?_
          refine xr_iinc (v := 10) (ls2 := [(4, .int (10)), (3, .int (9)), (0, .ref (0)), (1, .int (nI (j))), (2, .int (12))]) dX9_till_67 1 rfl rfl (by decide) rfl ?_
          refine xr_goto (tgt := 53) dX9_till_70 rfl ?_
          refine xr_iload dX9_till_53 0 rfl ?_
          refine xr_iload_n dX9_till_55 4 rfl ?_
          refine xr_icmp_ge (tgt := 73) dX9_till_56 rfl (fun c => absurd c (by decide)) (fun _ => ?_)
          refine xr_iload_n dX9_till_59 1 rfl ?_
          refine xr_iload dX9_till_60 0 rfl ?_
          refine xb_cS (As := [.int (10)]) (rest := [.int (9)]) mlX9_297 (c_X1_minutesAt (s := 10) (by decide)) dX9_till_62 rfl rfl (Nat.le_of_ble_eq_true rfl) (by decide) (by decide) ?_
          refine xb_top (y := 10) (by decide) ?_
          refine xr_iadd dX9_till_65 ?_
          refine xb_top (y := 19) (by decide) ?_
          refine xr_istore_n (ls2 := [(3, .int (19)), (4, .int (10)), (0, .ref (0)), (1, .int (nI (j))), (2, .int (12))]) dX9_till_66 (by decide) rfl ?_
          refine xr_iinc (v := 11) (ls2 := [(4, .int (11)), (3, .int (19)), (0, .ref (0)), (1, .int (nI (j))), (2, .int (12))]) dX9_till_67 1 rfl rfl (by decide) rfl ?_
          refine xr_goto (tgt := 53) dX9_till_70 rfl ?_
          refine xr_iload dX9_till_53 0 rfl ?_
          refine xr_iload_n dX9_till_55 4 rfl ?_
          refine xr_icmp_ge (tgt := 73) dX9_till_56 rfl (fun c => absurd c (by decide)) (fun _ => ?_)
          refine xr_iload_n dX9_till_59 1 rfl ?_
          refine xr_iload dX9_till_60 0 rfl ?_
          refine xb_cS (As := [.int (11)]) (rest := [.int (19)]) mlX9_297 (c_X1_minutesAt (s := 11) (by decide)) dX9_till_62 rfl rfl (Nat.le_of_ble_eq_true rfl) (by decide) (by decide) ?_
          refine xb_top (y := 11) (by decide) ?_
          refine xr_iadd dX9_till_65 ?_
          refine xb_top (y := 30) (by decide) ?_
          refine xr_istore_n (ls2 := [(3, .int (30)), (4, .int (11)), (0, .ref (0)), (1, .int (nI (j))), (2, .int (12))]) dX9_till_66 (by decide) rfl ?_
          refine xr_iinc (v := 12) (ls2 := [(4, .int (12)), (3, .int (30)), (0, .ref (0)), (1, .int (nI (j))), (2, .int (12))]) dX9_till_67 1 rfl rfl (by decide) rfl ?_
          refine xr_goto (tgt := 53) dX9_till_70 rfl ?_
          refine xr_iload dX9_till_53 0 rfl ?_
          refine xr_iload_n dX9_till_55 4 rfl ?_
          refine xr_icmp_ge (tgt := 73) dX9_till_56 rfl (fun _ => ?_) (fun c => absurd (by decide) c)
          refine xr_iload_n dX9_till_73 1 rfl ?_
          exact xr_iret dX9_till_74 rfl rfl (⟨by first | rfl | (refine congrArg (fun z => some (Value.int z)) ?_; first | exact (if_neg (by assumption)).symm | exact (if_pos (by assumption)).symm | grind), rfl, by repeat (first | (with_reducible assumption) | (with_reducible exact Fr_z) | (with_reducible exact E0_fr (by assumption)) | ((with_reducible refine Fr_up ?_ ?_); first | decide | omega))⟩)
      · refine xr_iconst (v := 0) dX9_till_29 rfl ?_
        exact xr_iret dX9_till_30 rfl rfl (⟨by first | rfl | (refine congrArg (fun z => some (Value.int z)) ?_; first | exact (if_neg (by assumption)).symm | exact (if_pos (by assumption)).symm | grind), rfl, by repeat (first | (with_reducible assumption) | (with_reducible exact Fr_z) | (with_reducible exact E0_fr (by assumption)) | ((with_reducible refine Fr_up ?_ ?_); first | decide | omega))⟩)
    · refine xr_iconst (v := -1) dX9_till_14 rfl ?_
      exact xr_iret dX9_till_15 rfl rfl (⟨by first | rfl | (refine congrArg (fun z => some (Value.int z)) ?_; first | exact (if_neg (by assumption)).symm | exact (if_pos (by assumption)).symm | grind), rfl, by repeat (first | (with_reducible assumption) | (with_reducible exact Fr_z) | (with_reducible exact E0_fr (by assumption)) | ((with_reducible refine Fr_up ?_ ?_); first | decide | omega))⟩)
set_option maxRecDepth 100000 in
set_option maxHeartbeats 4000000 in
theorem p_gd {l : Launch} {G : xG}  : x_M l G fX9_greatestDivisor 1 0 0 [.int (9), .int (12)] x_SH z_M x_J0 (qE (some (.int 3)) x_SH z_M x_J0) := by
  refine xb_of pX9 (Nat.le_of_ble_eq_true rfl) rfl ?_
  refine xr_iconst (v := 1) dX9_greatestDivisor_0 rfl ?_
  refine xr_istore_n (ls2 := [(2, .int (1)), (0, .int (9)), (1, .int (12))]) dX9_greatestDivisor_1 (by decide) rfl ?_
  refine xr_iconst (v := 2) dX9_greatestDivisor_2 rfl ?_
  refine xr_istore_n (ls2 := [(3, .int (2)), (2, .int (1)), (0, .int (9)), (1, .int (12))]) dX9_greatestDivisor_3 (by decide) rfl ?_
  refine xr_iload_n dX9_greatestDivisor_4 0 rfl ?_
  refine xr_iload_n dX9_greatestDivisor_5 3 rfl ?_
  refine xr_icmp_gt (tgt := 33) dX9_greatestDivisor_6 rfl (fun c => absurd c (by decide)) (fun _ => ?_)
  refine xr_iload_n dX9_greatestDivisor_9 2 rfl ?_
  refine xr_iload_n dX9_greatestDivisor_10 0 rfl ?_
  refine xb_cS (As := [.int (9), .int (2)]) (rest := []) mlX9_396 (c_X9_rest 9 2) dX9_greatestDivisor_11 rfl rfl (Nat.le_of_ble_eq_true rfl) (by decide) (by decide) ?_
  refine xb_top (y := 1) (by decide) ?_
  refine xr_if_ne (tgt := 27) dX9_greatestDivisor_14 rfl (fun _ => ?_) (fun c => absurd c (by decide))
  refine xr_iinc (v := 3) (ls2 := [(3, .int (3)), (2, .int (1)), (0, .int (9)), (1, .int (12))]) dX9_greatestDivisor_27 0 rfl rfl (by decide) rfl ?_
  refine xr_goto (tgt := 4) dX9_greatestDivisor_30 rfl ?_
  refine xr_iload_n dX9_greatestDivisor_4 0 rfl ?_
  refine xr_iload_n dX9_greatestDivisor_5 3 rfl ?_
  refine xr_icmp_gt (tgt := 33) dX9_greatestDivisor_6 rfl (fun c => absurd c (by decide)) (fun _ => ?_)
  refine xr_iload_n dX9_greatestDivisor_9 2 rfl ?_
  refine xr_iload_n dX9_greatestDivisor_10 0 rfl ?_
  refine xb_cS (As := [.int (9), .int (3)]) (rest := []) mlX9_396 (c_X9_rest 9 3) dX9_greatestDivisor_11 rfl rfl (Nat.le_of_ble_eq_true rfl) (by decide) (by decide) ?_
  refine xb_top (y := 0) (by decide) ?_
  refine xr_if_ne (tgt := 27) dX9_greatestDivisor_14 rfl (fun c => absurd (by decide) c) (fun _ => ?_)
  refine xr_iload_n dX9_greatestDivisor_17 3 rfl ?_
  refine xr_iload_n dX9_greatestDivisor_18 0 rfl ?_
  refine xb_cS (As := [.int (12), .int (3)]) (rest := []) mlX9_396 (c_X9_rest 12 3) dX9_greatestDivisor_19 rfl rfl (Nat.le_of_ble_eq_true rfl) (by decide) (by decide) ?_
  refine xb_top (y := 0) (by decide) ?_
  refine xr_if_ne (tgt := 27) dX9_greatestDivisor_22 rfl (fun c => absurd (by decide) c) (fun _ => ?_)
  refine xr_iload_n dX9_greatestDivisor_25 0 rfl ?_
  refine xr_istore_n (ls2 := [(2, .int (3)), (3, .int (3)), (0, .int (9)), (1, .int (12))]) dX9_greatestDivisor_26 (by decide) rfl ?_
  refine xr_iinc (v := 4) (ls2 := [(3, .int (4)), (2, .int (3)), (0, .int (9)), (1, .int (12))]) dX9_greatestDivisor_27 1 rfl rfl (by decide) rfl ?_
  refine xr_goto (tgt := 4) dX9_greatestDivisor_30 rfl ?_
  refine xr_iload_n dX9_greatestDivisor_4 0 rfl ?_
  refine xr_iload_n dX9_greatestDivisor_5 3 rfl ?_
  refine xr_icmp_gt (tgt := 33) dX9_greatestDivisor_6 rfl (fun c => absurd c (by decide)) (fun _ => ?_)
  refine xr_iload_n dX9_greatestDivisor_9 2 rfl ?_
  refine xr_iload_n dX9_greatestDivisor_10 0 rfl ?_
  refine xb_cS (As := [.int (9), .int (4)]) (rest := []) mlX9_396 (c_X9_rest 9 4) dX9_greatestDivisor_11 rfl rfl (Nat.le_of_ble_eq_true rfl) (by decide) (by decide) ?_
  refine xb_top (y := 1) (by decide) ?_
  refine xr_if_ne (tgt := 27) dX9_greatestDivisor_14 rfl (fun _ => ?_) (fun c => absurd c (by decide))
  refine xr_iinc (v := 5) (ls2 := [(3, .int (5)), (2, .int (3)), (0, .int (9)), (1, .int (12))]) dX9_greatestDivisor_27 0 rfl rfl (by decide) rfl ?_
  refine xr_goto (tgt := 4) dX9_greatestDivisor_30 rfl ?_
  refine xr_iload_n dX9_greatestDivisor_4 0 rfl ?_
  refine xr_iload_n dX9_greatestDivisor_5 3 rfl ?_
  refine xr_icmp_gt (tgt := 33) dX9_greatestDivisor_6 rfl (fun c => absurd c (by decide)) (fun _ => ?_)
  refine xr_iload_n dX9_greatestDivisor_9 2 rfl ?_
  refine xr_iload_n dX9_greatestDivisor_10 0 rfl ?_
  refine xb_cS (As := [.int (9), .int (5)]) (rest := []) mlX9_396 (c_X9_rest 9 5) dX9_greatestDivisor_11 rfl rfl (Nat.le_of_ble_eq_true rfl) (by decide) (by decide) ?_
  refine xb_top (y := 4) (by decide) ?_
  refine xr_if_ne (tgt := 27) dX9_greatestDivisor_14 rfl (fun _ => ?_) (fun c => absurd c (by decide))
  refine xr_iinc (v := 6) (ls2 := [(3, .int (6)), (2, .int (3)), (0, .int (9)), (1, .int (12))]) dX9_greatestDivisor_27 0 rfl rfl (by decide) rfl ?_
  refine xr_goto (tgt := 4) dX9_greatestDivisor_30 rfl ?_
  refine xr_iload_n dX9_greatestDivisor_4 0 rfl ?_
  refine xr_iload_n dX9_greatestDivisor_5 3 rfl ?_
  refine xr_icmp_gt (tgt := 33) dX9_greatestDivisor_6 rfl (fun c => absurd c (by decide)) (fun _ => ?_)
  refine xr_iload_n dX9_greatestDivisor_9 2 rfl ?_
  refine xr_iload_n dX9_greatestDivisor_10 0 rfl ?_
  refine xb_cS (As := [.int (9), .int (6)]) (rest := []) mlX9_396 (c_X9_rest 9 6) dX9_greatestDivisor_11 rfl rfl (Nat.le_of_ble_eq_true rfl) (by decide) (by decide) ?_
  refine xb_top (y := 3) (by decide) ?_
  refine xr_if_ne (tgt := 27) dX9_greatestDivisor_14 rfl (fun _ => ?_) (fun c => absurd c (by decide))
  refine xr_iinc (v := 7) (ls2 := [(3, .int (7)), (2, .int (3)), (0, .int (9)), (1, .int (12))]) dX9_greatestDivisor_27 0 rfl rfl (by decide) rfl ?_
  refine xr_goto (tgt := 4) dX9_greatestDivisor_30 rfl ?_
  refine xr_iload_n dX9_greatestDivisor_4 0 rfl ?_
  refine xr_iload_n dX9_greatestDivisor_5 3 rfl ?_
  refine xr_icmp_gt (tgt := 33) dX9_greatestDivisor_6 rfl (fun c => absurd c (by decide)) (fun _ => ?_)
  refine xr_iload_n dX9_greatestDivisor_9 2 rfl ?_
  refine xr_iload_n dX9_greatestDivisor_10 0 rfl ?_
  refine xb_cS (As := [.int (9), .int (7)]) (rest := []) mlX9_396 (c_X9_rest 9 7) dX9_greatestDivisor_11 rfl rfl (Nat.le_of_ble_eq_true rfl) (by decide) (by decide) ?_
  refine xb_top (y := 2) (by decide) ?_
  refine xr_if_ne (tgt := 27) dX9_greatestDivisor_14 rfl (fun _ => ?_) (fun c => absurd c (by decide))
  refine xr_iinc (v := 8) (ls2 := [(3, .int (8)), (2, .int (3)), (0, .int (9)), (1, .int (12))]) dX9_greatestDivisor_27 0 rfl rfl (by decide) rfl ?_
  refine xr_goto (tgt := 4) dX9_greatestDivisor_30 rfl ?_
  refine xr_iload_n dX9_greatestDivisor_4 0 rfl ?_
  refine xr_iload_n dX9_greatestDivisor_5 3 rfl ?_
  refine xr_icmp_gt (tgt := 33) dX9_greatestDivisor_6 rfl (fun c => absurd c (by decide)) (fun _ => ?_)
  refine xr_iload_n dX9_greatestDivisor_9 2 rfl ?_
  refine xr_iload_n dX9_greatestDivisor_10 0 rfl ?_
  refine xb_cS (As := [.int (9), .int (8)]) (rest := []) mlX9_396 (c_X9_rest 9 8) dX9_greatestDivisor_11 rfl rfl (Nat.le_of_ble_eq_true rfl) (by decide) (by decide) ?_
  refine xb_top (y := 1) (by decide) ?_
  refine xr_if_ne (tgt := 27) dX9_greatestDivisor_14 rfl (fun _ => ?_) (fun c => absurd c (by decide))
  refine xr_iinc (v := 9) (ls2 := [(3, .int (9)), (2, .int (3)), (0, .int (9)), (1, .int (12))]) dX9_greatestDivisor_27 0 rfl rfl (by decide) rfl ?_
  refine xr_goto (tgt := 4) dX9_greatestDivisor_30 rfl ?_
  refine xr_iload_n dX9_greatestDivisor_4 0 rfl ?_
  refine xr_iload_n dX9_greatestDivisor_5 3 rfl ?_
  refine xr_icmp_gt (tgt := 33) dX9_greatestDivisor_6 rfl (fun c => absurd c (by decide)) (fun _ => ?_)
  refine xr_iload_n dX9_greatestDivisor_9 2 rfl ?_
  refine xr_iload_n dX9_greatestDivisor_10 0 rfl ?_
  refine xb_cS (As := [.int (9), .int (9)]) (rest := []) mlX9_396 (c_X9_rest 9 9) dX9_greatestDivisor_11 rfl rfl (Nat.le_of_ble_eq_true rfl) (by decide) (by decide) ?_
  refine xb_top (y := 0) (by decide) ?_
  refine xr_if_ne (tgt := 27) dX9_greatestDivisor_14 rfl (fun c => absurd (by decide) c) (fun _ => ?_)
  refine xr_iload_n dX9_greatestDivisor_17 3 rfl ?_
  refine xr_iload_n dX9_greatestDivisor_18 0 rfl ?_
  refine xb_cS (As := [.int (12), .int (9)]) (rest := []) mlX9_396 (c_X9_rest 12 9) dX9_greatestDivisor_19 rfl rfl (Nat.le_of_ble_eq_true rfl) (by decide) (by decide) ?_
  refine xb_top (y := 3) (by decide) ?_
  refine xr_if_ne (tgt := 27) dX9_greatestDivisor_22 rfl (fun _ => ?_) (fun c => absurd c (by decide))
  refine xr_iinc (v := 10) (ls2 := [(3, .int (10)), (2, .int (3)), (0, .int (9)), (1, .int (12))]) dX9_greatestDivisor_27 0 rfl rfl (by decide) rfl ?_
  refine xr_goto (tgt := 4) dX9_greatestDivisor_30 rfl ?_
  refine xr_iload_n dX9_greatestDivisor_4 0 rfl ?_
  refine xr_iload_n dX9_greatestDivisor_5 3 rfl ?_
  refine xr_icmp_gt (tgt := 33) dX9_greatestDivisor_6 rfl (fun c => absurd c (by decide)) (fun _ => ?_)
  refine xr_iload_n dX9_greatestDivisor_9 2 rfl ?_
  refine xr_iload_n dX9_greatestDivisor_10 0 rfl ?_
  refine xb_cS (As := [.int (9), .int (10)]) (rest := []) mlX9_396 (c_X9_rest 9 10) dX9_greatestDivisor_11 rfl rfl (Nat.le_of_ble_eq_true rfl) (by decide) (by decide) ?_
  refine xb_top (y := 9) (by decide) ?_
  refine xr_if_ne (tgt := 27) dX9_greatestDivisor_14 rfl (fun _ => ?_) (fun c => absurd c (by decide))
  refine xr_iinc (v := 11) (ls2 := [(3, .int (11)), (2, .int (3)), (0, .int (9)), (1, .int (12))]) dX9_greatestDivisor_27 0 rfl rfl (by decide) rfl ?_
  refine xr_goto (tgt := 4) dX9_greatestDivisor_30 rfl ?_
  refine xr_iload_n dX9_greatestDivisor_4 0 rfl ?_
  refine xr_iload_n dX9_greatestDivisor_5 3 rfl ?_
  refine xr_icmp_gt (tgt := 33) dX9_greatestDivisor_6 rfl (fun c => absurd c (by decide)) (fun _ => ?_)
  refine xr_iload_n dX9_greatestDivisor_9 2 rfl ?_
  refine xr_iload_n dX9_greatestDivisor_10 0 rfl ?_
  refine xb_cS (As := [.int (9), .int (11)]) (rest := []) mlX9_396 (c_X9_rest 9 11) dX9_greatestDivisor_11 rfl rfl (Nat.le_of_ble_eq_true rfl) (by decide) (by decide) ?_
  refine xb_top (y := 9) (by decide) ?_
  refine xr_if_ne (tgt := 27) dX9_greatestDivisor_14 rfl (fun _ => ?_) (fun c => absurd c (by decide))
  refine xr_iinc (v := 12) (ls2 := [(3, .int (12)), (2, .int (3)), (0, .int (9)), (1, .int (12))]) dX9_greatestDivisor_27 0 rfl rfl (by decide) rfl ?_
  refine xr_goto (tgt := 4) dX9_greatestDivisor_30 rfl ?_
  refine xr_iload_n dX9_greatestDivisor_4 0 rfl ?_
  refine xr_iload_n dX9_greatestDivisor_5 3 rfl ?_
  refine xr_icmp_gt (tgt := 33) dX9_greatestDivisor_6 rfl (fun c => absurd c (by decide)) (fun _ => ?_)
  refine xr_iload_n dX9_greatestDivisor_9 2 rfl ?_
  refine xr_iload_n dX9_greatestDivisor_10 0 rfl ?_
  refine xb_cS (As := [.int (9), .int (12)]) (rest := []) mlX9_396 (c_X9_rest 9 12) dX9_greatestDivisor_11 rfl rfl (Nat.le_of_ble_eq_true rfl) (by decide) (by decide) ?_
  refine xb_top (y := 9) (by decide) ?_
  refine xr_if_ne (tgt := 27) dX9_greatestDivisor_14 rfl (fun _ => ?_) (fun c => absurd c (by decide))
  refine xr_iinc (v := 13) (ls2 := [(3, .int (13)), (2, .int (3)), (0, .int (9)), (1, .int (12))]) dX9_greatestDivisor_27 0 rfl rfl (by decide) rfl ?_
  refine xr_goto (tgt := 4) dX9_greatestDivisor_30 rfl ?_
  refine xr_iload_n dX9_greatestDivisor_4 0 rfl ?_
  refine xr_iload_n dX9_greatestDivisor_5 3 rfl ?_
  refine xr_icmp_gt (tgt := 33) dX9_greatestDivisor_6 rfl (fun _ => ?_) (fun c => absurd (by decide) c)
  refine xr_iload_n dX9_greatestDivisor_33 1 rfl ?_
  exact xr_iret dX9_greatestDivisor_34 rfl rfl (⟨by first | rfl | grind, rfl, rfl, rfl⟩)
def z_pw (a b c d e f g h : Int64) (y : Int32) : Int64 := if y = 0 then 1 else if y = 1 then a else if y = 2 then b else if y = 3 then c else if y = 4 then d else if y = 5 then e else if y = 6 then f else if y = 7 then g else h
def z_p3 (y : Int32) : Int64 := z_pw 3 9 27 81 243 729 2187 6561 y
def z_p4 (y : Int32) : Int64 := z_pw 4 16 64 256 1024 4096 16384 65536 y
set_option maxRecDepth 100000 in
set_option maxHeartbeats 4000000 in
theorem p_X9_alone (girl y part : Int32) {l : Launch} {G : xG}  : x_M l G fX9_alone 4 0 0 [.ref (0), .int (girl), .int (y), .int (part)] x_SH z_M x_J0 (qF (some (.long (if (0 ≤ girl ∧ girl < 25) ∧ (0 ≤ y ∧ y ≤ 8) ∧ 0 ≤ part ∧ part ≤ 1 then (if part = 0 then z_p3 y else z_p4 y) else -9223372036854775808)))) := by
  refine xb_of pX9 (Nat.le_of_ble_eq_true rfl) rfl ?_
  refine xr_iload_n dX9_alone_0 1 rfl ?_
  refine xb_cS (As := [.int (girl)]) (rest := []) mlX9_134 (c_X9_isGirl girl) dX9_alone_1 rfl rfl (Nat.le_of_ble_eq_true rfl) (by decide) (by decide) ?_
  refine xb_beq (tgt := 26) dX9_alone_4 rfl (fun c1 => ?_) (fun c1 => ?_)
  · refine xr_ldc2 coX9_286 dX9_alone_26 ?_
    exact xr_lret dX9_alone_29 rfl (⟨congrArg (fun z => some (Value.long z)) (if_neg (by grind)).symm, rfl, by repeat (first | (with_reducible assumption) | (with_reducible exact Fr_z) | (with_reducible exact E0_fr (by assumption)) | ((with_reducible refine Fr_up ?_ ?_); first | decide | omega))⟩)
  · obtain ⟨j, hj, rfl⟩ := x_nat (N := 25) (by decide) rfl c1
    refine xr_iload_n dX9_alone_7 2 rfl ?_
    refine xr_if_lt (tgt := 26) dX9_alone_8 rfl (fun c2 => ?_) (fun c2 => ?_)
    · refine xr_ldc2 coX9_286 dX9_alone_26 ?_
      exact xr_lret dX9_alone_29 rfl (⟨congrArg (fun z => some (Value.long z)) (if_neg (by grind)).symm, rfl, by repeat (first | (with_reducible assumption) | (with_reducible exact Fr_z) | (with_reducible exact E0_fr (by assumption)) | ((with_reducible refine Fr_up ?_ ?_); first | decide | omega))⟩)
    · refine xr_iload_n dX9_alone_11 2 rfl ?_
      refine xr_bipush (v := 8) dX9_alone_12 rfl ?_
      refine xr_icmp_gt (tgt := 26) dX9_alone_14 rfl (fun c3 => ?_) (fun c3 => ?_)
      · refine xr_ldc2 coX9_286 dX9_alone_26 ?_
        exact xr_lret dX9_alone_29 rfl (⟨congrArg (fun z => some (Value.long z)) (if_neg (by grind)).symm, rfl, by repeat (first | (with_reducible assumption) | (with_reducible exact Fr_z) | (with_reducible exact E0_fr (by assumption)) | ((with_reducible refine Fr_up ?_ ?_); first | decide | omega))⟩)
      · refine xr_iload_n dX9_alone_17 3 rfl ?_
        refine xr_if_lt (tgt := 26) dX9_alone_18 rfl (fun c4 => ?_) (fun c4 => ?_)
        · refine xr_ldc2 coX9_286 dX9_alone_26 ?_
          exact xr_lret dX9_alone_29 rfl (⟨congrArg (fun z => some (Value.long z)) (if_neg (by grind)).symm, rfl, by repeat (first | (with_reducible assumption) | (with_reducible exact Fr_z) | (with_reducible exact E0_fr (by assumption)) | ((with_reducible refine Fr_up ?_ ?_); first | decide | omega))⟩)
        · refine xr_iload_n dX9_alone_21 3 rfl ?_
          refine xr_iconst (v := 1) dX9_alone_22 rfl ?_
          refine xr_icmp_le (tgt := 30) dX9_alone_23 rfl (fun c5 => ?_) (fun c5 => ?_)
          · refine xr_aload_n dX9_alone_30 0 rfl ?_
            refine xr_getR flX9_47 dX9_alone_31 s_0 rfl ?_
            refine xr_getR flX9_137 dX9_alone_34 s_35 rfl ?_
            refine xr_iload_n dX9_alone_37 1 rfl ?_
            refine xb_iald (j := j) (v := 9) dX9_alone_38 s_36 hj (by decide) (mi_36 j hj) ?_
            refine xr_istore (ls2 := [(4, .int (9)), (0, .ref (0)), (1, .int (nI (j))), (2, .int (y)), (3, .int (part))]) dX9_alone_39 (by decide) rfl ?_
            refine xr_iload dX9_alone_41 0 rfl ?_
            refine xr_bipush (v := 12) dX9_alone_43 rfl ?_
            refine xb_cS (As := [.int (9), .int (12)]) (rest := []) mlX9_288 (p_gd) dX9_alone_45 rfl rfl (Nat.le_of_ble_eq_true rfl) (by decide) (by decide) ?_
            refine xr_istore (ls2 := [(5, .int (3)), (4, .int (9)), (0, .ref (0)), (1, .int (nI (j))), (2, .int (y)), (3, .int (part))]) dX9_alone_48 (by decide) rfl ?_
            refine xr_iload_n dX9_alone_50 5 rfl ?_
            refine xr_if_ne (tgt := 59) dX9_alone_51 rfl (fun c6 => ?_) (fun c6 => ?_)
            · refine xr_bipush (v := 12) dX9_alone_59 rfl ?_
              refine xr_iconst (v := 1) dX9_alone_61 rfl ?_
              refine xr_iload dX9_alone_62 0 rfl ?_
              refine xr_max mmX9_291 uj_max uj_mi uj_maxc dX9_alone_64 (Nat.le_of_ble_eq_true rfl) (by decide) ?_
              refine xb_top (y := 3) (by decide) ?_
              refine xr_idiv dX9_alone_67 (by decide) ?_
              refine xb_top (y := 4) (by decide) ?_
              refine xr_istore (ls2 := [(6, .int (4)), (5, .int (3)), (4, .int (9)), (0, .ref (0)), (1, .int (nI (j))), (2, .int (y)), (3, .int (part))]) dX9_alone_68 (by decide) rfl ?_
              rcases (show y = 0 ∨ y = 1 ∨ y = 2 ∨ y = 3 ∨ y = 4 ∨ y = 5 ∨ y = 6 ∨ y = 7 ∨ y = 8 by grind) with rfl | rfl | rfl | rfl | rfl | rfl | rfl | rfl | rfl
              · refine xr_lconst (v := 1) dX9_alone_70 rfl ?_
                refine xr_lstore (ls2 := [(7, .long (1)), (6, .int (4)), (5, .int (3)), (4, .int (9)), (0, .ref (0)), (1, .int (nI (j))), (2, .int (0)), (3, .int (part))]) dX9_alone_71 (by decide) rfl ?_
                refine xr_iconst (v := 0) dX9_alone_73 rfl ?_
                refine xr_istore (ls2 := [(9, .int (0)), (7, .long (1)), (6, .int (4)), (5, .int (3)), (4, .int (9)), (0, .ref (0)), (1, .int (nI (j))), (2, .int (0)), (3, .int (part))]) dX9_alone_74 (by decide) rfl ?_
                refine xr_iload dX9_alone_76 0 rfl ?_
                refine xr_iload_n dX9_alone_78 7 rfl ?_
                refine xr_icmp_ge (tgt := 96) dX9_alone_79 rfl (fun _ => ?_) (fun c => absurd (by decide) c)
                refine xr_lload dX9_alone_96 1 rfl ?_
                exact xr_lret dX9_alone_98 rfl (⟨congrArg (fun z => some (Value.long z)) (Eq.symm (Eq.trans (if_pos ⟨by assumption, by decide, by grind, by grind⟩) (Eq.trans (if_neg (by assumption)) (by decide)))), rfl, by repeat (first | (with_reducible assumption) | (with_reducible exact Fr_z) | (with_reducible exact E0_fr (by assumption)) | ((with_reducible refine Fr_up ?_ ?_); first | decide | omega))⟩)
              · refine xr_lconst (v := 1) dX9_alone_70 rfl ?_
                refine xr_lstore (ls2 := [(7, .long (1)), (6, .int (4)), (5, .int (3)), (4, .int (9)), (0, .ref (0)), (1, .int (nI (j))), (2, .int (1)), (3, .int (part))]) dX9_alone_71 (by decide) rfl ?_
                refine xr_iconst (v := 0) dX9_alone_73 rfl ?_
                refine xr_istore (ls2 := [(9, .int (0)), (7, .long (1)), (6, .int (4)), (5, .int (3)), (4, .int (9)), (0, .ref (0)), (1, .int (nI (j))), (2, .int (1)), (3, .int (part))]) dX9_alone_74 (by decide) rfl ?_
                refine xr_iload dX9_alone_76 0 rfl ?_
                refine xr_iload_n dX9_alone_78 7 rfl ?_
                refine xr_icmp_ge (tgt := 96) dX9_alone_79 rfl (fun c => absurd c (by decide)) (fun _ => ?_)
                refine xr_lload dX9_alone_82 1 rfl ?_
                refine xr_iload dX9_alone_84 2 rfl ?_
                refine xr_i2l dX9_alone_86 ?_
                refine xb_topJ (y := 4) (by decide) ?_
                refine xr_lmul dX9_alone_87 ?_
                refine xb_topJ (y := 4) (by decide) ?_
                refine xr_lstore (ls2 := [(7, .long (4)), (9, .int (0)), (6, .int (4)), (5, .int (3)), (4, .int (9)), (0, .ref (0)), (1, .int (nI (j))), (2, .int (1)), (3, .int (part))]) dX9_alone_88 (by decide) rfl ?_
                refine xr_iinc (v := 1) (ls2 := [(9, .int (1)), (7, .long (4)), (6, .int (4)), (5, .int (3)), (4, .int (9)), (0, .ref (0)), (1, .int (nI (j))), (2, .int (1)), (3, .int (part))]) dX9_alone_90 1 rfl rfl (by decide) rfl ?_
                refine xr_goto (tgt := 76) dX9_alone_93 rfl ?_
                refine xr_iload dX9_alone_76 0 rfl ?_
                refine xr_iload_n dX9_alone_78 7 rfl ?_
                refine xr_icmp_ge (tgt := 96) dX9_alone_79 rfl (fun _ => ?_) (fun c => absurd (by decide) c)
                refine xr_lload dX9_alone_96 1 rfl ?_
                exact xr_lret dX9_alone_98 rfl (⟨congrArg (fun z => some (Value.long z)) (Eq.symm (Eq.trans (if_pos ⟨by assumption, by decide, by grind, by grind⟩) (Eq.trans (if_neg (by assumption)) (by decide)))), rfl, by repeat (first | (with_reducible assumption) | (with_reducible exact Fr_z) | (with_reducible exact E0_fr (by assumption)) | ((with_reducible refine Fr_up ?_ ?_); first | decide | omega))⟩)
              · refine xr_lconst (v := 1) dX9_alone_70 rfl ?_
                refine xr_lstore (ls2 := [(7, .long (1)), (6, .int (4)), (5, .int (3)), (4, .int (9)), (0, .ref (0)), (1, .int (nI (j))), (2, .int (2)), (3, .int (part))]) dX9_alone_71 (by decide) rfl ?_
                refine xr_iconst (v := 0) dX9_alone_73 rfl ?_
                refine xr_istore (ls2 := [(9, .int (0)), (7, .long (1)), (6, .int (4)), (5, .int (3)), (4, .int (9)), (0, .ref (0)), (1, .int (nI (j))), (2, .int (2)), (3, .int (part))]) dX9_alone_74 (by decide) rfl ?_
                refine xr_iload dX9_alone_76 0 rfl ?_
                refine xr_iload_n dX9_alone_78 7 rfl ?_
                refine xr_icmp_ge (tgt := 96) dX9_alone_79 rfl (fun c => absurd c (by decide)) (fun _ => ?_)
                refine xr_lload dX9_alone_82 1 rfl ?_
                refine xr_iload dX9_alone_84 2 rfl ?_
                refine xr_i2l dX9_alone_86 ?_
                refine xb_topJ (y := 4) (by decide) ?_
                refine xr_lmul dX9_alone_87 ?_
                refine xb_topJ (y := 4) (by decide) ?_
                refine xr_lstore (ls2 := [(7, .long (4)), (9, .int (0)), (6, .int (4)), (5, .int (3)), (4, .int (9)), (0, .ref (0)), (1, .int (nI (j))), (2, .int (2)), (3, .int (part))]) dX9_alone_88 (by decide) rfl ?_
                refine xr_iinc (v := 1) (ls2 := [(9, .int (1)), (7, .long (4)), (6, .int (4)), (5, .int (3)), (4, .int (9)), (0, .ref (0)), (1, .int (nI (j))), (2, .int (2)), (3, .int (part))]) dX9_alone_90 1 rfl rfl (by decide) rfl ?_
                refine xr_goto (tgt := 76) dX9_alone_93 rfl ?_
                refine xr_iload dX9_alone_76 0 rfl ?_
                refine xr_iload_n dX9_alone_78 7 rfl ?_
                refine xr_icmp_ge (tgt := 96) dX9_alone_79 rfl (fun c => absurd c (by decide)) (fun _ => ?_)
                refine xr_lload dX9_alone_82 1 rfl ?_
                refine xr_iload dX9_alone_84 2 rfl ?_
                refine xr_i2l dX9_alone_86 ?_
                refine xb_topJ (y := 4) (by decide) ?_
                refine xr_lmul dX9_alone_87 ?_
                refine xb_topJ (y := 16) (by decide) ?_
                refine xr_lstore (ls2 := [(7, .long (16)), (9, .int (1)), (6, .int (4)), (5, .int (3)), (4, .int (9)), (0, .ref (0)), (1, .int (nI (j))), (2, .int (2)), (3, .int (part))]) dX9_alone_88 (by decide) rfl ?_
                refine xr_iinc (v := 2) (ls2 := [(9, .int (2)), (7, .long (16)), (6, .int (4)), (5, .int (3)), (4, .int (9)), (0, .ref (0)), (1, .int (nI (j))), (2, .int (2)), (3, .int (part))]) dX9_alone_90 1 rfl rfl (by decide) rfl ?_
                refine xr_goto (tgt := 76) dX9_alone_93 rfl ?_
                refine xr_iload dX9_alone_76 0 rfl ?_
                refine xr_iload_n dX9_alone_78 7 rfl ?_
                refine xr_icmp_ge (tgt := 96) dX9_alone_79 rfl (fun _ => ?_) (fun c => absurd (by decide) c)
                refine xr_lload dX9_alone_96 1 rfl ?_
                exact xr_lret dX9_alone_98 rfl (⟨congrArg (fun z => some (Value.long z)) (Eq.symm (Eq.trans (if_pos ⟨by assumption, by decide, by grind, by grind⟩) (Eq.trans (if_neg (by assumption)) (by decide)))), rfl, by repeat (first | (with_reducible assumption) | (with_reducible exact Fr_z) | (with_reducible exact E0_fr (by assumption)) | ((with_reducible refine Fr_up ?_ ?_); first | decide | omega))⟩)
              · refine xr_lconst (v := 1) dX9_alone_70 rfl ?_
                refine xr_lstore (ls2 := [(7, .long (1)), (6, .int (4)), (5, .int (3)), (4, .int (9)), (0, .ref (0)), (1, .int (nI (j))), (2, .int (3)), (3, .int (part))]) dX9_alone_71 (by decide) rfl ?_
                refine xr_iconst (v := 0) dX9_alone_73 rfl ?_
                refine xr_istore (ls2 := [(9, .int (0)), (7, .long (1)), (6, .int (4)), (5, .int (3)), (4, .int (9)), (0, .ref (0)), (1, .int (nI (j))), (2, .int (3)), (3, .int (part))]) dX9_alone_74 (by decide) rfl ?_
                refine xr_iload dX9_alone_76 0 rfl ?_
                refine xr_iload_n dX9_alone_78 7 rfl ?_
                refine xr_icmp_ge (tgt := 96) dX9_alone_79 rfl (fun c => absurd c (by decide)) (fun _ => ?_)
                refine xr_lload dX9_alone_82 1 rfl ?_
                refine xr_iload dX9_alone_84 2 rfl ?_
                refine xr_i2l dX9_alone_86 ?_
                refine xb_topJ (y := 4) (by decide) ?_
                refine xr_lmul dX9_alone_87 ?_
                refine xb_topJ (y := 4) (by decide) ?_
                refine xr_lstore (ls2 := [(7, .long (4)), (9, .int (0)), (6, .int (4)), (5, .int (3)), (4, .int (9)), (0, .ref (0)), (1, .int (nI (j))), (2, .int (3)), (3, .int (part))]) dX9_alone_88 (by decide) rfl ?_
                refine xr_iinc (v := 1) (ls2 := [(9, .int (1)), (7, .long (4)), (6, .int (4)), (5, .int (3)), (4, .int (9)), (0, .ref (0)), (1, .int (nI (j))), (2, .int (3)), (3, .int (part))]) dX9_alone_90 1 rfl rfl (by decide) rfl ?_
                refine xr_goto (tgt := 76) dX9_alone_93 rfl ?_
                refine xr_iload dX9_alone_76 0 rfl ?_
                refine xr_iload_n dX9_alone_78 7 rfl ?_
                refine xr_icmp_ge (tgt := 96) dX9_alone_79 rfl (fun c => absurd c (by decide)) (fun _ => ?_)
                refine xr_lload dX9_alone_82 1 rfl ?_
                refine xr_iload dX9_alone_84 2 rfl ?_
                refine xr_i2l dX9_alone_86 ?_
                refine xb_topJ (y := 4) (by decide) ?_
                refine xr_lmul dX9_alone_87 ?_
                refine xb_topJ (y := 16) (by decide) ?_
                refine xr_lstore (ls2 := [(7, .long (16)), (9, .int (1)), (6, .int (4)), (5, .int (3)), (4, .int (9)), (0, .ref (0)), (1, .int (nI (j))), (2, .int (3)), (3, .int (part))]) dX9_alone_88 (by decide) rfl ?_
                refine xr_iinc (v := 2) (ls2 := [(9, .int (2)), (7, .long (16)), (6, .int (4)), (5, .int (3)), (4, .int (9)), (0, .ref (0)), (1, .int (nI (j))), (2, .int (3)), (3, .int (part))]) dX9_alone_90 1 rfl rfl (by decide) rfl ?_
                refine xr_goto (tgt := 76) dX9_alone_93 rfl ?_
                refine xr_iload dX9_alone_76 0 rfl ?_
                refine xr_iload_n dX9_alone_78 7 rfl ?_
                refine xr_icmp_ge (tgt := 96) dX9_alone_79 rfl (fun c => absurd c (by decide)) (fun _ => ?_)
                refine xr_lload dX9_alone_82 1 rfl ?_
                refine xr_iload dX9_alone_84 2 rfl ?_
                refine xr_i2l dX9_alone_86 ?_
                refine xb_topJ (y := 4) (by decide) ?_
                refine xr_lmul dX9_alone_87 ?_
                refine xb_topJ (y := 64) (by decide) ?_
                refine xr_lstore (ls2 := [(7, .long (64)), (9, .int (2)), (6, .int (4)), (5, .int (3)), (4, .int (9)), (0, .ref (0)), (1, .int (nI (j))), (2, .int (3)), (3, .int (part))]) dX9_alone_88 (by decide) rfl ?_
                refine xr_iinc (v := 3) (ls2 := [(9, .int (3)), (7, .long (64)), (6, .int (4)), (5, .int (3)), (4, .int (9)), (0, .ref (0)), (1, .int (nI (j))), (2, .int (3)), (3, .int (part))]) dX9_alone_90 1 rfl rfl (by decide) rfl ?_
                refine xr_goto (tgt := 76) dX9_alone_93 rfl ?_
                refine xr_iload dX9_alone_76 0 rfl ?_
                refine xr_iload_n dX9_alone_78 7 rfl ?_
                refine xr_icmp_ge (tgt := 96) dX9_alone_79 rfl (fun _ => ?_) (fun c => absurd (by decide) c)
                refine xr_lload dX9_alone_96 1 rfl ?_
                exact xr_lret dX9_alone_98 rfl (⟨congrArg (fun z => some (Value.long z)) (Eq.symm (Eq.trans (if_pos ⟨by assumption, by decide, by grind, by grind⟩) (Eq.trans (if_neg (by assumption)) (by decide)))), rfl, by repeat (first | (with_reducible assumption) | (with_reducible exact Fr_z) | (with_reducible exact E0_fr (by assumption)) | ((with_reducible refine Fr_up ?_ ?_); first | decide | omega))⟩)
              · refine xr_lconst (v := 1) dX9_alone_70 rfl ?_
                refine xr_lstore (ls2 := [(7, .long (1)), (6, .int (4)), (5, .int (3)), (4, .int (9)), (0, .ref (0)), (1, .int (nI (j))), (2, .int (4)), (3, .int (part))]) dX9_alone_71 (by decide) rfl ?_
                refine xr_iconst (v := 0) dX9_alone_73 rfl ?_
                refine xr_istore (ls2 := [(9, .int (0)), (7, .long (1)), (6, .int (4)), (5, .int (3)), (4, .int (9)), (0, .ref (0)), (1, .int (nI (j))), (2, .int (4)), (3, .int (part))]) dX9_alone_74 (by decide) rfl ?_
                refine xr_iload dX9_alone_76 0 rfl ?_
                refine xr_iload_n dX9_alone_78 7 rfl ?_
                refine xr_icmp_ge (tgt := 96) dX9_alone_79 rfl (fun c => absurd c (by decide)) (fun _ => ?_)
                refine xr_lload dX9_alone_82 1 rfl ?_
                refine xr_iload dX9_alone_84 2 rfl ?_
                refine xr_i2l dX9_alone_86 ?_
                refine xb_topJ (y := 4) (by decide) ?_
                refine xr_lmul dX9_alone_87 ?_
                refine xb_topJ (y := 4) (by decide) ?_
                refine xr_lstore (ls2 := [(7, .long (4)), (9, .int (0)), (6, .int (4)), (5, .int (3)), (4, .int (9)), (0, .ref (0)), (1, .int (nI (j))), (2, .int (4)), (3, .int (part))]) dX9_alone_88 (by decide) rfl ?_
                refine xr_iinc (v := 1) (ls2 := [(9, .int (1)), (7, .long (4)), (6, .int (4)), (5, .int (3)), (4, .int (9)), (0, .ref (0)), (1, .int (nI (j))), (2, .int (4)), (3, .int (part))]) dX9_alone_90 1 rfl rfl (by decide) rfl ?_
                refine xr_goto (tgt := 76) dX9_alone_93 rfl ?_
                refine xr_iload dX9_alone_76 0 rfl ?_
                refine xr_iload_n dX9_alone_78 7 rfl ?_
                refine xr_icmp_ge (tgt := 96) dX9_alone_79 rfl (fun c => absurd c (by decide)) (fun _ => ?_)
                refine xr_lload dX9_alone_82 1 rfl ?_
                refine xr_iload dX9_alone_84 2 rfl ?_
                refine xr_i2l dX9_alone_86 ?_
                refine xb_topJ (y := 4) (by decide) ?_
                refine xr_lmul dX9_alone_87 ?_
                refine xb_topJ (y := 16) (by decide) ?_
                refine xr_lstore (ls2 := [(7, .long (16)), (9, .int (1)), (6, .int (4)), (5, .int (3)), (4, .int (9)), (0, .ref (0)), (1, .int (nI (j))), (2, .int (4)), (3, .int (part))]) dX9_alone_88 (by decide) rfl ?_
                refine xr_iinc (v := 2) (ls2 := [(9, .int (2)), (7, .long (16)), (6, .int (4)), (5, .int (3)), (4, .int (9)), (0, .ref (0)), (1, .int (nI (j))), (2, .int (4)), (3, .int (part))]) dX9_alone_90 1 rfl rfl (by decide) rfl ?_
                refine xr_goto (tgt := 76) dX9_alone_93 rfl ?_
                refine xr_iload dX9_alone_76 0 rfl ?_
                refine xr_iload_n dX9_alone_78 7 rfl ?_
                refine xr_icmp_ge (tgt := 96) dX9_alone_79 rfl (fun c => absurd c (by decide)) (fun _ => ?_)
                refine xr_lload dX9_alone_82 1 rfl ?_
                refine xr_iload dX9_alone_84 2 rfl ?_
                refine xr_i2l dX9_alone_86 ?_
                refine xb_topJ (y := 4) (by decide) ?_
                refine xr_lmul dX9_alone_87 ?_
                refine xb_topJ (y := 64) (by decide) ?_
                refine xr_lstore (ls2 := [(7, .long (64)), (9, .int (2)), (6, .int (4)), (5, .int (3)), (4, .int (9)), (0, .ref (0)), (1, .int (nI (j))), (2, .int (4)), (3, .int (part))]) dX9_alone_88 (by decide) rfl ?_
                refine xr_iinc (v := 3) (ls2 := [(9, .int (3)), (7, .long (64)), (6, .int (4)), (5, .int (3)), (4, .int (9)), (0, .ref (0)), (1, .int (nI (j))), (2, .int (4)), (3, .int (part))]) dX9_alone_90 1 rfl rfl (by decide) rfl ?_
                refine xr_goto (tgt := 76) dX9_alone_93 rfl ?_
                refine xr_iload dX9_alone_76 0 rfl ?_
                refine xr_iload_n dX9_alone_78 7 rfl ?_
                refine xr_icmp_ge (tgt := 96) dX9_alone_79 rfl (fun c => absurd c (by decide)) (fun _ => ?_)
                refine xr_lload dX9_alone_82 1 rfl ?_
                refine xr_iload dX9_alone_84 2 rfl ?_
                refine xr_i2l dX9_alone_86 ?_
                refine xb_topJ (y := 4) (by decide) ?_
                refine xr_lmul dX9_alone_87 ?_
                refine xb_topJ (y := 256) (by decide) ?_
                refine xr_lstore (ls2 := [(7, .long (256)), (9, .int (3)), (6, .int (4)), (5, .int (3)), (4, .int (9)), (0, .ref (0)), (1, .int (nI (j))), (2, .int (4)), (3, .int (part))]) dX9_alone_88 (by decide) rfl ?_
                refine xr_iinc (v := 4) (ls2 := [(9, .int (4)), (7, .long (256)), (6, .int (4)), (5, .int (3)), (4, .int (9)), (0, .ref (0)), (1, .int (nI (j))), (2, .int (4)), (3, .int (part))]) dX9_alone_90 1 rfl rfl (by decide) rfl ?_
                refine xr_goto (tgt := 76) dX9_alone_93 rfl ?_
                refine xr_iload dX9_alone_76 0 rfl ?_
                refine xr_iload_n dX9_alone_78 7 rfl ?_
                refine xr_icmp_ge (tgt := 96) dX9_alone_79 rfl (fun _ => ?_) (fun c => absurd (by decide) c)
                refine xr_lload dX9_alone_96 1 rfl ?_
                exact xr_lret dX9_alone_98 rfl (⟨congrArg (fun z => some (Value.long z)) (Eq.symm (Eq.trans (if_pos ⟨by assumption, by decide, by grind, by grind⟩) (Eq.trans (if_neg (by assumption)) (by decide)))), rfl, by repeat (first | (with_reducible assumption) | (with_reducible exact Fr_z) | (with_reducible exact E0_fr (by assumption)) | ((with_reducible refine Fr_up ?_ ?_); first | decide | omega))⟩)
              · refine xr_lconst (v := 1) dX9_alone_70 rfl ?_
                refine xr_lstore (ls2 := [(7, .long (1)), (6, .int (4)), (5, .int (3)), (4, .int (9)), (0, .ref (0)), (1, .int (nI (j))), (2, .int (5)), (3, .int (part))]) dX9_alone_71 (by decide) rfl ?_
                refine xr_iconst (v := 0) dX9_alone_73 rfl ?_
                refine xr_istore (ls2 := [(9, .int (0)), (7, .long (1)), (6, .int (4)), (5, .int (3)), (4, .int (9)), (0, .ref (0)), (1, .int (nI (j))), (2, .int (5)), (3, .int (part))]) dX9_alone_74 (by decide) rfl ?_
                refine xr_iload dX9_alone_76 0 rfl ?_
                refine xr_iload_n dX9_alone_78 7 rfl ?_
                refine xr_icmp_ge (tgt := 96) dX9_alone_79 rfl (fun c => absurd c (by decide)) (fun _ => ?_)
                refine xr_lload dX9_alone_82 1 rfl ?_
                refine xr_iload dX9_alone_84 2 rfl ?_
                refine xr_i2l dX9_alone_86 ?_
                refine xb_topJ (y := 4) (by decide) ?_
                refine xr_lmul dX9_alone_87 ?_
                refine xb_topJ (y := 4) (by decide) ?_
                refine xr_lstore (ls2 := [(7, .long (4)), (9, .int (0)), (6, .int (4)), (5, .int (3)), (4, .int (9)), (0, .ref (0)), (1, .int (nI (j))), (2, .int (5)), (3, .int (part))]) dX9_alone_88 (by decide) rfl ?_
                refine xr_iinc (v := 1) (ls2 := [(9, .int (1)), (7, .long (4)), (6, .int (4)), (5, .int (3)), (4, .int (9)), (0, .ref (0)), (1, .int (nI (j))), (2, .int (5)), (3, .int (part))]) dX9_alone_90 1 rfl rfl (by decide) rfl ?_
                refine xr_goto (tgt := 76) dX9_alone_93 rfl ?_
                refine xr_iload dX9_alone_76 0 rfl ?_
                refine xr_iload_n dX9_alone_78 7 rfl ?_
                refine xr_icmp_ge (tgt := 96) dX9_alone_79 rfl (fun c => absurd c (by decide)) (fun _ => ?_)
                refine xr_lload dX9_alone_82 1 rfl ?_
                refine xr_iload dX9_alone_84 2 rfl ?_
                refine xr_i2l dX9_alone_86 ?_
                refine xb_topJ (y := 4) (by decide) ?_
                refine xr_lmul dX9_alone_87 ?_
                refine xb_topJ (y := 16) (by decide) ?_
                refine xr_lstore (ls2 := [(7, .long (16)), (9, .int (1)), (6, .int (4)), (5, .int (3)), (4, .int (9)), (0, .ref (0)), (1, .int (nI (j))), (2, .int (5)), (3, .int (part))]) dX9_alone_88 (by decide) rfl ?_
                refine xr_iinc (v := 2) (ls2 := [(9, .int (2)), (7, .long (16)), (6, .int (4)), (5, .int (3)), (4, .int (9)), (0, .ref (0)), (1, .int (nI (j))), (2, .int (5)), (3, .int (part))]) dX9_alone_90 1 rfl rfl (by decide) rfl ?_
                refine xr_goto (tgt := 76) dX9_alone_93 rfl ?_
                refine xr_iload dX9_alone_76 0 rfl ?_
                refine xr_iload_n dX9_alone_78 7 rfl ?_
                refine xr_icmp_ge (tgt := 96) dX9_alone_79 rfl (fun c => absurd c (by decide)) (fun _ => ?_)
                refine xr_lload dX9_alone_82 1 rfl ?_
                refine xr_iload dX9_alone_84 2 rfl ?_
                refine xr_i2l dX9_alone_86 ?_
                refine xb_topJ (y := 4) (by decide) ?_
                refine xr_lmul dX9_alone_87 ?_
                refine xb_topJ (y := 64) (by decide) ?_
                refine xr_lstore (ls2 := [(7, .long (64)), (9, .int (2)), (6, .int (4)), (5, .int (3)), (4, .int (9)), (0, .ref (0)), (1, .int (nI (j))), (2, .int (5)), (3, .int (part))]) dX9_alone_88 (by decide) rfl ?_
                refine xr_iinc (v := 3) (ls2 := [(9, .int (3)), (7, .long (64)), (6, .int (4)), (5, .int (3)), (4, .int (9)), (0, .ref (0)), (1, .int (nI (j))), (2, .int (5)), (3, .int (part))]) dX9_alone_90 1 rfl rfl (by decide) rfl ?_
                refine xr_goto (tgt := 76) dX9_alone_93 rfl ?_
                refine xr_iload dX9_alone_76 0 rfl ?_
                refine xr_iload_n dX9_alone_78 7 rfl ?_
                refine xr_icmp_ge (tgt := 96) dX9_alone_79 rfl (fun c => absurd c (by decide)) (fun _ => ?_)
                refine xr_lload dX9_alone_82 1 rfl ?_
                refine xr_iload dX9_alone_84 2 rfl ?_
                refine xr_i2l dX9_alone_86 ?_
                refine xb_topJ (y := 4) (by decide) ?_
                refine xr_lmul dX9_alone_87 ?_
                refine xb_topJ (y := 256) (by decide) ?_
                refine xr_lstore (ls2 := [(7, .long (256)), (9, .int (3)), (6, .int (4)), (5, .int (3)), (4, .int (9)), (0, .ref (0)), (1, .int (nI (j))), (2, .int (5)), (3, .int (part))]) dX9_alone_88 (by decide) rfl ?_
                refine xr_iinc (v := 4) (ls2 := [(9, .int (4)), (7, .long (256)), (6, .int (4)), (5, .int (3)), (4, .int (9)), (0, .ref (0)), (1, .int (nI (j))), (2, .int (5)), (3, .int (part))]) dX9_alone_90 1 rfl rfl (by decide) rfl ?_
                refine xr_goto (tgt := 76) dX9_alone_93 rfl ?_
                refine xr_iload dX9_alone_76 0 rfl ?_
                refine xr_iload_n dX9_alone_78 7 rfl ?_
                refine xr_icmp_ge (tgt := 96) dX9_alone_79 rfl (fun c => absurd c (by decide)) (fun _ => ?_)
                refine xr_lload dX9_alone_82 1 rfl ?_
                refine xr_iload dX9_alone_84 2 rfl ?_
                refine xr_i2l dX9_alone_86 ?_
                refine xb_topJ (y := 4) (by decide) ?_
                refine xr_lmul dX9_alone_87 ?_
                refine xb_topJ (y := 1024) (by decide) ?_
                refine xr_lstore (ls2 := [(7, .long (1024)), (9, .int (4)), (6, .int (4)), (5, .int (3)), (4, .int (9)), (0, .ref (0)), (1, .int (nI (j))), (2, .int (5)), (3, .int (part))]) dX9_alone_88 (by decide) rfl ?_
                refine xr_iinc (v := 5) (ls2 := [(9, .int (5)), (7, .long (1024)), (6, .int (4)), (5, .int (3)), (4, .int (9)), (0, .ref (0)), (1, .int (nI (j))), (2, .int (5)), (3, .int (part))]) dX9_alone_90 1 rfl rfl (by decide) rfl ?_
                refine xr_goto (tgt := 76) dX9_alone_93 rfl ?_
                refine xr_iload dX9_alone_76 0 rfl ?_
                refine xr_iload_n dX9_alone_78 7 rfl ?_
                refine xr_icmp_ge (tgt := 96) dX9_alone_79 rfl (fun _ => ?_) (fun c => absurd (by decide) c)
                refine xr_lload dX9_alone_96 1 rfl ?_
                exact xr_lret dX9_alone_98 rfl (⟨congrArg (fun z => some (Value.long z)) (Eq.symm (Eq.trans (if_pos ⟨by assumption, by decide, by grind, by grind⟩) (Eq.trans (if_neg (by assumption)) (by decide)))), rfl, by repeat (first | (with_reducible assumption) | (with_reducible exact Fr_z) | (with_reducible exact E0_fr (by assumption)) | ((with_reducible refine Fr_up ?_ ?_); first | decide | omega))⟩)
              · refine xr_lconst (v := 1) dX9_alone_70 rfl ?_
                refine xr_lstore (ls2 := [(7, .long (1)), (6, .int (4)), (5, .int (3)), (4, .int (9)), (0, .ref (0)), (1, .int (nI (j))), (2, .int (6)), (3, .int (part))]) dX9_alone_71 (by decide) rfl ?_
                refine xr_iconst (v := 0) dX9_alone_73 rfl ?_
                refine xr_istore (ls2 := [(9, .int (0)), (7, .long (1)), (6, .int (4)), (5, .int (3)), (4, .int (9)), (0, .ref (0)), (1, .int (nI (j))), (2, .int (6)), (3, .int (part))]) dX9_alone_74 (by decide) rfl ?_
                refine xr_iload dX9_alone_76 0 rfl ?_
                refine xr_iload_n dX9_alone_78 7 rfl ?_
                refine xr_icmp_ge (tgt := 96) dX9_alone_79 rfl (fun c => absurd c (by decide)) (fun _ => ?_)
                refine xr_lload dX9_alone_82 1 rfl ?_
                refine xr_iload dX9_alone_84 2 rfl ?_
                refine xr_i2l dX9_alone_86 ?_
                refine xb_topJ (y := 4) (by decide) ?_
                refine xr_lmul dX9_alone_87 ?_
                refine xb_topJ (y := 4) (by decide) ?_
                refine xr_lstore (ls2 := [(7, .long (4)), (9, .int (0)), (6, .int (4)), (5, .int (3)), (4, .int (9)), (0, .ref (0)), (1, .int (nI (j))), (2, .int (6)), (3, .int (part))]) dX9_alone_88 (by decide) rfl ?_
                refine xr_iinc (v := 1) (ls2 := [(9, .int (1)), (7, .long (4)), (6, .int (4)), (5, .int (3)), (4, .int (9)), (0, .ref (0)), (1, .int (nI (j))), (2, .int (6)), (3, .int (part))]) dX9_alone_90 1 rfl rfl (by decide) rfl ?_
                refine xr_goto (tgt := 76) dX9_alone_93 rfl ?_
                refine xr_iload dX9_alone_76 0 rfl ?_
                refine xr_iload_n dX9_alone_78 7 rfl ?_
                refine xr_icmp_ge (tgt := 96) dX9_alone_79 rfl (fun c => absurd c (by decide)) (fun _ => ?_)
                refine xr_lload dX9_alone_82 1 rfl ?_
                refine xr_iload dX9_alone_84 2 rfl ?_
                refine xr_i2l dX9_alone_86 ?_
                refine xb_topJ (y := 4) (by decide) ?_
                refine xr_lmul dX9_alone_87 ?_
                refine xb_topJ (y := 16) (by decide) ?_
                refine xr_lstore (ls2 := [(7, .long (16)), (9, .int (1)), (6, .int (4)), (5, .int (3)), (4, .int (9)), (0, .ref (0)), (1, .int (nI (j))), (2, .int (6)), (3, .int (part))]) dX9_alone_88 (by decide) rfl ?_
                refine xr_iinc (v := 2) (ls2 := [(9, .int (2)), (7, .long (16)), (6, .int (4)), (5, .int (3)), (4, .int (9)), (0, .ref (0)), (1, .int (nI (j))), (2, .int (6)), (3, .int (part))]) dX9_alone_90 1 rfl rfl (by decide) rfl ?_
                refine xr_goto (tgt := 76) dX9_alone_93 rfl ?_
                refine xr_iload dX9_alone_76 0 rfl ?_
                refine xr_iload_n dX9_alone_78 7 rfl ?_
                refine xr_icmp_ge (tgt := 96) dX9_alone_79 rfl (fun c => absurd c (by decide)) (fun _ => ?_)
                refine xr_lload dX9_alone_82 1 rfl ?_
                refine xr_iload dX9_alone_84 2 rfl ?_
                refine xr_i2l dX9_alone_86 ?_
                refine xb_topJ (y := 4) (by decide) ?_
                refine xr_lmul dX9_alone_87 ?_
                refine xb_topJ (y := 64) (by decide) ?_
                refine xr_lstore (ls2 := [(7, .long (64)), (9, .int (2)), (6, .int (4)), (5, .int (3)), (4, .int (9)), (0, .ref (0)), (1, .int (nI (j))), (2, .int (6)), (3, .int (part))]) dX9_alone_88 (by decide) rfl ?_
                refine xr_iinc (v := 3) (ls2 := [(9, .int (3)), (7, .long (64)), (6, .int (4)), (5, .int (3)), (4, .int (9)), (0, .ref (0)), (1, .int (nI (j))), (2, .int (6)), (3, .int (part))]) dX9_alone_90 1 rfl rfl (by decide) rfl ?_
                refine xr_goto (tgt := 76) dX9_alone_93 rfl ?_
                refine xr_iload dX9_alone_76 0 rfl ?_
                refine xr_iload_n dX9_alone_78 7 rfl ?_
                refine xr_icmp_ge (tgt := 96) dX9_alone_79 rfl (fun c => absurd c (by decide)) (fun _ => ?_)
                refine xr_lload dX9_alone_82 1 rfl ?_
                refine xr_iload dX9_alone_84 2 rfl ?_
                refine xr_i2l dX9_alone_86 ?_
                refine xb_topJ (y := 4) (by decide) ?_
                refine xr_lmul dX9_alone_87 ?_
                refine xb_topJ (y := 256) (by decide) ?_
                refine xr_lstore (ls2 := [(7, .long (256)), (9, .int (3)), (6, .int (4)), (5, .int (3)), (4, .int (9)), (0, .ref (0)), (1, .int (nI (j))), (2, .int (6)), (3, .int (part))]) dX9_alone_88 (by decide) rfl ?_
                refine xr_iinc (v := 4) (ls2 := [(9, .int (4)), (7, .long (256)), (6, .int (4)), (5, .int (3)), (4, .int (9)), (0, .ref (0)), (1, .int (nI (j))), (2, .int (6)), (3, .int (part))]) dX9_alone_90 1 rfl rfl (by decide) rfl ?_
                refine xr_goto (tgt := 76) dX9_alone_93 rfl ?_
                refine xr_iload dX9_alone_76 0 rfl ?_
                refine xr_iload_n dX9_alone_78 7 rfl ?_
                refine xr_icmp_ge (tgt := 96) dX9_alone_79 rfl (fun c => absurd c (by decide)) (fun _ => ?_)
                refine xr_lload dX9_alone_82 1 rfl ?_
                refine xr_iload dX9_alone_84 2 rfl ?_
                refine xr_i2l dX9_alone_86 ?_
                refine xb_topJ (y := 4) (by decide) ?_
                refine xr_lmul dX9_alone_87 ?_
                refine xb_topJ (y := 1024) (by decide) ?_
                refine xr_lstore (ls2 := [(7, .long (1024)), (9, .int (4)), (6, .int (4)), (5, .int (3)), (4, .int (9)), (0, .ref (0)), (1, .int (nI (j))), (2, .int (6)), (3, .int (part))]) dX9_alone_88 (by decide) rfl ?_
                refine xr_iinc (v := 5) (ls2 := [(9, .int (5)), (7, .long (1024)), (6, .int (4)), (5, .int (3)), (4, .int (9)), (0, .ref (0)), (1, .int (nI (j))), (2, .int (6)), (3, .int (part))]) dX9_alone_90 1 rfl rfl (by decide) rfl ?_
                refine xr_goto (tgt := 76) dX9_alone_93 rfl ?_
                refine xr_iload dX9_alone_76 0 rfl ?_
                refine xr_iload_n dX9_alone_78 7 rfl ?_
                refine xr_icmp_ge (tgt := 96) dX9_alone_79 rfl (fun c => absurd c (by decide)) (fun _ => ?_)
                refine xr_lload dX9_alone_82 1 rfl ?_
                refine xr_iload dX9_alone_84 2 rfl ?_
                refine xr_i2l dX9_alone_86 ?_
                refine xb_topJ (y := 4) (by decide) ?_
                refine xr_lmul dX9_alone_87 ?_
                refine xb_topJ (y := 4096) (by decide) ?_
                refine xr_lstore (ls2 := [(7, .long (4096)), (9, .int (5)), (6, .int (4)), (5, .int (3)), (4, .int (9)), (0, .ref (0)), (1, .int (nI (j))), (2, .int (6)), (3, .int (part))]) dX9_alone_88 (by decide) rfl ?_
                refine xr_iinc (v := 6) (ls2 := [(9, .int (6)), (7, .long (4096)), (6, .int (4)), (5, .int (3)), (4, .int (9)), (0, .ref (0)), (1, .int (nI (j))), (2, .int (6)), (3, .int (part))]) dX9_alone_90 1 rfl rfl (by decide) rfl ?_
                refine xr_goto (tgt := 76) dX9_alone_93 rfl ?_
                refine xr_iload dX9_alone_76 0 rfl ?_
                refine xr_iload_n dX9_alone_78 7 rfl ?_
                refine xr_icmp_ge (tgt := 96) dX9_alone_79 rfl (fun _ => ?_) (fun c => absurd (by decide) c)
                refine xr_lload dX9_alone_96 1 rfl ?_
                exact xr_lret dX9_alone_98 rfl (⟨congrArg (fun z => some (Value.long z)) (Eq.symm (Eq.trans (if_pos ⟨by assumption, by decide, by grind, by grind⟩) (Eq.trans (if_neg (by assumption)) (by decide)))), rfl, by repeat (first | (with_reducible assumption) | (with_reducible exact Fr_z) | (with_reducible exact E0_fr (by assumption)) | ((with_reducible refine Fr_up ?_ ?_); first | decide | omega))⟩)
              · refine xr_lconst (v := 1) dX9_alone_70 rfl ?_
                refine xr_lstore (ls2 := [(7, .long (1)), (6, .int (4)), (5, .int (3)), (4, .int (9)), (0, .ref (0)), (1, .int (nI (j))), (2, .int (7)), (3, .int (part))]) dX9_alone_71 (by decide) rfl ?_
                refine xr_iconst (v := 0) dX9_alone_73 rfl ?_
                refine xr_istore (ls2 := [(9, .int (0)), (7, .long (1)), (6, .int (4)), (5, .int (3)), (4, .int (9)), (0, .ref (0)), (1, .int (nI (j))), (2, .int (7)), (3, .int (part))]) dX9_alone_74 (by decide) rfl ?_
                refine xr_iload dX9_alone_76 0 rfl ?_
                refine xr_iload_n dX9_alone_78 7 rfl ?_
                refine xr_icmp_ge (tgt := 96) dX9_alone_79 rfl (fun c => absurd c (by decide)) (fun _ => ?_)
                refine xr_lload dX9_alone_82 1 rfl ?_
                refine xr_iload dX9_alone_84 2 rfl ?_
                refine xr_i2l dX9_alone_86 ?_
                refine xb_topJ (y := 4) (by decide) ?_
                refine xr_lmul dX9_alone_87 ?_
                refine xb_topJ (y := 4) (by decide) ?_
                refine xr_lstore (ls2 := [(7, .long (4)), (9, .int (0)), (6, .int (4)), (5, .int (3)), (4, .int (9)), (0, .ref (0)), (1, .int (nI (j))), (2, .int (7)), (3, .int (part))]) dX9_alone_88 (by decide) rfl ?_
                refine xr_iinc (v := 1) (ls2 := [(9, .int (1)), (7, .long (4)), (6, .int (4)), (5, .int (3)), (4, .int (9)), (0, .ref (0)), (1, .int (nI (j))), (2, .int (7)), (3, .int (part))]) dX9_alone_90 1 rfl rfl (by decide) rfl ?_
                refine xr_goto (tgt := 76) dX9_alone_93 rfl ?_
                refine xr_iload dX9_alone_76 0 rfl ?_
                refine xr_iload_n dX9_alone_78 7 rfl ?_
                refine xr_icmp_ge (tgt := 96) dX9_alone_79 rfl (fun c => absurd c (by decide)) (fun _ => ?_)
                refine xr_lload dX9_alone_82 1 rfl ?_
                refine xr_iload dX9_alone_84 2 rfl ?_
                refine xr_i2l dX9_alone_86 ?_
                refine xb_topJ (y := 4) (by decide) ?_
                refine xr_lmul dX9_alone_87 ?_
                refine xb_topJ (y := 16) (by decide) ?_
                refine xr_lstore (ls2 := [(7, .long (16)), (9, .int (1)), (6, .int (4)), (5, .int (3)), (4, .int (9)), (0, .ref (0)), (1, .int (nI (j))), (2, .int (7)), (3, .int (part))]) dX9_alone_88 (by decide) rfl ?_
                refine xr_iinc (v := 2) (ls2 := [(9, .int (2)), (7, .long (16)), (6, .int (4)), (5, .int (3)), (4, .int (9)), (0, .ref (0)), (1, .int (nI (j))), (2, .int (7)), (3, .int (part))]) dX9_alone_90 1 rfl rfl (by decide) rfl ?_
                refine xr_goto (tgt := 76) dX9_alone_93 rfl ?_
                refine xr_iload dX9_alone_76 0 rfl ?_
                refine xr_iload_n dX9_alone_78 7 rfl ?_
                refine xr_icmp_ge (tgt := 96) dX9_alone_79 rfl (fun c => absurd c (by decide)) (fun _ => ?_)
                refine xr_lload dX9_alone_82 1 rfl ?_
                refine xr_iload dX9_alone_84 2 rfl ?_
                refine xr_i2l dX9_alone_86 ?_
                refine xb_topJ (y := 4) (by decide) ?_
                refine xr_lmul dX9_alone_87 ?_
                refine xb_topJ (y := 64) (by decide) ?_
                refine xr_lstore (ls2 := [(7, .long (64)), (9, .int (2)), (6, .int (4)), (5, .int (3)), (4, .int (9)), (0, .ref (0)), (1, .int (nI (j))), (2, .int (7)), (3, .int (part))]) dX9_alone_88 (by decide) rfl ?_
                refine xr_iinc (v := 3) (ls2 := [(9, .int (3)), (7, .long (64)), (6, .int (4)), (5, .int (3)), (4, .int (9)), (0, .ref (0)), (1, .int (nI (j))), (2, .int (7)), (3, .int (part))]) dX9_alone_90 1 rfl rfl (by decide) rfl ?_
                refine xr_goto (tgt := 76) dX9_alone_93 rfl ?_
                refine xr_iload dX9_alone_76 0 rfl ?_
                refine xr_iload_n dX9_alone_78 7 rfl ?_
                refine xr_icmp_ge (tgt := 96) dX9_alone_79 rfl (fun c => absurd c (by decide)) (fun _ => ?_)
                refine xr_lload dX9_alone_82 1 rfl ?_
                refine xr_iload dX9_alone_84 2 rfl ?_
                refine xr_i2l dX9_alone_86 ?_
                refine xb_topJ (y := 4) (by decide) ?_
                refine xr_lmul dX9_alone_87 ?_
                refine xb_topJ (y := 256) (by decide) ?_
                refine xr_lstore (ls2 := [(7, .long (256)), (9, .int (3)), (6, .int (4)), (5, .int (3)), (4, .int (9)), (0, .ref (0)), (1, .int (nI (j))), (2, .int (7)), (3, .int (part))]) dX9_alone_88 (by decide) rfl ?_
                refine xr_iinc (v := 4) (ls2 := [(9, .int (4)), (7, .long (256)), (6, .int (4)), (5, .int (3)), (4, .int (9)), (0, .ref (0)), (1, .int (nI (j))), (2, .int (7)), (3, .int (part))]) dX9_alone_90 1 rfl rfl (by decide) rfl ?_
                refine xr_goto (tgt := 76) dX9_alone_93 rfl ?_
                refine xr_iload dX9_alone_76 0 rfl ?_
                refine xr_iload_n dX9_alone_78 7 rfl ?_
                refine xr_icmp_ge (tgt := 96) dX9_alone_79 rfl (fun c => absurd c (by decide)) (fun _ => ?_)
                refine xr_lload dX9_alone_82 1 rfl ?_
                refine xr_iload dX9_alone_84 2 rfl ?_
                refine xr_i2l dX9_alone_86 ?_
                refine xb_topJ (y := 4) (by decide) ?_
                refine xr_lmul dX9_alone_87 ?_
                refine xb_topJ (y := 1024) (by decide) ?_
                refine xr_lstore (ls2 := [(7, .long (1024)), (9, .int (4)), (6, .int (4)), (5, .int (3)), (4, .int (9)), (0, .ref (0)), (1, .int (nI (j))), (2, .int (7)), (3, .int (part))]) dX9_alone_88 (by decide) rfl ?_
                refine xr_iinc (v := 5) (ls2 := [(9, .int (5)), (7, .long (1024)), (6, .int (4)), (5, .int (3)), (4, .int (9)), (0, .ref (0)), (1, .int (nI (j))), (2, .int (7)), (3, .int (part))]) dX9_alone_90 1 rfl rfl (by decide) rfl ?_
                refine xr_goto (tgt := 76) dX9_alone_93 rfl ?_
                refine xr_iload dX9_alone_76 0 rfl ?_
                refine xr_iload_n dX9_alone_78 7 rfl ?_
                refine xr_icmp_ge (tgt := 96) dX9_alone_79 rfl (fun c => absurd c (by decide)) (fun _ => ?_)
                refine xr_lload dX9_alone_82 1 rfl ?_
                refine xr_iload dX9_alone_84 2 rfl ?_
                refine xr_i2l dX9_alone_86 ?_
                refine xb_topJ (y := 4) (by decide) ?_
                refine xr_lmul dX9_alone_87 ?_
                refine xb_topJ (y := 4096) (by decide) ?_
                refine xr_lstore (ls2 := [(7, .long (4096)), (9, .int (5)), (6, .int (4)), (5, .int (3)), (4, .int (9)), (0, .ref (0)), (1, .int (nI (j))), (2, .int (7)), (3, .int (part))]) dX9_alone_88 (by decide) rfl ?_
                refine xr_iinc (v := 6) (ls2 := [(9, .int (6)), (7, .long (4096)), (6, .int (4)), (5, .int (3)), (4, .int (9)), (0, .ref (0)), (1, .int (nI (j))), (2, .int (7)), (3, .int (part))]) dX9_alone_90 1 rfl rfl (by decide) rfl ?_
                refine xr_goto (tgt := 76) dX9_alone_93 rfl ?_
                refine xr_iload dX9_alone_76 0 rfl ?_
                refine xr_iload_n dX9_alone_78 7 rfl ?_
                refine xr_icmp_ge (tgt := 96) dX9_alone_79 rfl (fun c => absurd c (by decide)) (fun _ => ?_)
                refine xr_lload dX9_alone_82 1 rfl ?_
                refine xr_iload dX9_alone_84 2 rfl ?_
                refine xr_i2l dX9_alone_86 ?_
                refine xb_topJ (y := 4) (by decide) ?_
                refine xr_lmul dX9_alone_87 ?_
                refine xb_topJ (y := 16384) (by decide) ?_
                refine xr_lstore (ls2 := [(7, .long (16384)), (9, .int (6)), (6, .int (4)), (5, .int (3)), (4, .int (9)), (0, .ref (0)), (1, .int (nI (j))), (2, .int (7)), (3, .int (part))]) dX9_alone_88 (by decide) rfl ?_
                refine xr_iinc (v := 7) (ls2 := [(9, .int (7)), (7, .long (16384)), (6, .int (4)), (5, .int (3)), (4, .int (9)), (0, .ref (0)), (1, .int (nI (j))), (2, .int (7)), (3, .int (part))]) dX9_alone_90 1 rfl rfl (by decide) rfl ?_
                refine xr_goto (tgt := 76) dX9_alone_93 rfl ?_
                refine xr_iload dX9_alone_76 0 rfl ?_
                refine xr_iload_n dX9_alone_78 7 rfl ?_
                refine xr_icmp_ge (tgt := 96) dX9_alone_79 rfl (fun _ => ?_) (fun c => absurd (by decide) c)
                refine xr_lload dX9_alone_96 1 rfl ?_
                exact xr_lret dX9_alone_98 rfl (⟨congrArg (fun z => some (Value.long z)) (Eq.symm (Eq.trans (if_pos ⟨by assumption, by decide, by grind, by grind⟩) (Eq.trans (if_neg (by assumption)) (by decide)))), rfl, by repeat (first | (with_reducible assumption) | (with_reducible exact Fr_z) | (with_reducible exact E0_fr (by assumption)) | ((with_reducible refine Fr_up ?_ ?_); first | decide | omega))⟩)
              · refine xr_lconst (v := 1) dX9_alone_70 rfl ?_
                refine xr_lstore (ls2 := [(7, .long (1)), (6, .int (4)), (5, .int (3)), (4, .int (9)), (0, .ref (0)), (1, .int (nI (j))), (2, .int (8)), (3, .int (part))]) dX9_alone_71 (by decide) rfl ?_
                refine xr_iconst (v := 0) dX9_alone_73 rfl ?_
                refine xr_istore (ls2 := [(9, .int (0)), (7, .long (1)), (6, .int (4)), (5, .int (3)), (4, .int (9)), (0, .ref (0)), (1, .int (nI (j))), (2, .int (8)), (3, .int (part))]) dX9_alone_74 (by decide) rfl ?_
                refine xr_iload dX9_alone_76 0 rfl ?_
                refine xr_iload_n dX9_alone_78 7 rfl ?_
                refine xr_icmp_ge (tgt := 96) dX9_alone_79 rfl (fun c => absurd c (by decide)) (fun _ => ?_)
                refine xr_lload dX9_alone_82 1 rfl ?_
                refine xr_iload dX9_alone_84 2 rfl ?_
                refine xr_i2l dX9_alone_86 ?_
                refine xb_topJ (y := 4) (by decide) ?_
                refine xr_lmul dX9_alone_87 ?_
                refine xb_topJ (y := 4) (by decide) ?_
                refine xr_lstore (ls2 := [(7, .long (4)), (9, .int (0)), (6, .int (4)), (5, .int (3)), (4, .int (9)), (0, .ref (0)), (1, .int (nI (j))), (2, .int (8)), (3, .int (part))]) dX9_alone_88 (by decide) rfl ?_
                refine xr_iinc (v := 1) (ls2 := [(9, .int (1)), (7, .long (4)), (6, .int (4)), (5, .int (3)), (4, .int (9)), (0, .ref (0)), (1, .int (nI (j))), (2, .int (8)), (3, .int (part))]) dX9_alone_90 1 rfl rfl (by decide) rfl ?_
                refine xr_goto (tgt := 76) dX9_alone_93 rfl ?_
                refine xr_iload dX9_alone_76 0 rfl ?_
                refine xr_iload_n dX9_alone_78 7 rfl ?_
                refine xr_icmp_ge (tgt := 96) dX9_alone_79 rfl (fun c => absurd c (by decide)) (fun _ => ?_)
                refine xr_lload dX9_alone_82 1 rfl ?_
                refine xr_iload dX9_alone_84 2 rfl ?_
                refine xr_i2l dX9_alone_86 ?_
                refine xb_topJ (y := 4) (by decide) ?_
                refine xr_lmul dX9_alone_87 ?_
                refine xb_topJ (y := 16) (by decide) ?_
                refine xr_lstore (ls2 := [(7, .long (16)), (9, .int (1)), (6, .int (4)), (5, .int (3)), (4, .int (9)), (0, .ref (0)), (1, .int (nI (j))), (2, .int (8)), (3, .int (part))]) dX9_alone_88 (by decide) rfl ?_
                refine xr_iinc (v := 2) (ls2 := [(9, .int (2)), (7, .long (16)), (6, .int (4)), (5, .int (3)), (4, .int (9)), (0, .ref (0)), (1, .int (nI (j))), (2, .int (8)), (3, .int (part))]) dX9_alone_90 1 rfl rfl (by decide) rfl ?_
                refine xr_goto (tgt := 76) dX9_alone_93 rfl ?_
                refine xr_iload dX9_alone_76 0 rfl ?_
                refine xr_iload_n dX9_alone_78 7 rfl ?_
                refine xr_icmp_ge (tgt := 96) dX9_alone_79 rfl (fun c => absurd c (by decide)) (fun _ => ?_)
                refine xr_lload dX9_alone_82 1 rfl ?_
                refine xr_iload dX9_alone_84 2 rfl ?_
                refine xr_i2l dX9_alone_86 ?_
                refine xb_topJ (y := 4) (by decide) ?_
                refine xr_lmul dX9_alone_87 ?_
                refine xb_topJ (y := 64) (by decide) ?_
                refine xr_lstore (ls2 := [(7, .long (64)), (9, .int (2)), (6, .int (4)), (5, .int (3)), (4, .int (9)), (0, .ref (0)), (1, .int (nI (j))), (2, .int (8)), (3, .int (part))]) dX9_alone_88 (by decide) rfl ?_
                refine xr_iinc (v := 3) (ls2 := [(9, .int (3)), (7, .long (64)), (6, .int (4)), (5, .int (3)), (4, .int (9)), (0, .ref (0)), (1, .int (nI (j))), (2, .int (8)), (3, .int (part))]) dX9_alone_90 1 rfl rfl (by decide) rfl ?_
                refine xr_goto (tgt := 76) dX9_alone_93 rfl ?_
                refine xr_iload dX9_alone_76 0 rfl ?_
                refine xr_iload_n dX9_alone_78 7 rfl ?_
                refine xr_icmp_ge (tgt := 96) dX9_alone_79 rfl (fun c => absurd c (by decide)) (fun _ => ?_)
                refine xr_lload dX9_alone_82 1 rfl ?_
                refine xr_iload dX9_alone_84 2 rfl ?_
                refine xr_i2l dX9_alone_86 ?_
                refine xb_topJ (y := 4) (by decide) ?_
                refine xr_lmul dX9_alone_87 ?_
                refine xb_topJ (y := 256) (by decide) ?_
                refine xr_lstore (ls2 := [(7, .long (256)), (9, .int (3)), (6, .int (4)), (5, .int (3)), (4, .int (9)), (0, .ref (0)), (1, .int (nI (j))), (2, .int (8)), (3, .int (part))]) dX9_alone_88 (by decide) rfl ?_
                refine xr_iinc (v := 4) (ls2 := [(9, .int (4)), (7, .long (256)), (6, .int (4)), (5, .int (3)), (4, .int (9)), (0, .ref (0)), (1, .int (nI (j))), (2, .int (8)), (3, .int (part))]) dX9_alone_90 1 rfl rfl (by decide) rfl ?_
                refine xr_goto (tgt := 76) dX9_alone_93 rfl ?_
                refine xr_iload dX9_alone_76 0 rfl ?_
                refine xr_iload_n dX9_alone_78 7 rfl ?_
                refine xr_icmp_ge (tgt := 96) dX9_alone_79 rfl (fun c => absurd c (by decide)) (fun _ => ?_)
                refine xr_lload dX9_alone_82 1 rfl ?_
                refine xr_iload dX9_alone_84 2 rfl ?_
                refine xr_i2l dX9_alone_86 ?_
                refine xb_topJ (y := 4) (by decide) ?_
                refine xr_lmul dX9_alone_87 ?_
                refine xb_topJ (y := 1024) (by decide) ?_
                refine xr_lstore (ls2 := [(7, .long (1024)), (9, .int (4)), (6, .int (4)), (5, .int (3)), (4, .int (9)), (0, .ref (0)), (1, .int (nI (j))), (2, .int (8)), (3, .int (part))]) dX9_alone_88 (by decide) rfl ?_
                refine xr_iinc (v := 5) (ls2 := [(9, .int (5)), (7, .long (1024)), (6, .int (4)), (5, .int (3)), (4, .int (9)), (0, .ref (0)), (1, .int (nI (j))), (2, .int (8)), (3, .int (part))]) dX9_alone_90 1 rfl rfl (by decide) rfl ?_
                refine xr_goto (tgt := 76) dX9_alone_93 rfl ?_
                refine xr_iload dX9_alone_76 0 rfl ?_
                refine xr_iload_n dX9_alone_78 7 rfl ?_
                refine xr_icmp_ge (tgt := 96) dX9_alone_79 rfl (fun c => absurd c (by decide)) (fun _ => ?_)
                refine xr_lload dX9_alone_82 1 rfl ?_
                refine xr_iload dX9_alone_84 2 rfl ?_
                refine xr_i2l dX9_alone_86 ?_
                refine xb_topJ (y := 4) (by decide) ?_
                refine xr_lmul dX9_alone_87 ?_
                refine xb_topJ (y := 4096) (by decide) ?_
                refine xr_lstore (ls2 := [(7, .long (4096)), (9, .int (5)), (6, .int (4)), (5, .int (3)), (4, .int (9)), (0, .ref (0)), (1, .int (nI (j))), (2, .int (8)), (3, .int (part))]) dX9_alone_88 (by decide) rfl ?_
                refine xr_iinc (v := 6) (ls2 := [(9, .int (6)), (7, .long (4096)), (6, .int (4)), (5, .int (3)), (4, .int (9)), (0, .ref (0)), (1, .int (nI (j))), (2, .int (8)), (3, .int (part))]) dX9_alone_90 1 rfl rfl (by decide) rfl ?_
                refine xr_goto (tgt := 76) dX9_alone_93 rfl ?_
                refine xr_iload dX9_alone_76 0 rfl ?_
                refine xr_iload_n dX9_alone_78 7 rfl ?_
                refine xr_icmp_ge (tgt := 96) dX9_alone_79 rfl (fun c => absurd c (by decide)) (fun _ => ?_)
                refine xr_lload dX9_alone_82 1 rfl ?_
                refine xr_iload dX9_alone_84 2 rfl ?_
                refine xr_i2l dX9_alone_86 ?_
                refine xb_topJ (y := 4) (by decide) ?_
                refine xr_lmul dX9_alone_87 ?_
                refine xb_topJ (y := 16384) (by decide) ?_
                refine xr_lstore (ls2 := [(7, .long (16384)), (9, .int (6)), (6, .int (4)), (5, .int (3)), (4, .int (9)), (0, .ref (0)), (1, .int (nI (j))), (2, .int (8)), (3, .int (part))]) dX9_alone_88 (by decide) rfl ?_
                refine xr_iinc (v := 7) (ls2 := [(9, .int (7)), (7, .long (16384)), (6, .int (4)), (5, .int (3)), (4, .int (9)), (0, .ref (0)), (1, .int (nI (j))), (2, .int (8)), (3, .int (part))]) dX9_alone_90 1 rfl rfl (by decide) rfl ?_
                refine xr_goto (tgt := 76) dX9_alone_93 rfl ?_
                refine xr_iload dX9_alone_76 0 rfl ?_
                refine xr_iload_n dX9_alone_78 7 rfl ?_
                refine xr_icmp_ge (tgt := 96) dX9_alone_79 rfl (fun c => absurd c (by decide)) (fun _ => ?_)
                refine xr_lload dX9_alone_82 1 rfl ?_
                refine xr_iload dX9_alone_84 2 rfl ?_
                refine xr_i2l dX9_alone_86 ?_
                refine xb_topJ (y := 4) (by decide) ?_
                refine xr_lmul dX9_alone_87 ?_
                refine xb_topJ (y := 65536) (by decide) ?_
                refine xr_lstore (ls2 := [(7, .long (65536)), (9, .int (7)), (6, .int (4)), (5, .int (3)), (4, .int (9)), (0, .ref (0)), (1, .int (nI (j))), (2, .int (8)), (3, .int (part))]) dX9_alone_88 (by decide) rfl ?_
                refine xr_iinc (v := 8) (ls2 := [(9, .int (8)), (7, .long (65536)), (6, .int (4)), (5, .int (3)), (4, .int (9)), (0, .ref (0)), (1, .int (nI (j))), (2, .int (8)), (3, .int (part))]) dX9_alone_90 1 rfl rfl (by decide) rfl ?_
                refine xr_goto (tgt := 76) dX9_alone_93 rfl ?_
                refine xr_iload dX9_alone_76 0 rfl ?_
                refine xr_iload_n dX9_alone_78 7 rfl ?_
                refine xr_icmp_ge (tgt := 96) dX9_alone_79 rfl (fun _ => ?_) (fun c => absurd (by decide) c)
                refine xr_lload dX9_alone_96 1 rfl ?_
                exact xr_lret dX9_alone_98 rfl (⟨congrArg (fun z => some (Value.long z)) (Eq.symm (Eq.trans (if_pos ⟨by assumption, by decide, by grind, by grind⟩) (Eq.trans (if_neg (by assumption)) (by decide)))), rfl, by repeat (first | (with_reducible assumption) | (with_reducible exact Fr_z) | (with_reducible exact E0_fr (by assumption)) | ((with_reducible refine Fr_up ?_ ?_); first | decide | omega))⟩)
            · refine xr_iload dX9_alone_54 1 rfl ?_
              refine xr_goto (tgt := 61) dX9_alone_56 rfl ?_
              refine xr_iconst (v := 1) dX9_alone_61 rfl ?_
              refine xr_iload dX9_alone_62 0 rfl ?_
              refine xr_max mmX9_291 uj_max uj_mi uj_maxc dX9_alone_64 (Nat.le_of_ble_eq_true rfl) (by decide) ?_
              refine xb_top (y := 3) (by decide) ?_
              refine xr_idiv dX9_alone_67 (by decide) ?_
              refine xb_top (y := 3) (by decide) ?_
              refine xr_istore (ls2 := [(6, .int (3)), (5, .int (3)), (4, .int (9)), (0, .ref (0)), (1, .int (nI (j))), (2, .int (y)), (3, .int (part))]) dX9_alone_68 (by decide) rfl ?_
              rcases (show y = 0 ∨ y = 1 ∨ y = 2 ∨ y = 3 ∨ y = 4 ∨ y = 5 ∨ y = 6 ∨ y = 7 ∨ y = 8 by grind) with rfl | rfl | rfl | rfl | rfl | rfl | rfl | rfl | rfl
              · refine xr_lconst (v := 1) dX9_alone_70 rfl ?_
                refine xr_lstore (ls2 := [(7, .long (1)), (6, .int (3)), (5, .int (3)), (4, .int (9)), (0, .ref (0)), (1, .int (nI (j))), (2, .int (0)), (3, .int (part))]) dX9_alone_71 (by decide) rfl ?_
                refine xr_iconst (v := 0) dX9_alone_73 rfl ?_
                refine xr_istore (ls2 := [(9, .int (0)), (7, .long (1)), (6, .int (3)), (5, .int (3)), (4, .int (9)), (0, .ref (0)), (1, .int (nI (j))), (2, .int (0)), (3, .int (part))]) dX9_alone_74 (by decide) rfl ?_
                refine xr_iload dX9_alone_76 0 rfl ?_
                refine xr_iload_n dX9_alone_78 7 rfl ?_
                refine xr_icmp_ge (tgt := 96) dX9_alone_79 rfl (fun _ => ?_) (fun c => absurd (by decide) c)
                refine xr_lload dX9_alone_96 1 rfl ?_
                exact xr_lret dX9_alone_98 rfl (⟨congrArg (fun z => some (Value.long z)) (Eq.symm (Eq.trans (if_pos ⟨by assumption, by decide, by grind, by grind⟩) (Eq.trans (if_pos (by assumption)) (by decide)))), rfl, by repeat (first | (with_reducible assumption) | (with_reducible exact Fr_z) | (with_reducible exact E0_fr (by assumption)) | ((with_reducible refine Fr_up ?_ ?_); first | decide | omega))⟩)
              · refine xr_lconst (v := 1) dX9_alone_70 rfl ?_
                refine xr_lstore (ls2 := [(7, .long (1)), (6, .int (3)), (5, .int (3)), (4, .int (9)), (0, .ref (0)), (1, .int (nI (j))), (2, .int (1)), (3, .int (part))]) dX9_alone_71 (by decide) rfl ?_
                refine xr_iconst (v := 0) dX9_alone_73 rfl ?_
                refine xr_istore (ls2 := [(9, .int (0)), (7, .long (1)), (6, .int (3)), (5, .int (3)), (4, .int (9)), (0, .ref (0)), (1, .int (nI (j))), (2, .int (1)), (3, .int (part))]) dX9_alone_74 (by decide) rfl ?_
                refine xr_iload dX9_alone_76 0 rfl ?_
                refine xr_iload_n dX9_alone_78 7 rfl ?_
                refine xr_icmp_ge (tgt := 96) dX9_alone_79 rfl (fun c => absurd c (by decide)) (fun _ => ?_)
                refine xr_lload dX9_alone_82 1 rfl ?_
                refine xr_iload dX9_alone_84 2 rfl ?_
                refine xr_i2l dX9_alone_86 ?_
                refine xb_topJ (y := 3) (by decide) ?_
                refine xr_lmul dX9_alone_87 ?_
                refine xb_topJ (y := 3) (by decide) ?_
                refine xr_lstore (ls2 := [(7, .long (3)), (9, .int (0)), (6, .int (3)), (5, .int (3)), (4, .int (9)), (0, .ref (0)), (1, .int (nI (j))), (2, .int (1)), (3, .int (part))]) dX9_alone_88 (by decide) rfl ?_
                refine xr_iinc (v := 1) (ls2 := [(9, .int (1)), (7, .long (3)), (6, .int (3)), (5, .int (3)), (4, .int (9)), (0, .ref (0)), (1, .int (nI (j))), (2, .int (1)), (3, .int (part))]) dX9_alone_90 1 rfl rfl (by decide) rfl ?_
                refine xr_goto (tgt := 76) dX9_alone_93 rfl ?_
                refine xr_iload dX9_alone_76 0 rfl ?_
                refine xr_iload_n dX9_alone_78 7 rfl ?_
                refine xr_icmp_ge (tgt := 96) dX9_alone_79 rfl (fun _ => ?_) (fun c => absurd (by decide) c)
                refine xr_lload dX9_alone_96 1 rfl ?_
                exact xr_lret dX9_alone_98 rfl (⟨congrArg (fun z => some (Value.long z)) (Eq.symm (Eq.trans (if_pos ⟨by assumption, by decide, by grind, by grind⟩) (Eq.trans (if_pos (by assumption)) (by decide)))), rfl, by repeat (first | (with_reducible assumption) | (with_reducible exact Fr_z) | (with_reducible exact E0_fr (by assumption)) | ((with_reducible refine Fr_up ?_ ?_); first | decide | omega))⟩)
              · refine xr_lconst (v := 1) dX9_alone_70 rfl ?_
                refine xr_lstore (ls2 := [(7, .long (1)), (6, .int (3)), (5, .int (3)), (4, .int (9)), (0, .ref (0)), (1, .int (nI (j))), (2, .int (2)), (3, .int (part))]) dX9_alone_71 (by decide) rfl ?_
                refine xr_iconst (v := 0) dX9_alone_73 rfl ?_
                refine xr_istore (ls2 := [(9, .int (0)), (7, .long (1)), (6, .int (3)), (5, .int (3)), (4, .int (9)), (0, .ref (0)), (1, .int (nI (j))), (2, .int (2)), (3, .int (part))]) dX9_alone_74 (by decide) rfl ?_
                refine xr_iload dX9_alone_76 0 rfl ?_
                refine xr_iload_n dX9_alone_78 7 rfl ?_
                refine xr_icmp_ge (tgt := 96) dX9_alone_79 rfl (fun c => absurd c (by decide)) (fun _ => ?_)
                refine xr_lload dX9_alone_82 1 rfl ?_
                refine xr_iload dX9_alone_84 2 rfl ?_
                refine xr_i2l dX9_alone_86 ?_
                refine xb_topJ (y := 3) (by decide) ?_
                refine xr_lmul dX9_alone_87 ?_
                refine xb_topJ (y := 3) (by decide) ?_
                refine xr_lstore (ls2 := [(7, .long (3)), (9, .int (0)), (6, .int (3)), (5, .int (3)), (4, .int (9)), (0, .ref (0)), (1, .int (nI (j))), (2, .int (2)), (3, .int (part))]) dX9_alone_88 (by decide) rfl ?_
                refine xr_iinc (v := 1) (ls2 := [(9, .int (1)), (7, .long (3)), (6, .int (3)), (5, .int (3)), (4, .int (9)), (0, .ref (0)), (1, .int (nI (j))), (2, .int (2)), (3, .int (part))]) dX9_alone_90 1 rfl rfl (by decide) rfl ?_
                refine xr_goto (tgt := 76) dX9_alone_93 rfl ?_
                refine xr_iload dX9_alone_76 0 rfl ?_
                refine xr_iload_n dX9_alone_78 7 rfl ?_
                refine xr_icmp_ge (tgt := 96) dX9_alone_79 rfl (fun c => absurd c (by decide)) (fun _ => ?_)
                refine xr_lload dX9_alone_82 1 rfl ?_
                refine xr_iload dX9_alone_84 2 rfl ?_
                refine xr_i2l dX9_alone_86 ?_
                refine xb_topJ (y := 3) (by decide) ?_
                refine xr_lmul dX9_alone_87 ?_
                refine xb_topJ (y := 9) (by decide) ?_
                refine xr_lstore (ls2 := [(7, .long (9)), (9, .int (1)), (6, .int (3)), (5, .int (3)), (4, .int (9)), (0, .ref (0)), (1, .int (nI (j))), (2, .int (2)), (3, .int (part))]) dX9_alone_88 (by decide) rfl ?_
                refine xr_iinc (v := 2) (ls2 := [(9, .int (2)), (7, .long (9)), (6, .int (3)), (5, .int (3)), (4, .int (9)), (0, .ref (0)), (1, .int (nI (j))), (2, .int (2)), (3, .int (part))]) dX9_alone_90 1 rfl rfl (by decide) rfl ?_
                refine xr_goto (tgt := 76) dX9_alone_93 rfl ?_
                refine xr_iload dX9_alone_76 0 rfl ?_
                refine xr_iload_n dX9_alone_78 7 rfl ?_
                refine xr_icmp_ge (tgt := 96) dX9_alone_79 rfl (fun _ => ?_) (fun c => absurd (by decide) c)
                refine xr_lload dX9_alone_96 1 rfl ?_
                exact xr_lret dX9_alone_98 rfl (⟨congrArg (fun z => some (Value.long z)) (Eq.symm (Eq.trans (if_pos ⟨by assumption, by decide, by grind, by grind⟩) (Eq.trans (if_pos (by assumption)) (by decide)))), rfl, by repeat (first | (with_reducible assumption) | (with_reducible exact Fr_z) | (with_reducible exact E0_fr (by assumption)) | ((with_reducible refine Fr_up ?_ ?_); first | decide | omega))⟩)
              · refine xr_lconst (v := 1) dX9_alone_70 rfl ?_
                refine xr_lstore (ls2 := [(7, .long (1)), (6, .int (3)), (5, .int (3)), (4, .int (9)), (0, .ref (0)), (1, .int (nI (j))), (2, .int (3)), (3, .int (part))]) dX9_alone_71 (by decide) rfl ?_
                refine xr_iconst (v := 0) dX9_alone_73 rfl ?_
                refine xr_istore (ls2 := [(9, .int (0)), (7, .long (1)), (6, .int (3)), (5, .int (3)), (4, .int (9)), (0, .ref (0)), (1, .int (nI (j))), (2, .int (3)), (3, .int (part))]) dX9_alone_74 (by decide) rfl ?_
                refine xr_iload dX9_alone_76 0 rfl ?_
                refine xr_iload_n dX9_alone_78 7 rfl ?_
                refine xr_icmp_ge (tgt := 96) dX9_alone_79 rfl (fun c => absurd c (by decide)) (fun _ => ?_)
                refine xr_lload dX9_alone_82 1 rfl ?_
                refine xr_iload dX9_alone_84 2 rfl ?_
                refine xr_i2l dX9_alone_86 ?_
                refine xb_topJ (y := 3) (by decide) ?_
                refine xr_lmul dX9_alone_87 ?_
                refine xb_topJ (y := 3) (by decide) ?_
                refine xr_lstore (ls2 := [(7, .long (3)), (9, .int (0)), (6, .int (3)), (5, .int (3)), (4, .int (9)), (0, .ref (0)), (1, .int (nI (j))), (2, .int (3)), (3, .int (part))]) dX9_alone_88 (by decide) rfl ?_
                refine xr_iinc (v := 1) (ls2 := [(9, .int (1)), (7, .long (3)), (6, .int (3)), (5, .int (3)), (4, .int (9)), (0, .ref (0)), (1, .int (nI (j))), (2, .int (3)), (3, .int (part))]) dX9_alone_90 1 rfl rfl (by decide) rfl ?_
                refine xr_goto (tgt := 76) dX9_alone_93 rfl ?_
                refine xr_iload dX9_alone_76 0 rfl ?_
                refine xr_iload_n dX9_alone_78 7 rfl ?_
                refine xr_icmp_ge (tgt := 96) dX9_alone_79 rfl (fun c => absurd c (by decide)) (fun _ => ?_)
                refine xr_lload dX9_alone_82 1 rfl ?_
                refine xr_iload dX9_alone_84 2 rfl ?_
                refine xr_i2l dX9_alone_86 ?_
                refine xb_topJ (y := 3) (by decide) ?_
                refine xr_lmul dX9_alone_87 ?_
                refine xb_topJ (y := 9) (by decide) ?_
                refine xr_lstore (ls2 := [(7, .long (9)), (9, .int (1)), (6, .int (3)), (5, .int (3)), (4, .int (9)), (0, .ref (0)), (1, .int (nI (j))), (2, .int (3)), (3, .int (part))]) dX9_alone_88 (by decide) rfl ?_
                refine xr_iinc (v := 2) (ls2 := [(9, .int (2)), (7, .long (9)), (6, .int (3)), (5, .int (3)), (4, .int (9)), (0, .ref (0)), (1, .int (nI (j))), (2, .int (3)), (3, .int (part))]) dX9_alone_90 1 rfl rfl (by decide) rfl ?_
                refine xr_goto (tgt := 76) dX9_alone_93 rfl ?_
                refine xr_iload dX9_alone_76 0 rfl ?_
                refine xr_iload_n dX9_alone_78 7 rfl ?_
                refine xr_icmp_ge (tgt := 96) dX9_alone_79 rfl (fun c => absurd c (by decide)) (fun _ => ?_)
                refine xr_lload dX9_alone_82 1 rfl ?_
                refine xr_iload dX9_alone_84 2 rfl ?_
                refine xr_i2l dX9_alone_86 ?_
                refine xb_topJ (y := 3) (by decide) ?_
                refine xr_lmul dX9_alone_87 ?_
                refine xb_topJ (y := 27) (by decide) ?_
                refine xr_lstore (ls2 := [(7, .long (27)), (9, .int (2)), (6, .int (3)), (5, .int (3)), (4, .int (9)), (0, .ref (0)), (1, .int (nI (j))), (2, .int (3)), (3, .int (part))]) dX9_alone_88 (by decide) rfl ?_
                refine xr_iinc (v := 3) (ls2 := [(9, .int (3)), (7, .long (27)), (6, .int (3)), (5, .int (3)), (4, .int (9)), (0, .ref (0)), (1, .int (nI (j))), (2, .int (3)), (3, .int (part))]) dX9_alone_90 1 rfl rfl (by decide) rfl ?_
                refine xr_goto (tgt := 76) dX9_alone_93 rfl ?_
                refine xr_iload dX9_alone_76 0 rfl ?_
                refine xr_iload_n dX9_alone_78 7 rfl ?_
                refine xr_icmp_ge (tgt := 96) dX9_alone_79 rfl (fun _ => ?_) (fun c => absurd (by decide) c)
                refine xr_lload dX9_alone_96 1 rfl ?_
                exact xr_lret dX9_alone_98 rfl (⟨congrArg (fun z => some (Value.long z)) (Eq.symm (Eq.trans (if_pos ⟨by assumption, by decide, by grind, by grind⟩) (Eq.trans (if_pos (by assumption)) (by decide)))), rfl, by repeat (first | (with_reducible assumption) | (with_reducible exact Fr_z) | (with_reducible exact E0_fr (by assumption)) | ((with_reducible refine Fr_up ?_ ?_); first | decide | omega))⟩)
              · refine xr_lconst (v := 1) dX9_alone_70 rfl ?_
                refine xr_lstore (ls2 := [(7, .long (1)), (6, .int (3)), (5, .int (3)), (4, .int (9)), (0, .ref (0)), (1, .int (nI (j))), (2, .int (4)), (3, .int (part))]) dX9_alone_71 (by decide) rfl ?_
                refine xr_iconst (v := 0) dX9_alone_73 rfl ?_
                refine xr_istore (ls2 := [(9, .int (0)), (7, .long (1)), (6, .int (3)), (5, .int (3)), (4, .int (9)), (0, .ref (0)), (1, .int (nI (j))), (2, .int (4)), (3, .int (part))]) dX9_alone_74 (by decide) rfl ?_
                refine xr_iload dX9_alone_76 0 rfl ?_
                refine xr_iload_n dX9_alone_78 7 rfl ?_
                refine xr_icmp_ge (tgt := 96) dX9_alone_79 rfl (fun c => absurd c (by decide)) (fun _ => ?_)
                refine xr_lload dX9_alone_82 1 rfl ?_
                refine xr_iload dX9_alone_84 2 rfl ?_
                refine xr_i2l dX9_alone_86 ?_
                refine xb_topJ (y := 3) (by decide) ?_
                refine xr_lmul dX9_alone_87 ?_
                refine xb_topJ (y := 3) (by decide) ?_
                refine xr_lstore (ls2 := [(7, .long (3)), (9, .int (0)), (6, .int (3)), (5, .int (3)), (4, .int (9)), (0, .ref (0)), (1, .int (nI (j))), (2, .int (4)), (3, .int (part))]) dX9_alone_88 (by decide) rfl ?_
                refine xr_iinc (v := 1) (ls2 := [(9, .int (1)), (7, .long (3)), (6, .int (3)), (5, .int (3)), (4, .int (9)), (0, .ref (0)), (1, .int (nI (j))), (2, .int (4)), (3, .int (part))]) dX9_alone_90 1 rfl rfl (by decide) rfl ?_
                refine xr_goto (tgt := 76) dX9_alone_93 rfl ?_
                refine xr_iload dX9_alone_76 0 rfl ?_
                refine xr_iload_n dX9_alone_78 7 rfl ?_
                refine xr_icmp_ge (tgt := 96) dX9_alone_79 rfl (fun c => absurd c (by decide)) (fun _ => ?_)
                refine xr_lload dX9_alone_82 1 rfl ?_
                refine xr_iload dX9_alone_84 2 rfl ?_
                refine xr_i2l dX9_alone_86 ?_
                refine xb_topJ (y := 3) (by decide) ?_
                refine xr_lmul dX9_alone_87 ?_
                refine xb_topJ (y := 9) (by decide) ?_
                refine xr_lstore (ls2 := [(7, .long (9)), (9, .int (1)), (6, .int (3)), (5, .int (3)), (4, .int (9)), (0, .ref (0)), (1, .int (nI (j))), (2, .int (4)), (3, .int (part))]) dX9_alone_88 (by decide) rfl ?_
                refine xr_iinc (v := 2) (ls2 := [(9, .int (2)), (7, .long (9)), (6, .int (3)), (5, .int (3)), (4, .int (9)), (0, .ref (0)), (1, .int (nI (j))), (2, .int (4)), (3, .int (part))]) dX9_alone_90 1 rfl rfl (by decide) rfl ?_
                refine xr_goto (tgt := 76) dX9_alone_93 rfl ?_
                refine xr_iload dX9_alone_76 0 rfl ?_
                refine xr_iload_n dX9_alone_78 7 rfl ?_
                refine xr_icmp_ge (tgt := 96) dX9_alone_79 rfl (fun c => absurd c (by decide)) (fun _ => ?_)
                refine xr_lload dX9_alone_82 1 rfl ?_
                refine xr_iload dX9_alone_84 2 rfl ?_
                refine xr_i2l dX9_alone_86 ?_
                refine xb_topJ (y := 3) (by decide) ?_
                refine xr_lmul dX9_alone_87 ?_
                refine xb_topJ (y := 27) (by decide) ?_
                refine xr_lstore (ls2 := [(7, .long (27)), (9, .int (2)), (6, .int (3)), (5, .int (3)), (4, .int (9)), (0, .ref (0)), (1, .int (nI (j))), (2, .int (4)), (3, .int (part))]) dX9_alone_88 (by decide) rfl ?_
                refine xr_iinc (v := 3) (ls2 := [(9, .int (3)), (7, .long (27)), (6, .int (3)), (5, .int (3)), (4, .int (9)), (0, .ref (0)), (1, .int (nI (j))), (2, .int (4)), (3, .int (part))]) dX9_alone_90 1 rfl rfl (by decide) rfl ?_
                refine xr_goto (tgt := 76) dX9_alone_93 rfl ?_
                refine xr_iload dX9_alone_76 0 rfl ?_
                refine xr_iload_n dX9_alone_78 7 rfl ?_
                refine xr_icmp_ge (tgt := 96) dX9_alone_79 rfl (fun c => absurd c (by decide)) (fun _ => ?_)
                refine xr_lload dX9_alone_82 1 rfl ?_
                refine xr_iload dX9_alone_84 2 rfl ?_
                refine xr_i2l dX9_alone_86 ?_
                refine xb_topJ (y := 3) (by decide) ?_
                refine xr_lmul dX9_alone_87 ?_
                refine xb_topJ (y := 81) (by decide) ?_
                refine xr_lstore (ls2 := [(7, .long (81)), (9, .int (3)), (6, .int (3)), (5, .int (3)), (4, .int (9)), (0, .ref (0)), (1, .int (nI (j))), (2, .int (4)), (3, .int (part))]) dX9_alone_88 (by decide) rfl ?_
                refine xr_iinc (v := 4) (ls2 := [(9, .int (4)), (7, .long (81)), (6, .int (3)), (5, .int (3)), (4, .int (9)), (0, .ref (0)), (1, .int (nI (j))), (2, .int (4)), (3, .int (part))]) dX9_alone_90 1 rfl rfl (by decide) rfl ?_
                refine xr_goto (tgt := 76) dX9_alone_93 rfl ?_
                refine xr_iload dX9_alone_76 0 rfl ?_
                refine xr_iload_n dX9_alone_78 7 rfl ?_
                refine xr_icmp_ge (tgt := 96) dX9_alone_79 rfl (fun _ => ?_) (fun c => absurd (by decide) c)
                refine xr_lload dX9_alone_96 1 rfl ?_
                exact xr_lret dX9_alone_98 rfl (⟨congrArg (fun z => some (Value.long z)) (Eq.symm (Eq.trans (if_pos ⟨by assumption, by decide, by grind, by grind⟩) (Eq.trans (if_pos (by assumption)) (by decide)))), rfl, by repeat (first | (with_reducible assumption) | (with_reducible exact Fr_z) | (with_reducible exact E0_fr (by assumption)) | ((with_reducible refine Fr_up ?_ ?_); first | decide | omega))⟩)
              · refine xr_lconst (v := 1) dX9_alone_70 rfl ?_
                refine xr_lstore (ls2 := [(7, .long (1)), (6, .int (3)), (5, .int (3)), (4, .int (9)), (0, .ref (0)), (1, .int (nI (j))), (2, .int (5)), (3, .int (part))]) dX9_alone_71 (by decide) rfl ?_
                refine xr_iconst (v := 0) dX9_alone_73 rfl ?_
                refine xr_istore (ls2 := [(9, .int (0)), (7, .long (1)), (6, .int (3)), (5, .int (3)), (4, .int (9)), (0, .ref (0)), (1, .int (nI (j))), (2, .int (5)), (3, .int (part))]) dX9_alone_74 (by decide) rfl ?_
                refine xr_iload dX9_alone_76 0 rfl ?_
                refine xr_iload_n dX9_alone_78 7 rfl ?_
                refine xr_icmp_ge (tgt := 96) dX9_alone_79 rfl (fun c => absurd c (by decide)) (fun _ => ?_)
                refine xr_lload dX9_alone_82 1 rfl ?_
                refine xr_iload dX9_alone_84 2 rfl ?_
                refine xr_i2l dX9_alone_86 ?_
                refine xb_topJ (y := 3) (by decide) ?_
                refine xr_lmul dX9_alone_87 ?_
                refine xb_topJ (y := 3) (by decide) ?_
                refine xr_lstore (ls2 := [(7, .long (3)), (9, .int (0)), (6, .int (3)), (5, .int (3)), (4, .int (9)), (0, .ref (0)), (1, .int (nI (j))), (2, .int (5)), (3, .int (part))]) dX9_alone_88 (by decide) rfl ?_
                refine xr_iinc (v := 1) (ls2 := [(9, .int (1)), (7, .long (3)), (6, .int (3)), (5, .int (3)), (4, .int (9)), (0, .ref (0)), (1, .int (nI (j))), (2, .int (5)), (3, .int (part))]) dX9_alone_90 1 rfl rfl (by decide) rfl ?_
                refine xr_goto (tgt := 76) dX9_alone_93 rfl ?_
                refine xr_iload dX9_alone_76 0 rfl ?_
                refine xr_iload_n dX9_alone_78 7 rfl ?_
                refine xr_icmp_ge (tgt := 96) dX9_alone_79 rfl (fun c => absurd c (by decide)) (fun _ => ?_)
                refine xr_lload dX9_alone_82 1 rfl ?_
                refine xr_iload dX9_alone_84 2 rfl ?_
                refine xr_i2l dX9_alone_86 ?_
                refine xb_topJ (y := 3) (by decide) ?_
                refine xr_lmul dX9_alone_87 ?_
                refine xb_topJ (y := 9) (by decide) ?_
                refine xr_lstore (ls2 := [(7, .long (9)), (9, .int (1)), (6, .int (3)), (5, .int (3)), (4, .int (9)), (0, .ref (0)), (1, .int (nI (j))), (2, .int (5)), (3, .int (part))]) dX9_alone_88 (by decide) rfl ?_
                refine xr_iinc (v := 2) (ls2 := [(9, .int (2)), (7, .long (9)), (6, .int (3)), (5, .int (3)), (4, .int (9)), (0, .ref (0)), (1, .int (nI (j))), (2, .int (5)), (3, .int (part))]) dX9_alone_90 1 rfl rfl (by decide) rfl ?_
                refine xr_goto (tgt := 76) dX9_alone_93 rfl ?_
                refine xr_iload dX9_alone_76 0 rfl ?_
                refine xr_iload_n dX9_alone_78 7 rfl ?_
                refine xr_icmp_ge (tgt := 96) dX9_alone_79 rfl (fun c => absurd c (by decide)) (fun _ => ?_)
                refine xr_lload dX9_alone_82 1 rfl ?_
                refine xr_iload dX9_alone_84 2 rfl ?_
                refine xr_i2l dX9_alone_86 ?_
                refine xb_topJ (y := 3) (by decide) ?_
                refine xr_lmul dX9_alone_87 ?_
                refine xb_topJ (y := 27) (by decide) ?_
                refine xr_lstore (ls2 := [(7, .long (27)), (9, .int (2)), (6, .int (3)), (5, .int (3)), (4, .int (9)), (0, .ref (0)), (1, .int (nI (j))), (2, .int (5)), (3, .int (part))]) dX9_alone_88 (by decide) rfl ?_
                refine xr_iinc (v := 3) (ls2 := [(9, .int (3)), (7, .long (27)), (6, .int (3)), (5, .int (3)), (4, .int (9)), (0, .ref (0)), (1, .int (nI (j))), (2, .int (5)), (3, .int (part))]) dX9_alone_90 1 rfl rfl (by decide) rfl ?_
                refine xr_goto (tgt := 76) dX9_alone_93 rfl ?_
                refine xr_iload dX9_alone_76 0 rfl ?_
                refine xr_iload_n dX9_alone_78 7 rfl ?_
                refine xr_icmp_ge (tgt := 96) dX9_alone_79 rfl (fun c => absurd c (by decide)) (fun _ => ?_)
                refine xr_lload dX9_alone_82 1 rfl ?_
                refine xr_iload dX9_alone_84 2 rfl ?_
                refine xr_i2l dX9_alone_86 ?_
                refine xb_topJ (y := 3) (by decide) ?_
                refine xr_lmul dX9_alone_87 ?_
                refine xb_topJ (y := 81) (by decide) ?_
                refine xr_lstore (ls2 := [(7, .long (81)), (9, .int (3)), (6, .int (3)), (5, .int (3)), (4, .int (9)), (0, .ref (0)), (1, .int (nI (j))), (2, .int (5)), (3, .int (part))]) dX9_alone_88 (by decide) rfl ?_
                refine xr_iinc (v := 4) (ls2 := [(9, .int (4)), (7, .long (81)), (6, .int (3)), (5, .int (3)), (4, .int (9)), (0, .ref (0)), (1, .int (nI (j))), (2, .int (5)), (3, .int (part))]) dX9_alone_90 1 rfl rfl (by decide) rfl ?_
                refine xr_goto (tgt := 76) dX9_alone_93 rfl ?_
                refine xr_iload dX9_alone_76 0 rfl ?_
                refine xr_iload_n dX9_alone_78 7 rfl ?_
                refine xr_icmp_ge (tgt := 96) dX9_alone_79 rfl (fun c => absurd c (by decide)) (fun _ => ?_)
                refine xr_lload dX9_alone_82 1 rfl ?_
                refine xr_iload dX9_alone_84 2 rfl ?_
                refine xr_i2l dX9_alone_86 ?_
                refine xb_topJ (y := 3) (by decide) ?_
                refine xr_lmul dX9_alone_87 ?_
                refine xb_topJ (y := 243) (by decide) ?_
                refine xr_lstore (ls2 := [(7, .long (243)), (9, .int (4)), (6, .int (3)), (5, .int (3)), (4, .int (9)), (0, .ref (0)), (1, .int (nI (j))), (2, .int (5)), (3, .int (part))]) dX9_alone_88 (by decide) rfl ?_
                refine xr_iinc (v := 5) (ls2 := [(9, .int (5)), (7, .long (243)), (6, .int (3)), (5, .int (3)), (4, .int (9)), (0, .ref (0)), (1, .int (nI (j))), (2, .int (5)), (3, .int (part))]) dX9_alone_90 1 rfl rfl (by decide) rfl ?_
                refine xr_goto (tgt := 76) dX9_alone_93 rfl ?_
                refine xr_iload dX9_alone_76 0 rfl ?_
                refine xr_iload_n dX9_alone_78 7 rfl ?_
                refine xr_icmp_ge (tgt := 96) dX9_alone_79 rfl (fun _ => ?_) (fun c => absurd (by decide) c)
                refine xr_lload dX9_alone_96 1 rfl ?_
                exact xr_lret dX9_alone_98 rfl (⟨congrArg (fun z => some (Value.long z)) (Eq.symm (Eq.trans (if_pos ⟨by assumption, by decide, by grind, by grind⟩) (Eq.trans (if_pos (by assumption)) (by decide)))), rfl, by repeat (first | (with_reducible assumption) | (with_reducible exact Fr_z) | (with_reducible exact E0_fr (by assumption)) | ((with_reducible refine Fr_up ?_ ?_); first | decide | omega))⟩)
              · refine xr_lconst (v := 1) dX9_alone_70 rfl ?_
                refine xr_lstore (ls2 := [(7, .long (1)), (6, .int (3)), (5, .int (3)), (4, .int (9)), (0, .ref (0)), (1, .int (nI (j))), (2, .int (6)), (3, .int (part))]) dX9_alone_71 (by decide) rfl ?_
                refine xr_iconst (v := 0) dX9_alone_73 rfl ?_
                refine xr_istore (ls2 := [(9, .int (0)), (7, .long (1)), (6, .int (3)), (5, .int (3)), (4, .int (9)), (0, .ref (0)), (1, .int (nI (j))), (2, .int (6)), (3, .int (part))]) dX9_alone_74 (by decide) rfl ?_
                refine xr_iload dX9_alone_76 0 rfl ?_
                refine xr_iload_n dX9_alone_78 7 rfl ?_
                refine xr_icmp_ge (tgt := 96) dX9_alone_79 rfl (fun c => absurd c (by decide)) (fun _ => ?_)
                refine xr_lload dX9_alone_82 1 rfl ?_
                refine xr_iload dX9_alone_84 2 rfl ?_
                refine xr_i2l dX9_alone_86 ?_
                refine xb_topJ (y := 3) (by decide) ?_
                refine xr_lmul dX9_alone_87 ?_
                refine xb_topJ (y := 3) (by decide) ?_
                refine xr_lstore (ls2 := [(7, .long (3)), (9, .int (0)), (6, .int (3)), (5, .int (3)), (4, .int (9)), (0, .ref (0)), (1, .int (nI (j))), (2, .int (6)), (3, .int (part))]) dX9_alone_88 (by decide) rfl ?_
                refine xr_iinc (v := 1) (ls2 := [(9, .int (1)), (7, .long (3)), (6, .int (3)), (5, .int (3)), (4, .int (9)), (0, .ref (0)), (1, .int (nI (j))), (2, .int (6)), (3, .int (part))]) dX9_alone_90 1 rfl rfl (by decide) rfl ?_
                refine xr_goto (tgt := 76) dX9_alone_93 rfl ?_
                refine xr_iload dX9_alone_76 0 rfl ?_
                refine xr_iload_n dX9_alone_78 7 rfl ?_
                refine xr_icmp_ge (tgt := 96) dX9_alone_79 rfl (fun c => absurd c (by decide)) (fun _ => ?_)
                refine xr_lload dX9_alone_82 1 rfl ?_
                refine xr_iload dX9_alone_84 2 rfl ?_
                refine xr_i2l dX9_alone_86 ?_
                refine xb_topJ (y := 3) (by decide) ?_
                refine xr_lmul dX9_alone_87 ?_
                refine xb_topJ (y := 9) (by decide) ?_
                refine xr_lstore (ls2 := [(7, .long (9)), (9, .int (1)), (6, .int (3)), (5, .int (3)), (4, .int (9)), (0, .ref (0)), (1, .int (nI (j))), (2, .int (6)), (3, .int (part))]) dX9_alone_88 (by decide) rfl ?_
                refine xr_iinc (v := 2) (ls2 := [(9, .int (2)), (7, .long (9)), (6, .int (3)), (5, .int (3)), (4, .int (9)), (0, .ref (0)), (1, .int (nI (j))), (2, .int (6)), (3, .int (part))]) dX9_alone_90 1 rfl rfl (by decide) rfl ?_
                refine xr_goto (tgt := 76) dX9_alone_93 rfl ?_
                refine xr_iload dX9_alone_76 0 rfl ?_
                refine xr_iload_n dX9_alone_78 7 rfl ?_
                refine xr_icmp_ge (tgt := 96) dX9_alone_79 rfl (fun c => absurd c (by decide)) (fun _ => ?_)
                refine xr_lload dX9_alone_82 1 rfl ?_
                refine xr_iload dX9_alone_84 2 rfl ?_
                refine xr_i2l dX9_alone_86 ?_
                refine xb_topJ (y := 3) (by decide) ?_
                refine xr_lmul dX9_alone_87 ?_
                refine xb_topJ (y := 27) (by decide) ?_
                refine xr_lstore (ls2 := [(7, .long (27)), (9, .int (2)), (6, .int (3)), (5, .int (3)), (4, .int (9)), (0, .ref (0)), (1, .int (nI (j))), (2, .int (6)), (3, .int (part))]) dX9_alone_88 (by decide) rfl ?_
                refine xr_iinc (v := 3) (ls2 := [(9, .int (3)), (7, .long (27)), (6, .int (3)), (5, .int (3)), (4, .int (9)), (0, .ref (0)), (1, .int (nI (j))), (2, .int (6)), (3, .int (part))]) dX9_alone_90 1 rfl rfl (by decide) rfl ?_
                refine xr_goto (tgt := 76) dX9_alone_93 rfl ?_
                refine xr_iload dX9_alone_76 0 rfl ?_
                refine xr_iload_n dX9_alone_78 7 rfl ?_
                refine xr_icmp_ge (tgt := 96) dX9_alone_79 rfl (fun c => absurd c (by decide)) (fun _ => ?_)
                refine xr_lload dX9_alone_82 1 rfl ?_
                refine xr_iload dX9_alone_84 2 rfl ?_
                refine xr_i2l dX9_alone_86 ?_
                refine xb_topJ (y := 3) (by decide) ?_
                refine xr_lmul dX9_alone_87 ?_
                refine xb_topJ (y := 81) (by decide) ?_
                refine xr_lstore (ls2 := [(7, .long (81)), (9, .int (3)), (6, .int (3)), (5, .int (3)), (4, .int (9)), (0, .ref (0)), (1, .int (nI (j))), (2, .int (6)), (3, .int (part))]) dX9_alone_88 (by decide) rfl ?_
                refine xr_iinc (v := 4) (ls2 := [(9, .int (4)), (7, .long (81)), (6, .int (3)), (5, .int (3)), (4, .int (9)), (0, .ref (0)), (1, .int (nI (j))), (2, .int (6)), (3, .int (part))]) dX9_alone_90 1 rfl rfl (by decide) rfl ?_
                refine xr_goto (tgt := 76) dX9_alone_93 rfl ?_
                refine xr_iload dX9_alone_76 0 rfl ?_
                refine xr_iload_n dX9_alone_78 7 rfl ?_
                refine xr_icmp_ge (tgt := 96) dX9_alone_79 rfl (fun c => absurd c (by decide)) (fun _ => ?_)
                refine xr_lload dX9_alone_82 1 rfl ?_
                refine xr_iload dX9_alone_84 2 rfl ?_
                refine xr_i2l dX9_alone_86 ?_
                refine xb_topJ (y := 3) (by decide) ?_
                refine xr_lmul dX9_alone_87 ?_
                refine xb_topJ (y := 243) (by decide) ?_
                refine xr_lstore (ls2 := [(7, .long (243)), (9, .int (4)), (6, .int (3)), (5, .int (3)), (4, .int (9)), (0, .ref (0)), (1, .int (nI (j))), (2, .int (6)), (3, .int (part))]) dX9_alone_88 (by decide) rfl ?_
                refine xr_iinc (v := 5) (ls2 := [(9, .int (5)), (7, .long (243)), (6, .int (3)), (5, .int (3)), (4, .int (9)), (0, .ref (0)), (1, .int (nI (j))), (2, .int (6)), (3, .int (part))]) dX9_alone_90 1 rfl rfl (by decide) rfl ?_
                refine xr_goto (tgt := 76) dX9_alone_93 rfl ?_
                refine xr_iload dX9_alone_76 0 rfl ?_
                refine xr_iload_n dX9_alone_78 7 rfl ?_
                refine xr_icmp_ge (tgt := 96) dX9_alone_79 rfl (fun c => absurd c (by decide)) (fun _ => ?_)
                refine xr_lload dX9_alone_82 1 rfl ?_
                refine xr_iload dX9_alone_84 2 rfl ?_
                refine xr_i2l dX9_alone_86 ?_
                refine xb_topJ (y := 3) (by decide) ?_
                refine xr_lmul dX9_alone_87 ?_
                refine xb_topJ (y := 729) (by decide) ?_
                refine xr_lstore (ls2 := [(7, .long (729)), (9, .int (5)), (6, .int (3)), (5, .int (3)), (4, .int (9)), (0, .ref (0)), (1, .int (nI (j))), (2, .int (6)), (3, .int (part))]) dX9_alone_88 (by decide) rfl ?_
                refine xr_iinc (v := 6) (ls2 := [(9, .int (6)), (7, .long (729)), (6, .int (3)), (5, .int (3)), (4, .int (9)), (0, .ref (0)), (1, .int (nI (j))), (2, .int (6)), (3, .int (part))]) dX9_alone_90 1 rfl rfl (by decide) rfl ?_
                refine xr_goto (tgt := 76) dX9_alone_93 rfl ?_
                refine xr_iload dX9_alone_76 0 rfl ?_
                refine xr_iload_n dX9_alone_78 7 rfl ?_
                refine xr_icmp_ge (tgt := 96) dX9_alone_79 rfl (fun _ => ?_) (fun c => absurd (by decide) c)
                refine xr_lload dX9_alone_96 1 rfl ?_
                exact xr_lret dX9_alone_98 rfl (⟨congrArg (fun z => some (Value.long z)) (Eq.symm (Eq.trans (if_pos ⟨by assumption, by decide, by grind, by grind⟩) (Eq.trans (if_pos (by assumption)) (by decide)))), rfl, by repeat (first | (with_reducible assumption) | (with_reducible exact Fr_z) | (with_reducible exact E0_fr (by assumption)) | ((with_reducible refine Fr_up ?_ ?_); first | decide | omega))⟩)
              · refine xr_lconst (v := 1) dX9_alone_70 rfl ?_
                refine xr_lstore (ls2 := [(7, .long (1)), (6, .int (3)), (5, .int (3)), (4, .int (9)), (0, .ref (0)), (1, .int (nI (j))), (2, .int (7)), (3, .int (part))]) dX9_alone_71 (by decide) rfl ?_
                refine xr_iconst (v := 0) dX9_alone_73 rfl ?_
                refine xr_istore (ls2 := [(9, .int (0)), (7, .long (1)), (6, .int (3)), (5, .int (3)), (4, .int (9)), (0, .ref (0)), (1, .int (nI (j))), (2, .int (7)), (3, .int (part))]) dX9_alone_74 (by decide) rfl ?_
                refine xr_iload dX9_alone_76 0 rfl ?_
                refine xr_iload_n dX9_alone_78 7 rfl ?_
                refine xr_icmp_ge (tgt := 96) dX9_alone_79 rfl (fun c => absurd c (by decide)) (fun _ => ?_)
                refine xr_lload dX9_alone_82 1 rfl ?_
                refine xr_iload dX9_alone_84 2 rfl ?_
                refine xr_i2l dX9_alone_86 ?_
                refine xb_topJ (y := 3) (by decide) ?_
                refine xr_lmul dX9_alone_87 ?_
                refine xb_topJ (y := 3) (by decide) ?_
                refine xr_lstore (ls2 := [(7, .long (3)), (9, .int (0)), (6, .int (3)), (5, .int (3)), (4, .int (9)), (0, .ref (0)), (1, .int (nI (j))), (2, .int (7)), (3, .int (part))]) dX9_alone_88 (by decide) rfl ?_
                refine xr_iinc (v := 1) (ls2 := [(9, .int (1)), (7, .long (3)), (6, .int (3)), (5, .int (3)), (4, .int (9)), (0, .ref (0)), (1, .int (nI (j))), (2, .int (7)), (3, .int (part))]) dX9_alone_90 1 rfl rfl (by decide) rfl ?_
                refine xr_goto (tgt := 76) dX9_alone_93 rfl ?_
                refine xr_iload dX9_alone_76 0 rfl ?_
                refine xr_iload_n dX9_alone_78 7 rfl ?_
                refine xr_icmp_ge (tgt := 96) dX9_alone_79 rfl (fun c => absurd c (by decide)) (fun _ => ?_)
                refine xr_lload dX9_alone_82 1 rfl ?_
                refine xr_iload dX9_alone_84 2 rfl ?_
                refine xr_i2l dX9_alone_86 ?_
                refine xb_topJ (y := 3) (by decide) ?_
                refine xr_lmul dX9_alone_87 ?_
                refine xb_topJ (y := 9) (by decide) ?_
                refine xr_lstore (ls2 := [(7, .long (9)), (9, .int (1)), (6, .int (3)), (5, .int (3)), (4, .int (9)), (0, .ref (0)), (1, .int (nI (j))), (2, .int (7)), (3, .int (part))]) dX9_alone_88 (by decide) rfl ?_
                refine xr_iinc (v := 2) (ls2 := [(9, .int (2)), (7, .long (9)), (6, .int (3)), (5, .int (3)), (4, .int (9)), (0, .ref (0)), (1, .int (nI (j))), (2, .int (7)), (3, .int (part))]) dX9_alone_90 1 rfl rfl (by decide) rfl ?_
                refine xr_goto (tgt := 76) dX9_alone_93 rfl ?_
                refine xr_iload dX9_alone_76 0 rfl ?_
                refine xr_iload_n dX9_alone_78 7 rfl ?_
                refine xr_icmp_ge (tgt := 96) dX9_alone_79 rfl (fun c => absurd c (by decide)) (fun _ => ?_)
                refine xr_lload dX9_alone_82 1 rfl ?_
                refine xr_iload dX9_alone_84 2 rfl ?_
                refine xr_i2l dX9_alone_86 ?_
                refine xb_topJ (y := 3) (by decide) ?_
                refine xr_lmul dX9_alone_87 ?_
                refine xb_topJ (y := 27) (by decide) ?_
                refine xr_lstore (ls2 := [(7, .long (27)), (9, .int (2)), (6, .int (3)), (5, .int (3)), (4, .int (9)), (0, .ref (0)), (1, .int (nI (j))), (2, .int (7)), (3, .int (part))]) dX9_alone_88 (by decide) rfl ?_
                refine xr_iinc (v := 3) (ls2 := [(9, .int (3)), (7, .long (27)), (6, .int (3)), (5, .int (3)), (4, .int (9)), (0, .ref (0)), (1, .int (nI (j))), (2, .int (7)), (3, .int (part))]) dX9_alone_90 1 rfl rfl (by decide) rfl ?_
                refine xr_goto (tgt := 76) dX9_alone_93 rfl ?_
                refine xr_iload dX9_alone_76 0 rfl ?_
                refine xr_iload_n dX9_alone_78 7 rfl ?_
                refine xr_icmp_ge (tgt := 96) dX9_alone_79 rfl (fun c => absurd c (by decide)) (fun _ => ?_)
                refine xr_lload dX9_alone_82 1 rfl ?_
                refine xr_iload dX9_alone_84 2 rfl ?_
                refine xr_i2l dX9_alone_86 ?_
                refine xb_topJ (y := 3) (by decide) ?_
                refine xr_lmul dX9_alone_87 ?_
                refine xb_topJ (y := 81) (by decide) ?_
                refine xr_lstore (ls2 := [(7, .long (81)), (9, .int (3)), (6, .int (3)), (5, .int (3)), (4, .int (9)), (0, .ref (0)), (1, .int (nI (j))), (2, .int (7)), (3, .int (part))]) dX9_alone_88 (by decide) rfl ?_
                refine xr_iinc (v := 4) (ls2 := [(9, .int (4)), (7, .long (81)), (6, .int (3)), (5, .int (3)), (4, .int (9)), (0, .ref (0)), (1, .int (nI (j))), (2, .int (7)), (3, .int (part))]) dX9_alone_90 1 rfl rfl (by decide) rfl ?_
                refine xr_goto (tgt := 76) dX9_alone_93 rfl ?_
                refine xr_iload dX9_alone_76 0 rfl ?_
                refine xr_iload_n dX9_alone_78 7 rfl ?_
                refine xr_icmp_ge (tgt := 96) dX9_alone_79 rfl (fun c => absurd c (by decide)) (fun _ => ?_)
                refine xr_lload dX9_alone_82 1 rfl ?_
                refine xr_iload dX9_alone_84 2 rfl ?_
                refine xr_i2l dX9_alone_86 ?_
                refine xb_topJ (y := 3) (by decide) ?_
                refine xr_lmul dX9_alone_87 ?_
                refine xb_topJ (y := 243) (by decide) ?_
                refine xr_lstore (ls2 := [(7, .long (243)), (9, .int (4)), (6, .int (3)), (5, .int (3)), (4, .int (9)), (0, .ref (0)), (1, .int (nI (j))), (2, .int (7)), (3, .int (part))]) dX9_alone_88 (by decide) rfl ?_
                refine xr_iinc (v := 5) (ls2 := [(9, .int (5)), (7, .long (243)), (6, .int (3)), (5, .int (3)), (4, .int (9)), (0, .ref (0)), (1, .int (nI (j))), (2, .int (7)), (3, .int (part))]) dX9_alone_90 1 rfl rfl (by decide) rfl ?_
                refine xr_goto (tgt := 76) dX9_alone_93 rfl ?_
                refine xr_iload dX9_alone_76 0 rfl ?_
                refine xr_iload_n dX9_alone_78 7 rfl ?_
                refine xr_icmp_ge (tgt := 96) dX9_alone_79 rfl (fun c => absurd c (by decide)) (fun _ => ?_)
                refine xr_lload dX9_alone_82 1 rfl ?_
                refine xr_iload dX9_alone_84 2 rfl ?_
                refine xr_i2l dX9_alone_86 ?_
                refine xb_topJ (y := 3) (by decide) ?_
                refine xr_lmul dX9_alone_87 ?_
                refine xb_topJ (y := 729) (by decide) ?_
                refine xr_lstore (ls2 := [(7, .long (729)), (9, .int (5)), (6, .int (3)), (5, .int (3)), (4, .int (9)), (0, .ref (0)), (1, .int (nI (j))), (2, .int (7)), (3, .int (part))]) dX9_alone_88 (by decide) rfl ?_
                refine xr_iinc (v := 6) (ls2 := [(9, .int (6)), (7, .long (729)), (6, .int (3)), (5, .int (3)), (4, .int (9)), (0, .ref (0)), (1, .int (nI (j))), (2, .int (7)), (3, .int (part))]) dX9_alone_90 1 rfl rfl (by decide) rfl ?_
                refine xr_goto (tgt := 76) dX9_alone_93 rfl ?_
                refine xr_iload dX9_alone_76 0 rfl ?_
                refine xr_iload_n dX9_alone_78 7 rfl ?_
                refine xr_icmp_ge (tgt := 96) dX9_alone_79 rfl (fun c => absurd c (by decide)) (fun _ => ?_)
                refine xr_lload dX9_alone_82 1 rfl ?_
                refine xr_iload dX9_alone_84 2 rfl ?_
                refine xr_i2l dX9_alone_86 ?_
                refine xb_topJ (y := 3) (by decide) ?_
                refine xr_lmul dX9_alone_87 ?_
                refine xb_topJ (y := 2187) (by decide) ?_
                refine xr_lstore (ls2 := [(7, .long (2187)), (9, .int (6)), (6, .int (3)), (5, .int (3)), (4, .int (9)), (0, .ref (0)), (1, .int (nI (j))), (2, .int (7)), (3, .int (part))]) dX9_alone_88 (by decide) rfl ?_
                refine xr_iinc (v := 7) (ls2 := [(9, .int (7)), (7, .long (2187)), (6, .int (3)), (5, .int (3)), (4, .int (9)), (0, .ref (0)), (1, .int (nI (j))), (2, .int (7)), (3, .int (part))]) dX9_alone_90 1 rfl rfl (by decide) rfl ?_
                refine xr_goto (tgt := 76) dX9_alone_93 rfl ?_
                refine xr_iload dX9_alone_76 0 rfl ?_
                refine xr_iload_n dX9_alone_78 7 rfl ?_
                refine xr_icmp_ge (tgt := 96) dX9_alone_79 rfl (fun _ => ?_) (fun c => absurd (by decide) c)
                refine xr_lload dX9_alone_96 1 rfl ?_
                exact xr_lret dX9_alone_98 rfl (⟨congrArg (fun z => some (Value.long z)) (Eq.symm (Eq.trans (if_pos ⟨by assumption, by decide, by grind, by grind⟩) (Eq.trans (if_pos (by assumption)) (by decide)))), rfl, by repeat (first | (with_reducible assumption) | (with_reducible exact Fr_z) | (with_reducible exact E0_fr (by assumption)) | ((with_reducible refine Fr_up ?_ ?_); first | decide | omega))⟩)
              · refine xr_lconst (v := 1) dX9_alone_70 rfl ?_
                refine xr_lstore (ls2 := [(7, .long (1)), (6, .int (3)), (5, .int (3)), (4, .int (9)), (0, .ref (0)), (1, .int (nI (j))), (2, .int (8)), (3, .int (part))]) dX9_alone_71 (by decide) rfl ?_
                refine xr_iconst (v := 0) dX9_alone_73 rfl ?_
                refine xr_istore (ls2 := [(9, .int (0)), (7, .long (1)), (6, .int (3)), (5, .int (3)), (4, .int (9)), (0, .ref (0)), (1, .int (nI (j))), (2, .int (8)), (3, .int (part))]) dX9_alone_74 (by decide) rfl ?_
                refine xr_iload dX9_alone_76 0 rfl ?_
                refine xr_iload_n dX9_alone_78 7 rfl ?_
                refine xr_icmp_ge (tgt := 96) dX9_alone_79 rfl (fun c => absurd c (by decide)) (fun _ => ?_)
                refine xr_lload dX9_alone_82 1 rfl ?_
                refine xr_iload dX9_alone_84 2 rfl ?_
                refine xr_i2l dX9_alone_86 ?_
                refine xb_topJ (y := 3) (by decide) ?_
                refine xr_lmul dX9_alone_87 ?_
                refine xb_topJ (y := 3) (by decide) ?_
                refine xr_lstore (ls2 := [(7, .long (3)), (9, .int (0)), (6, .int (3)), (5, .int (3)), (4, .int (9)), (0, .ref (0)), (1, .int (nI (j))), (2, .int (8)), (3, .int (part))]) dX9_alone_88 (by decide) rfl ?_
                refine xr_iinc (v := 1) (ls2 := [(9, .int (1)), (7, .long (3)), (6, .int (3)), (5, .int (3)), (4, .int (9)), (0, .ref (0)), (1, .int (nI (j))), (2, .int (8)), (3, .int (part))]) dX9_alone_90 1 rfl rfl (by decide) rfl ?_
                refine xr_goto (tgt := 76) dX9_alone_93 rfl ?_
                refine xr_iload dX9_alone_76 0 rfl ?_
                refine xr_iload_n dX9_alone_78 7 rfl ?_
                refine xr_icmp_ge (tgt := 96) dX9_alone_79 rfl (fun c => absurd c (by decide)) (fun _ => ?_)
                refine xr_lload dX9_alone_82 1 rfl ?_
                refine xr_iload dX9_alone_84 2 rfl ?_
                refine xr_i2l dX9_alone_86 ?_
                refine xb_topJ (y := 3) (by decide) ?_
                refine xr_lmul dX9_alone_87 ?_
                refine xb_topJ (y := 9) (by decide) ?_
                refine xr_lstore (ls2 := [(7, .long (9)), (9, .int (1)), (6, .int (3)), (5, .int (3)), (4, .int (9)), (0, .ref (0)), (1, .int (nI (j))), (2, .int (8)), (3, .int (part))]) dX9_alone_88 (by decide) rfl ?_
                refine xr_iinc (v := 2) (ls2 := [(9, .int (2)), (7, .long (9)), (6, .int (3)), (5, .int (3)), (4, .int (9)), (0, .ref (0)), (1, .int (nI (j))), (2, .int (8)), (3, .int (part))]) dX9_alone_90 1 rfl rfl (by decide) rfl ?_
                refine xr_goto (tgt := 76) dX9_alone_93 rfl ?_
                refine xr_iload dX9_alone_76 0 rfl ?_
                refine xr_iload_n dX9_alone_78 7 rfl ?_
                refine xr_icmp_ge (tgt := 96) dX9_alone_79 rfl (fun c => absurd c (by decide)) (fun _ => ?_)
                refine xr_lload dX9_alone_82 1 rfl ?_
                refine xr_iload dX9_alone_84 2 rfl ?_
                refine xr_i2l dX9_alone_86 ?_
                refine xb_topJ (y := 3) (by decide) ?_
                refine xr_lmul dX9_alone_87 ?_
                refine xb_topJ (y := 27) (by decide) ?_
                refine xr_lstore (ls2 := [(7, .long (27)), (9, .int (2)), (6, .int (3)), (5, .int (3)), (4, .int (9)), (0, .ref (0)), (1, .int (nI (j))), (2, .int (8)), (3, .int (part))]) dX9_alone_88 (by decide) rfl ?_
                refine xr_iinc (v := 3) (ls2 := [(9, .int (3)), (7, .long (27)), (6, .int (3)), (5, .int (3)), (4, .int (9)), (0, .ref (0)), (1, .int (nI (j))), (2, .int (8)), (3, .int (part))]) dX9_alone_90 1 rfl rfl (by decide) rfl ?_
                refine xr_goto (tgt := 76) dX9_alone_93 rfl ?_
                refine xr_iload dX9_alone_76 0 rfl ?_
                refine xr_iload_n dX9_alone_78 7 rfl ?_
                refine xr_icmp_ge (tgt := 96) dX9_alone_79 rfl (fun c => absurd c (by decide)) (fun _ => ?_)
                refine xr_lload dX9_alone_82 1 rfl ?_
                refine xr_iload dX9_alone_84 2 rfl ?_
                refine xr_i2l dX9_alone_86 ?_
                refine xb_topJ (y := 3) (by decide) ?_
                refine xr_lmul dX9_alone_87 ?_
                refine xb_topJ (y := 81) (by decide) ?_
                refine xr_lstore (ls2 := [(7, .long (81)), (9, .int (3)), (6, .int (3)), (5, .int (3)), (4, .int (9)), (0, .ref (0)), (1, .int (nI (j))), (2, .int (8)), (3, .int (part))]) dX9_alone_88 (by decide) rfl ?_
                refine xr_iinc (v := 4) (ls2 := [(9, .int (4)), (7, .long (81)), (6, .int (3)), (5, .int (3)), (4, .int (9)), (0, .ref (0)), (1, .int (nI (j))), (2, .int (8)), (3, .int (part))]) dX9_alone_90 1 rfl rfl (by decide) rfl ?_
                refine xr_goto (tgt := 76) dX9_alone_93 rfl ?_
                refine xr_iload dX9_alone_76 0 rfl ?_
                refine xr_iload_n dX9_alone_78 7 rfl ?_
                refine xr_icmp_ge (tgt := 96) dX9_alone_79 rfl (fun c => absurd c (by decide)) (fun _ => ?_)
                refine xr_lload dX9_alone_82 1 rfl ?_
                refine xr_iload dX9_alone_84 2 rfl ?_
                refine xr_i2l dX9_alone_86 ?_
                refine xb_topJ (y := 3) (by decide) ?_
                refine xr_lmul dX9_alone_87 ?_
                refine xb_topJ (y := 243) (by decide) ?_
                refine xr_lstore (ls2 := [(7, .long (243)), (9, .int (4)), (6, .int (3)), (5, .int (3)), (4, .int (9)), (0, .ref (0)), (1, .int (nI (j))), (2, .int (8)), (3, .int (part))]) dX9_alone_88 (by decide) rfl ?_
                refine xr_iinc (v := 5) (ls2 := [(9, .int (5)), (7, .long (243)), (6, .int (3)), (5, .int (3)), (4, .int (9)), (0, .ref (0)), (1, .int (nI (j))), (2, .int (8)), (3, .int (part))]) dX9_alone_90 1 rfl rfl (by decide) rfl ?_
                refine xr_goto (tgt := 76) dX9_alone_93 rfl ?_
                refine xr_iload dX9_alone_76 0 rfl ?_
                refine xr_iload_n dX9_alone_78 7 rfl ?_
                refine xr_icmp_ge (tgt := 96) dX9_alone_79 rfl (fun c => absurd c (by decide)) (fun _ => ?_)
                refine xr_lload dX9_alone_82 1 rfl ?_
                refine xr_iload dX9_alone_84 2 rfl ?_
                refine xr_i2l dX9_alone_86 ?_
                refine xb_topJ (y := 3) (by decide) ?_
                refine xr_lmul dX9_alone_87 ?_
                refine xb_topJ (y := 729) (by decide) ?_
                refine xr_lstore (ls2 := [(7, .long (729)), (9, .int (5)), (6, .int (3)), (5, .int (3)), (4, .int (9)), (0, .ref (0)), (1, .int (nI (j))), (2, .int (8)), (3, .int (part))]) dX9_alone_88 (by decide) rfl ?_
                refine xr_iinc (v := 6) (ls2 := [(9, .int (6)), (7, .long (729)), (6, .int (3)), (5, .int (3)), (4, .int (9)), (0, .ref (0)), (1, .int (nI (j))), (2, .int (8)), (3, .int (part))]) dX9_alone_90 1 rfl rfl (by decide) rfl ?_
                refine xr_goto (tgt := 76) dX9_alone_93 rfl ?_
                refine xr_iload dX9_alone_76 0 rfl ?_
                refine xr_iload_n dX9_alone_78 7 rfl ?_
                refine xr_icmp_ge (tgt := 96) dX9_alone_79 rfl (fun c => absurd c (by decide)) (fun _ => ?_)
                refine xr_lload dX9_alone_82 1 rfl ?_
                refine xr_iload dX9_alone_84 2 rfl ?_
                refine xr_i2l dX9_alone_86 ?_
                refine xb_topJ (y := 3) (by decide) ?_
                refine xr_lmul dX9_alone_87 ?_
                refine xb_topJ (y := 2187) (by decide) ?_
                refine xr_lstore (ls2 := [(7, .long (2187)), (9, .int (6)), (6, .int (3)), (5, .int (3)), (4, .int (9)), (0, .ref (0)), (1, .int (nI (j))), (2, .int (8)), (3, .int (part))]) dX9_alone_88 (by decide) rfl ?_
                refine xr_iinc (v := 7) (ls2 := [(9, .int (7)), (7, .long (2187)), (6, .int (3)), (5, .int (3)), (4, .int (9)), (0, .ref (0)), (1, .int (nI (j))), (2, .int (8)), (3, .int (part))]) dX9_alone_90 1 rfl rfl (by decide) rfl ?_
                refine xr_goto (tgt := 76) dX9_alone_93 rfl ?_
                refine xr_iload dX9_alone_76 0 rfl ?_
                refine xr_iload_n dX9_alone_78 7 rfl ?_
                refine xr_icmp_ge (tgt := 96) dX9_alone_79 rfl (fun c => absurd c (by decide)) (fun _ => ?_)
                refine xr_lload dX9_alone_82 1 rfl ?_
                refine xr_iload dX9_alone_84 2 rfl ?_
                refine xr_i2l dX9_alone_86 ?_
                refine xb_topJ (y := 3) (by decide) ?_
                refine xr_lmul dX9_alone_87 ?_
                refine xb_topJ (y := 6561) (by decide) ?_
                refine xr_lstore (ls2 := [(7, .long (6561)), (9, .int (7)), (6, .int (3)), (5, .int (3)), (4, .int (9)), (0, .ref (0)), (1, .int (nI (j))), (2, .int (8)), (3, .int (part))]) dX9_alone_88 (by decide) rfl ?_
                refine xr_iinc (v := 8) (ls2 := [(9, .int (8)), (7, .long (6561)), (6, .int (3)), (5, .int (3)), (4, .int (9)), (0, .ref (0)), (1, .int (nI (j))), (2, .int (8)), (3, .int (part))]) dX9_alone_90 1 rfl rfl (by decide) rfl ?_
                refine xr_goto (tgt := 76) dX9_alone_93 rfl ?_
                refine xr_iload dX9_alone_76 0 rfl ?_
                refine xr_iload_n dX9_alone_78 7 rfl ?_
                refine xr_icmp_ge (tgt := 96) dX9_alone_79 rfl (fun _ => ?_) (fun c => absurd (by decide) c)
                refine xr_lload dX9_alone_96 1 rfl ?_
                exact xr_lret dX9_alone_98 rfl (⟨congrArg (fun z => some (Value.long z)) (Eq.symm (Eq.trans (if_pos ⟨by assumption, by decide, by grind, by grind⟩) (Eq.trans (if_pos (by assumption)) (by decide)))), rfl, by repeat (first | (with_reducible assumption) | (with_reducible exact Fr_z) | (with_reducible exact E0_fr (by assumption)) | ((with_reducible refine Fr_up ?_ ?_); first | decide | omega))⟩)
          · refine xr_ldc2 coX9_286 dX9_alone_26 ?_
            exact xr_lret dX9_alone_29 rfl (⟨congrArg (fun z => some (Value.long z)) (if_neg (by grind)).symm, rfl, by repeat (first | (with_reducible assumption) | (with_reducible exact Fr_z) | (with_reducible exact E0_fr (by assumption)) | ((with_reducible refine Fr_up ?_ ?_); first | decide | omega))⟩)
