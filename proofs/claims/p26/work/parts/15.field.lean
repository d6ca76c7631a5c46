theorem dX1_becomes_0 : decode cX1_becomes 0 = .ok (.aload_n 0, 1) := by decide +kernel
theorem dX1_becomes_1 : decode cX1_becomes 1 = .ok (.getfield 9, 3) := by decide +kernel
theorem dX1_becomes_4 : decode cX1_becomes 4 = .ok (.iload_n 1, 1) := by decide +kernel
theorem dX1_becomes_5 : decode cX1_becomes 5 = .ok (.iload_n 2, 1) := by decide +kernel
theorem dX1_becomes_6 : decode cX1_becomes 6 = .ok (.iastore, 1) := by decide +kernel
theorem dX1_becomes_7 : decode cX1_becomes 7 = .ok (.aload_n 0, 1) := by decide +kernel
theorem dX1_becomes_8 : decode cX1_becomes 8 = .ok (.getfield 15, 3) := by decide +kernel
theorem dX1_becomes_11 : decode cX1_becomes 11 = .ok (.iload_n 1, 1) := by decide +kernel
theorem dX1_becomes_12 : decode cX1_becomes 12 = .ok (.iconst 0, 1) := by decide +kernel
theorem dX1_becomes_13 : decode cX1_becomes 13 = .ok (.iastore, 1) := by decide +kernel
theorem dX1_becomes_14 : decode cX1_becomes 14 = .ok (.return_, 1) := by decide +kernel
theorem dX1_minutesAt_0 : decode cX1_minutesAt 0 = .ok (.iconst 1, 1) := by decide +kernel
theorem dX1_minutesAt_1 : decode cX1_minutesAt 1 = .ok (.iload_n 0, 1) := by decide +kernel
theorem dX1_minutesAt_2 : decode cX1_minutesAt 2 = .ok (.invokestatic 32, 3) := by decide +kernel
theorem dX1_minutesAt_5 : decode cX1_minutesAt 5 = .ok (.ireturn, 1) := by decide +kernel
theorem dX1_learnMinute_0 : decode cX1_learnMinute 0 = .ok (.aload_n 0, 1) := by decide +kernel
theorem dX1_learnMinute_1 : decode cX1_learnMinute 1 = .ok (.getfield 9, 3) := by decide +kernel
theorem dX1_learnMinute_4 : decode cX1_learnMinute 4 = .ok (.iload_n 1, 1) := by decide +kernel
theorem dX1_learnMinute_5 : decode cX1_learnMinute 5 = .ok (.iaload, 1) := by decide +kernel
theorem dX1_learnMinute_6 : decode cX1_learnMinute 6 = .ok (.bipush 12, 2) := by decide +kernel
theorem dX1_learnMinute_8 : decode cX1_learnMinute 8 = .ok (.if_icmp .lt 4, 3) := by decide +kernel
theorem dX1_learnMinute_12 : decode cX1_learnMinute 12 = .ok (.aload_n 0, 1) := by decide +kernel
theorem dX1_learnMinute_13 : decode cX1_learnMinute 13 = .ok (.getfield 15, 3) := by decide +kernel
theorem dX1_learnMinute_16 : decode cX1_learnMinute 16 = .ok (.iload_n 1, 1) := by decide +kernel
theorem dX1_learnMinute_17 : decode cX1_learnMinute 17 = .ok (.dup2, 1) := by decide +kernel
theorem dX1_learnMinute_18 : decode cX1_learnMinute 18 = .ok (.iaload, 1) := by decide +kernel
theorem dX1_learnMinute_19 : decode cX1_learnMinute 19 = .ok (.iconst 1, 1) := by decide +kernel
theorem dX1_learnMinute_20 : decode cX1_learnMinute 20 = .ok (.iadd, 1) := by decide +kernel
theorem dX1_learnMinute_21 : decode cX1_learnMinute 21 = .ok (.iastore, 1) := by decide +kernel
theorem dX1_learnMinute_22 : decode cX1_learnMinute 22 = .ok (.aload_n 0, 1) := by decide +kernel
theorem dX1_learnMinute_23 : decode cX1_learnMinute 23 = .ok (.getfield 15, 3) := by decide +kernel
theorem dX1_learnMinute_26 : decode cX1_learnMinute 26 = .ok (.iload_n 1, 1) := by decide +kernel
theorem dX1_learnMinute_27 : decode cX1_learnMinute 27 = .ok (.iaload, 1) := by decide +kernel
theorem dX1_learnMinute_28 : decode cX1_learnMinute 28 = .ok (.aload_n 0, 1) := by decide +kernel
theorem dX1_learnMinute_29 : decode cX1_learnMinute 29 = .ok (.getfield 9, 3) := by decide +kernel
theorem dX1_learnMinute_32 : decode cX1_learnMinute 32 = .ok (.iload_n 1, 1) := by decide +kernel
theorem dX1_learnMinute_33 : decode cX1_learnMinute 33 = .ok (.iaload, 1) := by decide +kernel
theorem dX1_learnMinute_34 : decode cX1_learnMinute 34 = .ok (.invokestatic 38, 3) := by decide +kernel
theorem dX1_learnMinute_37 : decode cX1_learnMinute 37 = .ok (.if_icmp .lt 16, 3) := by decide +kernel
theorem dX1_learnMinute_53 : decode cX1_learnMinute 53 = .ok (.return_, 1) := by decide +kernel
theorem dX1_learnMinute_40 : decode cX1_learnMinute 40 = .ok (.aload_n 0, 1) := by decide +kernel
theorem dX1_learnMinute_41 : decode cX1_learnMinute 41 = .ok (.iload_n 1, 1) := by decide +kernel
theorem dX1_learnMinute_42 : decode cX1_learnMinute 42 = .ok (.aload_n 0, 1) := by decide +kernel
theorem dX1_learnMinute_43 : decode cX1_learnMinute 43 = .ok (.getfield 9, 3) := by decide +kernel
theorem dX1_learnMinute_46 : decode cX1_learnMinute 46 = .ok (.iload_n 1, 1) := by decide +kernel
theorem dX1_learnMinute_47 : decode cX1_learnMinute 47 = .ok (.iaload, 1) := by decide +kernel
theorem dX1_learnMinute_48 : decode cX1_learnMinute 48 = .ok (.iconst 1, 1) := by decide +kernel
theorem dX1_learnMinute_49 : decode cX1_learnMinute 49 = .ok (.iadd, 1) := by decide +kernel
theorem dX1_learnMinute_50 : decode cX1_learnMinute 50 = .ok (.invokevirtual 42, 3) := by decide +kernel
theorem dX1_learnMinute_11 : decode cX1_learnMinute 11 = .ok (.return_, 1) := by decide +kernel
theorem dX1_drop_0 : decode cX1_drop 0 = .ok (.aload_n 0, 1) := by decide +kernel
theorem dX1_drop_1 : decode cX1_drop 1 = .ok (.getfield 18, 3) := by decide +kernel
theorem dX1_drop_4 : decode cX1_drop 4 = .ok (.iload_n 1, 1) := by decide +kernel
theorem dX1_drop_5 : decode cX1_drop 5 = .ok (.iconst 0, 1) := by decide +kernel
theorem dX1_drop_6 : decode cX1_drop 6 = .ok (.bastore, 1) := by decide +kernel
theorem dX1_drop_7 : decode cX1_drop 7 = .ok (.aload_n 0, 1) := by decide +kernel
theorem dX1_drop_8 : decode cX1_drop 8 = .ok (.getfield 22, 3) := by decide +kernel
theorem dX1_drop_11 : decode cX1_drop 11 = .ok (.iload_n 1, 1) := by decide +kernel
theorem dX1_drop_12 : decode cX1_drop 12 = .ok (.iload_n 2, 1) := by decide +kernel
theorem dX1_drop_13 : decode cX1_drop 13 = .ok (.iastore, 1) := by decide +kernel
theorem dX1_drop_14 : decode cX1_drop 14 = .ok (.aload_n 0, 1) := by decide +kernel
theorem dX1_drop_15 : decode cX1_drop 15 = .ok (.getfield 25, 3) := by decide +kernel
theorem dX1_drop_18 : decode cX1_drop 18 = .ok (.iload_n 1, 1) := by decide +kernel
theorem dX1_drop_19 : decode cX1_drop 19 = .ok (.iload_n 3, 1) := by decide +kernel
theorem dX1_drop_20 : decode cX1_drop 20 = .ok (.iastore, 1) := by decide +kernel
theorem dX1_drop_21 : decode cX1_drop 21 = .ok (.return_, 1) := by decide +kernel
theorem dX1_draw_0 : decode cX1_draw 0 = .ok (.aload_n 0, 1) := by decide +kernel
theorem dX1_draw_1 : decode cX1_draw 1 = .ok (.aload_n 0, 1) := by decide +kernel
theorem dX1_draw_2 : decode cX1_draw 2 = .ok (.getfield 46, 3) := by decide +kernel
theorem dX1_draw_5 : decode cX1_draw 5 = .ok (.ldc 67, 2) := by decide +kernel
theorem dX1_draw_7 : decode cX1_draw 7 = .ok (.imul, 1) := by decide +kernel
theorem dX1_draw_8 : decode cX1_draw 8 = .ok (.sipush 12345, 3) := by decide +kernel
theorem dX1_draw_11 : decode cX1_draw 11 = .ok (.iadd, 1) := by decide +kernel
theorem dX1_draw_12 : decode cX1_draw 12 = .ok (.putfield 46, 3) := by decide +kernel
theorem dX1_draw_15 : decode cX1_draw 15 = .ok (.aload_n 0, 1) := by decide +kernel
theorem dX1_draw_16 : decode cX1_draw 16 = .ok (.getfield 46, 3) := by decide +kernel
theorem dX1_draw_19 : decode cX1_draw 19 = .ok (.bipush 8, 2) := by decide +kernel
theorem dX1_draw_21 : decode cX1_draw 21 = .ok (.iushr, 1) := by decide +kernel
theorem dX1_draw_22 : decode cX1_draw 22 = .ok (.bipush 12, 2) := by decide +kernel
theorem dX1_draw_24 : decode cX1_draw 24 = .ok (.irem, 1) := by decide +kernel
theorem dX1_draw_25 : decode cX1_draw 25 = .ok (.ireturn, 1) := by decide +kernel
theorem dX1_beside_0 : decode cX1_beside 0 = .ok (.iload_n 1, 1) := by decide +kernel
theorem dX1_beside_1 : decode cX1_beside 1 = .ok (.tableswitch 71 0 2 #[27, 40, 55], 27) := by decide +kernel
theorem dX1_beside_28 : decode cX1_beside 28 = .ok (.iload_n 0, 1) := by decide +kernel
theorem dX1_beside_29 : decode cX1_beside 29 = .ok (.iconst 5, 1) := by decide +kernel
theorem dX1_beside_30 : decode cX1_beside 30 = .ok (.if_icmp .lt 9, 3) := by decide +kernel
theorem dX1_beside_39 : decode cX1_beside 39 = .ok (.iconst (-1), 1) := by decide +kernel
theorem dX1_beside_40 : decode cX1_beside 40 = .ok (.ireturn, 1) := by decide +kernel
theorem dX1_beside_33 : decode cX1_beside 33 = .ok (.iload_n 0, 1) := by decide +kernel
theorem dX1_beside_34 : decode cX1_beside 34 = .ok (.iconst 5, 1) := by decide +kernel
theorem dX1_beside_35 : decode cX1_beside 35 = .ok (.isub, 1) := by decide +kernel
theorem dX1_beside_36 : decode cX1_beside 36 = .ok (.goto 4, 3) := by decide +kernel
theorem dX1_beside_41 : decode cX1_beside 41 = .ok (.iload_n 0, 1) := by decide +kernel
theorem dX1_beside_42 : decode cX1_beside 42 = .ok (.iconst 5, 1) := by decide +kernel
theorem dX1_beside_43 : decode cX1_beside 43 = .ok (.irem, 1) := by decide +kernel
theorem dX1_beside_44 : decode cX1_beside 44 = .ok (.iconst 4, 1) := by decide +kernel
theorem dX1_beside_45 : decode cX1_beside 45 = .ok (.if_icmp .ge 9, 3) := by decide +kernel
theorem dX1_beside_54 : decode cX1_beside 54 = .ok (.iconst (-1), 1) := by decide +kernel
theorem dX1_beside_55 : decode cX1_beside 55 = .ok (.ireturn, 1) := by decide +kernel
theorem dX1_beside_48 : decode cX1_beside 48 = .ok (.iload_n 0, 1) := by decide +kernel
theorem dX1_beside_49 : decode cX1_beside 49 = .ok (.iconst 1, 1) := by decide +kernel
theorem dX1_beside_50 : decode cX1_beside 50 = .ok (.iadd, 1) := by decide +kernel
theorem dX1_beside_51 : decode cX1_beside 51 = .ok (.goto 4, 3) := by decide +kernel
theorem dX1_beside_56 : decode cX1_beside 56 = .ok (.iload_n 0, 1) := by decide +kernel
theorem dX1_beside_57 : decode cX1_beside 57 = .ok (.iconst 5, 1) := by decide +kernel
theorem dX1_beside_58 : decode cX1_beside 58 = .ok (.iadd, 1) := by decide +kernel
theorem dX1_beside_59 : decode cX1_beside 59 = .ok (.bipush 25, 2) := by decide +kernel
theorem dX1_beside_61 : decode cX1_beside 61 = .ok (.if_icmp .ge 9, 3) := by decide +kernel
theorem dX1_beside_70 : decode cX1_beside 70 = .ok (.iconst (-1), 1) := by decide +kernel
theorem dX1_beside_71 : decode cX1_beside 71 = .ok (.ireturn, 1) := by decide +kernel
theorem dX1_beside_64 : decode cX1_beside 64 = .ok (.iload_n 0, 1) := by decide +kernel
theorem dX1_beside_65 : decode cX1_beside 65 = .ok (.iconst 5, 1) := by decide +kernel
theorem dX1_beside_66 : decode cX1_beside 66 = .ok (.iadd, 1) := by decide +kernel
theorem dX1_beside_67 : decode cX1_beside 67 = .ok (.goto 4, 3) := by decide +kernel
theorem dX1_beside_72 : decode cX1_beside 72 = .ok (.iload_n 0, 1) := by decide +kernel
theorem dX1_beside_73 : decode cX1_beside 73 = .ok (.iconst 5, 1) := by decide +kernel
theorem dX1_beside_74 : decode cX1_beside 74 = .ok (.irem, 1) := by decide +kernel
theorem dX1_beside_75 : decode cX1_beside 75 = .ok (.ifCond .le 9, 3) := by decide +kernel
theorem dX1_beside_84 : decode cX1_beside 84 = .ok (.iconst (-1), 1) := by decide +kernel
theorem dX1_beside_85 : decode cX1_beside 85 = .ok (.ireturn, 1) := by decide +kernel
theorem dX1_beside_78 : decode cX1_beside 78 = .ok (.iload_n 0, 1) := by decide +kernel
theorem dX1_beside_79 : decode cX1_beside 79 = .ok (.iconst 1, 1) := by decide +kernel
theorem dX1_beside_80 : decode cX1_beside 80 = .ok (.isub, 1) := by decide +kernel
theorem dX1_beside_81 : decode cX1_beside 81 = .ok (.goto 4, 3) := by decide +kernel
theorem dX1_knockFrom_2 : decode cX1_knockFrom 2 = .ok (.iload_n 3, 1) := by decide +kernel
theorem dX1_knockFrom_3 : decode cX1_knockFrom 3 = .ok (.iconst 4, 1) := by decide +kernel
theorem dX1_knockFrom_4 : decode cX1_knockFrom 4 = .ok (.if_icmp .ge 51, 3) := by decide +kernel
theorem dX1_knockFrom_7 : decode cX1_knockFrom 7 = .ok (.iload_n 1, 1) := by decide +kernel
theorem dX1_knockFrom_8 : decode cX1_knockFrom 8 = .ok (.iload_n 3, 1) := by decide +kernel
theorem dX1_knockFrom_9 : decode cX1_knockFrom 9 = .ok (.invokestatic 64, 3) := by decide +kernel
theorem dX1_knockFrom_12 : decode cX1_knockFrom 12 = .ok (.istore 4, 2) := by decide +kernel
theorem dX1_knockFrom_14 : decode cX1_knockFrom 14 = .ok (.iload 4, 2) := by decide +kernel
theorem dX1_knockFrom_16 : decode cX1_knockFrom 16 = .ok (.iconst (-1), 1) := by decide +kernel
theorem dX1_knockFrom_17 : decode cX1_knockFrom 17 = .ok (.if_icmp .eq 32, 3) := by decide +kernel
theorem dX1_knockFrom_49 : decode cX1_knockFrom 49 = .ok (.iinc 3 1, 3) := by decide +kernel
theorem dX1_knockFrom_52 : decode cX1_knockFrom 52 = .ok (.goto (-50), 3) := by decide +kernel
theorem dX1_knockFrom_20 : decode cX1_knockFrom 20 = .ok (.aload_n 0, 1) := by decide +kernel
theorem dX1_knockFrom_21 : decode cX1_knockFrom 21 = .ok (.getfield 18, 3) := by decide +kernel
theorem dX1_knockFrom_24 : decode cX1_knockFrom 24 = .ok (.iload 4, 2) := by decide +kernel
theorem dX1_knockFrom_26 : decode cX1_knockFrom 26 = .ok (.baload, 1) := by decide +kernel
theorem dX1_knockFrom_27 : decode cX1_knockFrom 27 = .ok (.ifCond .eq 22, 3) := by decide +kernel
theorem dX1_knockFrom_30 : decode cX1_knockFrom 30 = .ok (.aload_n 0, 1) := by decide +kernel
theorem dX1_knockFrom_31 : decode cX1_knockFrom 31 = .ok (.invokevirtual 53, 3) := by decide +kernel
theorem dX1_knockFrom_34 : decode cX1_knockFrom 34 = .ok (.aload_n 0, 1) := by decide +kernel
theorem dX1_knockFrom_35 : decode cX1_knockFrom 35 = .ok (.getfield 28, 3) := by decide +kernel
theorem dX1_knockFrom_38 : decode cX1_knockFrom 38 = .ok (.if_icmp .ge 11, 3) := by decide +kernel
theorem dX1_knockFrom_41 : decode cX1_knockFrom 41 = .ok (.aload_n 0, 1) := by decide +kernel
theorem dX1_knockFrom_42 : decode cX1_knockFrom 42 = .ok (.iload 4, 2) := by decide +kernel
theorem dX1_knockFrom_44 : decode cX1_knockFrom 44 = .ok (.iload_n 1, 1) := by decide +kernel
theorem dX1_knockFrom_45 : decode cX1_knockFrom 45 = .ok (.iload_n 2, 1) := by decide +kernel
theorem dX1_knockFrom_46 : decode cX1_knockFrom 46 = .ok (.invokevirtual 57, 3) := by decide +kernel
theorem dX1_knockFrom_0 : decode cX1_knockFrom 0 = .ok (.iconst 0, 1) := by decide +kernel
theorem dX1_knockFrom_1 : decode cX1_knockFrom 1 = .ok (.istore_n 3, 1) := by decide +kernel
theorem dX1_knockFrom_55 : decode cX1_knockFrom 55 = .ok (.return_, 1) := by decide +kernel
theorem dX1_playMinute_2 : decode cX1_playMinute 2 = .ok (.iload_n 2, 1) := by decide +kernel
theorem dX1_playMinute_3 : decode cX1_playMinute 3 = .ok (.bipush 25, 2) := by decide +kernel
theorem dX1_playMinute_5 : decode cX1_playMinute 5 = .ok (.if_icmp .ge 45, 3) := by decide +kernel
theorem dX1_playMinute_8 : decode cX1_playMinute 8 = .ok (.aload_n 0, 1) := by decide +kernel
theorem dX1_playMinute_9 : decode cX1_playMinute 9 = .ok (.getfield 18, 3) := by decide +kernel
theorem dX1_playMinute_12 : decode cX1_playMinute 12 = .ok (.iload_n 2, 1) := by decide +kernel
theorem dX1_playMinute_13 : decode cX1_playMinute 13 = .ok (.baload, 1) := by decide +kernel
theorem dX1_playMinute_14 : decode cX1_playMinute 14 = .ok (.ifCond .eq 30, 3) := by decide +kernel
theorem dX1_playMinute_44 : decode cX1_playMinute 44 = .ok (.iinc 2 1, 3) := by decide +kernel
theorem dX1_playMinute_47 : decode cX1_playMinute 47 = .ok (.goto (-45), 3) := by decide +kernel
theorem dX1_playMinute_17 : decode cX1_playMinute 17 = .ok (.aload_n 0, 1) := by decide +kernel
theorem dX1_playMinute_18 : decode cX1_playMinute 18 = .ok (.invokevirtual 53, 3) := by decide +kernel
theorem dX1_playMinute_21 : decode cX1_playMinute 21 = .ok (.aload_n 0, 1) := by decide +kernel
theorem dX1_playMinute_22 : decode cX1_playMinute 22 = .ok (.getfield 9, 3) := by decide +kernel
theorem dX1_playMinute_25 : decode cX1_playMinute 25 = .ok (.iload_n 2, 1) := by decide +kernel
theorem dX1_playMinute_26 : decode cX1_playMinute 26 = .ok (.iaload, 1) := by decide +kernel
theorem dX1_playMinute_27 : decode cX1_playMinute 27 = .ok (.if_icmp .lt 17, 3) := by decide +kernel
theorem dX1_playMinute_30 : decode cX1_playMinute 30 = .ok (.aload_n 0, 1) := by decide +kernel
theorem dX1_playMinute_31 : decode cX1_playMinute 31 = .ok (.iload_n 2, 1) := by decide +kernel
theorem dX1_playMinute_32 : decode cX1_playMinute 32 = .ok (.bipush (-2), 2) := by decide +kernel
theorem dX1_playMinute_34 : decode cX1_playMinute 34 = .ok (.iload_n 1, 1) := by decide +kernel
theorem dX1_playMinute_35 : decode cX1_playMinute 35 = .ok (.invokevirtual 57, 3) := by decide +kernel
theorem dX1_playMinute_38 : decode cX1_playMinute 38 = .ok (.aload_n 0, 1) := by decide +kernel
theorem dX1_playMinute_39 : decode cX1_playMinute 39 = .ok (.iload_n 2, 1) := by decide +kernel
theorem dX1_playMinute_40 : decode cX1_playMinute 40 = .ok (.iload_n 1, 1) := by decide +kernel
theorem dX1_playMinute_41 : decode cX1_playMinute 41 = .ok (.invokevirtual 61, 3) := by decide +kernel
theorem dX1_playMinute_0 : decode cX1_playMinute 0 = .ok (.iconst 0, 1) := by decide +kernel
theorem dX1_playMinute_1 : decode cX1_playMinute 1 = .ok (.istore_n 2, 1) := by decide +kernel
theorem dX1_playMinute_50 : decode cX1_playMinute 50 = .ok (.return_, 1) := by decide +kernel
theorem dX1_play_7 : decode cX1_play 7 = .ok (.iload_n 3, 1) := by decide +kernel
theorem dX1_play_8 : decode cX1_play 8 = .ok (.bipush 25, 2) := by decide +kernel
theorem dX1_play_10 : decode cX1_play 10 = .ok (.if_icmp .ge 32, 3) := by decide +kernel
theorem dX1_play_13 : decode cX1_play 13 = .ok (.aload_n 0, 1) := by decide +kernel
theorem dX1_play_14 : decode cX1_play 14 = .ok (.getfield 18, 3) := by decide +kernel
theorem dX1_play_17 : decode cX1_play 17 = .ok (.iload_n 3, 1) := by decide +kernel
theorem dX1_play_18 : decode cX1_play 18 = .ok (.iconst 1, 1) := by decide +kernel
theorem dX1_play_19 : decode cX1_play 19 = .ok (.bastore, 1) := by decide +kernel
theorem dX1_play_20 : decode cX1_play 20 = .ok (.aload_n 0, 1) := by decide +kernel
theorem dX1_play_21 : decode cX1_play 21 = .ok (.getfield 22, 3) := by decide +kernel
theorem dX1_play_24 : decode cX1_play 24 = .ok (.iload_n 3, 1) := by decide +kernel
theorem dX1_play_25 : decode cX1_play 25 = .ok (.bipush (-2), 2) := by decide +kernel
theorem dX1_play_27 : decode cX1_play 27 = .ok (.iastore, 1) := by decide +kernel
theorem dX1_play_28 : decode cX1_play 28 = .ok (.aload_n 0, 1) := by decide +kernel
theorem dX1_play_29 : decode cX1_play 29 = .ok (.getfield 25, 3) := by decide +kernel
theorem dX1_play_32 : decode cX1_play 32 = .ok (.iload_n 3, 1) := by decide +kernel
theorem dX1_play_33 : decode cX1_play 33 = .ok (.bipush 31, 2) := by decide +kernel
theorem dX1_play_35 : decode cX1_play 35 = .ok (.iastore, 1) := by decide +kernel
theorem dX1_play_36 : decode cX1_play 36 = .ok (.iinc 3 1, 3) := by decide +kernel
theorem dX1_play_39 : decode cX1_play 39 = .ok (.goto (-32), 3) := by decide +kernel
theorem dX1_play_44 : decode cX1_play 44 = .ok (.iload_n 3, 1) := by decide +kernel
theorem dX1_play_45 : decode cX1_play 45 = .ok (.iload_n 2, 1) := by decide +kernel
theorem dX1_play_46 : decode cX1_play 46 = .ok (.if_icmp .gt 14, 3) := by decide +kernel
theorem dX1_play_60 : decode cX1_play 60 = .ok (.return_, 1) := by decide +kernel
theorem dX1_play_49 : decode cX1_play 49 = .ok (.aload_n 0, 1) := by decide +kernel
theorem dX1_play_50 : decode cX1_play 50 = .ok (.iload_n 3, 1) := by decide +kernel
theorem dX1_play_51 : decode cX1_play 51 = .ok (.invokevirtual 49, 3) := by decide +kernel
theorem dX1_play_54 : decode cX1_play 54 = .ok (.iinc 3 1, 3) := by decide +kernel
theorem dX1_play_57 : decode cX1_play 57 = .ok (.goto (-13), 3) := by decide +kernel
theorem dX1_play_0 : decode cX1_play 0 = .ok (.aload_n 0, 1) := by decide +kernel
theorem dX1_play_1 : decode cX1_play 1 = .ok (.iload_n 1, 1) := by decide +kernel
theorem dX1_play_2 : decode cX1_play 2 = .ok (.putfield 46, 3) := by decide +kernel
theorem dX1_play_5 : decode cX1_play 5 = .ok (.iconst 0, 1) := by decide +kernel
theorem dX1_play_6 : decode cX1_play 6 = .ok (.istore_n 3, 1) := by decide +kernel
theorem dX1_play_42 : decode cX1_play 42 = .ok (.iconst 1, 1) := by decide +kernel
theorem dX1_play_43 : decode cX1_play 43 = .ok (.istore_n 3, 1) := by decide +kernel
theorem dX1_howManyUp_4 : decode cX1_howManyUp 4 = .ok (.iload_n 2, 1) := by decide +kernel
theorem dX1_howManyUp_5 : decode cX1_howManyUp 5 = .ok (.bipush 25, 2) := by decide +kernel
theorem dX1_howManyUp_7 : decode cX1_howManyUp 7 = .ok (.if_icmp .ge 21, 3) := by decide +kernel
theorem dX1_howManyUp_10 : decode cX1_howManyUp 10 = .ok (.aload_n 0, 1) := by decide +kernel
theorem dX1_howManyUp_11 : decode cX1_howManyUp 11 = .ok (.getfield 18, 3) := by decide +kernel
theorem dX1_howManyUp_14 : decode cX1_howManyUp 14 = .ok (.iload_n 2, 1) := by decide +kernel
theorem dX1_howManyUp_15 : decode cX1_howManyUp 15 = .ok (.baload, 1) := by decide +kernel
theorem dX1_howManyUp_16 : decode cX1_howManyUp 16 = .ok (.ifCond .eq 6, 3) := by decide +kernel
theorem dX1_howManyUp_22 : decode cX1_howManyUp 22 = .ok (.iinc 2 1, 3) := by decide +kernel
theorem dX1_howManyUp_25 : decode cX1_howManyUp 25 = .ok (.goto (-21), 3) := by decide +kernel
theorem dX1_howManyUp_19 : decode cX1_howManyUp 19 = .ok (.iinc 1 1, 3) := by decide +kernel
theorem dX1_howManyUp_0 : decode cX1_howManyUp 0 = .ok (.iconst 0, 1) := by decide +kernel
theorem dX1_howManyUp_1 : decode cX1_howManyUp 1 = .ok (.istore_n 1, 1) := by decide +kernel
theorem dX1_howManyUp_2 : decode cX1_howManyUp 2 = .ok (.iconst 0, 1) := by decide +kernel
theorem dX1_howManyUp_3 : decode cX1_howManyUp 3 = .ok (.istore_n 2, 1) := by decide +kernel
theorem dX1_howManyUp_28 : decode cX1_howManyUp 28 = .ok (.iload_n 1, 1) := by decide +kernel
theorem dX1_howManyUp_29 : decode cX1_howManyUp 29 = .ok (.ireturn, 1) := by decide +kernel
theorem dX1_longest_4 : decode cX1_longest 4 = .ok (.iload_n 2, 1) := by decide +kernel
theorem dX1_longest_5 : decode cX1_longest 5 = .ok (.bipush 25, 2) := by decide +kernel
theorem dX1_longest_7 : decode cX1_longest 7 = .ok (.if_icmp .ge 26, 3) := by decide +kernel
theorem dX1_longest_33 : decode cX1_longest 33 = .ok (.iload_n 1, 1) := by decide +kernel
theorem dX1_longest_34 : decode cX1_longest 34 = .ok (.ireturn, 1) := by decide +kernel
theorem dX1_longest_10 : decode cX1_longest 10 = .ok (.aload_n 0, 1) := by decide +kernel
theorem dX1_longest_11 : decode cX1_longest 11 = .ok (.getfield 25, 3) := by decide +kernel
theorem dX1_longest_14 : decode cX1_longest 14 = .ok (.iload_n 2, 1) := by decide +kernel
theorem dX1_longest_15 : decode cX1_longest 15 = .ok (.iaload, 1) := by decide +kernel
theorem dX1_longest_16 : decode cX1_longest 16 = .ok (.aload_n 0, 1) := by decide +kernel
theorem dX1_longest_17 : decode cX1_longest 17 = .ok (.getfield 25, 3) := by decide +kernel
theorem dX1_longest_20 : decode cX1_longest 20 = .ok (.iload_n 1, 1) := by decide +kernel
theorem dX1_longest_21 : decode cX1_longest 21 = .ok (.iaload, 1) := by decide +kernel
theorem dX1_longest_22 : decode cX1_longest 22 = .ok (.if_icmp .le 5, 3) := by decide +kernel
theorem dX1_longest_27 : decode cX1_longest 27 = .ok (.iinc 2 1, 3) := by decide +kernel
theorem dX1_longest_30 : decode cX1_longest 30 = .ok (.goto (-26), 3) := by decide +kernel
theorem dX1_longest_25 : decode cX1_longest 25 = .ok (.iload_n 2, 1) := by decide +kernel
theorem dX1_longest_26 : decode cX1_longest 26 = .ok (.istore_n 1, 1) := by decide +kernel
theorem dX1_longest_0 : decode cX1_longest 0 = .ok (.iconst 0, 1) := by decide +kernel
theorem dX1_longest_1 : decode cX1_longest 1 = .ok (.istore_n 1, 1) := by decide +kernel
theorem dX1_longest_2 : decode cX1_longest 2 = .ok (.iconst 1, 1) := by decide +kernel
theorem dX1_longest_3 : decode cX1_longest 3 = .ok (.istore_n 2, 1) := by decide +kernel
theorem dX0_forgetOldest_0 : decode cX0_forgetOldest 0 = .ok (.aload_n 0, 1) := by decide +kernel
theorem dX0_forgetOldest_1 : decode cX0_forgetOldest 1 = .ok (.getfield 9, 3) := by decide +kernel
theorem dX0_forgetOldest_4 : decode cX0_forgetOldest 4 = .ok (.iconst 1, 1) := by decide +kernel
theorem dX0_forgetOldest_5 : decode cX0_forgetOldest 5 = .ok (.aload_n 0, 1) := by decide +kernel
theorem dX0_forgetOldest_6 : decode cX0_forgetOldest 6 = .ok (.getfield 9, 3) := by decide +kernel
theorem dX0_forgetOldest_9 : decode cX0_forgetOldest 9 = .ok (.iconst 0, 1) := by decide +kernel
theorem dX0_forgetOldest_10 : decode cX0_forgetOldest 10 = .ok (.bipush 39, 2) := by decide +kernel
theorem dX0_forgetOldest_12 : decode cX0_forgetOldest 12 = .ok (.invokestatic 32, 3) := by decide +kernel
theorem dX0_forgetOldest_15 : decode cX0_forgetOldest 15 = .ok (.aload_n 0, 1) := by decide +kernel
theorem dX0_forgetOldest_16 : decode cX0_forgetOldest 16 = .ok (.getfield 13, 3) := by decide +kernel
theorem dX0_forgetOldest_19 : decode cX0_forgetOldest 19 = .ok (.iconst 1, 1) := by decide +kernel
theorem dX0_forgetOldest_20 : decode cX0_forgetOldest 20 = .ok (.aload_n 0, 1) := by decide +kernel
theorem dX0_forgetOldest_21 : decode cX0_forgetOldest 21 = .ok (.getfield 13, 3) := by decide +kernel
theorem dX0_forgetOldest_24 : decode cX0_forgetOldest 24 = .ok (.iconst 0, 1) := by decide +kernel
theorem dX0_forgetOldest_25 : decode cX0_forgetOldest 25 = .ok (.bipush 39, 2) := by decide +kernel
theorem dX0_forgetOldest_27 : decode cX0_forgetOldest 27 = .ok (.invokestatic 32, 3) := by decide +kernel
theorem dX0_forgetOldest_30 : decode cX0_forgetOldest 30 = .ok (.aload_n 0, 1) := by decide +kernel
theorem dX0_forgetOldest_31 : decode cX0_forgetOldest 31 = .ok (.getfield 16, 3) := by decide +kernel
theorem dX0_forgetOldest_34 : decode cX0_forgetOldest 34 = .ok (.iconst 1, 1) := by decide +kernel
theorem dX0_forgetOldest_35 : decode cX0_forgetOldest 35 = .ok (.aload_n 0, 1) := by decide +kernel
theorem dX0_forgetOldest_36 : decode cX0_forgetOldest 36 = .ok (.getfield 16, 3) := by decide +kernel
theorem dX0_forgetOldest_39 : decode cX0_forgetOldest 39 = .ok (.iconst 0, 1) := by decide +kernel
theorem dX0_forgetOldest_40 : decode cX0_forgetOldest 40 = .ok (.bipush 39, 2) := by decide +kernel
theorem dX0_forgetOldest_42 : decode cX0_forgetOldest 42 = .ok (.invokestatic 32, 3) := by decide +kernel
theorem dX0_forgetOldest_45 : decode cX0_forgetOldest 45 = .ok (.aload_n 0, 1) := by decide +kernel
theorem dX0_forgetOldest_46 : decode cX0_forgetOldest 46 = .ok (.getfield 19, 3) := by decide +kernel
theorem dX0_forgetOldest_49 : decode cX0_forgetOldest 49 = .ok (.iconst 1, 1) := by decide +kernel
theorem dX0_forgetOldest_50 : decode cX0_forgetOldest 50 = .ok (.aload_n 0, 1) := by decide +kernel
theorem dX0_forgetOldest_51 : decode cX0_forgetOldest 51 = .ok (.getfield 19, 3) := by decide +kernel
theorem dX0_forgetOldest_54 : decode cX0_forgetOldest 54 = .ok (.iconst 0, 1) := by decide +kernel
theorem dX0_forgetOldest_55 : decode cX0_forgetOldest 55 = .ok (.bipush 39, 2) := by decide +kernel
theorem dX0_forgetOldest_57 : decode cX0_forgetOldest 57 = .ok (.invokestatic 32, 3) := by decide +kernel
theorem dX0_forgetOldest_60 : decode cX0_forgetOldest 60 = .ok (.aload_n 0, 1) := by decide +kernel
theorem dX0_forgetOldest_61 : decode cX0_forgetOldest 61 = .ok (.bipush 39, 2) := by decide +kernel
theorem dX0_forgetOldest_63 : decode cX0_forgetOldest 63 = .ok (.putfield 22, 3) := by decide +kernel
theorem dX0_forgetOldest_66 : decode cX0_forgetOldest 66 = .ok (.return_, 1) := by decide +kernel
theorem dX0_note_0 : decode cX0_note 0 = .ok (.aload_n 0, 1) := by decide +kernel
theorem dX0_note_1 : decode cX0_note 1 = .ok (.getfield 22, 3) := by decide +kernel
theorem dX0_note_4 : decode cX0_note 4 = .ok (.bipush 40, 2) := by decide +kernel
theorem dX0_note_6 : decode cX0_note 6 = .ok (.if_icmp .lt 7, 3) := by decide +kernel
theorem dX0_note_13 : decode cX0_note 13 = .ok (.aload_n 0, 1) := by decide +kernel
theorem dX0_note_14 : decode cX0_note 14 = .ok (.getfield 9, 3) := by decide +kernel
theorem dX0_note_17 : decode cX0_note 17 = .ok (.aload_n 0, 1) := by decide +kernel
theorem dX0_note_18 : decode cX0_note 18 = .ok (.getfield 22, 3) := by decide +kernel
theorem dX0_note_21 : decode cX0_note 21 = .ok (.iload_n 1, 1) := by decide +kernel
theorem dX0_note_22 : decode cX0_note 22 = .ok (.iastore, 1) := by decide +kernel
theorem dX0_note_23 : decode cX0_note 23 = .ok (.aload_n 0, 1) := by decide +kernel
theorem dX0_note_24 : decode cX0_note 24 = .ok (.getfield 13, 3) := by decide +kernel
theorem dX0_note_27 : decode cX0_note 27 = .ok (.aload_n 0, 1) := by decide +kernel
theorem dX0_note_28 : decode cX0_note 28 = .ok (.getfield 22, 3) := by decide +kernel
theorem dX0_note_31 : decode cX0_note 31 = .ok (.iload_n 2, 1) := by decide +kernel
theorem dX0_note_32 : decode cX0_note 32 = .ok (.iastore, 1) := by decide +kernel
theorem dX0_note_33 : decode cX0_note 33 = .ok (.aload_n 0, 1) := by decide +kernel
theorem dX0_note_34 : decode cX0_note 34 = .ok (.getfield 16, 3) := by decide +kernel
theorem dX0_note_37 : decode cX0_note 37 = .ok (.aload_n 0, 1) := by decide +kernel
theorem dX0_note_38 : decode cX0_note 38 = .ok (.getfield 22, 3) := by decide +kernel
theorem dX0_note_41 : decode cX0_note 41 = .ok (.iload_n 3, 1) := by decide +kernel
theorem dX0_note_42 : decode cX0_note 42 = .ok (.iastore, 1) := by decide +kernel
theorem dX0_note_43 : decode cX0_note 43 = .ok (.aload_n 0, 1) := by decide +kernel
theorem dX0_note_44 : decode cX0_note 44 = .ok (.getfield 19, 3) := by decide +kernel
theorem dX0_note_47 : decode cX0_note 47 = .ok (.aload_n 0, 1) := by decide +kernel
theorem dX0_note_48 : decode cX0_note 48 = .ok (.getfield 22, 3) := by decide +kernel
theorem dX0_note_51 : decode cX0_note 51 = .ok (.iload 4, 2) := by decide +kernel
theorem dX0_note_53 : decode cX0_note 53 = .ok (.iastore, 1) := by decide +kernel
theorem dX0_note_54 : decode cX0_note 54 = .ok (.aload_n 0, 1) := by decide +kernel
theorem dX0_note_55 : decode cX0_note 55 = .ok (.dup, 1) := by decide +kernel
theorem dX0_note_56 : decode cX0_note 56 = .ok (.getfield 22, 3) := by decide +kernel
theorem dX0_note_59 : decode cX0_note 59 = .ok (.iconst 1, 1) := by decide +kernel
theorem dX0_note_60 : decode cX0_note 60 = .ok (.iadd, 1) := by decide +kernel
theorem dX0_note_61 : decode cX0_note 61 = .ok (.putfield 22, 3) := by decide +kernel
theorem dX0_note_64 : decode cX0_note 64 = .ok (.aload_n 0, 1) := by decide +kernel
theorem dX0_note_65 : decode cX0_note 65 = .ok (.aload_n 0, 1) := by decide +kernel
theorem dX0_note_66 : decode cX0_note 66 = .ok (.getfield 22, 3) := by decide +kernel
theorem dX0_note_69 : decode cX0_note 69 = .ok (.putfield 29, 3) := by decide +kernel
theorem dX0_note_72 : decode cX0_note 72 = .ok (.return_, 1) := by decide +kernel
theorem dX0_note_9 : decode cX0_note 9 = .ok (.aload_n 0, 1) := by decide +kernel
theorem dX0_note_10 : decode cX0_note 10 = .ok (.invokevirtual 26, 3) := by decide +kernel
theorem dX6_isEmpty_0 : decode cX6_isEmpty 0 = .ok (.aload_n 0, 1) := by decide +kernel
theorem dX6_isEmpty_1 : decode cX6_isEmpty 1 = .ok (.getfield 15, 3) := by decide +kernel
theorem dX6_isEmpty_4 : decode cX6_isEmpty 4 = .ok (.ifCond .ne 7, 3) := by decide +kernel
theorem dX6_isEmpty_11 : decode cX6_isEmpty 11 = .ok (.iconst 0, 1) := by decide +kernel
theorem dX6_isEmpty_12 : decode cX6_isEmpty 12 = .ok (.ireturn, 1) := by decide +kernel
theorem dX6_isEmpty_7 : decode cX6_isEmpty 7 = .ok (.iconst 1, 1) := by decide +kernel
theorem dX6_isEmpty_8 : decode cX6_isEmpty 8 = .ok (.goto 4, 3) := by decide +kernel
theorem dX6_isTurn_0 : decode cX6_isTurn 0 = .ok (.aload_n 0, 1) := by decide +kernel
theorem dX6_isTurn_1 : decode cX6_isTurn 1 = .ok (.getfield 15, 3) := by decide +kernel
theorem dX6_isTurn_4 : decode cX6_isTurn 4 = .ok (.iconst 1, 1) := by decide +kernel
theorem dX6_isTurn_5 : decode cX6_isTurn 5 = .ok (.if_icmp .ne 7, 3) := by decide +kernel
theorem dX6_isTurn_12 : decode cX6_isTurn 12 = .ok (.iconst 0, 1) := by decide +kernel
theorem dX6_isTurn_13 : decode cX6_isTurn 13 = .ok (.ireturn, 1) := by decide +kernel
theorem dX6_isTurn_8 : decode cX6_isTurn 8 = .ok (.iconst 1, 1) := by decide +kernel
theorem dX6_isTurn_9 : decode cX6_isTurn 9 = .ok (.goto 4, 3) := by decide +kernel
theorem dX6_isRow_0 : decode cX6_isRow 0 = .ok (.aload_n 0, 1) := by decide +kernel
theorem dX6_isRow_1 : decode cX6_isRow 1 = .ok (.getfield 15, 3) := by decide +kernel
theorem dX6_isRow_4 : decode cX6_isRow 4 = .ok (.iconst 2, 1) := by decide +kernel
theorem dX6_isRow_5 : decode cX6_isRow 5 = .ok (.if_icmp .ne 7, 3) := by decide +kernel
theorem dX6_isRow_12 : decode cX6_isRow 12 = .ok (.iconst 0, 1) := by decide +kernel
theorem dX6_isRow_13 : decode cX6_isRow 13 = .ok (.ireturn, 1) := by decide +kernel
theorem dX6_isRow_8 : decode cX6_isRow 8 = .ok (.iconst 1, 1) := by decide +kernel
theorem dX6_isRow_9 : decode cX6_isRow 9 = .ok (.goto 4, 3) := by decide +kernel
theorem dX6_hasBytes_0 : decode cX6_hasBytes 0 = .ok (.aload_n 0, 1) := by decide +kernel
theorem dX6_hasBytes_1 : decode cX6_hasBytes 1 = .ok (.invokevirtual 19, 3) := by decide +kernel
theorem dX6_hasBytes_4 : decode cX6_hasBytes 4 = .ok (.ifCond .eq 14, 3) := by decide +kernel
theorem dX6_hasBytes_18 : decode cX6_hasBytes 18 = .ok (.iconst 0, 1) := by decide +kernel
theorem dX6_hasBytes_19 : decode cX6_hasBytes 19 = .ok (.ireturn, 1) := by decide +kernel
theorem dX6_hasBytes_7 : decode cX6_hasBytes 7 = .ok (.aload_n 0, 1) := by decide +kernel
theorem dX6_hasBytes_8 : decode cX6_hasBytes 8 = .ok (.getfield 23, 3) := by decide +kernel
theorem dX6_hasBytes_11 : decode cX6_hasBytes 11 = .ok (.ifCond .ne 7, 3) := by decide +kernel
theorem dX6_hasBytes_14 : decode cX6_hasBytes 14 = .ok (.iconst 1, 1) := by decide +kernel
theorem dX6_hasBytes_15 : decode cX6_hasBytes 15 = .ok (.goto 4, 3) := by decide +kernel
theorem dX6_bytesRefusal_0 : decode cX6_bytesRefusal 0 = .ok (.aload_n 0, 1) := by decide +kernel
theorem dX6_bytesRefusal_1 : decode cX6_bytesRefusal 1 = .ok (.invokevirtual 32, 3) := by decide +kernel
theorem dX6_bytesRefusal_4 : decode cX6_bytesRefusal 4 = .ok (.ifCond .eq 6, 3) := by decide +kernel
theorem dX6_bytesRefusal_10 : decode cX6_bytesRefusal 10 = .ok (.aload_n 0, 1) := by decide +kernel
theorem dX6_bytesRefusal_11 : decode cX6_bytesRefusal 11 = .ok (.invokevirtual 35, 3) := by decide +kernel
theorem dX6_bytesRefusal_14 : decode cX6_bytesRefusal 14 = .ok (.ifCond .eq 7, 3) := by decide +kernel
theorem dX6_bytesRefusal_21 : decode cX6_bytesRefusal 21 = .ok (.bipush (-12), 2) := by decide +kernel
theorem dX6_bytesRefusal_23 : decode cX6_bytesRefusal 23 = .ok (.ireturn, 1) := by decide +kernel
theorem dX6_bytesRefusal_17 : decode cX6_bytesRefusal 17 = .ok (.iconst 0, 1) := by decide +kernel
theorem dX6_bytesRefusal_18 : decode cX6_bytesRefusal 18 = .ok (.goto 5, 3) := by decide +kernel
theorem dX6_bytesRefusal_7 : decode cX6_bytesRefusal 7 = .ok (.bipush (-11), 2) := by decide +kernel
theorem dX6_bytesRefusal_9 : decode cX6_bytesRefusal 9 = .ok (.ireturn, 1) := by decide +kernel
theorem dX6_placeRefusal_0 : decode cX6_placeRefusal 0 = .ok (.aload_n 0, 1) := by decide +kernel
theorem dX6_placeRefusal_1 : decode cX6_placeRefusal 1 = .ok (.invokevirtual 32, 3) := by decide +kernel
theorem dX6_placeRefusal_4 : decode cX6_placeRefusal 4 = .ok (.ifCond .eq 6, 3) := by decide +kernel
theorem dX6_placeRefusal_10 : decode cX6_placeRefusal 10 = .ok (.aload_n 0, 1) := by decide +kernel
theorem dX6_placeRefusal_11 : decode cX6_placeRefusal 11 = .ok (.invokevirtual 19, 3) := by decide +kernel
theorem dX6_placeRefusal_14 : decode cX6_placeRefusal 14 = .ok (.ifCond .ne 6, 3) := by decide +kernel
theorem dX6_placeRefusal_20 : decode cX6_placeRefusal 20 = .ok (.iload_n 1, 1) := by decide +kernel
theorem dX6_placeRefusal_21 : decode cX6_placeRefusal 21 = .ok (.ifCond .lt 15, 3) := by decide +kernel
theorem dX6_placeRefusal_36 : decode cX6_placeRefusal 36 = .ok (.bipush (-13), 2) := by decide +kernel
theorem dX6_placeRefusal_38 : decode cX6_placeRefusal 38 = .ok (.ireturn, 1) := by decide +kernel
theorem dX6_placeRefusal_24 : decode cX6_placeRefusal 24 = .ok (.iload_n 1, 1) := by decide +kernel
theorem dX6_placeRefusal_25 : decode cX6_placeRefusal 25 = .ok (.aload_n 0, 1) := by decide +kernel
theorem dX6_placeRefusal_26 : decode cX6_placeRefusal 26 = .ok (.getfield 26, 3) := by decide +kernel
theorem dX6_placeRefusal_29 : decode cX6_placeRefusal 29 = .ok (.if_icmp .ge 7, 3) := by decide +kernel
theorem dX6_placeRefusal_32 : decode cX6_placeRefusal 32 = .ok (.iconst 0, 1) := by decide +kernel
theorem dX6_placeRefusal_33 : decode cX6_placeRefusal 33 = .ok (.goto 5, 3) := by decide +kernel
theorem dX6_placeRefusal_17 : decode cX6_placeRefusal 17 = .ok (.bipush (-12), 2) := by decide +kernel
theorem dX6_placeRefusal_19 : decode cX6_placeRefusal 19 = .ok (.ireturn, 1) := by decide +kernel
theorem dX6_placeRefusal_7 : decode cX6_placeRefusal 7 = .ok (.bipush (-11), 2) := by decide +kernel
theorem dX6_placeRefusal_9 : decode cX6_placeRefusal 9 = .ok (.ireturn, 1) := by decide +kernel
theorem dX6_hasStretch_0 : decode cX6_hasStretch 0 = .ok (.iload_n 1, 1) := by decide +kernel
theorem dX6_hasStretch_1 : decode cX6_hasStretch 1 = .ok (.ifCond .lt 29, 3) := by decide +kernel
theorem dX6_hasStretch_30 : decode cX6_hasStretch 30 = .ok (.iconst 0, 1) := by decide +kernel
theorem dX6_hasStretch_31 : decode cX6_hasStretch 31 = .ok (.ireturn, 1) := by decide +kernel
theorem dX6_hasStretch_4 : decode cX6_hasStretch 4 = .ok (.iload_n 2, 1) := by decide +kernel
theorem dX6_hasStretch_5 : decode cX6_hasStretch 5 = .ok (.ifCond .lt 25, 3) := by decide +kernel
theorem dX6_hasStretch_8 : decode cX6_hasStretch 8 = .ok (.iload_n 1, 1) := by decide +kernel
theorem dX6_hasStretch_9 : decode cX6_hasStretch 9 = .ok (.aload_n 0, 1) := by decide +kernel
theorem dX6_hasStretch_10 : decode cX6_hasStretch 10 = .ok (.getfield 26, 3) := by decide +kernel
theorem dX6_hasStretch_13 : decode cX6_hasStretch 13 = .ok (.if_icmp .gt 17, 3) := by decide +kernel
theorem dX6_hasStretch_16 : decode cX6_hasStretch 16 = .ok (.iload_n 2, 1) := by decide +kernel
theorem dX6_hasStretch_17 : decode cX6_hasStretch 17 = .ok (.aload_n 0, 1) := by decide +kernel
theorem dX6_hasStretch_18 : decode cX6_hasStretch 18 = .ok (.getfield 26, 3) := by decide +kernel
theorem dX6_hasStretch_21 : decode cX6_hasStretch 21 = .ok (.iload_n 1, 1) := by decide +kernel
theorem dX6_hasStretch_22 : decode cX6_hasStretch 22 = .ok (.isub, 1) := by decide +kernel
theorem dX6_hasStretch_23 : decode cX6_hasStretch 23 = .ok (.if_icmp .gt 7, 3) := by decide +kernel
theorem dX6_hasStretch_26 : decode cX6_hasStretch 26 = .ok (.iconst 1, 1) := by decide +kernel
theorem dX6_hasStretch_27 : decode cX6_hasStretch 27 = .ok (.goto 4, 3) := by decide +kernel
theorem dX6_holdNothing_0 : decode cX6_holdNothing 0 = .ok (.aload_n 0, 1) := by decide +kernel
theorem dX6_holdNothing_1 : decode cX6_holdNothing 1 = .ok (.iconst 0, 1) := by decide +kernel
theorem dX6_holdNothing_2 : decode cX6_holdNothing 2 = .ok (.putfield 15, 3) := by decide +kernel
theorem dX6_holdNothing_5 : decode cX6_holdNothing 5 = .ok (.aload_n 0, 1) := by decide +kernel
theorem dX6_holdNothing_6 : decode cX6_holdNothing 6 = .ok (.iconst 0, 1) := by decide +kernel
theorem dX6_holdNothing_7 : decode cX6_holdNothing 7 = .ok (.putfield 26, 3) := by decide +kernel
theorem dX6_holdNothing_10 : decode cX6_holdNothing 10 = .ok (.return_, 1) := by decide +kernel
theorem dX6_holdTurn_0 : decode cX6_holdTurn 0 = .ok (.aload_n 0, 1) := by decide +kernel
theorem dX6_holdTurn_1 : decode cX6_holdTurn 1 = .ok (.iconst 1, 1) := by decide +kernel
theorem dX6_holdTurn_2 : decode cX6_holdTurn 2 = .ok (.putfield 15, 3) := by decide +kernel
theorem dX6_holdTurn_5 : decode cX6_holdTurn 5 = .ok (.aload_n 0, 1) := by decide +kernel
theorem dX6_holdTurn_6 : decode cX6_holdTurn 6 = .ok (.iload_n 1, 1) := by decide +kernel
theorem dX6_holdTurn_7 : decode cX6_holdTurn 7 = .ok (.putfield 29, 3) := by decide +kernel
theorem dX6_holdTurn_10 : decode cX6_holdTurn 10 = .ok (.aload_n 0, 1) := by decide +kernel
theorem dX6_holdTurn_11 : decode cX6_holdTurn 11 = .ok (.iconst 0, 1) := by decide +kernel
theorem dX6_holdTurn_12 : decode cX6_holdTurn 12 = .ok (.putfield 26, 3) := by decide +kernel
theorem dX6_holdTurn_15 : decode cX6_holdTurn 15 = .ok (.return_, 1) := by decide +kernel
theorem by_0 {g : Nat} (hg : g < 25) (h : ¬ nI g < 5) : ∃ j : Nat, j < 25 ∧ nI g - 5 = nI j := (show ∀ g, g < 25 → ¬ nI g < 5 → ∃ j : Nat, j < 25 ∧ nI g - 5 = nI j by decide +kernel) g hg h
theorem by_1 {g : Nat} (hg : g < 25) (h : ¬ 4 ≤ nI g - nI g / 5 * 5) : ∃ j : Nat, j < 25 ∧ nI (g + 1) = nI j := (show ∀ g, g < 25 → ¬ 4 ≤ nI g - nI g / 5 * 5 → ∃ j : Nat, j < 25 ∧ nI (g + 1) = nI j by decide +kernel) g hg h
theorem by_2 {g : Nat} (hg : g < 25) (h : ¬ 25 ≤ nI (g + 5)) : ∃ j : Nat, j < 25 ∧ nI (g + 5) = nI j := (show ∀ g, g < 25 → ¬ 25 ≤ nI (g + 5) → ∃ j : Nat, j < 25 ∧ nI (g + 5) = nI j by decide +kernel) g hg h
theorem by_3 {g : Nat} (hg : g < 25) (h : ¬ nI g - nI g / 5 * 5 ≤ 0) : ∃ j : Nat, j < 25 ∧ nI g - 1 = nI j := (show ∀ g, g < 25 → ¬ nI g - nI g / 5 * 5 ≤ 0 → ∃ j : Nat, j < 25 ∧ nI g - 1 = nI j by decide +kernel) g hg h
/-- every skill is 0 to 12 -/
def SK (M : xM) : Prop := ∀ j, j < 25 → ∃ q : Nat, q ≤ 12 ∧ M 36 j = nI q
theorem SK_w {M : xM} {g w : Nat} (hw : w ≤ 12) (h : SK M) : SK (x_up M 36 g (nI w)) := fun j hj => by
  by_cases e : j = g
  · subst e; exact ⟨w, hw, x_up_s _ _ _ _⟩
  · obtain ⟨q, hq, eq⟩ := h j hj; exact ⟨q, hq, (x_up_k _ _ _ e).trans eq⟩
theorem SK_n {M : xM} {p k : Nat} {v : Int32} (hp : p ≠ 36) (h : SK M) : SK (x_up M p k v) := fun j hj => by
  obtain ⟨q, hq, eq⟩ := h j hj; exact ⟨q, hq, (congrFun (x_up_n M k v (fun z => hp z.symm)) j).trans eq⟩
set_option maxRecDepth 100000 in
set_option maxHeartbeats 4000000 in
theorem g_X1_drop {g : Nat} (hg : g < 25) (b mi : Int32) {l : Launch} {G : xG} {M : xM} {J : xJ} : x_M l G fX1_drop 0 0 0 [.ref (35), .int (nI (g)), .int (b), .int (mi)] x_SH M J (qKV WFD M J (fun M2 => True)) := by
  refine xb_of pX1 (Nat.le_of_ble_eq_true rfl) rfl ?_
  refine xr_aload_n dX1_drop_0 0 rfl ?_
  refine xr_getR flX1_18 dX1_drop_1 s_35 rfl ?_
  refine xr_iload_n dX1_drop_4 1 rfl ?_
  refine xr_iconst (v := 0) dX1_drop_5 rfl ?_
  refine xb_zast (j := g) (w := 0) dX1_drop_6 s_38 hg (by decide) rfl ?_
  refine xr_aload_n dX1_drop_7 0 rfl ?_
  refine xr_getR flX1_22 dX1_drop_8 s_35 rfl ?_
  refine xr_iload_n dX1_drop_11 1 rfl ?_
  refine xr_iload_n dX1_drop_12 2 rfl ?_
  refine xb_iast (j := g) dX1_drop_13 s_39 hg (by decide) ?_
  refine xr_aload_n dX1_drop_14 0 rfl ?_
  refine xr_getR flX1_25 dX1_drop_15 s_35 rfl ?_
  refine xr_iload_n dX1_drop_18 1 rfl ?_
  refine xr_iload_n dX1_drop_19 3 rfl ?_
  refine xb_iast (j := g) dX1_drop_20 s_40 hg (by decide) ?_
  exact xr_vret dX1_drop_21 rfl (⟨rfl, rfl, rfl, (Ke.up (Or.inr (by omega)) (Ke.up (Or.inr (by omega)) (Ke.up (Or.inr (by omega)) Ke.rf))), trivial⟩)
set_option maxRecDepth 100000 in
set_option maxHeartbeats 4000000 in
theorem g_X1_draw {l : Launch} {G : xG} {M : xM} {J : xJ} : x_M l G fX1_draw 0 0 0 [.ref (35)] x_SH M J (qKI WFD M J (fun r M2 => True)) := by
  refine xb_of pX1 (Nat.le_of_ble_eq_true rfl) rfl ?_
  refine xr_aload_n dX1_draw_0 0 rfl ?_
  refine xr_aload_n dX1_draw_1 0 rfl ?_
  refine xb_get (v := M 35 6) flX1_46 dX1_draw_2 s_35 rfl rfl ?_
  refine xr_ldc coX1_67 dX1_draw_5 ?_
  refine xr_imul dX1_draw_7 ?_
  refine xr_sipush (v := 12345) dX1_draw_8 rfl ?_
  refine xr_iadd dX1_draw_11 ?_
  refine xr_putI fpX1_46 dX1_draw_12 s_35 rfl rfl rfl ?_
  refine xr_aload_n dX1_draw_15 0 rfl ?_
  refine xb_get (v := (((M 35 6) * 1103515245) + 12345)) flX1_46 dX1_draw_16 s_35 rfl (x_up_s _ _ _ _) ?_
  refine xr_bipush (v := 8) dX1_draw_19 rfl ?_
  refine xr_iushr dX1_draw_21 ?_
  refine xr_bipush (v := 12) dX1_draw_22 rfl ?_
  refine xr_irem dX1_draw_24 (by decide) ?_
  exact xr_iret dX1_draw_25 rfl rfl (⟨_, rfl, rfl, rfl, (Ke.up (Or.inl (by omega)) Ke.rf), trivial⟩)
set_option maxRecDepth 100000 in
set_option maxHeartbeats 4000000 in
theorem g_X1_beside {g : Nat} (hg : g < 25) (si : Int32) {l : Launch} {G : xG} {M : xM} {J : xJ} : x_M l G fX1_beside 0 0 0 [.int (nI (g)), .int (si)] x_SH M J (qPI M J (fun r => r = -1 ∨ ∃ j : Nat, j < 25 ∧ r = nI j)) := by
  refine xb_of pX1 (Nat.le_of_ble_eq_true rfl) rfl ?_
  refine xr_iload_n dX1_beside_0 1 rfl ?_
  refine xg_eq 0 (fun w1 => ?_) (fun w1 => ?_)
  · refine xr_tableIn (tgt := 28) dX1_beside_1 (by decide) (by decide) rfl rfl ?_
    refine xr_iload_n dX1_beside_28 0 rfl ?_
    refine xr_iconst (v := 5) dX1_beside_29 rfl ?_
    refine xr_icmp_lt (tgt := 39) dX1_beside_30 rfl (fun c2 => ?_) (fun c2 => ?_)
    · refine xr_iconst (v := -1) dX1_beside_39 rfl ?_
      exact xr_iret dX1_beside_40 rfl rfl (⟨_, rfl, rfl, rfl, rfl, (Or.inl rfl)⟩)
    · refine xr_iload_n dX1_beside_33 0 rfl ?_
      refine xr_iconst (v := 5) dX1_beside_34 rfl ?_
      refine xr_isub dX1_beside_35 ?_
      refine xr_goto (tgt := 40) dX1_beside_36 rfl ?_
      exact xr_iret dX1_beside_40 rfl rfl (⟨_, rfl, rfl, rfl, rfl, (Or.inr (by_0 hg c2))⟩)
  refine xg_eq 1 (fun w3 => ?_) (fun w3 => ?_)
  · refine xr_tableIn (tgt := 41) dX1_beside_1 (by decide) (by decide) rfl rfl ?_
    refine xr_iload_n dX1_beside_41 0 rfl ?_
    refine xr_iconst (v := 5) dX1_beside_42 rfl ?_
    refine xr_irem dX1_beside_43 (by decide) ?_
    refine xr_iconst (v := 4) dX1_beside_44 rfl ?_
    refine xr_icmp_ge (tgt := 54) dX1_beside_45 rfl (fun c4 => ?_) (fun c4 => ?_)
    · refine xr_iconst (v := -1) dX1_beside_54 rfl ?_
      exact xr_iret dX1_beside_55 rfl rfl (⟨_, rfl, rfl, rfl, rfl, (Or.inl rfl)⟩)
    · refine xr_iload_n dX1_beside_48 0 rfl ?_
      refine xr_iconst (v := 1) dX1_beside_49 rfl ?_
      refine xr_iadd dX1_beside_50 ?_
      refine xb_top (y := nI (g + 1)) (nI_add (g) (1)) ?_
      refine xr_goto (tgt := 55) dX1_beside_51 rfl ?_
      exact xr_iret dX1_beside_55 rfl rfl (⟨_, rfl, rfl, rfl, rfl, (Or.inr (by_1 hg c4))⟩)
  refine xg_eq 2 (fun w5 => ?_) (fun w5 => ?_)
  · refine xr_tableIn (tgt := 56) dX1_beside_1 (by decide) (by decide) rfl rfl ?_
    refine xr_iload_n dX1_beside_56 0 rfl ?_
    refine xr_iconst (v := 5) dX1_beside_57 rfl ?_
    refine xr_iadd dX1_beside_58 ?_
    refine xb_top (y := nI (g + 5)) (nI_add (g) (5)) ?_
    refine xr_bipush (v := 25) dX1_beside_59 rfl ?_
    refine xr_icmp_ge (tgt := 70) dX1_beside_61 rfl (fun c6 => ?_) (fun c6 => ?_)
    · refine xr_iconst (v := -1) dX1_beside_70 rfl ?_
      exact xr_iret dX1_beside_71 rfl rfl (⟨_, rfl, rfl, rfl, rfl, (Or.inl rfl)⟩)
    · refine xr_iload_n dX1_beside_64 0 rfl ?_
      refine xr_iconst (v := 5) dX1_beside_65 rfl ?_
      refine xr_iadd dX1_beside_66 ?_
      refine xb_top (y := nI (g + 5)) (nI_add (g) (5)) ?_
      refine xr_goto (tgt := 71) dX1_beside_67 rfl ?_
      exact xr_iret dX1_beside_71 rfl rfl (⟨_, rfl, rfl, rfl, rfl, (Or.inr (by_2 hg c6))⟩)
  refine xr_tableOut (tgt := 72) dX1_beside_1 (xg_out (lo := 0) (hi := 2) (by decide) (fun j h1 h2 qq => by have h3 : j = 0 ∨ j = 1 ∨ j = 2 := (by omega); rcases h3 with rfl | rfl | rfl <;> first | exact absurd qq w1 | exact absurd qq w3 | exact absurd qq w5)) rfl ?_
  refine xr_iload_n dX1_beside_72 0 rfl ?_
  refine xr_iconst (v := 5) dX1_beside_73 rfl ?_
  refine xr_irem dX1_beside_74 (by decide) ?_
  refine xr_if_le (tgt := 84) dX1_beside_75 rfl (fun c7 => ?_) (fun c7 => ?_)
  · refine xr_iconst (v := -1) dX1_beside_84 rfl ?_
    exact xr_iret dX1_beside_85 rfl rfl (⟨_, rfl, rfl, rfl, rfl, (Or.inl rfl)⟩)
  · refine xr_iload_n dX1_beside_78 0 rfl ?_
    refine xr_iconst (v := 1) dX1_beside_79 rfl ?_
    refine xr_isub dX1_beside_80 ?_
    refine xr_goto (tgt := 85) dX1_beside_81 rfl ?_
    exact xr_iret dX1_beside_85 rfl rfl (⟨_, rfl, rfl, rfl, rfl, (Or.inr (by_3 hg c7))⟩)
set_option maxRecDepth 100000 in
set_option maxHeartbeats 4000000 in
theorem kf_l {mi : Int32} {g : Nat} (hg : g < 25) {l : Launch} {G : xG} {M : xM} {J : xJ} {Q : xQ} (hC : ∀ (M2 : xM), Ke WFD M M2 → x_X l G fX1_knockFrom 1 0 0 Q 55 [(2, .int (mi)), (1, .int (nI (g))), (0, .ref (35))] [] x_SH M2 J 0 0) : ∀ (m k : Nat) (M1 : xM), k + m = 4 → Ke WFD M M1 → x_X l G fX1_knockFrom 1 0 0 Q 2 [(3, .int (nI (k))), (2, .int (mi)), (1, .int (nI (g))), (0, .ref (35))] [] x_SH M1 J 0 0 := by
  intro m
  induction m with
  | zero =>
    intro k M1 hk hM
    refine xr_iload_n dX1_knockFrom_2 0 rfl ?_
    refine xr_iconst (v := 4) dX1_knockFrom_3 rfl ?_
    refine xr_icmp_ge (tgt := 55) dX1_knockFrom_4 rfl (fun _ => ?_) (fun c => absurd (nI_le (a := 4) (b := k) (by omega) (by omega)) c)
    refine xb_ls (ls2 := [(2, .int (mi)), (1, .int (nI (g))), (0, .ref (35))]) [1, 2, 3] rfl ?_
    exact hC _ hM
  | succ m ih =>
    intro k M1 hk hM
    have hkN : k < 4 := by omega
    refine xr_iload_n dX1_knockFrom_2 0 rfl ?_
    refine xr_iconst (v := 4) dX1_knockFrom_3 rfl ?_
    refine xr_icmp_ge (tgt := 55) dX1_knockFrom_4 rfl (fun c => absurd c (nI_ge (a := k) (b := 4) (by omega) (by omega))) (fun _ => ?_)
    refine xr_iload_n dX1_knockFrom_7 2 rfl ?_
    refine xr_iload_n dX1_knockFrom_8 0 rfl ?_
    refine xr_callS (As := [.int (nI (g)), .int (nI (k))]) (rest := []) mlX1_64 (g_X1_beside (g := g) hg (nI (k))) dX1_knockFrom_9 rfl rfl (Nat.le_of_ble_eq_true rfl) (by decide) ⟨by decide, by decide⟩ (fun v s2 M9 J2 hq => ?_)
    obtain ⟨r2, rfl, rfl, rfl, rfl, hx1⟩ := hq
    try dsimp only [Option.toList, List.cons_append, List.nil_append]
    refine xr_istore (ls2 := [(4, .int (r2)), (3, .int (nI (k))), (2, .int (mi)), (1, .int (nI (g))), (0, .ref (35))]) dX1_knockFrom_12 (by decide) rfl ?_
    refine xr_iload dX1_knockFrom_14 0 rfl ?_
    refine xr_iconst (v := -1) dX1_knockFrom_16 rfl ?_
    refine xr_icmp_eq (tgt := 49) dX1_knockFrom_17 rfl (fun c3 => ?_) (fun c3 => ?_)
    · refine xr_iinc (v := nI (k + 1)) (ls2 := [(3, .int (nI (k + 1))), (4, .int (r2)), (2, .int (mi)), (1, .int (nI (g))), (0, .ref (35))]) dX1_knockFrom_49 1 rfl (nI_1 _) (by decide) rfl ?_
      refine xr_goto (tgt := 2) dX1_knockFrom_52 rfl ?_
      refine xb_ls (ls2 := [(3, .int (nI (k + 1))), (2, .int (mi)), (1, .int (nI (g))), (0, .ref (35))]) [0, 2, 3, 4] rfl ?_
      exact ih (k + 1) M1 (by omega) hM
    · obtain ⟨j4, hj4, rfl⟩ := Or.resolve_left hx1 c3
      refine xr_aload_n dX1_knockFrom_20 4 rfl ?_
      refine xr_getR flX1_18 dX1_knockFrom_21 s_35 rfl ?_
      refine xr_iload dX1_knockFrom_24 0 rfl ?_
      refine xb_zald (j := j4) (v := M1 38 j4) dX1_knockFrom_26 s_38 hj4 (by decide) rfl ?_
      refine xr_if_eq (tgt := 49) dX1_knockFrom_27 rfl (fun c5 => ?_) (fun c5 => ?_)
      · refine xr_iinc (v := nI (k + 1)) (ls2 := [(3, .int (nI (k + 1))), (4, .int (nI (j4))), (2, .int (mi)), (1, .int (nI (g))), (0, .ref (35))]) dX1_knockFrom_49 1 rfl (nI_1 _) (by decide) rfl ?_
        refine xr_goto (tgt := 2) dX1_knockFrom_52 rfl ?_
        refine xb_ls (ls2 := [(3, .int (nI (k + 1))), (2, .int (mi)), (1, .int (nI (g))), (0, .ref (35))]) [0, 2, 3, 4] rfl ?_
        exact ih (k + 1) M1 (by omega) hM
      · refine xr_aload_n dX1_knockFrom_30 4 rfl ?_
        refine xr_callV (As := []) (rest := []) mlX1_53 (g_X1_draw) dX1_knockFrom_31 s_35 rfl rfl (Nat.le_of_ble_eq_true rfl) (by decide) ⟨by decide, by decide⟩ (fun v s2 M6 J2 hq => ?_)
        obtain ⟨r8, rfl, rfl, rfl, k7, _⟩ := hq
        try dsimp only [Option.toList, List.cons_append, List.nil_append]
        refine xr_aload_n dX1_knockFrom_34 4 rfl ?_
        refine xb_get (v := M6 35 5) flX1_28 dX1_knockFrom_35 s_35 rfl rfl ?_
        refine xr_icmp_ge (tgt := 49) dX1_knockFrom_38 rfl (fun c9 => ?_) (fun c9 => ?_)
        · refine xr_iinc (v := nI (k + 1)) (ls2 := [(3, .int (nI (k + 1))), (4, .int (nI (j4))), (2, .int (mi)), (1, .int (nI (g))), (0, .ref (35))]) dX1_knockFrom_49 1 rfl (nI_1 _) (by decide) rfl ?_
          refine xr_goto (tgt := 2) dX1_knockFrom_52 rfl ?_
          refine xb_ls (ls2 := [(3, .int (nI (k + 1))), (2, .int (mi)), (1, .int (nI (g))), (0, .ref (35))]) [0, 2, 3, 4] rfl ?_
          exact ih (k + 1) M6 (by omega) (Ke.tr (fun _ _ h => h) hM k7)
        · refine xr_aload_n dX1_knockFrom_41 4 rfl ?_
          refine xr_iload dX1_knockFrom_42 0 rfl ?_
          refine xr_iload_n dX1_knockFrom_44 3 rfl ?_
          refine xr_iload_n dX1_knockFrom_45 2 rfl ?_
          refine xr_callV (As := [.int (nI (j4)), .int (nI (g)), .int (mi)]) (rest := []) mlX1_57 (g_X1_drop (g := j4) hj4 (nI (g)) mi) dX1_knockFrom_46 s_35 rfl rfl (Nat.le_of_ble_eq_true rfl) (by decide) ⟨by decide, by decide⟩ (fun v s2 M10 J2 hq => ?_)
          obtain ⟨rfl, rfl, rfl, k11, _⟩ := hq
          try dsimp only [Option.toList, List.cons_append, List.nil_append]
          refine xr_iinc (v := nI (k + 1)) (ls2 := [(3, .int (nI (k + 1))), (4, .int (nI (j4))), (2, .int (mi)), (1, .int (nI (g))), (0, .ref (35))]) dX1_knockFrom_49 1 rfl (nI_1 _) (by decide) rfl ?_
          refine xr_goto (tgt := 2) dX1_knockFrom_52 rfl ?_
          refine xb_ls (ls2 := [(3, .int (nI (k + 1))), (2, .int (mi)), (1, .int (nI (g))), (0, .ref (35))]) [0, 2, 3, 4] rfl ?_
          exact ih (k + 1) M10 (by omega) (Ke.tr (fun _ _ h => h) (Ke.tr (fun _ _ h => h) hM k7) k11)
set_option maxRecDepth 100000 in
set_option maxHeartbeats 4000000 in
theorem g_X1_knockFrom {g : Nat} (hg : g < 25) (mi : Int32) {l : Launch} {G : xG} {M : xM} {J : xJ} : x_M l G fX1_knockFrom 1 0 0 [.ref (35), .int (nI (g)), .int (mi)] x_SH M J (qKV WFD M J (fun M2 => True)) := by
  refine xb_of pX1 (Nat.le_of_ble_eq_true rfl) rfl ?_
  refine xr_iconst (v := 0) dX1_knockFrom_0 rfl ?_
  refine xr_istore_n (ls2 := [(3, .int (0)), (0, .ref (35)), (1, .int (nI (g))), (2, .int (mi))]) dX1_knockFrom_1 (by decide) rfl ?_
  refine xb_ls (ls2 := [(3, .int (nI (0))), (2, .int (mi)), (1, .int (nI (g))), (0, .ref (35))]) [0, 3, 2, 1] rfl ?_
  refine kf_l hg (fun M1 k2 => ?_) (4 - 0) 0 M (by omega) Ke.rf
  exact xr_vret dX1_knockFrom_55 rfl (⟨rfl, rfl, rfl, (Ke.tr (fun _ _ h => h) Ke.rf k2), trivial⟩)
set_option maxRecDepth 100000 in
set_option maxHeartbeats 4000000 in
theorem pm_l {mi : Int32} {l : Launch} {G : xG} {M : xM} {J : xJ} {Q : xQ} (hC : ∀ (M2 : xM), Ke WFD M M2 → x_X l G fX1_playMinute 2 0 0 Q 50 [(1, .int (mi)), (0, .ref (35))] [] x_SH M2 J 0 0) : ∀ (m k : Nat) (M1 : xM), k + m = 25 → Ke WFD M M1 → x_X l G fX1_playMinute 2 0 0 Q 2 [(2, .int (nI (k))), (1, .int (mi)), (0, .ref (35))] [] x_SH M1 J 0 0 := by
  intro m
  induction m with
  | zero =>
    intro k M1 hk hM
    refine xr_iload_n dX1_playMinute_2 0 rfl ?_
    refine xr_bipush (v := 25) dX1_playMinute_3 rfl ?_
    refine xr_icmp_ge (tgt := 50) dX1_playMinute_5 rfl (fun _ => ?_) (fun c => absurd (nI_le (a := 25) (b := k) (by omega) (by omega)) c)
    refine xb_ls (ls2 := [(1, .int (mi)), (0, .ref (35))]) [1, 2] rfl ?_
    exact hC _ hM
  | succ m ih =>
    intro k M1 hk hM
    have hkN : k < 25 := by omega
    refine xr_iload_n dX1_playMinute_2 0 rfl ?_
    refine xr_bipush (v := 25) dX1_playMinute_3 rfl ?_
    refine xr_icmp_ge (tgt := 50) dX1_playMinute_5 rfl (fun c => absurd c (nI_ge (a := k) (b := 25) (by omega) (by omega))) (fun _ => ?_)
    refine xr_aload_n dX1_playMinute_8 2 rfl ?_
    refine xr_getR flX1_18 dX1_playMinute_9 s_35 rfl ?_
    refine xr_iload_n dX1_playMinute_12 0 rfl ?_
    refine xb_zald (j := k) (v := M1 38 k) dX1_playMinute_13 s_38 (by omega) (by decide) rfl ?_
    refine xr_if_eq (tgt := 44) dX1_playMinute_14 rfl (fun c1 => ?_) (fun c1 => ?_)
    · refine xr_iinc (v := nI (k + 1)) (ls2 := [(2, .int (nI (k + 1))), (1, .int (mi)), (0, .ref (35))]) dX1_playMinute_44 0 rfl (nI_1 _) (by decide) rfl ?_
      refine xr_goto (tgt := 2) dX1_playMinute_47 rfl ?_
      refine xb_ls (ls2 := [(2, .int (nI (k + 1))), (1, .int (mi)), (0, .ref (35))]) [0, 1, 2] rfl ?_
      exact ih (k + 1) M1 (by omega) hM
    · refine xr_aload_n dX1_playMinute_17 2 rfl ?_
      refine xr_callV (As := []) (rest := []) mlX1_53 (g_X1_draw) dX1_playMinute_18 s_35 rfl rfl (Nat.le_of_ble_eq_true rfl) (by decide) ⟨by decide, by decide⟩ (fun v s2 M2 J2 hq => ?_)
      obtain ⟨r4, rfl, rfl, rfl, k3, _⟩ := hq
      try dsimp only [Option.toList, List.cons_append, List.nil_append]
      refine xr_aload_n dX1_playMinute_21 2 rfl ?_
      refine xr_getR flX1_9 dX1_playMinute_22 s_35 rfl ?_
      refine xr_iload_n dX1_playMinute_25 0 rfl ?_
      refine xb_iald (j := k) (v := M2 36 k) dX1_playMinute_26 s_36 (by omega) (by decide) rfl ?_
      refine xr_icmp_lt (tgt := 44) dX1_playMinute_27 rfl (fun c5 => ?_) (fun c5 => ?_)
      · refine xr_iinc (v := nI (k + 1)) (ls2 := [(2, .int (nI (k + 1))), (1, .int (mi)), (0, .ref (35))]) dX1_playMinute_44 0 rfl (nI_1 _) (by decide) rfl ?_
        refine xr_goto (tgt := 2) dX1_playMinute_47 rfl ?_
        refine xb_ls (ls2 := [(2, .int (nI (k + 1))), (1, .int (mi)), (0, .ref (35))]) [0, 1, 2] rfl ?_
        exact ih (k + 1) M2 (by omega) (Ke.tr (fun _ _ h => h) hM k3)
      · refine xr_aload_n dX1_playMinute_30 2 rfl ?_
        refine xr_iload_n dX1_playMinute_31 0 rfl ?_
        refine xr_bipush (v := -2) dX1_playMinute_32 rfl ?_
        refine xr_iload_n dX1_playMinute_34 1 rfl ?_
        refine xr_callV (As := [.int (nI (k)), .int ((-2)), .int (mi)]) (rest := []) mlX1_57 (g_X1_drop (g := k) (by omega) (-2) mi) dX1_playMinute_35 s_35 rfl rfl (Nat.le_of_ble_eq_true rfl) (by decide) ⟨by decide, by decide⟩ (fun v s2 M6 J2 hq => ?_)
        obtain ⟨rfl, rfl, rfl, k7, _⟩ := hq
        try dsimp only [Option.toList, List.cons_append, List.nil_append]
        refine xr_aload_n dX1_playMinute_38 2 rfl ?_
        refine xr_iload_n dX1_playMinute_39 0 rfl ?_
        refine xr_iload_n dX1_playMinute_40 1 rfl ?_
        refine xr_callV (As := [.int (nI (k)), .int (mi)]) (rest := []) mlX1_61 (g_X1_knockFrom (g := k) (by omega) mi) dX1_playMinute_41 s_35 rfl rfl (Nat.le_of_ble_eq_true rfl) (by decide) ⟨by decide, by decide⟩ (fun v s2 M8 J2 hq => ?_)
        obtain ⟨rfl, rfl, rfl, k9, _⟩ := hq
        try dsimp only [Option.toList, List.cons_append, List.nil_append]
        refine xr_iinc (v := nI (k + 1)) (ls2 := [(2, .int (nI (k + 1))), (1, .int (mi)), (0, .ref (35))]) dX1_playMinute_44 0 rfl (nI_1 _) (by decide) rfl ?_
        refine xr_goto (tgt := 2) dX1_playMinute_47 rfl ?_
        refine xb_ls (ls2 := [(2, .int (nI (k + 1))), (1, .int (mi)), (0, .ref (35))]) [0, 1, 2] rfl ?_
        exact ih (k + 1) M8 (by omega) (Ke.tr (fun _ _ h => h) (Ke.tr (fun _ _ h => h) (Ke.tr (fun _ _ h => h) hM k3) k7) k9)
set_option maxRecDepth 100000 in
set_option maxHeartbeats 4000000 in
theorem g_X1_playMinute (mi : Int32) {l : Launch} {G : xG} {M : xM} {J : xJ} : x_M l G fX1_playMinute 2 0 0 [.ref (35), .int (mi)] x_SH M J (qKV WFD M J (fun M2 => True)) := by
  refine xb_of pX1 (Nat.le_of_ble_eq_true rfl) rfl ?_
  refine xr_iconst (v := 0) dX1_playMinute_0 rfl ?_
  refine xr_istore_n (ls2 := [(2, .int (0)), (0, .ref (35)), (1, .int (mi))]) dX1_playMinute_1 (by decide) rfl ?_
  refine xb_ls (ls2 := [(2, .int (nI (0))), (1, .int (mi)), (0, .ref (35))]) [0, 2, 1] rfl ?_
  refine pm_l (fun M1 k2 => ?_) (25 - 0) 0 M (by omega) Ke.rf
  exact xr_vret dX1_playMinute_50 rfl (⟨rfl, rfl, rfl, (Ke.tr (fun _ _ h => h) Ke.rf k2), trivial⟩)
set_option maxRecDepth 100000 in
set_option maxHeartbeats 4000000 in
theorem p1_l {se : Int32} {n : Nat} {l : Launch} {G : xG} {M : xM} {J : xJ} {Q : xQ} (hC : ∀ (M2 : xM), Ke WFD M M2 → x_X l G fX1_play 3 0 0 Q 42 [(2, .int (nI (n))), (1, .int (se)), (0, .ref (35))] [] x_SH M2 J 0 0) : ∀ (m k : Nat) (M1 : xM), k + m = 25 → Ke WFD M M1 → x_X l G fX1_play 3 0 0 Q 7 [(3, .int (nI (k))), (2, .int (nI (n))), (1, .int (se)), (0, .ref (35))] [] x_SH M1 J 0 0 := by
  intro m
  induction m with
  | zero =>
    intro k M1 hk hM
    refine xr_iload_n dX1_play_7 0 rfl ?_
    refine xr_bipush (v := 25) dX1_play_8 rfl ?_
    refine xr_icmp_ge (tgt := 42) dX1_play_10 rfl (fun _ => ?_) (fun c => absurd (nI_le (a := 25) (b := k) (by omega) (by omega)) c)
    refine xb_ls (ls2 := [(2, .int (nI (n))), (1, .int (se)), (0, .ref (35))]) [1, 2, 3] rfl ?_
    exact hC _ hM
  | succ m ih =>
    intro k M1 hk hM
    have hkN : k < 25 := by omega
    refine xr_iload_n dX1_play_7 0 rfl ?_
    refine xr_bipush (v := 25) dX1_play_8 rfl ?_
    refine xr_icmp_ge (tgt := 42) dX1_play_10 rfl (fun c => absurd c (nI_ge (a := k) (b := 25) (by omega) (by omega))) (fun _ => ?_)
    refine xr_aload_n dX1_play_13 3 rfl ?_
    refine xr_getR flX1_18 dX1_play_14 s_35 rfl ?_
    refine xr_iload_n dX1_play_17 0 rfl ?_
    refine xr_iconst (v := 1) dX1_play_18 rfl ?_
    refine xb_zast (j := k) (w := 1) dX1_play_19 s_38 (by omega) (by decide) rfl ?_
    refine xr_aload_n dX1_play_20 3 rfl ?_
    refine xr_getR flX1_22 dX1_play_21 s_35 rfl ?_
    refine xr_iload_n dX1_play_24 0 rfl ?_
    refine xr_bipush (v := -2) dX1_play_25 rfl ?_
    refine xb_iast (j := k) dX1_play_27 s_39 (by omega) (by decide) ?_
    refine xr_aload_n dX1_play_28 3 rfl ?_
    refine xr_getR flX1_25 dX1_play_29 s_35 rfl ?_
    refine xr_iload_n dX1_play_32 0 rfl ?_
    refine xr_bipush (v := 31) dX1_play_33 rfl ?_
    refine xb_iast (j := k) dX1_play_35 s_40 (by omega) (by decide) ?_
    refine xr_iinc (v := nI (k + 1)) (ls2 := [(3, .int (nI (k + 1))), (2, .int (nI (n))), (1, .int (se)), (0, .ref (35))]) dX1_play_36 0 rfl (nI_1 _) (by decide) rfl ?_
    refine xr_goto (tgt := 7) dX1_play_39 rfl ?_
    refine xb_ls (ls2 := [(3, .int (nI (k + 1))), (2, .int (nI (n))), (1, .int (se)), (0, .ref (35))]) [0, 1, 2, 3] rfl ?_
    exact ih (k + 1) (x_up (x_up (x_up M1 38 k 1) 39 k (-2)) 40 k 31) (by omega) (Ke.up (Or.inr (by omega)) (Ke.up (Or.inr (by omega)) (Ke.up (Or.inr (by omega)) hM)))
set_option maxRecDepth 100000 in
set_option maxHeartbeats 4000000 in
theorem p2_l {l : Launch} {G : xG} {M : xM} {J : xJ} {se : Int32} {n : Nat} (hn : n ≤ 30) : ∀ (m k : Nat) (M1 : xM), k + m = n + 1 → Ke WFD M M1 → x_X l G fX1_play 3 0 0 (qKV WFD M J (fun M2 => True)) 44 [(3, .int (nI (k))), (2, .int (nI (n))), (1, .int (se)), (0, .ref (35))] [] x_SH M1 J 0 0 := by
  intro m
  induction m with
  | zero =>
    intro k M1 hk hM
    refine xr_iload_n dX1_play_44 0 rfl ?_
    refine xr_iload_n dX1_play_45 1 rfl ?_
    refine xr_icmp_gt (tgt := 60) dX1_play_46 rfl (fun _ => ?_) (fun c => absurd (nI_lt (a := n) (b := k) (by omega) (by omega)) c)
    exact xr_vret dX1_play_60 rfl (⟨rfl, rfl, rfl, hM, trivial⟩)
  | succ m ih =>
    intro k M1 hk hM
    refine xr_iload_n dX1_play_44 0 rfl ?_
    refine xr_iload_n dX1_play_45 1 rfl ?_
    refine xr_icmp_gt (tgt := 60) dX1_play_46 rfl (fun c => absurd c (nI_nlt (a := n) (b := k) (by omega) (by omega))) (fun _ => ?_)
    refine xr_aload_n dX1_play_49 3 rfl ?_
    refine xr_iload_n dX1_play_50 0 rfl ?_
    refine xr_callV (As := [.int (nI (k))]) (rest := []) mlX1_49 (g_X1_playMinute (nI (k))) dX1_play_51 s_35 rfl rfl (Nat.le_of_ble_eq_true rfl) (by decide) ⟨by decide, by decide⟩ (fun v s2 M1 J2 hq => ?_)
    obtain ⟨rfl, rfl, rfl, k2, _⟩ := hq
    try dsimp only [Option.toList, List.cons_append, List.nil_append]
    refine xr_iinc (v := nI (k + 1)) (ls2 := [(3, .int (nI (k + 1))), (2, .int (nI (n))), (1, .int (se)), (0, .ref (35))]) dX1_play_54 0 rfl (nI_1 _) (by decide) rfl ?_
    refine xr_goto (tgt := 44) dX1_play_57 rfl ?_
    refine xb_ls (ls2 := [(3, .int (nI (k + 1))), (2, .int (nI (n))), (1, .int (se)), (0, .ref (35))]) [0, 1, 2, 3] rfl ?_
    exact ih (k + 1) M1 (by omega) (Ke.tr (fun _ _ h => h) hM k2)
set_option maxRecDepth 100000 in
set_option maxHeartbeats 4000000 in
theorem g_X1_play (se : Int32) {n : Nat} (hn : n ≤ 30) {l : Launch} {G : xG} {M : xM} {J : xJ} : x_M l G fX1_play 3 0 0 [.ref (35), .int (se), .int (nI (n))] x_SH M J (qKV WFD M J (fun M2 => True)) := by
  refine xb_of pX1 (Nat.le_of_ble_eq_true rfl) rfl ?_
  refine xr_aload_n dX1_play_0 0 rfl ?_
  refine xr_iload_n dX1_play_1 1 rfl ?_
  refine xr_putI fpX1_46 dX1_play_2 s_35 rfl rfl rfl ?_
  refine xr_iconst (v := 0) dX1_play_5 rfl ?_
  refine xr_istore_n (ls2 := [(3, .int (0)), (0, .ref (35)), (1, .int (se)), (2, .int (nI (n)))]) dX1_play_6 (by decide) rfl ?_
  refine xb_ls (ls2 := [(3, .int (nI (0))), (2, .int (nI (n))), (1, .int (se)), (0, .ref (35))]) [0, 3, 2, 1] rfl ?_
  refine p1_l (fun M1 k2 => ?_) (25 - 0) 0 (x_up M 35 6 se) (by omega) Ke.rf
  refine xr_iconst (v := 1) dX1_play_42 rfl ?_
  refine xr_istore_n (ls2 := [(3, .int (1)), (2, .int (nI (n))), (1, .int (se)), (0, .ref (35))]) dX1_play_43 (by decide) rfl ?_
  refine xb_ls (ls2 := [(3, .int (nI (1))), (2, .int (nI (n))), (1, .int (se)), (0, .ref (35))]) [0, 1, 2, 3] rfl ?_
  exact p2_l hn n 1 M1 (by omega) (Ke.tr (fun _ _ h => h) (Ke.up (Or.inl (by omega)) Ke.rf) k2)
set_option maxRecDepth 100000 in
set_option maxHeartbeats 4000000 in
theorem hu_l {l : Launch} {G : xG} {M : xM} {J : xJ} {Q : xQ} (hC : ∀ (up : Int32), x_X l G fX1_howManyUp 0 0 0 Q 28 [(1, .int (up)), (0, .ref (35))] [] x_SH M J 0 0) : ∀ (m k : Nat) (up : Int32), k + m = 25 → x_X l G fX1_howManyUp 0 0 0 Q 4 [(2, .int (nI (k))), (1, .int (up)), (0, .ref (35))] [] x_SH M J 0 0 := by
  intro m
  induction m with
  | zero =>
    intro k up hk
    refine xr_iload_n dX1_howManyUp_4 0 rfl ?_
    refine xr_bipush (v := 25) dX1_howManyUp_5 rfl ?_
    refine xr_icmp_ge (tgt := 28) dX1_howManyUp_7 rfl (fun _ => ?_) (fun c => absurd (nI_le (a := 25) (b := k) (by omega) (by omega)) c)
    refine xb_ls (ls2 := [(1, .int (up)), (0, .ref (35))]) [1, 2] rfl ?_
    exact hC up
  | succ m ih =>
    intro k up hk
    have hkN : k < 25 := by omega
    refine xr_iload_n dX1_howManyUp_4 0 rfl ?_
    refine xr_bipush (v := 25) dX1_howManyUp_5 rfl ?_
    refine xr_icmp_ge (tgt := 28) dX1_howManyUp_7 rfl (fun c => absurd c (nI_ge (a := k) (b := 25) (by omega) (by omega))) (fun _ => ?_)
    refine xr_aload_n dX1_howManyUp_10 2 rfl ?_
    refine xr_getR flX1_18 dX1_howManyUp_11 s_35 rfl ?_
    refine xr_iload_n dX1_howManyUp_14 0 rfl ?_
    refine xb_zald (j := k) (v := M 38 k) dX1_howManyUp_15 s_38 (by omega) (by decide) rfl ?_
    refine xr_if_eq (tgt := 22) dX1_howManyUp_16 rfl (fun c1 => ?_) (fun c1 => ?_)
    · refine xr_iinc (v := nI (k + 1)) (ls2 := [(2, .int (nI (k + 1))), (1, .int (up)), (0, .ref (35))]) dX1_howManyUp_22 0 rfl (nI_1 _) (by decide) rfl ?_
      refine xr_goto (tgt := 4) dX1_howManyUp_25 rfl ?_
      refine xb_ls (ls2 := [(2, .int (nI (k + 1))), (1, .int (up)), (0, .ref (35))]) [0, 1, 2] rfl ?_
      exact ih (k + 1) up (by omega)
    · refine xr_iinc (v := up + 1) (ls2 := [(1, .int (up + 1)), (2, .int (nI (k))), (0, .ref (35))]) dX1_howManyUp_19 1 rfl rfl (by decide) rfl ?_
      refine xr_iinc (v := nI (k + 1)) (ls2 := [(2, .int (nI (k + 1))), (1, .int (up + 1)), (0, .ref (35))]) dX1_howManyUp_22 1 rfl (nI_1 _) (by decide) rfl ?_
      refine xr_goto (tgt := 4) dX1_howManyUp_25 rfl ?_
      refine xb_ls (ls2 := [(2, .int (nI (k + 1))), (1, .int (up + 1)), (0, .ref (35))]) [0, 1, 2] rfl ?_
      exact ih (k + 1) (up + 1) (by omega)
set_option maxRecDepth 100000 in
set_option maxHeartbeats 4000000 in
theorem g_X1_howManyUp {l : Launch} {G : xG} {M : xM} {J : xJ} : x_M l G fX1_howManyUp 0 0 0 [.ref (35)] x_SH M J (qPI M J (fun r => True)) := by
  refine xb_of pX1 (Nat.le_of_ble_eq_true rfl) rfl ?_
  refine xr_iconst (v := 0) dX1_howManyUp_0 rfl ?_
  refine xr_istore_n (ls2 := [(1, .int (0)), (0, .ref (35))]) dX1_howManyUp_1 (by decide) rfl ?_
  refine xr_iconst (v := 0) dX1_howManyUp_2 rfl ?_
  refine xr_istore_n (ls2 := [(2, .int (0)), (1, .int (0)), (0, .ref (35))]) dX1_howManyUp_3 (by decide) rfl ?_
  refine xb_ls (ls2 := [(2, .int (nI (0))), (1, .int (0)), (0, .ref (35))]) [0, 1, 2] rfl ?_
  refine hu_l (fun q1 => ?_) (25 - 0) 0 0 (by omega)
  refine xr_iload_n dX1_howManyUp_28 0 rfl ?_
  exact xr_iret dX1_howManyUp_29 rfl rfl (⟨_, rfl, rfl, rfl, rfl, trivial⟩)
set_option maxRecDepth 100000 in
set_option maxHeartbeats 4000000 in
theorem c_X6_isEmpty {sq el : Nat} (hs : x_SH[sq]? = some (.inl (6, [none, none, none, none, some (some el)]))) (hel : x_SH[el]? = some (.inr (2, 60, fun _ => none))) {l : Launch} {G : xG} {M : xM} {J : xJ} : x_M l G fX6_isEmpty 0 0 0 [.ref (sq)] x_SH M J (qE (some (.int (bI (M sq 0 = 0)))) x_SH M J) := by
  refine xb_of pX6 (Nat.le_of_ble_eq_true rfl) rfl ?_
  refine xr_aload_n dX6_isEmpty_0 0 rfl ?_
  refine xb_get (v := M sq 0) flX6_15 dX6_isEmpty_1 hs rfl rfl ?_
  refine xr_if_ne (tgt := 11) dX6_isEmpty_4 rfl (fun c1 => ?_) (fun c1 => ?_)
  · refine xr_iconst (v := 0) dX6_isEmpty_11 rfl ?_
    exact xr_iret dX6_isEmpty_12 rfl rfl (⟨congrArg (fun z => some (Value.int z)) (bI_f (by grind)).symm, rfl, rfl, rfl⟩)
  · refine xr_iconst (v := 1) dX6_isEmpty_7 rfl ?_
    refine xr_goto (tgt := 12) dX6_isEmpty_8 rfl ?_
    exact xr_iret dX6_isEmpty_12 rfl rfl (⟨congrArg (fun z => some (Value.int z)) (bI_t (by grind)).symm, rfl, rfl, rfl⟩)
set_option maxRecDepth 100000 in
set_option maxHeartbeats 4000000 in
theorem c_X6_isTurn {sq el : Nat} (hs : x_SH[sq]? = some (.inl (6, [none, none, none, none, some (some el)]))) (hel : x_SH[el]? = some (.inr (2, 60, fun _ => none))) {l : Launch} {G : xG} {M : xM} {J : xJ} : x_M l G fX6_isTurn 0 0 0 [.ref (sq)] x_SH M J (qE (some (.int (bI (M sq 0 = 1)))) x_SH M J) := by
  refine xb_of pX6 (Nat.le_of_ble_eq_true rfl) rfl ?_
  refine xr_aload_n dX6_isTurn_0 0 rfl ?_
  refine xb_get (v := M sq 0) flX6_15 dX6_isTurn_1 hs rfl rfl ?_
  refine xr_iconst (v := 1) dX6_isTurn_4 rfl ?_
  refine xr_icmp_ne (tgt := 12) dX6_isTurn_5 rfl (fun c1 => ?_) (fun c1 => ?_)
  · refine xr_iconst (v := 0) dX6_isTurn_12 rfl ?_
    exact xr_iret dX6_isTurn_13 rfl rfl (⟨congrArg (fun z => some (Value.int z)) (bI_f (by grind)).symm, rfl, rfl, rfl⟩)
  · refine xr_iconst (v := 1) dX6_isTurn_8 rfl ?_
    refine xr_goto (tgt := 13) dX6_isTurn_9 rfl ?_
    exact xr_iret dX6_isTurn_13 rfl rfl (⟨congrArg (fun z => some (Value.int z)) (bI_t (by grind)).symm, rfl, rfl, rfl⟩)
set_option maxRecDepth 100000 in
set_option maxHeartbeats 4000000 in
theorem c_X6_isRow {sq el : Nat} (hs : x_SH[sq]? = some (.inl (6, [none, none, none, none, some (some el)]))) (hel : x_SH[el]? = some (.inr (2, 60, fun _ => none))) {l : Launch} {G : xG} {M : xM} {J : xJ} : x_M l G fX6_isRow 0 0 0 [.ref (sq)] x_SH M J (qE (some (.int (bI (M sq 0 = 2)))) x_SH M J) := by
  refine xb_of pX6 (Nat.le_of_ble_eq_true rfl) rfl ?_
  refine xr_aload_n dX6_isRow_0 0 rfl ?_
  refine xb_get (v := M sq 0) flX6_15 dX6_isRow_1 hs rfl rfl ?_
  refine xr_iconst (v := 2) dX6_isRow_4 rfl ?_
  refine xr_icmp_ne (tgt := 12) dX6_isRow_5 rfl (fun c1 => ?_) (fun c1 => ?_)
  · refine xr_iconst (v := 0) dX6_isRow_12 rfl ?_
    exact xr_iret dX6_isRow_13 rfl rfl (⟨congrArg (fun z => some (Value.int z)) (bI_f (by grind)).symm, rfl, rfl, rfl⟩)
  · refine xr_iconst (v := 1) dX6_isRow_8 rfl ?_
    refine xr_goto (tgt := 13) dX6_isRow_9 rfl ?_
    exact xr_iret dX6_isRow_13 rfl rfl (⟨congrArg (fun z => some (Value.int z)) (bI_t (by grind)).symm, rfl, rfl, rfl⟩)
set_option maxRecDepth 100000 in
set_option maxHeartbeats 4000000 in
theorem c_X6_hasBytes {sq el : Nat} (hs : x_SH[sq]? = some (.inl (6, [none, none, none, none, some (some el)]))) (hel : x_SH[el]? = some (.inr (2, 60, fun _ => none))) {l : Launch} {G : xG} {M : xM} {J : xJ} : x_M l G fX6_hasBytes 1 0 0 [.ref (sq)] x_SH M J (qE (some (.int (bI (M sq 0 = 2 ∧ M sq 2 = 0)))) x_SH M J) := by
  refine xb_of pX6 (Nat.le_of_ble_eq_true rfl) rfl ?_
  refine xr_aload_n dX6_hasBytes_0 0 rfl ?_
  refine xb_cV (As := []) (rest := []) mlX6_19 (c_X6_isRow hs hel) dX6_hasBytes_1 hs rfl rfl (Nat.le_of_ble_eq_true rfl) (by decide) (by decide) ?_
  refine xb_beq (tgt := 18) dX6_hasBytes_4 rfl (fun c1 => ?_) (fun c1 => ?_)
  · refine xr_iconst (v := 0) dX6_hasBytes_18 rfl ?_
    exact xr_iret dX6_hasBytes_19 rfl rfl (⟨congrArg (fun z => some (Value.int z)) (bI_f (by grind)).symm, rfl, rfl, rfl⟩)
  · refine xr_aload_n dX6_hasBytes_7 0 rfl ?_
    refine xb_get (v := M sq 2) flX6_23 dX6_hasBytes_8 hs rfl rfl ?_
    refine xr_if_ne (tgt := 18) dX6_hasBytes_11 rfl (fun c2 => ?_) (fun c2 => ?_)
    · refine xr_iconst (v := 0) dX6_hasBytes_18 rfl ?_
      exact xr_iret dX6_hasBytes_19 rfl rfl (⟨congrArg (fun z => some (Value.int z)) (bI_f (by grind)).symm, rfl, rfl, rfl⟩)
    · refine xr_iconst (v := 1) dX6_hasBytes_14 rfl ?_
      refine xr_goto (tgt := 19) dX6_hasBytes_15 rfl ?_
      exact xr_iret dX6_hasBytes_19 rfl rfl (⟨congrArg (fun z => some (Value.int z)) (bI_t (by grind)).symm, rfl, rfl, rfl⟩)
set_option maxRecDepth 100000 in
set_option maxHeartbeats 4000000 in
theorem c_X6_bytesRefusal {sq el : Nat} (hs : x_SH[sq]? = some (.inl (6, [none, none, none, none, some (some el)]))) (hel : x_SH[el]? = some (.inr (2, 60, fun _ => none))) {l : Launch} {G : xG} {M : xM} {J : xJ} : x_M l G fX6_bytesRefusal 2 0 0 [.ref (sq)] x_SH M J (qE (some (.int (if M sq 0 = 0 then -11 else if M sq 0 = 2 ∧ M sq 2 = 0 then 0 else -12))) x_SH M J) := by
  refine xb_of pX6 (Nat.le_of_ble_eq_true rfl) rfl ?_
  refine xr_aload_n dX6_bytesRefusal_0 0 rfl ?_
  refine xb_cV (As := []) (rest := []) mlX6_32 (c_X6_isEmpty hs hel) dX6_bytesRefusal_1 hs rfl rfl (Nat.le_of_ble_eq_true rfl) (by decide) (by decide) ?_
  refine xb_beq (tgt := 10) dX6_bytesRefusal_4 rfl (fun c1 => ?_) (fun c1 => ?_)
  · refine xr_aload_n dX6_bytesRefusal_10 0 rfl ?_
    refine xb_cV (As := []) (rest := []) mlX6_35 (c_X6_hasBytes hs hel) dX6_bytesRefusal_11 hs rfl rfl (Nat.le_of_ble_eq_true rfl) (by decide) (by decide) ?_
    refine xb_beq (tgt := 21) dX6_bytesRefusal_14 rfl (fun c2 => ?_) (fun c2 => ?_)
    · refine xr_bipush (v := -12) dX6_bytesRefusal_21 rfl ?_
      exact xr_iret dX6_bytesRefusal_23 rfl rfl (⟨by first | rfl | grind, rfl, rfl, rfl⟩)
    · refine xr_iconst (v := 0) dX6_bytesRefusal_17 rfl ?_
      refine xr_goto (tgt := 23) dX6_bytesRefusal_18 rfl ?_
      exact xr_iret dX6_bytesRefusal_23 rfl rfl (⟨by first | rfl | grind, rfl, rfl, rfl⟩)
  · refine xr_bipush (v := -11) dX6_bytesRefusal_7 rfl ?_
    exact xr_iret dX6_bytesRefusal_9 rfl rfl (⟨by first | rfl | grind, rfl, rfl, rfl⟩)
set_option maxRecDepth 100000 in
set_option maxHeartbeats 4000000 in
theorem c_X6_placeRefusal (i : Int32) {sq el : Nat} (hs : x_SH[sq]? = some (.inl (6, [none, none, none, none, some (some el)]))) (hel : x_SH[el]? = some (.inr (2, 60, fun _ => none))) {l : Launch} {G : xG} {M : xM} {J : xJ} : x_M l G fX6_placeRefusal 1 0 0 [.ref (sq), .int (i)] x_SH M J (qE (some (.int (if M sq 0 = 0 then -11 else if M sq 0 = 2 then (if 0 ≤ i ∧ i < M sq 3 then 0 else -13) else -12))) x_SH M J) := by
  refine xb_of pX6 (Nat.le_of_ble_eq_true rfl) rfl ?_
  refine xr_aload_n dX6_placeRefusal_0 0 rfl ?_
  refine xb_cV (As := []) (rest := []) mlX6_32 (c_X6_isEmpty hs hel) dX6_placeRefusal_1 hs rfl rfl (Nat.le_of_ble_eq_true rfl) (by decide) (by decide) ?_
  refine xb_beq (tgt := 10) dX6_placeRefusal_4 rfl (fun c1 => ?_) (fun c1 => ?_)
  · refine xr_aload_n dX6_placeRefusal_10 0 rfl ?_
    refine xb_cV (As := []) (rest := []) mlX6_19 (c_X6_isRow hs hel) dX6_placeRefusal_11 hs rfl rfl (Nat.le_of_ble_eq_true rfl) (by decide) (by decide) ?_
    refine xb_bne (tgt := 20) dX6_placeRefusal_14 rfl (fun c2 => ?_) (fun c2 => ?_)
    · refine xr_iload_n dX6_placeRefusal_20 1 rfl ?_
      refine xr_if_lt (tgt := 36) dX6_placeRefusal_21 rfl (fun c3 => ?_) (fun c3 => ?_)
      · refine xr_bipush (v := -13) dX6_placeRefusal_36 rfl ?_
        exact xr_iret dX6_placeRefusal_38 rfl rfl (⟨by first | rfl | grind, rfl, rfl, rfl⟩)
      · refine xr_iload_n dX6_placeRefusal_24 1 rfl ?_
        refine xr_aload_n dX6_placeRefusal_25 0 rfl ?_
        refine xb_get (v := M sq 3) flX6_26 dX6_placeRefusal_26 hs rfl rfl ?_
        refine xr_icmp_ge (tgt := 36) dX6_placeRefusal_29 rfl (fun c4 => ?_) (fun c4 => ?_)
        · refine xr_bipush (v := -13) dX6_placeRefusal_36 rfl ?_
          exact xr_iret dX6_placeRefusal_38 rfl rfl (⟨by first | rfl | grind, rfl, rfl, rfl⟩)
        · refine xr_iconst (v := 0) dX6_placeRefusal_32 rfl ?_
          refine xr_goto (tgt := 38) dX6_placeRefusal_33 rfl ?_
          exact xr_iret dX6_placeRefusal_38 rfl rfl (⟨by first | rfl | grind, rfl, rfl, rfl⟩)
    · refine xr_bipush (v := -12) dX6_placeRefusal_17 rfl ?_
      exact xr_iret dX6_placeRefusal_19 rfl rfl (⟨by first | rfl | grind, rfl, rfl, rfl⟩)
  · refine xr_bipush (v := -11) dX6_placeRefusal_7 rfl ?_
    exact xr_iret dX6_placeRefusal_9 rfl rfl (⟨by first | rfl | grind, rfl, rfl, rfl⟩)
set_option maxRecDepth 100000 in
set_option maxHeartbeats 4000000 in
theorem c_X6_hasStretch (i n : Int32) {sq el : Nat} (hs : x_SH[sq]? = some (.inl (6, [none, none, none, none, some (some el)]))) (hel : x_SH[el]? = some (.inr (2, 60, fun _ => none))) {l : Launch} {G : xG} {M : xM} {J : xJ} : x_M l G fX6_hasStretch 0 0 0 [.ref (sq), .int (i), .int (n)] x_SH M J (qE (some (.int (bI (0 ≤ i ∧ 0 ≤ n ∧ i ≤ M sq 3 ∧ n ≤ M sq 3 - i)))) x_SH M J) := by
  refine xb_of pX6 (Nat.le_of_ble_eq_true rfl) rfl ?_
  refine xr_iload_n dX6_hasStretch_0 1 rfl ?_
  refine xr_if_lt (tgt := 30) dX6_hasStretch_1 rfl (fun c1 => ?_) (fun c1 => ?_)
  · refine xr_iconst (v := 0) dX6_hasStretch_30 rfl ?_
    exact xr_iret dX6_hasStretch_31 rfl rfl (⟨congrArg (fun z => some (Value.int z)) (bI_f (by grind)).symm, rfl, rfl, rfl⟩)
  · refine xr_iload_n dX6_hasStretch_4 2 rfl ?_
    refine xr_if_lt (tgt := 30) dX6_hasStretch_5 rfl (fun c2 => ?_) (fun c2 => ?_)
    · refine xr_iconst (v := 0) dX6_hasStretch_30 rfl ?_
      exact xr_iret dX6_hasStretch_31 rfl rfl (⟨congrArg (fun z => some (Value.int z)) (bI_f (by grind)).symm, rfl, rfl, rfl⟩)
    · refine xr_iload_n dX6_hasStretch_8 1 rfl ?_
      refine xr_aload_n dX6_hasStretch_9 0 rfl ?_
      refine xb_get (v := M sq 3) flX6_26 dX6_hasStretch_10 hs rfl rfl ?_
      refine xr_icmp_gt (tgt := 30) dX6_hasStretch_13 rfl (fun c3 => ?_) (fun c3 => ?_)
      · refine xr_iconst (v := 0) dX6_hasStretch_30 rfl ?_
        exact xr_iret dX6_hasStretch_31 rfl rfl (⟨congrArg (fun z => some (Value.int z)) (bI_f (by grind)).symm, rfl, rfl, rfl⟩)
      · refine xr_iload_n dX6_hasStretch_16 2 rfl ?_
        refine xr_aload_n dX6_hasStretch_17 0 rfl ?_
        refine xb_get (v := M sq 3) flX6_26 dX6_hasStretch_18 hs rfl rfl ?_
        refine xr_iload_n dX6_hasStretch_21 1 rfl ?_
        refine xr_isub dX6_hasStretch_22 ?_
        refine xr_icmp_gt (tgt := 30) dX6_hasStretch_23 rfl (fun c4 => ?_) (fun c4 => ?_)
        · refine xr_iconst (v := 0) dX6_hasStretch_30 rfl ?_
          exact xr_iret dX6_hasStretch_31 rfl rfl (⟨congrArg (fun z => some (Value.int z)) (bI_f (by grind)).symm, rfl, rfl, rfl⟩)
        · refine xr_iconst (v := 1) dX6_hasStretch_26 rfl ?_
          refine xr_goto (tgt := 31) dX6_hasStretch_27 rfl ?_
          exact xr_iret dX6_hasStretch_31 rfl rfl (⟨congrArg (fun z => some (Value.int z)) (bI_t (by grind)).symm, rfl, rfl, rfl⟩)
set_option maxRecDepth 100000 in
set_option maxHeartbeats 4000000 in
theorem c_X6_holdNothing {sq el : Nat} (hs : x_SH[sq]? = some (.inl (6, [none, none, none, none, some (some el)]))) (hel : x_SH[el]? = some (.inr (2, 60, fun _ => none))) {l : Launch} {G : xG} {M : xM} {J : xJ} : x_M l G fX6_holdNothing 0 0 0 [.ref (sq)] x_SH M J (qE (none) x_SH (x_up (x_up M sq 0 0) sq 3 0) J) := by
  refine xb_of pX6 (Nat.le_of_ble_eq_true rfl) rfl ?_
  refine xr_aload_n dX6_holdNothing_0 0 rfl ?_
  refine xr_iconst (v := 0) dX6_holdNothing_1 rfl ?_
  refine xr_putI fpX6_15 dX6_holdNothing_2 hs rfl rfl rfl ?_
  refine xr_aload_n dX6_holdNothing_5 0 rfl ?_
  refine xr_iconst (v := 0) dX6_holdNothing_6 rfl ?_
  refine xr_putI fpX6_26 dX6_holdNothing_7 hs rfl rfl rfl ?_
  exact xr_vret dX6_holdNothing_10 rfl (⟨rfl, rfl, rfl, rfl⟩)
set_option maxRecDepth 100000 in
set_option maxHeartbeats 4000000 in
theorem c_X6_holdTurn (b : Int32) {sq el : Nat} (hs : x_SH[sq]? = some (.inl (6, [none, none, none, none, some (some el)]))) (hel : x_SH[el]? = some (.inr (2, 60, fun _ => none))) {l : Launch} {G : xG} {M : xM} {J : xJ} : x_M l G fX6_holdTurn 0 0 0 [.ref (sq), .int (b)] x_SH M J (qE (none) x_SH (x_up (x_up (x_up M sq 0 1) sq 1 b) sq 3 0) J) := by
  refine xb_of pX6 (Nat.le_of_ble_eq_true rfl) rfl ?_
  refine xr_aload_n dX6_holdTurn_0 0 rfl ?_
  refine xr_iconst (v := 1) dX6_holdTurn_1 rfl ?_
  refine xr_putI fpX6_15 dX6_holdTurn_2 hs rfl rfl rfl ?_
  refine xr_aload_n dX6_holdTurn_5 0 rfl ?_
  refine xr_iload_n dX6_holdTurn_6 1 rfl ?_
  refine xr_putI fpX6_29 dX6_holdTurn_7 hs rfl rfl rfl ?_
  refine xr_aload_n dX6_holdTurn_10 0 rfl ?_
  refine xr_iconst (v := 0) dX6_holdTurn_11 rfl ?_
  refine xr_putI fpX6_26 dX6_holdTurn_12 hs rfl rfl rfl ?_
  exact xr_vret dX6_holdTurn_15 rfl (⟨rfl, rfl, rfl, rfl⟩)
