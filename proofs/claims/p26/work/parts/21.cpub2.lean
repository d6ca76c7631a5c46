theorem dX9_beatFor_0 : decode cX9_beatFor 0 = .ok (.iload_n 1, 1) := by decide +kernel
theorem dX9_beatFor_1 : decode cX9_beatFor 1 = .ok (.ifCond .lt 8, 3) := by decide +kernel
theorem dX9_beatFor_9 : decode cX9_beatFor 9 = .ok (.iconst (-1), 1) := by decide +kernel
theorem dX9_beatFor_10 : decode cX9_beatFor 10 = .ok (.ireturn, 1) := by decide +kernel
theorem dX9_beatFor_4 : decode cX9_beatFor 4 = .ok (.iload_n 1, 1) := by decide +kernel
theorem dX9_beatFor_5 : decode cX9_beatFor 5 = .ok (.iconst 1, 1) := by decide +kernel
theorem dX9_beatFor_6 : decode cX9_beatFor 6 = .ok (.if_icmp .le 5, 3) := by decide +kernel
theorem dX9_beatFor_11 : decode cX9_beatFor 11 = .ok (.iconst (-1), 1) := by decide +kernel
theorem dX9_beatFor_12 : decode cX9_beatFor 12 = .ok (.istore_n 2, 1) := by decide +kernel
theorem dX9_beatFor_13 : decode cX9_beatFor 13 = .ok (.iconst 0, 1) := by decide +kernel
theorem dX9_beatFor_14 : decode cX9_beatFor 14 = .ok (.istore_n 3, 1) := by decide +kernel
theorem dX9_beatFor_15 : decode cX9_beatFor 15 = .ok (.iconst 2, 1) := by decide +kernel
theorem dX9_beatFor_16 : decode cX9_beatFor 16 = .ok (.istore 4, 2) := by decide +kernel
theorem dX9_beatFor_119 : decode cX9_beatFor 119 = .ok (.iload_n 1, 1) := by decide +kernel
theorem dX9_beatFor_120 : decode cX9_beatFor 120 = .ok (.ifCond .ne 7, 3) := by decide +kernel
theorem dX9_beatFor_127 : decode cX9_beatFor 127 = .ok (.iload_n 2, 1) := by decide +kernel
theorem dX9_beatFor_128 : decode cX9_beatFor 128 = .ok (.ireturn, 1) := by decide +kernel
theorem dX9_beatFor_123 : decode cX9_beatFor 123 = .ok (.iload_n 3, 1) := by decide +kernel
theorem dX9_beatFor_124 : decode cX9_beatFor 124 = .ok (.goto 4, 3) := by decide +kernel
theorem dX9_leastPush_0 : decode cX9_leastPush 0 = .ok (.iload_n 1, 1) := by decide +kernel
theorem dX9_leastPush_1 : decode cX9_leastPush 1 = .ok (.iconst 1, 1) := by decide +kernel
theorem dX9_leastPush_2 : decode cX9_leastPush 2 = .ok (.if_icmp .lt 10, 3) := by decide +kernel
theorem dX9_leastPush_12 : decode cX9_leastPush 12 = .ok (.iconst (-1), 1) := by decide +kernel
theorem dX9_leastPush_13 : decode cX9_leastPush 13 = .ok (.ireturn, 1) := by decide +kernel
theorem dX9_leastPush_5 : decode cX9_leastPush 5 = .ok (.iload_n 1, 1) := by decide +kernel
theorem dX9_leastPush_6 : decode cX9_leastPush 6 = .ok (.sipush 200, 3) := by decide +kernel
theorem dX9_leastPush_9 : decode cX9_leastPush 9 = .ok (.if_icmp .le 5, 3) := by decide +kernel
theorem dX9_leastPush_14 : decode cX9_leastPush 14 = .ok (.iconst 0, 1) := by decide +kernel
theorem dX9_leastPush_15 : decode cX9_leastPush 15 = .ok (.istore_n 2, 1) := by decide +kernel
theorem dX9_leastPush_58 : decode cX9_leastPush 58 = .ok (.bipush (-2), 2) := by decide +kernel
theorem dX9_leastPush_60 : decode cX9_leastPush 60 = .ok (.ireturn, 1) := by decide +kernel
theorem dX9_mistake_0 : decode cX9_mistake 0 = .ok (.iload_n 1, 1) := by decide +kernel
theorem dX9_mistake_1 : decode cX9_mistake 1 = .ok (.ifCond .lt 18, 3) := by decide +kernel
theorem dX9_mistake_19 : decode cX9_mistake 19 = .ok (.iconst (-1), 1) := by decide +kernel
theorem dX9_mistake_20 : decode cX9_mistake 20 = .ok (.ireturn, 1) := by decide +kernel
theorem dX9_mistake_4 : decode cX9_mistake 4 = .ok (.iload_n 1, 1) := by decide +kernel
theorem dX9_mistake_5 : decode cX9_mistake 5 = .ok (.bipush 40, 2) := by decide +kernel
theorem dX9_mistake_7 : decode cX9_mistake 7 = .ok (.if_icmp .gt 12, 3) := by decide +kernel
theorem dX9_mistake_10 : decode cX9_mistake 10 = .ok (.iload_n 2, 1) := by decide +kernel
theorem dX9_mistake_11 : decode cX9_mistake 11 = .ok (.ifCond .lt 8, 3) := by decide +kernel
theorem dX9_mistake_14 : decode cX9_mistake 14 = .ok (.iload_n 2, 1) := by decide +kernel
theorem dX9_mistake_15 : decode cX9_mistake 15 = .ok (.iconst 1, 1) := by decide +kernel
theorem dX9_mistake_16 : decode cX9_mistake 16 = .ok (.if_icmp .le 5, 3) := by decide +kernel
theorem dX9_mistake_21 : decode cX9_mistake 21 = .ok (.aload_n 0, 1) := by decide +kernel
theorem dX9_mistake_22 : decode cX9_mistake 22 = .ok (.getfield 40, 3) := by decide +kernel
theorem dX9_mistake_25 : decode cX9_mistake 25 = .ok (.invokevirtual 192, 3) := by decide +kernel
theorem dX9_mistake_28 : decode cX9_mistake 28 = .ok (.aload_n 0, 1) := by decide +kernel
theorem dX9_mistake_29 : decode cX9_mistake 29 = .ok (.getfield 40, 3) := by decide +kernel
theorem dX9_mistake_32 : decode cX9_mistake 32 = .ok (.iload_n 1, 1) := by decide +kernel
theorem dX9_mistake_33 : decode cX9_mistake 33 = .ok (.invokevirtual 211, 3) := by decide +kernel
theorem dX9_mistake_36 : decode cX9_mistake 36 = .ok (.iload_n 2, 1) := by decide +kernel
theorem dX9_mistake_37 : decode cX9_mistake 37 = .ok (.ifCond .ne 13, 3) := by decide +kernel
theorem dX9_mistake_50 : decode cX9_mistake 50 = .ok (.aload_n 0, 1) := by decide +kernel
theorem dX9_mistake_51 : decode cX9_mistake 51 = .ok (.getfield 40, 3) := by decide +kernel
theorem dX9_mistake_54 : decode cX9_mistake 54 = .ok (.invokevirtual 215, 3) := by decide +kernel
theorem dX9_mistake_57 : decode cX9_mistake 57 = .ok (.ireturn, 1) := by decide +kernel
theorem dX9_mistake_40 : decode cX9_mistake 40 = .ok (.aload_n 0, 1) := by decide +kernel
theorem dX9_mistake_41 : decode cX9_mistake 41 = .ok (.getfield 40, 3) := by decide +kernel
theorem dX9_mistake_44 : decode cX9_mistake 44 = .ok (.invokevirtual 198, 3) := by decide +kernel
theorem dX9_mistake_47 : decode cX9_mistake 47 = .ok (.goto 10, 3) := by decide +kernel
theorem dX9_held_0 : decode cX9_held 0 = .ok (.iload_n 1, 1) := by decide +kernel
theorem dX9_held_1 : decode cX9_held 1 = .ok (.iconst 1, 1) := by decide +kernel
theorem dX9_held_2 : decode cX9_held 2 = .ok (.if_icmp .lt 10, 3) := by decide +kernel
theorem dX9_held_12 : decode cX9_held 12 = .ok (.iconst (-1), 1) := by decide +kernel
theorem dX9_held_13 : decode cX9_held 13 = .ok (.ireturn, 1) := by decide +kernel
theorem dX9_held_5 : decode cX9_held 5 = .ok (.iload_n 1, 1) := by decide +kernel
theorem dX9_held_6 : decode cX9_held 6 = .ok (.sipush 200, 3) := by decide +kernel
theorem dX9_held_9 : decode cX9_held 9 = .ok (.if_icmp .le 5, 3) := by decide +kernel
theorem dX9_held_14 : decode cX9_held 14 = .ok (.bipush (-2), 2) := by decide +kernel
theorem dX9_held_16 : decode cX9_held 16 = .ok (.istore_n 2, 1) := by decide +kernel
theorem dX9_held_17 : decode cX9_held 17 = .ok (.iconst 0, 1) := by decide +kernel
theorem dX9_held_18 : decode cX9_held 18 = .ok (.istore_n 3, 1) := by decide +kernel
theorem dX9_held_19 : decode cX9_held 19 = .ok (.iconst 1, 1) := by decide +kernel
theorem dX9_held_20 : decode cX9_held 20 = .ok (.istore 4, 2) := by decide +kernel
theorem dX9_rescue_0 : decode cX9_rescue 0 = .ok (.iload_n 2, 1) := by decide +kernel
theorem dX9_rescue_1 : decode cX9_rescue 1 = .ok (.bipush 100, 2) := by decide +kernel
theorem dX9_rescue_3 : decode cX9_rescue 3 = .ok (.idiv, 1) := by decide +kernel
theorem dX9_rescue_4 : decode cX9_rescue 4 = .ok (.istore_n 3, 1) := by decide +kernel
theorem dX9_rescue_5 : decode cX9_rescue 5 = .ok (.iload_n 2, 1) := by decide +kernel
theorem dX9_rescue_6 : decode cX9_rescue 6 = .ok (.bipush 100, 2) := by decide +kernel
theorem dX9_rescue_8 : decode cX9_rescue 8 = .ok (.irem, 1) := by decide +kernel
theorem dX9_rescue_9 : decode cX9_rescue 9 = .ok (.istore 4, 2) := by decide +kernel
theorem dX9_rescue_11 : decode cX9_rescue 11 = .ok (.aload_n 0, 1) := by decide +kernel
theorem dX9_rescue_12 : decode cX9_rescue 12 = .ok (.getfield 28, 3) := by decide +kernel
theorem dX9_rescue_15 : decode cX9_rescue 15 = .ok (.iload_n 1, 1) := by decide +kernel
theorem dX9_rescue_16 : decode cX9_rescue 16 = .ok (.invokevirtual 118, 3) := by decide +kernel
theorem dX9_rescue_19 : decode cX9_rescue 19 = .ok (.ifCond .eq 25, 3) := by decide +kernel
theorem dX9_rescue_44 : decode cX9_rescue 44 = .ok (.iconst (-1), 1) := by decide +kernel
theorem dX9_rescue_45 : decode cX9_rescue 45 = .ok (.ireturn, 1) := by decide +kernel
theorem dX9_rescue_22 : decode cX9_rescue 22 = .ok (.iload_n 3, 1) := by decide +kernel
theorem dX9_rescue_23 : decode cX9_rescue 23 = .ok (.iconst 1, 1) := by decide +kernel
theorem dX9_rescue_24 : decode cX9_rescue 24 = .ok (.if_icmp .lt 20, 3) := by decide +kernel
theorem dX9_rescue_27 : decode cX9_rescue 27 = .ok (.iload_n 3, 1) := by decide +kernel
theorem dX9_rescue_28 : decode cX9_rescue 28 = .ok (.iconst 5, 1) := by decide +kernel
theorem dX9_rescue_29 : decode cX9_rescue 29 = .ok (.if_icmp .gt 15, 3) := by decide +kernel
theorem dX9_rescue_32 : decode cX9_rescue 32 = .ok (.iload 4, 2) := by decide +kernel
theorem dX9_rescue_34 : decode cX9_rescue 34 = .ok (.ifCond .lt 10, 3) := by decide +kernel
theorem dX9_rescue_37 : decode cX9_rescue 37 = .ok (.iload 4, 2) := by decide +kernel
theorem dX9_rescue_39 : decode cX9_rescue 39 = .ok (.bipush 24, 2) := by decide +kernel
theorem dX9_rescue_41 : decode cX9_rescue 41 = .ok (.if_icmp .lt 5, 3) := by decide +kernel
theorem dX9_rescue_46 : decode cX9_rescue 46 = .ok (.aload_n 0, 1) := by decide +kernel
theorem dX9_rescue_47 : decode cX9_rescue 47 = .ok (.getfield 40, 3) := by decide +kernel
theorem dX9_rescue_50 : decode cX9_rescue 50 = .ok (.invokevirtual 192, 3) := by decide +kernel
theorem dX9_rescue_53 : decode cX9_rescue 53 = .ok (.aload_n 0, 1) := by decide +kernel
theorem dX9_rescue_54 : decode cX9_rescue 54 = .ok (.getfield 40, 3) := by decide +kernel
theorem dX9_rescue_57 : decode cX9_rescue 57 = .ok (.iload_n 1, 1) := by decide +kernel
theorem dX9_rescue_58 : decode cX9_rescue 58 = .ok (.invokevirtual 195, 3) := by decide +kernel
theorem dX9_rescue_61 : decode cX9_rescue 61 = .ok (.istore 5, 2) := by decide +kernel
theorem dX9_rescue_63 : decode cX9_rescue 63 = .ok (.iload 5, 2) := by decide +kernel
theorem dX9_rescue_65 : decode cX9_rescue 65 = .ok (.ifCond .eq 10, 3) := by decide +kernel
theorem dX9_rescue_75 : decode cX9_rescue 75 = .ok (.bipush (-5), 2) := by decide +kernel
theorem dX9_rescue_77 : decode cX9_rescue 77 = .ok (.ireturn, 1) := by decide +kernel
theorem dX9_rescue_68 : decode cX9_rescue 68 = .ok (.iload 5, 2) := by decide +kernel
theorem dX9_rescue_70 : decode cX9_rescue 70 = .ok (.bipush (-2), 2) := by decide +kernel
theorem dX9_rescue_72 : decode cX9_rescue 72 = .ok (.if_icmp .ne 6, 3) := by decide +kernel
theorem dX9_rescue_78 : decode cX9_rescue 78 = .ok (.bipush 100, 2) := by decide +kernel
theorem dX9_rescue_80 : decode cX9_rescue 80 = .ok (.iload 5, 2) := by decide +kernel
theorem dX9_rescue_82 : decode cX9_rescue 82 = .ok (.invokestatic 232, 3) := by decide +kernel
theorem dX9_rescue_85 : decode cX9_rescue 85 = .ok (.istore 6, 2) := by decide +kernel
theorem dX9_rescue_87 : decode cX9_rescue 87 = .ok (.iconst 0, 1) := by decide +kernel
theorem dX9_rescue_88 : decode cX9_rescue 88 = .ok (.istore 7, 2) := by decide +kernel
theorem dX9_rescue_138 : decode cX9_rescue 138 = .ok (.bipush (-2), 2) := by decide +kernel
theorem dX9_rescue_140 : decode cX9_rescue 140 = .ok (.ireturn, 1) := by decide +kernel
theorem dX9_start_0 : decode cX9_start 0 = .ok (.aload_n 0, 1) := by decide +kernel
theorem dX9_start_1 : decode cX9_start 1 = .ok (.getfield 28, 3) := by decide +kernel
theorem dX9_start_4 : decode cX9_start 4 = .ok (.iload_n 1, 1) := by decide +kernel
theorem dX9_start_5 : decode cX9_start 5 = .ok (.invokevirtual 118, 3) := by decide +kernel
theorem dX9_start_8 : decode cX9_start 8 = .ok (.ifCond .ne 6, 3) := by decide +kernel
theorem dX9_start_14 : decode cX9_start 14 = .ok (.aload_n 0, 1) := by decide +kernel
theorem dX9_start_15 : decode cX9_start 15 = .ok (.getfield 28, 3) := by decide +kernel
theorem dX9_start_18 : decode cX9_start 18 = .ok (.getfield 121, 3) := by decide +kernel
theorem dX9_start_21 : decode cX9_start 21 = .ok (.iload_n 1, 1) := by decide +kernel
theorem dX9_start_22 : decode cX9_start 22 = .ok (.aaload, 1) := by decide +kernel
theorem dX9_start_23 : decode cX9_start 23 = .ok (.invokevirtual 167, 3) := by decide +kernel
theorem dX9_start_26 : decode cX9_start 26 = .ok (.ifCond .eq 6, 3) := by decide +kernel
theorem dX9_start_32 : decode cX9_start 32 = .ok (.bipush (-9), 2) := by decide +kernel
theorem dX9_start_34 : decode cX9_start 34 = .ok (.istore_n 2, 1) := by decide +kernel
theorem dX9_start_35 : decode cX9_start 35 = .ok (.iconst (-1), 1) := by decide +kernel
theorem dX9_start_36 : decode cX9_start 36 = .ok (.istore_n 3, 1) := by decide +kernel
theorem dX9_start_37 : decode cX9_start 37 = .ok (.bipush (-9), 2) := by decide +kernel
theorem dX9_start_39 : decode cX9_start 39 = .ok (.istore 4, 2) := by decide +kernel
theorem dX9_start_117 : decode cX9_start 117 = .ok (.iload_n 2, 1) := by decide +kernel
theorem dX9_start_118 : decode cX9_start 118 = .ok (.ireturn, 1) := by decide +kernel
theorem dX9_start_29 : decode cX9_start 29 = .ok (.bipush (-5), 2) := by decide +kernel
theorem dX9_start_31 : decode cX9_start 31 = .ok (.ireturn, 1) := by decide +kernel
theorem dX9_start_11 : decode cX9_start 11 = .ok (.ldc 105, 2) := by decide +kernel
theorem dX9_start_13 : decode cX9_start 13 = .ok (.ireturn, 1) := by decide +kernel
theorem dX9_music_0 : decode cX9_music 0 = .ok (.iload_n 1, 1) := by decide +kernel
theorem dX9_music_1 : decode cX9_music 1 = .ok (.invokestatic 88, 3) := by decide +kernel
theorem dX9_music_4 : decode cX9_music 4 = .ok (.ifCond .ne 5, 3) := by decide +kernel
theorem dX9_music_9 : decode cX9_music 9 = .ok (.aload_n 0, 1) := by decide +kernel
theorem dX9_music_10 : decode cX9_music 10 = .ok (.getfield 67, 3) := by decide +kernel
theorem dX9_music_13 : decode cX9_music 13 = .ok (.iload_n 1, 1) := by decide +kernel
theorem dX9_music_14 : decode cX9_music 14 = .ok (.aaload, 1) := by decide +kernel
theorem dX9_music_15 : decode cX9_music 15 = .ok (.invokevirtual 244, 3) := by decide +kernel
theorem dX9_music_18 : decode cX9_music 18 = .ok (.istore_n 2, 1) := by decide +kernel
theorem dX9_music_19 : decode cX9_music 19 = .ok (.iload_n 2, 1) := by decide +kernel
theorem dX9_music_20 : decode cX9_music 20 = .ok (.ifCond .eq 5, 3) := by decide +kernel
theorem dX9_music_25 : decode cX9_music 25 = .ok (.aload_n 0, 1) := by decide +kernel
theorem dX9_music_26 : decode cX9_music 26 = .ok (.getfield 40, 3) := by decide +kernel
theorem dX9_music_29 : decode cX9_music 29 = .ok (.invokevirtual 192, 3) := by decide +kernel
theorem dX9_music_32 : decode cX9_music 32 = .ok (.aload_n 0, 1) := by decide +kernel
theorem dX9_music_33 : decode cX9_music 33 = .ok (.getfield 40, 3) := by decide +kernel
theorem dX9_music_36 : decode cX9_music 36 = .ok (.aload_n 0, 1) := by decide +kernel
theorem dX9_music_37 : decode cX9_music 37 = .ok (.getfield 67, 3) := by decide +kernel
theorem dX9_music_40 : decode cX9_music 40 = .ok (.iload_n 1, 1) := by decide +kernel
theorem dX9_music_41 : decode cX9_music 41 = .ok (.aaload, 1) := by decide +kernel
theorem dX9_music_42 : decode cX9_music 42 = .ok (.invokevirtual 247, 3) := by decide +kernel
theorem dX9_music_45 : decode cX9_music 45 = .ok (.ireturn, 1) := by decide +kernel
theorem dX9_music_23 : decode cX9_music 23 = .ok (.iload_n 2, 1) := by decide +kernel
theorem dX9_music_24 : decode cX9_music 24 = .ok (.ireturn, 1) := by decide +kernel
theorem dX9_music_7 : decode cX9_music 7 = .ok (.iconst (-1), 1) := by decide +kernel
theorem dX9_music_8 : decode cX9_music 8 = .ok (.ireturn, 1) := by decide +kernel
theorem dX9_judge_0 : decode cX9_judge 0 = .ok (.iload_n 1, 1) := by decide +kernel
theorem dX9_judge_1 : decode cX9_judge 1 = .ok (.invokestatic 88, 3) := by decide +kernel
theorem dX9_judge_4 : decode cX9_judge 4 = .ok (.ifCond .eq 14, 3) := by decide +kernel
theorem dX9_judge_18 : decode cX9_judge 18 = .ok (.iconst (-1), 1) := by decide +kernel
theorem dX9_judge_19 : decode cX9_judge 19 = .ok (.ireturn, 1) := by decide +kernel
theorem dX9_judge_7 : decode cX9_judge 7 = .ok (.aload_n 0, 1) := by decide +kernel
theorem dX9_judge_8 : decode cX9_judge 8 = .ok (.getfield 28, 3) := by decide +kernel
theorem dX9_judge_11 : decode cX9_judge 11 = .ok (.iload_n 2, 1) := by decide +kernel
theorem dX9_judge_12 : decode cX9_judge 12 = .ok (.invokevirtual 118, 3) := by decide +kernel
theorem dX9_judge_15 : decode cX9_judge 15 = .ok (.ifCond .ne 5, 3) := by decide +kernel
theorem dX9_judge_20 : decode cX9_judge 20 = .ok (.aload_n 0, 1) := by decide +kernel
theorem dX9_judge_21 : decode cX9_judge 21 = .ok (.getfield 67, 3) := by decide +kernel
theorem dX9_judge_24 : decode cX9_judge 24 = .ok (.iload_n 1, 1) := by decide +kernel
theorem dX9_judge_25 : decode cX9_judge 25 = .ok (.aaload, 1) := by decide +kernel
theorem dX9_judge_26 : decode cX9_judge 26 = .ok (.invokevirtual 244, 3) := by decide +kernel
theorem dX9_judge_29 : decode cX9_judge 29 = .ok (.istore_n 3, 1) := by decide +kernel
theorem dX9_judge_30 : decode cX9_judge 30 = .ok (.iload_n 3, 1) := by decide +kernel
theorem dX9_judge_31 : decode cX9_judge 31 = .ok (.ifCond .eq 5, 3) := by decide +kernel
theorem dX9_judge_36 : decode cX9_judge 36 = .ok (.aload_n 0, 1) := by decide +kernel
theorem dX9_judge_37 : decode cX9_judge 37 = .ok (.getfield 40, 3) := by decide +kernel
theorem dX9_judge_40 : decode cX9_judge 40 = .ok (.invokevirtual 192, 3) := by decide +kernel
theorem dX9_judge_43 : decode cX9_judge 43 = .ok (.aload_n 0, 1) := by decide +kernel
theorem dX9_judge_44 : decode cX9_judge 44 = .ok (.getfield 40, 3) := by decide +kernel
theorem dX9_judge_47 : decode cX9_judge 47 = .ok (.aload_n 0, 1) := by decide +kernel
theorem dX9_judge_48 : decode cX9_judge 48 = .ok (.getfield 67, 3) := by decide +kernel
theorem dX9_judge_51 : decode cX9_judge 51 = .ok (.iload_n 1, 1) := by decide +kernel
theorem dX9_judge_52 : decode cX9_judge 52 = .ok (.aaload, 1) := by decide +kernel
theorem dX9_judge_53 : decode cX9_judge 53 = .ok (.iload_n 2, 1) := by decide +kernel
theorem dX9_judge_54 : decode cX9_judge 54 = .ok (.invokevirtual 251, 3) := by decide +kernel
theorem dX9_judge_57 : decode cX9_judge 57 = .ok (.ireturn, 1) := by decide +kernel
theorem dX9_judge_34 : decode cX9_judge 34 = .ok (.iload_n 3, 1) := by decide +kernel
theorem dX9_judge_35 : decode cX9_judge 35 = .ok (.ireturn, 1) := by decide +kernel
theorem dX9_begun_0 : decode cX9_begun 0 = .ok (.iload_n 1, 1) := by decide +kernel
theorem dX9_begun_1 : decode cX9_begun 1 = .ok (.invokestatic 88, 3) := by decide +kernel
theorem dX9_begun_4 : decode cX9_begun 4 = .ok (.ifCond .eq 35, 3) := by decide +kernel
theorem dX9_begun_39 : decode cX9_begun 39 = .ok (.ldc 105, 2) := by decide +kernel
theorem dX9_begun_41 : decode cX9_begun 41 = .ok (.ireturn, 1) := by decide +kernel
theorem dX9_begun_7 : decode cX9_begun 7 = .ok (.aload_n 0, 1) := by decide +kernel
theorem dX9_begun_8 : decode cX9_begun 8 = .ok (.getfield 28, 3) := by decide +kernel
theorem dX9_begun_11 : decode cX9_begun 11 = .ok (.iload_n 2, 1) := by decide +kernel
theorem dX9_begun_12 : decode cX9_begun 12 = .ok (.invokevirtual 118, 3) := by decide +kernel
theorem dX9_begun_15 : decode cX9_begun 15 = .ok (.ifCond .eq 24, 3) := by decide +kernel
theorem dX9_begun_18 : decode cX9_begun 18 = .ok (.iload_n 3, 1) := by decide +kernel
theorem dX9_begun_19 : decode cX9_begun 19 = .ok (.ifCond .lt 20, 3) := by decide +kernel
theorem dX9_begun_22 : decode cX9_begun 22 = .ok (.iload_n 3, 1) := by decide +kernel
theorem dX9_begun_23 : decode cX9_begun 23 = .ok (.iconst 1, 1) := by decide +kernel
theorem dX9_begun_24 : decode cX9_begun 24 = .ok (.if_icmp .gt 15, 3) := by decide +kernel
theorem dX9_begun_27 : decode cX9_begun 27 = .ok (.aload_n 0, 1) := by decide +kernel
theorem dX9_begun_28 : decode cX9_begun 28 = .ok (.getfield 67, 3) := by decide +kernel
theorem dX9_begun_31 : decode cX9_begun 31 = .ok (.iload_n 1, 1) := by decide +kernel
theorem dX9_begun_32 : decode cX9_begun 32 = .ok (.aaload, 1) := by decide +kernel
theorem dX9_begun_33 : decode cX9_begun 33 = .ok (.invokevirtual 94, 3) := by decide +kernel
theorem dX9_begun_36 : decode cX9_begun 36 = .ok (.ifCond .ne 6, 3) := by decide +kernel
theorem dX9_begun_42 : decode cX9_begun 42 = .ok (.aload_n 0, 1) := by decide +kernel
theorem dX9_begun_43 : decode cX9_begun 43 = .ok (.getfield 28, 3) := by decide +kernel
theorem dX9_begun_46 : decode cX9_begun 46 = .ok (.getfield 121, 3) := by decide +kernel
theorem dX9_begun_49 : decode cX9_begun 49 = .ok (.iload_n 2, 1) := by decide +kernel
theorem dX9_begun_50 : decode cX9_begun 50 = .ok (.aaload, 1) := by decide +kernel
theorem dX9_begun_51 : decode cX9_begun 51 = .ok (.invokevirtual 167, 3) := by decide +kernel
theorem dX9_begun_54 : decode cX9_begun 54 = .ok (.ifCond .eq 7, 3) := by decide +kernel
theorem dX9_begun_61 : decode cX9_begun 61 = .ok (.bipush 9, 2) := by decide +kernel
theorem dX9_begun_63 : decode cX9_begun 63 = .ok (.istore 4, 2) := by decide +kernel
theorem dX9_begun_65 : decode cX9_begun 65 = .ok (.iconst 0, 1) := by decide +kernel
theorem dX9_begun_66 : decode cX9_begun 66 = .ok (.istore 5, 2) := by decide +kernel
theorem dX9_begun_68 : decode cX9_begun 68 = .ok (.bipush (-2), 2) := by decide +kernel
theorem dX9_begun_70 : decode cX9_begun 70 = .ok (.istore 6, 2) := by decide +kernel
theorem dX9_begun_72 : decode cX9_begun 72 = .ok (.iload 4, 2) := by decide +kernel
theorem dX9_begun_74 : decode cX9_begun 74 = .ok (.ineg, 1) := by decide +kernel
theorem dX9_begun_75 : decode cX9_begun 75 = .ok (.istore 7, 2) := by decide +kernel
theorem dX9_begun_150 : decode cX9_begun 150 = .ok (.iload_n 3, 1) := by decide +kernel
theorem dX9_begun_151 : decode cX9_begun 151 = .ok (.ifCond .ne 8, 3) := by decide +kernel
theorem dX9_begun_159 : decode cX9_begun 159 = .ok (.iload 6, 2) := by decide +kernel
theorem dX9_begun_161 : decode cX9_begun 161 = .ok (.ireturn, 1) := by decide +kernel
theorem dX9_begun_154 : decode cX9_begun 154 = .ok (.iload 5, 2) := by decide +kernel
theorem dX9_begun_156 : decode cX9_begun 156 = .ok (.goto 5, 3) := by decide +kernel
theorem dX9_begun_57 : decode cX9_begun 57 = .ok (.iconst 0, 1) := by decide +kernel
theorem dX9_begun_58 : decode cX9_begun 58 = .ok (.goto 5, 3) := by decide +kernel
theorem dX9_skill_0 : decode cX9_skill 0 = .ok (.iload_n 1, 1) := by decide +kernel
theorem dX9_skill_1 : decode cX9_skill 1 = .ok (.invokestatic 134, 3) := by decide +kernel
theorem dX9_skill_4 : decode cX9_skill 4 = .ok (.ifCond .eq 10, 3) := by decide +kernel
theorem dX9_skill_14 : decode cX9_skill 14 = .ok (.iconst (-1), 1) := by decide +kernel
theorem dX9_skill_15 : decode cX9_skill 15 = .ok (.ireturn, 1) := by decide +kernel
theorem dX9_skill_7 : decode cX9_skill 7 = .ok (.iload_n 2, 1) := by decide +kernel
theorem dX9_skill_8 : decode cX9_skill 8 = .ok (.invokestatic 255, 3) := by decide +kernel
theorem dX9_skill_11 : decode cX9_skill 11 = .ok (.ifCond .ne 5, 3) := by decide +kernel
theorem dX9_skill_16 : decode cX9_skill 16 = .ok (.aload_n 0, 1) := by decide +kernel
theorem dX9_skill_17 : decode cX9_skill 17 = .ok (.getfield 47, 3) := by decide +kernel
theorem dX9_skill_20 : decode cX9_skill 20 = .ok (.getfield 137, 3) := by decide +kernel
theorem dX9_skill_23 : decode cX9_skill 23 = .ok (.iload_n 1, 1) := by decide +kernel
theorem dX9_skill_24 : decode cX9_skill 24 = .ok (.iaload, 1) := by decide +kernel
theorem dX9_skill_25 : decode cX9_skill 25 = .ok (.istore_n 3, 1) := by decide +kernel
theorem dX9_skill_26 : decode cX9_skill 26 = .ok (.aload_n 0, 1) := by decide +kernel
theorem dX9_skill_27 : decode cX9_skill 27 = .ok (.getfield 47, 3) := by decide +kernel
theorem dX9_skill_30 : decode cX9_skill 30 = .ok (.iload_n 1, 1) := by decide +kernel
theorem dX9_skill_31 : decode cX9_skill 31 = .ok (.iload_n 2, 1) := by decide +kernel
theorem dX9_skill_32 : decode cX9_skill 32 = .ok (.invokevirtual 258, 3) := by decide +kernel
theorem dX9_skill_35 : decode cX9_skill 35 = .ok (.iload_n 3, 1) := by decide +kernel
theorem dX9_skill_36 : decode cX9_skill 36 = .ok (.ireturn, 1) := by decide +kernel
theorem dX9_learn_0 : decode cX9_learn 0 = .ok (.iload_n 1, 1) := by decide +kernel
theorem dX9_learn_1 : decode cX9_learn 1 = .ok (.invokestatic 134, 3) := by decide +kernel
theorem dX9_learn_4 : decode cX9_learn 4 = .ok (.ifCond .eq 14, 3) := by decide +kernel
theorem dX9_learn_18 : decode cX9_learn 18 = .ok (.iconst (-1), 1) := by decide +kernel
theorem dX9_learn_19 : decode cX9_learn 19 = .ok (.ireturn, 1) := by decide +kernel
theorem dX9_learn_7 : decode cX9_learn 7 = .ok (.iload_n 2, 1) := by decide +kernel
theorem dX9_learn_8 : decode cX9_learn 8 = .ok (.iconst 1, 1) := by decide +kernel
theorem dX9_learn_9 : decode cX9_learn 9 = .ok (.if_icmp .lt 9, 3) := by decide +kernel
theorem dX9_learn_12 : decode cX9_learn 12 = .ok (.iload_n 2, 1) := by decide +kernel
theorem dX9_learn_13 : decode cX9_learn 13 = .ok (.bipush 99, 2) := by decide +kernel
theorem dX9_learn_15 : decode cX9_learn 15 = .ok (.if_icmp .le 5, 3) := by decide +kernel
theorem dX9_learn_20 : decode cX9_learn 20 = .ok (.iconst 0, 1) := by decide +kernel
theorem dX9_learn_21 : decode cX9_learn 21 = .ok (.istore_n 3, 1) := by decide +kernel
theorem dX9_till_0 : decode cX9_till 0 = .ok (.iload_n 1, 1) := by decide +kernel
theorem dX9_till_1 : decode cX9_till 1 = .ok (.invokestatic 134, 3) := by decide +kernel
theorem dX9_till_4 : decode cX9_till 4 = .ok (.ifCond .eq 10, 3) := by decide +kernel
theorem dX9_till_14 : decode cX9_till 14 = .ok (.iconst (-1), 1) := by decide +kernel
theorem dX9_till_15 : decode cX9_till 15 = .ok (.ireturn, 1) := by decide +kernel
theorem dX9_till_7 : decode cX9_till 7 = .ok (.iload_n 2, 1) := by decide +kernel
theorem dX9_till_8 : decode cX9_till 8 = .ok (.invokestatic 255, 3) := by decide +kernel
theorem dX9_till_11 : decode cX9_till 11 = .ok (.ifCond .ne 5, 3) := by decide +kernel
theorem dX9_till_16 : decode cX9_till 16 = .ok (.aload_n 0, 1) := by decide +kernel
theorem dX9_till_17 : decode cX9_till 17 = .ok (.getfield 47, 3) := by decide +kernel
theorem dX9_till_20 : decode cX9_till 20 = .ok (.getfield 137, 3) := by decide +kernel
theorem dX9_till_23 : decode cX9_till 23 = .ok (.iload_n 1, 1) := by decide +kernel
theorem dX9_till_24 : decode cX9_till 24 = .ok (.iaload, 1) := by decide +kernel
theorem dX9_till_25 : decode cX9_till 25 = .ok (.iload_n 2, 1) := by decide +kernel
theorem dX9_till_26 : decode cX9_till 26 = .ok (.if_icmp .lt 5, 3) := by decide +kernel
theorem dX9_till_31 : decode cX9_till 31 = .ok (.aload_n 0, 1) := by decide +kernel
theorem dX9_till_32 : decode cX9_till 32 = .ok (.getfield 47, 3) := by decide +kernel
theorem dX9_till_35 : decode cX9_till 35 = .ok (.getfield 141, 3) := by decide +kernel
theorem dX9_till_38 : decode cX9_till 38 = .ok (.iload_n 1, 1) := by decide +kernel
theorem dX9_till_39 : decode cX9_till 39 = .ok (.iaload, 1) := by decide +kernel
theorem dX9_till_40 : decode cX9_till 40 = .ok (.ineg, 1) := by decide +kernel
theorem dX9_till_41 : decode cX9_till 41 = .ok (.istore_n 3, 1) := by decide +kernel
theorem dX9_till_42 : decode cX9_till 42 = .ok (.aload_n 0, 1) := by decide +kernel
theorem dX9_till_43 : decode cX9_till 43 = .ok (.getfield 47, 3) := by decide +kernel
theorem dX9_till_46 : decode cX9_till 46 = .ok (.getfield 137, 3) := by decide +kernel
theorem dX9_till_49 : decode cX9_till 49 = .ok (.iload_n 1, 1) := by decide +kernel
theorem dX9_till_50 : decode cX9_till 50 = .ok (.iaload, 1) := by decide +kernel
theorem dX9_till_51 : decode cX9_till 51 = .ok (.istore 4, 2) := by decide +kernel
theorem dX9_till_73 : decode cX9_till 73 = .ok (.iload_n 3, 1) := by decide +kernel
theorem dX9_till_74 : decode cX9_till 74 = .ok (.ireturn, 1) := by decide +kernel
theorem dX9_till_29 : decode cX9_till 29 = .ok (.iconst 0, 1) := by decide +kernel
theorem dX9_till_30 : decode cX9_till 30 = .ok (.ireturn, 1) := by decide +kernel
theorem dX9_left_0 : decode cX9_left 0 = .ok (.iload_n 2, 1) := by decide +kernel
theorem dX9_left_1 : decode cX9_left 1 = .ok (.invokestatic 262, 3) := by decide +kernel
theorem dX9_left_4 : decode cX9_left 4 = .ok (.ifCond .eq 15, 3) := by decide +kernel
theorem dX9_left_19 : decode cX9_left 19 = .ok (.iconst (-1), 1) := by decide +kernel
theorem dX9_left_20 : decode cX9_left 20 = .ok (.ireturn, 1) := by decide +kernel
theorem dX9_left_7 : decode cX9_left 7 = .ok (.iload_n 3, 1) := by decide +kernel
theorem dX9_left_8 : decode cX9_left 8 = .ok (.iconst (-1), 1) := by decide +kernel
theorem dX9_left_9 : decode cX9_left 9 = .ok (.if_icmp .eq 12, 3) := by decide +kernel
theorem dX9_left_21 : decode cX9_left 21 = .ok (.aload_n 0, 1) := by decide +kernel
theorem dX9_left_22 : decode cX9_left 22 = .ok (.getfield 47, 3) := by decide +kernel
theorem dX9_left_25 : decode cX9_left 25 = .ok (.iload_n 1, 1) := by decide +kernel
theorem dX9_left_26 : decode cX9_left 26 = .ok (.iload_n 2, 1) := by decide +kernel
theorem dX9_left_27 : decode cX9_left 27 = .ok (.invokevirtual 265, 3) := by decide +kernel
theorem dX9_left_30 : decode cX9_left 30 = .ok (.iload_n 3, 1) := by decide +kernel
theorem dX9_left_31 : decode cX9_left 31 = .ok (.iconst (-1), 1) := by decide +kernel
theorem dX9_left_32 : decode cX9_left 32 = .ok (.if_icmp .ne 11, 3) := by decide +kernel
theorem dX9_left_35 : decode cX9_left 35 = .ok (.aload_n 0, 1) := by decide +kernel
theorem dX9_left_36 : decode cX9_left 36 = .ok (.getfield 47, 3) := by decide +kernel
theorem dX9_left_39 : decode cX9_left 39 = .ok (.invokevirtual 268, 3) := by decide +kernel
theorem dX9_left_42 : decode cX9_left 42 = .ok (.ireturn, 1) := by decide +kernel
theorem dX9_left_12 : decode cX9_left 12 = .ok (.iload_n 3, 1) := by decide +kernel
theorem dX9_left_13 : decode cX9_left 13 = .ok (.invokestatic 134, 3) := by decide +kernel
theorem dX9_left_16 : decode cX9_left 16 = .ok (.ifCond .ne 5, 3) := by decide +kernel
theorem dX9_left_43 : decode cX9_left 43 = .ok (.aload_n 0, 1) := by decide +kernel
theorem dX9_left_44 : decode cX9_left 44 = .ok (.getfield 47, 3) := by decide +kernel
theorem dX9_left_47 : decode cX9_left 47 = .ok (.getfield 271, 3) := by decide +kernel
theorem dX9_left_50 : decode cX9_left 50 = .ok (.iload_n 3, 1) := by decide +kernel
theorem dX9_left_51 : decode cX9_left 51 = .ok (.baload, 1) := by decide +kernel
theorem dX9_left_52 : decode cX9_left 52 = .ok (.ifCond .eq 7, 3) := by decide +kernel
theorem dX9_left_59 : decode cX9_left 59 = .ok (.iconst 0, 1) := by decide +kernel
theorem dX9_left_60 : decode cX9_left 60 = .ok (.ireturn, 1) := by decide +kernel
theorem dX9_left_55 : decode cX9_left 55 = .ok (.iconst 1, 1) := by decide +kernel
theorem dX9_left_56 : decode cX9_left 56 = .ok (.goto 4, 3) := by decide +kernel
theorem dX9_knocked_0 : decode cX9_knocked 0 = .ok (.iload_n 2, 1) := by decide +kernel
theorem dX9_knocked_1 : decode cX9_knocked 1 = .ok (.invokestatic 262, 3) := by decide +kernel
theorem dX9_knocked_4 : decode cX9_knocked 4 = .ok (.ifCond .eq 10, 3) := by decide +kernel
theorem dX9_knocked_14 : decode cX9_knocked 14 = .ok (.iconst (-1), 1) := by decide +kernel
theorem dX9_knocked_15 : decode cX9_knocked 15 = .ok (.ireturn, 1) := by decide +kernel
theorem dX9_knocked_7 : decode cX9_knocked 7 = .ok (.iload_n 3, 1) := by decide +kernel
theorem dX9_knocked_8 : decode cX9_knocked 8 = .ok (.invokestatic 134, 3) := by decide +kernel
theorem dX9_knocked_11 : decode cX9_knocked 11 = .ok (.ifCond .ne 5, 3) := by decide +kernel
theorem dX9_knocked_16 : decode cX9_knocked 16 = .ok (.aload_n 0, 1) := by decide +kernel
theorem dX9_knocked_17 : decode cX9_knocked 17 = .ok (.getfield 47, 3) := by decide +kernel
theorem dX9_knocked_20 : decode cX9_knocked 20 = .ok (.iload_n 1, 1) := by decide +kernel
theorem dX9_knocked_21 : decode cX9_knocked 21 = .ok (.iload_n 2, 1) := by decide +kernel
theorem dX9_knocked_22 : decode cX9_knocked 22 = .ok (.invokevirtual 265, 3) := by decide +kernel
theorem dX9_knocked_25 : decode cX9_knocked 25 = .ok (.aload_n 0, 1) := by decide +kernel
theorem dX9_knocked_26 : decode cX9_knocked 26 = .ok (.getfield 47, 3) := by decide +kernel
theorem dX9_knocked_29 : decode cX9_knocked 29 = .ok (.getfield 275, 3) := by decide +kernel
theorem dX9_knocked_32 : decode cX9_knocked 32 = .ok (.iload_n 3, 1) := by decide +kernel
theorem dX9_knocked_33 : decode cX9_knocked 33 = .ok (.iaload, 1) := by decide +kernel
theorem dX9_knocked_34 : decode cX9_knocked 34 = .ok (.ireturn, 1) := by decide +kernel
theorem dX9_last_0 : decode cX9_last 0 = .ok (.iload_n 2, 1) := by decide +kernel
theorem dX9_last_1 : decode cX9_last 1 = .ok (.ifCond .lt 8, 3) := by decide +kernel
theorem dX9_last_9 : decode cX9_last 9 = .ok (.iconst (-1), 1) := by decide +kernel
theorem dX9_last_10 : decode cX9_last 10 = .ok (.ireturn, 1) := by decide +kernel
theorem dX9_last_4 : decode cX9_last 4 = .ok (.iload_n 2, 1) := by decide +kernel
theorem dX9_last_5 : decode cX9_last 5 = .ok (.iconst 1, 1) := by decide +kernel
theorem dX9_last_6 : decode cX9_last 6 = .ok (.if_icmp .le 5, 3) := by decide +kernel
theorem dX9_last_11 : decode cX9_last 11 = .ok (.aload_n 0, 1) := by decide +kernel
theorem dX9_last_12 : decode cX9_last 12 = .ok (.getfield 47, 3) := by decide +kernel
theorem dX9_last_15 : decode cX9_last 15 = .ok (.iload_n 1, 1) := by decide +kernel
theorem dX9_last_16 : decode cX9_last 16 = .ok (.bipush 30, 2) := by decide +kernel
theorem dX9_last_18 : decode cX9_last 18 = .ok (.invokevirtual 265, 3) := by decide +kernel
theorem dX9_last_21 : decode cX9_last 21 = .ok (.aload_n 0, 1) := by decide +kernel
theorem dX9_last_22 : decode cX9_last 22 = .ok (.getfield 47, 3) := by decide +kernel
theorem dX9_last_25 : decode cX9_last 25 = .ok (.invokevirtual 278, 3) := by decide +kernel
theorem dX9_last_28 : decode cX9_last 28 = .ok (.istore_n 3, 1) := by decide +kernel
theorem dX9_last_29 : decode cX9_last 29 = .ok (.iload_n 2, 1) := by decide +kernel
theorem dX9_last_30 : decode cX9_last 30 = .ok (.ifCond .ne 7, 3) := by decide +kernel
theorem dX9_last_37 : decode cX9_last 37 = .ok (.aload_n 0, 1) := by decide +kernel
theorem dX9_last_38 : decode cX9_last 38 = .ok (.getfield 47, 3) := by decide +kernel
theorem dX9_last_41 : decode cX9_last 41 = .ok (.getfield 281, 3) := by decide +kernel
theorem dX9_last_44 : decode cX9_last 44 = .ok (.iload_n 3, 1) := by decide +kernel
theorem dX9_last_45 : decode cX9_last 45 = .ok (.iaload, 1) := by decide +kernel
theorem dX9_last_46 : decode cX9_last 46 = .ok (.ireturn, 1) := by decide +kernel
theorem dX9_last_33 : decode cX9_last 33 = .ok (.iload_n 3, 1) := by decide +kernel
theorem dX9_last_34 : decode cX9_last 34 = .ok (.goto 12, 3) := by decide +kernel
theorem dX9_alone_0 : decode cX9_alone 0 = .ok (.iload_n 1, 1) := by decide +kernel
theorem dX9_alone_1 : decode cX9_alone 1 = .ok (.invokestatic 134, 3) := by decide +kernel
theorem dX9_alone_4 : decode cX9_alone 4 = .ok (.ifCond .eq 22, 3) := by decide +kernel
theorem dX9_alone_26 : decode cX9_alone 26 = .ok (.ldc2_w 286, 3) := by decide +kernel
theorem dX9_alone_29 : decode cX9_alone 29 = .ok (.lreturn, 1) := by decide +kernel
theorem dX9_alone_7 : decode cX9_alone 7 = .ok (.iload_n 2, 1) := by decide +kernel
theorem dX9_alone_8 : decode cX9_alone 8 = .ok (.ifCond .lt 18, 3) := by decide +kernel
theorem dX9_alone_11 : decode cX9_alone 11 = .ok (.iload_n 2, 1) := by decide +kernel
theorem dX9_alone_12 : decode cX9_alone 12 = .ok (.bipush 8, 2) := by decide +kernel
theorem dX9_alone_14 : decode cX9_alone 14 = .ok (.if_icmp .gt 12, 3) := by decide +kernel
theorem dX9_alone_17 : decode cX9_alone 17 = .ok (.iload_n 3, 1) := by decide +kernel
theorem dX9_alone_18 : decode cX9_alone 18 = .ok (.ifCond .lt 8, 3) := by decide +kernel
theorem dX9_alone_21 : decode cX9_alone 21 = .ok (.iload_n 3, 1) := by decide +kernel
theorem dX9_alone_22 : decode cX9_alone 22 = .ok (.iconst 1, 1) := by decide +kernel
theorem dX9_alone_23 : decode cX9_alone 23 = .ok (.if_icmp .le 7, 3) := by decide +kernel
theorem dX9_alone_30 : decode cX9_alone 30 = .ok (.aload_n 0, 1) := by decide +kernel
theorem dX9_alone_31 : decode cX9_alone 31 = .ok (.getfield 47, 3) := by decide +kernel
theorem dX9_alone_34 : decode cX9_alone 34 = .ok (.getfield 137, 3) := by decide +kernel
theorem dX9_alone_37 : decode cX9_alone 37 = .ok (.iload_n 1, 1) := by decide +kernel
theorem dX9_alone_38 : decode cX9_alone 38 = .ok (.iaload, 1) := by decide +kernel
theorem dX9_alone_39 : decode cX9_alone 39 = .ok (.istore 4, 2) := by decide +kernel
theorem dX9_alone_41 : decode cX9_alone 41 = .ok (.iload 4, 2) := by decide +kernel
theorem dX9_alone_43 : decode cX9_alone 43 = .ok (.bipush 12, 2) := by decide +kernel
theorem dX9_alone_45 : decode cX9_alone 45 = .ok (.invokestatic 288, 3) := by decide +kernel
theorem dX9_alone_48 : decode cX9_alone 48 = .ok (.istore 5, 2) := by decide +kernel
theorem dX9_alone_50 : decode cX9_alone 50 = .ok (.iload_n 3, 1) := by decide +kernel
theorem dX9_alone_51 : decode cX9_alone 51 = .ok (.ifCond .ne 8, 3) := by decide +kernel
theorem dX9_alone_59 : decode cX9_alone 59 = .ok (.bipush 12, 2) := by decide +kernel
theorem dX9_alone_61 : decode cX9_alone 61 = .ok (.iconst 1, 1) := by decide +kernel
theorem dX9_alone_62 : decode cX9_alone 62 = .ok (.iload 5, 2) := by decide +kernel
theorem dX9_alone_64 : decode cX9_alone 64 = .ok (.invokestatic 291, 3) := by decide +kernel
theorem dX9_alone_67 : decode cX9_alone 67 = .ok (.idiv, 1) := by decide +kernel
theorem dX9_alone_68 : decode cX9_alone 68 = .ok (.istore 6, 2) := by decide +kernel
theorem dX9_alone_70 : decode cX9_alone 70 = .ok (.lconst 1, 1) := by decide +kernel
theorem dX9_alone_71 : decode cX9_alone 71 = .ok (.lstore 7, 2) := by decide +kernel
theorem dX9_alone_73 : decode cX9_alone 73 = .ok (.iconst 0, 1) := by decide +kernel
theorem dX9_alone_74 : decode cX9_alone 74 = .ok (.istore 9, 2) := by decide +kernel
theorem dX9_alone_96 : decode cX9_alone 96 = .ok (.lload 7, 2) := by decide +kernel
theorem dX9_alone_98 : decode cX9_alone 98 = .ok (.lreturn, 1) := by decide +kernel
theorem dX9_alone_54 : decode cX9_alone 54 = .ok (.iload 4, 2) := by decide +kernel
theorem dX9_alone_56 : decode cX9_alone 56 = .ok (.goto 5, 3) := by decide +kernel
theorem dX9_image_0 : decode cX9_image 0 = .ok (.aload_n 0, 1) := by decide +kernel
theorem dX9_image_1 : decode cX9_image 1 = .ok (.getfield 32, 3) := by decide +kernel
theorem dX9_image_4 : decode cX9_image 4 = .ok (.aload_n 0, 1) := by decide +kernel
theorem dX9_image_5 : decode cX9_image 5 = .ok (.getfield 28, 3) := by decide +kernel
theorem dX9_image_8 : decode cX9_image 8 = .ok (.invokevirtual 300, 3) := by decide +kernel
theorem dX9_image_11 : decode cX9_image 11 = .ok (.aload_n 0, 1) := by decide +kernel
theorem dX9_image_12 : decode cX9_image 12 = .ok (.iconst 1, 1) := by decide +kernel
theorem dX9_image_13 : decode cX9_image 13 = .ok (.putfield 72, 3) := by decide +kernel
theorem dX9_image_16 : decode cX9_image 16 = .ok (.aload_n 0, 1) := by decide +kernel
theorem dX9_image_17 : decode cX9_image 17 = .ok (.getfield 28, 3) := by decide +kernel
theorem dX9_image_20 : decode cX9_image 20 = .ok (.getfield 303, 3) := by decide +kernel
theorem dX9_image_23 : decode cX9_image 23 = .ok (.ireturn, 1) := by decide +kernel
theorem dX9_back_0 : decode cX9_back 0 = .ok (.aload_n 0, 1) := by decide +kernel
theorem dX9_back_1 : decode cX9_back 1 = .ok (.getfield 72, 3) := by decide +kernel
theorem dX9_back_4 : decode cX9_back 4 = .ok (.ifCond .ne 6, 3) := by decide +kernel
theorem dX9_back_10 : decode cX9_back 10 = .ok (.aload_n 0, 1) := by decide +kernel
theorem dX9_back_11 : decode cX9_back 11 = .ok (.getfield 28, 3) := by decide +kernel
theorem dX9_back_14 : decode cX9_back 14 = .ok (.aload_n 0, 1) := by decide +kernel
theorem dX9_back_15 : decode cX9_back 15 = .ok (.getfield 32, 3) := by decide +kernel
theorem dX9_back_18 : decode cX9_back 18 = .ok (.invokevirtual 306, 3) := by decide +kernel
theorem dX9_back_21 : decode cX9_back 21 = .ok (.aload_n 0, 1) := by decide +kernel
theorem dX9_back_22 : decode cX9_back 22 = .ok (.getfield 28, 3) := by decide +kernel
theorem dX9_back_25 : decode cX9_back 25 = .ok (.getfield 303, 3) := by decide +kernel
theorem dX9_back_28 : decode cX9_back 28 = .ok (.ireturn, 1) := by decide +kernel
theorem dX9_back_7 : decode cX9_back 7 = .ok (.bipush (-5), 2) := by decide +kernel
theorem dX9_back_9 : decode cX9_back 9 = .ok (.ireturn, 1) := by decide +kernel
theorem dX9_undo_0 : decode cX9_undo 0 = .ok (.aload_n 0, 1) := by decide +kernel
theorem dX9_undo_1 : decode cX9_undo 1 = .ok (.getfield 54, 3) := by decide +kernel
theorem dX9_undo_4 : decode cX9_undo 4 = .ok (.getfield 309, 3) := by decide +kernel
theorem dX9_undo_7 : decode cX9_undo 7 = .ok (.ifCond .ne 6, 3) := by decide +kernel
theorem dX9_undo_13 : decode cX9_undo 13 = .ok (.aload_n 0, 1) := by decide +kernel
theorem dX9_undo_14 : decode cX9_undo 14 = .ok (.getfield 54, 3) := by decide +kernel
theorem dX9_undo_17 : decode cX9_undo 17 = .ok (.dup, 1) := by decide +kernel
theorem dX9_undo_18 : decode cX9_undo 18 = .ok (.getfield 309, 3) := by decide +kernel
theorem dX9_undo_21 : decode cX9_undo 21 = .ok (.iconst 1, 1) := by decide +kernel
theorem dX9_undo_22 : decode cX9_undo 22 = .ok (.isub, 1) := by decide +kernel
theorem dX9_undo_23 : decode cX9_undo 23 = .ok (.putfield 309, 3) := by decide +kernel
theorem dX9_undo_26 : decode cX9_undo 26 = .ok (.aload_n 0, 1) := by decide +kernel
theorem dX9_undo_27 : decode cX9_undo 27 = .ok (.getfield 54, 3) := by decide +kernel
theorem dX9_undo_30 : decode cX9_undo 30 = .ok (.getfield 309, 3) := by decide +kernel
theorem dX9_undo_33 : decode cX9_undo 33 = .ok (.istore_n 1, 1) := by decide +kernel
theorem dX9_undo_34 : decode cX9_undo 34 = .ok (.aload_n 0, 1) := by decide +kernel
theorem dX9_undo_35 : decode cX9_undo 35 = .ok (.aload_n 0, 1) := by decide +kernel
theorem dX9_undo_36 : decode cX9_undo 36 = .ok (.getfield 54, 3) := by decide +kernel
theorem dX9_undo_39 : decode cX9_undo 39 = .ok (.getfield 312, 3) := by decide +kernel
theorem dX9_undo_42 : decode cX9_undo 42 = .ok (.iload_n 1, 1) := by decide +kernel
theorem dX9_undo_43 : decode cX9_undo 43 = .ok (.iaload, 1) := by decide +kernel
theorem dX9_undo_44 : decode cX9_undo 44 = .ok (.aload_n 0, 1) := by decide +kernel
theorem dX9_undo_45 : decode cX9_undo 45 = .ok (.getfield 54, 3) := by decide +kernel
theorem dX9_undo_48 : decode cX9_undo 48 = .ok (.getfield 315, 3) := by decide +kernel
theorem dX9_undo_51 : decode cX9_undo 51 = .ok (.iload_n 1, 1) := by decide +kernel
theorem dX9_undo_52 : decode cX9_undo 52 = .ok (.iaload, 1) := by decide +kernel
theorem dX9_undo_53 : decode cX9_undo 53 = .ok (.aload_n 0, 1) := by decide +kernel
theorem dX9_undo_54 : decode cX9_undo 54 = .ok (.getfield 54, 3) := by decide +kernel
theorem dX9_undo_57 : decode cX9_undo 57 = .ok (.getfield 318, 3) := by decide +kernel
theorem dX9_undo_60 : decode cX9_undo 60 = .ok (.iload_n 1, 1) := by decide +kernel
theorem dX9_undo_61 : decode cX9_undo 61 = .ok (.iaload, 1) := by decide +kernel
theorem dX9_undo_62 : decode cX9_undo 62 = .ok (.invokevirtual 110, 3) := by decide +kernel
theorem dX9_undo_65 : decode cX9_undo 65 = .ok (.aload_n 0, 1) := by decide +kernel
theorem dX9_undo_66 : decode cX9_undo 66 = .ok (.getfield 54, 3) := by decide +kernel
theorem dX9_undo_69 : decode cX9_undo 69 = .ok (.getfield 309, 3) := by decide +kernel
theorem dX9_undo_72 : decode cX9_undo 72 = .ok (.ireturn, 1) := by decide +kernel
theorem dX9_undo_10 : decode cX9_undo 10 = .ok (.bipush (-5), 2) := by decide +kernel
theorem dX9_undo_12 : decode cX9_undo 12 = .ok (.ireturn, 1) := by decide +kernel
theorem dX9_redo_0 : decode cX9_redo 0 = .ok (.aload_n 0, 1) := by decide +kernel
theorem dX9_redo_1 : decode cX9_redo 1 = .ok (.getfield 54, 3) := by decide +kernel
theorem dX9_redo_4 : decode cX9_redo 4 = .ok (.getfield 309, 3) := by decide +kernel
theorem dX9_redo_7 : decode cX9_redo 7 = .ok (.aload_n 0, 1) := by decide +kernel
theorem dX9_redo_8 : decode cX9_redo 8 = .ok (.getfield 54, 3) := by decide +kernel
theorem dX9_redo_11 : decode cX9_redo 11 = .ok (.getfield 321, 3) := by decide +kernel
theorem dX9_redo_14 : decode cX9_redo 14 = .ok (.if_icmp .ne 6, 3) := by decide +kernel
theorem dX9_redo_20 : decode cX9_redo 20 = .ok (.aload_n 0, 1) := by decide +kernel
theorem dX9_redo_21 : decode cX9_redo 21 = .ok (.getfield 54, 3) := by decide +kernel
theorem dX9_redo_24 : decode cX9_redo 24 = .ok (.getfield 309, 3) := by decide +kernel
theorem dX9_redo_27 : decode cX9_redo 27 = .ok (.istore_n 1, 1) := by decide +kernel
theorem dX9_redo_28 : decode cX9_redo 28 = .ok (.aload_n 0, 1) := by decide +kernel
theorem dX9_redo_29 : decode cX9_redo 29 = .ok (.getfield 54, 3) := by decide +kernel
theorem dX9_redo_32 : decode cX9_redo 32 = .ok (.dup, 1) := by decide +kernel
theorem dX9_redo_33 : decode cX9_redo 33 = .ok (.getfield 309, 3) := by decide +kernel
theorem dX9_redo_36 : decode cX9_redo 36 = .ok (.iconst 1, 1) := by decide +kernel
theorem dX9_redo_37 : decode cX9_redo 37 = .ok (.iadd, 1) := by decide +kernel
theorem dX9_redo_38 : decode cX9_redo 38 = .ok (.putfield 309, 3) := by decide +kernel
theorem dX9_redo_41 : decode cX9_redo 41 = .ok (.aload_n 0, 1) := by decide +kernel
theorem dX9_redo_42 : decode cX9_redo 42 = .ok (.aload_n 0, 1) := by decide +kernel
theorem dX9_redo_43 : decode cX9_redo 43 = .ok (.getfield 54, 3) := by decide +kernel
theorem dX9_redo_46 : decode cX9_redo 46 = .ok (.getfield 312, 3) := by decide +kernel
theorem dX9_redo_49 : decode cX9_redo 49 = .ok (.iload_n 1, 1) := by decide +kernel
theorem dX9_redo_50 : decode cX9_redo 50 = .ok (.iaload, 1) := by decide +kernel
theorem dX9_redo_51 : decode cX9_redo 51 = .ok (.aload_n 0, 1) := by decide +kernel
theorem dX9_redo_52 : decode cX9_redo 52 = .ok (.getfield 54, 3) := by decide +kernel
theorem dX9_redo_55 : decode cX9_redo 55 = .ok (.getfield 315, 3) := by decide +kernel
theorem dX9_redo_58 : decode cX9_redo 58 = .ok (.iload_n 1, 1) := by decide +kernel
theorem dX9_redo_59 : decode cX9_redo 59 = .ok (.iaload, 1) := by decide +kernel
theorem dX9_redo_60 : decode cX9_redo 60 = .ok (.aload_n 0, 1) := by decide +kernel
theorem dX9_redo_61 : decode cX9_redo 61 = .ok (.getfield 54, 3) := by decide +kernel
theorem dX9_redo_64 : decode cX9_redo 64 = .ok (.getfield 324, 3) := by decide +kernel
theorem dX9_redo_67 : decode cX9_redo 67 = .ok (.iload_n 1, 1) := by decide +kernel
theorem dX9_redo_68 : decode cX9_redo 68 = .ok (.iaload, 1) := by decide +kernel
theorem dX9_redo_69 : decode cX9_redo 69 = .ok (.invokevirtual 110, 3) := by decide +kernel
theorem dX9_redo_72 : decode cX9_redo 72 = .ok (.aload_n 0, 1) := by decide +kernel
theorem dX9_redo_73 : decode cX9_redo 73 = .ok (.getfield 54, 3) := by decide +kernel
theorem dX9_redo_76 : decode cX9_redo 76 = .ok (.getfield 321, 3) := by decide +kernel
theorem dX9_redo_79 : decode cX9_redo 79 = .ok (.aload_n 0, 1) := by decide +kernel
theorem dX9_redo_80 : decode cX9_redo 80 = .ok (.getfield 54, 3) := by decide +kernel
theorem dX9_redo_83 : decode cX9_redo 83 = .ok (.getfield 309, 3) := by decide +kernel
theorem dX9_redo_86 : decode cX9_redo 86 = .ok (.isub, 1) := by decide +kernel
theorem dX9_redo_87 : decode cX9_redo 87 = .ok (.ireturn, 1) := by decide +kernel
theorem dX9_redo_17 : decode cX9_redo 17 = .ok (.bipush (-5), 2) := by decide +kernel
theorem dX9_redo_19 : decode cX9_redo 19 = .ok (.ireturn, 1) := by decide +kernel
theorem dX9_body_0 : decode cX9_body 0 = .ok (.iload_n 1, 1) := by decide +kernel
theorem dX9_body_1 : decode cX9_body 1 = .ok (.invokestatic 327, 3) := by decide +kernel
theorem dX9_body_4 : decode cX9_body 4 = .ok (.ifCond .ne 5, 3) := by decide +kernel
theorem dX9_body_9 : decode cX9_body 9 = .ok (.aload_n 0, 1) := by decide +kernel
theorem dX9_body_10 : decode cX9_body 10 = .ok (.getfield 61, 3) := by decide +kernel
theorem dX9_body_13 : decode cX9_body 13 = .ok (.invokevirtual 330, 3) := by decide +kernel
theorem dX9_body_16 : decode cX9_body 16 = .ok (.ifCond .eq 8, 3) := by decide +kernel
theorem dX9_body_24 : decode cX9_body 24 = .ok (.aload_n 0, 1) := by decide +kernel
theorem dX9_body_25 : decode cX9_body 25 = .ok (.getfield 61, 3) := by decide +kernel
theorem dX9_body_28 : decode cX9_body 28 = .ok (.iload_n 1, 1) := by decide +kernel
theorem dX9_body_29 : decode cX9_body 29 = .ok (.invokevirtual 331, 3) := by decide +kernel
theorem dX9_body_32 : decode cX9_body 32 = .ok (.ireturn, 1) := by decide +kernel
theorem dX9_body_19 : decode cX9_body 19 = .ok (.bipush (-3), 2) := by decide +kernel
theorem dX9_body_21 : decode cX9_body 21 = .ok (.goto 11, 3) := by decide +kernel
theorem dX9_body_7 : decode cX9_body 7 = .ok (.iconst (-1), 1) := by decide +kernel
theorem dX9_body_8 : decode cX9_body 8 = .ok (.ireturn, 1) := by decide +kernel
theorem dX9_act_0 : decode cX9_act 0 = .ok (.aload_n 0, 1) := by decide +kernel
theorem dX9_act_1 : decode cX9_act 1 = .ok (.getfield 61, 3) := by decide +kernel
theorem dX9_act_4 : decode cX9_act 4 = .ok (.iconst 0, 1) := by decide +kernel
theorem dX9_act_5 : decode cX9_act 5 = .ok (.putfield 334, 3) := by decide +kernel
theorem dX9_act_8 : decode cX9_act 8 = .ok (.aload_n 0, 1) := by decide +kernel
theorem dX9_act_9 : decode cX9_act 9 = .ok (.getfield 61, 3) := by decide +kernel
theorem dX9_act_12 : decode cX9_act 12 = .ok (.iload_n 1, 1) := by decide +kernel
theorem dX9_act_13 : decode cX9_act 13 = .ok (.invokevirtual 337, 3) := by decide +kernel
theorem dX9_act_16 : decode cX9_act 16 = .ok (.ifCond .eq 12, 3) := by decide +kernel
theorem dX9_act_28 : decode cX9_act 28 = .ok (.iconst 0, 1) := by decide +kernel
theorem dX9_act_29 : decode cX9_act 29 = .ok (.ireturn, 1) := by decide +kernel
theorem dX9_act_19 : decode cX9_act 19 = .ok (.iload_n 2, 1) := by decide +kernel
theorem dX9_act_20 : decode cX9_act 20 = .ok (.ifCond .lt 8, 3) := by decide +kernel
theorem dX9_act_23 : decode cX9_act 23 = .ok (.iload_n 2, 1) := by decide +kernel
theorem dX9_act_24 : decode cX9_act 24 = .ok (.iconst 4, 1) := by decide +kernel
theorem dX9_act_25 : decode cX9_act 25 = .ok (.if_icmp .lt 5, 3) := by decide +kernel
theorem dX9_act_30 : decode cX9_act 30 = .ok (.aload_n 0, 1) := by decide +kernel
theorem dX9_act_31 : decode cX9_act 31 = .ok (.getfield 61, 3) := by decide +kernel
theorem dX9_act_34 : decode cX9_act 34 = .ok (.iload_n 1, 1) := by decide +kernel
theorem dX9_act_35 : decode cX9_act 35 = .ok (.iload_n 2, 1) := by decide +kernel
theorem dX9_act_36 : decode cX9_act 36 = .ok (.iload_n 3, 1) := by decide +kernel
theorem dX9_act_37 : decode cX9_act 37 = .ok (.invokevirtual 338, 3) := by decide +kernel
theorem dX9_act_40 : decode cX9_act 40 = .ok (.ireturn, 1) := by decide +kernel
theorem dX9_trace_0 : decode cX9_trace 0 = .ok (.iload_n 1, 1) := by decide +kernel
theorem dX9_trace_1 : decode cX9_trace 1 = .ok (.ifCond .lt 20, 3) := by decide +kernel
theorem dX9_trace_21 : decode cX9_trace 21 = .ok (.iconst (-1), 1) := by decide +kernel
theorem dX9_trace_22 : decode cX9_trace 22 = .ok (.ireturn, 1) := by decide +kernel
theorem dX9_trace_4 : decode cX9_trace 4 = .ok (.iload_n 1, 1) := by decide +kernel
theorem dX9_trace_5 : decode cX9_trace 5 = .ok (.aload_n 0, 1) := by decide +kernel
theorem dX9_trace_6 : decode cX9_trace 6 = .ok (.getfield 61, 3) := by decide +kernel
theorem dX9_trace_9 : decode cX9_trace 9 = .ok (.getfield 334, 3) := by decide +kernel
theorem dX9_trace_12 : decode cX9_trace 12 = .ok (.if_icmp .ge 9, 3) := by decide +kernel
theorem dX9_trace_15 : decode cX9_trace 15 = .ok (.iload_n 1, 1) := by decide +kernel
theorem dX9_trace_16 : decode cX9_trace 16 = .ok (.bipush 24, 2) := by decide +kernel
theorem dX9_trace_18 : decode cX9_trace 18 = .ok (.if_icmp .lt 5, 3) := by decide +kernel
theorem dX9_trace_23 : decode cX9_trace 23 = .ok (.aload_n 0, 1) := by decide +kernel
theorem dX9_trace_24 : decode cX9_trace 24 = .ok (.getfield 61, 3) := by decide +kernel
theorem dX9_trace_27 : decode cX9_trace 27 = .ok (.getfield 341, 3) := by decide +kernel
theorem dX9_trace_30 : decode cX9_trace 30 = .ok (.iload_n 1, 1) := by decide +kernel
theorem dX9_trace_31 : decode cX9_trace 31 = .ok (.iaload, 1) := by decide +kernel
theorem dX9_trace_32 : decode cX9_trace 32 = .ok (.ireturn, 1) := by decide +kernel
theorem dX9_keep_0 : decode cX9_keep 0 = .ok (.iload_n 1, 1) := by decide +kernel
theorem dX9_keep_1 : decode cX9_keep 1 = .ok (.invokestatic 88, 3) := by decide +kernel
theorem dX9_keep_4 : decode cX9_keep 4 = .ok (.ifCond .eq 19, 3) := by decide +kernel
theorem dX9_keep_23 : decode cX9_keep 23 = .ok (.iconst (-1), 1) := by decide +kernel
theorem dX9_keep_24 : decode cX9_keep 24 = .ok (.ireturn, 1) := by decide +kernel
theorem dX9_keep_7 : decode cX9_keep 7 = .ok (.iload_n 2, 1) := by decide +kernel
theorem dX9_keep_8 : decode cX9_keep 8 = .ok (.iconst (-1), 1) := by decide +kernel
theorem dX9_keep_9 : decode cX9_keep 9 = .ok (.if_icmp .eq 16, 3) := by decide +kernel
theorem dX9_keep_25 : decode cX9_keep 25 = .ok (.iload_n 2, 1) := by decide +kernel
theorem dX9_keep_26 : decode cX9_keep 26 = .ok (.iconst (-1), 1) := by decide +kernel
theorem dX9_keep_27 : decode cX9_keep 27 = .ok (.if_icmp .ne 15, 3) := by decide +kernel
theorem dX9_keep_42 : decode cX9_keep 42 = .ok (.aload_n 0, 1) := by decide +kernel
theorem dX9_keep_43 : decode cX9_keep 43 = .ok (.getfield 67, 3) := by decide +kernel
theorem dX9_keep_46 : decode cX9_keep 46 = .ok (.iload_n 1, 1) := by decide +kernel
theorem dX9_keep_47 : decode cX9_keep 47 = .ok (.aaload, 1) := by decide +kernel
theorem dX9_keep_48 : decode cX9_keep 48 = .ok (.iload_n 2, 1) := by decide +kernel
theorem dX9_keep_49 : decode cX9_keep 49 = .ok (.invokevirtual 347, 3) := by decide +kernel
theorem dX9_keep_52 : decode cX9_keep 52 = .ok (.iconst 1, 1) := by decide +kernel
theorem dX9_keep_53 : decode cX9_keep 53 = .ok (.ireturn, 1) := by decide +kernel
theorem dX9_keep_30 : decode cX9_keep 30 = .ok (.aload_n 0, 1) := by decide +kernel
theorem dX9_keep_31 : decode cX9_keep 31 = .ok (.getfield 67, 3) := by decide +kernel
theorem dX9_keep_34 : decode cX9_keep 34 = .ok (.iload_n 1, 1) := by decide +kernel
theorem dX9_keep_35 : decode cX9_keep 35 = .ok (.aaload, 1) := by decide +kernel
theorem dX9_keep_36 : decode cX9_keep 36 = .ok (.invokevirtual 344, 3) := by decide +kernel
theorem dX9_keep_39 : decode cX9_keep 39 = .ok (.goto 13, 3) := by decide +kernel
theorem dX9_keep_12 : decode cX9_keep 12 = .ok (.aload_n 0, 1) := by decide +kernel
theorem dX9_keep_13 : decode cX9_keep 13 = .ok (.getfield 61, 3) := by decide +kernel
theorem dX9_keep_16 : decode cX9_keep 16 = .ok (.iload_n 2, 1) := by decide +kernel
theorem dX9_keep_17 : decode cX9_keep 17 = .ok (.invokevirtual 337, 3) := by decide +kernel
theorem dX9_keep_20 : decode cX9_keep 20 = .ok (.ifCond .ne 5, 3) := by decide +kernel
theorem dX9_row_0 : decode cX9_row 0 = .ok (.iload_n 1, 1) := by decide +kernel
theorem dX9_row_1 : decode cX9_row 1 = .ok (.invokestatic 88, 3) := by decide +kernel
theorem dX9_row_4 : decode cX9_row 4 = .ok (.ifCond .eq 16, 3) := by decide +kernel
theorem dX9_row_20 : decode cX9_row 20 = .ok (.iconst (-1), 1) := by decide +kernel
theorem dX9_row_21 : decode cX9_row 21 = .ok (.ireturn, 1) := by decide +kernel
theorem dX9_row_7 : decode cX9_row 7 = .ok (.iload_n 2, 1) := by decide +kernel
theorem dX9_row_8 : decode cX9_row 8 = .ok (.invokestatic 350, 3) := by decide +kernel
theorem dX9_row_11 : decode cX9_row 11 = .ok (.ifCond .eq 9, 3) := by decide +kernel
theorem dX9_row_14 : decode cX9_row 14 = .ok (.iload_n 3, 1) := by decide +kernel
theorem dX9_row_15 : decode cX9_row 15 = .ok (.bipush 60, 2) := by decide +kernel
theorem dX9_row_17 : decode cX9_row 17 = .ok (.if_icmp .le 5, 3) := by decide +kernel
theorem dX9_row_22 : decode cX9_row 22 = .ok (.iload_n 3, 1) := by decide +kernel
theorem dX9_row_23 : decode cX9_row 23 = .ok (.ifCond .ge 6, 3) := by decide +kernel
theorem dX9_row_29 : decode cX9_row 29 = .ok (.aload_n 0, 1) := by decide +kernel
theorem dX9_row_30 : decode cX9_row 30 = .ok (.getfield 67, 3) := by decide +kernel
theorem dX9_row_33 : decode cX9_row 33 = .ok (.iload_n 1, 1) := by decide +kernel
theorem dX9_row_34 : decode cX9_row 34 = .ok (.aaload, 1) := by decide +kernel
theorem dX9_row_35 : decode cX9_row 35 = .ok (.iload_n 2, 1) := by decide +kernel
theorem dX9_row_36 : decode cX9_row 36 = .ok (.iload_n 3, 1) := by decide +kernel
theorem dX9_row_37 : decode cX9_row 37 = .ok (.invokevirtual 353, 3) := by decide +kernel
theorem dX9_row_40 : decode cX9_row 40 = .ok (.iconst 1, 1) := by decide +kernel
theorem dX9_row_41 : decode cX9_row 41 = .ok (.ireturn, 1) := by decide +kernel
theorem dX9_row_26 : decode cX9_row 26 = .ok (.bipush (-14), 2) := by decide +kernel
theorem dX9_row_28 : decode cX9_row 28 = .ok (.ireturn, 1) := by decide +kernel
theorem dX9_put_0 : decode cX9_put 0 = .ok (.iload_n 1, 1) := by decide +kernel
theorem dX9_put_1 : decode cX9_put 1 = .ok (.invokestatic 88, 3) := by decide +kernel
theorem dX9_put_4 : decode cX9_put 4 = .ok (.ifCond .ne 5, 3) := by decide +kernel
theorem dX9_put_9 : decode cX9_put 9 = .ok (.aload_n 0, 1) := by decide +kernel
theorem dX9_put_10 : decode cX9_put 10 = .ok (.getfield 67, 3) := by decide +kernel
theorem dX9_put_13 : decode cX9_put 13 = .ok (.iload_n 1, 1) := by decide +kernel
theorem dX9_put_14 : decode cX9_put 14 = .ok (.aaload, 1) := by decide +kernel
theorem dX9_put_15 : decode cX9_put 15 = .ok (.iload_n 2, 1) := by decide +kernel
theorem dX9_put_16 : decode cX9_put 16 = .ok (.invokevirtual 356, 3) := by decide +kernel
theorem dX9_put_19 : decode cX9_put 19 = .ok (.istore 5, 2) := by decide +kernel
theorem dX9_put_21 : decode cX9_put 21 = .ok (.iload 5, 2) := by decide +kernel
theorem dX9_put_23 : decode cX9_put 23 = .ok (.ifCond .eq 6, 3) := by decide +kernel
theorem dX9_put_29 : decode cX9_put 29 = .ok (.aload_n 0, 1) := by decide +kernel
theorem dX9_put_30 : decode cX9_put 30 = .ok (.getfield 67, 3) := by decide +kernel
theorem dX9_put_33 : decode cX9_put 33 = .ok (.iload_n 1, 1) := by decide +kernel
theorem dX9_put_34 : decode cX9_put 34 = .ok (.aaload, 1) := by decide +kernel
theorem dX9_put_35 : decode cX9_put 35 = .ok (.iload_n 2, 1) := by decide +kernel
theorem dX9_put_36 : decode cX9_put 36 = .ok (.lload_n 3, 1) := by decide +kernel
theorem dX9_put_37 : decode cX9_put 37 = .ok (.invokevirtual 359, 3) := by decide +kernel
theorem dX9_put_40 : decode cX9_put 40 = .ok (.iconst 1, 1) := by decide +kernel
theorem dX9_put_41 : decode cX9_put 41 = .ok (.ireturn, 1) := by decide +kernel
theorem dX9_put_26 : decode cX9_put 26 = .ok (.iload 5, 2) := by decide +kernel
theorem dX9_put_28 : decode cX9_put 28 = .ok (.ireturn, 1) := by decide +kernel
theorem dX9_put_7 : decode cX9_put 7 = .ok (.iconst (-1), 1) := by decide +kernel
theorem dX9_put_8 : decode cX9_put 8 = .ok (.ireturn, 1) := by decide +kernel
theorem dX9_element_0 : decode cX9_element 0 = .ok (.iload_n 1, 1) := by decide +kernel
theorem dX9_element_1 : decode cX9_element 1 = .ok (.invokestatic 88, 3) := by decide +kernel
theorem dX9_element_4 : decode cX9_element 4 = .ok (.ifCond .eq 16, 3) := by decide +kernel
theorem dX9_element_20 : decode cX9_element 20 = .ok (.ldc2_w 286, 3) := by decide +kernel
theorem dX9_element_23 : decode cX9_element 23 = .ok (.lreturn, 1) := by decide +kernel
theorem dX9_element_7 : decode cX9_element 7 = .ok (.aload_n 0, 1) := by decide +kernel
theorem dX9_element_8 : decode cX9_element 8 = .ok (.getfield 67, 3) := by decide +kernel
theorem dX9_element_11 : decode cX9_element 11 = .ok (.iload_n 1, 1) := by decide +kernel
theorem dX9_element_12 : decode cX9_element 12 = .ok (.aaload, 1) := by decide +kernel
theorem dX9_element_13 : decode cX9_element 13 = .ok (.iload_n 2, 1) := by decide +kernel
theorem dX9_element_14 : decode cX9_element 14 = .ok (.invokevirtual 356, 3) := by decide +kernel
theorem dX9_element_17 : decode cX9_element 17 = .ok (.ifCond .eq 7, 3) := by decide +kernel
theorem dX9_element_24 : decode cX9_element 24 = .ok (.aload_n 0, 1) := by decide +kernel
theorem dX9_element_25 : decode cX9_element 25 = .ok (.getfield 67, 3) := by decide +kernel
theorem dX9_element_28 : decode cX9_element 28 = .ok (.iload_n 1, 1) := by decide +kernel
theorem dX9_element_29 : decode cX9_element 29 = .ok (.aaload, 1) := by decide +kernel
theorem dX9_element_30 : decode cX9_element 30 = .ok (.getfield 362, 3) := by decide +kernel
theorem dX9_element_33 : decode cX9_element 33 = .ok (.iload_n 2, 1) := by decide +kernel
theorem dX9_element_34 : decode cX9_element 34 = .ok (.laload, 1) := by decide +kernel
theorem dX9_element_35 : decode cX9_element 35 = .ok (.lreturn, 1) := by decide +kernel
theorem dX9_shift_0 : decode cX9_shift 0 = .ok (.iload_n 1, 1) := by decide +kernel
theorem dX9_shift_1 : decode cX9_shift 1 = .ok (.invokestatic 88, 3) := by decide +kernel
theorem dX9_shift_4 : decode cX9_shift 4 = .ok (.ifCond .eq 10, 3) := by decide +kernel
theorem dX9_shift_14 : decode cX9_shift 14 = .ok (.iconst (-1), 1) := by decide +kernel
theorem dX9_shift_15 : decode cX9_shift 15 = .ok (.ireturn, 1) := by decide +kernel
theorem dX9_shift_7 : decode cX9_shift 7 = .ok (.iload_n 3, 1) := by decide +kernel
theorem dX9_shift_8 : decode cX9_shift 8 = .ok (.invokestatic 88, 3) := by decide +kernel
theorem dX9_shift_11 : decode cX9_shift 11 = .ok (.ifCond .ne 5, 3) := by decide +kernel
theorem dX9_shift_16 : decode cX9_shift 16 = .ok (.aload_n 0, 1) := by decide +kernel
theorem dX9_shift_17 : decode cX9_shift 17 = .ok (.getfield 67, 3) := by decide +kernel
theorem dX9_shift_20 : decode cX9_shift 20 = .ok (.iload_n 1, 1) := by decide +kernel
theorem dX9_shift_21 : decode cX9_shift 21 = .ok (.aaload, 1) := by decide +kernel
theorem dX9_shift_22 : decode cX9_shift 22 = .ok (.astore 6, 2) := by decide +kernel
theorem dX9_shift_24 : decode cX9_shift 24 = .ok (.aload_n 0, 1) := by decide +kernel
theorem dX9_shift_25 : decode cX9_shift 25 = .ok (.getfield 67, 3) := by decide +kernel
theorem dX9_shift_28 : decode cX9_shift 28 = .ok (.iload_n 3, 1) := by decide +kernel
theorem dX9_shift_29 : decode cX9_shift 29 = .ok (.aaload, 1) := by decide +kernel
theorem dX9_shift_30 : decode cX9_shift 30 = .ok (.astore 7, 2) := by decide +kernel
theorem dX9_shift_32 : decode cX9_shift 32 = .ok (.aload 6, 2) := by decide +kernel
theorem dX9_shift_34 : decode cX9_shift 34 = .ok (.invokevirtual 91, 3) := by decide +kernel
theorem dX9_shift_37 : decode cX9_shift 37 = .ok (.ifCond .ne 11, 3) := by decide +kernel
theorem dX9_shift_48 : decode cX9_shift 48 = .ok (.bipush (-11), 2) := by decide +kernel
theorem dX9_shift_50 : decode cX9_shift 50 = .ok (.ireturn, 1) := by decide +kernel
theorem dX9_shift_40 : decode cX9_shift 40 = .ok (.aload 7, 2) := by decide +kernel
theorem dX9_shift_42 : decode cX9_shift 42 = .ok (.invokevirtual 91, 3) := by decide +kernel
theorem dX9_shift_45 : decode cX9_shift 45 = .ok (.ifCond .eq 6, 3) := by decide +kernel
theorem dX9_shift_51 : decode cX9_shift 51 = .ok (.aload 6, 2) := by decide +kernel
theorem dX9_shift_53 : decode cX9_shift 53 = .ok (.invokevirtual 366, 3) := by decide +kernel
theorem dX9_shift_56 : decode cX9_shift 56 = .ok (.ifCond .eq 24, 3) := by decide +kernel
theorem dX9_shift_80 : decode cX9_shift 80 = .ok (.bipush (-12), 2) := by decide +kernel
theorem dX9_shift_82 : decode cX9_shift 82 = .ok (.ireturn, 1) := by decide +kernel
theorem dX9_shift_59 : decode cX9_shift 59 = .ok (.aload 7, 2) := by decide +kernel
theorem dX9_shift_61 : decode cX9_shift 61 = .ok (.invokevirtual 366, 3) := by decide +kernel
theorem dX9_shift_64 : decode cX9_shift 64 = .ok (.ifCond .eq 16, 3) := by decide +kernel
theorem dX9_shift_67 : decode cX9_shift 67 = .ok (.aload 6, 2) := by decide +kernel
theorem dX9_shift_69 : decode cX9_shift 69 = .ok (.getfield 369, 3) := by decide +kernel
theorem dX9_shift_72 : decode cX9_shift 72 = .ok (.aload 7, 2) := by decide +kernel
theorem dX9_shift_74 : decode cX9_shift 74 = .ok (.getfield 369, 3) := by decide +kernel
theorem dX9_shift_77 : decode cX9_shift 77 = .ok (.if_icmp .eq 6, 3) := by decide +kernel
theorem dX9_shift_83 : decode cX9_shift 83 = .ok (.aload 6, 2) := by decide +kernel
theorem dX9_shift_85 : decode cX9_shift 85 = .ok (.iload_n 2, 1) := by decide +kernel
theorem dX9_shift_86 : decode cX9_shift 86 = .ok (.iload 5, 2) := by decide +kernel
theorem dX9_shift_88 : decode cX9_shift 88 = .ok (.invokevirtual 372, 3) := by decide +kernel
theorem dX9_shift_91 : decode cX9_shift 91 = .ok (.ifCond .eq 15, 3) := by decide +kernel
theorem dX9_shift_106 : decode cX9_shift 106 = .ok (.bipush (-13), 2) := by decide +kernel
theorem dX9_shift_108 : decode cX9_shift 108 = .ok (.ireturn, 1) := by decide +kernel
theorem dX9_shift_94 : decode cX9_shift 94 = .ok (.aload 7, 2) := by decide +kernel
theorem dX9_shift_96 : decode cX9_shift 96 = .ok (.iload 4, 2) := by decide +kernel
theorem dX9_shift_98 : decode cX9_shift 98 = .ok (.iload 5, 2) := by decide +kernel
theorem dX9_shift_100 : decode cX9_shift 100 = .ok (.invokevirtual 372, 3) := by decide +kernel
theorem dX9_shift_103 : decode cX9_shift 103 = .ok (.ifCond .ne 6, 3) := by decide +kernel
theorem dX9_shift_109 : decode cX9_shift 109 = .ok (.aload 6, 2) := by decide +kernel
theorem dX9_shift_111 : decode cX9_shift 111 = .ok (.getfield 362, 3) := by decide +kernel
theorem dX9_shift_114 : decode cX9_shift 114 = .ok (.iload_n 2, 1) := by decide +kernel
theorem dX9_shift_115 : decode cX9_shift 115 = .ok (.aload 7, 2) := by decide +kernel
theorem dX9_shift_117 : decode cX9_shift 117 = .ok (.getfield 362, 3) := by decide +kernel
theorem dX9_shift_120 : decode cX9_shift 120 = .ok (.iload 4, 2) := by decide +kernel
theorem dX9_shift_122 : decode cX9_shift 122 = .ok (.iload 5, 2) := by decide +kernel
theorem dX9_shift_124 : decode cX9_shift 124 = .ok (.invokestatic 375, 3) := by decide +kernel
theorem dX9_shift_127 : decode cX9_shift 127 = .ok (.iload 5, 2) := by decide +kernel
theorem dX9_shift_129 : decode cX9_shift 129 = .ok (.ireturn, 1) := by decide +kernel
theorem dX9_taken_0 : decode cX9_taken 0 = .ok (.iload_n 1, 1) := by decide +kernel
theorem dX9_taken_1 : decode cX9_taken 1 = .ok (.invokestatic 88, 3) := by decide +kernel
theorem dX9_taken_4 : decode cX9_taken 4 = .ok (.ifCond .eq 10, 3) := by decide +kernel
theorem dX9_taken_14 : decode cX9_taken 14 = .ok (.iconst (-1), 1) := by decide +kernel
theorem dX9_taken_15 : decode cX9_taken 15 = .ok (.ireturn, 1) := by decide +kernel
theorem dX9_taken_7 : decode cX9_taken 7 = .ok (.iload_n 2, 1) := by decide +kernel
theorem dX9_taken_8 : decode cX9_taken 8 = .ok (.invokestatic 327, 3) := by decide +kernel
theorem dX9_taken_11 : decode cX9_taken 11 = .ok (.ifCond .ne 5, 3) := by decide +kernel
theorem dX9_taken_16 : decode cX9_taken 16 = .ok (.aload_n 0, 1) := by decide +kernel
theorem dX9_taken_17 : decode cX9_taken 17 = .ok (.getfield 67, 3) := by decide +kernel
theorem dX9_taken_20 : decode cX9_taken 20 = .ok (.iload_n 1, 1) := by decide +kernel
theorem dX9_taken_21 : decode cX9_taken 21 = .ok (.aaload, 1) := by decide +kernel
theorem dX9_taken_22 : decode cX9_taken 22 = .ok (.astore_n 3, 1) := by decide +kernel
theorem dX9_taken_23 : decode cX9_taken 23 = .ok (.aload_n 3, 1) := by decide +kernel
theorem dX9_taken_24 : decode cX9_taken 24 = .ok (.invokevirtual 91, 3) := by decide +kernel
theorem dX9_taken_27 : decode cX9_taken 27 = .ok (.ifCond .eq 6, 3) := by decide +kernel
theorem dX9_taken_33 : decode cX9_taken 33 = .ok (.aload_n 3, 1) := by decide +kernel
theorem dX9_taken_34 : decode cX9_taken 34 = .ok (.invokevirtual 381, 3) := by decide +kernel
theorem dX9_taken_37 : decode cX9_taken 37 = .ok (.ifCond .eq 17, 3) := by decide +kernel
theorem dX9_taken_54 : decode cX9_taken 54 = .ok (.bipush (-12), 2) := by decide +kernel
theorem dX9_taken_56 : decode cX9_taken 56 = .ok (.ireturn, 1) := by decide +kernel
theorem dX9_taken_40 : decode cX9_taken 40 = .ok (.aload_n 0, 1) := by decide +kernel
theorem dX9_taken_41 : decode cX9_taken 41 = .ok (.getfield 61, 3) := by decide +kernel
theorem dX9_taken_44 : decode cX9_taken 44 = .ok (.aload_n 3, 1) := by decide +kernel
theorem dX9_taken_45 : decode cX9_taken 45 = .ok (.getfield 384, 3) := by decide +kernel
theorem dX9_taken_48 : decode cX9_taken 48 = .ok (.invokevirtual 337, 3) := by decide +kernel
theorem dX9_taken_51 : decode cX9_taken 51 = .ok (.ifCond .ne 6, 3) := by decide +kernel
theorem dX9_taken_57 : decode cX9_taken 57 = .ok (.aload_n 0, 1) := by decide +kernel
theorem dX9_taken_58 : decode cX9_taken 58 = .ok (.getfield 61, 3) := by decide +kernel
theorem dX9_taken_61 : decode cX9_taken 61 = .ok (.getfield 387, 3) := by decide +kernel
theorem dX9_taken_64 : decode cX9_taken 64 = .ok (.aload_n 3, 1) := by decide +kernel
theorem dX9_taken_65 : decode cX9_taken 65 = .ok (.getfield 384, 3) := by decide +kernel
theorem dX9_taken_68 : decode cX9_taken 68 = .ok (.iaload, 1) := by decide +kernel
theorem dX9_taken_69 : decode cX9_taken 69 = .ok (.istore 4, 2) := by decide +kernel
theorem dX9_taken_71 : decode cX9_taken 71 = .ok (.iload 4, 2) := by decide +kernel
theorem dX9_taken_73 : decode cX9_taken 73 = .ok (.iload_n 2, 1) := by decide +kernel
theorem dX9_taken_74 : decode cX9_taken 74 = .ok (.invokestatic 390, 3) := by decide +kernel
theorem dX9_taken_77 : decode cX9_taken 77 = .ok (.ifCond .eq 8, 3) := by decide +kernel
theorem dX9_taken_85 : decode cX9_taken 85 = .ok (.bipush (-12), 2) := by decide +kernel
theorem dX9_taken_87 : decode cX9_taken 87 = .ok (.ireturn, 1) := by decide +kernel
theorem dX9_taken_80 : decode cX9_taken 80 = .ok (.iload 4, 2) := by decide +kernel
theorem dX9_taken_82 : decode cX9_taken 82 = .ok (.goto 5, 3) := by decide +kernel
theorem dX9_taken_30 : decode cX9_taken 30 = .ok (.bipush (-11), 2) := by decide +kernel
theorem dX9_taken_32 : decode cX9_taken 32 = .ok (.ireturn, 1) := by decide +kernel
theorem dX9_count_0 : decode cX9_count 0 = .ok (.iload_n 1, 1) := by decide +kernel
theorem dX9_count_1 : decode cX9_count 1 = .ok (.tableswitch 87 0 5 #[39, 47, 55, 63, 71, 79], 39) := by decide +kernel
theorem dX9_count_40 : decode cX9_count 40 = .ok (.aload_n 0, 1) := by decide +kernel
theorem dX9_count_41 : decode cX9_count 41 = .ok (.getfield 28, 3) := by decide +kernel
theorem dX9_count_44 : decode cX9_count 44 = .ok (.getfield 218, 3) := by decide +kernel
theorem dX9_count_47 : decode cX9_count 47 = .ok (.ireturn, 1) := by decide +kernel
theorem dX9_count_48 : decode cX9_count 48 = .ok (.aload_n 0, 1) := by decide +kernel
theorem dX9_count_49 : decode cX9_count 49 = .ok (.getfield 28, 3) := by decide +kernel
theorem dX9_count_52 : decode cX9_count 52 = .ok (.invokevirtual 164, 3) := by decide +kernel
theorem dX9_count_55 : decode cX9_count 55 = .ok (.ireturn, 1) := by decide +kernel
theorem dX9_count_56 : decode cX9_count 56 = .ok (.aload_n 0, 1) := by decide +kernel
theorem dX9_count_57 : decode cX9_count 57 = .ok (.getfield 19, 3) := by decide +kernel
theorem dX9_count_60 : decode cX9_count 60 = .ok (.getfield 147, 3) := by decide +kernel
theorem dX9_count_63 : decode cX9_count 63 = .ok (.ireturn, 1) := by decide +kernel
theorem dX9_count_64 : decode cX9_count 64 = .ok (.aload_n 0, 1) := by decide +kernel
theorem dX9_count_65 : decode cX9_count 65 = .ok (.getfield 54, 3) := by decide +kernel
theorem dX9_count_68 : decode cX9_count 68 = .ok (.getfield 309, 3) := by decide +kernel
theorem dX9_count_71 : decode cX9_count 71 = .ok (.ireturn, 1) := by decide +kernel
theorem dX9_count_72 : decode cX9_count 72 = .ok (.aload_n 0, 1) := by decide +kernel
theorem dX9_count_73 : decode cX9_count 73 = .ok (.getfield 61, 3) := by decide +kernel
theorem dX9_count_76 : decode cX9_count 76 = .ok (.getfield 393, 3) := by decide +kernel
theorem dX9_count_79 : decode cX9_count 79 = .ok (.ireturn, 1) := by decide +kernel
theorem dX9_count_80 : decode cX9_count 80 = .ok (.aload_n 0, 1) := by decide +kernel
theorem dX9_count_81 : decode cX9_count 81 = .ok (.getfield 61, 3) := by decide +kernel
theorem dX9_count_84 : decode cX9_count 84 = .ok (.getfield 334, 3) := by decide +kernel
theorem dX9_count_87 : decode cX9_count 87 = .ok (.ireturn, 1) := by decide +kernel
theorem dX9_count_88 : decode cX9_count 88 = .ok (.iconst (-1), 1) := by decide +kernel
theorem dX9_count_89 : decode cX9_count 89 = .ok (.ireturn, 1) := by decide +kernel
set_option maxRecDepth 100000 in
set_option maxHeartbeats 4000000 in
theorem g_X9_beatFor (w : Int32) {l : Launch} {G : xG} {M : xM} {J : xJ} (hI : InvC M) : x_M l G fX9_beatFor 7 0 0 [.ref (0), .int (w)] x_SH M J (qKI WTH M J (fun r M2 => InvC M2)) := by
  refine xb_of pX9 (Nat.le_of_ble_eq_true rfl) rfl ?_
  obtain ⟨⟨cn, h_cn, e_cn⟩, ⟨cm, h_cm, e_cm⟩, ⟨L, h_L, e_L⟩, hv, hD, ⟨n, h_n, e_n⟩, ⟨un, wn, h_uw, h_wn, e_un, e_wn⟩, ⟨b, h_b, e_b⟩, hkd, ⟨ra, h_ra, e_ra⟩, hsl, hS⟩ := hI
  refine xr_iload_n dX9_beatFor_0 1 rfl ?_
  refine xr_if_lt (tgt := 9) dX9_beatFor_1 rfl (fun c1 => ?_) (fun c1 => ?_)
  · refine xr_iconst (v := -1) dX9_beatFor_9 rfl ?_
    exact xr_iret dX9_beatFor_10 rfl rfl (⟨_, rfl, rfl, rfl, Ke.rf, ⟨⟨cn, by omega, e_cn⟩, ⟨cm, by omega, e_cm⟩, ⟨L, by omega, e_L⟩, (fun kk hkk => by rw [show M 3 kk = M 3 kk from rfl]; exact hv kk hkk), hD, ⟨n, by omega, e_n⟩, ⟨un, wn, by omega, by omega, e_un, e_wn⟩, ⟨b, by omega, e_b⟩, (fun j hj => by obtain ⟨q, hq, eq⟩ := hkd j hj; exact ⟨q, hq, (show M 47 j = M 47 j from rfl).trans eq⟩), ⟨ra, by omega, e_ra⟩, (fun j hj => by obtain ⟨s, hs, es⟩ := hsl j hj; exact ⟨s, hs, (show M (50 + 2 * j) 3 = M (50 + 2 * j) 3 from rfl).trans es⟩), (fun j hj => by obtain ⟨q, hq, eq⟩ := hS j hj; exact ⟨q, hq, (show M 36 j = M 36 j from rfl).trans eq⟩)⟩⟩)
  · refine xr_iload_n dX9_beatFor_4 1 rfl ?_
    refine xr_iconst (v := 1) dX9_beatFor_5 rfl ?_
    refine xr_icmp_le (tgt := 11) dX9_beatFor_6 rfl (fun c2 => ?_) (fun c2 => ?_)
    · refine xr_iconst (v := -1) dX9_beatFor_11 rfl ?_
      refine xr_istore_n (ls2 := [(2, .int ((-1))), (0, .ref (0)), (1, .int (w))]) dX9_beatFor_12 (by decide) rfl ?_
      refine xr_iconst (v := 0) dX9_beatFor_13 rfl ?_
      refine xr_istore_n (ls2 := [(3, .int (0)), (2, .int ((-1))), (0, .ref (0)), (1, .int (w))]) dX9_beatFor_14 (by decide) rfl ?_
      refine xr_iconst (v := 2) dX9_beatFor_15 rfl ?_
      refine xr_istore (ls2 := [(4, .int (2)), (3, .int (0)), (2, .int ((-1))), (0, .ref (0)), (1, .int (w))]) dX9_beatFor_16 (by decide) rfl ?_
      refine xb_ls (ls2 := [(4, .int (nI (2))), (3, .int (0)), (2, .int ((-1))), (1, .int (w)), (0, .ref (0))]) [0, 1, 2, 4, 3] rfl ?_
      refine bf_o (fun k hk => by have h3 := (show M 3 k = M 3 k from rfl); rw [h3]; exact hv k hk) (by omega) e_L (by omega) e_cn (fun q3 q4 M5 k6 => ?_) (25 - 2) 2 0 (-1) M (by omega) Ke.rf
      refine xr_iload_n dX9_beatFor_119 2 rfl ?_
      refine xr_if_ne (tgt := 127) dX9_beatFor_120 rfl (fun c7 => ?_) (fun c7 => ?_)
      · refine xr_iload_n dX9_beatFor_127 1 rfl ?_
        exact xr_iret dX9_beatFor_128 rfl rfl (⟨_, rfl, rfl, rfl, (Ke.tr (fun _ _ h => h) Ke.rf k6), ⟨⟨cn, by omega, (Eq.trans (k6 13 2 (by decide)) e_cn)⟩, ⟨cm, by omega, (Eq.trans (k6 20 2 (by decide)) e_cm)⟩, ⟨L, by omega, (Eq.trans (k6 1 4 (by decide)) e_L)⟩, (fun kk hkk => by rw [show M5 3 kk = M 3 kk from (Eq.trans (k6 3 kk (by unfold WTH; omega)) rfl)]; exact hv kk hkk), (DI_ke (by intro k; unfold WTH; omega) k6 hD), ⟨n, by omega, (Eq.trans (k6 6 2 (by decide)) e_n)⟩, ⟨un, wn, by omega, by omega, (Eq.trans (k6 41 4 (by decide)) e_un), (Eq.trans (k6 41 5 (by decide)) e_wn)⟩, ⟨b, by omega, (Eq.trans (k6 46 2 (by decide)) e_b)⟩, (fun j hj => by obtain ⟨q, hq, eq⟩ := hkd j hj; exact ⟨q, hq, (show M5 47 j = M 47 j from (Eq.trans (k6 47 j (by unfold WTH; omega)) rfl)).trans eq⟩), ⟨ra, by omega, (Eq.trans (k6 46 3 (by decide)) e_ra)⟩, (fun j hj => by obtain ⟨s, hs, es⟩ := hsl j hj; exact ⟨s, hs, (show M5 (50 + 2 * j) 3 = M (50 + 2 * j) 3 from (Eq.trans (k6 (50 + 2 * j) 3 (by unfold WTH; omega)) rfl)).trans es⟩), (fun j hj => by obtain ⟨q, hq, eq⟩ := hS j hj; exact ⟨q, hq, (show M5 36 j = M 36 j from (Eq.trans (k6 36 j (by unfold WTH; omega)) rfl)).trans eq⟩)⟩⟩)
      · refine xr_iload_n dX9_beatFor_123 0 rfl ?_
        refine xr_goto (tgt := 128) dX9_beatFor_124 rfl ?_
        exact xr_iret dX9_beatFor_128 rfl rfl (⟨_, rfl, rfl, rfl, (Ke.tr (fun _ _ h => h) Ke.rf k6), ⟨⟨cn, by omega, (Eq.trans (k6 13 2 (by decide)) e_cn)⟩, ⟨cm, by omega, (Eq.trans (k6 20 2 (by decide)) e_cm)⟩, ⟨L, by omega, (Eq.trans (k6 1 4 (by decide)) e_L)⟩, (fun kk hkk => by rw [show M5 3 kk = M 3 kk from (Eq.trans (k6 3 kk (by unfold WTH; omega)) rfl)]; exact hv kk hkk), (DI_ke (by intro k; unfold WTH; omega) k6 hD), ⟨n, by omega, (Eq.trans (k6 6 2 (by decide)) e_n)⟩, ⟨un, wn, by omega, by omega, (Eq.trans (k6 41 4 (by decide)) e_un), (Eq.trans (k6 41 5 (by decide)) e_wn)⟩, ⟨b, by omega, (Eq.trans (k6 46 2 (by decide)) e_b)⟩, (fun j hj => by obtain ⟨q, hq, eq⟩ := hkd j hj; exact ⟨q, hq, (show M5 47 j = M 47 j from (Eq.trans (k6 47 j (by unfold WTH; omega)) rfl)).trans eq⟩), ⟨ra, by omega, (Eq.trans (k6 46 3 (by decide)) e_ra)⟩, (fun j hj => by obtain ⟨s, hs, es⟩ := hsl j hj; exact ⟨s, hs, (show M5 (50 + 2 * j) 3 = M (50 + 2 * j) 3 from (Eq.trans (k6 (50 + 2 * j) 3 (by unfold WTH; omega)) rfl)).trans es⟩), (fun j hj => by obtain ⟨q, hq, eq⟩ := hS j hj; exact ⟨q, hq, (show M5 36 j = M 36 j from (Eq.trans (k6 36 j (by unfold WTH; omega)) rfl)).trans eq⟩)⟩⟩)
    · refine xr_iconst (v := -1) dX9_beatFor_9 rfl ?_
      exact xr_iret dX9_beatFor_10 rfl rfl (⟨_, rfl, rfl, rfl, Ke.rf, ⟨⟨cn, by omega, e_cn⟩, ⟨cm, by omega, e_cm⟩, ⟨L, by omega, e_L⟩, (fun kk hkk => by rw [show M 3 kk = M 3 kk from rfl]; exact hv kk hkk), hD, ⟨n, by omega, e_n⟩, ⟨un, wn, by omega, by omega, e_un, e_wn⟩, ⟨b, by omega, e_b⟩, (fun j hj => by obtain ⟨q, hq, eq⟩ := hkd j hj; exact ⟨q, hq, (show M 47 j = M 47 j from rfl).trans eq⟩), ⟨ra, by omega, e_ra⟩, (fun j hj => by obtain ⟨s, hs, es⟩ := hsl j hj; exact ⟨s, hs, (show M (50 + 2 * j) 3 = M (50 + 2 * j) 3 from rfl).trans es⟩), (fun j hj => by obtain ⟨q, hq, eq⟩ := hS j hj; exact ⟨q, hq, (show M 36 j = M 36 j from rfl).trans eq⟩)⟩⟩)
set_option maxRecDepth 100000 in
set_option maxHeartbeats 4000000 in
theorem g_X9_leastPush (nn : Int32) {l : Launch} {G : xG} {M : xM} {J : xJ} (hI : InvC M) : x_M l G fX9_leastPush 7 0 0 [.ref (0), .int (nn)] x_SH M J (qKI WTH M J (fun r M2 => InvC M2)) := by
  refine xb_of pX9 (Nat.le_of_ble_eq_true rfl) rfl ?_
  obtain ⟨⟨cn, h_cn, e_cn⟩, ⟨cm, h_cm, e_cm⟩, ⟨L, h_L, e_L⟩, hv, hD, ⟨n, h_n, e_n⟩, ⟨un, wn, h_uw, h_wn, e_un, e_wn⟩, ⟨b, h_b, e_b⟩, hkd, ⟨ra, h_ra, e_ra⟩, hsl, hS⟩ := hI
  refine xr_iload_n dX9_leastPush_0 1 rfl ?_
  refine xr_iconst (v := 1) dX9_leastPush_1 rfl ?_
  refine xr_icmp_lt (tgt := 12) dX9_leastPush_2 rfl (fun c1 => ?_) (fun c1 => ?_)
  · refine xr_iconst (v := -1) dX9_leastPush_12 rfl ?_
    exact xr_iret dX9_leastPush_13 rfl rfl (⟨_, rfl, rfl, rfl, Ke.rf, ⟨⟨cn, by omega, e_cn⟩, ⟨cm, by omega, e_cm⟩, ⟨L, by omega, e_L⟩, (fun kk hkk => by rw [show M 3 kk = M 3 kk from rfl]; exact hv kk hkk), hD, ⟨n, by omega, e_n⟩, ⟨un, wn, by omega, by omega, e_un, e_wn⟩, ⟨b, by omega, e_b⟩, (fun j hj => by obtain ⟨q, hq, eq⟩ := hkd j hj; exact ⟨q, hq, (show M 47 j = M 47 j from rfl).trans eq⟩), ⟨ra, by omega, e_ra⟩, (fun j hj => by obtain ⟨s, hs, es⟩ := hsl j hj; exact ⟨s, hs, (show M (50 + 2 * j) 3 = M (50 + 2 * j) 3 from rfl).trans es⟩), (fun j hj => by obtain ⟨q, hq, eq⟩ := hS j hj; exact ⟨q, hq, (show M 36 j = M 36 j from rfl).trans eq⟩)⟩⟩)
  · refine xr_iload_n dX9_leastPush_5 1 rfl ?_
    refine xr_sipush (v := 200) dX9_leastPush_6 rfl ?_
    refine xr_icmp_le (tgt := 14) dX9_leastPush_9 rfl (fun c2 => ?_) (fun c2 => ?_)
    · refine xr_iconst (v := 0) dX9_leastPush_14 rfl ?_
      refine xr_istore_n (ls2 := [(2, .int (0)), (0, .ref (0)), (1, .int (nn))]) dX9_leastPush_15 (by decide) rfl ?_
      refine xb_ls (ls2 := [(2, .int (nI (0))), (1, .int (nn)), (0, .ref (0))]) [0, 2, 1] rfl ?_
      refine lp_l (fun k hk => by have h3 := (show M 3 k = M 3 k from rfl); rw [h3]; exact hv k hk) (by omega) e_L (by omega) e_cn (fun M3 k4 => ?_) (fun r M2 hk => ⟨_, rfl, rfl, rfl, Ke.tr (fun _ _ h => h) Ke.rf hk, ⟨⟨cn, by omega, (Eq.trans (hk 13 2 (by decide)) e_cn)⟩, ⟨cm, by omega, (Eq.trans (hk 20 2 (by decide)) e_cm)⟩, ⟨L, by omega, (Eq.trans (hk 1 4 (by decide)) e_L)⟩, (fun kk hkk => by rw [show M2 3 kk = M 3 kk from (Eq.trans (hk 3 kk (by unfold WTH; omega)) rfl)]; exact hv kk hkk), (DI_ke (by intro k; unfold WTH; omega) hk hD), ⟨n, by omega, (Eq.trans (hk 6 2 (by decide)) e_n)⟩, ⟨un, wn, by omega, by omega, (Eq.trans (hk 41 4 (by decide)) e_un), (Eq.trans (hk 41 5 (by decide)) e_wn)⟩, ⟨b, by omega, (Eq.trans (hk 46 2 (by decide)) e_b)⟩, (fun j hj => by obtain ⟨q, hq, eq⟩ := hkd j hj; exact ⟨q, hq, (show M2 47 j = M 47 j from (Eq.trans (hk 47 j (by unfold WTH; omega)) rfl)).trans eq⟩), ⟨ra, by omega, (Eq.trans (hk 46 3 (by decide)) e_ra)⟩, (fun j hj => by obtain ⟨s, hs, es⟩ := hsl j hj; exact ⟨s, hs, (show M2 (50 + 2 * j) 3 = M (50 + 2 * j) 3 from (Eq.trans (hk (50 + 2 * j) 3 (by unfold WTH; omega)) rfl)).trans es⟩), (fun j hj => by obtain ⟨q, hq, eq⟩ := hS j hj; exact ⟨q, hq, (show M2 36 j = M 36 j from (Eq.trans (hk 36 j (by unfold WTH; omega)) rfl)).trans eq⟩)⟩⟩) (6 - 0) 0 M (by omega) Ke.rf
      refine xr_bipush (v := -2) dX9_leastPush_58 rfl ?_
      exact xr_iret dX9_leastPush_60 rfl rfl (⟨_, rfl, rfl, rfl, (Ke.tr (fun _ _ h => h) Ke.rf k4), ⟨⟨cn, by omega, (Eq.trans (k4 13 2 (by decide)) e_cn)⟩, ⟨cm, by omega, (Eq.trans (k4 20 2 (by decide)) e_cm)⟩, ⟨L, by omega, (Eq.trans (k4 1 4 (by decide)) e_L)⟩, (fun kk hkk => by rw [show M3 3 kk = M 3 kk from (Eq.trans (k4 3 kk (by unfold WTH; omega)) rfl)]; exact hv kk hkk), (DI_ke (by intro k; unfold WTH; omega) k4 hD), ⟨n, by omega, (Eq.trans (k4 6 2 (by decide)) e_n)⟩, ⟨un, wn, by omega, by omega, (Eq.trans (k4 41 4 (by decide)) e_un), (Eq.trans (k4 41 5 (by decide)) e_wn)⟩, ⟨b, by omega, (Eq.trans (k4 46 2 (by decide)) e_b)⟩, (fun j hj => by obtain ⟨q, hq, eq⟩ := hkd j hj; exact ⟨q, hq, (show M3 47 j = M 47 j from (Eq.trans (k4 47 j (by unfold WTH; omega)) rfl)).trans eq⟩), ⟨ra, by omega, (Eq.trans (k4 46 3 (by decide)) e_ra)⟩, (fun j hj => by obtain ⟨s, hs, es⟩ := hsl j hj; exact ⟨s, hs, (show M3 (50 + 2 * j) 3 = M (50 + 2 * j) 3 from (Eq.trans (k4 (50 + 2 * j) 3 (by unfold WTH; omega)) rfl)).trans es⟩), (fun j hj => by obtain ⟨q, hq, eq⟩ := hS j hj; exact ⟨q, hq, (show M3 36 j = M 36 j from (Eq.trans (k4 36 j (by unfold WTH; omega)) rfl)).trans eq⟩)⟩⟩)
    · refine xr_iconst (v := -1) dX9_leastPush_12 rfl ?_
      exact xr_iret dX9_leastPush_13 rfl rfl (⟨_, rfl, rfl, rfl, Ke.rf, ⟨⟨cn, by omega, e_cn⟩, ⟨cm, by omega, e_cm⟩, ⟨L, by omega, e_L⟩, (fun kk hkk => by rw [show M 3 kk = M 3 kk from rfl]; exact hv kk hkk), hD, ⟨n, by omega, e_n⟩, ⟨un, wn, by omega, by omega, e_un, e_wn⟩, ⟨b, by omega, e_b⟩, (fun j hj => by obtain ⟨q, hq, eq⟩ := hkd j hj; exact ⟨q, hq, (show M 47 j = M 47 j from rfl).trans eq⟩), ⟨ra, by omega, e_ra⟩, (fun j hj => by obtain ⟨s, hs, es⟩ := hsl j hj; exact ⟨s, hs, (show M (50 + 2 * j) 3 = M (50 + 2 * j) 3 from rfl).trans es⟩), (fun j hj => by obtain ⟨q, hq, eq⟩ := hS j hj; exact ⟨q, hq, (show M 36 j = M 36 j from rfl).trans eq⟩)⟩⟩)
set_option maxRecDepth 100000 in
set_option maxHeartbeats 4000000 in
theorem g_X9_mistake (m w : Int32) {l : Launch} {G : xG} {M : xM} {J : xJ} (hI : InvC M) : x_M l G fX9_mistake 7 0 0 [.ref (0), .int (m), .int (w)] x_SH M J (qKI WTH M J (fun r M2 => InvC M2)) := by
  refine xb_of pX9 (Nat.le_of_ble_eq_true rfl) rfl ?_
  obtain ⟨⟨cn, h_cn, e_cn⟩, ⟨cm, h_cm, e_cm⟩, ⟨L, h_L, e_L⟩, hv, hD, ⟨n, h_n, e_n⟩, ⟨un, wn, h_uw, h_wn, e_un, e_wn⟩, ⟨b, h_b, e_b⟩, hkd, ⟨ra, h_ra, e_ra⟩, hsl, hS⟩ := hI
  refine xr_iload_n dX9_mistake_0 1 rfl ?_
  refine xr_if_lt (tgt := 19) dX9_mistake_1 rfl (fun c1 => ?_) (fun c1 => ?_)
  · refine xr_iconst (v := -1) dX9_mistake_19 rfl ?_
    exact xr_iret dX9_mistake_20 rfl rfl (⟨_, rfl, rfl, rfl, Ke.rf, ⟨⟨cn, by omega, e_cn⟩, ⟨cm, by omega, e_cm⟩, ⟨L, by omega, e_L⟩, (fun kk hkk => by rw [show M 3 kk = M 3 kk from rfl]; exact hv kk hkk), hD, ⟨n, by omega, e_n⟩, ⟨un, wn, by omega, by omega, e_un, e_wn⟩, ⟨b, by omega, e_b⟩, (fun j hj => by obtain ⟨q, hq, eq⟩ := hkd j hj; exact ⟨q, hq, (show M 47 j = M 47 j from rfl).trans eq⟩), ⟨ra, by omega, e_ra⟩, (fun j hj => by obtain ⟨s, hs, es⟩ := hsl j hj; exact ⟨s, hs, (show M (50 + 2 * j) 3 = M (50 + 2 * j) 3 from rfl).trans es⟩), (fun j hj => by obtain ⟨q, hq, eq⟩ := hS j hj; exact ⟨q, hq, (show M 36 j = M 36 j from rfl).trans eq⟩)⟩⟩)
  · refine xr_iload_n dX9_mistake_4 1 rfl ?_
    refine xr_bipush (v := 40) dX9_mistake_5 rfl ?_
    refine xr_icmp_gt (tgt := 19) dX9_mistake_7 rfl (fun c2 => ?_) (fun c2 => ?_)
    · refine xr_iconst (v := -1) dX9_mistake_19 rfl ?_
      exact xr_iret dX9_mistake_20 rfl rfl (⟨_, rfl, rfl, rfl, Ke.rf, ⟨⟨cn, by omega, e_cn⟩, ⟨cm, by omega, e_cm⟩, ⟨L, by omega, e_L⟩, (fun kk hkk => by rw [show M 3 kk = M 3 kk from rfl]; exact hv kk hkk), hD, ⟨n, by omega, e_n⟩, ⟨un, wn, by omega, by omega, e_un, e_wn⟩, ⟨b, by omega, e_b⟩, (fun j hj => by obtain ⟨q, hq, eq⟩ := hkd j hj; exact ⟨q, hq, (show M 47 j = M 47 j from rfl).trans eq⟩), ⟨ra, by omega, e_ra⟩, (fun j hj => by obtain ⟨s, hs, es⟩ := hsl j hj; exact ⟨s, hs, (show M (50 + 2 * j) 3 = M (50 + 2 * j) 3 from rfl).trans es⟩), (fun j hj => by obtain ⟨q, hq, eq⟩ := hS j hj; exact ⟨q, hq, (show M 36 j = M 36 j from rfl).trans eq⟩)⟩⟩)
    · refine xr_iload_n dX9_mistake_10 2 rfl ?_
      refine xr_if_lt (tgt := 19) dX9_mistake_11 rfl (fun c3 => ?_) (fun c3 => ?_)
      · refine xr_iconst (v := -1) dX9_mistake_19 rfl ?_
        exact xr_iret dX9_mistake_20 rfl rfl (⟨_, rfl, rfl, rfl, Ke.rf, ⟨⟨cn, by omega, e_cn⟩, ⟨cm, by omega, e_cm⟩, ⟨L, by omega, e_L⟩, (fun kk hkk => by rw [show M 3 kk = M 3 kk from rfl]; exact hv kk hkk), hD, ⟨n, by omega, e_n⟩, ⟨un, wn, by omega, by omega, e_un, e_wn⟩, ⟨b, by omega, e_b⟩, (fun j hj => by obtain ⟨q, hq, eq⟩ := hkd j hj; exact ⟨q, hq, (show M 47 j = M 47 j from rfl).trans eq⟩), ⟨ra, by omega, e_ra⟩, (fun j hj => by obtain ⟨s, hs, es⟩ := hsl j hj; exact ⟨s, hs, (show M (50 + 2 * j) 3 = M (50 + 2 * j) 3 from rfl).trans es⟩), (fun j hj => by obtain ⟨q, hq, eq⟩ := hS j hj; exact ⟨q, hq, (show M 36 j = M 36 j from rfl).trans eq⟩)⟩⟩)
      · refine xr_iload_n dX9_mistake_14 2 rfl ?_
        refine xr_iconst (v := 1) dX9_mistake_15 rfl ?_
        refine xr_icmp_le (tgt := 21) dX9_mistake_16 rfl (fun c4 => ?_) (fun c4 => ?_)
        · refine xr_aload_n dX9_mistake_21 0 rfl ?_
          refine xr_getR flX9_40 dX9_mistake_22 s_0 rfl ?_
          refine xr_callV (As := []) (rest := []) mlX9_192 (g_X7_begin (by omega) e_cn) dX9_mistake_25 s_27 rfl rfl (Nat.le_of_ble_eq_true rfl) (by decide) ⟨by decide, by decide⟩ (fun v s2 M6 J2 hq => ?_)
          obtain ⟨rfl, rfl, rfl, k7, hx5⟩ := hq
          try dsimp only [Option.toList, List.cons_append, List.nil_append]
          refine xr_aload_n dX9_mistake_28 0 rfl ?_
          refine xr_getR flX9_40 dX9_mistake_29 s_0 rfl ?_
          refine xr_iload_n dX9_mistake_32 1 rfl ?_
          refine xr_callV (As := [.int (m)]) (rest := []) mlX9_211 (g_X7_leaveOut m) dX9_mistake_33 s_27 rfl rfl (Nat.le_of_ble_eq_true rfl) (by decide) ⟨by decide, by decide⟩ (fun v s2 M8 J2 hq => ?_)
          obtain ⟨rfl, rfl, rfl, k9, _⟩ := hq
          try dsimp only [Option.toList, List.cons_append, List.nil_append]
          refine xr_iload_n dX9_mistake_36 2 rfl ?_
          refine xr_if_ne (tgt := 50) dX9_mistake_37 rfl (fun c10 => ?_) (fun c10 => ?_)
          · refine xr_aload_n dX9_mistake_50 0 rfl ?_
            refine xr_getR flX9_40 dX9_mistake_51 s_0 rfl ?_
            refine xr_callV (As := []) (rest := []) mlX9_215 (g_X7_caughtAgain (fun k hk => by have h3 := (show M8 3 k = M 3 k from (Eq.trans (k9 3 k (by unfold W27; omega)) (Eq.trans (k7 3 k (by unfold WTB; omega)) rfl))); rw [h3]; exact hv k hk) (by omega) (Eq.trans (k9 1 4 (by decide)) (Eq.trans (k7 1 4 (by decide)) e_L)) (by omega) (Eq.trans (k9 28 2 (by decide)) hx5)) dX9_mistake_54 s_27 rfl rfl (Nat.le_of_ble_eq_true rfl) (by decide) ⟨by decide, by decide⟩ (fun v s2 M11 J2 hq => ?_)
            obtain ⟨r13, rfl, rfl, rfl, k12, _⟩ := hq
            try dsimp only [Option.toList, List.cons_append, List.nil_append]
            exact xr_iret dX9_mistake_57 rfl rfl (⟨_, rfl, rfl, rfl, (Ke.tr (fun pp kk => (fun hh => Or.elim hh (fun h => (Or.inl h)) (fun hh => Or.elim hh (fun h => (Or.inr (Or.inl h))) (fun hh => Or.elim hh (fun h => (Or.inr (Or.inr (Or.inl (by omega))))) (fun hh => Or.elim hh (fun h => (Or.inr (Or.inr (Or.inl (by omega))))) (fun h => (Or.inr (Or.inr (Or.inr h))))))))) (Ke.tr (fun pp kk h => (Or.inr (Or.inr (Or.inl (by omega))))) (Ke.tr (fun pp kk => (fun hh => Or.elim hh (fun h => (Or.inr (Or.inr (Or.inl h)))) (fun h => (Or.inr (Or.inr (Or.inr h)))))) Ke.rf k7) k9) k12), ⟨⟨cn, by omega, (Eq.trans (k12 13 2 (by decide)) (Eq.trans (k9 13 2 (by decide)) (Eq.trans (k7 13 2 (by decide)) e_cn)))⟩, ⟨cm, by omega, (Eq.trans (k12 20 2 (by decide)) (Eq.trans (k9 20 2 (by decide)) (Eq.trans (k7 20 2 (by decide)) e_cm)))⟩, ⟨L, by omega, (Eq.trans (k12 1 4 (by decide)) (Eq.trans (k9 1 4 (by decide)) (Eq.trans (k7 1 4 (by decide)) e_L)))⟩, (fun kk hkk => by rw [show M11 3 kk = M 3 kk from (Eq.trans (k12 3 kk (by unfold WS; omega)) (Eq.trans (k9 3 kk (by unfold W27; omega)) (Eq.trans (k7 3 kk (by unfold WTB; omega)) rfl)))]; exact hv kk hkk), (DI_ke (by intro k; unfold WS; omega) k12 (DI_ke (by intro k; unfold W27; omega) k9 (DI_ke (by intro k; unfold WTB; omega) k7 hD))), ⟨n, by omega, (Eq.trans (k12 6 2 (by decide)) (Eq.trans (k9 6 2 (by decide)) (Eq.trans (k7 6 2 (by decide)) e_n)))⟩, ⟨un, wn, by omega, by omega, (Eq.trans (k12 41 4 (by decide)) (Eq.trans (k9 41 4 (by decide)) (Eq.trans (k7 41 4 (by decide)) e_un))), (Eq.trans (k12 41 5 (by decide)) (Eq.trans (k9 41 5 (by decide)) (Eq.trans (k7 41 5 (by decide)) e_wn)))⟩, ⟨b, by omega, (Eq.trans (k12 46 2 (by decide)) (Eq.trans (k9 46 2 (by decide)) (Eq.trans (k7 46 2 (by decide)) e_b)))⟩, (fun j hj => by obtain ⟨q, hq, eq⟩ := hkd j hj; exact ⟨q, hq, (show M11 47 j = M 47 j from (Eq.trans (k12 47 j (by unfold WS; omega)) (Eq.trans (k9 47 j (by unfold W27; omega)) (Eq.trans (k7 47 j (by unfold WTB; omega)) rfl)))).trans eq⟩), ⟨ra, by omega, (Eq.trans (k12 46 3 (by decide)) (Eq.trans (k9 46 3 (by decide)) (Eq.trans (k7 46 3 (by decide)) e_ra)))⟩, (fun j hj => by obtain ⟨s, hs, es⟩ := hsl j hj; exact ⟨s, hs, (show M11 (50 + 2 * j) 3 = M (50 + 2 * j) 3 from (Eq.trans (k12 (50 + 2 * j) 3 (by unfold WS; omega)) (Eq.trans (k9 (50 + 2 * j) 3 (by unfold W27; omega)) (Eq.trans (k7 (50 + 2 * j) 3 (by unfold WTB; omega)) rfl)))).trans es⟩), (fun j hj => by obtain ⟨q, hq, eq⟩ := hS j hj; exact ⟨q, hq, (show M11 36 j = M 36 j from (Eq.trans (k12 36 j (by unfold WS; omega)) (Eq.trans (k9 36 j (by unfold W27; omega)) (Eq.trans (k7 36 j (by unfold WTB; omega)) rfl)))).trans eq⟩)⟩⟩)
          · refine xr_aload_n dX9_mistake_40 0 rfl ?_
            refine xr_getR flX9_40 dX9_mistake_41 s_0 rfl ?_
            refine xr_callV (As := []) (rest := []) mlX9_198 (g_X7_lasting (fun k hk => by have h3 := (show M8 3 k = M 3 k from (Eq.trans (k9 3 k (by unfold W27; omega)) (Eq.trans (k7 3 k (by unfold WTB; omega)) rfl))); rw [h3]; exact hv k hk) (by omega) (Eq.trans (k9 1 4 (by decide)) (Eq.trans (k7 1 4 (by decide)) e_L)) (by omega) (Eq.trans (k9 28 2 (by decide)) hx5)) dX9_mistake_44 s_27 rfl rfl (Nat.le_of_ble_eq_true rfl) (by decide) ⟨by decide, by decide⟩ (fun v s2 M14 J2 hq => ?_)
            obtain ⟨r16, rfl, rfl, rfl, k15, _⟩ := hq
            try dsimp only [Option.toList, List.cons_append, List.nil_append]
            refine xr_goto (tgt := 57) dX9_mistake_47 rfl ?_
            exact xr_iret dX9_mistake_57 rfl rfl (⟨_, rfl, rfl, rfl, (Ke.tr (fun pp kk => (fun hh => Or.elim hh (fun h => (Or.inl h)) (fun hh => Or.elim hh (fun h => (Or.inr (Or.inl h))) (fun hh => Or.elim hh (fun h => (Or.inr (Or.inr (Or.inl (by omega))))) (fun hh => Or.elim hh (fun h => (Or.inr (Or.inr (Or.inl (by omega))))) (fun h => (Or.inr (Or.inr (Or.inr h))))))))) (Ke.tr (fun pp kk h => (Or.inr (Or.inr (Or.inl (by omega))))) (Ke.tr (fun pp kk => (fun hh => Or.elim hh (fun h => (Or.inr (Or.inr (Or.inl h)))) (fun h => (Or.inr (Or.inr (Or.inr h)))))) Ke.rf k7) k9) k15), ⟨⟨cn, by omega, (Eq.trans (k15 13 2 (by decide)) (Eq.trans (k9 13 2 (by decide)) (Eq.trans (k7 13 2 (by decide)) e_cn)))⟩, ⟨cm, by omega, (Eq.trans (k15 20 2 (by decide)) (Eq.trans (k9 20 2 (by decide)) (Eq.trans (k7 20 2 (by decide)) e_cm)))⟩, ⟨L, by omega, (Eq.trans (k15 1 4 (by decide)) (Eq.trans (k9 1 4 (by decide)) (Eq.trans (k7 1 4 (by decide)) e_L)))⟩, (fun kk hkk => by rw [show M14 3 kk = M 3 kk from (Eq.trans (k15 3 kk (by unfold WS; omega)) (Eq.trans (k9 3 kk (by unfold W27; omega)) (Eq.trans (k7 3 kk (by unfold WTB; omega)) rfl)))]; exact hv kk hkk), (DI_ke (by intro k; unfold WS; omega) k15 (DI_ke (by intro k; unfold W27; omega) k9 (DI_ke (by intro k; unfold WTB; omega) k7 hD))), ⟨n, by omega, (Eq.trans (k15 6 2 (by decide)) (Eq.trans (k9 6 2 (by decide)) (Eq.trans (k7 6 2 (by decide)) e_n)))⟩, ⟨un, wn, by omega, by omega, (Eq.trans (k15 41 4 (by decide)) (Eq.trans (k9 41 4 (by decide)) (Eq.trans (k7 41 4 (by decide)) e_un))), (Eq.trans (k15 41 5 (by decide)) (Eq.trans (k9 41 5 (by decide)) (Eq.trans (k7 41 5 (by decide)) e_wn)))⟩, ⟨b, by omega, (Eq.trans (k15 46 2 (by decide)) (Eq.trans (k9 46 2 (by decide)) (Eq.trans (k7 46 2 (by decide)) e_b)))⟩, (fun j hj => by obtain ⟨q, hq, eq⟩ := hkd j hj; exact ⟨q, hq, (show M14 47 j = M 47 j from (Eq.trans (k15 47 j (by unfold WS; omega)) (Eq.trans (k9 47 j (by unfold W27; omega)) (Eq.trans (k7 47 j (by unfold WTB; omega)) rfl)))).trans eq⟩), ⟨ra, by omega, (Eq.trans (k15 46 3 (by decide)) (Eq.trans (k9 46 3 (by decide)) (Eq.trans (k7 46 3 (by decide)) e_ra)))⟩, (fun j hj => by obtain ⟨s, hs, es⟩ := hsl j hj; exact ⟨s, hs, (show M14 (50 + 2 * j) 3 = M (50 + 2 * j) 3 from (Eq.trans (k15 (50 + 2 * j) 3 (by unfold WS; omega)) (Eq.trans (k9 (50 + 2 * j) 3 (by unfold W27; omega)) (Eq.trans (k7 (50 + 2 * j) 3 (by unfold WTB; omega)) rfl)))).trans es⟩), (fun j hj => by obtain ⟨q, hq, eq⟩ := hS j hj; exact ⟨q, hq, (show M14 36 j = M 36 j from (Eq.trans (k15 36 j (by unfold WS; omega)) (Eq.trans (k9 36 j (by unfold W27; omega)) (Eq.trans (k7 36 j (by unfold WTB; omega)) rfl)))).trans eq⟩)⟩⟩)
        · refine xr_iconst (v := -1) dX9_mistake_19 rfl ?_
          exact xr_iret dX9_mistake_20 rfl rfl (⟨_, rfl, rfl, rfl, Ke.rf, ⟨⟨cn, by omega, e_cn⟩, ⟨cm, by omega, e_cm⟩, ⟨L, by omega, e_L⟩, (fun kk hkk => by rw [show M 3 kk = M 3 kk from rfl]; exact hv kk hkk), hD, ⟨n, by omega, e_n⟩, ⟨un, wn, by omega, by omega, e_un, e_wn⟩, ⟨b, by omega, e_b⟩, (fun j hj => by obtain ⟨q, hq, eq⟩ := hkd j hj; exact ⟨q, hq, (show M 47 j = M 47 j from rfl).trans eq⟩), ⟨ra, by omega, e_ra⟩, (fun j hj => by obtain ⟨s, hs, es⟩ := hsl j hj; exact ⟨s, hs, (show M (50 + 2 * j) 3 = M (50 + 2 * j) 3 from rfl).trans es⟩), (fun j hj => by obtain ⟨q, hq, eq⟩ := hS j hj; exact ⟨q, hq, (show M 36 j = M 36 j from rfl).trans eq⟩)⟩⟩)
set_option maxRecDepth 100000 in
set_option maxHeartbeats 4000000 in
theorem g_X9_held (nn : Int32) {l : Launch} {G : xG} {M : xM} {J : xJ} (hI : InvC M) : x_M l G fX9_held 7 0 0 [.ref (0), .int (nn)] x_SH M J (qKI WTH M J (fun r M2 => InvC M2)) := by
  refine xb_of pX9 (Nat.le_of_ble_eq_true rfl) rfl ?_
  obtain ⟨⟨cn, h_cn, e_cn⟩, ⟨cm, h_cm, e_cm⟩, ⟨L, h_L, e_L⟩, hv, hD, ⟨n, h_n, e_n⟩, ⟨un, wn, h_uw, h_wn, e_un, e_wn⟩, ⟨b, h_b, e_b⟩, hkd, ⟨ra, h_ra, e_ra⟩, hsl, hS⟩ := hI
  refine xr_iload_n dX9_held_0 1 rfl ?_
  refine xr_iconst (v := 1) dX9_held_1 rfl ?_
  refine xr_icmp_lt (tgt := 12) dX9_held_2 rfl (fun c1 => ?_) (fun c1 => ?_)
  · refine xr_iconst (v := -1) dX9_held_12 rfl ?_
    exact xr_iret dX9_held_13 rfl rfl (⟨_, rfl, rfl, rfl, Ke.rf, ⟨⟨cn, by omega, e_cn⟩, ⟨cm, by omega, e_cm⟩, ⟨L, by omega, e_L⟩, (fun kk hkk => by rw [show M 3 kk = M 3 kk from rfl]; exact hv kk hkk), hD, ⟨n, by omega, e_n⟩, ⟨un, wn, by omega, by omega, e_un, e_wn⟩, ⟨b, by omega, e_b⟩, (fun j hj => by obtain ⟨q, hq, eq⟩ := hkd j hj; exact ⟨q, hq, (show M 47 j = M 47 j from rfl).trans eq⟩), ⟨ra, by omega, e_ra⟩, (fun j hj => by obtain ⟨s, hs, es⟩ := hsl j hj; exact ⟨s, hs, (show M (50 + 2 * j) 3 = M (50 + 2 * j) 3 from rfl).trans es⟩), (fun j hj => by obtain ⟨q, hq, eq⟩ := hS j hj; exact ⟨q, hq, (show M 36 j = M 36 j from rfl).trans eq⟩)⟩⟩)
  · refine xr_iload_n dX9_held_5 1 rfl ?_
    refine xr_sipush (v := 200) dX9_held_6 rfl ?_
    refine xr_icmp_le (tgt := 14) dX9_held_9 rfl (fun c2 => ?_) (fun c2 => ?_)
    · refine xr_bipush (v := -2) dX9_held_14 rfl ?_
      refine xr_istore_n (ls2 := [(2, .int ((-2))), (0, .ref (0)), (1, .int (nn))]) dX9_held_16 (by decide) rfl ?_
      refine xr_iconst (v := 0) dX9_held_17 rfl ?_
      refine xr_istore_n (ls2 := [(3, .int (0)), (2, .int ((-2))), (0, .ref (0)), (1, .int (nn))]) dX9_held_18 (by decide) rfl ?_
      refine xr_iconst (v := 1) dX9_held_19 rfl ?_
      refine xr_istore (ls2 := [(4, .int (1)), (3, .int (0)), (2, .int ((-2))), (0, .ref (0)), (1, .int (nn))]) dX9_held_20 (by decide) rfl ?_
      refine xb_ls (ls2 := [(4, .int (nI (1))), (3, .int (0)), (2, .int ((-2))), (1, .int (nn)), (0, .ref (0))]) [0, 1, 2, 4, 3] rfl ?_
      obtain ⟨P, hP⟩ : ∃ P : Nat, P = 2 ^ cn := ⟨_, rfl⟩
      have hP2 := sx_p2 h_cn hP
      refine hd_l hP hP2.1 h_cn h_L e_L hv e_cn (fun r M2 hk => ⟨_, rfl, rfl, rfl, hk, ?_⟩) (P - 1) 1 _ _ M (by omega) Ke.rf
      exact ⟨⟨cn, by omega, (Eq.trans (hk 13 2 (by decide)) e_cn)⟩, ⟨cm, by omega, (Eq.trans (hk 20 2 (by decide)) e_cm)⟩, ⟨L, by omega, (Eq.trans (hk 1 4 (by decide)) e_L)⟩, (fun kk hkk => by rw [show M2 3 kk = M 3 kk from (Eq.trans (hk 3 kk (by unfold WTH; omega)) rfl)]; exact hv kk hkk), (DI_ke (by intro k; unfold WTH; omega) hk hD), ⟨n, by omega, (Eq.trans (hk 6 2 (by decide)) e_n)⟩, ⟨un, wn, by omega, by omega, (Eq.trans (hk 41 4 (by decide)) e_un), (Eq.trans (hk 41 5 (by decide)) e_wn)⟩, ⟨b, by omega, (Eq.trans (hk 46 2 (by decide)) e_b)⟩, (fun j hj => by obtain ⟨q, hq, eq⟩ := hkd j hj; exact ⟨q, hq, (show M2 47 j = M 47 j from (Eq.trans (hk 47 j (by unfold WTH; omega)) rfl)).trans eq⟩), ⟨ra, by omega, (Eq.trans (hk 46 3 (by decide)) e_ra)⟩, (fun j hj => by obtain ⟨s, hs, es⟩ := hsl j hj; exact ⟨s, hs, (show M2 (50 + 2 * j) 3 = M (50 + 2 * j) 3 from (Eq.trans (hk (50 + 2 * j) 3 (by unfold WTH; omega)) rfl)).trans es⟩), (fun j hj => by obtain ⟨q, hq, eq⟩ := hS j hj; exact ⟨q, hq, (show M2 36 j = M 36 j from (Eq.trans (hk 36 j (by unfold WTH; omega)) rfl)).trans eq⟩)⟩
    · refine xr_iconst (v := -1) dX9_held_12 rfl ?_
      exact xr_iret dX9_held_13 rfl rfl (⟨_, rfl, rfl, rfl, Ke.rf, ⟨⟨cn, by omega, e_cn⟩, ⟨cm, by omega, e_cm⟩, ⟨L, by omega, e_L⟩, (fun kk hkk => by rw [show M 3 kk = M 3 kk from rfl]; exact hv kk hkk), hD, ⟨n, by omega, e_n⟩, ⟨un, wn, by omega, by omega, e_un, e_wn⟩, ⟨b, by omega, e_b⟩, (fun j hj => by obtain ⟨q, hq, eq⟩ := hkd j hj; exact ⟨q, hq, (show M 47 j = M 47 j from rfl).trans eq⟩), ⟨ra, by omega, e_ra⟩, (fun j hj => by obtain ⟨s, hs, es⟩ := hsl j hj; exact ⟨s, hs, (show M (50 + 2 * j) 3 = M (50 + 2 * j) 3 from rfl).trans es⟩), (fun j hj => by obtain ⟨q, hq, eq⟩ := hS j hj; exact ⟨q, hq, (show M 36 j = M 36 j from rfl).trans eq⟩)⟩⟩)
set_option maxRecDepth 100000 in
set_option maxHeartbeats 4000000 in
theorem g_X9_rescue (h fp : Int32) {l : Launch} {G : xG} {M : xM} {J : xJ} (hI : InvC M) : x_M l G fX9_rescue 7 0 0 [.ref (0), .int (h), .int (fp)] x_SH M J (qKI WTH M J (fun r M2 => InvC M2)) := by
  refine xb_of pX9 (Nat.le_of_ble_eq_true rfl) rfl ?_
  obtain ⟨⟨cn, h_cn, e_cn⟩, ⟨cm, h_cm, e_cm⟩, ⟨L, h_L, e_L⟩, hv, hD, ⟨n, h_n, e_n⟩, ⟨un, wn, h_uw, h_wn, e_un, e_wn⟩, ⟨b, h_b, e_b⟩, hkd, ⟨ra, h_ra, e_ra⟩, hsl, hS⟩ := hI
  refine xr_iload_n dX9_rescue_0 2 rfl ?_
  refine xr_bipush (v := 100) dX9_rescue_1 rfl ?_
  refine xr_idiv dX9_rescue_3 (by decide) ?_
  refine xr_istore_n (ls2 := [(3, .int ((fp / 100))), (0, .ref (0)), (1, .int (h)), (2, .int (fp))]) dX9_rescue_4 (by decide) rfl ?_
  refine xr_iload_n dX9_rescue_5 3 rfl ?_
  refine xr_bipush (v := 100) dX9_rescue_6 rfl ?_
  refine xr_irem dX9_rescue_8 (by decide) ?_
  refine xr_istore (ls2 := [(4, .int ((fp - fp / 100 * 100))), (3, .int ((fp / 100))), (0, .ref (0)), (1, .int (h)), (2, .int (fp))]) dX9_rescue_9 (by decide) rfl ?_
  refine xr_aload_n dX9_rescue_11 2 rfl ?_
  refine xr_getR flX9_28 dX9_rescue_12 s_0 rfl ?_
  refine xr_iload_n dX9_rescue_15 3 rfl ?_
  refine xb_cV (As := [.int (h)]) (rest := []) mlX9_118 (c_X5_has h (by omega) e_cn) dX9_rescue_16 s_13 rfl rfl (Nat.le_of_ble_eq_true rfl) (by decide) (by decide) ?_
  refine xb_beq (tgt := 44) dX9_rescue_19 rfl (fun c1 => ?_) (fun c1 => ?_)
  · refine xr_iconst (v := -1) dX9_rescue_44 rfl ?_
    exact xr_iret dX9_rescue_45 rfl rfl (⟨_, rfl, rfl, rfl, Ke.rf, ⟨⟨cn, by omega, e_cn⟩, ⟨cm, by omega, e_cm⟩, ⟨L, by omega, e_L⟩, (fun kk hkk => by rw [show M 3 kk = M 3 kk from rfl]; exact hv kk hkk), hD, ⟨n, by omega, e_n⟩, ⟨un, wn, by omega, by omega, e_un, e_wn⟩, ⟨b, by omega, e_b⟩, (fun j hj => by obtain ⟨q, hq, eq⟩ := hkd j hj; exact ⟨q, hq, (show M 47 j = M 47 j from rfl).trans eq⟩), ⟨ra, by omega, e_ra⟩, (fun j hj => by obtain ⟨s, hs, es⟩ := hsl j hj; exact ⟨s, hs, (show M (50 + 2 * j) 3 = M (50 + 2 * j) 3 from rfl).trans es⟩), (fun j hj => by obtain ⟨q, hq, eq⟩ := hS j hj; exact ⟨q, hq, (show M 36 j = M 36 j from rfl).trans eq⟩)⟩⟩)
  · obtain ⟨h_, hh_, rfl⟩ := x_nat (N := cn) (by omega) rfl c1
    refine xr_iload_n dX9_rescue_22 1 rfl ?_
    refine xr_iconst (v := 1) dX9_rescue_23 rfl ?_
    refine xr_icmp_lt (tgt := 44) dX9_rescue_24 rfl (fun c2 => ?_) (fun c2 => ?_)
    · refine xr_iconst (v := -1) dX9_rescue_44 rfl ?_
      exact xr_iret dX9_rescue_45 rfl rfl (⟨_, rfl, rfl, rfl, Ke.rf, ⟨⟨cn, by omega, e_cn⟩, ⟨cm, by omega, e_cm⟩, ⟨L, by omega, e_L⟩, (fun kk hkk => by rw [show M 3 kk = M 3 kk from rfl]; exact hv kk hkk), hD, ⟨n, by omega, e_n⟩, ⟨un, wn, by omega, by omega, e_un, e_wn⟩, ⟨b, by omega, e_b⟩, (fun j hj => by obtain ⟨q, hq, eq⟩ := hkd j hj; exact ⟨q, hq, (show M 47 j = M 47 j from rfl).trans eq⟩), ⟨ra, by omega, e_ra⟩, (fun j hj => by obtain ⟨s, hs, es⟩ := hsl j hj; exact ⟨s, hs, (show M (50 + 2 * j) 3 = M (50 + 2 * j) 3 from rfl).trans es⟩), (fun j hj => by obtain ⟨q, hq, eq⟩ := hS j hj; exact ⟨q, hq, (show M 36 j = M 36 j from rfl).trans eq⟩)⟩⟩)
    · refine xr_iload_n dX9_rescue_27 1 rfl ?_
      refine xr_iconst (v := 5) dX9_rescue_28 rfl ?_
      refine xr_icmp_gt (tgt := 44) dX9_rescue_29 rfl (fun c3 => ?_) (fun c3 => ?_)
      · refine xr_iconst (v := -1) dX9_rescue_44 rfl ?_
        exact xr_iret dX9_rescue_45 rfl rfl (⟨_, rfl, rfl, rfl, Ke.rf, ⟨⟨cn, by omega, e_cn⟩, ⟨cm, by omega, e_cm⟩, ⟨L, by omega, e_L⟩, (fun kk hkk => by rw [show M 3 kk = M 3 kk from rfl]; exact hv kk hkk), hD, ⟨n, by omega, e_n⟩, ⟨un, wn, by omega, by omega, e_un, e_wn⟩, ⟨b, by omega, e_b⟩, (fun j hj => by obtain ⟨q, hq, eq⟩ := hkd j hj; exact ⟨q, hq, (show M 47 j = M 47 j from rfl).trans eq⟩), ⟨ra, by omega, e_ra⟩, (fun j hj => by obtain ⟨s, hs, es⟩ := hsl j hj; exact ⟨s, hs, (show M (50 + 2 * j) 3 = M (50 + 2 * j) 3 from rfl).trans es⟩), (fun j hj => by obtain ⟨q, hq, eq⟩ := hS j hj; exact ⟨q, hq, (show M 36 j = M 36 j from rfl).trans eq⟩)⟩⟩)
      · refine xr_iload dX9_rescue_32 0 rfl ?_
        refine xr_if_lt (tgt := 44) dX9_rescue_34 rfl (fun c4 => ?_) (fun c4 => ?_)
        · refine xr_iconst (v := -1) dX9_rescue_44 rfl ?_
          exact xr_iret dX9_rescue_45 rfl rfl (⟨_, rfl, rfl, rfl, Ke.rf, ⟨⟨cn, by omega, e_cn⟩, ⟨cm, by omega, e_cm⟩, ⟨L, by omega, e_L⟩, (fun kk hkk => by rw [show M 3 kk = M 3 kk from rfl]; exact hv kk hkk), hD, ⟨n, by omega, e_n⟩, ⟨un, wn, by omega, by omega, e_un, e_wn⟩, ⟨b, by omega, e_b⟩, (fun j hj => by obtain ⟨q, hq, eq⟩ := hkd j hj; exact ⟨q, hq, (show M 47 j = M 47 j from rfl).trans eq⟩), ⟨ra, by omega, e_ra⟩, (fun j hj => by obtain ⟨s, hs, es⟩ := hsl j hj; exact ⟨s, hs, (show M (50 + 2 * j) 3 = M (50 + 2 * j) 3 from rfl).trans es⟩), (fun j hj => by obtain ⟨q, hq, eq⟩ := hS j hj; exact ⟨q, hq, (show M 36 j = M 36 j from rfl).trans eq⟩)⟩⟩)
        · refine xr_iload dX9_rescue_37 0 rfl ?_
          refine xr_bipush (v := 24) dX9_rescue_39 rfl ?_
          refine xr_icmp_lt (tgt := 46) dX9_rescue_41 rfl (fun c5 => ?_) (fun c5 => ?_)
          · refine xr_aload_n dX9_rescue_46 2 rfl ?_
            refine xr_getR flX9_40 dX9_rescue_47 s_0 rfl ?_
            refine xr_callV (As := []) (rest := []) mlX9_192 (g_X7_begin (by omega) e_cn) dX9_rescue_50 s_27 rfl rfl (Nat.le_of_ble_eq_true rfl) (by decide) ⟨by decide, by decide⟩ (fun v s2 M7 J2 hq => ?_)
            obtain ⟨rfl, rfl, rfl, k8, hx6⟩ := hq
            try dsimp only [Option.toList, List.cons_append, List.nil_append]
            refine xr_aload_n dX9_rescue_53 2 rfl ?_
            refine xr_getR flX9_40 dX9_rescue_54 s_0 rfl ?_
            refine xr_iload_n dX9_rescue_57 3 rfl ?_
            refine xr_callV (As := [.int (nI (h_))]) (rest := []) mlX9_195 (g_X7_fallOf (h := h_) (by omega) (fun k hk => by have h3 := (show M7 3 k = M 3 k from (Eq.trans (k8 3 k (by unfold WTB; omega)) rfl)); rw [h3]; exact hv k hk) (by omega) (Eq.trans (k8 1 4 (by decide)) e_L) (by omega) hx6) dX9_rescue_58 s_27 rfl rfl (Nat.le_of_ble_eq_true rfl) (by decide) ⟨by decide, by decide⟩ (fun v s2 M10 J2 hq => ?_)
            obtain ⟨r12, rfl, rfl, rfl, k11, hx9⟩ := hq
            try dsimp only [Option.toList, List.cons_append, List.nil_append]
            refine xr_istore (ls2 := [(5, .int (r12)), (4, .int ((fp - fp / 100 * 100))), (3, .int ((fp / 100))), (0, .ref (0)), (1, .int (nI (h_))), (2, .int (fp))]) dX9_rescue_61 (by decide) rfl ?_
            refine xr_iload dX9_rescue_63 0 rfl ?_
            refine xr_if_eq (tgt := 75) dX9_rescue_65 rfl (fun c13 => ?_) (fun c13 => ?_)
            · refine xr_bipush (v := -5) dX9_rescue_75 rfl ?_
              exact xr_iret dX9_rescue_77 rfl rfl (⟨_, rfl, rfl, rfl, (Ke.tr (fun pp kk => (fun hh => Or.elim hh (fun h => (Or.inl h)) (fun hh => Or.elim hh (fun h => (Or.inr (Or.inl h))) (fun hh => Or.elim hh (fun h => (Or.inr (Or.inr (Or.inl (by omega))))) (fun hh => Or.elim hh (fun h => (Or.inr (Or.inr (Or.inl (by omega))))) (fun h => (Or.inr (Or.inr (Or.inr h))))))))) (Ke.tr (fun pp kk => (fun hh => Or.elim hh (fun h => (Or.inr (Or.inr (Or.inl h)))) (fun h => (Or.inr (Or.inr (Or.inr h)))))) Ke.rf k8) k11), ⟨⟨cn, by omega, (Eq.trans (k11 13 2 (by decide)) (Eq.trans (k8 13 2 (by decide)) e_cn))⟩, ⟨cm, by omega, (Eq.trans (k11 20 2 (by decide)) (Eq.trans (k8 20 2 (by decide)) e_cm))⟩, ⟨L, by omega, (Eq.trans (k11 1 4 (by decide)) (Eq.trans (k8 1 4 (by decide)) e_L))⟩, (fun kk hkk => by rw [show M10 3 kk = M 3 kk from (Eq.trans (k11 3 kk (by unfold WS; omega)) (Eq.trans (k8 3 kk (by unfold WTB; omega)) rfl))]; exact hv kk hkk), (DI_ke (by intro k; unfold WS; omega) k11 (DI_ke (by intro k; unfold WTB; omega) k8 hD)), ⟨n, by omega, (Eq.trans (k11 6 2 (by decide)) (Eq.trans (k8 6 2 (by decide)) e_n))⟩, ⟨un, wn, by omega, by omega, (Eq.trans (k11 41 4 (by decide)) (Eq.trans (k8 41 4 (by decide)) e_un)), (Eq.trans (k11 41 5 (by decide)) (Eq.trans (k8 41 5 (by decide)) e_wn))⟩, ⟨b, by omega, (Eq.trans (k11 46 2 (by decide)) (Eq.trans (k8 46 2 (by decide)) e_b))⟩, (fun j hj => by obtain ⟨q, hq, eq⟩ := hkd j hj; exact ⟨q, hq, (show M10 47 j = M 47 j from (Eq.trans (k11 47 j (by unfold WS; omega)) (Eq.trans (k8 47 j (by unfold WTB; omega)) rfl))).trans eq⟩), ⟨ra, by omega, (Eq.trans (k11 46 3 (by decide)) (Eq.trans (k8 46 3 (by decide)) e_ra))⟩, (fun j hj => by obtain ⟨s, hs, es⟩ := hsl j hj; exact ⟨s, hs, (show M10 (50 + 2 * j) 3 = M (50 + 2 * j) 3 from (Eq.trans (k11 (50 + 2 * j) 3 (by unfold WS; omega)) (Eq.trans (k8 (50 + 2 * j) 3 (by unfold WTB; omega)) rfl))).trans es⟩), (fun j hj => by obtain ⟨q, hq, eq⟩ := hS j hj; exact ⟨q, hq, (show M10 36 j = M 36 j from (Eq.trans (k11 36 j (by unfold WS; omega)) (Eq.trans (k8 36 j (by unfold WTB; omega)) rfl))).trans eq⟩)⟩⟩)
            · refine xr_iload dX9_rescue_68 0 rfl ?_
              refine xr_bipush (v := -2) dX9_rescue_70 rfl ?_
              refine xr_icmp_ne (tgt := 78) dX9_rescue_72 rfl (fun c14 => ?_) (fun c14 => ?_)
              · obtain ⟨K, hK, rfl⟩ := Or.resolve_left hx9 c14
                refine xr_bipush (v := 100) dX9_rescue_78 rfl ?_
                refine xr_iload dX9_rescue_80 0 rfl ?_
                refine xr_min mmX9_232 uj_min uj_mi uj_minc dX9_rescue_82 (Nat.le_of_ble_eq_true rfl) (by decide) ?_
                obtain ⟨T, hT, eT⟩ := x_natle (v := (if (nI (K)) < 100 then nI (K) else 100)) (N := 100) (K := 100) (by decide) (by decide) ⟨by have := nI_pos' (n := K) (by omega); grind, by grind⟩
                refine xb_top (y := nI T) eT ?_
                refine xr_istore (ls2 := [(6, .int (nI (T))), (5, .int (nI (K))), (4, .int ((fp - fp / 100 * 100))), (3, .int ((fp / 100))), (0, .ref (0)), (1, .int (nI (h_))), (2, .int (fp))]) dX9_rescue_85 (by decide) rfl ?_
                refine xr_iconst (v := 0) dX9_rescue_87 rfl ?_
                refine xr_istore (ls2 := [(7, .int (0)), (6, .int (nI (T))), (5, .int (nI (K))), (4, .int ((fp - fp / 100 * 100))), (3, .int ((fp / 100))), (0, .ref (0)), (1, .int (nI (h_))), (2, .int (fp))]) dX9_rescue_88 (by decide) rfl ?_
                refine xb_ls (ls2 := [(7, .int (nI (0))), (6, .int (nI (T))), (5, .int (nI (K))), (4, .int ((fp - fp / 100 * 100))), (3, .int ((fp / 100))), (1, .int (nI (h_))), (0, .ref (0))]) [0, 1, 2, 3, 4, 6, 5] rfl ?_
                refine rs_l (by omega) (by omega) (by omega) (fun k hk => by have h3 := (show M10 3 k = M 3 k from (Eq.trans (k11 3 k (by unfold WS; omega)) (Eq.trans (k8 3 k (by unfold WTB; omega)) rfl))); rw [h3]; exact hv k hk) (by omega) (Eq.trans (k11 1 4 (by decide)) (Eq.trans (k8 1 4 (by decide)) e_L)) (by omega) (Eq.trans (k11 13 2 (by decide)) (Eq.trans (k8 13 2 (by decide)) e_cn)) (fun M15 k16 => ?_) (fun r M2 hk => ⟨_, rfl, rfl, rfl, Ke.tr (fun _ _ h => h) (Ke.tr (fun pp kk => (fun hh => Or.elim hh (fun h => (Or.inl h)) (fun hh => Or.elim hh (fun h => (Or.inr (Or.inl h))) (fun hh => Or.elim hh (fun h => (Or.inr (Or.inr (Or.inl (by omega))))) (fun hh => Or.elim hh (fun h => (Or.inr (Or.inr (Or.inl (by omega))))) (fun h => (Or.inr (Or.inr (Or.inr h))))))))) (Ke.tr (fun pp kk => (fun hh => Or.elim hh (fun h => (Or.inr (Or.inr (Or.inl h)))) (fun h => (Or.inr (Or.inr (Or.inr h)))))) Ke.rf k8) k11) hk, ⟨⟨cn, by omega, (Eq.trans (hk 13 2 (by decide)) (Eq.trans (k11 13 2 (by decide)) (Eq.trans (k8 13 2 (by decide)) e_cn)))⟩, ⟨cm, by omega, (Eq.trans (hk 20 2 (by decide)) (Eq.trans (k11 20 2 (by decide)) (Eq.trans (k8 20 2 (by decide)) e_cm)))⟩, ⟨L, by omega, (Eq.trans (hk 1 4 (by decide)) (Eq.trans (k11 1 4 (by decide)) (Eq.trans (k8 1 4 (by decide)) e_L)))⟩, (fun kk hkk => by rw [show M2 3 kk = M 3 kk from (Eq.trans (hk 3 kk (by unfold WTH; omega)) (Eq.trans (k11 3 kk (by unfold WS; omega)) (Eq.trans (k8 3 kk (by unfold WTB; omega)) rfl)))]; exact hv kk hkk), (DI_ke (by intro k; unfold WTH; omega) hk (DI_ke (by intro k; unfold WS; omega) k11 (DI_ke (by intro k; unfold WTB; omega) k8 hD))), ⟨n, by omega, (Eq.trans (hk 6 2 (by decide)) (Eq.trans (k11 6 2 (by decide)) (Eq.trans (k8 6 2 (by decide)) e_n)))⟩, ⟨un, wn, by omega, by omega, (Eq.trans (hk 41 4 (by decide)) (Eq.trans (k11 41 4 (by decide)) (Eq.trans (k8 41 4 (by decide)) e_un))), (Eq.trans (hk 41 5 (by decide)) (Eq.trans (k11 41 5 (by decide)) (Eq.trans (k8 41 5 (by decide)) e_wn)))⟩, ⟨b, by omega, (Eq.trans (hk 46 2 (by decide)) (Eq.trans (k11 46 2 (by decide)) (Eq.trans (k8 46 2 (by decide)) e_b)))⟩, (fun j hj => by obtain ⟨q, hq, eq⟩ := hkd j hj; exact ⟨q, hq, (show M2 47 j = M 47 j from (Eq.trans (hk 47 j (by unfold WTH; omega)) (Eq.trans (k11 47 j (by unfold WS; omega)) (Eq.trans (k8 47 j (by unfold WTB; omega)) rfl)))).trans eq⟩), ⟨ra, by omega, (Eq.trans (hk 46 3 (by decide)) (Eq.trans (k11 46 3 (by decide)) (Eq.trans (k8 46 3 (by decide)) e_ra)))⟩, (fun j hj => by obtain ⟨s, hs, es⟩ := hsl j hj; exact ⟨s, hs, (show M2 (50 + 2 * j) 3 = M (50 + 2 * j) 3 from (Eq.trans (hk (50 + 2 * j) 3 (by unfold WTH; omega)) (Eq.trans (k11 (50 + 2 * j) 3 (by unfold WS; omega)) (Eq.trans (k8 (50 + 2 * j) 3 (by unfold WTB; omega)) rfl)))).trans es⟩), (fun j hj => by obtain ⟨q, hq, eq⟩ := hS j hj; exact ⟨q, hq, (show M2 36 j = M 36 j from (Eq.trans (hk 36 j (by unfold WTH; omega)) (Eq.trans (k11 36 j (by unfold WS; omega)) (Eq.trans (k8 36 j (by unfold WTB; omega)) rfl)))).trans eq⟩)⟩⟩) (T - 0) 0 M10 (by omega) Ke.rf
                refine xr_bipush (v := -2) dX9_rescue_138 rfl ?_
                exact xr_iret dX9_rescue_140 rfl rfl (⟨_, rfl, rfl, rfl, (Ke.tr (fun _ _ h => h) (Ke.tr (fun pp kk => (fun hh => Or.elim hh (fun h => (Or.inl h)) (fun hh => Or.elim hh (fun h => (Or.inr (Or.inl h))) (fun hh => Or.elim hh (fun h => (Or.inr (Or.inr (Or.inl (by omega))))) (fun hh => Or.elim hh (fun h => (Or.inr (Or.inr (Or.inl (by omega))))) (fun h => (Or.inr (Or.inr (Or.inr h))))))))) (Ke.tr (fun pp kk => (fun hh => Or.elim hh (fun h => (Or.inr (Or.inr (Or.inl h)))) (fun h => (Or.inr (Or.inr (Or.inr h)))))) Ke.rf k8) k11) k16), ⟨⟨cn, by omega, (Eq.trans (k16 13 2 (by decide)) (Eq.trans (k11 13 2 (by decide)) (Eq.trans (k8 13 2 (by decide)) e_cn)))⟩, ⟨cm, by omega, (Eq.trans (k16 20 2 (by decide)) (Eq.trans (k11 20 2 (by decide)) (Eq.trans (k8 20 2 (by decide)) e_cm)))⟩, ⟨L, by omega, (Eq.trans (k16 1 4 (by decide)) (Eq.trans (k11 1 4 (by decide)) (Eq.trans (k8 1 4 (by decide)) e_L)))⟩, (fun kk hkk => by rw [show M15 3 kk = M 3 kk from (Eq.trans (k16 3 kk (by unfold WTH; omega)) (Eq.trans (k11 3 kk (by unfold WS; omega)) (Eq.trans (k8 3 kk (by unfold WTB; omega)) rfl)))]; exact hv kk hkk), (DI_ke (by intro k; unfold WTH; omega) k16 (DI_ke (by intro k; unfold WS; omega) k11 (DI_ke (by intro k; unfold WTB; omega) k8 hD))), ⟨n, by omega, (Eq.trans (k16 6 2 (by decide)) (Eq.trans (k11 6 2 (by decide)) (Eq.trans (k8 6 2 (by decide)) e_n)))⟩, ⟨un, wn, by omega, by omega, (Eq.trans (k16 41 4 (by decide)) (Eq.trans (k11 41 4 (by decide)) (Eq.trans (k8 41 4 (by decide)) e_un))), (Eq.trans (k16 41 5 (by decide)) (Eq.trans (k11 41 5 (by decide)) (Eq.trans (k8 41 5 (by decide)) e_wn)))⟩, ⟨b, by omega, (Eq.trans (k16 46 2 (by decide)) (Eq.trans (k11 46 2 (by decide)) (Eq.trans (k8 46 2 (by decide)) e_b)))⟩, (fun j hj => by obtain ⟨q, hq, eq⟩ := hkd j hj; exact ⟨q, hq, (show M15 47 j = M 47 j from (Eq.trans (k16 47 j (by unfold WTH; omega)) (Eq.trans (k11 47 j (by unfold WS; omega)) (Eq.trans (k8 47 j (by unfold WTB; omega)) rfl)))).trans eq⟩), ⟨ra, by omega, (Eq.trans (k16 46 3 (by decide)) (Eq.trans (k11 46 3 (by decide)) (Eq.trans (k8 46 3 (by decide)) e_ra)))⟩, (fun j hj => by obtain ⟨s, hs, es⟩ := hsl j hj; exact ⟨s, hs, (show M15 (50 + 2 * j) 3 = M (50 + 2 * j) 3 from (Eq.trans (k16 (50 + 2 * j) 3 (by unfold WTH; omega)) (Eq.trans (k11 (50 + 2 * j) 3 (by unfold WS; omega)) (Eq.trans (k8 (50 + 2 * j) 3 (by unfold WTB; omega)) rfl)))).trans es⟩), (fun j hj => by obtain ⟨q, hq, eq⟩ := hS j hj; exact ⟨q, hq, (show M15 36 j = M 36 j from (Eq.trans (k16 36 j (by unfold WTH; omega)) (Eq.trans (k11 36 j (by unfold WS; omega)) (Eq.trans (k8 36 j (by unfold WTB; omega)) rfl)))).trans eq⟩)⟩⟩)
              · refine xr_bipush (v := -5) dX9_rescue_75 rfl ?_
                exact xr_iret dX9_rescue_77 rfl rfl (⟨_, rfl, rfl, rfl, (Ke.tr (fun pp kk => (fun hh => Or.elim hh (fun h => (Or.inl h)) (fun hh => Or.elim hh (fun h => (Or.inr (Or.inl h))) (fun hh => Or.elim hh (fun h => (Or.inr (Or.inr (Or.inl (by omega))))) (fun hh => Or.elim hh (fun h => (Or.inr (Or.inr (Or.inl (by omega))))) (fun h => (Or.inr (Or.inr (Or.inr h))))))))) (Ke.tr (fun pp kk => (fun hh => Or.elim hh (fun h => (Or.inr (Or.inr (Or.inl h)))) (fun h => (Or.inr (Or.inr (Or.inr h)))))) Ke.rf k8) k11), ⟨⟨cn, by omega, (Eq.trans (k11 13 2 (by decide)) (Eq.trans (k8 13 2 (by decide)) e_cn))⟩, ⟨cm, by omega, (Eq.trans (k11 20 2 (by decide)) (Eq.trans (k8 20 2 (by decide)) e_cm))⟩, ⟨L, by omega, (Eq.trans (k11 1 4 (by decide)) (Eq.trans (k8 1 4 (by decide)) e_L))⟩, (fun kk hkk => by rw [show M10 3 kk = M 3 kk from (Eq.trans (k11 3 kk (by unfold WS; omega)) (Eq.trans (k8 3 kk (by unfold WTB; omega)) rfl))]; exact hv kk hkk), (DI_ke (by intro k; unfold WS; omega) k11 (DI_ke (by intro k; unfold WTB; omega) k8 hD)), ⟨n, by omega, (Eq.trans (k11 6 2 (by decide)) (Eq.trans (k8 6 2 (by decide)) e_n))⟩, ⟨un, wn, by omega, by omega, (Eq.trans (k11 41 4 (by decide)) (Eq.trans (k8 41 4 (by decide)) e_un)), (Eq.trans (k11 41 5 (by decide)) (Eq.trans (k8 41 5 (by decide)) e_wn))⟩, ⟨b, by omega, (Eq.trans (k11 46 2 (by decide)) (Eq.trans (k8 46 2 (by decide)) e_b))⟩, (fun j hj => by obtain ⟨q, hq, eq⟩ := hkd j hj; exact ⟨q, hq, (show M10 47 j = M 47 j from (Eq.trans (k11 47 j (by unfold WS; omega)) (Eq.trans (k8 47 j (by unfold WTB; omega)) rfl))).trans eq⟩), ⟨ra, by omega, (Eq.trans (k11 46 3 (by decide)) (Eq.trans (k8 46 3 (by decide)) e_ra))⟩, (fun j hj => by obtain ⟨s, hs, es⟩ := hsl j hj; exact ⟨s, hs, (show M10 (50 + 2 * j) 3 = M (50 + 2 * j) 3 from (Eq.trans (k11 (50 + 2 * j) 3 (by unfold WS; omega)) (Eq.trans (k8 (50 + 2 * j) 3 (by unfold WTB; omega)) rfl))).trans es⟩), (fun j hj => by obtain ⟨q, hq, eq⟩ := hS j hj; exact ⟨q, hq, (show M10 36 j = M 36 j from (Eq.trans (k11 36 j (by unfold WS; omega)) (Eq.trans (k8 36 j (by unfold WTB; omega)) rfl))).trans eq⟩)⟩⟩)
          · refine xr_iconst (v := -1) dX9_rescue_44 rfl ?_
            exact xr_iret dX9_rescue_45 rfl rfl (⟨_, rfl, rfl, rfl, Ke.rf, ⟨⟨cn, by omega, e_cn⟩, ⟨cm, by omega, e_cm⟩, ⟨L, by omega, e_L⟩, (fun kk hkk => by rw [show M 3 kk = M 3 kk from rfl]; exact hv kk hkk), hD, ⟨n, by omega, e_n⟩, ⟨un, wn, by omega, by omega, e_un, e_wn⟩, ⟨b, by omega, e_b⟩, (fun j hj => by obtain ⟨q, hq, eq⟩ := hkd j hj; exact ⟨q, hq, (show M 47 j = M 47 j from rfl).trans eq⟩), ⟨ra, by omega, e_ra⟩, (fun j hj => by obtain ⟨s, hs, es⟩ := hsl j hj; exact ⟨s, hs, (show M (50 + 2 * j) 3 = M (50 + 2 * j) 3 from rfl).trans es⟩), (fun j hj => by obtain ⟨q, hq, eq⟩ := hS j hj; exact ⟨q, hq, (show M 36 j = M 36 j from rfl).trans eq⟩)⟩⟩)
set_option maxRecDepth 100000 in
set_option maxHeartbeats 4000000 in
theorem g_X9_start (h : Int32) {l : Launch} {G : xG} {M : xM} {J : xJ} (hI : InvC M) : x_M l G fX9_start 7 0 0 [.ref (0), .int (h)] x_SH M J (qKI WTH M J (fun r M2 => InvC M2)) := by
  refine xb_of pX9 (Nat.le_of_ble_eq_true rfl) rfl ?_
  obtain ⟨⟨cn, h_cn, e_cn⟩, ⟨cm, h_cm, e_cm⟩, ⟨L, h_L, e_L⟩, hv, hD, ⟨n, h_n, e_n⟩, ⟨un, wn, h_uw, h_wn, e_un, e_wn⟩, ⟨b, h_b, e_b⟩, hkd, ⟨ra, h_ra, e_ra⟩, hsl, hS⟩ := hI
  refine xr_aload_n dX9_start_0 0 rfl ?_
  refine xr_getR flX9_28 dX9_start_1 s_0 rfl ?_
  refine xr_iload_n dX9_start_4 1 rfl ?_
  refine xb_cV (As := [.int (h)]) (rest := []) mlX9_118 (c_X5_has h (by omega) e_cn) dX9_start_5 s_13 rfl rfl (Nat.le_of_ble_eq_true rfl) (by decide) (by decide) ?_
  refine xb_bne (tgt := 14) dX9_start_8 rfl (fun c1 => ?_) (fun c1 => ?_)
  · obtain ⟨h_, hh_, rfl⟩ := x_nat (N := cn) (by omega) rfl c1
    refine xr_aload_n dX9_start_14 0 rfl ?_
    refine xr_getR flX9_28 dX9_start_15 s_0 rfl ?_
    refine xr_getR flX9_121 dX9_start_18 s_13 rfl ?_
    refine xr_iload_n dX9_start_21 1 rfl ?_
    refine xb_aald (j := h_) (q := 15 + h_) (by decide) dX9_start_22 s_14 (by omega) (by decide) (if_pos (by omega)) ?_
    refine xb_cV (As := []) (rest := []) mlX9_167 (c_X2_lies (s_hp15 (by omega))) dX9_start_23 (s_hp15 (by omega)) rfl rfl (Nat.le_of_ble_eq_true rfl) (by decide) (by decide) ?_
    refine xb_beq (tgt := 32) dX9_start_26 rfl (fun c2 => ?_) (fun c2 => ?_)
    · refine xr_bipush (v := -9) dX9_start_32 rfl ?_
      refine xr_istore_n (ls2 := [(2, .int ((-9))), (0, .ref (0)), (1, .int (nI (h_)))]) dX9_start_34 (by decide) rfl ?_
      refine xr_iconst (v := -1) dX9_start_35 rfl ?_
      refine xr_istore_n (ls2 := [(3, .int ((-1))), (2, .int ((-9))), (0, .ref (0)), (1, .int (nI (h_)))]) dX9_start_36 (by decide) rfl ?_
      refine xr_bipush (v := -9) dX9_start_37 rfl ?_
      refine xr_istore (ls2 := [(4, .int ((-9))), (3, .int ((-1))), (2, .int ((-9))), (0, .ref (0)), (1, .int (nI (h_)))]) dX9_start_39 (by decide) rfl ?_
      refine xb_ls (ls2 := [(4, .int ((-9))), (3, .int ((-1))), (2, .int ((-9))), (1, .int (nI (h_))), (0, .ref (0))]) [0, 1, 2, 4, 3] rfl ?_
      refine st_l (by omega) (fun k hk => by have h3 := (show M 3 k = M 3 k from rfl); rw [h3]; exact hv k hk) (by omega) e_L (by omega) e_cn (fun q3 q4 M5 k6 => ?_) 19 0 (-1) (-9) M (by omega) Ke.rf
      refine xr_iload_n dX9_start_117 0 rfl ?_
      exact xr_iret dX9_start_118 rfl rfl (⟨_, rfl, rfl, rfl, (Ke.tr (fun _ _ h => h) Ke.rf k6), ⟨⟨cn, by omega, (Eq.trans (k6 13 2 (by decide)) e_cn)⟩, ⟨cm, by omega, (Eq.trans (k6 20 2 (by decide)) e_cm)⟩, ⟨L, by omega, (Eq.trans (k6 1 4 (by decide)) e_L)⟩, (fun kk hkk => by rw [show M5 3 kk = M 3 kk from (Eq.trans (k6 3 kk (by unfold WTH; omega)) rfl)]; exact hv kk hkk), (DI_ke (by intro k; unfold WTH; omega) k6 hD), ⟨n, by omega, (Eq.trans (k6 6 2 (by decide)) e_n)⟩, ⟨un, wn, by omega, by omega, (Eq.trans (k6 41 4 (by decide)) e_un), (Eq.trans (k6 41 5 (by decide)) e_wn)⟩, ⟨b, by omega, (Eq.trans (k6 46 2 (by decide)) e_b)⟩, (fun j hj => by obtain ⟨q, hq, eq⟩ := hkd j hj; exact ⟨q, hq, (show M5 47 j = M 47 j from (Eq.trans (k6 47 j (by unfold WTH; omega)) rfl)).trans eq⟩), ⟨ra, by omega, (Eq.trans (k6 46 3 (by decide)) e_ra)⟩, (fun j hj => by obtain ⟨s, hs, es⟩ := hsl j hj; exact ⟨s, hs, (show M5 (50 + 2 * j) 3 = M (50 + 2 * j) 3 from (Eq.trans (k6 (50 + 2 * j) 3 (by unfold WTH; omega)) rfl)).trans es⟩), (fun j hj => by obtain ⟨q, hq, eq⟩ := hS j hj; exact ⟨q, hq, (show M5 36 j = M 36 j from (Eq.trans (k6 36 j (by unfold WTH; omega)) rfl)).trans eq⟩)⟩⟩)
    · refine xr_bipush (v := -5) dX9_start_29 rfl ?_
      exact xr_iret dX9_start_31 rfl rfl (⟨_, rfl, rfl, rfl, Ke.rf, ⟨⟨cn, by omega, e_cn⟩, ⟨cm, by omega, e_cm⟩, ⟨L, by omega, e_L⟩, (fun kk hkk => by rw [show M 3 kk = M 3 kk from rfl]; exact hv kk hkk), hD, ⟨n, by omega, e_n⟩, ⟨un, wn, by omega, by omega, e_un, e_wn⟩, ⟨b, by omega, e_b⟩, (fun j hj => by obtain ⟨q, hq, eq⟩ := hkd j hj; exact ⟨q, hq, (show M 47 j = M 47 j from rfl).trans eq⟩), ⟨ra, by omega, e_ra⟩, (fun j hj => by obtain ⟨s, hs, es⟩ := hsl j hj; exact ⟨s, hs, (show M (50 + 2 * j) 3 = M (50 + 2 * j) 3 from rfl).trans es⟩), (fun j hj => by obtain ⟨q, hq, eq⟩ := hS j hj; exact ⟨q, hq, (show M 36 j = M 36 j from rfl).trans eq⟩)⟩⟩)
  · refine xr_ldc coX9_105 dX9_start_11 ?_
    exact xr_iret dX9_start_13 rfl rfl (⟨_, rfl, rfl, rfl, Ke.rf, ⟨⟨cn, by omega, e_cn⟩, ⟨cm, by omega, e_cm⟩, ⟨L, by omega, e_L⟩, (fun kk hkk => by rw [show M 3 kk = M 3 kk from rfl]; exact hv kk hkk), hD, ⟨n, by omega, e_n⟩, ⟨un, wn, by omega, by omega, e_un, e_wn⟩, ⟨b, by omega, e_b⟩, (fun j hj => by obtain ⟨q, hq, eq⟩ := hkd j hj; exact ⟨q, hq, (show M 47 j = M 47 j from rfl).trans eq⟩), ⟨ra, by omega, e_ra⟩, (fun j hj => by obtain ⟨s, hs, es⟩ := hsl j hj; exact ⟨s, hs, (show M (50 + 2 * j) 3 = M (50 + 2 * j) 3 from rfl).trans es⟩), (fun j hj => by obtain ⟨q, hq, eq⟩ := hS j hj; exact ⟨q, hq, (show M 36 j = M 36 j from rfl).trans eq⟩)⟩⟩)
set_option maxRecDepth 100000 in
set_option maxHeartbeats 4000000 in
theorem g_X9_music (sh : Int32) {l : Launch} {G : xG} {M : xM} {J : xJ} (hI : InvC M) : x_M l G fX9_music 6 0 0 [.ref (0), .int (sh)] x_SH M J (qKI WTH M J (fun r M2 => InvC M2)) := by
  refine xb_of pX9 (Nat.le_of_ble_eq_true rfl) rfl ?_
  obtain ⟨⟨cn, h_cn, e_cn⟩, ⟨cm, h_cm, e_cm⟩, ⟨L, h_L, e_L⟩, hv, hD, ⟨n, h_n, e_n⟩, ⟨un, wn, h_uw, h_wn, e_un, e_wn⟩, ⟨b, h_b, e_b⟩, hkd, ⟨ra, h_ra, e_ra⟩, hsl, hS⟩ := hI
  refine xr_iload_n dX9_music_0 1 rfl ?_
  refine xb_cS (As := [.int (sh)]) (rest := []) mlX9_88 (c_X9_isShelf sh) dX9_music_1 rfl rfl (Nat.le_of_ble_eq_true rfl) (by decide) (by decide) ?_
  refine xb_bne (tgt := 9) dX9_music_4 rfl (fun c1 => ?_) (fun c1 => ?_)
  · obtain ⟨s_, hs_, rfl⟩ := x_nat (N := 6) (by decide) rfl c1
    refine xr_aload_n dX9_music_9 0 rfl ?_
    refine xr_getR flX9_67 dX9_music_10 s_0 rfl ?_
    refine xr_iload_n dX9_music_13 1 rfl ?_
    refine xb_aald (j := s_) (q := 50 + 2 * s_) (by decide) dX9_music_14 s_49 hs_ (by decide) (if_pos hs_) ?_
    refine xb_cV (As := []) (rest := []) mlX9_244 (c_X6_bytesRefusal (s_shelf hs_) (s_elem hs_)) dX9_music_15 (s_shelf hs_) rfl rfl (Nat.le_of_ble_eq_true rfl) (by decide) (by decide) ?_
    refine xr_istore_n (ls2 := [(2, .int ((if M (50 + 2 * s_) 0 = 0 then -11 else if M (50 + 2 * s_) 0 = 2 ∧ M (50 + 2 * s_) 2 = 0 then 0 else -12))), (0, .ref (0)), (1, .int (nI (s_)))]) dX9_music_18 (by decide) rfl ?_
    refine xr_iload_n dX9_music_19 0 rfl ?_
    refine xr_if_eq (tgt := 25) dX9_music_20 rfl (fun c2 => ?_) (fun c2 => ?_)
    · refine xr_aload_n dX9_music_25 1 rfl ?_
      refine xr_getR flX9_40 dX9_music_26 s_0 rfl ?_
      refine xr_callV (As := []) (rest := []) mlX9_192 (g_X7_begin (by omega) e_cn) dX9_music_29 s_27 rfl rfl (Nat.le_of_ble_eq_true rfl) (by decide) ⟨by decide, by decide⟩ (fun v s2 M4 J2 hq => ?_)
      obtain ⟨rfl, rfl, rfl, k5, hx3⟩ := hq
      try dsimp only [Option.toList, List.cons_append, List.nil_append]
      refine xr_aload_n dX9_music_32 1 rfl ?_
      refine xr_getR flX9_40 dX9_music_33 s_0 rfl ?_
      refine xr_aload_n dX9_music_36 1 rfl ?_
      refine xr_getR flX9_67 dX9_music_37 s_0 rfl ?_
      refine xr_iload_n dX9_music_40 2 rfl ?_
      refine xb_aald (j := s_) (q := 50 + 2 * s_) (by decide) dX9_music_41 s_49 hs_ (by decide) (if_pos hs_) ?_
      refine xr_callV (As := [.ref (50 + 2 * s_)]) (rest := []) mlX9_247 (g_X7_lastingBy (s_shelf hs_) (s_elem hs_) (fun k hk => by have h3 := (show M4 3 k = M 3 k from (Eq.trans (k5 3 k (by unfold WTB; omega)) rfl)); rw [h3]; exact hv k hk) (by omega) (Eq.trans (k5 1 4 (by decide)) e_L) (by omega) hx3) dX9_music_42 s_27 rfl rfl (Nat.le_of_ble_eq_true rfl) (by decide) ⟨by decide, by decide⟩ (fun v s2 M6 J2 hq => ?_)
      obtain ⟨r8, rfl, rfl, rfl, k7, _⟩ := hq
      try dsimp only [Option.toList, List.cons_append, List.nil_append]
      exact xr_iret dX9_music_45 rfl rfl (⟨_, rfl, rfl, rfl, (Ke.tr (fun pp kk => (fun hh => Or.elim hh (fun h => (Or.inl h)) (fun hh => Or.elim hh (fun h => (Or.inr (Or.inl h))) (fun hh => Or.elim hh (fun h => (Or.inr (Or.inr (Or.inl (by omega))))) (fun hh => Or.elim hh (fun h => (Or.inr (Or.inr (Or.inl (by omega))))) (fun h => (Or.inr (Or.inr (Or.inr h))))))))) (Ke.tr (fun pp kk => (fun hh => Or.elim hh (fun h => (Or.inr (Or.inr (Or.inl h)))) (fun h => (Or.inr (Or.inr (Or.inr h)))))) Ke.rf k5) k7), ⟨⟨cn, by omega, (Eq.trans (k7 13 2 (by decide)) (Eq.trans (k5 13 2 (by decide)) e_cn))⟩, ⟨cm, by omega, (Eq.trans (k7 20 2 (by decide)) (Eq.trans (k5 20 2 (by decide)) e_cm))⟩, ⟨L, by omega, (Eq.trans (k7 1 4 (by decide)) (Eq.trans (k5 1 4 (by decide)) e_L))⟩, (fun kk hkk => by rw [show M6 3 kk = M 3 kk from (Eq.trans (k7 3 kk (by unfold WS; omega)) (Eq.trans (k5 3 kk (by unfold WTB; omega)) rfl))]; exact hv kk hkk), (DI_ke (by intro k; unfold WS; omega) k7 (DI_ke (by intro k; unfold WTB; omega) k5 hD)), ⟨n, by omega, (Eq.trans (k7 6 2 (by decide)) (Eq.trans (k5 6 2 (by decide)) e_n))⟩, ⟨un, wn, by omega, by omega, (Eq.trans (k7 41 4 (by decide)) (Eq.trans (k5 41 4 (by decide)) e_un)), (Eq.trans (k7 41 5 (by decide)) (Eq.trans (k5 41 5 (by decide)) e_wn))⟩, ⟨b, by omega, (Eq.trans (k7 46 2 (by decide)) (Eq.trans (k5 46 2 (by decide)) e_b))⟩, (fun j hj => by obtain ⟨q, hq, eq⟩ := hkd j hj; exact ⟨q, hq, (show M6 47 j = M 47 j from (Eq.trans (k7 47 j (by unfold WS; omega)) (Eq.trans (k5 47 j (by unfold WTB; omega)) rfl))).trans eq⟩), ⟨ra, by omega, (Eq.trans (k7 46 3 (by decide)) (Eq.trans (k5 46 3 (by decide)) e_ra))⟩, (fun j hj => by obtain ⟨s, hs, es⟩ := hsl j hj; exact ⟨s, hs, (show M6 (50 + 2 * j) 3 = M (50 + 2 * j) 3 from (Eq.trans (k7 (50 + 2 * j) 3 (by unfold WS; omega)) (Eq.trans (k5 (50 + 2 * j) 3 (by unfold WTB; omega)) rfl))).trans es⟩), (fun j hj => by obtain ⟨q, hq, eq⟩ := hS j hj; exact ⟨q, hq, (show M6 36 j = M 36 j from (Eq.trans (k7 36 j (by unfold WS; omega)) (Eq.trans (k5 36 j (by unfold WTB; omega)) rfl))).trans eq⟩)⟩⟩)
    · refine xr_iload_n dX9_music_23 0 rfl ?_
      exact xr_iret dX9_music_24 rfl rfl (⟨_, rfl, rfl, rfl, Ke.rf, ⟨⟨cn, by omega, e_cn⟩, ⟨cm, by omega, e_cm⟩, ⟨L, by omega, e_L⟩, (fun kk hkk => by rw [show M 3 kk = M 3 kk from rfl]; exact hv kk hkk), hD, ⟨n, by omega, e_n⟩, ⟨un, wn, by omega, by omega, e_un, e_wn⟩, ⟨b, by omega, e_b⟩, (fun j hj => by obtain ⟨q, hq, eq⟩ := hkd j hj; exact ⟨q, hq, (show M 47 j = M 47 j from rfl).trans eq⟩), ⟨ra, by omega, e_ra⟩, (fun j hj => by obtain ⟨s, hs, es⟩ := hsl j hj; exact ⟨s, hs, (show M (50 + 2 * j) 3 = M (50 + 2 * j) 3 from rfl).trans es⟩), (fun j hj => by obtain ⟨q, hq, eq⟩ := hS j hj; exact ⟨q, hq, (show M 36 j = M 36 j from rfl).trans eq⟩)⟩⟩)
  · refine xr_iconst (v := -1) dX9_music_7 rfl ?_
    exact xr_iret dX9_music_8 rfl rfl (⟨_, rfl, rfl, rfl, Ke.rf, ⟨⟨cn, by omega, e_cn⟩, ⟨cm, by omega, e_cm⟩, ⟨L, by omega, e_L⟩, (fun kk hkk => by rw [show M 3 kk = M 3 kk from rfl]; exact hv kk hkk), hD, ⟨n, by omega, e_n⟩, ⟨un, wn, by omega, by omega, e_un, e_wn⟩, ⟨b, by omega, e_b⟩, (fun j hj => by obtain ⟨q, hq, eq⟩ := hkd j hj; exact ⟨q, hq, (show M 47 j = M 47 j from rfl).trans eq⟩), ⟨ra, by omega, e_ra⟩, (fun j hj => by obtain ⟨s, hs, es⟩ := hsl j hj; exact ⟨s, hs, (show M (50 + 2 * j) 3 = M (50 + 2 * j) 3 from rfl).trans es⟩), (fun j hj => by obtain ⟨q, hq, eq⟩ := hS j hj; exact ⟨q, hq, (show M 36 j = M 36 j from rfl).trans eq⟩)⟩⟩)
set_option maxRecDepth 100000 in
set_option maxHeartbeats 4000000 in
theorem g_X9_judge (sh h : Int32) {l : Launch} {G : xG} {M : xM} {J : xJ} (hI : InvC M) : x_M l G fX9_judge 7 0 0 [.ref (0), .int (sh), .int (h)] x_SH M J (qKI WTH M J (fun r M2 => InvC M2)) := by
  refine xb_of pX9 (Nat.le_of_ble_eq_true rfl) rfl ?_
  obtain ⟨⟨cn, h_cn, e_cn⟩, ⟨cm, h_cm, e_cm⟩, ⟨L, h_L, e_L⟩, hv, hD, ⟨n, h_n, e_n⟩, ⟨un, wn, h_uw, h_wn, e_un, e_wn⟩, ⟨b, h_b, e_b⟩, hkd, ⟨ra, h_ra, e_ra⟩, hsl, hS⟩ := hI
  refine xr_iload_n dX9_judge_0 1 rfl ?_
  refine xb_cS (As := [.int (sh)]) (rest := []) mlX9_88 (c_X9_isShelf sh) dX9_judge_1 rfl rfl (Nat.le_of_ble_eq_true rfl) (by decide) (by decide) ?_
  refine xb_beq (tgt := 18) dX9_judge_4 rfl (fun c1 => ?_) (fun c1 => ?_)
  · refine xr_iconst (v := -1) dX9_judge_18 rfl ?_
    exact xr_iret dX9_judge_19 rfl rfl (⟨_, rfl, rfl, rfl, Ke.rf, ⟨⟨cn, by omega, e_cn⟩, ⟨cm, by omega, e_cm⟩, ⟨L, by omega, e_L⟩, (fun kk hkk => by rw [show M 3 kk = M 3 kk from rfl]; exact hv kk hkk), hD, ⟨n, by omega, e_n⟩, ⟨un, wn, by omega, by omega, e_un, e_wn⟩, ⟨b, by omega, e_b⟩, (fun j hj => by obtain ⟨q, hq, eq⟩ := hkd j hj; exact ⟨q, hq, (show M 47 j = M 47 j from rfl).trans eq⟩), ⟨ra, by omega, e_ra⟩, (fun j hj => by obtain ⟨s, hs, es⟩ := hsl j hj; exact ⟨s, hs, (show M (50 + 2 * j) 3 = M (50 + 2 * j) 3 from rfl).trans es⟩), (fun j hj => by obtain ⟨q, hq, eq⟩ := hS j hj; exact ⟨q, hq, (show M 36 j = M 36 j from rfl).trans eq⟩)⟩⟩)
  · obtain ⟨s_, hs_, rfl⟩ := x_nat (N := 6) (by decide) rfl c1
    refine xr_aload_n dX9_judge_7 0 rfl ?_
    refine xr_getR flX9_28 dX9_judge_8 s_0 rfl ?_
    refine xr_iload_n dX9_judge_11 2 rfl ?_
    refine xb_cV (As := [.int (h)]) (rest := []) mlX9_118 (c_X5_has h (by omega) e_cn) dX9_judge_12 s_13 rfl rfl (Nat.le_of_ble_eq_true rfl) (by decide) (by decide) ?_
    refine xb_bne (tgt := 20) dX9_judge_15 rfl (fun c2 => ?_) (fun c2 => ?_)
    · obtain ⟨h_, hh_, rfl⟩ := x_nat (N := cn) (by omega) rfl c2
      refine xr_aload_n dX9_judge_20 0 rfl ?_
      refine xr_getR flX9_67 dX9_judge_21 s_0 rfl ?_
      refine xr_iload_n dX9_judge_24 1 rfl ?_
      refine xb_aald (j := s_) (q := 50 + 2 * s_) (by decide) dX9_judge_25 s_49 hs_ (by decide) (if_pos hs_) ?_
      refine xb_cV (As := []) (rest := []) mlX9_244 (c_X6_bytesRefusal (s_shelf hs_) (s_elem hs_)) dX9_judge_26 (s_shelf hs_) rfl rfl (Nat.le_of_ble_eq_true rfl) (by decide) (by decide) ?_
      refine xr_istore_n (ls2 := [(3, .int ((if M (50 + 2 * s_) 0 = 0 then -11 else if M (50 + 2 * s_) 0 = 2 ∧ M (50 + 2 * s_) 2 = 0 then 0 else -12))), (0, .ref (0)), (1, .int (nI (s_))), (2, .int (nI (h_)))]) dX9_judge_29 (by decide) rfl ?_
      refine xr_iload_n dX9_judge_30 0 rfl ?_
      refine xr_if_eq (tgt := 36) dX9_judge_31 rfl (fun c3 => ?_) (fun c3 => ?_)
      · refine xr_aload_n dX9_judge_36 1 rfl ?_
        refine xr_getR flX9_40 dX9_judge_37 s_0 rfl ?_
        refine xr_callV (As := []) (rest := []) mlX9_192 (g_X7_begin (by omega) e_cn) dX9_judge_40 s_27 rfl rfl (Nat.le_of_ble_eq_true rfl) (by decide) ⟨by decide, by decide⟩ (fun v s2 M5 J2 hq => ?_)
        obtain ⟨rfl, rfl, rfl, k6, hx4⟩ := hq
        try dsimp only [Option.toList, List.cons_append, List.nil_append]
        refine xr_aload_n dX9_judge_43 1 rfl ?_
        refine xr_getR flX9_40 dX9_judge_44 s_0 rfl ?_
        refine xr_aload_n dX9_judge_47 1 rfl ?_
        refine xr_getR flX9_67 dX9_judge_48 s_0 rfl ?_
        refine xr_iload_n dX9_judge_51 2 rfl ?_
        refine xb_aald (j := s_) (q := 50 + 2 * s_) (by decide) dX9_judge_52 s_49 hs_ (by decide) (if_pos hs_) ?_
        refine xr_iload_n dX9_judge_53 3 rfl ?_
        refine xr_callV (As := [.ref (50 + 2 * s_), .int (nI (h_))]) (rest := []) mlX9_251 (g_X7_firstUnlike (h := h_) (by omega) (s_shelf hs_) (s_elem hs_) (fun k hk => by have h3 := (show M5 3 k = M 3 k from (Eq.trans (k6 3 k (by unfold WTB; omega)) rfl)); rw [h3]; exact hv k hk) (by omega) (Eq.trans (k6 1 4 (by decide)) e_L) (by omega) hx4) dX9_judge_54 s_27 rfl rfl (Nat.le_of_ble_eq_true rfl) (by decide) ⟨by decide, by decide⟩ (fun v s2 M7 J2 hq => ?_)
        obtain ⟨r9, rfl, rfl, rfl, k8, _⟩ := hq
        try dsimp only [Option.toList, List.cons_append, List.nil_append]
        exact xr_iret dX9_judge_57 rfl rfl (⟨_, rfl, rfl, rfl, (Ke.tr (fun pp kk => (fun hh => Or.elim hh (fun h => (Or.inl h)) (fun hh => Or.elim hh (fun h => (Or.inr (Or.inl h))) (fun hh => Or.elim hh (fun h => (Or.inr (Or.inr (Or.inl (by omega))))) (fun hh => Or.elim hh (fun h => (Or.inr (Or.inr (Or.inl (by omega))))) (fun h => (Or.inr (Or.inr (Or.inr h))))))))) (Ke.tr (fun pp kk => (fun hh => Or.elim hh (fun h => (Or.inr (Or.inr (Or.inl h)))) (fun h => (Or.inr (Or.inr (Or.inr h)))))) Ke.rf k6) k8), ⟨⟨cn, by omega, (Eq.trans (k8 13 2 (by decide)) (Eq.trans (k6 13 2 (by decide)) e_cn))⟩, ⟨cm, by omega, (Eq.trans (k8 20 2 (by decide)) (Eq.trans (k6 20 2 (by decide)) e_cm))⟩, ⟨L, by omega, (Eq.trans (k8 1 4 (by decide)) (Eq.trans (k6 1 4 (by decide)) e_L))⟩, (fun kk hkk => by rw [show M7 3 kk = M 3 kk from (Eq.trans (k8 3 kk (by unfold WS; omega)) (Eq.trans (k6 3 kk (by unfold WTB; omega)) rfl))]; exact hv kk hkk), (DI_ke (by intro k; unfold WS; omega) k8 (DI_ke (by intro k; unfold WTB; omega) k6 hD)), ⟨n, by omega, (Eq.trans (k8 6 2 (by decide)) (Eq.trans (k6 6 2 (by decide)) e_n))⟩, ⟨un, wn, by omega, by omega, (Eq.trans (k8 41 4 (by decide)) (Eq.trans (k6 41 4 (by decide)) e_un)), (Eq.trans (k8 41 5 (by decide)) (Eq.trans (k6 41 5 (by decide)) e_wn))⟩, ⟨b, by omega, (Eq.trans (k8 46 2 (by decide)) (Eq.trans (k6 46 2 (by decide)) e_b))⟩, (fun j hj => by obtain ⟨q, hq, eq⟩ := hkd j hj; exact ⟨q, hq, (show M7 47 j = M 47 j from (Eq.trans (k8 47 j (by unfold WS; omega)) (Eq.trans (k6 47 j (by unfold WTB; omega)) rfl))).trans eq⟩), ⟨ra, by omega, (Eq.trans (k8 46 3 (by decide)) (Eq.trans (k6 46 3 (by decide)) e_ra))⟩, (fun j hj => by obtain ⟨s, hs, es⟩ := hsl j hj; exact ⟨s, hs, (show M7 (50 + 2 * j) 3 = M (50 + 2 * j) 3 from (Eq.trans (k8 (50 + 2 * j) 3 (by unfold WS; omega)) (Eq.trans (k6 (50 + 2 * j) 3 (by unfold WTB; omega)) rfl))).trans es⟩), (fun j hj => by obtain ⟨q, hq, eq⟩ := hS j hj; exact ⟨q, hq, (show M7 36 j = M 36 j from (Eq.trans (k8 36 j (by unfold WS; omega)) (Eq.trans (k6 36 j (by unfold WTB; omega)) rfl))).trans eq⟩)⟩⟩)
      · refine xr_iload_n dX9_judge_34 0 rfl ?_
        exact xr_iret dX9_judge_35 rfl rfl (⟨_, rfl, rfl, rfl, Ke.rf, ⟨⟨cn, by omega, e_cn⟩, ⟨cm, by omega, e_cm⟩, ⟨L, by omega, e_L⟩, (fun kk hkk => by rw [show M 3 kk = M 3 kk from rfl]; exact hv kk hkk), hD, ⟨n, by omega, e_n⟩, ⟨un, wn, by omega, by omega, e_un, e_wn⟩, ⟨b, by omega, e_b⟩, (fun j hj => by obtain ⟨q, hq, eq⟩ := hkd j hj; exact ⟨q, hq, (show M 47 j = M 47 j from rfl).trans eq⟩), ⟨ra, by omega, e_ra⟩, (fun j hj => by obtain ⟨s, hs, es⟩ := hsl j hj; exact ⟨s, hs, (show M (50 + 2 * j) 3 = M (50 + 2 * j) 3 from rfl).trans es⟩), (fun j hj => by obtain ⟨q, hq, eq⟩ := hS j hj; exact ⟨q, hq, (show M 36 j = M 36 j from rfl).trans eq⟩)⟩⟩)
    · refine xr_iconst (v := -1) dX9_judge_18 rfl ?_
      exact xr_iret dX9_judge_19 rfl rfl (⟨_, rfl, rfl, rfl, Ke.rf, ⟨⟨cn, by omega, e_cn⟩, ⟨cm, by omega, e_cm⟩, ⟨L, by omega, e_L⟩, (fun kk hkk => by rw [show M 3 kk = M 3 kk from rfl]; exact hv kk hkk), hD, ⟨n, by omega, e_n⟩, ⟨un, wn, by omega, by omega, e_un, e_wn⟩, ⟨b, by omega, e_b⟩, (fun j hj => by obtain ⟨q, hq, eq⟩ := hkd j hj; exact ⟨q, hq, (show M 47 j = M 47 j from rfl).trans eq⟩), ⟨ra, by omega, e_ra⟩, (fun j hj => by obtain ⟨s, hs, es⟩ := hsl j hj; exact ⟨s, hs, (show M (50 + 2 * j) 3 = M (50 + 2 * j) 3 from rfl).trans es⟩), (fun j hj => by obtain ⟨q, hq, eq⟩ := hS j hj; exact ⟨q, hq, (show M 36 j = M 36 j from rfl).trans eq⟩)⟩⟩)
set_option maxRecDepth 100000 in
set_option maxHeartbeats 4000000 in
theorem g_X9_begun (sh h w : Int32) {l : Launch} {G : xG} {M : xM} {J : xJ} (hI : InvC M) : x_M l G fX9_begun 7 0 0 [.ref (0), .int (sh), .int (h), .int (w)] x_SH M J (qKI WTH M J (fun r M2 => InvC M2)) := by
  refine xb_of pX9 (Nat.le_of_ble_eq_true rfl) rfl ?_
  obtain ⟨⟨cn, h_cn, e_cn⟩, ⟨cm, h_cm, e_cm⟩, ⟨L, h_L, e_L⟩, hv, hD, ⟨n, h_n, e_n⟩, ⟨un, wn, h_uw, h_wn, e_un, e_wn⟩, ⟨b, h_b, e_b⟩, hkd, ⟨ra, h_ra, e_ra⟩, hsl, hS⟩ := hI
  refine xr_iload_n dX9_begun_0 1 rfl ?_
  refine xb_cS (As := [.int (sh)]) (rest := []) mlX9_88 (c_X9_isShelf sh) dX9_begun_1 rfl rfl (Nat.le_of_ble_eq_true rfl) (by decide) (by decide) ?_
  refine xb_beq (tgt := 39) dX9_begun_4 rfl (fun c1 => ?_) (fun c1 => ?_)
  · refine xr_ldc coX9_105 dX9_begun_39 ?_
    exact xr_iret dX9_begun_41 rfl rfl (⟨_, rfl, rfl, rfl, Ke.rf, ⟨⟨cn, by omega, e_cn⟩, ⟨cm, by omega, e_cm⟩, ⟨L, by omega, e_L⟩, (fun kk hkk => by rw [show M 3 kk = M 3 kk from rfl]; exact hv kk hkk), hD, ⟨n, by omega, e_n⟩, ⟨un, wn, by omega, by omega, e_un, e_wn⟩, ⟨b, by omega, e_b⟩, (fun j hj => by obtain ⟨q, hq, eq⟩ := hkd j hj; exact ⟨q, hq, (show M 47 j = M 47 j from rfl).trans eq⟩), ⟨ra, by omega, e_ra⟩, (fun j hj => by obtain ⟨s, hs, es⟩ := hsl j hj; exact ⟨s, hs, (show M (50 + 2 * j) 3 = M (50 + 2 * j) 3 from rfl).trans es⟩), (fun j hj => by obtain ⟨q, hq, eq⟩ := hS j hj; exact ⟨q, hq, (show M 36 j = M 36 j from rfl).trans eq⟩)⟩⟩)
  · obtain ⟨s_, hs_, rfl⟩ := x_nat (N := 6) (by decide) rfl c1
    refine xr_aload_n dX9_begun_7 0 rfl ?_
    refine xr_getR flX9_28 dX9_begun_8 s_0 rfl ?_
    refine xr_iload_n dX9_begun_11 2 rfl ?_
    refine xb_cV (As := [.int (h)]) (rest := []) mlX9_118 (c_X5_has h (by omega) e_cn) dX9_begun_12 s_13 rfl rfl (Nat.le_of_ble_eq_true rfl) (by decide) (by decide) ?_
    refine xb_beq (tgt := 39) dX9_begun_15 rfl (fun c2 => ?_) (fun c2 => ?_)
    · refine xr_ldc coX9_105 dX9_begun_39 ?_
      exact xr_iret dX9_begun_41 rfl rfl (⟨_, rfl, rfl, rfl, Ke.rf, ⟨⟨cn, by omega, e_cn⟩, ⟨cm, by omega, e_cm⟩, ⟨L, by omega, e_L⟩, (fun kk hkk => by rw [show M 3 kk = M 3 kk from rfl]; exact hv kk hkk), hD, ⟨n, by omega, e_n⟩, ⟨un, wn, by omega, by omega, e_un, e_wn⟩, ⟨b, by omega, e_b⟩, (fun j hj => by obtain ⟨q, hq, eq⟩ := hkd j hj; exact ⟨q, hq, (show M 47 j = M 47 j from rfl).trans eq⟩), ⟨ra, by omega, e_ra⟩, (fun j hj => by obtain ⟨s, hs, es⟩ := hsl j hj; exact ⟨s, hs, (show M (50 + 2 * j) 3 = M (50 + 2 * j) 3 from rfl).trans es⟩), (fun j hj => by obtain ⟨q, hq, eq⟩ := hS j hj; exact ⟨q, hq, (show M 36 j = M 36 j from rfl).trans eq⟩)⟩⟩)
    · obtain ⟨h_, hh_, rfl⟩ := x_nat (N := cn) (by omega) rfl c2
      refine xr_iload_n dX9_begun_18 3 rfl ?_
      refine xr_if_lt (tgt := 39) dX9_begun_19 rfl (fun c3 => ?_) (fun c3 => ?_)
      · refine xr_ldc coX9_105 dX9_begun_39 ?_
        exact xr_iret dX9_begun_41 rfl rfl (⟨_, rfl, rfl, rfl, Ke.rf, ⟨⟨cn, by omega, e_cn⟩, ⟨cm, by omega, e_cm⟩, ⟨L, by omega, e_L⟩, (fun kk hkk => by rw [show M 3 kk = M 3 kk from rfl]; exact hv kk hkk), hD, ⟨n, by omega, e_n⟩, ⟨un, wn, by omega, by omega, e_un, e_wn⟩, ⟨b, by omega, e_b⟩, (fun j hj => by obtain ⟨q, hq, eq⟩ := hkd j hj; exact ⟨q, hq, (show M 47 j = M 47 j from rfl).trans eq⟩), ⟨ra, by omega, e_ra⟩, (fun j hj => by obtain ⟨s, hs, es⟩ := hsl j hj; exact ⟨s, hs, (show M (50 + 2 * j) 3 = M (50 + 2 * j) 3 from rfl).trans es⟩), (fun j hj => by obtain ⟨q, hq, eq⟩ := hS j hj; exact ⟨q, hq, (show M 36 j = M 36 j from rfl).trans eq⟩)⟩⟩)
      · refine xr_iload_n dX9_begun_22 3 rfl ?_
        refine xr_iconst (v := 1) dX9_begun_23 rfl ?_
        refine xr_icmp_gt (tgt := 39) dX9_begun_24 rfl (fun c4 => ?_) (fun c4 => ?_)
        · refine xr_ldc coX9_105 dX9_begun_39 ?_
          exact xr_iret dX9_begun_41 rfl rfl (⟨_, rfl, rfl, rfl, Ke.rf, ⟨⟨cn, by omega, e_cn⟩, ⟨cm, by omega, e_cm⟩, ⟨L, by omega, e_L⟩, (fun kk hkk => by rw [show M 3 kk = M 3 kk from rfl]; exact hv kk hkk), hD, ⟨n, by omega, e_n⟩, ⟨un, wn, by omega, by omega, e_un, e_wn⟩, ⟨b, by omega, e_b⟩, (fun j hj => by obtain ⟨q, hq, eq⟩ := hkd j hj; exact ⟨q, hq, (show M 47 j = M 47 j from rfl).trans eq⟩), ⟨ra, by omega, e_ra⟩, (fun j hj => by obtain ⟨s, hs, es⟩ := hsl j hj; exact ⟨s, hs, (show M (50 + 2 * j) 3 = M (50 + 2 * j) 3 from rfl).trans es⟩), (fun j hj => by obtain ⟨q, hq, eq⟩ := hS j hj; exact ⟨q, hq, (show M 36 j = M 36 j from rfl).trans eq⟩)⟩⟩)
        · refine xr_aload_n dX9_begun_27 0 rfl ?_
          refine xr_getR flX9_67 dX9_begun_28 s_0 rfl ?_
          refine xr_iload_n dX9_begun_31 1 rfl ?_
          refine xb_aald (j := s_) (q := 50 + 2 * s_) (by decide) dX9_begun_32 s_49 hs_ (by decide) (if_pos hs_) ?_
          refine xb_cV (As := []) (rest := []) mlX9_94 (c_X6_hasBytes (s_shelf hs_) (s_elem hs_)) dX9_begun_33 (s_shelf hs_) rfl rfl (Nat.le_of_ble_eq_true rfl) (by decide) (by decide) ?_
          refine xb_bne (tgt := 42) dX9_begun_36 rfl (fun c5 => ?_) (fun c5 => ?_)
          · refine xr_aload_n dX9_begun_42 0 rfl ?_
            refine xr_getR flX9_28 dX9_begun_43 s_0 rfl ?_
            refine xr_getR flX9_121 dX9_begun_46 s_13 rfl ?_
            refine xr_iload_n dX9_begun_49 2 rfl ?_
            refine xb_aald (j := h_) (q := 15 + h_) (by decide) dX9_begun_50 s_14 (by omega) (by decide) (if_pos (by omega)) ?_
            refine xb_cV (As := []) (rest := []) mlX9_167 (c_X2_lies (s_hp15 (by omega))) dX9_begun_51 (s_hp15 (by omega)) rfl rfl (Nat.le_of_ble_eq_true rfl) (by decide) (by decide) ?_
            refine xb_beq (tgt := 61) dX9_begun_54 rfl (fun c6 => ?_) (fun c6 => ?_)
            · refine xr_bipush (v := 9) dX9_begun_61 rfl ?_
              refine xr_istore (ls2 := [(4, .int (9)), (0, .ref (0)), (1, .int (nI (s_))), (2, .int (nI (h_))), (3, .int (w))]) dX9_begun_63 (by decide) rfl ?_
              refine xr_iconst (v := 0) dX9_begun_65 rfl ?_
              refine xr_istore (ls2 := [(5, .int (0)), (4, .int (9)), (0, .ref (0)), (1, .int (nI (s_))), (2, .int (nI (h_))), (3, .int (w))]) dX9_begun_66 (by decide) rfl ?_
              refine xr_bipush (v := -2) dX9_begun_68 rfl ?_
              refine xr_istore (ls2 := [(6, .int ((-2))), (5, .int (0)), (4, .int (9)), (0, .ref (0)), (1, .int (nI (s_))), (2, .int (nI (h_))), (3, .int (w))]) dX9_begun_70 (by decide) rfl ?_
              refine xr_iload dX9_begun_72 2 rfl ?_
              refine xr_ineg dX9_begun_74 ?_
              refine xb_top (y := (-9)) (by decide) ?_
              refine xr_istore (ls2 := [(7, .int ((-9))), (6, .int ((-2))), (5, .int (0)), (4, .int (9)), (0, .ref (0)), (1, .int (nI (s_))), (2, .int (nI (h_))), (3, .int (w))]) dX9_begun_75 (by decide) rfl ?_
              refine xb_ls (ls2 := [(7, .int ((-9))), (6, .int ((-2))), (5, .int (0)), (4, .int (9)), (3, .int (w)), (2, .int (nI (h_))), (1, .int (nI (s_))), (0, .ref (0))]) [0, 1, 2, 3, 7, 6, 5, 4] rfl ?_
              refine bg_l (by omega) (by omega) (fun k hk => by have h3 := (show M 3 k = M 3 k from rfl); rw [h3]; exact hv k hk) (by omega) e_L (by omega) e_cn (fun q7 q8 M9 k10 => ?_) 19 0 (-2) 0 M (by omega) Ke.rf
              refine xr_iload_n dX9_begun_150 2 rfl ?_
              refine xr_if_ne (tgt := 159) dX9_begun_151 rfl (fun c11 => ?_) (fun c11 => ?_)
              · refine xr_iload dX9_begun_159 0 rfl ?_
                exact xr_iret dX9_begun_161 rfl rfl (⟨_, rfl, rfl, rfl, (Ke.tr (fun _ _ h => h) Ke.rf k10), ⟨⟨cn, by omega, (Eq.trans (k10 13 2 (by decide)) e_cn)⟩, ⟨cm, by omega, (Eq.trans (k10 20 2 (by decide)) e_cm)⟩, ⟨L, by omega, (Eq.trans (k10 1 4 (by decide)) e_L)⟩, (fun kk hkk => by rw [show M9 3 kk = M 3 kk from (Eq.trans (k10 3 kk (by unfold WTH; omega)) rfl)]; exact hv kk hkk), (DI_ke (by intro k; unfold WTH; omega) k10 hD), ⟨n, by omega, (Eq.trans (k10 6 2 (by decide)) e_n)⟩, ⟨un, wn, by omega, by omega, (Eq.trans (k10 41 4 (by decide)) e_un), (Eq.trans (k10 41 5 (by decide)) e_wn)⟩, ⟨b, by omega, (Eq.trans (k10 46 2 (by decide)) e_b)⟩, (fun j hj => by obtain ⟨q, hq, eq⟩ := hkd j hj; exact ⟨q, hq, (show M9 47 j = M 47 j from (Eq.trans (k10 47 j (by unfold WTH; omega)) rfl)).trans eq⟩), ⟨ra, by omega, (Eq.trans (k10 46 3 (by decide)) e_ra)⟩, (fun j hj => by obtain ⟨s, hs, es⟩ := hsl j hj; exact ⟨s, hs, (show M9 (50 + 2 * j) 3 = M (50 + 2 * j) 3 from (Eq.trans (k10 (50 + 2 * j) 3 (by unfold WTH; omega)) rfl)).trans es⟩), (fun j hj => by obtain ⟨q, hq, eq⟩ := hS j hj; exact ⟨q, hq, (show M9 36 j = M 36 j from (Eq.trans (k10 36 j (by unfold WTH; omega)) rfl)).trans eq⟩)⟩⟩)
              · refine xr_iload dX9_begun_154 1 rfl ?_
                refine xr_goto (tgt := 161) dX9_begun_156 rfl ?_
                exact xr_iret dX9_begun_161 rfl rfl (⟨_, rfl, rfl, rfl, (Ke.tr (fun _ _ h => h) Ke.rf k10), ⟨⟨cn, by omega, (Eq.trans (k10 13 2 (by decide)) e_cn)⟩, ⟨cm, by omega, (Eq.trans (k10 20 2 (by decide)) e_cm)⟩, ⟨L, by omega, (Eq.trans (k10 1 4 (by decide)) e_L)⟩, (fun kk hkk => by rw [show M9 3 kk = M 3 kk from (Eq.trans (k10 3 kk (by unfold WTH; omega)) rfl)]; exact hv kk hkk), (DI_ke (by intro k; unfold WTH; omega) k10 hD), ⟨n, by omega, (Eq.trans (k10 6 2 (by decide)) e_n)⟩, ⟨un, wn, by omega, by omega, (Eq.trans (k10 41 4 (by decide)) e_un), (Eq.trans (k10 41 5 (by decide)) e_wn)⟩, ⟨b, by omega, (Eq.trans (k10 46 2 (by decide)) e_b)⟩, (fun j hj => by obtain ⟨q, hq, eq⟩ := hkd j hj; exact ⟨q, hq, (show M9 47 j = M 47 j from (Eq.trans (k10 47 j (by unfold WTH; omega)) rfl)).trans eq⟩), ⟨ra, by omega, (Eq.trans (k10 46 3 (by decide)) e_ra)⟩, (fun j hj => by obtain ⟨s, hs, es⟩ := hsl j hj; exact ⟨s, hs, (show M9 (50 + 2 * j) 3 = M (50 + 2 * j) 3 from (Eq.trans (k10 (50 + 2 * j) 3 (by unfold WTH; omega)) rfl)).trans es⟩), (fun j hj => by obtain ⟨q, hq, eq⟩ := hS j hj; exact ⟨q, hq, (show M9 36 j = M 36 j from (Eq.trans (k10 36 j (by unfold WTH; omega)) rfl)).trans eq⟩)⟩⟩)
            · refine xr_iconst (v := 0) dX9_begun_57 rfl ?_
              refine xr_goto (tgt := 63) dX9_begun_58 rfl ?_
              refine xr_istore (ls2 := [(4, .int (0)), (0, .ref (0)), (1, .int (nI (s_))), (2, .int (nI (h_))), (3, .int (w))]) dX9_begun_63 (by decide) rfl ?_
              refine xr_iconst (v := 0) dX9_begun_65 rfl ?_
              refine xr_istore (ls2 := [(5, .int (0)), (4, .int (0)), (0, .ref (0)), (1, .int (nI (s_))), (2, .int (nI (h_))), (3, .int (w))]) dX9_begun_66 (by decide) rfl ?_
              refine xr_bipush (v := -2) dX9_begun_68 rfl ?_
              refine xr_istore (ls2 := [(6, .int ((-2))), (5, .int (0)), (4, .int (0)), (0, .ref (0)), (1, .int (nI (s_))), (2, .int (nI (h_))), (3, .int (w))]) dX9_begun_70 (by decide) rfl ?_
              refine xr_iload dX9_begun_72 2 rfl ?_
              refine xr_ineg dX9_begun_74 ?_
              refine xb_top (y := 0) (by decide) ?_
              refine xr_istore (ls2 := [(7, .int (0)), (6, .int ((-2))), (5, .int (0)), (4, .int (0)), (0, .ref (0)), (1, .int (nI (s_))), (2, .int (nI (h_))), (3, .int (w))]) dX9_begun_75 (by decide) rfl ?_
              refine xr_iload dX9_begun_77 0 rfl ?_
              refine xr_iload dX9_begun_79 3 rfl ?_
              refine xr_icmp_gt (tgt := 150) dX9_begun_81 rfl (fun c => absurd c (by decide)) (fun _ => ?_)
              refine xr_aload_n dX9_begun_84 4 rfl ?_
              refine xr_getR flX9_40 dX9_begun_85 s_0 rfl ?_
              refine xr_callV (As := []) (rest := []) mlX9_192 (g_X7_begin (by omega) e_cn) dX9_begun_88 s_27 rfl rfl (Nat.le_of_ble_eq_true rfl) (by decide) ⟨by decide, by decide⟩ (fun v s2 M13 J2 hq => ?_)
              obtain ⟨rfl, rfl, rfl, k14, hx12⟩ := hq
              try dsimp only [Option.toList, List.cons_append, List.nil_append]
              refine xr_aload_n dX9_begun_91 4 rfl ?_
              refine xr_getR flX9_40 dX9_begun_92 s_0 rfl ?_
              refine xr_getR flX9_201 dX9_begun_95 s_27 rfl ?_
              refine xr_getR flX9_121 dX9_begun_98 s_28 rfl ?_
              refine xr_iload_n dX9_begun_101 6 rfl ?_
              refine xb_aald (j := h_) (q := 30 + h_) (by decide) dX9_begun_102 s_29 (by omega) (by decide) (if_pos (by omega)) ?_
              refine xr_iload dX9_begun_103 0 rfl ?_
              refine xr_putI fpX9_186 dX9_begun_105 (s_hp30 (by omega)) rfl rfl rfl ?_
              refine xr_aload_n dX9_begun_108 4 rfl ?_
              refine xr_getR flX9_40 dX9_begun_109 s_0 rfl ?_
              refine xr_aload_n dX9_begun_112 4 rfl ?_
              refine xr_getR flX9_67 dX9_begun_113 s_0 rfl ?_
              refine xr_iload_n dX9_begun_116 5 rfl ?_
              refine xb_aald (j := s_) (q := 50 + 2 * s_) (by decide) dX9_begun_117 s_49 hs_ (by decide) (if_pos hs_) ?_
              refine xr_iload_n dX9_begun_118 6 rfl ?_
              refine xr_callV (As := [.ref (50 + 2 * s_), .int (nI (h_))]) (rest := []) mlX9_251 (g_X7_firstUnlike (h := h_) (by omega) (s_shelf hs_) (s_elem hs_) (fun k hk => by have h3 := (show (x_up M13 (30 + h_) 3 0) 3 k = M 3 k from (Eq.trans (congrFun (x_up_n _ _ _ (by first | decide | omega)) _) (Eq.trans (k14 3 k (by unfold WTB; omega)) rfl))); rw [h3]; exact hv k hk) (by omega) (Eq.trans (congrFun (x_up_n _ _ _ (by omega)) _) (Eq.trans (k14 1 4 (by decide)) e_L)) (by omega) (Eq.trans (congrFun (x_up_n _ _ _ (by omega)) _) hx12)) dX9_begun_119 s_27 rfl rfl (Nat.le_of_ble_eq_true rfl) (by decide) ⟨by decide, by decide⟩ (fun v s2 M15 J2 hq => ?_)
              obtain ⟨r17, rfl, rfl, rfl, k16, _⟩ := hq
              try dsimp only [Option.toList, List.cons_append, List.nil_append]
              refine xr_bipush (v := -2) dX9_begun_122 rfl ?_
              refine xr_icmp_ne (tgt := 144) dX9_begun_124 rfl (fun c18 => ?_) (fun c18 => ?_)
              · refine xr_iinc (v := 1) (ls2 := [(7, .int (1)), (6, .int ((-2))), (5, .int (0)), (4, .int (0)), (0, .ref (0)), (1, .int (nI (s_))), (2, .int (nI (h_))), (3, .int (w))]) dX9_begun_144 0 rfl rfl (by decide) rfl ?_
                refine xr_goto (tgt := 77) dX9_begun_147 rfl ?_
                refine xr_iload dX9_begun_77 0 rfl ?_
                refine xr_iload dX9_begun_79 3 rfl ?_
                refine xr_icmp_gt (tgt := 150) dX9_begun_81 rfl (fun _ => ?_) (fun c => absurd (by decide) c)
                refine xr_iload_n dX9_begun_150 7 rfl ?_
                refine xr_if_ne (tgt := 159) dX9_begun_151 rfl (fun c19 => ?_) (fun c19 => ?_)
                · refine xr_iload dX9_begun_159 1 rfl ?_
                  exact xr_iret dX9_begun_161 rfl rfl (⟨_, rfl, rfl, rfl, (Ke.tr (fun pp kk => (fun hh => Or.elim hh (fun h => (Or.inl h)) (fun hh => Or.elim hh (fun h => (Or.inr (Or.inl h))) (fun hh => Or.elim hh (fun h => (Or.inr (Or.inr (Or.inl (by omega))))) (fun hh => Or.elim hh (fun h => (Or.inr (Or.inr (Or.inl (by omega))))) (fun h => (Or.inr (Or.inr (Or.inr h))))))))) (Ke.up (Or.inr (Or.inr (Or.inr (by omega)))) (Ke.tr (fun pp kk => (fun hh => Or.elim hh (fun h => (Or.inr (Or.inr (Or.inl h)))) (fun h => (Or.inr (Or.inr (Or.inr h)))))) Ke.rf k14)) k16), ⟨⟨cn, by omega, (Eq.trans (k16 13 2 (by decide)) (Eq.trans (congrFun (x_up_n _ _ _ (by omega)) _) (Eq.trans (k14 13 2 (by decide)) e_cn)))⟩, ⟨cm, by omega, (Eq.trans (k16 20 2 (by decide)) (Eq.trans (congrFun (x_up_n _ _ _ (by omega)) _) (Eq.trans (k14 20 2 (by decide)) e_cm)))⟩, ⟨L, by omega, (Eq.trans (k16 1 4 (by decide)) (Eq.trans (congrFun (x_up_n _ _ _ (by omega)) _) (Eq.trans (k14 1 4 (by decide)) e_L)))⟩, (fun kk hkk => by rw [show M15 3 kk = M 3 kk from (Eq.trans (k16 3 kk (by unfold WS; omega)) (Eq.trans (congrFun (x_up_n _ _ _ (by omega)) _) (Eq.trans (k14 3 kk (by unfold WTB; omega)) rfl)))]; exact hv kk hkk), (DI_ke (by intro k; unfold WS; omega) k16 (DI_up (by omega) (DI_ke (by intro k; unfold WTB; omega) k14 hD))), ⟨n, by omega, (Eq.trans (k16 6 2 (by decide)) (Eq.trans (congrFun (x_up_n _ _ _ (by omega)) _) (Eq.trans (k14 6 2 (by decide)) e_n)))⟩, ⟨un, wn, by omega, by omega, (Eq.trans (k16 41 4 (by decide)) (Eq.trans (congrFun (x_up_n _ _ _ (by omega)) _) (Eq.trans (k14 41 4 (by decide)) e_un))), (Eq.trans (k16 41 5 (by decide)) (Eq.trans (congrFun (x_up_n _ _ _ (by omega)) _) (Eq.trans (k14 41 5 (by decide)) e_wn)))⟩, ⟨b, by omega, (Eq.trans (k16 46 2 (by decide)) (Eq.trans (congrFun (x_up_n _ _ _ (by omega)) _) (Eq.trans (k14 46 2 (by decide)) e_b)))⟩, (fun j hj => by obtain ⟨q, hq, eq⟩ := hkd j hj; exact ⟨q, hq, (show M15 47 j = M 47 j from (Eq.trans (k16 47 j (by unfold WS; omega)) (Eq.trans (congrFun (x_up_n _ _ _ (by omega)) _) (Eq.trans (k14 47 j (by unfold WTB; omega)) rfl)))).trans eq⟩), ⟨ra, by omega, (Eq.trans (k16 46 3 (by decide)) (Eq.trans (congrFun (x_up_n _ _ _ (by omega)) _) (Eq.trans (k14 46 3 (by decide)) e_ra)))⟩, (fun j hj => by obtain ⟨s, hs, es⟩ := hsl j hj; exact ⟨s, hs, (show M15 (50 + 2 * j) 3 = M (50 + 2 * j) 3 from (Eq.trans (k16 (50 + 2 * j) 3 (by unfold WS; omega)) (Eq.trans (congrFun (x_up_n _ _ _ (by omega)) _) (Eq.trans (k14 (50 + 2 * j) 3 (by unfold WTB; omega)) rfl)))).trans es⟩), (fun j hj => by obtain ⟨q, hq, eq⟩ := hS j hj; exact ⟨q, hq, (show M15 36 j = M 36 j from (Eq.trans (k16 36 j (by unfold WS; omega)) (Eq.trans (congrFun (x_up_n _ _ _ (by omega)) _) (Eq.trans (k14 36 j (by unfold WTB; omega)) rfl)))).trans eq⟩)⟩⟩)
                · refine xr_iload dX9_begun_154 2 rfl ?_
                  refine xr_goto (tgt := 161) dX9_begun_156 rfl ?_
                  exact xr_iret dX9_begun_161 rfl rfl (⟨_, rfl, rfl, rfl, (Ke.tr (fun pp kk => (fun hh => Or.elim hh (fun h => (Or.inl h)) (fun hh => Or.elim hh (fun h => (Or.inr (Or.inl h))) (fun hh => Or.elim hh (fun h => (Or.inr (Or.inr (Or.inl (by omega))))) (fun hh => Or.elim hh (fun h => (Or.inr (Or.inr (Or.inl (by omega))))) (fun h => (Or.inr (Or.inr (Or.inr h))))))))) (Ke.up (Or.inr (Or.inr (Or.inr (by omega)))) (Ke.tr (fun pp kk => (fun hh => Or.elim hh (fun h => (Or.inr (Or.inr (Or.inl h)))) (fun h => (Or.inr (Or.inr (Or.inr h)))))) Ke.rf k14)) k16), ⟨⟨cn, by omega, (Eq.trans (k16 13 2 (by decide)) (Eq.trans (congrFun (x_up_n _ _ _ (by omega)) _) (Eq.trans (k14 13 2 (by decide)) e_cn)))⟩, ⟨cm, by omega, (Eq.trans (k16 20 2 (by decide)) (Eq.trans (congrFun (x_up_n _ _ _ (by omega)) _) (Eq.trans (k14 20 2 (by decide)) e_cm)))⟩, ⟨L, by omega, (Eq.trans (k16 1 4 (by decide)) (Eq.trans (congrFun (x_up_n _ _ _ (by omega)) _) (Eq.trans (k14 1 4 (by decide)) e_L)))⟩, (fun kk hkk => by rw [show M15 3 kk = M 3 kk from (Eq.trans (k16 3 kk (by unfold WS; omega)) (Eq.trans (congrFun (x_up_n _ _ _ (by omega)) _) (Eq.trans (k14 3 kk (by unfold WTB; omega)) rfl)))]; exact hv kk hkk), (DI_ke (by intro k; unfold WS; omega) k16 (DI_up (by omega) (DI_ke (by intro k; unfold WTB; omega) k14 hD))), ⟨n, by omega, (Eq.trans (k16 6 2 (by decide)) (Eq.trans (congrFun (x_up_n _ _ _ (by omega)) _) (Eq.trans (k14 6 2 (by decide)) e_n)))⟩, ⟨un, wn, by omega, by omega, (Eq.trans (k16 41 4 (by decide)) (Eq.trans (congrFun (x_up_n _ _ _ (by omega)) _) (Eq.trans (k14 41 4 (by decide)) e_un))), (Eq.trans (k16 41 5 (by decide)) (Eq.trans (congrFun (x_up_n _ _ _ (by omega)) _) (Eq.trans (k14 41 5 (by decide)) e_wn)))⟩, ⟨b, by omega, (Eq.trans (k16 46 2 (by decide)) (Eq.trans (congrFun (x_up_n _ _ _ (by omega)) _) (Eq.trans (k14 46 2 (by decide)) e_b)))⟩, (fun j hj => by obtain ⟨q, hq, eq⟩ := hkd j hj; exact ⟨q, hq, (show M15 47 j = M 47 j from (Eq.trans (k16 47 j (by unfold WS; omega)) (Eq.trans (congrFun (x_up_n _ _ _ (by omega)) _) (Eq.trans (k14 47 j (by unfold WTB; omega)) rfl)))).trans eq⟩), ⟨ra, by omega, (Eq.trans (k16 46 3 (by decide)) (Eq.trans (congrFun (x_up_n _ _ _ (by omega)) _) (Eq.trans (k14 46 3 (by decide)) e_ra)))⟩, (fun j hj => by obtain ⟨s, hs, es⟩ := hsl j hj; exact ⟨s, hs, (show M15 (50 + 2 * j) 3 = M (50 + 2 * j) 3 from (Eq.trans (k16 (50 + 2 * j) 3 (by unfold WS; omega)) (Eq.trans (congrFun (x_up_n _ _ _ (by omega)) _) (Eq.trans (k14 (50 + 2 * j) 3 (by unfold WTB; omega)) rfl)))).trans es⟩), (fun j hj => by obtain ⟨q, hq, eq⟩ := hS j hj; exact ⟨q, hq, (show M15 36 j = M 36 j from (Eq.trans (k16 36 j (by unfold WS; omega)) (Eq.trans (congrFun (x_up_n _ _ _ (by omega)) _) (Eq.trans (k14 36 j (by unfold WTB; omega)) rfl)))).trans eq⟩)⟩⟩)
              · refine xr_iload dX9_begun_127 2 rfl ?_
                refine xr_if_ne (tgt := 137) dX9_begun_129 rfl (fun c => absurd (by decide) c) (fun _ => ?_)
                refine xr_iload dX9_begun_132 0 rfl ?_
                refine xr_goto (tgt := 139) dX9_begun_134 rfl ?_
                refine xr_istore (ls2 := [(6, .int (0)), (7, .int (0)), (5, .int (0)), (4, .int (0)), (0, .ref (0)), (1, .int (nI (s_))), (2, .int (nI (h_))), (3, .int (w))]) dX9_begun_139 (by decide) rfl ?_
                refine xr_iinc (v := 1) (ls2 := [(5, .int (1)), (6, .int (0)), (7, .int (0)), (4, .int (0)), (0, .ref (0)), (1, .int (nI (s_))), (2, .int (nI (h_))), (3, .int (w))]) dX9_begun_141 2 rfl rfl (by decide) rfl ?_
                refine xr_iinc (v := 1) (ls2 := [(7, .int (1)), (5, .int (1)), (6, .int (0)), (4, .int (0)), (0, .ref (0)), (1, .int (nI (s_))), (2, .int (nI (h_))), (3, .int (w))]) dX9_begun_144 2 rfl rfl (by decide) rfl ?_
                refine xr_goto (tgt := 77) dX9_begun_147 rfl ?_
                refine xr_iload dX9_begun_77 0 rfl ?_
                refine xr_iload dX9_begun_79 3 rfl ?_
                refine xr_icmp_gt (tgt := 150) dX9_begun_81 rfl (fun _ => ?_) (fun c => absurd (by decide) c)
                refine xr_iload_n dX9_begun_150 7 rfl ?_
                refine xr_if_ne (tgt := 159) dX9_begun_151 rfl (fun c20 => ?_) (fun c20 => ?_)
                · refine xr_iload dX9_begun_159 2 rfl ?_
                  exact xr_iret dX9_begun_161 rfl rfl (⟨_, rfl, rfl, rfl, (Ke.tr (fun pp kk => (fun hh => Or.elim hh (fun h => (Or.inl h)) (fun hh => Or.elim hh (fun h => (Or.inr (Or.inl h))) (fun hh => Or.elim hh (fun h => (Or.inr (Or.inr (Or.inl (by omega))))) (fun hh => Or.elim hh (fun h => (Or.inr (Or.inr (Or.inl (by omega))))) (fun h => (Or.inr (Or.inr (Or.inr h))))))))) (Ke.up (Or.inr (Or.inr (Or.inr (by omega)))) (Ke.tr (fun pp kk => (fun hh => Or.elim hh (fun h => (Or.inr (Or.inr (Or.inl h)))) (fun h => (Or.inr (Or.inr (Or.inr h)))))) Ke.rf k14)) k16), ⟨⟨cn, by omega, (Eq.trans (k16 13 2 (by decide)) (Eq.trans (congrFun (x_up_n _ _ _ (by omega)) _) (Eq.trans (k14 13 2 (by decide)) e_cn)))⟩, ⟨cm, by omega, (Eq.trans (k16 20 2 (by decide)) (Eq.trans (congrFun (x_up_n _ _ _ (by omega)) _) (Eq.trans (k14 20 2 (by decide)) e_cm)))⟩, ⟨L, by omega, (Eq.trans (k16 1 4 (by decide)) (Eq.trans (congrFun (x_up_n _ _ _ (by omega)) _) (Eq.trans (k14 1 4 (by decide)) e_L)))⟩, (fun kk hkk => by rw [show M15 3 kk = M 3 kk from (Eq.trans (k16 3 kk (by unfold WS; omega)) (Eq.trans (congrFun (x_up_n _ _ _ (by omega)) _) (Eq.trans (k14 3 kk (by unfold WTB; omega)) rfl)))]; exact hv kk hkk), (DI_ke (by intro k; unfold WS; omega) k16 (DI_up (by omega) (DI_ke (by intro k; unfold WTB; omega) k14 hD))), ⟨n, by omega, (Eq.trans (k16 6 2 (by decide)) (Eq.trans (congrFun (x_up_n _ _ _ (by omega)) _) (Eq.trans (k14 6 2 (by decide)) e_n)))⟩, ⟨un, wn, by omega, by omega, (Eq.trans (k16 41 4 (by decide)) (Eq.trans (congrFun (x_up_n _ _ _ (by omega)) _) (Eq.trans (k14 41 4 (by decide)) e_un))), (Eq.trans (k16 41 5 (by decide)) (Eq.trans (congrFun (x_up_n _ _ _ (by omega)) _) (Eq.trans (k14 41 5 (by decide)) e_wn)))⟩, ⟨b, by omega, (Eq.trans (k16 46 2 (by decide)) (Eq.trans (congrFun (x_up_n _ _ _ (by omega)) _) (Eq.trans (k14 46 2 (by decide)) e_b)))⟩, (fun j hj => by obtain ⟨q, hq, eq⟩ := hkd j hj; exact ⟨q, hq, (show M15 47 j = M 47 j from (Eq.trans (k16 47 j (by unfold WS; omega)) (Eq.trans (congrFun (x_up_n _ _ _ (by omega)) _) (Eq.trans (k14 47 j (by unfold WTB; omega)) rfl)))).trans eq⟩), ⟨ra, by omega, (Eq.trans (k16 46 3 (by decide)) (Eq.trans (congrFun (x_up_n _ _ _ (by omega)) _) (Eq.trans (k14 46 3 (by decide)) e_ra)))⟩, (fun j hj => by obtain ⟨s, hs, es⟩ := hsl j hj; exact ⟨s, hs, (show M15 (50 + 2 * j) 3 = M (50 + 2 * j) 3 from (Eq.trans (k16 (50 + 2 * j) 3 (by unfold WS; omega)) (Eq.trans (congrFun (x_up_n _ _ _ (by omega)) _) (Eq.trans (k14 (50 + 2 * j) 3 (by unfold WTB; omega)) rfl)))).trans es⟩), (fun j hj => by obtain ⟨q, hq, eq⟩ := hS j hj; exact ⟨q, hq, (show M15 36 j = M 36 j from (Eq.trans (k16 36 j (by unfold WS; omega)) (Eq.trans (congrFun (x_up_n _ _ _ (by omega)) _) (Eq.trans (k14 36 j (by unfold WTB; omega)) rfl)))).trans eq⟩)⟩⟩)
                · refine xr_iload dX9_begun_154 1 rfl ?_
                  refine xr_goto (tgt := 161) dX9_begun_156 rfl ?_
                  exact xr_iret dX9_begun_161 rfl rfl (⟨_, rfl, rfl, rfl, (Ke.tr (fun pp kk => (fun hh => Or.elim hh (fun h => (Or.inl h)) (fun hh => Or.elim hh (fun h => (Or.inr (Or.inl h))) (fun hh => Or.elim hh (fun h => (Or.inr (Or.inr (Or.inl (by omega))))) (fun hh => Or.elim hh (fun h => (Or.inr (Or.inr (Or.inl (by omega))))) (fun h => (Or.inr (Or.inr (Or.inr h))))))))) (Ke.up (Or.inr (Or.inr (Or.inr (by omega)))) (Ke.tr (fun pp kk => (fun hh => Or.elim hh (fun h => (Or.inr (Or.inr (Or.inl h)))) (fun h => (Or.inr (Or.inr (Or.inr h)))))) Ke.rf k14)) k16), ⟨⟨cn, by omega, (Eq.trans (k16 13 2 (by decide)) (Eq.trans (congrFun (x_up_n _ _ _ (by omega)) _) (Eq.trans (k14 13 2 (by decide)) e_cn)))⟩, ⟨cm, by omega, (Eq.trans (k16 20 2 (by decide)) (Eq.trans (congrFun (x_up_n _ _ _ (by omega)) _) (Eq.trans (k14 20 2 (by decide)) e_cm)))⟩, ⟨L, by omega, (Eq.trans (k16 1 4 (by decide)) (Eq.trans (congrFun (x_up_n _ _ _ (by omega)) _) (Eq.trans (k14 1 4 (by decide)) e_L)))⟩, (fun kk hkk => by rw [show M15 3 kk = M 3 kk from (Eq.trans (k16 3 kk (by unfold WS; omega)) (Eq.trans (congrFun (x_up_n _ _ _ (by omega)) _) (Eq.trans (k14 3 kk (by unfold WTB; omega)) rfl)))]; exact hv kk hkk), (DI_ke (by intro k; unfold WS; omega) k16 (DI_up (by omega) (DI_ke (by intro k; unfold WTB; omega) k14 hD))), ⟨n, by omega, (Eq.trans (k16 6 2 (by decide)) (Eq.trans (congrFun (x_up_n _ _ _ (by omega)) _) (Eq.trans (k14 6 2 (by decide)) e_n)))⟩, ⟨un, wn, by omega, by omega, (Eq.trans (k16 41 4 (by decide)) (Eq.trans (congrFun (x_up_n _ _ _ (by omega)) _) (Eq.trans (k14 41 4 (by decide)) e_un))), (Eq.trans (k16 41 5 (by decide)) (Eq.trans (congrFun (x_up_n _ _ _ (by omega)) _) (Eq.trans (k14 41 5 (by decide)) e_wn)))⟩, ⟨b, by omega, (Eq.trans (k16 46 2 (by decide)) (Eq.trans (congrFun (x_up_n _ _ _ (by omega)) _) (Eq.trans (k14 46 2 (by decide)) e_b)))⟩, (fun j hj => by obtain ⟨q, hq, eq⟩ := hkd j hj; exact ⟨q, hq, (show M15 47 j = M 47 j from (Eq.trans (k16 47 j (by unfold WS; omega)) (Eq.trans (congrFun (x_up_n _ _ _ (by omega)) _) (Eq.trans (k14 47 j (by unfold WTB; omega)) rfl)))).trans eq⟩), ⟨ra, by omega, (Eq.trans (k16 46 3 (by decide)) (Eq.trans (congrFun (x_up_n _ _ _ (by omega)) _) (Eq.trans (k14 46 3 (by decide)) e_ra)))⟩, (fun j hj => by obtain ⟨s, hs, es⟩ := hsl j hj; exact ⟨s, hs, (show M15 (50 + 2 * j) 3 = M (50 + 2 * j) 3 from (Eq.trans (k16 (50 + 2 * j) 3 (by unfold WS; omega)) (Eq.trans (congrFun (x_up_n _ _ _ (by omega)) _) (Eq.trans (k14 (50 + 2 * j) 3 (by unfold WTB; omega)) rfl)))).trans es⟩), (fun j hj => by obtain ⟨q, hq, eq⟩ := hS j hj; exact ⟨q, hq, (show M15 36 j = M 36 j from (Eq.trans (k16 36 j (by unfold WS; omega)) (Eq.trans (congrFun (x_up_n _ _ _ (by omega)) _) (Eq.trans (k14 36 j (by unfold WTB; omega)) rfl)))).trans eq⟩)⟩⟩)
          · refine xr_ldc coX9_105 dX9_begun_39 ?_
            exact xr_iret dX9_begun_41 rfl rfl (⟨_, rfl, rfl, rfl, Ke.rf, ⟨⟨cn, by omega, e_cn⟩, ⟨cm, by omega, e_cm⟩, ⟨L, by omega, e_L⟩, (fun kk hkk => by rw [show M 3 kk = M 3 kk from rfl]; exact hv kk hkk), hD, ⟨n, by omega, e_n⟩, ⟨un, wn, by omega, by omega, e_un, e_wn⟩, ⟨b, by omega, e_b⟩, (fun j hj => by obtain ⟨q, hq, eq⟩ := hkd j hj; exact ⟨q, hq, (show M 47 j = M 47 j from rfl).trans eq⟩), ⟨ra, by omega, e_ra⟩, (fun j hj => by obtain ⟨s, hs, es⟩ := hsl j hj; exact ⟨s, hs, (show M (50 + 2 * j) 3 = M (50 + 2 * j) 3 from rfl).trans es⟩), (fun j hj => by obtain ⟨q, hq, eq⟩ := hS j hj; exact ⟨q, hq, (show M 36 j = M 36 j from rfl).trans eq⟩)⟩⟩)
set_option maxRecDepth 100000 in
set_option maxHeartbeats 4000000 in
theorem g_X9_left (se nn g : Int32) {l : Launch} {G : xG} {M : xM} {J : xJ} (hI : InvC M) : x_M l G fX9_left 4 0 0 [.ref (0), .int (se), .int (nn), .int (g)] x_SH M J (qKI WFD M J (fun r M2 => InvC M2)) := by
  refine xb_of pX9 (Nat.le_of_ble_eq_true rfl) rfl ?_
  obtain ⟨⟨cn, h_cn, e_cn⟩, ⟨cm, h_cm, e_cm⟩, ⟨L, h_L, e_L⟩, hv, hD, ⟨n, h_n, e_n⟩, ⟨un, wn, h_uw, h_wn, e_un, e_wn⟩, ⟨b, h_b, e_b⟩, hkd, ⟨ra, h_ra, e_ra⟩, hsl, hS⟩ := hI
  refine xr_iload_n dX9_left_0 2 rfl ?_
  refine xb_cS (As := [.int (nn)]) (rest := []) mlX9_262 (c_X9_isMinutes nn) dX9_left_1 rfl rfl (Nat.le_of_ble_eq_true rfl) (by decide) (by decide) ?_
  refine xb_beq (tgt := 19) dX9_left_4 rfl (fun c1 => ?_) (fun c1 => ?_)
  · refine xr_iconst (v := -1) dX9_left_19 rfl ?_
    exact xr_iret dX9_left_20 rfl rfl (⟨_, rfl, rfl, rfl, Ke.rf, ⟨⟨cn, by omega, e_cn⟩, ⟨cm, by omega, e_cm⟩, ⟨L, by omega, e_L⟩, (fun kk hkk => by rw [show M 3 kk = M 3 kk from rfl]; exact hv kk hkk), hD, ⟨n, by omega, e_n⟩, ⟨un, wn, by omega, by omega, e_un, e_wn⟩, ⟨b, by omega, e_b⟩, (fun j hj => by obtain ⟨q, hq, eq⟩ := hkd j hj; exact ⟨q, hq, (show M 47 j = M 47 j from rfl).trans eq⟩), ⟨ra, by omega, e_ra⟩, (fun j hj => by obtain ⟨s, hs, es⟩ := hsl j hj; exact ⟨s, hs, (show M (50 + 2 * j) 3 = M (50 + 2 * j) 3 from rfl).trans es⟩), (fun j hj => by obtain ⟨q, hq, eq⟩ := hS j hj; exact ⟨q, hq, (show M 36 j = M 36 j from rfl).trans eq⟩)⟩⟩)
  · refine xr_iload_n dX9_left_7 3 rfl ?_
    refine xr_iconst (v := -1) dX9_left_8 rfl ?_
    refine xr_icmp_eq (tgt := 21) dX9_left_9 rfl (fun c2 => ?_) (fun c2 => ?_)
    · refine xr_aload_n dX9_left_21 0 rfl ?_
      refine xr_getR flX9_47 dX9_left_22 s_0 rfl ?_
      refine xr_iload_n dX9_left_25 1 rfl ?_
      refine xr_iload_n dX9_left_26 2 rfl ?_
      obtain ⟨N, hN, rfl⟩ := x_natle (v := nn) (N := 30) (K := 30) (by decide) (by decide) ⟨by grind, c1.2⟩
      subst c2
      refine xr_callV (As := [.int (se), .int (nI (N))]) (rest := []) mlX9_265 (g_X1_play se (n := N) (by omega)) dX9_left_27 s_35 rfl rfl (Nat.le_of_ble_eq_true rfl) (by decide) ⟨by decide, by decide⟩ (fun v s2 M3 J2 hq => ?_)
      obtain ⟨rfl, rfl, rfl, k4, _⟩ := hq
      try dsimp only [Option.toList, List.cons_append, List.nil_append]
      refine xr_iload_n dX9_left_30 3 rfl ?_
      refine xr_iconst (v := -1) dX9_left_31 rfl ?_
      refine xr_icmp_ne (tgt := 43) dX9_left_32 rfl (fun c => absurd (by decide) c) (fun _ => ?_)
      refine xr_aload_n dX9_left_35 0 rfl ?_
      refine xr_getR flX9_47 dX9_left_36 s_0 rfl ?_
      refine xr_callV (As := []) (rest := []) mlX9_268 (g_X1_howManyUp) dX9_left_39 s_35 rfl rfl (Nat.le_of_ble_eq_true rfl) (by decide) ⟨by decide, by decide⟩ (fun v s2 M9 J2 hq => ?_)
      obtain ⟨r5, rfl, rfl, rfl, rfl, _⟩ := hq
      try dsimp only [Option.toList, List.cons_append, List.nil_append]
      exact xr_iret dX9_left_42 rfl rfl (⟨_, rfl, rfl, rfl, (Ke.tr (fun _ _ h => h) Ke.rf k4), ⟨⟨cn, by omega, (Eq.trans (k4 13 2 (by decide)) e_cn)⟩, ⟨cm, by omega, (Eq.trans (k4 20 2 (by decide)) e_cm)⟩, ⟨L, by omega, (Eq.trans (k4 1 4 (by decide)) e_L)⟩, (fun kk hkk => by rw [show M3 3 kk = M 3 kk from (Eq.trans (k4 3 kk (by unfold WFD; omega)) rfl)]; exact hv kk hkk), (DI_ke (by intro k; unfold WFD; omega) k4 hD), ⟨n, by omega, (Eq.trans (k4 6 2 (by decide)) e_n)⟩, ⟨un, wn, by omega, by omega, (Eq.trans (k4 41 4 (by decide)) e_un), (Eq.trans (k4 41 5 (by decide)) e_wn)⟩, ⟨b, by omega, (Eq.trans (k4 46 2 (by decide)) e_b)⟩, (fun j hj => by obtain ⟨q, hq, eq⟩ := hkd j hj; exact ⟨q, hq, (show M3 47 j = M 47 j from (Eq.trans (k4 47 j (by unfold WFD; omega)) rfl)).trans eq⟩), ⟨ra, by omega, (Eq.trans (k4 46 3 (by decide)) e_ra)⟩, (fun j hj => by obtain ⟨s, hs, es⟩ := hsl j hj; exact ⟨s, hs, (show M3 (50 + 2 * j) 3 = M (50 + 2 * j) 3 from (Eq.trans (k4 (50 + 2 * j) 3 (by unfold WFD; omega)) rfl)).trans es⟩), (fun j hj => by obtain ⟨q, hq, eq⟩ := hS j hj; exact ⟨q, hq, (show M3 36 j = M 36 j from (Eq.trans (k4 36 j (by unfold WFD; omega)) rfl)).trans eq⟩)⟩⟩)
    · refine xr_iload_n dX9_left_12 3 rfl ?_
      refine xb_cS (As := [.int (g)]) (rest := []) mlX9_134 (c_X9_isGirl g) dX9_left_13 rfl rfl (Nat.le_of_ble_eq_true rfl) (by decide) (by decide) ?_
      refine xb_bne (tgt := 21) dX9_left_16 rfl (fun c6 => ?_) (fun c6 => ?_)
      · obtain ⟨g_, hg_, rfl⟩ := x_nat (N := 25) (by decide) rfl c6
        refine xr_aload_n dX9_left_21 0 rfl ?_
        refine xr_getR flX9_47 dX9_left_22 s_0 rfl ?_
        refine xr_iload_n dX9_left_25 1 rfl ?_
        refine xr_iload_n dX9_left_26 2 rfl ?_
        obtain ⟨N, hN, rfl⟩ := x_natle (v := nn) (N := 30) (K := 30) (by decide) (by decide) ⟨by grind, c1.2⟩
        refine xr_callV (As := [.int (se), .int (nI (N))]) (rest := []) mlX9_265 (g_X1_play se (n := N) (by omega)) dX9_left_27 s_35 rfl rfl (Nat.le_of_ble_eq_true rfl) (by decide) ⟨by decide, by decide⟩ (fun v s2 M7 J2 hq => ?_)
        obtain ⟨rfl, rfl, rfl, k8, _⟩ := hq
        try dsimp only [Option.toList, List.cons_append, List.nil_append]
        refine xr_iload_n dX9_left_30 3 rfl ?_
        refine xr_iconst (v := -1) dX9_left_31 rfl ?_
        refine xr_icmp_ne (tgt := 43) dX9_left_32 rfl (fun c9 => ?_) (fun c9 => ?_)
        · refine xr_aload_n dX9_left_43 0 rfl ?_
          refine xr_getR flX9_47 dX9_left_44 s_0 rfl ?_
          refine xr_getR flX9_271 dX9_left_47 s_35 rfl ?_
          refine xr_iload_n dX9_left_50 3 rfl ?_
          refine xb_zald (j := g_) (v := M7 38 g_) dX9_left_51 s_38 hg_ (by decide) rfl ?_
          refine xr_if_eq (tgt := 59) dX9_left_52 rfl (fun c10 => ?_) (fun c10 => ?_)
          · refine xr_iconst (v := 0) dX9_left_59 rfl ?_
            exact xr_iret dX9_left_60 rfl rfl (⟨_, rfl, rfl, rfl, (Ke.tr (fun _ _ h => h) Ke.rf k8), ⟨⟨cn, by omega, (Eq.trans (k8 13 2 (by decide)) e_cn)⟩, ⟨cm, by omega, (Eq.trans (k8 20 2 (by decide)) e_cm)⟩, ⟨L, by omega, (Eq.trans (k8 1 4 (by decide)) e_L)⟩, (fun kk hkk => by rw [show M7 3 kk = M 3 kk from (Eq.trans (k8 3 kk (by unfold WFD; omega)) rfl)]; exact hv kk hkk), (DI_ke (by intro k; unfold WFD; omega) k8 hD), ⟨n, by omega, (Eq.trans (k8 6 2 (by decide)) e_n)⟩, ⟨un, wn, by omega, by omega, (Eq.trans (k8 41 4 (by decide)) e_un), (Eq.trans (k8 41 5 (by decide)) e_wn)⟩, ⟨b, by omega, (Eq.trans (k8 46 2 (by decide)) e_b)⟩, (fun j hj => by obtain ⟨q, hq, eq⟩ := hkd j hj; exact ⟨q, hq, (show M7 47 j = M 47 j from (Eq.trans (k8 47 j (by unfold WFD; omega)) rfl)).trans eq⟩), ⟨ra, by omega, (Eq.trans (k8 46 3 (by decide)) e_ra)⟩, (fun j hj => by obtain ⟨s, hs, es⟩ := hsl j hj; exact ⟨s, hs, (show M7 (50 + 2 * j) 3 = M (50 + 2 * j) 3 from (Eq.trans (k8 (50 + 2 * j) 3 (by unfold WFD; omega)) rfl)).trans es⟩), (fun j hj => by obtain ⟨q, hq, eq⟩ := hS j hj; exact ⟨q, hq, (show M7 36 j = M 36 j from (Eq.trans (k8 36 j (by unfold WFD; omega)) rfl)).trans eq⟩)⟩⟩)
          · refine xr_iconst (v := 1) dX9_left_55 rfl ?_
            refine xr_goto (tgt := 60) dX9_left_56 rfl ?_
            exact xr_iret dX9_left_60 rfl rfl (⟨_, rfl, rfl, rfl, (Ke.tr (fun _ _ h => h) Ke.rf k8), ⟨⟨cn, by omega, (Eq.trans (k8 13 2 (by decide)) e_cn)⟩, ⟨cm, by omega, (Eq.trans (k8 20 2 (by decide)) e_cm)⟩, ⟨L, by omega, (Eq.trans (k8 1 4 (by decide)) e_L)⟩, (fun kk hkk => by rw [show M7 3 kk = M 3 kk from (Eq.trans (k8 3 kk (by unfold WFD; omega)) rfl)]; exact hv kk hkk), (DI_ke (by intro k; unfold WFD; omega) k8 hD), ⟨n, by omega, (Eq.trans (k8 6 2 (by decide)) e_n)⟩, ⟨un, wn, by omega, by omega, (Eq.trans (k8 41 4 (by decide)) e_un), (Eq.trans (k8 41 5 (by decide)) e_wn)⟩, ⟨b, by omega, (Eq.trans (k8 46 2 (by decide)) e_b)⟩, (fun j hj => by obtain ⟨q, hq, eq⟩ := hkd j hj; exact ⟨q, hq, (show M7 47 j = M 47 j from (Eq.trans (k8 47 j (by unfold WFD; omega)) rfl)).trans eq⟩), ⟨ra, by omega, (Eq.trans (k8 46 3 (by decide)) e_ra)⟩, (fun j hj => by obtain ⟨s, hs, es⟩ := hsl j hj; exact ⟨s, hs, (show M7 (50 + 2 * j) 3 = M (50 + 2 * j) 3 from (Eq.trans (k8 (50 + 2 * j) 3 (by unfold WFD; omega)) rfl)).trans es⟩), (fun j hj => by obtain ⟨q, hq, eq⟩ := hS j hj; exact ⟨q, hq, (show M7 36 j = M 36 j from (Eq.trans (k8 36 j (by unfold WFD; omega)) rfl)).trans eq⟩)⟩⟩)
        · refine xr_aload_n dX9_left_35 0 rfl ?_
          refine xr_getR flX9_47 dX9_left_36 s_0 rfl ?_
          refine xr_callV (As := []) (rest := []) mlX9_268 (g_X1_howManyUp) dX9_left_39 s_35 rfl rfl (Nat.le_of_ble_eq_true rfl) (by decide) ⟨by decide, by decide⟩ (fun v s2 M9 J2 hq => ?_)
          obtain ⟨r11, rfl, rfl, rfl, rfl, _⟩ := hq
          try dsimp only [Option.toList, List.cons_append, List.nil_append]
          exact xr_iret dX9_left_42 rfl rfl (⟨_, rfl, rfl, rfl, (Ke.tr (fun _ _ h => h) Ke.rf k8), ⟨⟨cn, by omega, (Eq.trans (k8 13 2 (by decide)) e_cn)⟩, ⟨cm, by omega, (Eq.trans (k8 20 2 (by decide)) e_cm)⟩, ⟨L, by omega, (Eq.trans (k8 1 4 (by decide)) e_L)⟩, (fun kk hkk => by rw [show M7 3 kk = M 3 kk from (Eq.trans (k8 3 kk (by unfold WFD; omega)) rfl)]; exact hv kk hkk), (DI_ke (by intro k; unfold WFD; omega) k8 hD), ⟨n, by omega, (Eq.trans (k8 6 2 (by decide)) e_n)⟩, ⟨un, wn, by omega, by omega, (Eq.trans (k8 41 4 (by decide)) e_un), (Eq.trans (k8 41 5 (by decide)) e_wn)⟩, ⟨b, by omega, (Eq.trans (k8 46 2 (by decide)) e_b)⟩, (fun j hj => by obtain ⟨q, hq, eq⟩ := hkd j hj; exact ⟨q, hq, (show M7 47 j = M 47 j from (Eq.trans (k8 47 j (by unfold WFD; omega)) rfl)).trans eq⟩), ⟨ra, by omega, (Eq.trans (k8 46 3 (by decide)) e_ra)⟩, (fun j hj => by obtain ⟨s, hs, es⟩ := hsl j hj; exact ⟨s, hs, (show M7 (50 + 2 * j) 3 = M (50 + 2 * j) 3 from (Eq.trans (k8 (50 + 2 * j) 3 (by unfold WFD; omega)) rfl)).trans es⟩), (fun j hj => by obtain ⟨q, hq, eq⟩ := hS j hj; exact ⟨q, hq, (show M7 36 j = M 36 j from (Eq.trans (k8 36 j (by unfold WFD; omega)) rfl)).trans eq⟩)⟩⟩)
      · refine xr_iconst (v := -1) dX9_left_19 rfl ?_
        exact xr_iret dX9_left_20 rfl rfl (⟨_, rfl, rfl, rfl, Ke.rf, ⟨⟨cn, by omega, e_cn⟩, ⟨cm, by omega, e_cm⟩, ⟨L, by omega, e_L⟩, (fun kk hkk => by rw [show M 3 kk = M 3 kk from rfl]; exact hv kk hkk), hD, ⟨n, by omega, e_n⟩, ⟨un, wn, by omega, by omega, e_un, e_wn⟩, ⟨b, by omega, e_b⟩, (fun j hj => by obtain ⟨q, hq, eq⟩ := hkd j hj; exact ⟨q, hq, (show M 47 j = M 47 j from rfl).trans eq⟩), ⟨ra, by omega, e_ra⟩, (fun j hj => by obtain ⟨s, hs, es⟩ := hsl j hj; exact ⟨s, hs, (show M (50 + 2 * j) 3 = M (50 + 2 * j) 3 from rfl).trans es⟩), (fun j hj => by obtain ⟨q, hq, eq⟩ := hS j hj; exact ⟨q, hq, (show M 36 j = M 36 j from rfl).trans eq⟩)⟩⟩)
set_option maxRecDepth 100000 in
set_option maxHeartbeats 4000000 in
theorem g_X9_knocked (se nn g : Int32) {l : Launch} {G : xG} {M : xM} {J : xJ} (hI : InvC M) : x_M l G fX9_knocked 4 0 0 [.ref (0), .int (se), .int (nn), .int (g)] x_SH M J (qKI WFD M J (fun r M2 => InvC M2)) := by
  refine xb_of pX9 (Nat.le_of_ble_eq_true rfl) rfl ?_
  obtain ⟨⟨cn, h_cn, e_cn⟩, ⟨cm, h_cm, e_cm⟩, ⟨L, h_L, e_L⟩, hv, hD, ⟨n, h_n, e_n⟩, ⟨un, wn, h_uw, h_wn, e_un, e_wn⟩, ⟨b, h_b, e_b⟩, hkd, ⟨ra, h_ra, e_ra⟩, hsl, hS⟩ := hI
  refine xr_iload_n dX9_knocked_0 2 rfl ?_
  refine xb_cS (As := [.int (nn)]) (rest := []) mlX9_262 (c_X9_isMinutes nn) dX9_knocked_1 rfl rfl (Nat.le_of_ble_eq_true rfl) (by decide) (by decide) ?_
  refine xb_beq (tgt := 14) dX9_knocked_4 rfl (fun c1 => ?_) (fun c1 => ?_)
  · refine xr_iconst (v := -1) dX9_knocked_14 rfl ?_
    exact xr_iret dX9_knocked_15 rfl rfl (⟨_, rfl, rfl, rfl, Ke.rf, ⟨⟨cn, by omega, e_cn⟩, ⟨cm, by omega, e_cm⟩, ⟨L, by omega, e_L⟩, (fun kk hkk => by rw [show M 3 kk = M 3 kk from rfl]; exact hv kk hkk), hD, ⟨n, by omega, e_n⟩, ⟨un, wn, by omega, by omega, e_un, e_wn⟩, ⟨b, by omega, e_b⟩, (fun j hj => by obtain ⟨q, hq, eq⟩ := hkd j hj; exact ⟨q, hq, (show M 47 j = M 47 j from rfl).trans eq⟩), ⟨ra, by omega, e_ra⟩, (fun j hj => by obtain ⟨s, hs, es⟩ := hsl j hj; exact ⟨s, hs, (show M (50 + 2 * j) 3 = M (50 + 2 * j) 3 from rfl).trans es⟩), (fun j hj => by obtain ⟨q, hq, eq⟩ := hS j hj; exact ⟨q, hq, (show M 36 j = M 36 j from rfl).trans eq⟩)⟩⟩)
  · refine xr_iload_n dX9_knocked_7 3 rfl ?_
    refine xb_cS (As := [.int (g)]) (rest := []) mlX9_134 (c_X9_isGirl g) dX9_knocked_8 rfl rfl (Nat.le_of_ble_eq_true rfl) (by decide) (by decide) ?_
    refine xb_bne (tgt := 16) dX9_knocked_11 rfl (fun c2 => ?_) (fun c2 => ?_)
    · obtain ⟨g_, hg_, rfl⟩ := x_nat (N := 25) (by decide) rfl c2
      refine xr_aload_n dX9_knocked_16 0 rfl ?_
      refine xr_getR flX9_47 dX9_knocked_17 s_0 rfl ?_
      refine xr_iload_n dX9_knocked_20 1 rfl ?_
      refine xr_iload_n dX9_knocked_21 2 rfl ?_
      obtain ⟨N, hN, rfl⟩ := x_natle (v := nn) (N := 30) (K := 30) (by decide) (by decide) ⟨by grind, c1.2⟩
      refine xr_callV (As := [.int (se), .int (nI (N))]) (rest := []) mlX9_265 (g_X1_play se (n := N) (by omega)) dX9_knocked_22 s_35 rfl rfl (Nat.le_of_ble_eq_true rfl) (by decide) ⟨by decide, by decide⟩ (fun v s2 M3 J2 hq => ?_)
      obtain ⟨rfl, rfl, rfl, k4, _⟩ := hq
      try dsimp only [Option.toList, List.cons_append, List.nil_append]
      refine xr_aload_n dX9_knocked_25 0 rfl ?_
      refine xr_getR flX9_47 dX9_knocked_26 s_0 rfl ?_
      refine xr_getR flX9_275 dX9_knocked_29 s_35 rfl ?_
      refine xr_iload_n dX9_knocked_32 3 rfl ?_
      refine xb_iald (j := g_) (v := M3 39 g_) dX9_knocked_33 s_39 hg_ (by decide) rfl ?_
      exact xr_iret dX9_knocked_34 rfl rfl (⟨_, rfl, rfl, rfl, (Ke.tr (fun _ _ h => h) Ke.rf k4), ⟨⟨cn, by omega, (Eq.trans (k4 13 2 (by decide)) e_cn)⟩, ⟨cm, by omega, (Eq.trans (k4 20 2 (by decide)) e_cm)⟩, ⟨L, by omega, (Eq.trans (k4 1 4 (by decide)) e_L)⟩, (fun kk hkk => by rw [show M3 3 kk = M 3 kk from (Eq.trans (k4 3 kk (by unfold WFD; omega)) rfl)]; exact hv kk hkk), (DI_ke (by intro k; unfold WFD; omega) k4 hD), ⟨n, by omega, (Eq.trans (k4 6 2 (by decide)) e_n)⟩, ⟨un, wn, by omega, by omega, (Eq.trans (k4 41 4 (by decide)) e_un), (Eq.trans (k4 41 5 (by decide)) e_wn)⟩, ⟨b, by omega, (Eq.trans (k4 46 2 (by decide)) e_b)⟩, (fun j hj => by obtain ⟨q, hq, eq⟩ := hkd j hj; exact ⟨q, hq, (show M3 47 j = M 47 j from (Eq.trans (k4 47 j (by unfold WFD; omega)) rfl)).trans eq⟩), ⟨ra, by omega, (Eq.trans (k4 46 3 (by decide)) e_ra)⟩, (fun j hj => by obtain ⟨s, hs, es⟩ := hsl j hj; exact ⟨s, hs, (show M3 (50 + 2 * j) 3 = M (50 + 2 * j) 3 from (Eq.trans (k4 (50 + 2 * j) 3 (by unfold WFD; omega)) rfl)).trans es⟩), (fun j hj => by obtain ⟨q, hq, eq⟩ := hS j hj; exact ⟨q, hq, (show M3 36 j = M 36 j from (Eq.trans (k4 36 j (by unfold WFD; omega)) rfl)).trans eq⟩)⟩⟩)
    · refine xr_iconst (v := -1) dX9_knocked_14 rfl ?_
      exact xr_iret dX9_knocked_15 rfl rfl (⟨_, rfl, rfl, rfl, Ke.rf, ⟨⟨cn, by omega, e_cn⟩, ⟨cm, by omega, e_cm⟩, ⟨L, by omega, e_L⟩, (fun kk hkk => by rw [show M 3 kk = M 3 kk from rfl]; exact hv kk hkk), hD, ⟨n, by omega, e_n⟩, ⟨un, wn, by omega, by omega, e_un, e_wn⟩, ⟨b, by omega, e_b⟩, (fun j hj => by obtain ⟨q, hq, eq⟩ := hkd j hj; exact ⟨q, hq, (show M 47 j = M 47 j from rfl).trans eq⟩), ⟨ra, by omega, e_ra⟩, (fun j hj => by obtain ⟨s, hs, es⟩ := hsl j hj; exact ⟨s, hs, (show M (50 + 2 * j) 3 = M (50 + 2 * j) 3 from rfl).trans es⟩), (fun j hj => by obtain ⟨q, hq, eq⟩ := hS j hj; exact ⟨q, hq, (show M 36 j = M 36 j from rfl).trans eq⟩)⟩⟩)
set_option maxRecDepth 100000 in
set_option maxHeartbeats 4000000 in
theorem g_X9_trace (i : Int32) {l : Launch} {G : xG} {M : xM} {J : xJ} (hI : InvC M) : x_M l G fX9_trace 0 0 0 [.ref (0), .int (i)] x_SH M J (qPI M J (fun r => True)) := by
  refine xb_of pX9 (Nat.le_of_ble_eq_true rfl) rfl ?_
  obtain ⟨⟨cn, h_cn, e_cn⟩, ⟨cm, h_cm, e_cm⟩, ⟨L, h_L, e_L⟩, hv, hD, ⟨n, h_n, e_n⟩, ⟨un, wn, h_uw, h_wn, e_un, e_wn⟩, ⟨b, h_b, e_b⟩, hkd, ⟨ra, h_ra, e_ra⟩, hsl, hS⟩ := hI
  refine xr_iload_n dX9_trace_0 1 rfl ?_
  refine xr_if_lt (tgt := 21) dX9_trace_1 rfl (fun c1 => ?_) (fun c1 => ?_)
  · refine xr_iconst (v := -1) dX9_trace_21 rfl ?_
    exact xr_iret dX9_trace_22 rfl rfl (⟨_, rfl, rfl, rfl, rfl, trivial⟩)
  · refine xr_iload_n dX9_trace_4 1 rfl ?_
    refine xr_aload_n dX9_trace_5 0 rfl ?_
    refine xr_getR flX9_61 dX9_trace_6 s_0 rfl ?_
    refine xb_get (v := nI (ra)) flX9_334 dX9_trace_9 s_46 rfl e_ra ?_
    refine xr_icmp_ge (tgt := 21) dX9_trace_12 rfl (fun c2 => ?_) (fun c2 => ?_)
    · refine xr_iconst (v := -1) dX9_trace_21 rfl ?_
      exact xr_iret dX9_trace_22 rfl rfl (⟨_, rfl, rfl, rfl, rfl, trivial⟩)
    · refine xr_iload_n dX9_trace_15 1 rfl ?_
      refine xr_bipush (v := 24) dX9_trace_16 rfl ?_
      refine xr_icmp_lt (tgt := 23) dX9_trace_18 rfl (fun c3 => ?_) (fun c3 => ?_)
      · obtain ⟨i_, hi_, rfl⟩ := x_natle (v := i) (N := 23) (K := 23) (by decide) (by decide) ⟨by grind, by grind⟩
        refine xr_aload_n dX9_trace_23 0 rfl ?_
        refine xr_getR flX9_61 dX9_trace_24 s_0 rfl ?_
        refine xr_getR flX9_341 dX9_trace_27 s_46 rfl ?_
        refine xr_iload_n dX9_trace_30 1 rfl ?_
        refine xb_iald (j := i_) (v := M 48 i_) dX9_trace_31 s_48 (by omega) (by decide) rfl ?_
        exact xr_iret dX9_trace_32 rfl rfl (⟨_, rfl, rfl, rfl, rfl, trivial⟩)
      · refine xr_iconst (v := -1) dX9_trace_21 rfl ?_
        exact xr_iret dX9_trace_22 rfl rfl (⟨_, rfl, rfl, rfl, rfl, trivial⟩)
set_option maxRecDepth 100000 in
set_option maxHeartbeats 4000000 in
theorem g_X9_count (w : Int32) {l : Launch} {G : xG} {M : xM} {J : xJ} (hI : InvC M) : x_M l G fX9_count 2 0 0 [.ref (0), .int (w)] x_SH M J (qPI M J (fun r => True)) := by
  refine xb_of pX9 (Nat.le_of_ble_eq_true rfl) rfl ?_
  obtain ⟨⟨cn, h_cn, e_cn⟩, ⟨cm, h_cm, e_cm⟩, ⟨L, h_L, e_L⟩, hv, hD, ⟨n, h_n, e_n⟩, ⟨un, wn, h_uw, h_wn, e_un, e_wn⟩, ⟨b, h_b, e_b⟩, hkd, ⟨ra, h_ra, e_ra⟩, hsl, hS⟩ := hI
  refine xr_iload_n dX9_count_0 1 rfl ?_
  refine xg_eq 0 (fun w1 => ?_) (fun w1 => ?_)
  · refine xr_tableIn (tgt := 40) dX9_count_1 (by decide) (by decide) rfl rfl ?_
    refine xr_aload_n dX9_count_40 0 rfl ?_
    refine xr_getR flX9_28 dX9_count_41 s_0 rfl ?_
    refine xb_get (v := nI (cn)) flX9_218 dX9_count_44 s_13 rfl e_cn ?_
    exact xr_iret dX9_count_47 rfl rfl (⟨_, rfl, rfl, rfl, rfl, trivial⟩)
  refine xg_eq 1 (fun w2 => ?_) (fun w2 => ?_)
  · refine xr_tableIn (tgt := 48) dX9_count_1 (by decide) (by decide) rfl rfl ?_
    refine xr_aload_n dX9_count_48 0 rfl ?_
    refine xr_getR flX9_28 dX9_count_49 s_0 rfl ?_
    refine xr_callV (As := []) (rest := []) mlX9_164 (g_X5_upright_13 (by omega) e_cn) dX9_count_52 s_13 rfl rfl (Nat.le_of_ble_eq_true rfl) (by decide) ⟨by decide, by decide⟩ (fun v s2 M9 J2 hq => ?_)
    obtain ⟨r4, rfl, rfl, rfl, rfl, hx3⟩ := hq
    try dsimp only [Option.toList, List.cons_append, List.nil_append]
    exact xr_iret dX9_count_55 rfl rfl (⟨_, rfl, rfl, rfl, rfl, trivial⟩)
  refine xg_eq 2 (fun w5 => ?_) (fun w5 => ?_)
  · refine xr_tableIn (tgt := 56) dX9_count_1 (by decide) (by decide) rfl rfl ?_
    refine xr_aload_n dX9_count_56 0 rfl ?_
    refine xr_getR flX9_19 dX9_count_57 s_0 rfl ?_
    refine xb_get (v := nI (n)) flX9_147 dX9_count_60 s_6 rfl e_n ?_
    exact xr_iret dX9_count_63 rfl rfl (⟨_, rfl, rfl, rfl, rfl, trivial⟩)
  refine xg_eq 3 (fun w6 => ?_) (fun w6 => ?_)
  · refine xr_tableIn (tgt := 64) dX9_count_1 (by decide) (by decide) rfl rfl ?_
    refine xr_aload_n dX9_count_64 0 rfl ?_
    refine xr_getR flX9_54 dX9_count_65 s_0 rfl ?_
    refine xb_get (v := nI (un)) flX9_309 dX9_count_68 s_41 rfl e_un ?_
    exact xr_iret dX9_count_71 rfl rfl (⟨_, rfl, rfl, rfl, rfl, trivial⟩)
  refine xg_eq 4 (fun w7 => ?_) (fun w7 => ?_)
  · refine xr_tableIn (tgt := 72) dX9_count_1 (by decide) (by decide) rfl rfl ?_
    refine xr_aload_n dX9_count_72 0 rfl ?_
    refine xr_getR flX9_61 dX9_count_73 s_0 rfl ?_
    refine xb_get (v := nI (b)) flX9_393 dX9_count_76 s_46 rfl e_b ?_
    exact xr_iret dX9_count_79 rfl rfl (⟨_, rfl, rfl, rfl, rfl, trivial⟩)
  refine xg_eq 5 (fun w8 => ?_) (fun w8 => ?_)
  · refine xr_tableIn (tgt := 80) dX9_count_1 (by decide) (by decide) rfl rfl ?_
    refine xr_aload_n dX9_count_80 0 rfl ?_
    refine xr_getR flX9_61 dX9_count_81 s_0 rfl ?_
    refine xb_get (v := nI (ra)) flX9_334 dX9_count_84 s_46 rfl e_ra ?_
    exact xr_iret dX9_count_87 rfl rfl (⟨_, rfl, rfl, rfl, rfl, trivial⟩)
  refine xr_tableOut (tgt := 88) dX9_count_1 (xg_out (lo := 0) (hi := 5) (by decide) (fun j h1 h2 qq => by have h3 : j = 0 ∨ j = 1 ∨ j = 2 ∨ j = 3 ∨ j = 4 ∨ j = 5 := (by omega); rcases h3 with rfl | rfl | rfl | rfl | rfl | rfl <;> first | exact absurd qq w1 | exact absurd qq w2 | exact absurd qq w5 | exact absurd qq w6 | exact absurd qq w7 | exact absurd qq w8)) rfl ?_
  refine xr_iconst (v := -1) dX9_count_88 rfl ?_
  exact xr_iret dX9_count_89 rfl rfl (⟨_, rfl, rfl, rfl, rfl, trivial⟩)
