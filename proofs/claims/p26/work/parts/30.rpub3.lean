theorem dX10_left_0 : decode cX10_left 0 = .ok (.iload_n 2, 1) := by decide +kernel
theorem dX10_left_1 : decode cX10_left 1 = .ok (.i2l, 1) := by decide +kernel
theorem dX10_left_2 : decode cX10_left 2 = .ok (.lconst 1, 1) := by decide +kernel
theorem dX10_left_3 : decode cX10_left 3 = .ok (.ldc2_w 311, 3) := by decide +kernel
theorem dX10_left_6 : decode cX10_left 6 = .ok (.invokestatic 101, 3) := by decide +kernel
theorem dX10_left_9 : decode cX10_left 9 = .ok (.ifCond .eq 15, 3) := by decide +kernel
theorem dX10_left_24 : decode cX10_left 24 = .ok (.iconst (-1), 1) := by decide +kernel
theorem dX10_left_25 : decode cX10_left 25 = .ok (.ireturn, 1) := by decide +kernel
theorem dX10_left_12 : decode cX10_left 12 = .ok (.iload_n 3, 1) := by decide +kernel
theorem dX10_left_13 : decode cX10_left 13 = .ok (.iconst (-1), 1) := by decide +kernel
theorem dX10_left_14 : decode cX10_left 14 = .ok (.if_icmp .eq 12, 3) := by decide +kernel
theorem dX10_left_26 : decode cX10_left 26 = .ok (.aload_n 0, 1) := by decide +kernel
theorem dX10_left_27 : decode cX10_left 27 = .ok (.iload_n 1, 1) := by decide +kernel
theorem dX10_left_28 : decode cX10_left 28 = .ok (.iload_n 2, 1) := by decide +kernel
theorem dX10_left_29 : decode cX10_left 29 = .ok (.invokevirtual 313, 3) := by decide +kernel
theorem dX10_left_32 : decode cX10_left 32 = .ok (.iconst 0, 1) := by decide +kernel
theorem dX10_left_33 : decode cX10_left 33 = .ok (.istore 4, 2) := by decide +kernel
theorem dX10_left_35 : decode cX10_left 35 = .ok (.iconst 0, 1) := by decide +kernel
theorem dX10_left_36 : decode cX10_left 36 = .ok (.istore 5, 2) := by decide +kernel
theorem dX10_left_71 : decode cX10_left 71 = .ok (.iload_n 3, 1) := by decide +kernel
theorem dX10_left_72 : decode cX10_left 72 = .ok (.ifCond .ge 8, 3) := by decide +kernel
theorem dX10_left_75 : decode cX10_left 75 = .ok (.iload 4, 2) := by decide +kernel
theorem dX10_left_77 : decode cX10_left 77 = .ok (.goto 17, 3) := by decide +kernel
theorem dX10_left_94 : decode cX10_left 94 = .ok (.ireturn, 1) := by decide +kernel
theorem dX10_left_17 : decode cX10_left 17 = .ok (.iload_n 3, 1) := by decide +kernel
theorem dX10_left_18 : decode cX10_left 18 = .ok (.invokestatic 293, 3) := by decide +kernel
theorem dX10_left_21 : decode cX10_left 21 = .ok (.ifCond .ne 5, 3) := by decide +kernel
theorem dX10_left_80 : decode cX10_left 80 = .ok (.aload_n 0, 1) := by decide +kernel
theorem dX10_left_81 : decode cX10_left 81 = .ok (.getfield 56, 3) := by decide +kernel
theorem dX10_left_84 : decode cX10_left 84 = .ok (.iload_n 3, 1) := by decide +kernel
theorem dX10_left_85 : decode cX10_left 85 = .ok (.baload, 1) := by decide +kernel
theorem dX10_left_86 : decode cX10_left 86 = .ok (.ifCond .eq 7, 3) := by decide +kernel
theorem dX10_left_93 : decode cX10_left 93 = .ok (.iconst 0, 1) := by decide +kernel
theorem dX10_left_89 : decode cX10_left 89 = .ok (.iconst 1, 1) := by decide +kernel
theorem dX10_left_90 : decode cX10_left 90 = .ok (.goto 4, 3) := by decide +kernel
theorem dX10_knocked_0 : decode cX10_knocked 0 = .ok (.iload_n 2, 1) := by decide +kernel
theorem dX10_knocked_1 : decode cX10_knocked 1 = .ok (.i2l, 1) := by decide +kernel
theorem dX10_knocked_2 : decode cX10_knocked 2 = .ok (.lconst 1, 1) := by decide +kernel
theorem dX10_knocked_3 : decode cX10_knocked 3 = .ok (.ldc2_w 311, 3) := by decide +kernel
theorem dX10_knocked_6 : decode cX10_knocked 6 = .ok (.invokestatic 101, 3) := by decide +kernel
theorem dX10_knocked_9 : decode cX10_knocked 9 = .ok (.ifCond .eq 10, 3) := by decide +kernel
theorem dX10_knocked_19 : decode cX10_knocked 19 = .ok (.iconst (-1), 1) := by decide +kernel
theorem dX10_knocked_20 : decode cX10_knocked 20 = .ok (.ireturn, 1) := by decide +kernel
theorem dX10_knocked_12 : decode cX10_knocked 12 = .ok (.iload_n 3, 1) := by decide +kernel
theorem dX10_knocked_13 : decode cX10_knocked 13 = .ok (.invokestatic 293, 3) := by decide +kernel
theorem dX10_knocked_16 : decode cX10_knocked 16 = .ok (.ifCond .ne 5, 3) := by decide +kernel
theorem dX10_knocked_21 : decode cX10_knocked 21 = .ok (.aload_n 0, 1) := by decide +kernel
theorem dX10_knocked_22 : decode cX10_knocked 22 = .ok (.iload_n 1, 1) := by decide +kernel
theorem dX10_knocked_23 : decode cX10_knocked 23 = .ok (.iload_n 2, 1) := by decide +kernel
theorem dX10_knocked_24 : decode cX10_knocked 24 = .ok (.invokevirtual 313, 3) := by decide +kernel
theorem dX10_knocked_27 : decode cX10_knocked 27 = .ok (.aload_n 0, 1) := by decide +kernel
theorem dX10_knocked_28 : decode cX10_knocked 28 = .ok (.getfield 60, 3) := by decide +kernel
theorem dX10_knocked_31 : decode cX10_knocked 31 = .ok (.iload_n 3, 1) := by decide +kernel
theorem dX10_knocked_32 : decode cX10_knocked 32 = .ok (.iaload, 1) := by decide +kernel
theorem dX10_knocked_33 : decode cX10_knocked 33 = .ok (.ireturn, 1) := by decide +kernel
theorem dX10_last_0 : decode cX10_last 0 = .ok (.iload_n 2, 1) := by decide +kernel
theorem dX10_last_1 : decode cX10_last 1 = .ok (.i2l, 1) := by decide +kernel
theorem dX10_last_2 : decode cX10_last 2 = .ok (.lconst 0, 1) := by decide +kernel
theorem dX10_last_3 : decode cX10_last 3 = .ok (.lconst 1, 1) := by decide +kernel
theorem dX10_last_4 : decode cX10_last 4 = .ok (.invokestatic 101, 3) := by decide +kernel
theorem dX10_last_7 : decode cX10_last 7 = .ok (.ifCond .ne 5, 3) := by decide +kernel
theorem dX10_last_12 : decode cX10_last 12 = .ok (.aload_n 0, 1) := by decide +kernel
theorem dX10_last_13 : decode cX10_last 13 = .ok (.iload_n 1, 1) := by decide +kernel
theorem dX10_last_14 : decode cX10_last 14 = .ok (.bipush 30, 2) := by decide +kernel
theorem dX10_last_16 : decode cX10_last 16 = .ok (.invokevirtual 313, 3) := by decide +kernel
theorem dX10_last_19 : decode cX10_last 19 = .ok (.iconst 0, 1) := by decide +kernel
theorem dX10_last_20 : decode cX10_last 20 = .ok (.istore_n 3, 1) := by decide +kernel
theorem dX10_last_21 : decode cX10_last 21 = .ok (.iconst 1, 1) := by decide +kernel
theorem dX10_last_22 : decode cX10_last 22 = .ok (.istore 4, 2) := by decide +kernel
theorem dX10_last_60 : decode cX10_last 60 = .ok (.iload_n 2, 1) := by decide +kernel
theorem dX10_last_61 : decode cX10_last 61 = .ok (.ifCond .ne 7, 3) := by decide +kernel
theorem dX10_last_68 : decode cX10_last 68 = .ok (.aload_n 0, 1) := by decide +kernel
theorem dX10_last_69 : decode cX10_last 69 = .ok (.getfield 63, 3) := by decide +kernel
theorem dX10_last_72 : decode cX10_last 72 = .ok (.iload_n 3, 1) := by decide +kernel
theorem dX10_last_73 : decode cX10_last 73 = .ok (.iaload, 1) := by decide +kernel
theorem dX10_last_74 : decode cX10_last 74 = .ok (.ireturn, 1) := by decide +kernel
theorem dX10_last_64 : decode cX10_last 64 = .ok (.iload_n 3, 1) := by decide +kernel
theorem dX10_last_65 : decode cX10_last 65 = .ok (.goto 9, 3) := by decide +kernel
theorem dX10_last_10 : decode cX10_last 10 = .ok (.iconst (-1), 1) := by decide +kernel
theorem dX10_last_11 : decode cX10_last 11 = .ok (.ireturn, 1) := by decide +kernel
theorem dX10_skill_0 : decode cX10_skill 0 = .ok (.iload_n 1, 1) := by decide +kernel
theorem dX10_skill_1 : decode cX10_skill 1 = .ok (.invokestatic 293, 3) := by decide +kernel
theorem dX10_skill_4 : decode cX10_skill 4 = .ok (.ifCond .eq 15, 3) := by decide +kernel
theorem dX10_skill_19 : decode cX10_skill 19 = .ok (.iconst (-1), 1) := by decide +kernel
theorem dX10_skill_20 : decode cX10_skill 20 = .ok (.ireturn, 1) := by decide +kernel
theorem dX10_skill_7 : decode cX10_skill 7 = .ok (.iload_n 2, 1) := by decide +kernel
theorem dX10_skill_8 : decode cX10_skill 8 = .ok (.i2l, 1) := by decide +kernel
theorem dX10_skill_9 : decode cX10_skill 9 = .ok (.lconst 0, 1) := by decide +kernel
theorem dX10_skill_10 : decode cX10_skill 10 = .ok (.ldc2_w 296, 3) := by decide +kernel
theorem dX10_skill_13 : decode cX10_skill 13 = .ok (.invokestatic 101, 3) := by decide +kernel
theorem dX10_skill_16 : decode cX10_skill 16 = .ok (.ifCond .ne 5, 3) := by decide +kernel
theorem dX10_skill_21 : decode cX10_skill 21 = .ok (.aload_n 0, 1) := by decide +kernel
theorem dX10_skill_22 : decode cX10_skill 22 = .ok (.getfield 50, 3) := by decide +kernel
theorem dX10_skill_25 : decode cX10_skill 25 = .ok (.iload_n 1, 1) := by decide +kernel
theorem dX10_skill_26 : decode cX10_skill 26 = .ok (.iaload, 1) := by decide +kernel
theorem dX10_skill_27 : decode cX10_skill 27 = .ok (.istore_n 3, 1) := by decide +kernel
theorem dX10_skill_28 : decode cX10_skill 28 = .ok (.aload_n 0, 1) := by decide +kernel
theorem dX10_skill_29 : decode cX10_skill 29 = .ok (.getfield 50, 3) := by decide +kernel
theorem dX10_skill_32 : decode cX10_skill 32 = .ok (.iload_n 1, 1) := by decide +kernel
theorem dX10_skill_33 : decode cX10_skill 33 = .ok (.iload_n 2, 1) := by decide +kernel
theorem dX10_skill_34 : decode cX10_skill 34 = .ok (.iastore, 1) := by decide +kernel
theorem dX10_skill_35 : decode cX10_skill 35 = .ok (.aload_n 0, 1) := by decide +kernel
theorem dX10_skill_36 : decode cX10_skill 36 = .ok (.getfield 53, 3) := by decide +kernel
theorem dX10_skill_39 : decode cX10_skill 39 = .ok (.iload_n 1, 1) := by decide +kernel
theorem dX10_skill_40 : decode cX10_skill 40 = .ok (.iconst 0, 1) := by decide +kernel
theorem dX10_skill_41 : decode cX10_skill 41 = .ok (.iastore, 1) := by decide +kernel
theorem dX10_skill_42 : decode cX10_skill 42 = .ok (.iload_n 3, 1) := by decide +kernel
theorem dX10_skill_43 : decode cX10_skill 43 = .ok (.ireturn, 1) := by decide +kernel
theorem dX10_learn_0 : decode cX10_learn 0 = .ok (.iload_n 1, 1) := by decide +kernel
theorem dX10_learn_1 : decode cX10_learn 1 = .ok (.invokestatic 293, 3) := by decide +kernel
theorem dX10_learn_4 : decode cX10_learn 4 = .ok (.ifCond .eq 15, 3) := by decide +kernel
theorem dX10_learn_19 : decode cX10_learn 19 = .ok (.iconst (-1), 1) := by decide +kernel
theorem dX10_learn_20 : decode cX10_learn 20 = .ok (.ireturn, 1) := by decide +kernel
theorem dX10_learn_7 : decode cX10_learn 7 = .ok (.iload_n 2, 1) := by decide +kernel
theorem dX10_learn_8 : decode cX10_learn 8 = .ok (.i2l, 1) := by decide +kernel
theorem dX10_learn_9 : decode cX10_learn 9 = .ok (.lconst 1, 1) := by decide +kernel
theorem dX10_learn_10 : decode cX10_learn 10 = .ok (.ldc2_w 322, 3) := by decide +kernel
theorem dX10_learn_13 : decode cX10_learn 13 = .ok (.invokestatic 101, 3) := by decide +kernel
theorem dX10_learn_16 : decode cX10_learn 16 = .ok (.ifCond .ne 5, 3) := by decide +kernel
theorem dX10_learn_21 : decode cX10_learn 21 = .ok (.iconst 0, 1) := by decide +kernel
theorem dX10_learn_22 : decode cX10_learn 22 = .ok (.istore_n 3, 1) := by decide +kernel
theorem dX10_learn_90 : decode cX10_learn 90 = .ok (.aload_n 0, 1) := by decide +kernel
theorem dX10_learn_91 : decode cX10_learn 91 = .ok (.getfield 50, 3) := by decide +kernel
theorem dX10_learn_94 : decode cX10_learn 94 = .ok (.iload_n 1, 1) := by decide +kernel
theorem dX10_learn_95 : decode cX10_learn 95 = .ok (.iaload, 1) := by decide +kernel
theorem dX10_learn_96 : decode cX10_learn 96 = .ok (.ireturn, 1) := by decide +kernel
theorem dX10_till_0 : decode cX10_till 0 = .ok (.iload_n 1, 1) := by decide +kernel
theorem dX10_till_1 : decode cX10_till 1 = .ok (.invokestatic 293, 3) := by decide +kernel
theorem dX10_till_4 : decode cX10_till 4 = .ok (.ifCond .eq 15, 3) := by decide +kernel
theorem dX10_till_19 : decode cX10_till 19 = .ok (.iconst (-1), 1) := by decide +kernel
theorem dX10_till_20 : decode cX10_till 20 = .ok (.ireturn, 1) := by decide +kernel
theorem dX10_till_7 : decode cX10_till 7 = .ok (.iload_n 2, 1) := by decide +kernel
theorem dX10_till_8 : decode cX10_till 8 = .ok (.i2l, 1) := by decide +kernel
theorem dX10_till_9 : decode cX10_till 9 = .ok (.lconst 0, 1) := by decide +kernel
theorem dX10_till_10 : decode cX10_till 10 = .ok (.ldc2_w 296, 3) := by decide +kernel
theorem dX10_till_13 : decode cX10_till 13 = .ok (.invokestatic 101, 3) := by decide +kernel
theorem dX10_till_16 : decode cX10_till 16 = .ok (.ifCond .ne 5, 3) := by decide +kernel
theorem dX10_till_21 : decode cX10_till 21 = .ok (.aload_n 0, 1) := by decide +kernel
theorem dX10_till_22 : decode cX10_till 22 = .ok (.getfield 50, 3) := by decide +kernel
theorem dX10_till_25 : decode cX10_till 25 = .ok (.iload_n 1, 1) := by decide +kernel
theorem dX10_till_26 : decode cX10_till 26 = .ok (.iaload, 1) := by decide +kernel
theorem dX10_till_27 : decode cX10_till 27 = .ok (.iload_n 2, 1) := by decide +kernel
theorem dX10_till_28 : decode cX10_till 28 = .ok (.if_icmp .ge 13, 3) := by decide +kernel
theorem dX10_till_41 : decode cX10_till 41 = .ok (.iconst 0, 1) := by decide +kernel
theorem dX10_till_42 : decode cX10_till 42 = .ok (.istore_n 3, 1) := by decide +kernel
theorem dX10_till_43 : decode cX10_till 43 = .ok (.aload_n 0, 1) := by decide +kernel
theorem dX10_till_44 : decode cX10_till 44 = .ok (.getfield 50, 3) := by decide +kernel
theorem dX10_till_47 : decode cX10_till 47 = .ok (.iload_n 1, 1) := by decide +kernel
theorem dX10_till_48 : decode cX10_till 48 = .ok (.iaload, 1) := by decide +kernel
theorem dX10_till_49 : decode cX10_till 49 = .ok (.istore 4, 2) := by decide +kernel
theorem dX10_till_71 : decode cX10_till 71 = .ok (.iload_n 3, 1) := by decide +kernel
theorem dX10_till_72 : decode cX10_till 72 = .ok (.ireturn, 1) := by decide +kernel
theorem dX10_till_31 : decode cX10_till 31 = .ok (.aload_n 0, 1) := by decide +kernel
theorem dX10_till_32 : decode cX10_till 32 = .ok (.getfield 53, 3) := by decide +kernel
theorem dX10_till_35 : decode cX10_till 35 = .ok (.iload_n 1, 1) := by decide +kernel
theorem dX10_till_36 : decode cX10_till 36 = .ok (.iaload, 1) := by decide +kernel
theorem dX10_till_37 : decode cX10_till 37 = .ok (.ineg, 1) := by decide +kernel
theorem dX10_till_38 : decode cX10_till 38 = .ok (.goto 4, 3) := by decide +kernel
theorem dX10_alone_0 : decode cX10_alone 0 = .ok (.iload_n 1, 1) := by decide +kernel
theorem dX10_alone_1 : decode cX10_alone 1 = .ok (.invokestatic 293, 3) := by decide +kernel
theorem dX10_alone_4 : decode cX10_alone 4 = .ok (.ifCond .eq 25, 3) := by decide +kernel
theorem dX10_alone_29 : decode cX10_alone 29 = .ok (.ldc2_w 320, 3) := by decide +kernel
theorem dX10_alone_32 : decode cX10_alone 32 = .ok (.lreturn, 1) := by decide +kernel
theorem dX10_alone_7 : decode cX10_alone 7 = .ok (.iload_n 2, 1) := by decide +kernel
theorem dX10_alone_8 : decode cX10_alone 8 = .ok (.i2l, 1) := by decide +kernel
theorem dX10_alone_9 : decode cX10_alone 9 = .ok (.lconst 0, 1) := by decide +kernel
theorem dX10_alone_10 : decode cX10_alone 10 = .ok (.ldc2_w 316, 3) := by decide +kernel
theorem dX10_alone_13 : decode cX10_alone 13 = .ok (.invokestatic 101, 3) := by decide +kernel
theorem dX10_alone_16 : decode cX10_alone 16 = .ok (.ifCond .eq 13, 3) := by decide +kernel
theorem dX10_alone_19 : decode cX10_alone 19 = .ok (.iload_n 3, 1) := by decide +kernel
theorem dX10_alone_20 : decode cX10_alone 20 = .ok (.i2l, 1) := by decide +kernel
theorem dX10_alone_21 : decode cX10_alone 21 = .ok (.lconst 0, 1) := by decide +kernel
theorem dX10_alone_22 : decode cX10_alone 22 = .ok (.lconst 1, 1) := by decide +kernel
theorem dX10_alone_23 : decode cX10_alone 23 = .ok (.invokestatic 101, 3) := by decide +kernel
theorem dX10_alone_26 : decode cX10_alone 26 = .ok (.ifCond .ne 7, 3) := by decide +kernel
theorem dX10_alone_33 : decode cX10_alone 33 = .ok (.lconst 1, 1) := by decide +kernel
theorem dX10_alone_34 : decode cX10_alone 34 = .ok (.lstore 4, 2) := by decide +kernel
theorem dX10_alone_36 : decode cX10_alone 36 = .ok (.lconst 1, 1) := by decide +kernel
theorem dX10_alone_37 : decode cX10_alone 37 = .ok (.lstore 6, 2) := by decide +kernel
theorem dX10_alone_39 : decode cX10_alone 39 = .ok (.iconst 0, 1) := by decide +kernel
theorem dX10_alone_40 : decode cX10_alone 40 = .ok (.istore 8, 2) := by decide +kernel
theorem dX10_alone_74 : decode cX10_alone 74 = .ok (.lload 4, 2) := by decide +kernel
theorem dX10_alone_76 : decode cX10_alone 76 = .ok (.lconst 0, 1) := by decide +kernel
theorem dX10_alone_77 : decode cX10_alone 77 = .ok (.lcmp, 1) := by decide +kernel
theorem dX10_alone_78 : decode cX10_alone 78 = .ok (.ifCond .ne 6, 3) := by decide +kernel
theorem dX10_alone_84 : decode cX10_alone 84 = .ok (.lload 6, 2) := by decide +kernel
theorem dX10_alone_86 : decode cX10_alone 86 = .ok (.lstore 8, 2) := by decide +kernel
theorem dX10_alone_88 : decode cX10_alone 88 = .ok (.lload 4, 2) := by decide +kernel
theorem dX10_alone_90 : decode cX10_alone 90 = .ok (.lstore 10, 2) := by decide +kernel
theorem dX10_alone_117 : decode cX10_alone 117 = .ok (.iload_n 3, 1) := by decide +kernel
theorem dX10_alone_118 : decode cX10_alone 118 = .ok (.ifCond .ne 11, 3) := by decide +kernel
theorem dX10_alone_129 : decode cX10_alone 129 = .ok (.lload 6, 2) := by decide +kernel
theorem dX10_alone_131 : decode cX10_alone 131 = .ok (.lload 8, 2) := by decide +kernel
theorem dX10_alone_133 : decode cX10_alone 133 = .ok (.ldiv, 1) := by decide +kernel
theorem dX10_alone_134 : decode cX10_alone 134 = .ok (.lreturn, 1) := by decide +kernel
theorem dX10_alone_121 : decode cX10_alone 121 = .ok (.lload 4, 2) := by decide +kernel
theorem dX10_alone_123 : decode cX10_alone 123 = .ok (.lload 8, 2) := by decide +kernel
theorem dX10_alone_125 : decode cX10_alone 125 = .ok (.ldiv, 1) := by decide +kernel
theorem dX10_alone_126 : decode cX10_alone 126 = .ok (.goto 8, 3) := by decide +kernel
theorem dX10_alone_81 : decode cX10_alone 81 = .ok (.iload_n 3, 1) := by decide +kernel
theorem dX10_alone_82 : decode cX10_alone 82 = .ok (.i2l, 1) := by decide +kernel
theorem dX10_alone_83 : decode cX10_alone 83 = .ok (.lreturn, 1) := by decide +kernel
theorem dX10_image_0 : decode cX10_image 0 = .ok (.aload_n 0, 1) := by decide +kernel
theorem dX10_image_1 : decode cX10_image 1 = .ok (.iconst 1, 1) := by decide +kernel
theorem dX10_image_2 : decode cX10_image 2 = .ok (.putfield 327, 3) := by decide +kernel
theorem dX10_image_5 : decode cX10_image 5 = .ok (.aload_n 0, 1) := by decide +kernel
theorem dX10_image_6 : decode cX10_image 6 = .ok (.aload_n 0, 1) := by decide +kernel
theorem dX10_image_7 : decode cX10_image 7 = .ok (.getfield 109, 3) := by decide +kernel
theorem dX10_image_10 : decode cX10_image 10 = .ok (.putfield 331, 3) := by decide +kernel
theorem dX10_image_13 : decode cX10_image 13 = .ok (.aload_n 0, 1) := by decide +kernel
theorem dX10_image_14 : decode cX10_image 14 = .ok (.getfield 66, 3) := by decide +kernel
theorem dX10_image_17 : decode cX10_image 17 = .ok (.iconst 0, 1) := by decide +kernel
theorem dX10_image_18 : decode cX10_image 18 = .ok (.aload_n 0, 1) := by decide +kernel
theorem dX10_image_19 : decode cX10_image 19 = .ok (.getfield 151, 3) := by decide +kernel
theorem dX10_image_22 : decode cX10_image 22 = .ok (.iastore, 1) := by decide +kernel
theorem dX10_image_23 : decode cX10_image 23 = .ok (.aload_n 0, 1) := by decide +kernel
theorem dX10_image_24 : decode cX10_image 24 = .ok (.getfield 66, 3) := by decide +kernel
theorem dX10_image_27 : decode cX10_image 27 = .ok (.iconst 1, 1) := by decide +kernel
theorem dX10_image_28 : decode cX10_image 28 = .ok (.aload_n 0, 1) := by decide +kernel
theorem dX10_image_29 : decode cX10_image 29 = .ok (.getfield 258, 3) := by decide +kernel
theorem dX10_image_32 : decode cX10_image 32 = .ok (.iastore, 1) := by decide +kernel
theorem dX10_image_33 : decode cX10_image 33 = .ok (.aload_n 0, 1) := by decide +kernel
theorem dX10_image_34 : decode cX10_image 34 = .ok (.getfield 66, 3) := by decide +kernel
theorem dX10_image_37 : decode cX10_image 37 = .ok (.iconst 2, 1) := by decide +kernel
theorem dX10_image_38 : decode cX10_image 38 = .ok (.aload_n 0, 1) := by decide +kernel
theorem dX10_image_39 : decode cX10_image 39 = .ok (.getfield 46, 3) := by decide +kernel
theorem dX10_image_42 : decode cX10_image 42 = .ok (.iastore, 1) := by decide +kernel
theorem dX10_image_43 : decode cX10_image 43 = .ok (.iconst 0, 1) := by decide +kernel
theorem dX10_image_44 : decode cX10_image 44 = .ok (.istore_n 1, 1) := by decide +kernel
theorem dX10_image_110 : decode cX10_image 110 = .ok (.aload_n 0, 1) := by decide +kernel
theorem dX10_image_111 : decode cX10_image 111 = .ok (.getfield 151, 3) := by decide +kernel
theorem dX10_image_114 : decode cX10_image 114 = .ok (.ireturn, 1) := by decide +kernel
theorem dX10_back_0 : decode cX10_back 0 = .ok (.aload_n 0, 1) := by decide +kernel
theorem dX10_back_1 : decode cX10_back 1 = .ok (.getfield 327, 3) := by decide +kernel
theorem dX10_back_4 : decode cX10_back 4 = .ok (.ifCond .ne 6, 3) := by decide +kernel
theorem dX10_back_10 : decode cX10_back 10 = .ok (.aload_n 0, 1) := by decide +kernel
theorem dX10_back_11 : decode cX10_back 11 = .ok (.aload_n 0, 1) := by decide +kernel
theorem dX10_back_12 : decode cX10_back 12 = .ok (.getfield 66, 3) := by decide +kernel
theorem dX10_back_15 : decode cX10_back 15 = .ok (.iconst 0, 1) := by decide +kernel
theorem dX10_back_16 : decode cX10_back 16 = .ok (.iaload, 1) := by decide +kernel
theorem dX10_back_17 : decode cX10_back 17 = .ok (.putfield 151, 3) := by decide +kernel
theorem dX10_back_20 : decode cX10_back 20 = .ok (.aload_n 0, 1) := by decide +kernel
theorem dX10_back_21 : decode cX10_back 21 = .ok (.aload_n 0, 1) := by decide +kernel
theorem dX10_back_22 : decode cX10_back 22 = .ok (.getfield 66, 3) := by decide +kernel
theorem dX10_back_25 : decode cX10_back 25 = .ok (.iconst 1, 1) := by decide +kernel
theorem dX10_back_26 : decode cX10_back 26 = .ok (.iaload, 1) := by decide +kernel
theorem dX10_back_27 : decode cX10_back 27 = .ok (.putfield 258, 3) := by decide +kernel
theorem dX10_back_30 : decode cX10_back 30 = .ok (.aload_n 0, 1) := by decide +kernel
theorem dX10_back_31 : decode cX10_back 31 = .ok (.aload_n 0, 1) := by decide +kernel
theorem dX10_back_32 : decode cX10_back 32 = .ok (.getfield 66, 3) := by decide +kernel
theorem dX10_back_35 : decode cX10_back 35 = .ok (.iconst 2, 1) := by decide +kernel
theorem dX10_back_36 : decode cX10_back 36 = .ok (.iaload, 1) := by decide +kernel
theorem dX10_back_37 : decode cX10_back 37 = .ok (.putfield 46, 3) := by decide +kernel
theorem dX10_back_40 : decode cX10_back 40 = .ok (.iconst 0, 1) := by decide +kernel
theorem dX10_back_41 : decode cX10_back 41 = .ok (.istore_n 1, 1) := by decide +kernel
theorem dX10_back_107 : decode cX10_back 107 = .ok (.aload_n 0, 1) := by decide +kernel
theorem dX10_back_108 : decode cX10_back 108 = .ok (.getfield 151, 3) := by decide +kernel
theorem dX10_back_111 : decode cX10_back 111 = .ok (.ireturn, 1) := by decide +kernel
theorem dX10_back_7 : decode cX10_back 7 = .ok (.bipush (-5), 2) := by decide +kernel
theorem dX10_back_9 : decode cX10_back 9 = .ok (.ireturn, 1) := by decide +kernel
theorem dX10_body_0 : decode cX10_body 0 = .ok (.iload_n 1, 1) := by decide +kernel
theorem dX10_body_1 : decode cX10_body 1 = .ok (.i2l, 1) := by decide +kernel
theorem dX10_body_2 : decode cX10_body 2 = .ok (.lconst 0, 1) := by decide +kernel
theorem dX10_body_3 : decode cX10_body 3 = .ok (.ldc2_w 143, 3) := by decide +kernel
theorem dX10_body_6 : decode cX10_body 6 = .ok (.invokestatic 101, 3) := by decide +kernel
theorem dX10_body_9 : decode cX10_body 9 = .ok (.ifCond .ne 5, 3) := by decide +kernel
theorem dX10_body_14 : decode cX10_body 14 = .ok (.aload_n 0, 1) := by decide +kernel
theorem dX10_body_15 : decode cX10_body 15 = .ok (.getfield 334, 3) := by decide +kernel
theorem dX10_body_18 : decode cX10_body 18 = .ok (.bipush 50, 2) := by decide +kernel
theorem dX10_body_20 : decode cX10_body 20 = .ok (.if_icmp .ne 6, 3) := by decide +kernel
theorem dX10_body_26 : decode cX10_body 26 = .ok (.aload_n 0, 1) := by decide +kernel
theorem dX10_body_27 : decode cX10_body 27 = .ok (.getfield 69, 3) := by decide +kernel
theorem dX10_body_30 : decode cX10_body 30 = .ok (.aload_n 0, 1) := by decide +kernel
theorem dX10_body_31 : decode cX10_body 31 = .ok (.getfield 334, 3) := by decide +kernel
theorem dX10_body_34 : decode cX10_body 34 = .ok (.iload_n 1, 1) := by decide +kernel
theorem dX10_body_35 : decode cX10_body 35 = .ok (.iastore, 1) := by decide +kernel
theorem dX10_body_36 : decode cX10_body 36 = .ok (.aload_n 0, 1) := by decide +kernel
theorem dX10_body_37 : decode cX10_body 37 = .ok (.dup, 1) := by decide +kernel
theorem dX10_body_38 : decode cX10_body 38 = .ok (.getfield 334, 3) := by decide +kernel
theorem dX10_body_41 : decode cX10_body 41 = .ok (.iconst 1, 1) := by decide +kernel
theorem dX10_body_42 : decode cX10_body 42 = .ok (.iadd, 1) := by decide +kernel
theorem dX10_body_43 : decode cX10_body 43 = .ok (.putfield 334, 3) := by decide +kernel
theorem dX10_body_46 : decode cX10_body 46 = .ok (.aload_n 0, 1) := by decide +kernel
theorem dX10_body_47 : decode cX10_body 47 = .ok (.getfield 334, 3) := by decide +kernel
theorem dX10_body_50 : decode cX10_body 50 = .ok (.iconst 1, 1) := by decide +kernel
theorem dX10_body_51 : decode cX10_body 51 = .ok (.isub, 1) := by decide +kernel
theorem dX10_body_52 : decode cX10_body 52 = .ok (.ireturn, 1) := by decide +kernel
theorem dX10_body_23 : decode cX10_body 23 = .ok (.bipush (-3), 2) := by decide +kernel
theorem dX10_body_25 : decode cX10_body 25 = .ok (.ireturn, 1) := by decide +kernel
theorem dX10_body_12 : decode cX10_body 12 = .ok (.iconst (-1), 1) := by decide +kernel
theorem dX10_body_13 : decode cX10_body 13 = .ok (.ireturn, 1) := by decide +kernel
theorem dX10_act_0 : decode cX10_act 0 = .ok (.aload_n 0, 1) := by decide +kernel
theorem dX10_act_1 : decode cX10_act 1 = .ok (.iconst 0, 1) := by decide +kernel
theorem dX10_act_2 : decode cX10_act 2 = .ok (.putfield 337, 3) := by decide +kernel
theorem dX10_act_5 : decode cX10_act 5 = .ok (.aload_n 0, 1) := by decide +kernel
theorem dX10_act_6 : decode cX10_act 6 = .ok (.iload_n 1, 1) := by decide +kernel
theorem dX10_act_7 : decode cX10_act 7 = .ok (.invokevirtual 361, 3) := by decide +kernel
theorem dX10_act_10 : decode cX10_act 10 = .ok (.ifCond .ne 5, 3) := by decide +kernel
theorem dX10_act_15 : decode cX10_act 15 = .ok (.aload_n 0, 1) := by decide +kernel
theorem dX10_act_16 : decode cX10_act 16 = .ok (.aload_n 0, 1) := by decide +kernel
theorem dX10_act_17 : decode cX10_act 17 = .ok (.getfield 69, 3) := by decide +kernel
theorem dX10_act_20 : decode cX10_act 20 = .ok (.iload_n 1, 1) := by decide +kernel
theorem dX10_act_21 : decode cX10_act 21 = .ok (.iaload, 1) := by decide +kernel
theorem dX10_act_22 : decode cX10_act 22 = .ok (.putfield 352, 3) := by decide +kernel
theorem dX10_act_25 : decode cX10_act 25 = .ok (.aload_n 0, 1) := by decide +kernel
theorem dX10_act_26 : decode cX10_act 26 = .ok (.iload_n 1, 1) := by decide +kernel
theorem dX10_act_27 : decode cX10_act 27 = .ok (.putfield 346, 3) := by decide +kernel
theorem dX10_act_30 : decode cX10_act 30 = .ok (.iload_n 2, 1) := by decide +kernel
theorem dX10_act_31 : decode cX10_act 31 = .ok (.tableswitch 69 0 3 #[29, 39, 49, 59], 29) := by decide +kernel
theorem dX10_act_60 : decode cX10_act 60 = .ok (.aload_n 0, 1) := by decide +kernel
theorem dX10_act_61 : decode cX10_act 61 = .ok (.aload_n 0, 1) := by decide +kernel
theorem dX10_act_62 : decode cX10_act 62 = .ok (.getfield 352, 3) := by decide +kernel
theorem dX10_act_65 : decode cX10_act 65 = .ok (.iload_n 3, 1) := by decide +kernel
theorem dX10_act_66 : decode cX10_act 66 = .ok (.invokevirtual 343, 3) := by decide +kernel
theorem dX10_act_69 : decode cX10_act 69 = .ok (.ireturn, 1) := by decide +kernel
theorem dX10_act_70 : decode cX10_act 70 = .ok (.aload_n 0, 1) := by decide +kernel
theorem dX10_act_71 : decode cX10_act 71 = .ok (.aload_n 0, 1) := by decide +kernel
theorem dX10_act_72 : decode cX10_act 72 = .ok (.getfield 352, 3) := by decide +kernel
theorem dX10_act_75 : decode cX10_act 75 = .ok (.iload_n 3, 1) := by decide +kernel
theorem dX10_act_76 : decode cX10_act 76 = .ok (.invokevirtual 349, 3) := by decide +kernel
theorem dX10_act_79 : decode cX10_act 79 = .ok (.ireturn, 1) := by decide +kernel
theorem dX10_act_80 : decode cX10_act 80 = .ok (.aload_n 0, 1) := by decide +kernel
theorem dX10_act_81 : decode cX10_act 81 = .ok (.aload_n 0, 1) := by decide +kernel
theorem dX10_act_82 : decode cX10_act 82 = .ok (.getfield 352, 3) := by decide +kernel
theorem dX10_act_85 : decode cX10_act 85 = .ok (.iload_n 3, 1) := by decide +kernel
theorem dX10_act_86 : decode cX10_act 86 = .ok (.invokevirtual 355, 3) := by decide +kernel
theorem dX10_act_89 : decode cX10_act 89 = .ok (.ireturn, 1) := by decide +kernel
theorem dX10_act_90 : decode cX10_act 90 = .ok (.aload_n 0, 1) := by decide +kernel
theorem dX10_act_91 : decode cX10_act 91 = .ok (.aload_n 0, 1) := by decide +kernel
theorem dX10_act_92 : decode cX10_act 92 = .ok (.getfield 352, 3) := by decide +kernel
theorem dX10_act_95 : decode cX10_act 95 = .ok (.iload_n 3, 1) := by decide +kernel
theorem dX10_act_96 : decode cX10_act 96 = .ok (.invokevirtual 358, 3) := by decide +kernel
theorem dX10_act_99 : decode cX10_act 99 = .ok (.ireturn, 1) := by decide +kernel
theorem dX10_act_100 : decode cX10_act 100 = .ok (.iconst 0, 1) := by decide +kernel
theorem dX10_act_101 : decode cX10_act 101 = .ok (.ireturn, 1) := by decide +kernel
theorem dX10_act_13 : decode cX10_act 13 = .ok (.iconst 0, 1) := by decide +kernel
theorem dX10_act_14 : decode cX10_act 14 = .ok (.ireturn, 1) := by decide +kernel
theorem dX10_trace_0 : decode cX10_trace 0 = .ok (.iload_n 1, 1) := by decide +kernel
theorem dX10_trace_1 : decode cX10_trace 1 = .ok (.ifCond .lt 26, 3) := by decide +kernel
theorem dX10_trace_27 : decode cX10_trace 27 = .ok (.iconst (-1), 1) := by decide +kernel
theorem dX10_trace_28 : decode cX10_trace 28 = .ok (.ireturn, 1) := by decide +kernel
theorem dX10_trace_4 : decode cX10_trace 4 = .ok (.iload_n 1, 1) := by decide +kernel
theorem dX10_trace_5 : decode cX10_trace 5 = .ok (.aload_n 0, 1) := by decide +kernel
theorem dX10_trace_6 : decode cX10_trace 6 = .ok (.getfield 337, 3) := by decide +kernel
theorem dX10_trace_9 : decode cX10_trace 9 = .ok (.if_icmp .ge 18, 3) := by decide +kernel
theorem dX10_trace_12 : decode cX10_trace 12 = .ok (.iload_n 1, 1) := by decide +kernel
theorem dX10_trace_13 : decode cX10_trace 13 = .ok (.bipush 24, 2) := by decide +kernel
theorem dX10_trace_15 : decode cX10_trace 15 = .ok (.if_icmp .ge 12, 3) := by decide +kernel
theorem dX10_trace_18 : decode cX10_trace 18 = .ok (.aload_n 0, 1) := by decide +kernel
theorem dX10_trace_19 : decode cX10_trace 19 = .ok (.getfield 72, 3) := by decide +kernel
theorem dX10_trace_22 : decode cX10_trace 22 = .ok (.iload_n 1, 1) := by decide +kernel
theorem dX10_trace_23 : decode cX10_trace 23 = .ok (.iaload, 1) := by decide +kernel
theorem dX10_trace_24 : decode cX10_trace 24 = .ok (.goto 4, 3) := by decide +kernel
theorem dX10_keep_0 : decode cX10_keep 0 = .ok (.iload_n 1, 1) := by decide +kernel
theorem dX10_keep_1 : decode cX10_keep 1 = .ok (.invokestatic 125, 3) := by decide +kernel
theorem dX10_keep_4 : decode cX10_keep 4 = .ok (.ifCond .eq 16, 3) := by decide +kernel
theorem dX10_keep_20 : decode cX10_keep 20 = .ok (.iconst (-1), 1) := by decide +kernel
theorem dX10_keep_21 : decode cX10_keep 21 = .ok (.ireturn, 1) := by decide +kernel
theorem dX10_keep_7 : decode cX10_keep 7 = .ok (.iload_n 2, 1) := by decide +kernel
theorem dX10_keep_8 : decode cX10_keep 8 = .ok (.iconst (-1), 1) := by decide +kernel
theorem dX10_keep_9 : decode cX10_keep 9 = .ok (.if_icmp .eq 13, 3) := by decide +kernel
theorem dX10_keep_22 : decode cX10_keep 22 = .ok (.aload_n 0, 1) := by decide +kernel
theorem dX10_keep_23 : decode cX10_keep 23 = .ok (.getfield 75, 3) := by decide +kernel
theorem dX10_keep_26 : decode cX10_keep 26 = .ok (.iload_n 1, 1) := by decide +kernel
theorem dX10_keep_27 : decode cX10_keep 27 = .ok (.iload_n 2, 1) := by decide +kernel
theorem dX10_keep_28 : decode cX10_keep 28 = .ok (.iastore, 1) := by decide +kernel
theorem dX10_keep_29 : decode cX10_keep 29 = .ok (.aload_n 0, 1) := by decide +kernel
theorem dX10_keep_30 : decode cX10_keep 30 = .ok (.getfield 78, 3) := by decide +kernel
theorem dX10_keep_33 : decode cX10_keep 33 = .ok (.iload_n 1, 1) := by decide +kernel
theorem dX10_keep_34 : decode cX10_keep 34 = .ok (.iconst 0, 1) := by decide +kernel
theorem dX10_keep_35 : decode cX10_keep 35 = .ok (.iastore, 1) := by decide +kernel
theorem dX10_keep_36 : decode cX10_keep 36 = .ok (.iconst 1, 1) := by decide +kernel
theorem dX10_keep_37 : decode cX10_keep 37 = .ok (.ireturn, 1) := by decide +kernel
theorem dX10_keep_12 : decode cX10_keep 12 = .ok (.aload_n 0, 1) := by decide +kernel
theorem dX10_keep_13 : decode cX10_keep 13 = .ok (.iload_n 2, 1) := by decide +kernel
theorem dX10_keep_14 : decode cX10_keep 14 = .ok (.invokevirtual 361, 3) := by decide +kernel
theorem dX10_keep_17 : decode cX10_keep 17 = .ok (.ifCond .ne 5, 3) := by decide +kernel
theorem dX10_row_0 : decode cX10_row 0 = .ok (.iload_n 1, 1) := by decide +kernel
theorem dX10_row_1 : decode cX10_row 1 = .ok (.invokestatic 125, 3) := by decide +kernel
theorem dX10_row_4 : decode cX10_row 4 = .ok (.ifCond .eq 21, 3) := by decide +kernel
theorem dX10_row_25 : decode cX10_row 25 = .ok (.iconst (-1), 1) := by decide +kernel
theorem dX10_row_26 : decode cX10_row 26 = .ok (.ireturn, 1) := by decide +kernel
theorem dX10_row_7 : decode cX10_row 7 = .ok (.iload_n 2, 1) := by decide +kernel
theorem dX10_row_8 : decode cX10_row 8 = .ok (.i2l, 1) := by decide +kernel
theorem dX10_row_9 : decode cX10_row 9 = .ok (.lconst 0, 1) := by decide +kernel
theorem dX10_row_10 : decode cX10_row 10 = .ok (.ldc2_w 116, 3) := by decide +kernel
theorem dX10_row_13 : decode cX10_row 13 = .ok (.invokestatic 101, 3) := by decide +kernel
theorem dX10_row_16 : decode cX10_row 16 = .ok (.ifCond .eq 9, 3) := by decide +kernel
theorem dX10_row_19 : decode cX10_row 19 = .ok (.iload_n 3, 1) := by decide +kernel
theorem dX10_row_20 : decode cX10_row 20 = .ok (.bipush 60, 2) := by decide +kernel
theorem dX10_row_22 : decode cX10_row 22 = .ok (.if_icmp .le 5, 3) := by decide +kernel
theorem dX10_row_27 : decode cX10_row 27 = .ok (.iload_n 3, 1) := by decide +kernel
theorem dX10_row_28 : decode cX10_row 28 = .ok (.ifCond .ge 6, 3) := by decide +kernel
theorem dX10_row_34 : decode cX10_row 34 = .ok (.aload_n 0, 1) := by decide +kernel
theorem dX10_row_35 : decode cX10_row 35 = .ok (.getfield 75, 3) := by decide +kernel
theorem dX10_row_38 : decode cX10_row 38 = .ok (.iload_n 1, 1) := by decide +kernel
theorem dX10_row_39 : decode cX10_row 39 = .ok (.bipush 50, 2) := by decide +kernel
theorem dX10_row_41 : decode cX10_row 41 = .ok (.iload_n 2, 1) := by decide +kernel
theorem dX10_row_42 : decode cX10_row 42 = .ok (.iadd, 1) := by decide +kernel
theorem dX10_row_43 : decode cX10_row 43 = .ok (.iastore, 1) := by decide +kernel
theorem dX10_row_44 : decode cX10_row 44 = .ok (.aload_n 0, 1) := by decide +kernel
theorem dX10_row_45 : decode cX10_row 45 = .ok (.getfield 78, 3) := by decide +kernel
theorem dX10_row_48 : decode cX10_row 48 = .ok (.iload_n 1, 1) := by decide +kernel
theorem dX10_row_49 : decode cX10_row 49 = .ok (.iload_n 3, 1) := by decide +kernel
theorem dX10_row_50 : decode cX10_row 50 = .ok (.iastore, 1) := by decide +kernel
theorem dX10_row_51 : decode cX10_row 51 = .ok (.bipush 60, 2) := by decide +kernel
theorem dX10_row_53 : decode cX10_row 53 = .ok (.iload_n 1, 1) := by decide +kernel
theorem dX10_row_54 : decode cX10_row 54 = .ok (.imul, 1) := by decide +kernel
theorem dX10_row_55 : decode cX10_row 55 = .ok (.istore 4, 2) := by decide +kernel
theorem dX10_row_83 : decode cX10_row 83 = .ok (.iconst 1, 1) := by decide +kernel
theorem dX10_row_84 : decode cX10_row 84 = .ok (.ireturn, 1) := by decide +kernel
theorem dX10_row_31 : decode cX10_row 31 = .ok (.bipush (-14), 2) := by decide +kernel
theorem dX10_row_33 : decode cX10_row 33 = .ok (.ireturn, 1) := by decide +kernel
theorem dX10_put_0 : decode cX10_put 0 = .ok (.aload_n 0, 1) := by decide +kernel
theorem dX10_put_1 : decode cX10_put 1 = .ok (.iload_n 1, 1) := by decide +kernel
theorem dX10_put_2 : decode cX10_put 2 = .ok (.iload_n 2, 1) := by decide +kernel
theorem dX10_put_3 : decode cX10_put 3 = .ok (.invokevirtual 364, 3) := by decide +kernel
theorem dX10_put_6 : decode cX10_put 6 = .ok (.istore 5, 2) := by decide +kernel
theorem dX10_put_8 : decode cX10_put 8 = .ok (.iload 5, 2) := by decide +kernel
theorem dX10_put_10 : decode cX10_put 10 = .ok (.ifCond .ne 27, 3) := by decide +kernel
theorem dX10_put_37 : decode cX10_put 37 = .ok (.iload 5, 2) := by decide +kernel
theorem dX10_put_39 : decode cX10_put 39 = .ok (.ifCond .ne 7, 3) := by decide +kernel
theorem dX10_put_46 : decode cX10_put 46 = .ok (.iload 5, 2) := by decide +kernel
theorem dX10_put_48 : decode cX10_put 48 = .ok (.ireturn, 1) := by decide +kernel
theorem dX10_put_13 : decode cX10_put 13 = .ok (.aload_n 0, 1) := by decide +kernel
theorem dX10_put_14 : decode cX10_put 14 = .ok (.getfield 81, 3) := by decide +kernel
theorem dX10_put_17 : decode cX10_put 17 = .ok (.bipush 60, 2) := by decide +kernel
theorem dX10_put_19 : decode cX10_put 19 = .ok (.iload_n 1, 1) := by decide +kernel
theorem dX10_put_20 : decode cX10_put 20 = .ok (.imul, 1) := by decide +kernel
theorem dX10_put_21 : decode cX10_put 21 = .ok (.iload_n 2, 1) := by decide +kernel
theorem dX10_put_22 : decode cX10_put 22 = .ok (.iadd, 1) := by decide +kernel
theorem dX10_put_23 : decode cX10_put 23 = .ok (.aload_n 0, 1) := by decide +kernel
theorem dX10_put_24 : decode cX10_put 24 = .ok (.getfield 75, 3) := by decide +kernel
theorem dX10_put_27 : decode cX10_put 27 = .ok (.iload_n 1, 1) := by decide +kernel
theorem dX10_put_28 : decode cX10_put 28 = .ok (.iaload, 1) := by decide +kernel
theorem dX10_put_29 : decode cX10_put 29 = .ok (.bipush 50, 2) := by decide +kernel
theorem dX10_put_31 : decode cX10_put 31 = .ok (.isub, 1) := by decide +kernel
theorem dX10_put_32 : decode cX10_put 32 = .ok (.lload_n 3, 1) := by decide +kernel
theorem dX10_put_33 : decode cX10_put 33 = .ok (.invokestatic 367, 3) := by decide +kernel
theorem dX10_put_36 : decode cX10_put 36 = .ok (.lastore, 1) := by decide +kernel
theorem dX10_put_42 : decode cX10_put 42 = .ok (.iconst 1, 1) := by decide +kernel
theorem dX10_put_43 : decode cX10_put 43 = .ok (.goto 5, 3) := by decide +kernel
theorem dX10_element_0 : decode cX10_element 0 = .ok (.aload_n 0, 1) := by decide +kernel
theorem dX10_element_1 : decode cX10_element 1 = .ok (.iload_n 1, 1) := by decide +kernel
theorem dX10_element_2 : decode cX10_element 2 = .ok (.iload_n 2, 1) := by decide +kernel
theorem dX10_element_3 : decode cX10_element 3 = .ok (.invokevirtual 364, 3) := by decide +kernel
theorem dX10_element_6 : decode cX10_element 6 = .ok (.ifCond .eq 9, 3) := by decide +kernel
theorem dX10_element_15 : decode cX10_element 15 = .ok (.aload_n 0, 1) := by decide +kernel
theorem dX10_element_16 : decode cX10_element 16 = .ok (.getfield 81, 3) := by decide +kernel
theorem dX10_element_19 : decode cX10_element 19 = .ok (.bipush 60, 2) := by decide +kernel
theorem dX10_element_21 : decode cX10_element 21 = .ok (.iload_n 1, 1) := by decide +kernel
theorem dX10_element_22 : decode cX10_element 22 = .ok (.imul, 1) := by decide +kernel
theorem dX10_element_23 : decode cX10_element 23 = .ok (.iload_n 2, 1) := by decide +kernel
theorem dX10_element_24 : decode cX10_element 24 = .ok (.iadd, 1) := by decide +kernel
theorem dX10_element_25 : decode cX10_element 25 = .ok (.laload, 1) := by decide +kernel
theorem dX10_element_26 : decode cX10_element 26 = .ok (.lreturn, 1) := by decide +kernel
theorem dX10_element_9 : decode cX10_element 9 = .ok (.ldc2_w 320, 3) := by decide +kernel
theorem dX10_element_12 : decode cX10_element 12 = .ok (.goto 14, 3) := by decide +kernel
theorem dX10_shift_0 : decode cX10_shift 0 = .ok (.iload_n 1, 1) := by decide +kernel
theorem dX10_shift_1 : decode cX10_shift 1 = .ok (.invokestatic 125, 3) := by decide +kernel
theorem dX10_shift_4 : decode cX10_shift 4 = .ok (.ifCond .eq 10, 3) := by decide +kernel
theorem dX10_shift_14 : decode cX10_shift 14 = .ok (.iconst (-1), 1) := by decide +kernel
theorem dX10_shift_15 : decode cX10_shift 15 = .ok (.ireturn, 1) := by decide +kernel
theorem dX10_shift_7 : decode cX10_shift 7 = .ok (.iload_n 3, 1) := by decide +kernel
theorem dX10_shift_8 : decode cX10_shift 8 = .ok (.invokestatic 125, 3) := by decide +kernel
theorem dX10_shift_11 : decode cX10_shift 11 = .ok (.ifCond .ne 5, 3) := by decide +kernel
theorem dX10_shift_16 : decode cX10_shift 16 = .ok (.aload_n 0, 1) := by decide +kernel
theorem dX10_shift_17 : decode cX10_shift 17 = .ok (.getfield 75, 3) := by decide +kernel
theorem dX10_shift_20 : decode cX10_shift 20 = .ok (.iload_n 1, 1) := by decide +kernel
theorem dX10_shift_21 : decode cX10_shift 21 = .ok (.iaload, 1) := by decide +kernel
theorem dX10_shift_22 : decode cX10_shift 22 = .ok (.ifCond .lt 12, 3) := by decide +kernel
theorem dX10_shift_34 : decode cX10_shift 34 = .ok (.bipush (-11), 2) := by decide +kernel
theorem dX10_shift_36 : decode cX10_shift 36 = .ok (.ireturn, 1) := by decide +kernel
theorem dX10_shift_25 : decode cX10_shift 25 = .ok (.aload_n 0, 1) := by decide +kernel
theorem dX10_shift_26 : decode cX10_shift 26 = .ok (.getfield 75, 3) := by decide +kernel
theorem dX10_shift_29 : decode cX10_shift 29 = .ok (.iload_n 3, 1) := by decide +kernel
theorem dX10_shift_30 : decode cX10_shift 30 = .ok (.iaload, 1) := by decide +kernel
theorem dX10_shift_31 : decode cX10_shift 31 = .ok (.ifCond .ge 6, 3) := by decide +kernel
theorem dX10_shift_37 : decode cX10_shift 37 = .ok (.aload_n 0, 1) := by decide +kernel
theorem dX10_shift_38 : decode cX10_shift 38 = .ok (.getfield 75, 3) := by decide +kernel
theorem dX10_shift_41 : decode cX10_shift 41 = .ok (.iload_n 1, 1) := by decide +kernel
theorem dX10_shift_42 : decode cX10_shift 42 = .ok (.iaload, 1) := by decide +kernel
theorem dX10_shift_43 : decode cX10_shift 43 = .ok (.bipush 50, 2) := by decide +kernel
theorem dX10_shift_45 : decode cX10_shift 45 = .ok (.if_icmp .lt 18, 3) := by decide +kernel
theorem dX10_shift_63 : decode cX10_shift 63 = .ok (.bipush (-12), 2) := by decide +kernel
theorem dX10_shift_65 : decode cX10_shift 65 = .ok (.ireturn, 1) := by decide +kernel
theorem dX10_shift_48 : decode cX10_shift 48 = .ok (.aload_n 0, 1) := by decide +kernel
theorem dX10_shift_49 : decode cX10_shift 49 = .ok (.getfield 75, 3) := by decide +kernel
theorem dX10_shift_52 : decode cX10_shift 52 = .ok (.iload_n 1, 1) := by decide +kernel
theorem dX10_shift_53 : decode cX10_shift 53 = .ok (.iaload, 1) := by decide +kernel
theorem dX10_shift_54 : decode cX10_shift 54 = .ok (.aload_n 0, 1) := by decide +kernel
theorem dX10_shift_55 : decode cX10_shift 55 = .ok (.getfield 75, 3) := by decide +kernel
theorem dX10_shift_58 : decode cX10_shift 58 = .ok (.iload_n 3, 1) := by decide +kernel
theorem dX10_shift_59 : decode cX10_shift 59 = .ok (.iaload, 1) := by decide +kernel
theorem dX10_shift_60 : decode cX10_shift 60 = .ok (.if_icmp .eq 6, 3) := by decide +kernel
theorem dX10_shift_66 : decode cX10_shift 66 = .ok (.iload 5, 2) := by decide +kernel
theorem dX10_shift_68 : decode cX10_shift 68 = .ok (.ifCond .lt 39, 3) := by decide +kernel
theorem dX10_shift_107 : decode cX10_shift 107 = .ok (.bipush (-13), 2) := by decide +kernel
theorem dX10_shift_109 : decode cX10_shift 109 = .ok (.ireturn, 1) := by decide +kernel
theorem dX10_shift_71 : decode cX10_shift 71 = .ok (.iload_n 2, 1) := by decide +kernel
theorem dX10_shift_72 : decode cX10_shift 72 = .ok (.ifCond .lt 35, 3) := by decide +kernel
theorem dX10_shift_75 : decode cX10_shift 75 = .ok (.iload 4, 2) := by decide +kernel
theorem dX10_shift_77 : decode cX10_shift 77 = .ok (.ifCond .lt 30, 3) := by decide +kernel
theorem dX10_shift_80 : decode cX10_shift 80 = .ok (.iload_n 2, 1) := by decide +kernel
theorem dX10_shift_81 : decode cX10_shift 81 = .ok (.aload_n 0, 1) := by decide +kernel
theorem dX10_shift_82 : decode cX10_shift 82 = .ok (.getfield 78, 3) := by decide +kernel
theorem dX10_shift_85 : decode cX10_shift 85 = .ok (.iload_n 1, 1) := by decide +kernel
theorem dX10_shift_86 : decode cX10_shift 86 = .ok (.iaload, 1) := by decide +kernel
theorem dX10_shift_87 : decode cX10_shift 87 = .ok (.iload 5, 2) := by decide +kernel
theorem dX10_shift_89 : decode cX10_shift 89 = .ok (.isub, 1) := by decide +kernel
theorem dX10_shift_90 : decode cX10_shift 90 = .ok (.if_icmp .gt 17, 3) := by decide +kernel
theorem dX10_shift_93 : decode cX10_shift 93 = .ok (.iload 4, 2) := by decide +kernel
theorem dX10_shift_95 : decode cX10_shift 95 = .ok (.aload_n 0, 1) := by decide +kernel
theorem dX10_shift_96 : decode cX10_shift 96 = .ok (.getfield 78, 3) := by decide +kernel
theorem dX10_shift_99 : decode cX10_shift 99 = .ok (.iload_n 3, 1) := by decide +kernel
theorem dX10_shift_100 : decode cX10_shift 100 = .ok (.iaload, 1) := by decide +kernel
theorem dX10_shift_101 : decode cX10_shift 101 = .ok (.iload 5, 2) := by decide +kernel
theorem dX10_shift_103 : decode cX10_shift 103 = .ok (.isub, 1) := by decide +kernel
theorem dX10_shift_104 : decode cX10_shift 104 = .ok (.if_icmp .le 6, 3) := by decide +kernel
theorem dX10_shift_110 : decode cX10_shift 110 = .ok (.iconst 0, 1) := by decide +kernel
theorem dX10_shift_111 : decode cX10_shift 111 = .ok (.istore 6, 2) := by decide +kernel
theorem dX10_shift_147 : decode cX10_shift 147 = .ok (.iconst 0, 1) := by decide +kernel
theorem dX10_shift_148 : decode cX10_shift 148 = .ok (.istore 6, 2) := by decide +kernel
theorem dX10_shift_185 : decode cX10_shift 185 = .ok (.iload 5, 2) := by decide +kernel
theorem dX10_shift_187 : decode cX10_shift 187 = .ok (.ireturn, 1) := by decide +kernel
theorem dX10_taken_0 : decode cX10_taken 0 = .ok (.iload_n 1, 1) := by decide +kernel
theorem dX10_taken_1 : decode cX10_taken 1 = .ok (.invokestatic 125, 3) := by decide +kernel
theorem dX10_taken_4 : decode cX10_taken 4 = .ok (.ifCond .eq 15, 3) := by decide +kernel
theorem dX10_taken_19 : decode cX10_taken 19 = .ok (.iconst (-1), 1) := by decide +kernel
theorem dX10_taken_20 : decode cX10_taken 20 = .ok (.ireturn, 1) := by decide +kernel
theorem dX10_taken_7 : decode cX10_taken 7 = .ok (.iload_n 2, 1) := by decide +kernel
theorem dX10_taken_8 : decode cX10_taken 8 = .ok (.i2l, 1) := by decide +kernel
theorem dX10_taken_9 : decode cX10_taken 9 = .ok (.lconst 0, 1) := by decide +kernel
theorem dX10_taken_10 : decode cX10_taken 10 = .ok (.ldc2_w 143, 3) := by decide +kernel
theorem dX10_taken_13 : decode cX10_taken 13 = .ok (.invokestatic 101, 3) := by decide +kernel
theorem dX10_taken_16 : decode cX10_taken 16 = .ok (.ifCond .ne 5, 3) := by decide +kernel
theorem dX10_taken_21 : decode cX10_taken 21 = .ok (.aload_n 0, 1) := by decide +kernel
theorem dX10_taken_22 : decode cX10_taken 22 = .ok (.getfield 75, 3) := by decide +kernel
theorem dX10_taken_25 : decode cX10_taken 25 = .ok (.iload_n 1, 1) := by decide +kernel
theorem dX10_taken_26 : decode cX10_taken 26 = .ok (.iaload, 1) := by decide +kernel
theorem dX10_taken_27 : decode cX10_taken 27 = .ok (.ifCond .ge 6, 3) := by decide +kernel
theorem dX10_taken_33 : decode cX10_taken 33 = .ok (.aload_n 0, 1) := by decide +kernel
theorem dX10_taken_34 : decode cX10_taken 34 = .ok (.getfield 75, 3) := by decide +kernel
theorem dX10_taken_37 : decode cX10_taken 37 = .ok (.iload_n 1, 1) := by decide +kernel
theorem dX10_taken_38 : decode cX10_taken 38 = .ok (.iaload, 1) := by decide +kernel
theorem dX10_taken_39 : decode cX10_taken 39 = .ok (.bipush 50, 2) := by decide +kernel
theorem dX10_taken_41 : decode cX10_taken 41 = .ok (.if_icmp .lt 6, 3) := by decide +kernel
theorem dX10_taken_47 : decode cX10_taken 47 = .ok (.aload_n 0, 1) := by decide +kernel
theorem dX10_taken_48 : decode cX10_taken 48 = .ok (.aload_n 0, 1) := by decide +kernel
theorem dX10_taken_49 : decode cX10_taken 49 = .ok (.getfield 75, 3) := by decide +kernel
theorem dX10_taken_52 : decode cX10_taken 52 = .ok (.iload_n 1, 1) := by decide +kernel
theorem dX10_taken_53 : decode cX10_taken 53 = .ok (.iaload, 1) := by decide +kernel
theorem dX10_taken_54 : decode cX10_taken 54 = .ok (.invokevirtual 371, 3) := by decide +kernel
theorem dX10_taken_57 : decode cX10_taken 57 = .ok (.istore_n 3, 1) := by decide +kernel
theorem dX10_taken_58 : decode cX10_taken 58 = .ok (.iload_n 3, 1) := by decide +kernel
theorem dX10_taken_59 : decode cX10_taken 59 = .ok (.iload_n 2, 1) := by decide +kernel
theorem dX10_taken_60 : decode cX10_taken 60 = .ok (.if_icmp .eq 15, 3) := by decide +kernel
theorem dX10_taken_75 : decode cX10_taken 75 = .ok (.iload_n 3, 1) := by decide +kernel
theorem dX10_taken_76 : decode cX10_taken 76 = .ok (.iload_n 2, 1) := by decide +kernel
theorem dX10_taken_77 : decode cX10_taken 77 = .ok (.if_icmp .ne 16, 3) := by decide +kernel
theorem dX10_taken_93 : decode cX10_taken 93 = .ok (.bipush (-12), 2) := by decide +kernel
theorem dX10_taken_95 : decode cX10_taken 95 = .ok (.ireturn, 1) := by decide +kernel
theorem dX10_taken_80 : decode cX10_taken 80 = .ok (.aload_n 0, 1) := by decide +kernel
theorem dX10_taken_81 : decode cX10_taken 81 = .ok (.aload_n 0, 1) := by decide +kernel
theorem dX10_taken_82 : decode cX10_taken 82 = .ok (.getfield 75, 3) := by decide +kernel
theorem dX10_taken_85 : decode cX10_taken 85 = .ok (.iload_n 1, 1) := by decide +kernel
theorem dX10_taken_86 : decode cX10_taken 86 = .ok (.iaload, 1) := by decide +kernel
theorem dX10_taken_87 : decode cX10_taken 87 = .ok (.invokevirtual 371, 3) := by decide +kernel
theorem dX10_taken_90 : decode cX10_taken 90 = .ok (.goto 5, 3) := by decide +kernel
theorem dX10_taken_63 : decode cX10_taken 63 = .ok (.iload_n 3, 1) := by decide +kernel
theorem dX10_taken_64 : decode cX10_taken 64 = .ok (.ifCond .le 11, 3) := by decide +kernel
theorem dX10_taken_67 : decode cX10_taken 67 = .ok (.iload_n 3, 1) := by decide +kernel
theorem dX10_taken_68 : decode cX10_taken 68 = .ok (.invokestatic 374, 3) := by decide +kernel
theorem dX10_taken_71 : decode cX10_taken 71 = .ok (.istore_n 3, 1) := by decide +kernel
theorem dX10_taken_72 : decode cX10_taken 72 = .ok (.goto (-14), 3) := by decide +kernel
theorem dX10_taken_44 : decode cX10_taken 44 = .ok (.bipush (-12), 2) := by decide +kernel
theorem dX10_taken_46 : decode cX10_taken 46 = .ok (.ireturn, 1) := by decide +kernel
theorem dX10_taken_30 : decode cX10_taken 30 = .ok (.bipush (-11), 2) := by decide +kernel
theorem dX10_taken_32 : decode cX10_taken 32 = .ok (.ireturn, 1) := by decide +kernel
theorem dX10_count_0 : decode cX10_count 0 = .ok (.iload_n 1, 1) := by decide +kernel
theorem dX10_count_1 : decode cX10_count 1 = .ok (.tableswitch 72 0 5 #[39, 44, 52, 57, 62, 67], 39) := by decide +kernel
theorem dX10_count_40 : decode cX10_count 40 = .ok (.aload_n 0, 1) := by decide +kernel
theorem dX10_count_41 : decode cX10_count 41 = .ok (.getfield 109, 3) := by decide +kernel
theorem dX10_count_44 : decode cX10_count 44 = .ok (.ireturn, 1) := by decide +kernel
theorem dX10_count_45 : decode cX10_count 45 = .ok (.aload_n 0, 1) := by decide +kernel
theorem dX10_count_46 : decode cX10_count 46 = .ok (.invokevirtual 246, 3) := by decide +kernel
theorem dX10_count_49 : decode cX10_count 49 = .ok (.invokestatic 261, 3) := by decide +kernel
theorem dX10_count_52 : decode cX10_count 52 = .ok (.ireturn, 1) := by decide +kernel
theorem dX10_count_53 : decode cX10_count 53 = .ok (.aload_n 0, 1) := by decide +kernel
theorem dX10_count_54 : decode cX10_count 54 = .ok (.getfield 162, 3) := by decide +kernel
theorem dX10_count_57 : decode cX10_count 57 = .ok (.ireturn, 1) := by decide +kernel
theorem dX10_count_58 : decode cX10_count 58 = .ok (.aload_n 0, 1) := by decide +kernel
theorem dX10_count_59 : decode cX10_count 59 = .ok (.getfield 91, 3) := by decide +kernel
theorem dX10_count_62 : decode cX10_count 62 = .ok (.ireturn, 1) := by decide +kernel
theorem dX10_count_63 : decode cX10_count 63 = .ok (.aload_n 0, 1) := by decide +kernel
theorem dX10_count_64 : decode cX10_count 64 = .ok (.getfield 334, 3) := by decide +kernel
theorem dX10_count_67 : decode cX10_count 67 = .ok (.ireturn, 1) := by decide +kernel
theorem dX10_count_68 : decode cX10_count 68 = .ok (.aload_n 0, 1) := by decide +kernel
theorem dX10_count_69 : decode cX10_count 69 = .ok (.getfield 337, 3) := by decide +kernel
theorem dX10_count_72 : decode cX10_count 72 = .ok (.ireturn, 1) := by decide +kernel
theorem dX10_count_73 : decode cX10_count 73 = .ok (.iconst (-1), 1) := by decide +kernel
theorem dX10_count_74 : decode cX10_count 74 = .ok (.ireturn, 1) := by decide +kernel
theorem dX10_music_0 : decode cX10_music 0 = .ok (.aload_n 0, 1) := by decide +kernel
theorem dX10_music_1 : decode cX10_music 1 = .ok (.iload_n 1, 1) := by decide +kernel
theorem dX10_music_2 : decode cX10_music 2 = .ok (.invokevirtual 285, 3) := by decide +kernel
theorem dX10_music_5 : decode cX10_music 5 = .ok (.ifCond .ge 9, 3) := by decide +kernel
theorem dX10_music_14 : decode cX10_music 14 = .ok (.aload_n 0, 1) := by decide +kernel
theorem dX10_music_15 : decode cX10_music 15 = .ok (.invokevirtual 246, 3) := by decide +kernel
theorem dX10_music_18 : decode cX10_music 18 = .ok (.istore_n 2, 1) := by decide +kernel
theorem dX10_music_19 : decode cX10_music 19 = .ok (.aload_n 0, 1) := by decide +kernel
theorem dX10_music_20 : decode cX10_music 20 = .ok (.iload_n 2, 1) := by decide +kernel
theorem dX10_music_21 : decode cX10_music 21 = .ok (.invokevirtual 249, 3) := by decide +kernel
theorem dX10_music_24 : decode cX10_music 24 = .ok (.iconst 0, 1) := by decide +kernel
theorem dX10_music_25 : decode cX10_music 25 = .ok (.istore_n 3, 1) := by decide +kernel
theorem dX10_music_26 : decode cX10_music 26 = .ok (.aload_n 0, 1) := by decide +kernel
theorem dX10_music_27 : decode cX10_music 27 = .ok (.getfield 78, 3) := by decide +kernel
theorem dX10_music_30 : decode cX10_music 30 = .ok (.iload_n 1, 1) := by decide +kernel
theorem dX10_music_31 : decode cX10_music 31 = .ok (.iaload, 1) := by decide +kernel
theorem dX10_music_32 : decode cX10_music 32 = .ok (.ifCond .le 29, 3) := by decide +kernel
theorem dX10_music_61 : decode cX10_music 61 = .ok (.ldc2_w 288, 3) := by decide +kernel
theorem dX10_music_64 : decode cX10_music 64 = .ok (.lstore 4, 2) := by decide +kernel
theorem dX10_music_66 : decode cX10_music 66 = .ok (.iconst 0, 1) := by decide +kernel
theorem dX10_music_67 : decode cX10_music 67 = .ok (.istore 6, 2) := by decide +kernel
theorem dX10_music_35 : decode cX10_music 35 = .ok (.aload_n 0, 1) := by decide +kernel
theorem dX10_music_36 : decode cX10_music 36 = .ok (.getfield 81, 3) := by decide +kernel
theorem dX10_music_39 : decode cX10_music 39 = .ok (.bipush 60, 2) := by decide +kernel
theorem dX10_music_41 : decode cX10_music 41 = .ok (.iload_n 1, 1) := by decide +kernel
theorem dX10_music_42 : decode cX10_music 42 = .ok (.imul, 1) := by decide +kernel
theorem dX10_music_43 : decode cX10_music 43 = .ok (.laload, 1) := by decide +kernel
theorem dX10_music_44 : decode cX10_music 44 = .ok (.lconst 1, 1) := by decide +kernel
theorem dX10_music_45 : decode cX10_music 45 = .ok (.lcmp, 1) := by decide +kernel
theorem dX10_music_46 : decode cX10_music 46 = .ok (.ifCond .lt 15, 3) := by decide +kernel
theorem dX10_music_49 : decode cX10_music 49 = .ok (.aload_n 0, 1) := by decide +kernel
theorem dX10_music_50 : decode cX10_music 50 = .ok (.getfield 81, 3) := by decide +kernel
theorem dX10_music_53 : decode cX10_music 53 = .ok (.bipush 60, 2) := by decide +kernel
theorem dX10_music_55 : decode cX10_music 55 = .ok (.iload_n 1, 1) := by decide +kernel
theorem dX10_music_56 : decode cX10_music 56 = .ok (.imul, 1) := by decide +kernel
theorem dX10_music_57 : decode cX10_music 57 = .ok (.laload, 1) := by decide +kernel
theorem dX10_music_58 : decode cX10_music 58 = .ok (.goto 6, 3) := by decide +kernel
theorem dX10_music_8 : decode cX10_music 8 = .ok (.aload_n 0, 1) := by decide +kernel
theorem dX10_music_9 : decode cX10_music 9 = .ok (.iload_n 1, 1) := by decide +kernel
theorem dX10_music_10 : decode cX10_music 10 = .ok (.invokevirtual 285, 3) := by decide +kernel
theorem dX10_music_13 : decode cX10_music 13 = .ok (.ireturn, 1) := by decide +kernel
theorem dX10_hoops_0 : decode cX10_hoops 0 = .ok (.iload_n 1, 1) := by decide +kernel
theorem dX10_hoops_1 : decode cX10_hoops 1 = .ok (.invokestatic 125, 3) := by decide +kernel
theorem dX10_hoops_4 : decode cX10_hoops 4 = .ok (.ifCond .eq 15, 3) := by decide +kernel
theorem dX10_hoops_19 : decode cX10_hoops 19 = .ok (.iconst (-1), 1) := by decide +kernel
theorem dX10_hoops_20 : decode cX10_hoops 20 = .ok (.ireturn, 1) := by decide +kernel
theorem dX10_hoops_7 : decode cX10_hoops 7 = .ok (.iload_n 3, 1) := by decide +kernel
theorem dX10_hoops_8 : decode cX10_hoops 8 = .ok (.i2l, 1) := by decide +kernel
theorem dX10_hoops_9 : decode cX10_hoops 9 = .ok (.lconst 1, 1) := by decide +kernel
theorem dX10_hoops_10 : decode cX10_hoops 10 = .ok (.ldc2_w 129, 3) := by decide +kernel
theorem dX10_hoops_13 : decode cX10_hoops 13 = .ok (.invokestatic 101, 3) := by decide +kernel
theorem dX10_hoops_16 : decode cX10_hoops 16 = .ok (.ifCond .ne 5, 3) := by decide +kernel
theorem dX10_hoops_21 : decode cX10_hoops 21 = .ok (.aload_n 0, 1) := by decide +kernel
theorem dX10_hoops_22 : decode cX10_hoops 22 = .ok (.getfield 75, 3) := by decide +kernel
theorem dX10_hoops_25 : decode cX10_hoops 25 = .ok (.iload_n 1, 1) := by decide +kernel
theorem dX10_hoops_26 : decode cX10_hoops 26 = .ok (.iaload, 1) := by decide +kernel
theorem dX10_hoops_27 : decode cX10_hoops 27 = .ok (.ifCond .lt 17, 3) := by decide +kernel
theorem dX10_hoops_44 : decode cX10_hoops 44 = .ok (.iconst 0, 1) := by decide +kernel
theorem dX10_hoops_45 : decode cX10_hoops 45 = .ok (.istore 4, 2) := by decide +kernel
theorem dX10_hoops_47 : decode cX10_hoops 47 = .ok (.aload_n 0, 1) := by decide +kernel
theorem dX10_hoops_48 : decode cX10_hoops 48 = .ok (.getfield 75, 3) := by decide +kernel
theorem dX10_hoops_51 : decode cX10_hoops 51 = .ok (.iload_n 1, 1) := by decide +kernel
theorem dX10_hoops_52 : decode cX10_hoops 52 = .ok (.iaload, 1) := by decide +kernel
theorem dX10_hoops_53 : decode cX10_hoops 53 = .ok (.bipush 50, 2) := by decide +kernel
theorem dX10_hoops_55 : decode cX10_hoops 55 = .ok (.if_icmp .ne 11, 3) := by decide +kernel
theorem dX10_hoops_66 : decode cX10_hoops 66 = .ok (.iconst 0, 1) := by decide +kernel
theorem dX10_hoops_67 : decode cX10_hoops 67 = .ok (.istore 5, 2) := by decide +kernel
theorem dX10_hoops_58 : decode cX10_hoops 58 = .ok (.iload_n 2, 1) := by decide +kernel
theorem dX10_hoops_59 : decode cX10_hoops 59 = .ok (.ifCond .lt 7, 3) := by decide +kernel
theorem dX10_hoops_62 : decode cX10_hoops 62 = .ok (.iconst 1, 1) := by decide +kernel
theorem dX10_hoops_63 : decode cX10_hoops 63 = .ok (.goto 4, 3) := by decide +kernel
theorem dX10_hoops_30 : decode cX10_hoops 30 = .ok (.aload_n 0, 1) := by decide +kernel
theorem dX10_hoops_31 : decode cX10_hoops 31 = .ok (.getfield 75, 3) := by decide +kernel
theorem dX10_hoops_34 : decode cX10_hoops 34 = .ok (.iload_n 1, 1) := by decide +kernel
theorem dX10_hoops_35 : decode cX10_hoops 35 = .ok (.iaload, 1) := by decide +kernel
theorem dX10_hoops_36 : decode cX10_hoops 36 = .ok (.bipush 50, 2) := by decide +kernel
theorem dX10_hoops_38 : decode cX10_hoops 38 = .ok (.if_icmp .eq 6, 3) := by decide +kernel
theorem dX10_hoops_41 : decode cX10_hoops 41 = .ok (.bipush (-12), 2) := by decide +kernel
theorem dX10_hoops_43 : decode cX10_hoops 43 = .ok (.ireturn, 1) := by decide +kernel
set_option maxRecDepth 100000 in
set_option maxHeartbeats 4000000 in
theorem g_X10_left (se nn g : Int32) {l : Launch} {G : xG} {M : xM} {J : xJ} (hI : InvR M) : x_M l G fX10_left 2 0 0 [.ref (62), .int (se), .int (nn), .int (g)] x_SH M J (qKI WFR M J (fun r M2 => InvR M2)) := by
  refine xb_of pX10 (Nat.le_of_ble_eq_true rfl) rfl ?_
  obtain ⟨⟨hn, h_hn, e_hn, hw⟩, hbt, ⟨un, wn, h_uw, h_wn, e_un, e_wn⟩, hch, ⟨n, h_n, e_n⟩, htx, ⟨b, h_b, e_b⟩, hkd, ⟨ra, h_ra, e_ra⟩, hsl, ⟨ic, h_ic, e_ic⟩, hS⟩ := hI
  refine xr_iload_n dX10_left_0 2 rfl ?_
  refine xr_i2l dX10_left_1 ?_
  refine xr_lconst (v := 1) dX10_left_2 rfl ?_
  refine xr_ldc2 coX10_311 dX10_left_3 ?_
  refine xb_cS (As := [.long ((nn).toInt64), .long (1), .long (30)]) (rest := []) mlX10_101 (c_within32 (nn) (1) (30) (by decide) (by decide)) dX10_left_6 rfl rfl (Nat.le_of_ble_eq_true rfl) (by decide) (by decide) ?_
  refine xb_beq (tgt := 24) dX10_left_9 rfl (fun c1 => ?_) (fun c1 => ?_)
  · refine xr_iconst (v := -1) dX10_left_24 rfl ?_
    exact xr_iret dX10_left_25 rfl rfl (⟨_, rfl, rfl, rfl, Ke.rf, ⟨⟨hn, by omega, e_hn, (fun kw hkw => by rw [show M 63 (5 + kw) = M 63 (5 + kw) from rfl]; exact hw kw hkw)⟩, (by rw [show M 63 16 = M 63 16 from rfl]; exact hbt), ⟨un, wn, by omega, by omega, e_un, e_wn⟩, (fun kk hkk => by rw [show M 64 kk = M 64 kk from rfl, show M 65 kk = M 65 kk from rfl, show M 66 kk = M 66 kk from rfl]; exact hch kk hkk), ⟨n, by omega, e_n⟩, (by rw [show M 62 13 = M 62 13 from rfl]; exact htx), ⟨b, by omega, e_b⟩, (fun j hj => by obtain ⟨q, hq, eq⟩ := hkd j hj; exact ⟨q, hq, (show M 81 j = M 81 j from rfl).trans eq⟩), ⟨ra, by omega, e_ra⟩, (fun j hj => by rw [show M 83 j = M 83 j from rfl, show M 84 j = M 84 j from rfl]; exact hsl j hj), ⟨ic, by omega, e_ic⟩, (fun j hj => by obtain ⟨q, hq, eq⟩ := hS j hj; exact ⟨q, hq, (show M 75 j = M 75 j from rfl).trans eq⟩)⟩⟩)
  · refine xr_iload_n dX10_left_12 3 rfl ?_
    refine xr_iconst (v := -1) dX10_left_13 rfl ?_
    refine xr_icmp_eq (tgt := 26) dX10_left_14 rfl (fun c2 => ?_) (fun c2 => ?_)
    · refine xr_aload_n dX10_left_26 0 rfl ?_
      refine xr_iload_n dX10_left_27 1 rfl ?_
      refine xr_iload_n dX10_left_28 2 rfl ?_
      obtain ⟨N, hN, rfl⟩ := x_natle (v := nn) (N := 30) (K := 30) (by decide) (by decide) ⟨by grind, c1.2⟩
      subst c2
      refine xr_callV (As := [.int (se), .int (nI (N))]) (rest := []) mlX10_313 (g_X10_field se (n := N) (by omega)) dX10_left_29 s_62 rfl rfl (Nat.le_of_ble_eq_true rfl) (by decide) ⟨by decide, by decide⟩ (fun v s2 M3 J2 hq => ?_)
      obtain ⟨rfl, rfl, rfl, k4, _⟩ := hq
      try dsimp only [Option.toList, List.cons_append, List.nil_append]
      refine xr_iconst (v := 0) dX10_left_32 rfl ?_
      refine xr_istore (ls2 := [(4, .int (0)), (0, .ref (62)), (1, .int (se)), (2, .int (nI (N))), (3, .int ((-1)))]) dX10_left_33 (by decide) rfl ?_
      refine xr_iconst (v := 0) dX10_left_35 rfl ?_
      refine xr_istore (ls2 := [(5, .int (0)), (4, .int (0)), (0, .ref (62)), (1, .int (se)), (2, .int (nI (N))), (3, .int ((-1)))]) dX10_left_36 (by decide) rfl ?_
      refine xb_ls (ls2 := [(5, .int (nI (0))), (4, .int (0)), (3, .int ((-1))), (0, .ref (62))]) [0, 1, 5, 2] rfl ?_
      refine rlfm_l (fun q5 => ?_) (25 - 0) 0 0 (by omega)
      refine xr_iload_n dX10_left_71 1 rfl ?_
      refine xr_if_ge (tgt := 80) dX10_left_72 rfl (fun c => absurd c (by decide)) (fun _ => ?_)
      refine xr_iload dX10_left_75 0 rfl ?_
      refine xr_goto (tgt := 94) dX10_left_77 rfl ?_
      exact xr_iret dX10_left_94 rfl rfl (⟨_, rfl, rfl, rfl, (Ke.tr (fun _ _ h => h) Ke.rf k4), ⟨⟨hn, by omega, (Eq.trans (k4 62 6 (by decide)) e_hn), (fun kw hkw => by rw [show M3 63 (5 + kw) = M 63 (5 + kw) from (Eq.trans (k4 63 (5 + kw) (by unfold WFR; omega)) rfl)]; exact hw kw hkw)⟩, (by rw [show M3 63 16 = M 63 16 from (Eq.trans (k4 63 16 (by unfold WFR; omega)) rfl)]; exact hbt), ⟨un, wn, by omega, by omega, (Eq.trans (k4 62 5 (by decide)) e_un), (Eq.trans (k4 62 4 (by decide)) e_wn)⟩, (fun kk hkk => by rw [show M3 64 kk = M 64 kk from (Eq.trans (k4 64 kk (by unfold WFR; omega)) rfl), show M3 65 kk = M 65 kk from (Eq.trans (k4 65 kk (by unfold WFR; omega)) rfl), show M3 66 kk = M 66 kk from (Eq.trans (k4 66 kk (by unfold WFR; omega)) rfl)]; exact hch kk hkk), ⟨n, by omega, (Eq.trans (k4 62 11 (by decide)) e_n)⟩, (by rw [show M3 62 13 = M 62 13 from (Eq.trans (k4 62 13 (by unfold WFR; omega)) rfl)]; exact htx), ⟨b, by omega, (Eq.trans (k4 62 36 (by decide)) e_b)⟩, (fun j hj => by obtain ⟨q, hq, eq⟩ := hkd j hj; exact ⟨q, hq, (show M3 81 j = M 81 j from (Eq.trans (k4 81 j (by unfold WFR; omega)) rfl)).trans eq⟩), ⟨ra, by omega, (Eq.trans (k4 62 39 (by decide)) e_ra)⟩, (fun j hj => by rw [show M3 83 j = M 83 j from (Eq.trans (k4 83 j (by unfold WFR; omega)) rfl), show M3 84 j = M 84 j from (Eq.trans (k4 84 j (by unfold WFR; omega)) rfl)]; exact hsl j hj), ⟨ic, by omega, (Eq.trans (k4 62 34 (by decide)) e_ic)⟩, (fun j hj => by obtain ⟨q, hq, eq⟩ := hS j hj; exact ⟨q, hq, (show M3 75 j = M 75 j from (Eq.trans (k4 75 j (by unfold WFR; omega)) rfl)).trans eq⟩)⟩⟩)
    · refine xr_iload_n dX10_left_17 3 rfl ?_
      refine xb_cS (As := [.int (g)]) (rest := []) mlX10_293 (c_X10_isGirl g) dX10_left_18 rfl rfl (Nat.le_of_ble_eq_true rfl) (by decide) (by decide) ?_
      refine xb_bne (tgt := 26) dX10_left_21 rfl (fun c8 => ?_) (fun c8 => ?_)
      · obtain ⟨g_, hg_, rfl⟩ := x_natle (N := 24) (by decide) rfl c8
        replace hg_ := Nat.lt_succ_of_le hg_
        refine xr_aload_n dX10_left_26 0 rfl ?_
        refine xr_iload_n dX10_left_27 1 rfl ?_
        refine xr_iload_n dX10_left_28 2 rfl ?_
        obtain ⟨N, hN, rfl⟩ := x_natle (v := nn) (N := 30) (K := 30) (by decide) (by decide) ⟨by grind, c1.2⟩
        refine xr_callV (As := [.int (se), .int (nI (N))]) (rest := []) mlX10_313 (g_X10_field se (n := N) (by omega)) dX10_left_29 s_62 rfl rfl (Nat.le_of_ble_eq_true rfl) (by decide) ⟨by decide, by decide⟩ (fun v s2 M9 J2 hq => ?_)
        obtain ⟨rfl, rfl, rfl, k10, _⟩ := hq
        try dsimp only [Option.toList, List.cons_append, List.nil_append]
        refine xr_iconst (v := 0) dX10_left_32 rfl ?_
        refine xr_istore (ls2 := [(4, .int (0)), (0, .ref (62)), (1, .int (se)), (2, .int (nI (N))), (3, .int (nI (g_)))]) dX10_left_33 (by decide) rfl ?_
        refine xr_iconst (v := 0) dX10_left_35 rfl ?_
        refine xr_istore (ls2 := [(5, .int (0)), (4, .int (0)), (0, .ref (62)), (1, .int (se)), (2, .int (nI (N))), (3, .int (nI (g_)))]) dX10_left_36 (by decide) rfl ?_
        refine xb_ls (ls2 := [(5, .int (nI (0))), (4, .int (0)), (3, .int (nI (g_))), (0, .ref (62))]) [0, 1, 5, 2] rfl ?_
        refine rlfn_l (fun q11 => ?_) (25 - 0) 0 0 (by omega)
        refine xr_iload_n dX10_left_71 1 rfl ?_
        refine xr_if_ge (tgt := 80) dX10_left_72 rfl (fun c14 => ?_) (fun c14 => ?_)
        · refine xr_aload_n dX10_left_80 2 rfl ?_
          refine xr_getR flX10_56 dX10_left_81 s_62 rfl ?_
          refine xr_iload_n dX10_left_84 1 rfl ?_
          refine xb_zald (j := g_) (v := M9 77 g_) dX10_left_85 s_77 hg_ (by decide) rfl ?_
          refine xr_if_eq (tgt := 93) dX10_left_86 rfl (fun c15 => ?_) (fun c15 => ?_)
          · refine xr_iconst (v := 0) dX10_left_93 rfl ?_
            exact xr_iret dX10_left_94 rfl rfl (⟨_, rfl, rfl, rfl, (Ke.tr (fun _ _ h => h) Ke.rf k10), ⟨⟨hn, by omega, (Eq.trans (k10 62 6 (by decide)) e_hn), (fun kw hkw => by rw [show M9 63 (5 + kw) = M 63 (5 + kw) from (Eq.trans (k10 63 (5 + kw) (by unfold WFR; omega)) rfl)]; exact hw kw hkw)⟩, (by rw [show M9 63 16 = M 63 16 from (Eq.trans (k10 63 16 (by unfold WFR; omega)) rfl)]; exact hbt), ⟨un, wn, by omega, by omega, (Eq.trans (k10 62 5 (by decide)) e_un), (Eq.trans (k10 62 4 (by decide)) e_wn)⟩, (fun kk hkk => by rw [show M9 64 kk = M 64 kk from (Eq.trans (k10 64 kk (by unfold WFR; omega)) rfl), show M9 65 kk = M 65 kk from (Eq.trans (k10 65 kk (by unfold WFR; omega)) rfl), show M9 66 kk = M 66 kk from (Eq.trans (k10 66 kk (by unfold WFR; omega)) rfl)]; exact hch kk hkk), ⟨n, by omega, (Eq.trans (k10 62 11 (by decide)) e_n)⟩, (by rw [show M9 62 13 = M 62 13 from (Eq.trans (k10 62 13 (by unfold WFR; omega)) rfl)]; exact htx), ⟨b, by omega, (Eq.trans (k10 62 36 (by decide)) e_b)⟩, (fun j hj => by obtain ⟨q, hq, eq⟩ := hkd j hj; exact ⟨q, hq, (show M9 81 j = M 81 j from (Eq.trans (k10 81 j (by unfold WFR; omega)) rfl)).trans eq⟩), ⟨ra, by omega, (Eq.trans (k10 62 39 (by decide)) e_ra)⟩, (fun j hj => by rw [show M9 83 j = M 83 j from (Eq.trans (k10 83 j (by unfold WFR; omega)) rfl), show M9 84 j = M 84 j from (Eq.trans (k10 84 j (by unfold WFR; omega)) rfl)]; exact hsl j hj), ⟨ic, by omega, (Eq.trans (k10 62 34 (by decide)) e_ic)⟩, (fun j hj => by obtain ⟨q, hq, eq⟩ := hS j hj; exact ⟨q, hq, (show M9 75 j = M 75 j from (Eq.trans (k10 75 j (by unfold WFR; omega)) rfl)).trans eq⟩)⟩⟩)
          · refine xr_iconst (v := 1) dX10_left_89 rfl ?_
            refine xr_goto (tgt := 94) dX10_left_90 rfl ?_
            exact xr_iret dX10_left_94 rfl rfl (⟨_, rfl, rfl, rfl, (Ke.tr (fun _ _ h => h) Ke.rf k10), ⟨⟨hn, by omega, (Eq.trans (k10 62 6 (by decide)) e_hn), (fun kw hkw => by rw [show M9 63 (5 + kw) = M 63 (5 + kw) from (Eq.trans (k10 63 (5 + kw) (by unfold WFR; omega)) rfl)]; exact hw kw hkw)⟩, (by rw [show M9 63 16 = M 63 16 from (Eq.trans (k10 63 16 (by unfold WFR; omega)) rfl)]; exact hbt), ⟨un, wn, by omega, by omega, (Eq.trans (k10 62 5 (by decide)) e_un), (Eq.trans (k10 62 4 (by decide)) e_wn)⟩, (fun kk hkk => by rw [show M9 64 kk = M 64 kk from (Eq.trans (k10 64 kk (by unfold WFR; omega)) rfl), show M9 65 kk = M 65 kk from (Eq.trans (k10 65 kk (by unfold WFR; omega)) rfl), show M9 66 kk = M 66 kk from (Eq.trans (k10 66 kk (by unfold WFR; omega)) rfl)]; exact hch kk hkk), ⟨n, by omega, (Eq.trans (k10 62 11 (by decide)) e_n)⟩, (by rw [show M9 62 13 = M 62 13 from (Eq.trans (k10 62 13 (by unfold WFR; omega)) rfl)]; exact htx), ⟨b, by omega, (Eq.trans (k10 62 36 (by decide)) e_b)⟩, (fun j hj => by obtain ⟨q, hq, eq⟩ := hkd j hj; exact ⟨q, hq, (show M9 81 j = M 81 j from (Eq.trans (k10 81 j (by unfold WFR; omega)) rfl)).trans eq⟩), ⟨ra, by omega, (Eq.trans (k10 62 39 (by decide)) e_ra)⟩, (fun j hj => by rw [show M9 83 j = M 83 j from (Eq.trans (k10 83 j (by unfold WFR; omega)) rfl), show M9 84 j = M 84 j from (Eq.trans (k10 84 j (by unfold WFR; omega)) rfl)]; exact hsl j hj), ⟨ic, by omega, (Eq.trans (k10 62 34 (by decide)) e_ic)⟩, (fun j hj => by obtain ⟨q, hq, eq⟩ := hS j hj; exact ⟨q, hq, (show M9 75 j = M 75 j from (Eq.trans (k10 75 j (by unfold WFR; omega)) rfl)).trans eq⟩)⟩⟩)
        · refine xr_iload dX10_left_75 0 rfl ?_
          refine xr_goto (tgt := 94) dX10_left_77 rfl ?_
          exact xr_iret dX10_left_94 rfl rfl (⟨_, rfl, rfl, rfl, (Ke.tr (fun _ _ h => h) Ke.rf k10), ⟨⟨hn, by omega, (Eq.trans (k10 62 6 (by decide)) e_hn), (fun kw hkw => by rw [show M9 63 (5 + kw) = M 63 (5 + kw) from (Eq.trans (k10 63 (5 + kw) (by unfold WFR; omega)) rfl)]; exact hw kw hkw)⟩, (by rw [show M9 63 16 = M 63 16 from (Eq.trans (k10 63 16 (by unfold WFR; omega)) rfl)]; exact hbt), ⟨un, wn, by omega, by omega, (Eq.trans (k10 62 5 (by decide)) e_un), (Eq.trans (k10 62 4 (by decide)) e_wn)⟩, (fun kk hkk => by rw [show M9 64 kk = M 64 kk from (Eq.trans (k10 64 kk (by unfold WFR; omega)) rfl), show M9 65 kk = M 65 kk from (Eq.trans (k10 65 kk (by unfold WFR; omega)) rfl), show M9 66 kk = M 66 kk from (Eq.trans (k10 66 kk (by unfold WFR; omega)) rfl)]; exact hch kk hkk), ⟨n, by omega, (Eq.trans (k10 62 11 (by decide)) e_n)⟩, (by rw [show M9 62 13 = M 62 13 from (Eq.trans (k10 62 13 (by unfold WFR; omega)) rfl)]; exact htx), ⟨b, by omega, (Eq.trans (k10 62 36 (by decide)) e_b)⟩, (fun j hj => by obtain ⟨q, hq, eq⟩ := hkd j hj; exact ⟨q, hq, (show M9 81 j = M 81 j from (Eq.trans (k10 81 j (by unfold WFR; omega)) rfl)).trans eq⟩), ⟨ra, by omega, (Eq.trans (k10 62 39 (by decide)) e_ra)⟩, (fun j hj => by rw [show M9 83 j = M 83 j from (Eq.trans (k10 83 j (by unfold WFR; omega)) rfl), show M9 84 j = M 84 j from (Eq.trans (k10 84 j (by unfold WFR; omega)) rfl)]; exact hsl j hj), ⟨ic, by omega, (Eq.trans (k10 62 34 (by decide)) e_ic)⟩, (fun j hj => by obtain ⟨q, hq, eq⟩ := hS j hj; exact ⟨q, hq, (show M9 75 j = M 75 j from (Eq.trans (k10 75 j (by unfold WFR; omega)) rfl)).trans eq⟩)⟩⟩)
      · refine xr_iconst (v := -1) dX10_left_24 rfl ?_
        exact xr_iret dX10_left_25 rfl rfl (⟨_, rfl, rfl, rfl, Ke.rf, ⟨⟨hn, by omega, e_hn, (fun kw hkw => by rw [show M 63 (5 + kw) = M 63 (5 + kw) from rfl]; exact hw kw hkw)⟩, (by rw [show M 63 16 = M 63 16 from rfl]; exact hbt), ⟨un, wn, by omega, by omega, e_un, e_wn⟩, (fun kk hkk => by rw [show M 64 kk = M 64 kk from rfl, show M 65 kk = M 65 kk from rfl, show M 66 kk = M 66 kk from rfl]; exact hch kk hkk), ⟨n, by omega, e_n⟩, (by rw [show M 62 13 = M 62 13 from rfl]; exact htx), ⟨b, by omega, e_b⟩, (fun j hj => by obtain ⟨q, hq, eq⟩ := hkd j hj; exact ⟨q, hq, (show M 81 j = M 81 j from rfl).trans eq⟩), ⟨ra, by omega, e_ra⟩, (fun j hj => by rw [show M 83 j = M 83 j from rfl, show M 84 j = M 84 j from rfl]; exact hsl j hj), ⟨ic, by omega, e_ic⟩, (fun j hj => by obtain ⟨q, hq, eq⟩ := hS j hj; exact ⟨q, hq, (show M 75 j = M 75 j from rfl).trans eq⟩)⟩⟩)
set_option maxRecDepth 100000 in
set_option maxHeartbeats 4000000 in
theorem g_X10_knocked (se nn g : Int32) {l : Launch} {G : xG} {M : xM} {J : xJ} (hI : InvR M) : x_M l G fX10_knocked 2 0 0 [.ref (62), .int (se), .int (nn), .int (g)] x_SH M J (qKI WFR M J (fun r M2 => InvR M2)) := by
  refine xb_of pX10 (Nat.le_of_ble_eq_true rfl) rfl ?_
  obtain ⟨⟨hn, h_hn, e_hn, hw⟩, hbt, ⟨un, wn, h_uw, h_wn, e_un, e_wn⟩, hch, ⟨n, h_n, e_n⟩, htx, ⟨b, h_b, e_b⟩, hkd, ⟨ra, h_ra, e_ra⟩, hsl, ⟨ic, h_ic, e_ic⟩, hS⟩ := hI
  refine xr_iload_n dX10_knocked_0 2 rfl ?_
  refine xr_i2l dX10_knocked_1 ?_
  refine xr_lconst (v := 1) dX10_knocked_2 rfl ?_
  refine xr_ldc2 coX10_311 dX10_knocked_3 ?_
  refine xb_cS (As := [.long ((nn).toInt64), .long (1), .long (30)]) (rest := []) mlX10_101 (c_within32 (nn) (1) (30) (by decide) (by decide)) dX10_knocked_6 rfl rfl (Nat.le_of_ble_eq_true rfl) (by decide) (by decide) ?_
  refine xb_beq (tgt := 19) dX10_knocked_9 rfl (fun c1 => ?_) (fun c1 => ?_)
  · refine xr_iconst (v := -1) dX10_knocked_19 rfl ?_
    exact xr_iret dX10_knocked_20 rfl rfl (⟨_, rfl, rfl, rfl, Ke.rf, ⟨⟨hn, by omega, e_hn, (fun kw hkw => by rw [show M 63 (5 + kw) = M 63 (5 + kw) from rfl]; exact hw kw hkw)⟩, (by rw [show M 63 16 = M 63 16 from rfl]; exact hbt), ⟨un, wn, by omega, by omega, e_un, e_wn⟩, (fun kk hkk => by rw [show M 64 kk = M 64 kk from rfl, show M 65 kk = M 65 kk from rfl, show M 66 kk = M 66 kk from rfl]; exact hch kk hkk), ⟨n, by omega, e_n⟩, (by rw [show M 62 13 = M 62 13 from rfl]; exact htx), ⟨b, by omega, e_b⟩, (fun j hj => by obtain ⟨q, hq, eq⟩ := hkd j hj; exact ⟨q, hq, (show M 81 j = M 81 j from rfl).trans eq⟩), ⟨ra, by omega, e_ra⟩, (fun j hj => by rw [show M 83 j = M 83 j from rfl, show M 84 j = M 84 j from rfl]; exact hsl j hj), ⟨ic, by omega, e_ic⟩, (fun j hj => by obtain ⟨q, hq, eq⟩ := hS j hj; exact ⟨q, hq, (show M 75 j = M 75 j from rfl).trans eq⟩)⟩⟩)
  · refine xr_iload_n dX10_knocked_12 3 rfl ?_
    refine xb_cS (As := [.int (g)]) (rest := []) mlX10_293 (c_X10_isGirl g) dX10_knocked_13 rfl rfl (Nat.le_of_ble_eq_true rfl) (by decide) (by decide) ?_
    refine xb_bne (tgt := 21) dX10_knocked_16 rfl (fun c2 => ?_) (fun c2 => ?_)
    · obtain ⟨g_, hg_, rfl⟩ := x_natle (N := 24) (by decide) rfl c2
      replace hg_ := Nat.lt_succ_of_le hg_
      refine xr_aload_n dX10_knocked_21 0 rfl ?_
      refine xr_iload_n dX10_knocked_22 1 rfl ?_
      refine xr_iload_n dX10_knocked_23 2 rfl ?_
      obtain ⟨N, hN, rfl⟩ := x_natle (v := nn) (N := 30) (K := 30) (by decide) (by decide) ⟨by grind, c1.2⟩
      refine xr_callV (As := [.int (se), .int (nI (N))]) (rest := []) mlX10_313 (g_X10_field se (n := N) (by omega)) dX10_knocked_24 s_62 rfl rfl (Nat.le_of_ble_eq_true rfl) (by decide) ⟨by decide, by decide⟩ (fun v s2 M3 J2 hq => ?_)
      obtain ⟨rfl, rfl, rfl, k4, _⟩ := hq
      try dsimp only [Option.toList, List.cons_append, List.nil_append]
      refine xr_aload_n dX10_knocked_27 0 rfl ?_
      refine xr_getR flX10_60 dX10_knocked_28 s_62 rfl ?_
      refine xr_iload_n dX10_knocked_31 3 rfl ?_
      refine xb_iald (j := g_) (v := M3 78 g_) dX10_knocked_32 s_78 hg_ (by decide) rfl ?_
      exact xr_iret dX10_knocked_33 rfl rfl (⟨_, rfl, rfl, rfl, (Ke.tr (fun _ _ h => h) Ke.rf k4), ⟨⟨hn, by omega, (Eq.trans (k4 62 6 (by decide)) e_hn), (fun kw hkw => by rw [show M3 63 (5 + kw) = M 63 (5 + kw) from (Eq.trans (k4 63 (5 + kw) (by unfold WFR; omega)) rfl)]; exact hw kw hkw)⟩, (by rw [show M3 63 16 = M 63 16 from (Eq.trans (k4 63 16 (by unfold WFR; omega)) rfl)]; exact hbt), ⟨un, wn, by omega, by omega, (Eq.trans (k4 62 5 (by decide)) e_un), (Eq.trans (k4 62 4 (by decide)) e_wn)⟩, (fun kk hkk => by rw [show M3 64 kk = M 64 kk from (Eq.trans (k4 64 kk (by unfold WFR; omega)) rfl), show M3 65 kk = M 65 kk from (Eq.trans (k4 65 kk (by unfold WFR; omega)) rfl), show M3 66 kk = M 66 kk from (Eq.trans (k4 66 kk (by unfold WFR; omega)) rfl)]; exact hch kk hkk), ⟨n, by omega, (Eq.trans (k4 62 11 (by decide)) e_n)⟩, (by rw [show M3 62 13 = M 62 13 from (Eq.trans (k4 62 13 (by unfold WFR; omega)) rfl)]; exact htx), ⟨b, by omega, (Eq.trans (k4 62 36 (by decide)) e_b)⟩, (fun j hj => by obtain ⟨q, hq, eq⟩ := hkd j hj; exact ⟨q, hq, (show M3 81 j = M 81 j from (Eq.trans (k4 81 j (by unfold WFR; omega)) rfl)).trans eq⟩), ⟨ra, by omega, (Eq.trans (k4 62 39 (by decide)) e_ra)⟩, (fun j hj => by rw [show M3 83 j = M 83 j from (Eq.trans (k4 83 j (by unfold WFR; omega)) rfl), show M3 84 j = M 84 j from (Eq.trans (k4 84 j (by unfold WFR; omega)) rfl)]; exact hsl j hj), ⟨ic, by omega, (Eq.trans (k4 62 34 (by decide)) e_ic)⟩, (fun j hj => by obtain ⟨q, hq, eq⟩ := hS j hj; exact ⟨q, hq, (show M3 75 j = M 75 j from (Eq.trans (k4 75 j (by unfold WFR; omega)) rfl)).trans eq⟩)⟩⟩)
    · refine xr_iconst (v := -1) dX10_knocked_19 rfl ?_
      exact xr_iret dX10_knocked_20 rfl rfl (⟨_, rfl, rfl, rfl, Ke.rf, ⟨⟨hn, by omega, e_hn, (fun kw hkw => by rw [show M 63 (5 + kw) = M 63 (5 + kw) from rfl]; exact hw kw hkw)⟩, (by rw [show M 63 16 = M 63 16 from rfl]; exact hbt), ⟨un, wn, by omega, by omega, e_un, e_wn⟩, (fun kk hkk => by rw [show M 64 kk = M 64 kk from rfl, show M 65 kk = M 65 kk from rfl, show M 66 kk = M 66 kk from rfl]; exact hch kk hkk), ⟨n, by omega, e_n⟩, (by rw [show M 62 13 = M 62 13 from rfl]; exact htx), ⟨b, by omega, e_b⟩, (fun j hj => by obtain ⟨q, hq, eq⟩ := hkd j hj; exact ⟨q, hq, (show M 81 j = M 81 j from rfl).trans eq⟩), ⟨ra, by omega, e_ra⟩, (fun j hj => by rw [show M 83 j = M 83 j from rfl, show M 84 j = M 84 j from rfl]; exact hsl j hj), ⟨ic, by omega, e_ic⟩, (fun j hj => by obtain ⟨q, hq, eq⟩ := hS j hj; exact ⟨q, hq, (show M 75 j = M 75 j from rfl).trans eq⟩)⟩⟩)
set_option maxRecDepth 100000 in
set_option maxHeartbeats 4000000 in
theorem g_X10_trace (i : Int32) {l : Launch} {G : xG} {M : xM} {J : xJ} (hI : InvR M) : x_M l G fX10_trace 0 0 0 [.ref (62), .int (i)] x_SH M J (qPI M J (fun r => True)) := by
  refine xb_of pX10 (Nat.le_of_ble_eq_true rfl) rfl ?_
  obtain ⟨⟨hn, h_hn, e_hn, hw⟩, hbt, ⟨un, wn, h_uw, h_wn, e_un, e_wn⟩, hch, ⟨n, h_n, e_n⟩, htx, ⟨b, h_b, e_b⟩, hkd, ⟨ra, h_ra, e_ra⟩, hsl, ⟨ic, h_ic, e_ic⟩, hS⟩ := hI
  refine xr_iload_n dX10_trace_0 1 rfl ?_
  refine xr_if_lt (tgt := 27) dX10_trace_1 rfl (fun c1 => ?_) (fun c1 => ?_)
  · refine xr_iconst (v := -1) dX10_trace_27 rfl ?_
    exact xr_iret dX10_trace_28 rfl rfl (⟨_, rfl, rfl, rfl, rfl, trivial⟩)
  · refine xr_iload_n dX10_trace_4 1 rfl ?_
    refine xr_aload_n dX10_trace_5 0 rfl ?_
    refine xb_get (v := nI (ra)) flX10_337 dX10_trace_6 s_62 rfl e_ra ?_
    refine xr_icmp_ge (tgt := 27) dX10_trace_9 rfl (fun c2 => ?_) (fun c2 => ?_)
    · refine xr_iconst (v := -1) dX10_trace_27 rfl ?_
      exact xr_iret dX10_trace_28 rfl rfl (⟨_, rfl, rfl, rfl, rfl, trivial⟩)
    · refine xr_iload_n dX10_trace_12 1 rfl ?_
      refine xr_bipush (v := 24) dX10_trace_13 rfl ?_
      refine xr_icmp_ge (tgt := 27) dX10_trace_15 rfl (fun c3 => ?_) (fun c3 => ?_)
      · refine xr_iconst (v := -1) dX10_trace_27 rfl ?_
        exact xr_iret dX10_trace_28 rfl rfl (⟨_, rfl, rfl, rfl, rfl, trivial⟩)
      · obtain ⟨i_, hi_, rfl⟩ := x_natle (v := i) (N := 23) (K := 23) (by decide) (by decide) ⟨by grind, by grind⟩
        refine xr_aload_n dX10_trace_18 0 rfl ?_
        refine xr_getR flX10_72 dX10_trace_19 s_62 rfl ?_
        refine xr_iload_n dX10_trace_22 1 rfl ?_
        refine xb_iald (j := i_) (v := M 82 i_) dX10_trace_23 s_82 (by omega) (by decide) rfl ?_
        refine xr_goto (tgt := 28) dX10_trace_24 rfl ?_
        exact xr_iret dX10_trace_28 rfl rfl (⟨_, rfl, rfl, rfl, rfl, trivial⟩)
set_option maxRecDepth 100000 in
set_option maxHeartbeats 4000000 in
theorem g_X10_count (w : Int32) {l : Launch} {G : xG} {M : xM} {J : xJ} (hI : InvR M) : x_M l G fX10_count 1 0 0 [.ref (62), .int (w)] x_SH M J (qPI M J (fun r => True)) := by
  refine xb_of pX10 (Nat.le_of_ble_eq_true rfl) rfl ?_
  obtain ⟨⟨hn, h_hn, e_hn, hw⟩, hbt, ⟨un, wn, h_uw, h_wn, e_un, e_wn⟩, hch, ⟨n, h_n, e_n⟩, htx, ⟨b, h_b, e_b⟩, hkd, ⟨ra, h_ra, e_ra⟩, hsl, ⟨ic, h_ic, e_ic⟩, hS⟩ := hI
  refine xr_iload_n dX10_count_0 1 rfl ?_
  refine xg_eq 0 (fun w1 => ?_) (fun w1 => ?_)
  · refine xr_tableIn (tgt := 40) dX10_count_1 (by decide) (by decide) rfl rfl ?_
    refine xr_aload_n dX10_count_40 0 rfl ?_
    refine xb_get (v := nI (hn)) flX10_109 dX10_count_41 s_62 rfl e_hn ?_
    exact xr_iret dX10_count_44 rfl rfl (⟨_, rfl, rfl, rfl, rfl, trivial⟩)
  refine xg_eq 1 (fun w2 => ?_) (fun w2 => ?_)
  · refine xr_tableIn (tgt := 45) dX10_count_1 (by decide) (by decide) rfl rfl ?_
    refine xr_aload_n dX10_count_45 0 rfl ?_
    refine xr_callV (As := []) (rest := []) mlX10_246 (g_X10_upNow h_hn e_hn (fun kw hkw => by rw [show M 63 (5 + kw) = M 63 (5 + kw) from rfl]; exact hw kw hkw) (by rw [show M 63 16 = M 63 16 from rfl]; exact hbt) (by rw [show M 62 13 = M 62 13 from rfl]; exact htx)) dX10_count_46 s_62 rfl rfl (Nat.le_of_ble_eq_true rfl) (by decide) ⟨by decide, by decide⟩ (fun v s2 M9 J2 hq => ?_)
    obtain ⟨r3, rfl, rfl, rfl, rfl, _⟩ := hq
    try dsimp only [Option.toList, List.cons_append, List.nil_append]
    refine xr_callS (As := [.int (r3)]) (rest := []) mlX10_261 (g_X10_bitsOf r3) dX10_count_49 rfl rfl (Nat.le_of_ble_eq_true rfl) (by decide) ⟨by decide, by decide⟩ (fun v s2 M9 J2 hq => ?_)
    obtain ⟨r4, rfl, rfl, rfl, rfl, _⟩ := hq
    try dsimp only [Option.toList, List.cons_append, List.nil_append]
    exact xr_iret dX10_count_52 rfl rfl (⟨_, rfl, rfl, rfl, rfl, trivial⟩)
  refine xg_eq 2 (fun w5 => ?_) (fun w5 => ?_)
  · refine xr_tableIn (tgt := 53) dX10_count_1 (by decide) (by decide) rfl rfl ?_
    refine xr_aload_n dX10_count_53 0 rfl ?_
    refine xb_get (v := nI (n)) flX10_162 dX10_count_54 s_62 rfl e_n ?_
    exact xr_iret dX10_count_57 rfl rfl (⟨_, rfl, rfl, rfl, rfl, trivial⟩)
  refine xg_eq 3 (fun w6 => ?_) (fun w6 => ?_)
  · refine xr_tableIn (tgt := 58) dX10_count_1 (by decide) (by decide) rfl rfl ?_
    refine xr_aload_n dX10_count_58 0 rfl ?_
    refine xb_get (v := nI (un)) flX10_91 dX10_count_59 s_62 rfl e_un ?_
    exact xr_iret dX10_count_62 rfl rfl (⟨_, rfl, rfl, rfl, rfl, trivial⟩)
  refine xg_eq 4 (fun w7 => ?_) (fun w7 => ?_)
  · refine xr_tableIn (tgt := 63) dX10_count_1 (by decide) (by decide) rfl rfl ?_
    refine xr_aload_n dX10_count_63 0 rfl ?_
    refine xb_get (v := nI (b)) flX10_334 dX10_count_64 s_62 rfl e_b ?_
    exact xr_iret dX10_count_67 rfl rfl (⟨_, rfl, rfl, rfl, rfl, trivial⟩)
  refine xg_eq 5 (fun w8 => ?_) (fun w8 => ?_)
  · refine xr_tableIn (tgt := 68) dX10_count_1 (by decide) (by decide) rfl rfl ?_
    refine xr_aload_n dX10_count_68 0 rfl ?_
    refine xb_get (v := nI (ra)) flX10_337 dX10_count_69 s_62 rfl e_ra ?_
    exact xr_iret dX10_count_72 rfl rfl (⟨_, rfl, rfl, rfl, rfl, trivial⟩)
  refine xr_tableOut (tgt := 73) dX10_count_1 (xg_out (lo := 0) (hi := 5) (by decide) (fun j h1 h2 qq => by have h3 : j = 0 ∨ j = 1 ∨ j = 2 ∨ j = 3 ∨ j = 4 ∨ j = 5 := (by omega); rcases h3 with rfl | rfl | rfl | rfl | rfl | rfl <;> first | exact absurd qq w1 | exact absurd qq w2 | exact absurd qq w5 | exact absurd qq w6 | exact absurd qq w7 | exact absurd qq w8)) rfl ?_
  refine xr_iconst (v := -1) dX10_count_73 rfl ?_
  exact xr_iret dX10_count_74 rfl rfl (⟨_, rfl, rfl, rfl, rfl, trivial⟩)
set_option maxRecDepth 100000 in
set_option maxHeartbeats 4000000 in
theorem g_X10_music (d : Int32) {l : Launch} {G : xG} {M : xM} {J : xJ} (hI : InvR M) : x_M l G fX10_music 61 0 0 [.ref (62), .int (d)] x_SH M J (qKI WR1 M J (fun r M2 => InvR M2)) := by
  refine xb_of pX10 (Nat.le_of_ble_eq_true rfl) rfl ?_
  obtain ⟨⟨hn, h_hn, e_hn, hw⟩, hbt, ⟨un, wn, h_uw, h_wn, e_un, e_wn⟩, hch, ⟨n, h_n, e_n⟩, htx, ⟨b, h_b, e_b⟩, hkd, ⟨ra, h_ra, e_ra⟩, hsl, ⟨ic, h_ic, e_ic⟩, hS⟩ := hI
  refine xr_aload_n dX10_music_0 0 rfl ?_
  refine xr_iload_n dX10_music_1 1 rfl ?_
  refine xr_callV (As := [.int (d)]) (rest := []) mlX10_285 (g_X10_rowIs d) dX10_music_2 s_62 rfl rfl (Nat.le_of_ble_eq_true rfl) (by decide) ⟨by decide, by decide⟩ (fun v s2 M9 J2 hq => ?_)
  obtain ⟨r2, rfl, rfl, rfl, rfl, hx1⟩ := hq
  try dsimp only [Option.toList, List.cons_append, List.nil_append]
  refine xr_if_ge (tgt := 14) dX10_music_5 rfl (fun c3 => ?_) (fun c3 => ?_)
  · obtain ⟨d_, hd_, rfl⟩ := x_natle (v := d) (N := 5) (K := 5) (by decide) (by decide) (Or.resolve_left hx1 (by grind))
    obtain ⟨hd83, nm, hnm, e_nm⟩ := hsl d_ (by omega)
    refine xr_aload_n dX10_music_14 0 rfl ?_
    refine xr_callV (As := []) (rest := []) mlX10_246 (g_X10_upNow h_hn e_hn (fun kw hkw => by rw [show M 63 (5 + kw) = M 63 (5 + kw) from rfl]; exact hw kw hkw) (by rw [show M 63 16 = M 63 16 from rfl]; exact hbt) (by rw [show M 62 13 = M 62 13 from rfl]; exact htx)) dX10_music_15 s_62 rfl rfl (Nat.le_of_ble_eq_true rfl) (by decide) ⟨by decide, by decide⟩ (fun v s2 M9 J2 hq => ?_)
    obtain ⟨r4, rfl, rfl, rfl, rfl, _⟩ := hq
    try dsimp only [Option.toList, List.cons_append, List.nil_append]
    refine xr_istore_n (ls2 := [(2, .int (r4)), (0, .ref (62)), (1, .int (nI (d_)))]) dX10_music_18 (by decide) rfl ?_
    refine xr_aload_n dX10_music_19 1 rfl ?_
    refine xr_iload_n dX10_music_20 0 rfl ?_
    refine xr_callV (As := [.int (r4)]) (rest := []) mlX10_249 (g_X10_begins1 r4 h_hn e_hn (fun kw hkw => by rw [show M 63 (5 + kw) = M 63 (5 + kw) from rfl]; exact hw kw hkw) (by rw [show M 63 16 = M 63 16 from rfl]; exact hbt) (by rw [show M 62 13 = M 62 13 from rfl]; exact htx)) dX10_music_21 s_62 rfl rfl (Nat.le_of_ble_eq_true rfl) (by decide) ⟨by decide, by decide⟩ (fun v s2 M5 J2 hq => ?_)
    obtain ⟨rfl, rfl, rfl, k6, _⟩ := hq
    try dsimp only [Option.toList, List.cons_append, List.nil_append]
    refine xr_iconst (v := 0) dX10_music_24 rfl ?_
    refine xr_istore_n (ls2 := [(3, .int (0)), (2, .int (r4)), (0, .ref (62)), (1, .int (nI (d_)))]) dX10_music_25 (by decide) rfl ?_
    refine xr_aload_n dX10_music_26 2 rfl ?_
    refine xr_getR flX10_78 dX10_music_27 s_62 rfl ?_
    refine xr_iload_n dX10_music_30 3 rfl ?_
    refine xb_iald (j := d_) (v := nI (nm)) dX10_music_31 s_84 (by omega) (by decide) (Eq.trans (k6 84 d_ (by unfold WR1; omega)) e_nm) ?_
    refine xr_if_le (tgt := 61) dX10_music_32 rfl (fun c7 => ?_) (fun c7 => ?_)
    · refine xr_ldc2 coX10_288 dX10_music_61 ?_
      refine xr_lstore (ls2 := [(4, .long ((-1))), (3, .int (0)), (2, .int (r4)), (0, .ref (62)), (1, .int (nI (d_)))]) dX10_music_64 (by decide) rfl ?_
      refine xr_iconst (v := 0) dX10_music_66 rfl ?_
      refine xr_istore (ls2 := [(6, .int (0)), (4, .long ((-1))), (3, .int (0)), (2, .int (r4)), (0, .ref (62)), (1, .int (nI (d_)))]) dX10_music_67 (by decide) rfl ?_
      refine xb_ls (ls2 := [(6, .int (nI (0))), (4, .long ((-1))), (3, .int (nI (0))), (2, .int (r4)), (1, .int (nI (d_))), (0, .ref (62))]) [0, 1, 2, 3, 5, 4] rfl ?_
      exact rmu_l (d := d_) (by omega) hnm h_hn (Eq.trans (k6 62 6 (by decide)) e_hn) (fun kw hkw => by rw [show M5 63 (5 + kw) = M 63 (5 + kw) from (Eq.trans (k6 63 (5 + kw) (by unfold WR1; omega)) rfl)]; exact hw kw hkw) (by rw [show M5 63 16 = M 63 16 from (Eq.trans (k6 63 16 (by unfold WR1; omega)) rfl)]; exact hbt) (by rw [show M5 62 13 = M 62 13 from (Eq.trans (k6 62 13 (by unfold WR1; omega)) rfl)]; exact htx) (Eq.trans (k6 84 d_ (by unfold WR1; omega)) e_nm) (fun r M2 hk => ⟨_, rfl, rfl, rfl, Ke.tr (fun _ _ h => h) (Ke.tr (fun _ _ h => h) Ke.rf k6) hk, ⟨⟨hn, by omega, (Eq.trans (hk 62 6 (by decide)) (Eq.trans (k6 62 6 (by decide)) e_hn)), (fun kw hkw => by rw [show M2 63 (5 + kw) = M 63 (5 + kw) from (Eq.trans (hk 63 (5 + kw) (by unfold WR1; omega)) (Eq.trans (k6 63 (5 + kw) (by unfold WR1; omega)) rfl))]; exact hw kw hkw)⟩, (by rw [show M2 63 16 = M 63 16 from (Eq.trans (hk 63 16 (by unfold WR1; omega)) (Eq.trans (k6 63 16 (by unfold WR1; omega)) rfl))]; exact hbt), ⟨un, wn, by omega, by omega, (Eq.trans (hk 62 5 (by decide)) (Eq.trans (k6 62 5 (by decide)) e_un)), (Eq.trans (hk 62 4 (by decide)) (Eq.trans (k6 62 4 (by decide)) e_wn))⟩, (fun kk hkk => by rw [show M2 64 kk = M 64 kk from (Eq.trans (hk 64 kk (by unfold WR1; omega)) (Eq.trans (k6 64 kk (by unfold WR1; omega)) rfl)), show M2 65 kk = M 65 kk from (Eq.trans (hk 65 kk (by unfold WR1; omega)) (Eq.trans (k6 65 kk (by unfold WR1; omega)) rfl)), show M2 66 kk = M 66 kk from (Eq.trans (hk 66 kk (by unfold WR1; omega)) (Eq.trans (k6 66 kk (by unfold WR1; omega)) rfl))]; exact hch kk hkk), ⟨n, by omega, (Eq.trans (hk 62 11 (by decide)) (Eq.trans (k6 62 11 (by decide)) e_n))⟩, (by rw [show M2 62 13 = M 62 13 from (Eq.trans (hk 62 13 (by unfold WR1; omega)) (Eq.trans (k6 62 13 (by unfold WR1; omega)) rfl))]; exact htx), ⟨b, by omega, (Eq.trans (hk 62 36 (by decide)) (Eq.trans (k6 62 36 (by decide)) e_b))⟩, (fun j hj => by obtain ⟨q, hq, eq⟩ := hkd j hj; exact ⟨q, hq, (show M2 81 j = M 81 j from (Eq.trans (hk 81 j (by unfold WR1; omega)) (Eq.trans (k6 81 j (by unfold WR1; omega)) rfl))).trans eq⟩), ⟨ra, by omega, (Eq.trans (hk 62 39 (by decide)) (Eq.trans (k6 62 39 (by decide)) e_ra))⟩, (fun j hj => by rw [show M2 83 j = M 83 j from (Eq.trans (hk 83 j (by unfold WR1; omega)) (Eq.trans (k6 83 j (by unfold WR1; omega)) rfl)), show M2 84 j = M 84 j from (Eq.trans (hk 84 j (by unfold WR1; omega)) (Eq.trans (k6 84 j (by unfold WR1; omega)) rfl))]; exact hsl j hj), ⟨ic, by omega, (Eq.trans (hk 62 34 (by decide)) (Eq.trans (k6 62 34 (by decide)) e_ic))⟩, (fun j hj => by obtain ⟨q, hq, eq⟩ := hS j hj; exact ⟨q, hq, (show M2 75 j = M 75 j from (Eq.trans (hk 75 j (by unfold WR1; omega)) (Eq.trans (k6 75 j (by unfold WR1; omega)) rfl))).trans eq⟩)⟩⟩) 200 0 0 _ M5 (by omega) (Nat.le_refl _) Ke.rf
    · refine xr_aload_n dX10_music_35 2 rfl ?_
      refine xr_getR flX10_81 dX10_music_36 s_62 rfl ?_
      refine xr_bipush (v := 60) dX10_music_39 rfl ?_
      refine xr_iload_n dX10_music_41 3 rfl ?_
      refine xr_imul dX10_music_42 ?_
      refine xb_top (y := nI (60 * d_)) (nI_mulc 60 d_) ?_
      refine xb_lald (j := 60 * d_) (v := J 85 (60 * d_)) dX10_music_43 s_85 (by omega) (by decide) rfl ?_
      refine xr_lconst (v := 1) dX10_music_44 rfl ?_
      refine xr_lcmp dX10_music_45 ?_
      refine xl_lt (tgt := 61) dX10_music_46 rfl (fun c8 => ?_) (fun c8 => ?_)
      · refine xr_ldc2 coX10_288 dX10_music_61 ?_
        refine xr_lstore (ls2 := [(4, .long ((-1))), (3, .int (0)), (2, .int (r4)), (0, .ref (62)), (1, .int (nI (d_)))]) dX10_music_64 (by decide) rfl ?_
        refine xr_iconst (v := 0) dX10_music_66 rfl ?_
        refine xr_istore (ls2 := [(6, .int (0)), (4, .long ((-1))), (3, .int (0)), (2, .int (r4)), (0, .ref (62)), (1, .int (nI (d_)))]) dX10_music_67 (by decide) rfl ?_
        refine xb_ls (ls2 := [(6, .int (nI (0))), (4, .long ((-1))), (3, .int (nI (0))), (2, .int (r4)), (1, .int (nI (d_))), (0, .ref (62))]) [0, 1, 2, 3, 5, 4] rfl ?_
        exact rmu_l (d := d_) (by omega) hnm h_hn (Eq.trans (k6 62 6 (by decide)) e_hn) (fun kw hkw => by rw [show M5 63 (5 + kw) = M 63 (5 + kw) from (Eq.trans (k6 63 (5 + kw) (by unfold WR1; omega)) rfl)]; exact hw kw hkw) (by rw [show M5 63 16 = M 63 16 from (Eq.trans (k6 63 16 (by unfold WR1; omega)) rfl)]; exact hbt) (by rw [show M5 62 13 = M 62 13 from (Eq.trans (k6 62 13 (by unfold WR1; omega)) rfl)]; exact htx) (Eq.trans (k6 84 d_ (by unfold WR1; omega)) e_nm) (fun r M2 hk => ⟨_, rfl, rfl, rfl, Ke.tr (fun _ _ h => h) (Ke.tr (fun _ _ h => h) Ke.rf k6) hk, ⟨⟨hn, by omega, (Eq.trans (hk 62 6 (by decide)) (Eq.trans (k6 62 6 (by decide)) e_hn)), (fun kw hkw => by rw [show M2 63 (5 + kw) = M 63 (5 + kw) from (Eq.trans (hk 63 (5 + kw) (by unfold WR1; omega)) (Eq.trans (k6 63 (5 + kw) (by unfold WR1; omega)) rfl))]; exact hw kw hkw)⟩, (by rw [show M2 63 16 = M 63 16 from (Eq.trans (hk 63 16 (by unfold WR1; omega)) (Eq.trans (k6 63 16 (by unfold WR1; omega)) rfl))]; exact hbt), ⟨un, wn, by omega, by omega, (Eq.trans (hk 62 5 (by decide)) (Eq.trans (k6 62 5 (by decide)) e_un)), (Eq.trans (hk 62 4 (by decide)) (Eq.trans (k6 62 4 (by decide)) e_wn))⟩, (fun kk hkk => by rw [show M2 64 kk = M 64 kk from (Eq.trans (hk 64 kk (by unfold WR1; omega)) (Eq.trans (k6 64 kk (by unfold WR1; omega)) rfl)), show M2 65 kk = M 65 kk from (Eq.trans (hk 65 kk (by unfold WR1; omega)) (Eq.trans (k6 65 kk (by unfold WR1; omega)) rfl)), show M2 66 kk = M 66 kk from (Eq.trans (hk 66 kk (by unfold WR1; omega)) (Eq.trans (k6 66 kk (by unfold WR1; omega)) rfl))]; exact hch kk hkk), ⟨n, by omega, (Eq.trans (hk 62 11 (by decide)) (Eq.trans (k6 62 11 (by decide)) e_n))⟩, (by rw [show M2 62 13 = M 62 13 from (Eq.trans (hk 62 13 (by unfold WR1; omega)) (Eq.trans (k6 62 13 (by unfold WR1; omega)) rfl))]; exact htx), ⟨b, by omega, (Eq.trans (hk 62 36 (by decide)) (Eq.trans (k6 62 36 (by decide)) e_b))⟩, (fun j hj => by obtain ⟨q, hq, eq⟩ := hkd j hj; exact ⟨q, hq, (show M2 81 j = M 81 j from (Eq.trans (hk 81 j (by unfold WR1; omega)) (Eq.trans (k6 81 j (by unfold WR1; omega)) rfl))).trans eq⟩), ⟨ra, by omega, (Eq.trans (hk 62 39 (by decide)) (Eq.trans (k6 62 39 (by decide)) e_ra))⟩, (fun j hj => by rw [show M2 83 j = M 83 j from (Eq.trans (hk 83 j (by unfold WR1; omega)) (Eq.trans (k6 83 j (by unfold WR1; omega)) rfl)), show M2 84 j = M 84 j from (Eq.trans (hk 84 j (by unfold WR1; omega)) (Eq.trans (k6 84 j (by unfold WR1; omega)) rfl))]; exact hsl j hj), ⟨ic, by omega, (Eq.trans (hk 62 34 (by decide)) (Eq.trans (k6 62 34 (by decide)) e_ic))⟩, (fun j hj => by obtain ⟨q, hq, eq⟩ := hS j hj; exact ⟨q, hq, (show M2 75 j = M 75 j from (Eq.trans (hk 75 j (by unfold WR1; omega)) (Eq.trans (k6 75 j (by unfold WR1; omega)) rfl))).trans eq⟩)⟩⟩) 200 0 0 _ M5 (by omega) (Nat.le_refl _) Ke.rf
      · refine xr_aload_n dX10_music_49 2 rfl ?_
        refine xr_getR flX10_81 dX10_music_50 s_62 rfl ?_
        refine xr_bipush (v := 60) dX10_music_53 rfl ?_
        refine xr_iload_n dX10_music_55 3 rfl ?_
        refine xr_imul dX10_music_56 ?_
        refine xb_top (y := nI (60 * d_)) (nI_mulc 60 d_) ?_
        refine xb_lald (j := 60 * d_) (v := J 85 (60 * d_)) dX10_music_57 s_85 (by omega) (by decide) rfl ?_
        refine xr_goto (tgt := 64) dX10_music_58 rfl ?_
        refine xr_lstore (ls2 := [(4, .long (J 85 (60 * d_))), (3, .int (0)), (2, .int (r4)), (0, .ref (62)), (1, .int (nI (d_)))]) dX10_music_64 (by decide) rfl ?_
        refine xr_iconst (v := 0) dX10_music_66 rfl ?_
        refine xr_istore (ls2 := [(6, .int (0)), (4, .long (J 85 (60 * d_))), (3, .int (0)), (2, .int (r4)), (0, .ref (62)), (1, .int (nI (d_)))]) dX10_music_67 (by decide) rfl ?_
        refine xb_ls (ls2 := [(6, .int (nI (0))), (4, .long (J 85 (60 * d_))), (3, .int (nI (0))), (2, .int (r4)), (1, .int (nI (d_))), (0, .ref (62))]) [0, 1, 2, 3, 5, 4] rfl ?_
        exact rmu_l (d := d_) (by omega) hnm h_hn (Eq.trans (k6 62 6 (by decide)) e_hn) (fun kw hkw => by rw [show M5 63 (5 + kw) = M 63 (5 + kw) from (Eq.trans (k6 63 (5 + kw) (by unfold WR1; omega)) rfl)]; exact hw kw hkw) (by rw [show M5 63 16 = M 63 16 from (Eq.trans (k6 63 16 (by unfold WR1; omega)) rfl)]; exact hbt) (by rw [show M5 62 13 = M 62 13 from (Eq.trans (k6 62 13 (by unfold WR1; omega)) rfl)]; exact htx) (Eq.trans (k6 84 d_ (by unfold WR1; omega)) e_nm) (fun r M2 hk => ⟨_, rfl, rfl, rfl, Ke.tr (fun _ _ h => h) (Ke.tr (fun _ _ h => h) Ke.rf k6) hk, ⟨⟨hn, by omega, (Eq.trans (hk 62 6 (by decide)) (Eq.trans (k6 62 6 (by decide)) e_hn)), (fun kw hkw => by rw [show M2 63 (5 + kw) = M 63 (5 + kw) from (Eq.trans (hk 63 (5 + kw) (by unfold WR1; omega)) (Eq.trans (k6 63 (5 + kw) (by unfold WR1; omega)) rfl))]; exact hw kw hkw)⟩, (by rw [show M2 63 16 = M 63 16 from (Eq.trans (hk 63 16 (by unfold WR1; omega)) (Eq.trans (k6 63 16 (by unfold WR1; omega)) rfl))]; exact hbt), ⟨un, wn, by omega, by omega, (Eq.trans (hk 62 5 (by decide)) (Eq.trans (k6 62 5 (by decide)) e_un)), (Eq.trans (hk 62 4 (by decide)) (Eq.trans (k6 62 4 (by decide)) e_wn))⟩, (fun kk hkk => by rw [show M2 64 kk = M 64 kk from (Eq.trans (hk 64 kk (by unfold WR1; omega)) (Eq.trans (k6 64 kk (by unfold WR1; omega)) rfl)), show M2 65 kk = M 65 kk from (Eq.trans (hk 65 kk (by unfold WR1; omega)) (Eq.trans (k6 65 kk (by unfold WR1; omega)) rfl)), show M2 66 kk = M 66 kk from (Eq.trans (hk 66 kk (by unfold WR1; omega)) (Eq.trans (k6 66 kk (by unfold WR1; omega)) rfl))]; exact hch kk hkk), ⟨n, by omega, (Eq.trans (hk 62 11 (by decide)) (Eq.trans (k6 62 11 (by decide)) e_n))⟩, (by rw [show M2 62 13 = M 62 13 from (Eq.trans (hk 62 13 (by unfold WR1; omega)) (Eq.trans (k6 62 13 (by unfold WR1; omega)) rfl))]; exact htx), ⟨b, by omega, (Eq.trans (hk 62 36 (by decide)) (Eq.trans (k6 62 36 (by decide)) e_b))⟩, (fun j hj => by obtain ⟨q, hq, eq⟩ := hkd j hj; exact ⟨q, hq, (show M2 81 j = M 81 j from (Eq.trans (hk 81 j (by unfold WR1; omega)) (Eq.trans (k6 81 j (by unfold WR1; omega)) rfl))).trans eq⟩), ⟨ra, by omega, (Eq.trans (hk 62 39 (by decide)) (Eq.trans (k6 62 39 (by decide)) e_ra))⟩, (fun j hj => by rw [show M2 83 j = M 83 j from (Eq.trans (hk 83 j (by unfold WR1; omega)) (Eq.trans (k6 83 j (by unfold WR1; omega)) rfl)), show M2 84 j = M 84 j from (Eq.trans (hk 84 j (by unfold WR1; omega)) (Eq.trans (k6 84 j (by unfold WR1; omega)) rfl))]; exact hsl j hj), ⟨ic, by omega, (Eq.trans (hk 62 34 (by decide)) (Eq.trans (k6 62 34 (by decide)) e_ic))⟩, (fun j hj => by obtain ⟨q, hq, eq⟩ := hS j hj; exact ⟨q, hq, (show M2 75 j = M 75 j from (Eq.trans (hk 75 j (by unfold WR1; omega)) (Eq.trans (k6 75 j (by unfold WR1; omega)) rfl))).trans eq⟩)⟩⟩) 200 0 0 _ M5 (by omega) (Nat.le_refl _) Ke.rf
  · refine xr_aload_n dX10_music_8 0 rfl ?_
    refine xr_iload_n dX10_music_9 1 rfl ?_
    refine xr_callV (As := [.int (d)]) (rest := []) mlX10_285 (g_X10_rowIs d) dX10_music_10 s_62 rfl rfl (Nat.le_of_ble_eq_true rfl) (by decide) ⟨by decide, by decide⟩ (fun v s2 M9 J2 hq => ?_)
    obtain ⟨r10, rfl, rfl, rfl, rfl, hx9⟩ := hq
    try dsimp only [Option.toList, List.cons_append, List.nil_append]
    exact xr_iret dX10_music_13 rfl rfl (⟨_, rfl, rfl, rfl, Ke.rf, ⟨⟨hn, by omega, e_hn, (fun kw hkw => by rw [show M 63 (5 + kw) = M 63 (5 + kw) from rfl]; exact hw kw hkw)⟩, (by rw [show M 63 16 = M 63 16 from rfl]; exact hbt), ⟨un, wn, by omega, by omega, e_un, e_wn⟩, (fun kk hkk => by rw [show M 64 kk = M 64 kk from rfl, show M 65 kk = M 65 kk from rfl, show M 66 kk = M 66 kk from rfl]; exact hch kk hkk), ⟨n, by omega, e_n⟩, (by rw [show M 62 13 = M 62 13 from rfl]; exact htx), ⟨b, by omega, e_b⟩, (fun j hj => by obtain ⟨q, hq, eq⟩ := hkd j hj; exact ⟨q, hq, (show M 81 j = M 81 j from rfl).trans eq⟩), ⟨ra, by omega, e_ra⟩, (fun j hj => by rw [show M 83 j = M 83 j from rfl, show M 84 j = M 84 j from rfl]; exact hsl j hj), ⟨ic, by omega, e_ic⟩, (fun j hj => by obtain ⟨q, hq, eq⟩ := hS j hj; exact ⟨q, hq, (show M 75 j = M 75 j from rfl).trans eq⟩)⟩⟩)