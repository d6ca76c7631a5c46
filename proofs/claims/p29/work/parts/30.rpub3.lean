theorem dX10_left_0 : decode cX10_left 0 = .ok (.iload_n 2, 1) := by decide +kernel
theorem dX10_left_1 : decode cX10_left 1 = .ok (.i2l, 1) := by decide +kernel
theorem dX10_left_2 : decode cX10_left 2 = .ok (.lconst 1, 1) := by decide +kernel
theorem dX10_left_3 : decode cX10_left 3 = .ok (.ldc2_w 311, 3) := by decide +kernel
theorem dX10_left_6 : decode cX10_left 6 = .ok (.invokestatic 101, 3) := by decide +kernel
theorem dX10_left_9 : decode cX10_left 9 = .ok (.ifCond .eq 15, 3) := by decide +kernel
theorem dX10_left_24 : decode cX10_left 24 = .ok (.iconst (-1), 1) := by decide +kernel
theorem dX10_left_25 : decode cX10_left 25 = .ok (.ireturn, 1) := by decide +kernel
theorem dX10_left_12 : decode cX10_left 12 = .ok (.iload_n 3, 1) := by decide +kernel
theorem dX10_left_13 : decode cX10_left 13 = .ok (.iconst (-1), 1) := by decide +kernel
theorem dX10_left_14 : decode cX10_left 14 = .ok (.if_icmp .eq 12, 3) := by decide +kernel
theorem dX10_left_26 : decode cX10_left 26 = .ok (.aload_n 0, 1) := by decide +kernel
theorem dX10_left_27 : decode cX10_left 27 = .ok (.iload_n 1, 1) := by decide +kernel
theorem dX10_left_28 : decode cX10_left 28 = .ok (.iload_n 2, 1) := by decide +kernel
theorem dX10_left_29 : decode cX10_left 29 = .ok (.invokevirtual 313, 3) := by decide +kernel
theorem dX10_left_32 : decode cX10_left 32 = .ok (.iconst 0, 1) := by decide +kernel
theorem dX10_left_33 : decode cX10_left 33 = .ok (.istore 4, 2) := by decide +kernel
theorem dX10_left_35 : decode cX10_left 35 = .ok (.iconst 0, 1) := by decide +kernel
theorem dX10_left_36 : decode cX10_left 36 = .ok (.istore 5, 2) := by decide +kernel
theorem dX10_left_71 : decode cX10_left 71 = .ok (.iload_n 3, 1) := by decide +kernel
theorem dX10_left_72 : decode cX10_left 72 = .ok (.ifCond .ge 8, 3) := by decide +kernel
theorem dX10_left_75 : decode cX10_left 75 = .ok (.iload 4, 2) := by decide +kernel
theorem dX10_left_77 : decode cX10_left 77 = .ok (.goto 17, 3) := by decide +kernel
theorem dX10_left_94 : decode cX10_left 94 = .ok (.ireturn, 1) := by decide +kernel
theorem dX10_left_17 : decode cX10_left 17 = .ok (.iload_n 3, 1) := by decide +kernel
theorem dX10_left_18 : decode cX10_left 18 = .ok (.invokestatic 293, 3) := by decide +kernel
theorem dX10_left_21 : decode cX10_left 21 = .ok (.ifCond .ne 5, 3) := by decide +kernel
theorem dX10_left_80 : decode cX10_left 80 = .ok (.aload_n 0, 1) := by decide +kernel
theorem dX10_left_81 : decode cX10_left 81 = .ok (.getfield 56, 3) := by decide +kernel
theorem dX10_left_84 : decode cX10_left 84 = .ok (.iload_n 3, 1) := by decide +kernel
theorem dX10_left_85 : decode cX10_left 85 = .ok (.baload, 1) := by decide +kernel
theorem dX10_left_86 : decode cX10_left 86 = .ok (.ifCond .eq 7, 3) := by decide +kernel
theorem dX10_left_93 : decode cX10_left 93 = .ok (.iconst 0, 1) := by decide +kernel
theorem dX10_left_89 : decode cX10_left 89 = .ok (.iconst 1, 1) := by decide +kernel
theorem dX10_left_90 : decode cX10_left 90 = .ok (.goto 4, 3) := by decide +kernel
theorem dX10_knocked_0 : decode cX10_knocked 0 = .ok (.iload_n 2, 1) := by decide +kernel
theorem dX10_knocked_1 : decode cX10_knocked 1 = .ok (.i2l, 1) := by decide +kernel
theorem dX10_knocked_2 : decode cX10_knocked 2 = .ok (.lconst 1, 1) := by decide +kernel
theorem dX10_knocked_3 : decode cX10_knocked 3 = .ok (.ldc2_w 311, 3) := by decide +kernel
theorem dX10_knocked_6 : decode cX10_knocked 6 = .ok (.invokestatic 101, 3) := by decide +kernel
theorem dX10_knocked_9 : decode cX10_knocked 9 = .ok (.ifCond .eq 10, 3) := by decide +kernel
theorem dX10_knocked_19 : decode cX10_knocked 19 = .ok (.iconst (-1), 1) := by decide +kernel
theorem dX10_knocked_20 : decode cX10_knocked 20 = .ok (.ireturn, 1) := by decide +kernel
theorem dX10_knocked_12 : decode cX10_knocked 12 = .ok (.iload_n 3, 1) := by decide +kernel
theorem dX10_knocked_13 : decode cX10_knocked 13 = .ok (.invokestatic 293, 3) := by decide +kernel
theorem dX10_knocked_16 : decode cX10_knocked 16 = .ok (.ifCond .ne 5, 3) := by decide +kernel
theorem dX10_knocked_21 : decode cX10_knocked 21 = .ok (.aload_n 0, 1) := by decide +kernel
theorem dX10_knocked_22 : decode cX10_knocked 22 = .ok (.iload_n 1, 1) := by decide +kernel
theorem dX10_knocked_23 : decode cX10_knocked 23 = .ok (.iload_n 2, 1) := by decide +kernel
theorem dX10_knocked_24 : decode cX10_knocked 24 = .ok (.invokevirtual 313, 3) := by decide +kernel
theorem dX10_knocked_27 : decode cX10_knocked 27 = .ok (.aload_n 0, 1) := by decide +kernel
theorem dX10_knocked_28 : decode cX10_knocked 28 = .ok (.getfield 60, 3) := by decide +kernel
theorem dX10_knocked_31 : decode cX10_knocked 31 = .ok (.iload_n 3, 1) := by decide +kernel
theorem dX10_knocked_32 : decode cX10_knocked 32 = .ok (.iaload, 1) := by decide +kernel
theorem dX10_knocked_33 : decode cX10_knocked 33 = .ok (.ireturn, 1) := by decide +kernel
theorem dX10_last_0 : decode cX10_last 0 = .ok (.iload_n 2, 1) := by decide +kernel
theorem dX10_last_1 : decode cX10_last 1 = .ok (.i2l, 1) := by decide +kernel
theorem dX10_last_2 : decode cX10_last 2 = .ok (.lconst 0, 1) := by decide +kernel
theorem dX10_last_3 : decode cX10_last 3 = .ok (.lconst 1, 1) := by decide +kernel
theorem dX10_last_4 : decode cX10_last 4 = .ok (.invokestatic 101, 3) := by decide +kernel
theorem dX10_last_7 : decode cX10_last 7 = .ok (.ifCond .ne 5, 3) := by decide +kernel
theorem dX10_last_12 : decode cX10_last 12 = .ok (.aload_n 0, 1) := by decide +kernel
theorem dX10_last_13 : decode cX10_last 13 = .ok (.iload_n 1, 1) := by decide +kernel
theorem dX10_last_14 : decode cX10_last 14 = .ok (.bipush 30, 2) := by decide +kernel
theorem dX10_last_16 : decode cX10_last 16 = .ok (.invokevirtual 313, 3) := by decide +kernel
theorem dX10_last_19 : decode cX10_last 19 = .ok (.iconst 0, 1) := by decide +kernel
theorem dX10_last_20 : decode cX10_last 20 = .ok (.istore_n 3, 1) := by decide +kernel
theorem dX10_last_21 : decode cX10_last 21 = .ok (.iconst 1, 1) := by decide +kernel
theorem dX10_last_22 : decode cX10_last 22 = .ok (.istore 4, 2) := by decide +kernel
theorem dX10_last_60 : decode cX10_last 60 = .ok (.iload_n 2, 1) := by decide +kernel
theorem dX10_last_61 : decode cX10_last 61 = .ok (.ifCond .ne 7, 3) := by decide +kernel
theorem dX10_last_68 : decode cX10_last 68 = .ok (.aload_n 0, 1) := by decide +kernel
theorem dX10_last_69 : decode cX10_last 69 = .ok (.getfield 63, 3) := by decide +kernel
theorem dX10_last_72 : decode cX10_last 72 = .ok (.iload_n 3, 1) := by decide +kernel
theorem dX10_last_73 : decode cX10_last 73 = .ok (.iaload, 1) := by decide +kernel
theorem dX10_last_74 : decode cX10_last 74 = .ok (.ireturn, 1) := by decide +kernel
theorem dX10_last_64 : decode cX10_last 64 = .ok (.iload_n 3, 1) := by decide +kernel
theorem dX10_last_65 : decode cX10_last 65 = .ok (.goto 9, 3) := by decide +kernel
theorem dX10_last_10 : decode cX10_last 10 = .ok (.iconst (-1), 1) := by decide +kernel
theorem dX10_last_11 : decode cX10_last 11 = .ok (.ireturn, 1) := by decide +kernel
theorem dX10_skill_0 : decode cX10_skill 0 = .ok (.iload_n 1, 1) := by decide +kernel
theorem dX10_skill_1 : decode cX10_skill 1 = .ok (.invokestatic 293, 3) := by decide +kernel
theorem dX10_skill_4 : decode cX10_skill 4 = .ok (.ifCond .eq 15, 3) := by decide +kernel
theorem dX10_skill_19 : decode cX10_skill 19 = .ok (.iconst (-1), 1) := by decide +kernel
theorem dX10_skill_20 : decode cX10_skill 20 = .ok (.ireturn, 1) := by decide +kernel
theorem dX10_skill_7 : decode cX10_skill 7 = .ok (.iload_n 2, 1) := by decide +kernel
theorem dX10_skill_8 : decode cX10_skill 8 = .ok (.i2l, 1) := by decide +kernel
theorem dX10_skill_9 : decode cX10_skill 9 = .ok (.lconst 0, 1) := by decide +kernel
theorem dX10_skill_10 : decode cX10_skill 10 = .ok (.ldc2_w 296, 3) := by decide +kernel
theorem dX10_skill_13 : decode cX10_skill 13 = .ok (.invokestatic 101, 3) := by decide +kernel
theorem dX10_skill_16 : decode cX10_skill 16 = .ok (.ifCond .ne 5, 3) := by decide +kernel
theorem dX10_skill_21 : decode cX10_skill 21 = .ok (.aload_n 0, 1) := by decide +kernel
theorem dX10_skill_22 : decode cX10_skill 22 = .ok (.getfield 50, 3) := by decide +kernel
theorem dX10_skill_25 : decode cX10_skill 25 = .ok (.iload_n 1, 1) := by decide +kernel
theorem dX10_skill_26 : decode cX10_skill 26 = .ok (.iaload, 1) := by decide +kernel
theorem dX10_skill_27 : decode cX10_skill 27 = .ok (.istore_n 3, 1) := by decide +kernel
theorem dX10_skill_28 : decode cX10_skill 28 = .ok (.aload_n 0, 1) := by decide +kernel
theorem dX10_skill_29 : decode cX10_skill 29 = .ok (.getfield 50, 3) := by decide +kernel
theorem dX10_skill_32 : decode cX10_skill 32 = .ok (.iload_n 1, 1) := by decide +kernel
theorem dX10_skill_33 : decode cX10_skill 33 = .ok (.iload_n 2, 1) := by decide +kernel
theorem dX10_skill_34 : decode cX10_skill 34 = .ok (.iastore, 1) := by decide +kernel
theorem dX10_skill_35 : decode cX10_skill 35 = .ok (.aload_n 0, 1) := by decide +kernel
theorem dX10_skill_36 : decode cX10_skill 36 = .ok (.getfield 53, 3) := by decide +kernel
theorem dX10_skill_39 : decode cX10_skill 39 = .ok (.iload_n 1, 1) := by decide +kernel
theorem dX10_skill_40 : decode cX10_skill 40 = .ok (.iconst 0, 1) := by decide +kernel
theorem dX10_skill_41 : decode cX10_skill 41 = .ok (.iastore, 1) := by decide +kernel
theorem dX10_skill_42 : decode cX10_skill 42 = .ok (.iload_n 3, 1) := by decide +kernel
theorem dX10_skill_43 : decode cX10_skill 43 = .ok (.ireturn, 1) := by decide +kernel
theorem dX10_learn_0 : decode cX10_learn 0 = .ok (.iload_n 1, 1) := by decide +kernel
theorem dX10_learn_1 : decode cX10_learn 1 = .ok (.invokestatic 293, 3) := by decide +kernel
theorem dX10_learn_4 : decode cX10_learn 4 = .ok (.ifCond .eq 15, 3) := by decide +kernel
theorem dX10_learn_19 : decode cX10_learn 19 = .ok (.iconst (-1), 1) := by decide +kernel
theorem dX10_learn_20 : decode cX10_learn 20 = .ok (.ireturn, 1) := by decide +kernel
theorem dX10_learn_7 : decode cX10_learn 7 = .ok (.iload_n 2, 1) := by decide +kernel
theorem dX10_learn_8 : decode cX10_learn 8 = .ok (.i2l, 1) := by decide +kernel
theorem dX10_learn_9 : decode cX10_learn 9 = .ok (.lconst 1, 1) := by decide +kernel
theorem dX10_learn_10 : decode cX10_learn 10 = .ok (.ldc2_w 322, 3) := by decide +kernel
theorem dX10_learn_13 : decode cX10_learn 13 = .ok (.invokestatic 101, 3) := by decide +kernel
theorem dX10_learn_16 : decode cX10_learn 16 = .ok (.ifCond .ne 5, 3) := by decide +kernel
theorem dX10_learn_21 : decode cX10_learn 21 = .ok (.iconst 0, 1) := by decide +kernel
theorem dX10_learn_22 : decode cX10_learn 22 = .ok (.istore_n 3, 1) := by decide +kernel
theorem dX10_learn_90 : decode cX10_learn 90 = .ok (.aload_n 0, 1) := by decide +kernel
theorem dX10_learn_91 : decode cX10_learn 91 = .ok (.getfield 50, 3) := by decide +kernel
theorem dX10_learn_94 : decode cX10_learn 94 = .ok (.iload_n 1, 1) := by decide +kernel
theorem dX10_learn_95 : decode cX10_learn 95 = .ok (.iaload, 1) := by decide +kernel
theorem dX10_learn_96 : decode cX10_learn 96 = .ok (.ireturn, 1) := by decide +kernel
theorem dX10_till_0 : decode cX10_till 0 = .ok (.iload_n 1, 1) := by decide +kernel
theorem dX10_till_1 : decode cX10_till 1 = .ok (.invokestatic 293, 3) := by decide +kernel
theorem dX10_till_4 : decode cX10_till 4 = .ok (.ifCond .eq 15, 3) := by decide +kernel
theorem dX10_till_19 : decode cX10_till 19 = .ok (.iconst (-1), 1) := by decide +kernel
theorem dX10_till_20 : decode cX10_till 20 = .ok (.ireturn, 1) := by decide +kernel
theorem dX10_till_7 : decode cX10_till 7 = .ok (.iload_n 2, 1) := by decide +kernel
theorem dX10_till_8 : decode cX10_till 8 = .ok (.i2l, 1) := by decide +kernel
theorem dX10_till_9 : decode cX10_till 9 = .ok (.lconst 0, 1) := by decide +kernel
theorem dX10_till_10 : decode cX10_till 10 = .ok (.ldc2_w 296, 3) := by decide +kernel
theorem dX10_till_13 : decode cX10_till 13 = .ok (.invokestatic 101, 3) := by decide +kernel
theorem dX10_till_16 : decode cX10_till 16 = .ok (.ifCond .ne 5, 3) := by decide +kernel
theorem dX10_till_21 : decode cX10_till 21 = .ok (.aload_n 0, 1) := by decide +kernel
theorem dX10_till_22 : decode cX10_till 22 = .ok (.getfield 50, 3) := by decide +kernel
theorem dX10_till_25 : decode cX10_till 25 = .ok (.iload_n 1, 1) := by decide +kernel
theorem dX10_till_26 : decode cX10_till 26 = .ok (.iaload, 1) := by decide +kernel
theorem dX10_till_27 : decode cX10_till 27 = .ok (.iload_n 2, 1) := by decide +kernel
theorem dX10_till_28 : decode cX10_till 28 = .ok (.if_icmp .ge 13, 3) := by decide +kernel
theorem dX10_till_41 : decode cX10_till 41 = .ok (.iconst 0, 1) := by decide +kernel
theorem dX10_till_42 : decode cX10_till 42 = .ok (.istore_n 3, 1) := by decide +kernel
theorem dX10_till_43 : decode cX10_till 43 = .ok (.aload_n 0, 1) := by decide +kernel
theorem dX10_till_44 : decode cX10_till 44 = .ok (.getfield 50, 3) := by decide +kernel
theorem dX10_till_47 : decode cX10_till 47 = .ok (.iload_n 1, 1) := by decide +kernel
theorem dX10_till_48 : decode cX10_till 48 = .ok (.iaload, 1) := by decide +kernel
theorem dX10_till_49 : decode cX10_till 49 = .ok (.istore 4, 2) := by decide +kernel
theorem dX10_till_71 : decode cX10_till 71 = .ok (.iload_n 3, 1) := by decide +kernel
theorem dX10_till_72 : decode cX10_till 72 = .ok (.ireturn, 1) := by decide +kernel
theorem dX10_till_31 : decode cX10_till 31 = .ok (.aload_n 0, 1) := by decide +kernel
theorem dX10_till_32 : decode cX10_till 32 = .ok (.getfield 53, 3) := by decide +kernel
theorem dX10_till_35 : decode cX10_till 35 = .ok (.iload_n 1, 1) := by decide +kernel
theorem dX10_till_36 : decode cX10_till 36 = .ok (.iaload, 1) := by decide +kernel
theorem dX10_till_37 : decode cX10_till 37 = .ok (.ineg, 1) := by decide +kernel
theorem dX10_till_38 : decode cX10_till 38 = .ok (.goto 4, 3) := by decide +kernel
theorem dX10_alone_0 : decode cX10_alone 0 = .ok (.iload_n 1, 1) := by decide +kernel
theorem dX10_alone_1 : decode cX10_alone 1 = .ok (.invokestatic 293, 3) := by decide +kernel
theorem dX10_alone_4 : decode cX10_alone 4 = .ok (.ifCond .eq 25, 3) := by decide +kernel
theorem dX10_alone_29 : decode cX10_alone 29 = .ok (.ldc2_w 320, 3) := by decide +kernel
theorem dX10_alone_32 : decode cX10_alone 32 = .ok (.lreturn, 1) := by decide +kernel
theorem dX10_alone_7 : decode cX10_alone 7 = .ok (.iload_n 2, 1) := by decide +kernel
theorem dX10_alone_8 : decode cX10_alone 8 = .ok (.i2l, 1) := by decide +kernel
theorem dX10_alone_9 : decode cX10_alone 9 = .ok (.lconst 0, 1) := by decide +kernel
theorem dX10_alone_10 : decode cX10_alone 10 = .ok (.ldc2_w 316, 3) := by decide +kernel
theorem dX10_alone_13 : decode cX10_alone 13 = .ok (.invokestatic 101, 3) := by decide +kernel
theorem dX10_alone_16 : decode cX10_alone 16 = .ok (.ifCond .eq 13, 3) := by decide +kernel
theorem dX10_alone_19 : decode cX10_alone 19 = .ok (.iload_n 3, 1) := by decide +kernel
theorem dX10_alone_20 : decode cX10_alone 20 = .ok (.i2l, 1) := by decide +kernel
theorem dX10_alone_21 : decode cX10_alone 21 = .ok (.lconst 0, 1) := by decide +kernel
theorem dX10_alone_22 : decode cX10_alone 22 = .ok (.lconst 1, 1) := by decide +kernel
theorem dX10_alone_23 : decode cX10_alone 23 = .ok (.invokestatic 101, 3) := by decide +kernel
theorem dX10_alone_26 : decode cX10_alone 26 = .ok (.ifCond .ne 7, 3) := by decide +kernel
theorem dX10_alone_33 : decode cX10_alone 33 = .ok (.lconst 1, 1) := by decide +kernel
theorem dX10_alone_34 : decode cX10_alone 34 = .ok (.lstore 4, 2) := by decide +kernel
theorem dX10_alone_36 : decode cX10_alone 36 = .ok (.lconst 1, 1) := by decide +kernel
theorem dX10_alone_37 : decode cX10_alone 37 = .ok (.lstore 6, 2) := by decide +kernel
theorem dX10_alone_39 : decode cX10_alone 39 = .ok (.iconst 0, 1) := by decide +kernel
theorem dX10_alone_40 : decode cX10_alone 40 = .ok (.istore 8, 2) := by decide +kernel
theorem dX10_alone_74 : decode cX10_alone 74 = .ok (.lload 4, 2) := by decide +kernel
theorem dX10_alone_76 : decode cX10_alone 76 = .ok (.lconst 0, 1) := by decide +kernel
theorem dX10_alone_77 : decode cX10_alone 77 = .ok (.lcmp, 1) := by decide +kernel
theorem dX10_alone_78 : decode cX10_alone 78 = .ok (.ifCond .ne 6, 3) := by decide +kernel
theorem dX10_alone_84 : decode cX10_alone 84 = .ok (.lload 6, 2) := by decide +kernel
theorem dX10_alone_86 : decode cX10_alone 86 = .ok (.lstore 8, 2) := by decide +kernel
theorem dX10_alone_88 : decode cX10_alone 88 = .ok (.lload 4, 2) := by decide +kernel
theorem dX10_alone_90 : decode cX10_alone 90 = .ok (.lstore 10, 2) := by decide +kernel
theorem dX10_alone_117 : decode cX10_alone 117 = .ok (.iload_n 3, 1) := by decide +kernel
theorem dX10_alone_118 : decode cX10_alone 118 = .ok (.ifCond .ne 11, 3) := by decide +kernel
theorem dX10_alone_129 : decode cX10_alone 129 = .ok (.lload 6, 2) := by decide +kernel
theorem dX10_alone_131 : decode cX10_alone 131 = .ok (.lload 8, 2) := by decide +kernel
theorem dX10_alone_133 : decode cX10_alone 133 = .ok (.ldiv, 1) := by decide +kernel
theorem dX10_alone_134 : decode cX10_alone 134 = .ok (.lreturn, 1) := by decide +kernel
theorem dX10_alone_121 : decode cX10_alone 121 = .ok (.lload 4, 2) := by decide +kernel
theorem dX10_alone_123 : decode cX10_alone 123 = .ok (.lload 8, 2) := by decide +kernel
theorem dX10_alone_125 : decode cX10_alone 125 = .ok (.ldiv, 1) := by decide +kernel
theorem dX10_alone_126 : decode cX10_alone 126 = .ok (.goto 8, 3) := by decide +kernel
theorem dX10_alone_81 : decode cX10_alone 81 = .ok (.iload_n 3, 1) := by decide +kernel
theorem dX10_alone_82 : decode cX10_alone 82 = .ok (.i2l, 1) := by decide +kernel
theorem dX10_alone_83 : decode cX10_alone 83 = .ok (.lreturn, 1) := by decide +kernel
theorem dX10_image_0 : decode cX10_image 0 = .ok (.aload_n 0, 1) := by decide +kernel
theorem dX10_image_1 : decode cX10_image 1 = .ok (.iconst 1, 1) := by decide +kernel
theorem dX10_image_2 : decode cX10_image 2 = .ok (.putfield 327, 3) := by decide +kernel
theorem dX10_image_5 : decode cX10_image 5 = .ok (.aload_n 0, 1) := by decide +kernel
theorem dX10_image_6 : decode cX10_image 6 = .ok (.aload_n 0, 1) := by decide +kernel
theorem dX10_image_7 : decode cX10_image 7 = .ok (.getfield 109, 3) := by decide +kernel
theorem dX10_image_10 : decode cX10_image 10 = .ok (.putfield 331, 3) := by decide +kernel
theorem dX10_image_13 : decode cX10_image 13 = .ok (.aload_n 0, 1) := by decide +kernel
theorem dX10_image_14 : decode cX10_image 14 = .ok (.getfield 66, 3) := by decide +kernel
theorem dX10_image_17 : decode cX10_image 17 = .ok (.iconst 0, 1) := by decide +kernel
theorem dX10_image_18 : decode cX10_image 18 = .ok (.aload_n 0, 1) := by decide +kernel
theorem dX10_image_19 : decode cX10_image 19 = .ok (.getfield 151, 3) := by decide +kernel
theorem dX10_image_22 : decode cX10_image 22 = .ok (.iastore, 1) := by decide +kernel
theorem dX10_image_23 : decode cX10_image 23 = .ok (.aload_n 0, 1) := by decide +kernel
theorem dX10_image_24 : decode cX10_image 24 = .ok (.getfield 66, 3) := by decide +kernel
theorem dX10_image_27 : decode cX10_image 27 = .ok (.iconst 1, 1) := by decide +kernel
theorem dX10_image_28 : decode cX10_image 28 = .ok (.aload_n 0, 1) := by decide +kernel
theorem dX10_image_29 : decode cX10_image 29 = .ok (.getfield 258, 3) := by decide +kernel
theorem dX10_image_32 : decode cX10_image 32 = .ok (.iastore, 1) := by decide +kernel
theorem dX10_image_33 : decode cX10_image 33 = .ok (.aload_n 0, 1) := by decide +kernel
theorem dX10_image_34 : decode cX10_image 34 = .ok (.getfield 66, 3) := by decide +kernel
theorem dX10_image_37 : decode cX10_image 37 = .ok (.iconst 2, 1) := by decide +kernel
theorem dX10_image_38 : decode cX10_image 38 = .ok (.aload_n 0, 1) := by decide +kernel
theorem dX10_image_39 : decode cX10_image 39 = .ok (.getfield 46, 3) := by decide +kernel
theorem dX10_image_42 : decode cX10_image 42 = .ok (.iastore, 1) := by decide +kernel
theorem dX10_image_43 : decode cX10_image 43 = .ok (.iconst 0, 1) := by decide +kernel
theorem dX10_image_44 : decode cX10_image 44 = .ok (.istore_n 1, 1) := by decide +kernel
theorem dX10_image_110 : decode cX10_image 110 = .ok (.aload_n 0, 1) := by decide +kernel
theorem dX10_image_111 : decode cX10_image 111 = .ok (.getfield 151, 3) := by decide +kernel
theorem dX10_image_114 : decode cX10_image 114 = .ok (.ireturn, 1) := by decide +kernel
theorem dX10_back_0 : decode cX10_back 0 = .ok (.aload_n 0, 1) := by decide +kernel
theorem dX10_back_1 : decode cX10_back 1 = .ok (.getfield 327, 3) := by decide +kernel
theorem dX10_back_4 : decode cX10_back 4 = .ok (.ifCond .ne 6, 3) := by decide +kernel
theorem dX10_back_10 : decode cX10_back 10 = .ok (.aload_n 0, 1) := by decide +kernel
theorem dX10_back_11 : decode cX10_back 11 = .ok (.aload_n 0, 1) := by decide +kernel
theorem dX10_back_12 : decode cX10_back 12 = .ok (.getfield 66, 3) := by decide +kernel
theorem dX10_back_15 : decode cX10_back 15 = .ok (.iconst 0, 1) := by decide +kernel
theorem dX10_back_16 : decode cX10_back 16 = .ok (.iaload, 1) := by decide +kernel
theorem dX10_back_17 : decode cX10_back 17 = .ok (.putfield 151, 3) := by decide +kernel
theorem dX10_back_20 : decode cX10_back 20 = .ok (.aload_n 0, 1) := by decide +kernel
theorem dX10_back_21 : decode cX10_back 21 = .ok (.aload_n 0, 1) := by decide +kernel
theorem dX10_back_22 : decode cX10_back 22 = .ok (.getfield 66, 3) := by decide +kernel
theorem dX10_back_25 : decode cX10_back 25 = .ok (.iconst 1, 1) := by decide +kernel
theorem dX10_back_26 : decode cX10_back 26 = .ok (.iaload, 1) := by decide +kernel
theorem dX10_back_27 : decode cX10_back 27 = .ok (.putfield 258, 3) := by decide +kernel
theorem dX10_back_30 : decode cX10_back 30 = .ok (.aload_n 0, 1) := by decide +kernel
theorem dX10_back_31 : decode cX10_back 31 = .ok (.aload_n 0, 1) := by decide +kernel
theorem dX10_back_32 : decode cX10_back 32 = .ok (.getfield 66, 3) := by decide +kernel
theorem dX10_back_35 : decode cX10_back 35 = .ok (.iconst 2, 1) := by decide +kernel
theorem dX10_back_36 : decode cX10_back 36 = .ok (.iaload, 1) := by decide +kernel
theorem dX10_back_37 : decode cX10_back 37 = .ok (.putfield 46, 3) := by decide +kernel
theorem dX10_back_40 : decode cX10_back 40 = .ok (.iconst 0, 1) := by decide +kernel
theorem dX10_back_41 : decode cX10_back 41 = .ok (.istore_n 1, 1) := by decide +kernel
theorem dX10_back_107 : decode cX10_back 107 = .ok (.aload_n 0, 1) := by decide +kernel
theorem dX10_back_108 : decode cX10_back 108 = .ok (.getfield 151, 3) := by decide +kernel
theorem dX10_back_111 : decode cX10_back 111 = .ok (.ireturn, 1) := by decide +kernel
theorem dX10_back_7 : decode cX10_back 7 = .ok (.bipush (-5), 2) := by decide +kernel
theorem dX10_back_9 : decode cX10_back 9 = .ok (.ireturn, 1) := by decide +kernel
theorem dX10_body_0 : decode cX10_body 0 = .ok (.iload_n 1, 1) := by decide +kernel
theorem dX10_body_1 : decode cX10_body 1 = .ok (.i2l, 1) := by decide +kernel
theorem dX10_body_2 : decode cX10_body 2 = .ok (.lconst 0, 1) := by decide +kernel
theorem dX10_body_3 : decode cX10_body 3 = .ok (.ldc2_w 143, 3) := by decide +kernel
theorem dX10_body_6 : decode cX10_body 6 = .ok (.invokestatic 101, 3) := by decide +kernel
theorem dX10_body_9 : decode cX10_body 9 = .ok (.ifCond .ne 5, 3) := by decide +kernel
theorem dX10_body_14 : decode cX10_body 14 = .ok (.aload_n 0, 1) := by decide +kernel
theorem dX10_body_15 : decode cX10_body 15 = .ok (.getfield 334, 3) := by decide +kernel
theorem dX10_body_18 : decode cX10_body 18 = .ok (.bipush 50, 2) := by decide +kernel
theorem dX10_body_20 : decode cX10_body 20 = .ok (.if_icmp .ne 6, 3) := by decide +kernel
theorem dX10_body_26 : decode cX10_body 26 = .ok (.aload_n 0, 1) := by decide +kernel
theorem dX10_body_27 : decode cX10_body 27 = .ok (.getfield 69, 3) := by decide +kernel
theorem dX10_body_30 : decode cX10_body 30 = .ok (.aload_n 0, 1) := by decide +kernel
theorem dX10_body_31 : decode cX10_body 31 = .ok (.getfield 334, 3) := by decide +kernel
theorem dX10_body_34 : decode cX10_body 34 = .ok (.iload_n 1, 1) := by decide +kernel
theorem dX10_body_35 : decode cX10_body 35 = .ok (.iastore, 1) := by decide +kernel
theorem dX10_body_36 : decode cX10_body 36 = .ok (.aload_n 0, 1) := by decide +kernel
theorem dX10_body_37 : decode cX10_body 37 = .ok (.dup, 1) := by decide +kernel
theorem dX10_body_38 : decode cX10_body 38 = .ok (.getfield 334, 3) := by decide +kernel
theorem dX10_body_41 : decode cX10_body 41 = .ok (.iconst 1, 1) := by decide +kernel
theorem dX10_body_42 : decode cX10_body 42 = .ok (.iadd, 1) := by decide +kernel
theorem dX10_body_43 : decode cX10_body 43 = .ok (.putfield 334, 3) := by decide +kernel
theorem dX10_body_46 : decode cX10_body 46 = .ok (.aload_n 0, 1) := by decide +kernel
theorem dX10_body_47 : decode cX10_body 47 = .ok (.getfield 334, 3) := by decide +kernel
theorem dX10_body_50 : decode cX10_body 50 = .ok (.iconst 1, 1) := by decide +kernel
theorem dX10_body_51 : decode cX10_body 51 = .ok (.isub, 1) := by decide +kernel
theorem dX10_body_52 : decode cX10_body 52 = .ok (.ireturn, 1) := by decide +kernel
theorem dX10_body_23 : decode cX10_body 23 = .ok (.bipush (-3), 2) := by decide +kernel
theorem dX10_body_25 : decode cX10_body 25 = .ok (.ireturn, 1) := by decide +kernel
theorem dX10_body_12 : decode cX10_body 12 = .ok (.iconst (-1), 1) := by decide +kernel
theorem dX10_body_13 : decode cX10_body 13 = .ok (.ireturn, 1) := by decide +kernel
theorem dX10_act_0 : decode cX10_act 0 = .ok (.aload_n 0, 1) := by decide +kernel
theorem dX10_act_1 : decode cX10_act 1 = .ok (.iconst 0, 1) := by decide +kernel
theorem dX10_act_2 : decode cX10_act 2 = .ok (.putfield 337, 3) := by decide +kernel
theorem dX10_act_5 : decode cX10_act 5 = .ok (.aload_n 0, 1) := by decide +kernel
theorem dX10_act_6 : decode cX10_act 6 = .ok (.iload_n 1, 1) := by decide +kernel
theorem dX10_act_7 : decode cX10_act 7 = .ok (.invokevirtual 361, 3) := by decide +kernel
theorem dX10_act_10 : decode cX10_act 10 = .ok (.ifCond .ne 5, 3) := by decide +kernel
theorem dX10_act_15 : decode cX10_act 15 = .ok (.aload_n 0, 1) := by decide +kernel
theorem dX10_act_16 : decode cX10_act 16 = .ok (.aload_n 0, 1) := by decide +kernel
theorem dX10_act_17 : decode cX10_act 17 = .ok (.getfield 69, 3) := by decide +kernel
theorem dX10_act_20 : decode cX10_act 20 = .ok (.iload_n 1, 1) := by decide +kernel
theorem dX10_act_21 : decode cX10_act 21 = .ok (.iaload, 1) := by decide +kernel
theorem dX10_act_22 : decode cX10_act 22 = .ok (.putfield 352, 3) := by decide +kernel
theorem dX10_act_25 : decode cX10_act 25 = .ok (.aload_n 0, 1) := by decide +kernel
theorem dX10_act_26 : decode cX10_act 26 = .ok (.iload_n 1, 1) := by decide +kernel
theorem dX10_act_27 : decode cX10_act 27 = .ok (.putfield 346, 3) := by decide +kernel
theorem dX10_act_30 : decode cX10_act 30 = .ok (.iload_n 2, 1) := by decide +kernel
theorem dX10_act_31 : decode cX10_act 31 = .ok (.tableswitch 69 0 3 #[29, 39, 49, 59], 29) := by decide +kernel
theorem dX10_act_60 : decode cX10_act 60 = .ok (.aload_n 0, 1) := by decide +kernel
theorem dX10_act_61 : decode cX10_act 61 = .ok (.aload_n 0, 1) := by decide +kernel
theorem dX10_act_62 : decode cX10_act 62 = .ok (.getfield 352, 3) := by decide +kernel
theorem dX10_act_65 : decode cX10_act 65 = .ok (.iload_n 3, 1) := by decide +kernel
theorem dX10_act_66 : decode cX10_act 66 = .ok (.invokevirtual 343, 3) := by decide +kernel
theorem dX10_act_69 : decode cX10_act 69 = .ok (.ireturn, 1) := by decide +kernel
theorem dX10_act_70 : decode cX10_act 70 = .ok (.aload_n 0, 1) := by decide +kernel
theorem dX10_act_71 : decode cX10_act 71 = .ok (.aload_n 0, 1) := by decide +kernel
theorem dX10_act_72 : decode cX10_act 72 = .ok (.getfield 352, 3) := by decide +kernel
theorem dX10_act_75 : decode cX10_act 75 = .ok (.iload_n 3, 1) := by decide +kernel
theorem dX10_act_76 : decode cX10_act 76 = .ok (.invokevirtual 349, 3) := by decide +kernel
theorem dX10_act_79 : decode cX10_act 79 = .ok (.ireturn, 1) := by decide +kernel
theorem dX10_act_80 : decode cX10_act 80 = .ok (.aload_n 0, 1) := by decide +kernel
theorem dX10_act_81 : decode cX10_act 81 = .ok (.aload_n 0, 1) := by decide +kernel
theorem dX10_act_82 : decode cX10_act 82 = .ok (.getfield 352, 3) := by decide +kernel
theorem dX10_act_85 : decode cX10_act 85 = .ok (.iload_n 3, 1) := by decide +kernel
theorem dX10_act_86 : decode cX10_act 86 = .ok (.invokevirtual 355, 3) := by decide +kernel
theorem dX10_act_89 : decode cX10_act 89 = .ok (.ireturn, 1) := by decide +kernel
theorem dX10_act_90 : decode cX10_act 90 = .ok (.aload_n 0, 1) := by decide +kernel
theorem dX10_act_91 : decode cX10_act 91 = .ok (.aload_n 0, 1) := by decide +kernel
theorem dX10_act_92 : decode cX10_act 92 = .ok (.getfield 352, 3) := by decide +kernel
theorem dX10_act_95 : decode cX10_act 95 = .ok (.iload_n 3, 1) := by decide +kernel
theorem dX10_act_96 : decode cX10_act 96 = .ok (.invokevirtual 358, 3) := by decide +kernel
theorem dX10_act_99 : decode cX10_act 99 = .ok (.ireturn, 1) := by decide +kernel
theorem dX10_act_100 : decode cX10_act 100 = .ok (.iconst 0, 1) := by decide +kernel
theorem dX10_act_101 : decode cX10_act 101 = .ok (.ireturn, 1) := by decide +kernel
theorem dX10_act_13 : decode cX10_act 13 = .ok (.iconst 0, 1) := by decide +kernel
theorem dX10_act_14 : decode cX10_act 14 = .ok (.ireturn, 1) := by decide +kernel
theorem dX10_trace_0 : decode cX10_trace 0 = .ok (.iload_n 1, 1) := by decide +kernel
theorem dX10_trace_1 : decode cX10_trace 1 = .ok (.ifCond .lt 26, 3) := by decide +kernel
theorem dX10_trace_27 : decode cX10_trace 27 = .ok (.iconst (-1), 1) := by decide +kernel
theorem dX10_trace_28 : decode cX10_trace 28 = .ok (.ireturn, 1) := by decide +kernel
theorem dX10_trace_4 : decode cX10_trace 4 = .ok (.iload_n 1, 1) := by decide +kernel
theorem dX10_trace_5 : decode cX10_trace 5 = .ok (.aload_n 0, 1) := by decide +kernel
theorem dX10_trace_6 : decode cX10_trace 6 = .ok (.getfield 337, 3) := by decide +kernel
theorem dX10_trace_9 : decode cX10_trace 9 = .ok (.if_icmp .ge 18, 3) := by decide +kernel
theorem dX10_trace_12 : decode cX10_trace 12 = .ok (.iload_n 1, 1) := by decide +kernel
theorem dX10_trace_13 : decode cX10_trace 13 = .ok (.bipush 24, 2) := by decide +kernel
theorem dX10_trace_15 : decode cX10_trace 15 = .ok (.if_icmp .ge 12, 3) := by decide +kernel
theorem dX10_trace_18 : decode cX10_trace 18 = .ok (.aload_n 0, 1) := by decide +kernel
theorem dX10_trace_19 : decode cX10_trace 19 = .ok (.getfield 72, 3) := by decide +kernel
theorem dX10_trace_22 : decode cX10_trace 22 = .ok (.iload_n 1, 1) := by decide +kernel
theorem dX10_trace_23 : decode cX10_trace 23 = .ok (.iaload, 1) := by decide +kernel
theorem dX10_trace_24 : decode cX10_trace 24 = .ok (.goto 4, 3) := by decide +kernel
theorem dX10_keep_0 : decode cX10_keep 0 = .ok (.iload_n 1, 1) := by decide +kernel
theorem dX10_keep_1 : decode cX10_keep 1 = .ok (.invokestatic 125, 3) := by decide +kernel
theorem dX10_keep_4 : decode cX10_keep 4 = .ok (.ifCond .eq 16, 3) := by decide +kernel
theorem dX10_keep_20 : decode cX10_keep 20 = .ok (.iconst (-1), 1) := by decide +kernel
theorem dX10_keep_21 : decode cX10_keep 21 = .ok (.ireturn, 1) := by decide +kernel
theorem dX10_keep_7 : decode cX10_keep 7 = .ok (.iload_n 2, 1) := by decide +kernel
theorem dX10_keep_8 : decode cX10_keep 8 = .ok (.iconst (-1), 1) := by decide +kernel
theorem dX10_keep_9 : decode cX10_keep 9 = .ok (.if_icmp .eq 13, 3) := by decide +kernel
theorem dX10_keep_22 : decode cX10_keep 22 = .ok (.aload_n 0, 1) := by decide +kernel
theorem dX10_keep_23 : decode cX10_keep 23 = .ok (.getfield 75, 3) := by decide +kernel
theorem dX10_keep_26 : decode cX10_keep 26 = .ok (.iload_n 1, 1) := by decide +kernel
theorem dX10_keep_27 : decode cX10_keep 27 = .ok (.iload_n 2, 1) := by decide +kernel
theorem dX10_keep_28 : decode cX10_keep 28 = .ok (.iastore, 1) := by decide +kernel
theorem dX10_keep_29 : decode cX10_keep 29 = .ok (.aload_n 0, 1) := by decide +kernel
theorem dX10_keep_30 : decode cX10_keep 30 = .ok (.getfield 78, 3) := by decide +kernel
theorem dX10_keep_33 : decode cX10_keep 33 = .ok (.iload_n 1, 1) := by decide +kernel
theorem dX10_keep_34 : decode cX10_keep 34 = .ok (.iconst 0, 1) := by decide +kernel
theorem dX10_keep_35 : decode cX10_keep 35 = .ok (.iastore, 1) := by decide +kernel
theorem dX10_keep_36 : decode cX10_keep 36 = .ok (.iconst 1, 1) := by decide +kernel
theorem dX10_keep_37 : decode cX10_keep 37 = .ok (.ireturn, 1) := by decide +kernel
theorem dX10_keep_12 : decode cX10_keep 12 = .ok (.aload_n 0, 1) := by decide +kernel
theorem dX10_keep_13 : decode cX10_keep 13 = .ok (.iload_n 2, 1) := by decide +kernel
theorem dX10_keep_14 : decode cX10_keep 14 = .ok (.invokevirtual 361, 3) := by decide +kernel
theorem dX10_keep_17 : decode cX10_keep 17 = .ok (.ifCond .ne 5, 3) := by decide +kernel
theorem dX10_row_0 : decode cX10_row 0 = .ok (.iload_n 1, 1) := by decide +kernel
theorem dX10_row_1 : decode cX10_row 1 = .ok (.invokestatic 125, 3) := by decide +kernel
theorem dX10_row_4 : decode cX10_row 4 = .ok (.ifCond .eq 21, 3) := by decide +kernel
theorem dX10_row_25 : decode cX10_row 25 = .ok (.iconst (-1), 1) := by decide +kernel
theorem dX10_row_26 : decode cX10_row 26 = .ok (.ireturn, 1) := by decide +kernel
theorem dX10_row_7 : decode cX10_row 7 = .ok (.iload_n 2, 1) := by decide +kernel
theorem dX10_row_8 : decode cX10_row 8 = .ok (.i2l, 1) := by decide +kernel
theorem dX10_row_9 : decode cX10_row 9 = .ok (.lconst 0, 1) := by decide +kernel
theorem dX10_row_10 : decode cX10_row 10 = .ok (.ldc2_w 116, 3) := by decide +kernel
theorem dX10_row_13 : decode cX10_row 13 = .ok (.invokestatic 101, 3) := by decide +kernel
theorem dX10_row_16 : decode cX10_row 16 = .ok (.ifCond .eq 9, 3) := by decide +kernel
theorem dX10_row_19 : decode cX10_row 19 = .ok (.iload_n 3, 1) := by decide +kernel
theorem dX10_row_20 : decode cX10_row 20 = .ok (.bipush 60, 2) := by decide +kernel
theorem dX10_row_22 : decode cX10_row 22 = .ok (.if_icmp .le 5, 3) := by decide +kernel
theorem dX10_row_27 : decode cX10_row 27 = .ok (.iload_n 3, 1) := by decide +kernel
theorem dX10_row_28 : decode cX10_row 28 = .ok (.ifCond .ge 6, 3) := by decide +kernel
theorem dX10_row_34 : decode cX10_row 34 = .ok (.aload_n 0, 1) := by decide +kernel
theorem dX10_row_35 : decode cX10_row 35 = .ok (.getfield 75, 3) := by decide +kernel
theorem dX10_row_38 : decode cX10_row 38 = .ok (.iload_n 1, 1) := by decide +kernel
theorem dX10_row_39 : decode cX10_row 39 = .ok (.bipush 50, 2) := by decide +kernel
theorem dX10_row_41 : decode cX10_row 41 = .ok (.iload_n 2, 1) := by decide +kernel
theorem dX10_row_42 : decode cX10_row 42 = .ok (.iadd, 1) := by decide +kernel
theorem dX10_row_43 : decode cX10_row 43 = .ok (.iastore, 1) := by decide +kernel
theorem dX10_row_44 : decode cX10_row 44 = .ok (.aload_n 0, 1) := by decide +kernel
theorem dX10_row_45 : decode cX10_row 45 = .ok (.getfield 78, 3) := by decide +kernel
theorem dX10_row_48 : decode cX10_row 48 = .ok (.iload_n 1, 1) := by decide +kernel
theorem dX10_row_49 : decode cX10_row 49 = .ok (.iload_n 3, 1) := by decide +kernel
theorem dX10_row_50 : decode cX10_row 50 = .ok (.iastore, 1) := by decide +kernel
theorem dX10_row_51 : decode cX10_row 51 = .ok (.bipush 60, 2) := by decide +kernel
theorem dX10_row_53 : decode cX10_row 53 = .ok (.iload_n 1, 1) := by decide +kernel
theorem dX10_row_54 : decode cX10_row 54 = .ok (.imul, 1) := by decide +kernel
theorem dX10_row_55 : decode cX10_row 55 = .ok (.istore 4, 2) := by decide +kernel
theorem dX10_row_83 : decode cX10_row 83 = .ok (.iconst 1, 1) := by decide +kernel
theorem dX10_row_84 : decode cX10_row 84 = .ok (.ireturn, 1) := by decide +kernel
theorem dX10_row_31 : decode cX10_row 31 = .ok (.bipush (-14), 2) := by decide +kernel
theorem dX10_row_33 : decode cX10_row 33 = .ok (.ireturn, 1) := by decide +kernel
theorem dX10_put_0 : decode cX10_put 0 = .ok (.aload_n 0, 1) := by decide +kernel
theorem dX10_put_1 : decode cX10_put 1 = .ok (.iload_n 1, 1) := by decide +kernel
theorem dX10_put_2 : decode cX10_put 2 = .ok (.iload_n 2, 1) := by decide +kernel
theorem dX10_put_3 : decode cX10_put 3 = .ok (.invokevirtual 364, 3) := by decide +kernel
theorem dX10_put_6 : decode cX10_put 6 = .ok (.istore 5, 2) := by decide +kernel
theorem dX10_put_8 : decode cX10_put 8 = .ok (.iload 5, 2) := by decide +kernel
theorem dX10_put_10 : decode cX10_put 10 = .ok (.ifCond .ne 27, 3) := by decide +kernel
theorem dX10_put_37 : decode cX10_put 37 = .ok (.iload 5, 2) := by decide +kernel
theorem dX10_put_39 : decode cX10_put 39 = .ok (.ifCond .ne 7, 3) := by decide +kernel
theorem dX10_put_46 : decode cX10_put 46 = .ok (.iload 5, 2) := by decide +kernel
theorem dX10_put_48 : decode cX10_put 48 = .ok (.ireturn, 1) := by decide +kernel
theorem dX10_put_13 : decode cX10_put 13 = .ok (.aload_n 0, 1) := by decide +kernel
theorem dX10_put_14 : decode cX10_put 14 = .ok (.getfield 81, 3) := by decide +kernel
theorem dX10_put_17 : decode cX10_put 17 = .ok (.bipush 60, 2) := by decide +kernel
theorem dX10_put_19 : decode cX10_put 19 = .ok (.iload_n 1, 1) := by decide +kernel
theorem dX10_put_20 : decode cX10_put 20 = .ok (.imul, 1) := by decide +kernel
theorem dX10_put_21 : decode cX10_put 21 = .ok (.iload_n 2, 1) := by decide +kernel
theorem dX10_put_22 : decode cX10_put 22 = .ok (.iadd, 1) := by decide +kernel
theorem dX10_put_23 : decode cX10_put 23 = .ok (.aload_n 0, 1) := by decide +kernel
theorem dX10_put_24 : decode cX10_put 24 = .ok (.getfield 75, 3) := by decide +kernel
theorem dX10_put_27 : decode cX10_put 27 = .ok (.iload_n 1, 1) := by decide +kernel
theorem dX10_put_28 : decode cX10_put 28 = .ok (.iaload, 1) := by decide +kernel
theorem dX10_put_29 : decode cX10_put 29 = .ok (.bipush 50, 2) := by decide +kernel
theorem dX10_put_31 : decode cX10_put 31 = .ok (.isub, 1) := by decide +kernel
theorem dX10_put_32 : decode cX10_put 32 = .ok (.lload_n 3, 1) := by decide +kernel
theorem dX10_put_33 : decode cX10_put 33 = .ok (.invokestatic 367, 3) := by decide +kernel
theorem dX10_put_36 : decode cX10_put 36 = .ok (.lastore, 1) := by decide +kernel
theorem dX10_put_42 : decode cX10_put 42 = .ok (.iconst 1, 1) := by decide +kernel
theorem dX10_put_43 : decode cX10_put 43 = .ok (.goto 5, 3) := by decide +kernel
theorem dX10_element_0 : decode cX10_element 0 = .ok (.aload_n 0, 1) := by decide +kernel
theorem dX10_element_1 : decode cX10_element 1 = .ok (.iload_n 1, 1) := by decide +kernel
theorem dX10_element_2 : decode cX10_element 2 = .ok (.iload_n 2, 1) := by decide +kernel
theorem dX10_element_3 : decode cX10_element 3 = .ok (.invokevirtual 364, 3) := by decide +kernel
theorem dX10_element_6 : decode cX10_element 6 = .ok (.ifCond .eq 9, 3) := by decide +kernel
theorem dX10_element_15 : decode cX10_element 15 = .ok (.aload_n 0, 1) := by decide +kernel
theorem dX10_element_16 : decode cX10_element 16 = .ok (.getfield 81, 3) := by decide +kernel
theorem dX10_element_19 : decode cX10_element 19 = .ok (.bipush 60, 2) := by decide +kernel
theorem dX10_element_21 : decode cX10_element 21 = .ok (.iload_n 1, 1) := by decide +kernel
theorem dX10_element_22 : decode cX10_element 22 = .ok (.imul, 1) := by decide +kernel
theorem dX10_element_23 : decode cX10_element 23 = .ok (.iload_n 2, 1) := by decide +kernel
theorem dX10_element_24 : decode cX10_element 24 = .ok (.iadd, 1) := by decide +kernel
theorem dX10_element_25 : decode cX10_element 25 = .ok (.laload, 1) := by decide +kernel
theorem dX10_element_26 : decode cX10_element 26 = .ok (.lreturn, 1) := by decide +kernel
theorem dX10_element_9 : decode cX10_element 9 = .ok (.ldc2_w 320, 3) := by decide +kernel
theorem dX10_element_12 : decode cX10_element 12 = .ok (.goto 14, 3) := by decide +kernel
theorem dX10_shift_0 : decode cX10_shift 0 = .ok (.iload_n 1, 1) := by decide +kernel
theorem dX10_shift_1 : decode cX10_shift 1 = .ok (.invokestatic 125, 3) := by decide +kernel
theorem dX10_shift_4 : decode cX10_shift 4 = .ok (.ifCond .eq 10, 3) := by decide +kernel
theorem dX10_shift_14 : decode cX10_shift 14 = .ok (.iconst (-1), 1) := by decide +kernel
theorem dX10_shift_15 : decode cX10_shift 15 = .ok (.ireturn, 1) := by decide +kernel
theorem dX10_shift_7 : decode cX10_shift 7 = .ok (.iload_n 3, 1) := by decide +kernel
theorem dX10_shift_8 : decode cX10_shift 8 = .ok (.invokestatic 125, 3) := by decide +kernel
theorem dX10_shift_11 : decode cX10_shift 11 = .ok (.ifCond .ne 5, 3) := by decide +kernel
theorem dX10_shift_16 : decode cX10_shift 16 = .ok (.aload_n 0, 1) := by decide +kernel
theorem dX10_shift_17 : decode cX10_shift 17 = .ok (.getfield 75, 3) := by decide +kernel
theorem dX10_shift_20 : decode cX10_shift 20 = .ok (.iload_n 1, 1) := by decide +kernel
theorem dX10_shift_21 : decode cX10_shift 21 = .ok (.iaload, 1) := by decide +kernel
theorem dX10_shift_22 : decode cX10_shift 22 = .ok (.ifCond .lt 12, 3) := by decide +kernel
theorem dX10_shift_34 : decode cX10_shift 34 = .ok (.bipush (-11), 2) := by decide +kernel
theorem dX10_shift_36 : decode cX10_shift 36 = .ok (.ireturn, 1) := by decide +kernel
theorem dX10_shift_25 : decode cX10_shift 25 = .ok (.aload_n 0, 1) := by decide +kernel
theorem dX10_shift_26 : decode cX10_shift 26 = .ok (.getfield 75, 3) := by decide +kernel
theorem dX10_shift_29 : decode cX10_shift 29 = .ok (.iload_n 3, 1) := by decide +kernel
theorem dX10_shift_30 : decode cX10_shift 30 = .ok (.iaload, 1) := by decide +kernel
theorem dX10_shift_31 : decode cX10_shift 31 = .ok (.ifCond .ge 6, 3) := by decide +kernel
theorem dX10_shift_37 : decode cX10_shift 37 = .ok (.aload_n 0, 1) := by decide +kernel
theorem dX10_shift_38 : decode cX10_shift 38 = .ok (.getfield 75, 3) := by decide +kernel
theorem dX10_shift_41 : decode cX10_shift 41 = .ok (.iload_n 1, 1) := by decide +kernel
theorem dX10_shift_42 : decode cX10_shift 42 = .ok (.iaload, 1) := by decide +kernel
theorem dX10_shift_43 : decode cX10_shift 43 = .ok (.bipush 50, 2) := by decide +kernel
theorem dX10_shift_45 : decode cX10_shift 45 = .ok (.if_icmp .lt 18, 3) := by decide +kernel
theorem dX10_shift_63 : decode cX10_shift 63 = .ok (.bipush (-12), 2) := by decide +kernel
theorem dX10_shift_65 : decode cX10_shift 65 = .ok (.ireturn, 1) := by decide +kernel
theorem dX10_shift_48 : decode cX10_shift 48 = .ok (.aload_n 0, 1) := by decide +kernel
theorem dX10_shift_49 : decode cX10_shift 49 = .ok (.getfield 75, 3) := by decide +kernel
theorem dX10_shift_52 : decode cX10_shift 52 = .ok (.iload_n 1, 1) := by decide +kernel
theorem dX10_shift_53 : decode cX10_shift 53 = .ok (.iaload, 1) := by decide +kernel
theorem dX10_shift_54 : decode cX10_shift 54 = .ok (.aload_n 0, 1) := by decide +kernel
theorem dX10_shift_55 : decode cX10_shift 55 = .ok (.getfield 75, 3) := by decide +kernel
theorem dX10_shift_58 : decode cX10_shift 58 = .ok (.iload_n 3, 1) := by decide +kernel
theorem dX10_shift_59 : decode cX10_shift 59 = .ok (.iaload, 1) := by decide +kernel
theorem dX10_shift_60 : decode cX10_shift 60 = .ok (.if_icmp .eq 6, 3) := by decide +kernel
theorem dX10_shift_66 : decode cX10_shift 66 = .ok (.iload 5, 2) := by decide +kernel
theorem dX10_shift_68 : decode cX10_shift 68 = .ok (.ifCond .lt 39, 3) := by decide +kernel
theorem dX10_shift_107 : decode cX10_shift 107 = .ok (.bipush (-13), 2) := by decide +kernel
theorem dX10_shift_109 : decode cX10_shift 109 = .ok (.ireturn, 1) := by decide +kernel
theorem dX10_shift_71 : decode cX10_shift 71 = .ok (.iload_n 2, 1) := by decide +kernel
theorem dX10_shift_72 : decode cX10_shift 72 = .ok (.ifCond .lt 35, 3) := by decide +kernel
theorem dX10_shift_75 : decode cX10_shift 75 = .ok (.iload 4, 2) := by decide +kernel
theorem dX10_shift_77 : decode cX10_shift 77 = .ok (.ifCond .lt 30, 3) := by decide +kernel
theorem dX10_shift_80 : decode cX10_shift 80 = .ok (.iload_n 2, 1) := by decide +kernel
theorem dX10_shift_81 : decode cX10_shift 81 = .ok (.aload_n 0, 1) := by decide +kernel
theorem dX10_shift_82 : decode cX10_shift 82 = .ok (.getfield 78, 3) := by decide +kernel
theorem dX10_shift_85 : decode cX10_shift 85 = .ok (.iload_n 1, 1) := by decide +kernel
theorem dX10_shift_86 : decode cX10_shift 86 = .ok (.iaload, 1) := by decide +kernel
theorem dX10_shift_87 : decode cX10_shift 87 = .ok (.iload 5, 2) := by decide +kernel
theorem dX10_shift_89 : decode cX10_shift 89 = .ok (.isub, 1) := by decide +kernel
theorem dX10_shift_90 : decode cX10_shift 90 = .ok (.if_icmp .gt 17, 3) := by decide +kernel
theorem dX10_shift_93 : decode cX10_shift 93 = .ok (.iload 4, 2) := by decide +kernel
theorem dX10_shift_95 : decode cX10_shift 95 = .ok (.aload_n 0, 1) := by decide +kernel
theorem dX10_shift_96 : decode cX10_shift 96 = .ok (.getfield 78, 3) := by decide +kernel
theorem dX10_shift_99 : decode cX10_shift 99 = .ok (.iload_n 3, 1) := by decide +kernel
theorem dX10_shift_100 : decode cX10_shift 100 = .ok (.iaload, 1) := by decide +kernel
theorem dX10_shift_101 : decode cX10_shift 101 = .ok (.iload 5, 2) := by decide +kernel
theorem dX10_shift_103 : decode cX10_shift 103 = .ok (.isub, 1) := by decide +kernel
theorem dX10_shift_104 : decode cX10_shift 104 = .ok (.if_icmp .le 6, 3) := by decide +kernel
theorem dX10_shift_110 : decode cX10_shift 110 = .ok (.iconst 0, 1) := by decide +kernel
theorem dX10_shift_111 : decode cX10_shift 111 = .ok (.istore 6, 2) := by decide +kernel
theorem dX10_shift_147 : decode cX10_shift 147 = .ok (.iconst 0, 1) := by decide +kernel
theorem dX10_shift_148 : decode cX10_shift 148 = .ok (.istore 6, 2) := by decide +kernel
theorem dX10_shift_185 : decode cX10_shift 185 = .ok (.iload 5, 2) := by decide +kernel
theorem dX10_shift_187 : decode cX10_shift 187 = .ok (.ireturn, 1) := by decide +kernel
theorem dX10_taken_0 : decode cX10_taken 0 = .ok (.iload_n 1, 1) := by decide +kernel
theorem dX10_taken_1 : decode cX10_taken 1 = .ok (.invokestatic 125, 3) := by decide +kernel
theorem dX10_taken_4 : decode cX10_taken 4 = .ok (.ifCond .eq 15, 3) := by decide +kernel
theorem dX10_taken_19 : decode cX10_taken 19 = .ok (.iconst (-1), 1) := by decide +kernel
theorem dX10_taken_20 : decode cX10_taken 20 = .ok (.ireturn, 1) := by decide +kernel
theorem dX10_taken_7 : decode cX10_taken 7 = .ok (.iload_n 2, 1) := by decide +kernel
theorem dX10_taken_8 : decode cX10_taken 8 = .ok (.i2l, 1) := by decide +kernel
theorem dX10_taken_9 : decode cX10_taken 9 = .ok (.lconst 0, 1) := by decide +kernel
theorem dX10_taken_10 : decode cX10_taken 10 = .ok (.ldc2_w 143, 3) := by decide +kernel
theorem dX10_taken_13 : decode cX10_taken 13 = .ok (.invokestatic 101, 3) := by decide +kernel
theorem dX10_taken_16 : decode cX10_taken 16 = .ok (.ifCond .ne 5, 3) := by decide +kernel
theorem dX10_taken_21 : decode cX10_taken 21 = .ok (.aload_n 0, 1) := by decide +kernel
theorem dX10_taken_22 : decode cX10_taken 22 = .ok (.getfield 75, 3) := by decide +kernel
theorem dX10_taken_25 : decode cX10_taken 25 = .ok (.iload_n 1, 1) := by decide +kernel
theorem dX10_taken_26 : decode cX10_taken 26 = .ok (.iaload, 1) := by decide +kernel
theorem dX10_taken_27 : decode cX10_taken 27 = .ok (.ifCond .ge 6, 3) := by decide +kernel
theorem dX10_taken_33 : decode cX10_taken 33 = .ok (.aload_n 0, 1) := by decide +kernel
theorem dX10_taken_34 : decode cX10_taken 34 = .ok (.getfield 75, 3) := by decide +kernel
theorem dX10_taken_37 : decode cX10_taken 37 = .ok (.iload_n 1, 1) := by decide +kernel
theorem dX10_taken_38 : decode cX10_taken 38 = .ok (.iaload, 1) := by decide +kernel
theorem dX10_taken_39 : decode cX10_taken 39 = .ok (.bipush 50, 2) := by decide +kernel
theorem dX10_taken_41 : decode cX10_taken 41 = .ok (.if_icmp .lt 6, 3) := by decide +kernel
theorem dX10_taken_47 : decode cX10_taken 47 = .ok (.aload_n 0, 1) := by decide +kernel
theorem dX10_taken_48 : decode cX10_taken 48 = .ok (.aload_n 0, 1) := by decide +kernel
theorem dX10_taken_49 : decode cX10_taken 49 = .ok (.getfield 75, 3) := by decide +kernel
theorem dX10_taken_52 : decode cX10_taken 52 = .ok (.iload_n 1, 1) := by decide +kernel
theorem dX10_taken_53 : decode cX10_taken 53 = .ok (.iaload, 1) := by decide +kernel
theorem dX10_taken_54 : decode cX10_taken 54 = .ok (.invokevirtual 371, 3) := by decide +kernel
theorem dX10_taken_57 : decode cX10_taken 57 = .ok (.istore_n 3, 1) := by decide +kernel
theorem dX10_taken_58 : decode cX10_taken 58 = .ok (.iload_n 3, 1) := by decide +kernel
theorem dX10_taken_59 : decode cX10_taken 59 = .ok (.iload_n 2, 1) := by decide +kernel
theorem dX10_taken_60 : decode cX10_taken 60 = .ok (.if_icmp .eq 15, 3) := by decide +kernel
theorem dX10_taken_75 : decode cX10_taken 75 = .ok (.iload_n 3, 1) := by decide +kernel
theorem dX10_taken_76 : decode cX10_taken 76 = .ok (.iload_n 2, 1) := by decide +kernel
theorem dX10_taken_77 : decode cX10_taken 77 = .ok (.if_icmp .ne 16, 3) := by decide +kernel
theorem dX10_taken_93 : decode cX10_taken 93 = .ok (.bipush (-12), 2) := by decide +kernel
theorem dX10_taken_95 : decode cX10_taken 95 = .ok (.ireturn, 1) := by decide +kernel
theorem dX10_taken_80 : decode cX10_taken 80 = .ok (.aload_n 0, 1) := by decide +kernel
theorem dX10_taken_81 : decode cX10_taken 81 = .ok (.aload_n 0, 1) := by decide +kernel
theorem dX10_taken_82 : decode cX10_taken 82 = .ok (.getfield 75, 3) := by decide +kernel
theorem dX10_taken_85 : decode cX10_taken 85 = .ok (.iload_n 1, 1) := by decide +kernel
theorem dX10_taken_86 : decode cX10_taken 86 = .ok (.iaload, 1) := by decide +kernel
theorem dX10_taken_87 : decode cX10_taken 87 = .ok (.invokevirtual 371, 3) := by decide +kernel
theorem dX10_taken_90 : decode cX10_taken 90 = .ok (.goto 5, 3) := by decide +kernel
theorem dX10_taken_63 : decode cX10_taken 63 = .ok (.iload_n 3, 1) := by decide +kernel
theorem dX10_taken_64 : decode cX10_taken 64 = .ok (.ifCond .le 11, 3) := by decide +kernel
theorem dX10_taken_67 : decode cX10_taken 67 = .ok (.iload_n 3, 1) := by decide +kernel
theorem dX10_taken_68 : decode cX10_taken 68 = .ok (.invokestatic 374, 3) := by decide +kernel
theorem dX10_taken_71 : decode cX10_taken 71 = .ok (.istore_n 3, 1) := by decide +kernel
theorem dX10_taken_72 : decode cX10_taken 72 = .ok (.goto (-14), 3) := by decide +kernel
theorem dX10_taken_44 : decode cX10_taken 44 = .ok (.bipush (-12), 2) := by decide +kernel
theorem dX10_taken_46 : decode cX10_taken 46 = .ok (.ireturn, 1) := by decide +kernel
theorem dX10_taken_30 : decode cX10_taken 30 = .ok (.bipush (-11), 2) := by decide +kernel
theorem dX10_taken_32 : decode cX10_taken 32 = .ok (.ireturn, 1) := by decide +kernel
theorem dX10_count_0 : decode cX10_count 0 = .ok (.iload_n 1, 1) := by decide +kernel
theorem dX10_count_1 : decode cX10_count 1 = .ok (.tableswitch 72 0 5 #[39, 44, 52, 57, 62, 67], 39) := by decide +kernel
theorem dX10_count_40 : decode cX10_count 40 = .ok (.aload_n 0, 1) := by decide +kernel
theorem dX10_count_41 : decode cX10_count 41 = .ok (.getfield 109, 3) := by decide +kernel
theorem dX10_count_44 : decode cX10_count 44 = .ok (.ireturn, 1) := by decide +kernel
theorem dX10_count_45 : decode cX10_count 45 = .ok (.aload_n 0, 1) := by decide +kernel
theorem dX10_count_46 : decode cX10_count 46 = .ok (.invokevirtual 246, 3) := by decide +kernel
theorem dX10_count_49 : decode cX10_count 49 = .ok (.invokestatic 261, 3) := by decide +kernel
theorem dX10_count_52 : decode cX10_count 52 = .ok (.ireturn, 1) := by decide +kernel
theorem dX10_count_53 : decode cX10_count 53 = .ok (.aload_n 0, 1) := by decide +kernel
theorem dX10_count_54 : decode cX10_count 54 = .ok (.getfield 162, 3) := by decide +kernel
theorem dX10_count_57 : decode cX10_count 57 = .ok (.ireturn, 1) := by decide +kernel
theorem dX10_count_58 : decode cX10_count 58 = .ok (.aload_n 0, 1) := by decide +kernel
theorem dX10_count_59 : decode cX10_count 59 = .ok (.getfield 91, 3) := by decide +kernel
theorem dX10_count_62 : decode cX10_count 62 = .ok (.ireturn, 1) := by decide +kernel
theorem dX10_count_63 : decode cX10_count 63 = .ok (.aload_n 0, 1) := by decide +kernel
theorem dX10_count_64 : decode cX10_count 64 = .ok (.getfield 334, 3) := by decide +kernel
theorem dX10_count_67 : decode cX10_count 67 = .ok (.ireturn, 1) := by decide +kernel
theorem dX10_count_68 : decode cX10_count 68 = .ok (.aload_n 0, 1) := by decide +kernel
theorem dX10_count_69 : decode cX10_count 69 = .ok (.getfield 337, 3) := by decide +kernel
theorem dX10_count_72 : decode cX10_count 72 = .ok (.ireturn, 1) := by decide +kernel
theorem dX10_count_73 : decode cX10_count 73 = .ok (.iconst (-1), 1) := by decide +kernel
theorem dX10_count_74 : decode cX10_count 74 = .ok (.ireturn, 1) := by decide +kernel
theorem dX10_music_0 : decode cX10_music 0 = .ok (.aload_n 0, 1) := by decide +kernel
theorem dX10_music_1 : decode cX10_music 1 = .ok (.iload_n 1, 1) := by decide +kernel
theorem dX10_music_2 : decode cX10_music 2 = .ok (.invokevirtual 285, 3) := by decide +kernel
theorem dX10_music_5 : decode cX10_music 5 = .ok (.ifCond .ge 9, 3) := by decide +kernel
theorem dX10_music_14 : decode cX10_music 14 = .ok (.aload_n 0, 1) := by decide +kernel
theorem dX10_music_15 : decode cX10_music 15 = .ok (.invokevirtual 246, 3) := by decide +kernel
theorem dX10_music_18 : decode cX10_music 18 = .ok (.istore_n 2, 1) := by decide +kernel
theorem dX10_music_19 : decode cX10_music 19 = .ok (.aload_n 0, 1) := by decide +kernel
theorem dX10_music_20 : decode cX10_music 20 = .ok (.iload_n 2, 1) := by decide +kernel
theorem dX10_music_21 : decode cX10_music 21 = .ok (.invokevirtual 249, 3) := by decide +kernel
theorem dX10_music_24 : decode cX10_music 24 = .ok (.iconst 0, 1) := by decide +kernel
theorem dX10_music_25 : decode cX10_music 25 = .ok (.istore_n 3, 1) := by decide +kernel
theorem dX10_music_26 : decode cX10_music 26 = .ok (.aload_n 0, 1) := by decide +kernel
theorem dX10_music_27 : decode cX10_music 27 = .ok (.getfield 78, 3) := by decide +kernel
theorem dX10_music_30 : decode cX10_music 30 = .ok (.iload_n 1, 1) := by decide +kernel
theorem dX10_music_31 : decode cX10_music 31 = .ok (.iaload, 1) := by decide +kernel
theorem dX10_music_32 : decode cX10_music 32 = .ok (.ifCond .le 29, 3) := by decide +kernel
theorem dX10_music_61 : decode cX10_music 61 = .ok (.ldc2_w 288, 3) := by decide +kernel
theorem dX10_music_64 : decode cX10_music 64 = .ok (.lstore 4, 2) := by decide +kernel
theorem dX10_music_66 : decode cX10_music 66 = .ok (.iconst 0, 1) := by decide +kernel
theorem dX10_music_67 : decode cX10_music 67 = .ok (.istore 6, 2) := by decide +kernel
theorem dX10_music_35 : decode cX10_music 35 = .ok (.aload_n 0, 1) := by decide +kernel
theorem dX10_music_36 : decode cX10_music 36 = .ok (.getfield 81, 3) := by decide +kernel
theorem dX10_music_39 : decode cX10_music 39 = .ok (.bipush 60, 2) := by decide +kernel
theorem dX10_music_41 : decode cX10_music 41 = .ok (.iload_n 1, 1) := by decide +kernel
theorem dX10_music_42 : decode cX10_music 42 = .ok (.imul, 1) := by decide +kernel
theorem dX10_music_43 : decode cX10_music 43 = .ok (.laload, 1) := by decide +kernel
theorem dX10_music_44 : decode cX10_music 44 = .ok (.lconst 1, 1) := by decide +kernel
theorem dX10_music_45 : decode cX10_music 45 = .ok (.lcmp, 1) := by decide +kernel
theorem dX10_music_46 : decode cX10_music 46 = .ok (.ifCond .lt 15, 3) := by decide +kernel
theorem dX10_music_49 : decode cX10_music 49 = .ok (.aload_n 0, 1) := by decide +kernel
theorem dX10_music_50 : decode cX10_music 50 = .ok (.getfield 81, 3) := by decide +kernel
theorem dX10_music_53 : decode cX10_music 53 = .ok (.bipush 60, 2) := by decide +kernel
theorem dX10_music_55 : decode cX10_music 55 = .ok (.iload_n 1, 1) := by decide +kernel
theorem dX10_music_56 : decode cX10_music 56 = .ok (.imul, 1) := by decide +kernel
theorem dX10_music_57 : decode cX10_music 57 = .ok (.laload, 1) := by decide +kernel
theorem dX10_music_58 : decode cX10_music 58 = .ok (.goto 6, 3) := by decide +kernel
theorem dX10_music_8 : decode cX10_music 8 = .ok (.aload_n 0, 1) := by decide +kernel
theorem dX10_music_9 : decode cX10_music 9 = .ok (.iload_n 1, 1) := by decide +kernel
theorem dX10_music_10 : decode cX10_music 10 = .ok (.invokevirtual 285, 3) := by decide +kernel
theorem dX10_music_13 : decode cX10_music 13 = .ok (.ireturn, 1) := by decide +kernel
theorem dX10_hoops_0 : decode cX10_hoops 0 = .ok (.iload_n 1, 1) := by decide +kernel
theorem dX10_hoops_1 : decode cX10_hoops 1 = .ok (.invokestatic 125, 3) := by decide +kernel
theorem dX10_hoops_4 : decode cX10_hoops 4 = .ok (.ifCond .eq 15, 3) := by decide +kernel
theorem dX10_hoops_19 : decode cX10_hoops 19 = .ok (.iconst (-1), 1) := by decide +kernel
theorem dX10_hoops_20 : decode cX10_hoops 20 = .ok (.ireturn, 1) := by decide +kernel
theorem dX10_hoops_7 : decode cX10_hoops 7 = .ok (.iload_n 3, 1) := by decide +kernel
theorem dX10_hoops_8 : decode cX10_hoops 8 = .ok (.i2l, 1) := by decide +kernel
theorem dX10_hoops_9 : decode cX10_hoops 9 = .ok (.lconst 1, 1) := by decide +kernel
theorem dX10_hoops_10 : decode cX10_hoops 10 = .ok (.ldc2_w 129, 3) := by decide +kernel
theorem dX10_hoops_13 : decode cX10_hoops 13 = .ok (.invokestatic 101, 3) := by decide +kernel
theorem dX10_hoops_16 : decode cX10_hoops 16 = .ok (.ifCond .ne 5, 3) := by decide +kernel
theorem dX10_hoops_21 : decode cX10_hoops 21 = .ok (.aload_n 0, 1) := by decide +kernel
theorem dX10_hoops_22 : decode cX10_hoops 22 = .ok (.getfield 75, 3) := by decide +kernel
theorem dX10_hoops_25 : decode cX10_hoops 25 = .ok (.iload_n 1, 1) := by decide +kernel
theorem dX10_hoops_26 : decode cX10_hoops 26 = .ok (.iaload, 1) := by decide +kernel
theorem dX10_hoops_27 : decode cX10_hoops 27 = .ok (.ifCond .lt 17, 3) := by decide +kernel
theorem dX10_hoops_44 : decode cX10_hoops 44 = .ok (.iconst 0, 1) := by decide +kernel
theorem dX10_hoops_45 : decode cX10_hoops 45 = .ok (.istore 4, 2) := by decide +kernel
theorem dX10_hoops_47 : decode cX10_hoops 47 = .ok (.aload_n 0, 1) := by decide +kernel
theorem dX10_hoops_48 : decode cX10_hoops 48 = .ok (.getfield 75, 3) := by decide +kernel
theorem dX10_hoops_51 : decode cX10_hoops 51 = .ok (.iload_n 1, 1) := by decide +kernel
theorem dX10_hoops_52 : decode cX10_hoops 52 = .ok (.iaload, 1) := by decide +kernel
theorem dX10_hoops_53 : decode cX10_hoops 53 = .ok (.bipush 50, 2) := by decide +kernel
theorem dX10_hoops_55 : decode cX10_hoops 55 = .ok (.if_icmp .ne 11, 3) := by decide +kernel
theorem dX10_hoops_66 : decode cX10_hoops 66 = .ok (.iconst 0, 1) := by decide +kernel
theorem dX10_hoops_67 : decode cX10_hoops 67 = .ok (.istore 5, 2) := by decide +kernel
theorem dX10_hoops_58 : decode cX10_hoops 58 = .ok (.iload_n 2, 1) := by decide +kernel
theorem dX10_hoops_59 : decode cX10_hoops 59 = .ok (.ifCond .lt 7, 3) := by decide +kernel
theorem dX10_hoops_62 : decode cX10_hoops 62 = .ok (.iconst 1, 1) := by decide +kernel
theorem dX10_hoops_63 : decode cX10_hoops 63 = .ok (.goto 4, 3) := by decide +kernel
theorem dX10_hoops_30 : decode cX10_hoops 30 = .ok (.aload_n 0, 1) := by decide +kernel
theorem dX10_hoops_31 : decode cX10_hoops 31 = .ok (.getfield 75, 3) := by decide +kernel
theorem dX10_hoops_34 : decode cX10_hoops 34 = .ok (.iload_n 1, 1) := by decide +kernel
theorem dX10_hoops_35 : decode cX10_hoops 35 = .ok (.iaload, 1) := by decide +kernel
theorem dX10_hoops_36 : decode cX10_hoops 36 = .ok (.bipush 50, 2) := by decide +kernel
theorem dX10_hoops_38 : decode cX10_hoops 38 = .ok (.if_icmp .eq 6, 3) := by decide +kernel
theorem dX10_hoops_41 : decode cX10_hoops 41 = .ok (.bipush (-12), 2) := by decide +kernel
theorem dX10_hoops_43 : decode cX10_hoops 43 = .ok (.ireturn, 1) := by decide +kernel
set_option maxRecDepth 100000 in
set_option maxHeartbeats 4000000 in
theorem g_X10_left (se nn g : Int32) {l : Launch} {G : xG} {M : xM} {J : xJ} (hI : InvR M) : x_M l G fX10_left 2 0 0 [.ref (62), .int (se), .int (nn), .int (g)] x_SH M J (qKI WFR M J (fun r M2 => InvR M2)) := by
  refine xb_of pX10 (Nat.le_of_ble_eq_true rfl) rfl ?_
  obtain ⟨⟨hn, h_hn, e_hn, hw⟩, hbt, ⟨un, wn, h_uw, h_wn, e_un, e_wn⟩, hch, ⟨n, h_n, e_n⟩, htx, ⟨b, h_b, e_b⟩, hkd, ⟨ra, h_ra, e_ra⟩, hsl, ⟨ic, h_ic, e_ic⟩, hS⟩ := hI
  refine xr_iload_n dX10_left_0 2 rfl ?_
  refine xr_i2l dX10_left_1 ?_
  refine xr_lconst (v := 1) dX10_left_2 rfl ?_
  refine xr_ldc2 coX10_311 dX10_left_3 ?_
  refine xb_cS (As := [.long ((nn).toInt64), .long (1), .long (30)]) (rest := []) mlX10_101 (c_within32 (nn) (1) (30) (by decide) (by decide)) dX10_left_6 rfl rfl (Nat.le_of_ble_eq_true rfl) (by decide) (by decide) ?_
  refine xb_beq (tgt := 24) dX10_left_9 rfl (fun c1 => ?_) (fun c1 => ?_)
  · refine xr_iconst (v := -1) dX10_left_24 rfl ?_
    exact xr_iret dX10_left_25 rfl rfl (⟨_, rfl, rfl, rfl, Ke.rf, ⟨⟨hn, by omega, e_hn, (fun kw hkw => by rw [show M 63 (5 + kw) = M 63 (5 + kw) from rfl]; exact hw kw hkw)⟩, (by rw [show M 63 16 = M 63 16 from rfl]; exact hbt), ⟨un, wn, by omega, by omega, e_un, e_wn⟩, (fun kk hkk => by rw [show M 64 kk = M 64 kk from rfl, show M 65 kk = M 65 kk from rfl, show M 66 kk = M 66 kk from rfl]; exact hch kk hkk), ⟨n, by omega, e_n⟩, (by rw [show M 62 13 = M 62 13 from rfl]; exact htx), ⟨b, by omega, e_b⟩, (fun j hj => by obtain ⟨q, hq, eq⟩ := hkd j hj; exact ⟨q, hq, (show M 81 j = M 81 j from rfl).trans eq⟩), ⟨ra, by omega, e_ra⟩, (fun j hj => by rw [show M 83 j = M 83 j from rfl, show M 84 j = M 84 j from rfl]; exact hsl j hj), ⟨ic, by omega, e_ic⟩, (fun j hj => by obtain ⟨q, hq, eq⟩ := hS j hj; exact ⟨q, hq, (show M 75 j = M 75 j from rfl).trans eq⟩)⟩⟩)
  · refine xr_iload_n dX10_left_12 3 rfl ?_
    refine xr_iconst (v := -1) dX10_left_13 rfl ?_
    refine xr_icmp_eq (tgt := 26) dX10_left_14 rfl (fun c2 => ?_) (fun c2 => ?_)
    · refine xr_aload_n dX10_left_26 0 rfl ?_
      refine xr_iload_n dX10_left_27 1 rfl ?_
      refine xr_iload_n dX10_left_28 2 rfl ?_
      obtain ⟨N, hN, rfl⟩ := x_natle (v := nn) (N := 30) (K := 30) (by decide) (by decide) ⟨by grind, c1.2⟩
      subst c2
      refine xr_callV (As := [.int (se), .int (nI (N))]) (rest := []) mlX10_313 (g_X10_field se (n := N) (by omega)) dX10_left_29 s_62 rfl rfl (Nat.le_of_ble_eq_true rfl) (by decide) ⟨by decide, by decide⟩ (fun v s2 M3 J2 hq => ?_)
      obtain ⟨rfl, rfl, rfl, k4, _⟩ := hq
      try dsimp only [Option.toList, List.cons_append, List.nil_append]
      refine xr_iconst (v := 0) dX10_left_32 rfl ?_
      refine xr_istore (ls2 := [(4, .int (0)), (0, .ref (62)), (1, .int (se)), (2, .int (nI (N))), (3, .int ((-1)))]) dX10_left_33 (by decide) rfl ?_
      refine xr_iconst (v := 0) dX10_left_35 rfl ?_
      refine xr_istore (ls2 := [(5, .int (0)), (4, .int (0)), (0, .ref (62)), (1, .int (se)), (2, .int (nI (N))), (3, .int ((-1)))]) dX10_left_36 (by decide) rfl ?_
      refine xb_ls (ls2 := [(5, .int (nI (0))), (4, .int (0)), (3, .int ((-1))), (0, .ref (62))]) [0, 1, 5, 2] rfl ?_
      refine rlfm_l (fun q5 => ?_) (25 - 0) 0 0 (by omega)
      refine xr_iload_n dX10_left_71 1 rfl ?_
      refine xr_if_ge (tgt := 80) dX10_left_72 rfl (fun c => absurd c (by decide)) (fun _ => ?_)
      refine xr_iload dX10_left_75 0 rfl ?_
      refine xr_goto (tgt := 94) dX10_left_77 rfl ?_
      exact xr_iret dX10_left_94 rfl rfl (⟨_, rfl, rfl, rfl, (Ke.tr (fun _ _ h => h) Ke.rf k4), ⟨⟨hn, by omega, (Eq.trans (k4 62 6 (by decide)) e_hn), (fun kw hkw => by rw [show M3 63 (5 + kw) = M 63 (5 + kw) from (Eq.trans (k4 63 (5 + kw) (by unfold WFR; omega)) rfl)]; exact hw kw hkw)⟩, (by rw [show M3 63 16 = M 63 16 from (Eq.trans (k4 63 16 (by unfold WFR; omega)) rfl)]; exact hbt), ⟨un, wn, by omega, by omega, (Eq.trans (k4 62 5 (by decide)) e_un), (Eq.trans (k4 62 4 (by decide)) e_wn)⟩, (fun kk hkk => by rw [show M3 64 kk = M 64 kk from (Eq.trans (k4 64 kk (by unfold WFR; omega)) rfl), show M3 65 kk = M 65 kk from (Eq.trans (k4 65 kk (by unfold WFR; omega)) rfl), show M3 66 kk = M 66 kk from (Eq.trans (k4 66 kk (by unfold WFR; omega)) rfl)]; exact hch kk hkk), ⟨n, by omega, (Eq.trans (k4 62 11 (by decide)) e_n)⟩, (by rw [show M3 62 13 = M 62 13 from (Eq.trans (k4 62 13 (by unfold WFR; omega)) rfl)]; exact htx), ⟨b, by omega, (Eq.trans (k4 62 36 (by decide)) e_b)⟩, (fun j hj => by obtain ⟨q, hq, eq⟩ := hkd j hj; exact ⟨q, hq, (show M3 81 j = M 81 j from (Eq.trans (k4 81 j (by unfold WFR; omega)) rfl)).trans eq⟩), ⟨ra, by omega, (Eq.trans (k4 62 39 (by decide)) e_ra)⟩, (fun j hj => by rw [show M3 83 j = M 83 j from (Eq.trans (k4 83 j (by unfold WFR; omega)) rfl), show M3 84 j = M 84 j from (Eq.trans (k4 84 j (by unfold WFR; omega)) rfl)]; exact hsl j hj), ⟨ic, by omega, (Eq.trans (k4 62 34 (by decide)) e_ic)⟩, (fun j hj => by obtain ⟨q, hq, eq⟩ := hS j hj; exact ⟨q, hq, (show M3 75 j = M 75 j from (Eq.trans (k4 75 j (by unfold WFR; omega)) rfl)).trans eq⟩)⟩⟩)
    · refine xr_iload_n dX10_left_17 3 rfl ?_
      refine xb_cS (As := [.int (g)]) (rest := []) mlX10_293 (c_X10_isGirl g) dX10_left_18 rfl rfl (Nat.le_of_ble_eq_true rfl) (by decide) (by decide) ?_
      refine xb_bne (tgt := 26) dX10_left_21 rfl (fun c8 => ?_) (fun c8 => ?_)
      · obtain ⟨g_, hg_, rfl⟩ := x_natle (N := 24) (by decide) rfl c8
        replace hg_ := Nat.lt_succ_of_le hg_
        refine xr_aload_n dX10_left_26 0 rfl ?_
        refine xr_iload_n dX10_left_27 1 rfl ?_
        refine xr_iload_n dX10_left_28 2 rfl ?_
        obtain ⟨N, hN, rfl⟩ := x_natle (v := nn) (N := 30) (K := 30) (by decide) (by decide) ⟨by grind, c1.2⟩
        refine xr_callV (As := [.int (se), .int (nI (N))]) (rest := []) mlX10_313 (g_X10_field se (n := N) (by omega)) dX10_left_29 s_62 rfl rfl (Nat.le_of_ble_eq_true rfl) (by decide) ⟨by decide, by decide⟩ (fun v s2 M9 J2 hq => ?_)
        obtain ⟨rfl, rfl, rfl, k10, _⟩ := hq
        try dsimp only [Option.toList, List.cons_append, List.nil_append]
        refine xr_iconst (v := 0) dX10_left_32 rfl ?_
        refine xr_istore (ls2 := [(4, .int (0)), (0, .ref (62)), (1, .int (se)), (2, .int (nI (N))), (3, .int (nI (g_)))]) dX10_left_33 (by decide) rfl ?_
        refine xr_iconst (v := 0) dX10_left_35 rfl ?_
        refine xr_istore (ls2 := [(5, .int (0)), (4, .int (0)), (0, .ref (62)), (1, .int (se)), (2, .int (nI (N))), (3, .int (nI (g_)))]) dX10_left_36 (by decide) rfl ?_
        refine xb_ls (ls2 := [(5, .int (nI (0))), (4, .int (0)), (3, .int (nI (g_))), (0, .ref (62))]) [0, 1, 5, 2] rfl ?_
        refine rlfn_l (fun q11 => ?_) (25 - 0) 0 0 (by omega)
        refine xr_iload_n dX10_left_71 1 rfl ?_
        refine xr_if_ge (tgt := 80) dX10_left_72 rfl (fun c14 => ?_) (fun c14 => ?_)
        · refine xr_aload_n dX10_left_80 2 rfl ?_
          refine xr_getR flX10_56 dX10_left_81 s_62 rfl ?_
          refine xr_iload_n dX10_left_84 1 rfl ?_
          refine xb_zald (j := g_) (v := M9 77 g_) dX10_left_85 s_77 hg_ (by decide) rfl ?_
          refine xr_if_eq (tgt := 93) dX10_left_86 rfl (fun c15 => ?_) (fun c15 => ?_)
          · refine xr_iconst (v := 0) dX10_left_93 rfl ?_
            exact xr_iret dX10_left_94 rfl rfl (⟨_, rfl, rfl, rfl, (Ke.tr (fun _ _ h => h) Ke.rf k10), ⟨⟨hn, by omega, (Eq.trans (k10 62 6 (by decide)) e_hn), (fun kw hkw => by rw [show M9 63 (5 + kw) = M 63 (5 + kw) from (Eq.trans (k10 63 (5 + kw) (by unfold WFR; omega)) rfl)]; exact hw kw hkw)⟩, (by rw [show M9 63 16 = M 63 16 from (Eq.trans (k10 63 16 (by unfold WFR; omega)) rfl)]; exact hbt), ⟨un, wn, by omega, by omega, (Eq.trans (k10 62 5 (by decide)) e_un), (Eq.trans (k10 62 4 (by decide)) e_wn)⟩, (fun kk hkk => by rw [show M9 64 kk = M 64 kk from (Eq.trans (k10 64 kk (by unfold WFR; omega)) rfl), show M9 65 kk = M 65 kk from (Eq.trans (k10 65 kk (by unfold WFR; omega)) rfl), show M9 66 kk = M 66 kk from (Eq.trans (k10 66 kk (by unfold WFR; omega)) rfl)]; exact hch kk hkk), ⟨n, by omega, (Eq.trans (k10 62 11 (by decide)) e_n)⟩, (by rw [show M9 62 13 = M 62 13 from (Eq.trans (k10 62 13 (by unfold WFR; omega)) rfl)]; exact htx), ⟨b, by omega, (Eq.trans (k10 62 36 (by decide)) e_b)⟩, (fun j hj => by obtain ⟨q, hq, eq⟩ := hkd j hj; exact ⟨q, hq, (show M9 81 j = M 81 j from (Eq.trans (k10 81 j (by unfold WFR; omega)) rfl)).trans eq⟩), ⟨ra, by omega, (Eq.trans (k10 62 39 (by decide)) e_ra)⟩, (fun j hj => by rw [show M9 83 j = M 83 j from (Eq.trans (k10 83 j (by unfold WFR; omega)) rfl), show M9 84 j = M 84 j from (Eq.trans (k10 84 j (by unfold WFR; omega)) rfl)]; exact hsl j hj), ⟨ic, by omega, (Eq.trans (k10 62 34 (by decide)) e_ic)⟩, (fun j hj => by obtain ⟨q, hq, eq⟩ := hS j hj; exact ⟨q, hq, (show M9 75 j = M 75 j from (Eq.trans (k10 75 j (by unfold WFR; omega)) rfl)).trans eq⟩)⟩⟩)
          · refine xr_iconst (v := 1) dX10_left_89 rfl ?_
            refine xr_goto (tgt := 94) dX10_left_90 rfl ?_
            exact xr_iret dX10_left_94 rfl rfl (⟨_, rfl, rfl, rfl, (Ke.tr (fun _ _ h => h) Ke.rf k10), ⟨⟨hn, by omega, (Eq.trans (k10 62 6 (by decide)) e_hn), (fun kw hkw => by rw [show M9 63 (5 + kw) = M 63 (5 + kw) from (Eq.trans (k10 63 (5 + kw) (by unfold WFR; omega)) rfl)]; exact hw kw hkw)⟩, (by rw [show M9 63 16 = M 63 16 from (Eq.trans (k10 63 16 (by unfold WFR; omega)) rfl)]; exact hbt), ⟨un, wn, by omega, by omega, (Eq.trans (k10 62 5 (by decide)) e_un), (Eq.trans (k10 62 4 (by decide)) e_wn)⟩, (fun kk hkk => by rw [show M9 64 kk = M 64 kk from (Eq.trans (k10 64 kk (by unfold WFR; omega)) rfl), show M9 65 kk = M 65 kk from (Eq.trans (k10 65 kk (by unfold WFR; omega)) rfl), show M9 66 kk = M 66 kk from (Eq.trans (k10 66 kk (by unfold WFR; omega)) rfl)]; exact hch kk hkk), ⟨n, by omega, (Eq.trans (k10 62 11 (by decide)) e_n)⟩, (by rw [show M9 62 13 = M 62 13 from (Eq.trans (k10 62 13 (by unfold WFR; omega)) rfl)]; exact htx), ⟨b, by omega, (Eq.trans (k10 62 36 (by decide)) e_b)⟩, (fun j hj => by obtain ⟨q, hq, eq⟩ := hkd j hj; exact ⟨q, hq, (show M9 81 j = M 81 j from (Eq.trans (k10 81 j (by unfold WFR; omega)) rfl)).trans eq⟩), ⟨ra, by omega, (Eq.trans (k10 62 39 (by decide)) e_ra)⟩, (fun j hj => by rw [show M9 83 j = M 83 j from (Eq.trans (k10 83 j (by unfold WFR; omega)) rfl), show M9 84 j = M 84 j from (Eq.trans (k10 84 j (by unfold WFR; omega)) rfl)]; exact hsl j hj), ⟨ic, by omega, (Eq.trans (k10 62 34 (by decide)) e_ic)⟩, (fun j hj => by obtain ⟨q, hq, eq⟩ := hS j hj; exact ⟨q, hq, (show M9 75 j = M 75 j from (Eq.trans (k10 75 j (by unfold WFR; omega)) rfl)).trans eq⟩)⟩⟩)
        · refine xr_iload dX10_left_75 0 rfl ?_
          refine xr_goto (tgt := 94) dX10_left_77 rfl ?_
          exact xr_iret dX10_left_94 rfl rfl (⟨_, rfl, rfl, rfl, (Ke.tr (fun _ _ h => h) Ke.rf k10), ⟨⟨hn, by omega, (Eq.trans (k10 62 6 (by decide)) e_hn), (fun kw hkw => by rw [show M9 63 (5 + kw) = M 63 (5 + kw) from (Eq.trans (k10 63 (5 + kw) (by unfold WFR; omega)) rfl)]; exact hw kw hkw)⟩, (by rw [show M9 63 16 = M 63 16 from (Eq.trans (k10 63 16 (by unfold WFR; omega)) rfl)]; exact hbt), ⟨un, wn, by omega, by omega, (Eq.trans (k10 62 5 (by decide)) e_un), (Eq.trans (k10 62 4 (by decide)) e_wn)⟩, (fun kk hkk => by rw [show M9 64 kk = M 64 kk from (Eq.trans (k10 64 kk (by unfold WFR; omega)) rfl), show M9 65 kk = M 65 kk from (Eq.trans (k10 65 kk (by unfold WFR; omega)) rfl), show M9 66 kk = M 66 kk from (Eq.trans (k10 66 kk (by unfold WFR; omega)) rfl)]; exact hch kk hkk), ⟨n, by omega, (Eq.trans (k10 62 11 (by decide)) e_n)⟩, (by rw [show M9 62 13 = M 62 13 from (Eq.trans (k10 62 13 (by unfold WFR; omega)) rfl)]; exact htx), ⟨b, by omega, (Eq.trans (k10 62 36 (by decide)) e_b)⟩, (fun j hj => by obtain ⟨q, hq, eq⟩ := hkd j hj; exact ⟨q, hq, (show M9 81 j = M 81 j from (Eq.trans (k10 81 j (by unfold WFR; omega)) rfl)).trans eq⟩), ⟨ra, by omega, (Eq.trans (k10 62 39 (by decide)) e_ra)⟩, (fun j hj => by rw [show M9 83 j = M 83 j from (Eq.trans (k10 83 j (by unfold WFR; omega)) rfl), show M9 84 j = M 84 j from (Eq.trans (k10 84 j (by unfold WFR; omega)) rfl)]; exact hsl j hj), ⟨ic, by omega, (Eq.trans (k10 62 34 (by decide)) e_ic)⟩, (fun j hj => by obtain ⟨q, hq, eq⟩ := hS j hj; exact ⟨q, hq, (show M9 75 j = M 75 j from (Eq.trans (k10 75 j (by unfold WFR; omega)) rfl)).trans eq⟩)⟩⟩)
      · refine xr_iconst (v := -1) dX10_left_24 rfl ?_
        exact xr_iret dX10_left_25 rfl rfl (⟨_, rfl, rfl, rfl, Ke.rf, ⟨⟨hn, by omega, e_hn, (fun kw hkw => by rw [show M 63 (5 + kw) = M 63 (5 + kw) from rfl]; exact hw kw hkw)⟩, (by rw [show M 63 16 = M 63 16 from rfl]; exact hbt), ⟨un, wn, by omega, by omega, e_un, e_wn⟩, (fun kk hkk => by rw [show M 64 kk = M 64 kk from rfl, show M 65 kk = M 65 kk from rfl, show M 66 kk = M 66 kk from rfl]; exact hch kk hkk), ⟨n, by omega, e_n⟩, (by rw [show M 62 13 = M 62 13 from rfl]; exact htx), ⟨b, by omega, e_b⟩, (fun j hj => by obtain ⟨q, hq, eq⟩ := hkd j hj; exact ⟨q, hq, (show M 81 j = M 81 j from rfl).trans eq⟩), ⟨ra, by omega, e_ra⟩, (fun j hj => by rw [show M 83 j = M 83 j from rfl, show M 84 j = M 84 j from rfl]; exact hsl j hj), ⟨ic, by omega, e_ic⟩, (fun j hj => by obtain ⟨q, hq, eq⟩ := hS j hj; exact ⟨q, hq, (show M 75 j = M 75 j from rfl).trans eq⟩)⟩⟩)
set_option maxRecDepth 100000 in
set_option maxHeartbeats 4000000 in
theorem g_X10_knocked (se nn g : Int32) {l : Launch} {G : xG} {M : xM} {J : xJ} (hI : InvR M) : x_M l G fX10_knocked 2 0 0 [.ref (62), .int (se), .int (nn), .int (g)] x_SH M J (qKI WFR M J (fun r M2 => InvR M2)) := by
  refine xb_of pX10 (Nat.le_of_ble_eq_true rfl) rfl ?_
  obtain ⟨⟨hn, h_hn, e_hn, hw⟩, hbt, ⟨un, wn, h_uw, h_wn, e_un, e_wn⟩, hch, ⟨n, h_n, e_n⟩, htx, ⟨b, h_b, e_b⟩, hkd, ⟨ra, h_ra, e_ra⟩, hsl, ⟨ic, h_ic, e_ic⟩, hS⟩ := hI
  refine xr_iload_n dX10_knocked_0 2 rfl ?_
  refine xr_i2l dX10_knocked_1 ?_
  refine xr_lconst (v := 1) dX10_knocked_2 rfl ?_
  refine xr_ldc2 coX10_311 dX10_knocked_3 ?_
  refine xb_cS (As := [.long ((nn).toInt64), .long (1), .long (30)]) (rest := []) mlX10_101 (c_within32 (nn) (1) (30) (by decide) (by decide)) dX10_knocked_6 rfl rfl (Nat.le_of_ble_eq_true rfl) (by decide) (by decide) ?_
  refine xb_beq (tgt := 19) dX10_knocked_9 rfl (fun c1 => ?_) (fun c1 => ?_)
  · refine xr_iconst (v := -1) dX10_knocked_19 rfl ?_
    exact xr_iret dX10_knocked_20 rfl rfl (⟨_, rfl, rfl, rfl, Ke.rf, ⟨⟨hn, by omega, e_hn, (fun kw hkw => by rw [show M 63 (5 + kw) = M 63 (5 + kw) from rfl]; exact hw kw hkw)⟩, (by rw [show M 63 16 = M 63 16 from rfl]; exact hbt), ⟨un, wn, by omega, by omega, e_un, e_wn⟩, (fun kk hkk => by rw [show M 64 kk = M 64 kk from rfl, show M 65 kk = M 65 kk from rfl, show M 66 kk = M 66 kk from rfl]; exact hch kk hkk), ⟨n, by omega, e_n⟩, (by rw [show M 62 13 = M 62 13 from rfl]; exact htx), ⟨b, by omega, e_b⟩, (fun j hj => by obtain ⟨q, hq, eq⟩ := hkd j hj; exact ⟨q, hq, (show M 81 j = M 81 j from rfl).trans eq⟩), ⟨ra, by omega, e_ra⟩, (fun j hj => by rw [show M 83 j = M 83 j from rfl, show M 84 j = M 84 j from rfl]; exact hsl j hj), ⟨ic, by omega, e_ic⟩, (fun j hj => by obtain ⟨q, hq, eq⟩ := hS j hj; exact ⟨q, hq, (show M 75 j = M 75 j from rfl).trans eq⟩)⟩⟩)
  · refine xr_iload_n dX10_knocked_12 3 rfl ?_
    refine xb_cS (As := [.int (g)]) (rest := []) mlX10_293 (c_X10_isGirl g) dX10_knocked_13 rfl rfl (Nat.le_of_ble_eq_true rfl) (by decide) (by decide) ?_
    refine xb_bne (tgt := 21) dX10_knocked_16 rfl (fun c2 => ?_) (fun c2 => ?_)
    · obtain ⟨g_, hg_, rfl⟩ := x_natle (N := 24) (by decide) rfl c2
      replace hg_ := Nat.lt_succ_of_le hg_
      refine xr_aload_n dX10_knocked_21 0 rfl ?_
      refine xr_iload_n dX10_knocked_22 1 rfl ?_
      refine xr_iload_n dX10_knocked_23 2 rfl ?_
      obtain ⟨N, hN, rfl⟩ := x_natle (v := nn) (N := 30) (K := 30) (by decide) (by decide) ⟨by grind, c1.2⟩
      refine xr_callV (As := [.int (se), .int (nI (N))]) (rest := []) mlX10_313 (g_X10_field se (n := N) (by omega)) dX10_knocked_24 s_62 rfl rfl (Nat.le_of_ble_eq_true rfl) (by decide) ⟨by decide, by decide⟩ (fun v s2 M3 J2 hq => ?_)
      obtain ⟨rfl, rfl, rfl, k4, _⟩ := hq
      try dsimp only [Option.toList, List.cons_append, List.nil_append]
      refine xr_aload_n dX10_knocked_27 0 rfl ?_
      refine xr_getR flX10_60 dX10_knocked_28 s_62 rfl ?_
      refine xr_iload_n dX10_knocked_31 3 rfl ?_
      refine xb_iald (j := g_) (v := M3 78 g_) dX10_knocked_32 s_78 hg_ (by decide) rfl ?_
      exact xr_iret dX10_knocked_33 rfl rfl (⟨_, rfl, rfl, rfl, (Ke.tr (fun _ _ h => h) Ke.rf k4), ⟨⟨hn, by omega, (Eq.trans (k4 62 6 (by decide)) e_hn), (fun kw hkw => by rw [show M3 63 (5 + kw) = M 63 (5 + kw) from (Eq.trans (k4 63 (5 + kw) (by unfold WFR; omega)) rfl)]; exact hw kw hkw)⟩, (by rw [show M3 63 16 = M 63 16 from (Eq.trans (k4 63 16 (by unfold WFR; omega)) rfl)]; exact hbt), ⟨un, wn, by omega, by omega, (Eq.trans (k4 62 5 (by decide)) e_un), (Eq.trans (k4 62 4 (by decide)) e_wn)⟩, (fun kk hkk => by rw [show M3 64 kk = M 64 kk from (Eq.trans (k4 64 kk (by unfold WFR; omega)) rfl), show M3 65 kk = M 65 kk from (Eq.trans (k4 65 kk (by unfold WFR; omega)) rfl), show M3 66 kk = M 66 kk from (Eq.trans (k4 66 kk (by unfold WFR; omega)) rfl)]; exact hch kk hkk), ⟨n, by omega, (Eq.trans (k4 62 11 (by decide)) e_n)⟩, (by rw [show M3 62 13 = M 62 13 from (Eq.trans (k4 62 13 (by unfold WFR; omega)) rfl)]; exact htx), ⟨b, by omega, (Eq.trans (k4 62 36 (by decide)) e_b)⟩, (fun j hj => by obtain ⟨q, hq, eq⟩ := hkd j hj; exact ⟨q, hq, (show M3 81 j = M 81 j from (Eq.trans (k4 81 j (by unfold WFR; omega)) rfl)).trans eq⟩), ⟨ra, by omega, (Eq.trans (k4 62 39 (by decide)) e_ra)⟩, (fun j hj => by rw [show M3 83 j = M 83 j from (Eq.trans (k4 83 j (by unfold WFR; omega)) rfl), show M3 84 j = M 84 j from (Eq.trans (k4 84 j (by unfold WFR; omega)) rfl)]; exact hsl j hj), ⟨ic, by omega, (Eq.trans (k4 62 34 (by decide)) e_ic)⟩, (fun j hj => by obtain ⟨q, hq, eq⟩ := hS j hj; exact ⟨q, hq, (show M3 75 j = M 75 j from (Eq.trans (k4 75 j (by unfold WFR; omega)) rfl)).trans eq⟩)⟩⟩)
    · refine xr_iconst (v := -1) dX10_knocked_19 rfl ?_
      exact xr_iret dX10_knocked_20 rfl rfl (⟨_, rfl, rfl, rfl, Ke.rf, ⟨⟨hn, by omega, e_hn, (fun kw hkw => by rw [show M 63 (5 + kw) = M 63 (5 + kw) from rfl]; exact hw kw hkw)⟩, (by rw [show M 63 16 = M 63 16 from rfl]; exact hbt), ⟨un, wn, by omega, by omega, e_un, e_wn⟩, (fun kk hkk => by rw [show M 64 kk = M 64 kk from rfl, show M 65 kk = M 65 kk from rfl, show M 66 kk = M 66 kk from rfl]; exact hch kk hkk), ⟨n, by omega, e_n⟩, (by rw [show M 62 13 = M 62 13 from rfl]; exact htx), ⟨b, by omega, e_b⟩, (fun j hj => by obtain ⟨q, hq, eq⟩ := hkd j hj; exact ⟨q, hq, (show M 81 j = M 81 j from rfl).trans eq⟩), ⟨ra, by omega, e_ra⟩, (fun j hj => by rw [show M 83 j = M 83 j from rfl, show M 84 j = M 84 j from rfl]; exact hsl j hj), ⟨ic, by omega, e_ic⟩, (fun j hj => by obtain ⟨q, hq, eq⟩ := hS j hj; exact ⟨q, hq, (show M 75 j = M 75 j from rfl).trans eq⟩)⟩⟩)
set_option maxRecDepth 100000 in
set_option maxHeartbeats 4000000 in
theorem g_X10_last (se w : Int32) {l : Launch} {G : xG} {M : xM} {J : xJ} (hI : InvR M) : x_M l G fX10_last 2 0 0 [.ref (62), .int (se), .int (w)] x_SH M J (qKI WFR M J (fun r M2 => InvR M2)) := by
  refine xb_of pX10 (Nat.le_of_ble_eq_true rfl) rfl ?_
  obtain ⟨⟨hn, h_hn, e_hn, hw⟩, hbt, ⟨un, wn, h_uw, h_wn, e_un, e_wn⟩, hch, ⟨n, h_n, e_n⟩, htx, ⟨b, h_b, e_b⟩, hkd, ⟨ra, h_ra, e_ra⟩, hsl, ⟨ic, h_ic, e_ic⟩, hS⟩ := hI
  refine xr_iload_n dX10_last_0 2 rfl ?_
  refine xr_i2l dX10_last_1 ?_
  refine xr_lconst (v := 0) dX10_last_2 rfl ?_
  refine xr_lconst (v := 1) dX10_last_3 rfl ?_
  refine xb_cS (As := [.long ((w).toInt64), .long (0), .long (1)]) (rest := []) mlX10_101 (c_within32 (w) (0) (1) (by decide) (by decide)) dX10_last_4 rfl rfl (Nat.le_of_ble_eq_true rfl) (by decide) (by decide) ?_
  refine xb_bne (tgt := 12) dX10_last_7 rfl (fun c1 => ?_) (fun c1 => ?_)
  · refine xr_aload_n dX10_last_12 0 rfl ?_
    refine xr_iload_n dX10_last_13 1 rfl ?_
    refine xr_bipush (v := 30) dX10_last_14 rfl ?_
    refine xr_callV (As := [.int (se), .int (30)]) (rest := []) mlX10_313 (g_X10_field se (n := 30) (by omega)) dX10_last_16 s_62 rfl rfl (Nat.le_of_ble_eq_true rfl) (by decide) ⟨by decide, by decide⟩ (fun v s2 M2 J2 hq => ?_)
    obtain ⟨rfl, rfl, rfl, k3, _⟩ := hq
    try dsimp only [Option.toList, List.cons_append, List.nil_append]
    refine xr_iconst (v := 0) dX10_last_19 rfl ?_
    refine xr_istore_n (ls2 := [(3, .int (0)), (0, .ref (62)), (1, .int (se)), (2, .int (w))]) dX10_last_20 (by decide) rfl ?_
    refine xr_iconst (v := 1) dX10_last_21 rfl ?_
    refine xr_istore (ls2 := [(4, .int (1)), (3, .int (0)), (0, .ref (62)), (1, .int (se)), (2, .int (w))]) dX10_last_22 (by decide) rfl ?_
    refine xb_ls (ls2 := [(4, .int (nI (1))), (3, .int (nI (0))), (2, .int (w)), (0, .ref (62))]) [0, 1, 4, 2] rfl ?_
    refine rla_l (fun b9 hb9 => ?_) 24 1 0 (by omega) (by omega)
    refine xr_iload_n dX10_last_60 1 rfl ?_
    refine xr_if_ne (tgt := 68) dX10_last_61 rfl (fun c4 => ?_) (fun c4 => ?_)
    · refine xr_aload_n dX10_last_68 2 rfl ?_
      refine xr_getR flX10_63 dX10_last_69 s_62 rfl ?_
      refine xr_iload_n dX10_last_72 0 rfl ?_
      refine xb_iald (j := b9) (v := M2 79 b9) dX10_last_73 s_79 hb9 (by decide) rfl ?_
      exact xr_iret dX10_last_74 rfl rfl (⟨_, rfl, rfl, rfl, (Ke.tr (fun _ _ h => h) Ke.rf k3), ⟨⟨hn, by omega, (Eq.trans (k3 62 6 (by decide)) e_hn), (fun kw hkw => by rw [show M2 63 (5 + kw) = M 63 (5 + kw) from (Eq.trans (k3 63 (5 + kw) (by unfold WFR; omega)) rfl)]; exact hw kw hkw)⟩, (by rw [show M2 63 16 = M 63 16 from (Eq.trans (k3 63 16 (by unfold WFR; omega)) rfl)]; exact hbt), ⟨un, wn, by omega, by omega, (Eq.trans (k3 62 5 (by decide)) e_un), (Eq.trans (k3 62 4 (by decide)) e_wn)⟩, (fun kk hkk => by rw [show M2 64 kk = M 64 kk from (Eq.trans (k3 64 kk (by unfold WFR; omega)) rfl), show M2 65 kk = M 65 kk from (Eq.trans (k3 65 kk (by unfold WFR; omega)) rfl), show M2 66 kk = M 66 kk from (Eq.trans (k3 66 kk (by unfold WFR; omega)) rfl)]; exact hch kk hkk), ⟨n, by omega, (Eq.trans (k3 62 11 (by decide)) e_n)⟩, (by rw [show M2 62 13 = M 62 13 from (Eq.trans (k3 62 13 (by unfold WFR; omega)) rfl)]; exact htx), ⟨b, by omega, (Eq.trans (k3 62 36 (by decide)) e_b)⟩, (fun j hj => by obtain ⟨q, hq, eq⟩ := hkd j hj; exact ⟨q, hq, (show M2 81 j = M 81 j from (Eq.trans (k3 81 j (by unfold WFR; omega)) rfl)).trans eq⟩), ⟨ra, by omega, (Eq.trans (k3 62 39 (by decide)) e_ra)⟩, (fun j hj => by rw [show M2 83 j = M 83 j from (Eq.trans (k3 83 j (by unfold WFR; omega)) rfl), show M2 84 j = M 84 j from (Eq.trans (k3 84 j (by unfold WFR; omega)) rfl)]; exact hsl j hj), ⟨ic, by omega, (Eq.trans (k3 62 34 (by decide)) e_ic)⟩, (fun j hj => by obtain ⟨q, hq, eq⟩ := hS j hj; exact ⟨q, hq, (show M2 75 j = M 75 j from (Eq.trans (k3 75 j (by unfold WFR; omega)) rfl)).trans eq⟩)⟩⟩)
    · refine xr_iload_n dX10_last_64 0 rfl ?_
      refine xr_goto (tgt := 74) dX10_last_65 rfl ?_
      exact xr_iret dX10_last_74 rfl rfl (⟨_, rfl, rfl, rfl, (Ke.tr (fun _ _ h => h) Ke.rf k3), ⟨⟨hn, by omega, (Eq.trans (k3 62 6 (by decide)) e_hn), (fun kw hkw => by rw [show M2 63 (5 + kw) = M 63 (5 + kw) from (Eq.trans (k3 63 (5 + kw) (by unfold WFR; omega)) rfl)]; exact hw kw hkw)⟩, (by rw [show M2 63 16 = M 63 16 from (Eq.trans (k3 63 16 (by unfold WFR; omega)) rfl)]; exact hbt), ⟨un, wn, by omega, by omega, (Eq.trans (k3 62 5 (by decide)) e_un), (Eq.trans (k3 62 4 (by decide)) e_wn)⟩, (fun kk hkk => by rw [show M2 64 kk = M 64 kk from (Eq.trans (k3 64 kk (by unfold WFR; omega)) rfl), show M2 65 kk = M 65 kk from (Eq.trans (k3 65 kk (by unfold WFR; omega)) rfl), show M2 66 kk = M 66 kk from (Eq.trans (k3 66 kk (by unfold WFR; omega)) rfl)]; exact hch kk hkk), ⟨n, by omega, (Eq.trans (k3 62 11 (by decide)) e_n)⟩, (by rw [show M2 62 13 = M 62 13 from (Eq.trans (k3 62 13 (by unfold WFR; omega)) rfl)]; exact htx), ⟨b, by omega, (Eq.trans (k3 62 36 (by decide)) e_b)⟩, (fun j hj => by obtain ⟨q, hq, eq⟩ := hkd j hj; exact ⟨q, hq, (show M2 81 j = M 81 j from (Eq.trans (k3 81 j (by unfold WFR; omega)) rfl)).trans eq⟩), ⟨ra, by omega, (Eq.trans (k3 62 39 (by decide)) e_ra)⟩, (fun j hj => by rw [show M2 83 j = M 83 j from (Eq.trans (k3 83 j (by unfold WFR; omega)) rfl), show M2 84 j = M 84 j from (Eq.trans (k3 84 j (by unfold WFR; omega)) rfl)]; exact hsl j hj), ⟨ic, by omega, (Eq.trans (k3 62 34 (by decide)) e_ic)⟩, (fun j hj => by obtain ⟨q, hq, eq⟩ := hS j hj; exact ⟨q, hq, (show M2 75 j = M 75 j from (Eq.trans (k3 75 j (by unfold WFR; omega)) rfl)).trans eq⟩)⟩⟩)
  · refine xr_iconst (v := -1) dX10_last_10 rfl ?_
    exact xr_iret dX10_last_11 rfl rfl (⟨_, rfl, rfl, rfl, Ke.rf, ⟨⟨hn, by omega, e_hn, (fun kw hkw => by rw [show M 63 (5 + kw) = M 63 (5 + kw) from rfl]; exact hw kw hkw)⟩, (by rw [show M 63 16 = M 63 16 from rfl]; exact hbt), ⟨un, wn, by omega, by omega, e_un, e_wn⟩, (fun kk hkk => by rw [show M 64 kk = M 64 kk from rfl, show M 65 kk = M 65 kk from rfl, show M 66 kk = M 66 kk from rfl]; exact hch kk hkk), ⟨n, by omega, e_n⟩, (by rw [show M 62 13 = M 62 13 from rfl]; exact htx), ⟨b, by omega, e_b⟩, (fun j hj => by obtain ⟨q, hq, eq⟩ := hkd j hj; exact ⟨q, hq, (show M 81 j = M 81 j from rfl).trans eq⟩), ⟨ra, by omega, e_ra⟩, (fun j hj => by rw [show M 83 j = M 83 j from rfl, show M 84 j = M 84 j from rfl]; exact hsl j hj), ⟨ic, by omega, e_ic⟩, (fun j hj => by obtain ⟨q, hq, eq⟩ := hS j hj; exact ⟨q, hq, (show M 75 j = M 75 j from rfl).trans eq⟩)⟩⟩)
set_option maxRecDepth 100000 in
set_option maxHeartbeats 4000000 in
theorem g_X10_alone (g y pa : Int32) {l : Launch} {G : xG} {M : xM} {J : xJ} (hI : InvR M) : x_M l G fX10_alone 2 0 0 [.ref (62), .int (g), .int (y), .int (pa)] x_SH M J (qPL M J (fun r => True)) := by
  refine xb_of pX10 (Nat.le_of_ble_eq_true rfl) rfl ?_
  obtain ⟨⟨hn, h_hn, e_hn, hw⟩, hbt, ⟨un, wn, h_uw, h_wn, e_un, e_wn⟩, hch, ⟨n, h_n, e_n⟩, htx, ⟨b, h_b, e_b⟩, hkd, ⟨ra, h_ra, e_ra⟩, hsl, ⟨ic, h_ic, e_ic⟩, hS⟩ := hI
  refine xr_iload_n dX10_alone_0 1 rfl ?_
  refine xb_cS (As := [.int (g)]) (rest := []) mlX10_293 (c_X10_isGirl g) dX10_alone_1 rfl rfl (Nat.le_of_ble_eq_true rfl) (by decide) (by decide) ?_
  refine xb_beq (tgt := 29) dX10_alone_4 rfl (fun c1 => ?_) (fun c1 => ?_)
  · refine xr_ldc2 coX10_320 dX10_alone_29 ?_
    exact xr_lret dX10_alone_32 rfl (⟨_, rfl, rfl, rfl, rfl, trivial⟩)
  · obtain ⟨g_, hg_, rfl⟩ := x_natle (N := 24) (by decide) rfl c1
    replace hg_ := Nat.lt_succ_of_le hg_
    refine xr_iload_n dX10_alone_7 2 rfl ?_
    refine xr_i2l dX10_alone_8 ?_
    refine xr_lconst (v := 0) dX10_alone_9 rfl ?_
    refine xr_ldc2 coX10_316 dX10_alone_10 ?_
    refine xb_cS (As := [.long ((y).toInt64), .long (0), .long (8)]) (rest := []) mlX10_101 (c_within32 (y) (0) (8) (by decide) (by decide)) dX10_alone_13 rfl rfl (Nat.le_of_ble_eq_true rfl) (by decide) (by decide) ?_
    refine xb_beq (tgt := 29) dX10_alone_16 rfl (fun c2 => ?_) (fun c2 => ?_)
    · refine xr_ldc2 coX10_320 dX10_alone_29 ?_
      exact xr_lret dX10_alone_32 rfl (⟨_, rfl, rfl, rfl, rfl, trivial⟩)
    · refine xr_iload_n dX10_alone_19 3 rfl ?_
      refine xr_i2l dX10_alone_20 ?_
      refine xr_lconst (v := 0) dX10_alone_21 rfl ?_
      refine xr_lconst (v := 1) dX10_alone_22 rfl ?_
      refine xb_cS (As := [.long ((pa).toInt64), .long (0), .long (1)]) (rest := []) mlX10_101 (c_within32 (pa) (0) (1) (by decide) (by decide)) dX10_alone_23 rfl rfl (Nat.le_of_ble_eq_true rfl) (by decide) (by decide) ?_
      refine xb_bne (tgt := 33) dX10_alone_26 rfl (fun c3 => ?_) (fun c3 => ?_)
      · refine xr_lconst (v := 1) dX10_alone_33 rfl ?_
        refine xr_lstore (ls2 := [(4, .long (1)), (0, .ref (62)), (1, .int (nI (g_))), (2, .int (y)), (3, .int (pa))]) dX10_alone_34 (by decide) rfl ?_
        refine xr_lconst (v := 1) dX10_alone_36 rfl ?_
        refine xr_lstore (ls2 := [(6, .long (1)), (4, .long (1)), (0, .ref (62)), (1, .int (nI (g_))), (2, .int (y)), (3, .int (pa))]) dX10_alone_37 (by decide) rfl ?_
        refine xr_iconst (v := 0) dX10_alone_39 rfl ?_
        refine xr_istore (ls2 := [(8, .int (0)), (6, .long (1)), (4, .long (1)), (0, .ref (62)), (1, .int (nI (g_))), (2, .int (y)), (3, .int (pa))]) dX10_alone_40 (by decide) rfl ?_
        obtain ⟨Y, hY, rfl⟩ := x_natle (v := y) (N := 8) (K := 8) (by decide) (by decide) ⟨c2.1, c2.2⟩
        obtain ⟨sk, hsk, e_sk⟩ := hS g_ hg_
        refine xb_ls (ls2 := [(8, .int (nI (0))), (6, .long (1)), (4, .long (1)), (3, .int (pa)), (2, .int (nI (Y))), (1, .int (nI (g_))), (0, .ref (62))]) [0, 1, 2, 6, 5, 4, 3] rfl ?_
        refine ral_l (sk := sk) (pa := pa) hg_ hY hsk e_sk ?_ Y 0 (by omega)
        have hp1 : sk ^ Y < 2 ^ 31 := pw_b hsk hY
        have hp2 : 12 ^ Y < 2 ^ 31 := pw_b (by omega) hY
        have hp3 : 0 < 12 ^ Y := Nat.pow_pos (by omega)
        refine xr_lload dX10_alone_74 1 rfl ?_
        refine xr_lconst (v := 0) dX10_alone_76 rfl ?_
        refine xr_lcmp dX10_alone_77 ?_
        refine xl_ne (tgt := 84) dX10_alone_78 rfl (fun c4 => ?_) (fun c4 => ?_)
        · refine xr_lload dX10_alone_84 0 rfl ?_
          refine xr_lstore (ls2 := [(8, .long (nJ (12 ^ Y))), (6, .long (nJ (12 ^ Y))), (4, .long (nJ (sk ^ Y))), (3, .int (pa)), (1, .int (nI (g_))), (0, .ref (62))]) dX10_alone_86 (by decide) rfl ?_
          refine xr_lload dX10_alone_88 2 rfl ?_
          refine xr_lstore (ls2 := [(10, .long (nJ (sk ^ Y))), (8, .long (nJ (12 ^ Y))), (6, .long (nJ (12 ^ Y))), (4, .long (nJ (sk ^ Y))), (3, .int (pa)), (1, .int (nI (g_))), (0, .ref (62))]) dX10_alone_90 (by decide) rfl ?_
          refine xb_ls (ls2 := [(10, .long (nJ (sk ^ Y))), (8, .long (nJ (12 ^ Y))), (6, .long (nJ (12 ^ Y))), (4, .long (nJ (sk ^ Y))), (3, .int (pa)), (1, .int (nI (g_))), (0, .ref (62))]) [0, 1, 2, 3, 4, 5, 6] rfl ?_
          refine rgc_l (gg := Nat.gcd (12 ^ Y) (sk ^ Y)) (fun hgg => ?_) (sk ^ Y) (12 ^ Y) (sk ^ Y) (Nat.le_refl _) hp3 hp2 hp1 rfl
          have hg2 : Nat.gcd (12 ^ Y) (sk ^ Y) ≤ 12 ^ Y := Nat.le_of_dvd hp3 (Nat.gcd_dvd_left _ _)
          refine xr_iload_n dX10_alone_117 3 rfl ?_
          refine xr_if_ne (tgt := 129) dX10_alone_118 rfl (fun c5 => ?_) (fun c5 => ?_)
          · refine xr_lload dX10_alone_129 1 rfl ?_
            refine xr_lload dX10_alone_131 0 rfl ?_
            refine xr_ldiv dX10_alone_133 (fun q => absurd ((nJ_eq0 (by omega)).mp q) (by omega)) ?_
            exact xr_lret dX10_alone_134 rfl (⟨_, rfl, rfl, rfl, rfl, trivial⟩)
          · refine xr_lload dX10_alone_121 2 rfl ?_
            refine xr_lload dX10_alone_123 0 rfl ?_
            refine xr_ldiv dX10_alone_125 (fun q => absurd ((nJ_eq0 (by omega)).mp q) (by omega)) ?_
            refine xr_goto (tgt := 134) dX10_alone_126 rfl ?_
            exact xr_lret dX10_alone_134 rfl (⟨_, rfl, rfl, rfl, rfl, trivial⟩)
        · refine xr_iload_n dX10_alone_81 2 rfl ?_
          refine xr_i2l dX10_alone_82 ?_
          exact xr_lret dX10_alone_83 rfl (⟨_, rfl, rfl, rfl, rfl, trivial⟩)
      · refine xr_ldc2 coX10_320 dX10_alone_29 ?_
        exact xr_lret dX10_alone_32 rfl (⟨_, rfl, rfl, rfl, rfl, trivial⟩)
set_option maxRecDepth 100000 in
set_option maxHeartbeats 4000000 in
theorem g_X10_act (h ac_ x : Int32) {l : Launch} {G : xG} {M : xM} {J : xJ} (hI : InvR M) : x_M l G fX10_act 21 0 0 [.ref (62), .int (h), .int (ac_), .int (x)] x_SH M J (qKI WRC M J (fun r M2 => InvR M2)) := by
  refine xb_of pX10 (Nat.le_of_ble_eq_true rfl) rfl ?_
  obtain ⟨⟨hn, h_hn, e_hn, hw⟩, hbt, ⟨un, wn, h_uw, h_wn, e_un, e_wn⟩, hch, ⟨n, h_n, e_n⟩, htx, ⟨b, h_b, e_b⟩, hkd, ⟨ra, h_ra, e_ra⟩, hsl, ⟨ic, h_ic, e_ic⟩, hS⟩ := hI
  refine xr_aload_n dX10_act_0 0 rfl ?_
  refine xr_iconst (v := 0) dX10_act_1 rfl ?_
  refine xr_putI fpX10_337 dX10_act_2 s_62 rfl rfl rfl ?_
  refine xr_aload_n dX10_act_5 0 rfl ?_
  refine xr_iload_n dX10_act_6 1 rfl ?_
  refine xb_cV (As := [.int (h)]) (rest := []) mlX10_361 (c_X10_isBody h (by omega) (Eq.trans (x_up_k _ _ _ (by decide)) e_b)) dX10_act_7 s_62 rfl rfl (Nat.le_of_ble_eq_true rfl) (by decide) (by decide) ?_
  refine xb_bne (tgt := 15) dX10_act_10 rfl (fun c1 => ?_) (fun c1 => ?_)
  · obtain ⟨h_, hh_, rfl⟩ := x_nat (N := b) (by omega) rfl c1
    obtain ⟨q9, hq9, eq9⟩ := hkd h_ (by omega)
    have hq8 : q9 = 0 ∨ q9 = 1 ∨ q9 = 2 ∨ q9 = 3 ∨ q9 = 4 ∨ q9 = 5 ∨ q9 = 6 ∨ q9 = 7 := by omega
    rcases hq8 with rfl | rfl | rfl | rfl | rfl | rfl | rfl | rfl
    · refine xr_aload_n dX10_act_15 0 rfl ?_
      refine xr_aload_n dX10_act_16 0 rfl ?_
      refine xr_getR flX10_69 dX10_act_17 s_62 rfl ?_
      refine xr_iload_n dX10_act_20 1 rfl ?_
      refine xb_iald (j := h_) (v := 0) dX10_act_21 s_81 (by omega) (by decide) (Eq.trans (congrFun (x_up_n _ _ _ (by decide)) _) eq9) ?_
      refine xr_putI fpX10_352 dX10_act_22 s_62 rfl rfl rfl ?_
      refine xr_aload_n dX10_act_25 0 rfl ?_
      refine xr_iload_n dX10_act_26 1 rfl ?_
      refine xr_putI fpX10_346 dX10_act_27 s_62 rfl rfl rfl ?_
      refine xr_iload_n dX10_act_30 2 rfl ?_
      refine xg_eq 0 (fun w2 => ?_) (fun w2 => ?_)
      · refine xr_tableIn (tgt := 60) dX10_act_31 (by decide) (by decide) rfl rfl ?_
        refine xr_aload_n dX10_act_60 0 rfl ?_
        refine xr_aload_n dX10_act_61 0 rfl ?_
        refine xb_get (v := 0) flX10_352 dX10_act_62 s_62 rfl (Eq.trans (x_up_k _ _ _ (by decide)) (x_up_s _ _ _ _)) ?_
        refine xr_iload_n dX10_act_65 3 rfl ?_
        refine xr_callV (As := [.int (0), .int (x)]) (rest := []) mlX10_343 (ra0_pushesAs_0 (ac := h_) (ra := 0) x (by omega) (Eq.trans (x_up_k _ _ _ (by decide)) (Eq.trans (x_up_k _ _ _ (by decide)) (x_up_s _ _ _ _))) (Eq.trans (x_up_k _ _ _ (by decide)) (x_up_s _ _ _ _)) (x_up_s _ _ _ _)) dX10_act_66 s_62 rfl rfl (Nat.le_of_ble_eq_true rfl) (by decide) ⟨by decide, by decide⟩ (fun v s2 M4 J2 hq => ?_)
        obtain ⟨r6, rfl, rfl, rfl, k5, ⟨_, hx3⟩⟩ := hq
        try dsimp only [Option.toList, List.cons_append, List.nil_append]
        exact xr_iret dX10_act_69 rfl rfl (⟨_, rfl, rfl, rfl, (Ke.tr (fun pp kk => (fun hh => Or.elim hh (fun h => (Or.inl h)) (fun h => (Or.inr (Or.inr (Or.inr h)))))) (Ke.up (Or.inr (Or.inr (Or.inl (by omega)))) (Ke.up (Or.inr (Or.inl (by omega))) (Ke.up (Or.inl (by omega)) Ke.rf))) k5), ⟨⟨hn, by omega, (Eq.trans (k5 62 6 (by decide)) (Eq.trans (x_up_k _ _ _ (by decide)) (Eq.trans (x_up_k _ _ _ (by decide)) (Eq.trans (x_up_k _ _ _ (by decide)) e_hn)))), (fun kw hkw => by rw [show M4 63 (5 + kw) = M 63 (5 + kw) from (Eq.trans (k5 63 (5 + kw) (by unfold WRA; omega)) (Eq.trans (congrFun (x_up_n _ _ _ (by omega)) _) (Eq.trans (congrFun (x_up_n _ _ _ (by omega)) _) (Eq.trans (congrFun (x_up_n _ _ _ (by omega)) _) rfl))))]; exact hw kw hkw)⟩, (by rw [show M4 63 16 = M 63 16 from (Eq.trans (k5 63 16 (by unfold WRA; omega)) (Eq.trans (congrFun (x_up_n _ _ _ (by omega)) _) (Eq.trans (congrFun (x_up_n _ _ _ (by omega)) _) (Eq.trans (congrFun (x_up_n _ _ _ (by omega)) _) rfl))))]; exact hbt), ⟨un, wn, by omega, by omega, (Eq.trans (k5 62 5 (by decide)) (Eq.trans (x_up_k _ _ _ (by decide)) (Eq.trans (x_up_k _ _ _ (by decide)) (Eq.trans (x_up_k _ _ _ (by decide)) e_un)))), (Eq.trans (k5 62 4 (by decide)) (Eq.trans (x_up_k _ _ _ (by decide)) (Eq.trans (x_up_k _ _ _ (by decide)) (Eq.trans (x_up_k _ _ _ (by decide)) e_wn))))⟩, (fun kk hkk => by rw [show M4 64 kk = M 64 kk from (Eq.trans (k5 64 kk (by unfold WRA; omega)) (Eq.trans (congrFun (x_up_n _ _ _ (by omega)) _) (Eq.trans (congrFun (x_up_n _ _ _ (by omega)) _) (Eq.trans (congrFun (x_up_n _ _ _ (by omega)) _) rfl)))), show M4 65 kk = M 65 kk from (Eq.trans (k5 65 kk (by unfold WRA; omega)) (Eq.trans (congrFun (x_up_n _ _ _ (by omega)) _) (Eq.trans (congrFun (x_up_n _ _ _ (by omega)) _) (Eq.trans (congrFun (x_up_n _ _ _ (by omega)) _) rfl)))), show M4 66 kk = M 66 kk from (Eq.trans (k5 66 kk (by unfold WRA; omega)) (Eq.trans (congrFun (x_up_n _ _ _ (by omega)) _) (Eq.trans (congrFun (x_up_n _ _ _ (by omega)) _) (Eq.trans (congrFun (x_up_n _ _ _ (by omega)) _) rfl))))]; exact hch kk hkk), ⟨n, by omega, (Eq.trans (k5 62 11 (by decide)) (Eq.trans (x_up_k _ _ _ (by decide)) (Eq.trans (x_up_k _ _ _ (by decide)) (Eq.trans (x_up_k _ _ _ (by decide)) e_n))))⟩, (by rw [show M4 62 13 = M 62 13 from (Eq.trans (k5 62 13 (by unfold WRA; omega)) (Eq.trans (x_up_k _ _ _ (by omega)) (Eq.trans (x_up_k _ _ _ (by omega)) (Eq.trans (x_up_k _ _ _ (by omega)) rfl))))]; exact htx), ⟨b, by omega, (Eq.trans (k5 62 36 (by decide)) (Eq.trans (x_up_k _ _ _ (by decide)) (Eq.trans (x_up_k _ _ _ (by decide)) (Eq.trans (x_up_k _ _ _ (by decide)) e_b))))⟩, (fun j hj => by obtain ⟨q, hq, eq⟩ := hkd j hj; exact ⟨q, hq, (show M4 81 j = M 81 j from (Eq.trans (k5 81 j (by unfold WRA; omega)) (Eq.trans (congrFun (x_up_n _ _ _ (by omega)) _) (Eq.trans (congrFun (x_up_n _ _ _ (by omega)) _) (Eq.trans (congrFun (x_up_n _ _ _ (by omega)) _) rfl))))).trans eq⟩), ⟨0 + 1, by omega, hx3⟩, (fun j hj => by rw [show M4 83 j = M 83 j from (Eq.trans (k5 83 j (by unfold WRA; omega)) (Eq.trans (congrFun (x_up_n _ _ _ (by omega)) _) (Eq.trans (congrFun (x_up_n _ _ _ (by omega)) _) (Eq.trans (congrFun (x_up_n _ _ _ (by omega)) _) rfl)))), show M4 84 j = M 84 j from (Eq.trans (k5 84 j (by unfold WRA; omega)) (Eq.trans (congrFun (x_up_n _ _ _ (by omega)) _) (Eq.trans (congrFun (x_up_n _ _ _ (by omega)) _) (Eq.trans (congrFun (x_up_n _ _ _ (by omega)) _) rfl))))]; exact hsl j hj), ⟨ic, by omega, (Eq.trans (k5 62 34 (by decide)) (Eq.trans (x_up_k _ _ _ (by decide)) (Eq.trans (x_up_k _ _ _ (by decide)) (Eq.trans (x_up_k _ _ _ (by decide)) e_ic))))⟩, (fun j hj => by obtain ⟨q, hq, eq⟩ := hS j hj; exact ⟨q, hq, (show M4 75 j = M 75 j from (Eq.trans (k5 75 j (by unfold WRA; omega)) (Eq.trans (congrFun (x_up_n _ _ _ (by omega)) _) (Eq.trans (congrFun (x_up_n _ _ _ (by omega)) _) (Eq.trans (congrFun (x_up_n _ _ _ (by omega)) _) rfl))))).trans eq⟩)⟩⟩)
      refine xg_eq 1 (fun w7 => ?_) (fun w7 => ?_)
      · refine xr_tableIn (tgt := 70) dX10_act_31 (by decide) (by decide) rfl rfl ?_
        refine xr_aload_n dX10_act_70 0 rfl ?_
        refine xr_aload_n dX10_act_71 0 rfl ?_
        refine xb_get (v := 0) flX10_352 dX10_act_72 s_62 rfl (Eq.trans (x_up_k _ _ _ (by decide)) (x_up_s _ _ _ _)) ?_
        refine xr_iload_n dX10_act_75 3 rfl ?_
        refine xr_callV (As := [.int (0), .int (x)]) (rest := []) mlX10_349 (ra0_turnsAs_0 (ac := h_) (ra := 0) x (by omega) (Eq.trans (x_up_k _ _ _ (by decide)) (Eq.trans (x_up_k _ _ _ (by decide)) (x_up_s _ _ _ _))) (Eq.trans (x_up_k _ _ _ (by decide)) (x_up_s _ _ _ _)) (x_up_s _ _ _ _)) dX10_act_76 s_62 rfl rfl (Nat.le_of_ble_eq_true rfl) (by decide) ⟨by decide, by decide⟩ (fun v s2 M9 J2 hq => ?_)
        obtain ⟨r11, rfl, rfl, rfl, k10, ⟨_, hx8⟩⟩ := hq
        try dsimp only [Option.toList, List.cons_append, List.nil_append]
        exact xr_iret dX10_act_79 rfl rfl (⟨_, rfl, rfl, rfl, (Ke.tr (fun pp kk => (fun hh => Or.elim hh (fun h => (Or.inl h)) (fun h => (Or.inr (Or.inr (Or.inr h)))))) (Ke.up (Or.inr (Or.inr (Or.inl (by omega)))) (Ke.up (Or.inr (Or.inl (by omega))) (Ke.up (Or.inl (by omega)) Ke.rf))) k10), ⟨⟨hn, by omega, (Eq.trans (k10 62 6 (by decide)) (Eq.trans (x_up_k _ _ _ (by decide)) (Eq.trans (x_up_k _ _ _ (by decide)) (Eq.trans (x_up_k _ _ _ (by decide)) e_hn)))), (fun kw hkw => by rw [show M9 63 (5 + kw) = M 63 (5 + kw) from (Eq.trans (k10 63 (5 + kw) (by unfold WRA; omega)) (Eq.trans (congrFun (x_up_n _ _ _ (by omega)) _) (Eq.trans (congrFun (x_up_n _ _ _ (by omega)) _) (Eq.trans (congrFun (x_up_n _ _ _ (by omega)) _) rfl))))]; exact hw kw hkw)⟩, (by rw [show M9 63 16 = M 63 16 from (Eq.trans (k10 63 16 (by unfold WRA; omega)) (Eq.trans (congrFun (x_up_n _ _ _ (by omega)) _) (Eq.trans (congrFun (x_up_n _ _ _ (by omega)) _) (Eq.trans (congrFun (x_up_n _ _ _ (by omega)) _) rfl))))]; exact hbt), ⟨un, wn, by omega, by omega, (Eq.trans (k10 62 5 (by decide)) (Eq.trans (x_up_k _ _ _ (by decide)) (Eq.trans (x_up_k _ _ _ (by decide)) (Eq.trans (x_up_k _ _ _ (by decide)) e_un)))), (Eq.trans (k10 62 4 (by decide)) (Eq.trans (x_up_k _ _ _ (by decide)) (Eq.trans (x_up_k _ _ _ (by decide)) (Eq.trans (x_up_k _ _ _ (by decide)) e_wn))))⟩, (fun kk hkk => by rw [show M9 64 kk = M 64 kk from (Eq.trans (k10 64 kk (by unfold WRA; omega)) (Eq.trans (congrFun (x_up_n _ _ _ (by omega)) _) (Eq.trans (congrFun (x_up_n _ _ _ (by omega)) _) (Eq.trans (congrFun (x_up_n _ _ _ (by omega)) _) rfl)))), show M9 65 kk = M 65 kk from (Eq.trans (k10 65 kk (by unfold WRA; omega)) (Eq.trans (congrFun (x_up_n _ _ _ (by omega)) _) (Eq.trans (congrFun (x_up_n _ _ _ (by omega)) _) (Eq.trans (congrFun (x_up_n _ _ _ (by omega)) _) rfl)))), show M9 66 kk = M 66 kk from (Eq.trans (k10 66 kk (by unfold WRA; omega)) (Eq.trans (congrFun (x_up_n _ _ _ (by omega)) _) (Eq.trans (congrFun (x_up_n _ _ _ (by omega)) _) (Eq.trans (congrFun (x_up_n _ _ _ (by omega)) _) rfl))))]; exact hch kk hkk), ⟨n, by omega, (Eq.trans (k10 62 11 (by decide)) (Eq.trans (x_up_k _ _ _ (by decide)) (Eq.trans (x_up_k _ _ _ (by decide)) (Eq.trans (x_up_k _ _ _ (by decide)) e_n))))⟩, (by rw [show M9 62 13 = M 62 13 from (Eq.trans (k10 62 13 (by unfold WRA; omega)) (Eq.trans (x_up_k _ _ _ (by omega)) (Eq.trans (x_up_k _ _ _ (by omega)) (Eq.trans (x_up_k _ _ _ (by omega)) rfl))))]; exact htx), ⟨b, by omega, (Eq.trans (k10 62 36 (by decide)) (Eq.trans (x_up_k _ _ _ (by decide)) (Eq.trans (x_up_k _ _ _ (by decide)) (Eq.trans (x_up_k _ _ _ (by decide)) e_b))))⟩, (fun j hj => by obtain ⟨q, hq, eq⟩ := hkd j hj; exact ⟨q, hq, (show M9 81 j = M 81 j from (Eq.trans (k10 81 j (by unfold WRA; omega)) (Eq.trans (congrFun (x_up_n _ _ _ (by omega)) _) (Eq.trans (congrFun (x_up_n _ _ _ (by omega)) _) (Eq.trans (congrFun (x_up_n _ _ _ (by omega)) _) rfl))))).trans eq⟩), ⟨0 + 2, by omega, hx8⟩, (fun j hj => by rw [show M9 83 j = M 83 j from (Eq.trans (k10 83 j (by unfold WRA; omega)) (Eq.trans (congrFun (x_up_n _ _ _ (by omega)) _) (Eq.trans (congrFun (x_up_n _ _ _ (by omega)) _) (Eq.trans (congrFun (x_up_n _ _ _ (by omega)) _) rfl)))), show M9 84 j = M 84 j from (Eq.trans (k10 84 j (by unfold WRA; omega)) (Eq.trans (congrFun (x_up_n _ _ _ (by omega)) _) (Eq.trans (congrFun (x_up_n _ _ _ (by omega)) _) (Eq.trans (congrFun (x_up_n _ _ _ (by omega)) _) rfl))))]; exact hsl j hj), ⟨ic, by omega, (Eq.trans (k10 62 34 (by decide)) (Eq.trans (x_up_k _ _ _ (by decide)) (Eq.trans (x_up_k _ _ _ (by decide)) (Eq.trans (x_up_k _ _ _ (by decide)) e_ic))))⟩, (fun j hj => by obtain ⟨q, hq, eq⟩ := hS j hj; exact ⟨q, hq, (show M9 75 j = M 75 j from (Eq.trans (k10 75 j (by unfold WRA; omega)) (Eq.trans (congrFun (x_up_n _ _ _ (by omega)) _) (Eq.trans (congrFun (x_up_n _ _ _ (by omega)) _) (Eq.trans (congrFun (x_up_n _ _ _ (by omega)) _) rfl))))).trans eq⟩)⟩⟩)
      refine xg_eq 2 (fun w12 => ?_) (fun w12 => ?_)
      · refine xr_tableIn (tgt := 80) dX10_act_31 (by decide) (by decide) rfl rfl ?_
        refine xr_aload_n dX10_act_80 0 rfl ?_
        refine xr_aload_n dX10_act_81 0 rfl ?_
        refine xb_get (v := 0) flX10_352 dX10_act_82 s_62 rfl (Eq.trans (x_up_k _ _ _ (by decide)) (x_up_s _ _ _ _)) ?_
        refine xr_iload_n dX10_act_85 3 rfl ?_
        refine xr_callV (As := [.int (0), .int (x)]) (rest := []) mlX10_355 (ra0_sinksAs_0 (ac := h_) (ra := 0) x (by omega) (Eq.trans (x_up_k _ _ _ (by decide)) (Eq.trans (x_up_k _ _ _ (by decide)) (x_up_s _ _ _ _))) (Eq.trans (x_up_k _ _ _ (by decide)) (x_up_s _ _ _ _)) (x_up_s _ _ _ _)) dX10_act_86 s_62 rfl rfl (Nat.le_of_ble_eq_true rfl) (by decide) ⟨by decide, by decide⟩ (fun v s2 M14 J2 hq => ?_)
        obtain ⟨r16, rfl, rfl, rfl, k15, ⟨_, hx13⟩⟩ := hq
        try dsimp only [Option.toList, List.cons_append, List.nil_append]
        exact xr_iret dX10_act_89 rfl rfl (⟨_, rfl, rfl, rfl, (Ke.tr (fun pp kk => (fun hh => Or.elim hh (fun h => (Or.inl h)) (fun h => (Or.inr (Or.inr (Or.inr h)))))) (Ke.up (Or.inr (Or.inr (Or.inl (by omega)))) (Ke.up (Or.inr (Or.inl (by omega))) (Ke.up (Or.inl (by omega)) Ke.rf))) k15), ⟨⟨hn, by omega, (Eq.trans (k15 62 6 (by decide)) (Eq.trans (x_up_k _ _ _ (by decide)) (Eq.trans (x_up_k _ _ _ (by decide)) (Eq.trans (x_up_k _ _ _ (by decide)) e_hn)))), (fun kw hkw => by rw [show M14 63 (5 + kw) = M 63 (5 + kw) from (Eq.trans (k15 63 (5 + kw) (by unfold WRA; omega)) (Eq.trans (congrFun (x_up_n _ _ _ (by omega)) _) (Eq.trans (congrFun (x_up_n _ _ _ (by omega)) _) (Eq.trans (congrFun (x_up_n _ _ _ (by omega)) _) rfl))))]; exact hw kw hkw)⟩, (by rw [show M14 63 16 = M 63 16 from (Eq.trans (k15 63 16 (by unfold WRA; omega)) (Eq.trans (congrFun (x_up_n _ _ _ (by omega)) _) (Eq.trans (congrFun (x_up_n _ _ _ (by omega)) _) (Eq.trans (congrFun (x_up_n _ _ _ (by omega)) _) rfl))))]; exact hbt), ⟨un, wn, by omega, by omega, (Eq.trans (k15 62 5 (by decide)) (Eq.trans (x_up_k _ _ _ (by decide)) (Eq.trans (x_up_k _ _ _ (by decide)) (Eq.trans (x_up_k _ _ _ (by decide)) e_un)))), (Eq.trans (k15 62 4 (by decide)) (Eq.trans (x_up_k _ _ _ (by decide)) (Eq.trans (x_up_k _ _ _ (by decide)) (Eq.trans (x_up_k _ _ _ (by decide)) e_wn))))⟩, (fun kk hkk => by rw [show M14 64 kk = M 64 kk from (Eq.trans (k15 64 kk (by unfold WRA; omega)) (Eq.trans (congrFun (x_up_n _ _ _ (by omega)) _) (Eq.trans (congrFun (x_up_n _ _ _ (by omega)) _) (Eq.trans (congrFun (x_up_n _ _ _ (by omega)) _) rfl)))), show M14 65 kk = M 65 kk from (Eq.trans (k15 65 kk (by unfold WRA; omega)) (Eq.trans (congrFun (x_up_n _ _ _ (by omega)) _) (Eq.trans (congrFun (x_up_n _ _ _ (by omega)) _) (Eq.trans (congrFun (x_up_n _ _ _ (by omega)) _) rfl)))), show M14 66 kk = M 66 kk from (Eq.trans (k15 66 kk (by unfold WRA; omega)) (Eq.trans (congrFun (x_up_n _ _ _ (by omega)) _) (Eq.trans (congrFun (x_up_n _ _ _ (by omega)) _) (Eq.trans (congrFun (x_up_n _ _ _ (by omega)) _) rfl))))]; exact hch kk hkk), ⟨n, by omega, (Eq.trans (k15 62 11 (by decide)) (Eq.trans (x_up_k _ _ _ (by decide)) (Eq.trans (x_up_k _ _ _ (by decide)) (Eq.trans (x_up_k _ _ _ (by decide)) e_n))))⟩, (by rw [show M14 62 13 = M 62 13 from (Eq.trans (k15 62 13 (by unfold WRA; omega)) (Eq.trans (x_up_k _ _ _ (by omega)) (Eq.trans (x_up_k _ _ _ (by omega)) (Eq.trans (x_up_k _ _ _ (by omega)) rfl))))]; exact htx), ⟨b, by omega, (Eq.trans (k15 62 36 (by decide)) (Eq.trans (x_up_k _ _ _ (by decide)) (Eq.trans (x_up_k _ _ _ (by decide)) (Eq.trans (x_up_k _ _ _ (by decide)) e_b))))⟩, (fun j hj => by obtain ⟨q, hq, eq⟩ := hkd j hj; exact ⟨q, hq, (show M14 81 j = M 81 j from (Eq.trans (k15 81 j (by unfold WRA; omega)) (Eq.trans (congrFun (x_up_n _ _ _ (by omega)) _) (Eq.trans (congrFun (x_up_n _ _ _ (by omega)) _) (Eq.trans (congrFun (x_up_n _ _ _ (by omega)) _) rfl))))).trans eq⟩), ⟨0 + 1, by omega, hx13⟩, (fun j hj => by rw [show M14 83 j = M 83 j from (Eq.trans (k15 83 j (by unfold WRA; omega)) (Eq.trans (congrFun (x_up_n _ _ _ (by omega)) _) (Eq.trans (congrFun (x_up_n _ _ _ (by omega)) _) (Eq.trans (congrFun (x_up_n _ _ _ (by omega)) _) rfl)))), show M14 84 j = M 84 j from (Eq.trans (k15 84 j (by unfold WRA; omega)) (Eq.trans (congrFun (x_up_n _ _ _ (by omega)) _) (Eq.trans (congrFun (x_up_n _ _ _ (by omega)) _) (Eq.trans (congrFun (x_up_n _ _ _ (by omega)) _) rfl))))]; exact hsl j hj), ⟨ic, by omega, (Eq.trans (k15 62 34 (by decide)) (Eq.trans (x_up_k _ _ _ (by decide)) (Eq.trans (x_up_k _ _ _ (by decide)) (Eq.trans (x_up_k _ _ _ (by decide)) e_ic))))⟩, (fun j hj => by obtain ⟨q, hq, eq⟩ := hS j hj; exact ⟨q, hq, (show M14 75 j = M 75 j from (Eq.trans (k15 75 j (by unfold WRA; omega)) (Eq.trans (congrFun (x_up_n _ _ _ (by omega)) _) (Eq.trans (congrFun (x_up_n _ _ _ (by omega)) _) (Eq.trans (congrFun (x_up_n _ _ _ (by omega)) _) rfl))))).trans eq⟩)⟩⟩)
      refine xg_eq 3 (fun w17 => ?_) (fun w17 => ?_)
      · refine xr_tableIn (tgt := 90) dX10_act_31 (by decide) (by decide) rfl rfl ?_
        refine xr_aload_n dX10_act_90 0 rfl ?_
        refine xr_aload_n dX10_act_91 0 rfl ?_
        refine xb_get (v := 0) flX10_352 dX10_act_92 s_62 rfl (Eq.trans (x_up_k _ _ _ (by decide)) (x_up_s _ _ _ _)) ?_
        refine xr_iload_n dX10_act_95 3 rfl ?_
        refine xr_callV (As := [.int (0), .int (x)]) (rest := []) mlX10_358 (ra0_tellsAs_0 (ac := h_) (ra := 0) x (by omega) (Eq.trans (x_up_k _ _ _ (by decide)) (Eq.trans (x_up_k _ _ _ (by decide)) (x_up_s _ _ _ _))) (Eq.trans (x_up_k _ _ _ (by decide)) (x_up_s _ _ _ _)) (x_up_s _ _ _ _)) dX10_act_96 s_62 rfl rfl (Nat.le_of_ble_eq_true rfl) (by decide) ⟨by decide, by decide⟩ (fun v s2 M19 J2 hq => ?_)
        obtain ⟨r21, rfl, rfl, rfl, k20, ⟨_, hx18⟩⟩ := hq
        try dsimp only [Option.toList, List.cons_append, List.nil_append]
        exact xr_iret dX10_act_99 rfl rfl (⟨_, rfl, rfl, rfl, (Ke.tr (fun pp kk => (fun hh => Or.elim hh (fun h => (Or.inl h)) (fun h => (Or.inr (Or.inr (Or.inr h)))))) (Ke.up (Or.inr (Or.inr (Or.inl (by omega)))) (Ke.up (Or.inr (Or.inl (by omega))) (Ke.up (Or.inl (by omega)) Ke.rf))) k20), ⟨⟨hn, by omega, (Eq.trans (k20 62 6 (by decide)) (Eq.trans (x_up_k _ _ _ (by decide)) (Eq.trans (x_up_k _ _ _ (by decide)) (Eq.trans (x_up_k _ _ _ (by decide)) e_hn)))), (fun kw hkw => by rw [show M19 63 (5 + kw) = M 63 (5 + kw) from (Eq.trans (k20 63 (5 + kw) (by unfold WRA; omega)) (Eq.trans (congrFun (x_up_n _ _ _ (by omega)) _) (Eq.trans (congrFun (x_up_n _ _ _ (by omega)) _) (Eq.trans (congrFun (x_up_n _ _ _ (by omega)) _) rfl))))]; exact hw kw hkw)⟩, (by rw [show M19 63 16 = M 63 16 from (Eq.trans (k20 63 16 (by unfold WRA; omega)) (Eq.trans (congrFun (x_up_n _ _ _ (by omega)) _) (Eq.trans (congrFun (x_up_n _ _ _ (by omega)) _) (Eq.trans (congrFun (x_up_n _ _ _ (by omega)) _) rfl))))]; exact hbt), ⟨un, wn, by omega, by omega, (Eq.trans (k20 62 5 (by decide)) (Eq.trans (x_up_k _ _ _ (by decide)) (Eq.trans (x_up_k _ _ _ (by decide)) (Eq.trans (x_up_k _ _ _ (by decide)) e_un)))), (Eq.trans (k20 62 4 (by decide)) (Eq.trans (x_up_k _ _ _ (by decide)) (Eq.trans (x_up_k _ _ _ (by decide)) (Eq.trans (x_up_k _ _ _ (by decide)) e_wn))))⟩, (fun kk hkk => by rw [show M19 64 kk = M 64 kk from (Eq.trans (k20 64 kk (by unfold WRA; omega)) (Eq.trans (congrFun (x_up_n _ _ _ (by omega)) _) (Eq.trans (congrFun (x_up_n _ _ _ (by omega)) _) (Eq.trans (congrFun (x_up_n _ _ _ (by omega)) _) rfl)))), show M19 65 kk = M 65 kk from (Eq.trans (k20 65 kk (by unfold WRA; omega)) (Eq.trans (congrFun (x_up_n _ _ _ (by omega)) _) (Eq.trans (congrFun (x_up_n _ _ _ (by omega)) _) (Eq.trans (congrFun (x_up_n _ _ _ (by omega)) _) rfl)))), show M19 66 kk = M 66 kk from (Eq.trans (k20 66 kk (by unfold WRA; omega)) (Eq.trans (congrFun (x_up_n _ _ _ (by omega)) _) (Eq.trans (congrFun (x_up_n _ _ _ (by omega)) _) (Eq.trans (congrFun (x_up_n _ _ _ (by omega)) _) rfl))))]; exact hch kk hkk), ⟨n, by omega, (Eq.trans (k20 62 11 (by decide)) (Eq.trans (x_up_k _ _ _ (by decide)) (Eq.trans (x_up_k _ _ _ (by decide)) (Eq.trans (x_up_k _ _ _ (by decide)) e_n))))⟩, (by rw [show M19 62 13 = M 62 13 from (Eq.trans (k20 62 13 (by unfold WRA; omega)) (Eq.trans (x_up_k _ _ _ (by omega)) (Eq.trans (x_up_k _ _ _ (by omega)) (Eq.trans (x_up_k _ _ _ (by omega)) rfl))))]; exact htx), ⟨b, by omega, (Eq.trans (k20 62 36 (by decide)) (Eq.trans (x_up_k _ _ _ (by decide)) (Eq.trans (x_up_k _ _ _ (by decide)) (Eq.trans (x_up_k _ _ _ (by decide)) e_b))))⟩, (fun j hj => by obtain ⟨q, hq, eq⟩ := hkd j hj; exact ⟨q, hq, (show M19 81 j = M 81 j from (Eq.trans (k20 81 j (by unfold WRA; omega)) (Eq.trans (congrFun (x_up_n _ _ _ (by omega)) _) (Eq.trans (congrFun (x_up_n _ _ _ (by omega)) _) (Eq.trans (congrFun (x_up_n _ _ _ (by omega)) _) rfl))))).trans eq⟩), ⟨0 + 4, by omega, hx18⟩, (fun j hj => by rw [show M19 83 j = M 83 j from (Eq.trans (k20 83 j (by unfold WRA; omega)) (Eq.trans (congrFun (x_up_n _ _ _ (by omega)) _) (Eq.trans (congrFun (x_up_n _ _ _ (by omega)) _) (Eq.trans (congrFun (x_up_n _ _ _ (by omega)) _) rfl)))), show M19 84 j = M 84 j from (Eq.trans (k20 84 j (by unfold WRA; omega)) (Eq.trans (congrFun (x_up_n _ _ _ (by omega)) _) (Eq.trans (congrFun (x_up_n _ _ _ (by omega)) _) (Eq.trans (congrFun (x_up_n _ _ _ (by omega)) _) rfl))))]; exact hsl j hj), ⟨ic, by omega, (Eq.trans (k20 62 34 (by decide)) (Eq.trans (x_up_k _ _ _ (by decide)) (Eq.trans (x_up_k _ _ _ (by decide)) (Eq.trans (x_up_k _ _ _ (by decide)) e_ic))))⟩, (fun j hj => by obtain ⟨q, hq, eq⟩ := hS j hj; exact ⟨q, hq, (show M19 75 j = M 75 j from (Eq.trans (k20 75 j (by unfold WRA; omega)) (Eq.trans (congrFun (x_up_n _ _ _ (by omega)) _) (Eq.trans (congrFun (x_up_n _ _ _ (by omega)) _) (Eq.trans (congrFun (x_up_n _ _ _ (by omega)) _) rfl))))).trans eq⟩)⟩⟩)
      refine xr_tableOut (tgt := 100) dX10_act_31 (xg_out (lo := 0) (hi := 3) (by decide) (fun j h1 h2 qq => by have h3 : j = 0 ∨ j = 1 ∨ j = 2 ∨ j = 3 := (by omega); rcases h3 with rfl | rfl | rfl | rfl <;> first | exact absurd qq w2 | exact absurd qq w7 | exact absurd qq w12 | exact absurd qq w17)) rfl ?_
      refine xr_iconst (v := 0) dX10_act_100 rfl ?_
      exact xr_iret dX10_act_101 rfl rfl (⟨_, rfl, rfl, rfl, (Ke.up (Or.inr (Or.inr (Or.inl (by omega)))) (Ke.up (Or.inr (Or.inl (by omega))) (Ke.up (Or.inl (by omega)) Ke.rf))), ⟨⟨hn, by omega, (Eq.trans (x_up_k _ _ _ (by decide)) (Eq.trans (x_up_k _ _ _ (by decide)) (Eq.trans (x_up_k _ _ _ (by decide)) e_hn))), (fun kw hkw => by rw [show (x_up (x_up (x_up M 62 39 0) 62 40 0) 62 41 (nI (h_))) 63 (5 + kw) = M 63 (5 + kw) from (Eq.trans (congrFun (x_up_n _ _ _ (by omega)) _) (Eq.trans (congrFun (x_up_n _ _ _ (by omega)) _) (Eq.trans (congrFun (x_up_n _ _ _ (by omega)) _) rfl)))]; exact hw kw hkw)⟩, (by rw [show (x_up (x_up (x_up M 62 39 0) 62 40 0) 62 41 (nI (h_))) 63 16 = M 63 16 from (Eq.trans (congrFun (x_up_n _ _ _ (by omega)) _) (Eq.trans (congrFun (x_up_n _ _ _ (by omega)) _) (Eq.trans (congrFun (x_up_n _ _ _ (by omega)) _) rfl)))]; exact hbt), ⟨un, wn, by omega, by omega, (Eq.trans (x_up_k _ _ _ (by decide)) (Eq.trans (x_up_k _ _ _ (by decide)) (Eq.trans (x_up_k _ _ _ (by decide)) e_un))), (Eq.trans (x_up_k _ _ _ (by decide)) (Eq.trans (x_up_k _ _ _ (by decide)) (Eq.trans (x_up_k _ _ _ (by decide)) e_wn)))⟩, (fun kk hkk => by rw [show (x_up (x_up (x_up M 62 39 0) 62 40 0) 62 41 (nI (h_))) 64 kk = M 64 kk from (Eq.trans (congrFun (x_up_n _ _ _ (by omega)) _) (Eq.trans (congrFun (x_up_n _ _ _ (by omega)) _) (Eq.trans (congrFun (x_up_n _ _ _ (by omega)) _) rfl))), show (x_up (x_up (x_up M 62 39 0) 62 40 0) 62 41 (nI (h_))) 65 kk = M 65 kk from (Eq.trans (congrFun (x_up_n _ _ _ (by omega)) _) (Eq.trans (congrFun (x_up_n _ _ _ (by omega)) _) (Eq.trans (congrFun (x_up_n _ _ _ (by omega)) _) rfl))), show (x_up (x_up (x_up M 62 39 0) 62 40 0) 62 41 (nI (h_))) 66 kk = M 66 kk from (Eq.trans (congrFun (x_up_n _ _ _ (by omega)) _) (Eq.trans (congrFun (x_up_n _ _ _ (by omega)) _) (Eq.trans (congrFun (x_up_n _ _ _ (by omega)) _) rfl)))]; exact hch kk hkk), ⟨n, by omega, (Eq.trans (x_up_k _ _ _ (by decide)) (Eq.trans (x_up_k _ _ _ (by decide)) (Eq.trans (x_up_k _ _ _ (by decide)) e_n)))⟩, (by rw [show (x_up (x_up (x_up M 62 39 0) 62 40 0) 62 41 (nI (h_))) 62 13 = M 62 13 from (Eq.trans (x_up_k _ _ _ (by omega)) (Eq.trans (x_up_k _ _ _ (by omega)) (Eq.trans (x_up_k _ _ _ (by omega)) rfl)))]; exact htx), ⟨b, by omega, (Eq.trans (x_up_k _ _ _ (by decide)) (Eq.trans (x_up_k _ _ _ (by decide)) (Eq.trans (x_up_k _ _ _ (by decide)) e_b)))⟩, (fun j hj => by obtain ⟨q, hq, eq⟩ := hkd j hj; exact ⟨q, hq, (show (x_up (x_up (x_up M 62 39 0) 62 40 0) 62 41 (nI (h_))) 81 j = M 81 j from (Eq.trans (congrFun (x_up_n _ _ _ (by omega)) _) (Eq.trans (congrFun (x_up_n _ _ _ (by omega)) _) (Eq.trans (congrFun (x_up_n _ _ _ (by omega)) _) rfl)))).trans eq⟩), ⟨0, by omega, (Eq.trans (x_up_k _ _ _ (by decide)) (Eq.trans (x_up_k _ _ _ (by decide)) (x_up_s _ _ _ _)))⟩, (fun j hj => by rw [show (x_up (x_up (x_up M 62 39 0) 62 40 0) 62 41 (nI (h_))) 83 j = M 83 j from (Eq.trans (congrFun (x_up_n _ _ _ (by omega)) _) (Eq.trans (congrFun (x_up_n _ _ _ (by omega)) _) (Eq.trans (congrFun (x_up_n _ _ _ (by omega)) _) rfl))), show (x_up (x_up (x_up M 62 39 0) 62 40 0) 62 41 (nI (h_))) 84 j = M 84 j from (Eq.trans (congrFun (x_up_n _ _ _ (by omega)) _) (Eq.trans (congrFun (x_up_n _ _ _ (by omega)) _) (Eq.trans (congrFun (x_up_n _ _ _ (by omega)) _) rfl)))]; exact hsl j hj), ⟨ic, by omega, (Eq.trans (x_up_k _ _ _ (by decide)) (Eq.trans (x_up_k _ _ _ (by decide)) (Eq.trans (x_up_k _ _ _ (by decide)) e_ic)))⟩, (fun j hj => by obtain ⟨q, hq, eq⟩ := hS j hj; exact ⟨q, hq, (show (x_up (x_up (x_up M 62 39 0) 62 40 0) 62 41 (nI (h_))) 75 j = M 75 j from (Eq.trans (congrFun (x_up_n _ _ _ (by omega)) _) (Eq.trans (congrFun (x_up_n _ _ _ (by omega)) _) (Eq.trans (congrFun (x_up_n _ _ _ (by omega)) _) rfl)))).trans eq⟩)⟩⟩)
    · refine xr_aload_n dX10_act_15 0 rfl ?_
      refine xr_aload_n dX10_act_16 0 rfl ?_
      refine xr_getR flX10_69 dX10_act_17 s_62 rfl ?_
      refine xr_iload_n dX10_act_20 1 rfl ?_
      refine xb_iald (j := h_) (v := 1) dX10_act_21 s_81 (by omega) (by decide) (Eq.trans (congrFun (x_up_n _ _ _ (by decide)) _) eq9) ?_
      refine xr_putI fpX10_352 dX10_act_22 s_62 rfl rfl rfl ?_
      refine xr_aload_n dX10_act_25 0 rfl ?_
      refine xr_iload_n dX10_act_26 1 rfl ?_
      refine xr_putI fpX10_346 dX10_act_27 s_62 rfl rfl rfl ?_
      refine xr_iload_n dX10_act_30 2 rfl ?_
      refine xg_eq 0 (fun w22 => ?_) (fun w22 => ?_)
      · refine xr_tableIn (tgt := 60) dX10_act_31 (by decide) (by decide) rfl rfl ?_
        refine xr_aload_n dX10_act_60 0 rfl ?_
        refine xr_aload_n dX10_act_61 0 rfl ?_
        refine xb_get (v := 1) flX10_352 dX10_act_62 s_62 rfl (Eq.trans (x_up_k _ _ _ (by decide)) (x_up_s _ _ _ _)) ?_
        refine xr_iload_n dX10_act_65 3 rfl ?_
        refine xr_callV (As := [.int (1), .int (x)]) (rest := []) mlX10_343 (ra1_pushesAs_1 (ac := h_) (ra := 0) x (by omega) (Eq.trans (x_up_k _ _ _ (by decide)) (Eq.trans (x_up_k _ _ _ (by decide)) (x_up_s _ _ _ _))) (Eq.trans (x_up_k _ _ _ (by decide)) (x_up_s _ _ _ _)) (x_up_s _ _ _ _)) dX10_act_66 s_62 rfl rfl (Nat.le_of_ble_eq_true rfl) (by decide) ⟨by decide, by decide⟩ (fun v s2 M24 J2 hq => ?_)
        obtain ⟨r26, rfl, rfl, rfl, k25, ⟨_, hx23⟩⟩ := hq
        try dsimp only [Option.toList, List.cons_append, List.nil_append]
        exact xr_iret dX10_act_69 rfl rfl (⟨_, rfl, rfl, rfl, (Ke.tr (fun pp kk => (fun hh => Or.elim hh (fun h => (Or.inl h)) (fun h => (Or.inr (Or.inr (Or.inr h)))))) (Ke.up (Or.inr (Or.inr (Or.inl (by omega)))) (Ke.up (Or.inr (Or.inl (by omega))) (Ke.up (Or.inl (by omega)) Ke.rf))) k25), ⟨⟨hn, by omega, (Eq.trans (k25 62 6 (by decide)) (Eq.trans (x_up_k _ _ _ (by decide)) (Eq.trans (x_up_k _ _ _ (by decide)) (Eq.trans (x_up_k _ _ _ (by decide)) e_hn)))), (fun kw hkw => by rw [show M24 63 (5 + kw) = M 63 (5 + kw) from (Eq.trans (k25 63 (5 + kw) (by unfold WRA; omega)) (Eq.trans (congrFun (x_up_n _ _ _ (by omega)) _) (Eq.trans (congrFun (x_up_n _ _ _ (by omega)) _) (Eq.trans (congrFun (x_up_n _ _ _ (by omega)) _) rfl))))]; exact hw kw hkw)⟩, (by rw [show M24 63 16 = M 63 16 from (Eq.trans (k25 63 16 (by unfold WRA; omega)) (Eq.trans (congrFun (x_up_n _ _ _ (by omega)) _) (Eq.trans (congrFun (x_up_n _ _ _ (by omega)) _) (Eq.trans (congrFun (x_up_n _ _ _ (by omega)) _) rfl))))]; exact hbt), ⟨un, wn, by omega, by omega, (Eq.trans (k25 62 5 (by decide)) (Eq.trans (x_up_k _ _ _ (by decide)) (Eq.trans (x_up_k _ _ _ (by decide)) (Eq.trans (x_up_k _ _ _ (by decide)) e_un)))), (Eq.trans (k25 62 4 (by decide)) (Eq.trans (x_up_k _ _ _ (by decide)) (Eq.trans (x_up_k _ _ _ (by decide)) (Eq.trans (x_up_k _ _ _ (by decide)) e_wn))))⟩, (fun kk hkk => by rw [show M24 64 kk = M 64 kk from (Eq.trans (k25 64 kk (by unfold WRA; omega)) (Eq.trans (congrFun (x_up_n _ _ _ (by omega)) _) (Eq.trans (congrFun (x_up_n _ _ _ (by omega)) _) (Eq.trans (congrFun (x_up_n _ _ _ (by omega)) _) rfl)))), show M24 65 kk = M 65 kk from (Eq.trans (k25 65 kk (by unfold WRA; omega)) (Eq.trans (congrFun (x_up_n _ _ _ (by omega)) _) (Eq.trans (congrFun (x_up_n _ _ _ (by omega)) _) (Eq.trans (congrFun (x_up_n _ _ _ (by omega)) _) rfl)))), show M24 66 kk = M 66 kk from (Eq.trans (k25 66 kk (by unfold WRA; omega)) (Eq.trans (congrFun (x_up_n _ _ _ (by omega)) _) (Eq.trans (congrFun (x_up_n _ _ _ (by omega)) _) (Eq.trans (congrFun (x_up_n _ _ _ (by omega)) _) rfl))))]; exact hch kk hkk), ⟨n, by omega, (Eq.trans (k25 62 11 (by decide)) (Eq.trans (x_up_k _ _ _ (by decide)) (Eq.trans (x_up_k _ _ _ (by decide)) (Eq.trans (x_up_k _ _ _ (by decide)) e_n))))⟩, (by rw [show M24 62 13 = M 62 13 from (Eq.trans (k25 62 13 (by unfold WRA; omega)) (Eq.trans (x_up_k _ _ _ (by omega)) (Eq.trans (x_up_k _ _ _ (by omega)) (Eq.trans (x_up_k _ _ _ (by omega)) rfl))))]; exact htx), ⟨b, by omega, (Eq.trans (k25 62 36 (by decide)) (Eq.trans (x_up_k _ _ _ (by decide)) (Eq.trans (x_up_k _ _ _ (by decide)) (Eq.trans (x_up_k _ _ _ (by decide)) e_b))))⟩, (fun j hj => by obtain ⟨q, hq, eq⟩ := hkd j hj; exact ⟨q, hq, (show M24 81 j = M 81 j from (Eq.trans (k25 81 j (by unfold WRA; omega)) (Eq.trans (congrFun (x_up_n _ _ _ (by omega)) _) (Eq.trans (congrFun (x_up_n _ _ _ (by omega)) _) (Eq.trans (congrFun (x_up_n _ _ _ (by omega)) _) rfl))))).trans eq⟩), ⟨0 + 2, by omega, hx23⟩, (fun j hj => by rw [show M24 83 j = M 83 j from (Eq.trans (k25 83 j (by unfold WRA; omega)) (Eq.trans (congrFun (x_up_n _ _ _ (by omega)) _) (Eq.trans (congrFun (x_up_n _ _ _ (by omega)) _) (Eq.trans (congrFun (x_up_n _ _ _ (by omega)) _) rfl)))), show M24 84 j = M 84 j from (Eq.trans (k25 84 j (by unfold WRA; omega)) (Eq.trans (congrFun (x_up_n _ _ _ (by omega)) _) (Eq.trans (congrFun (x_up_n _ _ _ (by omega)) _) (Eq.trans (congrFun (x_up_n _ _ _ (by omega)) _) rfl))))]; exact hsl j hj), ⟨ic, by omega, (Eq.trans (k25 62 34 (by decide)) (Eq.trans (x_up_k _ _ _ (by decide)) (Eq.trans (x_up_k _ _ _ (by decide)) (Eq.trans (x_up_k _ _ _ (by decide)) e_ic))))⟩, (fun j hj => by obtain ⟨q, hq, eq⟩ := hS j hj; exact ⟨q, hq, (show M24 75 j = M 75 j from (Eq.trans (k25 75 j (by unfold WRA; omega)) (Eq.trans (congrFun (x_up_n _ _ _ (by omega)) _) (Eq.trans (congrFun (x_up_n _ _ _ (by omega)) _) (Eq.trans (congrFun (x_up_n _ _ _ (by omega)) _) rfl))))).trans eq⟩)⟩⟩)
      refine xg_eq 1 (fun w27 => ?_) (fun w27 => ?_)
      · refine xr_tableIn (tgt := 70) dX10_act_31 (by decide) (by decide) rfl rfl ?_
        refine xr_aload_n dX10_act_70 0 rfl ?_
        refine xr_aload_n dX10_act_71 0 rfl ?_
        refine xb_get (v := 1) flX10_352 dX10_act_72 s_62 rfl (Eq.trans (x_up_k _ _ _ (by decide)) (x_up_s _ _ _ _)) ?_
        refine xr_iload_n dX10_act_75 3 rfl ?_
        refine xr_callV (As := [.int (1), .int (x)]) (rest := []) mlX10_349 (ra1_turnsAs_1 (ac := h_) (ra := 0) x (by omega) (Eq.trans (x_up_k _ _ _ (by decide)) (Eq.trans (x_up_k _ _ _ (by decide)) (x_up_s _ _ _ _))) (Eq.trans (x_up_k _ _ _ (by decide)) (x_up_s _ _ _ _)) (x_up_s _ _ _ _)) dX10_act_76 s_62 rfl rfl (Nat.le_of_ble_eq_true rfl) (by decide) ⟨by decide, by decide⟩ (fun v s2 M29 J2 hq => ?_)
        obtain ⟨r31, rfl, rfl, rfl, k30, ⟨_, hx28⟩⟩ := hq
        try dsimp only [Option.toList, List.cons_append, List.nil_append]
        exact xr_iret dX10_act_79 rfl rfl (⟨_, rfl, rfl, rfl, (Ke.tr (fun pp kk => (fun hh => Or.elim hh (fun h => (Or.inl h)) (fun h => (Or.inr (Or.inr (Or.inr h)))))) (Ke.up (Or.inr (Or.inr (Or.inl (by omega)))) (Ke.up (Or.inr (Or.inl (by omega))) (Ke.up (Or.inl (by omega)) Ke.rf))) k30), ⟨⟨hn, by omega, (Eq.trans (k30 62 6 (by decide)) (Eq.trans (x_up_k _ _ _ (by decide)) (Eq.trans (x_up_k _ _ _ (by decide)) (Eq.trans (x_up_k _ _ _ (by decide)) e_hn)))), (fun kw hkw => by rw [show M29 63 (5 + kw) = M 63 (5 + kw) from (Eq.trans (k30 63 (5 + kw) (by unfold WRA; omega)) (Eq.trans (congrFun (x_up_n _ _ _ (by omega)) _) (Eq.trans (congrFun (x_up_n _ _ _ (by omega)) _) (Eq.trans (congrFun (x_up_n _ _ _ (by omega)) _) rfl))))]; exact hw kw hkw)⟩, (by rw [show M29 63 16 = M 63 16 from (Eq.trans (k30 63 16 (by unfold WRA; omega)) (Eq.trans (congrFun (x_up_n _ _ _ (by omega)) _) (Eq.trans (congrFun (x_up_n _ _ _ (by omega)) _) (Eq.trans (congrFun (x_up_n _ _ _ (by omega)) _) rfl))))]; exact hbt), ⟨un, wn, by omega, by omega, (Eq.trans (k30 62 5 (by decide)) (Eq.trans (x_up_k _ _ _ (by decide)) (Eq.trans (x_up_k _ _ _ (by decide)) (Eq.trans (x_up_k _ _ _ (by decide)) e_un)))), (Eq.trans (k30 62 4 (by decide)) (Eq.trans (x_up_k _ _ _ (by decide)) (Eq.trans (x_up_k _ _ _ (by decide)) (Eq.trans (x_up_k _ _ _ (by decide)) e_wn))))⟩, (fun kk hkk => by rw [show M29 64 kk = M 64 kk from (Eq.trans (k30 64 kk (by unfold WRA; omega)) (Eq.trans (congrFun (x_up_n _ _ _ (by omega)) _) (Eq.trans (congrFun (x_up_n _ _ _ (by omega)) _) (Eq.trans (congrFun (x_up_n _ _ _ (by omega)) _) rfl)))), show M29 65 kk = M 65 kk from (Eq.trans (k30 65 kk (by unfold WRA; omega)) (Eq.trans (congrFun (x_up_n _ _ _ (by omega)) _) (Eq.trans (congrFun (x_up_n _ _ _ (by omega)) _) (Eq.trans (congrFun (x_up_n _ _ _ (by omega)) _) rfl)))), show M29 66 kk = M 66 kk from (Eq.trans (k30 66 kk (by unfold WRA; omega)) (Eq.trans (congrFun (x_up_n _ _ _ (by omega)) _) (Eq.trans (congrFun (x_up_n _ _ _ (by omega)) _) (Eq.trans (congrFun (x_up_n _ _ _ (by omega)) _) rfl))))]; exact hch kk hkk), ⟨n, by omega, (Eq.trans (k30 62 11 (by decide)) (Eq.trans (x_up_k _ _ _ (by decide)) (Eq.trans (x_up_k _ _ _ (by decide)) (Eq.trans (x_up_k _ _ _ (by decide)) e_n))))⟩, (by rw [show M29 62 13 = M 62 13 from (Eq.trans (k30 62 13 (by unfold WRA; omega)) (Eq.trans (x_up_k _ _ _ (by omega)) (Eq.trans (x_up_k _ _ _ (by omega)) (Eq.trans (x_up_k _ _ _ (by omega)) rfl))))]; exact htx), ⟨b, by omega, (Eq.trans (k30 62 36 (by decide)) (Eq.trans (x_up_k _ _ _ (by decide)) (Eq.trans (x_up_k _ _ _ (by decide)) (Eq.trans (x_up_k _ _ _ (by decide)) e_b))))⟩, (fun j hj => by obtain ⟨q, hq, eq⟩ := hkd j hj; exact ⟨q, hq, (show M29 81 j = M 81 j from (Eq.trans (k30 81 j (by unfold WRA; omega)) (Eq.trans (congrFun (x_up_n _ _ _ (by omega)) _) (Eq.trans (congrFun (x_up_n _ _ _ (by omega)) _) (Eq.trans (congrFun (x_up_n _ _ _ (by omega)) _) rfl))))).trans eq⟩), ⟨0 + 3, by omega, hx28⟩, (fun j hj => by rw [show M29 83 j = M 83 j from (Eq.trans (k30 83 j (by unfold WRA; omega)) (Eq.trans (congrFun (x_up_n _ _ _ (by omega)) _) (Eq.trans (congrFun (x_up_n _ _ _ (by omega)) _) (Eq.trans (congrFun (x_up_n _ _ _ (by omega)) _) rfl)))), show M29 84 j = M 84 j from (Eq.trans (k30 84 j (by unfold WRA; omega)) (Eq.trans (congrFun (x_up_n _ _ _ (by omega)) _) (Eq.trans (congrFun (x_up_n _ _ _ (by omega)) _) (Eq.trans (congrFun (x_up_n _ _ _ (by omega)) _) rfl))))]; exact hsl j hj), ⟨ic, by omega, (Eq.trans (k30 62 34 (by decide)) (Eq.trans (x_up_k _ _ _ (by decide)) (Eq.trans (x_up_k _ _ _ (by decide)) (Eq.trans (x_up_k _ _ _ (by decide)) e_ic))))⟩, (fun j hj => by obtain ⟨q, hq, eq⟩ := hS j hj; exact ⟨q, hq, (show M29 75 j = M 75 j from (Eq.trans (k30 75 j (by unfold WRA; omega)) (Eq.trans (congrFun (x_up_n _ _ _ (by omega)) _) (Eq.trans (congrFun (x_up_n _ _ _ (by omega)) _) (Eq.trans (congrFun (x_up_n _ _ _ (by omega)) _) rfl))))).trans eq⟩)⟩⟩)
      refine xg_eq 2 (fun w32 => ?_) (fun w32 => ?_)
      · refine xr_tableIn (tgt := 80) dX10_act_31 (by decide) (by decide) rfl rfl ?_
        refine xr_aload_n dX10_act_80 0 rfl ?_
        refine xr_aload_n dX10_act_81 0 rfl ?_
        refine xb_get (v := 1) flX10_352 dX10_act_82 s_62 rfl (Eq.trans (x_up_k _ _ _ (by decide)) (x_up_s _ _ _ _)) ?_
        refine xr_iload_n dX10_act_85 3 rfl ?_
        refine xr_callV (As := [.int (1), .int (x)]) (rest := []) mlX10_355 (ra1_sinksAs_1 (ac := h_) (ra := 0) x (by omega) (Eq.trans (x_up_k _ _ _ (by decide)) (Eq.trans (x_up_k _ _ _ (by decide)) (x_up_s _ _ _ _))) (Eq.trans (x_up_k _ _ _ (by decide)) (x_up_s _ _ _ _)) (x_up_s _ _ _ _)) dX10_act_86 s_62 rfl rfl (Nat.le_of_ble_eq_true rfl) (by decide) ⟨by decide, by decide⟩ (fun v s2 M34 J2 hq => ?_)
        obtain ⟨r36, rfl, rfl, rfl, k35, ⟨_, hx33⟩⟩ := hq
        try dsimp only [Option.toList, List.cons_append, List.nil_append]
        exact xr_iret dX10_act_89 rfl rfl (⟨_, rfl, rfl, rfl, (Ke.tr (fun pp kk => (fun hh => Or.elim hh (fun h => (Or.inl h)) (fun h => (Or.inr (Or.inr (Or.inr h)))))) (Ke.up (Or.inr (Or.inr (Or.inl (by omega)))) (Ke.up (Or.inr (Or.inl (by omega))) (Ke.up (Or.inl (by omega)) Ke.rf))) k35), ⟨⟨hn, by omega, (Eq.trans (k35 62 6 (by decide)) (Eq.trans (x_up_k _ _ _ (by decide)) (Eq.trans (x_up_k _ _ _ (by decide)) (Eq.trans (x_up_k _ _ _ (by decide)) e_hn)))), (fun kw hkw => by rw [show M34 63 (5 + kw) = M 63 (5 + kw) from (Eq.trans (k35 63 (5 + kw) (by unfold WRA; omega)) (Eq.trans (congrFun (x_up_n _ _ _ (by omega)) _) (Eq.trans (congrFun (x_up_n _ _ _ (by omega)) _) (Eq.trans (congrFun (x_up_n _ _ _ (by omega)) _) rfl))))]; exact hw kw hkw)⟩, (by rw [show M34 63 16 = M 63 16 from (Eq.trans (k35 63 16 (by unfold WRA; omega)) (Eq.trans (congrFun (x_up_n _ _ _ (by omega)) _) (Eq.trans (congrFun (x_up_n _ _ _ (by omega)) _) (Eq.trans (congrFun (x_up_n _ _ _ (by omega)) _) rfl))))]; exact hbt), ⟨un, wn, by omega, by omega, (Eq.trans (k35 62 5 (by decide)) (Eq.trans (x_up_k _ _ _ (by decide)) (Eq.trans (x_up_k _ _ _ (by decide)) (Eq.trans (x_up_k _ _ _ (by decide)) e_un)))), (Eq.trans (k35 62 4 (by decide)) (Eq.trans (x_up_k _ _ _ (by decide)) (Eq.trans (x_up_k _ _ _ (by decide)) (Eq.trans (x_up_k _ _ _ (by decide)) e_wn))))⟩, (fun kk hkk => by rw [show M34 64 kk = M 64 kk from (Eq.trans (k35 64 kk (by unfold WRA; omega)) (Eq.trans (congrFun (x_up_n _ _ _ (by omega)) _) (Eq.trans (congrFun (x_up_n _ _ _ (by omega)) _) (Eq.trans (congrFun (x_up_n _ _ _ (by omega)) _) rfl)))), show M34 65 kk = M 65 kk from (Eq.trans (k35 65 kk (by unfold WRA; omega)) (Eq.trans (congrFun (x_up_n _ _ _ (by omega)) _) (Eq.trans (congrFun (x_up_n _ _ _ (by omega)) _) (Eq.trans (congrFun (x_up_n _ _ _ (by omega)) _) rfl)))), show M34 66 kk = M 66 kk from (Eq.trans (k35 66 kk (by unfold WRA; omega)) (Eq.trans (congrFun (x_up_n _ _ _ (by omega)) _) (Eq.trans (congrFun (x_up_n _ _ _ (by omega)) _) (Eq.trans (congrFun (x_up_n _ _ _ (by omega)) _) rfl))))]; exact hch kk hkk), ⟨n, by omega, (Eq.trans (k35 62 11 (by decide)) (Eq.trans (x_up_k _ _ _ (by decide)) (Eq.trans (x_up_k _ _ _ (by decide)) (Eq.trans (x_up_k _ _ _ (by decide)) e_n))))⟩, (by rw [show M34 62 13 = M 62 13 from (Eq.trans (k35 62 13 (by unfold WRA; omega)) (Eq.trans (x_up_k _ _ _ (by omega)) (Eq.trans (x_up_k _ _ _ (by omega)) (Eq.trans (x_up_k _ _ _ (by omega)) rfl))))]; exact htx), ⟨b, by omega, (Eq.trans (k35 62 36 (by decide)) (Eq.trans (x_up_k _ _ _ (by decide)) (Eq.trans (x_up_k _ _ _ (by decide)) (Eq.trans (x_up_k _ _ _ (by decide)) e_b))))⟩, (fun j hj => by obtain ⟨q, hq, eq⟩ := hkd j hj; exact ⟨q, hq, (show M34 81 j = M 81 j from (Eq.trans (k35 81 j (by unfold WRA; omega)) (Eq.trans (congrFun (x_up_n _ _ _ (by omega)) _) (Eq.trans (congrFun (x_up_n _ _ _ (by omega)) _) (Eq.trans (congrFun (x_up_n _ _ _ (by omega)) _) rfl))))).trans eq⟩), ⟨0 + 1, by omega, hx33⟩, (fun j hj => by rw [show M34 83 j = M 83 j from (Eq.trans (k35 83 j (by unfold WRA; omega)) (Eq.trans (congrFun (x_up_n _ _ _ (by omega)) _) (Eq.trans (congrFun (x_up_n _ _ _ (by omega)) _) (Eq.trans (congrFun (x_up_n _ _ _ (by omega)) _) rfl)))), show M34 84 j = M 84 j from (Eq.trans (k35 84 j (by unfold WRA; omega)) (Eq.trans (congrFun (x_up_n _ _ _ (by omega)) _) (Eq.trans (congrFun (x_up_n _ _ _ (by omega)) _) (Eq.trans (congrFun (x_up_n _ _ _ (by omega)) _) rfl))))]; exact hsl j hj), ⟨ic, by omega, (Eq.trans (k35 62 34 (by decide)) (Eq.trans (x_up_k _ _ _ (by decide)) (Eq.trans (x_up_k _ _ _ (by decide)) (Eq.trans (x_up_k _ _ _ (by decide)) e_ic))))⟩, (fun j hj => by obtain ⟨q, hq, eq⟩ := hS j hj; exact ⟨q, hq, (show M34 75 j = M 75 j from (Eq.trans (k35 75 j (by unfold WRA; omega)) (Eq.trans (congrFun (x_up_n _ _ _ (by omega)) _) (Eq.trans (congrFun (x_up_n _ _ _ (by omega)) _) (Eq.trans (congrFun (x_up_n _ _ _ (by omega)) _) rfl))))).trans eq⟩)⟩⟩)
      refine xg_eq 3 (fun w37 => ?_) (fun w37 => ?_)
      · refine xr_tableIn (tgt := 90) dX10_act_31 (by decide) (by decide) rfl rfl ?_
        refine xr_aload_n dX10_act_90 0 rfl ?_
        refine xr_aload_n dX10_act_91 0 rfl ?_
        refine xb_get (v := 1) flX10_352 dX10_act_92 s_62 rfl (Eq.trans (x_up_k _ _ _ (by decide)) (x_up_s _ _ _ _)) ?_
        refine xr_iload_n dX10_act_95 3 rfl ?_
        refine xr_callV (As := [.int (1), .int (x)]) (rest := []) mlX10_358 (ra1_tellsAs_1 (ac := h_) (ra := 0) x (by omega) (Eq.trans (x_up_k _ _ _ (by decide)) (Eq.trans (x_up_k _ _ _ (by decide)) (x_up_s _ _ _ _))) (Eq.trans (x_up_k _ _ _ (by decide)) (x_up_s _ _ _ _)) (x_up_s _ _ _ _)) dX10_act_96 s_62 rfl rfl (Nat.le_of_ble_eq_true rfl) (by decide) ⟨by decide, by decide⟩ (fun v s2 M39 J2 hq => ?_)
        obtain ⟨r41, rfl, rfl, rfl, k40, ⟨_, hx38⟩⟩ := hq
        try dsimp only [Option.toList, List.cons_append, List.nil_append]
        exact xr_iret dX10_act_99 rfl rfl (⟨_, rfl, rfl, rfl, (Ke.tr (fun pp kk => (fun hh => Or.elim hh (fun h => (Or.inl h)) (fun h => (Or.inr (Or.inr (Or.inr h)))))) (Ke.up (Or.inr (Or.inr (Or.inl (by omega)))) (Ke.up (Or.inr (Or.inl (by omega))) (Ke.up (Or.inl (by omega)) Ke.rf))) k40), ⟨⟨hn, by omega, (Eq.trans (k40 62 6 (by decide)) (Eq.trans (x_up_k _ _ _ (by decide)) (Eq.trans (x_up_k _ _ _ (by decide)) (Eq.trans (x_up_k _ _ _ (by decide)) e_hn)))), (fun kw hkw => by rw [show M39 63 (5 + kw) = M 63 (5 + kw) from (Eq.trans (k40 63 (5 + kw) (by unfold WRA; omega)) (Eq.trans (congrFun (x_up_n _ _ _ (by omega)) _) (Eq.trans (congrFun (x_up_n _ _ _ (by omega)) _) (Eq.trans (congrFun (x_up_n _ _ _ (by omega)) _) rfl))))]; exact hw kw hkw)⟩, (by rw [show M39 63 16 = M 63 16 from (Eq.trans (k40 63 16 (by unfold WRA; omega)) (Eq.trans (congrFun (x_up_n _ _ _ (by omega)) _) (Eq.trans (congrFun (x_up_n _ _ _ (by omega)) _) (Eq.trans (congrFun (x_up_n _ _ _ (by omega)) _) rfl))))]; exact hbt), ⟨un, wn, by omega, by omega, (Eq.trans (k40 62 5 (by decide)) (Eq.trans (x_up_k _ _ _ (by decide)) (Eq.trans (x_up_k _ _ _ (by decide)) (Eq.trans (x_up_k _ _ _ (by decide)) e_un)))), (Eq.trans (k40 62 4 (by decide)) (Eq.trans (x_up_k _ _ _ (by decide)) (Eq.trans (x_up_k _ _ _ (by decide)) (Eq.trans (x_up_k _ _ _ (by decide)) e_wn))))⟩, (fun kk hkk => by rw [show M39 64 kk = M 64 kk from (Eq.trans (k40 64 kk (by unfold WRA; omega)) (Eq.trans (congrFun (x_up_n _ _ _ (by omega)) _) (Eq.trans (congrFun (x_up_n _ _ _ (by omega)) _) (Eq.trans (congrFun (x_up_n _ _ _ (by omega)) _) rfl)))), show M39 65 kk = M 65 kk from (Eq.trans (k40 65 kk (by unfold WRA; omega)) (Eq.trans (congrFun (x_up_n _ _ _ (by omega)) _) (Eq.trans (congrFun (x_up_n _ _ _ (by omega)) _) (Eq.trans (congrFun (x_up_n _ _ _ (by omega)) _) rfl)))), show M39 66 kk = M 66 kk from (Eq.trans (k40 66 kk (by unfold WRA; omega)) (Eq.trans (congrFun (x_up_n _ _ _ (by omega)) _) (Eq.trans (congrFun (x_up_n _ _ _ (by omega)) _) (Eq.trans (congrFun (x_up_n _ _ _ (by omega)) _) rfl))))]; exact hch kk hkk), ⟨n, by omega, (Eq.trans (k40 62 11 (by decide)) (Eq.trans (x_up_k _ _ _ (by decide)) (Eq.trans (x_up_k _ _ _ (by decide)) (Eq.trans (x_up_k _ _ _ (by decide)) e_n))))⟩, (by rw [show M39 62 13 = M 62 13 from (Eq.trans (k40 62 13 (by unfold WRA; omega)) (Eq.trans (x_up_k _ _ _ (by omega)) (Eq.trans (x_up_k _ _ _ (by omega)) (Eq.trans (x_up_k _ _ _ (by omega)) rfl))))]; exact htx), ⟨b, by omega, (Eq.trans (k40 62 36 (by decide)) (Eq.trans (x_up_k _ _ _ (by decide)) (Eq.trans (x_up_k _ _ _ (by decide)) (Eq.trans (x_up_k _ _ _ (by decide)) e_b))))⟩, (fun j hj => by obtain ⟨q, hq, eq⟩ := hkd j hj; exact ⟨q, hq, (show M39 81 j = M 81 j from (Eq.trans (k40 81 j (by unfold WRA; omega)) (Eq.trans (congrFun (x_up_n _ _ _ (by omega)) _) (Eq.trans (congrFun (x_up_n _ _ _ (by omega)) _) (Eq.trans (congrFun (x_up_n _ _ _ (by omega)) _) rfl))))).trans eq⟩), ⟨0 + 5, by omega, hx38⟩, (fun j hj => by rw [show M39 83 j = M 83 j from (Eq.trans (k40 83 j (by unfold WRA; omega)) (Eq.trans (congrFun (x_up_n _ _ _ (by omega)) _) (Eq.trans (congrFun (x_up_n _ _ _ (by omega)) _) (Eq.trans (congrFun (x_up_n _ _ _ (by omega)) _) rfl)))), show M39 84 j = M 84 j from (Eq.trans (k40 84 j (by unfold WRA; omega)) (Eq.trans (congrFun (x_up_n _ _ _ (by omega)) _) (Eq.trans (congrFun (x_up_n _ _ _ (by omega)) _) (Eq.trans (congrFun (x_up_n _ _ _ (by omega)) _) rfl))))]; exact hsl j hj), ⟨ic, by omega, (Eq.trans (k40 62 34 (by decide)) (Eq.trans (x_up_k _ _ _ (by decide)) (Eq.trans (x_up_k _ _ _ (by decide)) (Eq.trans (x_up_k _ _ _ (by decide)) e_ic))))⟩, (fun j hj => by obtain ⟨q, hq, eq⟩ := hS j hj; exact ⟨q, hq, (show M39 75 j = M 75 j from (Eq.trans (k40 75 j (by unfold WRA; omega)) (Eq.trans (congrFun (x_up_n _ _ _ (by omega)) _) (Eq.trans (congrFun (x_up_n _ _ _ (by omega)) _) (Eq.trans (congrFun (x_up_n _ _ _ (by omega)) _) rfl))))).trans eq⟩)⟩⟩)
      refine xr_tableOut (tgt := 100) dX10_act_31 (xg_out (lo := 0) (hi := 3) (by decide) (fun j h1 h2 qq => by have h3 : j = 0 ∨ j = 1 ∨ j = 2 ∨ j = 3 := (by omega); rcases h3 with rfl | rfl | rfl | rfl <;> first | exact absurd qq w22 | exact absurd qq w27 | exact absurd qq w32 | exact absurd qq w37)) rfl ?_
      refine xr_iconst (v := 0) dX10_act_100 rfl ?_
      exact xr_iret dX10_act_101 rfl rfl (⟨_, rfl, rfl, rfl, (Ke.up (Or.inr (Or.inr (Or.inl (by omega)))) (Ke.up (Or.inr (Or.inl (by omega))) (Ke.up (Or.inl (by omega)) Ke.rf))), ⟨⟨hn, by omega, (Eq.trans (x_up_k _ _ _ (by decide)) (Eq.trans (x_up_k _ _ _ (by decide)) (Eq.trans (x_up_k _ _ _ (by decide)) e_hn))), (fun kw hkw => by rw [show (x_up (x_up (x_up M 62 39 0) 62 40 1) 62 41 (nI (h_))) 63 (5 + kw) = M 63 (5 + kw) from (Eq.trans (congrFun (x_up_n _ _ _ (by omega)) _) (Eq.trans (congrFun (x_up_n _ _ _ (by omega)) _) (Eq.trans (congrFun (x_up_n _ _ _ (by omega)) _) rfl)))]; exact hw kw hkw)⟩, (by rw [show (x_up (x_up (x_up M 62 39 0) 62 40 1) 62 41 (nI (h_))) 63 16 = M 63 16 from (Eq.trans (congrFun (x_up_n _ _ _ (by omega)) _) (Eq.trans (congrFun (x_up_n _ _ _ (by omega)) _) (Eq.trans (congrFun (x_up_n _ _ _ (by omega)) _) rfl)))]; exact hbt), ⟨un, wn, by omega, by omega, (Eq.trans (x_up_k _ _ _ (by decide)) (Eq.trans (x_up_k _ _ _ (by decide)) (Eq.trans (x_up_k _ _ _ (by decide)) e_un))), (Eq.trans (x_up_k _ _ _ (by decide)) (Eq.trans (x_up_k _ _ _ (by decide)) (Eq.trans (x_up_k _ _ _ (by decide)) e_wn)))⟩, (fun kk hkk => by rw [show (x_up (x_up (x_up M 62 39 0) 62 40 1) 62 41 (nI (h_))) 64 kk = M 64 kk from (Eq.trans (congrFun (x_up_n _ _ _ (by omega)) _) (Eq.trans (congrFun (x_up_n _ _ _ (by omega)) _) (Eq.trans (congrFun (x_up_n _ _ _ (by omega)) _) rfl))), show (x_up (x_up (x_up M 62 39 0) 62 40 1) 62 41 (nI (h_))) 65 kk = M 65 kk from (Eq.trans (congrFun (x_up_n _ _ _ (by omega)) _) (Eq.trans (congrFun (x_up_n _ _ _ (by omega)) _) (Eq.trans (congrFun (x_up_n _ _ _ (by omega)) _) rfl))), show (x_up (x_up (x_up M 62 39 0) 62 40 1) 62 41 (nI (h_))) 66 kk = M 66 kk from (Eq.trans (congrFun (x_up_n _ _ _ (by omega)) _) (Eq.trans (congrFun (x_up_n _ _ _ (by omega)) _) (Eq.trans (congrFun (x_up_n _ _ _ (by omega)) _) rfl)))]; exact hch kk hkk), ⟨n, by omega, (Eq.trans (x_up_k _ _ _ (by decide)) (Eq.trans (x_up_k _ _ _ (by decide)) (Eq.trans (x_up_k _ _ _ (by decide)) e_n)))⟩, (by rw [show (x_up (x_up (x_up M 62 39 0) 62 40 1) 62 41 (nI (h_))) 62 13 = M 62 13 from (Eq.trans (x_up_k _ _ _ (by omega)) (Eq.trans (x_up_k _ _ _ (by omega)) (Eq.trans (x_up_k _ _ _ (by omega)) rfl)))]; exact htx), ⟨b, by omega, (Eq.trans (x_up_k _ _ _ (by decide)) (Eq.trans (x_up_k _ _ _ (by decide)) (Eq.trans (x_up_k _ _ _ (by decide)) e_b)))⟩, (fun j hj => by obtain ⟨q, hq, eq⟩ := hkd j hj; exact ⟨q, hq, (show (x_up (x_up (x_up M 62 39 0) 62 40 1) 62 41 (nI (h_))) 81 j = M 81 j from (Eq.trans (congrFun (x_up_n _ _ _ (by omega)) _) (Eq.trans (congrFun (x_up_n _ _ _ (by omega)) _) (Eq.trans (congrFun (x_up_n _ _ _ (by omega)) _) rfl)))).trans eq⟩), ⟨0, by omega, (Eq.trans (x_up_k _ _ _ (by decide)) (Eq.trans (x_up_k _ _ _ (by decide)) (x_up_s _ _ _ _)))⟩, (fun j hj => by rw [show (x_up (x_up (x_up M 62 39 0) 62 40 1) 62 41 (nI (h_))) 83 j = M 83 j from (Eq.trans (congrFun (x_up_n _ _ _ (by omega)) _) (Eq.trans (congrFun (x_up_n _ _ _ (by omega)) _) (Eq.trans (congrFun (x_up_n _ _ _ (by omega)) _) rfl))), show (x_up (x_up (x_up M 62 39 0) 62 40 1) 62 41 (nI (h_))) 84 j = M 84 j from (Eq.trans (congrFun (x_up_n _ _ _ (by omega)) _) (Eq.trans (congrFun (x_up_n _ _ _ (by omega)) _) (Eq.trans (congrFun (x_up_n _ _ _ (by omega)) _) rfl)))]; exact hsl j hj), ⟨ic, by omega, (Eq.trans (x_up_k _ _ _ (by decide)) (Eq.trans (x_up_k _ _ _ (by decide)) (Eq.trans (x_up_k _ _ _ (by decide)) e_ic)))⟩, (fun j hj => by obtain ⟨q, hq, eq⟩ := hS j hj; exact ⟨q, hq, (show (x_up (x_up (x_up M 62 39 0) 62 40 1) 62 41 (nI (h_))) 75 j = M 75 j from (Eq.trans (congrFun (x_up_n _ _ _ (by omega)) _) (Eq.trans (congrFun (x_up_n _ _ _ (by omega)) _) (Eq.trans (congrFun (x_up_n _ _ _ (by omega)) _) rfl)))).trans eq⟩)⟩⟩)
    · refine xr_aload_n dX10_act_15 0 rfl ?_
      refine xr_aload_n dX10_act_16 0 rfl ?_
      refine xr_getR flX10_69 dX10_act_17 s_62 rfl ?_
      refine xr_iload_n dX10_act_20 1 rfl ?_
      refine xb_iald (j := h_) (v := 2) dX10_act_21 s_81 (by omega) (by decide) (Eq.trans (congrFun (x_up_n _ _ _ (by decide)) _) eq9) ?_
      refine xr_putI fpX10_352 dX10_act_22 s_62 rfl rfl rfl ?_
      refine xr_aload_n dX10_act_25 0 rfl ?_
      refine xr_iload_n dX10_act_26 1 rfl ?_
      refine xr_putI fpX10_346 dX10_act_27 s_62 rfl rfl rfl ?_
      refine xr_iload_n dX10_act_30 2 rfl ?_
      refine xg_eq 0 (fun w42 => ?_) (fun w42 => ?_)
      · refine xr_tableIn (tgt := 60) dX10_act_31 (by decide) (by decide) rfl rfl ?_
        refine xr_aload_n dX10_act_60 0 rfl ?_
        refine xr_aload_n dX10_act_61 0 rfl ?_
        refine xb_get (v := 2) flX10_352 dX10_act_62 s_62 rfl (Eq.trans (x_up_k _ _ _ (by decide)) (x_up_s _ _ _ _)) ?_
        refine xr_iload_n dX10_act_65 3 rfl ?_
        refine xr_callV (As := [.int (2), .int (x)]) (rest := []) mlX10_343 (ra2_pushesAs_2 (ac := h_) (ra := 0) x (by omega) (Eq.trans (x_up_k _ _ _ (by decide)) (Eq.trans (x_up_k _ _ _ (by decide)) (x_up_s _ _ _ _))) (Eq.trans (x_up_k _ _ _ (by decide)) (x_up_s _ _ _ _)) (x_up_s _ _ _ _)) dX10_act_66 s_62 rfl rfl (Nat.le_of_ble_eq_true rfl) (by decide) ⟨by decide, by decide⟩ (fun v s2 M44 J2 hq => ?_)
        obtain ⟨r46, rfl, rfl, rfl, k45, ⟨_, hx43⟩⟩ := hq
        try dsimp only [Option.toList, List.cons_append, List.nil_append]
        exact xr_iret dX10_act_69 rfl rfl (⟨_, rfl, rfl, rfl, (Ke.tr (fun pp kk => (fun hh => Or.elim hh (fun h => (Or.inl h)) (fun h => (Or.inr (Or.inr (Or.inr h)))))) (Ke.up (Or.inr (Or.inr (Or.inl (by omega)))) (Ke.up (Or.inr (Or.inl (by omega))) (Ke.up (Or.inl (by omega)) Ke.rf))) k45), ⟨⟨hn, by omega, (Eq.trans (k45 62 6 (by decide)) (Eq.trans (x_up_k _ _ _ (by decide)) (Eq.trans (x_up_k _ _ _ (by decide)) (Eq.trans (x_up_k _ _ _ (by decide)) e_hn)))), (fun kw hkw => by rw [show M44 63 (5 + kw) = M 63 (5 + kw) from (Eq.trans (k45 63 (5 + kw) (by unfold WRA; omega)) (Eq.trans (congrFun (x_up_n _ _ _ (by omega)) _) (Eq.trans (congrFun (x_up_n _ _ _ (by omega)) _) (Eq.trans (congrFun (x_up_n _ _ _ (by omega)) _) rfl))))]; exact hw kw hkw)⟩, (by rw [show M44 63 16 = M 63 16 from (Eq.trans (k45 63 16 (by unfold WRA; omega)) (Eq.trans (congrFun (x_up_n _ _ _ (by omega)) _) (Eq.trans (congrFun (x_up_n _ _ _ (by omega)) _) (Eq.trans (congrFun (x_up_n _ _ _ (by omega)) _) rfl))))]; exact hbt), ⟨un, wn, by omega, by omega, (Eq.trans (k45 62 5 (by decide)) (Eq.trans (x_up_k _ _ _ (by decide)) (Eq.trans (x_up_k _ _ _ (by decide)) (Eq.trans (x_up_k _ _ _ (by decide)) e_un)))), (Eq.trans (k45 62 4 (by decide)) (Eq.trans (x_up_k _ _ _ (by decide)) (Eq.trans (x_up_k _ _ _ (by decide)) (Eq.trans (x_up_k _ _ _ (by decide)) e_wn))))⟩, (fun kk hkk => by rw [show M44 64 kk = M 64 kk from (Eq.trans (k45 64 kk (by unfold WRA; omega)) (Eq.trans (congrFun (x_up_n _ _ _ (by omega)) _) (Eq.trans (congrFun (x_up_n _ _ _ (by omega)) _) (Eq.trans (congrFun (x_up_n _ _ _ (by omega)) _) rfl)))), show M44 65 kk = M 65 kk from (Eq.trans (k45 65 kk (by unfold WRA; omega)) (Eq.trans (congrFun (x_up_n _ _ _ (by omega)) _) (Eq.trans (congrFun (x_up_n _ _ _ (by omega)) _) (Eq.trans (congrFun (x_up_n _ _ _ (by omega)) _) rfl)))), show M44 66 kk = M 66 kk from (Eq.trans (k45 66 kk (by unfold WRA; omega)) (Eq.trans (congrFun (x_up_n _ _ _ (by omega)) _) (Eq.trans (congrFun (x_up_n _ _ _ (by omega)) _) (Eq.trans (congrFun (x_up_n _ _ _ (by omega)) _) rfl))))]; exact hch kk hkk), ⟨n, by omega, (Eq.trans (k45 62 11 (by decide)) (Eq.trans (x_up_k _ _ _ (by decide)) (Eq.trans (x_up_k _ _ _ (by decide)) (Eq.trans (x_up_k _ _ _ (by decide)) e_n))))⟩, (by rw [show M44 62 13 = M 62 13 from (Eq.trans (k45 62 13 (by unfold WRA; omega)) (Eq.trans (x_up_k _ _ _ (by omega)) (Eq.trans (x_up_k _ _ _ (by omega)) (Eq.trans (x_up_k _ _ _ (by omega)) rfl))))]; exact htx), ⟨b, by omega, (Eq.trans (k45 62 36 (by decide)) (Eq.trans (x_up_k _ _ _ (by decide)) (Eq.trans (x_up_k _ _ _ (by decide)) (Eq.trans (x_up_k _ _ _ (by decide)) e_b))))⟩, (fun j hj => by obtain ⟨q, hq, eq⟩ := hkd j hj; exact ⟨q, hq, (show M44 81 j = M 81 j from (Eq.trans (k45 81 j (by unfold WRA; omega)) (Eq.trans (congrFun (x_up_n _ _ _ (by omega)) _) (Eq.trans (congrFun (x_up_n _ _ _ (by omega)) _) (Eq.trans (congrFun (x_up_n _ _ _ (by omega)) _) rfl))))).trans eq⟩), ⟨0 + 1, by omega, hx43⟩, (fun j hj => by rw [show M44 83 j = M 83 j from (Eq.trans (k45 83 j (by unfold WRA; omega)) (Eq.trans (congrFun (x_up_n _ _ _ (by omega)) _) (Eq.trans (congrFun (x_up_n _ _ _ (by omega)) _) (Eq.trans (congrFun (x_up_n _ _ _ (by omega)) _) rfl)))), show M44 84 j = M 84 j from (Eq.trans (k45 84 j (by unfold WRA; omega)) (Eq.trans (congrFun (x_up_n _ _ _ (by omega)) _) (Eq.trans (congrFun (x_up_n _ _ _ (by omega)) _) (Eq.trans (congrFun (x_up_n _ _ _ (by omega)) _) rfl))))]; exact hsl j hj), ⟨ic, by omega, (Eq.trans (k45 62 34 (by decide)) (Eq.trans (x_up_k _ _ _ (by decide)) (Eq.trans (x_up_k _ _ _ (by decide)) (Eq.trans (x_up_k _ _ _ (by decide)) e_ic))))⟩, (fun j hj => by obtain ⟨q, hq, eq⟩ := hS j hj; exact ⟨q, hq, (show M44 75 j = M 75 j from (Eq.trans (k45 75 j (by unfold WRA; omega)) (Eq.trans (congrFun (x_up_n _ _ _ (by omega)) _) (Eq.trans (congrFun (x_up_n _ _ _ (by omega)) _) (Eq.trans (congrFun (x_up_n _ _ _ (by omega)) _) rfl))))).trans eq⟩)⟩⟩)
      refine xg_eq 1 (fun w47 => ?_) (fun w47 => ?_)
      · refine xr_tableIn (tgt := 70) dX10_act_31 (by decide) (by decide) rfl rfl ?_
        refine xr_aload_n dX10_act_70 0 rfl ?_
        refine xr_aload_n dX10_act_71 0 rfl ?_
        refine xb_get (v := 2) flX10_352 dX10_act_72 s_62 rfl (Eq.trans (x_up_k _ _ _ (by decide)) (x_up_s _ _ _ _)) ?_
        refine xr_iload_n dX10_act_75 3 rfl ?_
        refine xr_callV (As := [.int (2), .int (x)]) (rest := []) mlX10_349 (ra2_turnsAs_2 (ac := h_) (ra := 0) x (by omega) (Eq.trans (x_up_k _ _ _ (by decide)) (Eq.trans (x_up_k _ _ _ (by decide)) (x_up_s _ _ _ _))) (Eq.trans (x_up_k _ _ _ (by decide)) (x_up_s _ _ _ _)) (x_up_s _ _ _ _)) dX10_act_76 s_62 rfl rfl (Nat.le_of_ble_eq_true rfl) (by decide) ⟨by decide, by decide⟩ (fun v s2 M49 J2 hq => ?_)
        obtain ⟨r51, rfl, rfl, rfl, k50, ⟨_, hx48⟩⟩ := hq
        try dsimp only [Option.toList, List.cons_append, List.nil_append]
        exact xr_iret dX10_act_79 rfl rfl (⟨_, rfl, rfl, rfl, (Ke.tr (fun pp kk => (fun hh => Or.elim hh (fun h => (Or.inl h)) (fun h => (Or.inr (Or.inr (Or.inr h)))))) (Ke.up (Or.inr (Or.inr (Or.inl (by omega)))) (Ke.up (Or.inr (Or.inl (by omega))) (Ke.up (Or.inl (by omega)) Ke.rf))) k50), ⟨⟨hn, by omega, (Eq.trans (k50 62 6 (by decide)) (Eq.trans (x_up_k _ _ _ (by decide)) (Eq.trans (x_up_k _ _ _ (by decide)) (Eq.trans (x_up_k _ _ _ (by decide)) e_hn)))), (fun kw hkw => by rw [show M49 63 (5 + kw) = M 63 (5 + kw) from (Eq.trans (k50 63 (5 + kw) (by unfold WRA; omega)) (Eq.trans (congrFun (x_up_n _ _ _ (by omega)) _) (Eq.trans (congrFun (x_up_n _ _ _ (by omega)) _) (Eq.trans (congrFun (x_up_n _ _ _ (by omega)) _) rfl))))]; exact hw kw hkw)⟩, (by rw [show M49 63 16 = M 63 16 from (Eq.trans (k50 63 16 (by unfold WRA; omega)) (Eq.trans (congrFun (x_up_n _ _ _ (by omega)) _) (Eq.trans (congrFun (x_up_n _ _ _ (by omega)) _) (Eq.trans (congrFun (x_up_n _ _ _ (by omega)) _) rfl))))]; exact hbt), ⟨un, wn, by omega, by omega, (Eq.trans (k50 62 5 (by decide)) (Eq.trans (x_up_k _ _ _ (by decide)) (Eq.trans (x_up_k _ _ _ (by decide)) (Eq.trans (x_up_k _ _ _ (by decide)) e_un)))), (Eq.trans (k50 62 4 (by decide)) (Eq.trans (x_up_k _ _ _ (by decide)) (Eq.trans (x_up_k _ _ _ (by decide)) (Eq.trans (x_up_k _ _ _ (by decide)) e_wn))))⟩, (fun kk hkk => by rw [show M49 64 kk = M 64 kk from (Eq.trans (k50 64 kk (by unfold WRA; omega)) (Eq.trans (congrFun (x_up_n _ _ _ (by omega)) _) (Eq.trans (congrFun (x_up_n _ _ _ (by omega)) _) (Eq.trans (congrFun (x_up_n _ _ _ (by omega)) _) rfl)))), show M49 65 kk = M 65 kk from (Eq.trans (k50 65 kk (by unfold WRA; omega)) (Eq.trans (congrFun (x_up_n _ _ _ (by omega)) _) (Eq.trans (congrFun (x_up_n _ _ _ (by omega)) _) (Eq.trans (congrFun (x_up_n _ _ _ (by omega)) _) rfl)))), show M49 66 kk = M 66 kk from (Eq.trans (k50 66 kk (by unfold WRA; omega)) (Eq.trans (congrFun (x_up_n _ _ _ (by omega)) _) (Eq.trans (congrFun (x_up_n _ _ _ (by omega)) _) (Eq.trans (congrFun (x_up_n _ _ _ (by omega)) _) rfl))))]; exact hch kk hkk), ⟨n, by omega, (Eq.trans (k50 62 11 (by decide)) (Eq.trans (x_up_k _ _ _ (by decide)) (Eq.trans (x_up_k _ _ _ (by decide)) (Eq.trans (x_up_k _ _ _ (by decide)) e_n))))⟩, (by rw [show M49 62 13 = M 62 13 from (Eq.trans (k50 62 13 (by unfold WRA; omega)) (Eq.trans (x_up_k _ _ _ (by omega)) (Eq.trans (x_up_k _ _ _ (by omega)) (Eq.trans (x_up_k _ _ _ (by omega)) rfl))))]; exact htx), ⟨b, by omega, (Eq.trans (k50 62 36 (by decide)) (Eq.trans (x_up_k _ _ _ (by decide)) (Eq.trans (x_up_k _ _ _ (by decide)) (Eq.trans (x_up_k _ _ _ (by decide)) e_b))))⟩, (fun j hj => by obtain ⟨q, hq, eq⟩ := hkd j hj; exact ⟨q, hq, (show M49 81 j = M 81 j from (Eq.trans (k50 81 j (by unfold WRA; omega)) (Eq.trans (congrFun (x_up_n _ _ _ (by omega)) _) (Eq.trans (congrFun (x_up_n _ _ _ (by omega)) _) (Eq.trans (congrFun (x_up_n _ _ _ (by omega)) _) rfl))))).trans eq⟩), ⟨0 + 3, by omega, hx48⟩, (fun j hj => by rw [show M49 83 j = M 83 j from (Eq.trans (k50 83 j (by unfold WRA; omega)) (Eq.trans (congrFun (x_up_n _ _ _ (by omega)) _) (Eq.trans (congrFun (x_up_n _ _ _ (by omega)) _) (Eq.trans (congrFun (x_up_n _ _ _ (by omega)) _) rfl)))), show M49 84 j = M 84 j from (Eq.trans (k50 84 j (by unfold WRA; omega)) (Eq.trans (congrFun (x_up_n _ _ _ (by omega)) _) (Eq.trans (congrFun (x_up_n _ _ _ (by omega)) _) (Eq.trans (congrFun (x_up_n _ _ _ (by omega)) _) rfl))))]; exact hsl j hj), ⟨ic, by omega, (Eq.trans (k50 62 34 (by decide)) (Eq.trans (x_up_k _ _ _ (by decide)) (Eq.trans (x_up_k _ _ _ (by decide)) (Eq.trans (x_up_k _ _ _ (by decide)) e_ic))))⟩, (fun j hj => by obtain ⟨q, hq, eq⟩ := hS j hj; exact ⟨q, hq, (show M49 75 j = M 75 j from (Eq.trans (k50 75 j (by unfold WRA; omega)) (Eq.trans (congrFun (x_up_n _ _ _ (by omega)) _) (Eq.trans (congrFun (x_up_n _ _ _ (by omega)) _) (Eq.trans (congrFun (x_up_n _ _ _ (by omega)) _) rfl))))).trans eq⟩)⟩⟩)
      refine xg_eq 2 (fun w52 => ?_) (fun w52 => ?_)
      · refine xr_tableIn (tgt := 80) dX10_act_31 (by decide) (by decide) rfl rfl ?_
        refine xr_aload_n dX10_act_80 0 rfl ?_
        refine xr_aload_n dX10_act_81 0 rfl ?_
        refine xb_get (v := 2) flX10_352 dX10_act_82 s_62 rfl (Eq.trans (x_up_k _ _ _ (by decide)) (x_up_s _ _ _ _)) ?_
        refine xr_iload_n dX10_act_85 3 rfl ?_
        refine xr_callV (As := [.int (2), .int (x)]) (rest := []) mlX10_355 (ra2_sinksAs_2 (ac := h_) (ra := 0) x (by omega) (Eq.trans (x_up_k _ _ _ (by decide)) (Eq.trans (x_up_k _ _ _ (by decide)) (x_up_s _ _ _ _))) (Eq.trans (x_up_k _ _ _ (by decide)) (x_up_s _ _ _ _)) (x_up_s _ _ _ _)) dX10_act_86 s_62 rfl rfl (Nat.le_of_ble_eq_true rfl) (by decide) ⟨by decide, by decide⟩ (fun v s2 M54 J2 hq => ?_)
        obtain ⟨r56, rfl, rfl, rfl, k55, ⟨_, hx53⟩⟩ := hq
        try dsimp only [Option.toList, List.cons_append, List.nil_append]
        exact xr_iret dX10_act_89 rfl rfl (⟨_, rfl, rfl, rfl, (Ke.tr (fun pp kk => (fun hh => Or.elim hh (fun h => (Or.inl h)) (fun h => (Or.inr (Or.inr (Or.inr h)))))) (Ke.up (Or.inr (Or.inr (Or.inl (by omega)))) (Ke.up (Or.inr (Or.inl (by omega))) (Ke.up (Or.inl (by omega)) Ke.rf))) k55), ⟨⟨hn, by omega, (Eq.trans (k55 62 6 (by decide)) (Eq.trans (x_up_k _ _ _ (by decide)) (Eq.trans (x_up_k _ _ _ (by decide)) (Eq.trans (x_up_k _ _ _ (by decide)) e_hn)))), (fun kw hkw => by rw [show M54 63 (5 + kw) = M 63 (5 + kw) from (Eq.trans (k55 63 (5 + kw) (by unfold WRA; omega)) (Eq.trans (congrFun (x_up_n _ _ _ (by omega)) _) (Eq.trans (congrFun (x_up_n _ _ _ (by omega)) _) (Eq.trans (congrFun (x_up_n _ _ _ (by omega)) _) rfl))))]; exact hw kw hkw)⟩, (by rw [show M54 63 16 = M 63 16 from (Eq.trans (k55 63 16 (by unfold WRA; omega)) (Eq.trans (congrFun (x_up_n _ _ _ (by omega)) _) (Eq.trans (congrFun (x_up_n _ _ _ (by omega)) _) (Eq.trans (congrFun (x_up_n _ _ _ (by omega)) _) rfl))))]; exact hbt), ⟨un, wn, by omega, by omega, (Eq.trans (k55 62 5 (by decide)) (Eq.trans (x_up_k _ _ _ (by decide)) (Eq.trans (x_up_k _ _ _ (by decide)) (Eq.trans (x_up_k _ _ _ (by decide)) e_un)))), (Eq.trans (k55 62 4 (by decide)) (Eq.trans (x_up_k _ _ _ (by decide)) (Eq.trans (x_up_k _ _ _ (by decide)) (Eq.trans (x_up_k _ _ _ (by decide)) e_wn))))⟩, (fun kk hkk => by rw [show M54 64 kk = M 64 kk from (Eq.trans (k55 64 kk (by unfold WRA; omega)) (Eq.trans (congrFun (x_up_n _ _ _ (by omega)) _) (Eq.trans (congrFun (x_up_n _ _ _ (by omega)) _) (Eq.trans (congrFun (x_up_n _ _ _ (by omega)) _) rfl)))), show M54 65 kk = M 65 kk from (Eq.trans (k55 65 kk (by unfold WRA; omega)) (Eq.trans (congrFun (x_up_n _ _ _ (by omega)) _) (Eq.trans (congrFun (x_up_n _ _ _ (by omega)) _) (Eq.trans (congrFun (x_up_n _ _ _ (by omega)) _) rfl)))), show M54 66 kk = M 66 kk from (Eq.trans (k55 66 kk (by unfold WRA; omega)) (Eq.trans (congrFun (x_up_n _ _ _ (by omega)) _) (Eq.trans (congrFun (x_up_n _ _ _ (by omega)) _) (Eq.trans (congrFun (x_up_n _ _ _ (by omega)) _) rfl))))]; exact hch kk hkk), ⟨n, by omega, (Eq.trans (k55 62 11 (by decide)) (Eq.trans (x_up_k _ _ _ (by decide)) (Eq.trans (x_up_k _ _ _ (by decide)) (Eq.trans (x_up_k _ _ _ (by decide)) e_n))))⟩, (by rw [show M54 62 13 = M 62 13 from (Eq.trans (k55 62 13 (by unfold WRA; omega)) (Eq.trans (x_up_k _ _ _ (by omega)) (Eq.trans (x_up_k _ _ _ (by omega)) (Eq.trans (x_up_k _ _ _ (by omega)) rfl))))]; exact htx), ⟨b, by omega, (Eq.trans (k55 62 36 (by decide)) (Eq.trans (x_up_k _ _ _ (by decide)) (Eq.trans (x_up_k _ _ _ (by decide)) (Eq.trans (x_up_k _ _ _ (by decide)) e_b))))⟩, (fun j hj => by obtain ⟨q, hq, eq⟩ := hkd j hj; exact ⟨q, hq, (show M54 81 j = M 81 j from (Eq.trans (k55 81 j (by unfold WRA; omega)) (Eq.trans (congrFun (x_up_n _ _ _ (by omega)) _) (Eq.trans (congrFun (x_up_n _ _ _ (by omega)) _) (Eq.trans (congrFun (x_up_n _ _ _ (by omega)) _) rfl))))).trans eq⟩), ⟨0 + 1, by omega, hx53⟩, (fun j hj => by rw [show M54 83 j = M 83 j from (Eq.trans (k55 83 j (by unfold WRA; omega)) (Eq.trans (congrFun (x_up_n _ _ _ (by omega)) _) (Eq.trans (congrFun (x_up_n _ _ _ (by omega)) _) (Eq.trans (congrFun (x_up_n _ _ _ (by omega)) _) rfl)))), show M54 84 j = M 84 j from (Eq.trans (k55 84 j (by unfold WRA; omega)) (Eq.trans (congrFun (x_up_n _ _ _ (by omega)) _) (Eq.trans (congrFun (x_up_n _ _ _ (by omega)) _) (Eq.trans (congrFun (x_up_n _ _ _ (by omega)) _) rfl))))]; exact hsl j hj), ⟨ic, by omega, (Eq.trans (k55 62 34 (by decide)) (Eq.trans (x_up_k _ _ _ (by decide)) (Eq.trans (x_up_k _ _ _ (by decide)) (Eq.trans (x_up_k _ _ _ (by decide)) e_ic))))⟩, (fun j hj => by obtain ⟨q, hq, eq⟩ := hS j hj; exact ⟨q, hq, (show M54 75 j = M 75 j from (Eq.trans (k55 75 j (by unfold WRA; omega)) (Eq.trans (congrFun (x_up_n _ _ _ (by omega)) _) (Eq.trans (congrFun (x_up_n _ _ _ (by omega)) _) (Eq.trans (congrFun (x_up_n _ _ _ (by omega)) _) rfl))))).trans eq⟩)⟩⟩)
      refine xg_eq 3 (fun w57 => ?_) (fun w57 => ?_)
      · refine xr_tableIn (tgt := 90) dX10_act_31 (by decide) (by decide) rfl rfl ?_
        refine xr_aload_n dX10_act_90 0 rfl ?_
        refine xr_aload_n dX10_act_91 0 rfl ?_
        refine xb_get (v := 2) flX10_352 dX10_act_92 s_62 rfl (Eq.trans (x_up_k _ _ _ (by decide)) (x_up_s _ _ _ _)) ?_
        refine xr_iload_n dX10_act_95 3 rfl ?_
        refine xr_callV (As := [.int (2), .int (x)]) (rest := []) mlX10_358 (ra2_tellsAs_2 (ac := h_) (ra := 0) x (by omega) (Eq.trans (x_up_k _ _ _ (by decide)) (Eq.trans (x_up_k _ _ _ (by decide)) (x_up_s _ _ _ _))) (Eq.trans (x_up_k _ _ _ (by decide)) (x_up_s _ _ _ _)) (x_up_s _ _ _ _)) dX10_act_96 s_62 rfl rfl (Nat.le_of_ble_eq_true rfl) (by decide) ⟨by decide, by decide⟩ (fun v s2 M59 J2 hq => ?_)
        obtain ⟨r61, rfl, rfl, rfl, k60, ⟨_, hx58⟩⟩ := hq
        try dsimp only [Option.toList, List.cons_append, List.nil_append]
        exact xr_iret dX10_act_99 rfl rfl (⟨_, rfl, rfl, rfl, (Ke.tr (fun pp kk => (fun hh => Or.elim hh (fun h => (Or.inl h)) (fun h => (Or.inr (Or.inr (Or.inr h)))))) (Ke.up (Or.inr (Or.inr (Or.inl (by omega)))) (Ke.up (Or.inr (Or.inl (by omega))) (Ke.up (Or.inl (by omega)) Ke.rf))) k60), ⟨⟨hn, by omega, (Eq.trans (k60 62 6 (by decide)) (Eq.trans (x_up_k _ _ _ (by decide)) (Eq.trans (x_up_k _ _ _ (by decide)) (Eq.trans (x_up_k _ _ _ (by decide)) e_hn)))), (fun kw hkw => by rw [show M59 63 (5 + kw) = M 63 (5 + kw) from (Eq.trans (k60 63 (5 + kw) (by unfold WRA; omega)) (Eq.trans (congrFun (x_up_n _ _ _ (by omega)) _) (Eq.trans (congrFun (x_up_n _ _ _ (by omega)) _) (Eq.trans (congrFun (x_up_n _ _ _ (by omega)) _) rfl))))]; exact hw kw hkw)⟩, (by rw [show M59 63 16 = M 63 16 from (Eq.trans (k60 63 16 (by unfold WRA; omega)) (Eq.trans (congrFun (x_up_n _ _ _ (by omega)) _) (Eq.trans (congrFun (x_up_n _ _ _ (by omega)) _) (Eq.trans (congrFun (x_up_n _ _ _ (by omega)) _) rfl))))]; exact hbt), ⟨un, wn, by omega, by omega, (Eq.trans (k60 62 5 (by decide)) (Eq.trans (x_up_k _ _ _ (by decide)) (Eq.trans (x_up_k _ _ _ (by decide)) (Eq.trans (x_up_k _ _ _ (by decide)) e_un)))), (Eq.trans (k60 62 4 (by decide)) (Eq.trans (x_up_k _ _ _ (by decide)) (Eq.trans (x_up_k _ _ _ (by decide)) (Eq.trans (x_up_k _ _ _ (by decide)) e_wn))))⟩, (fun kk hkk => by rw [show M59 64 kk = M 64 kk from (Eq.trans (k60 64 kk (by unfold WRA; omega)) (Eq.trans (congrFun (x_up_n _ _ _ (by omega)) _) (Eq.trans (congrFun (x_up_n _ _ _ (by omega)) _) (Eq.trans (congrFun (x_up_n _ _ _ (by omega)) _) rfl)))), show M59 65 kk = M 65 kk from (Eq.trans (k60 65 kk (by unfold WRA; omega)) (Eq.trans (congrFun (x_up_n _ _ _ (by omega)) _) (Eq.trans (congrFun (x_up_n _ _ _ (by omega)) _) (Eq.trans (congrFun (x_up_n _ _ _ (by omega)) _) rfl)))), show M59 66 kk = M 66 kk from (Eq.trans (k60 66 kk (by unfold WRA; omega)) (Eq.trans (congrFun (x_up_n _ _ _ (by omega)) _) (Eq.trans (congrFun (x_up_n _ _ _ (by omega)) _) (Eq.trans (congrFun (x_up_n _ _ _ (by omega)) _) rfl))))]; exact hch kk hkk), ⟨n, by omega, (Eq.trans (k60 62 11 (by decide)) (Eq.trans (x_up_k _ _ _ (by decide)) (Eq.trans (x_up_k _ _ _ (by decide)) (Eq.trans (x_up_k _ _ _ (by decide)) e_n))))⟩, (by rw [show M59 62 13 = M 62 13 from (Eq.trans (k60 62 13 (by unfold WRA; omega)) (Eq.trans (x_up_k _ _ _ (by omega)) (Eq.trans (x_up_k _ _ _ (by omega)) (Eq.trans (x_up_k _ _ _ (by omega)) rfl))))]; exact htx), ⟨b, by omega, (Eq.trans (k60 62 36 (by decide)) (Eq.trans (x_up_k _ _ _ (by decide)) (Eq.trans (x_up_k _ _ _ (by decide)) (Eq.trans (x_up_k _ _ _ (by decide)) e_b))))⟩, (fun j hj => by obtain ⟨q, hq, eq⟩ := hkd j hj; exact ⟨q, hq, (show M59 81 j = M 81 j from (Eq.trans (k60 81 j (by unfold WRA; omega)) (Eq.trans (congrFun (x_up_n _ _ _ (by omega)) _) (Eq.trans (congrFun (x_up_n _ _ _ (by omega)) _) (Eq.trans (congrFun (x_up_n _ _ _ (by omega)) _) rfl))))).trans eq⟩), ⟨0 + 5, by omega, hx58⟩, (fun j hj => by rw [show M59 83 j = M 83 j from (Eq.trans (k60 83 j (by unfold WRA; omega)) (Eq.trans (congrFun (x_up_n _ _ _ (by omega)) _) (Eq.trans (congrFun (x_up_n _ _ _ (by omega)) _) (Eq.trans (congrFun (x_up_n _ _ _ (by omega)) _) rfl)))), show M59 84 j = M 84 j from (Eq.trans (k60 84 j (by unfold WRA; omega)) (Eq.trans (congrFun (x_up_n _ _ _ (by omega)) _) (Eq.trans (congrFun (x_up_n _ _ _ (by omega)) _) (Eq.trans (congrFun (x_up_n _ _ _ (by omega)) _) rfl))))]; exact hsl j hj), ⟨ic, by omega, (Eq.trans (k60 62 34 (by decide)) (Eq.trans (x_up_k _ _ _ (by decide)) (Eq.trans (x_up_k _ _ _ (by decide)) (Eq.trans (x_up_k _ _ _ (by decide)) e_ic))))⟩, (fun j hj => by obtain ⟨q, hq, eq⟩ := hS j hj; exact ⟨q, hq, (show M59 75 j = M 75 j from (Eq.trans (k60 75 j (by unfold WRA; omega)) (Eq.trans (congrFun (x_up_n _ _ _ (by omega)) _) (Eq.trans (congrFun (x_up_n _ _ _ (by omega)) _) (Eq.trans (congrFun (x_up_n _ _ _ (by omega)) _) rfl))))).trans eq⟩)⟩⟩)
      refine xr_tableOut (tgt := 100) dX10_act_31 (xg_out (lo := 0) (hi := 3) (by decide) (fun j h1 h2 qq => by have h3 : j = 0 ∨ j = 1 ∨ j = 2 ∨ j = 3 := (by omega); rcases h3 with rfl | rfl | rfl | rfl <;> first | exact absurd qq w42 | exact absurd qq w47 | exact absurd qq w52 | exact absurd qq w57)) rfl ?_
      refine xr_iconst (v := 0) dX10_act_100 rfl ?_
      exact xr_iret dX10_act_101 rfl rfl (⟨_, rfl, rfl, rfl, (Ke.up (Or.inr (Or.inr (Or.inl (by omega)))) (Ke.up (Or.inr (Or.inl (by omega))) (Ke.up (Or.inl (by omega)) Ke.rf))), ⟨⟨hn, by omega, (Eq.trans (x_up_k _ _ _ (by decide)) (Eq.trans (x_up_k _ _ _ (by decide)) (Eq.trans (x_up_k _ _ _ (by decide)) e_hn))), (fun kw hkw => by rw [show (x_up (x_up (x_up M 62 39 0) 62 40 2) 62 41 (nI (h_))) 63 (5 + kw) = M 63 (5 + kw) from (Eq.trans (congrFun (x_up_n _ _ _ (by omega)) _) (Eq.trans (congrFun (x_up_n _ _ _ (by omega)) _) (Eq.trans (congrFun (x_up_n _ _ _ (by omega)) _) rfl)))]; exact hw kw hkw)⟩, (by rw [show (x_up (x_up (x_up M 62 39 0) 62 40 2) 62 41 (nI (h_))) 63 16 = M 63 16 from (Eq.trans (congrFun (x_up_n _ _ _ (by omega)) _) (Eq.trans (congrFun (x_up_n _ _ _ (by omega)) _) (Eq.trans (congrFun (x_up_n _ _ _ (by omega)) _) rfl)))]; exact hbt), ⟨un, wn, by omega, by omega, (Eq.trans (x_up_k _ _ _ (by decide)) (Eq.trans (x_up_k _ _ _ (by decide)) (Eq.trans (x_up_k _ _ _ (by decide)) e_un))), (Eq.trans (x_up_k _ _ _ (by decide)) (Eq.trans (x_up_k _ _ _ (by decide)) (Eq.trans (x_up_k _ _ _ (by decide)) e_wn)))⟩, (fun kk hkk => by rw [show (x_up (x_up (x_up M 62 39 0) 62 40 2) 62 41 (nI (h_))) 64 kk = M 64 kk from (Eq.trans (congrFun (x_up_n _ _ _ (by omega)) _) (Eq.trans (congrFun (x_up_n _ _ _ (by omega)) _) (Eq.trans (congrFun (x_up_n _ _ _ (by omega)) _) rfl))), show (x_up (x_up (x_up M 62 39 0) 62 40 2) 62 41 (nI (h_))) 65 kk = M 65 kk from (Eq.trans (congrFun (x_up_n _ _ _ (by omega)) _) (Eq.trans (congrFun (x_up_n _ _ _ (by omega)) _) (Eq.trans (congrFun (x_up_n _ _ _ (by omega)) _) rfl))), show (x_up (x_up (x_up M 62 39 0) 62 40 2) 62 41 (nI (h_))) 66 kk = M 66 kk from (Eq.trans (congrFun (x_up_n _ _ _ (by omega)) _) (Eq.trans (congrFun (x_up_n _ _ _ (by omega)) _) (Eq.trans (congrFun (x_up_n _ _ _ (by omega)) _) rfl)))]; exact hch kk hkk), ⟨n, by omega, (Eq.trans (x_up_k _ _ _ (by decide)) (Eq.trans (x_up_k _ _ _ (by decide)) (Eq.trans (x_up_k _ _ _ (by decide)) e_n)))⟩, (by rw [show (x_up (x_up (x_up M 62 39 0) 62 40 2) 62 41 (nI (h_))) 62 13 = M 62 13 from (Eq.trans (x_up_k _ _ _ (by omega)) (Eq.trans (x_up_k _ _ _ (by omega)) (Eq.trans (x_up_k _ _ _ (by omega)) rfl)))]; exact htx), ⟨b, by omega, (Eq.trans (x_up_k _ _ _ (by decide)) (Eq.trans (x_up_k _ _ _ (by decide)) (Eq.trans (x_up_k _ _ _ (by decide)) e_b)))⟩, (fun j hj => by obtain ⟨q, hq, eq⟩ := hkd j hj; exact ⟨q, hq, (show (x_up (x_up (x_up M 62 39 0) 62 40 2) 62 41 (nI (h_))) 81 j = M 81 j from (Eq.trans (congrFun (x_up_n _ _ _ (by omega)) _) (Eq.trans (congrFun (x_up_n _ _ _ (by omega)) _) (Eq.trans (congrFun (x_up_n _ _ _ (by omega)) _) rfl)))).trans eq⟩), ⟨0, by omega, (Eq.trans (x_up_k _ _ _ (by decide)) (Eq.trans (x_up_k _ _ _ (by decide)) (x_up_s _ _ _ _)))⟩, (fun j hj => by rw [show (x_up (x_up (x_up M 62 39 0) 62 40 2) 62 41 (nI (h_))) 83 j = M 83 j from (Eq.trans (congrFun (x_up_n _ _ _ (by omega)) _) (Eq.trans (congrFun (x_up_n _ _ _ (by omega)) _) (Eq.trans (congrFun (x_up_n _ _ _ (by omega)) _) rfl))), show (x_up (x_up (x_up M 62 39 0) 62 40 2) 62 41 (nI (h_))) 84 j = M 84 j from (Eq.trans (congrFun (x_up_n _ _ _ (by omega)) _) (Eq.trans (congrFun (x_up_n _ _ _ (by omega)) _) (Eq.trans (congrFun (x_up_n _ _ _ (by omega)) _) rfl)))]; exact hsl j hj), ⟨ic, by omega, (Eq.trans (x_up_k _ _ _ (by decide)) (Eq.trans (x_up_k _ _ _ (by decide)) (Eq.trans (x_up_k _ _ _ (by decide)) e_ic)))⟩, (fun j hj => by obtain ⟨q, hq, eq⟩ := hS j hj; exact ⟨q, hq, (show (x_up (x_up (x_up M 62 39 0) 62 40 2) 62 41 (nI (h_))) 75 j = M 75 j from (Eq.trans (congrFun (x_up_n _ _ _ (by omega)) _) (Eq.trans (congrFun (x_up_n _ _ _ (by omega)) _) (Eq.trans (congrFun (x_up_n _ _ _ (by omega)) _) rfl)))).trans eq⟩)⟩⟩)
    · refine xr_aload_n dX10_act_15 0 rfl ?_
      refine xr_aload_n dX10_act_16 0 rfl ?_
      refine xr_getR flX10_69 dX10_act_17 s_62 rfl ?_
      refine xr_iload_n dX10_act_20 1 rfl ?_
      refine xb_iald (j := h_) (v := 3) dX10_act_21 s_81 (by omega) (by decide) (Eq.trans (congrFun (x_up_n _ _ _ (by decide)) _) eq9) ?_
      refine xr_putI fpX10_352 dX10_act_22 s_62 rfl rfl rfl ?_
      refine xr_aload_n dX10_act_25 0 rfl ?_
      refine xr_iload_n dX10_act_26 1 rfl ?_
      refine xr_putI fpX10_346 dX10_act_27 s_62 rfl rfl rfl ?_
      refine xr_iload_n dX10_act_30 2 rfl ?_
      refine xg_eq 0 (fun w62 => ?_) (fun w62 => ?_)
      · refine xr_tableIn (tgt := 60) dX10_act_31 (by decide) (by decide) rfl rfl ?_
        refine xr_aload_n dX10_act_60 0 rfl ?_
        refine xr_aload_n dX10_act_61 0 rfl ?_
        refine xb_get (v := 3) flX10_352 dX10_act_62 s_62 rfl (Eq.trans (x_up_k _ _ _ (by decide)) (x_up_s _ _ _ _)) ?_
        refine xr_iload_n dX10_act_65 3 rfl ?_
        refine xr_callV (As := [.int (3), .int (x)]) (rest := []) mlX10_343 (ra3_pushesAs_3 (ac := h_) (ra := 0) x (by omega) (Eq.trans (x_up_k _ _ _ (by decide)) (Eq.trans (x_up_k _ _ _ (by decide)) (x_up_s _ _ _ _))) (Eq.trans (x_up_k _ _ _ (by decide)) (x_up_s _ _ _ _)) (x_up_s _ _ _ _)) dX10_act_66 s_62 rfl rfl (Nat.le_of_ble_eq_true rfl) (by decide) ⟨by decide, by decide⟩ (fun v s2 M64 J2 hq => ?_)
        obtain ⟨r66, rfl, rfl, rfl, k65, ⟨_, hx63⟩⟩ := hq
        try dsimp only [Option.toList, List.cons_append, List.nil_append]
        exact xr_iret dX10_act_69 rfl rfl (⟨_, rfl, rfl, rfl, (Ke.tr (fun pp kk => (fun hh => Or.elim hh (fun h => (Or.inl h)) (fun h => (Or.inr (Or.inr (Or.inr h)))))) (Ke.up (Or.inr (Or.inr (Or.inl (by omega)))) (Ke.up (Or.inr (Or.inl (by omega))) (Ke.up (Or.inl (by omega)) Ke.rf))) k65), ⟨⟨hn, by omega, (Eq.trans (k65 62 6 (by decide)) (Eq.trans (x_up_k _ _ _ (by decide)) (Eq.trans (x_up_k _ _ _ (by decide)) (Eq.trans (x_up_k _ _ _ (by decide)) e_hn)))), (fun kw hkw => by rw [show M64 63 (5 + kw) = M 63 (5 + kw) from (Eq.trans (k65 63 (5 + kw) (by unfold WRA; omega)) (Eq.trans (congrFun (x_up_n _ _ _ (by omega)) _) (Eq.trans (congrFun (x_up_n _ _ _ (by omega)) _) (Eq.trans (congrFun (x_up_n _ _ _ (by omega)) _) rfl))))]; exact hw kw hkw)⟩, (by rw [show M64 63 16 = M 63 16 from (Eq.trans (k65 63 16 (by unfold WRA; omega)) (Eq.trans (congrFun (x_up_n _ _ _ (by omega)) _) (Eq.trans (congrFun (x_up_n _ _ _ (by omega)) _) (Eq.trans (congrFun (x_up_n _ _ _ (by omega)) _) rfl))))]; exact hbt), ⟨un, wn, by omega, by omega, (Eq.trans (k65 62 5 (by decide)) (Eq.trans (x_up_k _ _ _ (by decide)) (Eq.trans (x_up_k _ _ _ (by decide)) (Eq.trans (x_up_k _ _ _ (by decide)) e_un)))), (Eq.trans (k65 62 4 (by decide)) (Eq.trans (x_up_k _ _ _ (by decide)) (Eq.trans (x_up_k _ _ _ (by decide)) (Eq.trans (x_up_k _ _ _ (by decide)) e_wn))))⟩, (fun kk hkk => by rw [show M64 64 kk = M 64 kk from (Eq.trans (k65 64 kk (by unfold WRA; omega)) (Eq.trans (congrFun (x_up_n _ _ _ (by omega)) _) (Eq.trans (congrFun (x_up_n _ _ _ (by omega)) _) (Eq.trans (congrFun (x_up_n _ _ _ (by omega)) _) rfl)))), show M64 65 kk = M 65 kk from (Eq.trans (k65 65 kk (by unfold WRA; omega)) (Eq.trans (congrFun (x_up_n _ _ _ (by omega)) _) (Eq.trans (congrFun (x_up_n _ _ _ (by omega)) _) (Eq.trans (congrFun (x_up_n _ _ _ (by omega)) _) rfl)))), show M64 66 kk = M 66 kk from (Eq.trans (k65 66 kk (by unfold WRA; omega)) (Eq.trans (congrFun (x_up_n _ _ _ (by omega)) _) (Eq.trans (congrFun (x_up_n _ _ _ (by omega)) _) (Eq.trans (congrFun (x_up_n _ _ _ (by omega)) _) rfl))))]; exact hch kk hkk), ⟨n, by omega, (Eq.trans (k65 62 11 (by decide)) (Eq.trans (x_up_k _ _ _ (by decide)) (Eq.trans (x_up_k _ _ _ (by decide)) (Eq.trans (x_up_k _ _ _ (by decide)) e_n))))⟩, (by rw [show M64 62 13 = M 62 13 from (Eq.trans (k65 62 13 (by unfold WRA; omega)) (Eq.trans (x_up_k _ _ _ (by omega)) (Eq.trans (x_up_k _ _ _ (by omega)) (Eq.trans (x_up_k _ _ _ (by omega)) rfl))))]; exact htx), ⟨b, by omega, (Eq.trans (k65 62 36 (by decide)) (Eq.trans (x_up_k _ _ _ (by decide)) (Eq.trans (x_up_k _ _ _ (by decide)) (Eq.trans (x_up_k _ _ _ (by decide)) e_b))))⟩, (fun j hj => by obtain ⟨q, hq, eq⟩ := hkd j hj; exact ⟨q, hq, (show M64 81 j = M 81 j from (Eq.trans (k65 81 j (by unfold WRA; omega)) (Eq.trans (congrFun (x_up_n _ _ _ (by omega)) _) (Eq.trans (congrFun (x_up_n _ _ _ (by omega)) _) (Eq.trans (congrFun (x_up_n _ _ _ (by omega)) _) rfl))))).trans eq⟩), ⟨0 + 1, by omega, hx63⟩, (fun j hj => by rw [show M64 83 j = M 83 j from (Eq.trans (k65 83 j (by unfold WRA; omega)) (Eq.trans (congrFun (x_up_n _ _ _ (by omega)) _) (Eq.trans (congrFun (x_up_n _ _ _ (by omega)) _) (Eq.trans (congrFun (x_up_n _ _ _ (by omega)) _) rfl)))), show M64 84 j = M 84 j from (Eq.trans (k65 84 j (by unfold WRA; omega)) (Eq.trans (congrFun (x_up_n _ _ _ (by omega)) _) (Eq.trans (congrFun (x_up_n _ _ _ (by omega)) _) (Eq.trans (congrFun (x_up_n _ _ _ (by omega)) _) rfl))))]; exact hsl j hj), ⟨ic, by omega, (Eq.trans (k65 62 34 (by decide)) (Eq.trans (x_up_k _ _ _ (by decide)) (Eq.trans (x_up_k _ _ _ (by decide)) (Eq.trans (x_up_k _ _ _ (by decide)) e_ic))))⟩, (fun j hj => by obtain ⟨q, hq, eq⟩ := hS j hj; exact ⟨q, hq, (show M64 75 j = M 75 j from (Eq.trans (k65 75 j (by unfold WRA; omega)) (Eq.trans (congrFun (x_up_n _ _ _ (by omega)) _) (Eq.trans (congrFun (x_up_n _ _ _ (by omega)) _) (Eq.trans (congrFun (x_up_n _ _ _ (by omega)) _) rfl))))).trans eq⟩)⟩⟩)
      refine xg_eq 1 (fun w67 => ?_) (fun w67 => ?_)
      · refine xr_tableIn (tgt := 70) dX10_act_31 (by decide) (by decide) rfl rfl ?_
        refine xr_aload_n dX10_act_70 0 rfl ?_
        refine xr_aload_n dX10_act_71 0 rfl ?_
        refine xb_get (v := 3) flX10_352 dX10_act_72 s_62 rfl (Eq.trans (x_up_k _ _ _ (by decide)) (x_up_s _ _ _ _)) ?_
        refine xr_iload_n dX10_act_75 3 rfl ?_
        refine xr_callV (As := [.int (3), .int (x)]) (rest := []) mlX10_349 (ra3_turnsAs_3 (ac := h_) (ra := 0) x (by omega) (Eq.trans (x_up_k _ _ _ (by decide)) (Eq.trans (x_up_k _ _ _ (by decide)) (x_up_s _ _ _ _))) (Eq.trans (x_up_k _ _ _ (by decide)) (x_up_s _ _ _ _)) (x_up_s _ _ _ _)) dX10_act_76 s_62 rfl rfl (Nat.le_of_ble_eq_true rfl) (by decide) ⟨by decide, by decide⟩ (fun v s2 M69 J2 hq => ?_)
        obtain ⟨r71, rfl, rfl, rfl, k70, ⟨_, hx68⟩⟩ := hq
        try dsimp only [Option.toList, List.cons_append, List.nil_append]
        exact xr_iret dX10_act_79 rfl rfl (⟨_, rfl, rfl, rfl, (Ke.tr (fun pp kk => (fun hh => Or.elim hh (fun h => (Or.inl h)) (fun h => (Or.inr (Or.inr (Or.inr h)))))) (Ke.up (Or.inr (Or.inr (Or.inl (by omega)))) (Ke.up (Or.inr (Or.inl (by omega))) (Ke.up (Or.inl (by omega)) Ke.rf))) k70), ⟨⟨hn, by omega, (Eq.trans (k70 62 6 (by decide)) (Eq.trans (x_up_k _ _ _ (by decide)) (Eq.trans (x_up_k _ _ _ (by decide)) (Eq.trans (x_up_k _ _ _ (by decide)) e_hn)))), (fun kw hkw => by rw [show M69 63 (5 + kw) = M 63 (5 + kw) from (Eq.trans (k70 63 (5 + kw) (by unfold WRA; omega)) (Eq.trans (congrFun (x_up_n _ _ _ (by omega)) _) (Eq.trans (congrFun (x_up_n _ _ _ (by omega)) _) (Eq.trans (congrFun (x_up_n _ _ _ (by omega)) _) rfl))))]; exact hw kw hkw)⟩, (by rw [show M69 63 16 = M 63 16 from (Eq.trans (k70 63 16 (by unfold WRA; omega)) (Eq.trans (congrFun (x_up_n _ _ _ (by omega)) _) (Eq.trans (congrFun (x_up_n _ _ _ (by omega)) _) (Eq.trans (congrFun (x_up_n _ _ _ (by omega)) _) rfl))))]; exact hbt), ⟨un, wn, by omega, by omega, (Eq.trans (k70 62 5 (by decide)) (Eq.trans (x_up_k _ _ _ (by decide)) (Eq.trans (x_up_k _ _ _ (by decide)) (Eq.trans (x_up_k _ _ _ (by decide)) e_un)))), (Eq.trans (k70 62 4 (by decide)) (Eq.trans (x_up_k _ _ _ (by decide)) (Eq.trans (x_up_k _ _ _ (by decide)) (Eq.trans (x_up_k _ _ _ (by decide)) e_wn))))⟩, (fun kk hkk => by rw [show M69 64 kk = M 64 kk from (Eq.trans (k70 64 kk (by unfold WRA; omega)) (Eq.trans (congrFun (x_up_n _ _ _ (by omega)) _) (Eq.trans (congrFun (x_up_n _ _ _ (by omega)) _) (Eq.trans (congrFun (x_up_n _ _ _ (by omega)) _) rfl)))), show M69 65 kk = M 65 kk from (Eq.trans (k70 65 kk (by unfold WRA; omega)) (Eq.trans (congrFun (x_up_n _ _ _ (by omega)) _) (Eq.trans (congrFun (x_up_n _ _ _ (by omega)) _) (Eq.trans (congrFun (x_up_n _ _ _ (by omega)) _) rfl)))), show M69 66 kk = M 66 kk from (Eq.trans (k70 66 kk (by unfold WRA; omega)) (Eq.trans (congrFun (x_up_n _ _ _ (by omega)) _) (Eq.trans (congrFun (x_up_n _ _ _ (by omega)) _) (Eq.trans (congrFun (x_up_n _ _ _ (by omega)) _) rfl))))]; exact hch kk hkk), ⟨n, by omega, (Eq.trans (k70 62 11 (by decide)) (Eq.trans (x_up_k _ _ _ (by decide)) (Eq.trans (x_up_k _ _ _ (by decide)) (Eq.trans (x_up_k _ _ _ (by decide)) e_n))))⟩, (by rw [show M69 62 13 = M 62 13 from (Eq.trans (k70 62 13 (by unfold WRA; omega)) (Eq.trans (x_up_k _ _ _ (by omega)) (Eq.trans (x_up_k _ _ _ (by omega)) (Eq.trans (x_up_k _ _ _ (by omega)) rfl))))]; exact htx), ⟨b, by omega, (Eq.trans (k70 62 36 (by decide)) (Eq.trans (x_up_k _ _ _ (by decide)) (Eq.trans (x_up_k _ _ _ (by decide)) (Eq.trans (x_up_k _ _ _ (by decide)) e_b))))⟩, (fun j hj => by obtain ⟨q, hq, eq⟩ := hkd j hj; exact ⟨q, hq, (show M69 81 j = M 81 j from (Eq.trans (k70 81 j (by unfold WRA; omega)) (Eq.trans (congrFun (x_up_n _ _ _ (by omega)) _) (Eq.trans (congrFun (x_up_n _ _ _ (by omega)) _) (Eq.trans (congrFun (x_up_n _ _ _ (by omega)) _) rfl))))).trans eq⟩), ⟨0 + 4, by omega, hx68⟩, (fun j hj => by rw [show M69 83 j = M 83 j from (Eq.trans (k70 83 j (by unfold WRA; omega)) (Eq.trans (congrFun (x_up_n _ _ _ (by omega)) _) (Eq.trans (congrFun (x_up_n _ _ _ (by omega)) _) (Eq.trans (congrFun (x_up_n _ _ _ (by omega)) _) rfl)))), show M69 84 j = M 84 j from (Eq.trans (k70 84 j (by unfold WRA; omega)) (Eq.trans (congrFun (x_up_n _ _ _ (by omega)) _) (Eq.trans (congrFun (x_up_n _ _ _ (by omega)) _) (Eq.trans (congrFun (x_up_n _ _ _ (by omega)) _) rfl))))]; exact hsl j hj), ⟨ic, by omega, (Eq.trans (k70 62 34 (by decide)) (Eq.trans (x_up_k _ _ _ (by decide)) (Eq.trans (x_up_k _ _ _ (by decide)) (Eq.trans (x_up_k _ _ _ (by decide)) e_ic))))⟩, (fun j hj => by obtain ⟨q, hq, eq⟩ := hS j hj; exact ⟨q, hq, (show M69 75 j = M 75 j from (Eq.trans (k70 75 j (by unfold WRA; omega)) (Eq.trans (congrFun (x_up_n _ _ _ (by omega)) _) (Eq.trans (congrFun (x_up_n _ _ _ (by omega)) _) (Eq.trans (congrFun (x_up_n _ _ _ (by omega)) _) rfl))))).trans eq⟩)⟩⟩)
      refine xg_eq 2 (fun w72 => ?_) (fun w72 => ?_)
      · refine xr_tableIn (tgt := 80) dX10_act_31 (by decide) (by decide) rfl rfl ?_
        refine xr_aload_n dX10_act_80 0 rfl ?_
        refine xr_aload_n dX10_act_81 0 rfl ?_
        refine xb_get (v := 3) flX10_352 dX10_act_82 s_62 rfl (Eq.trans (x_up_k _ _ _ (by decide)) (x_up_s _ _ _ _)) ?_
        refine xr_iload_n dX10_act_85 3 rfl ?_
        refine xr_callV (As := [.int (3), .int (x)]) (rest := []) mlX10_355 (ra3_sinksAs_3 (ac := h_) (ra := 0) x (by omega) (Eq.trans (x_up_k _ _ _ (by decide)) (Eq.trans (x_up_k _ _ _ (by decide)) (x_up_s _ _ _ _))) (Eq.trans (x_up_k _ _ _ (by decide)) (x_up_s _ _ _ _)) (x_up_s _ _ _ _)) dX10_act_86 s_62 rfl rfl (Nat.le_of_ble_eq_true rfl) (by decide) ⟨by decide, by decide⟩ (fun v s2 M74 J2 hq => ?_)
        obtain ⟨r76, rfl, rfl, rfl, k75, ⟨_, hx73⟩⟩ := hq
        try dsimp only [Option.toList, List.cons_append, List.nil_append]
        exact xr_iret dX10_act_89 rfl rfl (⟨_, rfl, rfl, rfl, (Ke.tr (fun pp kk => (fun hh => Or.elim hh (fun h => (Or.inl h)) (fun h => (Or.inr (Or.inr (Or.inr h)))))) (Ke.up (Or.inr (Or.inr (Or.inl (by omega)))) (Ke.up (Or.inr (Or.inl (by omega))) (Ke.up (Or.inl (by omega)) Ke.rf))) k75), ⟨⟨hn, by omega, (Eq.trans (k75 62 6 (by decide)) (Eq.trans (x_up_k _ _ _ (by decide)) (Eq.trans (x_up_k _ _ _ (by decide)) (Eq.trans (x_up_k _ _ _ (by decide)) e_hn)))), (fun kw hkw => by rw [show M74 63 (5 + kw) = M 63 (5 + kw) from (Eq.trans (k75 63 (5 + kw) (by unfold WRA; omega)) (Eq.trans (congrFun (x_up_n _ _ _ (by omega)) _) (Eq.trans (congrFun (x_up_n _ _ _ (by omega)) _) (Eq.trans (congrFun (x_up_n _ _ _ (by omega)) _) rfl))))]; exact hw kw hkw)⟩, (by rw [show M74 63 16 = M 63 16 from (Eq.trans (k75 63 16 (by unfold WRA; omega)) (Eq.trans (congrFun (x_up_n _ _ _ (by omega)) _) (Eq.trans (congrFun (x_up_n _ _ _ (by omega)) _) (Eq.trans (congrFun (x_up_n _ _ _ (by omega)) _) rfl))))]; exact hbt), ⟨un, wn, by omega, by omega, (Eq.trans (k75 62 5 (by decide)) (Eq.trans (x_up_k _ _ _ (by decide)) (Eq.trans (x_up_k _ _ _ (by decide)) (Eq.trans (x_up_k _ _ _ (by decide)) e_un)))), (Eq.trans (k75 62 4 (by decide)) (Eq.trans (x_up_k _ _ _ (by decide)) (Eq.trans (x_up_k _ _ _ (by decide)) (Eq.trans (x_up_k _ _ _ (by decide)) e_wn))))⟩, (fun kk hkk => by rw [show M74 64 kk = M 64 kk from (Eq.trans (k75 64 kk (by unfold WRA; omega)) (Eq.trans (congrFun (x_up_n _ _ _ (by omega)) _) (Eq.trans (congrFun (x_up_n _ _ _ (by omega)) _) (Eq.trans (congrFun (x_up_n _ _ _ (by omega)) _) rfl)))), show M74 65 kk = M 65 kk from (Eq.trans (k75 65 kk (by unfold WRA; omega)) (Eq.trans (congrFun (x_up_n _ _ _ (by omega)) _) (Eq.trans (congrFun (x_up_n _ _ _ (by omega)) _) (Eq.trans (congrFun (x_up_n _ _ _ (by omega)) _) rfl)))), show M74 66 kk = M 66 kk from (Eq.trans (k75 66 kk (by unfold WRA; omega)) (Eq.trans (congrFun (x_up_n _ _ _ (by omega)) _) (Eq.trans (congrFun (x_up_n _ _ _ (by omega)) _) (Eq.trans (congrFun (x_up_n _ _ _ (by omega)) _) rfl))))]; exact hch kk hkk), ⟨n, by omega, (Eq.trans (k75 62 11 (by decide)) (Eq.trans (x_up_k _ _ _ (by decide)) (Eq.trans (x_up_k _ _ _ (by decide)) (Eq.trans (x_up_k _ _ _ (by decide)) e_n))))⟩, (by rw [show M74 62 13 = M 62 13 from (Eq.trans (k75 62 13 (by unfold WRA; omega)) (Eq.trans (x_up_k _ _ _ (by omega)) (Eq.trans (x_up_k _ _ _ (by omega)) (Eq.trans (x_up_k _ _ _ (by omega)) rfl))))]; exact htx), ⟨b, by omega, (Eq.trans (k75 62 36 (by decide)) (Eq.trans (x_up_k _ _ _ (by decide)) (Eq.trans (x_up_k _ _ _ (by decide)) (Eq.trans (x_up_k _ _ _ (by decide)) e_b))))⟩, (fun j hj => by obtain ⟨q, hq, eq⟩ := hkd j hj; exact ⟨q, hq, (show M74 81 j = M 81 j from (Eq.trans (k75 81 j (by unfold WRA; omega)) (Eq.trans (congrFun (x_up_n _ _ _ (by omega)) _) (Eq.trans (congrFun (x_up_n _ _ _ (by omega)) _) (Eq.trans (congrFun (x_up_n _ _ _ (by omega)) _) rfl))))).trans eq⟩), ⟨0 + 2, by omega, hx73⟩, (fun j hj => by rw [show M74 83 j = M 83 j from (Eq.trans (k75 83 j (by unfold WRA; omega)) (Eq.trans (congrFun (x_up_n _ _ _ (by omega)) _) (Eq.trans (congrFun (x_up_n _ _ _ (by omega)) _) (Eq.trans (congrFun (x_up_n _ _ _ (by omega)) _) rfl)))), show M74 84 j = M 84 j from (Eq.trans (k75 84 j (by unfold WRA; omega)) (Eq.trans (congrFun (x_up_n _ _ _ (by omega)) _) (Eq.trans (congrFun (x_up_n _ _ _ (by omega)) _) (Eq.trans (congrFun (x_up_n _ _ _ (by omega)) _) rfl))))]; exact hsl j hj), ⟨ic, by omega, (Eq.trans (k75 62 34 (by decide)) (Eq.trans (x_up_k _ _ _ (by decide)) (Eq.trans (x_up_k _ _ _ (by decide)) (Eq.trans (x_up_k _ _ _ (by decide)) e_ic))))⟩, (fun j hj => by obtain ⟨q, hq, eq⟩ := hS j hj; exact ⟨q, hq, (show M74 75 j = M 75 j from (Eq.trans (k75 75 j (by unfold WRA; omega)) (Eq.trans (congrFun (x_up_n _ _ _ (by omega)) _) (Eq.trans (congrFun (x_up_n _ _ _ (by omega)) _) (Eq.trans (congrFun (x_up_n _ _ _ (by omega)) _) rfl))))).trans eq⟩)⟩⟩)
      refine xg_eq 3 (fun w77 => ?_) (fun w77 => ?_)
      · refine xr_tableIn (tgt := 90) dX10_act_31 (by decide) (by decide) rfl rfl ?_
        refine xr_aload_n dX10_act_90 0 rfl ?_
        refine xr_aload_n dX10_act_91 0 rfl ?_
        refine xb_get (v := 3) flX10_352 dX10_act_92 s_62 rfl (Eq.trans (x_up_k _ _ _ (by decide)) (x_up_s _ _ _ _)) ?_
        refine xr_iload_n dX10_act_95 3 rfl ?_
        refine xr_callV (As := [.int (3), .int (x)]) (rest := []) mlX10_358 (ra3_tellsAs_3 (ac := h_) (ra := 0) x (by omega) (Eq.trans (x_up_k _ _ _ (by decide)) (Eq.trans (x_up_k _ _ _ (by decide)) (x_up_s _ _ _ _))) (Eq.trans (x_up_k _ _ _ (by decide)) (x_up_s _ _ _ _)) (x_up_s _ _ _ _)) dX10_act_96 s_62 rfl rfl (Nat.le_of_ble_eq_true rfl) (by decide) ⟨by decide, by decide⟩ (fun v s2 M79 J2 hq => ?_)
        obtain ⟨r81, rfl, rfl, rfl, k80, ⟨_, hx78⟩⟩ := hq
        try dsimp only [Option.toList, List.cons_append, List.nil_append]
        exact xr_iret dX10_act_99 rfl rfl (⟨_, rfl, rfl, rfl, (Ke.tr (fun pp kk => (fun hh => Or.elim hh (fun h => (Or.inl h)) (fun h => (Or.inr (Or.inr (Or.inr h)))))) (Ke.up (Or.inr (Or.inr (Or.inl (by omega)))) (Ke.up (Or.inr (Or.inl (by omega))) (Ke.up (Or.inl (by omega)) Ke.rf))) k80), ⟨⟨hn, by omega, (Eq.trans (k80 62 6 (by decide)) (Eq.trans (x_up_k _ _ _ (by decide)) (Eq.trans (x_up_k _ _ _ (by decide)) (Eq.trans (x_up_k _ _ _ (by decide)) e_hn)))), (fun kw hkw => by rw [show M79 63 (5 + kw) = M 63 (5 + kw) from (Eq.trans (k80 63 (5 + kw) (by unfold WRA; omega)) (Eq.trans (congrFun (x_up_n _ _ _ (by omega)) _) (Eq.trans (congrFun (x_up_n _ _ _ (by omega)) _) (Eq.trans (congrFun (x_up_n _ _ _ (by omega)) _) rfl))))]; exact hw kw hkw)⟩, (by rw [show M79 63 16 = M 63 16 from (Eq.trans (k80 63 16 (by unfold WRA; omega)) (Eq.trans (congrFun (x_up_n _ _ _ (by omega)) _) (Eq.trans (congrFun (x_up_n _ _ _ (by omega)) _) (Eq.trans (congrFun (x_up_n _ _ _ (by omega)) _) rfl))))]; exact hbt), ⟨un, wn, by omega, by omega, (Eq.trans (k80 62 5 (by decide)) (Eq.trans (x_up_k _ _ _ (by decide)) (Eq.trans (x_up_k _ _ _ (by decide)) (Eq.trans (x_up_k _ _ _ (by decide)) e_un)))), (Eq.trans (k80 62 4 (by decide)) (Eq.trans (x_up_k _ _ _ (by decide)) (Eq.trans (x_up_k _ _ _ (by decide)) (Eq.trans (x_up_k _ _ _ (by decide)) e_wn))))⟩, (fun kk hkk => by rw [show M79 64 kk = M 64 kk from (Eq.trans (k80 64 kk (by unfold WRA; omega)) (Eq.trans (congrFun (x_up_n _ _ _ (by omega)) _) (Eq.trans (congrFun (x_up_n _ _ _ (by omega)) _) (Eq.trans (congrFun (x_up_n _ _ _ (by omega)) _) rfl)))), show M79 65 kk = M 65 kk from (Eq.trans (k80 65 kk (by unfold WRA; omega)) (Eq.trans (congrFun (x_up_n _ _ _ (by omega)) _) (Eq.trans (congrFun (x_up_n _ _ _ (by omega)) _) (Eq.trans (congrFun (x_up_n _ _ _ (by omega)) _) rfl)))), show M79 66 kk = M 66 kk from (Eq.trans (k80 66 kk (by unfold WRA; omega)) (Eq.trans (congrFun (x_up_n _ _ _ (by omega)) _) (Eq.trans (congrFun (x_up_n _ _ _ (by omega)) _) (Eq.trans (congrFun (x_up_n _ _ _ (by omega)) _) rfl))))]; exact hch kk hkk), ⟨n, by omega, (Eq.trans (k80 62 11 (by decide)) (Eq.trans (x_up_k _ _ _ (by decide)) (Eq.trans (x_up_k _ _ _ (by decide)) (Eq.trans (x_up_k _ _ _ (by decide)) e_n))))⟩, (by rw [show M79 62 13 = M 62 13 from (Eq.trans (k80 62 13 (by unfold WRA; omega)) (Eq.trans (x_up_k _ _ _ (by omega)) (Eq.trans (x_up_k _ _ _ (by omega)) (Eq.trans (x_up_k _ _ _ (by omega)) rfl))))]; exact htx), ⟨b, by omega, (Eq.trans (k80 62 36 (by decide)) (Eq.trans (x_up_k _ _ _ (by decide)) (Eq.trans (x_up_k _ _ _ (by decide)) (Eq.trans (x_up_k _ _ _ (by decide)) e_b))))⟩, (fun j hj => by obtain ⟨q, hq, eq⟩ := hkd j hj; exact ⟨q, hq, (show M79 81 j = M 81 j from (Eq.trans (k80 81 j (by unfold WRA; omega)) (Eq.trans (congrFun (x_up_n _ _ _ (by omega)) _) (Eq.trans (congrFun (x_up_n _ _ _ (by omega)) _) (Eq.trans (congrFun (x_up_n _ _ _ (by omega)) _) rfl))))).trans eq⟩), ⟨0 + 7, by omega, hx78⟩, (fun j hj => by rw [show M79 83 j = M 83 j from (Eq.trans (k80 83 j (by unfold WRA; omega)) (Eq.trans (congrFun (x_up_n _ _ _ (by omega)) _) (Eq.trans (congrFun (x_up_n _ _ _ (by omega)) _) (Eq.trans (congrFun (x_up_n _ _ _ (by omega)) _) rfl)))), show M79 84 j = M 84 j from (Eq.trans (k80 84 j (by unfold WRA; omega)) (Eq.trans (congrFun (x_up_n _ _ _ (by omega)) _) (Eq.trans (congrFun (x_up_n _ _ _ (by omega)) _) (Eq.trans (congrFun (x_up_n _ _ _ (by omega)) _) rfl))))]; exact hsl j hj), ⟨ic, by omega, (Eq.trans (k80 62 34 (by decide)) (Eq.trans (x_up_k _ _ _ (by decide)) (Eq.trans (x_up_k _ _ _ (by decide)) (Eq.trans (x_up_k _ _ _ (by decide)) e_ic))))⟩, (fun j hj => by obtain ⟨q, hq, eq⟩ := hS j hj; exact ⟨q, hq, (show M79 75 j = M 75 j from (Eq.trans (k80 75 j (by unfold WRA; omega)) (Eq.trans (congrFun (x_up_n _ _ _ (by omega)) _) (Eq.trans (congrFun (x_up_n _ _ _ (by omega)) _) (Eq.trans (congrFun (x_up_n _ _ _ (by omega)) _) rfl))))).trans eq⟩)⟩⟩)
      refine xr_tableOut (tgt := 100) dX10_act_31 (xg_out (lo := 0) (hi := 3) (by decide) (fun j h1 h2 qq => by have h3 : j = 0 ∨ j = 1 ∨ j = 2 ∨ j = 3 := (by omega); rcases h3 with rfl | rfl | rfl | rfl <;> first | exact absurd qq w62 | exact absurd qq w67 | exact absurd qq w72 | exact absurd qq w77)) rfl ?_
      refine xr_iconst (v := 0) dX10_act_100 rfl ?_
      exact xr_iret dX10_act_101 rfl rfl (⟨_, rfl, rfl, rfl, (Ke.up (Or.inr (Or.inr (Or.inl (by omega)))) (Ke.up (Or.inr (Or.inl (by omega))) (Ke.up (Or.inl (by omega)) Ke.rf))), ⟨⟨hn, by omega, (Eq.trans (x_up_k _ _ _ (by decide)) (Eq.trans (x_up_k _ _ _ (by decide)) (Eq.trans (x_up_k _ _ _ (by decide)) e_hn))), (fun kw hkw => by rw [show (x_up (x_up (x_up M 62 39 0) 62 40 3) 62 41 (nI (h_))) 63 (5 + kw) = M 63 (5 + kw) from (Eq.trans (congrFun (x_up_n _ _ _ (by omega)) _) (Eq.trans (congrFun (x_up_n _ _ _ (by omega)) _) (Eq.trans (congrFun (x_up_n _ _ _ (by omega)) _) rfl)))]; exact hw kw hkw)⟩, (by rw [show (x_up (x_up (x_up M 62 39 0) 62 40 3) 62 41 (nI (h_))) 63 16 = M 63 16 from (Eq.trans (congrFun (x_up_n _ _ _ (by omega)) _) (Eq.trans (congrFun (x_up_n _ _ _ (by omega)) _) (Eq.trans (congrFun (x_up_n _ _ _ (by omega)) _) rfl)))]; exact hbt), ⟨un, wn, by omega, by omega, (Eq.trans (x_up_k _ _ _ (by decide)) (Eq.trans (x_up_k _ _ _ (by decide)) (Eq.trans (x_up_k _ _ _ (by decide)) e_un))), (Eq.trans (x_up_k _ _ _ (by decide)) (Eq.trans (x_up_k _ _ _ (by decide)) (Eq.trans (x_up_k _ _ _ (by decide)) e_wn)))⟩, (fun kk hkk => by rw [show (x_up (x_up (x_up M 62 39 0) 62 40 3) 62 41 (nI (h_))) 64 kk = M 64 kk from (Eq.trans (congrFun (x_up_n _ _ _ (by omega)) _) (Eq.trans (congrFun (x_up_n _ _ _ (by omega)) _) (Eq.trans (congrFun (x_up_n _ _ _ (by omega)) _) rfl))), show (x_up (x_up (x_up M 62 39 0) 62 40 3) 62 41 (nI (h_))) 65 kk = M 65 kk from (Eq.trans (congrFun (x_up_n _ _ _ (by omega)) _) (Eq.trans (congrFun (x_up_n _ _ _ (by omega)) _) (Eq.trans (congrFun (x_up_n _ _ _ (by omega)) _) rfl))), show (x_up (x_up (x_up M 62 39 0) 62 40 3) 62 41 (nI (h_))) 66 kk = M 66 kk from (Eq.trans (congrFun (x_up_n _ _ _ (by omega)) _) (Eq.trans (congrFun (x_up_n _ _ _ (by omega)) _) (Eq.trans (congrFun (x_up_n _ _ _ (by omega)) _) rfl)))]; exact hch kk hkk), ⟨n, by omega, (Eq.trans (x_up_k _ _ _ (by decide)) (Eq.trans (x_up_k _ _ _ (by decide)) (Eq.trans (x_up_k _ _ _ (by decide)) e_n)))⟩, (by rw [show (x_up (x_up (x_up M 62 39 0) 62 40 3) 62 41 (nI (h_))) 62 13 = M 62 13 from (Eq.trans (x_up_k _ _ _ (by omega)) (Eq.trans (x_up_k _ _ _ (by omega)) (Eq.trans (x_up_k _ _ _ (by omega)) rfl)))]; exact htx), ⟨b, by omega, (Eq.trans (x_up_k _ _ _ (by decide)) (Eq.trans (x_up_k _ _ _ (by decide)) (Eq.trans (x_up_k _ _ _ (by decide)) e_b)))⟩, (fun j hj => by obtain ⟨q, hq, eq⟩ := hkd j hj; exact ⟨q, hq, (show (x_up (x_up (x_up M 62 39 0) 62 40 3) 62 41 (nI (h_))) 81 j = M 81 j from (Eq.trans (congrFun (x_up_n _ _ _ (by omega)) _) (Eq.trans (congrFun (x_up_n _ _ _ (by omega)) _) (Eq.trans (congrFun (x_up_n _ _ _ (by omega)) _) rfl)))).trans eq⟩), ⟨0, by omega, (Eq.trans (x_up_k _ _ _ (by decide)) (Eq.trans (x_up_k _ _ _ (by decide)) (x_up_s _ _ _ _)))⟩, (fun j hj => by rw [show (x_up (x_up (x_up M 62 39 0) 62 40 3) 62 41 (nI (h_))) 83 j = M 83 j from (Eq.trans (congrFun (x_up_n _ _ _ (by omega)) _) (Eq.trans (congrFun (x_up_n _ _ _ (by omega)) _) (Eq.trans (congrFun (x_up_n _ _ _ (by omega)) _) rfl))), show (x_up (x_up (x_up M 62 39 0) 62 40 3) 62 41 (nI (h_))) 84 j = M 84 j from (Eq.trans (congrFun (x_up_n _ _ _ (by omega)) _) (Eq.trans (congrFun (x_up_n _ _ _ (by omega)) _) (Eq.trans (congrFun (x_up_n _ _ _ (by omega)) _) rfl)))]; exact hsl j hj), ⟨ic, by omega, (Eq.trans (x_up_k _ _ _ (by decide)) (Eq.trans (x_up_k _ _ _ (by decide)) (Eq.trans (x_up_k _ _ _ (by decide)) e_ic)))⟩, (fun j hj => by obtain ⟨q, hq, eq⟩ := hS j hj; exact ⟨q, hq, (show (x_up (x_up (x_up M 62 39 0) 62 40 3) 62 41 (nI (h_))) 75 j = M 75 j from (Eq.trans (congrFun (x_up_n _ _ _ (by omega)) _) (Eq.trans (congrFun (x_up_n _ _ _ (by omega)) _) (Eq.trans (congrFun (x_up_n _ _ _ (by omega)) _) rfl)))).trans eq⟩)⟩⟩)
    · refine xr_aload_n dX10_act_15 0 rfl ?_
      refine xr_aload_n dX10_act_16 0 rfl ?_
      refine xr_getR flX10_69 dX10_act_17 s_62 rfl ?_
      refine xr_iload_n dX10_act_20 1 rfl ?_
      refine xb_iald (j := h_) (v := 4) dX10_act_21 s_81 (by omega) (by decide) (Eq.trans (congrFun (x_up_n _ _ _ (by decide)) _) eq9) ?_
      refine xr_putI fpX10_352 dX10_act_22 s_62 rfl rfl rfl ?_
      refine xr_aload_n dX10_act_25 0 rfl ?_
      refine xr_iload_n dX10_act_26 1 rfl ?_
      refine xr_putI fpX10_346 dX10_act_27 s_62 rfl rfl rfl ?_
      refine xr_iload_n dX10_act_30 2 rfl ?_
      refine xg_eq 0 (fun w82 => ?_) (fun w82 => ?_)
      · refine xr_tableIn (tgt := 60) dX10_act_31 (by decide) (by decide) rfl rfl ?_
        refine xr_aload_n dX10_act_60 0 rfl ?_
        refine xr_aload_n dX10_act_61 0 rfl ?_
        refine xb_get (v := 4) flX10_352 dX10_act_62 s_62 rfl (Eq.trans (x_up_k _ _ _ (by decide)) (x_up_s _ _ _ _)) ?_
        refine xr_iload_n dX10_act_65 3 rfl ?_
        refine xr_callV (As := [.int (4), .int (x)]) (rest := []) mlX10_343 (ra4_pushesAs_4 (ac := h_) (ra := 0) x (by omega) (Eq.trans (x_up_k _ _ _ (by decide)) (Eq.trans (x_up_k _ _ _ (by decide)) (x_up_s _ _ _ _))) (Eq.trans (x_up_k _ _ _ (by decide)) (x_up_s _ _ _ _)) (x_up_s _ _ _ _)) dX10_act_66 s_62 rfl rfl (Nat.le_of_ble_eq_true rfl) (by decide) ⟨by decide, by decide⟩ (fun v s2 M84 J2 hq => ?_)
        obtain ⟨r86, rfl, rfl, rfl, k85, ⟨_, hx83⟩⟩ := hq
        try dsimp only [Option.toList, List.cons_append, List.nil_append]
        exact xr_iret dX10_act_69 rfl rfl (⟨_, rfl, rfl, rfl, (Ke.tr (fun pp kk => (fun hh => Or.elim hh (fun h => (Or.inl h)) (fun h => (Or.inr (Or.inr (Or.inr h)))))) (Ke.up (Or.inr (Or.inr (Or.inl (by omega)))) (Ke.up (Or.inr (Or.inl (by omega))) (Ke.up (Or.inl (by omega)) Ke.rf))) k85), ⟨⟨hn, by omega, (Eq.trans (k85 62 6 (by decide)) (Eq.trans (x_up_k _ _ _ (by decide)) (Eq.trans (x_up_k _ _ _ (by decide)) (Eq.trans (x_up_k _ _ _ (by decide)) e_hn)))), (fun kw hkw => by rw [show M84 63 (5 + kw) = M 63 (5 + kw) from (Eq.trans (k85 63 (5 + kw) (by unfold WRA; omega)) (Eq.trans (congrFun (x_up_n _ _ _ (by omega)) _) (Eq.trans (congrFun (x_up_n _ _ _ (by omega)) _) (Eq.trans (congrFun (x_up_n _ _ _ (by omega)) _) rfl))))]; exact hw kw hkw)⟩, (by rw [show M84 63 16 = M 63 16 from (Eq.trans (k85 63 16 (by unfold WRA; omega)) (Eq.trans (congrFun (x_up_n _ _ _ (by omega)) _) (Eq.trans (congrFun (x_up_n _ _ _ (by omega)) _) (Eq.trans (congrFun (x_up_n _ _ _ (by omega)) _) rfl))))]; exact hbt), ⟨un, wn, by omega, by omega, (Eq.trans (k85 62 5 (by decide)) (Eq.trans (x_up_k _ _ _ (by decide)) (Eq.trans (x_up_k _ _ _ (by decide)) (Eq.trans (x_up_k _ _ _ (by decide)) e_un)))), (Eq.trans (k85 62 4 (by decide)) (Eq.trans (x_up_k _ _ _ (by decide)) (Eq.trans (x_up_k _ _ _ (by decide)) (Eq.trans (x_up_k _ _ _ (by decide)) e_wn))))⟩, (fun kk hkk => by rw [show M84 64 kk = M 64 kk from (Eq.trans (k85 64 kk (by unfold WRA; omega)) (Eq.trans (congrFun (x_up_n _ _ _ (by omega)) _) (Eq.trans (congrFun (x_up_n _ _ _ (by omega)) _) (Eq.trans (congrFun (x_up_n _ _ _ (by omega)) _) rfl)))), show M84 65 kk = M 65 kk from (Eq.trans (k85 65 kk (by unfold WRA; omega)) (Eq.trans (congrFun (x_up_n _ _ _ (by omega)) _) (Eq.trans (congrFun (x_up_n _ _ _ (by omega)) _) (Eq.trans (congrFun (x_up_n _ _ _ (by omega)) _) rfl)))), show M84 66 kk = M 66 kk from (Eq.trans (k85 66 kk (by unfold WRA; omega)) (Eq.trans (congrFun (x_up_n _ _ _ (by omega)) _) (Eq.trans (congrFun (x_up_n _ _ _ (by omega)) _) (Eq.trans (congrFun (x_up_n _ _ _ (by omega)) _) rfl))))]; exact hch kk hkk), ⟨n, by omega, (Eq.trans (k85 62 11 (by decide)) (Eq.trans (x_up_k _ _ _ (by decide)) (Eq.trans (x_up_k _ _ _ (by decide)) (Eq.trans (x_up_k _ _ _ (by decide)) e_n))))⟩, (by rw [show M84 62 13 = M 62 13 from (Eq.trans (k85 62 13 (by unfold WRA; omega)) (Eq.trans (x_up_k _ _ _ (by omega)) (Eq.trans (x_up_k _ _ _ (by omega)) (Eq.trans (x_up_k _ _ _ (by omega)) rfl))))]; exact htx), ⟨b, by omega, (Eq.trans (k85 62 36 (by decide)) (Eq.trans (x_up_k _ _ _ (by decide)) (Eq.trans (x_up_k _ _ _ (by decide)) (Eq.trans (x_up_k _ _ _ (by decide)) e_b))))⟩, (fun j hj => by obtain ⟨q, hq, eq⟩ := hkd j hj; exact ⟨q, hq, (show M84 81 j = M 81 j from (Eq.trans (k85 81 j (by unfold WRA; omega)) (Eq.trans (congrFun (x_up_n _ _ _ (by omega)) _) (Eq.trans (congrFun (x_up_n _ _ _ (by omega)) _) (Eq.trans (congrFun (x_up_n _ _ _ (by omega)) _) rfl))))).trans eq⟩), ⟨0 + 2, by omega, hx83⟩, (fun j hj => by rw [show M84 83 j = M 83 j from (Eq.trans (k85 83 j (by unfold WRA; omega)) (Eq.trans (congrFun (x_up_n _ _ _ (by omega)) _) (Eq.trans (congrFun (x_up_n _ _ _ (by omega)) _) (Eq.trans (congrFun (x_up_n _ _ _ (by omega)) _) rfl)))), show M84 84 j = M 84 j from (Eq.trans (k85 84 j (by unfold WRA; omega)) (Eq.trans (congrFun (x_up_n _ _ _ (by omega)) _) (Eq.trans (congrFun (x_up_n _ _ _ (by omega)) _) (Eq.trans (congrFun (x_up_n _ _ _ (by omega)) _) rfl))))]; exact hsl j hj), ⟨ic, by omega, (Eq.trans (k85 62 34 (by decide)) (Eq.trans (x_up_k _ _ _ (by decide)) (Eq.trans (x_up_k _ _ _ (by decide)) (Eq.trans (x_up_k _ _ _ (by decide)) e_ic))))⟩, (fun j hj => by obtain ⟨q, hq, eq⟩ := hS j hj; exact ⟨q, hq, (show M84 75 j = M 75 j from (Eq.trans (k85 75 j (by unfold WRA; omega)) (Eq.trans (congrFun (x_up_n _ _ _ (by omega)) _) (Eq.trans (congrFun (x_up_n _ _ _ (by omega)) _) (Eq.trans (congrFun (x_up_n _ _ _ (by omega)) _) rfl))))).trans eq⟩)⟩⟩)
      refine xg_eq 1 (fun w87 => ?_) (fun w87 => ?_)
      · refine xr_tableIn (tgt := 70) dX10_act_31 (by decide) (by decide) rfl rfl ?_
        refine xr_aload_n dX10_act_70 0 rfl ?_
        refine xr_aload_n dX10_act_71 0 rfl ?_
        refine xb_get (v := 4) flX10_352 dX10_act_72 s_62 rfl (Eq.trans (x_up_k _ _ _ (by decide)) (x_up_s _ _ _ _)) ?_
        refine xr_iload_n dX10_act_75 3 rfl ?_
        refine xr_callV (As := [.int (4), .int (x)]) (rest := []) mlX10_349 (ra4_turnsAs_4 (ac := h_) (ra := 0) x (by omega) (Eq.trans (x_up_k _ _ _ (by decide)) (Eq.trans (x_up_k _ _ _ (by decide)) (x_up_s _ _ _ _))) (Eq.trans (x_up_k _ _ _ (by decide)) (x_up_s _ _ _ _)) (x_up_s _ _ _ _)) dX10_act_76 s_62 rfl rfl (Nat.le_of_ble_eq_true rfl) (by decide) ⟨by decide, by decide⟩ (fun v s2 M89 J2 hq => ?_)
        obtain ⟨r91, rfl, rfl, rfl, k90, ⟨_, hx88⟩⟩ := hq
        try dsimp only [Option.toList, List.cons_append, List.nil_append]
        exact xr_iret dX10_act_79 rfl rfl (⟨_, rfl, rfl, rfl, (Ke.tr (fun pp kk => (fun hh => Or.elim hh (fun h => (Or.inl h)) (fun h => (Or.inr (Or.inr (Or.inr h)))))) (Ke.up (Or.inr (Or.inr (Or.inl (by omega)))) (Ke.up (Or.inr (Or.inl (by omega))) (Ke.up (Or.inl (by omega)) Ke.rf))) k90), ⟨⟨hn, by omega, (Eq.trans (k90 62 6 (by decide)) (Eq.trans (x_up_k _ _ _ (by decide)) (Eq.trans (x_up_k _ _ _ (by decide)) (Eq.trans (x_up_k _ _ _ (by decide)) e_hn)))), (fun kw hkw => by rw [show M89 63 (5 + kw) = M 63 (5 + kw) from (Eq.trans (k90 63 (5 + kw) (by unfold WRA; omega)) (Eq.trans (congrFun (x_up_n _ _ _ (by omega)) _) (Eq.trans (congrFun (x_up_n _ _ _ (by omega)) _) (Eq.trans (congrFun (x_up_n _ _ _ (by omega)) _) rfl))))]; exact hw kw hkw)⟩, (by rw [show M89 63 16 = M 63 16 from (Eq.trans (k90 63 16 (by unfold WRA; omega)) (Eq.trans (congrFun (x_up_n _ _ _ (by omega)) _) (Eq.trans (congrFun (x_up_n _ _ _ (by omega)) _) (Eq.trans (congrFun (x_up_n _ _ _ (by omega)) _) rfl))))]; exact hbt), ⟨un, wn, by omega, by omega, (Eq.trans (k90 62 5 (by decide)) (Eq.trans (x_up_k _ _ _ (by decide)) (Eq.trans (x_up_k _ _ _ (by decide)) (Eq.trans (x_up_k _ _ _ (by decide)) e_un)))), (Eq.trans (k90 62 4 (by decide)) (Eq.trans (x_up_k _ _ _ (by decide)) (Eq.trans (x_up_k _ _ _ (by decide)) (Eq.trans (x_up_k _ _ _ (by decide)) e_wn))))⟩, (fun kk hkk => by rw [show M89 64 kk = M 64 kk from (Eq.trans (k90 64 kk (by unfold WRA; omega)) (Eq.trans (congrFun (x_up_n _ _ _ (by omega)) _) (Eq.trans (congrFun (x_up_n _ _ _ (by omega)) _) (Eq.trans (congrFun (x_up_n _ _ _ (by omega)) _) rfl)))), show M89 65 kk = M 65 kk from (Eq.trans (k90 65 kk (by unfold WRA; omega)) (Eq.trans (congrFun (x_up_n _ _ _ (by omega)) _) (Eq.trans (congrFun (x_up_n _ _ _ (by omega)) _) (Eq.trans (congrFun (x_up_n _ _ _ (by omega)) _) rfl)))), show M89 66 kk = M 66 kk from (Eq.trans (k90 66 kk (by unfold WRA; omega)) (Eq.trans (congrFun (x_up_n _ _ _ (by omega)) _) (Eq.trans (congrFun (x_up_n _ _ _ (by omega)) _) (Eq.trans (congrFun (x_up_n _ _ _ (by omega)) _) rfl))))]; exact hch kk hkk), ⟨n, by omega, (Eq.trans (k90 62 11 (by decide)) (Eq.trans (x_up_k _ _ _ (by decide)) (Eq.trans (x_up_k _ _ _ (by decide)) (Eq.trans (x_up_k _ _ _ (by decide)) e_n))))⟩, (by rw [show M89 62 13 = M 62 13 from (Eq.trans (k90 62 13 (by unfold WRA; omega)) (Eq.trans (x_up_k _ _ _ (by omega)) (Eq.trans (x_up_k _ _ _ (by omega)) (Eq.trans (x_up_k _ _ _ (by omega)) rfl))))]; exact htx), ⟨b, by omega, (Eq.trans (k90 62 36 (by decide)) (Eq.trans (x_up_k _ _ _ (by decide)) (Eq.trans (x_up_k _ _ _ (by decide)) (Eq.trans (x_up_k _ _ _ (by decide)) e_b))))⟩, (fun j hj => by obtain ⟨q, hq, eq⟩ := hkd j hj; exact ⟨q, hq, (show M89 81 j = M 81 j from (Eq.trans (k90 81 j (by unfold WRA; omega)) (Eq.trans (congrFun (x_up_n _ _ _ (by omega)) _) (Eq.trans (congrFun (x_up_n _ _ _ (by omega)) _) (Eq.trans (congrFun (x_up_n _ _ _ (by omega)) _) rfl))))).trans eq⟩), ⟨0 + 3, by omega, hx88⟩, (fun j hj => by rw [show M89 83 j = M 83 j from (Eq.trans (k90 83 j (by unfold WRA; omega)) (Eq.trans (congrFun (x_up_n _ _ _ (by omega)) _) (Eq.trans (congrFun (x_up_n _ _ _ (by omega)) _) (Eq.trans (congrFun (x_up_n _ _ _ (by omega)) _) rfl)))), show M89 84 j = M 84 j from (Eq.trans (k90 84 j (by unfold WRA; omega)) (Eq.trans (congrFun (x_up_n _ _ _ (by omega)) _) (Eq.trans (congrFun (x_up_n _ _ _ (by omega)) _) (Eq.trans (congrFun (x_up_n _ _ _ (by omega)) _) rfl))))]; exact hsl j hj), ⟨ic, by omega, (Eq.trans (k90 62 34 (by decide)) (Eq.trans (x_up_k _ _ _ (by decide)) (Eq.trans (x_up_k _ _ _ (by decide)) (Eq.trans (x_up_k _ _ _ (by decide)) e_ic))))⟩, (fun j hj => by obtain ⟨q, hq, eq⟩ := hS j hj; exact ⟨q, hq, (show M89 75 j = M 75 j from (Eq.trans (k90 75 j (by unfold WRA; omega)) (Eq.trans (congrFun (x_up_n _ _ _ (by omega)) _) (Eq.trans (congrFun (x_up_n _ _ _ (by omega)) _) (Eq.trans (congrFun (x_up_n _ _ _ (by omega)) _) rfl))))).trans eq⟩)⟩⟩)
      refine xg_eq 2 (fun w92 => ?_) (fun w92 => ?_)
      · refine xr_tableIn (tgt := 80) dX10_act_31 (by decide) (by decide) rfl rfl ?_
        refine xr_aload_n dX10_act_80 0 rfl ?_
        refine xr_aload_n dX10_act_81 0 rfl ?_
        refine xb_get (v := 4) flX10_352 dX10_act_82 s_62 rfl (Eq.trans (x_up_k _ _ _ (by decide)) (x_up_s _ _ _ _)) ?_
        refine xr_iload_n dX10_act_85 3 rfl ?_
        refine xr_callV (As := [.int (4), .int (x)]) (rest := []) mlX10_355 (ra4_sinksAs_4 (ac := h_) (ra := 0) x (by omega) (Eq.trans (x_up_k _ _ _ (by decide)) (Eq.trans (x_up_k _ _ _ (by decide)) (x_up_s _ _ _ _))) (Eq.trans (x_up_k _ _ _ (by decide)) (x_up_s _ _ _ _)) (x_up_s _ _ _ _)) dX10_act_86 s_62 rfl rfl (Nat.le_of_ble_eq_true rfl) (by decide) ⟨by decide, by decide⟩ (fun v s2 M94 J2 hq => ?_)
        obtain ⟨r96, rfl, rfl, rfl, k95, ⟨_, hx93⟩⟩ := hq
        try dsimp only [Option.toList, List.cons_append, List.nil_append]
        exact xr_iret dX10_act_89 rfl rfl (⟨_, rfl, rfl, rfl, (Ke.tr (fun pp kk => (fun hh => Or.elim hh (fun h => (Or.inl h)) (fun h => (Or.inr (Or.inr (Or.inr h)))))) (Ke.up (Or.inr (Or.inr (Or.inl (by omega)))) (Ke.up (Or.inr (Or.inl (by omega))) (Ke.up (Or.inl (by omega)) Ke.rf))) k95), ⟨⟨hn, by omega, (Eq.trans (k95 62 6 (by decide)) (Eq.trans (x_up_k _ _ _ (by decide)) (Eq.trans (x_up_k _ _ _ (by decide)) (Eq.trans (x_up_k _ _ _ (by decide)) e_hn)))), (fun kw hkw => by rw [show M94 63 (5 + kw) = M 63 (5 + kw) from (Eq.trans (k95 63 (5 + kw) (by unfold WRA; omega)) (Eq.trans (congrFun (x_up_n _ _ _ (by omega)) _) (Eq.trans (congrFun (x_up_n _ _ _ (by omega)) _) (Eq.trans (congrFun (x_up_n _ _ _ (by omega)) _) rfl))))]; exact hw kw hkw)⟩, (by rw [show M94 63 16 = M 63 16 from (Eq.trans (k95 63 16 (by unfold WRA; omega)) (Eq.trans (congrFun (x_up_n _ _ _ (by omega)) _) (Eq.trans (congrFun (x_up_n _ _ _ (by omega)) _) (Eq.trans (congrFun (x_up_n _ _ _ (by omega)) _) rfl))))]; exact hbt), ⟨un, wn, by omega, by omega, (Eq.trans (k95 62 5 (by decide)) (Eq.trans (x_up_k _ _ _ (by decide)) (Eq.trans (x_up_k _ _ _ (by decide)) (Eq.trans (x_up_k _ _ _ (by decide)) e_un)))), (Eq.trans (k95 62 4 (by decide)) (Eq.trans (x_up_k _ _ _ (by decide)) (Eq.trans (x_up_k _ _ _ (by decide)) (Eq.trans (x_up_k _ _ _ (by decide)) e_wn))))⟩, (fun kk hkk => by rw [show M94 64 kk = M 64 kk from (Eq.trans (k95 64 kk (by unfold WRA; omega)) (Eq.trans (congrFun (x_up_n _ _ _ (by omega)) _) (Eq.trans (congrFun (x_up_n _ _ _ (by omega)) _) (Eq.trans (congrFun (x_up_n _ _ _ (by omega)) _) rfl)))), show M94 65 kk = M 65 kk from (Eq.trans (k95 65 kk (by unfold WRA; omega)) (Eq.trans (congrFun (x_up_n _ _ _ (by omega)) _) (Eq.trans (congrFun (x_up_n _ _ _ (by omega)) _) (Eq.trans (congrFun (x_up_n _ _ _ (by omega)) _) rfl)))), show M94 66 kk = M 66 kk from (Eq.trans (k95 66 kk (by unfold WRA; omega)) (Eq.trans (congrFun (x_up_n _ _ _ (by omega)) _) (Eq.trans (congrFun (x_up_n _ _ _ (by omega)) _) (Eq.trans (congrFun (x_up_n _ _ _ (by omega)) _) rfl))))]; exact hch kk hkk), ⟨n, by omega, (Eq.trans (k95 62 11 (by decide)) (Eq.trans (x_up_k _ _ _ (by decide)) (Eq.trans (x_up_k _ _ _ (by decide)) (Eq.trans (x_up_k _ _ _ (by decide)) e_n))))⟩, (by rw [show M94 62 13 = M 62 13 from (Eq.trans (k95 62 13 (by unfold WRA; omega)) (Eq.trans (x_up_k _ _ _ (by omega)) (Eq.trans (x_up_k _ _ _ (by omega)) (Eq.trans (x_up_k _ _ _ (by omega)) rfl))))]; exact htx), ⟨b, by omega, (Eq.trans (k95 62 36 (by decide)) (Eq.trans (x_up_k _ _ _ (by decide)) (Eq.trans (x_up_k _ _ _ (by decide)) (Eq.trans (x_up_k _ _ _ (by decide)) e_b))))⟩, (fun j hj => by obtain ⟨q, hq, eq⟩ := hkd j hj; exact ⟨q, hq, (show M94 81 j = M 81 j from (Eq.trans (k95 81 j (by unfold WRA; omega)) (Eq.trans (congrFun (x_up_n _ _ _ (by omega)) _) (Eq.trans (congrFun (x_up_n _ _ _ (by omega)) _) (Eq.trans (congrFun (x_up_n _ _ _ (by omega)) _) rfl))))).trans eq⟩), ⟨0 + 4, by omega, hx93⟩, (fun j hj => by rw [show M94 83 j = M 83 j from (Eq.trans (k95 83 j (by unfold WRA; omega)) (Eq.trans (congrFun (x_up_n _ _ _ (by omega)) _) (Eq.trans (congrFun (x_up_n _ _ _ (by omega)) _) (Eq.trans (congrFun (x_up_n _ _ _ (by omega)) _) rfl)))), show M94 84 j = M 84 j from (Eq.trans (k95 84 j (by unfold WRA; omega)) (Eq.trans (congrFun (x_up_n _ _ _ (by omega)) _) (Eq.trans (congrFun (x_up_n _ _ _ (by omega)) _) (Eq.trans (congrFun (x_up_n _ _ _ (by omega)) _) rfl))))]; exact hsl j hj), ⟨ic, by omega, (Eq.trans (k95 62 34 (by decide)) (Eq.trans (x_up_k _ _ _ (by decide)) (Eq.trans (x_up_k _ _ _ (by decide)) (Eq.trans (x_up_k _ _ _ (by decide)) e_ic))))⟩, (fun j hj => by obtain ⟨q, hq, eq⟩ := hS j hj; exact ⟨q, hq, (show M94 75 j = M 75 j from (Eq.trans (k95 75 j (by unfold WRA; omega)) (Eq.trans (congrFun (x_up_n _ _ _ (by omega)) _) (Eq.trans (congrFun (x_up_n _ _ _ (by omega)) _) (Eq.trans (congrFun (x_up_n _ _ _ (by omega)) _) rfl))))).trans eq⟩)⟩⟩)
      refine xg_eq 3 (fun w97 => ?_) (fun w97 => ?_)
      · refine xr_tableIn (tgt := 90) dX10_act_31 (by decide) (by decide) rfl rfl ?_
        refine xr_aload_n dX10_act_90 0 rfl ?_
        refine xr_aload_n dX10_act_91 0 rfl ?_
        refine xb_get (v := 4) flX10_352 dX10_act_92 s_62 rfl (Eq.trans (x_up_k _ _ _ (by decide)) (x_up_s _ _ _ _)) ?_
        refine xr_iload_n dX10_act_95 3 rfl ?_
        refine xr_callV (As := [.int (4), .int (x)]) (rest := []) mlX10_358 (ra4_tellsAs_4 (ac := h_) (ra := 0) x (by omega) (Eq.trans (x_up_k _ _ _ (by decide)) (Eq.trans (x_up_k _ _ _ (by decide)) (x_up_s _ _ _ _))) (Eq.trans (x_up_k _ _ _ (by decide)) (x_up_s _ _ _ _)) (x_up_s _ _ _ _)) dX10_act_96 s_62 rfl rfl (Nat.le_of_ble_eq_true rfl) (by decide) ⟨by decide, by decide⟩ (fun v s2 M99 J2 hq => ?_)
        obtain ⟨r101, rfl, rfl, rfl, k100, ⟨_, hx98⟩⟩ := hq
        try dsimp only [Option.toList, List.cons_append, List.nil_append]
        exact xr_iret dX10_act_99 rfl rfl (⟨_, rfl, rfl, rfl, (Ke.tr (fun pp kk => (fun hh => Or.elim hh (fun h => (Or.inl h)) (fun h => (Or.inr (Or.inr (Or.inr h)))))) (Ke.up (Or.inr (Or.inr (Or.inl (by omega)))) (Ke.up (Or.inr (Or.inl (by omega))) (Ke.up (Or.inl (by omega)) Ke.rf))) k100), ⟨⟨hn, by omega, (Eq.trans (k100 62 6 (by decide)) (Eq.trans (x_up_k _ _ _ (by decide)) (Eq.trans (x_up_k _ _ _ (by decide)) (Eq.trans (x_up_k _ _ _ (by decide)) e_hn)))), (fun kw hkw => by rw [show M99 63 (5 + kw) = M 63 (5 + kw) from (Eq.trans (k100 63 (5 + kw) (by unfold WRA; omega)) (Eq.trans (congrFun (x_up_n _ _ _ (by omega)) _) (Eq.trans (congrFun (x_up_n _ _ _ (by omega)) _) (Eq.trans (congrFun (x_up_n _ _ _ (by omega)) _) rfl))))]; exact hw kw hkw)⟩, (by rw [show M99 63 16 = M 63 16 from (Eq.trans (k100 63 16 (by unfold WRA; omega)) (Eq.trans (congrFun (x_up_n _ _ _ (by omega)) _) (Eq.trans (congrFun (x_up_n _ _ _ (by omega)) _) (Eq.trans (congrFun (x_up_n _ _ _ (by omega)) _) rfl))))]; exact hbt), ⟨un, wn, by omega, by omega, (Eq.trans (k100 62 5 (by decide)) (Eq.trans (x_up_k _ _ _ (by decide)) (Eq.trans (x_up_k _ _ _ (by decide)) (Eq.trans (x_up_k _ _ _ (by decide)) e_un)))), (Eq.trans (k100 62 4 (by decide)) (Eq.trans (x_up_k _ _ _ (by decide)) (Eq.trans (x_up_k _ _ _ (by decide)) (Eq.trans (x_up_k _ _ _ (by decide)) e_wn))))⟩, (fun kk hkk => by rw [show M99 64 kk = M 64 kk from (Eq.trans (k100 64 kk (by unfold WRA; omega)) (Eq.trans (congrFun (x_up_n _ _ _ (by omega)) _) (Eq.trans (congrFun (x_up_n _ _ _ (by omega)) _) (Eq.trans (congrFun (x_up_n _ _ _ (by omega)) _) rfl)))), show M99 65 kk = M 65 kk from (Eq.trans (k100 65 kk (by unfold WRA; omega)) (Eq.trans (congrFun (x_up_n _ _ _ (by omega)) _) (Eq.trans (congrFun (x_up_n _ _ _ (by omega)) _) (Eq.trans (congrFun (x_up_n _ _ _ (by omega)) _) rfl)))), show M99 66 kk = M 66 kk from (Eq.trans (k100 66 kk (by unfold WRA; omega)) (Eq.trans (congrFun (x_up_n _ _ _ (by omega)) _) (Eq.trans (congrFun (x_up_n _ _ _ (by omega)) _) (Eq.trans (congrFun (x_up_n _ _ _ (by omega)) _) rfl))))]; exact hch kk hkk), ⟨n, by omega, (Eq.trans (k100 62 11 (by decide)) (Eq.trans (x_up_k _ _ _ (by decide)) (Eq.trans (x_up_k _ _ _ (by decide)) (Eq.trans (x_up_k _ _ _ (by decide)) e_n))))⟩, (by rw [show M99 62 13 = M 62 13 from (Eq.trans (k100 62 13 (by unfold WRA; omega)) (Eq.trans (x_up_k _ _ _ (by omega)) (Eq.trans (x_up_k _ _ _ (by omega)) (Eq.trans (x_up_k _ _ _ (by omega)) rfl))))]; exact htx), ⟨b, by omega, (Eq.trans (k100 62 36 (by decide)) (Eq.trans (x_up_k _ _ _ (by decide)) (Eq.trans (x_up_k _ _ _ (by decide)) (Eq.trans (x_up_k _ _ _ (by decide)) e_b))))⟩, (fun j hj => by obtain ⟨q, hq, eq⟩ := hkd j hj; exact ⟨q, hq, (show M99 81 j = M 81 j from (Eq.trans (k100 81 j (by unfold WRA; omega)) (Eq.trans (congrFun (x_up_n _ _ _ (by omega)) _) (Eq.trans (congrFun (x_up_n _ _ _ (by omega)) _) (Eq.trans (congrFun (x_up_n _ _ _ (by omega)) _) rfl))))).trans eq⟩), ⟨0 + 8, by omega, hx98⟩, (fun j hj => by rw [show M99 83 j = M 83 j from (Eq.trans (k100 83 j (by unfold WRA; omega)) (Eq.trans (congrFun (x_up_n _ _ _ (by omega)) _) (Eq.trans (congrFun (x_up_n _ _ _ (by omega)) _) (Eq.trans (congrFun (x_up_n _ _ _ (by omega)) _) rfl)))), show M99 84 j = M 84 j from (Eq.trans (k100 84 j (by unfold WRA; omega)) (Eq.trans (congrFun (x_up_n _ _ _ (by omega)) _) (Eq.trans (congrFun (x_up_n _ _ _ (by omega)) _) (Eq.trans (congrFun (x_up_n _ _ _ (by omega)) _) rfl))))]; exact hsl j hj), ⟨ic, by omega, (Eq.trans (k100 62 34 (by decide)) (Eq.trans (x_up_k _ _ _ (by decide)) (Eq.trans (x_up_k _ _ _ (by decide)) (Eq.trans (x_up_k _ _ _ (by decide)) e_ic))))⟩, (fun j hj => by obtain ⟨q, hq, eq⟩ := hS j hj; exact ⟨q, hq, (show M99 75 j = M 75 j from (Eq.trans (k100 75 j (by unfold WRA; omega)) (Eq.trans (congrFun (x_up_n _ _ _ (by omega)) _) (Eq.trans (congrFun (x_up_n _ _ _ (by omega)) _) (Eq.trans (congrFun (x_up_n _ _ _ (by omega)) _) rfl))))).trans eq⟩)⟩⟩)
      refine xr_tableOut (tgt := 100) dX10_act_31 (xg_out (lo := 0) (hi := 3) (by decide) (fun j h1 h2 qq => by have h3 : j = 0 ∨ j = 1 ∨ j = 2 ∨ j = 3 := (by omega); rcases h3 with rfl | rfl | rfl | rfl <;> first | exact absurd qq w82 | exact absurd qq w87 | exact absurd qq w92 | exact absurd qq w97)) rfl ?_
      refine xr_iconst (v := 0) dX10_act_100 rfl ?_
      exact xr_iret dX10_act_101 rfl rfl (⟨_, rfl, rfl, rfl, (Ke.up (Or.inr (Or.inr (Or.inl (by omega)))) (Ke.up (Or.inr (Or.inl (by omega))) (Ke.up (Or.inl (by omega)) Ke.rf))), ⟨⟨hn, by omega, (Eq.trans (x_up_k _ _ _ (by decide)) (Eq.trans (x_up_k _ _ _ (by decide)) (Eq.trans (x_up_k _ _ _ (by decide)) e_hn))), (fun kw hkw => by rw [show (x_up (x_up (x_up M 62 39 0) 62 40 4) 62 41 (nI (h_))) 63 (5 + kw) = M 63 (5 + kw) from (Eq.trans (congrFun (x_up_n _ _ _ (by omega)) _) (Eq.trans (congrFun (x_up_n _ _ _ (by omega)) _) (Eq.trans (congrFun (x_up_n _ _ _ (by omega)) _) rfl)))]; exact hw kw hkw)⟩, (by rw [show (x_up (x_up (x_up M 62 39 0) 62 40 4) 62 41 (nI (h_))) 63 16 = M 63 16 from (Eq.trans (congrFun (x_up_n _ _ _ (by omega)) _) (Eq.trans (congrFun (x_up_n _ _ _ (by omega)) _) (Eq.trans (congrFun (x_up_n _ _ _ (by omega)) _) rfl)))]; exact hbt), ⟨un, wn, by omega, by omega, (Eq.trans (x_up_k _ _ _ (by decide)) (Eq.trans (x_up_k _ _ _ (by decide)) (Eq.trans (x_up_k _ _ _ (by decide)) e_un))), (Eq.trans (x_up_k _ _ _ (by decide)) (Eq.trans (x_up_k _ _ _ (by decide)) (Eq.trans (x_up_k _ _ _ (by decide)) e_wn)))⟩, (fun kk hkk => by rw [show (x_up (x_up (x_up M 62 39 0) 62 40 4) 62 41 (nI (h_))) 64 kk = M 64 kk from (Eq.trans (congrFun (x_up_n _ _ _ (by omega)) _) (Eq.trans (congrFun (x_up_n _ _ _ (by omega)) _) (Eq.trans (congrFun (x_up_n _ _ _ (by omega)) _) rfl))), show (x_up (x_up (x_up M 62 39 0) 62 40 4) 62 41 (nI (h_))) 65 kk = M 65 kk from (Eq.trans (congrFun (x_up_n _ _ _ (by omega)) _) (Eq.trans (congrFun (x_up_n _ _ _ (by omega)) _) (Eq.trans (congrFun (x_up_n _ _ _ (by omega)) _) rfl))), show (x_up (x_up (x_up M 62 39 0) 62 40 4) 62 41 (nI (h_))) 66 kk = M 66 kk from (Eq.trans (congrFun (x_up_n _ _ _ (by omega)) _) (Eq.trans (congrFun (x_up_n _ _ _ (by omega)) _) (Eq.trans (congrFun (x_up_n _ _ _ (by omega)) _) rfl)))]; exact hch kk hkk), ⟨n, by omega, (Eq.trans (x_up_k _ _ _ (by decide)) (Eq.trans (x_up_k _ _ _ (by decide)) (Eq.trans (x_up_k _ _ _ (by decide)) e_n)))⟩, (by rw [show (x_up (x_up (x_up M 62 39 0) 62 40 4) 62 41 (nI (h_))) 62 13 = M 62 13 from (Eq.trans (x_up_k _ _ _ (by omega)) (Eq.trans (x_up_k _ _ _ (by omega)) (Eq.trans (x_up_k _ _ _ (by omega)) rfl)))]; exact htx), ⟨b, by omega, (Eq.trans (x_up_k _ _ _ (by decide)) (Eq.trans (x_up_k _ _ _ (by decide)) (Eq.trans (x_up_k _ _ _ (by decide)) e_b)))⟩, (fun j hj => by obtain ⟨q, hq, eq⟩ := hkd j hj; exact ⟨q, hq, (show (x_up (x_up (x_up M 62 39 0) 62 40 4) 62 41 (nI (h_))) 81 j = M 81 j from (Eq.trans (congrFun (x_up_n _ _ _ (by omega)) _) (Eq.trans (congrFun (x_up_n _ _ _ (by omega)) _) (Eq.trans (congrFun (x_up_n _ _ _ (by omega)) _) rfl)))).trans eq⟩), ⟨0, by omega, (Eq.trans (x_up_k _ _ _ (by decide)) (Eq.trans (x_up_k _ _ _ (by decide)) (x_up_s _ _ _ _)))⟩, (fun j hj => by rw [show (x_up (x_up (x_up M 62 39 0) 62 40 4) 62 41 (nI (h_))) 83 j = M 83 j from (Eq.trans (congrFun (x_up_n _ _ _ (by omega)) _) (Eq.trans (congrFun (x_up_n _ _ _ (by omega)) _) (Eq.trans (congrFun (x_up_n _ _ _ (by omega)) _) rfl))), show (x_up (x_up (x_up M 62 39 0) 62 40 4) 62 41 (nI (h_))) 84 j = M 84 j from (Eq.trans (congrFun (x_up_n _ _ _ (by omega)) _) (Eq.trans (congrFun (x_up_n _ _ _ (by omega)) _) (Eq.trans (congrFun (x_up_n _ _ _ (by omega)) _) rfl)))]; exact hsl j hj), ⟨ic, by omega, (Eq.trans (x_up_k _ _ _ (by decide)) (Eq.trans (x_up_k _ _ _ (by decide)) (Eq.trans (x_up_k _ _ _ (by decide)) e_ic)))⟩, (fun j hj => by obtain ⟨q, hq, eq⟩ := hS j hj; exact ⟨q, hq, (show (x_up (x_up (x_up M 62 39 0) 62 40 4) 62 41 (nI (h_))) 75 j = M 75 j from (Eq.trans (congrFun (x_up_n _ _ _ (by omega)) _) (Eq.trans (congrFun (x_up_n _ _ _ (by omega)) _) (Eq.trans (congrFun (x_up_n _ _ _ (by omega)) _) rfl)))).trans eq⟩)⟩⟩)
    · refine xr_aload_n dX10_act_15 0 rfl ?_
      refine xr_aload_n dX10_act_16 0 rfl ?_
      refine xr_getR flX10_69 dX10_act_17 s_62 rfl ?_
      refine xr_iload_n dX10_act_20 1 rfl ?_
      refine xb_iald (j := h_) (v := 5) dX10_act_21 s_81 (by omega) (by decide) (Eq.trans (congrFun (x_up_n _ _ _ (by decide)) _) eq9) ?_
      refine xr_putI fpX10_352 dX10_act_22 s_62 rfl rfl rfl ?_
      refine xr_aload_n dX10_act_25 0 rfl ?_
      refine xr_iload_n dX10_act_26 1 rfl ?_
      refine xr_putI fpX10_346 dX10_act_27 s_62 rfl rfl rfl ?_
      refine xr_iload_n dX10_act_30 2 rfl ?_
      refine xg_eq 0 (fun w102 => ?_) (fun w102 => ?_)
      · refine xr_tableIn (tgt := 60) dX10_act_31 (by decide) (by decide) rfl rfl ?_
        refine xr_aload_n dX10_act_60 0 rfl ?_
        refine xr_aload_n dX10_act_61 0 rfl ?_
        refine xb_get (v := 5) flX10_352 dX10_act_62 s_62 rfl (Eq.trans (x_up_k _ _ _ (by decide)) (x_up_s _ _ _ _)) ?_
        refine xr_iload_n dX10_act_65 3 rfl ?_
        refine xr_callV (As := [.int (5), .int (x)]) (rest := []) mlX10_343 (ra5_pushesAs_5 (ac := h_) (ra := 0) x (by omega) (Eq.trans (x_up_k _ _ _ (by decide)) (Eq.trans (x_up_k _ _ _ (by decide)) (x_up_s _ _ _ _))) (Eq.trans (x_up_k _ _ _ (by decide)) (x_up_s _ _ _ _)) (x_up_s _ _ _ _)) dX10_act_66 s_62 rfl rfl (Nat.le_of_ble_eq_true rfl) (by decide) ⟨by decide, by decide⟩ (fun v s2 M104 J2 hq => ?_)
        obtain ⟨r106, rfl, rfl, rfl, k105, ⟨_, hx103⟩⟩ := hq
        try dsimp only [Option.toList, List.cons_append, List.nil_append]
        exact xr_iret dX10_act_69 rfl rfl (⟨_, rfl, rfl, rfl, (Ke.tr (fun pp kk => (fun hh => Or.elim hh (fun h => (Or.inl h)) (fun h => (Or.inr (Or.inr (Or.inr h)))))) (Ke.up (Or.inr (Or.inr (Or.inl (by omega)))) (Ke.up (Or.inr (Or.inl (by omega))) (Ke.up (Or.inl (by omega)) Ke.rf))) k105), ⟨⟨hn, by omega, (Eq.trans (k105 62 6 (by decide)) (Eq.trans (x_up_k _ _ _ (by decide)) (Eq.trans (x_up_k _ _ _ (by decide)) (Eq.trans (x_up_k _ _ _ (by decide)) e_hn)))), (fun kw hkw => by rw [show M104 63 (5 + kw) = M 63 (5 + kw) from (Eq.trans (k105 63 (5 + kw) (by unfold WRA; omega)) (Eq.trans (congrFun (x_up_n _ _ _ (by omega)) _) (Eq.trans (congrFun (x_up_n _ _ _ (by omega)) _) (Eq.trans (congrFun (x_up_n _ _ _ (by omega)) _) rfl))))]; exact hw kw hkw)⟩, (by rw [show M104 63 16 = M 63 16 from (Eq.trans (k105 63 16 (by unfold WRA; omega)) (Eq.trans (congrFun (x_up_n _ _ _ (by omega)) _) (Eq.trans (congrFun (x_up_n _ _ _ (by omega)) _) (Eq.trans (congrFun (x_up_n _ _ _ (by omega)) _) rfl))))]; exact hbt), ⟨un, wn, by omega, by omega, (Eq.trans (k105 62 5 (by decide)) (Eq.trans (x_up_k _ _ _ (by decide)) (Eq.trans (x_up_k _ _ _ (by decide)) (Eq.trans (x_up_k _ _ _ (by decide)) e_un)))), (Eq.trans (k105 62 4 (by decide)) (Eq.trans (x_up_k _ _ _ (by decide)) (Eq.trans (x_up_k _ _ _ (by decide)) (Eq.trans (x_up_k _ _ _ (by decide)) e_wn))))⟩, (fun kk hkk => by rw [show M104 64 kk = M 64 kk from (Eq.trans (k105 64 kk (by unfold WRA; omega)) (Eq.trans (congrFun (x_up_n _ _ _ (by omega)) _) (Eq.trans (congrFun (x_up_n _ _ _ (by omega)) _) (Eq.trans (congrFun (x_up_n _ _ _ (by omega)) _) rfl)))), show M104 65 kk = M 65 kk from (Eq.trans (k105 65 kk (by unfold WRA; omega)) (Eq.trans (congrFun (x_up_n _ _ _ (by omega)) _) (Eq.trans (congrFun (x_up_n _ _ _ (by omega)) _) (Eq.trans (congrFun (x_up_n _ _ _ (by omega)) _) rfl)))), show M104 66 kk = M 66 kk from (Eq.trans (k105 66 kk (by unfold WRA; omega)) (Eq.trans (congrFun (x_up_n _ _ _ (by omega)) _) (Eq.trans (congrFun (x_up_n _ _ _ (by omega)) _) (Eq.trans (congrFun (x_up_n _ _ _ (by omega)) _) rfl))))]; exact hch kk hkk), ⟨n, by omega, (Eq.trans (k105 62 11 (by decide)) (Eq.trans (x_up_k _ _ _ (by decide)) (Eq.trans (x_up_k _ _ _ (by decide)) (Eq.trans (x_up_k _ _ _ (by decide)) e_n))))⟩, (by rw [show M104 62 13 = M 62 13 from (Eq.trans (k105 62 13 (by unfold WRA; omega)) (Eq.trans (x_up_k _ _ _ (by omega)) (Eq.trans (x_up_k _ _ _ (by omega)) (Eq.trans (x_up_k _ _ _ (by omega)) rfl))))]; exact htx), ⟨b, by omega, (Eq.trans (k105 62 36 (by decide)) (Eq.trans (x_up_k _ _ _ (by decide)) (Eq.trans (x_up_k _ _ _ (by decide)) (Eq.trans (x_up_k _ _ _ (by decide)) e_b))))⟩, (fun j hj => by obtain ⟨q, hq, eq⟩ := hkd j hj; exact ⟨q, hq, (show M104 81 j = M 81 j from (Eq.trans (k105 81 j (by unfold WRA; omega)) (Eq.trans (congrFun (x_up_n _ _ _ (by omega)) _) (Eq.trans (congrFun (x_up_n _ _ _ (by omega)) _) (Eq.trans (congrFun (x_up_n _ _ _ (by omega)) _) rfl))))).trans eq⟩), ⟨0 + 1, by omega, hx103⟩, (fun j hj => by rw [show M104 83 j = M 83 j from (Eq.trans (k105 83 j (by unfold WRA; omega)) (Eq.trans (congrFun (x_up_n _ _ _ (by omega)) _) (Eq.trans (congrFun (x_up_n _ _ _ (by omega)) _) (Eq.trans (congrFun (x_up_n _ _ _ (by omega)) _) rfl)))), show M104 84 j = M 84 j from (Eq.trans (k105 84 j (by unfold WRA; omega)) (Eq.trans (congrFun (x_up_n _ _ _ (by omega)) _) (Eq.trans (congrFun (x_up_n _ _ _ (by omega)) _) (Eq.trans (congrFun (x_up_n _ _ _ (by omega)) _) rfl))))]; exact hsl j hj), ⟨ic, by omega, (Eq.trans (k105 62 34 (by decide)) (Eq.trans (x_up_k _ _ _ (by decide)) (Eq.trans (x_up_k _ _ _ (by decide)) (Eq.trans (x_up_k _ _ _ (by decide)) e_ic))))⟩, (fun j hj => by obtain ⟨q, hq, eq⟩ := hS j hj; exact ⟨q, hq, (show M104 75 j = M 75 j from (Eq.trans (k105 75 j (by unfold WRA; omega)) (Eq.trans (congrFun (x_up_n _ _ _ (by omega)) _) (Eq.trans (congrFun (x_up_n _ _ _ (by omega)) _) (Eq.trans (congrFun (x_up_n _ _ _ (by omega)) _) rfl))))).trans eq⟩)⟩⟩)
      refine xg_eq 1 (fun w107 => ?_) (fun w107 => ?_)
      · refine xr_tableIn (tgt := 70) dX10_act_31 (by decide) (by decide) rfl rfl ?_
        refine xr_aload_n dX10_act_70 0 rfl ?_
        refine xr_aload_n dX10_act_71 0 rfl ?_
        refine xb_get (v := 5) flX10_352 dX10_act_72 s_62 rfl (Eq.trans (x_up_k _ _ _ (by decide)) (x_up_s _ _ _ _)) ?_
        refine xr_iload_n dX10_act_75 3 rfl ?_
        refine xr_callV (As := [.int (5), .int (x)]) (rest := []) mlX10_349 (ra5_turnsAs_5 (ac := h_) (ra := 0) x (by omega) (Eq.trans (x_up_k _ _ _ (by decide)) (Eq.trans (x_up_k _ _ _ (by decide)) (x_up_s _ _ _ _))) (Eq.trans (x_up_k _ _ _ (by decide)) (x_up_s _ _ _ _)) (x_up_s _ _ _ _)) dX10_act_76 s_62 rfl rfl (Nat.le_of_ble_eq_true rfl) (by decide) ⟨by decide, by decide⟩ (fun v s2 M109 J2 hq => ?_)
        obtain ⟨r111, rfl, rfl, rfl, k110, ⟨_, hx108⟩⟩ := hq
        try dsimp only [Option.toList, List.cons_append, List.nil_append]
        exact xr_iret dX10_act_79 rfl rfl (⟨_, rfl, rfl, rfl, (Ke.tr (fun pp kk => (fun hh => Or.elim hh (fun h => (Or.inl h)) (fun h => (Or.inr (Or.inr (Or.inr h)))))) (Ke.up (Or.inr (Or.inr (Or.inl (by omega)))) (Ke.up (Or.inr (Or.inl (by omega))) (Ke.up (Or.inl (by omega)) Ke.rf))) k110), ⟨⟨hn, by omega, (Eq.trans (k110 62 6 (by decide)) (Eq.trans (x_up_k _ _ _ (by decide)) (Eq.trans (x_up_k _ _ _ (by decide)) (Eq.trans (x_up_k _ _ _ (by decide)) e_hn)))), (fun kw hkw => by rw [show M109 63 (5 + kw) = M 63 (5 + kw) from (Eq.trans (k110 63 (5 + kw) (by unfold WRA; omega)) (Eq.trans (congrFun (x_up_n _ _ _ (by omega)) _) (Eq.trans (congrFun (x_up_n _ _ _ (by omega)) _) (Eq.trans (congrFun (x_up_n _ _ _ (by omega)) _) rfl))))]; exact hw kw hkw)⟩, (by rw [show M109 63 16 = M 63 16 from (Eq.trans (k110 63 16 (by unfold WRA; omega)) (Eq.trans (congrFun (x_up_n _ _ _ (by omega)) _) (Eq.trans (congrFun (x_up_n _ _ _ (by omega)) _) (Eq.trans (congrFun (x_up_n _ _ _ (by omega)) _) rfl))))]; exact hbt), ⟨un, wn, by omega, by omega, (Eq.trans (k110 62 5 (by decide)) (Eq.trans (x_up_k _ _ _ (by decide)) (Eq.trans (x_up_k _ _ _ (by decide)) (Eq.trans (x_up_k _ _ _ (by decide)) e_un)))), (Eq.trans (k110 62 4 (by decide)) (Eq.trans (x_up_k _ _ _ (by decide)) (Eq.trans (x_up_k _ _ _ (by decide)) (Eq.trans (x_up_k _ _ _ (by decide)) e_wn))))⟩, (fun kk hkk => by rw [show M109 64 kk = M 64 kk from (Eq.trans (k110 64 kk (by unfold WRA; omega)) (Eq.trans (congrFun (x_up_n _ _ _ (by omega)) _) (Eq.trans (congrFun (x_up_n _ _ _ (by omega)) _) (Eq.trans (congrFun (x_up_n _ _ _ (by omega)) _) rfl)))), show M109 65 kk = M 65 kk from (Eq.trans (k110 65 kk (by unfold WRA; omega)) (Eq.trans (congrFun (x_up_n _ _ _ (by omega)) _) (Eq.trans (congrFun (x_up_n _ _ _ (by omega)) _) (Eq.trans (congrFun (x_up_n _ _ _ (by omega)) _) rfl)))), show M109 66 kk = M 66 kk from (Eq.trans (k110 66 kk (by unfold WRA; omega)) (Eq.trans (congrFun (x_up_n _ _ _ (by omega)) _) (Eq.trans (congrFun (x_up_n _ _ _ (by omega)) _) (Eq.trans (congrFun (x_up_n _ _ _ (by omega)) _) rfl))))]; exact hch kk hkk), ⟨n, by omega, (Eq.trans (k110 62 11 (by decide)) (Eq.trans (x_up_k _ _ _ (by decide)) (Eq.trans (x_up_k _ _ _ (by decide)) (Eq.trans (x_up_k _ _ _ (by decide)) e_n))))⟩, (by rw [show M109 62 13 = M 62 13 from (Eq.trans (k110 62 13 (by unfold WRA; omega)) (Eq.trans (x_up_k _ _ _ (by omega)) (Eq.trans (x_up_k _ _ _ (by omega)) (Eq.trans (x_up_k _ _ _ (by omega)) rfl))))]; exact htx), ⟨b, by omega, (Eq.trans (k110 62 36 (by decide)) (Eq.trans (x_up_k _ _ _ (by decide)) (Eq.trans (x_up_k _ _ _ (by decide)) (Eq.trans (x_up_k _ _ _ (by decide)) e_b))))⟩, (fun j hj => by obtain ⟨q, hq, eq⟩ := hkd j hj; exact ⟨q, hq, (show M109 81 j = M 81 j from (Eq.trans (k110 81 j (by unfold WRA; omega)) (Eq.trans (congrFun (x_up_n _ _ _ (by omega)) _) (Eq.trans (congrFun (x_up_n _ _ _ (by omega)) _) (Eq.trans (congrFun (x_up_n _ _ _ (by omega)) _) rfl))))).trans eq⟩), ⟨0 + 4, by omega, hx108⟩, (fun j hj => by rw [show M109 83 j = M 83 j from (Eq.trans (k110 83 j (by unfold WRA; omega)) (Eq.trans (congrFun (x_up_n _ _ _ (by omega)) _) (Eq.trans (congrFun (x_up_n _ _ _ (by omega)) _) (Eq.trans (congrFun (x_up_n _ _ _ (by omega)) _) rfl)))), show M109 84 j = M 84 j from (Eq.trans (k110 84 j (by unfold WRA; omega)) (Eq.trans (congrFun (x_up_n _ _ _ (by omega)) _) (Eq.trans (congrFun (x_up_n _ _ _ (by omega)) _) (Eq.trans (congrFun (x_up_n _ _ _ (by omega)) _) rfl))))]; exact hsl j hj), ⟨ic, by omega, (Eq.trans (k110 62 34 (by decide)) (Eq.trans (x_up_k _ _ _ (by decide)) (Eq.trans (x_up_k _ _ _ (by decide)) (Eq.trans (x_up_k _ _ _ (by decide)) e_ic))))⟩, (fun j hj => by obtain ⟨q, hq, eq⟩ := hS j hj; exact ⟨q, hq, (show M109 75 j = M 75 j from (Eq.trans (k110 75 j (by unfold WRA; omega)) (Eq.trans (congrFun (x_up_n _ _ _ (by omega)) _) (Eq.trans (congrFun (x_up_n _ _ _ (by omega)) _) (Eq.trans (congrFun (x_up_n _ _ _ (by omega)) _) rfl))))).trans eq⟩)⟩⟩)
      refine xg_eq 2 (fun w112 => ?_) (fun w112 => ?_)
      · refine xr_tableIn (tgt := 80) dX10_act_31 (by decide) (by decide) rfl rfl ?_
        refine xr_aload_n dX10_act_80 0 rfl ?_
        refine xr_aload_n dX10_act_81 0 rfl ?_
        refine xb_get (v := 5) flX10_352 dX10_act_82 s_62 rfl (Eq.trans (x_up_k _ _ _ (by decide)) (x_up_s _ _ _ _)) ?_
        refine xr_iload_n dX10_act_85 3 rfl ?_
        refine xr_callV (As := [.int (5), .int (x)]) (rest := []) mlX10_355 (ra5_sinksAs_5 (ac := h_) (ra := 0) x (by omega) (Eq.trans (x_up_k _ _ _ (by decide)) (Eq.trans (x_up_k _ _ _ (by decide)) (x_up_s _ _ _ _))) (Eq.trans (x_up_k _ _ _ (by decide)) (x_up_s _ _ _ _)) (x_up_s _ _ _ _)) dX10_act_86 s_62 rfl rfl (Nat.le_of_ble_eq_true rfl) (by decide) ⟨by decide, by decide⟩ (fun v s2 M114 J2 hq => ?_)
        obtain ⟨r116, rfl, rfl, rfl, k115, ⟨_, hx113⟩⟩ := hq
        try dsimp only [Option.toList, List.cons_append, List.nil_append]
        exact xr_iret dX10_act_89 rfl rfl (⟨_, rfl, rfl, rfl, (Ke.tr (fun pp kk => (fun hh => Or.elim hh (fun h => (Or.inl h)) (fun h => (Or.inr (Or.inr (Or.inr h)))))) (Ke.up (Or.inr (Or.inr (Or.inl (by omega)))) (Ke.up (Or.inr (Or.inl (by omega))) (Ke.up (Or.inl (by omega)) Ke.rf))) k115), ⟨⟨hn, by omega, (Eq.trans (k115 62 6 (by decide)) (Eq.trans (x_up_k _ _ _ (by decide)) (Eq.trans (x_up_k _ _ _ (by decide)) (Eq.trans (x_up_k _ _ _ (by decide)) e_hn)))), (fun kw hkw => by rw [show M114 63 (5 + kw) = M 63 (5 + kw) from (Eq.trans (k115 63 (5 + kw) (by unfold WRA; omega)) (Eq.trans (congrFun (x_up_n _ _ _ (by omega)) _) (Eq.trans (congrFun (x_up_n _ _ _ (by omega)) _) (Eq.trans (congrFun (x_up_n _ _ _ (by omega)) _) rfl))))]; exact hw kw hkw)⟩, (by rw [show M114 63 16 = M 63 16 from (Eq.trans (k115 63 16 (by unfold WRA; omega)) (Eq.trans (congrFun (x_up_n _ _ _ (by omega)) _) (Eq.trans (congrFun (x_up_n _ _ _ (by omega)) _) (Eq.trans (congrFun (x_up_n _ _ _ (by omega)) _) rfl))))]; exact hbt), ⟨un, wn, by omega, by omega, (Eq.trans (k115 62 5 (by decide)) (Eq.trans (x_up_k _ _ _ (by decide)) (Eq.trans (x_up_k _ _ _ (by decide)) (Eq.trans (x_up_k _ _ _ (by decide)) e_un)))), (Eq.trans (k115 62 4 (by decide)) (Eq.trans (x_up_k _ _ _ (by decide)) (Eq.trans (x_up_k _ _ _ (by decide)) (Eq.trans (x_up_k _ _ _ (by decide)) e_wn))))⟩, (fun kk hkk => by rw [show M114 64 kk = M 64 kk from (Eq.trans (k115 64 kk (by unfold WRA; omega)) (Eq.trans (congrFun (x_up_n _ _ _ (by omega)) _) (Eq.trans (congrFun (x_up_n _ _ _ (by omega)) _) (Eq.trans (congrFun (x_up_n _ _ _ (by omega)) _) rfl)))), show M114 65 kk = M 65 kk from (Eq.trans (k115 65 kk (by unfold WRA; omega)) (Eq.trans (congrFun (x_up_n _ _ _ (by omega)) _) (Eq.trans (congrFun (x_up_n _ _ _ (by omega)) _) (Eq.trans (congrFun (x_up_n _ _ _ (by omega)) _) rfl)))), show M114 66 kk = M 66 kk from (Eq.trans (k115 66 kk (by unfold WRA; omega)) (Eq.trans (congrFun (x_up_n _ _ _ (by omega)) _) (Eq.trans (congrFun (x_up_n _ _ _ (by omega)) _) (Eq.trans (congrFun (x_up_n _ _ _ (by omega)) _) rfl))))]; exact hch kk hkk), ⟨n, by omega, (Eq.trans (k115 62 11 (by decide)) (Eq.trans (x_up_k _ _ _ (by decide)) (Eq.trans (x_up_k _ _ _ (by decide)) (Eq.trans (x_up_k _ _ _ (by decide)) e_n))))⟩, (by rw [show M114 62 13 = M 62 13 from (Eq.trans (k115 62 13 (by unfold WRA; omega)) (Eq.trans (x_up_k _ _ _ (by omega)) (Eq.trans (x_up_k _ _ _ (by omega)) (Eq.trans (x_up_k _ _ _ (by omega)) rfl))))]; exact htx), ⟨b, by omega, (Eq.trans (k115 62 36 (by decide)) (Eq.trans (x_up_k _ _ _ (by decide)) (Eq.trans (x_up_k _ _ _ (by decide)) (Eq.trans (x_up_k _ _ _ (by decide)) e_b))))⟩, (fun j hj => by obtain ⟨q, hq, eq⟩ := hkd j hj; exact ⟨q, hq, (show M114 81 j = M 81 j from (Eq.trans (k115 81 j (by unfold WRA; omega)) (Eq.trans (congrFun (x_up_n _ _ _ (by omega)) _) (Eq.trans (congrFun (x_up_n _ _ _ (by omega)) _) (Eq.trans (congrFun (x_up_n _ _ _ (by omega)) _) rfl))))).trans eq⟩), ⟨0 + 2, by omega, hx113⟩, (fun j hj => by rw [show M114 83 j = M 83 j from (Eq.trans (k115 83 j (by unfold WRA; omega)) (Eq.trans (congrFun (x_up_n _ _ _ (by omega)) _) (Eq.trans (congrFun (x_up_n _ _ _ (by omega)) _) (Eq.trans (congrFun (x_up_n _ _ _ (by omega)) _) rfl)))), show M114 84 j = M 84 j from (Eq.trans (k115 84 j (by unfold WRA; omega)) (Eq.trans (congrFun (x_up_n _ _ _ (by omega)) _) (Eq.trans (congrFun (x_up_n _ _ _ (by omega)) _) (Eq.trans (congrFun (x_up_n _ _ _ (by omega)) _) rfl))))]; exact hsl j hj), ⟨ic, by omega, (Eq.trans (k115 62 34 (by decide)) (Eq.trans (x_up_k _ _ _ (by decide)) (Eq.trans (x_up_k _ _ _ (by decide)) (Eq.trans (x_up_k _ _ _ (by decide)) e_ic))))⟩, (fun j hj => by obtain ⟨q, hq, eq⟩ := hS j hj; exact ⟨q, hq, (show M114 75 j = M 75 j from (Eq.trans (k115 75 j (by unfold WRA; omega)) (Eq.trans (congrFun (x_up_n _ _ _ (by omega)) _) (Eq.trans (congrFun (x_up_n _ _ _ (by omega)) _) (Eq.trans (congrFun (x_up_n _ _ _ (by omega)) _) rfl))))).trans eq⟩)⟩⟩)
      refine xg_eq 3 (fun w117 => ?_) (fun w117 => ?_)
      · refine xr_tableIn (tgt := 90) dX10_act_31 (by decide) (by decide) rfl rfl ?_
        refine xr_aload_n dX10_act_90 0 rfl ?_
        refine xr_aload_n dX10_act_91 0 rfl ?_
        refine xb_get (v := 5) flX10_352 dX10_act_92 s_62 rfl (Eq.trans (x_up_k _ _ _ (by decide)) (x_up_s _ _ _ _)) ?_
        refine xr_iload_n dX10_act_95 3 rfl ?_
        refine xr_callV (As := [.int (5), .int (x)]) (rest := []) mlX10_358 (ra5_tellsAs_5 (ac := h_) (ra := 0) x (by omega) (Eq.trans (x_up_k _ _ _ (by decide)) (Eq.trans (x_up_k _ _ _ (by decide)) (x_up_s _ _ _ _))) (Eq.trans (x_up_k _ _ _ (by decide)) (x_up_s _ _ _ _)) (x_up_s _ _ _ _)) dX10_act_96 s_62 rfl rfl (Nat.le_of_ble_eq_true rfl) (by decide) ⟨by decide, by decide⟩ (fun v s2 M119 J2 hq => ?_)
        obtain ⟨r121, rfl, rfl, rfl, k120, ⟨_, hx118⟩⟩ := hq
        try dsimp only [Option.toList, List.cons_append, List.nil_append]
        exact xr_iret dX10_act_99 rfl rfl (⟨_, rfl, rfl, rfl, (Ke.tr (fun pp kk => (fun hh => Or.elim hh (fun h => (Or.inl h)) (fun h => (Or.inr (Or.inr (Or.inr h)))))) (Ke.up (Or.inr (Or.inr (Or.inl (by omega)))) (Ke.up (Or.inr (Or.inl (by omega))) (Ke.up (Or.inl (by omega)) Ke.rf))) k120), ⟨⟨hn, by omega, (Eq.trans (k120 62 6 (by decide)) (Eq.trans (x_up_k _ _ _ (by decide)) (Eq.trans (x_up_k _ _ _ (by decide)) (Eq.trans (x_up_k _ _ _ (by decide)) e_hn)))), (fun kw hkw => by rw [show M119 63 (5 + kw) = M 63 (5 + kw) from (Eq.trans (k120 63 (5 + kw) (by unfold WRA; omega)) (Eq.trans (congrFun (x_up_n _ _ _ (by omega)) _) (Eq.trans (congrFun (x_up_n _ _ _ (by omega)) _) (Eq.trans (congrFun (x_up_n _ _ _ (by omega)) _) rfl))))]; exact hw kw hkw)⟩, (by rw [show M119 63 16 = M 63 16 from (Eq.trans (k120 63 16 (by unfold WRA; omega)) (Eq.trans (congrFun (x_up_n _ _ _ (by omega)) _) (Eq.trans (congrFun (x_up_n _ _ _ (by omega)) _) (Eq.trans (congrFun (x_up_n _ _ _ (by omega)) _) rfl))))]; exact hbt), ⟨un, wn, by omega, by omega, (Eq.trans (k120 62 5 (by decide)) (Eq.trans (x_up_k _ _ _ (by decide)) (Eq.trans (x_up_k _ _ _ (by decide)) (Eq.trans (x_up_k _ _ _ (by decide)) e_un)))), (Eq.trans (k120 62 4 (by decide)) (Eq.trans (x_up_k _ _ _ (by decide)) (Eq.trans (x_up_k _ _ _ (by decide)) (Eq.trans (x_up_k _ _ _ (by decide)) e_wn))))⟩, (fun kk hkk => by rw [show M119 64 kk = M 64 kk from (Eq.trans (k120 64 kk (by unfold WRA; omega)) (Eq.trans (congrFun (x_up_n _ _ _ (by omega)) _) (Eq.trans (congrFun (x_up_n _ _ _ (by omega)) _) (Eq.trans (congrFun (x_up_n _ _ _ (by omega)) _) rfl)))), show M119 65 kk = M 65 kk from (Eq.trans (k120 65 kk (by unfold WRA; omega)) (Eq.trans (congrFun (x_up_n _ _ _ (by omega)) _) (Eq.trans (congrFun (x_up_n _ _ _ (by omega)) _) (Eq.trans (congrFun (x_up_n _ _ _ (by omega)) _) rfl)))), show M119 66 kk = M 66 kk from (Eq.trans (k120 66 kk (by unfold WRA; omega)) (Eq.trans (congrFun (x_up_n _ _ _ (by omega)) _) (Eq.trans (congrFun (x_up_n _ _ _ (by omega)) _) (Eq.trans (congrFun (x_up_n _ _ _ (by omega)) _) rfl))))]; exact hch kk hkk), ⟨n, by omega, (Eq.trans (k120 62 11 (by decide)) (Eq.trans (x_up_k _ _ _ (by decide)) (Eq.trans (x_up_k _ _ _ (by decide)) (Eq.trans (x_up_k _ _ _ (by decide)) e_n))))⟩, (by rw [show M119 62 13 = M 62 13 from (Eq.trans (k120 62 13 (by unfold WRA; omega)) (Eq.trans (x_up_k _ _ _ (by omega)) (Eq.trans (x_up_k _ _ _ (by omega)) (Eq.trans (x_up_k _ _ _ (by omega)) rfl))))]; exact htx), ⟨b, by omega, (Eq.trans (k120 62 36 (by decide)) (Eq.trans (x_up_k _ _ _ (by decide)) (Eq.trans (x_up_k _ _ _ (by decide)) (Eq.trans (x_up_k _ _ _ (by decide)) e_b))))⟩, (fun j hj => by obtain ⟨q, hq, eq⟩ := hkd j hj; exact ⟨q, hq, (show M119 81 j = M 81 j from (Eq.trans (k120 81 j (by unfold WRA; omega)) (Eq.trans (congrFun (x_up_n _ _ _ (by omega)) _) (Eq.trans (congrFun (x_up_n _ _ _ (by omega)) _) (Eq.trans (congrFun (x_up_n _ _ _ (by omega)) _) rfl))))).trans eq⟩), ⟨0 + 8, by omega, hx118⟩, (fun j hj => by rw [show M119 83 j = M 83 j from (Eq.trans (k120 83 j (by unfold WRA; omega)) (Eq.trans (congrFun (x_up_n _ _ _ (by omega)) _) (Eq.trans (congrFun (x_up_n _ _ _ (by omega)) _) (Eq.trans (congrFun (x_up_n _ _ _ (by omega)) _) rfl)))), show M119 84 j = M 84 j from (Eq.trans (k120 84 j (by unfold WRA; omega)) (Eq.trans (congrFun (x_up_n _ _ _ (by omega)) _) (Eq.trans (congrFun (x_up_n _ _ _ (by omega)) _) (Eq.trans (congrFun (x_up_n _ _ _ (by omega)) _) rfl))))]; exact hsl j hj), ⟨ic, by omega, (Eq.trans (k120 62 34 (by decide)) (Eq.trans (x_up_k _ _ _ (by decide)) (Eq.trans (x_up_k _ _ _ (by decide)) (Eq.trans (x_up_k _ _ _ (by decide)) e_ic))))⟩, (fun j hj => by obtain ⟨q, hq, eq⟩ := hS j hj; exact ⟨q, hq, (show M119 75 j = M 75 j from (Eq.trans (k120 75 j (by unfold WRA; omega)) (Eq.trans (congrFun (x_up_n _ _ _ (by omega)) _) (Eq.trans (congrFun (x_up_n _ _ _ (by omega)) _) (Eq.trans (congrFun (x_up_n _ _ _ (by omega)) _) rfl))))).trans eq⟩)⟩⟩)
      refine xr_tableOut (tgt := 100) dX10_act_31 (xg_out (lo := 0) (hi := 3) (by decide) (fun j h1 h2 qq => by have h3 : j = 0 ∨ j = 1 ∨ j = 2 ∨ j = 3 := (by omega); rcases h3 with rfl | rfl | rfl | rfl <;> first | exact absurd qq w102 | exact absurd qq w107 | exact absurd qq w112 | exact absurd qq w117)) rfl ?_
      refine xr_iconst (v := 0) dX10_act_100 rfl ?_
      exact xr_iret dX10_act_101 rfl rfl (⟨_, rfl, rfl, rfl, (Ke.up (Or.inr (Or.inr (Or.inl (by omega)))) (Ke.up (Or.inr (Or.inl (by omega))) (Ke.up (Or.inl (by omega)) Ke.rf))), ⟨⟨hn, by omega, (Eq.trans (x_up_k _ _ _ (by decide)) (Eq.trans (x_up_k _ _ _ (by decide)) (Eq.trans (x_up_k _ _ _ (by decide)) e_hn))), (fun kw hkw => by rw [show (x_up (x_up (x_up M 62 39 0) 62 40 5) 62 41 (nI (h_))) 63 (5 + kw) = M 63 (5 + kw) from (Eq.trans (congrFun (x_up_n _ _ _ (by omega)) _) (Eq.trans (congrFun (x_up_n _ _ _ (by omega)) _) (Eq.trans (congrFun (x_up_n _ _ _ (by omega)) _) rfl)))]; exact hw kw hkw)⟩, (by rw [show (x_up (x_up (x_up M 62 39 0) 62 40 5) 62 41 (nI (h_))) 63 16 = M 63 16 from (Eq.trans (congrFun (x_up_n _ _ _ (by omega)) _) (Eq.trans (congrFun (x_up_n _ _ _ (by omega)) _) (Eq.trans (congrFun (x_up_n _ _ _ (by omega)) _) rfl)))]; exact hbt), ⟨un, wn, by omega, by omega, (Eq.trans (x_up_k _ _ _ (by decide)) (Eq.trans (x_up_k _ _ _ (by decide)) (Eq.trans (x_up_k _ _ _ (by decide)) e_un))), (Eq.trans (x_up_k _ _ _ (by decide)) (Eq.trans (x_up_k _ _ _ (by decide)) (Eq.trans (x_up_k _ _ _ (by decide)) e_wn)))⟩, (fun kk hkk => by rw [show (x_up (x_up (x_up M 62 39 0) 62 40 5) 62 41 (nI (h_))) 64 kk = M 64 kk from (Eq.trans (congrFun (x_up_n _ _ _ (by omega)) _) (Eq.trans (congrFun (x_up_n _ _ _ (by omega)) _) (Eq.trans (congrFun (x_up_n _ _ _ (by omega)) _) rfl))), show (x_up (x_up (x_up M 62 39 0) 62 40 5) 62 41 (nI (h_))) 65 kk = M 65 kk from (Eq.trans (congrFun (x_up_n _ _ _ (by omega)) _) (Eq.trans (congrFun (x_up_n _ _ _ (by omega)) _) (Eq.trans (congrFun (x_up_n _ _ _ (by omega)) _) rfl))), show (x_up (x_up (x_up M 62 39 0) 62 40 5) 62 41 (nI (h_))) 66 kk = M 66 kk from (Eq.trans (congrFun (x_up_n _ _ _ (by omega)) _) (Eq.trans (congrFun (x_up_n _ _ _ (by omega)) _) (Eq.trans (congrFun (x_up_n _ _ _ (by omega)) _) rfl)))]; exact hch kk hkk), ⟨n, by omega, (Eq.trans (x_up_k _ _ _ (by decide)) (Eq.trans (x_up_k _ _ _ (by decide)) (Eq.trans (x_up_k _ _ _ (by decide)) e_n)))⟩, (by rw [show (x_up (x_up (x_up M 62 39 0) 62 40 5) 62 41 (nI (h_))) 62 13 = M 62 13 from (Eq.trans (x_up_k _ _ _ (by omega)) (Eq.trans (x_up_k _ _ _ (by omega)) (Eq.trans (x_up_k _ _ _ (by omega)) rfl)))]; exact htx), ⟨b, by omega, (Eq.trans (x_up_k _ _ _ (by decide)) (Eq.trans (x_up_k _ _ _ (by decide)) (Eq.trans (x_up_k _ _ _ (by decide)) e_b)))⟩, (fun j hj => by obtain ⟨q, hq, eq⟩ := hkd j hj; exact ⟨q, hq, (show (x_up (x_up (x_up M 62 39 0) 62 40 5) 62 41 (nI (h_))) 81 j = M 81 j from (Eq.trans (congrFun (x_up_n _ _ _ (by omega)) _) (Eq.trans (congrFun (x_up_n _ _ _ (by omega)) _) (Eq.trans (congrFun (x_up_n _ _ _ (by omega)) _) rfl)))).trans eq⟩), ⟨0, by omega, (Eq.trans (x_up_k _ _ _ (by decide)) (Eq.trans (x_up_k _ _ _ (by decide)) (x_up_s _ _ _ _)))⟩, (fun j hj => by rw [show (x_up (x_up (x_up M 62 39 0) 62 40 5) 62 41 (nI (h_))) 83 j = M 83 j from (Eq.trans (congrFun (x_up_n _ _ _ (by omega)) _) (Eq.trans (congrFun (x_up_n _ _ _ (by omega)) _) (Eq.trans (congrFun (x_up_n _ _ _ (by omega)) _) rfl))), show (x_up (x_up (x_up M 62 39 0) 62 40 5) 62 41 (nI (h_))) 84 j = M 84 j from (Eq.trans (congrFun (x_up_n _ _ _ (by omega)) _) (Eq.trans (congrFun (x_up_n _ _ _ (by omega)) _) (Eq.trans (congrFun (x_up_n _ _ _ (by omega)) _) rfl)))]; exact hsl j hj), ⟨ic, by omega, (Eq.trans (x_up_k _ _ _ (by decide)) (Eq.trans (x_up_k _ _ _ (by decide)) (Eq.trans (x_up_k _ _ _ (by decide)) e_ic)))⟩, (fun j hj => by obtain ⟨q, hq, eq⟩ := hS j hj; exact ⟨q, hq, (show (x_up (x_up (x_up M 62 39 0) 62 40 5) 62 41 (nI (h_))) 75 j = M 75 j from (Eq.trans (congrFun (x_up_n _ _ _ (by omega)) _) (Eq.trans (congrFun (x_up_n _ _ _ (by omega)) _) (Eq.trans (congrFun (x_up_n _ _ _ (by omega)) _) rfl)))).trans eq⟩)⟩⟩)
    · refine xr_aload_n dX10_act_15 0 rfl ?_
      refine xr_aload_n dX10_act_16 0 rfl ?_
      refine xr_getR flX10_69 dX10_act_17 s_62 rfl ?_
      refine xr_iload_n dX10_act_20 1 rfl ?_
      refine xb_iald (j := h_) (v := 6) dX10_act_21 s_81 (by omega) (by decide) (Eq.trans (congrFun (x_up_n _ _ _ (by decide)) _) eq9) ?_
      refine xr_putI fpX10_352 dX10_act_22 s_62 rfl rfl rfl ?_
      refine xr_aload_n dX10_act_25 0 rfl ?_
      refine xr_iload_n dX10_act_26 1 rfl ?_
      refine xr_putI fpX10_346 dX10_act_27 s_62 rfl rfl rfl ?_
      refine xr_iload_n dX10_act_30 2 rfl ?_
      refine xg_eq 0 (fun w122 => ?_) (fun w122 => ?_)
      · refine xr_tableIn (tgt := 60) dX10_act_31 (by decide) (by decide) rfl rfl ?_
        refine xr_aload_n dX10_act_60 0 rfl ?_
        refine xr_aload_n dX10_act_61 0 rfl ?_
        refine xb_get (v := 6) flX10_352 dX10_act_62 s_62 rfl (Eq.trans (x_up_k _ _ _ (by decide)) (x_up_s _ _ _ _)) ?_
        refine xr_iload_n dX10_act_65 3 rfl ?_
        refine xr_callV (As := [.int (6), .int (x)]) (rest := []) mlX10_343 (ra6_pushesAs_6 (ac := h_) (ra := 0) x (by omega) (Eq.trans (x_up_k _ _ _ (by decide)) (Eq.trans (x_up_k _ _ _ (by decide)) (x_up_s _ _ _ _))) (Eq.trans (x_up_k _ _ _ (by decide)) (x_up_s _ _ _ _)) (x_up_s _ _ _ _)) dX10_act_66 s_62 rfl rfl (Nat.le_of_ble_eq_true rfl) (by decide) ⟨by decide, by decide⟩ (fun v s2 M124 J2 hq => ?_)
        obtain ⟨r126, rfl, rfl, rfl, k125, ⟨_, hx123⟩⟩ := hq
        try dsimp only [Option.toList, List.cons_append, List.nil_append]
        exact xr_iret dX10_act_69 rfl rfl (⟨_, rfl, rfl, rfl, (Ke.tr (fun pp kk => (fun hh => Or.elim hh (fun h => (Or.inl h)) (fun h => (Or.inr (Or.inr (Or.inr h)))))) (Ke.up (Or.inr (Or.inr (Or.inl (by omega)))) (Ke.up (Or.inr (Or.inl (by omega))) (Ke.up (Or.inl (by omega)) Ke.rf))) k125), ⟨⟨hn, by omega, (Eq.trans (k125 62 6 (by decide)) (Eq.trans (x_up_k _ _ _ (by decide)) (Eq.trans (x_up_k _ _ _ (by decide)) (Eq.trans (x_up_k _ _ _ (by decide)) e_hn)))), (fun kw hkw => by rw [show M124 63 (5 + kw) = M 63 (5 + kw) from (Eq.trans (k125 63 (5 + kw) (by unfold WRA; omega)) (Eq.trans (congrFun (x_up_n _ _ _ (by omega)) _) (Eq.trans (congrFun (x_up_n _ _ _ (by omega)) _) (Eq.trans (congrFun (x_up_n _ _ _ (by omega)) _) rfl))))]; exact hw kw hkw)⟩, (by rw [show M124 63 16 = M 63 16 from (Eq.trans (k125 63 16 (by unfold WRA; omega)) (Eq.trans (congrFun (x_up_n _ _ _ (by omega)) _) (Eq.trans (congrFun (x_up_n _ _ _ (by omega)) _) (Eq.trans (congrFun (x_up_n _ _ _ (by omega)) _) rfl))))]; exact hbt), ⟨un, wn, by omega, by omega, (Eq.trans (k125 62 5 (by decide)) (Eq.trans (x_up_k _ _ _ (by decide)) (Eq.trans (x_up_k _ _ _ (by decide)) (Eq.trans (x_up_k _ _ _ (by decide)) e_un)))), (Eq.trans (k125 62 4 (by decide)) (Eq.trans (x_up_k _ _ _ (by decide)) (Eq.trans (x_up_k _ _ _ (by decide)) (Eq.trans (x_up_k _ _ _ (by decide)) e_wn))))⟩, (fun kk hkk => by rw [show M124 64 kk = M 64 kk from (Eq.trans (k125 64 kk (by unfold WRA; omega)) (Eq.trans (congrFun (x_up_n _ _ _ (by omega)) _) (Eq.trans (congrFun (x_up_n _ _ _ (by omega)) _) (Eq.trans (congrFun (x_up_n _ _ _ (by omega)) _) rfl)))), show M124 65 kk = M 65 kk from (Eq.trans (k125 65 kk (by unfold WRA; omega)) (Eq.trans (congrFun (x_up_n _ _ _ (by omega)) _) (Eq.trans (congrFun (x_up_n _ _ _ (by omega)) _) (Eq.trans (congrFun (x_up_n _ _ _ (by omega)) _) rfl)))), show M124 66 kk = M 66 kk from (Eq.trans (k125 66 kk (by unfold WRA; omega)) (Eq.trans (congrFun (x_up_n _ _ _ (by omega)) _) (Eq.trans (congrFun (x_up_n _ _ _ (by omega)) _) (Eq.trans (congrFun (x_up_n _ _ _ (by omega)) _) rfl))))]; exact hch kk hkk), ⟨n, by omega, (Eq.trans (k125 62 11 (by decide)) (Eq.trans (x_up_k _ _ _ (by decide)) (Eq.trans (x_up_k _ _ _ (by decide)) (Eq.trans (x_up_k _ _ _ (by decide)) e_n))))⟩, (by rw [show M124 62 13 = M 62 13 from (Eq.trans (k125 62 13 (by unfold WRA; omega)) (Eq.trans (x_up_k _ _ _ (by omega)) (Eq.trans (x_up_k _ _ _ (by omega)) (Eq.trans (x_up_k _ _ _ (by omega)) rfl))))]; exact htx), ⟨b, by omega, (Eq.trans (k125 62 36 (by decide)) (Eq.trans (x_up_k _ _ _ (by decide)) (Eq.trans (x_up_k _ _ _ (by decide)) (Eq.trans (x_up_k _ _ _ (by decide)) e_b))))⟩, (fun j hj => by obtain ⟨q, hq, eq⟩ := hkd j hj; exact ⟨q, hq, (show M124 81 j = M 81 j from (Eq.trans (k125 81 j (by unfold WRA; omega)) (Eq.trans (congrFun (x_up_n _ _ _ (by omega)) _) (Eq.trans (congrFun (x_up_n _ _ _ (by omega)) _) (Eq.trans (congrFun (x_up_n _ _ _ (by omega)) _) rfl))))).trans eq⟩), ⟨0 + 2, by omega, hx123⟩, (fun j hj => by rw [show M124 83 j = M 83 j from (Eq.trans (k125 83 j (by unfold WRA; omega)) (Eq.trans (congrFun (x_up_n _ _ _ (by omega)) _) (Eq.trans (congrFun (x_up_n _ _ _ (by omega)) _) (Eq.trans (congrFun (x_up_n _ _ _ (by omega)) _) rfl)))), show M124 84 j = M 84 j from (Eq.trans (k125 84 j (by unfold WRA; omega)) (Eq.trans (congrFun (x_up_n _ _ _ (by omega)) _) (Eq.trans (congrFun (x_up_n _ _ _ (by omega)) _) (Eq.trans (congrFun (x_up_n _ _ _ (by omega)) _) rfl))))]; exact hsl j hj), ⟨ic, by omega, (Eq.trans (k125 62 34 (by decide)) (Eq.trans (x_up_k _ _ _ (by decide)) (Eq.trans (x_up_k _ _ _ (by decide)) (Eq.trans (x_up_k _ _ _ (by decide)) e_ic))))⟩, (fun j hj => by obtain ⟨q, hq, eq⟩ := hS j hj; exact ⟨q, hq, (show M124 75 j = M 75 j from (Eq.trans (k125 75 j (by unfold WRA; omega)) (Eq.trans (congrFun (x_up_n _ _ _ (by omega)) _) (Eq.trans (congrFun (x_up_n _ _ _ (by omega)) _) (Eq.trans (congrFun (x_up_n _ _ _ (by omega)) _) rfl))))).trans eq⟩)⟩⟩)
      refine xg_eq 1 (fun w127 => ?_) (fun w127 => ?_)
      · refine xr_tableIn (tgt := 70) dX10_act_31 (by decide) (by decide) rfl rfl ?_
        refine xr_aload_n dX10_act_70 0 rfl ?_
        refine xr_aload_n dX10_act_71 0 rfl ?_
        refine xb_get (v := 6) flX10_352 dX10_act_72 s_62 rfl (Eq.trans (x_up_k _ _ _ (by decide)) (x_up_s _ _ _ _)) ?_
        refine xr_iload_n dX10_act_75 3 rfl ?_
        refine xr_callV (As := [.int (6), .int (x)]) (rest := []) mlX10_349 (ra6_turnsAs_6 (ac := h_) (ra := 0) x (by omega) (Eq.trans (x_up_k _ _ _ (by decide)) (Eq.trans (x_up_k _ _ _ (by decide)) (x_up_s _ _ _ _))) (Eq.trans (x_up_k _ _ _ (by decide)) (x_up_s _ _ _ _)) (x_up_s _ _ _ _)) dX10_act_76 s_62 rfl rfl (Nat.le_of_ble_eq_true rfl) (by decide) ⟨by decide, by decide⟩ (fun v s2 M129 J2 hq => ?_)
        obtain ⟨r131, rfl, rfl, rfl, k130, ⟨_, hx128⟩⟩ := hq
        try dsimp only [Option.toList, List.cons_append, List.nil_append]
        exact xr_iret dX10_act_79 rfl rfl (⟨_, rfl, rfl, rfl, (Ke.tr (fun pp kk => (fun hh => Or.elim hh (fun h => (Or.inl h)) (fun h => (Or.inr (Or.inr (Or.inr h)))))) (Ke.up (Or.inr (Or.inr (Or.inl (by omega)))) (Ke.up (Or.inr (Or.inl (by omega))) (Ke.up (Or.inl (by omega)) Ke.rf))) k130), ⟨⟨hn, by omega, (Eq.trans (k130 62 6 (by decide)) (Eq.trans (x_up_k _ _ _ (by decide)) (Eq.trans (x_up_k _ _ _ (by decide)) (Eq.trans (x_up_k _ _ _ (by decide)) e_hn)))), (fun kw hkw => by rw [show M129 63 (5 + kw) = M 63 (5 + kw) from (Eq.trans (k130 63 (5 + kw) (by unfold WRA; omega)) (Eq.trans (congrFun (x_up_n _ _ _ (by omega)) _) (Eq.trans (congrFun (x_up_n _ _ _ (by omega)) _) (Eq.trans (congrFun (x_up_n _ _ _ (by omega)) _) rfl))))]; exact hw kw hkw)⟩, (by rw [show M129 63 16 = M 63 16 from (Eq.trans (k130 63 16 (by unfold WRA; omega)) (Eq.trans (congrFun (x_up_n _ _ _ (by omega)) _) (Eq.trans (congrFun (x_up_n _ _ _ (by omega)) _) (Eq.trans (congrFun (x_up_n _ _ _ (by omega)) _) rfl))))]; exact hbt), ⟨un, wn, by omega, by omega, (Eq.trans (k130 62 5 (by decide)) (Eq.trans (x_up_k _ _ _ (by decide)) (Eq.trans (x_up_k _ _ _ (by decide)) (Eq.trans (x_up_k _ _ _ (by decide)) e_un)))), (Eq.trans (k130 62 4 (by decide)) (Eq.trans (x_up_k _ _ _ (by decide)) (Eq.trans (x_up_k _ _ _ (by decide)) (Eq.trans (x_up_k _ _ _ (by decide)) e_wn))))⟩, (fun kk hkk => by rw [show M129 64 kk = M 64 kk from (Eq.trans (k130 64 kk (by unfold WRA; omega)) (Eq.trans (congrFun (x_up_n _ _ _ (by omega)) _) (Eq.trans (congrFun (x_up_n _ _ _ (by omega)) _) (Eq.trans (congrFun (x_up_n _ _ _ (by omega)) _) rfl)))), show M129 65 kk = M 65 kk from (Eq.trans (k130 65 kk (by unfold WRA; omega)) (Eq.trans (congrFun (x_up_n _ _ _ (by omega)) _) (Eq.trans (congrFun (x_up_n _ _ _ (by omega)) _) (Eq.trans (congrFun (x_up_n _ _ _ (by omega)) _) rfl)))), show M129 66 kk = M 66 kk from (Eq.trans (k130 66 kk (by unfold WRA; omega)) (Eq.trans (congrFun (x_up_n _ _ _ (by omega)) _) (Eq.trans (congrFun (x_up_n _ _ _ (by omega)) _) (Eq.trans (congrFun (x_up_n _ _ _ (by omega)) _) rfl))))]; exact hch kk hkk), ⟨n, by omega, (Eq.trans (k130 62 11 (by decide)) (Eq.trans (x_up_k _ _ _ (by decide)) (Eq.trans (x_up_k _ _ _ (by decide)) (Eq.trans (x_up_k _ _ _ (by decide)) e_n))))⟩, (by rw [show M129 62 13 = M 62 13 from (Eq.trans (k130 62 13 (by unfold WRA; omega)) (Eq.trans (x_up_k _ _ _ (by omega)) (Eq.trans (x_up_k _ _ _ (by omega)) (Eq.trans (x_up_k _ _ _ (by omega)) rfl))))]; exact htx), ⟨b, by omega, (Eq.trans (k130 62 36 (by decide)) (Eq.trans (x_up_k _ _ _ (by decide)) (Eq.trans (x_up_k _ _ _ (by decide)) (Eq.trans (x_up_k _ _ _ (by decide)) e_b))))⟩, (fun j hj => by obtain ⟨q, hq, eq⟩ := hkd j hj; exact ⟨q, hq, (show M129 81 j = M 81 j from (Eq.trans (k130 81 j (by unfold WRA; omega)) (Eq.trans (congrFun (x_up_n _ _ _ (by omega)) _) (Eq.trans (congrFun (x_up_n _ _ _ (by omega)) _) (Eq.trans (congrFun (x_up_n _ _ _ (by omega)) _) rfl))))).trans eq⟩), ⟨0 + 3, by omega, hx128⟩, (fun j hj => by rw [show M129 83 j = M 83 j from (Eq.trans (k130 83 j (by unfold WRA; omega)) (Eq.trans (congrFun (x_up_n _ _ _ (by omega)) _) (Eq.trans (congrFun (x_up_n _ _ _ (by omega)) _) (Eq.trans (congrFun (x_up_n _ _ _ (by omega)) _) rfl)))), show M129 84 j = M 84 j from (Eq.trans (k130 84 j (by unfold WRA; omega)) (Eq.trans (congrFun (x_up_n _ _ _ (by omega)) _) (Eq.trans (congrFun (x_up_n _ _ _ (by omega)) _) (Eq.trans (congrFun (x_up_n _ _ _ (by omega)) _) rfl))))]; exact hsl j hj), ⟨ic, by omega, (Eq.trans (k130 62 34 (by decide)) (Eq.trans (x_up_k _ _ _ (by decide)) (Eq.trans (x_up_k _ _ _ (by decide)) (Eq.trans (x_up_k _ _ _ (by decide)) e_ic))))⟩, (fun j hj => by obtain ⟨q, hq, eq⟩ := hS j hj; exact ⟨q, hq, (show M129 75 j = M 75 j from (Eq.trans (k130 75 j (by unfold WRA; omega)) (Eq.trans (congrFun (x_up_n _ _ _ (by omega)) _) (Eq.trans (congrFun (x_up_n _ _ _ (by omega)) _) (Eq.trans (congrFun (x_up_n _ _ _ (by omega)) _) rfl))))).trans eq⟩)⟩⟩)
      refine xg_eq 2 (fun w132 => ?_) (fun w132 => ?_)
      · refine xr_tableIn (tgt := 80) dX10_act_31 (by decide) (by decide) rfl rfl ?_
        refine xr_aload_n dX10_act_80 0 rfl ?_
        refine xr_aload_n dX10_act_81 0 rfl ?_
        refine xb_get (v := 6) flX10_352 dX10_act_82 s_62 rfl (Eq.trans (x_up_k _ _ _ (by decide)) (x_up_s _ _ _ _)) ?_
        refine xr_iload_n dX10_act_85 3 rfl ?_
        refine xr_callV (As := [.int (6), .int (x)]) (rest := []) mlX10_355 (ra6_sinksAs_6 (ac := h_) (ra := 0) x (by omega) (Eq.trans (x_up_k _ _ _ (by decide)) (Eq.trans (x_up_k _ _ _ (by decide)) (x_up_s _ _ _ _))) (Eq.trans (x_up_k _ _ _ (by decide)) (x_up_s _ _ _ _)) (x_up_s _ _ _ _)) dX10_act_86 s_62 rfl rfl (Nat.le_of_ble_eq_true rfl) (by decide) ⟨by decide, by decide⟩ (fun v s2 M134 J2 hq => ?_)
        obtain ⟨r136, rfl, rfl, rfl, k135, ⟨_, hx133⟩⟩ := hq
        try dsimp only [Option.toList, List.cons_append, List.nil_append]
        exact xr_iret dX10_act_89 rfl rfl (⟨_, rfl, rfl, rfl, (Ke.tr (fun pp kk => (fun hh => Or.elim hh (fun h => (Or.inl h)) (fun h => (Or.inr (Or.inr (Or.inr h)))))) (Ke.up (Or.inr (Or.inr (Or.inl (by omega)))) (Ke.up (Or.inr (Or.inl (by omega))) (Ke.up (Or.inl (by omega)) Ke.rf))) k135), ⟨⟨hn, by omega, (Eq.trans (k135 62 6 (by decide)) (Eq.trans (x_up_k _ _ _ (by decide)) (Eq.trans (x_up_k _ _ _ (by decide)) (Eq.trans (x_up_k _ _ _ (by decide)) e_hn)))), (fun kw hkw => by rw [show M134 63 (5 + kw) = M 63 (5 + kw) from (Eq.trans (k135 63 (5 + kw) (by unfold WRA; omega)) (Eq.trans (congrFun (x_up_n _ _ _ (by omega)) _) (Eq.trans (congrFun (x_up_n _ _ _ (by omega)) _) (Eq.trans (congrFun (x_up_n _ _ _ (by omega)) _) rfl))))]; exact hw kw hkw)⟩, (by rw [show M134 63 16 = M 63 16 from (Eq.trans (k135 63 16 (by unfold WRA; omega)) (Eq.trans (congrFun (x_up_n _ _ _ (by omega)) _) (Eq.trans (congrFun (x_up_n _ _ _ (by omega)) _) (Eq.trans (congrFun (x_up_n _ _ _ (by omega)) _) rfl))))]; exact hbt), ⟨un, wn, by omega, by omega, (Eq.trans (k135 62 5 (by decide)) (Eq.trans (x_up_k _ _ _ (by decide)) (Eq.trans (x_up_k _ _ _ (by decide)) (Eq.trans (x_up_k _ _ _ (by decide)) e_un)))), (Eq.trans (k135 62 4 (by decide)) (Eq.trans (x_up_k _ _ _ (by decide)) (Eq.trans (x_up_k _ _ _ (by decide)) (Eq.trans (x_up_k _ _ _ (by decide)) e_wn))))⟩, (fun kk hkk => by rw [show M134 64 kk = M 64 kk from (Eq.trans (k135 64 kk (by unfold WRA; omega)) (Eq.trans (congrFun (x_up_n _ _ _ (by omega)) _) (Eq.trans (congrFun (x_up_n _ _ _ (by omega)) _) (Eq.trans (congrFun (x_up_n _ _ _ (by omega)) _) rfl)))), show M134 65 kk = M 65 kk from (Eq.trans (k135 65 kk (by unfold WRA; omega)) (Eq.trans (congrFun (x_up_n _ _ _ (by omega)) _) (Eq.trans (congrFun (x_up_n _ _ _ (by omega)) _) (Eq.trans (congrFun (x_up_n _ _ _ (by omega)) _) rfl)))), show M134 66 kk = M 66 kk from (Eq.trans (k135 66 kk (by unfold WRA; omega)) (Eq.trans (congrFun (x_up_n _ _ _ (by omega)) _) (Eq.trans (congrFun (x_up_n _ _ _ (by omega)) _) (Eq.trans (congrFun (x_up_n _ _ _ (by omega)) _) rfl))))]; exact hch kk hkk), ⟨n, by omega, (Eq.trans (k135 62 11 (by decide)) (Eq.trans (x_up_k _ _ _ (by decide)) (Eq.trans (x_up_k _ _ _ (by decide)) (Eq.trans (x_up_k _ _ _ (by decide)) e_n))))⟩, (by rw [show M134 62 13 = M 62 13 from (Eq.trans (k135 62 13 (by unfold WRA; omega)) (Eq.trans (x_up_k _ _ _ (by omega)) (Eq.trans (x_up_k _ _ _ (by omega)) (Eq.trans (x_up_k _ _ _ (by omega)) rfl))))]; exact htx), ⟨b, by omega, (Eq.trans (k135 62 36 (by decide)) (Eq.trans (x_up_k _ _ _ (by decide)) (Eq.trans (x_up_k _ _ _ (by decide)) (Eq.trans (x_up_k _ _ _ (by decide)) e_b))))⟩, (fun j hj => by obtain ⟨q, hq, eq⟩ := hkd j hj; exact ⟨q, hq, (show M134 81 j = M 81 j from (Eq.trans (k135 81 j (by unfold WRA; omega)) (Eq.trans (congrFun (x_up_n _ _ _ (by omega)) _) (Eq.trans (congrFun (x_up_n _ _ _ (by omega)) _) (Eq.trans (congrFun (x_up_n _ _ _ (by omega)) _) rfl))))).trans eq⟩), ⟨0 + 1, by omega, hx133⟩, (fun j hj => by rw [show M134 83 j = M 83 j from (Eq.trans (k135 83 j (by unfold WRA; omega)) (Eq.trans (congrFun (x_up_n _ _ _ (by omega)) _) (Eq.trans (congrFun (x_up_n _ _ _ (by omega)) _) (Eq.trans (congrFun (x_up_n _ _ _ (by omega)) _) rfl)))), show M134 84 j = M 84 j from (Eq.trans (k135 84 j (by unfold WRA; omega)) (Eq.trans (congrFun (x_up_n _ _ _ (by omega)) _) (Eq.trans (congrFun (x_up_n _ _ _ (by omega)) _) (Eq.trans (congrFun (x_up_n _ _ _ (by omega)) _) rfl))))]; exact hsl j hj), ⟨ic, by omega, (Eq.trans (k135 62 34 (by decide)) (Eq.trans (x_up_k _ _ _ (by decide)) (Eq.trans (x_up_k _ _ _ (by decide)) (Eq.trans (x_up_k _ _ _ (by decide)) e_ic))))⟩, (fun j hj => by obtain ⟨q, hq, eq⟩ := hS j hj; exact ⟨q, hq, (show M134 75 j = M 75 j from (Eq.trans (k135 75 j (by unfold WRA; omega)) (Eq.trans (congrFun (x_up_n _ _ _ (by omega)) _) (Eq.trans (congrFun (x_up_n _ _ _ (by omega)) _) (Eq.trans (congrFun (x_up_n _ _ _ (by omega)) _) rfl))))).trans eq⟩)⟩⟩)
      refine xg_eq 3 (fun w137 => ?_) (fun w137 => ?_)
      · refine xr_tableIn (tgt := 90) dX10_act_31 (by decide) (by decide) rfl rfl ?_
        refine xr_aload_n dX10_act_90 0 rfl ?_
        refine xr_aload_n dX10_act_91 0 rfl ?_
        refine xb_get (v := 6) flX10_352 dX10_act_92 s_62 rfl (Eq.trans (x_up_k _ _ _ (by decide)) (x_up_s _ _ _ _)) ?_
        refine xr_iload_n dX10_act_95 3 rfl ?_
        refine xr_callV (As := [.int (6), .int (x)]) (rest := []) mlX10_358 (ra6_tellsAs_6 (ac := h_) (ra := 0) x (by omega) (Eq.trans (x_up_k _ _ _ (by decide)) (Eq.trans (x_up_k _ _ _ (by decide)) (x_up_s _ _ _ _))) (Eq.trans (x_up_k _ _ _ (by decide)) (x_up_s _ _ _ _)) (x_up_s _ _ _ _)) dX10_act_96 s_62 rfl rfl (Nat.le_of_ble_eq_true rfl) (by decide) ⟨by decide, by decide⟩ (fun v s2 M139 J2 hq => ?_)
        obtain ⟨r141, rfl, rfl, rfl, k140, ⟨_, hx138⟩⟩ := hq
        try dsimp only [Option.toList, List.cons_append, List.nil_append]
        exact xr_iret dX10_act_99 rfl rfl (⟨_, rfl, rfl, rfl, (Ke.tr (fun pp kk => (fun hh => Or.elim hh (fun h => (Or.inl h)) (fun h => (Or.inr (Or.inr (Or.inr h)))))) (Ke.up (Or.inr (Or.inr (Or.inl (by omega)))) (Ke.up (Or.inr (Or.inl (by omega))) (Ke.up (Or.inl (by omega)) Ke.rf))) k140), ⟨⟨hn, by omega, (Eq.trans (k140 62 6 (by decide)) (Eq.trans (x_up_k _ _ _ (by decide)) (Eq.trans (x_up_k _ _ _ (by decide)) (Eq.trans (x_up_k _ _ _ (by decide)) e_hn)))), (fun kw hkw => by rw [show M139 63 (5 + kw) = M 63 (5 + kw) from (Eq.trans (k140 63 (5 + kw) (by unfold WRA; omega)) (Eq.trans (congrFun (x_up_n _ _ _ (by omega)) _) (Eq.trans (congrFun (x_up_n _ _ _ (by omega)) _) (Eq.trans (congrFun (x_up_n _ _ _ (by omega)) _) rfl))))]; exact hw kw hkw)⟩, (by rw [show M139 63 16 = M 63 16 from (Eq.trans (k140 63 16 (by unfold WRA; omega)) (Eq.trans (congrFun (x_up_n _ _ _ (by omega)) _) (Eq.trans (congrFun (x_up_n _ _ _ (by omega)) _) (Eq.trans (congrFun (x_up_n _ _ _ (by omega)) _) rfl))))]; exact hbt), ⟨un, wn, by omega, by omega, (Eq.trans (k140 62 5 (by decide)) (Eq.trans (x_up_k _ _ _ (by decide)) (Eq.trans (x_up_k _ _ _ (by decide)) (Eq.trans (x_up_k _ _ _ (by decide)) e_un)))), (Eq.trans (k140 62 4 (by decide)) (Eq.trans (x_up_k _ _ _ (by decide)) (Eq.trans (x_up_k _ _ _ (by decide)) (Eq.trans (x_up_k _ _ _ (by decide)) e_wn))))⟩, (fun kk hkk => by rw [show M139 64 kk = M 64 kk from (Eq.trans (k140 64 kk (by unfold WRA; omega)) (Eq.trans (congrFun (x_up_n _ _ _ (by omega)) _) (Eq.trans (congrFun (x_up_n _ _ _ (by omega)) _) (Eq.trans (congrFun (x_up_n _ _ _ (by omega)) _) rfl)))), show M139 65 kk = M 65 kk from (Eq.trans (k140 65 kk (by unfold WRA; omega)) (Eq.trans (congrFun (x_up_n _ _ _ (by omega)) _) (Eq.trans (congrFun (x_up_n _ _ _ (by omega)) _) (Eq.trans (congrFun (x_up_n _ _ _ (by omega)) _) rfl)))), show M139 66 kk = M 66 kk from (Eq.trans (k140 66 kk (by unfold WRA; omega)) (Eq.trans (congrFun (x_up_n _ _ _ (by omega)) _) (Eq.trans (congrFun (x_up_n _ _ _ (by omega)) _) (Eq.trans (congrFun (x_up_n _ _ _ (by omega)) _) rfl))))]; exact hch kk hkk), ⟨n, by omega, (Eq.trans (k140 62 11 (by decide)) (Eq.trans (x_up_k _ _ _ (by decide)) (Eq.trans (x_up_k _ _ _ (by decide)) (Eq.trans (x_up_k _ _ _ (by decide)) e_n))))⟩, (by rw [show M139 62 13 = M 62 13 from (Eq.trans (k140 62 13 (by unfold WRA; omega)) (Eq.trans (x_up_k _ _ _ (by omega)) (Eq.trans (x_up_k _ _ _ (by omega)) (Eq.trans (x_up_k _ _ _ (by omega)) rfl))))]; exact htx), ⟨b, by omega, (Eq.trans (k140 62 36 (by decide)) (Eq.trans (x_up_k _ _ _ (by decide)) (Eq.trans (x_up_k _ _ _ (by decide)) (Eq.trans (x_up_k _ _ _ (by decide)) e_b))))⟩, (fun j hj => by obtain ⟨q, hq, eq⟩ := hkd j hj; exact ⟨q, hq, (show M139 81 j = M 81 j from (Eq.trans (k140 81 j (by unfold WRA; omega)) (Eq.trans (congrFun (x_up_n _ _ _ (by omega)) _) (Eq.trans (congrFun (x_up_n _ _ _ (by omega)) _) (Eq.trans (congrFun (x_up_n _ _ _ (by omega)) _) rfl))))).trans eq⟩), ⟨0 + 5, by omega, hx138⟩, (fun j hj => by rw [show M139 83 j = M 83 j from (Eq.trans (k140 83 j (by unfold WRA; omega)) (Eq.trans (congrFun (x_up_n _ _ _ (by omega)) _) (Eq.trans (congrFun (x_up_n _ _ _ (by omega)) _) (Eq.trans (congrFun (x_up_n _ _ _ (by omega)) _) rfl)))), show M139 84 j = M 84 j from (Eq.trans (k140 84 j (by unfold WRA; omega)) (Eq.trans (congrFun (x_up_n _ _ _ (by omega)) _) (Eq.trans (congrFun (x_up_n _ _ _ (by omega)) _) (Eq.trans (congrFun (x_up_n _ _ _ (by omega)) _) rfl))))]; exact hsl j hj), ⟨ic, by omega, (Eq.trans (k140 62 34 (by decide)) (Eq.trans (x_up_k _ _ _ (by decide)) (Eq.trans (x_up_k _ _ _ (by decide)) (Eq.trans (x_up_k _ _ _ (by decide)) e_ic))))⟩, (fun j hj => by obtain ⟨q, hq, eq⟩ := hS j hj; exact ⟨q, hq, (show M139 75 j = M 75 j from (Eq.trans (k140 75 j (by unfold WRA; omega)) (Eq.trans (congrFun (x_up_n _ _ _ (by omega)) _) (Eq.trans (congrFun (x_up_n _ _ _ (by omega)) _) (Eq.trans (congrFun (x_up_n _ _ _ (by omega)) _) rfl))))).trans eq⟩)⟩⟩)
      refine xr_tableOut (tgt := 100) dX10_act_31 (xg_out (lo := 0) (hi := 3) (by decide) (fun j h1 h2 qq => by have h3 : j = 0 ∨ j = 1 ∨ j = 2 ∨ j = 3 := (by omega); rcases h3 with rfl | rfl | rfl | rfl <;> first | exact absurd qq w122 | exact absurd qq w127 | exact absurd qq w132 | exact absurd qq w137)) rfl ?_
      refine xr_iconst (v := 0) dX10_act_100 rfl ?_
      exact xr_iret dX10_act_101 rfl rfl (⟨_, rfl, rfl, rfl, (Ke.up (Or.inr (Or.inr (Or.inl (by omega)))) (Ke.up (Or.inr (Or.inl (by omega))) (Ke.up (Or.inl (by omega)) Ke.rf))), ⟨⟨hn, by omega, (Eq.trans (x_up_k _ _ _ (by decide)) (Eq.trans (x_up_k _ _ _ (by decide)) (Eq.trans (x_up_k _ _ _ (by decide)) e_hn))), (fun kw hkw => by rw [show (x_up (x_up (x_up M 62 39 0) 62 40 6) 62 41 (nI (h_))) 63 (5 + kw) = M 63 (5 + kw) from (Eq.trans (congrFun (x_up_n _ _ _ (by omega)) _) (Eq.trans (congrFun (x_up_n _ _ _ (by omega)) _) (Eq.trans (congrFun (x_up_n _ _ _ (by omega)) _) rfl)))]; exact hw kw hkw)⟩, (by rw [show (x_up (x_up (x_up M 62 39 0) 62 40 6) 62 41 (nI (h_))) 63 16 = M 63 16 from (Eq.trans (congrFun (x_up_n _ _ _ (by omega)) _) (Eq.trans (congrFun (x_up_n _ _ _ (by omega)) _) (Eq.trans (congrFun (x_up_n _ _ _ (by omega)) _) rfl)))]; exact hbt), ⟨un, wn, by omega, by omega, (Eq.trans (x_up_k _ _ _ (by decide)) (Eq.trans (x_up_k _ _ _ (by decide)) (Eq.trans (x_up_k _ _ _ (by decide)) e_un))), (Eq.trans (x_up_k _ _ _ (by decide)) (Eq.trans (x_up_k _ _ _ (by decide)) (Eq.trans (x_up_k _ _ _ (by decide)) e_wn)))⟩, (fun kk hkk => by rw [show (x_up (x_up (x_up M 62 39 0) 62 40 6) 62 41 (nI (h_))) 64 kk = M 64 kk from (Eq.trans (congrFun (x_up_n _ _ _ (by omega)) _) (Eq.trans (congrFun (x_up_n _ _ _ (by omega)) _) (Eq.trans (congrFun (x_up_n _ _ _ (by omega)) _) rfl))), show (x_up (x_up (x_up M 62 39 0) 62 40 6) 62 41 (nI (h_))) 65 kk = M 65 kk from (Eq.trans (congrFun (x_up_n _ _ _ (by omega)) _) (Eq.trans (congrFun (x_up_n _ _ _ (by omega)) _) (Eq.trans (congrFun (x_up_n _ _ _ (by omega)) _) rfl))), show (x_up (x_up (x_up M 62 39 0) 62 40 6) 62 41 (nI (h_))) 66 kk = M 66 kk from (Eq.trans (congrFun (x_up_n _ _ _ (by omega)) _) (Eq.trans (congrFun (x_up_n _ _ _ (by omega)) _) (Eq.trans (congrFun (x_up_n _ _ _ (by omega)) _) rfl)))]; exact hch kk hkk), ⟨n, by omega, (Eq.trans (x_up_k _ _ _ (by decide)) (Eq.trans (x_up_k _ _ _ (by decide)) (Eq.trans (x_up_k _ _ _ (by decide)) e_n)))⟩, (by rw [show (x_up (x_up (x_up M 62 39 0) 62 40 6) 62 41 (nI (h_))) 62 13 = M 62 13 from (Eq.trans (x_up_k _ _ _ (by omega)) (Eq.trans (x_up_k _ _ _ (by omega)) (Eq.trans (x_up_k _ _ _ (by omega)) rfl)))]; exact htx), ⟨b, by omega, (Eq.trans (x_up_k _ _ _ (by decide)) (Eq.trans (x_up_k _ _ _ (by decide)) (Eq.trans (x_up_k _ _ _ (by decide)) e_b)))⟩, (fun j hj => by obtain ⟨q, hq, eq⟩ := hkd j hj; exact ⟨q, hq, (show (x_up (x_up (x_up M 62 39 0) 62 40 6) 62 41 (nI (h_))) 81 j = M 81 j from (Eq.trans (congrFun (x_up_n _ _ _ (by omega)) _) (Eq.trans (congrFun (x_up_n _ _ _ (by omega)) _) (Eq.trans (congrFun (x_up_n _ _ _ (by omega)) _) rfl)))).trans eq⟩), ⟨0, by omega, (Eq.trans (x_up_k _ _ _ (by decide)) (Eq.trans (x_up_k _ _ _ (by decide)) (x_up_s _ _ _ _)))⟩, (fun j hj => by rw [show (x_up (x_up (x_up M 62 39 0) 62 40 6) 62 41 (nI (h_))) 83 j = M 83 j from (Eq.trans (congrFun (x_up_n _ _ _ (by omega)) _) (Eq.trans (congrFun (x_up_n _ _ _ (by omega)) _) (Eq.trans (congrFun (x_up_n _ _ _ (by omega)) _) rfl))), show (x_up (x_up (x_up M 62 39 0) 62 40 6) 62 41 (nI (h_))) 84 j = M 84 j from (Eq.trans (congrFun (x_up_n _ _ _ (by omega)) _) (Eq.trans (congrFun (x_up_n _ _ _ (by omega)) _) (Eq.trans (congrFun (x_up_n _ _ _ (by omega)) _) rfl)))]; exact hsl j hj), ⟨ic, by omega, (Eq.trans (x_up_k _ _ _ (by decide)) (Eq.trans (x_up_k _ _ _ (by decide)) (Eq.trans (x_up_k _ _ _ (by decide)) e_ic)))⟩, (fun j hj => by obtain ⟨q, hq, eq⟩ := hS j hj; exact ⟨q, hq, (show (x_up (x_up (x_up M 62 39 0) 62 40 6) 62 41 (nI (h_))) 75 j = M 75 j from (Eq.trans (congrFun (x_up_n _ _ _ (by omega)) _) (Eq.trans (congrFun (x_up_n _ _ _ (by omega)) _) (Eq.trans (congrFun (x_up_n _ _ _ (by omega)) _) rfl)))).trans eq⟩)⟩⟩)
    · refine xr_aload_n dX10_act_15 0 rfl ?_
      refine xr_aload_n dX10_act_16 0 rfl ?_
      refine xr_getR flX10_69 dX10_act_17 s_62 rfl ?_
      refine xr_iload_n dX10_act_20 1 rfl ?_
      refine xb_iald (j := h_) (v := 7) dX10_act_21 s_81 (by omega) (by decide) (Eq.trans (congrFun (x_up_n _ _ _ (by decide)) _) eq9) ?_
      refine xr_putI fpX10_352 dX10_act_22 s_62 rfl rfl rfl ?_
      refine xr_aload_n dX10_act_25 0 rfl ?_
      refine xr_iload_n dX10_act_26 1 rfl ?_
      refine xr_putI fpX10_346 dX10_act_27 s_62 rfl rfl rfl ?_
      refine xr_iload_n dX10_act_30 2 rfl ?_
      refine xg_eq 0 (fun w142 => ?_) (fun w142 => ?_)
      · refine xr_tableIn (tgt := 60) dX10_act_31 (by decide) (by decide) rfl rfl ?_
        refine xr_aload_n dX10_act_60 0 rfl ?_
        refine xr_aload_n dX10_act_61 0 rfl ?_
        refine xb_get (v := 7) flX10_352 dX10_act_62 s_62 rfl (Eq.trans (x_up_k _ _ _ (by decide)) (x_up_s _ _ _ _)) ?_
        refine xr_iload_n dX10_act_65 3 rfl ?_
        refine xr_callV (As := [.int (7), .int (x)]) (rest := []) mlX10_343 (ra7_pushesAs_7 (ac := h_) (ra := 0) x (by omega) (Eq.trans (x_up_k _ _ _ (by decide)) (Eq.trans (x_up_k _ _ _ (by decide)) (x_up_s _ _ _ _))) (Eq.trans (x_up_k _ _ _ (by decide)) (x_up_s _ _ _ _)) (x_up_s _ _ _ _)) dX10_act_66 s_62 rfl rfl (Nat.le_of_ble_eq_true rfl) (by decide) ⟨by decide, by decide⟩ (fun v s2 M144 J2 hq => ?_)
        obtain ⟨r146, rfl, rfl, rfl, k145, ⟨_, hx143⟩⟩ := hq
        try dsimp only [Option.toList, List.cons_append, List.nil_append]
        exact xr_iret dX10_act_69 rfl rfl (⟨_, rfl, rfl, rfl, (Ke.tr (fun pp kk => (fun hh => Or.elim hh (fun h => (Or.inl h)) (fun h => (Or.inr (Or.inr (Or.inr h)))))) (Ke.up (Or.inr (Or.inr (Or.inl (by omega)))) (Ke.up (Or.inr (Or.inl (by omega))) (Ke.up (Or.inl (by omega)) Ke.rf))) k145), ⟨⟨hn, by omega, (Eq.trans (k145 62 6 (by decide)) (Eq.trans (x_up_k _ _ _ (by decide)) (Eq.trans (x_up_k _ _ _ (by decide)) (Eq.trans (x_up_k _ _ _ (by decide)) e_hn)))), (fun kw hkw => by rw [show M144 63 (5 + kw) = M 63 (5 + kw) from (Eq.trans (k145 63 (5 + kw) (by unfold WRA; omega)) (Eq.trans (congrFun (x_up_n _ _ _ (by omega)) _) (Eq.trans (congrFun (x_up_n _ _ _ (by omega)) _) (Eq.trans (congrFun (x_up_n _ _ _ (by omega)) _) rfl))))]; exact hw kw hkw)⟩, (by rw [show M144 63 16 = M 63 16 from (Eq.trans (k145 63 16 (by unfold WRA; omega)) (Eq.trans (congrFun (x_up_n _ _ _ (by omega)) _) (Eq.trans (congrFun (x_up_n _ _ _ (by omega)) _) (Eq.trans (congrFun (x_up_n _ _ _ (by omega)) _) rfl))))]; exact hbt), ⟨un, wn, by omega, by omega, (Eq.trans (k145 62 5 (by decide)) (Eq.trans (x_up_k _ _ _ (by decide)) (Eq.trans (x_up_k _ _ _ (by decide)) (Eq.trans (x_up_k _ _ _ (by decide)) e_un)))), (Eq.trans (k145 62 4 (by decide)) (Eq.trans (x_up_k _ _ _ (by decide)) (Eq.trans (x_up_k _ _ _ (by decide)) (Eq.trans (x_up_k _ _ _ (by decide)) e_wn))))⟩, (fun kk hkk => by rw [show M144 64 kk = M 64 kk from (Eq.trans (k145 64 kk (by unfold WRA; omega)) (Eq.trans (congrFun (x_up_n _ _ _ (by omega)) _) (Eq.trans (congrFun (x_up_n _ _ _ (by omega)) _) (Eq.trans (congrFun (x_up_n _ _ _ (by omega)) _) rfl)))), show M144 65 kk = M 65 kk from (Eq.trans (k145 65 kk (by unfold WRA; omega)) (Eq.trans (congrFun (x_up_n _ _ _ (by omega)) _) (Eq.trans (congrFun (x_up_n _ _ _ (by omega)) _) (Eq.trans (congrFun (x_up_n _ _ _ (by omega)) _) rfl)))), show M144 66 kk = M 66 kk from (Eq.trans (k145 66 kk (by unfold WRA; omega)) (Eq.trans (congrFun (x_up_n _ _ _ (by omega)) _) (Eq.trans (congrFun (x_up_n _ _ _ (by omega)) _) (Eq.trans (congrFun (x_up_n _ _ _ (by omega)) _) rfl))))]; exact hch kk hkk), ⟨n, by omega, (Eq.trans (k145 62 11 (by decide)) (Eq.trans (x_up_k _ _ _ (by decide)) (Eq.trans (x_up_k _ _ _ (by decide)) (Eq.trans (x_up_k _ _ _ (by decide)) e_n))))⟩, (by rw [show M144 62 13 = M 62 13 from (Eq.trans (k145 62 13 (by unfold WRA; omega)) (Eq.trans (x_up_k _ _ _ (by omega)) (Eq.trans (x_up_k _ _ _ (by omega)) (Eq.trans (x_up_k _ _ _ (by omega)) rfl))))]; exact htx), ⟨b, by omega, (Eq.trans (k145 62 36 (by decide)) (Eq.trans (x_up_k _ _ _ (by decide)) (Eq.trans (x_up_k _ _ _ (by decide)) (Eq.trans (x_up_k _ _ _ (by decide)) e_b))))⟩, (fun j hj => by obtain ⟨q, hq, eq⟩ := hkd j hj; exact ⟨q, hq, (show M144 81 j = M 81 j from (Eq.trans (k145 81 j (by unfold WRA; omega)) (Eq.trans (congrFun (x_up_n _ _ _ (by omega)) _) (Eq.trans (congrFun (x_up_n _ _ _ (by omega)) _) (Eq.trans (congrFun (x_up_n _ _ _ (by omega)) _) rfl))))).trans eq⟩), ⟨0 + 2, by omega, hx143⟩, (fun j hj => by rw [show M144 83 j = M 83 j from (Eq.trans (k145 83 j (by unfold WRA; omega)) (Eq.trans (congrFun (x_up_n _ _ _ (by omega)) _) (Eq.trans (congrFun (x_up_n _ _ _ (by omega)) _) (Eq.trans (congrFun (x_up_n _ _ _ (by omega)) _) rfl)))), show M144 84 j = M 84 j from (Eq.trans (k145 84 j (by unfold WRA; omega)) (Eq.trans (congrFun (x_up_n _ _ _ (by omega)) _) (Eq.trans (congrFun (x_up_n _ _ _ (by omega)) _) (Eq.trans (congrFun (x_up_n _ _ _ (by omega)) _) rfl))))]; exact hsl j hj), ⟨ic, by omega, (Eq.trans (k145 62 34 (by decide)) (Eq.trans (x_up_k _ _ _ (by decide)) (Eq.trans (x_up_k _ _ _ (by decide)) (Eq.trans (x_up_k _ _ _ (by decide)) e_ic))))⟩, (fun j hj => by obtain ⟨q, hq, eq⟩ := hS j hj; exact ⟨q, hq, (show M144 75 j = M 75 j from (Eq.trans (k145 75 j (by unfold WRA; omega)) (Eq.trans (congrFun (x_up_n _ _ _ (by omega)) _) (Eq.trans (congrFun (x_up_n _ _ _ (by omega)) _) (Eq.trans (congrFun (x_up_n _ _ _ (by omega)) _) rfl))))).trans eq⟩)⟩⟩)
      refine xg_eq 1 (fun w147 => ?_) (fun w147 => ?_)
      · refine xr_tableIn (tgt := 70) dX10_act_31 (by decide) (by decide) rfl rfl ?_
        refine xr_aload_n dX10_act_70 0 rfl ?_
        refine xr_aload_n dX10_act_71 0 rfl ?_
        refine xb_get (v := 7) flX10_352 dX10_act_72 s_62 rfl (Eq.trans (x_up_k _ _ _ (by decide)) (x_up_s _ _ _ _)) ?_
        refine xr_iload_n dX10_act_75 3 rfl ?_
        refine xr_callV (As := [.int (7), .int (x)]) (rest := []) mlX10_349 (ra7_turnsAs_7 (ac := h_) (ra := 0) x (by omega) (Eq.trans (x_up_k _ _ _ (by decide)) (Eq.trans (x_up_k _ _ _ (by decide)) (x_up_s _ _ _ _))) (Eq.trans (x_up_k _ _ _ (by decide)) (x_up_s _ _ _ _)) (x_up_s _ _ _ _)) dX10_act_76 s_62 rfl rfl (Nat.le_of_ble_eq_true rfl) (by decide) ⟨by decide, by decide⟩ (fun v s2 M149 J2 hq => ?_)
        obtain ⟨r151, rfl, rfl, rfl, k150, ⟨_, hx148⟩⟩ := hq
        try dsimp only [Option.toList, List.cons_append, List.nil_append]
        exact xr_iret dX10_act_79 rfl rfl (⟨_, rfl, rfl, rfl, (Ke.tr (fun pp kk => (fun hh => Or.elim hh (fun h => (Or.inl h)) (fun h => (Or.inr (Or.inr (Or.inr h)))))) (Ke.up (Or.inr (Or.inr (Or.inl (by omega)))) (Ke.up (Or.inr (Or.inl (by omega))) (Ke.up (Or.inl (by omega)) Ke.rf))) k150), ⟨⟨hn, by omega, (Eq.trans (k150 62 6 (by decide)) (Eq.trans (x_up_k _ _ _ (by decide)) (Eq.trans (x_up_k _ _ _ (by decide)) (Eq.trans (x_up_k _ _ _ (by decide)) e_hn)))), (fun kw hkw => by rw [show M149 63 (5 + kw) = M 63 (5 + kw) from (Eq.trans (k150 63 (5 + kw) (by unfold WRA; omega)) (Eq.trans (congrFun (x_up_n _ _ _ (by omega)) _) (Eq.trans (congrFun (x_up_n _ _ _ (by omega)) _) (Eq.trans (congrFun (x_up_n _ _ _ (by omega)) _) rfl))))]; exact hw kw hkw)⟩, (by rw [show M149 63 16 = M 63 16 from (Eq.trans (k150 63 16 (by unfold WRA; omega)) (Eq.trans (congrFun (x_up_n _ _ _ (by omega)) _) (Eq.trans (congrFun (x_up_n _ _ _ (by omega)) _) (Eq.trans (congrFun (x_up_n _ _ _ (by omega)) _) rfl))))]; exact hbt), ⟨un, wn, by omega, by omega, (Eq.trans (k150 62 5 (by decide)) (Eq.trans (x_up_k _ _ _ (by decide)) (Eq.trans (x_up_k _ _ _ (by decide)) (Eq.trans (x_up_k _ _ _ (by decide)) e_un)))), (Eq.trans (k150 62 4 (by decide)) (Eq.trans (x_up_k _ _ _ (by decide)) (Eq.trans (x_up_k _ _ _ (by decide)) (Eq.trans (x_up_k _ _ _ (by decide)) e_wn))))⟩, (fun kk hkk => by rw [show M149 64 kk = M 64 kk from (Eq.trans (k150 64 kk (by unfold WRA; omega)) (Eq.trans (congrFun (x_up_n _ _ _ (by omega)) _) (Eq.trans (congrFun (x_up_n _ _ _ (by omega)) _) (Eq.trans (congrFun (x_up_n _ _ _ (by omega)) _) rfl)))), show M149 65 kk = M 65 kk from (Eq.trans (k150 65 kk (by unfold WRA; omega)) (Eq.trans (congrFun (x_up_n _ _ _ (by omega)) _) (Eq.trans (congrFun (x_up_n _ _ _ (by omega)) _) (Eq.trans (congrFun (x_up_n _ _ _ (by omega)) _) rfl)))), show M149 66 kk = M 66 kk from (Eq.trans (k150 66 kk (by unfold WRA; omega)) (Eq.trans (congrFun (x_up_n _ _ _ (by omega)) _) (Eq.trans (congrFun (x_up_n _ _ _ (by omega)) _) (Eq.trans (congrFun (x_up_n _ _ _ (by omega)) _) rfl))))]; exact hch kk hkk), ⟨n, by omega, (Eq.trans (k150 62 11 (by decide)) (Eq.trans (x_up_k _ _ _ (by decide)) (Eq.trans (x_up_k _ _ _ (by decide)) (Eq.trans (x_up_k _ _ _ (by decide)) e_n))))⟩, (by rw [show M149 62 13 = M 62 13 from (Eq.trans (k150 62 13 (by unfold WRA; omega)) (Eq.trans (x_up_k _ _ _ (by omega)) (Eq.trans (x_up_k _ _ _ (by omega)) (Eq.trans (x_up_k _ _ _ (by omega)) rfl))))]; exact htx), ⟨b, by omega, (Eq.trans (k150 62 36 (by decide)) (Eq.trans (x_up_k _ _ _ (by decide)) (Eq.trans (x_up_k _ _ _ (by decide)) (Eq.trans (x_up_k _ _ _ (by decide)) e_b))))⟩, (fun j hj => by obtain ⟨q, hq, eq⟩ := hkd j hj; exact ⟨q, hq, (show M149 81 j = M 81 j from (Eq.trans (k150 81 j (by unfold WRA; omega)) (Eq.trans (congrFun (x_up_n _ _ _ (by omega)) _) (Eq.trans (congrFun (x_up_n _ _ _ (by omega)) _) (Eq.trans (congrFun (x_up_n _ _ _ (by omega)) _) rfl))))).trans eq⟩), ⟨0 + 8, by omega, hx148⟩, (fun j hj => by rw [show M149 83 j = M 83 j from (Eq.trans (k150 83 j (by unfold WRA; omega)) (Eq.trans (congrFun (x_up_n _ _ _ (by omega)) _) (Eq.trans (congrFun (x_up_n _ _ _ (by omega)) _) (Eq.trans (congrFun (x_up_n _ _ _ (by omega)) _) rfl)))), show M149 84 j = M 84 j from (Eq.trans (k150 84 j (by unfold WRA; omega)) (Eq.trans (congrFun (x_up_n _ _ _ (by omega)) _) (Eq.trans (congrFun (x_up_n _ _ _ (by omega)) _) (Eq.trans (congrFun (x_up_n _ _ _ (by omega)) _) rfl))))]; exact hsl j hj), ⟨ic, by omega, (Eq.trans (k150 62 34 (by decide)) (Eq.trans (x_up_k _ _ _ (by decide)) (Eq.trans (x_up_k _ _ _ (by decide)) (Eq.trans (x_up_k _ _ _ (by decide)) e_ic))))⟩, (fun j hj => by obtain ⟨q, hq, eq⟩ := hS j hj; exact ⟨q, hq, (show M149 75 j = M 75 j from (Eq.trans (k150 75 j (by unfold WRA; omega)) (Eq.trans (congrFun (x_up_n _ _ _ (by omega)) _) (Eq.trans (congrFun (x_up_n _ _ _ (by omega)) _) (Eq.trans (congrFun (x_up_n _ _ _ (by omega)) _) rfl))))).trans eq⟩)⟩⟩)
      refine xg_eq 2 (fun w152 => ?_) (fun w152 => ?_)
      · refine xr_tableIn (tgt := 80) dX10_act_31 (by decide) (by decide) rfl rfl ?_
        refine xr_aload_n dX10_act_80 0 rfl ?_
        refine xr_aload_n dX10_act_81 0 rfl ?_
        refine xb_get (v := 7) flX10_352 dX10_act_82 s_62 rfl (Eq.trans (x_up_k _ _ _ (by decide)) (x_up_s _ _ _ _)) ?_
        refine xr_iload_n dX10_act_85 3 rfl ?_
        refine xr_callV (As := [.int (7), .int (x)]) (rest := []) mlX10_355 (ra7_sinksAs_7 (ac := h_) (ra := 0) x (by omega) (Eq.trans (x_up_k _ _ _ (by decide)) (Eq.trans (x_up_k _ _ _ (by decide)) (x_up_s _ _ _ _))) (Eq.trans (x_up_k _ _ _ (by decide)) (x_up_s _ _ _ _)) (x_up_s _ _ _ _)) dX10_act_86 s_62 rfl rfl (Nat.le_of_ble_eq_true rfl) (by decide) ⟨by decide, by decide⟩ (fun v s2 M154 J2 hq => ?_)
        obtain ⟨r156, rfl, rfl, rfl, k155, ⟨_, hx153⟩⟩ := hq
        try dsimp only [Option.toList, List.cons_append, List.nil_append]
        exact xr_iret dX10_act_89 rfl rfl (⟨_, rfl, rfl, rfl, (Ke.tr (fun pp kk => (fun hh => Or.elim hh (fun h => (Or.inl h)) (fun h => (Or.inr (Or.inr (Or.inr h)))))) (Ke.up (Or.inr (Or.inr (Or.inl (by omega)))) (Ke.up (Or.inr (Or.inl (by omega))) (Ke.up (Or.inl (by omega)) Ke.rf))) k155), ⟨⟨hn, by omega, (Eq.trans (k155 62 6 (by decide)) (Eq.trans (x_up_k _ _ _ (by decide)) (Eq.trans (x_up_k _ _ _ (by decide)) (Eq.trans (x_up_k _ _ _ (by decide)) e_hn)))), (fun kw hkw => by rw [show M154 63 (5 + kw) = M 63 (5 + kw) from (Eq.trans (k155 63 (5 + kw) (by unfold WRA; omega)) (Eq.trans (congrFun (x_up_n _ _ _ (by omega)) _) (Eq.trans (congrFun (x_up_n _ _ _ (by omega)) _) (Eq.trans (congrFun (x_up_n _ _ _ (by omega)) _) rfl))))]; exact hw kw hkw)⟩, (by rw [show M154 63 16 = M 63 16 from (Eq.trans (k155 63 16 (by unfold WRA; omega)) (Eq.trans (congrFun (x_up_n _ _ _ (by omega)) _) (Eq.trans (congrFun (x_up_n _ _ _ (by omega)) _) (Eq.trans (congrFun (x_up_n _ _ _ (by omega)) _) rfl))))]; exact hbt), ⟨un, wn, by omega, by omega, (Eq.trans (k155 62 5 (by decide)) (Eq.trans (x_up_k _ _ _ (by decide)) (Eq.trans (x_up_k _ _ _ (by decide)) (Eq.trans (x_up_k _ _ _ (by decide)) e_un)))), (Eq.trans (k155 62 4 (by decide)) (Eq.trans (x_up_k _ _ _ (by decide)) (Eq.trans (x_up_k _ _ _ (by decide)) (Eq.trans (x_up_k _ _ _ (by decide)) e_wn))))⟩, (fun kk hkk => by rw [show M154 64 kk = M 64 kk from (Eq.trans (k155 64 kk (by unfold WRA; omega)) (Eq.trans (congrFun (x_up_n _ _ _ (by omega)) _) (Eq.trans (congrFun (x_up_n _ _ _ (by omega)) _) (Eq.trans (congrFun (x_up_n _ _ _ (by omega)) _) rfl)))), show M154 65 kk = M 65 kk from (Eq.trans (k155 65 kk (by unfold WRA; omega)) (Eq.trans (congrFun (x_up_n _ _ _ (by omega)) _) (Eq.trans (congrFun (x_up_n _ _ _ (by omega)) _) (Eq.trans (congrFun (x_up_n _ _ _ (by omega)) _) rfl)))), show M154 66 kk = M 66 kk from (Eq.trans (k155 66 kk (by unfold WRA; omega)) (Eq.trans (congrFun (x_up_n _ _ _ (by omega)) _) (Eq.trans (congrFun (x_up_n _ _ _ (by omega)) _) (Eq.trans (congrFun (x_up_n _ _ _ (by omega)) _) rfl))))]; exact hch kk hkk), ⟨n, by omega, (Eq.trans (k155 62 11 (by decide)) (Eq.trans (x_up_k _ _ _ (by decide)) (Eq.trans (x_up_k _ _ _ (by decide)) (Eq.trans (x_up_k _ _ _ (by decide)) e_n))))⟩, (by rw [show M154 62 13 = M 62 13 from (Eq.trans (k155 62 13 (by unfold WRA; omega)) (Eq.trans (x_up_k _ _ _ (by omega)) (Eq.trans (x_up_k _ _ _ (by omega)) (Eq.trans (x_up_k _ _ _ (by omega)) rfl))))]; exact htx), ⟨b, by omega, (Eq.trans (k155 62 36 (by decide)) (Eq.trans (x_up_k _ _ _ (by decide)) (Eq.trans (x_up_k _ _ _ (by decide)) (Eq.trans (x_up_k _ _ _ (by decide)) e_b))))⟩, (fun j hj => by obtain ⟨q, hq, eq⟩ := hkd j hj; exact ⟨q, hq, (show M154 81 j = M 81 j from (Eq.trans (k155 81 j (by unfold WRA; omega)) (Eq.trans (congrFun (x_up_n _ _ _ (by omega)) _) (Eq.trans (congrFun (x_up_n _ _ _ (by omega)) _) (Eq.trans (congrFun (x_up_n _ _ _ (by omega)) _) rfl))))).trans eq⟩), ⟨0 + 4, by omega, hx153⟩, (fun j hj => by rw [show M154 83 j = M 83 j from (Eq.trans (k155 83 j (by unfold WRA; omega)) (Eq.trans (congrFun (x_up_n _ _ _ (by omega)) _) (Eq.trans (congrFun (x_up_n _ _ _ (by omega)) _) (Eq.trans (congrFun (x_up_n _ _ _ (by omega)) _) rfl)))), show M154 84 j = M 84 j from (Eq.trans (k155 84 j (by unfold WRA; omega)) (Eq.trans (congrFun (x_up_n _ _ _ (by omega)) _) (Eq.trans (congrFun (x_up_n _ _ _ (by omega)) _) (Eq.trans (congrFun (x_up_n _ _ _ (by omega)) _) rfl))))]; exact hsl j hj), ⟨ic, by omega, (Eq.trans (k155 62 34 (by decide)) (Eq.trans (x_up_k _ _ _ (by decide)) (Eq.trans (x_up_k _ _ _ (by decide)) (Eq.trans (x_up_k _ _ _ (by decide)) e_ic))))⟩, (fun j hj => by obtain ⟨q, hq, eq⟩ := hS j hj; exact ⟨q, hq, (show M154 75 j = M 75 j from (Eq.trans (k155 75 j (by unfold WRA; omega)) (Eq.trans (congrFun (x_up_n _ _ _ (by omega)) _) (Eq.trans (congrFun (x_up_n _ _ _ (by omega)) _) (Eq.trans (congrFun (x_up_n _ _ _ (by omega)) _) rfl))))).trans eq⟩)⟩⟩)
      refine xg_eq 3 (fun w157 => ?_) (fun w157 => ?_)
      · refine xr_tableIn (tgt := 90) dX10_act_31 (by decide) (by decide) rfl rfl ?_
        refine xr_aload_n dX10_act_90 0 rfl ?_
        refine xr_aload_n dX10_act_91 0 rfl ?_
        refine xb_get (v := 7) flX10_352 dX10_act_92 s_62 rfl (Eq.trans (x_up_k _ _ _ (by decide)) (x_up_s _ _ _ _)) ?_
        refine xr_iload_n dX10_act_95 3 rfl ?_
        refine xr_callV (As := [.int (7), .int (x)]) (rest := []) mlX10_358 (ra7_tellsAs_7 (ac := h_) (ra := 0) x (by omega) (Eq.trans (x_up_k _ _ _ (by decide)) (Eq.trans (x_up_k _ _ _ (by decide)) (x_up_s _ _ _ _))) (Eq.trans (x_up_k _ _ _ (by decide)) (x_up_s _ _ _ _)) (x_up_s _ _ _ _)) dX10_act_96 s_62 rfl rfl (Nat.le_of_ble_eq_true rfl) (by decide) ⟨by decide, by decide⟩ (fun v s2 M159 J2 hq => ?_)
        obtain ⟨r161, rfl, rfl, rfl, k160, ⟨_, hx158⟩⟩ := hq
        try dsimp only [Option.toList, List.cons_append, List.nil_append]
        exact xr_iret dX10_act_99 rfl rfl (⟨_, rfl, rfl, rfl, (Ke.tr (fun pp kk => (fun hh => Or.elim hh (fun h => (Or.inl h)) (fun h => (Or.inr (Or.inr (Or.inr h)))))) (Ke.up (Or.inr (Or.inr (Or.inl (by omega)))) (Ke.up (Or.inr (Or.inl (by omega))) (Ke.up (Or.inl (by omega)) Ke.rf))) k160), ⟨⟨hn, by omega, (Eq.trans (k160 62 6 (by decide)) (Eq.trans (x_up_k _ _ _ (by decide)) (Eq.trans (x_up_k _ _ _ (by decide)) (Eq.trans (x_up_k _ _ _ (by decide)) e_hn)))), (fun kw hkw => by rw [show M159 63 (5 + kw) = M 63 (5 + kw) from (Eq.trans (k160 63 (5 + kw) (by unfold WRA; omega)) (Eq.trans (congrFun (x_up_n _ _ _ (by omega)) _) (Eq.trans (congrFun (x_up_n _ _ _ (by omega)) _) (Eq.trans (congrFun (x_up_n _ _ _ (by omega)) _) rfl))))]; exact hw kw hkw)⟩, (by rw [show M159 63 16 = M 63 16 from (Eq.trans (k160 63 16 (by unfold WRA; omega)) (Eq.trans (congrFun (x_up_n _ _ _ (by omega)) _) (Eq.trans (congrFun (x_up_n _ _ _ (by omega)) _) (Eq.trans (congrFun (x_up_n _ _ _ (by omega)) _) rfl))))]; exact hbt), ⟨un, wn, by omega, by omega, (Eq.trans (k160 62 5 (by decide)) (Eq.trans (x_up_k _ _ _ (by decide)) (Eq.trans (x_up_k _ _ _ (by decide)) (Eq.trans (x_up_k _ _ _ (by decide)) e_un)))), (Eq.trans (k160 62 4 (by decide)) (Eq.trans (x_up_k _ _ _ (by decide)) (Eq.trans (x_up_k _ _ _ (by decide)) (Eq.trans (x_up_k _ _ _ (by decide)) e_wn))))⟩, (fun kk hkk => by rw [show M159 64 kk = M 64 kk from (Eq.trans (k160 64 kk (by unfold WRA; omega)) (Eq.trans (congrFun (x_up_n _ _ _ (by omega)) _) (Eq.trans (congrFun (x_up_n _ _ _ (by omega)) _) (Eq.trans (congrFun (x_up_n _ _ _ (by omega)) _) rfl)))), show M159 65 kk = M 65 kk from (Eq.trans (k160 65 kk (by unfold WRA; omega)) (Eq.trans (congrFun (x_up_n _ _ _ (by omega)) _) (Eq.trans (congrFun (x_up_n _ _ _ (by omega)) _) (Eq.trans (congrFun (x_up_n _ _ _ (by omega)) _) rfl)))), show M159 66 kk = M 66 kk from (Eq.trans (k160 66 kk (by unfold WRA; omega)) (Eq.trans (congrFun (x_up_n _ _ _ (by omega)) _) (Eq.trans (congrFun (x_up_n _ _ _ (by omega)) _) (Eq.trans (congrFun (x_up_n _ _ _ (by omega)) _) rfl))))]; exact hch kk hkk), ⟨n, by omega, (Eq.trans (k160 62 11 (by decide)) (Eq.trans (x_up_k _ _ _ (by decide)) (Eq.trans (x_up_k _ _ _ (by decide)) (Eq.trans (x_up_k _ _ _ (by decide)) e_n))))⟩, (by rw [show M159 62 13 = M 62 13 from (Eq.trans (k160 62 13 (by unfold WRA; omega)) (Eq.trans (x_up_k _ _ _ (by omega)) (Eq.trans (x_up_k _ _ _ (by omega)) (Eq.trans (x_up_k _ _ _ (by omega)) rfl))))]; exact htx), ⟨b, by omega, (Eq.trans (k160 62 36 (by decide)) (Eq.trans (x_up_k _ _ _ (by decide)) (Eq.trans (x_up_k _ _ _ (by decide)) (Eq.trans (x_up_k _ _ _ (by decide)) e_b))))⟩, (fun j hj => by obtain ⟨q, hq, eq⟩ := hkd j hj; exact ⟨q, hq, (show M159 81 j = M 81 j from (Eq.trans (k160 81 j (by unfold WRA; omega)) (Eq.trans (congrFun (x_up_n _ _ _ (by omega)) _) (Eq.trans (congrFun (x_up_n _ _ _ (by omega)) _) (Eq.trans (congrFun (x_up_n _ _ _ (by omega)) _) rfl))))).trans eq⟩), ⟨0 + 14, by omega, hx158⟩, (fun j hj => by rw [show M159 83 j = M 83 j from (Eq.trans (k160 83 j (by unfold WRA; omega)) (Eq.trans (congrFun (x_up_n _ _ _ (by omega)) _) (Eq.trans (congrFun (x_up_n _ _ _ (by omega)) _) (Eq.trans (congrFun (x_up_n _ _ _ (by omega)) _) rfl)))), show M159 84 j = M 84 j from (Eq.trans (k160 84 j (by unfold WRA; omega)) (Eq.trans (congrFun (x_up_n _ _ _ (by omega)) _) (Eq.trans (congrFun (x_up_n _ _ _ (by omega)) _) (Eq.trans (congrFun (x_up_n _ _ _ (by omega)) _) rfl))))]; exact hsl j hj), ⟨ic, by omega, (Eq.trans (k160 62 34 (by decide)) (Eq.trans (x_up_k _ _ _ (by decide)) (Eq.trans (x_up_k _ _ _ (by decide)) (Eq.trans (x_up_k _ _ _ (by decide)) e_ic))))⟩, (fun j hj => by obtain ⟨q, hq, eq⟩ := hS j hj; exact ⟨q, hq, (show M159 75 j = M 75 j from (Eq.trans (k160 75 j (by unfold WRA; omega)) (Eq.trans (congrFun (x_up_n _ _ _ (by omega)) _) (Eq.trans (congrFun (x_up_n _ _ _ (by omega)) _) (Eq.trans (congrFun (x_up_n _ _ _ (by omega)) _) rfl))))).trans eq⟩)⟩⟩)
      refine xr_tableOut (tgt := 100) dX10_act_31 (xg_out (lo := 0) (hi := 3) (by decide) (fun j h1 h2 qq => by have h3 : j = 0 ∨ j = 1 ∨ j = 2 ∨ j = 3 := (by omega); rcases h3 with rfl | rfl | rfl | rfl <;> first | exact absurd qq w142 | exact absurd qq w147 | exact absurd qq w152 | exact absurd qq w157)) rfl ?_
      refine xr_iconst (v := 0) dX10_act_100 rfl ?_
      exact xr_iret dX10_act_101 rfl rfl (⟨_, rfl, rfl, rfl, (Ke.up (Or.inr (Or.inr (Or.inl (by omega)))) (Ke.up (Or.inr (Or.inl (by omega))) (Ke.up (Or.inl (by omega)) Ke.rf))), ⟨⟨hn, by omega, (Eq.trans (x_up_k _ _ _ (by decide)) (Eq.trans (x_up_k _ _ _ (by decide)) (Eq.trans (x_up_k _ _ _ (by decide)) e_hn))), (fun kw hkw => by rw [show (x_up (x_up (x_up M 62 39 0) 62 40 7) 62 41 (nI (h_))) 63 (5 + kw) = M 63 (5 + kw) from (Eq.trans (congrFun (x_up_n _ _ _ (by omega)) _) (Eq.trans (congrFun (x_up_n _ _ _ (by omega)) _) (Eq.trans (congrFun (x_up_n _ _ _ (by omega)) _) rfl)))]; exact hw kw hkw)⟩, (by rw [show (x_up (x_up (x_up M 62 39 0) 62 40 7) 62 41 (nI (h_))) 63 16 = M 63 16 from (Eq.trans (congrFun (x_up_n _ _ _ (by omega)) _) (Eq.trans (congrFun (x_up_n _ _ _ (by omega)) _) (Eq.trans (congrFun (x_up_n _ _ _ (by omega)) _) rfl)))]; exact hbt), ⟨un, wn, by omega, by omega, (Eq.trans (x_up_k _ _ _ (by decide)) (Eq.trans (x_up_k _ _ _ (by decide)) (Eq.trans (x_up_k _ _ _ (by decide)) e_un))), (Eq.trans (x_up_k _ _ _ (by decide)) (Eq.trans (x_up_k _ _ _ (by decide)) (Eq.trans (x_up_k _ _ _ (by decide)) e_wn)))⟩, (fun kk hkk => by rw [show (x_up (x_up (x_up M 62 39 0) 62 40 7) 62 41 (nI (h_))) 64 kk = M 64 kk from (Eq.trans (congrFun (x_up_n _ _ _ (by omega)) _) (Eq.trans (congrFun (x_up_n _ _ _ (by omega)) _) (Eq.trans (congrFun (x_up_n _ _ _ (by omega)) _) rfl))), show (x_up (x_up (x_up M 62 39 0) 62 40 7) 62 41 (nI (h_))) 65 kk = M 65 kk from (Eq.trans (congrFun (x_up_n _ _ _ (by omega)) _) (Eq.trans (congrFun (x_up_n _ _ _ (by omega)) _) (Eq.trans (congrFun (x_up_n _ _ _ (by omega)) _) rfl))), show (x_up (x_up (x_up M 62 39 0) 62 40 7) 62 41 (nI (h_))) 66 kk = M 66 kk from (Eq.trans (congrFun (x_up_n _ _ _ (by omega)) _) (Eq.trans (congrFun (x_up_n _ _ _ (by omega)) _) (Eq.trans (congrFun (x_up_n _ _ _ (by omega)) _) rfl)))]; exact hch kk hkk), ⟨n, by omega, (Eq.trans (x_up_k _ _ _ (by decide)) (Eq.trans (x_up_k _ _ _ (by decide)) (Eq.trans (x_up_k _ _ _ (by decide)) e_n)))⟩, (by rw [show (x_up (x_up (x_up M 62 39 0) 62 40 7) 62 41 (nI (h_))) 62 13 = M 62 13 from (Eq.trans (x_up_k _ _ _ (by omega)) (Eq.trans (x_up_k _ _ _ (by omega)) (Eq.trans (x_up_k _ _ _ (by omega)) rfl)))]; exact htx), ⟨b, by omega, (Eq.trans (x_up_k _ _ _ (by decide)) (Eq.trans (x_up_k _ _ _ (by decide)) (Eq.trans (x_up_k _ _ _ (by decide)) e_b)))⟩, (fun j hj => by obtain ⟨q, hq, eq⟩ := hkd j hj; exact ⟨q, hq, (show (x_up (x_up (x_up M 62 39 0) 62 40 7) 62 41 (nI (h_))) 81 j = M 81 j from (Eq.trans (congrFun (x_up_n _ _ _ (by omega)) _) (Eq.trans (congrFun (x_up_n _ _ _ (by omega)) _) (Eq.trans (congrFun (x_up_n _ _ _ (by omega)) _) rfl)))).trans eq⟩), ⟨0, by omega, (Eq.trans (x_up_k _ _ _ (by decide)) (Eq.trans (x_up_k _ _ _ (by decide)) (x_up_s _ _ _ _)))⟩, (fun j hj => by rw [show (x_up (x_up (x_up M 62 39 0) 62 40 7) 62 41 (nI (h_))) 83 j = M 83 j from (Eq.trans (congrFun (x_up_n _ _ _ (by omega)) _) (Eq.trans (congrFun (x_up_n _ _ _ (by omega)) _) (Eq.trans (congrFun (x_up_n _ _ _ (by omega)) _) rfl))), show (x_up (x_up (x_up M 62 39 0) 62 40 7) 62 41 (nI (h_))) 84 j = M 84 j from (Eq.trans (congrFun (x_up_n _ _ _ (by omega)) _) (Eq.trans (congrFun (x_up_n _ _ _ (by omega)) _) (Eq.trans (congrFun (x_up_n _ _ _ (by omega)) _) rfl)))]; exact hsl j hj), ⟨ic, by omega, (Eq.trans (x_up_k _ _ _ (by decide)) (Eq.trans (x_up_k _ _ _ (by decide)) (Eq.trans (x_up_k _ _ _ (by decide)) e_ic)))⟩, (fun j hj => by obtain ⟨q, hq, eq⟩ := hS j hj; exact ⟨q, hq, (show (x_up (x_up (x_up M 62 39 0) 62 40 7) 62 41 (nI (h_))) 75 j = M 75 j from (Eq.trans (congrFun (x_up_n _ _ _ (by omega)) _) (Eq.trans (congrFun (x_up_n _ _ _ (by omega)) _) (Eq.trans (congrFun (x_up_n _ _ _ (by omega)) _) rfl)))).trans eq⟩)⟩⟩)
  · refine xr_iconst (v := 0) dX10_act_13 rfl ?_
    exact xr_iret dX10_act_14 rfl rfl (⟨_, rfl, rfl, rfl, (Ke.up (Or.inl (by omega)) Ke.rf), ⟨⟨hn, by omega, (Eq.trans (x_up_k _ _ _ (by decide)) e_hn), (fun kw hkw => by rw [show (x_up M 62 39 0) 63 (5 + kw) = M 63 (5 + kw) from (Eq.trans (congrFun (x_up_n _ _ _ (by omega)) _) rfl)]; exact hw kw hkw)⟩, (by rw [show (x_up M 62 39 0) 63 16 = M 63 16 from (Eq.trans (congrFun (x_up_n _ _ _ (by omega)) _) rfl)]; exact hbt), ⟨un, wn, by omega, by omega, (Eq.trans (x_up_k _ _ _ (by decide)) e_un), (Eq.trans (x_up_k _ _ _ (by decide)) e_wn)⟩, (fun kk hkk => by rw [show (x_up M 62 39 0) 64 kk = M 64 kk from (Eq.trans (congrFun (x_up_n _ _ _ (by omega)) _) rfl), show (x_up M 62 39 0) 65 kk = M 65 kk from (Eq.trans (congrFun (x_up_n _ _ _ (by omega)) _) rfl), show (x_up M 62 39 0) 66 kk = M 66 kk from (Eq.trans (congrFun (x_up_n _ _ _ (by omega)) _) rfl)]; exact hch kk hkk), ⟨n, by omega, (Eq.trans (x_up_k _ _ _ (by decide)) e_n)⟩, (by rw [show (x_up M 62 39 0) 62 13 = M 62 13 from (Eq.trans (x_up_k _ _ _ (by omega)) rfl)]; exact htx), ⟨b, by omega, (Eq.trans (x_up_k _ _ _ (by decide)) e_b)⟩, (fun j hj => by obtain ⟨q, hq, eq⟩ := hkd j hj; exact ⟨q, hq, (show (x_up M 62 39 0) 81 j = M 81 j from (Eq.trans (congrFun (x_up_n _ _ _ (by omega)) _) rfl)).trans eq⟩), ⟨0, by omega, (x_up_s _ _ _ _)⟩, (fun j hj => by rw [show (x_up M 62 39 0) 83 j = M 83 j from (Eq.trans (congrFun (x_up_n _ _ _ (by omega)) _) rfl), show (x_up M 62 39 0) 84 j = M 84 j from (Eq.trans (congrFun (x_up_n _ _ _ (by omega)) _) rfl)]; exact hsl j hj), ⟨ic, by omega, (Eq.trans (x_up_k _ _ _ (by decide)) e_ic)⟩, (fun j hj => by obtain ⟨q, hq, eq⟩ := hS j hj; exact ⟨q, hq, (show (x_up M 62 39 0) 75 j = M 75 j from (Eq.trans (congrFun (x_up_n _ _ _ (by omega)) _) rfl)).trans eq⟩)⟩⟩)
set_option maxRecDepth 100000 in
set_option maxHeartbeats 4000000 in
theorem g_X10_trace (i : Int32) {l : Launch} {G : xG} {M : xM} {J : xJ} (hI : InvR M) : x_M l G fX10_trace 0 0 0 [.ref (62), .int (i)] x_SH M J (qPI M J (fun r => True)) := by
  refine xb_of pX10 (Nat.le_of_ble_eq_true rfl) rfl ?_
  obtain ⟨⟨hn, h_hn, e_hn, hw⟩, hbt, ⟨un, wn, h_uw, h_wn, e_un, e_wn⟩, hch, ⟨n, h_n, e_n⟩, htx, ⟨b, h_b, e_b⟩, hkd, ⟨ra, h_ra, e_ra⟩, hsl, ⟨ic, h_ic, e_ic⟩, hS⟩ := hI
  refine xr_iload_n dX10_trace_0 1 rfl ?_
  refine xr_if_lt (tgt := 27) dX10_trace_1 rfl (fun c1 => ?_) (fun c1 => ?_)
  · refine xr_iconst (v := -1) dX10_trace_27 rfl ?_
    exact xr_iret dX10_trace_28 rfl rfl (⟨_, rfl, rfl, rfl, rfl, trivial⟩)
  · refine xr_iload_n dX10_trace_4 1 rfl ?_
    refine xr_aload_n dX10_trace_5 0 rfl ?_
    refine xb_get (v := nI (ra)) flX10_337 dX10_trace_6 s_62 rfl e_ra ?_
    refine xr_icmp_ge (tgt := 27) dX10_trace_9 rfl (fun c2 => ?_) (fun c2 => ?_)
    · refine xr_iconst (v := -1) dX10_trace_27 rfl ?_
      exact xr_iret dX10_trace_28 rfl rfl (⟨_, rfl, rfl, rfl, rfl, trivial⟩)
    · refine xr_iload_n dX10_trace_12 1 rfl ?_
      refine xr_bipush (v := 24) dX10_trace_13 rfl ?_
      refine xr_icmp_ge (tgt := 27) dX10_trace_15 rfl (fun c3 => ?_) (fun c3 => ?_)
      · refine xr_iconst (v := -1) dX10_trace_27 rfl ?_
        exact xr_iret dX10_trace_28 rfl rfl (⟨_, rfl, rfl, rfl, rfl, trivial⟩)
      · obtain ⟨i_, hi_, rfl⟩ := x_natle (v := i) (N := 23) (K := 23) (by decide) (by decide) ⟨by grind, by grind⟩
        refine xr_aload_n dX10_trace_18 0 rfl ?_
        refine xr_getR flX10_72 dX10_trace_19 s_62 rfl ?_
        refine xr_iload_n dX10_trace_22 1 rfl ?_
        refine xb_iald (j := i_) (v := M 82 i_) dX10_trace_23 s_82 (by omega) (by decide) rfl ?_
        refine xr_goto (tgt := 28) dX10_trace_24 rfl ?_
        exact xr_iret dX10_trace_28 rfl rfl (⟨_, rfl, rfl, rfl, rfl, trivial⟩)
set_option maxRecDepth 100000 in
set_option maxHeartbeats 4000000 in
theorem g_X10_shift (d i t j nn : Int32) {l : Launch} {G : xG} {M : xM} {J : xJ} (hI : InvR M) : x_M l G fX10_shift 2 0 0 [.ref (62), .int (d), .int (i), .int (t), .int (j), .int (nn)] x_SH M J (qJE WRH (fun p => p = 85 ∨ p = 86) M J (fun r M2 J2 => InvR M2 ∧ True)) := by
  refine xb_of pX10 (Nat.le_of_ble_eq_true rfl) rfl ?_
  obtain ⟨⟨hn, h_hn, e_hn, hw⟩, hbt, ⟨un, wn, h_uw, h_wn, e_un, e_wn⟩, hch, ⟨n, h_n, e_n⟩, htx, ⟨b, h_b, e_b⟩, hkd, ⟨ra, h_ra, e_ra⟩, hsl, ⟨ic, h_ic, e_ic⟩, hS⟩ := hI
  have hsl9 := hsl
  refine xr_iload_n dX10_shift_0 1 rfl ?_
  refine xb_cS (As := [.int (d)]) (rest := []) mlX10_125 (c_X10_isShelf d) dX10_shift_1 rfl rfl (Nat.le_of_ble_eq_true rfl) (by decide) (by decide) ?_
  refine xb_beq (tgt := 14) dX10_shift_4 rfl (fun c1 => ?_) (fun c1 => ?_)
  · refine xr_iconst (v := -1) dX10_shift_14 rfl ?_
    exact xr_iret dX10_shift_15 rfl rfl (⟨_, rfl, rfl, (fun _ _ => rfl), Ke.rf, ⟨⟨hn, by omega, e_hn, (fun kw hkw => by rw [show M 63 (5 + kw) = M 63 (5 + kw) from rfl]; exact hw kw hkw)⟩, (by rw [show M 63 16 = M 63 16 from rfl]; exact hbt), ⟨un, wn, by omega, by omega, e_un, e_wn⟩, (fun kk hkk => by rw [show M 64 kk = M 64 kk from rfl, show M 65 kk = M 65 kk from rfl, show M 66 kk = M 66 kk from rfl]; exact hch kk hkk), ⟨n, by omega, e_n⟩, (by rw [show M 62 13 = M 62 13 from rfl]; exact htx), ⟨b, by omega, e_b⟩, (fun j hj => by obtain ⟨q, hq, eq⟩ := hkd j hj; exact ⟨q, hq, (show M 81 j = M 81 j from rfl).trans eq⟩), ⟨ra, by omega, e_ra⟩, (fun j hj => by rw [show M 83 j = M 83 j from rfl, show M 84 j = M 84 j from rfl]; exact hsl j hj), ⟨ic, by omega, e_ic⟩, (fun j hj => by obtain ⟨q, hq, eq⟩ := hS j hj; exact ⟨q, hq, (show M 75 j = M 75 j from rfl).trans eq⟩)⟩, trivial⟩)
  · obtain ⟨d_, hd_, rfl⟩ := x_natle (N := 5) (by decide) rfl c1
    replace hd_ := Nat.lt_succ_of_le hd_
    refine xr_iload_n dX10_shift_7 3 rfl ?_
    refine xb_cS (As := [.int (t)]) (rest := []) mlX10_125 (c_X10_isShelf t) dX10_shift_8 rfl rfl (Nat.le_of_ble_eq_true rfl) (by decide) (by decide) ?_
    refine xb_bne (tgt := 16) dX10_shift_11 rfl (fun c2 => ?_) (fun c2 => ?_)
    · obtain ⟨t_, ht_, rfl⟩ := x_natle (N := 5) (by decide) rfl c2
      replace ht_ := Nat.lt_succ_of_le ht_
      refine xr_aload_n dX10_shift_16 0 rfl ?_
      refine xr_getR flX10_75 dX10_shift_17 s_62 rfl ?_
      refine xr_iload_n dX10_shift_20 1 rfl ?_
      refine xb_iald (j := d_) (v := M 83 d_) dX10_shift_21 s_83 hd_ (by decide) rfl ?_
      refine xr_if_lt (tgt := 34) dX10_shift_22 rfl (fun c3 => ?_) (fun c3 => ?_)
      · refine xr_bipush (v := -11) dX10_shift_34 rfl ?_
        exact xr_iret dX10_shift_36 rfl rfl (⟨_, rfl, rfl, (fun _ _ => rfl), Ke.rf, ⟨⟨hn, by omega, e_hn, (fun kw hkw => by rw [show M 63 (5 + kw) = M 63 (5 + kw) from rfl]; exact hw kw hkw)⟩, (by rw [show M 63 16 = M 63 16 from rfl]; exact hbt), ⟨un, wn, by omega, by omega, e_un, e_wn⟩, (fun kk hkk => by rw [show M 64 kk = M 64 kk from rfl, show M 65 kk = M 65 kk from rfl, show M 66 kk = M 66 kk from rfl]; exact hch kk hkk), ⟨n, by omega, e_n⟩, (by rw [show M 62 13 = M 62 13 from rfl]; exact htx), ⟨b, by omega, e_b⟩, (fun j hj => by obtain ⟨q, hq, eq⟩ := hkd j hj; exact ⟨q, hq, (show M 81 j = M 81 j from rfl).trans eq⟩), ⟨ra, by omega, e_ra⟩, (fun j hj => by rw [show M 83 j = M 83 j from rfl, show M 84 j = M 84 j from rfl]; exact hsl j hj), ⟨ic, by omega, e_ic⟩, (fun j hj => by obtain ⟨q, hq, eq⟩ := hS j hj; exact ⟨q, hq, (show M 75 j = M 75 j from rfl).trans eq⟩)⟩, trivial⟩)
      · refine xr_aload_n dX10_shift_25 0 rfl ?_
        refine xr_getR flX10_75 dX10_shift_26 s_62 rfl ?_
        refine xr_iload_n dX10_shift_29 3 rfl ?_
        refine xb_iald (j := t_) (v := M 83 t_) dX10_shift_30 s_83 ht_ (by decide) rfl ?_
        refine xr_if_ge (tgt := 37) dX10_shift_31 rfl (fun c4 => ?_) (fun c4 => ?_)
        · refine xr_aload_n dX10_shift_37 0 rfl ?_
          refine xr_getR flX10_75 dX10_shift_38 s_62 rfl ?_
          refine xr_iload_n dX10_shift_41 1 rfl ?_
          refine xb_iald (j := d_) (v := M 83 d_) dX10_shift_42 s_83 hd_ (by decide) rfl ?_
          refine xr_bipush (v := 50) dX10_shift_43 rfl ?_
          refine xr_icmp_lt (tgt := 63) dX10_shift_45 rfl (fun c5 => ?_) (fun c5 => ?_)
          · refine xr_bipush (v := -12) dX10_shift_63 rfl ?_
            exact xr_iret dX10_shift_65 rfl rfl (⟨_, rfl, rfl, (fun _ _ => rfl), Ke.rf, ⟨⟨hn, by omega, e_hn, (fun kw hkw => by rw [show M 63 (5 + kw) = M 63 (5 + kw) from rfl]; exact hw kw hkw)⟩, (by rw [show M 63 16 = M 63 16 from rfl]; exact hbt), ⟨un, wn, by omega, by omega, e_un, e_wn⟩, (fun kk hkk => by rw [show M 64 kk = M 64 kk from rfl, show M 65 kk = M 65 kk from rfl, show M 66 kk = M 66 kk from rfl]; exact hch kk hkk), ⟨n, by omega, e_n⟩, (by rw [show M 62 13 = M 62 13 from rfl]; exact htx), ⟨b, by omega, e_b⟩, (fun j hj => by obtain ⟨q, hq, eq⟩ := hkd j hj; exact ⟨q, hq, (show M 81 j = M 81 j from rfl).trans eq⟩), ⟨ra, by omega, e_ra⟩, (fun j hj => by rw [show M 83 j = M 83 j from rfl, show M 84 j = M 84 j from rfl]; exact hsl j hj), ⟨ic, by omega, e_ic⟩, (fun j hj => by obtain ⟨q, hq, eq⟩ := hS j hj; exact ⟨q, hq, (show M 75 j = M 75 j from rfl).trans eq⟩)⟩, trivial⟩)
          · refine xr_aload_n dX10_shift_48 0 rfl ?_
            refine xr_getR flX10_75 dX10_shift_49 s_62 rfl ?_
            refine xr_iload_n dX10_shift_52 1 rfl ?_
            refine xb_iald (j := d_) (v := M 83 d_) dX10_shift_53 s_83 hd_ (by decide) rfl ?_
            refine xr_aload_n dX10_shift_54 0 rfl ?_
            refine xr_getR flX10_75 dX10_shift_55 s_62 rfl ?_
            refine xr_iload_n dX10_shift_58 3 rfl ?_
            refine xb_iald (j := t_) (v := M 83 t_) dX10_shift_59 s_83 ht_ (by decide) rfl ?_
            refine xr_icmp_eq (tgt := 66) dX10_shift_60 rfl (fun c6 => ?_) (fun c6 => ?_)
            · refine xr_iload dX10_shift_66 5 rfl ?_
              refine xr_if_lt (tgt := 107) dX10_shift_68 rfl (fun c7 => ?_) (fun c7 => ?_)
              · refine xr_bipush (v := -13) dX10_shift_107 rfl ?_
                exact xr_iret dX10_shift_109 rfl rfl (⟨_, rfl, rfl, (fun _ _ => rfl), Ke.rf, ⟨⟨hn, by omega, e_hn, (fun kw hkw => by rw [show M 63 (5 + kw) = M 63 (5 + kw) from rfl]; exact hw kw hkw)⟩, (by rw [show M 63 16 = M 63 16 from rfl]; exact hbt), ⟨un, wn, by omega, by omega, e_un, e_wn⟩, (fun kk hkk => by rw [show M 64 kk = M 64 kk from rfl, show M 65 kk = M 65 kk from rfl, show M 66 kk = M 66 kk from rfl]; exact hch kk hkk), ⟨n, by omega, e_n⟩, (by rw [show M 62 13 = M 62 13 from rfl]; exact htx), ⟨b, by omega, e_b⟩, (fun j hj => by obtain ⟨q, hq, eq⟩ := hkd j hj; exact ⟨q, hq, (show M 81 j = M 81 j from rfl).trans eq⟩), ⟨ra, by omega, e_ra⟩, (fun j hj => by rw [show M 83 j = M 83 j from rfl, show M 84 j = M 84 j from rfl]; exact hsl j hj), ⟨ic, by omega, e_ic⟩, (fun j hj => by obtain ⟨q, hq, eq⟩ := hS j hj; exact ⟨q, hq, (show M 75 j = M 75 j from rfl).trans eq⟩)⟩, trivial⟩)
              · refine xr_iload_n dX10_shift_71 2 rfl ?_
                refine xr_if_lt (tgt := 107) dX10_shift_72 rfl (fun c8 => ?_) (fun c8 => ?_)
                · refine xr_bipush (v := -13) dX10_shift_107 rfl ?_
                  exact xr_iret dX10_shift_109 rfl rfl (⟨_, rfl, rfl, (fun _ _ => rfl), Ke.rf, ⟨⟨hn, by omega, e_hn, (fun kw hkw => by rw [show M 63 (5 + kw) = M 63 (5 + kw) from rfl]; exact hw kw hkw)⟩, (by rw [show M 63 16 = M 63 16 from rfl]; exact hbt), ⟨un, wn, by omega, by omega, e_un, e_wn⟩, (fun kk hkk => by rw [show M 64 kk = M 64 kk from rfl, show M 65 kk = M 65 kk from rfl, show M 66 kk = M 66 kk from rfl]; exact hch kk hkk), ⟨n, by omega, e_n⟩, (by rw [show M 62 13 = M 62 13 from rfl]; exact htx), ⟨b, by omega, e_b⟩, (fun j hj => by obtain ⟨q, hq, eq⟩ := hkd j hj; exact ⟨q, hq, (show M 81 j = M 81 j from rfl).trans eq⟩), ⟨ra, by omega, e_ra⟩, (fun j hj => by rw [show M 83 j = M 83 j from rfl, show M 84 j = M 84 j from rfl]; exact hsl j hj), ⟨ic, by omega, e_ic⟩, (fun j hj => by obtain ⟨q, hq, eq⟩ := hS j hj; exact ⟨q, hq, (show M 75 j = M 75 j from rfl).trans eq⟩)⟩, trivial⟩)
                · refine xr_iload dX10_shift_75 4 rfl ?_
                  refine xr_if_lt (tgt := 107) dX10_shift_77 rfl (fun c9 => ?_) (fun c9 => ?_)
                  · refine xr_bipush (v := -13) dX10_shift_107 rfl ?_
                    exact xr_iret dX10_shift_109 rfl rfl (⟨_, rfl, rfl, (fun _ _ => rfl), Ke.rf, ⟨⟨hn, by omega, e_hn, (fun kw hkw => by rw [show M 63 (5 + kw) = M 63 (5 + kw) from rfl]; exact hw kw hkw)⟩, (by rw [show M 63 16 = M 63 16 from rfl]; exact hbt), ⟨un, wn, by omega, by omega, e_un, e_wn⟩, (fun kk hkk => by rw [show M 64 kk = M 64 kk from rfl, show M 65 kk = M 65 kk from rfl, show M 66 kk = M 66 kk from rfl]; exact hch kk hkk), ⟨n, by omega, e_n⟩, (by rw [show M 62 13 = M 62 13 from rfl]; exact htx), ⟨b, by omega, e_b⟩, (fun j hj => by obtain ⟨q, hq, eq⟩ := hkd j hj; exact ⟨q, hq, (show M 81 j = M 81 j from rfl).trans eq⟩), ⟨ra, by omega, e_ra⟩, (fun j hj => by rw [show M 83 j = M 83 j from rfl, show M 84 j = M 84 j from rfl]; exact hsl j hj), ⟨ic, by omega, e_ic⟩, (fun j hj => by obtain ⟨q, hq, eq⟩ := hS j hj; exact ⟨q, hq, (show M 75 j = M 75 j from rfl).trans eq⟩)⟩, trivial⟩)
                  · refine xr_iload_n dX10_shift_80 2 rfl ?_
                    refine xr_aload_n dX10_shift_81 0 rfl ?_
                    refine xr_getR flX10_78 dX10_shift_82 s_62 rfl ?_
                    refine xr_iload_n dX10_shift_85 1 rfl ?_
                    refine xb_iald (j := d_) (v := M 84 d_) dX10_shift_86 s_84 hd_ (by decide) rfl ?_
                    refine xr_iload dX10_shift_87 5 rfl ?_
                    refine xr_isub dX10_shift_89 ?_
                    refine xr_icmp_gt (tgt := 107) dX10_shift_90 rfl (fun c10 => ?_) (fun c10 => ?_)
                    · refine xr_bipush (v := -13) dX10_shift_107 rfl ?_
                      exact xr_iret dX10_shift_109 rfl rfl (⟨_, rfl, rfl, (fun _ _ => rfl), Ke.rf, ⟨⟨hn, by omega, e_hn, (fun kw hkw => by rw [show M 63 (5 + kw) = M 63 (5 + kw) from rfl]; exact hw kw hkw)⟩, (by rw [show M 63 16 = M 63 16 from rfl]; exact hbt), ⟨un, wn, by omega, by omega, e_un, e_wn⟩, (fun kk hkk => by rw [show M 64 kk = M 64 kk from rfl, show M 65 kk = M 65 kk from rfl, show M 66 kk = M 66 kk from rfl]; exact hch kk hkk), ⟨n, by omega, e_n⟩, (by rw [show M 62 13 = M 62 13 from rfl]; exact htx), ⟨b, by omega, e_b⟩, (fun j hj => by obtain ⟨q, hq, eq⟩ := hkd j hj; exact ⟨q, hq, (show M 81 j = M 81 j from rfl).trans eq⟩), ⟨ra, by omega, e_ra⟩, (fun j hj => by rw [show M 83 j = M 83 j from rfl, show M 84 j = M 84 j from rfl]; exact hsl j hj), ⟨ic, by omega, e_ic⟩, (fun j hj => by obtain ⟨q, hq, eq⟩ := hS j hj; exact ⟨q, hq, (show M 75 j = M 75 j from rfl).trans eq⟩)⟩, trivial⟩)
                    · refine xr_iload dX10_shift_93 4 rfl ?_
                      refine xr_aload_n dX10_shift_95 0 rfl ?_
                      refine xr_getR flX10_78 dX10_shift_96 s_62 rfl ?_
                      refine xr_iload_n dX10_shift_99 3 rfl ?_
                      refine xb_iald (j := t_) (v := M 84 t_) dX10_shift_100 s_84 ht_ (by decide) rfl ?_
                      refine xr_iload dX10_shift_101 5 rfl ?_
                      refine xr_isub dX10_shift_103 ?_
                      refine xr_icmp_le (tgt := 110) dX10_shift_104 rfl (fun c11 => ?_) (fun c11 => ?_)
                      · obtain ⟨-, nm, hnm, e_nm⟩ := hsl d_ hd_
                        obtain ⟨-, nn_, hnn, e_nn⟩ := hsl t_ ht_
                        obtain ⟨a, m1, ha1, rfl, rfl⟩ := rs_in hnm e_nm c7 c8 c10 (rs_n hnm e_nm c7 c8 c10)
                        obtain ⟨c, m2, hc1, rfl, hm2⟩ := rs_in hnn e_nn c7 c9 (Int32.not_lt.mpr c11) (rs_n hnn e_nn c7 c9 (Int32.not_lt.mpr c11))
                        have hm3 : m1 = m2 := (nI_eq (by omega) (by omega)).mp hm2
                        subst hm3
                        refine xr_iconst (v := 0) dX10_shift_110 rfl ?_
                        refine xr_istore (ls2 := [(6, .int (0)), (0, .ref (62)), (1, .int (nI (d_))), (2, .int (nI (a))), (3, .int (nI (t_))), (4, .int (nI (c))), (5, .int (nI (m1)))]) dX10_shift_111 (by decide) rfl ?_
                        refine xb_ls (ls2 := [(6, .int (nI (0))), (5, .int (nI (m1))), (4, .int (nI (c))), (3, .int (nI (t_))), (2, .int (nI (a))), (1, .int (nI (d_))), (0, .ref (62))]) [0, 6, 5, 4, 3, 2, 1] rfl ?_
                        refine rsh_a hd_ ht_ (by omega) (by omega) (fun J8 hJ8 hZ8 => ?_) m1 0 J (by omega) (fun _ _ => rfl) (fun j hj => absurd hj (by omega))
                        refine xr_iconst (v := 0) dX10_shift_147 rfl ?_
                        refine xr_istore (ls2 := [(6, .int (0)), (5, .int (nI (m1))), (4, .int (nI (c))), (3, .int (nI (t_))), (2, .int (nI (a))), (1, .int (nI (d_))), (0, .ref (62))]) dX10_shift_148 (by decide) rfl ?_
                        refine xb_ls (ls2 := [(6, .int (nI (0))), (5, .int (nI (m1))), (4, .int (nI (c))), (3, .int (nI (t_))), (2, .int (nI (a))), (1, .int (nI (d_))), (0, .ref (62))]) [0, 1, 2, 3, 4, 5, 6] rfl ?_
                        refine rsh_b hd_ ht_ (by omega) (by omega) (fun J9 hJ9 hZ9 => ?_) m1 0 J8 (by omega) (fun _ _ => rfl) (fun j => by rw [if_neg (by omega)])
                        refine xr_iload dX10_shift_185 0 rfl ?_
                        exact xr_iret dX10_shift_187 rfl rfl (⟨_, rfl, rfl, (fun p hp => (hJ9 p (fun q => hp (Or.inl q))).trans (hJ8 p (fun q => hp (Or.inr q)))), Ke.rf, ⟨⟨hn, by omega, e_hn, (fun kw hkw => by rw [show M 63 (5 + kw) = M 63 (5 + kw) from rfl]; exact hw kw hkw)⟩, (by rw [show M 63 16 = M 63 16 from rfl]; exact hbt), ⟨un, wn, by omega, by omega, e_un, e_wn⟩, (fun kk hkk => by rw [show M 64 kk = M 64 kk from rfl, show M 65 kk = M 65 kk from rfl, show M 66 kk = M 66 kk from rfl]; exact hch kk hkk), ⟨n, by omega, e_n⟩, (by rw [show M 62 13 = M 62 13 from rfl]; exact htx), ⟨b, by omega, e_b⟩, (fun j hj => by obtain ⟨q, hq, eq⟩ := hkd j hj; exact ⟨q, hq, (show M 81 j = M 81 j from rfl).trans eq⟩), ⟨ra, by omega, e_ra⟩, (fun j hj => by rw [show M 83 j = M 83 j from rfl, show M 84 j = M 84 j from rfl]; exact hsl j hj), ⟨ic, by omega, e_ic⟩, (fun j hj => by obtain ⟨q, hq, eq⟩ := hS j hj; exact ⟨q, hq, (show M 75 j = M 75 j from rfl).trans eq⟩)⟩, trivial⟩)
                      · refine xr_bipush (v := -13) dX10_shift_107 rfl ?_
                        exact xr_iret dX10_shift_109 rfl rfl (⟨_, rfl, rfl, (fun _ _ => rfl), Ke.rf, ⟨⟨hn, by omega, e_hn, (fun kw hkw => by rw [show M 63 (5 + kw) = M 63 (5 + kw) from rfl]; exact hw kw hkw)⟩, (by rw [show M 63 16 = M 63 16 from rfl]; exact hbt), ⟨un, wn, by omega, by omega, e_un, e_wn⟩, (fun kk hkk => by rw [show M 64 kk = M 64 kk from rfl, show M 65 kk = M 65 kk from rfl, show M 66 kk = M 66 kk from rfl]; exact hch kk hkk), ⟨n, by omega, e_n⟩, (by rw [show M 62 13 = M 62 13 from rfl]; exact htx), ⟨b, by omega, e_b⟩, (fun j hj => by obtain ⟨q, hq, eq⟩ := hkd j hj; exact ⟨q, hq, (show M 81 j = M 81 j from rfl).trans eq⟩), ⟨ra, by omega, e_ra⟩, (fun j hj => by rw [show M 83 j = M 83 j from rfl, show M 84 j = M 84 j from rfl]; exact hsl j hj), ⟨ic, by omega, e_ic⟩, (fun j hj => by obtain ⟨q, hq, eq⟩ := hS j hj; exact ⟨q, hq, (show M 75 j = M 75 j from rfl).trans eq⟩)⟩, trivial⟩)
            · refine xr_bipush (v := -12) dX10_shift_63 rfl ?_
              exact xr_iret dX10_shift_65 rfl rfl (⟨_, rfl, rfl, (fun _ _ => rfl), Ke.rf, ⟨⟨hn, by omega, e_hn, (fun kw hkw => by rw [show M 63 (5 + kw) = M 63 (5 + kw) from rfl]; exact hw kw hkw)⟩, (by rw [show M 63 16 = M 63 16 from rfl]; exact hbt), ⟨un, wn, by omega, by omega, e_un, e_wn⟩, (fun kk hkk => by rw [show M 64 kk = M 64 kk from rfl, show M 65 kk = M 65 kk from rfl, show M 66 kk = M 66 kk from rfl]; exact hch kk hkk), ⟨n, by omega, e_n⟩, (by rw [show M 62 13 = M 62 13 from rfl]; exact htx), ⟨b, by omega, e_b⟩, (fun j hj => by obtain ⟨q, hq, eq⟩ := hkd j hj; exact ⟨q, hq, (show M 81 j = M 81 j from rfl).trans eq⟩), ⟨ra, by omega, e_ra⟩, (fun j hj => by rw [show M 83 j = M 83 j from rfl, show M 84 j = M 84 j from rfl]; exact hsl j hj), ⟨ic, by omega, e_ic⟩, (fun j hj => by obtain ⟨q, hq, eq⟩ := hS j hj; exact ⟨q, hq, (show M 75 j = M 75 j from rfl).trans eq⟩)⟩, trivial⟩)
        · refine xr_bipush (v := -11) dX10_shift_34 rfl ?_
          exact xr_iret dX10_shift_36 rfl rfl (⟨_, rfl, rfl, (fun _ _ => rfl), Ke.rf, ⟨⟨hn, by omega, e_hn, (fun kw hkw => by rw [show M 63 (5 + kw) = M 63 (5 + kw) from rfl]; exact hw kw hkw)⟩, (by rw [show M 63 16 = M 63 16 from rfl]; exact hbt), ⟨un, wn, by omega, by omega, e_un, e_wn⟩, (fun kk hkk => by rw [show M 64 kk = M 64 kk from rfl, show M 65 kk = M 65 kk from rfl, show M 66 kk = M 66 kk from rfl]; exact hch kk hkk), ⟨n, by omega, e_n⟩, (by rw [show M 62 13 = M 62 13 from rfl]; exact htx), ⟨b, by omega, e_b⟩, (fun j hj => by obtain ⟨q, hq, eq⟩ := hkd j hj; exact ⟨q, hq, (show M 81 j = M 81 j from rfl).trans eq⟩), ⟨ra, by omega, e_ra⟩, (fun j hj => by rw [show M 83 j = M 83 j from rfl, show M 84 j = M 84 j from rfl]; exact hsl j hj), ⟨ic, by omega, e_ic⟩, (fun j hj => by obtain ⟨q, hq, eq⟩ := hS j hj; exact ⟨q, hq, (show M 75 j = M 75 j from rfl).trans eq⟩)⟩, trivial⟩)
    · refine xr_iconst (v := -1) dX10_shift_14 rfl ?_
      exact xr_iret dX10_shift_15 rfl rfl (⟨_, rfl, rfl, (fun _ _ => rfl), Ke.rf, ⟨⟨hn, by omega, e_hn, (fun kw hkw => by rw [show M 63 (5 + kw) = M 63 (5 + kw) from rfl]; exact hw kw hkw)⟩, (by rw [show M 63 16 = M 63 16 from rfl]; exact hbt), ⟨un, wn, by omega, by omega, e_un, e_wn⟩, (fun kk hkk => by rw [show M 64 kk = M 64 kk from rfl, show M 65 kk = M 65 kk from rfl, show M 66 kk = M 66 kk from rfl]; exact hch kk hkk), ⟨n, by omega, e_n⟩, (by rw [show M 62 13 = M 62 13 from rfl]; exact htx), ⟨b, by omega, e_b⟩, (fun j hj => by obtain ⟨q, hq, eq⟩ := hkd j hj; exact ⟨q, hq, (show M 81 j = M 81 j from rfl).trans eq⟩), ⟨ra, by omega, e_ra⟩, (fun j hj => by rw [show M 83 j = M 83 j from rfl, show M 84 j = M 84 j from rfl]; exact hsl j hj), ⟨ic, by omega, e_ic⟩, (fun j hj => by obtain ⟨q, hq, eq⟩ := hS j hj; exact ⟨q, hq, (show M 75 j = M 75 j from rfl).trans eq⟩)⟩, trivial⟩)
set_option maxRecDepth 100000 in
set_option maxHeartbeats 4000000 in
theorem g_X10_taken (d k : Int32) {l : Launch} {G : xG} {M : xM} {J : xJ} (hI : InvR M) : x_M l G fX10_taken 2 0 0 [.ref (62), .int (d), .int (k)] x_SH M J (qPI M J (fun r => True)) := by
  refine xb_of pX10 (Nat.le_of_ble_eq_true rfl) rfl ?_
  obtain ⟨⟨hn, h_hn, e_hn, hw⟩, hbt, ⟨un, wn, h_uw, h_wn, e_un, e_wn⟩, hch, ⟨n, h_n, e_n⟩, htx, ⟨b, h_b, e_b⟩, hkd, ⟨ra, h_ra, e_ra⟩, hsl, ⟨ic, h_ic, e_ic⟩, hS⟩ := hI
  refine xr_iload_n dX10_taken_0 1 rfl ?_
  refine xb_cS (As := [.int (d)]) (rest := []) mlX10_125 (c_X10_isShelf d) dX10_taken_1 rfl rfl (Nat.le_of_ble_eq_true rfl) (by decide) (by decide) ?_
  refine xb_beq (tgt := 19) dX10_taken_4 rfl (fun c1 => ?_) (fun c1 => ?_)
  · refine xr_iconst (v := -1) dX10_taken_19 rfl ?_
    exact xr_iret dX10_taken_20 rfl rfl (⟨_, rfl, rfl, rfl, rfl, trivial⟩)
  · obtain ⟨d_, hd_, rfl⟩ := x_natle (N := 5) (by decide) rfl c1
    replace hd_ := Nat.lt_succ_of_le hd_
    refine xr_iload_n dX10_taken_7 2 rfl ?_
    refine xr_i2l dX10_taken_8 ?_
    refine xr_lconst (v := 0) dX10_taken_9 rfl ?_
    refine xr_ldc2 coX10_143 dX10_taken_10 ?_
    refine xb_cS (As := [.long ((k).toInt64), .long (0), .long (7)]) (rest := []) mlX10_101 (c_within32 (k) (0) (7) (by decide) (by decide)) dX10_taken_13 rfl rfl (Nat.le_of_ble_eq_true rfl) (by decide) (by decide) ?_
    refine xb_bne (tgt := 21) dX10_taken_16 rfl (fun c2 => ?_) (fun c2 => ?_)
    · refine xr_aload_n dX10_taken_21 0 rfl ?_
      refine xr_getR flX10_75 dX10_taken_22 s_62 rfl ?_
      refine xr_iload_n dX10_taken_25 1 rfl ?_
      refine xb_iald (j := d_) (v := M 83 d_) dX10_taken_26 s_83 hd_ (by decide) rfl ?_
      refine xr_if_ge (tgt := 33) dX10_taken_27 rfl (fun c3 => ?_) (fun c3 => ?_)
      · refine xr_aload_n dX10_taken_33 0 rfl ?_
        refine xr_getR flX10_75 dX10_taken_34 s_62 rfl ?_
        refine xr_iload_n dX10_taken_37 1 rfl ?_
        refine xb_iald (j := d_) (v := M 83 d_) dX10_taken_38 s_83 hd_ (by decide) rfl ?_
        refine xr_bipush (v := 50) dX10_taken_39 rfl ?_
        refine xr_icmp_lt (tgt := 47) dX10_taken_41 rfl (fun c4 => ?_) (fun c4 => ?_)
        · obtain ⟨b_, hb_, eb_⟩ := x_natle (v := M 83 d_) (N := 49) (K := 49) (by decide) (by decide) ⟨by grind, by grind⟩
          obtain ⟨q9, hq9, eq9⟩ := hkd b_ (by omega)
          have hq8 : q9 = 0 ∨ q9 = 1 ∨ q9 = 2 ∨ q9 = 3 ∨ q9 = 4 ∨ q9 = 5 ∨ q9 = 6 ∨ q9 = 7 := by omega
          rcases hq8 with rfl | rfl | rfl | rfl | rfl | rfl | rfl | rfl
          · refine xr_aload_n dX10_taken_47 0 rfl ?_
            refine xr_aload_n dX10_taken_48 0 rfl ?_
            refine xr_getR flX10_75 dX10_taken_49 s_62 rfl ?_
            refine xr_iload_n dX10_taken_52 1 rfl ?_
            refine xb_iald (j := d_) (v := nI (b_)) dX10_taken_53 s_83 hd_ (by decide) eb_ ?_
            refine xb_cV (As := [.int (nI (b_))]) (rest := []) mlX10_371 (c_X10_kindOf (b := b_) (by omega) eq9) dX10_taken_54 s_62 rfl rfl (Nat.le_of_ble_eq_true rfl) (by decide) (by decide) ?_
            refine xr_istore_n (ls2 := [(3, .int (0)), (0, .ref (62)), (1, .int (nI (d_))), (2, .int (k))]) dX10_taken_57 (by decide) rfl ?_
            refine xr_iload_n dX10_taken_58 0 rfl ?_
            refine xr_iload_n dX10_taken_59 3 rfl ?_
            refine xr_icmp_eq (tgt := 75) dX10_taken_60 rfl (fun c5 => ?_) (fun c5 => ?_)
            · refine xr_iload_n dX10_taken_75 0 rfl ?_
              refine xr_iload_n dX10_taken_76 3 rfl ?_
              refine xr_icmp_ne (tgt := 93) dX10_taken_77 rfl (fun c6 => ?_) (fun c6 => ?_)
              · refine xr_bipush (v := -12) dX10_taken_93 rfl ?_
                exact xr_iret dX10_taken_95 rfl rfl (⟨_, rfl, rfl, rfl, rfl, trivial⟩)
              · refine xr_aload_n dX10_taken_80 1 rfl ?_
                refine xr_aload_n dX10_taken_81 1 rfl ?_
                refine xr_getR flX10_75 dX10_taken_82 s_62 rfl ?_
                refine xr_iload_n dX10_taken_85 2 rfl ?_
                refine xb_iald (j := d_) (v := nI (b_)) dX10_taken_86 s_83 hd_ (by decide) eb_ ?_
                refine xb_cV (As := [.int (nI (b_))]) (rest := []) mlX10_371 (c_X10_kindOf (b := b_) (by omega) eq9) dX10_taken_87 s_62 rfl rfl (Nat.le_of_ble_eq_true rfl) (by decide) (by decide) ?_
                refine xr_goto (tgt := 95) dX10_taken_90 rfl ?_
                exact xr_iret dX10_taken_95 rfl rfl (⟨_, rfl, rfl, rfl, rfl, trivial⟩)
            · refine xr_iload_n dX10_taken_63 0 rfl ?_
              refine xr_if_le (tgt := 75) dX10_taken_64 rfl (fun _ => ?_) (fun c => absurd (by decide) c)
              refine xr_iload_n dX10_taken_75 0 rfl ?_
              refine xr_iload_n dX10_taken_76 3 rfl ?_
              refine xr_icmp_ne (tgt := 93) dX10_taken_77 rfl (fun c7 => ?_) (fun c7 => ?_)
              · refine xr_bipush (v := -12) dX10_taken_93 rfl ?_
                exact xr_iret dX10_taken_95 rfl rfl (⟨_, rfl, rfl, rfl, rfl, trivial⟩)
              · refine xr_aload_n dX10_taken_80 1 rfl ?_
                refine xr_aload_n dX10_taken_81 1 rfl ?_
                refine xr_getR flX10_75 dX10_taken_82 s_62 rfl ?_
                refine xr_iload_n dX10_taken_85 2 rfl ?_
                refine xb_iald (j := d_) (v := nI (b_)) dX10_taken_86 s_83 hd_ (by decide) eb_ ?_
                refine xb_cV (As := [.int (nI (b_))]) (rest := []) mlX10_371 (c_X10_kindOf (b := b_) (by omega) eq9) dX10_taken_87 s_62 rfl rfl (Nat.le_of_ble_eq_true rfl) (by decide) (by decide) ?_
                refine xr_goto (tgt := 95) dX10_taken_90 rfl ?_
                exact xr_iret dX10_taken_95 rfl rfl (⟨_, rfl, rfl, rfl, rfl, trivial⟩)
          · refine xr_aload_n dX10_taken_47 0 rfl ?_
            refine xr_aload_n dX10_taken_48 0 rfl ?_
            refine xr_getR flX10_75 dX10_taken_49 s_62 rfl ?_
            refine xr_iload_n dX10_taken_52 1 rfl ?_
            refine xb_iald (j := d_) (v := nI (b_)) dX10_taken_53 s_83 hd_ (by decide) eb_ ?_
            refine xb_cV (As := [.int (nI (b_))]) (rest := []) mlX10_371 (c_X10_kindOf (b := b_) (by omega) eq9) dX10_taken_54 s_62 rfl rfl (Nat.le_of_ble_eq_true rfl) (by decide) (by decide) ?_
            refine xr_istore_n (ls2 := [(3, .int (1)), (0, .ref (62)), (1, .int (nI (d_))), (2, .int (k))]) dX10_taken_57 (by decide) rfl ?_
            refine xr_iload_n dX10_taken_58 0 rfl ?_
            refine xr_iload_n dX10_taken_59 3 rfl ?_
            refine xr_icmp_eq (tgt := 75) dX10_taken_60 rfl (fun c8 => ?_) (fun c8 => ?_)
            · refine xr_iload_n dX10_taken_75 0 rfl ?_
              refine xr_iload_n dX10_taken_76 3 rfl ?_
              refine xr_icmp_ne (tgt := 93) dX10_taken_77 rfl (fun c9 => ?_) (fun c9 => ?_)
              · refine xr_bipush (v := -12) dX10_taken_93 rfl ?_
                exact xr_iret dX10_taken_95 rfl rfl (⟨_, rfl, rfl, rfl, rfl, trivial⟩)
              · refine xr_aload_n dX10_taken_80 1 rfl ?_
                refine xr_aload_n dX10_taken_81 1 rfl ?_
                refine xr_getR flX10_75 dX10_taken_82 s_62 rfl ?_
                refine xr_iload_n dX10_taken_85 2 rfl ?_
                refine xb_iald (j := d_) (v := nI (b_)) dX10_taken_86 s_83 hd_ (by decide) eb_ ?_
                refine xb_cV (As := [.int (nI (b_))]) (rest := []) mlX10_371 (c_X10_kindOf (b := b_) (by omega) eq9) dX10_taken_87 s_62 rfl rfl (Nat.le_of_ble_eq_true rfl) (by decide) (by decide) ?_
                refine xr_goto (tgt := 95) dX10_taken_90 rfl ?_
                exact xr_iret dX10_taken_95 rfl rfl (⟨_, rfl, rfl, rfl, rfl, trivial⟩)
            · refine xr_iload_n dX10_taken_63 0 rfl ?_
              refine xr_if_le (tgt := 75) dX10_taken_64 rfl (fun c => absurd c (by decide)) (fun _ => ?_)
              refine xr_iload_n dX10_taken_67 0 rfl ?_
              refine xb_cS (As := [.int (1)]) (rest := []) mlX10_374 (c_X10_above_1) dX10_taken_68 rfl rfl (Nat.le_of_ble_eq_true rfl) (by decide) (by decide) ?_
              refine xr_istore_n (ls2 := [(3, .int (0)), (0, .ref (62)), (1, .int (nI (d_))), (2, .int (k))]) dX10_taken_71 (by decide) rfl ?_
              refine xr_goto (tgt := 58) dX10_taken_72 rfl ?_
              refine xr_iload_n dX10_taken_58 0 rfl ?_
              refine xr_iload_n dX10_taken_59 3 rfl ?_
              refine xr_icmp_eq (tgt := 75) dX10_taken_60 rfl (fun c10 => ?_) (fun c10 => ?_)
              · refine xr_iload_n dX10_taken_75 0 rfl ?_
                refine xr_iload_n dX10_taken_76 3 rfl ?_
                refine xr_icmp_ne (tgt := 93) dX10_taken_77 rfl (fun c11 => ?_) (fun c11 => ?_)
                · refine xr_bipush (v := -12) dX10_taken_93 rfl ?_
                  exact xr_iret dX10_taken_95 rfl rfl (⟨_, rfl, rfl, rfl, rfl, trivial⟩)
                · refine xr_aload_n dX10_taken_80 1 rfl ?_
                  refine xr_aload_n dX10_taken_81 1 rfl ?_
                  refine xr_getR flX10_75 dX10_taken_82 s_62 rfl ?_
                  refine xr_iload_n dX10_taken_85 2 rfl ?_
                  refine xb_iald (j := d_) (v := nI (b_)) dX10_taken_86 s_83 hd_ (by decide) eb_ ?_
                  refine xb_cV (As := [.int (nI (b_))]) (rest := []) mlX10_371 (c_X10_kindOf (b := b_) (by omega) eq9) dX10_taken_87 s_62 rfl rfl (Nat.le_of_ble_eq_true rfl) (by decide) (by decide) ?_
                  refine xr_goto (tgt := 95) dX10_taken_90 rfl ?_
                  exact xr_iret dX10_taken_95 rfl rfl (⟨_, rfl, rfl, rfl, rfl, trivial⟩)
              · refine xr_iload_n dX10_taken_63 0 rfl ?_
                refine xr_if_le (tgt := 75) dX10_taken_64 rfl (fun _ => ?_) (fun c => absurd (by decide) c)
                refine xr_iload_n dX10_taken_75 0 rfl ?_
                refine xr_iload_n dX10_taken_76 3 rfl ?_
                refine xr_icmp_ne (tgt := 93) dX10_taken_77 rfl (fun c12 => ?_) (fun c12 => ?_)
                · refine xr_bipush (v := -12) dX10_taken_93 rfl ?_
                  exact xr_iret dX10_taken_95 rfl rfl (⟨_, rfl, rfl, rfl, rfl, trivial⟩)
                · refine xr_aload_n dX10_taken_80 1 rfl ?_
                  refine xr_aload_n dX10_taken_81 1 rfl ?_
                  refine xr_getR flX10_75 dX10_taken_82 s_62 rfl ?_
                  refine xr_iload_n dX10_taken_85 2 rfl ?_
                  refine xb_iald (j := d_) (v := nI (b_)) dX10_taken_86 s_83 hd_ (by decide) eb_ ?_
                  refine xb_cV (As := [.int (nI (b_))]) (rest := []) mlX10_371 (c_X10_kindOf (b := b_) (by omega) eq9) dX10_taken_87 s_62 rfl rfl (Nat.le_of_ble_eq_true rfl) (by decide) (by decide) ?_
                  refine xr_goto (tgt := 95) dX10_taken_90 rfl ?_
                  exact xr_iret dX10_taken_95 rfl rfl (⟨_, rfl, rfl, rfl, rfl, trivial⟩)
          · refine xr_aload_n dX10_taken_47 0 rfl ?_
            refine xr_aload_n dX10_taken_48 0 rfl ?_
            refine xr_getR flX10_75 dX10_taken_49 s_62 rfl ?_
            refine xr_iload_n dX10_taken_52 1 rfl ?_
            refine xb_iald (j := d_) (v := nI (b_)) dX10_taken_53 s_83 hd_ (by decide) eb_ ?_
            refine xb_cV (As := [.int (nI (b_))]) (rest := []) mlX10_371 (c_X10_kindOf (b := b_) (by omega) eq9) dX10_taken_54 s_62 rfl rfl (Nat.le_of_ble_eq_true rfl) (by decide) (by decide) ?_
            refine xr_istore_n (ls2 := [(3, .int (2)), (0, .ref (62)), (1, .int (nI (d_))), (2, .int (k))]) dX10_taken_57 (by decide) rfl ?_
            refine xr_iload_n dX10_taken_58 0 rfl ?_
            refine xr_iload_n dX10_taken_59 3 rfl ?_
            refine xr_icmp_eq (tgt := 75) dX10_taken_60 rfl (fun c13 => ?_) (fun c13 => ?_)
            · refine xr_iload_n dX10_taken_75 0 rfl ?_
              refine xr_iload_n dX10_taken_76 3 rfl ?_
              refine xr_icmp_ne (tgt := 93) dX10_taken_77 rfl (fun c14 => ?_) (fun c14 => ?_)
              · refine xr_bipush (v := -12) dX10_taken_93 rfl ?_
                exact xr_iret dX10_taken_95 rfl rfl (⟨_, rfl, rfl, rfl, rfl, trivial⟩)
              · refine xr_aload_n dX10_taken_80 1 rfl ?_
                refine xr_aload_n dX10_taken_81 1 rfl ?_
                refine xr_getR flX10_75 dX10_taken_82 s_62 rfl ?_
                refine xr_iload_n dX10_taken_85 2 rfl ?_
                refine xb_iald (j := d_) (v := nI (b_)) dX10_taken_86 s_83 hd_ (by decide) eb_ ?_
                refine xb_cV (As := [.int (nI (b_))]) (rest := []) mlX10_371 (c_X10_kindOf (b := b_) (by omega) eq9) dX10_taken_87 s_62 rfl rfl (Nat.le_of_ble_eq_true rfl) (by decide) (by decide) ?_
                refine xr_goto (tgt := 95) dX10_taken_90 rfl ?_
                exact xr_iret dX10_taken_95 rfl rfl (⟨_, rfl, rfl, rfl, rfl, trivial⟩)
            · refine xr_iload_n dX10_taken_63 0 rfl ?_
              refine xr_if_le (tgt := 75) dX10_taken_64 rfl (fun c => absurd c (by decide)) (fun _ => ?_)
              refine xr_iload_n dX10_taken_67 0 rfl ?_
              refine xb_cS (As := [.int (2)]) (rest := []) mlX10_374 (c_X10_above_2) dX10_taken_68 rfl rfl (Nat.le_of_ble_eq_true rfl) (by decide) (by decide) ?_
              refine xr_istore_n (ls2 := [(3, .int (0)), (0, .ref (62)), (1, .int (nI (d_))), (2, .int (k))]) dX10_taken_71 (by decide) rfl ?_
              refine xr_goto (tgt := 58) dX10_taken_72 rfl ?_
              refine xr_iload_n dX10_taken_58 0 rfl ?_
              refine xr_iload_n dX10_taken_59 3 rfl ?_
              refine xr_icmp_eq (tgt := 75) dX10_taken_60 rfl (fun c15 => ?_) (fun c15 => ?_)
              · refine xr_iload_n dX10_taken_75 0 rfl ?_
                refine xr_iload_n dX10_taken_76 3 rfl ?_
                refine xr_icmp_ne (tgt := 93) dX10_taken_77 rfl (fun c16 => ?_) (fun c16 => ?_)
                · refine xr_bipush (v := -12) dX10_taken_93 rfl ?_
                  exact xr_iret dX10_taken_95 rfl rfl (⟨_, rfl, rfl, rfl, rfl, trivial⟩)
                · refine xr_aload_n dX10_taken_80 1 rfl ?_
                  refine xr_aload_n dX10_taken_81 1 rfl ?_
                  refine xr_getR flX10_75 dX10_taken_82 s_62 rfl ?_
                  refine xr_iload_n dX10_taken_85 2 rfl ?_
                  refine xb_iald (j := d_) (v := nI (b_)) dX10_taken_86 s_83 hd_ (by decide) eb_ ?_
                  refine xb_cV (As := [.int (nI (b_))]) (rest := []) mlX10_371 (c_X10_kindOf (b := b_) (by omega) eq9) dX10_taken_87 s_62 rfl rfl (Nat.le_of_ble_eq_true rfl) (by decide) (by decide) ?_
                  refine xr_goto (tgt := 95) dX10_taken_90 rfl ?_
                  exact xr_iret dX10_taken_95 rfl rfl (⟨_, rfl, rfl, rfl, rfl, trivial⟩)
              · refine xr_iload_n dX10_taken_63 0 rfl ?_
                refine xr_if_le (tgt := 75) dX10_taken_64 rfl (fun _ => ?_) (fun c => absurd (by decide) c)
                refine xr_iload_n dX10_taken_75 0 rfl ?_
                refine xr_iload_n dX10_taken_76 3 rfl ?_
                refine xr_icmp_ne (tgt := 93) dX10_taken_77 rfl (fun c17 => ?_) (fun c17 => ?_)
                · refine xr_bipush (v := -12) dX10_taken_93 rfl ?_
                  exact xr_iret dX10_taken_95 rfl rfl (⟨_, rfl, rfl, rfl, rfl, trivial⟩)
                · refine xr_aload_n dX10_taken_80 1 rfl ?_
                  refine xr_aload_n dX10_taken_81 1 rfl ?_
                  refine xr_getR flX10_75 dX10_taken_82 s_62 rfl ?_
                  refine xr_iload_n dX10_taken_85 2 rfl ?_
                  refine xb_iald (j := d_) (v := nI (b_)) dX10_taken_86 s_83 hd_ (by decide) eb_ ?_
                  refine xb_cV (As := [.int (nI (b_))]) (rest := []) mlX10_371 (c_X10_kindOf (b := b_) (by omega) eq9) dX10_taken_87 s_62 rfl rfl (Nat.le_of_ble_eq_true rfl) (by decide) (by decide) ?_
                  refine xr_goto (tgt := 95) dX10_taken_90 rfl ?_
                  exact xr_iret dX10_taken_95 rfl rfl (⟨_, rfl, rfl, rfl, rfl, trivial⟩)
          · refine xr_aload_n dX10_taken_47 0 rfl ?_
            refine xr_aload_n dX10_taken_48 0 rfl ?_
            refine xr_getR flX10_75 dX10_taken_49 s_62 rfl ?_
            refine xr_iload_n dX10_taken_52 1 rfl ?_
            refine xb_iald (j := d_) (v := nI (b_)) dX10_taken_53 s_83 hd_ (by decide) eb_ ?_
            refine xb_cV (As := [.int (nI (b_))]) (rest := []) mlX10_371 (c_X10_kindOf (b := b_) (by omega) eq9) dX10_taken_54 s_62 rfl rfl (Nat.le_of_ble_eq_true rfl) (by decide) (by decide) ?_
            refine xr_istore_n (ls2 := [(3, .int (3)), (0, .ref (62)), (1, .int (nI (d_))), (2, .int (k))]) dX10_taken_57 (by decide) rfl ?_
            refine xr_iload_n dX10_taken_58 0 rfl ?_
            refine xr_iload_n dX10_taken_59 3 rfl ?_
            refine xr_icmp_eq (tgt := 75) dX10_taken_60 rfl (fun c18 => ?_) (fun c18 => ?_)
            · refine xr_iload_n dX10_taken_75 0 rfl ?_
              refine xr_iload_n dX10_taken_76 3 rfl ?_
              refine xr_icmp_ne (tgt := 93) dX10_taken_77 rfl (fun c19 => ?_) (fun c19 => ?_)
              · refine xr_bipush (v := -12) dX10_taken_93 rfl ?_
                exact xr_iret dX10_taken_95 rfl rfl (⟨_, rfl, rfl, rfl, rfl, trivial⟩)
              · refine xr_aload_n dX10_taken_80 1 rfl ?_
                refine xr_aload_n dX10_taken_81 1 rfl ?_
                refine xr_getR flX10_75 dX10_taken_82 s_62 rfl ?_
                refine xr_iload_n dX10_taken_85 2 rfl ?_
                refine xb_iald (j := d_) (v := nI (b_)) dX10_taken_86 s_83 hd_ (by decide) eb_ ?_
                refine xb_cV (As := [.int (nI (b_))]) (rest := []) mlX10_371 (c_X10_kindOf (b := b_) (by omega) eq9) dX10_taken_87 s_62 rfl rfl (Nat.le_of_ble_eq_true rfl) (by decide) (by decide) ?_
                refine xr_goto (tgt := 95) dX10_taken_90 rfl ?_
                exact xr_iret dX10_taken_95 rfl rfl (⟨_, rfl, rfl, rfl, rfl, trivial⟩)
            · refine xr_iload_n dX10_taken_63 0 rfl ?_
              refine xr_if_le (tgt := 75) dX10_taken_64 rfl (fun c => absurd c (by decide)) (fun _ => ?_)
              refine xr_iload_n dX10_taken_67 0 rfl ?_
              refine xb_cS (As := [.int (3)]) (rest := []) mlX10_374 (c_X10_above_3) dX10_taken_68 rfl rfl (Nat.le_of_ble_eq_true rfl) (by decide) (by decide) ?_
              refine xr_istore_n (ls2 := [(3, .int (2)), (0, .ref (62)), (1, .int (nI (d_))), (2, .int (k))]) dX10_taken_71 (by decide) rfl ?_
              refine xr_goto (tgt := 58) dX10_taken_72 rfl ?_
              refine xr_iload_n dX10_taken_58 0 rfl ?_
              refine xr_iload_n dX10_taken_59 3 rfl ?_
              refine xr_icmp_eq (tgt := 75) dX10_taken_60 rfl (fun c20 => ?_) (fun c20 => ?_)
              · refine xr_iload_n dX10_taken_75 0 rfl ?_
                refine xr_iload_n dX10_taken_76 3 rfl ?_
                refine xr_icmp_ne (tgt := 93) dX10_taken_77 rfl (fun c21 => ?_) (fun c21 => ?_)
                · refine xr_bipush (v := -12) dX10_taken_93 rfl ?_
                  exact xr_iret dX10_taken_95 rfl rfl (⟨_, rfl, rfl, rfl, rfl, trivial⟩)
                · refine xr_aload_n dX10_taken_80 1 rfl ?_
                  refine xr_aload_n dX10_taken_81 1 rfl ?_
                  refine xr_getR flX10_75 dX10_taken_82 s_62 rfl ?_
                  refine xr_iload_n dX10_taken_85 2 rfl ?_
                  refine xb_iald (j := d_) (v := nI (b_)) dX10_taken_86 s_83 hd_ (by decide) eb_ ?_
                  refine xb_cV (As := [.int (nI (b_))]) (rest := []) mlX10_371 (c_X10_kindOf (b := b_) (by omega) eq9) dX10_taken_87 s_62 rfl rfl (Nat.le_of_ble_eq_true rfl) (by decide) (by decide) ?_
                  refine xr_goto (tgt := 95) dX10_taken_90 rfl ?_
                  exact xr_iret dX10_taken_95 rfl rfl (⟨_, rfl, rfl, rfl, rfl, trivial⟩)
              · refine xr_iload_n dX10_taken_63 0 rfl ?_
                refine xr_if_le (tgt := 75) dX10_taken_64 rfl (fun c => absurd c (by decide)) (fun _ => ?_)
                refine xr_iload_n dX10_taken_67 0 rfl ?_
                refine xb_cS (As := [.int (2)]) (rest := []) mlX10_374 (c_X10_above_2) dX10_taken_68 rfl rfl (Nat.le_of_ble_eq_true rfl) (by decide) (by decide) ?_
                refine xr_istore_n (ls2 := [(3, .int (0)), (0, .ref (62)), (1, .int (nI (d_))), (2, .int (k))]) dX10_taken_71 (by decide) rfl ?_
                refine xr_goto (tgt := 58) dX10_taken_72 rfl ?_
                refine xr_iload_n dX10_taken_58 0 rfl ?_
                refine xr_iload_n dX10_taken_59 3 rfl ?_
                refine xr_icmp_eq (tgt := 75) dX10_taken_60 rfl (fun c22 => ?_) (fun c22 => ?_)
                · refine xr_iload_n dX10_taken_75 0 rfl ?_
                  refine xr_iload_n dX10_taken_76 3 rfl ?_
                  refine xr_icmp_ne (tgt := 93) dX10_taken_77 rfl (fun c23 => ?_) (fun c23 => ?_)
                  · refine xr_bipush (v := -12) dX10_taken_93 rfl ?_
                    exact xr_iret dX10_taken_95 rfl rfl (⟨_, rfl, rfl, rfl, rfl, trivial⟩)
                  · refine xr_aload_n dX10_taken_80 1 rfl ?_
                    refine xr_aload_n dX10_taken_81 1 rfl ?_
                    refine xr_getR flX10_75 dX10_taken_82 s_62 rfl ?_
                    refine xr_iload_n dX10_taken_85 2 rfl ?_
                    refine xb_iald (j := d_) (v := nI (b_)) dX10_taken_86 s_83 hd_ (by decide) eb_ ?_
                    refine xb_cV (As := [.int (nI (b_))]) (rest := []) mlX10_371 (c_X10_kindOf (b := b_) (by omega) eq9) dX10_taken_87 s_62 rfl rfl (Nat.le_of_ble_eq_true rfl) (by decide) (by decide) ?_
                    refine xr_goto (tgt := 95) dX10_taken_90 rfl ?_
                    exact xr_iret dX10_taken_95 rfl rfl (⟨_, rfl, rfl, rfl, rfl, trivial⟩)
                · refine xr_iload_n dX10_taken_63 0 rfl ?_
                  refine xr_if_le (tgt := 75) dX10_taken_64 rfl (fun _ => ?_) (fun c => absurd (by decide) c)
                  refine xr_iload_n dX10_taken_75 0 rfl ?_
                  refine xr_iload_n dX10_taken_76 3 rfl ?_
                  refine xr_icmp_ne (tgt := 93) dX10_taken_77 rfl (fun c24 => ?_) (fun c24 => ?_)
                  · refine xr_bipush (v := -12) dX10_taken_93 rfl ?_
                    exact xr_iret dX10_taken_95 rfl rfl (⟨_, rfl, rfl, rfl, rfl, trivial⟩)
                  · refine xr_aload_n dX10_taken_80 1 rfl ?_
                    refine xr_aload_n dX10_taken_81 1 rfl ?_
                    refine xr_getR flX10_75 dX10_taken_82 s_62 rfl ?_
                    refine xr_iload_n dX10_taken_85 2 rfl ?_
                    refine xb_iald (j := d_) (v := nI (b_)) dX10_taken_86 s_83 hd_ (by decide) eb_ ?_
                    refine xb_cV (As := [.int (nI (b_))]) (rest := []) mlX10_371 (c_X10_kindOf (b := b_) (by omega) eq9) dX10_taken_87 s_62 rfl rfl (Nat.le_of_ble_eq_true rfl) (by decide) (by decide) ?_
                    refine xr_goto (tgt := 95) dX10_taken_90 rfl ?_
                    exact xr_iret dX10_taken_95 rfl rfl (⟨_, rfl, rfl, rfl, rfl, trivial⟩)
          · refine xr_aload_n dX10_taken_47 0 rfl ?_
            refine xr_aload_n dX10_taken_48 0 rfl ?_
            refine xr_getR flX10_75 dX10_taken_49 s_62 rfl ?_
            refine xr_iload_n dX10_taken_52 1 rfl ?_
            refine xb_iald (j := d_) (v := nI (b_)) dX10_taken_53 s_83 hd_ (by decide) eb_ ?_
            refine xb_cV (As := [.int (nI (b_))]) (rest := []) mlX10_371 (c_X10_kindOf (b := b_) (by omega) eq9) dX10_taken_54 s_62 rfl rfl (Nat.le_of_ble_eq_true rfl) (by decide) (by decide) ?_
            refine xr_istore_n (ls2 := [(3, .int (4)), (0, .ref (62)), (1, .int (nI (d_))), (2, .int (k))]) dX10_taken_57 (by decide) rfl ?_
            refine xr_iload_n dX10_taken_58 0 rfl ?_
            refine xr_iload_n dX10_taken_59 3 rfl ?_
            refine xr_icmp_eq (tgt := 75) dX10_taken_60 rfl (fun c25 => ?_) (fun c25 => ?_)
            · refine xr_iload_n dX10_taken_75 0 rfl ?_
              refine xr_iload_n dX10_taken_76 3 rfl ?_
              refine xr_icmp_ne (tgt := 93) dX10_taken_77 rfl (fun c26 => ?_) (fun c26 => ?_)
              · refine xr_bipush (v := -12) dX10_taken_93 rfl ?_
                exact xr_iret dX10_taken_95 rfl rfl (⟨_, rfl, rfl, rfl, rfl, trivial⟩)
              · refine xr_aload_n dX10_taken_80 1 rfl ?_
                refine xr_aload_n dX10_taken_81 1 rfl ?_
                refine xr_getR flX10_75 dX10_taken_82 s_62 rfl ?_
                refine xr_iload_n dX10_taken_85 2 rfl ?_
                refine xb_iald (j := d_) (v := nI (b_)) dX10_taken_86 s_83 hd_ (by decide) eb_ ?_
                refine xb_cV (As := [.int (nI (b_))]) (rest := []) mlX10_371 (c_X10_kindOf (b := b_) (by omega) eq9) dX10_taken_87 s_62 rfl rfl (Nat.le_of_ble_eq_true rfl) (by decide) (by decide) ?_
                refine xr_goto (tgt := 95) dX10_taken_90 rfl ?_
                exact xr_iret dX10_taken_95 rfl rfl (⟨_, rfl, rfl, rfl, rfl, trivial⟩)
            · refine xr_iload_n dX10_taken_63 0 rfl ?_
              refine xr_if_le (tgt := 75) dX10_taken_64 rfl (fun c => absurd c (by decide)) (fun _ => ?_)
              refine xr_iload_n dX10_taken_67 0 rfl ?_
              refine xb_cS (As := [.int (4)]) (rest := []) mlX10_374 (c_X10_above_4) dX10_taken_68 rfl rfl (Nat.le_of_ble_eq_true rfl) (by decide) (by decide) ?_
              refine xr_istore_n (ls2 := [(3, .int (1)), (0, .ref (62)), (1, .int (nI (d_))), (2, .int (k))]) dX10_taken_71 (by decide) rfl ?_
              refine xr_goto (tgt := 58) dX10_taken_72 rfl ?_
              refine xr_iload_n dX10_taken_58 0 rfl ?_
              refine xr_iload_n dX10_taken_59 3 rfl ?_
              refine xr_icmp_eq (tgt := 75) dX10_taken_60 rfl (fun c27 => ?_) (fun c27 => ?_)
              · refine xr_iload_n dX10_taken_75 0 rfl ?_
                refine xr_iload_n dX10_taken_76 3 rfl ?_
                refine xr_icmp_ne (tgt := 93) dX10_taken_77 rfl (fun c28 => ?_) (fun c28 => ?_)
                · refine xr_bipush (v := -12) dX10_taken_93 rfl ?_
                  exact xr_iret dX10_taken_95 rfl rfl (⟨_, rfl, rfl, rfl, rfl, trivial⟩)
                · refine xr_aload_n dX10_taken_80 1 rfl ?_
                  refine xr_aload_n dX10_taken_81 1 rfl ?_
                  refine xr_getR flX10_75 dX10_taken_82 s_62 rfl ?_
                  refine xr_iload_n dX10_taken_85 2 rfl ?_
                  refine xb_iald (j := d_) (v := nI (b_)) dX10_taken_86 s_83 hd_ (by decide) eb_ ?_
                  refine xb_cV (As := [.int (nI (b_))]) (rest := []) mlX10_371 (c_X10_kindOf (b := b_) (by omega) eq9) dX10_taken_87 s_62 rfl rfl (Nat.le_of_ble_eq_true rfl) (by decide) (by decide) ?_
                  refine xr_goto (tgt := 95) dX10_taken_90 rfl ?_
                  exact xr_iret dX10_taken_95 rfl rfl (⟨_, rfl, rfl, rfl, rfl, trivial⟩)
              · refine xr_iload_n dX10_taken_63 0 rfl ?_
                refine xr_if_le (tgt := 75) dX10_taken_64 rfl (fun c => absurd c (by decide)) (fun _ => ?_)
                refine xr_iload_n dX10_taken_67 0 rfl ?_
                refine xb_cS (As := [.int (1)]) (rest := []) mlX10_374 (c_X10_above_1) dX10_taken_68 rfl rfl (Nat.le_of_ble_eq_true rfl) (by decide) (by decide) ?_
                refine xr_istore_n (ls2 := [(3, .int (0)), (0, .ref (62)), (1, .int (nI (d_))), (2, .int (k))]) dX10_taken_71 (by decide) rfl ?_
                refine xr_goto (tgt := 58) dX10_taken_72 rfl ?_
                refine xr_iload_n dX10_taken_58 0 rfl ?_
                refine xr_iload_n dX10_taken_59 3 rfl ?_
                refine xr_icmp_eq (tgt := 75) dX10_taken_60 rfl (fun c29 => ?_) (fun c29 => ?_)
                · refine xr_iload_n dX10_taken_75 0 rfl ?_
                  refine xr_iload_n dX10_taken_76 3 rfl ?_
                  refine xr_icmp_ne (tgt := 93) dX10_taken_77 rfl (fun c30 => ?_) (fun c30 => ?_)
                  · refine xr_bipush (v := -12) dX10_taken_93 rfl ?_
                    exact xr_iret dX10_taken_95 rfl rfl (⟨_, rfl, rfl, rfl, rfl, trivial⟩)
                  · refine xr_aload_n dX10_taken_80 1 rfl ?_
                    refine xr_aload_n dX10_taken_81 1 rfl ?_
                    refine xr_getR flX10_75 dX10_taken_82 s_62 rfl ?_
                    refine xr_iload_n dX10_taken_85 2 rfl ?_
                    refine xb_iald (j := d_) (v := nI (b_)) dX10_taken_86 s_83 hd_ (by decide) eb_ ?_
                    refine xb_cV (As := [.int (nI (b_))]) (rest := []) mlX10_371 (c_X10_kindOf (b := b_) (by omega) eq9) dX10_taken_87 s_62 rfl rfl (Nat.le_of_ble_eq_true rfl) (by decide) (by decide) ?_
                    refine xr_goto (tgt := 95) dX10_taken_90 rfl ?_
                    exact xr_iret dX10_taken_95 rfl rfl (⟨_, rfl, rfl, rfl, rfl, trivial⟩)
                · refine xr_iload_n dX10_taken_63 0 rfl ?_
                  refine xr_if_le (tgt := 75) dX10_taken_64 rfl (fun _ => ?_) (fun c => absurd (by decide) c)
                  refine xr_iload_n dX10_taken_75 0 rfl ?_
                  refine xr_iload_n dX10_taken_76 3 rfl ?_
                  refine xr_icmp_ne (tgt := 93) dX10_taken_77 rfl (fun c31 => ?_) (fun c31 => ?_)
                  · refine xr_bipush (v := -12) dX10_taken_93 rfl ?_
                    exact xr_iret dX10_taken_95 rfl rfl (⟨_, rfl, rfl, rfl, rfl, trivial⟩)
                  · refine xr_aload_n dX10_taken_80 1 rfl ?_
                    refine xr_aload_n dX10_taken_81 1 rfl ?_
                    refine xr_getR flX10_75 dX10_taken_82 s_62 rfl ?_
                    refine xr_iload_n dX10_taken_85 2 rfl ?_
                    refine xb_iald (j := d_) (v := nI (b_)) dX10_taken_86 s_83 hd_ (by decide) eb_ ?_
                    refine xb_cV (As := [.int (nI (b_))]) (rest := []) mlX10_371 (c_X10_kindOf (b := b_) (by omega) eq9) dX10_taken_87 s_62 rfl rfl (Nat.le_of_ble_eq_true rfl) (by decide) (by decide) ?_
                    refine xr_goto (tgt := 95) dX10_taken_90 rfl ?_
                    exact xr_iret dX10_taken_95 rfl rfl (⟨_, rfl, rfl, rfl, rfl, trivial⟩)
          · refine xr_aload_n dX10_taken_47 0 rfl ?_
            refine xr_aload_n dX10_taken_48 0 rfl ?_
            refine xr_getR flX10_75 dX10_taken_49 s_62 rfl ?_
            refine xr_iload_n dX10_taken_52 1 rfl ?_
            refine xb_iald (j := d_) (v := nI (b_)) dX10_taken_53 s_83 hd_ (by decide) eb_ ?_
            refine xb_cV (As := [.int (nI (b_))]) (rest := []) mlX10_371 (c_X10_kindOf (b := b_) (by omega) eq9) dX10_taken_54 s_62 rfl rfl (Nat.le_of_ble_eq_true rfl) (by decide) (by decide) ?_
            refine xr_istore_n (ls2 := [(3, .int (5)), (0, .ref (62)), (1, .int (nI (d_))), (2, .int (k))]) dX10_taken_57 (by decide) rfl ?_
            refine xr_iload_n dX10_taken_58 0 rfl ?_
            refine xr_iload_n dX10_taken_59 3 rfl ?_
            refine xr_icmp_eq (tgt := 75) dX10_taken_60 rfl (fun c32 => ?_) (fun c32 => ?_)
            · refine xr_iload_n dX10_taken_75 0 rfl ?_
              refine xr_iload_n dX10_taken_76 3 rfl ?_
              refine xr_icmp_ne (tgt := 93) dX10_taken_77 rfl (fun c33 => ?_) (fun c33 => ?_)
              · refine xr_bipush (v := -12) dX10_taken_93 rfl ?_
                exact xr_iret dX10_taken_95 rfl rfl (⟨_, rfl, rfl, rfl, rfl, trivial⟩)
              · refine xr_aload_n dX10_taken_80 1 rfl ?_
                refine xr_aload_n dX10_taken_81 1 rfl ?_
                refine xr_getR flX10_75 dX10_taken_82 s_62 rfl ?_
                refine xr_iload_n dX10_taken_85 2 rfl ?_
                refine xb_iald (j := d_) (v := nI (b_)) dX10_taken_86 s_83 hd_ (by decide) eb_ ?_
                refine xb_cV (As := [.int (nI (b_))]) (rest := []) mlX10_371 (c_X10_kindOf (b := b_) (by omega) eq9) dX10_taken_87 s_62 rfl rfl (Nat.le_of_ble_eq_true rfl) (by decide) (by decide) ?_
                refine xr_goto (tgt := 95) dX10_taken_90 rfl ?_
                exact xr_iret dX10_taken_95 rfl rfl (⟨_, rfl, rfl, rfl, rfl, trivial⟩)
            · refine xr_iload_n dX10_taken_63 0 rfl ?_
              refine xr_if_le (tgt := 75) dX10_taken_64 rfl (fun c => absurd c (by decide)) (fun _ => ?_)
              refine xr_iload_n dX10_taken_67 0 rfl ?_
              refine xb_cS (As := [.int (5)]) (rest := []) mlX10_374 (c_X10_above_5) dX10_taken_68 rfl rfl (Nat.le_of_ble_eq_true rfl) (by decide) (by decide) ?_
              refine xr_istore_n (ls2 := [(3, .int (3)), (0, .ref (62)), (1, .int (nI (d_))), (2, .int (k))]) dX10_taken_71 (by decide) rfl ?_
              refine xr_goto (tgt := 58) dX10_taken_72 rfl ?_
              refine xr_iload_n dX10_taken_58 0 rfl ?_
              refine xr_iload_n dX10_taken_59 3 rfl ?_
              refine xr_icmp_eq (tgt := 75) dX10_taken_60 rfl (fun c34 => ?_) (fun c34 => ?_)
              · refine xr_iload_n dX10_taken_75 0 rfl ?_
                refine xr_iload_n dX10_taken_76 3 rfl ?_
                refine xr_icmp_ne (tgt := 93) dX10_taken_77 rfl (fun c35 => ?_) (fun c35 => ?_)
                · refine xr_bipush (v := -12) dX10_taken_93 rfl ?_
                  exact xr_iret dX10_taken_95 rfl rfl (⟨_, rfl, rfl, rfl, rfl, trivial⟩)
                · refine xr_aload_n dX10_taken_80 1 rfl ?_
                  refine xr_aload_n dX10_taken_81 1 rfl ?_
                  refine xr_getR flX10_75 dX10_taken_82 s_62 rfl ?_
                  refine xr_iload_n dX10_taken_85 2 rfl ?_
                  refine xb_iald (j := d_) (v := nI (b_)) dX10_taken_86 s_83 hd_ (by decide) eb_ ?_
                  refine xb_cV (As := [.int (nI (b_))]) (rest := []) mlX10_371 (c_X10_kindOf (b := b_) (by omega) eq9) dX10_taken_87 s_62 rfl rfl (Nat.le_of_ble_eq_true rfl) (by decide) (by decide) ?_
                  refine xr_goto (tgt := 95) dX10_taken_90 rfl ?_
                  exact xr_iret dX10_taken_95 rfl rfl (⟨_, rfl, rfl, rfl, rfl, trivial⟩)
              · refine xr_iload_n dX10_taken_63 0 rfl ?_
                refine xr_if_le (tgt := 75) dX10_taken_64 rfl (fun c => absurd c (by decide)) (fun _ => ?_)
                refine xr_iload_n dX10_taken_67 0 rfl ?_
                refine xb_cS (As := [.int (3)]) (rest := []) mlX10_374 (c_X10_above_3) dX10_taken_68 rfl rfl (Nat.le_of_ble_eq_true rfl) (by decide) (by decide) ?_
                refine xr_istore_n (ls2 := [(3, .int (2)), (0, .ref (62)), (1, .int (nI (d_))), (2, .int (k))]) dX10_taken_71 (by decide) rfl ?_
                refine xr_goto (tgt := 58) dX10_taken_72 rfl ?_
                refine xr_iload_n dX10_taken_58 0 rfl ?_
                refine xr_iload_n dX10_taken_59 3 rfl ?_
                refine xr_icmp_eq (tgt := 75) dX10_taken_60 rfl (fun c36 => ?_) (fun c36 => ?_)
                · refine xr_iload_n dX10_taken_75 0 rfl ?_
                  refine xr_iload_n dX10_taken_76 3 rfl ?_
                  refine xr_icmp_ne (tgt := 93) dX10_taken_77 rfl (fun c37 => ?_) (fun c37 => ?_)
                  · refine xr_bipush (v := -12) dX10_taken_93 rfl ?_
                    exact xr_iret dX10_taken_95 rfl rfl (⟨_, rfl, rfl, rfl, rfl, trivial⟩)
                  · refine xr_aload_n dX10_taken_80 1 rfl ?_
                    refine xr_aload_n dX10_taken_81 1 rfl ?_
                    refine xr_getR flX10_75 dX10_taken_82 s_62 rfl ?_
                    refine xr_iload_n dX10_taken_85 2 rfl ?_
                    refine xb_iald (j := d_) (v := nI (b_)) dX10_taken_86 s_83 hd_ (by decide) eb_ ?_
                    refine xb_cV (As := [.int (nI (b_))]) (rest := []) mlX10_371 (c_X10_kindOf (b := b_) (by omega) eq9) dX10_taken_87 s_62 rfl rfl (Nat.le_of_ble_eq_true rfl) (by decide) (by decide) ?_
                    refine xr_goto (tgt := 95) dX10_taken_90 rfl ?_
                    exact xr_iret dX10_taken_95 rfl rfl (⟨_, rfl, rfl, rfl, rfl, trivial⟩)
                · refine xr_iload_n dX10_taken_63 0 rfl ?_
                  refine xr_if_le (tgt := 75) dX10_taken_64 rfl (fun c => absurd c (by decide)) (fun _ => ?_)
                  refine xr_iload_n dX10_taken_67 0 rfl ?_
                  refine xb_cS (As := [.int (2)]) (rest := []) mlX10_374 (c_X10_above_2) dX10_taken_68 rfl rfl (Nat.le_of_ble_eq_true rfl) (by decide) (by decide) ?_
                  refine xr_istore_n (ls2 := [(3, .int (0)), (0, .ref (62)), (1, .int (nI (d_))), (2, .int (k))]) dX10_taken_71 (by decide) rfl ?_
                  refine xr_goto (tgt := 58) dX10_taken_72 rfl ?_
                  refine xr_iload_n dX10_taken_58 0 rfl ?_
                  refine xr_iload_n dX10_taken_59 3 rfl ?_
                  refine xr_icmp_eq (tgt := 75) dX10_taken_60 rfl (fun c38 => ?_) (fun c38 => ?_)
                  · refine xr_iload_n dX10_taken_75 0 rfl ?_
                    refine xr_iload_n dX10_taken_76 3 rfl ?_
                    refine xr_icmp_ne (tgt := 93) dX10_taken_77 rfl (fun c39 => ?_) (fun c39 => ?_)
                    · refine xr_bipush (v := -12) dX10_taken_93 rfl ?_
                      exact xr_iret dX10_taken_95 rfl rfl (⟨_, rfl, rfl, rfl, rfl, trivial⟩)
                    · refine xr_aload_n dX10_taken_80 1 rfl ?_
                      refine xr_aload_n dX10_taken_81 1 rfl ?_
                      refine xr_getR flX10_75 dX10_taken_82 s_62 rfl ?_
                      refine xr_iload_n dX10_taken_85 2 rfl ?_
                      refine xb_iald (j := d_) (v := nI (b_)) dX10_taken_86 s_83 hd_ (by decide) eb_ ?_
                      refine xb_cV (As := [.int (nI (b_))]) (rest := []) mlX10_371 (c_X10_kindOf (b := b_) (by omega) eq9) dX10_taken_87 s_62 rfl rfl (Nat.le_of_ble_eq_true rfl) (by decide) (by decide) ?_
                      refine xr_goto (tgt := 95) dX10_taken_90 rfl ?_
                      exact xr_iret dX10_taken_95 rfl rfl (⟨_, rfl, rfl, rfl, rfl, trivial⟩)
                  · refine xr_iload_n dX10_taken_63 0 rfl ?_
                    refine xr_if_le (tgt := 75) dX10_taken_64 rfl (fun _ => ?_) (fun c => absurd (by decide) c)
                    refine xr_iload_n dX10_taken_75 0 rfl ?_
                    refine xr_iload_n dX10_taken_76 3 rfl ?_
                    refine xr_icmp_ne (tgt := 93) dX10_taken_77 rfl (fun c40 => ?_) (fun c40 => ?_)
                    · refine xr_bipush (v := -12) dX10_taken_93 rfl ?_
                      exact xr_iret dX10_taken_95 rfl rfl (⟨_, rfl, rfl, rfl, rfl, trivial⟩)
                    · refine xr_aload_n dX10_taken_80 1 rfl ?_
                      refine xr_aload_n dX10_taken_81 1 rfl ?_
                      refine xr_getR flX10_75 dX10_taken_82 s_62 rfl ?_
                      refine xr_iload_n dX10_taken_85 2 rfl ?_
                      refine xb_iald (j := d_) (v := nI (b_)) dX10_taken_86 s_83 hd_ (by decide) eb_ ?_
                      refine xb_cV (As := [.int (nI (b_))]) (rest := []) mlX10_371 (c_X10_kindOf (b := b_) (by omega) eq9) dX10_taken_87 s_62 rfl rfl (Nat.le_of_ble_eq_true rfl) (by decide) (by decide) ?_
                      refine xr_goto (tgt := 95) dX10_taken_90 rfl ?_
                      exact xr_iret dX10_taken_95 rfl rfl (⟨_, rfl, rfl, rfl, rfl, trivial⟩)
          · refine xr_aload_n dX10_taken_47 0 rfl ?_
            refine xr_aload_n dX10_taken_48 0 rfl ?_
            refine xr_getR flX10_75 dX10_taken_49 s_62 rfl ?_
            refine xr_iload_n dX10_taken_52 1 rfl ?_
            refine xb_iald (j := d_) (v := nI (b_)) dX10_taken_53 s_83 hd_ (by decide) eb_ ?_
            refine xb_cV (As := [.int (nI (b_))]) (rest := []) mlX10_371 (c_X10_kindOf (b := b_) (by omega) eq9) dX10_taken_54 s_62 rfl rfl (Nat.le_of_ble_eq_true rfl) (by decide) (by decide) ?_
            refine xr_istore_n (ls2 := [(3, .int (6)), (0, .ref (62)), (1, .int (nI (d_))), (2, .int (k))]) dX10_taken_57 (by decide) rfl ?_
            refine xr_iload_n dX10_taken_58 0 rfl ?_
            refine xr_iload_n dX10_taken_59 3 rfl ?_
            refine xr_icmp_eq (tgt := 75) dX10_taken_60 rfl (fun c41 => ?_) (fun c41 => ?_)
            · refine xr_iload_n dX10_taken_75 0 rfl ?_
              refine xr_iload_n dX10_taken_76 3 rfl ?_
              refine xr_icmp_ne (tgt := 93) dX10_taken_77 rfl (fun c42 => ?_) (fun c42 => ?_)
              · refine xr_bipush (v := -12) dX10_taken_93 rfl ?_
                exact xr_iret dX10_taken_95 rfl rfl (⟨_, rfl, rfl, rfl, rfl, trivial⟩)
              · refine xr_aload_n dX10_taken_80 1 rfl ?_
                refine xr_aload_n dX10_taken_81 1 rfl ?_
                refine xr_getR flX10_75 dX10_taken_82 s_62 rfl ?_
                refine xr_iload_n dX10_taken_85 2 rfl ?_
                refine xb_iald (j := d_) (v := nI (b_)) dX10_taken_86 s_83 hd_ (by decide) eb_ ?_
                refine xb_cV (As := [.int (nI (b_))]) (rest := []) mlX10_371 (c_X10_kindOf (b := b_) (by omega) eq9) dX10_taken_87 s_62 rfl rfl (Nat.le_of_ble_eq_true rfl) (by decide) (by decide) ?_
                refine xr_goto (tgt := 95) dX10_taken_90 rfl ?_
                exact xr_iret dX10_taken_95 rfl rfl (⟨_, rfl, rfl, rfl, rfl, trivial⟩)
            · refine xr_iload_n dX10_taken_63 0 rfl ?_
              refine xr_if_le (tgt := 75) dX10_taken_64 rfl (fun c => absurd c (by decide)) (fun _ => ?_)
              refine xr_iload_n dX10_taken_67 0 rfl ?_
              refine xb_cS (As := [.int (6)]) (rest := []) mlX10_374 (c_X10_above_6) dX10_taken_68 rfl rfl (Nat.le_of_ble_eq_true rfl) (by decide) (by decide) ?_
              refine xr_istore_n (ls2 := [(3, .int (0)), (0, .ref (62)), (1, .int (nI (d_))), (2, .int (k))]) dX10_taken_71 (by decide) rfl ?_
              refine xr_goto (tgt := 58) dX10_taken_72 rfl ?_
              refine xr_iload_n dX10_taken_58 0 rfl ?_
              refine xr_iload_n dX10_taken_59 3 rfl ?_
              refine xr_icmp_eq (tgt := 75) dX10_taken_60 rfl (fun c43 => ?_) (fun c43 => ?_)
              · refine xr_iload_n dX10_taken_75 0 rfl ?_
                refine xr_iload_n dX10_taken_76 3 rfl ?_
                refine xr_icmp_ne (tgt := 93) dX10_taken_77 rfl (fun c44 => ?_) (fun c44 => ?_)
                · refine xr_bipush (v := -12) dX10_taken_93 rfl ?_
                  exact xr_iret dX10_taken_95 rfl rfl (⟨_, rfl, rfl, rfl, rfl, trivial⟩)
                · refine xr_aload_n dX10_taken_80 1 rfl ?_
                  refine xr_aload_n dX10_taken_81 1 rfl ?_
                  refine xr_getR flX10_75 dX10_taken_82 s_62 rfl ?_
                  refine xr_iload_n dX10_taken_85 2 rfl ?_
                  refine xb_iald (j := d_) (v := nI (b_)) dX10_taken_86 s_83 hd_ (by decide) eb_ ?_
                  refine xb_cV (As := [.int (nI (b_))]) (rest := []) mlX10_371 (c_X10_kindOf (b := b_) (by omega) eq9) dX10_taken_87 s_62 rfl rfl (Nat.le_of_ble_eq_true rfl) (by decide) (by decide) ?_
                  refine xr_goto (tgt := 95) dX10_taken_90 rfl ?_
                  exact xr_iret dX10_taken_95 rfl rfl (⟨_, rfl, rfl, rfl, rfl, trivial⟩)
              · refine xr_iload_n dX10_taken_63 0 rfl ?_
                refine xr_if_le (tgt := 75) dX10_taken_64 rfl (fun _ => ?_) (fun c => absurd (by decide) c)
                refine xr_iload_n dX10_taken_75 0 rfl ?_
                refine xr_iload_n dX10_taken_76 3 rfl ?_
                refine xr_icmp_ne (tgt := 93) dX10_taken_77 rfl (fun c45 => ?_) (fun c45 => ?_)
                · refine xr_bipush (v := -12) dX10_taken_93 rfl ?_
                  exact xr_iret dX10_taken_95 rfl rfl (⟨_, rfl, rfl, rfl, rfl, trivial⟩)
                · refine xr_aload_n dX10_taken_80 1 rfl ?_
                  refine xr_aload_n dX10_taken_81 1 rfl ?_
                  refine xr_getR flX10_75 dX10_taken_82 s_62 rfl ?_
                  refine xr_iload_n dX10_taken_85 2 rfl ?_
                  refine xb_iald (j := d_) (v := nI (b_)) dX10_taken_86 s_83 hd_ (by decide) eb_ ?_
                  refine xb_cV (As := [.int (nI (b_))]) (rest := []) mlX10_371 (c_X10_kindOf (b := b_) (by omega) eq9) dX10_taken_87 s_62 rfl rfl (Nat.le_of_ble_eq_true rfl) (by decide) (by decide) ?_
                  refine xr_goto (tgt := 95) dX10_taken_90 rfl ?_
                  exact xr_iret dX10_taken_95 rfl rfl (⟨_, rfl, rfl, rfl, rfl, trivial⟩)
          · refine xr_aload_n dX10_taken_47 0 rfl ?_
            refine xr_aload_n dX10_taken_48 0 rfl ?_
            refine xr_getR flX10_75 dX10_taken_49 s_62 rfl ?_
            refine xr_iload_n dX10_taken_52 1 rfl ?_
            refine xb_iald (j := d_) (v := nI (b_)) dX10_taken_53 s_83 hd_ (by decide) eb_ ?_
            refine xb_cV (As := [.int (nI (b_))]) (rest := []) mlX10_371 (c_X10_kindOf (b := b_) (by omega) eq9) dX10_taken_54 s_62 rfl rfl (Nat.le_of_ble_eq_true rfl) (by decide) (by decide) ?_
            refine xr_istore_n (ls2 := [(3, .int (7)), (0, .ref (62)), (1, .int (nI (d_))), (2, .int (k))]) dX10_taken_57 (by decide) rfl ?_
            refine xr_iload_n dX10_taken_58 0 rfl ?_
            refine xr_iload_n dX10_taken_59 3 rfl ?_
            refine xr_icmp_eq (tgt := 75) dX10_taken_60 rfl (fun c46 => ?_) (fun c46 => ?_)
            · refine xr_iload_n dX10_taken_75 0 rfl ?_
              refine xr_iload_n dX10_taken_76 3 rfl ?_
              refine xr_icmp_ne (tgt := 93) dX10_taken_77 rfl (fun c47 => ?_) (fun c47 => ?_)
              · refine xr_bipush (v := -12) dX10_taken_93 rfl ?_
                exact xr_iret dX10_taken_95 rfl rfl (⟨_, rfl, rfl, rfl, rfl, trivial⟩)
              · refine xr_aload_n dX10_taken_80 1 rfl ?_
                refine xr_aload_n dX10_taken_81 1 rfl ?_
                refine xr_getR flX10_75 dX10_taken_82 s_62 rfl ?_
                refine xr_iload_n dX10_taken_85 2 rfl ?_
                refine xb_iald (j := d_) (v := nI (b_)) dX10_taken_86 s_83 hd_ (by decide) eb_ ?_
                refine xb_cV (As := [.int (nI (b_))]) (rest := []) mlX10_371 (c_X10_kindOf (b := b_) (by omega) eq9) dX10_taken_87 s_62 rfl rfl (Nat.le_of_ble_eq_true rfl) (by decide) (by decide) ?_
                refine xr_goto (tgt := 95) dX10_taken_90 rfl ?_
                exact xr_iret dX10_taken_95 rfl rfl (⟨_, rfl, rfl, rfl, rfl, trivial⟩)
            · refine xr_iload_n dX10_taken_63 0 rfl ?_
              refine xr_if_le (tgt := 75) dX10_taken_64 rfl (fun c => absurd c (by decide)) (fun _ => ?_)
              refine xr_iload_n dX10_taken_67 0 rfl ?_
              refine xb_cS (As := [.int (7)]) (rest := []) mlX10_374 (c_X10_above_7) dX10_taken_68 rfl rfl (Nat.le_of_ble_eq_true rfl) (by decide) (by decide) ?_
              refine xr_istore_n (ls2 := [(3, .int (4)), (0, .ref (62)), (1, .int (nI (d_))), (2, .int (k))]) dX10_taken_71 (by decide) rfl ?_
              refine xr_goto (tgt := 58) dX10_taken_72 rfl ?_
              refine xr_iload_n dX10_taken_58 0 rfl ?_
              refine xr_iload_n dX10_taken_59 3 rfl ?_
              refine xr_icmp_eq (tgt := 75) dX10_taken_60 rfl (fun c48 => ?_) (fun c48 => ?_)
              · refine xr_iload_n dX10_taken_75 0 rfl ?_
                refine xr_iload_n dX10_taken_76 3 rfl ?_
                refine xr_icmp_ne (tgt := 93) dX10_taken_77 rfl (fun c49 => ?_) (fun c49 => ?_)
                · refine xr_bipush (v := -12) dX10_taken_93 rfl ?_
                  exact xr_iret dX10_taken_95 rfl rfl (⟨_, rfl, rfl, rfl, rfl, trivial⟩)
                · refine xr_aload_n dX10_taken_80 1 rfl ?_
                  refine xr_aload_n dX10_taken_81 1 rfl ?_
                  refine xr_getR flX10_75 dX10_taken_82 s_62 rfl ?_
                  refine xr_iload_n dX10_taken_85 2 rfl ?_
                  refine xb_iald (j := d_) (v := nI (b_)) dX10_taken_86 s_83 hd_ (by decide) eb_ ?_
                  refine xb_cV (As := [.int (nI (b_))]) (rest := []) mlX10_371 (c_X10_kindOf (b := b_) (by omega) eq9) dX10_taken_87 s_62 rfl rfl (Nat.le_of_ble_eq_true rfl) (by decide) (by decide) ?_
                  refine xr_goto (tgt := 95) dX10_taken_90 rfl ?_
                  exact xr_iret dX10_taken_95 rfl rfl (⟨_, rfl, rfl, rfl, rfl, trivial⟩)
              · refine xr_iload_n dX10_taken_63 0 rfl ?_
                refine xr_if_le (tgt := 75) dX10_taken_64 rfl (fun c => absurd c (by decide)) (fun _ => ?_)
                refine xr_iload_n dX10_taken_67 0 rfl ?_
                refine xb_cS (As := [.int (4)]) (rest := []) mlX10_374 (c_X10_above_4) dX10_taken_68 rfl rfl (Nat.le_of_ble_eq_true rfl) (by decide) (by decide) ?_
                refine xr_istore_n (ls2 := [(3, .int (1)), (0, .ref (62)), (1, .int (nI (d_))), (2, .int (k))]) dX10_taken_71 (by decide) rfl ?_
                refine xr_goto (tgt := 58) dX10_taken_72 rfl ?_
                refine xr_iload_n dX10_taken_58 0 rfl ?_
                refine xr_iload_n dX10_taken_59 3 rfl ?_
                refine xr_icmp_eq (tgt := 75) dX10_taken_60 rfl (fun c50 => ?_) (fun c50 => ?_)
                · refine xr_iload_n dX10_taken_75 0 rfl ?_
                  refine xr_iload_n dX10_taken_76 3 rfl ?_
                  refine xr_icmp_ne (tgt := 93) dX10_taken_77 rfl (fun c51 => ?_) (fun c51 => ?_)
                  · refine xr_bipush (v := -12) dX10_taken_93 rfl ?_
                    exact xr_iret dX10_taken_95 rfl rfl (⟨_, rfl, rfl, rfl, rfl, trivial⟩)
                  · refine xr_aload_n dX10_taken_80 1 rfl ?_
                    refine xr_aload_n dX10_taken_81 1 rfl ?_
                    refine xr_getR flX10_75 dX10_taken_82 s_62 rfl ?_
                    refine xr_iload_n dX10_taken_85 2 rfl ?_
                    refine xb_iald (j := d_) (v := nI (b_)) dX10_taken_86 s_83 hd_ (by decide) eb_ ?_
                    refine xb_cV (As := [.int (nI (b_))]) (rest := []) mlX10_371 (c_X10_kindOf (b := b_) (by omega) eq9) dX10_taken_87 s_62 rfl rfl (Nat.le_of_ble_eq_true rfl) (by decide) (by decide) ?_
                    refine xr_goto (tgt := 95) dX10_taken_90 rfl ?_
                    exact xr_iret dX10_taken_95 rfl rfl (⟨_, rfl, rfl, rfl, rfl, trivial⟩)
                · refine xr_iload_n dX10_taken_63 0 rfl ?_
                  refine xr_if_le (tgt := 75) dX10_taken_64 rfl (fun c => absurd c (by decide)) (fun _ => ?_)
                  refine xr_iload_n dX10_taken_67 0 rfl ?_
                  refine xb_cS (As := [.int (1)]) (rest := []) mlX10_374 (c_X10_above_1) dX10_taken_68 rfl rfl (Nat.le_of_ble_eq_true rfl) (by decide) (by decide) ?_
                  refine xr_istore_n (ls2 := [(3, .int (0)), (0, .ref (62)), (1, .int (nI (d_))), (2, .int (k))]) dX10_taken_71 (by decide) rfl ?_
                  refine xr_goto (tgt := 58) dX10_taken_72 rfl ?_
                  refine xr_iload_n dX10_taken_58 0 rfl ?_
                  refine xr_iload_n dX10_taken_59 3 rfl ?_
                  refine xr_icmp_eq (tgt := 75) dX10_taken_60 rfl (fun c52 => ?_) (fun c52 => ?_)
                  · refine xr_iload_n dX10_taken_75 0 rfl ?_
                    refine xr_iload_n dX10_taken_76 3 rfl ?_
                    refine xr_icmp_ne (tgt := 93) dX10_taken_77 rfl (fun c53 => ?_) (fun c53 => ?_)
                    · refine xr_bipush (v := -12) dX10_taken_93 rfl ?_
                      exact xr_iret dX10_taken_95 rfl rfl (⟨_, rfl, rfl, rfl, rfl, trivial⟩)
                    · refine xr_aload_n dX10_taken_80 1 rfl ?_
                      refine xr_aload_n dX10_taken_81 1 rfl ?_
                      refine xr_getR flX10_75 dX10_taken_82 s_62 rfl ?_
                      refine xr_iload_n dX10_taken_85 2 rfl ?_
                      refine xb_iald (j := d_) (v := nI (b_)) dX10_taken_86 s_83 hd_ (by decide) eb_ ?_
                      refine xb_cV (As := [.int (nI (b_))]) (rest := []) mlX10_371 (c_X10_kindOf (b := b_) (by omega) eq9) dX10_taken_87 s_62 rfl rfl (Nat.le_of_ble_eq_true rfl) (by decide) (by decide) ?_
                      refine xr_goto (tgt := 95) dX10_taken_90 rfl ?_
                      exact xr_iret dX10_taken_95 rfl rfl (⟨_, rfl, rfl, rfl, rfl, trivial⟩)
                  · refine xr_iload_n dX10_taken_63 0 rfl ?_
                    refine xr_if_le (tgt := 75) dX10_taken_64 rfl (fun _ => ?_) (fun c => absurd (by decide) c)
                    refine xr_iload_n dX10_taken_75 0 rfl ?_
                    refine xr_iload_n dX10_taken_76 3 rfl ?_
                    refine xr_icmp_ne (tgt := 93) dX10_taken_77 rfl (fun c54 => ?_) (fun c54 => ?_)
                    · refine xr_bipush (v := -12) dX10_taken_93 rfl ?_
                      exact xr_iret dX10_taken_95 rfl rfl (⟨_, rfl, rfl, rfl, rfl, trivial⟩)
                    · refine xr_aload_n dX10_taken_80 1 rfl ?_
                      refine xr_aload_n dX10_taken_81 1 rfl ?_
                      refine xr_getR flX10_75 dX10_taken_82 s_62 rfl ?_
                      refine xr_iload_n dX10_taken_85 2 rfl ?_
                      refine xb_iald (j := d_) (v := nI (b_)) dX10_taken_86 s_83 hd_ (by decide) eb_ ?_
                      refine xb_cV (As := [.int (nI (b_))]) (rest := []) mlX10_371 (c_X10_kindOf (b := b_) (by omega) eq9) dX10_taken_87 s_62 rfl rfl (Nat.le_of_ble_eq_true rfl) (by decide) (by decide) ?_
                      refine xr_goto (tgt := 95) dX10_taken_90 rfl ?_
                      exact xr_iret dX10_taken_95 rfl rfl (⟨_, rfl, rfl, rfl, rfl, trivial⟩)
        · refine xr_bipush (v := -12) dX10_taken_44 rfl ?_
          exact xr_iret dX10_taken_46 rfl rfl (⟨_, rfl, rfl, rfl, rfl, trivial⟩)
      · refine xr_bipush (v := -11) dX10_taken_30 rfl ?_
        exact xr_iret dX10_taken_32 rfl rfl (⟨_, rfl, rfl, rfl, rfl, trivial⟩)
    · refine xr_iconst (v := -1) dX10_taken_19 rfl ?_
      exact xr_iret dX10_taken_20 rfl rfl (⟨_, rfl, rfl, rfl, rfl, trivial⟩)
set_option maxRecDepth 100000 in
set_option maxHeartbeats 4000000 in
theorem g_X10_count (w : Int32) {l : Launch} {G : xG} {M : xM} {J : xJ} (hI : InvR M) : x_M l G fX10_count 1 0 0 [.ref (62), .int (w)] x_SH M J (qPI M J (fun r => True)) := by
  refine xb_of pX10 (Nat.le_of_ble_eq_true rfl) rfl ?_
  obtain ⟨⟨hn, h_hn, e_hn, hw⟩, hbt, ⟨un, wn, h_uw, h_wn, e_un, e_wn⟩, hch, ⟨n, h_n, e_n⟩, htx, ⟨b, h_b, e_b⟩, hkd, ⟨ra, h_ra, e_ra⟩, hsl, ⟨ic, h_ic, e_ic⟩, hS⟩ := hI
  refine xr_iload_n dX10_count_0 1 rfl ?_
  refine xg_eq 0 (fun w1 => ?_) (fun w1 => ?_)
  · refine xr_tableIn (tgt := 40) dX10_count_1 (by decide) (by decide) rfl rfl ?_
    refine xr_aload_n dX10_count_40 0 rfl ?_
    refine xb_get (v := nI (hn)) flX10_109 dX10_count_41 s_62 rfl e_hn ?_
    exact xr_iret dX10_count_44 rfl rfl (⟨_, rfl, rfl, rfl, rfl, trivial⟩)
  refine xg_eq 1 (fun w2 => ?_) (fun w2 => ?_)
  · refine xr_tableIn (tgt := 45) dX10_count_1 (by decide) (by decide) rfl rfl ?_
    refine xr_aload_n dX10_count_45 0 rfl ?_
    refine xr_callV (As := []) (rest := []) mlX10_246 (g_X10_upNow h_hn e_hn (fun kw hkw => by rw [show M 63 (5 + kw) = M 63 (5 + kw) from rfl]; exact hw kw hkw) (by rw [show M 63 16 = M 63 16 from rfl]; exact hbt) (by rw [show M 62 13 = M 62 13 from rfl]; exact htx)) dX10_count_46 s_62 rfl rfl (Nat.le_of_ble_eq_true rfl) (by decide) ⟨by decide, by decide⟩ (fun v s2 M9 J2 hq => ?_)
    obtain ⟨r3, rfl, rfl, rfl, rfl, _⟩ := hq
    try dsimp only [Option.toList, List.cons_append, List.nil_append]
    refine xr_callS (As := [.int (r3)]) (rest := []) mlX10_261 (g_X10_bitsOf r3) dX10_count_49 rfl rfl (Nat.le_of_ble_eq_true rfl) (by decide) ⟨by decide, by decide⟩ (fun v s2 M9 J2 hq => ?_)
    obtain ⟨r4, rfl, rfl, rfl, rfl, _⟩ := hq
    try dsimp only [Option.toList, List.cons_append, List.nil_append]
    exact xr_iret dX10_count_52 rfl rfl (⟨_, rfl, rfl, rfl, rfl, trivial⟩)
  refine xg_eq 2 (fun w5 => ?_) (fun w5 => ?_)
  · refine xr_tableIn (tgt := 53) dX10_count_1 (by decide) (by decide) rfl rfl ?_
    refine xr_aload_n dX10_count_53 0 rfl ?_
    refine xb_get (v := nI (n)) flX10_162 dX10_count_54 s_62 rfl e_n ?_
    exact xr_iret dX10_count_57 rfl rfl (⟨_, rfl, rfl, rfl, rfl, trivial⟩)
  refine xg_eq 3 (fun w6 => ?_) (fun w6 => ?_)
  · refine xr_tableIn (tgt := 58) dX10_count_1 (by decide) (by decide) rfl rfl ?_
    refine xr_aload_n dX10_count_58 0 rfl ?_
    refine xb_get (v := nI (un)) flX10_91 dX10_count_59 s_62 rfl e_un ?_
    exact xr_iret dX10_count_62 rfl rfl (⟨_, rfl, rfl, rfl, rfl, trivial⟩)
  refine xg_eq 4 (fun w7 => ?_) (fun w7 => ?_)
  · refine xr_tableIn (tgt := 63) dX10_count_1 (by decide) (by decide) rfl rfl ?_
    refine xr_aload_n dX10_count_63 0 rfl ?_
    refine xb_get (v := nI (b)) flX10_334 dX10_count_64 s_62 rfl e_b ?_
    exact xr_iret dX10_count_67 rfl rfl (⟨_, rfl, rfl, rfl, rfl, trivial⟩)
  refine xg_eq 5 (fun w8 => ?_) (fun w8 => ?_)
  · refine xr_tableIn (tgt := 68) dX10_count_1 (by decide) (by decide) rfl rfl ?_
    refine xr_aload_n dX10_count_68 0 rfl ?_
    refine xb_get (v := nI (ra)) flX10_337 dX10_count_69 s_62 rfl e_ra ?_
    exact xr_iret dX10_count_72 rfl rfl (⟨_, rfl, rfl, rfl, rfl, trivial⟩)
  refine xr_tableOut (tgt := 73) dX10_count_1 (xg_out (lo := 0) (hi := 5) (by decide) (fun j h1 h2 qq => by have h3 : j = 0 ∨ j = 1 ∨ j = 2 ∨ j = 3 ∨ j = 4 ∨ j = 5 := (by omega); rcases h3 with rfl | rfl | rfl | rfl | rfl | rfl <;> first | exact absurd qq w1 | exact absurd qq w2 | exact absurd qq w5 | exact absurd qq w6 | exact absurd qq w7 | exact absurd qq w8)) rfl ?_
  refine xr_iconst (v := -1) dX10_count_73 rfl ?_
  exact xr_iret dX10_count_74 rfl rfl (⟨_, rfl, rfl, rfl, rfl, trivial⟩)
set_option maxRecDepth 100000 in
set_option maxHeartbeats 4000000 in
theorem g_X10_music (d : Int32) {l : Launch} {G : xG} {M : xM} {J : xJ} (hI : InvR M) : x_M l G fX10_music 61 0 0 [.ref (62), .int (d)] x_SH M J (qKI WR1 M J (fun r M2 => InvR M2)) := by
  refine xb_of pX10 (Nat.le_of_ble_eq_true rfl) rfl ?_
  obtain ⟨⟨hn, h_hn, e_hn, hw⟩, hbt, ⟨un, wn, h_uw, h_wn, e_un, e_wn⟩, hch, ⟨n, h_n, e_n⟩, htx, ⟨b, h_b, e_b⟩, hkd, ⟨ra, h_ra, e_ra⟩, hsl, ⟨ic, h_ic, e_ic⟩, hS⟩ := hI
  refine xr_aload_n dX10_music_0 0 rfl ?_
  refine xr_iload_n dX10_music_1 1 rfl ?_
  refine xr_callV (As := [.int (d)]) (rest := []) mlX10_285 (g_X10_rowIs d) dX10_music_2 s_62 rfl rfl (Nat.le_of_ble_eq_true rfl) (by decide) ⟨by decide, by decide⟩ (fun v s2 M9 J2 hq => ?_)
  obtain ⟨r2, rfl, rfl, rfl, rfl, hx1⟩ := hq
  try dsimp only [Option.toList, List.cons_append, List.nil_append]
  refine xr_if_ge (tgt := 14) dX10_music_5 rfl (fun c3 => ?_) (fun c3 => ?_)
  · obtain ⟨d_, hd_, rfl⟩ := x_natle (v := d) (N := 5) (K := 5) (by decide) (by decide) (Or.resolve_left hx1 (by grind))
    obtain ⟨hd83, nm, hnm, e_nm⟩ := hsl d_ (by omega)
    refine xr_aload_n dX10_music_14 0 rfl ?_
    refine xr_callV (As := []) (rest := []) mlX10_246 (g_X10_upNow h_hn e_hn (fun kw hkw => by rw [show M 63 (5 + kw) = M 63 (5 + kw) from rfl]; exact hw kw hkw) (by rw [show M 63 16 = M 63 16 from rfl]; exact hbt) (by rw [show M 62 13 = M 62 13 from rfl]; exact htx)) dX10_music_15 s_62 rfl rfl (Nat.le_of_ble_eq_true rfl) (by decide) ⟨by decide, by decide⟩ (fun v s2 M9 J2 hq => ?_)
    obtain ⟨r4, rfl, rfl, rfl, rfl, _⟩ := hq
    try dsimp only [Option.toList, List.cons_append, List.nil_append]
    refine xr_istore_n (ls2 := [(2, .int (r4)), (0, .ref (62)), (1, .int (nI (d_)))]) dX10_music_18 (by decide) rfl ?_
    refine xr_aload_n dX10_music_19 1 rfl ?_
    refine xr_iload_n dX10_music_20 0 rfl ?_
    refine xr_callV (As := [.int (r4)]) (rest := []) mlX10_249 (g_X10_begins1 r4 h_hn e_hn (fun kw hkw => by rw [show M 63 (5 + kw) = M 63 (5 + kw) from rfl]; exact hw kw hkw) (by rw [show M 63 16 = M 63 16 from rfl]; exact hbt) (by rw [show M 62 13 = M 62 13 from rfl]; exact htx)) dX10_music_21 s_62 rfl rfl (Nat.le_of_ble_eq_true rfl) (by decide) ⟨by decide, by decide⟩ (fun v s2 M5 J2 hq => ?_)
    obtain ⟨rfl, rfl, rfl, k6, _⟩ := hq
    try dsimp only [Option.toList, List.cons_append, List.nil_append]
    refine xr_iconst (v := 0) dX10_music_24 rfl ?_
    refine xr_istore_n (ls2 := [(3, .int (0)), (2, .int (r4)), (0, .ref (62)), (1, .int (nI (d_)))]) dX10_music_25 (by decide) rfl ?_
    refine xr_aload_n dX10_music_26 2 rfl ?_
    refine xr_getR flX10_78 dX10_music_27 s_62 rfl ?_
    refine xr_iload_n dX10_music_30 3 rfl ?_
    refine xb_iald (j := d_) (v := nI (nm)) dX10_music_31 s_84 (by omega) (by decide) (Eq.trans (k6 84 d_ (by unfold WR1; omega)) e_nm) ?_
    refine xr_if_le (tgt := 61) dX10_music_32 rfl (fun c7 => ?_) (fun c7 => ?_)
    · refine xr_ldc2 coX10_288 dX10_music_61 ?_
      refine xr_lstore (ls2 := [(4, .long ((-1))), (3, .int (0)), (2, .int (r4)), (0, .ref (62)), (1, .int (nI (d_)))]) dX10_music_64 (by decide) rfl ?_
      refine xr_iconst (v := 0) dX10_music_66 rfl ?_
      refine xr_istore (ls2 := [(6, .int (0)), (4, .long ((-1))), (3, .int (0)), (2, .int (r4)), (0, .ref (62)), (1, .int (nI (d_)))]) dX10_music_67 (by decide) rfl ?_
      refine xb_ls (ls2 := [(6, .int (nI (0))), (4, .long ((-1))), (3, .int (nI (0))), (2, .int (r4)), (1, .int (nI (d_))), (0, .ref (62))]) [0, 1, 2, 3, 5, 4] rfl ?_
      exact rmu_l (d := d_) (by omega) hnm h_hn (Eq.trans (k6 62 6 (by decide)) e_hn) (fun kw hkw => by rw [show M5 63 (5 + kw) = M 63 (5 + kw) from (Eq.trans (k6 63 (5 + kw) (by unfold WR1; omega)) rfl)]; exact hw kw hkw) (by rw [show M5 63 16 = M 63 16 from (Eq.trans (k6 63 16 (by unfold WR1; omega)) rfl)]; exact hbt) (by rw [show M5 62 13 = M 62 13 from (Eq.trans (k6 62 13 (by unfold WR1; omega)) rfl)]; exact htx) (Eq.trans (k6 84 d_ (by unfold WR1; omega)) e_nm) (fun r M2 hk => ⟨_, rfl, rfl, rfl, Ke.tr (fun _ _ h => h) (Ke.tr (fun _ _ h => h) Ke.rf k6) hk, ⟨⟨hn, by omega, (Eq.trans (hk 62 6 (by decide)) (Eq.trans (k6 62 6 (by decide)) e_hn)), (fun kw hkw => by rw [show M2 63 (5 + kw) = M 63 (5 + kw) from (Eq.trans (hk 63 (5 + kw) (by unfold WR1; omega)) (Eq.trans (k6 63 (5 + kw) (by unfold WR1; omega)) rfl))]; exact hw kw hkw)⟩, (by rw [show M2 63 16 = M 63 16 from (Eq.trans (hk 63 16 (by unfold WR1; omega)) (Eq.trans (k6 63 16 (by unfold WR1; omega)) rfl))]; exact hbt), ⟨un, wn, by omega, by omega, (Eq.trans (hk 62 5 (by decide)) (Eq.trans (k6 62 5 (by decide)) e_un)), (Eq.trans (hk 62 4 (by decide)) (Eq.trans (k6 62 4 (by decide)) e_wn))⟩, (fun kk hkk => by rw [show M2 64 kk = M 64 kk from (Eq.trans (hk 64 kk (by unfold WR1; omega)) (Eq.trans (k6 64 kk (by unfold WR1; omega)) rfl)), show M2 65 kk = M 65 kk from (Eq.trans (hk 65 kk (by unfold WR1; omega)) (Eq.trans (k6 65 kk (by unfold WR1; omega)) rfl)), show M2 66 kk = M 66 kk from (Eq.trans (hk 66 kk (by unfold WR1; omega)) (Eq.trans (k6 66 kk (by unfold WR1; omega)) rfl))]; exact hch kk hkk), ⟨n, by omega, (Eq.trans (hk 62 11 (by decide)) (Eq.trans (k6 62 11 (by decide)) e_n))⟩, (by rw [show M2 62 13 = M 62 13 from (Eq.trans (hk 62 13 (by unfold WR1; omega)) (Eq.trans (k6 62 13 (by unfold WR1; omega)) rfl))]; exact htx), ⟨b, by omega, (Eq.trans (hk 62 36 (by decide)) (Eq.trans (k6 62 36 (by decide)) e_b))⟩, (fun j hj => by obtain ⟨q, hq, eq⟩ := hkd j hj; exact ⟨q, hq, (show M2 81 j = M 81 j from (Eq.trans (hk 81 j (by unfold WR1; omega)) (Eq.trans (k6 81 j (by unfold WR1; omega)) rfl))).trans eq⟩), ⟨ra, by omega, (Eq.trans (hk 62 39 (by decide)) (Eq.trans (k6 62 39 (by decide)) e_ra))⟩, (fun j hj => by rw [show M2 83 j = M 83 j from (Eq.trans (hk 83 j (by unfold WR1; omega)) (Eq.trans (k6 83 j (by unfold WR1; omega)) rfl)), show M2 84 j = M 84 j from (Eq.trans (hk 84 j (by unfold WR1; omega)) (Eq.trans (k6 84 j (by unfold WR1; omega)) rfl))]; exact hsl j hj), ⟨ic, by omega, (Eq.trans (hk 62 34 (by decide)) (Eq.trans (k6 62 34 (by decide)) e_ic))⟩, (fun j hj => by obtain ⟨q, hq, eq⟩ := hS j hj; exact ⟨q, hq, (show M2 75 j = M 75 j from (Eq.trans (hk 75 j (by unfold WR1; omega)) (Eq.trans (k6 75 j (by unfold WR1; omega)) rfl))).trans eq⟩)⟩⟩) 200 0 0 _ M5 (by omega) (Nat.le_refl _) Ke.rf
    · refine xr_aload_n dX10_music_35 2 rfl ?_
      refine xr_getR flX10_81 dX10_music_36 s_62 rfl ?_
      refine xr_bipush (v := 60) dX10_music_39 rfl ?_
      refine xr_iload_n dX10_music_41 3 rfl ?_
      refine xr_imul dX10_music_42 ?_
      refine xb_top (y := nI (60 * d_)) (nI_mulc 60 d_) ?_
      refine xb_lald (j := 60 * d_) (v := J 85 (60 * d_)) dX10_music_43 s_85 (by omega) (by decide) rfl ?_
      refine xr_lconst (v := 1) dX10_music_44 rfl ?_
      refine xr_lcmp dX10_music_45 ?_
      refine xl_lt (tgt := 61) dX10_music_46 rfl (fun c8 => ?_) (fun c8 => ?_)
      · refine xr_ldc2 coX10_288 dX10_music_61 ?_
        refine xr_lstore (ls2 := [(4, .long ((-1))), (3, .int (0)), (2, .int (r4)), (0, .ref (62)), (1, .int (nI (d_)))]) dX10_music_64 (by decide) rfl ?_
        refine xr_iconst (v := 0) dX10_music_66 rfl ?_
        refine xr_istore (ls2 := [(6, .int (0)), (4, .long ((-1))), (3, .int (0)), (2, .int (r4)), (0, .ref (62)), (1, .int (nI (d_)))]) dX10_music_67 (by decide) rfl ?_
        refine xb_ls (ls2 := [(6, .int (nI (0))), (4, .long ((-1))), (3, .int (nI (0))), (2, .int (r4)), (1, .int (nI (d_))), (0, .ref (62))]) [0, 1, 2, 3, 5, 4] rfl ?_
        exact rmu_l (d := d_) (by omega) hnm h_hn (Eq.trans (k6 62 6 (by decide)) e_hn) (fun kw hkw => by rw [show M5 63 (5 + kw) = M 63 (5 + kw) from (Eq.trans (k6 63 (5 + kw) (by unfold WR1; omega)) rfl)]; exact hw kw hkw) (by rw [show M5 63 16 = M 63 16 from (Eq.trans (k6 63 16 (by unfold WR1; omega)) rfl)]; exact hbt) (by rw [show M5 62 13 = M 62 13 from (Eq.trans (k6 62 13 (by unfold WR1; omega)) rfl)]; exact htx) (Eq.trans (k6 84 d_ (by unfold WR1; omega)) e_nm) (fun r M2 hk => ⟨_, rfl, rfl, rfl, Ke.tr (fun _ _ h => h) (Ke.tr (fun _ _ h => h) Ke.rf k6) hk, ⟨⟨hn, by omega, (Eq.trans (hk 62 6 (by decide)) (Eq.trans (k6 62 6 (by decide)) e_hn)), (fun kw hkw => by rw [show M2 63 (5 + kw) = M 63 (5 + kw) from (Eq.trans (hk 63 (5 + kw) (by unfold WR1; omega)) (Eq.trans (k6 63 (5 + kw) (by unfold WR1; omega)) rfl))]; exact hw kw hkw)⟩, (by rw [show M2 63 16 = M 63 16 from (Eq.trans (hk 63 16 (by unfold WR1; omega)) (Eq.trans (k6 63 16 (by unfold WR1; omega)) rfl))]; exact hbt), ⟨un, wn, by omega, by omega, (Eq.trans (hk 62 5 (by decide)) (Eq.trans (k6 62 5 (by decide)) e_un)), (Eq.trans (hk 62 4 (by decide)) (Eq.trans (k6 62 4 (by decide)) e_wn))⟩, (fun kk hkk => by rw [show M2 64 kk = M 64 kk from (Eq.trans (hk 64 kk (by unfold WR1; omega)) (Eq.trans (k6 64 kk (by unfold WR1; omega)) rfl)), show M2 65 kk = M 65 kk from (Eq.trans (hk 65 kk (by unfold WR1; omega)) (Eq.trans (k6 65 kk (by unfold WR1; omega)) rfl)), show M2 66 kk = M 66 kk from (Eq.trans (hk 66 kk (by unfold WR1; omega)) (Eq.trans (k6 66 kk (by unfold WR1; omega)) rfl))]; exact hch kk hkk), ⟨n, by omega, (Eq.trans (hk 62 11 (by decide)) (Eq.trans (k6 62 11 (by decide)) e_n))⟩, (by rw [show M2 62 13 = M 62 13 from (Eq.trans (hk 62 13 (by unfold WR1; omega)) (Eq.trans (k6 62 13 (by unfold WR1; omega)) rfl))]; exact htx), ⟨b, by omega, (Eq.trans (hk 62 36 (by decide)) (Eq.trans (k6 62 36 (by decide)) e_b))⟩, (fun j hj => by obtain ⟨q, hq, eq⟩ := hkd j hj; exact ⟨q, hq, (show M2 81 j = M 81 j from (Eq.trans (hk 81 j (by unfold WR1; omega)) (Eq.trans (k6 81 j (by unfold WR1; omega)) rfl))).trans eq⟩), ⟨ra, by omega, (Eq.trans (hk 62 39 (by decide)) (Eq.trans (k6 62 39 (by decide)) e_ra))⟩, (fun j hj => by rw [show M2 83 j = M 83 j from (Eq.trans (hk 83 j (by unfold WR1; omega)) (Eq.trans (k6 83 j (by unfold WR1; omega)) rfl)), show M2 84 j = M 84 j from (Eq.trans (hk 84 j (by unfold WR1; omega)) (Eq.trans (k6 84 j (by unfold WR1; omega)) rfl))]; exact hsl j hj), ⟨ic, by omega, (Eq.trans (hk 62 34 (by decide)) (Eq.trans (k6 62 34 (by decide)) e_ic))⟩, (fun j hj => by obtain ⟨q, hq, eq⟩ := hS j hj; exact ⟨q, hq, (show M2 75 j = M 75 j from (Eq.trans (hk 75 j (by unfold WR1; omega)) (Eq.trans (k6 75 j (by unfold WR1; omega)) rfl))).trans eq⟩)⟩⟩) 200 0 0 _ M5 (by omega) (Nat.le_refl _) Ke.rf
      · refine xr_aload_n dX10_music_49 2 rfl ?_
        refine xr_getR flX10_81 dX10_music_50 s_62 rfl ?_
        refine xr_bipush (v := 60) dX10_music_53 rfl ?_
        refine xr_iload_n dX10_music_55 3 rfl ?_
        refine xr_imul dX10_music_56 ?_
        refine xb_top (y := nI (60 * d_)) (nI_mulc 60 d_) ?_
        refine xb_lald (j := 60 * d_) (v := J 85 (60 * d_)) dX10_music_57 s_85 (by omega) (by decide) rfl ?_
        refine xr_goto (tgt := 64) dX10_music_58 rfl ?_
        refine xr_lstore (ls2 := [(4, .long (J 85 (60 * d_))), (3, .int (0)), (2, .int (r4)), (0, .ref (62)), (1, .int (nI (d_)))]) dX10_music_64 (by decide) rfl ?_
        refine xr_iconst (v := 0) dX10_music_66 rfl ?_
        refine xr_istore (ls2 := [(6, .int (0)), (4, .long (J 85 (60 * d_))), (3, .int (0)), (2, .int (r4)), (0, .ref (62)), (1, .int (nI (d_)))]) dX10_music_67 (by decide) rfl ?_
        refine xb_ls (ls2 := [(6, .int (nI (0))), (4, .long (J 85 (60 * d_))), (3, .int (nI (0))), (2, .int (r4)), (1, .int (nI (d_))), (0, .ref (62))]) [0, 1, 2, 3, 5, 4] rfl ?_
        exact rmu_l (d := d_) (by omega) hnm h_hn (Eq.trans (k6 62 6 (by decide)) e_hn) (fun kw hkw => by rw [show M5 63 (5 + kw) = M 63 (5 + kw) from (Eq.trans (k6 63 (5 + kw) (by unfold WR1; omega)) rfl)]; exact hw kw hkw) (by rw [show M5 63 16 = M 63 16 from (Eq.trans (k6 63 16 (by unfold WR1; omega)) rfl)]; exact hbt) (by rw [show M5 62 13 = M 62 13 from (Eq.trans (k6 62 13 (by unfold WR1; omega)) rfl)]; exact htx) (Eq.trans (k6 84 d_ (by unfold WR1; omega)) e_nm) (fun r M2 hk => ⟨_, rfl, rfl, rfl, Ke.tr (fun _ _ h => h) (Ke.tr (fun _ _ h => h) Ke.rf k6) hk, ⟨⟨hn, by omega, (Eq.trans (hk 62 6 (by decide)) (Eq.trans (k6 62 6 (by decide)) e_hn)), (fun kw hkw => by rw [show M2 63 (5 + kw) = M 63 (5 + kw) from (Eq.trans (hk 63 (5 + kw) (by unfold WR1; omega)) (Eq.trans (k6 63 (5 + kw) (by unfold WR1; omega)) rfl))]; exact hw kw hkw)⟩, (by rw [show M2 63 16 = M 63 16 from (Eq.trans (hk 63 16 (by unfold WR1; omega)) (Eq.trans (k6 63 16 (by unfold WR1; omega)) rfl))]; exact hbt), ⟨un, wn, by omega, by omega, (Eq.trans (hk 62 5 (by decide)) (Eq.trans (k6 62 5 (by decide)) e_un)), (Eq.trans (hk 62 4 (by decide)) (Eq.trans (k6 62 4 (by decide)) e_wn))⟩, (fun kk hkk => by rw [show M2 64 kk = M 64 kk from (Eq.trans (hk 64 kk (by unfold WR1; omega)) (Eq.trans (k6 64 kk (by unfold WR1; omega)) rfl)), show M2 65 kk = M 65 kk from (Eq.trans (hk 65 kk (by unfold WR1; omega)) (Eq.trans (k6 65 kk (by unfold WR1; omega)) rfl)), show M2 66 kk = M 66 kk from (Eq.trans (hk 66 kk (by unfold WR1; omega)) (Eq.trans (k6 66 kk (by unfold WR1; omega)) rfl))]; exact hch kk hkk), ⟨n, by omega, (Eq.trans (hk 62 11 (by decide)) (Eq.trans (k6 62 11 (by decide)) e_n))⟩, (by rw [show M2 62 13 = M 62 13 from (Eq.trans (hk 62 13 (by unfold WR1; omega)) (Eq.trans (k6 62 13 (by unfold WR1; omega)) rfl))]; exact htx), ⟨b, by omega, (Eq.trans (hk 62 36 (by decide)) (Eq.trans (k6 62 36 (by decide)) e_b))⟩, (fun j hj => by obtain ⟨q, hq, eq⟩ := hkd j hj; exact ⟨q, hq, (show M2 81 j = M 81 j from (Eq.trans (hk 81 j (by unfold WR1; omega)) (Eq.trans (k6 81 j (by unfold WR1; omega)) rfl))).trans eq⟩), ⟨ra, by omega, (Eq.trans (hk 62 39 (by decide)) (Eq.trans (k6 62 39 (by decide)) e_ra))⟩, (fun j hj => by rw [show M2 83 j = M 83 j from (Eq.trans (hk 83 j (by unfold WR1; omega)) (Eq.trans (k6 83 j (by unfold WR1; omega)) rfl)), show M2 84 j = M 84 j from (Eq.trans (hk 84 j (by unfold WR1; omega)) (Eq.trans (k6 84 j (by unfold WR1; omega)) rfl))]; exact hsl j hj), ⟨ic, by omega, (Eq.trans (hk 62 34 (by decide)) (Eq.trans (k6 62 34 (by decide)) e_ic))⟩, (fun j hj => by obtain ⟨q, hq, eq⟩ := hS j hj; exact ⟨q, hq, (show M2 75 j = M 75 j from (Eq.trans (hk 75 j (by unfold WR1; omega)) (Eq.trans (k6 75 j (by unfold WR1; omega)) rfl))).trans eq⟩)⟩⟩) 200 0 0 _ M5 (by omega) (Nat.le_refl _) Ke.rf
  · refine xr_aload_n dX10_music_8 0 rfl ?_
    refine xr_iload_n dX10_music_9 1 rfl ?_
    refine xr_callV (As := [.int (d)]) (rest := []) mlX10_285 (g_X10_rowIs d) dX10_music_10 s_62 rfl rfl (Nat.le_of_ble_eq_true rfl) (by decide) ⟨by decide, by decide⟩ (fun v s2 M9 J2 hq => ?_)
    obtain ⟨r10, rfl, rfl, rfl, rfl, hx9⟩ := hq
    try dsimp only [Option.toList, List.cons_append, List.nil_append]
    exact xr_iret dX10_music_13 rfl rfl (⟨_, rfl, rfl, rfl, Ke.rf, ⟨⟨hn, by omega, e_hn, (fun kw hkw => by rw [show M 63 (5 + kw) = M 63 (5 + kw) from rfl]; exact hw kw hkw)⟩, (by rw [show M 63 16 = M 63 16 from rfl]; exact hbt), ⟨un, wn, by omega, by omega, e_un, e_wn⟩, (fun kk hkk => by rw [show M 64 kk = M 64 kk from rfl, show M 65 kk = M 65 kk from rfl, show M 66 kk = M 66 kk from rfl]; exact hch kk hkk), ⟨n, by omega, e_n⟩, (by rw [show M 62 13 = M 62 13 from rfl]; exact htx), ⟨b, by omega, e_b⟩, (fun j hj => by obtain ⟨q, hq, eq⟩ := hkd j hj; exact ⟨q, hq, (show M 81 j = M 81 j from rfl).trans eq⟩), ⟨ra, by omega, e_ra⟩, (fun j hj => by rw [show M 83 j = M 83 j from rfl, show M 84 j = M 84 j from rfl]; exact hsl j hj), ⟨ic, by omega, e_ic⟩, (fun j hj => by obtain ⟨q, hq, eq⟩ := hS j hj; exact ⟨q, hq, (show M 75 j = M 75 j from rfl).trans eq⟩)⟩⟩)
set_option maxRecDepth 100000 in
set_option maxHeartbeats 4000000 in
theorem g_X10_hoops (d i nn : Int32) {l : Launch} {G : xG} {M : xM} {J : xJ} (hI : InvR M) : x_M l G fX10_hoops 2 0 0 [.ref (62), .int (d), .int (i), .int (nn)] x_SH M J (qKI WAD M J (fun r M2 => InvR M2)) := by
  refine xb_of pX10 (Nat.le_of_ble_eq_true rfl) rfl ?_
  obtain ⟨⟨hn, h_hn, e_hn, hw⟩, hbt, ⟨un, wn, h_uw, h_wn, e_un, e_wn⟩, hch, ⟨n, h_n, e_n⟩, htx, ⟨b, h_b, e_b⟩, hkd, ⟨ra, h_ra, e_ra⟩, hsl, ⟨ic, h_ic, e_ic⟩, hS⟩ := hI
  refine xr_iload_n dX10_hoops_0 1 rfl ?_
  refine xb_cS (As := [.int (d)]) (rest := []) mlX10_125 (c_X10_isShelf d) dX10_hoops_1 rfl rfl (Nat.le_of_ble_eq_true rfl) (by decide) (by decide) ?_
  refine xb_beq (tgt := 19) dX10_hoops_4 rfl (fun c1 => ?_) (fun c1 => ?_)
  · refine xr_iconst (v := -1) dX10_hoops_19 rfl ?_
    exact xr_iret dX10_hoops_20 rfl rfl (⟨_, rfl, rfl, rfl, Ke.rf, ⟨⟨hn, by omega, e_hn, (fun kw hkw => by rw [show M 63 (5 + kw) = M 63 (5 + kw) from rfl]; exact hw kw hkw)⟩, (by rw [show M 63 16 = M 63 16 from rfl]; exact hbt), ⟨un, wn, by omega, by omega, e_un, e_wn⟩, (fun kk hkk => by rw [show M 64 kk = M 64 kk from rfl, show M 65 kk = M 65 kk from rfl, show M 66 kk = M 66 kk from rfl]; exact hch kk hkk), ⟨n, by omega, e_n⟩, (by rw [show M 62 13 = M 62 13 from rfl]; exact htx), ⟨b, by omega, e_b⟩, (fun j hj => by obtain ⟨q, hq, eq⟩ := hkd j hj; exact ⟨q, hq, (show M 81 j = M 81 j from rfl).trans eq⟩), ⟨ra, by omega, e_ra⟩, (fun j hj => by rw [show M 83 j = M 83 j from rfl, show M 84 j = M 84 j from rfl]; exact hsl j hj), ⟨ic, by omega, e_ic⟩, (fun j hj => by obtain ⟨q, hq, eq⟩ := hS j hj; exact ⟨q, hq, (show M 75 j = M 75 j from rfl).trans eq⟩)⟩⟩)
  · obtain ⟨d_, hd_, rfl⟩ := x_natle (N := 5) (by decide) rfl c1
    replace hd_ := Nat.lt_succ_of_le hd_
    refine xr_iload_n dX10_hoops_7 3 rfl ?_
    refine xr_i2l dX10_hoops_8 ?_
    refine xr_lconst (v := 1) dX10_hoops_9 rfl ?_
    refine xr_ldc2 coX10_129 dX10_hoops_10 ?_
    refine xb_cS (As := [.long ((nn).toInt64), .long (1), .long (5)]) (rest := []) mlX10_101 (c_within32 (nn) (1) (5) (by decide) (by decide)) dX10_hoops_13 rfl rfl (Nat.le_of_ble_eq_true rfl) (by decide) (by decide) ?_
    refine xb_bne (tgt := 21) dX10_hoops_16 rfl (fun c2 => ?_) (fun c2 => ?_)
    · obtain ⟨hd83, nm, hnm, e_nm⟩ := hsl d_ hd_
      obtain ⟨N, hN, rfl⟩ := x_natle (v := nn) (N := 5) (K := 5) (by decide) (by decide) ⟨by grind, c2.2⟩
      refine xr_aload_n dX10_hoops_21 0 rfl ?_
      refine xr_getR flX10_75 dX10_hoops_22 s_62 rfl ?_
      refine xr_iload_n dX10_hoops_25 1 rfl ?_
      refine xb_iald (j := d_) (v := M 83 d_) dX10_hoops_26 s_83 hd_ (by decide) rfl ?_
      refine xr_if_lt (tgt := 44) dX10_hoops_27 rfl (fun c3 => ?_) (fun c3 => ?_)
      · refine xr_iconst (v := 0) dX10_hoops_44 rfl ?_
        refine xr_istore (ls2 := [(4, .int (0)), (0, .ref (62)), (1, .int (nI (d_))), (2, .int (i)), (3, .int (nI (N)))]) dX10_hoops_45 (by decide) rfl ?_
        refine xr_aload_n dX10_hoops_47 1 rfl ?_
        refine xr_getR flX10_75 dX10_hoops_48 s_62 rfl ?_
        refine xr_iload_n dX10_hoops_51 2 rfl ?_
        refine xb_iald (j := d_) (v := M 83 d_) dX10_hoops_52 s_83 hd_ (by decide) rfl ?_
        refine xr_bipush (v := 50) dX10_hoops_53 rfl ?_
        refine xr_icmp_ne (tgt := 66) dX10_hoops_55 rfl (fun c4 => ?_) (fun c4 => ?_)
        · refine xr_iconst (v := 0) dX10_hoops_66 rfl ?_
          refine xr_istore (ls2 := [(5, .int (0)), (4, .int (0)), (0, .ref (62)), (1, .int (nI (d_))), (2, .int (i)), (3, .int (nI (N)))]) dX10_hoops_67 (by decide) rfl ?_
          refine xr_iload dX10_hoops_69 0 rfl ?_
          refine xr_if_eq (tgt := 211) dX10_hoops_71 rfl (fun _ => ?_) (fun c => absurd (by decide) c)
          refine xr_iload dX10_hoops_211 1 rfl ?_
          exact xr_iret dX10_hoops_213 rfl rfl (⟨_, rfl, rfl, rfl, Ke.rf, ⟨⟨hn, by omega, e_hn, (fun kw hkw => by rw [show M 63 (5 + kw) = M 63 (5 + kw) from rfl]; exact hw kw hkw)⟩, (by rw [show M 63 16 = M 63 16 from rfl]; exact hbt), ⟨un, wn, by omega, by omega, e_un, e_wn⟩, (fun kk hkk => by rw [show M 64 kk = M 64 kk from rfl, show M 65 kk = M 65 kk from rfl, show M 66 kk = M 66 kk from rfl]; exact hch kk hkk), ⟨n, by omega, e_n⟩, (by rw [show M 62 13 = M 62 13 from rfl]; exact htx), ⟨b, by omega, e_b⟩, (fun j hj => by obtain ⟨q, hq, eq⟩ := hkd j hj; exact ⟨q, hq, (show M 81 j = M 81 j from rfl).trans eq⟩), ⟨ra, by omega, e_ra⟩, (fun j hj => by rw [show M 83 j = M 83 j from rfl, show M 84 j = M 84 j from rfl]; exact hsl j hj), ⟨ic, by omega, e_ic⟩, (fun j hj => by obtain ⟨q, hq, eq⟩ := hS j hj; exact ⟨q, hq, (show M 75 j = M 75 j from rfl).trans eq⟩)⟩⟩)
        · refine xr_iload_n dX10_hoops_58 3 rfl ?_
          refine xr_if_lt (tgt := 66) dX10_hoops_59 rfl (fun c5 => ?_) (fun c5 => ?_)
          · refine xr_iconst (v := 0) dX10_hoops_66 rfl ?_
            refine xr_istore (ls2 := [(5, .int (0)), (4, .int (0)), (0, .ref (62)), (1, .int (nI (d_))), (2, .int (i)), (3, .int (nI (N)))]) dX10_hoops_67 (by decide) rfl ?_
            refine xr_iload dX10_hoops_69 0 rfl ?_
            refine xr_if_eq (tgt := 211) dX10_hoops_71 rfl (fun _ => ?_) (fun c => absurd (by decide) c)
            refine xr_iload dX10_hoops_211 1 rfl ?_
            exact xr_iret dX10_hoops_213 rfl rfl (⟨_, rfl, rfl, rfl, Ke.rf, ⟨⟨hn, by omega, e_hn, (fun kw hkw => by rw [show M 63 (5 + kw) = M 63 (5 + kw) from rfl]; exact hw kw hkw)⟩, (by rw [show M 63 16 = M 63 16 from rfl]; exact hbt), ⟨un, wn, by omega, by omega, e_un, e_wn⟩, (fun kk hkk => by rw [show M 64 kk = M 64 kk from rfl, show M 65 kk = M 65 kk from rfl, show M 66 kk = M 66 kk from rfl]; exact hch kk hkk), ⟨n, by omega, e_n⟩, (by rw [show M 62 13 = M 62 13 from rfl]; exact htx), ⟨b, by omega, e_b⟩, (fun j hj => by obtain ⟨q, hq, eq⟩ := hkd j hj; exact ⟨q, hq, (show M 81 j = M 81 j from rfl).trans eq⟩), ⟨ra, by omega, e_ra⟩, (fun j hj => by rw [show M 83 j = M 83 j from rfl, show M 84 j = M 84 j from rfl]; exact hsl j hj), ⟨ic, by omega, e_ic⟩, (fun j hj => by obtain ⟨q, hq, eq⟩ := hS j hj; exact ⟨q, hq, (show M 75 j = M 75 j from rfl).trans eq⟩)⟩⟩)
          · refine xr_iconst (v := 1) dX10_hoops_62 rfl ?_
            refine xr_goto (tgt := 67) dX10_hoops_63 rfl ?_
            refine xr_istore (ls2 := [(5, .int (1)), (4, .int (0)), (0, .ref (62)), (1, .int (nI (d_))), (2, .int (i)), (3, .int (nI (N)))]) dX10_hoops_67 (by decide) rfl ?_
            obtain ⟨i_, hi_, rfl⟩ := sx_nat0 c5
            refine xb_ls (ls2 := [(5, .int (1)), (4, .int (nI (0))), (3, .int (nI (N))), (2, .int (nI (i_))), (1, .int (nI (d_))), (0, .ref (62))]) [0, 1, 5, 4, 3, 2] rfl ?_
            refine rho_l hd_ hnm (by omega) hi_ e_nm (fun r M2 hk hI2 => ⟨_, rfl, rfl, rfl, hk, ?_⟩) N 0 M (by omega) Ke.rf ⟨⟨hn, h_hn, e_hn, hw⟩, hbt⟩
            exact ⟨hI2.1, hI2.2, ⟨un, wn, by omega, by omega, (Eq.trans (hk 62 5 (by decide)) e_un), (Eq.trans (hk 62 4 (by decide)) e_wn)⟩, (fun kk hkk => by rw [show M2 64 kk = M 64 kk from (Eq.trans (hk 64 kk (by unfold WAD; omega)) rfl), show M2 65 kk = M 65 kk from (Eq.trans (hk 65 kk (by unfold WAD; omega)) rfl), show M2 66 kk = M 66 kk from (Eq.trans (hk 66 kk (by unfold WAD; omega)) rfl)]; exact hch kk hkk), ⟨n, by omega, (Eq.trans (hk 62 11 (by decide)) e_n)⟩, (by rw [show M2 62 13 = M 62 13 from (Eq.trans (hk 62 13 (by unfold WAD; omega)) rfl)]; exact htx), ⟨b, by omega, (Eq.trans (hk 62 36 (by decide)) e_b)⟩, (fun j hj => by obtain ⟨q, hq, eq⟩ := hkd j hj; exact ⟨q, hq, (show M2 81 j = M 81 j from (Eq.trans (hk 81 j (by unfold WAD; omega)) rfl)).trans eq⟩), ⟨ra, by omega, (Eq.trans (hk 62 39 (by decide)) e_ra)⟩, (fun j hj => by rw [show M2 83 j = M 83 j from (Eq.trans (hk 83 j (by unfold WAD; omega)) rfl), show M2 84 j = M 84 j from (Eq.trans (hk 84 j (by unfold WAD; omega)) rfl)]; exact hsl j hj), ⟨ic, by omega, (Eq.trans (hk 62 34 (by decide)) e_ic)⟩, (fun j hj => by obtain ⟨q, hq, eq⟩ := hS j hj; exact ⟨q, hq, (show M2 75 j = M 75 j from (Eq.trans (hk 75 j (by unfold WAD; omega)) rfl)).trans eq⟩)⟩
      · refine xr_aload_n dX10_hoops_30 0 rfl ?_
        refine xr_getR flX10_75 dX10_hoops_31 s_62 rfl ?_
        refine xr_iload_n dX10_hoops_34 1 rfl ?_
        refine xb_iald (j := d_) (v := M 83 d_) dX10_hoops_35 s_83 hd_ (by decide) rfl ?_
        refine xr_bipush (v := 50) dX10_hoops_36 rfl ?_
        refine xr_icmp_eq (tgt := 44) dX10_hoops_38 rfl (fun c6 => ?_) (fun c6 => ?_)
        · refine xr_iconst (v := 0) dX10_hoops_44 rfl ?_
          refine xr_istore (ls2 := [(4, .int (0)), (0, .ref (62)), (1, .int (nI (d_))), (2, .int (i)), (3, .int (nI (N)))]) dX10_hoops_45 (by decide) rfl ?_
          refine xr_aload_n dX10_hoops_47 1 rfl ?_
          refine xr_getR flX10_75 dX10_hoops_48 s_62 rfl ?_
          refine xr_iload_n dX10_hoops_51 2 rfl ?_
          refine xb_iald (j := d_) (v := M 83 d_) dX10_hoops_52 s_83 hd_ (by decide) rfl ?_
          refine xr_bipush (v := 50) dX10_hoops_53 rfl ?_
          refine xr_icmp_ne (tgt := 66) dX10_hoops_55 rfl (fun c7 => ?_) (fun c7 => ?_)
          · refine xr_iconst (v := 0) dX10_hoops_66 rfl ?_
            refine xr_istore (ls2 := [(5, .int (0)), (4, .int (0)), (0, .ref (62)), (1, .int (nI (d_))), (2, .int (i)), (3, .int (nI (N)))]) dX10_hoops_67 (by decide) rfl ?_
            refine xr_iload dX10_hoops_69 0 rfl ?_
            refine xr_if_eq (tgt := 211) dX10_hoops_71 rfl (fun _ => ?_) (fun c => absurd (by decide) c)
            refine xr_iload dX10_hoops_211 1 rfl ?_
            exact xr_iret dX10_hoops_213 rfl rfl (⟨_, rfl, rfl, rfl, Ke.rf, ⟨⟨hn, by omega, e_hn, (fun kw hkw => by rw [show M 63 (5 + kw) = M 63 (5 + kw) from rfl]; exact hw kw hkw)⟩, (by rw [show M 63 16 = M 63 16 from rfl]; exact hbt), ⟨un, wn, by omega, by omega, e_un, e_wn⟩, (fun kk hkk => by rw [show M 64 kk = M 64 kk from rfl, show M 65 kk = M 65 kk from rfl, show M 66 kk = M 66 kk from rfl]; exact hch kk hkk), ⟨n, by omega, e_n⟩, (by rw [show M 62 13 = M 62 13 from rfl]; exact htx), ⟨b, by omega, e_b⟩, (fun j hj => by obtain ⟨q, hq, eq⟩ := hkd j hj; exact ⟨q, hq, (show M 81 j = M 81 j from rfl).trans eq⟩), ⟨ra, by omega, e_ra⟩, (fun j hj => by rw [show M 83 j = M 83 j from rfl, show M 84 j = M 84 j from rfl]; exact hsl j hj), ⟨ic, by omega, e_ic⟩, (fun j hj => by obtain ⟨q, hq, eq⟩ := hS j hj; exact ⟨q, hq, (show M 75 j = M 75 j from rfl).trans eq⟩)⟩⟩)
          · refine xr_iload_n dX10_hoops_58 3 rfl ?_
            refine xr_if_lt (tgt := 66) dX10_hoops_59 rfl (fun c8 => ?_) (fun c8 => ?_)
            · refine xr_iconst (v := 0) dX10_hoops_66 rfl ?_
              refine xr_istore (ls2 := [(5, .int (0)), (4, .int (0)), (0, .ref (62)), (1, .int (nI (d_))), (2, .int (i)), (3, .int (nI (N)))]) dX10_hoops_67 (by decide) rfl ?_
              refine xr_iload dX10_hoops_69 0 rfl ?_
              refine xr_if_eq (tgt := 211) dX10_hoops_71 rfl (fun _ => ?_) (fun c => absurd (by decide) c)
              refine xr_iload dX10_hoops_211 1 rfl ?_
              exact xr_iret dX10_hoops_213 rfl rfl (⟨_, rfl, rfl, rfl, Ke.rf, ⟨⟨hn, by omega, e_hn, (fun kw hkw => by rw [show M 63 (5 + kw) = M 63 (5 + kw) from rfl]; exact hw kw hkw)⟩, (by rw [show M 63 16 = M 63 16 from rfl]; exact hbt), ⟨un, wn, by omega, by omega, e_un, e_wn⟩, (fun kk hkk => by rw [show M 64 kk = M 64 kk from rfl, show M 65 kk = M 65 kk from rfl, show M 66 kk = M 66 kk from rfl]; exact hch kk hkk), ⟨n, by omega, e_n⟩, (by rw [show M 62 13 = M 62 13 from rfl]; exact htx), ⟨b, by omega, e_b⟩, (fun j hj => by obtain ⟨q, hq, eq⟩ := hkd j hj; exact ⟨q, hq, (show M 81 j = M 81 j from rfl).trans eq⟩), ⟨ra, by omega, e_ra⟩, (fun j hj => by rw [show M 83 j = M 83 j from rfl, show M 84 j = M 84 j from rfl]; exact hsl j hj), ⟨ic, by omega, e_ic⟩, (fun j hj => by obtain ⟨q, hq, eq⟩ := hS j hj; exact ⟨q, hq, (show M 75 j = M 75 j from rfl).trans eq⟩)⟩⟩)
            · refine xr_iconst (v := 1) dX10_hoops_62 rfl ?_
              refine xr_goto (tgt := 67) dX10_hoops_63 rfl ?_
              refine xr_istore (ls2 := [(5, .int (1)), (4, .int (0)), (0, .ref (62)), (1, .int (nI (d_))), (2, .int (i)), (3, .int (nI (N)))]) dX10_hoops_67 (by decide) rfl ?_
              obtain ⟨i_, hi_, rfl⟩ := sx_nat0 c8
              refine xb_ls (ls2 := [(5, .int (1)), (4, .int (nI (0))), (3, .int (nI (N))), (2, .int (nI (i_))), (1, .int (nI (d_))), (0, .ref (62))]) [0, 1, 5, 4, 3, 2] rfl ?_
              refine rho_l hd_ hnm (by omega) hi_ e_nm (fun r M2 hk hI2 => ⟨_, rfl, rfl, rfl, hk, ?_⟩) N 0 M (by omega) Ke.rf ⟨⟨hn, h_hn, e_hn, hw⟩, hbt⟩
              exact ⟨hI2.1, hI2.2, ⟨un, wn, by omega, by omega, (Eq.trans (hk 62 5 (by decide)) e_un), (Eq.trans (hk 62 4 (by decide)) e_wn)⟩, (fun kk hkk => by rw [show M2 64 kk = M 64 kk from (Eq.trans (hk 64 kk (by unfold WAD; omega)) rfl), show M2 65 kk = M 65 kk from (Eq.trans (hk 65 kk (by unfold WAD; omega)) rfl), show M2 66 kk = M 66 kk from (Eq.trans (hk 66 kk (by unfold WAD; omega)) rfl)]; exact hch kk hkk), ⟨n, by omega, (Eq.trans (hk 62 11 (by decide)) e_n)⟩, (by rw [show M2 62 13 = M 62 13 from (Eq.trans (hk 62 13 (by unfold WAD; omega)) rfl)]; exact htx), ⟨b, by omega, (Eq.trans (hk 62 36 (by decide)) e_b)⟩, (fun j hj => by obtain ⟨q, hq, eq⟩ := hkd j hj; exact ⟨q, hq, (show M2 81 j = M 81 j from (Eq.trans (hk 81 j (by unfold WAD; omega)) rfl)).trans eq⟩), ⟨ra, by omega, (Eq.trans (hk 62 39 (by decide)) e_ra)⟩, (fun j hj => by rw [show M2 83 j = M 83 j from (Eq.trans (hk 83 j (by unfold WAD; omega)) rfl), show M2 84 j = M 84 j from (Eq.trans (hk 84 j (by unfold WAD; omega)) rfl)]; exact hsl j hj), ⟨ic, by omega, (Eq.trans (hk 62 34 (by decide)) e_ic)⟩, (fun j hj => by obtain ⟨q, hq, eq⟩ := hS j hj; exact ⟨q, hq, (show M2 75 j = M 75 j from (Eq.trans (hk 75 j (by unfold WAD; omega)) rfl)).trans eq⟩)⟩
        · refine xr_bipush (v := -12) dX10_hoops_41 rfl ?_
          exact xr_iret dX10_hoops_43 rfl rfl (⟨_, rfl, rfl, rfl, Ke.rf, ⟨⟨hn, by omega, e_hn, (fun kw hkw => by rw [show M 63 (5 + kw) = M 63 (5 + kw) from rfl]; exact hw kw hkw)⟩, (by rw [show M 63 16 = M 63 16 from rfl]; exact hbt), ⟨un, wn, by omega, by omega, e_un, e_wn⟩, (fun kk hkk => by rw [show M 64 kk = M 64 kk from rfl, show M 65 kk = M 65 kk from rfl, show M 66 kk = M 66 kk from rfl]; exact hch kk hkk), ⟨n, by omega, e_n⟩, (by rw [show M 62 13 = M 62 13 from rfl]; exact htx), ⟨b, by omega, e_b⟩, (fun j hj => by obtain ⟨q, hq, eq⟩ := hkd j hj; exact ⟨q, hq, (show M 81 j = M 81 j from rfl).trans eq⟩), ⟨ra, by omega, e_ra⟩, (fun j hj => by rw [show M 83 j = M 83 j from rfl, show M 84 j = M 84 j from rfl]; exact hsl j hj), ⟨ic, by omega, e_ic⟩, (fun j hj => by obtain ⟨q, hq, eq⟩ := hS j hj; exact ⟨q, hq, (show M 75 j = M 75 j from rfl).trans eq⟩)⟩⟩)
    · refine xr_iconst (v := -1) dX10_hoops_19 rfl ?_
      exact xr_iret dX10_hoops_20 rfl rfl (⟨_, rfl, rfl, rfl, Ke.rf, ⟨⟨hn, by omega, e_hn, (fun kw hkw => by rw [show M 63 (5 + kw) = M 63 (5 + kw) from rfl]; exact hw kw hkw)⟩, (by rw [show M 63 16 = M 63 16 from rfl]; exact hbt), ⟨un, wn, by omega, by omega, e_un, e_wn⟩, (fun kk hkk => by rw [show M 64 kk = M 64 kk from rfl, show M 65 kk = M 65 kk from rfl, show M 66 kk = M 66 kk from rfl]; exact hch kk hkk), ⟨n, by omega, e_n⟩, (by rw [show M 62 13 = M 62 13 from rfl]; exact htx), ⟨b, by omega, e_b⟩, (fun j hj => by obtain ⟨q, hq, eq⟩ := hkd j hj; exact ⟨q, hq, (show M 81 j = M 81 j from rfl).trans eq⟩), ⟨ra, by omega, e_ra⟩, (fun j hj => by rw [show M 83 j = M 83 j from rfl, show M 84 j = M 84 j from rfl]; exact hsl j hj), ⟨ic, by omega, e_ic⟩, (fun j hj => by obtain ⟨q, hq, eq⟩ := hS j hj; exact ⟨q, hq, (show M 75 j = M 75 j from rfl).trans eq⟩)⟩⟩)
