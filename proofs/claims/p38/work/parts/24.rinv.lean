theorem dX10_within_0 : decode cX10_within 0 = .ok (.lload_n 0, 1) := by decide +kernel
theorem dX10_within_1 : decode cX10_within 1 = .ok (.lload_n 2, 1) := by decide +kernel
theorem dX10_within_2 : decode cX10_within 2 = .ok (.lcmp, 1) := by decide +kernel
theorem dX10_within_3 : decode cX10_within 3 = .ok (.ifCond .lt 14, 3) := by decide +kernel
theorem dX10_within_17 : decode cX10_within 17 = .ok (.iconst 0, 1) := by decide +kernel
theorem dX10_within_18 : decode cX10_within 18 = .ok (.ireturn, 1) := by decide +kernel
theorem dX10_within_6 : decode cX10_within 6 = .ok (.lload_n 0, 1) := by decide +kernel
theorem dX10_within_7 : decode cX10_within 7 = .ok (.lload 4, 2) := by decide +kernel
theorem dX10_within_9 : decode cX10_within 9 = .ok (.lcmp, 1) := by decide +kernel
theorem dX10_within_10 : decode cX10_within 10 = .ok (.ifCond .gt 7, 3) := by decide +kernel
theorem dX10_within_13 : decode cX10_within 13 = .ok (.iconst 1, 1) := by decide +kernel
theorem dX10_within_14 : decode cX10_within 14 = .ok (.goto 4, 3) := by decide +kernel
theorem dX10_isGirl_0 : decode cX10_isGirl 0 = .ok (.iload_n 0, 1) := by decide +kernel
theorem dX10_isGirl_1 : decode cX10_isGirl 1 = .ok (.i2l, 1) := by decide +kernel
theorem dX10_isGirl_2 : decode cX10_isGirl 2 = .ok (.lconst 0, 1) := by decide +kernel
theorem dX10_isGirl_3 : decode cX10_isGirl 3 = .ok (.ldc2_w 158, 3) := by decide +kernel
theorem dX10_isGirl_6 : decode cX10_isGirl 6 = .ok (.invokestatic 101, 3) := by decide +kernel
theorem dX10_isGirl_9 : decode cX10_isGirl 9 = .ok (.ireturn, 1) := by decide +kernel
theorem dX10_isShelf_0 : decode cX10_isShelf 0 = .ok (.iload_n 0, 1) := by decide +kernel
theorem dX10_isShelf_1 : decode cX10_isShelf 1 = .ok (.i2l, 1) := by decide +kernel
theorem dX10_isShelf_2 : decode cX10_isShelf 2 = .ok (.lconst 0, 1) := by decide +kernel
theorem dX10_isShelf_3 : decode cX10_isShelf 3 = .ok (.ldc2_w 129, 3) := by decide +kernel
theorem dX10_isShelf_6 : decode cX10_isShelf 6 = .ok (.invokestatic 101, 3) := by decide +kernel
theorem dX10_isShelf_9 : decode cX10_isShelf 9 = .ok (.ireturn, 1) := by decide +kernel
theorem dX10_isHoop_0 : decode cX10_isHoop 0 = .ok (.iload_n 1, 1) := by decide +kernel
theorem dX10_isHoop_1 : decode cX10_isHoop 1 = .ok (.i2l, 1) := by decide +kernel
theorem dX10_isHoop_2 : decode cX10_isHoop 2 = .ok (.lconst 0, 1) := by decide +kernel
theorem dX10_isHoop_3 : decode cX10_isHoop 3 = .ok (.aload_n 0, 1) := by decide +kernel
theorem dX10_isHoop_4 : decode cX10_isHoop 4 = .ok (.getfield 109, 3) := by decide +kernel
theorem dX10_isHoop_7 : decode cX10_isHoop 7 = .ok (.iconst 1, 1) := by decide +kernel
theorem dX10_isHoop_8 : decode cX10_isHoop 8 = .ok (.isub, 1) := by decide +kernel
theorem dX10_isHoop_9 : decode cX10_isHoop 9 = .ok (.i2l, 1) := by decide +kernel
theorem dX10_isHoop_10 : decode cX10_isHoop 10 = .ok (.invokestatic 101, 3) := by decide +kernel
theorem dX10_isHoop_13 : decode cX10_isHoop 13 = .ok (.ireturn, 1) := by decide +kernel
theorem dX10_isBody_0 : decode cX10_isBody 0 = .ok (.iload_n 1, 1) := by decide +kernel
theorem dX10_isBody_1 : decode cX10_isBody 1 = .ok (.i2l, 1) := by decide +kernel
theorem dX10_isBody_2 : decode cX10_isBody 2 = .ok (.lconst 0, 1) := by decide +kernel
theorem dX10_isBody_3 : decode cX10_isBody 3 = .ok (.aload_n 0, 1) := by decide +kernel
theorem dX10_isBody_4 : decode cX10_isBody 4 = .ok (.getfield 334, 3) := by decide +kernel
theorem dX10_isBody_7 : decode cX10_isBody 7 = .ok (.iconst 1, 1) := by decide +kernel
theorem dX10_isBody_8 : decode cX10_isBody 8 = .ok (.isub, 1) := by decide +kernel
theorem dX10_isBody_9 : decode cX10_isBody 9 = .ok (.i2l, 1) := by decide +kernel
theorem dX10_isBody_10 : decode cX10_isBody 10 = .ok (.invokestatic 101, 3) := by decide +kernel
theorem dX10_isBody_13 : decode cX10_isBody 13 = .ok (.ireturn, 1) := by decide +kernel
theorem dX10_isOne_0 : decode cX10_isOne 0 = .ok (.lload_n 0, 1) := by decide +kernel
theorem dX10_isOne_1 : decode cX10_isOne 1 = .ok (.lconst 1, 1) := by decide +kernel
theorem dX10_isOne_2 : decode cX10_isOne 2 = .ok (.ldc2_w 112, 3) := by decide +kernel
theorem dX10_isOne_5 : decode cX10_isOne 5 = .ok (.invokestatic 101, 3) := by decide +kernel
theorem dX10_isOne_8 : decode cX10_isOne 8 = .ok (.ifCond .eq 32, 3) := by decide +kernel
theorem dX10_isOne_40 : decode cX10_isOne 40 = .ok (.iconst 0, 1) := by decide +kernel
theorem dX10_isOne_41 : decode cX10_isOne 41 = .ok (.ireturn, 1) := by decide +kernel
theorem dX10_isOne_11 : decode cX10_isOne 11 = .ok (.lload_n 2, 1) := by decide +kernel
theorem dX10_isOne_12 : decode cX10_isOne 12 = .ok (.lconst 1, 1) := by decide +kernel
theorem dX10_isOne_13 : decode cX10_isOne 13 = .ok (.ldc2_w 112, 3) := by decide +kernel
theorem dX10_isOne_16 : decode cX10_isOne 16 = .ok (.invokestatic 101, 3) := by decide +kernel
theorem dX10_isOne_19 : decode cX10_isOne 19 = .ok (.ifCond .eq 21, 3) := by decide +kernel
theorem dX10_isOne_22 : decode cX10_isOne 22 = .ok (.lload 4, 2) := by decide +kernel
theorem dX10_isOne_24 : decode cX10_isOne 24 = .ok (.ldc2_w 114, 3) := by decide +kernel
theorem dX10_isOne_27 : decode cX10_isOne 27 = .ok (.ldc2_w 112, 3) := by decide +kernel
theorem dX10_isOne_30 : decode cX10_isOne 30 = .ok (.invokestatic 101, 3) := by decide +kernel
theorem dX10_isOne_33 : decode cX10_isOne 33 = .ok (.ifCond .eq 7, 3) := by decide +kernel
theorem dX10_isOne_36 : decode cX10_isOne 36 = .ok (.iconst 1, 1) := by decide +kernel
theorem dX10_isOne_37 : decode cX10_isOne 37 = .ok (.goto 4, 3) := by decide +kernel
theorem dX10_bitsOf_4 : decode cX10_bitsOf 4 = .ok (.iload_n 2, 1) := by decide +kernel
theorem dX10_bitsOf_5 : decode cX10_bitsOf 5 = .ok (.ifCond .eq 15, 3) := by decide +kernel
theorem dX10_bitsOf_20 : decode cX10_bitsOf 20 = .ok (.iload_n 1, 1) := by decide +kernel
theorem dX10_bitsOf_21 : decode cX10_bitsOf 21 = .ok (.ireturn, 1) := by decide +kernel
theorem dX10_bitsOf_8 : decode cX10_bitsOf 8 = .ok (.iinc 1 1, 3) := by decide +kernel
theorem dX10_bitsOf_11 : decode cX10_bitsOf 11 = .ok (.iload_n 2, 1) := by decide +kernel
theorem dX10_bitsOf_12 : decode cX10_bitsOf 12 = .ok (.iload_n 2, 1) := by decide +kernel
theorem dX10_bitsOf_13 : decode cX10_bitsOf 13 = .ok (.iconst 1, 1) := by decide +kernel
theorem dX10_bitsOf_14 : decode cX10_bitsOf 14 = .ok (.isub, 1) := by decide +kernel
theorem dX10_bitsOf_15 : decode cX10_bitsOf 15 = .ok (.iand, 1) := by decide +kernel
theorem dX10_bitsOf_16 : decode cX10_bitsOf 16 = .ok (.istore_n 2, 1) := by decide +kernel
theorem dX10_bitsOf_17 : decode cX10_bitsOf 17 = .ok (.goto (-13), 3) := by decide +kernel
theorem dX10_bitsOf_0 : decode cX10_bitsOf 0 = .ok (.iconst 0, 1) := by decide +kernel
theorem dX10_bitsOf_1 : decode cX10_bitsOf 1 = .ok (.istore_n 1, 1) := by decide +kernel
theorem dX10_bitsOf_2 : decode cX10_bitsOf 2 = .ok (.iload_n 0, 1) := by decide +kernel
theorem dX10_bitsOf_3 : decode cX10_bitsOf 3 = .ok (.istore_n 2, 1) := by decide +kernel
theorem dX10_adds_0 : decode cX10_adds 0 = .ok (.aload_n 0, 1) := by decide +kernel
theorem dX10_adds_1 : decode cX10_adds 1 = .ok (.getfield 9, 3) := by decide +kernel
theorem dX10_adds_4 : decode cX10_adds 4 = .ok (.aload_n 0, 1) := by decide +kernel
theorem dX10_adds_5 : decode cX10_adds 5 = .ok (.getfield 109, 3) := by decide +kernel
theorem dX10_adds_8 : decode cX10_adds 8 = .ok (.iload_n 1, 1) := by decide +kernel
theorem dX10_adds_9 : decode cX10_adds 9 = .ok (.iastore, 1) := by decide +kernel
theorem dX10_adds_10 : decode cX10_adds 10 = .ok (.aload_n 0, 1) := by decide +kernel
theorem dX10_adds_11 : decode cX10_adds 11 = .ok (.getfield 9, 3) := by decide +kernel
theorem dX10_adds_14 : decode cX10_adds 14 = .ok (.iconst 5, 1) := by decide +kernel
theorem dX10_adds_15 : decode cX10_adds 15 = .ok (.aload_n 0, 1) := by decide +kernel
theorem dX10_adds_16 : decode cX10_adds 16 = .ok (.getfield 109, 3) := by decide +kernel
theorem dX10_adds_19 : decode cX10_adds 19 = .ok (.iadd, 1) := by decide +kernel
theorem dX10_adds_20 : decode cX10_adds 20 = .ok (.iload_n 2, 1) := by decide +kernel
theorem dX10_adds_21 : decode cX10_adds 21 = .ok (.iastore, 1) := by decide +kernel
theorem dX10_adds_22 : decode cX10_adds 22 = .ok (.aload_n 0, 1) := by decide +kernel
theorem dX10_adds_23 : decode cX10_adds 23 = .ok (.getfield 9, 3) := by decide +kernel
theorem dX10_adds_26 : decode cX10_adds 26 = .ok (.bipush 10, 2) := by decide +kernel
theorem dX10_adds_28 : decode cX10_adds 28 = .ok (.aload_n 0, 1) := by decide +kernel
theorem dX10_adds_29 : decode cX10_adds 29 = .ok (.getfield 109, 3) := by decide +kernel
theorem dX10_adds_32 : decode cX10_adds 32 = .ok (.iadd, 1) := by decide +kernel
theorem dX10_adds_33 : decode cX10_adds 33 = .ok (.iload_n 3, 1) := by decide +kernel
theorem dX10_adds_34 : decode cX10_adds 34 = .ok (.iastore, 1) := by decide +kernel
theorem dX10_adds_35 : decode cX10_adds 35 = .ok (.aload_n 0, 1) := by decide +kernel
theorem dX10_adds_36 : decode cX10_adds 36 = .ok (.getfield 22, 3) := by decide +kernel
theorem dX10_adds_39 : decode cX10_adds 39 = .ok (.aload_n 0, 1) := by decide +kernel
theorem dX10_adds_40 : decode cX10_adds 40 = .ok (.getfield 109, 3) := by decide +kernel
theorem dX10_adds_43 : decode cX10_adds 43 = .ok (.iconst 0, 1) := by decide +kernel
theorem dX10_adds_44 : decode cX10_adds 44 = .ok (.iastore, 1) := by decide +kernel
theorem dX10_adds_45 : decode cX10_adds 45 = .ok (.aload_n 0, 1) := by decide +kernel
theorem dX10_adds_46 : decode cX10_adds 46 = .ok (.getfield 25, 3) := by decide +kernel
theorem dX10_adds_49 : decode cX10_adds 49 = .ok (.aload_n 0, 1) := by decide +kernel
theorem dX10_adds_50 : decode cX10_adds 50 = .ok (.getfield 109, 3) := by decide +kernel
theorem dX10_adds_53 : decode cX10_adds 53 = .ok (.bipush 20, 2) := by decide +kernel
theorem dX10_adds_55 : decode cX10_adds 55 = .ok (.iastore, 1) := by decide +kernel
theorem dX10_adds_56 : decode cX10_adds 56 = .ok (.aload_n 0, 1) := by decide +kernel
theorem dX10_adds_57 : decode cX10_adds 57 = .ok (.dup, 1) := by decide +kernel
theorem dX10_adds_58 : decode cX10_adds 58 = .ok (.getfield 109, 3) := by decide +kernel
theorem dX10_adds_61 : decode cX10_adds 61 = .ok (.iconst 1, 1) := by decide +kernel
theorem dX10_adds_62 : decode cX10_adds 62 = .ok (.iadd, 1) := by decide +kernel
theorem dX10_adds_63 : decode cX10_adds 63 = .ok (.putfield 109, 3) := by decide +kernel
theorem dX10_adds_66 : decode cX10_adds 66 = .ok (.return_, 1) := by decide +kernel
theorem dX10_law_37 : decode cX10_law 37 = .ok (.iload_n 3, 1) := by decide +kernel
theorem dX10_law_38 : decode cX10_law 38 = .ok (.iload_n 2, 1) := by decide +kernel
theorem dX10_law_39 : decode cX10_law 39 = .ok (.if_icmp .ge 21, 3) := by decide +kernel
theorem dX10_law_42 : decode cX10_law 42 = .ok (.aload_n 0, 1) := by decide +kernel
theorem dX10_law_43 : decode cX10_law 43 = .ok (.getfield 31, 3) := by decide +kernel
theorem dX10_law_46 : decode cX10_law 46 = .ok (.iload_n 3, 1) := by decide +kernel
theorem dX10_law_47 : decode cX10_law 47 = .ok (.aload_n 0, 1) := by decide +kernel
theorem dX10_law_48 : decode cX10_law 48 = .ok (.getfield 28, 3) := by decide +kernel
theorem dX10_law_51 : decode cX10_law 51 = .ok (.iload_n 3, 1) := by decide +kernel
theorem dX10_law_52 : decode cX10_law 52 = .ok (.iaload, 1) := by decide +kernel
theorem dX10_law_53 : decode cX10_law 53 = .ok (.iastore, 1) := by decide +kernel
theorem dX10_law_54 : decode cX10_law 54 = .ok (.iinc 3 1, 3) := by decide +kernel
theorem dX10_law_57 : decode cX10_law 57 = .ok (.goto (-20), 3) := by decide +kernel
theorem dX10_then_46 : decode cX10_then 46 = .ok (.iload 4, 2) := by decide +kernel
theorem dX10_then_48 : decode cX10_then 48 = .ok (.iload_n 2, 1) := by decide +kernel
theorem dX10_then_49 : decode cX10_then 49 = .ok (.if_icmp .ge 20, 3) := by decide +kernel
theorem dX10_then_52 : decode cX10_then 52 = .ok (.aload_n 0, 1) := by decide +kernel
theorem dX10_then_53 : decode cX10_then 53 = .ok (.aload_n 0, 1) := by decide +kernel
theorem dX10_then_54 : decode cX10_then 54 = .ok (.getfield 151, 3) := by decide +kernel
theorem dX10_then_57 : decode cX10_then 57 = .ok (.iload 4, 2) := by decide +kernel
theorem dX10_then_59 : decode cX10_then 59 = .ok (.iadd, 1) := by decide +kernel
theorem dX10_then_60 : decode cX10_then 60 = .ok (.invokevirtual 255, 3) := by decide +kernel
theorem dX10_then_63 : decode cX10_then 63 = .ok (.iinc 4 1, 3) := by decide +kernel
theorem dX10_then_66 : decode cX10_then 66 = .ok (.goto (-20), 3) := by decide +kernel
theorem dX10_lasts_0 : decode cX10_lasts 0 = .ok (.aload_n 0, 1) := by decide +kernel
theorem dX10_lasts_1 : decode cX10_lasts 1 = .ok (.aload_n 0, 1) := by decide +kernel
theorem dX10_lasts_2 : decode cX10_lasts 2 = .ok (.invokevirtual 246, 3) := by decide +kernel
theorem dX10_lasts_5 : decode cX10_lasts 5 = .ok (.invokevirtual 267, 3) := by decide +kernel
theorem dX10_lasts_8 : decode cX10_lasts 8 = .ok (.ireturn, 1) := by decide +kernel
theorem dX10_rescue_61 : decode cX10_rescue 61 = .ok (.iload 4, 2) := by decide +kernel
theorem dX10_rescue_63 : decode cX10_rescue 63 = .ok (.bipush 100, 2) := by decide +kernel
theorem dX10_rescue_65 : decode cX10_rescue 65 = .ok (.if_icmp .ge 31, 3) := by decide +kernel
theorem dX10_rescue_68 : decode cX10_rescue 68 = .ok (.aload_n 0, 1) := by decide +kernel
theorem dX10_rescue_69 : decode cX10_rescue 69 = .ok (.iload_n 1, 1) := by decide +kernel
theorem dX10_rescue_70 : decode cX10_rescue 70 = .ok (.iload 4, 2) := by decide +kernel
theorem dX10_rescue_72 : decode cX10_rescue 72 = .ok (.iload_n 2, 1) := by decide +kernel
theorem dX10_rescue_73 : decode cX10_rescue 73 = .ok (.bipush 100, 2) := by decide +kernel
theorem dX10_rescue_75 : decode cX10_rescue 75 = .ok (.irem, 1) := by decide +kernel
theorem dX10_rescue_76 : decode cX10_rescue 76 = .ok (.iload_n 2, 1) := by decide +kernel
theorem dX10_rescue_77 : decode cX10_rescue 77 = .ok (.bipush 100, 2) := by decide +kernel
theorem dX10_rescue_79 : decode cX10_rescue 79 = .ok (.idiv, 1) := by decide +kernel
theorem dX10_rescue_80 : decode cX10_rescue 80 = .ok (.invokevirtual 281, 3) := by decide +kernel
theorem dX10_rescue_83 : decode cX10_rescue 83 = .ok (.iload_n 3, 1) := by decide +kernel
theorem dX10_rescue_84 : decode cX10_rescue 84 = .ok (.if_icmp .le 6, 3) := by decide +kernel
theorem dX10_rescue_90 : decode cX10_rescue 90 = .ok (.iinc 4 1, 3) := by decide +kernel
theorem dX10_rescue_93 : decode cX10_rescue 93 = .ok (.goto (-32), 3) := by decide +kernel
theorem dX10_rescue_87 : decode cX10_rescue 87 = .ok (.iload 4, 2) := by decide +kernel
theorem dX10_rescue_89 : decode cX10_rescue 89 = .ok (.ireturn, 1) := by decide +kernel
theorem dX10_rowIs_0 : decode cX10_rowIs 0 = .ok (.iload_n 1, 1) := by decide +kernel
theorem dX10_rowIs_1 : decode cX10_rowIs 1 = .ok (.invokestatic 125, 3) := by decide +kernel
theorem dX10_rowIs_4 : decode cX10_rowIs 4 = .ok (.ifCond .ne 7, 3) := by decide +kernel
theorem dX10_rowIs_11 : decode cX10_rowIs 11 = .ok (.aload_n 0, 1) := by decide +kernel
theorem dX10_rowIs_12 : decode cX10_rowIs 12 = .ok (.getfield 75, 3) := by decide +kernel
theorem dX10_rowIs_15 : decode cX10_rowIs 15 = .ok (.iload_n 1, 1) := by decide +kernel
theorem dX10_rowIs_16 : decode cX10_rowIs 16 = .ok (.iaload, 1) := by decide +kernel
theorem dX10_rowIs_17 : decode cX10_rowIs 17 = .ok (.ifCond .ge 8, 3) := by decide +kernel
theorem dX10_rowIs_25 : decode cX10_rowIs 25 = .ok (.aload_n 0, 1) := by decide +kernel
theorem dX10_rowIs_26 : decode cX10_rowIs 26 = .ok (.getfield 75, 3) := by decide +kernel
theorem dX10_rowIs_29 : decode cX10_rowIs 29 = .ok (.iload_n 1, 1) := by decide +kernel
theorem dX10_rowIs_30 : decode cX10_rowIs 30 = .ok (.iaload, 1) := by decide +kernel
theorem dX10_rowIs_31 : decode cX10_rowIs 31 = .ok (.bipush 50, 2) := by decide +kernel
theorem dX10_rowIs_33 : decode cX10_rowIs 33 = .ok (.if_icmp .ne 7, 3) := by decide +kernel
theorem dX10_rowIs_40 : decode cX10_rowIs 40 = .ok (.bipush (-12), 2) := by decide +kernel
theorem dX10_rowIs_42 : decode cX10_rowIs 42 = .ok (.ireturn, 1) := by decide +kernel
theorem dX10_rowIs_36 : decode cX10_rowIs 36 = .ok (.iconst 1, 1) := by decide +kernel
theorem dX10_rowIs_37 : decode cX10_rowIs 37 = .ok (.goto 5, 3) := by decide +kernel
theorem dX10_rowIs_20 : decode cX10_rowIs 20 = .ok (.bipush (-11), 2) := by decide +kernel
theorem dX10_rowIs_22 : decode cX10_rowIs 22 = .ok (.goto 20, 3) := by decide +kernel
theorem dX10_rowIs_7 : decode cX10_rowIs 7 = .ok (.iconst (-1), 1) := by decide +kernel
theorem dX10_rowIs_8 : decode cX10_rowIs 8 = .ok (.goto 34, 3) := by decide +kernel
theorem dX10_beatFor_47 : decode cX10_beatFor 47 = .ok (.iload 7, 2) := by decide +kernel
theorem dX10_beatFor_49 : decode cX10_beatFor 49 = .ok (.iload 6, 2) := by decide +kernel
theorem dX10_beatFor_51 : decode cX10_beatFor 51 = .ok (.if_icmp .ge 71, 3) := by decide +kernel
theorem dX10_beatFor_54 : decode cX10_beatFor 54 = .ok (.aload_n 0, 1) := by decide +kernel
theorem dX10_beatFor_55 : decode cX10_beatFor 55 = .ok (.getfield 9, 3) := by decide +kernel
theorem dX10_beatFor_58 : decode cX10_beatFor 58 = .ok (.bipush 16, 2) := by decide +kernel
theorem dX10_beatFor_60 : decode cX10_beatFor 60 = .ok (.iload 6, 2) := by decide +kernel
theorem dX10_beatFor_62 : decode cX10_beatFor 62 = .ok (.iastore, 1) := by decide +kernel
theorem dX10_beatFor_63 : decode cX10_beatFor 63 = .ok (.aload_n 0, 1) := by decide +kernel
theorem dX10_beatFor_64 : decode cX10_beatFor 64 = .ok (.getfield 9, 3) := by decide +kernel
theorem dX10_beatFor_67 : decode cX10_beatFor 67 = .ok (.bipush 17, 2) := by decide +kernel
theorem dX10_beatFor_69 : decode cX10_beatFor 69 = .ok (.iload 7, 2) := by decide +kernel
theorem dX10_beatFor_71 : decode cX10_beatFor 71 = .ok (.iastore, 1) := by decide +kernel
theorem dX10_beatFor_72 : decode cX10_beatFor 72 = .ok (.aload_n 0, 1) := by decide +kernel
theorem dX10_beatFor_73 : decode cX10_beatFor 73 = .ok (.invokevirtual 270, 3) := by decide +kernel
theorem dX10_beatFor_76 : decode cX10_beatFor 76 = .ok (.istore 8, 2) := by decide +kernel
theorem dX10_beatFor_78 : decode cX10_beatFor 78 = .ok (.iload 8, 2) := by decide +kernel
theorem dX10_beatFor_80 : decode cX10_beatFor 80 = .ok (.iload 5, 2) := by decide +kernel
theorem dX10_beatFor_82 : decode cX10_beatFor 82 = .ok (.if_icmp .le 14, 3) := by decide +kernel
theorem dX10_beatFor_96 : decode cX10_beatFor 96 = .ok (.iload 4, 2) := by decide +kernel
theorem dX10_beatFor_98 : decode cX10_beatFor 98 = .ok (.istore 4, 2) := by decide +kernel
theorem dX10_beatFor_100 : decode cX10_beatFor 100 = .ok (.iload 8, 2) := by decide +kernel
theorem dX10_beatFor_102 : decode cX10_beatFor 102 = .ok (.iload 5, 2) := by decide +kernel
theorem dX10_beatFor_104 : decode cX10_beatFor 104 = .ok (.if_icmp .le 8, 3) := by decide +kernel
theorem dX10_beatFor_112 : decode cX10_beatFor 112 = .ok (.iload 5, 2) := by decide +kernel
theorem dX10_beatFor_114 : decode cX10_beatFor 114 = .ok (.istore 5, 2) := by decide +kernel
theorem dX10_beatFor_116 : decode cX10_beatFor 116 = .ok (.iinc 7 1, 3) := by decide +kernel
theorem dX10_beatFor_119 : decode cX10_beatFor 119 = .ok (.goto (-72), 3) := by decide +kernel
theorem dX10_beatFor_107 : decode cX10_beatFor 107 = .ok (.iload 8, 2) := by decide +kernel
theorem dX10_beatFor_109 : decode cX10_beatFor 109 = .ok (.goto 5, 3) := by decide +kernel
theorem dX10_beatFor_85 : decode cX10_beatFor 85 = .ok (.bipush 100, 2) := by decide +kernel
theorem dX10_beatFor_87 : decode cX10_beatFor 87 = .ok (.iload 6, 2) := by decide +kernel
theorem dX10_beatFor_89 : decode cX10_beatFor 89 = .ok (.imul, 1) := by decide +kernel
theorem dX10_beatFor_90 : decode cX10_beatFor 90 = .ok (.iload 7, 2) := by decide +kernel
theorem dX10_beatFor_92 : decode cX10_beatFor 92 = .ok (.iadd, 1) := by decide +kernel
theorem dX10_beatFor_93 : decode cX10_beatFor 93 = .ok (.goto 5, 3) := by decide +kernel
theorem dX10_beatFor_37 : decode cX10_beatFor 37 = .ok (.iload 6, 2) := by decide +kernel
theorem dX10_beatFor_39 : decode cX10_beatFor 39 = .ok (.bipush 24, 2) := by decide +kernel
theorem dX10_beatFor_41 : decode cX10_beatFor 41 = .ok (.if_icmp .gt 87, 3) := by decide +kernel
theorem dX10_beatFor_44 : decode cX10_beatFor 44 = .ok (.iconst 0, 1) := by decide +kernel
theorem dX10_beatFor_45 : decode cX10_beatFor 45 = .ok (.istore 7, 2) := by decide +kernel
theorem dX10_beatFor_122 : decode cX10_beatFor 122 = .ok (.iinc 6 1, 3) := by decide +kernel
theorem dX10_beatFor_125 : decode cX10_beatFor 125 = .ok (.goto (-88), 3) := by decide +kernel
theorem dX10_leastPush_28 : decode cX10_leastPush 28 = .ok (.iload 4, 2) := by decide +kernel
theorem dX10_leastPush_30 : decode cX10_leastPush 30 = .ok (.ifCond .lt 33, 3) := by decide +kernel
theorem dX10_leastPush_33 : decode cX10_leastPush 33 = .ok (.aload_n 0, 1) := by decide +kernel
theorem dX10_leastPush_34 : decode cX10_leastPush 34 = .ok (.getfield 9, 3) := by decide +kernel
theorem dX10_leastPush_37 : decode cX10_leastPush 37 = .ok (.bipush 18, 2) := by decide +kernel
theorem dX10_leastPush_39 : decode cX10_leastPush 39 = .ok (.iload 4, 2) := by decide +kernel
theorem dX10_leastPush_41 : decode cX10_leastPush 41 = .ok (.iastore, 1) := by decide +kernel
theorem dX10_leastPush_42 : decode cX10_leastPush 42 = .ok (.aload_n 0, 1) := by decide +kernel
theorem dX10_leastPush_43 : decode cX10_leastPush 43 = .ok (.invokevirtual 270, 3) := by decide +kernel
theorem dX10_leastPush_46 : decode cX10_leastPush 46 = .ok (.iload_n 1, 1) := by decide +kernel
theorem dX10_leastPush_47 : decode cX10_leastPush 47 = .ok (.if_icmp .lt 8, 3) := by decide +kernel
theorem dX10_leastPush_55 : decode cX10_leastPush 55 = .ok (.iload_n 3, 1) := by decide +kernel
theorem dX10_leastPush_56 : decode cX10_leastPush 56 = .ok (.istore_n 3, 1) := by decide +kernel
theorem dX10_leastPush_57 : decode cX10_leastPush 57 = .ok (.iinc 4 (-1), 3) := by decide +kernel
theorem dX10_leastPush_60 : decode cX10_leastPush 60 = .ok (.goto (-32), 3) := by decide +kernel
theorem dX10_leastPush_50 : decode cX10_leastPush 50 = .ok (.iload 4, 2) := by decide +kernel
theorem dX10_leastPush_52 : decode cX10_leastPush 52 = .ok (.goto 4, 3) := by decide +kernel
theorem dX10_held_24 : decode cX10_held 24 = .ok (.iload 4, 2) := by decide +kernel
theorem dX10_held_26 : decode cX10_held 26 = .ok (.iconst 1, 1) := by decide +kernel
theorem dX10_held_27 : decode cX10_held 27 = .ok (.aload_n 0, 1) := by decide +kernel
theorem dX10_held_28 : decode cX10_held 28 = .ok (.getfield 109, 3) := by decide +kernel
theorem dX10_held_31 : decode cX10_held 31 = .ok (.ishl, 1) := by decide +kernel
theorem dX10_held_32 : decode cX10_held 32 = .ok (.if_icmp .ge 47, 3) := by decide +kernel
theorem dX10_held_79 : decode cX10_held 79 = .ok (.iload_n 3, 1) := by decide +kernel
theorem dX10_held_80 : decode cX10_held 80 = .ok (.ifCond .ne 8, 3) := by decide +kernel
theorem dX10_held_88 : decode cX10_held 88 = .ok (.iload_n 3, 1) := by decide +kernel
theorem dX10_held_89 : decode cX10_held 89 = .ok (.ireturn, 1) := by decide +kernel
theorem dX10_held_83 : decode cX10_held 83 = .ok (.bipush (-2), 2) := by decide +kernel
theorem dX10_held_85 : decode cX10_held 85 = .ok (.goto 4, 3) := by decide +kernel
theorem dX10_held_35 : decode cX10_held 35 = .ok (.iload 4, 2) := by decide +kernel
theorem dX10_held_37 : decode cX10_held 37 = .ok (.iload_n 2, 1) := by decide +kernel
theorem dX10_held_38 : decode cX10_held 38 = .ok (.iconst (-1), 1) := by decide +kernel
theorem dX10_held_39 : decode cX10_held 39 = .ok (.ixor, 1) := by decide +kernel
theorem dX10_held_40 : decode cX10_held 40 = .ok (.iand, 1) := by decide +kernel
theorem dX10_held_41 : decode cX10_held 41 = .ok (.ifCond .ne 30, 3) := by decide +kernel
theorem dX10_held_71 : decode cX10_held 71 = .ok (.iload_n 3, 1) := by decide +kernel
theorem dX10_held_72 : decode cX10_held 72 = .ok (.istore_n 3, 1) := by decide +kernel
theorem dX10_held_73 : decode cX10_held 73 = .ok (.iinc 4 1, 3) := by decide +kernel
theorem dX10_held_76 : decode cX10_held 76 = .ok (.goto (-52), 3) := by decide +kernel
theorem dX10_held_44 : decode cX10_held 44 = .ok (.iload 4, 2) := by decide +kernel
theorem dX10_held_46 : decode cX10_held 46 = .ok (.invokestatic 261, 3) := by decide +kernel
theorem dX10_held_49 : decode cX10_held 49 = .ok (.iload_n 3, 1) := by decide +kernel
theorem dX10_held_50 : decode cX10_held 50 = .ok (.invokestatic 261, 3) := by decide +kernel
theorem dX10_held_53 : decode cX10_held 53 = .ok (.if_icmp .le 18, 3) := by decide +kernel
theorem dX10_held_56 : decode cX10_held 56 = .ok (.aload_n 0, 1) := by decide +kernel
theorem dX10_held_57 : decode cX10_held 57 = .ok (.iload 4, 2) := by decide +kernel
theorem dX10_held_59 : decode cX10_held 59 = .ok (.invokevirtual 267, 3) := by decide +kernel
theorem dX10_held_62 : decode cX10_held 62 = .ok (.iload_n 1, 1) := by decide +kernel
theorem dX10_held_63 : decode cX10_held 63 = .ok (.if_icmp .lt 8, 3) := by decide +kernel
theorem dX10_held_66 : decode cX10_held 66 = .ok (.iload 4, 2) := by decide +kernel
theorem dX10_held_68 : decode cX10_held 68 = .ok (.goto 4, 3) := by decide +kernel
theorem dX10_start_43 : decode cX10_start 43 = .ok (.iload 5, 2) := by decide +kernel
theorem dX10_start_45 : decode cX10_start 45 = .ok (.bipush 9, 2) := by decide +kernel
theorem dX10_start_47 : decode cX10_start 47 = .ok (.if_icmp .gt 57, 3) := by decide +kernel
theorem dX10_start_50 : decode cX10_start 50 = .ok (.aload_n 0, 1) := by decide +kernel
theorem dX10_start_51 : decode cX10_start 51 = .ok (.getfield 9, 3) := by decide +kernel
theorem dX10_start_54 : decode cX10_start 54 = .ok (.bipush 10, 2) := by decide +kernel
theorem dX10_start_56 : decode cX10_start 56 = .ok (.iload_n 1, 1) := by decide +kernel
theorem dX10_start_57 : decode cX10_start 57 = .ok (.iadd, 1) := by decide +kernel
theorem dX10_start_58 : decode cX10_start 58 = .ok (.iload 5, 2) := by decide +kernel
theorem dX10_start_60 : decode cX10_start 60 = .ok (.iastore, 1) := by decide +kernel
theorem dX10_start_61 : decode cX10_start 61 = .ok (.aload_n 0, 1) := by decide +kernel
theorem dX10_start_62 : decode cX10_start 62 = .ok (.iload_n 1, 1) := by decide +kernel
theorem dX10_start_63 : decode cX10_start 63 = .ok (.invokevirtual 264, 3) := by decide +kernel
theorem dX10_start_66 : decode cX10_start 66 = .ok (.istore 6, 2) := by decide +kernel
theorem dX10_start_68 : decode cX10_start 68 = .ok (.iload 6, 2) := by decide +kernel
theorem dX10_start_70 : decode cX10_start 70 = .ok (.iload 4, 2) := by decide +kernel
theorem dX10_start_72 : decode cX10_start 72 = .ok (.if_icmp .le 8, 3) := by decide +kernel
theorem dX10_start_80 : decode cX10_start 80 = .ok (.iload_n 3, 1) := by decide +kernel
theorem dX10_start_81 : decode cX10_start 81 = .ok (.istore_n 3, 1) := by decide +kernel
theorem dX10_start_82 : decode cX10_start 82 = .ok (.iload 6, 2) := by decide +kernel
theorem dX10_start_84 : decode cX10_start 84 = .ok (.iload 4, 2) := by decide +kernel
theorem dX10_start_86 : decode cX10_start 86 = .ok (.if_icmp .le 8, 3) := by decide +kernel
theorem dX10_start_94 : decode cX10_start 94 = .ok (.iload 4, 2) := by decide +kernel
theorem dX10_start_96 : decode cX10_start 96 = .ok (.istore 4, 2) := by decide +kernel
theorem dX10_start_98 : decode cX10_start 98 = .ok (.iinc 5 1, 3) := by decide +kernel
theorem dX10_start_101 : decode cX10_start 101 = .ok (.goto (-58), 3) := by decide +kernel
theorem dX10_start_89 : decode cX10_start 89 = .ok (.iload 6, 2) := by decide +kernel
theorem dX10_start_91 : decode cX10_start 91 = .ok (.goto 5, 3) := by decide +kernel
theorem dX10_start_75 : decode cX10_start 75 = .ok (.iload 5, 2) := by decide +kernel
theorem dX10_start_77 : decode cX10_start 77 = .ok (.goto 4, 3) := by decide +kernel
theorem dX10_firstFalse_10 : decode cX10_firstFalse 10 = .ok (.iload_n 3, 1) := by decide +kernel
theorem dX10_firstFalse_11 : decode cX10_firstFalse 11 = .ok (.aload_n 0, 1) := by decide +kernel
theorem dX10_firstFalse_12 : decode cX10_firstFalse 12 = .ok (.getfield 78, 3) := by decide +kernel
theorem dX10_firstFalse_15 : decode cX10_firstFalse 15 = .ok (.iload_n 1, 1) := by decide +kernel
theorem dX10_firstFalse_16 : decode cX10_firstFalse 16 = .ok (.iaload, 1) := by decide +kernel
theorem dX10_firstFalse_17 : decode cX10_firstFalse 17 = .ok (.if_icmp .ge 50, 3) := by decide +kernel
theorem dX10_firstFalse_67 : decode cX10_firstFalse 67 = .ok (.bipush (-2), 2) := by decide +kernel
theorem dX10_firstFalse_69 : decode cX10_firstFalse 69 = .ok (.ireturn, 1) := by decide +kernel
theorem dX10_firstFalse_20 : decode cX10_firstFalse 20 = .ok (.iload_n 3, 1) := by decide +kernel
theorem dX10_firstFalse_21 : decode cX10_firstFalse 21 = .ok (.sipush 200, 3) := by decide +kernel
theorem dX10_firstFalse_24 : decode cX10_firstFalse 24 = .ok (.if_icmp .ge 43, 3) := by decide +kernel
theorem dX10_firstFalse_27 : decode cX10_firstFalse 27 = .ok (.aload_n 0, 1) := by decide +kernel
theorem dX10_firstFalse_28 : decode cX10_firstFalse 28 = .ok (.aload_n 0, 1) := by decide +kernel
theorem dX10_firstFalse_29 : decode cX10_firstFalse 29 = .ok (.getfield 151, 3) := by decide +kernel
theorem dX10_firstFalse_32 : decode cX10_firstFalse 32 = .ok (.iload_n 3, 1) := by decide +kernel
theorem dX10_firstFalse_33 : decode cX10_firstFalse 33 = .ok (.iadd, 1) := by decide +kernel
theorem dX10_firstFalse_34 : decode cX10_firstFalse 34 = .ok (.invokevirtual 255, 3) := by decide +kernel
theorem dX10_firstFalse_37 : decode cX10_firstFalse 37 = .ok (.aload_n 0, 1) := by decide +kernel
theorem dX10_firstFalse_38 : decode cX10_firstFalse 38 = .ok (.getfield 81, 3) := by decide +kernel
theorem dX10_firstFalse_41 : decode cX10_firstFalse 41 = .ok (.bipush 60, 2) := by decide +kernel
theorem dX10_firstFalse_43 : decode cX10_firstFalse 43 = .ok (.iload_n 1, 1) := by decide +kernel
theorem dX10_firstFalse_44 : decode cX10_firstFalse 44 = .ok (.imul, 1) := by decide +kernel
theorem dX10_firstFalse_45 : decode cX10_firstFalse 45 = .ok (.iload_n 3, 1) := by decide +kernel
theorem dX10_firstFalse_46 : decode cX10_firstFalse 46 = .ok (.iadd, 1) := by decide +kernel
theorem dX10_firstFalse_47 : decode cX10_firstFalse 47 = .ok (.laload, 1) := by decide +kernel
theorem dX10_firstFalse_48 : decode cX10_firstFalse 48 = .ok (.aload_n 0, 1) := by decide +kernel
theorem dX10_firstFalse_49 : decode cX10_firstFalse 49 = .ok (.getfield 37, 3) := by decide +kernel
theorem dX10_firstFalse_52 : decode cX10_firstFalse 52 = .ok (.iload_n 2, 1) := by decide +kernel
theorem dX10_firstFalse_53 : decode cX10_firstFalse 53 = .ok (.iaload, 1) := by decide +kernel
theorem dX10_firstFalse_54 : decode cX10_firstFalse 54 = .ok (.i2l, 1) := by decide +kernel
theorem dX10_firstFalse_55 : decode cX10_firstFalse 55 = .ok (.lcmp, 1) := by decide +kernel
theorem dX10_firstFalse_56 : decode cX10_firstFalse 56 = .ok (.ifCond .eq 5, 3) := by decide +kernel
theorem dX10_firstFalse_61 : decode cX10_firstFalse 61 = .ok (.iinc 3 1, 3) := by decide +kernel
theorem dX10_firstFalse_64 : decode cX10_firstFalse 64 = .ok (.goto (-54), 3) := by decide +kernel
theorem dX10_firstFalse_59 : decode cX10_firstFalse 59 = .ok (.iload_n 3, 1) := by decide +kernel
theorem dX10_firstFalse_60 : decode cX10_firstFalse 60 = .ok (.ireturn, 1) := by decide +kernel
theorem dX10_firstFalse_0 : decode cX10_firstFalse 0 = .ok (.aload_n 0, 1) := by decide +kernel
theorem dX10_firstFalse_1 : decode cX10_firstFalse 1 = .ok (.aload_n 0, 1) := by decide +kernel
theorem dX10_firstFalse_2 : decode cX10_firstFalse 2 = .ok (.invokevirtual 246, 3) := by decide +kernel
theorem dX10_firstFalse_5 : decode cX10_firstFalse 5 = .ok (.invokevirtual 249, 3) := by decide +kernel
theorem dX10_firstFalse_8 : decode cX10_firstFalse 8 = .ok (.iconst 0, 1) := by decide +kernel
theorem dX10_firstFalse_9 : decode cX10_firstFalse 9 = .ok (.istore_n 3, 1) := by decide +kernel
theorem dX10_begun_69 : decode cX10_begun 69 = .ok (.iload 8, 2) := by decide +kernel
theorem dX10_begun_71 : decode cX10_begun 71 = .ok (.iload 5, 2) := by decide +kernel
theorem dX10_begun_73 : decode cX10_begun 73 = .ok (.if_icmp .gt 48, 3) := by decide +kernel
theorem dX10_begun_76 : decode cX10_begun 76 = .ok (.aload_n 0, 1) := by decide +kernel
theorem dX10_begun_77 : decode cX10_begun 77 = .ok (.getfield 9, 3) := by decide +kernel
theorem dX10_begun_80 : decode cX10_begun 80 = .ok (.bipush 10, 2) := by decide +kernel
theorem dX10_begun_82 : decode cX10_begun 82 = .ok (.iload_n 2, 1) := by decide +kernel
theorem dX10_begun_83 : decode cX10_begun 83 = .ok (.iadd, 1) := by decide +kernel
theorem dX10_begun_84 : decode cX10_begun 84 = .ok (.iload 8, 2) := by decide +kernel
theorem dX10_begun_86 : decode cX10_begun 86 = .ok (.iastore, 1) := by decide +kernel
theorem dX10_begun_87 : decode cX10_begun 87 = .ok (.aload_n 0, 1) := by decide +kernel
theorem dX10_begun_88 : decode cX10_begun 88 = .ok (.iload_n 1, 1) := by decide +kernel
theorem dX10_begun_89 : decode cX10_begun 89 = .ok (.iload_n 2, 1) := by decide +kernel
theorem dX10_begun_90 : decode cX10_begun 90 = .ok (.invokevirtual 290, 3) := by decide +kernel
theorem dX10_begun_93 : decode cX10_begun 93 = .ok (.bipush (-2), 2) := by decide +kernel
theorem dX10_begun_95 : decode cX10_begun 95 = .ok (.if_icmp .ne 20, 3) := by decide +kernel
theorem dX10_begun_115 : decode cX10_begun 115 = .ok (.iinc 8 1, 3) := by decide +kernel
theorem dX10_begun_118 : decode cX10_begun 118 = .ok (.goto (-49), 3) := by decide +kernel
theorem dX10_begun_98 : decode cX10_begun 98 = .ok (.iload 6, 2) := by decide +kernel
theorem dX10_begun_100 : decode cX10_begun 100 = .ok (.ifCond .ne 8, 3) := by decide +kernel
theorem dX10_begun_108 : decode cX10_begun 108 = .ok (.iload 7, 2) := by decide +kernel
theorem dX10_begun_110 : decode cX10_begun 110 = .ok (.istore 7, 2) := by decide +kernel
theorem dX10_begun_112 : decode cX10_begun 112 = .ok (.iinc 6 1, 3) := by decide +kernel
theorem dX10_begun_103 : decode cX10_begun 103 = .ok (.iload 8, 2) := by decide +kernel
theorem dX10_begun_105 : decode cX10_begun 105 = .ok (.goto 5, 3) := by decide +kernel
theorem dX10_go_31 : decode cX10_go 31 = .ok (.iload_n 3, 1) := by decide +kernel
theorem dX10_go_32 : decode cX10_go 32 = .ok (.iload_n 1, 1) := by decide +kernel
theorem dX10_go_33 : decode cX10_go 33 = .ok (.if_icmp .ge 59, 3) := by decide +kernel
theorem dX10_go_36 : decode cX10_go 36 = .ok (.aload_n 0, 1) := by decide +kernel
theorem dX10_go_37 : decode cX10_go 37 = .ok (.iload_n 2, 1) := by decide +kernel
theorem dX10_go_38 : decode cX10_go 38 = .ok (.invokevirtual 252, 3) := by decide +kernel
theorem dX10_go_41 : decode cX10_go 41 = .ok (.istore 4, 2) := by decide +kernel
theorem dX10_go_43 : decode cX10_go 43 = .ok (.aload_n 0, 1) := by decide +kernel
theorem dX10_go_44 : decode cX10_go 44 = .ok (.aload_n 0, 1) := by decide +kernel
theorem dX10_go_45 : decode cX10_go 45 = .ok (.getfield 151, 3) := by decide +kernel
theorem dX10_go_48 : decode cX10_go 48 = .ok (.invokevirtual 255, 3) := by decide +kernel
theorem dX10_go_51 : decode cX10_go 51 = .ok (.aload_n 0, 1) := by decide +kernel
theorem dX10_go_52 : decode cX10_go 52 = .ok (.aload_n 0, 1) := by decide +kernel
theorem dX10_go_53 : decode cX10_go 53 = .ok (.iload_n 2, 1) := by decide +kernel
theorem dX10_go_54 : decode cX10_go 54 = .ok (.invokevirtual 252, 3) := by decide +kernel
theorem dX10_go_57 : decode cX10_go 57 = .ok (.iload 4, 2) := by decide +kernel
theorem dX10_go_59 : decode cX10_go 59 = .ok (.if_icmp .le 10, 3) := by decide +kernel
theorem dX10_go_69 : decode cX10_go 69 = .ok (.aload_n 0, 1) := by decide +kernel
theorem dX10_go_70 : decode cX10_go 70 = .ok (.getfield 46, 3) := by decide +kernel
theorem dX10_go_73 : decode cX10_go 73 = .ok (.putfield 46, 3) := by decide +kernel
theorem dX10_go_76 : decode cX10_go 76 = .ok (.aload_n 0, 1) := by decide +kernel
theorem dX10_go_77 : decode cX10_go 77 = .ok (.dup, 1) := by decide +kernel
theorem dX10_go_78 : decode cX10_go 78 = .ok (.getfield 151, 3) := by decide +kernel
theorem dX10_go_81 : decode cX10_go 81 = .ok (.iconst 1, 1) := by decide +kernel
theorem dX10_go_82 : decode cX10_go 82 = .ok (.iadd, 1) := by decide +kernel
theorem dX10_go_83 : decode cX10_go 83 = .ok (.putfield 151, 3) := by decide +kernel
theorem dX10_go_86 : decode cX10_go 86 = .ok (.iinc 3 1, 3) := by decide +kernel
theorem dX10_go_89 : decode cX10_go 89 = .ok (.goto (-58), 3) := by decide +kernel
theorem dX10_go_62 : decode cX10_go 62 = .ok (.aload_n 0, 1) := by decide +kernel
theorem dX10_go_63 : decode cX10_go 63 = .ok (.getfield 151, 3) := by decide +kernel
theorem dX10_go_66 : decode cX10_go 66 = .ok (.goto 7, 3) := by decide +kernel
theorem dX10_go_107 : decode cX10_go 107 = .ok (.iload_n 3, 1) := by decide +kernel
theorem dX10_go_108 : decode cX10_go 108 = .ok (.aload_n 0, 1) := by decide +kernel
theorem dX10_go_109 : decode cX10_go 109 = .ok (.getfield 109, 3) := by decide +kernel
theorem dX10_go_112 : decode cX10_go 112 = .ok (.if_icmp .ge 48, 3) := by decide +kernel
theorem dX10_go_115 : decode cX10_go 115 = .ok (.aload_n 0, 1) := by decide +kernel
theorem dX10_go_116 : decode cX10_go 116 = .ok (.getfield 22, 3) := by decide +kernel
theorem dX10_go_119 : decode cX10_go 119 = .ok (.iload_n 3, 1) := by decide +kernel
theorem dX10_go_120 : decode cX10_go 120 = .ok (.aload_n 0, 1) := by decide +kernel
theorem dX10_go_121 : decode cX10_go 121 = .ok (.getfield 37, 3) := by decide +kernel
theorem dX10_go_124 : decode cX10_go 124 = .ok (.iload_n 3, 1) := by decide +kernel
theorem dX10_go_125 : decode cX10_go 125 = .ok (.iaload, 1) := by decide +kernel
theorem dX10_go_126 : decode cX10_go 126 = .ok (.iastore, 1) := by decide +kernel
theorem dX10_go_127 : decode cX10_go 127 = .ok (.aload_n 0, 1) := by decide +kernel
theorem dX10_go_128 : decode cX10_go 128 = .ok (.getfield 9, 3) := by decide +kernel
theorem dX10_go_131 : decode cX10_go 131 = .ok (.bipush 10, 2) := by decide +kernel
theorem dX10_go_133 : decode cX10_go 133 = .ok (.iload_n 3, 1) := by decide +kernel
theorem dX10_go_134 : decode cX10_go 134 = .ok (.iadd, 1) := by decide +kernel
theorem dX10_go_135 : decode cX10_go 135 = .ok (.aload_n 0, 1) := by decide +kernel
theorem dX10_go_136 : decode cX10_go 136 = .ok (.getfield 40, 3) := by decide +kernel
theorem dX10_go_139 : decode cX10_go 139 = .ok (.iload_n 3, 1) := by decide +kernel
theorem dX10_go_140 : decode cX10_go 140 = .ok (.iaload, 1) := by decide +kernel
theorem dX10_go_141 : decode cX10_go 141 = .ok (.iastore, 1) := by decide +kernel
theorem dX10_go_142 : decode cX10_go 142 = .ok (.aload_n 0, 1) := by decide +kernel
theorem dX10_go_143 : decode cX10_go 143 = .ok (.getfield 25, 3) := by decide +kernel
theorem dX10_go_146 : decode cX10_go 146 = .ok (.iload_n 3, 1) := by decide +kernel
theorem dX10_go_147 : decode cX10_go 147 = .ok (.aload_n 0, 1) := by decide +kernel
theorem dX10_go_148 : decode cX10_go 148 = .ok (.getfield 43, 3) := by decide +kernel
theorem dX10_go_151 : decode cX10_go 151 = .ok (.iload_n 3, 1) := by decide +kernel
theorem dX10_go_152 : decode cX10_go 152 = .ok (.iaload, 1) := by decide +kernel
theorem dX10_go_153 : decode cX10_go 153 = .ok (.iastore, 1) := by decide +kernel
theorem dX10_go_154 : decode cX10_go 154 = .ok (.iinc 3 1, 3) := by decide +kernel
theorem dX10_go_157 : decode cX10_go 157 = .ok (.goto (-50), 3) := by decide +kernel
def CH (a w i : Int32) : Prop := ∃ q : Nat, q < 20 ∧ a = nI q ∧ ((5 ≤ q ∧ q < 10 ∨ q = 16) → w ≠ 0 ∧ i ≠ 0)
/-- what holds of the reference's object between calls -/
def InvR (M : xM) : Prop := (∃ h : Nat, h ≤ 5 ∧ M 62 6 = nI h ∧ ∀ k, k < h → M 63 (5 + k) ≠ 0) ∧ M 63 16 ≠ 0 ∧ (∃ u w : Nat, u ≤ w ∧ w ≤ 40 ∧ M 62 5 = nI u ∧ M 62 4 = nI w) ∧ (∀ k, k < 40 → CH (M 64 k) (M 65 k) (M 66 k)) ∧ (∃ n : Nat, n ≤ 120 ∧ M 62 11 = nI n) ∧
  (M 62 13 = -1 ∨ ∃ n : Nat, n ≤ 120 ∧ M 62 13 = nI n) ∧ (∃ b : Nat, b ≤ 50 ∧ M 62 36 = nI b) ∧ (∀ j, j < 50 → ∃ q : Nat, q < 8 ∧ M 81 j = nI q) ∧ (∃ r : Nat, r ≤ 100 ∧ M 62 39 = nI r) ∧ (∀ j, j < 6 → (M 83 j = -1 ∨ ∃ s : Nat, s ≤ 54 ∧ M 83 j = nI s) ∧ ∃ n : Nat, n ≤ 60 ∧ M 84 j = nI n) ∧
  (∃ c : Nat, c ≤ 5 ∧ M 62 34 = nI c) ∧ (∀ j, j < 25 → ∃ q : Nat, q ≤ 12 ∧ M 75 j = nI q)
theorem nI_mulc (c a : Nat) : nI c * nI a = nI (c * a) := (Int32.ofNat_mul c a).symm
theorem c_X10_within (v a b : Int64) {l : Launch} {G : xG} {sh : List xS} {M : xM} {J : xJ} : x_M l G fX10_within 0 0 0 [.long (v), .long (a), .long (b)] sh M J (qE (some (.int (bI (a ≤ v ∧ v ≤ b)))) sh M J) := by
  refine xb_of pX10 (Nat.le_of_ble_eq_true rfl) rfl ?_
  refine xr_lload_n dX10_within_0 0 rfl ?_
  refine xr_lload_n dX10_within_1 1 rfl ?_
  refine xr_lcmp dX10_within_2 ?_
  refine xl_lt (tgt := 17) dX10_within_3 rfl (fun c1 => ?_) (fun c1 => ?_)
  · refine xr_iconst (v := 0) dX10_within_17 rfl ?_
    exact xr_iret dX10_within_18 rfl rfl (⟨congrArg (fun z => some (Value.int z)) (bI_f (by grind)).symm, rfl, rfl, rfl⟩)
  · refine xr_lload_n dX10_within_6 0 rfl ?_
    refine xr_lload dX10_within_7 2 rfl ?_
    refine xr_lcmp dX10_within_9 ?_
    refine xl_gt (tgt := 17) dX10_within_10 rfl (fun c2 => ?_) (fun c2 => ?_)
    · refine xr_iconst (v := 0) dX10_within_17 rfl ?_
      exact xr_iret dX10_within_18 rfl rfl (⟨congrArg (fun z => some (Value.int z)) (bI_f (by grind)).symm, rfl, rfl, rfl⟩)
    · refine xr_iconst (v := 1) dX10_within_13 rfl ?_
      refine xr_goto (tgt := 18) dX10_within_14 rfl ?_
      exact xr_iret dX10_within_18 rfl rfl (⟨congrArg (fun z => some (Value.int z)) (bI_t (by grind)).symm, rfl, rfl, rfl⟩)
theorem c_within32 (v a b : Int32) {A B : Int64} (hA : a.toInt64 = A) (hB : b.toInt64 = B) {l : Launch} {G : xG} {sh : List xS} {M : xM} {J : xJ} : x_M l G fX10_within 0 0 0 [.long v.toInt64, .long A, .long B] sh M J (qE (some (.int (bI (a ≤ v ∧ v ≤ b)))) sh M J) := by
  subst hA; subst hB
  rw [show bI (a ≤ v ∧ v ≤ b) = bI (a.toInt64 ≤ v.toInt64 ∧ v.toInt64 ≤ b.toInt64) from x_bI_c (by rw [x_i64_le, x_i64_le])]
  exact c_X10_within _ _ _
set_option maxRecDepth 100000 in
set_option maxHeartbeats 4000000 in
theorem c_X10_isGirl (v : Int32) {l : Launch} {G : xG} {sh : List xS} {M : xM} {J : xJ} : x_M l G fX10_isGirl 1 0 0 [.int (v)] sh M J (qE (some (.int (bI (0 ≤ v ∧ v ≤ 24)))) sh M J) := by
  refine xb_of pX10 (Nat.le_of_ble_eq_true rfl) rfl ?_
  refine xr_iload_n dX10_isGirl_0 0 rfl ?_
  refine xr_i2l dX10_isGirl_1 ?_
  refine xr_lconst (v := 0) dX10_isGirl_2 rfl ?_
  refine xr_ldc2 coX10_158 dX10_isGirl_3 ?_
  refine xb_cS (As := [.long ((v).toInt64), .long (0), .long (24)]) (rest := []) mlX10_101 (c_within32 (v) (0) (24) (by decide) (by decide)) dX10_isGirl_6 rfl rfl (Nat.le_of_ble_eq_true rfl) (by decide) (by decide) ?_
  exact xr_iret dX10_isGirl_9 rfl (bI_n _) (⟨rfl, rfl, rfl, rfl⟩)
set_option maxRecDepth 100000 in
set_option maxHeartbeats 4000000 in
theorem c_X10_isShelf (v : Int32) {l : Launch} {G : xG} {sh : List xS} {M : xM} {J : xJ} : x_M l G fX10_isShelf 1 0 0 [.int (v)] sh M J (qE (some (.int (bI (0 ≤ v ∧ v ≤ 5)))) sh M J) := by
  refine xb_of pX10 (Nat.le_of_ble_eq_true rfl) rfl ?_
  refine xr_iload_n dX10_isShelf_0 0 rfl ?_
  refine xr_i2l dX10_isShelf_1 ?_
  refine xr_lconst (v := 0) dX10_isShelf_2 rfl ?_
  refine xr_ldc2 coX10_129 dX10_isShelf_3 ?_
  refine xb_cS (As := [.long ((v).toInt64), .long (0), .long (5)]) (rest := []) mlX10_101 (c_within32 (v) (0) (5) (by decide) (by decide)) dX10_isShelf_6 rfl rfl (Nat.le_of_ble_eq_true rfl) (by decide) (by decide) ?_
  exact xr_iret dX10_isShelf_9 rfl (bI_n _) (⟨rfl, rfl, rfl, rfl⟩)
theorem sx_lt1 {v : Int32} {n : Nat} (hn : n ≤ 100) : (0 ≤ v ∧ v ≤ nI n - 1) ↔ (0 ≤ v ∧ v < nI n) := by
  have h1 : (nI n - 1).toInt = (n : Int) - 1 := (show ∀ n, n ≤ 100 → (nI n - 1).toInt = (n : Int) - 1 by decide +kernel) n hn
  simp only [Int32.le_iff_toInt_le, Int32.lt_iff_toInt_lt, h1, nI_toInt (n := n) (by omega)]
  constructor
  · rintro ⟨a, b⟩; exact ⟨a, by omega⟩
  · rintro ⟨a, b⟩; exact ⟨a, by omega⟩
set_option maxRecDepth 100000 in
set_option maxHeartbeats 4000000 in
theorem c_X10_isHoop (v : Int32) {l : Launch} {G : xG} {M : xM} {J : xJ} {hn : Nat} (h_hn : hn ≤ 5) (e_hn : M 62 6 = nI hn) : x_M l G fX10_isHoop 1 0 0 [.ref 62, .int (v)] x_SH M J (qE (some (.int (bI (0 ≤ v ∧ v < nI hn)))) x_SH M J) := by
  refine xb_of pX10 (Nat.le_of_ble_eq_true rfl) rfl ?_
  refine xr_iload_n dX10_isHoop_0 1 rfl ?_
  refine xr_i2l dX10_isHoop_1 ?_
  refine xr_lconst (v := 0) dX10_isHoop_2 rfl ?_
  refine xr_aload_n dX10_isHoop_3 0 rfl ?_
  refine xb_get (v := nI (hn)) flX10_109 dX10_isHoop_4 s_62 rfl e_hn ?_
  refine xr_iconst (v := 1) dX10_isHoop_7 rfl ?_
  refine xr_isub dX10_isHoop_8 ?_
  refine xr_i2l dX10_isHoop_9 ?_
  refine xb_cS (As := [.long ((v).toInt64), .long (0), .long ((((nI (hn)) - 1)).toInt64)]) (rest := []) mlX10_101 (c_within32 (v) (0) (((nI (hn)) - 1)) (by decide) rfl) dX10_isHoop_10 rfl rfl (Nat.le_of_ble_eq_true rfl) (by decide) (by decide) ?_
  exact xr_iret dX10_isHoop_13 rfl (bI_n _) (⟨congrArg (fun z => some (Value.int z)) (x_bI_c (sx_lt1 (by omega))), rfl, rfl, rfl⟩)
set_option maxRecDepth 100000 in
set_option maxHeartbeats 4000000 in
theorem c_X10_isBody (v : Int32) {l : Launch} {G : xG} {M : xM} {J : xJ} {b : Nat} (h_b : b ≤ 50) (e_b : M 62 36 = nI b) : x_M l G fX10_isBody 1 0 0 [.ref 62, .int (v)] x_SH M J (qE (some (.int (bI (0 ≤ v ∧ v < nI b)))) x_SH M J) := by
  refine xb_of pX10 (Nat.le_of_ble_eq_true rfl) rfl ?_
  refine xr_iload_n dX10_isBody_0 1 rfl ?_
  refine xr_i2l dX10_isBody_1 ?_
  refine xr_lconst (v := 0) dX10_isBody_2 rfl ?_
  refine xr_aload_n dX10_isBody_3 0 rfl ?_
  refine xb_get (v := nI (b)) flX10_334 dX10_isBody_4 s_62 rfl e_b ?_
  refine xr_iconst (v := 1) dX10_isBody_7 rfl ?_
  refine xr_isub dX10_isBody_8 ?_
  refine xr_i2l dX10_isBody_9 ?_
  refine xb_cS (As := [.long ((v).toInt64), .long (0), .long ((((nI (b)) - 1)).toInt64)]) (rest := []) mlX10_101 (c_within32 (v) (0) (((nI (b)) - 1)) (by decide) rfl) dX10_isBody_10 rfl rfl (Nat.le_of_ble_eq_true rfl) (by decide) (by decide) ?_
  exact xr_iret dX10_isBody_13 rfl (bI_n _) (⟨congrArg (fun z => some (Value.int z)) (x_bI_c (sx_lt1 (by omega))), rfl, rfl, rfl⟩)
set_option maxRecDepth 100000 in
set_option maxHeartbeats 4000000 in
theorem g_X10_isOne (a b c : Int64) {l : Launch} {G : xG} {M : xM} {J : xJ} : x_M l G fX10_isOne 1 0 0 [.long (a), .long (b), .long (c)] x_SH M J (qPI M J (fun r => (r = 0 ∨ r = 1) ∧ (r = 1 → 1 ≤ b ∧ b ≤ 9))) := by
  refine xb_of pX10 (Nat.le_of_ble_eq_true rfl) rfl ?_
  refine xr_lload_n dX10_isOne_0 0 rfl ?_
  refine xr_lconst (v := 1) dX10_isOne_1 rfl ?_
  refine xr_ldc2 coX10_112 dX10_isOne_2 ?_
  refine xb_cS (As := [.long (a), .long (1), .long (9)]) (rest := []) mlX10_101 (c_X10_within a 1 9) dX10_isOne_5 rfl rfl (Nat.le_of_ble_eq_true rfl) (by decide) (by decide) ?_
  refine xb_beq (tgt := 40) dX10_isOne_8 rfl (fun c1 => ?_) (fun c1 => ?_)
  · refine xr_iconst (v := 0) dX10_isOne_40 rfl ?_
    exact xr_iret dX10_isOne_41 rfl rfl (⟨_, rfl, rfl, rfl, rfl, ⟨Or.inl rfl, fun q => absurd q (by decide)⟩⟩)
  · refine xr_lload_n dX10_isOne_11 1 rfl ?_
    refine xr_lconst (v := 1) dX10_isOne_12 rfl ?_
    refine xr_ldc2 coX10_112 dX10_isOne_13 ?_
    refine xb_cS (As := [.long (b), .long (1), .long (9)]) (rest := []) mlX10_101 (c_X10_within b 1 9) dX10_isOne_16 rfl rfl (Nat.le_of_ble_eq_true rfl) (by decide) (by decide) ?_
    refine xb_beq (tgt := 40) dX10_isOne_19 rfl (fun c2 => ?_) (fun c2 => ?_)
    · refine xr_iconst (v := 0) dX10_isOne_40 rfl ?_
      exact xr_iret dX10_isOne_41 rfl rfl (⟨_, rfl, rfl, rfl, rfl, ⟨Or.inl rfl, fun q => absurd q (by decide)⟩⟩)
    · refine xr_lload dX10_isOne_22 2 rfl ?_
      refine xr_ldc2 coX10_114 dX10_isOne_24 ?_
      refine xr_ldc2 coX10_112 dX10_isOne_27 ?_
      refine xb_cS (As := [.long (c), .long ((-9)), .long (9)]) (rest := []) mlX10_101 (c_X10_within c (-9) 9) dX10_isOne_30 rfl rfl (Nat.le_of_ble_eq_true rfl) (by decide) (by decide) ?_
      refine xb_beq (tgt := 40) dX10_isOne_33 rfl (fun c3 => ?_) (fun c3 => ?_)
      · refine xr_iconst (v := 0) dX10_isOne_40 rfl ?_
        exact xr_iret dX10_isOne_41 rfl rfl (⟨_, rfl, rfl, rfl, rfl, ⟨Or.inl rfl, fun q => absurd q (by decide)⟩⟩)
      · refine xr_iconst (v := 1) dX10_isOne_36 rfl ?_
        refine xr_goto (tgt := 41) dX10_isOne_37 rfl ?_
        exact xr_iret dX10_isOne_41 rfl rfl (⟨_, rfl, rfl, rfl, rfl, ⟨Or.inr rfl, fun _ => c2⟩⟩)
abbrev WAD (p k : Nat) : Prop := (p = 62 ∧ k = 6) ∨ (p = 63) ∨ (67 ≤ p ∧ p ≤ 68)
theorem sx_bit {v : Int32} (h : ¬ v = 0) : (v &&& (v - 1)).toBitVec.toNat < v.toBitVec.toNat := by
  have h0 : v.toBitVec.toNat ≠ 0 := fun q => h (Int32.toBitVec_inj.mp (BitVec.eq_of_toNat_eq (by rw [q]; rfl)))
  rw [Int32.toBitVec_and, BitVec.toNat_and]
  refine Nat.lt_of_le_of_lt Nat.and_le_right ?_
  rw [Int32.toBitVec_sub, BitVec.toNat_sub]
  have h1 : (1 : Int32).toBitVec.toNat = 1 := rfl
  rw [h1]
  have h2 := v.toBitVec.isLt
  rw [show 2 ^ 32 - 1 + v.toBitVec.toNat = (v.toBitVec.toNat - 1) + 2 ^ 32 by omega, Nat.add_mod_right, Nat.mod_eq_of_lt (by omega)]
  omega
set_option maxRecDepth 100000 in
set_option maxHeartbeats 4000000 in
theorem bo_l {se : Int32} {l : Launch} {G : xG} {M : xM} {J : xJ} : ∀ (m : Nat) (lf c : Int32), lf.toBitVec.toNat ≤ m → x_X l G fX10_bitsOf 0 0 0 (qPI M J (fun r => True)) 4 [(2, .int (lf)), (1, .int (c)), (0, .int (se))] [] x_SH M J 0 0 := by
  intro m
  induction m with
  | zero =>
    intro lf c hm
    refine xr_iload_n dX10_bitsOf_4 0 rfl ?_
    refine xr_if_eq (tgt := 20) dX10_bitsOf_5 rfl (fun c1 => ?_) (fun c1 => ?_)
    · refine xr_iload_n dX10_bitsOf_20 1 rfl ?_
      exact xr_iret dX10_bitsOf_21 rfl rfl (⟨_, rfl, rfl, rfl, rfl, trivial⟩)
    · have hlt := sx_bit c1
      exact absurd hm (by omega)
  | succ m ih =>
    intro lf c hm
    refine xr_iload_n dX10_bitsOf_4 0 rfl ?_
    refine xr_if_eq (tgt := 20) dX10_bitsOf_5 rfl (fun c1 => ?_) (fun c1 => ?_)
    · refine xr_iload_n dX10_bitsOf_20 1 rfl ?_
      exact xr_iret dX10_bitsOf_21 rfl rfl (⟨_, rfl, rfl, rfl, rfl, trivial⟩)
    · have hlt := sx_bit c1
      refine xr_iinc (v := c + 1) (ls2 := [(1, .int (c + 1)), (2, .int (lf)), (0, .int (se))]) dX10_bitsOf_8 1 rfl rfl (by decide) rfl ?_
      refine xr_iload_n dX10_bitsOf_11 1 rfl ?_
      refine xr_iload_n dX10_bitsOf_12 1 rfl ?_
      refine xr_iconst (v := 1) dX10_bitsOf_13 rfl ?_
      refine xr_isub dX10_bitsOf_14 ?_
      refine xr_iand dX10_bitsOf_15 ?_
      refine xr_istore_n (ls2 := [(2, .int ((lf &&& (lf - 1)))), (1, .int (c + 1)), (0, .int (se))]) dX10_bitsOf_16 (by decide) rfl ?_
      refine xr_goto (tgt := 4) dX10_bitsOf_17 rfl ?_
      refine xb_ls (ls2 := [(2, .int ((lf &&& (lf - 1)))), (1, .int (c + 1)), (0, .int (se))]) [0, 1, 2] rfl ?_
      exact ih (lf &&& (lf - 1)) (c + 1) (by omega)
set_option maxRecDepth 100000 in
set_option maxHeartbeats 4000000 in
theorem g_X10_bitsOf (se : Int32) {l : Launch} {G : xG} {M : xM} {J : xJ} : x_M l G fX10_bitsOf 0 0 0 [.int (se)] x_SH M J (qPI M J (fun r => True)) := by
  refine xb_of pX10 (Nat.le_of_ble_eq_true rfl) rfl ?_
  refine xr_iconst (v := 0) dX10_bitsOf_0 rfl ?_
  refine xr_istore_n (ls2 := [(1, .int (0)), (0, .int (se))]) dX10_bitsOf_1 (by decide) rfl ?_
  refine xr_iload_n dX10_bitsOf_2 1 rfl ?_
  refine xr_istore_n (ls2 := [(2, .int (se)), (1, .int (0)), (0, .int (se))]) dX10_bitsOf_3 (by decide) rfl ?_
  refine xb_ls (ls2 := [(2, .int (se)), (1, .int (0)), (0, .int (se))]) [0, 1, 2] rfl ?_
  exact bo_l _ se 0 (Nat.le_refl _)
theorem ad_w {M : xM} {hn : Nat} {si he pa z : Int32} (h5 : hn < 5) (h : he ≠ 0) (hw : ∀ k, k < hn → M 63 (5 + k) ≠ 0) : ∀ k, k < hn + 1 → (x_up (x_up (x_up (x_up (x_up (x_up M 63 hn si) 63 (5 + hn) he) 63 (10 + hn) pa) 67 hn 0) 68 hn 20) 62 6 z) 63 (5 + k) ≠ 0 := fun k hk => by
  rw [congrFun (x_up_n _ 6 z (by decide)) _, congrFun (x_up_n _ hn 20 (by decide)) _, congrFun (x_up_n _ hn 0 (by decide)) _, x_up_k _ _ _ (by omega)]
  by_cases e : k = hn
  · subst e; rw [x_up_s]; exact h
  · rw [x_up_k _ _ _ (by omega), x_up_k _ _ _ (by omega)]; exact hw k (by omega)
theorem ad_b {M : xM} {hn : Nat} {si he pa z : Int32} (h5 : hn < 5) (h : M 63 16 ≠ 0) : (x_up (x_up (x_up (x_up (x_up (x_up M 63 hn si) 63 (5 + hn) he) 63 (10 + hn) pa) 67 hn 0) 68 hn 20) 62 6 z) 63 16 ≠ 0 := by
  rw [congrFun (x_up_n _ 6 z (by decide)) _, congrFun (x_up_n _ hn 20 (by decide)) _, congrFun (x_up_n _ hn 0 (by decide)) _, x_up_k _ _ _ (by omega), x_up_k _ _ _ (by omega), x_up_k _ _ _ (by omega)]; exact h
set_option maxRecDepth 100000 in
set_option maxHeartbeats 4000000 in
theorem g_X10_adds (si he pa : Int32) {l : Launch} {G : xG} {M : xM} {J : xJ} {hn : Nat} (h_hn : hn < 5) (e_hn : M 62 6 = nI hn) (hv0 : he ≠ 0) (hw : ∀ k, k < hn → M 63 (5 + k) ≠ 0) (hbt : M 63 16 ≠ 0) : x_M l G fX10_adds 0 0 0 [.ref (62), .int (si), .int (he), .int (pa)] x_SH M J (qKV WAD M J (fun M2 => M2 62 6 = nI (hn + 1) ∧ (∀ k, k < hn + 1 → M2 63 (5 + k) ≠ 0) ∧ M2 63 16 ≠ 0)) := by
  refine xb_of pX10 (Nat.le_of_ble_eq_true rfl) rfl ?_
  refine xr_aload_n dX10_adds_0 0 rfl ?_
  refine xr_getR flX10_9 dX10_adds_1 s_62 rfl ?_
  refine xr_aload_n dX10_adds_4 0 rfl ?_
  refine xb_get (v := nI (hn)) flX10_109 dX10_adds_5 s_62 rfl e_hn ?_
  refine xr_iload_n dX10_adds_8 1 rfl ?_
  refine xb_iast (j := hn) dX10_adds_9 s_63 (by omega) (by decide) ?_
  refine xr_aload_n dX10_adds_10 0 rfl ?_
  refine xr_getR flX10_9 dX10_adds_11 s_62 rfl ?_
  refine xr_iconst (v := 5) dX10_adds_14 rfl ?_
  refine xr_aload_n dX10_adds_15 0 rfl ?_
  refine xb_get (v := nI (hn)) flX10_109 dX10_adds_16 s_62 rfl (Eq.trans (congrFun (x_up_n _ _ _ (by decide)) _) e_hn) ?_
  refine xr_iadd dX10_adds_19 ?_
  refine xb_top (y := nI (5 + hn)) (nI_add (5) (hn)) ?_
  refine xr_iload_n dX10_adds_20 2 rfl ?_
  refine xb_iast (j := 5 + hn) dX10_adds_21 s_63 (by omega) (by decide) ?_
  refine xr_aload_n dX10_adds_22 0 rfl ?_
  refine xr_getR flX10_9 dX10_adds_23 s_62 rfl ?_
  refine xr_bipush (v := 10) dX10_adds_26 rfl ?_
  refine xr_aload_n dX10_adds_28 0 rfl ?_
  refine xb_get (v := nI (hn)) flX10_109 dX10_adds_29 s_62 rfl (Eq.trans (congrFun (x_up_n _ _ _ (by decide)) _) (Eq.trans (congrFun (x_up_n _ _ _ (by decide)) _) e_hn)) ?_
  refine xr_iadd dX10_adds_32 ?_
  refine xb_top (y := nI (10 + hn)) (nI_add (10) (hn)) ?_
  refine xr_iload_n dX10_adds_33 3 rfl ?_
  refine xb_iast (j := 10 + hn) dX10_adds_34 s_63 (by omega) (by decide) ?_
  refine xr_aload_n dX10_adds_35 0 rfl ?_
  refine xr_getR flX10_22 dX10_adds_36 s_62 rfl ?_
  refine xr_aload_n dX10_adds_39 0 rfl ?_
  refine xb_get (v := nI (hn)) flX10_109 dX10_adds_40 s_62 rfl (Eq.trans (congrFun (x_up_n _ _ _ (by decide)) _) (Eq.trans (congrFun (x_up_n _ _ _ (by decide)) _) (Eq.trans (congrFun (x_up_n _ _ _ (by decide)) _) e_hn))) ?_
  refine xr_iconst (v := 0) dX10_adds_43 rfl ?_
  refine xb_iast (j := hn) dX10_adds_44 s_67 (by omega) (by decide) ?_
  refine xr_aload_n dX10_adds_45 0 rfl ?_
  refine xr_getR flX10_25 dX10_adds_46 s_62 rfl ?_
  refine xr_aload_n dX10_adds_49 0 rfl ?_
  refine xb_get (v := nI (hn)) flX10_109 dX10_adds_50 s_62 rfl (Eq.trans (congrFun (x_up_n _ _ _ (by decide)) _) (Eq.trans (congrFun (x_up_n _ _ _ (by decide)) _) (Eq.trans (congrFun (x_up_n _ _ _ (by decide)) _) (Eq.trans (congrFun (x_up_n _ _ _ (by decide)) _) e_hn)))) ?_
  refine xr_bipush (v := 20) dX10_adds_53 rfl ?_
  refine xb_iast (j := hn) dX10_adds_55 s_68 (by omega) (by decide) ?_
  refine xr_aload_n dX10_adds_56 0 rfl ?_
  refine xr_dup dX10_adds_57 rfl ?_
  refine xb_get (v := nI (hn)) flX10_109 dX10_adds_58 s_62 rfl (Eq.trans (congrFun (x_up_n _ _ _ (by decide)) _) (Eq.trans (congrFun (x_up_n _ _ _ (by decide)) _) (Eq.trans (congrFun (x_up_n _ _ _ (by decide)) _) (Eq.trans (congrFun (x_up_n _ _ _ (by decide)) _) (Eq.trans (congrFun (x_up_n _ _ _ (by decide)) _) e_hn))))) ?_
  refine xr_iconst (v := 1) dX10_adds_61 rfl ?_
  refine xr_iadd dX10_adds_62 ?_
  refine xb_top (y := nI (hn + 1)) (nI_add (hn) (1)) ?_
  refine xr_putI fpX10_109 dX10_adds_63 s_62 rfl rfl rfl ?_
  exact xr_vret dX10_adds_66 rfl (⟨rfl, rfl, rfl, (Ke.up (by decide) (Ke.up (by unfold WAD; omega) (Ke.up (by unfold WAD; omega) (Ke.up (by unfold WAD; omega) (Ke.up (by unfold WAD; omega) (Ke.up (by unfold WAD; omega) Ke.rf)))))), ⟨(x_up_s _ _ _ _), ad_w h_hn hv0 hw, ad_b h_hn hbt⟩⟩)
theorem sx_n0 {v : Int32} (h : 1 ≤ v.toInt64 ∧ v.toInt64 ≤ 9) : v ≠ 0 := fun q => by subst q; exact absurd h.1 (by decide)
theorem sx_n0J {v : Int64} (h : 1 ≤ v ∧ v ≤ 9) : v.toInt32 ≠ 0 := fun q => by
  have h1 := Int64.le_iff_toInt_le.mp h.1
  have h2 := Int64.le_iff_toInt_le.mp h.2
  have h3 : (1 : Int64).toInt = 1 := rfl
  have h4 : (9 : Int64).toInt = 9 := rfl
  have h5 := congrArg Int32.toInt q
  rw [Int64.toInt_toInt32] at h5
  rw [show (0 : Int32).toInt = 0 from rfl, Int.bmod_eq_of_le (by omega) (by omega)] at h5
  omega
abbrev WFE (p k : Nat) : Prop := (p = 62 ∧ k = 11) ∨ (p = 69)
abbrev WLT (p k : Nat) : Prop := (p = 62 ∧ k = 11) ∨ (p = 62 ∧ k = 13) ∨ (p = 62 ∧ k = 14) ∨ (p = 62 ∧ k = 15) ∨ (p = 62 ∧ k = 16) ∨ (p = 62 ∧ k = 17) ∨ (p = 62 ∧ k = 18) ∨ (p = 70)
abbrev W70 (p k : Nat) : Prop := (p = 70)
set_option maxRecDepth 100000 in
set_option maxHeartbeats 4000000 in
theorem rlw_l {v : Int32} {N : Nat} (hN : N ≤ 120) {l : Launch} {G : xG} {M : xM} {J : xJ} {Q : xQ} (hC : ∀ (M2 : xM), Ke W70 M M2 → x_X l G fX10_law 59 0 0 Q 60 [(2, .int (nI (N))), (0, .ref (62))] [] x_SH M2 J 0 0) : ∀ (m k : Nat) (M1 : xM), k + m = N → Ke W70 M M1 → x_X l G fX10_law 59 0 0 Q 37 [(3, .int (nI (k))), (2, .int (nI (N))), (1, .int (v)), (0, .ref (62))] [] x_SH M1 J 0 0 := by
  intro m
  induction m with
  | zero =>
    intro k M1 hk hM
    refine xr_iload_n dX10_law_37 0 rfl ?_
    refine xr_iload_n dX10_law_38 1 rfl ?_
    refine xr_icmp_ge (tgt := 60) dX10_law_39 rfl (fun _ => ?_) (fun c => absurd (nI_le (a := N) (b := k) (by omega) (by omega)) c)
    refine xb_ls (ls2 := [(2, .int (nI (N))), (0, .ref (62))]) [1, 3] rfl ?_
    exact hC _ hM
  | succ m ih =>
    intro k M1 hk hM
    have hkN : k < N := by omega
    refine xr_iload_n dX10_law_37 0 rfl ?_
    refine xr_iload_n dX10_law_38 1 rfl ?_
    refine xr_icmp_ge (tgt := 60) dX10_law_39 rfl (fun c => absurd c (nI_ge (a := k) (b := N) (by omega) (by omega))) (fun _ => ?_)
    refine xr_aload_n dX10_law_42 3 rfl ?_
    refine xr_getR flX10_31 dX10_law_43 s_62 rfl ?_
    refine xr_iload_n dX10_law_46 0 rfl ?_
    refine xr_aload_n dX10_law_47 3 rfl ?_
    refine xr_getR flX10_28 dX10_law_48 s_62 rfl ?_
    refine xr_iload_n dX10_law_51 0 rfl ?_
    refine xb_iald (j := k) (v := M1 69 k) dX10_law_52 s_69 (by omega) (by decide) rfl ?_
    refine xb_iast (j := k) dX10_law_53 s_70 (by omega) (by decide) ?_
    refine xr_iinc (v := nI (k + 1)) (ls2 := [(3, .int (nI (k + 1))), (2, .int (nI (N))), (1, .int (v)), (0, .ref (62))]) dX10_law_54 0 rfl (nI_1 _) (by decide) rfl ?_
    refine xr_goto (tgt := 37) dX10_law_57 rfl ?_
    refine xb_ls (ls2 := [(3, .int (nI (k + 1))), (2, .int (nI (N))), (1, .int (v)), (0, .ref (62))]) [0, 1, 2, 3] rfl ?_
    exact ih (k + 1) (x_up M1 70 k (M1 69 k)) (by omega) (Ke.up (by unfold W70; omega) hM)
abbrev WLI (p k : Nat) : Prop := (p = 63) ∨ (67 ≤ p ∧ p ≤ 68)
set_option maxRecDepth 100000 in
set_option maxHeartbeats 4000000 in
theorem th_l {w : Int32} {h K : Nat} (hh : h < 5) (hK : K ≤ 200) {l : Launch} {G : xG} {M : xM} {J : xJ} {Q : xQ} {hn : Nat} (h_hn : hn ≤ 5) (e_hn : M 62 6 = nI hn) (hw : ∀ k, k < hn → M 63 (5 + k) ≠ 0) (hbt : M 63 16 ≠ 0) (htx : M 62 13 = -1 ∨ ∃ n : Nat, n ≤ 120 ∧ M 62 13 = nI n) (hC : ∀ (M2 : xM), Ke WR1 M M2 → x_X l G fX10_then 62 0 0 Q 69 [(3, .int (w)), (2, .int (nI (K))), (1, .int (nI (h))), (0, .ref (62))] [] x_SH M2 J 0 0) : ∀ (m k : Nat) (M1 : xM), k + m = K → Ke WR1 M M1 → x_X l G fX10_then 62 0 0 Q 46 [(4, .int (nI (k))), (3, .int (w)), (2, .int (nI (K))), (1, .int (nI (h))), (0, .ref (62))] [] x_SH M1 J 0 0 := by
  intro m
  induction m with
  | zero =>
    intro k M1 hk hM
    refine xr_iload dX10_then_46 0 rfl ?_
    refine xr_iload_n dX10_then_48 2 rfl ?_
    refine xr_icmp_ge (tgt := 69) dX10_then_49 rfl (fun _ => ?_) (fun c => absurd (nI_le (a := K) (b := k) (by omega) (by omega)) c)
    refine xb_ls (ls2 := [(3, .int (w)), (2, .int (nI (K))), (1, .int (nI (h))), (0, .ref (62))]) [1, 2, 3, 4] rfl ?_
    exact hC _ hM
  | succ m ih =>
    intro k M1 hk hM
    have hkN : k < K := by omega
    refine xr_iload dX10_then_46 0 rfl ?_
    refine xr_iload_n dX10_then_48 2 rfl ?_
    refine xr_icmp_ge (tgt := 69) dX10_then_49 rfl (fun c => absurd c (nI_ge (a := k) (b := K) (by omega) (by omega))) (fun _ => ?_)
    refine xr_aload_n dX10_then_52 4 rfl ?_
    refine xr_aload_n dX10_then_53 4 rfl ?_
    refine xb_get (v := M1 62 9) flX10_151 dX10_then_54 s_62 rfl rfl ?_
    refine xr_iload dX10_then_57 0 rfl ?_
    refine xr_iadd dX10_then_59 ?_
    refine xr_callV (As := [.int (((M1 62 9) + (nI (k))))]) (rest := []) mlX10_255 (g_X10_tickGoes ((M1 62 9) + (nI (k))) h_hn (Eq.trans (hM 62 6 (by decide)) e_hn) (fun kw hkw => by rw [show M1 63 (5 + kw) = M 63 (5 + kw) from (Eq.trans (hM 63 (5 + kw) (by unfold WR1; omega)) rfl)]; exact hw kw hkw) (by rw [show M1 63 16 = M 63 16 from (Eq.trans (hM 63 16 (by unfold WR1; omega)) rfl)]; exact hbt) (by rw [show M1 62 13 = M 62 13 from (Eq.trans (hM 62 13 (by unfold WR1; omega)) rfl)]; exact htx)) dX10_then_60 s_62 rfl rfl (Nat.le_of_ble_eq_true rfl) (by decide) ⟨by decide, by decide⟩ (fun v s2 M1 J2 hq => ?_)
    obtain ⟨rfl, rfl, rfl, k2, _⟩ := hq
    try dsimp only [Option.toList, List.cons_append, List.nil_append]
    refine xr_iinc (v := nI (k + 1)) (ls2 := [(4, .int (nI (k + 1))), (3, .int (w)), (2, .int (nI (K))), (1, .int (nI (h))), (0, .ref (62))]) dX10_then_63 0 rfl (nI_1 _) (by decide) rfl ?_
    refine xr_goto (tgt := 46) dX10_then_66 rfl ?_
    refine xb_ls (ls2 := [(4, .int (nI (k + 1))), (3, .int (w)), (2, .int (nI (K))), (1, .int (nI (h))), (0, .ref (62))]) [0, 1, 2, 3, 4] rfl ?_
    exact ih (k + 1) M1 (by omega) (Ke.tr (fun _ _ h => h) hM k2)
set_option maxRecDepth 100000 in
set_option maxHeartbeats 4000000 in
theorem gi_X10_lasts {l : Launch} {G : xG} {M : xM} {J : xJ} {hn : Nat} (h_hn : hn ≤ 5) (e_hn : M 62 6 = nI hn) (hw : ∀ k, k < hn → M 63 (5 + k) ≠ 0) (hbt : M 63 16 ≠ 0) (htx : M 62 13 = -1 ∨ ∃ n : Nat, n ≤ 120 ∧ M 62 13 = nI n) : x_M l G fX10_lasts 63 0 0 [.ref (62)] x_SH M J (qKI WR1 M J (fun r M2 => True)) := by
  refine xb_of pX10 (Nat.le_of_ble_eq_true rfl) rfl ?_
  refine xr_aload_n dX10_lasts_0 0 rfl ?_
  refine xr_aload_n dX10_lasts_1 0 rfl ?_
  refine xr_callV (As := []) (rest := [.ref (62)]) mlX10_246 (g_X10_upNow h_hn e_hn (fun kw hkw => by rw [show M 63 (5 + kw) = M 63 (5 + kw) from rfl]; exact hw kw hkw) (by rw [show M 63 16 = M 63 16 from rfl]; exact hbt) (by rw [show M 62 13 = M 62 13 from rfl]; exact htx)) dX10_lasts_2 s_62 rfl rfl (Nat.le_of_ble_eq_true rfl) (by decide) ⟨by decide, by decide⟩ (fun v s2 M9 J2 hq => ?_)
  obtain ⟨r1, rfl, rfl, rfl, rfl, _⟩ := hq
  try dsimp only [Option.toList, List.cons_append, List.nil_append]
  refine xr_callV (As := [.int (r1)]) (rest := []) mlX10_267 (g_X10_lastsOf r1 h_hn e_hn (fun kw hkw => by rw [show M 63 (5 + kw) = M 63 (5 + kw) from rfl]; exact hw kw hkw) (by rw [show M 63 16 = M 63 16 from rfl]; exact hbt) (by rw [show M 62 13 = M 62 13 from rfl]; exact htx)) dX10_lasts_5 s_62 rfl rfl (Nat.le_of_ble_eq_true rfl) (by decide) ⟨by decide, by decide⟩ (fun v s2 M2 J2 hq => ?_)
  obtain ⟨r4, rfl, rfl, rfl, k3, _⟩ := hq
  try dsimp only [Option.toList, List.cons_append, List.nil_append]
  exact xr_iret dX10_lasts_8 rfl rfl (⟨_, rfl, rfl, rfl, (Ke.tr (fun _ _ h => h) Ke.rf k3), trivial⟩)
set_option maxRecDepth 100000 in
set_option maxHeartbeats 4000000 in
theorem rr_l {wi fp : Int32} {h : Nat} (hh : h < 5) {l : Launch} {G : xG} {M : xM} {J : xJ} {Q : xQ} {hn : Nat} (h_hn : hn ≤ 5) (e_hn : M 62 6 = nI hn) (hw : ∀ k, k < hn → M 63 (5 + k) ≠ 0) (hbt : M 63 16 ≠ 0) (htx : M 62 13 = -1 ∨ ∃ n : Nat, n ≤ 120 ∧ M 62 13 = nI n) (hC : ∀ (M2 : xM), Ke WR1 M M2 → x_X l G fX10_rescue 63 0 0 Q 96 [(0, .ref (62))] [] x_SH M2 J 0 0) (hR : ∀ (r : Int32) (M2 : xM), Ke WR1 M M2 → Q (some (.int r)) x_SH M2 J) : ∀ (m k : Nat) (M1 : xM), k + m = 100 → Ke WR1 M M1 → x_X l G fX10_rescue 63 0 0 Q 61 [(4, .int (nI (k))), (3, .int (wi)), (2, .int (fp)), (1, .int (nI (h))), (0, .ref (62))] [] x_SH M1 J 0 0 := by
  intro m
  induction m with
  | zero =>
    intro k M1 hk hM
    refine xr_iload dX10_rescue_61 0 rfl ?_
    refine xr_bipush (v := 100) dX10_rescue_63 rfl ?_
    refine xr_icmp_ge (tgt := 96) dX10_rescue_65 rfl (fun _ => ?_) (fun c => absurd (nI_le (a := 100) (b := k) (by omega) (by omega)) c)
    refine xb_ls (ls2 := [(0, .ref (62))]) [4] rfl ?_
    exact hC _ hM
  | succ m ih =>
    intro k M1 hk hM
    have hkN : k < 100 := by omega
    refine xr_iload dX10_rescue_61 0 rfl ?_
    refine xr_bipush (v := 100) dX10_rescue_63 rfl ?_
    refine xr_icmp_ge (tgt := 96) dX10_rescue_65 rfl (fun c => absurd c (nI_ge (a := k) (b := 100) (by omega) (by omega))) (fun _ => ?_)
    refine xr_aload_n dX10_rescue_68 4 rfl ?_
    refine xr_iload_n dX10_rescue_69 3 rfl ?_
    refine xr_iload dX10_rescue_70 0 rfl ?_
    refine xr_iload_n dX10_rescue_72 2 rfl ?_
    refine xr_bipush (v := 100) dX10_rescue_73 rfl ?_
    refine xr_irem dX10_rescue_75 (by decide) ?_
    refine xr_iload_n dX10_rescue_76 2 rfl ?_
    refine xr_bipush (v := 100) dX10_rescue_77 rfl ?_
    refine xr_idiv dX10_rescue_79 (by decide) ?_
    refine xr_callV (As := [.int (nI (h)), .int (nI (k)), .int ((fp - fp / 100 * 100)), .int ((fp / 100))]) (rest := []) mlX10_281 (g_X10_fallWith (h := h) (by omega) (nI (k)) (fp - fp / 100 * 100) (fp / 100) h_hn (Eq.trans (hM 62 6 (by decide)) e_hn) (fun kw hkw => by rw [show M1 63 (5 + kw) = M 63 (5 + kw) from (Eq.trans (hM 63 (5 + kw) (by unfold WR1; omega)) rfl)]; exact hw kw hkw) (by rw [show M1 63 16 = M 63 16 from (Eq.trans (hM 63 16 (by unfold WR1; omega)) rfl)]; exact hbt) (by rw [show M1 62 13 = M 62 13 from (Eq.trans (hM 62 13 (by unfold WR1; omega)) rfl)]; exact htx)) dX10_rescue_80 s_62 rfl rfl (Nat.le_of_ble_eq_true rfl) (by decide) ⟨by decide, by decide⟩ (fun v s2 M1 J2 hq => ?_)
    obtain ⟨r3, rfl, rfl, rfl, k2, _⟩ := hq
    try dsimp only [Option.toList, List.cons_append, List.nil_append]
    refine xr_iload_n dX10_rescue_83 1 rfl ?_
    refine xr_icmp_le (tgt := 90) dX10_rescue_84 rfl (fun c4 => ?_) (fun c4 => ?_)
    · refine xr_iinc (v := nI (k + 1)) (ls2 := [(4, .int (nI (k + 1))), (3, .int (wi)), (2, .int (fp)), (1, .int (nI (h))), (0, .ref (62))]) dX10_rescue_90 0 rfl (nI_1 _) (by decide) rfl ?_
      refine xr_goto (tgt := 61) dX10_rescue_93 rfl ?_
      refine xb_ls (ls2 := [(4, .int (nI (k + 1))), (3, .int (wi)), (2, .int (fp)), (1, .int (nI (h))), (0, .ref (62))]) [0, 1, 2, 3, 4] rfl ?_
      exact ih (k + 1) M1 (by omega) (Ke.tr (fun _ _ h => h) hM k2)
    · refine xr_iload dX10_rescue_87 0 rfl ?_
      exact xr_iret dX10_rescue_89 rfl rfl (hR _ _ (Ke.tr (fun _ _ h => h) hM k2))
set_option maxRecDepth 100000 in
set_option maxHeartbeats 4000000 in
theorem g_X10_rowIs (d : Int32) {l : Launch} {G : xG} {M : xM} {J : xJ} : x_M l G fX10_rowIs 2 0 0 [.ref (62), .int (d)] x_SH M J (qPI M J (fun r => r < 0 ∨ 0 ≤ d ∧ d ≤ 5)) := by
  refine xb_of pX10 (Nat.le_of_ble_eq_true rfl) rfl ?_
  refine xr_iload_n dX10_rowIs_0 1 rfl ?_
  refine xb_cS (As := [.int (d)]) (rest := []) mlX10_125 (c_X10_isShelf d) dX10_rowIs_1 rfl rfl (Nat.le_of_ble_eq_true rfl) (by decide) (by decide) ?_
  refine xb_bne (tgt := 11) dX10_rowIs_4 rfl (fun c1 => ?_) (fun c1 => ?_)
  · obtain ⟨d_, hd_, rfl⟩ := x_natle (N := 5) (by decide) rfl c1
    replace hd_ := Nat.lt_succ_of_le hd_
    refine xr_aload_n dX10_rowIs_11 0 rfl ?_
    refine xr_getR flX10_75 dX10_rowIs_12 s_62 rfl ?_
    refine xr_iload_n dX10_rowIs_15 1 rfl ?_
    refine xb_iald (j := d_) (v := M 83 d_) dX10_rowIs_16 s_83 hd_ (by decide) rfl ?_
    refine xr_if_ge (tgt := 25) dX10_rowIs_17 rfl (fun c2 => ?_) (fun c2 => ?_)
    · refine xr_aload_n dX10_rowIs_25 0 rfl ?_
      refine xr_getR flX10_75 dX10_rowIs_26 s_62 rfl ?_
      refine xr_iload_n dX10_rowIs_29 1 rfl ?_
      refine xb_iald (j := d_) (v := M 83 d_) dX10_rowIs_30 s_83 hd_ (by decide) rfl ?_
      refine xr_bipush (v := 50) dX10_rowIs_31 rfl ?_
      refine xr_icmp_ne (tgt := 40) dX10_rowIs_33 rfl (fun c3 => ?_) (fun c3 => ?_)
      · refine xr_bipush (v := -12) dX10_rowIs_40 rfl ?_
        exact xr_iret dX10_rowIs_42 rfl rfl (⟨_, rfl, rfl, rfl, rfl, (Or.inl (by decide))⟩)
      · refine xr_iconst (v := 1) dX10_rowIs_36 rfl ?_
        refine xr_goto (tgt := 42) dX10_rowIs_37 rfl ?_
        exact xr_iret dX10_rowIs_42 rfl rfl (⟨_, rfl, rfl, rfl, rfl, (Or.inr ⟨nI_pos' (by omega), nI_le (a := d_) (b := 5) (by omega) (by decide)⟩)⟩)
    · refine xr_bipush (v := -11) dX10_rowIs_20 rfl ?_
      refine xr_goto (tgt := 42) dX10_rowIs_22 rfl ?_
      exact xr_iret dX10_rowIs_42 rfl rfl (⟨_, rfl, rfl, rfl, rfl, (Or.inl (by decide))⟩)
  · refine xr_iconst (v := -1) dX10_rowIs_7 rfl ?_
    refine xr_goto (tgt := 42) dX10_rowIs_8 rfl ?_
    exact xr_iret dX10_rowIs_42 rfl rfl (⟨_, rfl, rfl, rfl, rfl, (Or.inl (by decide))⟩)
abbrev WRB (p k : Nat) : Prop := (p = 62 ∧ k = 14) ∨ (p = 62 ∧ k = 15) ∨ (p = 62 ∧ k = 16) ∨ (p = 62 ∧ k = 17) ∨ (p = 62 ∧ k = 18) ∨ (p = 62 ∧ k = 23) ∨ (p = 62 ∧ k = 26) ∨ (71 ≤ p ∧ p ≤ 74) ∨ (p = 63 ∧ k = 16) ∨ (p = 63 ∧ k = 17)
abbrev WRL (p k : Nat) : Prop := (p = 62 ∧ k = 14) ∨ (p = 62 ∧ k = 15) ∨ (p = 62 ∧ k = 16) ∨ (p = 62 ∧ k = 17) ∨ (p = 62 ∧ k = 18) ∨ (p = 62 ∧ k = 23) ∨ (p = 62 ∧ k = 26) ∨ (71 ≤ p ∧ p ≤ 74) ∨ (p = 63 ∧ k = 18)
abbrev WRS (p k : Nat) : Prop := (p = 62 ∧ k = 14) ∨ (p = 62 ∧ k = 15) ∨ (p = 62 ∧ k = 16) ∨ (p = 62 ∧ k = 17) ∨ (p = 62 ∧ k = 18) ∨ (p = 62 ∧ k = 23) ∨ (p = 62 ∧ k = 26) ∨ (71 ≤ p ∧ p ≤ 74) ∨ (p = 63 ∧ 10 ≤ k ∧ k ≤ 14)
set_option maxRecDepth 100000 in
set_option maxHeartbeats 4000000 in
theorem rbi_l {h3 h2 w : Int32} {bt : Nat} (hb2 : 2 ≤ bt) (hb25 : bt ≤ 25) {l : Launch} {G : xG} {M : xM} {J : xJ} {Q : xQ} {hn : Nat} (h_hn : hn ≤ 5) (e_hn : M 62 6 = nI hn) (hw : ∀ k, k < hn → M 63 (5 + k) ≠ 0) (hbt : M 63 16 ≠ 0) (htx : M 62 13 = -1 ∨ ∃ n : Nat, n ≤ 120 ∧ M 62 13 = nI n) (hC : ∀ (mo : Int32) (be : Int32) (M2 : xM), Ke WRB M M2 → (M2 63 16 ≠ 0) → x_X l G fX10_beatFor 64 0 0 Q 122 [(6, .int (nI (bt))), (5, .int (mo)), (4, .int (be)), (3, .int (h3)), (2, .int (h2)), (1, .int (w)), (0, .ref (62))] [] x_SH M2 J 0 0) : ∀ (m k : Nat) (mo : Int32) (be : Int32) (M1 : xM), k + m = bt → Ke WRB M M1 → (M1 63 16 ≠ 0) → x_X l G fX10_beatFor 64 0 0 Q 47 [(7, .int (nI (k))), (6, .int (nI (bt))), (5, .int (mo)), (4, .int (be)), (3, .int (h3)), (2, .int (h2)), (1, .int (w)), (0, .ref (62))] [] x_SH M1 J 0 0 := by
  intro m
  induction m with
  | zero =>
    intro k mo be M1 hk hM hI
    refine xr_iload dX10_beatFor_47 0 rfl ?_
    refine xr_iload dX10_beatFor_49 1 rfl ?_
    refine xr_icmp_ge (tgt := 122) dX10_beatFor_51 rfl (fun _ => ?_) (fun c => absurd (nI_le (a := bt) (b := k) (by omega) (by omega)) c)
    refine xb_ls (ls2 := [(6, .int (nI (bt))), (5, .int (mo)), (4, .int (be)), (3, .int (h3)), (2, .int (h2)), (1, .int (w)), (0, .ref (62))]) [1, 2, 3, 4, 5, 6, 7] rfl ?_
    exact hC mo be _ hM hI
  | succ m ih =>
    intro k mo be M1 hk hM hI
    have hkN : k < bt := by omega
    refine xr_iload dX10_beatFor_47 0 rfl ?_
    refine xr_iload dX10_beatFor_49 1 rfl ?_
    refine xr_icmp_ge (tgt := 122) dX10_beatFor_51 rfl (fun c => absurd c (nI_ge (a := k) (b := bt) (by omega) (by omega))) (fun _ => ?_)
    refine xr_aload_n dX10_beatFor_54 7 rfl ?_
    refine xr_getR flX10_9 dX10_beatFor_55 s_62 rfl ?_
    refine xr_bipush (v := 16) dX10_beatFor_58 rfl ?_
    refine xr_iload dX10_beatFor_60 1 rfl ?_
    refine xb_iast (j := 16) dX10_beatFor_62 s_63 (by decide) (by decide) ?_
    refine xr_aload_n dX10_beatFor_63 7 rfl ?_
    refine xr_getR flX10_9 dX10_beatFor_64 s_62 rfl ?_
    refine xr_bipush (v := 17) dX10_beatFor_67 rfl ?_
    refine xr_iload dX10_beatFor_69 0 rfl ?_
    refine xb_iast (j := 17) dX10_beatFor_71 s_63 (by decide) (by decide) ?_
    refine xr_aload_n dX10_beatFor_72 7 rfl ?_
    refine xr_callV (As := []) (rest := []) mlX10_270 (gi_X10_lasts h_hn (Eq.trans (congrFun (x_up_n _ _ _ (by decide)) _) (Eq.trans (congrFun (x_up_n _ _ _ (by decide)) _) (Eq.trans (hM 62 6 (by decide)) e_hn))) (fun kw hkw => by rw [show (x_up (x_up M1 63 16 (nI (bt))) 63 17 (nI (k))) 63 (5 + kw) = M 63 (5 + kw) from (Eq.trans (x_up_k _ _ _ (by omega)) (Eq.trans (x_up_k _ _ _ (by omega)) (Eq.trans (hM 63 (5 + kw) (by unfold WRB; omega)) rfl)))]; exact hw kw hkw) (by rw [(Eq.trans (x_up_k _ _ _ (by decide)) (x_up_s _ _ _ _))]; exact nI_ne0 (by omega) (by omega)) (by rw [show (x_up (x_up M1 63 16 (nI (bt))) 63 17 (nI (k))) 62 13 = M 62 13 from (Eq.trans (congrFun (x_up_n _ _ _ (by omega)) _) (Eq.trans (congrFun (x_up_n _ _ _ (by omega)) _) (Eq.trans (hM 62 13 (by unfold WRB; omega)) rfl)))]; exact htx)) dX10_beatFor_73 s_62 rfl rfl (Nat.le_of_ble_eq_true rfl) (by decide) ⟨by decide, by decide⟩ (fun v s2 M1 J2 hq => ?_)
    obtain ⟨r3, rfl, rfl, rfl, k2, _⟩ := hq
    try dsimp only [Option.toList, List.cons_append, List.nil_append]
    refine xr_istore (ls2 := [(8, .int (r3)), (7, .int (nI (k))), (6, .int (nI (bt))), (5, .int (mo)), (4, .int (be)), (3, .int (h3)), (2, .int (h2)), (1, .int (w)), (0, .ref (62))]) dX10_beatFor_76 (by decide) rfl ?_
    refine xr_iload dX10_beatFor_78 0 rfl ?_
    refine xr_iload dX10_beatFor_80 3 rfl ?_
    refine xr_icmp_le (tgt := 96) dX10_beatFor_82 rfl (fun c4 => ?_) (fun c4 => ?_)
    · refine xr_iload dX10_beatFor_96 4 rfl ?_
      refine xr_istore (ls2 := [(4, .int (be)), (8, .int (r3)), (7, .int (nI (k))), (6, .int (nI (bt))), (5, .int (mo)), (3, .int (h3)), (2, .int (h2)), (1, .int (w)), (0, .ref (62))]) dX10_beatFor_98 (by decide) rfl ?_
      refine xr_iload dX10_beatFor_100 1 rfl ?_
      refine xr_iload dX10_beatFor_102 4 rfl ?_
      refine xr_icmp_le (tgt := 112) dX10_beatFor_104 rfl (fun c5 => ?_) (fun c5 => ?_)
      · refine xr_iload dX10_beatFor_112 4 rfl ?_
        refine xr_istore (ls2 := [(5, .int (mo)), (4, .int (be)), (8, .int (r3)), (7, .int (nI (k))), (6, .int (nI (bt))), (3, .int (h3)), (2, .int (h2)), (1, .int (w)), (0, .ref (62))]) dX10_beatFor_114 (by decide) rfl ?_
        refine xr_iinc (v := nI (k + 1)) (ls2 := [(7, .int (nI (k + 1))), (5, .int (mo)), (4, .int (be)), (8, .int (r3)), (6, .int (nI (bt))), (3, .int (h3)), (2, .int (h2)), (1, .int (w)), (0, .ref (62))]) dX10_beatFor_116 3 rfl (nI_1 _) (by decide) rfl ?_
        refine xr_goto (tgt := 47) dX10_beatFor_119 rfl ?_
        refine xb_ls (ls2 := [(7, .int (nI (k + 1))), (6, .int (nI (bt))), (5, .int (mo)), (4, .int (be)), (3, .int (h3)), (2, .int (h2)), (1, .int (w)), (0, .ref (62))]) [0, 4, 1, 2, 5, 6, 7, 8] rfl ?_
        exact ih (k + 1) mo be M1 (by omega) (Ke.tr (fun pp kk hh => by unfold WR1 at hh; unfold WRB; omega) (Ke.up (by decide) (Ke.up (by decide) hM)) k2) (by rw [(Eq.trans (k2 63 16 (by decide)) (Eq.trans (x_up_k _ _ _ (by decide)) (x_up_s _ _ _ _)))]; exact nI_ne0 (by omega) (by omega))
      · refine xr_iload dX10_beatFor_107 1 rfl ?_
        refine xr_goto (tgt := 114) dX10_beatFor_109 rfl ?_
        refine xr_istore (ls2 := [(5, .int (r3)), (4, .int (be)), (8, .int (r3)), (7, .int (nI (k))), (6, .int (nI (bt))), (3, .int (h3)), (2, .int (h2)), (1, .int (w)), (0, .ref (62))]) dX10_beatFor_114 (by decide) rfl ?_
        refine xr_iinc (v := nI (k + 1)) (ls2 := [(7, .int (nI (k + 1))), (5, .int (r3)), (4, .int (be)), (8, .int (r3)), (6, .int (nI (bt))), (3, .int (h3)), (2, .int (h2)), (1, .int (w)), (0, .ref (62))]) dX10_beatFor_116 3 rfl (nI_1 _) (by decide) rfl ?_
        refine xr_goto (tgt := 47) dX10_beatFor_119 rfl ?_
        refine xb_ls (ls2 := [(7, .int (nI (k + 1))), (6, .int (nI (bt))), (5, .int (r3)), (4, .int (be)), (3, .int (h3)), (2, .int (h2)), (1, .int (w)), (0, .ref (62))]) [0, 4, 1, 2, 5, 6, 7, 8] rfl ?_
        exact ih (k + 1) r3 be M1 (by omega) (Ke.tr (fun pp kk hh => by unfold WR1 at hh; unfold WRB; omega) (Ke.up (by decide) (Ke.up (by decide) hM)) k2) (by rw [(Eq.trans (k2 63 16 (by decide)) (Eq.trans (x_up_k _ _ _ (by decide)) (x_up_s _ _ _ _)))]; exact nI_ne0 (by omega) (by omega))
    · refine xr_bipush (v := 100) dX10_beatFor_85 rfl ?_
      refine xr_iload dX10_beatFor_87 2 rfl ?_
      refine xr_imul dX10_beatFor_89 ?_
      refine xr_iload dX10_beatFor_90 1 rfl ?_
      refine xr_iadd dX10_beatFor_92 ?_
      refine xr_goto (tgt := 98) dX10_beatFor_93 rfl ?_
      refine xr_istore (ls2 := [(4, .int (((100 * (nI (bt))) + (nI (k))))), (8, .int (r3)), (7, .int (nI (k))), (6, .int (nI (bt))), (5, .int (mo)), (3, .int (h3)), (2, .int (h2)), (1, .int (w)), (0, .ref (62))]) dX10_beatFor_98 (by decide) rfl ?_
      refine xr_iload dX10_beatFor_100 1 rfl ?_
      refine xr_iload dX10_beatFor_102 4 rfl ?_
      refine xr_icmp_le (tgt := 112) dX10_beatFor_104 rfl (fun c6 => ?_) (fun c6 => ?_)
      · refine xr_iload dX10_beatFor_112 4 rfl ?_
        refine xr_istore (ls2 := [(5, .int (mo)), (4, .int (((100 * (nI (bt))) + (nI (k))))), (8, .int (r3)), (7, .int (nI (k))), (6, .int (nI (bt))), (3, .int (h3)), (2, .int (h2)), (1, .int (w)), (0, .ref (62))]) dX10_beatFor_114 (by decide) rfl ?_
        refine xr_iinc (v := nI (k + 1)) (ls2 := [(7, .int (nI (k + 1))), (5, .int (mo)), (4, .int (((100 * (nI (bt))) + (nI (k))))), (8, .int (r3)), (6, .int (nI (bt))), (3, .int (h3)), (2, .int (h2)), (1, .int (w)), (0, .ref (62))]) dX10_beatFor_116 3 rfl (nI_1 _) (by decide) rfl ?_
        refine xr_goto (tgt := 47) dX10_beatFor_119 rfl ?_
        refine xb_ls (ls2 := [(7, .int (nI (k + 1))), (6, .int (nI (bt))), (5, .int (mo)), (4, .int (((100 * (nI (bt))) + (nI (k))))), (3, .int (h3)), (2, .int (h2)), (1, .int (w)), (0, .ref (62))]) [0, 4, 1, 2, 5, 6, 7, 8] rfl ?_
        exact ih (k + 1) mo ((100 * (nI (bt))) + (nI (k))) M1 (by omega) (Ke.tr (fun pp kk hh => by unfold WR1 at hh; unfold WRB; omega) (Ke.up (by decide) (Ke.up (by decide) hM)) k2) (by rw [(Eq.trans (k2 63 16 (by decide)) (Eq.trans (x_up_k _ _ _ (by decide)) (x_up_s _ _ _ _)))]; exact nI_ne0 (by omega) (by omega))
      · refine xr_iload dX10_beatFor_107 1 rfl ?_
        refine xr_goto (tgt := 114) dX10_beatFor_109 rfl ?_
        refine xr_istore (ls2 := [(5, .int (r3)), (4, .int (((100 * (nI (bt))) + (nI (k))))), (8, .int (r3)), (7, .int (nI (k))), (6, .int (nI (bt))), (3, .int (h3)), (2, .int (h2)), (1, .int (w)), (0, .ref (62))]) dX10_beatFor_114 (by decide) rfl ?_
        refine xr_iinc (v := nI (k + 1)) (ls2 := [(7, .int (nI (k + 1))), (5, .int (r3)), (4, .int (((100 * (nI (bt))) + (nI (k))))), (8, .int (r3)), (6, .int (nI (bt))), (3, .int (h3)), (2, .int (h2)), (1, .int (w)), (0, .ref (62))]) dX10_beatFor_116 3 rfl (nI_1 _) (by decide) rfl ?_
        refine xr_goto (tgt := 47) dX10_beatFor_119 rfl ?_
        refine xb_ls (ls2 := [(7, .int (nI (k + 1))), (6, .int (nI (bt))), (5, .int (r3)), (4, .int (((100 * (nI (bt))) + (nI (k))))), (3, .int (h3)), (2, .int (h2)), (1, .int (w)), (0, .ref (62))]) [0, 4, 1, 2, 5, 6, 7, 8] rfl ?_
        exact ih (k + 1) r3 ((100 * (nI (bt))) + (nI (k))) M1 (by omega) (Ke.tr (fun pp kk hh => by unfold WR1 at hh; unfold WRB; omega) (Ke.up (by decide) (Ke.up (by decide) hM)) k2) (by rw [(Eq.trans (k2 63 16 (by decide)) (Eq.trans (x_up_k _ _ _ (by decide)) (x_up_s _ _ _ _)))]; exact nI_ne0 (by omega) (by omega))
set_option maxRecDepth 100000 in
set_option maxHeartbeats 4000000 in
theorem rbo_l {h3 h2 w : Int32} {l : Launch} {G : xG} {M : xM} {J : xJ} {Q : xQ} {hn : Nat} (h_hn : hn ≤ 5) (e_hn : M 62 6 = nI hn) (hw : ∀ k, k < hn → M 63 (5 + k) ≠ 0) (hbt : M 63 16 ≠ 0) (htx : M 62 13 = -1 ∨ ∃ n : Nat, n ≤ 120 ∧ M 62 13 = nI n) (hC : ∀ (mo : Int32) (be : Int32) (M2 : xM), Ke WRB M M2 → (2 ≤ 25 ∧ M2 63 16 ≠ 0) → x_X l G fX10_beatFor 64 0 0 Q 128 [(5, .int (mo)), (4, .int (be)), (3, .int (h3)), (2, .int (h2)), (1, .int (w)), (0, .ref (62))] [] x_SH M2 J 0 0) : ∀ (m k : Nat) (mo : Int32) (be : Int32) (M1 : xM), k + m = 25 → Ke WRB M M1 → (2 ≤ k ∧ M1 63 16 ≠ 0) → x_X l G fX10_beatFor 64 0 0 Q 37 [(6, .int (nI (k))), (5, .int (mo)), (4, .int (be)), (3, .int (h3)), (2, .int (h2)), (1, .int (w)), (0, .ref (62))] [] x_SH M1 J 0 0 := by
  intro m
  induction m with
  | zero =>
    intro k mo be M1 hk hM hI
    refine xr_iload dX10_beatFor_37 0 rfl ?_
    refine xr_bipush (v := 24) dX10_beatFor_39 rfl ?_
    refine xr_icmp_gt (tgt := 128) dX10_beatFor_41 rfl (fun _ => ?_) (fun c => absurd (nI_lt (a := 24) (b := k) (by omega) (by omega)) c)
    refine xb_ls (ls2 := [(5, .int (mo)), (4, .int (be)), (3, .int (h3)), (2, .int (h2)), (1, .int (w)), (0, .ref (62))]) [1, 2, 3, 4, 5, 6] rfl ?_
    exact hC mo be _ hM (by rw [← (show k = 25 by omega)]; exact hI)
  | succ m ih =>
    intro k mo be M1 hk hM hI
    have hkN : k < 25 := by omega
    refine xr_iload dX10_beatFor_37 0 rfl ?_
    refine xr_bipush (v := 24) dX10_beatFor_39 rfl ?_
    refine xr_icmp_gt (tgt := 128) dX10_beatFor_41 rfl (fun c => absurd c (nI_nlt (a := 24) (b := k) (by omega) (by omega))) (fun _ => ?_)
    refine xr_iconst (v := 0) dX10_beatFor_44 rfl ?_
    refine xr_istore (ls2 := [(7, .int (0)), (6, .int (nI (k))), (5, .int (mo)), (4, .int (be)), (3, .int (h3)), (2, .int (h2)), (1, .int (w)), (0, .ref (62))]) dX10_beatFor_45 (by decide) rfl ?_
    refine xb_ls (ls2 := [(7, .int (nI (0))), (6, .int (nI (k))), (5, .int (mo)), (4, .int (be)), (3, .int (h3)), (2, .int (h2)), (1, .int (w)), (0, .ref (62))]) [0, 1, 2, 3, 4, 5, 6, 7] rfl ?_
    refine rbi_l (by omega) (by omega) h_hn (Eq.trans (hM 62 6 (by decide)) e_hn) (fun kw hkw => by rw [show M1 63 (5 + kw) = M 63 (5 + kw) from (Eq.trans (hM 63 (5 + kw) (by unfold WRB; omega)) rfl)]; exact hw kw hkw) hI.2 (by rw [show M1 62 13 = M 62 13 from (Eq.trans (hM 62 13 (by unfold WRB; omega)) rfl)]; exact htx) (fun q1 q2 M3 k4 hE => ?_) (k - 0) 0 mo be M1 (by omega) Ke.rf hI.2
    refine xr_iinc (v := nI (k + 1)) (ls2 := [(6, .int (nI (k + 1))), (5, .int (q1)), (4, .int (q2)), (3, .int (h3)), (2, .int (h2)), (1, .int (w)), (0, .ref (62))]) dX10_beatFor_122 0 rfl (nI_1 _) (by decide) rfl ?_
    refine xr_goto (tgt := 37) dX10_beatFor_125 rfl ?_
    refine xb_ls (ls2 := [(6, .int (nI (k + 1))), (5, .int (q1)), (4, .int (q2)), (3, .int (h3)), (2, .int (h2)), (1, .int (w)), (0, .ref (62))]) [0, 1, 2, 3, 4, 5, 6] rfl ?_
    exact ih (k + 1) q1 q2 M3 (by omega) (Ke.tr (fun _ _ h => h) hM k4) ⟨by omega, hE⟩
def qv (k : Nat) : Int32 := 5 - nI k
theorem qv_s {k : Nat} (h : k < 10) : qv k + Int32.ofInt (-1) = qv (k + 1) := (show ∀ k, k < 10 → qv k + Int32.ofInt (-1) = qv (k + 1) by decide +kernel) k h
theorem qv_lt {k : Nat} (h : k = 6) : qv k < 0 := by subst h; decide
theorem qv_ge {k : Nat} (h : k < 6) : ¬ qv k < 0 := (show ∀ k, k < 6 → ¬ qv k < 0 by decide +kernel) k h
theorem qv_0 : (5 : Int32) = qv 0 := by decide
set_option maxRecDepth 100000 in
set_option maxHeartbeats 4000000 in
theorem rlp_l {hd nn : Int32} {l : Launch} {G : xG} {M : xM} {J : xJ} {Q : xQ} {hn : Nat} (h_hn : hn ≤ 5) (e_hn : M 62 6 = nI hn) (hw : ∀ k, k < hn → M 63 (5 + k) ≠ 0) (hbt : M 63 16 ≠ 0) (htx : M 62 13 = -1 ∨ ∃ n : Nat, n ≤ 120 ∧ M 62 13 = nI n) (hC : ∀ (le : Int32) (M2 : xM), Ke WRL M M2 → x_X l G fX10_leastPush 64 0 0 Q 63 [(3, .int (le)), (2, .int (hd)), (0, .ref (62))] [] x_SH M2 J 0 0) : ∀ (m k : Nat) (le : Int32) (M1 : xM), k + m = 6 → Ke WRL M M1 → x_X l G fX10_leastPush 64 0 0 Q 28 [(4, .int (qv k)), (3, .int (le)), (2, .int (hd)), (1, .int (nn)), (0, .ref (62))] [] x_SH M1 J 0 0 := by
  intro m
  induction m with
  | zero =>
    intro k le M1 hk hM
    refine xr_iload dX10_leastPush_28 0 rfl ?_
    refine xr_if_lt (tgt := 63) dX10_leastPush_30 rfl (fun _ => ?_) (fun c => absurd (qv_lt (k := k) (by omega)) c)
    refine xb_ls (ls2 := [(3, .int (le)), (2, .int (hd)), (0, .ref (62))]) [1, 2, 4] rfl ?_
    exact hC le _ hM
  | succ m ih =>
    intro k le M1 hk hM
    refine xr_iload dX10_leastPush_28 0 rfl ?_
    refine xr_if_lt (tgt := 63) dX10_leastPush_30 rfl (fun c => absurd c (qv_ge (k := k) (by omega))) (fun _ => ?_)
    refine xr_aload_n dX10_leastPush_33 4 rfl ?_
    refine xr_getR flX10_9 dX10_leastPush_34 s_62 rfl ?_
    refine xr_bipush (v := 18) dX10_leastPush_37 rfl ?_
    refine xr_iload dX10_leastPush_39 0 rfl ?_
    refine xb_iast (j := 18) dX10_leastPush_41 s_63 (by decide) (by decide) ?_
    refine xr_aload_n dX10_leastPush_42 4 rfl ?_
    refine xr_callV (As := []) (rest := []) mlX10_270 (gi_X10_lasts h_hn (Eq.trans (congrFun (x_up_n _ _ _ (by decide)) _) (Eq.trans (hM 62 6 (by decide)) e_hn)) (fun kw hkw => by rw [show (x_up M1 63 18 (qv k)) 63 (5 + kw) = M 63 (5 + kw) from (Eq.trans (x_up_k _ _ _ (by omega)) (Eq.trans (hM 63 (5 + kw) (by unfold WRL; omega)) rfl))]; exact hw kw hkw) (by rw [show (x_up M1 63 18 (qv k)) 63 16 = M 63 16 from (Eq.trans (x_up_k _ _ _ (by omega)) (Eq.trans (hM 63 16 (by unfold WRL; omega)) rfl))]; exact hbt) (by rw [show (x_up M1 63 18 (qv k)) 62 13 = M 62 13 from (Eq.trans (congrFun (x_up_n _ _ _ (by omega)) _) (Eq.trans (hM 62 13 (by unfold WRL; omega)) rfl))]; exact htx)) dX10_leastPush_43 s_62 rfl rfl (Nat.le_of_ble_eq_true rfl) (by decide) ⟨by decide, by decide⟩ (fun v s2 M1 J2 hq => ?_)
    obtain ⟨r3, rfl, rfl, rfl, k2, _⟩ := hq
    try dsimp only [Option.toList, List.cons_append, List.nil_append]
    refine xr_iload_n dX10_leastPush_46 3 rfl ?_
    refine xr_icmp_lt (tgt := 55) dX10_leastPush_47 rfl (fun c4 => ?_) (fun c4 => ?_)
    · refine xr_iload_n dX10_leastPush_55 1 rfl ?_
      refine xr_istore_n (ls2 := [(3, .int (le)), (4, .int (qv k)), (2, .int (hd)), (1, .int (nn)), (0, .ref (62))]) dX10_leastPush_56 (by decide) rfl ?_
      refine xr_iinc (v := qv (k + 1)) (ls2 := [(4, .int (qv (k + 1))), (3, .int (le)), (2, .int (hd)), (1, .int (nn)), (0, .ref (62))]) dX10_leastPush_57 1 rfl (qv_s (by omega)) (by decide) rfl ?_
      refine xr_goto (tgt := 28) dX10_leastPush_60 rfl ?_
      refine xb_ls (ls2 := [(4, .int (qv (k + 1))), (3, .int (le)), (2, .int (hd)), (1, .int (nn)), (0, .ref (62))]) [0, 1, 2, 3, 4] rfl ?_
      exact ih (k + 1) le M1 (by omega) (Ke.tr (fun pp kk hh => by unfold WR1 at hh; unfold WRL; omega) (Ke.up (by decide) hM) k2)
    · refine xr_iload dX10_leastPush_50 0 rfl ?_
      refine xr_goto (tgt := 56) dX10_leastPush_52 rfl ?_
      refine xr_istore_n (ls2 := [(3, .int (qv k)), (4, .int (qv k)), (2, .int (hd)), (1, .int (nn)), (0, .ref (62))]) dX10_leastPush_56 (by decide) rfl ?_
      refine xr_iinc (v := qv (k + 1)) (ls2 := [(4, .int (qv (k + 1))), (3, .int (qv k)), (2, .int (hd)), (1, .int (nn)), (0, .ref (62))]) dX10_leastPush_57 1 rfl (qv_s (by omega)) (by decide) rfl ?_
      refine xr_goto (tgt := 28) dX10_leastPush_60 rfl ?_
      refine xb_ls (ls2 := [(4, .int (qv (k + 1))), (3, .int (qv k)), (2, .int (hd)), (1, .int (nn)), (0, .ref (62))]) [0, 1, 2, 3, 4] rfl ?_
      exact ih (k + 1) (qv k) M1 (by omega) (Ke.tr (fun pp kk hh => by unfold WR1 at hh; unfold WRL; omega) (Ke.up (by decide) hM) k2)
set_option maxRecDepth 100000 in
set_option maxHeartbeats 4000000 in
theorem rhd_l {nn up : Int32} {P : Nat} {l : Launch} {G : xG} {M : xM} {J : xJ} {Q : xQ} {hn : Nat} (h_hn : hn ≤ 5) (e_hn : M 62 6 = nI hn) (hw : ∀ k, k < hn → M 63 (5 + k) ≠ 0) (hbt : M 63 16 ≠ 0) (htx : M 62 13 = -1 ∨ ∃ n : Nat, n ≤ 120 ∧ M 62 13 = nI n) (hP : P = 2 ^ hn) (hP2 : P ≤ 32) (hC : ∀ (r : Int32) (M2 : xM), Ke WR1 M M2 → Q (some (.int r)) x_SH M2 J) : ∀ (m k : Nat) (be : Int32) (M1 : xM), k + m = P → Ke WR1 M M1 → x_X l G fX10_held 63 0 0 Q 24 [(4, .int (nI (k))), (3, .int (be)), (2, .int (up)), (1, .int (nn)), (0, .ref (62))] [] x_SH M1 J 0 0 := by
  intro m
  induction m with
  | zero =>
    intro k be M1 hk hM
    refine xr_iload dX10_held_24 0 rfl ?_
    refine xr_iconst (v := 1) dX10_held_26 rfl ?_
    refine xr_aload_n dX10_held_27 4 rfl ?_
    refine xb_get (v := nI (hn)) flX10_109 dX10_held_28 s_62 rfl (Eq.trans (hM 62 6 (by decide)) e_hn) ?_
    refine xr_ishl dX10_held_31 ?_
    refine xb_top (y := nI P) (sx_shl (by omega) hP) ?_
    refine xr_icmp_ge (tgt := 79) dX10_held_32 rfl (fun _ => ?_) (fun c => absurd (nI_le (a := P) (b := k) (by omega) (by omega)) c)
    refine xr_iload_n dX10_held_79 1 rfl ?_
    refine xr_if_ne (tgt := 88) dX10_held_80 rfl (fun c1 => ?_) (fun c1 => ?_)
    · refine xr_iload_n dX10_held_88 1 rfl ?_
      exact xr_iret dX10_held_89 rfl rfl (hC be _ hM)
    · refine xr_bipush (v := -2) dX10_held_83 rfl ?_
      refine xr_goto (tgt := 89) dX10_held_85 rfl ?_
      exact xr_iret dX10_held_89 rfl rfl (hC (-2) _ hM)
  | succ m ih =>
    intro k be M1 hk hM
    refine xr_iload dX10_held_24 0 rfl ?_
    refine xr_iconst (v := 1) dX10_held_26 rfl ?_
    refine xr_aload_n dX10_held_27 4 rfl ?_
    refine xb_get (v := nI (hn)) flX10_109 dX10_held_28 s_62 rfl (Eq.trans (hM 62 6 (by decide)) e_hn) ?_
    refine xr_ishl dX10_held_31 ?_
    refine xb_top (y := nI P) (sx_shl (by omega) hP) ?_
    refine xr_icmp_ge (tgt := 79) dX10_held_32 rfl (fun c => absurd c (nI_ge (a := k) (b := P) (by omega) (by omega))) (fun _ => ?_)
    refine xr_iload dX10_held_35 0 rfl ?_
    refine xr_iload_n dX10_held_37 2 rfl ?_
    refine xr_iconst (v := -1) dX10_held_38 rfl ?_
    refine xr_ixor dX10_held_39 ?_
    refine xr_iand dX10_held_40 ?_
    refine xr_if_ne (tgt := 71) dX10_held_41 rfl (fun c1 => ?_) (fun c1 => ?_)
    · refine xr_iload_n dX10_held_71 1 rfl ?_
      refine xr_istore_n (ls2 := [(3, .int (be)), (4, .int (nI (k))), (2, .int (up)), (1, .int (nn)), (0, .ref (62))]) dX10_held_72 (by decide) rfl ?_
      refine xr_iinc (v := nI (k + 1)) (ls2 := [(4, .int (nI (k + 1))), (3, .int (be)), (2, .int (up)), (1, .int (nn)), (0, .ref (62))]) dX10_held_73 1 rfl (nI_1 _) (by decide) rfl ?_
      refine xr_goto (tgt := 24) dX10_held_76 rfl ?_
      refine xb_ls (ls2 := [(4, .int (nI (k + 1))), (3, .int (be)), (2, .int (up)), (1, .int (nn)), (0, .ref (62))]) [0, 1, 2, 3, 4] rfl ?_
      exact ih (k + 1) be M1 (by omega) hM
    · refine xr_iload dX10_held_44 0 rfl ?_
      refine xr_callS (As := [.int (nI (k))]) (rest := []) mlX10_261 (g_X10_bitsOf (nI (k))) dX10_held_46 rfl rfl (Nat.le_of_ble_eq_true rfl) (by decide) ⟨by decide, by decide⟩ (fun v s2 M9 J2 hq => ?_)
      obtain ⟨r2, rfl, rfl, rfl, rfl, _⟩ := hq
      try dsimp only [Option.toList, List.cons_append, List.nil_append]
      refine xr_iload_n dX10_held_49 1 rfl ?_
      refine xr_callS (As := [.int (be)]) (rest := [.int (r2)]) mlX10_261 (g_X10_bitsOf be) dX10_held_50 rfl rfl (Nat.le_of_ble_eq_true rfl) (by decide) ⟨by decide, by decide⟩ (fun v s2 M9 J2 hq => ?_)
      obtain ⟨r3, rfl, rfl, rfl, rfl, _⟩ := hq
      try dsimp only [Option.toList, List.cons_append, List.nil_append]
      refine xr_icmp_le (tgt := 71) dX10_held_53 rfl (fun c4 => ?_) (fun c4 => ?_)
      · refine xr_iload_n dX10_held_71 1 rfl ?_
        refine xr_istore_n (ls2 := [(3, .int (be)), (4, .int (nI (k))), (2, .int (up)), (1, .int (nn)), (0, .ref (62))]) dX10_held_72 (by decide) rfl ?_
        refine xr_iinc (v := nI (k + 1)) (ls2 := [(4, .int (nI (k + 1))), (3, .int (be)), (2, .int (up)), (1, .int (nn)), (0, .ref (62))]) dX10_held_73 1 rfl (nI_1 _) (by decide) rfl ?_
        refine xr_goto (tgt := 24) dX10_held_76 rfl ?_
        refine xb_ls (ls2 := [(4, .int (nI (k + 1))), (3, .int (be)), (2, .int (up)), (1, .int (nn)), (0, .ref (62))]) [0, 1, 2, 3, 4] rfl ?_
        exact ih (k + 1) be M1 (by omega) hM
      · refine xr_aload_n dX10_held_56 4 rfl ?_
        refine xr_iload dX10_held_57 0 rfl ?_
        refine xr_callV (As := [.int (nI (k))]) (rest := []) mlX10_267 (g_X10_lastsOf (nI (k)) h_hn (Eq.trans (hM 62 6 (by decide)) e_hn) (fun kw hkw => by rw [show M1 63 (5 + kw) = M 63 (5 + kw) from (Eq.trans (hM 63 (5 + kw) (by unfold WR1; omega)) rfl)]; exact hw kw hkw) (by rw [show M1 63 16 = M 63 16 from (Eq.trans (hM 63 16 (by unfold WR1; omega)) rfl)]; exact hbt) (by rw [show M1 62 13 = M 62 13 from (Eq.trans (hM 62 13 (by unfold WR1; omega)) rfl)]; exact htx)) dX10_held_59 s_62 rfl rfl (Nat.le_of_ble_eq_true rfl) (by decide) ⟨by decide, by decide⟩ (fun v s2 M5 J2 hq => ?_)
        obtain ⟨r7, rfl, rfl, rfl, k6, _⟩ := hq
        try dsimp only [Option.toList, List.cons_append, List.nil_append]
        refine xr_iload_n dX10_held_62 3 rfl ?_
        refine xr_icmp_lt (tgt := 71) dX10_held_63 rfl (fun c8 => ?_) (fun c8 => ?_)
        · refine xr_iload_n dX10_held_71 1 rfl ?_
          refine xr_istore_n (ls2 := [(3, .int (be)), (4, .int (nI (k))), (2, .int (up)), (1, .int (nn)), (0, .ref (62))]) dX10_held_72 (by decide) rfl ?_
          refine xr_iinc (v := nI (k + 1)) (ls2 := [(4, .int (nI (k + 1))), (3, .int (be)), (2, .int (up)), (1, .int (nn)), (0, .ref (62))]) dX10_held_73 1 rfl (nI_1 _) (by decide) rfl ?_
          refine xr_goto (tgt := 24) dX10_held_76 rfl ?_
          refine xb_ls (ls2 := [(4, .int (nI (k + 1))), (3, .int (be)), (2, .int (up)), (1, .int (nn)), (0, .ref (62))]) [0, 1, 2, 3, 4] rfl ?_
          exact ih (k + 1) be M5 (by omega) (Ke.tr (fun _ _ h => h) hM k6)
        · refine xr_iload dX10_held_66 0 rfl ?_
          refine xr_goto (tgt := 72) dX10_held_68 rfl ?_
          refine xr_istore_n (ls2 := [(3, .int (nI (k))), (4, .int (nI (k))), (2, .int (up)), (1, .int (nn)), (0, .ref (62))]) dX10_held_72 (by decide) rfl ?_
          refine xr_iinc (v := nI (k + 1)) (ls2 := [(4, .int (nI (k + 1))), (3, .int (nI (k))), (2, .int (up)), (1, .int (nn)), (0, .ref (62))]) dX10_held_73 1 rfl (nI_1 _) (by decide) rfl ?_
          refine xr_goto (tgt := 24) dX10_held_76 rfl ?_
          refine xb_ls (ls2 := [(4, .int (nI (k + 1))), (3, .int (nI (k))), (2, .int (up)), (1, .int (nn)), (0, .ref (62))]) [0, 1, 2, 3, 4] rfl ?_
          exact ih (k + 1) (nI (k)) M5 (by omega) (Ke.tr (fun _ _ h => h) hM k6)
theorem pv_s1 {k : Nat} (h : k < 30) : pv k + Int32.ofInt 1 = pv (k + 1) := pv_s h
set_option maxRecDepth 100000 in
set_option maxHeartbeats 4000000 in
theorem rst_l {hd : Int32} {h : Nat} (hh : h < 5) {l : Launch} {G : xG} {M : xM} {J : xJ} {Q : xQ} {hn : Nat} (h_hn : hn ≤ 5) (e_hn : M 62 6 = nI hn) (hw : ∀ k, k < hn → M 63 (5 + k) ≠ 0) (hbt : M 63 16 ≠ 0) (htx : M 62 13 = -1 ∨ ∃ n : Nat, n ≤ 120 ∧ M 62 13 = nI n) (hC : ∀ (la : Int32) (be : Int32) (M2 : xM), Ke WRS M M2 → x_X l G fX10_start 63 0 0 Q 104 [(3, .int (be)), (2, .int (hd)), (1, .int (nI (h))), (0, .ref (62))] [] x_SH M2 J 0 0) : ∀ (m k : Nat) (la : Int32) (be : Int32) (M1 : xM), k + m = 19 → Ke WRS M M1 → x_X l G fX10_start 63 0 0 Q 43 [(5, .int (pv k)), (4, .int (la)), (3, .int (be)), (2, .int (hd)), (1, .int (nI (h))), (0, .ref (62))] [] x_SH M1 J 0 0 := by
  intro m
  induction m with
  | zero =>
    intro k la be M1 hk hM
    refine xr_iload dX10_start_43 0 rfl ?_
    refine xr_bipush (v := 9) dX10_start_45 rfl ?_
    refine xr_icmp_gt (tgt := 104) dX10_start_47 rfl (fun _ => ?_) (fun c => absurd (pv_gt (k := k) (by omega)) c)
    refine xb_ls (ls2 := [(3, .int (be)), (2, .int (hd)), (1, .int (nI (h))), (0, .ref (62))]) [2, 3, 4, 5] rfl ?_
    exact hC la be _ hM
  | succ m ih =>
    intro k la be M1 hk hM
    refine xr_iload dX10_start_43 0 rfl ?_
    refine xr_bipush (v := 9) dX10_start_45 rfl ?_
    refine xr_icmp_gt (tgt := 104) dX10_start_47 rfl (fun c => absurd c (pv_le (k := k) (by omega))) (fun _ => ?_)
    refine xr_aload_n dX10_start_50 5 rfl ?_
    refine xr_getR flX10_9 dX10_start_51 s_62 rfl ?_
    refine xr_bipush (v := 10) dX10_start_54 rfl ?_
    refine xr_iload_n dX10_start_56 4 rfl ?_
    refine xr_iadd dX10_start_57 ?_
    refine xb_top (y := nI (10 + h)) (nI_add (10) (h)) ?_
    refine xr_iload dX10_start_58 0 rfl ?_
    refine xb_iast (j := 10 + h) dX10_start_60 s_63 (by omega) (by decide) ?_
    refine xr_aload_n dX10_start_61 5 rfl ?_
    refine xr_iload_n dX10_start_62 4 rfl ?_
    refine xr_callV (As := [.int (nI (h))]) (rest := []) mlX10_264 (g_X10_fallOf (h := h) (by omega) h_hn (Eq.trans (congrFun (x_up_n _ _ _ (by decide)) _) (Eq.trans (hM 62 6 (by decide)) e_hn)) (fun kw hkw => by rw [show (x_up M1 63 (10 + h) (pv k)) 63 (5 + kw) = M 63 (5 + kw) from (Eq.trans (x_up_k _ _ _ (by omega)) (Eq.trans (hM 63 (5 + kw) (by unfold WRS; omega)) rfl))]; exact hw kw hkw) (by rw [show (x_up M1 63 (10 + h) (pv k)) 63 16 = M 63 16 from (Eq.trans (x_up_k _ _ _ (by omega)) (Eq.trans (hM 63 16 (by unfold WRS; omega)) rfl))]; exact hbt) (by rw [show (x_up M1 63 (10 + h) (pv k)) 62 13 = M 62 13 from (Eq.trans (congrFun (x_up_n _ _ _ (by omega)) _) (Eq.trans (hM 62 13 (by unfold WRS; omega)) rfl))]; exact htx)) dX10_start_63 s_62 rfl rfl (Nat.le_of_ble_eq_true rfl) (by decide) ⟨by decide, by decide⟩ (fun v s2 M1 J2 hq => ?_)
    obtain ⟨r3, rfl, rfl, rfl, k2, _⟩ := hq
    try dsimp only [Option.toList, List.cons_append, List.nil_append]
    refine xr_istore (ls2 := [(6, .int (r3)), (5, .int (pv k)), (4, .int (la)), (3, .int (be)), (2, .int (hd)), (1, .int (nI (h))), (0, .ref (62))]) dX10_start_66 (by decide) rfl ?_
    refine xr_iload dX10_start_68 0 rfl ?_
    refine xr_iload dX10_start_70 2 rfl ?_
    refine xr_icmp_le (tgt := 80) dX10_start_72 rfl (fun c4 => ?_) (fun c4 => ?_)
    · refine xr_iload_n dX10_start_80 3 rfl ?_
      refine xr_istore_n (ls2 := [(3, .int (be)), (6, .int (r3)), (5, .int (pv k)), (4, .int (la)), (2, .int (hd)), (1, .int (nI (h))), (0, .ref (62))]) dX10_start_81 (by decide) rfl ?_
      refine xr_iload dX10_start_82 1 rfl ?_
      refine xr_iload dX10_start_84 3 rfl ?_
      refine xr_icmp_le (tgt := 94) dX10_start_86 rfl (fun c5 => ?_) (fun c5 => ?_)
      · refine xr_iload dX10_start_94 3 rfl ?_
        refine xr_istore (ls2 := [(4, .int (la)), (3, .int (be)), (6, .int (r3)), (5, .int (pv k)), (2, .int (hd)), (1, .int (nI (h))), (0, .ref (62))]) dX10_start_96 (by decide) rfl ?_
        refine xr_iinc (v := pv (k + 1)) (ls2 := [(5, .int (pv (k + 1))), (4, .int (la)), (3, .int (be)), (6, .int (r3)), (2, .int (hd)), (1, .int (nI (h))), (0, .ref (62))]) dX10_start_98 3 rfl (pv_s1 (by omega)) (by decide) rfl ?_
        refine xr_goto (tgt := 43) dX10_start_101 rfl ?_
        refine xb_ls (ls2 := [(5, .int (pv (k + 1))), (4, .int (la)), (3, .int (be)), (2, .int (hd)), (1, .int (nI (h))), (0, .ref (62))]) [0, 1, 2, 4, 5, 6] rfl ?_
        exact ih (k + 1) la be M1 (by omega) (Ke.tr (fun pp kk hh => by unfold WR1 at hh; unfold WRS; omega) (Ke.up (by unfold WRS; omega) hM) k2)
      · refine xr_iload dX10_start_89 1 rfl ?_
        refine xr_goto (tgt := 96) dX10_start_91 rfl ?_
        refine xr_istore (ls2 := [(4, .int (r3)), (3, .int (be)), (6, .int (r3)), (5, .int (pv k)), (2, .int (hd)), (1, .int (nI (h))), (0, .ref (62))]) dX10_start_96 (by decide) rfl ?_
        refine xr_iinc (v := pv (k + 1)) (ls2 := [(5, .int (pv (k + 1))), (4, .int (r3)), (3, .int (be)), (6, .int (r3)), (2, .int (hd)), (1, .int (nI (h))), (0, .ref (62))]) dX10_start_98 3 rfl (pv_s1 (by omega)) (by decide) rfl ?_
        refine xr_goto (tgt := 43) dX10_start_101 rfl ?_
        refine xb_ls (ls2 := [(5, .int (pv (k + 1))), (4, .int (r3)), (3, .int (be)), (2, .int (hd)), (1, .int (nI (h))), (0, .ref (62))]) [0, 1, 2, 4, 5, 6] rfl ?_
        exact ih (k + 1) r3 be M1 (by omega) (Ke.tr (fun pp kk hh => by unfold WR1 at hh; unfold WRS; omega) (Ke.up (by unfold WRS; omega) hM) k2)
    · refine xr_iload dX10_start_75 1 rfl ?_
      refine xr_goto (tgt := 81) dX10_start_77 rfl ?_
      refine xr_istore_n (ls2 := [(3, .int (pv k)), (6, .int (r3)), (5, .int (pv k)), (4, .int (la)), (2, .int (hd)), (1, .int (nI (h))), (0, .ref (62))]) dX10_start_81 (by decide) rfl ?_
      refine xr_iload dX10_start_82 1 rfl ?_
      refine xr_iload dX10_start_84 3 rfl ?_
      refine xr_icmp_le (tgt := 94) dX10_start_86 rfl (fun c6 => ?_) (fun c6 => ?_)
      · refine xr_iload dX10_start_94 3 rfl ?_
        refine xr_istore (ls2 := [(4, .int (la)), (3, .int (pv k)), (6, .int (r3)), (5, .int (pv k)), (2, .int (hd)), (1, .int (nI (h))), (0, .ref (62))]) dX10_start_96 (by decide) rfl ?_
        refine xr_iinc (v := pv (k + 1)) (ls2 := [(5, .int (pv (k + 1))), (4, .int (la)), (3, .int (pv k)), (6, .int (r3)), (2, .int (hd)), (1, .int (nI (h))), (0, .ref (62))]) dX10_start_98 3 rfl (pv_s1 (by omega)) (by decide) rfl ?_
        refine xr_goto (tgt := 43) dX10_start_101 rfl ?_
        refine xb_ls (ls2 := [(5, .int (pv (k + 1))), (4, .int (la)), (3, .int (pv k)), (2, .int (hd)), (1, .int (nI (h))), (0, .ref (62))]) [0, 1, 2, 4, 5, 6] rfl ?_
        exact ih (k + 1) la (pv k) M1 (by omega) (Ke.tr (fun pp kk hh => by unfold WR1 at hh; unfold WRS; omega) (Ke.up (by unfold WRS; omega) hM) k2)
      · refine xr_iload dX10_start_89 1 rfl ?_
        refine xr_goto (tgt := 96) dX10_start_91 rfl ?_
        refine xr_istore (ls2 := [(4, .int (r3)), (3, .int (pv k)), (6, .int (r3)), (5, .int (pv k)), (2, .int (hd)), (1, .int (nI (h))), (0, .ref (62))]) dX10_start_96 (by decide) rfl ?_
        refine xr_iinc (v := pv (k + 1)) (ls2 := [(5, .int (pv (k + 1))), (4, .int (r3)), (3, .int (pv k)), (6, .int (r3)), (2, .int (hd)), (1, .int (nI (h))), (0, .ref (62))]) dX10_start_98 3 rfl (pv_s1 (by omega)) (by decide) rfl ?_
        refine xr_goto (tgt := 43) dX10_start_101 rfl ?_
        refine xb_ls (ls2 := [(5, .int (pv (k + 1))), (4, .int (r3)), (3, .int (pv k)), (2, .int (hd)), (1, .int (nI (h))), (0, .ref (62))]) [0, 1, 2, 4, 5, 6] rfl ?_
        exact ih (k + 1) r3 (pv k) M1 (by omega) (Ke.tr (fun pp kk hh => by unfold WR1 at hh; unfold WRS; omega) (Ke.up (by unfold WRS; omega) hM) k2)
set_option maxRecDepth 100000 in
set_option maxHeartbeats 4000000 in
theorem rff_l {h d nm : Nat} (hh : h < 5) (hd : d < 6) (hnm : nm ≤ 60) {l : Launch} {G : xG} {M : xM} {J : xJ} {Q : xQ} {hn : Nat} (h_hn : hn ≤ 5) (e_hn : M 62 6 = nI hn) (hw : ∀ k, k < hn → M 63 (5 + k) ≠ 0) (hbt : M 63 16 ≠ 0) (htx : M 62 13 = -1 ∨ ∃ n : Nat, n ≤ 120 ∧ M 62 13 = nI n) (e_nm : M 84 d = nI nm) (hR : ∀ (r : Int32) (M2 : xM), Ke WR1 M M2 → Q (some (.int r)) x_SH M2 J) : ∀ (m k : Nat) (M1 : xM), k + m = nm → Ke WR1 M M1 → x_X l G fX10_firstFalse 62 0 0 Q 10 [(3, .int (nI (k))), (2, .int (nI (h))), (1, .int (nI (d))), (0, .ref (62))] [] x_SH M1 J 0 0 := by
  intro m
  induction m with
  | zero =>
    intro k M1 hk hM
    refine xr_iload_n dX10_firstFalse_10 0 rfl ?_
    refine xr_aload_n dX10_firstFalse_11 3 rfl ?_
    refine xr_getR flX10_78 dX10_firstFalse_12 s_62 rfl ?_
    refine xr_iload_n dX10_firstFalse_15 2 rfl ?_
    refine xb_iald (j := d) (v := nI (nm)) dX10_firstFalse_16 s_84 hd (by decide) (Eq.trans (hM 84 d (by unfold WR1; omega)) e_nm) ?_
    refine xr_icmp_ge (tgt := 67) dX10_firstFalse_17 rfl (fun _ => ?_) (fun c => absurd (nI_le (a := nm) (b := k) (by omega) (by omega)) c)
    refine xr_bipush (v := -2) dX10_firstFalse_67 rfl ?_
    exact xr_iret dX10_firstFalse_69 rfl rfl (hR (-2) _ hM)
  | succ m ih =>
    intro k M1 hk hM
    refine xr_iload_n dX10_firstFalse_10 0 rfl ?_
    refine xr_aload_n dX10_firstFalse_11 3 rfl ?_
    refine xr_getR flX10_78 dX10_firstFalse_12 s_62 rfl ?_
    refine xr_iload_n dX10_firstFalse_15 2 rfl ?_
    refine xb_iald (j := d) (v := nI (nm)) dX10_firstFalse_16 s_84 hd (by decide) (Eq.trans (hM 84 d (by unfold WR1; omega)) e_nm) ?_
    refine xr_icmp_ge (tgt := 67) dX10_firstFalse_17 rfl (fun c => absurd c (nI_ge (a := k) (b := nm) (by omega) (by omega))) (fun _ => ?_)
    refine xr_iload_n dX10_firstFalse_20 0 rfl ?_
    refine xr_sipush (v := 200) dX10_firstFalse_21 rfl ?_
    refine xr_icmp_ge (tgt := 67) dX10_firstFalse_24 rfl (fun c => absurd c (nI_ge (a := k) (b := 200) (by omega) (by omega))) (fun _ => ?_)
    refine xr_aload_n dX10_firstFalse_27 3 rfl ?_
    refine xr_aload_n dX10_firstFalse_28 3 rfl ?_
    refine xb_get (v := M1 62 9) flX10_151 dX10_firstFalse_29 s_62 rfl rfl ?_
    refine xr_iload_n dX10_firstFalse_32 0 rfl ?_
    refine xr_iadd dX10_firstFalse_33 ?_
    refine xr_callV (As := [.int (((M1 62 9) + (nI (k))))]) (rest := []) mlX10_255 (g_X10_tickGoes ((M1 62 9) + (nI (k))) h_hn (Eq.trans (hM 62 6 (by decide)) e_hn) (fun kw hkw => by rw [show M1 63 (5 + kw) = M 63 (5 + kw) from (Eq.trans (hM 63 (5 + kw) (by unfold WR1; omega)) rfl)]; exact hw kw hkw) (by rw [show M1 63 16 = M 63 16 from (Eq.trans (hM 63 16 (by unfold WR1; omega)) rfl)]; exact hbt) (by rw [show M1 62 13 = M 62 13 from (Eq.trans (hM 62 13 (by unfold WR1; omega)) rfl)]; exact htx)) dX10_firstFalse_34 s_62 rfl rfl (Nat.le_of_ble_eq_true rfl) (by decide) ⟨by decide, by decide⟩ (fun v s2 M1 J2 hq => ?_)
    obtain ⟨rfl, rfl, rfl, k2, _⟩ := hq
    try dsimp only [Option.toList, List.cons_append, List.nil_append]
    refine xr_aload_n dX10_firstFalse_37 3 rfl ?_
    refine xr_getR flX10_81 dX10_firstFalse_38 s_62 rfl ?_
    refine xr_bipush (v := 60) dX10_firstFalse_41 rfl ?_
    refine xr_iload_n dX10_firstFalse_43 2 rfl ?_
    refine xr_imul dX10_firstFalse_44 ?_
    refine xb_top (y := nI (60 * d)) (nI_mulc 60 d) ?_
    refine xr_iload_n dX10_firstFalse_45 0 rfl ?_
    refine xr_iadd dX10_firstFalse_46 ?_
    refine xb_top (y := nI (60 * d + k)) (nI_add (60 * d) (k)) ?_
    refine xb_lald (j := 60 * d + k) (v := J 85 (60 * d + k)) dX10_firstFalse_47 s_85 (by omega) (by decide) rfl ?_
    refine xr_aload_n dX10_firstFalse_48 3 rfl ?_
    refine xr_getR flX10_37 dX10_firstFalse_49 s_62 rfl ?_
    refine xr_iload_n dX10_firstFalse_52 1 rfl ?_
    refine xb_iald (j := h) (v := M1 72 h) dX10_firstFalse_53 s_72 hh (by decide) rfl ?_
    refine xr_i2l dX10_firstFalse_54 ?_
    refine xr_lcmp dX10_firstFalse_55 ?_
    refine xl_eq (tgt := 61) dX10_firstFalse_56 rfl (fun c3 => ?_) (fun c3 => ?_)
    · refine xr_iinc (v := nI (k + 1)) (ls2 := [(3, .int (nI (k + 1))), (2, .int (nI (h))), (1, .int (nI (d))), (0, .ref (62))]) dX10_firstFalse_61 0 rfl (nI_1 _) (by decide) rfl ?_
      refine xr_goto (tgt := 10) dX10_firstFalse_64 rfl ?_
      refine xb_ls (ls2 := [(3, .int (nI (k + 1))), (2, .int (nI (h))), (1, .int (nI (d))), (0, .ref (62))]) [0, 1, 2, 3] rfl ?_
      exact ih (k + 1) M1 (by omega) (Ke.tr (fun _ _ h => h) hM k2)
    · refine xr_iload_n dX10_firstFalse_59 0 rfl ?_
      exact xr_iret dX10_firstFalse_60 rfl rfl (hR (nI (k)) _ (Ke.tr (fun _ _ h => h) hM k2))
set_option maxRecDepth 100000 in
set_option maxHeartbeats 4000000 in
theorem g_X10_firstFalse {h d nm : Nat} (hh : h < 5) (hd : d < 6) (hnm : nm ≤ 60) {l : Launch} {G : xG} {M : xM} {J : xJ} {hn : Nat} (h_hn : hn ≤ 5) (e_hn : M 62 6 = nI hn) (hw : ∀ k, k < hn → M 63 (5 + k) ≠ 0) (hbt : M 63 16 ≠ 0) (htx : M 62 13 = -1 ∨ ∃ n : Nat, n ≤ 120 ∧ M 62 13 = nI n) (e_nm : M 84 d = nI nm) : x_M l G fX10_firstFalse 62 0 0 [.ref (62), .int (nI (d)), .int (nI (h))] x_SH M J (qKI WR1 M J (fun r M2 => True)) := by
  refine xb_of pX10 (Nat.le_of_ble_eq_true rfl) rfl ?_
  refine xr_aload_n dX10_firstFalse_0 0 rfl ?_
  refine xr_aload_n dX10_firstFalse_1 0 rfl ?_
  refine xr_callV (As := []) (rest := [.ref (62)]) mlX10_246 (g_X10_upNow h_hn e_hn (fun kw hkw => by rw [show M 63 (5 + kw) = M 63 (5 + kw) from rfl]; exact hw kw hkw) (by rw [show M 63 16 = M 63 16 from rfl]; exact hbt) (by rw [show M 62 13 = M 62 13 from rfl]; exact htx)) dX10_firstFalse_2 s_62 rfl rfl (Nat.le_of_ble_eq_true rfl) (by decide) ⟨by decide, by decide⟩ (fun v s2 M9 J2 hq => ?_)
  obtain ⟨r1, rfl, rfl, rfl, rfl, _⟩ := hq
  try dsimp only [Option.toList, List.cons_append, List.nil_append]
  refine xr_callV (As := [.int (r1)]) (rest := []) mlX10_249 (g_X10_begins1 r1 h_hn e_hn (fun kw hkw => by rw [show M 63 (5 + kw) = M 63 (5 + kw) from rfl]; exact hw kw hkw) (by rw [show M 63 16 = M 63 16 from rfl]; exact hbt) (by rw [show M 62 13 = M 62 13 from rfl]; exact htx)) dX10_firstFalse_5 s_62 rfl rfl (Nat.le_of_ble_eq_true rfl) (by decide) ⟨by decide, by decide⟩ (fun v s2 M2 J2 hq => ?_)
  obtain ⟨rfl, rfl, rfl, k3, _⟩ := hq
  try dsimp only [Option.toList, List.cons_append, List.nil_append]
  refine xr_iconst (v := 0) dX10_firstFalse_8 rfl ?_
  refine xr_istore_n (ls2 := [(3, .int (0)), (0, .ref (62)), (1, .int (nI (d))), (2, .int (nI (h)))]) dX10_firstFalse_9 (by decide) rfl ?_
  refine xb_ls (ls2 := [(3, .int (nI (0))), (2, .int (nI (h))), (1, .int (nI (d))), (0, .ref (62))]) [0, 3, 2, 1] rfl ?_
  exact rff_l hh hd hnm h_hn (Eq.trans (k3 62 6 (by decide)) e_hn) (fun kw hkw => by rw [show M2 63 (5 + kw) = M 63 (5 + kw) from (Eq.trans (k3 63 (5 + kw) (by unfold WR1; omega)) rfl)]; exact hw kw hkw) (by rw [show M2 63 16 = M 63 16 from (Eq.trans (k3 63 16 (by unfold WR1; omega)) rfl)]; exact hbt) (by rw [show M2 62 13 = M 62 13 from (Eq.trans (k3 62 13 (by unfold WR1; omega)) rfl)]; exact htx) (Eq.trans (k3 84 d (by unfold WR1; omega)) e_nm) (fun r M2 hk => ⟨_, rfl, rfl, rfl, Ke.tr (fun _ _ h => h) (Ke.tr (fun _ _ h => h) Ke.rf k3) hk, trivial⟩) nm 0 M2 (by omega) Ke.rf
set_option maxRecDepth 100000 in
set_option maxHeartbeats 4000000 in
theorem rbg_l {hd w : Int32} {h d nm : Nat} (hh : h < 5) (hd : d < 6) (hnm : nm ≤ 60) (e_nm0 : nm ≤ 60) {l : Launch} {G : xG} {M : xM} {J : xJ} {Q : xQ} {hn : Nat} (h_hn : hn ≤ 5) (e_hn : M 62 6 = nI hn) (hw : ∀ k, k < hn → M 63 (5 + k) ≠ 0) (hbt : M 63 16 ≠ 0) (htx : M 62 13 = -1 ∨ ∃ n : Nat, n ≤ 120 ∧ M 62 13 = nI n) (e_nm : M 84 d = nI nm) (hC : ∀ (fi : Int32) (ft : Int32) (M2 : xM), Ke WRS M M2 → x_X l G fX10_begun 63 0 0 Q 121 [(7, .int (fi)), (6, .int (ft)), (4, .int (hd)), (3, .int (w)), (2, .int (nI (h))), (0, .ref (62))] [] x_SH M2 J 0 0) : ∀ (m k : Nat) (fi : Int32) (ft : Int32) (M1 : xM), k + m = 19 → Ke WRS M M1 → x_X l G fX10_begun 63 0 0 Q 69 [(8, .int (pv k)), (7, .int (fi)), (6, .int (ft)), (5, .int (9)), (4, .int (hd)), (3, .int (w)), (2, .int (nI (h))), (1, .int (nI (d))), (0, .ref (62))] [] x_SH M1 J 0 0 := by
  intro m
  induction m with
  | zero =>
    intro k fi ft M1 hk hM
    refine xr_iload dX10_begun_69 0 rfl ?_
    refine xr_iload dX10_begun_71 3 rfl ?_
    refine xr_icmp_gt (tgt := 121) dX10_begun_73 rfl (fun _ => ?_) (fun c => absurd (pv_gt (k := k) (by omega)) c)
    refine xb_ls (ls2 := [(7, .int (fi)), (6, .int (ft)), (4, .int (hd)), (3, .int (w)), (2, .int (nI (h))), (0, .ref (62))]) [1, 2, 4, 5, 6, 8] rfl ?_
    exact hC fi ft _ hM
  | succ m ih =>
    intro k fi ft M1 hk hM
    refine xr_iload dX10_begun_69 0 rfl ?_
    refine xr_iload dX10_begun_71 3 rfl ?_
    refine xr_icmp_gt (tgt := 121) dX10_begun_73 rfl (fun c => absurd c (pv_le (k := k) (by omega))) (fun _ => ?_)
    refine xr_aload_n dX10_begun_76 8 rfl ?_
    refine xr_getR flX10_9 dX10_begun_77 s_62 rfl ?_
    refine xr_bipush (v := 10) dX10_begun_80 rfl ?_
    refine xr_iload_n dX10_begun_82 6 rfl ?_
    refine xr_iadd dX10_begun_83 ?_
    refine xb_top (y := nI (10 + h)) (nI_add (10) (h)) ?_
    refine xr_iload dX10_begun_84 0 rfl ?_
    refine xb_iast (j := 10 + h) dX10_begun_86 s_63 (by omega) (by decide) ?_
    refine xr_aload_n dX10_begun_87 8 rfl ?_
    refine xr_iload_n dX10_begun_88 7 rfl ?_
    refine xr_iload_n dX10_begun_89 6 rfl ?_
    refine xr_callV (As := [.int (nI (d)), .int (nI (h))]) (rest := []) mlX10_290 (g_X10_firstFalse (h := h) (d := d) (nm := nm) (by omega) (by omega) (by omega) h_hn (Eq.trans (congrFun (x_up_n _ _ _ (by decide)) _) (Eq.trans (hM 62 6 (by decide)) e_hn)) (fun kw hkw => by rw [show (x_up M1 63 (10 + h) (pv k)) 63 (5 + kw) = M 63 (5 + kw) from (Eq.trans (x_up_k _ _ _ (by omega)) (Eq.trans (hM 63 (5 + kw) (by unfold WRS; omega)) rfl))]; exact hw kw hkw) (by rw [show (x_up M1 63 (10 + h) (pv k)) 63 16 = M 63 16 from (Eq.trans (x_up_k _ _ _ (by omega)) (Eq.trans (hM 63 16 (by unfold WRS; omega)) rfl))]; exact hbt) (by rw [show (x_up M1 63 (10 + h) (pv k)) 62 13 = M 62 13 from (Eq.trans (congrFun (x_up_n _ _ _ (by omega)) _) (Eq.trans (hM 62 13 (by unfold WRS; omega)) rfl))]; exact htx) (Eq.trans (congrFun (x_up_n _ _ _ (by decide)) _) (Eq.trans (hM 84 d (by unfold WRS; omega)) e_nm))) dX10_begun_90 s_62 rfl rfl (Nat.le_of_ble_eq_true rfl) (by decide) ⟨by decide, by decide⟩ (fun v s2 M1 J2 hq => ?_)
    obtain ⟨r3, rfl, rfl, rfl, k2, _⟩ := hq
    try dsimp only [Option.toList, List.cons_append, List.nil_append]
    refine xr_bipush (v := -2) dX10_begun_93 rfl ?_
    refine xr_icmp_ne (tgt := 115) dX10_begun_95 rfl (fun c4 => ?_) (fun c4 => ?_)
    · refine xr_iinc (v := pv (k + 1)) (ls2 := [(8, .int (pv (k + 1))), (7, .int (fi)), (6, .int (ft)), (5, .int (9)), (4, .int (hd)), (3, .int (w)), (2, .int (nI (h))), (1, .int (nI (d))), (0, .ref (62))]) dX10_begun_115 0 rfl (pv_s1 (by omega)) (by decide) rfl ?_
      refine xr_goto (tgt := 69) dX10_begun_118 rfl ?_
      refine xb_ls (ls2 := [(8, .int (pv (k + 1))), (7, .int (fi)), (6, .int (ft)), (5, .int (9)), (4, .int (hd)), (3, .int (w)), (2, .int (nI (h))), (1, .int (nI (d))), (0, .ref (62))]) [0, 1, 2, 3, 4, 5, 6, 7, 8] rfl ?_
      exact ih (k + 1) fi ft M1 (by omega) (Ke.tr (fun pp kk hh => by unfold WR1 at hh; unfold WRS; omega) (Ke.up (by unfold WRS; omega) hM) k2)
    · refine xr_iload dX10_begun_98 2 rfl ?_
      refine xr_if_ne (tgt := 108) dX10_begun_100 rfl (fun c5 => ?_) (fun c5 => ?_)
      · refine xr_iload dX10_begun_108 1 rfl ?_
        refine xr_istore (ls2 := [(7, .int (fi)), (8, .int (pv k)), (6, .int (ft)), (5, .int (9)), (4, .int (hd)), (3, .int (w)), (2, .int (nI (h))), (1, .int (nI (d))), (0, .ref (62))]) dX10_begun_110 (by decide) rfl ?_
        refine xr_iinc (v := ft + 1) (ls2 := [(6, .int (ft + 1)), (7, .int (fi)), (8, .int (pv k)), (5, .int (9)), (4, .int (hd)), (3, .int (w)), (2, .int (nI (h))), (1, .int (nI (d))), (0, .ref (62))]) dX10_begun_112 2 rfl rfl (by decide) rfl ?_
        refine xr_iinc (v := pv (k + 1)) (ls2 := [(8, .int (pv (k + 1))), (6, .int (ft + 1)), (7, .int (fi)), (5, .int (9)), (4, .int (hd)), (3, .int (w)), (2, .int (nI (h))), (1, .int (nI (d))), (0, .ref (62))]) dX10_begun_115 2 rfl (pv_s1 (by omega)) (by decide) rfl ?_
        refine xr_goto (tgt := 69) dX10_begun_118 rfl ?_
        refine xb_ls (ls2 := [(8, .int (pv (k + 1))), (7, .int (fi)), (6, .int (ft + 1)), (5, .int (9)), (4, .int (hd)), (3, .int (w)), (2, .int (nI (h))), (1, .int (nI (d))), (0, .ref (62))]) [0, 2, 1, 3, 4, 5, 6, 7, 8] rfl ?_
        exact ih (k + 1) fi (ft + 1) M1 (by omega) (Ke.tr (fun pp kk hh => by unfold WR1 at hh; unfold WRS; omega) (Ke.up (by unfold WRS; omega) hM) k2)
      · refine xr_iload dX10_begun_103 0 rfl ?_
        refine xr_goto (tgt := 110) dX10_begun_105 rfl ?_
        refine xr_istore (ls2 := [(7, .int (pv k)), (8, .int (pv k)), (6, .int (ft)), (5, .int (9)), (4, .int (hd)), (3, .int (w)), (2, .int (nI (h))), (1, .int (nI (d))), (0, .ref (62))]) dX10_begun_110 (by decide) rfl ?_
        refine xr_iinc (v := ft + 1) (ls2 := [(6, .int (ft + 1)), (7, .int (pv k)), (8, .int (pv k)), (5, .int (9)), (4, .int (hd)), (3, .int (w)), (2, .int (nI (h))), (1, .int (nI (d))), (0, .ref (62))]) dX10_begun_112 2 rfl rfl (by decide) rfl ?_
        refine xr_iinc (v := pv (k + 1)) (ls2 := [(8, .int (pv (k + 1))), (6, .int (ft + 1)), (7, .int (pv k)), (5, .int (9)), (4, .int (hd)), (3, .int (w)), (2, .int (nI (h))), (1, .int (nI (d))), (0, .ref (62))]) dX10_begun_115 2 rfl (pv_s1 (by omega)) (by decide) rfl ?_
        refine xr_goto (tgt := 69) dX10_begun_118 rfl ?_
        refine xb_ls (ls2 := [(8, .int (pv (k + 1))), (7, .int (pv k)), (6, .int (ft + 1)), (5, .int (9)), (4, .int (hd)), (3, .int (w)), (2, .int (nI (h))), (1, .int (nI (d))), (0, .ref (62))]) [0, 2, 1, 3, 4, 5, 6, 7, 8] rfl ?_
        exact ih (k + 1) (pv k) (ft + 1) M1 (by omega) (Ke.tr (fun pp kk hh => by unfold WR1 at hh; unfold WRS; omega) (Ke.up (by unfold WRS; omega) hM) k2)
abbrev WRG (p k : Nat) : Prop := (p = 62 ∧ k = 14) ∨ (p = 62 ∧ k = 15) ∨ (p = 62 ∧ k = 16) ∨ (p = 62 ∧ k = 17) ∨ (p = 62 ∧ k = 18) ∨ (p = 62 ∧ k = 23) ∨ (p = 62 ∧ k = 26) ∨ (71 ≤ p ∧ p ≤ 74) ∨ (p = 62 ∧ k = 9) ∨ (p = 62 ∧ k = 18) ∨ (p = 62 ∧ k = 24) ∨ (p = 62 ∧ k = 25) ∨ p = 67 ∨ p = 68 ∨ (p = 63 ∧ 10 ≤ k ∧ k ≤ 14)
set_option maxRecDepth 100000 in
set_option maxHeartbeats 4000000 in
theorem rgo_l {up : Int32} {N : Nat} (hN : N ≤ 200) {l : Launch} {G : xG} {M : xM} {J : xJ} {Q : xQ} {hn : Nat} (h_hn : hn ≤ 5) (e_hn : M 62 6 = nI hn) (hw : ∀ k, k < hn → M 63 (5 + k) ≠ 0) (hbt : M 63 16 ≠ 0) (htx : M 62 13 = -1 ∨ ∃ n : Nat, n ≤ 120 ∧ M 62 13 = nI n) (hC : ∀ (M2 : xM), Ke WRG M M2 → x_X l G fX10_go 62 0 0 Q 92 [(2, .int (up)), (1, .int (nI (N))), (0, .ref (62))] [] x_SH M2 J 0 0) : ∀ (m k : Nat) (M1 : xM), k + m = N → Ke WRG M M1 → x_X l G fX10_go 62 0 0 Q 31 [(3, .int (nI (k))), (2, .int (up)), (1, .int (nI (N))), (0, .ref (62))] [] x_SH M1 J 0 0 := by
  intro m
  induction m with
  | zero =>
    intro k M1 hk hM
    refine xr_iload_n dX10_go_31 0 rfl ?_
    refine xr_iload_n dX10_go_32 2 rfl ?_
    refine xr_icmp_ge (tgt := 92) dX10_go_33 rfl (fun _ => ?_) (fun c => absurd (nI_le (a := N) (b := k) (by omega) (by omega)) c)
    refine xb_ls (ls2 := [(2, .int (up)), (1, .int (nI (N))), (0, .ref (62))]) [1, 2, 3] rfl ?_
    exact hC _ hM
  | succ m ih =>
    intro k M1 hk hM
    have hkN : k < N := by omega
    refine xr_iload_n dX10_go_31 0 rfl ?_
    refine xr_iload_n dX10_go_32 2 rfl ?_
    refine xr_icmp_ge (tgt := 92) dX10_go_33 rfl (fun c => absurd c (nI_ge (a := k) (b := N) (by omega) (by omega))) (fun _ => ?_)
    refine xr_aload_n dX10_go_36 3 rfl ?_
    refine xr_iload_n dX10_go_37 1 rfl ?_
    refine xr_callV (As := [.int (up)]) (rest := []) mlX10_252 (g_X10_lyingOf up h_hn (Eq.trans (hM 62 6 (by decide)) e_hn) (fun kw hkw => by rw [show M1 63 (5 + kw) = M 63 (5 + kw) from (Eq.trans (hM 63 (5 + kw) (by unfold WRG; omega)) rfl)]; exact hw kw hkw) (by rw [show M1 63 16 = M 63 16 from (Eq.trans (hM 63 16 (by unfold WRG; omega)) rfl)]; exact hbt) (by rw [show M1 62 13 = M 62 13 from (Eq.trans (hM 62 13 (by unfold WRG; omega)) rfl)]; exact htx)) dX10_go_38 s_62 rfl rfl (Nat.le_of_ble_eq_true rfl) (by decide) ⟨by decide, by decide⟩ (fun v s2 M9 J2 hq => ?_)
    obtain ⟨r1, rfl, rfl, rfl, rfl, _⟩ := hq
    try dsimp only [Option.toList, List.cons_append, List.nil_append]
    refine xr_istore (ls2 := [(4, .int (r1)), (3, .int (nI (k))), (2, .int (up)), (1, .int (nI (N))), (0, .ref (62))]) dX10_go_41 (by decide) rfl ?_
    refine xr_aload_n dX10_go_43 4 rfl ?_
    refine xr_aload_n dX10_go_44 4 rfl ?_
    refine xb_get (v := M1 62 9) flX10_151 dX10_go_45 s_62 rfl rfl ?_
    refine xr_callV (As := [.int (M1 62 9)]) (rest := []) mlX10_255 (g_X10_tickGoes (M1 62 9) h_hn (Eq.trans (hM 62 6 (by decide)) e_hn) (fun kw hkw => by rw [show M1 63 (5 + kw) = M 63 (5 + kw) from (Eq.trans (hM 63 (5 + kw) (by unfold WRG; omega)) rfl)]; exact hw kw hkw) (by rw [show M1 63 16 = M 63 16 from (Eq.trans (hM 63 16 (by unfold WRG; omega)) rfl)]; exact hbt) (by rw [show M1 62 13 = M 62 13 from (Eq.trans (hM 62 13 (by unfold WRG; omega)) rfl)]; exact htx)) dX10_go_48 s_62 rfl rfl (Nat.le_of_ble_eq_true rfl) (by decide) ⟨by decide, by decide⟩ (fun v s2 M2 J2 hq => ?_)
    obtain ⟨rfl, rfl, rfl, k3, _⟩ := hq
    try dsimp only [Option.toList, List.cons_append, List.nil_append]
    refine xr_aload_n dX10_go_51 4 rfl ?_
    refine xr_aload_n dX10_go_52 4 rfl ?_
    refine xr_iload_n dX10_go_53 2 rfl ?_
    refine xr_callV (As := [.int (up)]) (rest := [.ref (62)]) mlX10_252 (g_X10_lyingOf up h_hn (Eq.trans (k3 62 6 (by decide)) (Eq.trans (hM 62 6 (by decide)) e_hn)) (fun kw hkw => by rw [show M2 63 (5 + kw) = M 63 (5 + kw) from (Eq.trans (k3 63 (5 + kw) (by unfold WR1; omega)) (Eq.trans (hM 63 (5 + kw) (by unfold WRG; omega)) rfl))]; exact hw kw hkw) (by rw [show M2 63 16 = M 63 16 from (Eq.trans (k3 63 16 (by unfold WR1; omega)) (Eq.trans (hM 63 16 (by unfold WRG; omega)) rfl))]; exact hbt) (by rw [show M2 62 13 = M 62 13 from (Eq.trans (k3 62 13 (by unfold WR1; omega)) (Eq.trans (hM 62 13 (by unfold WRG; omega)) rfl))]; exact htx)) dX10_go_54 s_62 rfl rfl (Nat.le_of_ble_eq_true rfl) (by decide) ⟨by decide, by decide⟩ (fun v s2 M9 J2 hq => ?_)
    obtain ⟨r4, rfl, rfl, rfl, rfl, _⟩ := hq
    try dsimp only [Option.toList, List.cons_append, List.nil_append]
    refine xr_iload dX10_go_57 0 rfl ?_
    refine xr_icmp_le (tgt := 69) dX10_go_59 rfl (fun c5 => ?_) (fun c5 => ?_)
    · refine xr_aload_n dX10_go_69 4 rfl ?_
      refine xb_get (v := M2 62 25) flX10_46 dX10_go_70 s_62 rfl rfl ?_
      refine xr_putI fpX10_46 dX10_go_73 s_62 rfl rfl rfl ?_
      refine xr_aload_n dX10_go_76 4 rfl ?_
      refine xr_dup dX10_go_77 rfl ?_
      refine xb_get (v := (x_up M2 62 25 (M2 62 25)) 62 9) flX10_151 dX10_go_78 s_62 rfl rfl ?_
      refine xr_iconst (v := 1) dX10_go_81 rfl ?_
      refine xr_iadd dX10_go_82 ?_
      refine xr_putI fpX10_151 dX10_go_83 s_62 rfl rfl rfl ?_
      refine xr_iinc (v := nI (k + 1)) (ls2 := [(3, .int (nI (k + 1))), (4, .int (r1)), (2, .int (up)), (1, .int (nI (N))), (0, .ref (62))]) dX10_go_86 1 rfl (nI_1 _) (by decide) rfl ?_
      refine xr_goto (tgt := 31) dX10_go_89 rfl ?_
      refine xb_ls (ls2 := [(3, .int (nI (k + 1))), (2, .int (up)), (1, .int (nI (N))), (0, .ref (62))]) [0, 2, 3, 4] rfl ?_
      exact ih (k + 1) (x_up (x_up M2 62 25 (M2 62 25)) 62 9 (((x_up M2 62 25 (M2 62 25)) 62 9) + 1)) (by omega) (Ke.up (by decide) (Ke.up (by decide) (Ke.tr (fun pp kk hh => by unfold WR1 at hh; unfold WRG; omega) hM k3)))
    · refine xr_aload_n dX10_go_62 4 rfl ?_
      refine xb_get (v := M2 62 9) flX10_151 dX10_go_63 s_62 rfl rfl ?_
      refine xr_goto (tgt := 73) dX10_go_66 rfl ?_
      refine xr_putI fpX10_46 dX10_go_73 s_62 rfl rfl rfl ?_
      refine xr_aload_n dX10_go_76 4 rfl ?_
      refine xr_dup dX10_go_77 rfl ?_
      refine xb_get (v := (x_up M2 62 25 (M2 62 9)) 62 9) flX10_151 dX10_go_78 s_62 rfl rfl ?_
      refine xr_iconst (v := 1) dX10_go_81 rfl ?_
      refine xr_iadd dX10_go_82 ?_
      refine xr_putI fpX10_151 dX10_go_83 s_62 rfl rfl rfl ?_
      refine xr_iinc (v := nI (k + 1)) (ls2 := [(3, .int (nI (k + 1))), (4, .int (r1)), (2, .int (up)), (1, .int (nI (N))), (0, .ref (62))]) dX10_go_86 1 rfl (nI_1 _) (by decide) rfl ?_
      refine xr_goto (tgt := 31) dX10_go_89 rfl ?_
      refine xb_ls (ls2 := [(3, .int (nI (k + 1))), (2, .int (up)), (1, .int (nI (N))), (0, .ref (62))]) [0, 2, 3, 4] rfl ?_
      exact ih (k + 1) (x_up (x_up M2 62 25 (M2 62 9)) 62 9 (((x_up M2 62 25 (M2 62 9)) 62 9) + 1)) (by omega) (Ke.up (by decide) (Ke.up (by decide) (Ke.tr (fun pp kk hh => by unfold WR1 at hh; unfold WRG; omega) hM k3)))
set_option maxRecDepth 100000 in
set_option maxHeartbeats 4000000 in
theorem rg2_l {up : Int32} {N : Nat} {l : Launch} {G : xG} {M : xM} {J : xJ} {Q : xQ} {hn : Nat} (h_hn : hn ≤ 5) (e_hn : M 62 6 = nI hn) (hw : ∀ k, k < hn → M 63 (5 + k) ≠ 0) (hbt : M 63 16 ≠ 0) (htx : M 62 13 = -1 ∨ ∃ n : Nat, n ≤ 120 ∧ M 62 13 = nI n) (hC : ∀ (M2 : xM), Ke WRG M M2 → x_X l G fX10_go 62 0 0 Q 160 [(2, .int (up)), (1, .int (nI (N))), (0, .ref (62))] [] x_SH M2 J 0 0) : ∀ (m k : Nat) (M1 : xM), k + m = hn → Ke WRG M M1 → x_X l G fX10_go 62 0 0 Q 107 [(3, .int (nI (k))), (2, .int (up)), (1, .int (nI (N))), (0, .ref (62))] [] x_SH M1 J 0 0 := by
  intro m
  induction m with
  | zero =>
    intro k M1 hk hM
    refine xr_iload_n dX10_go_107 0 rfl ?_
    refine xr_aload_n dX10_go_108 3 rfl ?_
    refine xb_get (v := nI (hn)) flX10_109 dX10_go_109 s_62 rfl (Eq.trans (hM 62 6 (by decide)) e_hn) ?_
    refine xr_icmp_ge (tgt := 160) dX10_go_112 rfl (fun _ => ?_) (fun c => absurd (nI_le (a := hn) (b := k) (by omega) (by omega)) c)
    refine xb_ls (ls2 := [(2, .int (up)), (1, .int (nI (N))), (0, .ref (62))]) [1, 2, 3] rfl ?_
    exact hC _ hM
  | succ m ih =>
    intro k M1 hk hM
    have hkN : k < hn := by omega
    refine xr_iload_n dX10_go_107 0 rfl ?_
    refine xr_aload_n dX10_go_108 3 rfl ?_
    refine xb_get (v := nI (hn)) flX10_109 dX10_go_109 s_62 rfl (Eq.trans (hM 62 6 (by decide)) e_hn) ?_
    refine xr_icmp_ge (tgt := 160) dX10_go_112 rfl (fun c => absurd c (nI_ge (a := k) (b := hn) (by omega) (by omega))) (fun _ => ?_)
    refine xr_aload_n dX10_go_115 3 rfl ?_
    refine xr_getR flX10_22 dX10_go_116 s_62 rfl ?_
    refine xr_iload_n dX10_go_119 0 rfl ?_
    refine xr_aload_n dX10_go_120 3 rfl ?_
    refine xr_getR flX10_37 dX10_go_121 s_62 rfl ?_
    refine xr_iload_n dX10_go_124 0 rfl ?_
    refine xb_iald (j := k) (v := M1 72 k) dX10_go_125 s_72 (by omega) (by decide) rfl ?_
    refine xb_iast (j := k) dX10_go_126 s_67 (by omega) (by decide) ?_
    refine xr_aload_n dX10_go_127 3 rfl ?_
    refine xr_getR flX10_9 dX10_go_128 s_62 rfl ?_
    refine xr_bipush (v := 10) dX10_go_131 rfl ?_
    refine xr_iload_n dX10_go_133 0 rfl ?_
    refine xr_iadd dX10_go_134 ?_
    refine xb_top (y := nI (10 + k)) (nI_add (10) (k)) ?_
    refine xr_aload_n dX10_go_135 3 rfl ?_
    refine xr_getR flX10_40 dX10_go_136 s_62 rfl ?_
    refine xr_iload_n dX10_go_139 0 rfl ?_
    refine xb_iald (j := k) (v := (x_up M1 67 k (M1 72 k)) 73 k) dX10_go_140 s_73 (by omega) (by decide) rfl ?_
    refine xb_iast (j := 10 + k) dX10_go_141 s_63 (by omega) (by decide) ?_
    refine xr_aload_n dX10_go_142 3 rfl ?_
    refine xr_getR flX10_25 dX10_go_143 s_62 rfl ?_
    refine xr_iload_n dX10_go_146 0 rfl ?_
    refine xr_aload_n dX10_go_147 3 rfl ?_
    refine xr_getR flX10_43 dX10_go_148 s_62 rfl ?_
    refine xr_iload_n dX10_go_151 0 rfl ?_
    refine xb_iald (j := k) (v := (x_up (x_up M1 67 k (M1 72 k)) 63 (10 + k) ((x_up M1 67 k (M1 72 k)) 73 k)) 74 k) dX10_go_152 s_74 (by omega) (by decide) rfl ?_
    refine xb_iast (j := k) dX10_go_153 s_68 (by omega) (by decide) ?_
    refine xr_iinc (v := nI (k + 1)) (ls2 := [(3, .int (nI (k + 1))), (2, .int (up)), (1, .int (nI (N))), (0, .ref (62))]) dX10_go_154 0 rfl (nI_1 _) (by decide) rfl ?_
    refine xr_goto (tgt := 107) dX10_go_157 rfl ?_
    refine xb_ls (ls2 := [(3, .int (nI (k + 1))), (2, .int (up)), (1, .int (nI (N))), (0, .ref (62))]) [0, 1, 2, 3] rfl ?_
    exact ih (k + 1) (x_up (x_up (x_up M1 67 k (M1 72 k)) 63 (10 + k) ((x_up M1 67 k (M1 72 k)) 73 k)) 68 k ((x_up (x_up M1 67 k (M1 72 k)) 63 (10 + k) ((x_up M1 67 k (M1 72 k)) 73 k)) 74 k)) (by omega) (Ke.up (by unfold WRG; omega) (Ke.up (by unfold WRG; omega) (Ke.up (by unfold WRG; omega) hM)))
