theorem dX0_init_0 : decode cX0_init 0 = .ok (.aload_n 0, 1) := by decide +kernel
theorem dX0_init_1 : decode cX0_init 1 = .ok (.invokespecial 1, 3) := by decide +kernel
theorem dX0_init_4 : decode cX0_init 4 = .ok (.aload_n 0, 1) := by decide +kernel
theorem dX0_init_5 : decode cX0_init 5 = .ok (.bipush 40, 2) := by decide +kernel
theorem dX0_init_7 : decode cX0_init 7 = .ok (.newarray .int, 2) := by decide +kernel
theorem dX0_init_9 : decode cX0_init 9 = .ok (.putfield 9, 3) := by decide +kernel
theorem dX0_init_12 : decode cX0_init 12 = .ok (.aload_n 0, 1) := by decide +kernel
theorem dX0_init_13 : decode cX0_init 13 = .ok (.bipush 40, 2) := by decide +kernel
theorem dX0_init_15 : decode cX0_init 15 = .ok (.newarray .int, 2) := by decide +kernel
theorem dX0_init_17 : decode cX0_init 17 = .ok (.putfield 13, 3) := by decide +kernel
theorem dX0_init_20 : decode cX0_init 20 = .ok (.aload_n 0, 1) := by decide +kernel
theorem dX0_init_21 : decode cX0_init 21 = .ok (.bipush 40, 2) := by decide +kernel
theorem dX0_init_23 : decode cX0_init 23 = .ok (.newarray .int, 2) := by decide +kernel
theorem dX0_init_25 : decode cX0_init 25 = .ok (.putfield 16, 3) := by decide +kernel
theorem dX0_init_28 : decode cX0_init 28 = .ok (.aload_n 0, 1) := by decide +kernel
theorem dX0_init_29 : decode cX0_init 29 = .ok (.bipush 40, 2) := by decide +kernel
theorem dX0_init_31 : decode cX0_init 31 = .ok (.newarray .int, 2) := by decide +kernel
theorem dX0_init_33 : decode cX0_init 33 = .ok (.putfield 19, 3) := by decide +kernel
theorem dX0_init_36 : decode cX0_init 36 = .ok (.return_, 1) := by decide +kernel
theorem dX0_note_0 : decode cX0_note 0 = .ok (.aload_n 0, 1) := by decide +kernel
theorem dX0_note_1 : decode cX0_note 1 = .ok (.getfield 22, 3) := by decide +kernel
theorem dX0_note_4 : decode cX0_note 4 = .ok (.bipush 40, 2) := by decide +kernel
theorem dX0_note_6 : decode cX0_note 6 = .ok (.if_icmp .lt 7, 3) := by decide +kernel
theorem dX0_note_9 : decode cX0_note 9 = .ok (.aload_n 0, 1) := by decide +kernel
theorem dX0_note_10 : decode cX0_note 10 = .ok (.invokevirtual 26, 3) := by decide +kernel
theorem dX0_note_13 : decode cX0_note 13 = .ok (.aload_n 0, 1) := by decide +kernel
theorem dX0_note_14 : decode cX0_note 14 = .ok (.getfield 9, 3) := by decide +kernel
theorem dX0_note_17 : decode cX0_note 17 = .ok (.aload_n 0, 1) := by decide +kernel
theorem dX0_note_18 : decode cX0_note 18 = .ok (.getfield 22, 3) := by decide +kernel
theorem dX0_note_21 : decode cX0_note 21 = .ok (.iload_n 1, 1) := by decide +kernel
theorem dX0_note_22 : decode cX0_note 22 = .ok (.iastore, 1) := by decide +kernel
theorem dX0_note_23 : decode cX0_note 23 = .ok (.aload_n 0, 1) := by decide +kernel
theorem dX0_note_24 : decode cX0_note 24 = .ok (.getfield 13, 3) := by decide +kernel
theorem dX0_note_27 : decode cX0_note 27 = .ok (.aload_n 0, 1) := by decide +kernel
theorem dX0_note_28 : decode cX0_note 28 = .ok (.getfield 22, 3) := by decide +kernel
theorem dX0_note_31 : decode cX0_note 31 = .ok (.iload_n 2, 1) := by decide +kernel
theorem dX0_note_32 : decode cX0_note 32 = .ok (.iastore, 1) := by decide +kernel
theorem dX0_note_33 : decode cX0_note 33 = .ok (.aload_n 0, 1) := by decide +kernel
theorem dX0_note_34 : decode cX0_note 34 = .ok (.getfield 16, 3) := by decide +kernel
theorem dX0_note_37 : decode cX0_note 37 = .ok (.aload_n 0, 1) := by decide +kernel
theorem dX0_note_38 : decode cX0_note 38 = .ok (.getfield 22, 3) := by decide +kernel
theorem dX0_note_41 : decode cX0_note 41 = .ok (.iload_n 3, 1) := by decide +kernel
theorem dX0_note_42 : decode cX0_note 42 = .ok (.iastore, 1) := by decide +kernel
theorem dX0_note_43 : decode cX0_note 43 = .ok (.aload_n 0, 1) := by decide +kernel
theorem dX0_note_44 : decode cX0_note 44 = .ok (.getfield 19, 3) := by decide +kernel
theorem dX0_note_47 : decode cX0_note 47 = .ok (.aload_n 0, 1) := by decide +kernel
theorem dX0_note_48 : decode cX0_note 48 = .ok (.getfield 22, 3) := by decide +kernel
theorem dX0_note_51 : decode cX0_note 51 = .ok (.iload 4, 2) := by decide +kernel
theorem dX0_note_53 : decode cX0_note 53 = .ok (.iastore, 1) := by decide +kernel
theorem dX0_note_54 : decode cX0_note 54 = .ok (.aload_n 0, 1) := by decide +kernel
theorem dX0_note_55 : decode cX0_note 55 = .ok (.dup, 1) := by decide +kernel
theorem dX0_note_56 : decode cX0_note 56 = .ok (.getfield 22, 3) := by decide +kernel
theorem dX0_note_59 : decode cX0_note 59 = .ok (.iconst 1, 1) := by decide +kernel
theorem dX0_note_60 : decode cX0_note 60 = .ok (.iadd, 1) := by decide +kernel
theorem dX0_note_61 : decode cX0_note 61 = .ok (.putfield 22, 3) := by decide +kernel
theorem dX0_note_64 : decode cX0_note 64 = .ok (.aload_n 0, 1) := by decide +kernel
theorem dX0_note_65 : decode cX0_note 65 = .ok (.aload_n 0, 1) := by decide +kernel
theorem dX0_note_66 : decode cX0_note 66 = .ok (.getfield 22, 3) := by decide +kernel
theorem dX0_note_69 : decode cX0_note 69 = .ok (.putfield 29, 3) := by decide +kernel
theorem dX0_note_72 : decode cX0_note 72 = .ok (.return_, 1) := by decide +kernel
theorem dX0_forgetOldest_0 : decode cX0_forgetOldest 0 = .ok (.aload_n 0, 1) := by decide +kernel
theorem dX0_forgetOldest_1 : decode cX0_forgetOldest 1 = .ok (.getfield 9, 3) := by decide +kernel
theorem dX0_forgetOldest_4 : decode cX0_forgetOldest 4 = .ok (.iconst 1, 1) := by decide +kernel
theorem dX0_forgetOldest_5 : decode cX0_forgetOldest 5 = .ok (.aload_n 0, 1) := by decide +kernel
theorem dX0_forgetOldest_6 : decode cX0_forgetOldest 6 = .ok (.getfield 9, 3) := by decide +kernel
theorem dX0_forgetOldest_9 : decode cX0_forgetOldest 9 = .ok (.iconst 0, 1) := by decide +kernel
theorem dX0_forgetOldest_10 : decode cX0_forgetOldest 10 = .ok (.bipush 39, 2) := by decide +kernel
theorem dX0_forgetOldest_12 : decode cX0_forgetOldest 12 = .ok (.invokestatic 32, 3) := by decide +kernel
theorem dX0_forgetOldest_15 : decode cX0_forgetOldest 15 = .ok (.aload_n 0, 1) := by decide +kernel
theorem dX0_forgetOldest_16 : decode cX0_forgetOldest 16 = .ok (.getfield 13, 3) := by decide +kernel
theorem dX0_forgetOldest_19 : decode cX0_forgetOldest 19 = .ok (.iconst 1, 1) := by decide +kernel
theorem dX0_forgetOldest_20 : decode cX0_forgetOldest 20 = .ok (.aload_n 0, 1) := by decide +kernel
theorem dX0_forgetOldest_21 : decode cX0_forgetOldest 21 = .ok (.getfield 13, 3) := by decide +kernel
theorem dX0_forgetOldest_24 : decode cX0_forgetOldest 24 = .ok (.iconst 0, 1) := by decide +kernel
theorem dX0_forgetOldest_25 : decode cX0_forgetOldest 25 = .ok (.bipush 39, 2) := by decide +kernel
theorem dX0_forgetOldest_27 : decode cX0_forgetOldest 27 = .ok (.invokestatic 32, 3) := by decide +kernel
theorem dX0_forgetOldest_30 : decode cX0_forgetOldest 30 = .ok (.aload_n 0, 1) := by decide +kernel
theorem dX0_forgetOldest_31 : decode cX0_forgetOldest 31 = .ok (.getfield 16, 3) := by decide +kernel
theorem dX0_forgetOldest_34 : decode cX0_forgetOldest 34 = .ok (.iconst 1, 1) := by decide +kernel
theorem dX0_forgetOldest_35 : decode cX0_forgetOldest 35 = .ok (.aload_n 0, 1) := by decide +kernel
theorem dX0_forgetOldest_36 : decode cX0_forgetOldest 36 = .ok (.getfield 16, 3) := by decide +kernel
theorem dX0_forgetOldest_39 : decode cX0_forgetOldest 39 = .ok (.iconst 0, 1) := by decide +kernel
theorem dX0_forgetOldest_40 : decode cX0_forgetOldest 40 = .ok (.bipush 39, 2) := by decide +kernel
theorem dX0_forgetOldest_42 : decode cX0_forgetOldest 42 = .ok (.invokestatic 32, 3) := by decide +kernel
theorem dX0_forgetOldest_45 : decode cX0_forgetOldest 45 = .ok (.aload_n 0, 1) := by decide +kernel
theorem dX0_forgetOldest_46 : decode cX0_forgetOldest 46 = .ok (.getfield 19, 3) := by decide +kernel
theorem dX0_forgetOldest_49 : decode cX0_forgetOldest 49 = .ok (.iconst 1, 1) := by decide +kernel
theorem dX0_forgetOldest_50 : decode cX0_forgetOldest 50 = .ok (.aload_n 0, 1) := by decide +kernel
theorem dX0_forgetOldest_51 : decode cX0_forgetOldest 51 = .ok (.getfield 19, 3) := by decide +kernel
theorem dX0_forgetOldest_54 : decode cX0_forgetOldest 54 = .ok (.iconst 0, 1) := by decide +kernel
theorem dX0_forgetOldest_55 : decode cX0_forgetOldest 55 = .ok (.bipush 39, 2) := by decide +kernel
theorem dX0_forgetOldest_57 : decode cX0_forgetOldest 57 = .ok (.invokestatic 32, 3) := by decide +kernel
theorem dX0_forgetOldest_60 : decode cX0_forgetOldest 60 = .ok (.aload_n 0, 1) := by decide +kernel
theorem dX0_forgetOldest_61 : decode cX0_forgetOldest 61 = .ok (.bipush 39, 2) := by decide +kernel
theorem dX0_forgetOldest_63 : decode cX0_forgetOldest 63 = .ok (.putfield 22, 3) := by decide +kernel
theorem dX0_forgetOldest_66 : decode cX0_forgetOldest 66 = .ok (.return_, 1) := by decide +kernel
theorem dX1_init_0 : decode cX1_init 0 = .ok (.aload_n 0, 1) := by decide +kernel
theorem dX1_init_1 : decode cX1_init 1 = .ok (.invokespecial 3, 3) := by decide +kernel
theorem dX1_init_4 : decode cX1_init 4 = .ok (.aload_n 0, 1) := by decide +kernel
theorem dX1_init_5 : decode cX1_init 5 = .ok (.bipush 25, 2) := by decide +kernel
theorem dX1_init_7 : decode cX1_init 7 = .ok (.newarray .int, 2) := by decide +kernel
theorem dX1_init_9 : decode cX1_init 9 = .ok (.putfield 9, 3) := by decide +kernel
theorem dX1_init_12 : decode cX1_init 12 = .ok (.aload_n 0, 1) := by decide +kernel
theorem dX1_init_13 : decode cX1_init 13 = .ok (.bipush 25, 2) := by decide +kernel
theorem dX1_init_15 : decode cX1_init 15 = .ok (.newarray .int, 2) := by decide +kernel
theorem dX1_init_17 : decode cX1_init 17 = .ok (.putfield 15, 3) := by decide +kernel
theorem dX1_init_20 : decode cX1_init 20 = .ok (.aload_n 0, 1) := by decide +kernel
theorem dX1_init_21 : decode cX1_init 21 = .ok (.bipush 25, 2) := by decide +kernel
theorem dX1_init_23 : decode cX1_init 23 = .ok (.newarray .boolean, 2) := by decide +kernel
theorem dX1_init_25 : decode cX1_init 25 = .ok (.putfield 18, 3) := by decide +kernel
theorem dX1_init_28 : decode cX1_init 28 = .ok (.aload_n 0, 1) := by decide +kernel
theorem dX1_init_29 : decode cX1_init 29 = .ok (.bipush 25, 2) := by decide +kernel
theorem dX1_init_31 : decode cX1_init 31 = .ok (.newarray .int, 2) := by decide +kernel
theorem dX1_init_33 : decode cX1_init 33 = .ok (.putfield 22, 3) := by decide +kernel
theorem dX1_init_36 : decode cX1_init 36 = .ok (.aload_n 0, 1) := by decide +kernel
theorem dX1_init_37 : decode cX1_init 37 = .ok (.bipush 25, 2) := by decide +kernel
theorem dX1_init_39 : decode cX1_init 39 = .ok (.newarray .int, 2) := by decide +kernel
theorem dX1_init_41 : decode cX1_init 41 = .ok (.putfield 25, 3) := by decide +kernel
theorem dX1_init_44 : decode cX1_init 44 = .ok (.iconst 0, 1) := by decide +kernel
theorem dX1_init_45 : decode cX1_init 45 = .ok (.istore_n 1, 1) := by decide +kernel
theorem dX1_init_46 : decode cX1_init 46 = .ok (.iload_n 1, 1) := by decide +kernel
theorem dX1_init_47 : decode cX1_init 47 = .ok (.bipush 25, 2) := by decide +kernel
theorem dX1_init_49 : decode cX1_init 49 = .ok (.if_icmp .ge 17, 3) := by decide +kernel
theorem dX1_init_52 : decode cX1_init 52 = .ok (.aload_n 0, 1) := by decide +kernel
theorem dX1_init_53 : decode cX1_init 53 = .ok (.getfield 9, 3) := by decide +kernel
theorem dX1_init_56 : decode cX1_init 56 = .ok (.iload_n 1, 1) := by decide +kernel
theorem dX1_init_57 : decode cX1_init 57 = .ok (.bipush 9, 2) := by decide +kernel
theorem dX1_init_59 : decode cX1_init 59 = .ok (.iastore, 1) := by decide +kernel
theorem dX1_init_60 : decode cX1_init 60 = .ok (.iinc 1 1, 3) := by decide +kernel
theorem dX1_init_63 : decode cX1_init 63 = .ok (.goto (-17), 3) := by decide +kernel
theorem dX1_init_66 : decode cX1_init 66 = .ok (.aload_n 0, 1) := by decide +kernel
theorem dX1_init_67 : decode cX1_init 67 = .ok (.iconst 1, 1) := by decide +kernel
theorem dX1_init_68 : decode cX1_init 68 = .ok (.putfield 28, 3) := by decide +kernel
theorem dX1_init_71 : decode cX1_init 71 = .ok (.return_, 1) := by decide +kernel
theorem dX1_becomes_0 : decode cX1_becomes 0 = .ok (.aload_n 0, 1) := by decide +kernel
theorem dX1_becomes_1 : decode cX1_becomes 1 = .ok (.getfield 9, 3) := by decide +kernel
theorem dX1_becomes_4 : decode cX1_becomes 4 = .ok (.iload_n 1, 1) := by decide +kernel
theorem dX1_becomes_5 : decode cX1_becomes 5 = .ok (.iload_n 2, 1) := by decide +kernel
theorem dX1_becomes_6 : decode cX1_becomes 6 = .ok (.iastore, 1) := by decide +kernel
theorem dX1_becomes_7 : decode cX1_becomes 7 = .ok (.aload_n 0, 1) := by decide +kernel
theorem dX1_becomes_8 : decode cX1_becomes 8 = .ok (.getfield 15, 3) := by decide +kernel
theorem dX1_becomes_11 : decode cX1_becomes 11 = .ok (.iload_n 1, 1) := by decide +kernel
theorem dX1_becomes_12 : decode cX1_becomes 12 = .ok (.iconst 0, 1) := by decide +kernel
theorem dX1_becomes_13 : decode cX1_becomes 13 = .ok (.iastore, 1) := by decide +kernel
theorem dX1_becomes_14 : decode cX1_becomes 14 = .ok (.return_, 1) := by decide +kernel
theorem dX1_minutesAt_0 : decode cX1_minutesAt 0 = .ok (.iconst 1, 1) := by decide +kernel
theorem dX1_minutesAt_1 : decode cX1_minutesAt 1 = .ok (.iload_n 0, 1) := by decide +kernel
theorem dX1_minutesAt_2 : decode cX1_minutesAt 2 = .ok (.invokestatic 32, 3) := by decide +kernel
theorem dX1_minutesAt_5 : decode cX1_minutesAt 5 = .ok (.ireturn, 1) := by decide +kernel
theorem dX1_learnMinute_0 : decode cX1_learnMinute 0 = .ok (.aload_n 0, 1) := by decide +kernel
theorem dX1_learnMinute_1 : decode cX1_learnMinute 1 = .ok (.getfield 9, 3) := by decide +kernel
theorem dX1_learnMinute_4 : decode cX1_learnMinute 4 = .ok (.iload_n 1, 1) := by decide +kernel
theorem dX1_learnMinute_5 : decode cX1_learnMinute 5 = .ok (.iaload, 1) := by decide +kernel
theorem dX1_learnMinute_6 : decode cX1_learnMinute 6 = .ok (.bipush 12, 2) := by decide +kernel
theorem dX1_learnMinute_8 : decode cX1_learnMinute 8 = .ok (.if_icmp .lt 4, 3) := by decide +kernel
theorem dX1_learnMinute_11 : decode cX1_learnMinute 11 = .ok (.return_, 1) := by decide +kernel
theorem dX1_learnMinute_12 : decode cX1_learnMinute 12 = .ok (.aload_n 0, 1) := by decide +kernel
theorem dX1_learnMinute_13 : decode cX1_learnMinute 13 = .ok (.getfield 15, 3) := by decide +kernel
theorem dX1_learnMinute_16 : decode cX1_learnMinute 16 = .ok (.iload_n 1, 1) := by decide +kernel
theorem dX1_learnMinute_17 : decode cX1_learnMinute 17 = .ok (.dup2, 1) := by decide +kernel
theorem dX1_learnMinute_18 : decode cX1_learnMinute 18 = .ok (.iaload, 1) := by decide +kernel
theorem dX1_learnMinute_19 : decode cX1_learnMinute 19 = .ok (.iconst 1, 1) := by decide +kernel
theorem dX1_learnMinute_20 : decode cX1_learnMinute 20 = .ok (.iadd, 1) := by decide +kernel
theorem dX1_learnMinute_21 : decode cX1_learnMinute 21 = .ok (.iastore, 1) := by decide +kernel
theorem dX1_learnMinute_22 : decode cX1_learnMinute 22 = .ok (.aload_n 0, 1) := by decide +kernel
theorem dX1_learnMinute_23 : decode cX1_learnMinute 23 = .ok (.getfield 15, 3) := by decide +kernel
theorem dX1_learnMinute_26 : decode cX1_learnMinute 26 = .ok (.iload_n 1, 1) := by decide +kernel
theorem dX1_learnMinute_27 : decode cX1_learnMinute 27 = .ok (.iaload, 1) := by decide +kernel
theorem dX1_learnMinute_28 : decode cX1_learnMinute 28 = .ok (.aload_n 0, 1) := by decide +kernel
theorem dX1_learnMinute_29 : decode cX1_learnMinute 29 = .ok (.getfield 9, 3) := by decide +kernel
theorem dX1_learnMinute_32 : decode cX1_learnMinute 32 = .ok (.iload_n 1, 1) := by decide +kernel
theorem dX1_learnMinute_33 : decode cX1_learnMinute 33 = .ok (.iaload, 1) := by decide +kernel
theorem dX1_learnMinute_34 : decode cX1_learnMinute 34 = .ok (.invokestatic 38, 3) := by decide +kernel
theorem dX1_learnMinute_37 : decode cX1_learnMinute 37 = .ok (.if_icmp .lt 16, 3) := by decide +kernel
theorem dX1_learnMinute_40 : decode cX1_learnMinute 40 = .ok (.aload_n 0, 1) := by decide +kernel
theorem dX1_learnMinute_41 : decode cX1_learnMinute 41 = .ok (.iload_n 1, 1) := by decide +kernel
theorem dX1_learnMinute_42 : decode cX1_learnMinute 42 = .ok (.aload_n 0, 1) := by decide +kernel
theorem dX1_learnMinute_43 : decode cX1_learnMinute 43 = .ok (.getfield 9, 3) := by decide +kernel
theorem dX1_learnMinute_46 : decode cX1_learnMinute 46 = .ok (.iload_n 1, 1) := by decide +kernel
theorem dX1_learnMinute_47 : decode cX1_learnMinute 47 = .ok (.iaload, 1) := by decide +kernel
theorem dX1_learnMinute_48 : decode cX1_learnMinute 48 = .ok (.iconst 1, 1) := by decide +kernel
theorem dX1_learnMinute_49 : decode cX1_learnMinute 49 = .ok (.iadd, 1) := by decide +kernel
theorem dX1_learnMinute_50 : decode cX1_learnMinute 50 = .ok (.invokevirtual 42, 3) := by decide +kernel
theorem dX1_learnMinute_53 : decode cX1_learnMinute 53 = .ok (.return_, 1) := by decide +kernel
theorem dX1_play_0 : decode cX1_play 0 = .ok (.aload_n 0, 1) := by decide +kernel
theorem dX1_play_1 : decode cX1_play 1 = .ok (.iload_n 1, 1) := by decide +kernel
theorem dX1_play_2 : decode cX1_play 2 = .ok (.putfield 46, 3) := by decide +kernel
theorem dX1_play_5 : decode cX1_play 5 = .ok (.iconst 0, 1) := by decide +kernel
theorem dX1_play_6 : decode cX1_play 6 = .ok (.istore_n 3, 1) := by decide +kernel
theorem dX1_play_7 : decode cX1_play 7 = .ok (.iload_n 3, 1) := by decide +kernel
theorem dX1_play_8 : decode cX1_play 8 = .ok (.bipush 25, 2) := by decide +kernel
theorem dX1_play_10 : decode cX1_play 10 = .ok (.if_icmp .ge 32, 3) := by decide +kernel
theorem dX1_play_13 : decode cX1_play 13 = .ok (.aload_n 0, 1) := by decide +kernel
theorem dX1_play_14 : decode cX1_play 14 = .ok (.getfield 18, 3) := by decide +kernel
theorem dX1_play_17 : decode cX1_play 17 = .ok (.iload_n 3, 1) := by decide +kernel
theorem dX1_play_18 : decode cX1_play 18 = .ok (.iconst 1, 1) := by decide +kernel
theorem dX1_play_19 : decode cX1_play 19 = .ok (.bastore, 1) := by decide +kernel
theorem dX1_play_20 : decode cX1_play 20 = .ok (.aload_n 0, 1) := by decide +kernel
theorem dX1_play_21 : decode cX1_play 21 = .ok (.getfield 22, 3) := by decide +kernel
theorem dX1_play_24 : decode cX1_play 24 = .ok (.iload_n 3, 1) := by decide +kernel
theorem dX1_play_25 : decode cX1_play 25 = .ok (.bipush (-2), 2) := by decide +kernel
theorem dX1_play_27 : decode cX1_play 27 = .ok (.iastore, 1) := by decide +kernel
theorem dX1_play_28 : decode cX1_play 28 = .ok (.aload_n 0, 1) := by decide +kernel
theorem dX1_play_29 : decode cX1_play 29 = .ok (.getfield 25, 3) := by decide +kernel
theorem dX1_play_32 : decode cX1_play 32 = .ok (.iload_n 3, 1) := by decide +kernel
theorem dX1_play_33 : decode cX1_play 33 = .ok (.bipush 31, 2) := by decide +kernel
theorem dX1_play_35 : decode cX1_play 35 = .ok (.iastore, 1) := by decide +kernel
theorem dX1_play_36 : decode cX1_play 36 = .ok (.iinc 3 1, 3) := by decide +kernel
theorem dX1_play_39 : decode cX1_play 39 = .ok (.goto (-32), 3) := by decide +kernel
theorem dX1_play_42 : decode cX1_play 42 = .ok (.iconst 1, 1) := by decide +kernel
theorem dX1_play_43 : decode cX1_play 43 = .ok (.istore_n 3, 1) := by decide +kernel
theorem dX1_play_44 : decode cX1_play 44 = .ok (.iload_n 3, 1) := by decide +kernel
theorem dX1_play_45 : decode cX1_play 45 = .ok (.iload_n 2, 1) := by decide +kernel
theorem dX1_play_46 : decode cX1_play 46 = .ok (.if_icmp .gt 14, 3) := by decide +kernel
theorem dX1_play_49 : decode cX1_play 49 = .ok (.aload_n 0, 1) := by decide +kernel
theorem dX1_play_50 : decode cX1_play 50 = .ok (.iload_n 3, 1) := by decide +kernel
theorem dX1_play_51 : decode cX1_play 51 = .ok (.invokevirtual 49, 3) := by decide +kernel
theorem dX1_play_54 : decode cX1_play 54 = .ok (.iinc 3 1, 3) := by decide +kernel
theorem dX1_play_57 : decode cX1_play 57 = .ok (.goto (-13), 3) := by decide +kernel
theorem dX1_play_60 : decode cX1_play 60 = .ok (.return_, 1) := by decide +kernel
theorem dX1_playMinute_0 : decode cX1_playMinute 0 = .ok (.iconst 0, 1) := by decide +kernel
theorem dX1_playMinute_1 : decode cX1_playMinute 1 = .ok (.istore_n 2, 1) := by decide +kernel
theorem dX1_playMinute_2 : decode cX1_playMinute 2 = .ok (.iload_n 2, 1) := by decide +kernel
theorem dX1_playMinute_3 : decode cX1_playMinute 3 = .ok (.bipush 25, 2) := by decide +kernel
theorem dX1_playMinute_5 : decode cX1_playMinute 5 = .ok (.if_icmp .ge 45, 3) := by decide +kernel
theorem dX1_playMinute_8 : decode cX1_playMinute 8 = .ok (.aload_n 0, 1) := by decide +kernel
theorem dX1_playMinute_9 : decode cX1_playMinute 9 = .ok (.getfield 18, 3) := by decide +kernel
theorem dX1_playMinute_12 : decode cX1_playMinute 12 = .ok (.iload_n 2, 1) := by decide +kernel
theorem dX1_playMinute_13 : decode cX1_playMinute 13 = .ok (.baload, 1) := by decide +kernel
theorem dX1_playMinute_14 : decode cX1_playMinute 14 = .ok (.ifCond .eq 30, 3) := by decide +kernel
theorem dX1_playMinute_17 : decode cX1_playMinute 17 = .ok (.aload_n 0, 1) := by decide +kernel
theorem dX1_playMinute_18 : decode cX1_playMinute 18 = .ok (.invokevirtual 53, 3) := by decide +kernel
theorem dX1_playMinute_21 : decode cX1_playMinute 21 = .ok (.aload_n 0, 1) := by decide +kernel
theorem dX1_playMinute_22 : decode cX1_playMinute 22 = .ok (.getfield 9, 3) := by decide +kernel
theorem dX1_playMinute_25 : decode cX1_playMinute 25 = .ok (.iload_n 2, 1) := by decide +kernel
theorem dX1_playMinute_26 : decode cX1_playMinute 26 = .ok (.iaload, 1) := by decide +kernel
theorem dX1_playMinute_27 : decode cX1_playMinute 27 = .ok (.if_icmp .lt 17, 3) := by decide +kernel
theorem dX1_playMinute_30 : decode cX1_playMinute 30 = .ok (.aload_n 0, 1) := by decide +kernel
theorem dX1_playMinute_31 : decode cX1_playMinute 31 = .ok (.iload_n 2, 1) := by decide +kernel
theorem dX1_playMinute_32 : decode cX1_playMinute 32 = .ok (.bipush (-2), 2) := by decide +kernel
theorem dX1_playMinute_34 : decode cX1_playMinute 34 = .ok (.iload_n 1, 1) := by decide +kernel
theorem dX1_playMinute_35 : decode cX1_playMinute 35 = .ok (.invokevirtual 57, 3) := by decide +kernel
theorem dX1_playMinute_38 : decode cX1_playMinute 38 = .ok (.aload_n 0, 1) := by decide +kernel
theorem dX1_playMinute_39 : decode cX1_playMinute 39 = .ok (.iload_n 2, 1) := by decide +kernel
theorem dX1_playMinute_40 : decode cX1_playMinute 40 = .ok (.iload_n 1, 1) := by decide +kernel
theorem dX1_playMinute_41 : decode cX1_playMinute 41 = .ok (.invokevirtual 61, 3) := by decide +kernel
theorem dX1_playMinute_44 : decode cX1_playMinute 44 = .ok (.iinc 2 1, 3) := by decide +kernel
theorem dX1_playMinute_47 : decode cX1_playMinute 47 = .ok (.goto (-45), 3) := by decide +kernel
theorem dX1_playMinute_50 : decode cX1_playMinute 50 = .ok (.return_, 1) := by decide +kernel
theorem dX1_knockFrom_0 : decode cX1_knockFrom 0 = .ok (.iconst 0, 1) := by decide +kernel
theorem dX1_knockFrom_1 : decode cX1_knockFrom 1 = .ok (.istore_n 3, 1) := by decide +kernel
theorem dX1_knockFrom_2 : decode cX1_knockFrom 2 = .ok (.iload_n 3, 1) := by decide +kernel
theorem dX1_knockFrom_3 : decode cX1_knockFrom 3 = .ok (.iconst 4, 1) := by decide +kernel
theorem dX1_knockFrom_4 : decode cX1_knockFrom 4 = .ok (.if_icmp .ge 51, 3) := by decide +kernel
theorem dX1_knockFrom_7 : decode cX1_knockFrom 7 = .ok (.iload_n 1, 1) := by decide +kernel
theorem dX1_knockFrom_8 : decode cX1_knockFrom 8 = .ok (.iload_n 3, 1) := by decide +kernel
theorem dX1_knockFrom_9 : decode cX1_knockFrom 9 = .ok (.invokestatic 64, 3) := by decide +kernel
theorem dX1_knockFrom_12 : decode cX1_knockFrom 12 = .ok (.istore 4, 2) := by decide +kernel
theorem dX1_knockFrom_14 : decode cX1_knockFrom 14 = .ok (.iload 4, 2) := by decide +kernel
theorem dX1_knockFrom_16 : decode cX1_knockFrom 16 = .ok (.iconst (-1), 1) := by decide +kernel
theorem dX1_knockFrom_17 : decode cX1_knockFrom 17 = .ok (.if_icmp .eq 32, 3) := by decide +kernel
theorem dX1_knockFrom_20 : decode cX1_knockFrom 20 = .ok (.aload_n 0, 1) := by decide +kernel
theorem dX1_knockFrom_21 : decode cX1_knockFrom 21 = .ok (.getfield 18, 3) := by decide +kernel
theorem dX1_knockFrom_24 : decode cX1_knockFrom 24 = .ok (.iload 4, 2) := by decide +kernel
theorem dX1_knockFrom_26 : decode cX1_knockFrom 26 = .ok (.baload, 1) := by decide +kernel
theorem dX1_knockFrom_27 : decode cX1_knockFrom 27 = .ok (.ifCond .eq 22, 3) := by decide +kernel
theorem dX1_knockFrom_30 : decode cX1_knockFrom 30 = .ok (.aload_n 0, 1) := by decide +kernel
theorem dX1_knockFrom_31 : decode cX1_knockFrom 31 = .ok (.invokevirtual 53, 3) := by decide +kernel
theorem dX1_knockFrom_34 : decode cX1_knockFrom 34 = .ok (.aload_n 0, 1) := by decide +kernel
theorem dX1_knockFrom_35 : decode cX1_knockFrom 35 = .ok (.getfield 28, 3) := by decide +kernel
theorem dX1_knockFrom_38 : decode cX1_knockFrom 38 = .ok (.if_icmp .ge 11, 3) := by decide +kernel
theorem dX1_knockFrom_41 : decode cX1_knockFrom 41 = .ok (.aload_n 0, 1) := by decide +kernel
theorem dX1_knockFrom_42 : decode cX1_knockFrom 42 = .ok (.iload 4, 2) := by decide +kernel
theorem dX1_knockFrom_44 : decode cX1_knockFrom 44 = .ok (.iload_n 1, 1) := by decide +kernel
theorem dX1_knockFrom_45 : decode cX1_knockFrom 45 = .ok (.iload_n 2, 1) := by decide +kernel
theorem dX1_knockFrom_46 : decode cX1_knockFrom 46 = .ok (.invokevirtual 57, 3) := by decide +kernel
theorem dX1_knockFrom_49 : decode cX1_knockFrom 49 = .ok (.iinc 3 1, 3) := by decide +kernel
theorem dX1_knockFrom_52 : decode cX1_knockFrom 52 = .ok (.goto (-50), 3) := by decide +kernel
theorem dX1_knockFrom_55 : decode cX1_knockFrom 55 = .ok (.return_, 1) := by decide +kernel
theorem dX1_drop_0 : decode cX1_drop 0 = .ok (.aload_n 0, 1) := by decide +kernel
theorem dX1_drop_1 : decode cX1_drop 1 = .ok (.getfield 18, 3) := by decide +kernel
theorem dX1_drop_4 : decode cX1_drop 4 = .ok (.iload_n 1, 1) := by decide +kernel
theorem dX1_drop_5 : decode cX1_drop 5 = .ok (.iconst 0, 1) := by decide +kernel
theorem dX1_drop_6 : decode cX1_drop 6 = .ok (.bastore, 1) := by decide +kernel
theorem dX1_drop_7 : decode cX1_drop 7 = .ok (.aload_n 0, 1) := by decide +kernel
theorem dX1_drop_8 : decode cX1_drop 8 = .ok (.getfield 22, 3) := by decide +kernel
theorem dX1_drop_11 : decode cX1_drop 11 = .ok (.iload_n 1, 1) := by decide +kernel
theorem dX1_drop_12 : decode cX1_drop 12 = .ok (.iload_n 2, 1) := by decide +kernel
theorem dX1_drop_13 : decode cX1_drop 13 = .ok (.iastore, 1) := by decide +kernel
theorem dX1_drop_14 : decode cX1_drop 14 = .ok (.aload_n 0, 1) := by decide +kernel
theorem dX1_drop_15 : decode cX1_drop 15 = .ok (.getfield 25, 3) := by decide +kernel
theorem dX1_drop_18 : decode cX1_drop 18 = .ok (.iload_n 1, 1) := by decide +kernel
theorem dX1_drop_19 : decode cX1_drop 19 = .ok (.iload_n 3, 1) := by decide +kernel
theorem dX1_drop_20 : decode cX1_drop 20 = .ok (.iastore, 1) := by decide +kernel
theorem dX1_drop_21 : decode cX1_drop 21 = .ok (.return_, 1) := by decide +kernel
theorem dX1_draw_0 : decode cX1_draw 0 = .ok (.aload_n 0, 1) := by decide +kernel
theorem dX1_draw_1 : decode cX1_draw 1 = .ok (.aload_n 0, 1) := by decide +kernel
theorem dX1_draw_2 : decode cX1_draw 2 = .ok (.getfield 46, 3) := by decide +kernel
theorem dX1_draw_5 : decode cX1_draw 5 = .ok (.ldc 67, 2) := by decide +kernel
theorem dX1_draw_7 : decode cX1_draw 7 = .ok (.imul, 1) := by decide +kernel
theorem dX1_draw_8 : decode cX1_draw 8 = .ok (.sipush 12345, 3) := by decide +kernel
theorem dX1_draw_11 : decode cX1_draw 11 = .ok (.iadd, 1) := by decide +kernel
theorem dX1_draw_12 : decode cX1_draw 12 = .ok (.putfield 46, 3) := by decide +kernel
theorem dX1_draw_15 : decode cX1_draw 15 = .ok (.aload_n 0, 1) := by decide +kernel
theorem dX1_draw_16 : decode cX1_draw 16 = .ok (.getfield 46, 3) := by decide +kernel
theorem dX1_draw_19 : decode cX1_draw 19 = .ok (.bipush 8, 2) := by decide +kernel
theorem dX1_draw_21 : decode cX1_draw 21 = .ok (.iushr, 1) := by decide +kernel
theorem dX1_draw_22 : decode cX1_draw 22 = .ok (.bipush 12, 2) := by decide +kernel
theorem dX1_draw_24 : decode cX1_draw 24 = .ok (.irem, 1) := by decide +kernel
theorem dX1_draw_25 : decode cX1_draw 25 = .ok (.ireturn, 1) := by decide +kernel
theorem dX1_beside_0 : decode cX1_beside 0 = .ok (.iload_n 1, 1) := by decide +kernel
theorem dX1_beside_1 : decode cX1_beside 1 = .ok (.tableswitch 71 0 2 #[27, 40, 55], 27) := by decide +kernel
theorem dX1_beside_28 : decode cX1_beside 28 = .ok (.iload_n 0, 1) := by decide +kernel
theorem dX1_beside_29 : decode cX1_beside 29 = .ok (.iconst 5, 1) := by decide +kernel
theorem dX1_beside_30 : decode cX1_beside 30 = .ok (.if_icmp .lt 9, 3) := by decide +kernel
theorem dX1_beside_33 : decode cX1_beside 33 = .ok (.iload_n 0, 1) := by decide +kernel
theorem dX1_beside_34 : decode cX1_beside 34 = .ok (.iconst 5, 1) := by decide +kernel
theorem dX1_beside_35 : decode cX1_beside 35 = .ok (.isub, 1) := by decide +kernel
theorem dX1_beside_36 : decode cX1_beside 36 = .ok (.goto 4, 3) := by decide +kernel
theorem dX1_beside_39 : decode cX1_beside 39 = .ok (.iconst (-1), 1) := by decide +kernel
theorem dX1_beside_40 : decode cX1_beside 40 = .ok (.ireturn, 1) := by decide +kernel
theorem dX1_beside_41 : decode cX1_beside 41 = .ok (.iload_n 0, 1) := by decide +kernel
theorem dX1_beside_42 : decode cX1_beside 42 = .ok (.iconst 5, 1) := by decide +kernel
theorem dX1_beside_43 : decode cX1_beside 43 = .ok (.irem, 1) := by decide +kernel
theorem dX1_beside_44 : decode cX1_beside 44 = .ok (.iconst 4, 1) := by decide +kernel
theorem dX1_beside_45 : decode cX1_beside 45 = .ok (.if_icmp .ge 9, 3) := by decide +kernel
theorem dX1_beside_48 : decode cX1_beside 48 = .ok (.iload_n 0, 1) := by decide +kernel
theorem dX1_beside_49 : decode cX1_beside 49 = .ok (.iconst 1, 1) := by decide +kernel
theorem dX1_beside_50 : decode cX1_beside 50 = .ok (.iadd, 1) := by decide +kernel
theorem dX1_beside_51 : decode cX1_beside 51 = .ok (.goto 4, 3) := by decide +kernel
theorem dX1_beside_54 : decode cX1_beside 54 = .ok (.iconst (-1), 1) := by decide +kernel
theorem dX1_beside_55 : decode cX1_beside 55 = .ok (.ireturn, 1) := by decide +kernel
theorem dX1_beside_56 : decode cX1_beside 56 = .ok (.iload_n 0, 1) := by decide +kernel
theorem dX1_beside_57 : decode cX1_beside 57 = .ok (.iconst 5, 1) := by decide +kernel
theorem dX1_beside_58 : decode cX1_beside 58 = .ok (.iadd, 1) := by decide +kernel
theorem dX1_beside_59 : decode cX1_beside 59 = .ok (.bipush 25, 2) := by decide +kernel
theorem dX1_beside_61 : decode cX1_beside 61 = .ok (.if_icmp .ge 9, 3) := by decide +kernel
theorem dX1_beside_64 : decode cX1_beside 64 = .ok (.iload_n 0, 1) := by decide +kernel
theorem dX1_beside_65 : decode cX1_beside 65 = .ok (.iconst 5, 1) := by decide +kernel
theorem dX1_beside_66 : decode cX1_beside 66 = .ok (.iadd, 1) := by decide +kernel
theorem dX1_beside_67 : decode cX1_beside 67 = .ok (.goto 4, 3) := by decide +kernel
theorem dX1_beside_70 : decode cX1_beside 70 = .ok (.iconst (-1), 1) := by decide +kernel
theorem dX1_beside_71 : decode cX1_beside 71 = .ok (.ireturn, 1) := by decide +kernel
theorem dX1_beside_72 : decode cX1_beside 72 = .ok (.iload_n 0, 1) := by decide +kernel
theorem dX1_beside_73 : decode cX1_beside 73 = .ok (.iconst 5, 1) := by decide +kernel
theorem dX1_beside_74 : decode cX1_beside 74 = .ok (.irem, 1) := by decide +kernel
theorem dX1_beside_75 : decode cX1_beside 75 = .ok (.ifCond .le 9, 3) := by decide +kernel
theorem dX1_beside_78 : decode cX1_beside 78 = .ok (.iload_n 0, 1) := by decide +kernel
theorem dX1_beside_79 : decode cX1_beside 79 = .ok (.iconst 1, 1) := by decide +kernel
theorem dX1_beside_80 : decode cX1_beside 80 = .ok (.isub, 1) := by decide +kernel
theorem dX1_beside_81 : decode cX1_beside 81 = .ok (.goto 4, 3) := by decide +kernel
theorem dX1_beside_84 : decode cX1_beside 84 = .ok (.iconst (-1), 1) := by decide +kernel
theorem dX1_beside_85 : decode cX1_beside 85 = .ok (.ireturn, 1) := by decide +kernel
theorem dX1_howManyUp_0 : decode cX1_howManyUp 0 = .ok (.iconst 0, 1) := by decide +kernel
theorem dX1_howManyUp_1 : decode cX1_howManyUp 1 = .ok (.istore_n 1, 1) := by decide +kernel
theorem dX1_howManyUp_2 : decode cX1_howManyUp 2 = .ok (.iconst 0, 1) := by decide +kernel
theorem dX1_howManyUp_3 : decode cX1_howManyUp 3 = .ok (.istore_n 2, 1) := by decide +kernel
theorem dX1_howManyUp_4 : decode cX1_howManyUp 4 = .ok (.iload_n 2, 1) := by decide +kernel
theorem dX1_howManyUp_5 : decode cX1_howManyUp 5 = .ok (.bipush 25, 2) := by decide +kernel
theorem dX1_howManyUp_7 : decode cX1_howManyUp 7 = .ok (.if_icmp .ge 21, 3) := by decide +kernel
theorem dX1_howManyUp_10 : decode cX1_howManyUp 10 = .ok (.aload_n 0, 1) := by decide +kernel
theorem dX1_howManyUp_11 : decode cX1_howManyUp 11 = .ok (.getfield 18, 3) := by decide +kernel
theorem dX1_howManyUp_14 : decode cX1_howManyUp 14 = .ok (.iload_n 2, 1) := by decide +kernel
theorem dX1_howManyUp_15 : decode cX1_howManyUp 15 = .ok (.baload, 1) := by decide +kernel
theorem dX1_howManyUp_16 : decode cX1_howManyUp 16 = .ok (.ifCond .eq 6, 3) := by decide +kernel
theorem dX1_howManyUp_19 : decode cX1_howManyUp 19 = .ok (.iinc 1 1, 3) := by decide +kernel
theorem dX1_howManyUp_22 : decode cX1_howManyUp 22 = .ok (.iinc 2 1, 3) := by decide +kernel
theorem dX1_howManyUp_25 : decode cX1_howManyUp 25 = .ok (.goto (-21), 3) := by decide +kernel
theorem dX1_howManyUp_28 : decode cX1_howManyUp 28 = .ok (.iload_n 1, 1) := by decide +kernel
theorem dX1_howManyUp_29 : decode cX1_howManyUp 29 = .ok (.ireturn, 1) := by decide +kernel
theorem dX1_longest_0 : decode cX1_longest 0 = .ok (.iconst 0, 1) := by decide +kernel
theorem dX1_longest_1 : decode cX1_longest 1 = .ok (.istore_n 1, 1) := by decide +kernel
theorem dX1_longest_2 : decode cX1_longest 2 = .ok (.iconst 1, 1) := by decide +kernel
theorem dX1_longest_3 : decode cX1_longest 3 = .ok (.istore_n 2, 1) := by decide +kernel
theorem dX1_longest_4 : decode cX1_longest 4 = .ok (.iload_n 2, 1) := by decide +kernel
theorem dX1_longest_5 : decode cX1_longest 5 = .ok (.bipush 25, 2) := by decide +kernel
theorem dX1_longest_7 : decode cX1_longest 7 = .ok (.if_icmp .ge 26, 3) := by decide +kernel
theorem dX1_longest_10 : decode cX1_longest 10 = .ok (.aload_n 0, 1) := by decide +kernel
theorem dX1_longest_11 : decode cX1_longest 11 = .ok (.getfield 25, 3) := by decide +kernel
theorem dX1_longest_14 : decode cX1_longest 14 = .ok (.iload_n 2, 1) := by decide +kernel
theorem dX1_longest_15 : decode cX1_longest 15 = .ok (.iaload, 1) := by decide +kernel
theorem dX1_longest_16 : decode cX1_longest 16 = .ok (.aload_n 0, 1) := by decide +kernel
theorem dX1_longest_17 : decode cX1_longest 17 = .ok (.getfield 25, 3) := by decide +kernel
theorem dX1_longest_20 : decode cX1_longest 20 = .ok (.iload_n 1, 1) := by decide +kernel
theorem dX1_longest_21 : decode cX1_longest 21 = .ok (.iaload, 1) := by decide +kernel
theorem dX1_longest_22 : decode cX1_longest 22 = .ok (.if_icmp .le 5, 3) := by decide +kernel
theorem dX1_longest_25 : decode cX1_longest 25 = .ok (.iload_n 2, 1) := by decide +kernel
theorem dX1_longest_26 : decode cX1_longest 26 = .ok (.istore_n 1, 1) := by decide +kernel
theorem dX1_longest_27 : decode cX1_longest 27 = .ok (.iinc 2 1, 3) := by decide +kernel
theorem dX1_longest_30 : decode cX1_longest 30 = .ok (.goto (-26), 3) := by decide +kernel
theorem dX1_longest_33 : decode cX1_longest 33 = .ok (.iload_n 1, 1) := by decide +kernel
theorem dX1_longest_34 : decode cX1_longest 34 = .ok (.ireturn, 1) := by decide +kernel
theorem dX2_init_0 : decode cX2_init 0 = .ok (.aload_n 0, 1) := by decide +kernel
theorem dX2_init_1 : decode cX2_init 1 = .ok (.invokespecial 3, 3) := by decide +kernel
theorem dX2_init_4 : decode cX2_init 4 = .ok (.aload_n 0, 1) := by decide +kernel
theorem dX2_init_5 : decode cX2_init 5 = .ok (.iconst 1, 1) := by decide +kernel
theorem dX2_init_6 : decode cX2_init 6 = .ok (.putfield 9, 3) := by decide +kernel
theorem dX2_init_9 : decode cX2_init 9 = .ok (.aload_n 0, 1) := by decide +kernel
theorem dX2_init_10 : decode cX2_init 10 = .ok (.iconst 1, 1) := by decide +kernel
theorem dX2_init_11 : decode cX2_init 11 = .ok (.putfield 15, 3) := by decide +kernel
theorem dX2_init_14 : decode cX2_init 14 = .ok (.return_, 1) := by decide +kernel
theorem dX2_copy_0 : decode cX2_copy 0 = .ok (.aload_n 0, 1) := by decide +kernel
theorem dX2_copy_1 : decode cX2_copy 1 = .ok (.aload_n 1, 1) := by decide +kernel
theorem dX2_copy_2 : decode cX2_copy 2 = .ok (.getfield 9, 3) := by decide +kernel
theorem dX2_copy_5 : decode cX2_copy 5 = .ok (.putfield 9, 3) := by decide +kernel
theorem dX2_copy_8 : decode cX2_copy 8 = .ok (.aload_n 0, 1) := by decide +kernel
theorem dX2_copy_9 : decode cX2_copy 9 = .ok (.aload_n 1, 1) := by decide +kernel
theorem dX2_copy_10 : decode cX2_copy 10 = .ok (.getfield 15, 3) := by decide +kernel
theorem dX2_copy_13 : decode cX2_copy 13 = .ok (.putfield 15, 3) := by decide +kernel
theorem dX2_copy_16 : decode cX2_copy 16 = .ok (.aload_n 0, 1) := by decide +kernel
theorem dX2_copy_17 : decode cX2_copy 17 = .ok (.aload_n 1, 1) := by decide +kernel
theorem dX2_copy_18 : decode cX2_copy 18 = .ok (.invokevirtual 18, 3) := by decide +kernel
theorem dX2_copy_21 : decode cX2_copy 21 = .ok (.return_, 1) := by decide +kernel
theorem dX2_copyWay_0 : decode cX2_copyWay 0 = .ok (.aload_n 0, 1) := by decide +kernel
theorem dX2_copyWay_1 : decode cX2_copyWay 1 = .ok (.aload_n 1, 1) := by decide +kernel
theorem dX2_copyWay_2 : decode cX2_copyWay 2 = .ok (.getfield 22, 3) := by decide +kernel
theorem dX2_copyWay_5 : decode cX2_copyWay 5 = .ok (.putfield 22, 3) := by decide +kernel
theorem dX2_copyWay_8 : decode cX2_copyWay 8 = .ok (.aload_n 0, 1) := by decide +kernel
theorem dX2_copyWay_9 : decode cX2_copyWay 9 = .ok (.aload_n 1, 1) := by decide +kernel
theorem dX2_copyWay_10 : decode cX2_copyWay 10 = .ok (.getfield 25, 3) := by decide +kernel
theorem dX2_copyWay_13 : decode cX2_copyWay 13 = .ok (.putfield 25, 3) := by decide +kernel
theorem dX2_copyWay_16 : decode cX2_copyWay 16 = .ok (.aload_n 0, 1) := by decide +kernel
theorem dX2_copyWay_17 : decode cX2_copyWay 17 = .ok (.aload_n 1, 1) := by decide +kernel
theorem dX2_copyWay_18 : decode cX2_copyWay 18 = .ok (.getfield 28, 3) := by decide +kernel
theorem dX2_copyWay_21 : decode cX2_copyWay 21 = .ok (.putfield 28, 3) := by decide +kernel
theorem dX2_copyWay_24 : decode cX2_copyWay 24 = .ok (.return_, 1) := by decide +kernel
theorem dX2_raise_0 : decode cX2_raise 0 = .ok (.aload_n 0, 1) := by decide +kernel
theorem dX2_raise_1 : decode cX2_raise 1 = .ok (.iconst 0, 1) := by decide +kernel
theorem dX2_raise_2 : decode cX2_raise 2 = .ok (.putfield 22, 3) := by decide +kernel
theorem dX2_raise_5 : decode cX2_raise 5 = .ok (.aload_n 0, 1) := by decide +kernel
theorem dX2_raise_6 : decode cX2_raise 6 = .ok (.iconst 4, 1) := by decide +kernel
theorem dX2_raise_7 : decode cX2_raise 7 = .ok (.putfield 25, 3) := by decide +kernel
theorem dX2_raise_10 : decode cX2_raise 10 = .ok (.aload_n 0, 1) := by decide +kernel
theorem dX2_raise_11 : decode cX2_raise 11 = .ok (.bipush 20, 2) := by decide +kernel
theorem dX2_raise_13 : decode cX2_raise 13 = .ok (.putfield 28, 3) := by decide +kernel
theorem dX2_raise_16 : decode cX2_raise 16 = .ok (.return_, 1) := by decide +kernel
theorem dX2_drop_0 : decode cX2_drop 0 = .ok (.aload_n 0, 1) := by decide +kernel
theorem dX2_drop_1 : decode cX2_drop 1 = .ok (.iconst 0, 1) := by decide +kernel
theorem dX2_drop_2 : decode cX2_drop 2 = .ok (.putfield 25, 3) := by decide +kernel
theorem dX2_drop_5 : decode cX2_drop 5 = .ok (.aload_n 0, 1) := by decide +kernel
theorem dX2_drop_6 : decode cX2_drop 6 = .ok (.iconst 0, 1) := by decide +kernel
theorem dX2_drop_7 : decode cX2_drop 7 = .ok (.putfield 28, 3) := by decide +kernel
theorem dX2_drop_10 : decode cX2_drop 10 = .ok (.return_, 1) := by decide +kernel
theorem dX2_lies_0 : decode cX2_lies 0 = .ok (.aload_n 0, 1) := by decide +kernel
theorem dX2_lies_1 : decode cX2_lies 1 = .ok (.getfield 28, 3) := by decide +kernel
theorem dX2_lies_4 : decode cX2_lies 4 = .ok (.ifCond .ne 7, 3) := by decide +kernel
theorem dX2_lies_7 : decode cX2_lies 7 = .ok (.iconst 1, 1) := by decide +kernel
theorem dX2_lies_8 : decode cX2_lies 8 = .ok (.goto 4, 3) := by decide +kernel
theorem dX2_lies_11 : decode cX2_lies 11 = .ok (.iconst 0, 1) := by decide +kernel
theorem dX2_lies_12 : decode cX2_lies 12 = .ok (.ireturn, 1) := by decide +kernel
theorem dX2_need_0 : decode cX2_need 0 = .ok (.bipush 10, 2) := by decide +kernel
theorem dX2_need_2 : decode cX2_need 2 = .ok (.aload_n 0, 1) := by decide +kernel
theorem dX2_need_3 : decode cX2_need 3 = .ok (.getfield 9, 3) := by decide +kernel
theorem dX2_need_6 : decode cX2_need 6 = .ok (.isub, 1) := by decide +kernel
theorem dX2_need_7 : decode cX2_need 7 = .ok (.iconst 2, 1) := by decide +kernel
theorem dX2_need_8 : decode cX2_need 8 = .ok (.idiv, 1) := by decide +kernel
theorem dX2_need_9 : decode cX2_need 9 = .ok (.iconst 1, 1) := by decide +kernel
theorem dX2_need_10 : decode cX2_need 10 = .ok (.iadd, 1) := by decide +kernel
theorem dX2_need_11 : decode cX2_need 11 = .ok (.ireturn, 1) := by decide +kernel
theorem dX2_speed_0 : decode cX2_speed 0 = .ok (.aload_n 0, 1) := by decide +kernel
theorem dX2_speed_1 : decode cX2_speed 1 = .ok (.getfield 25, 3) := by decide +kernel
theorem dX2_speed_4 : decode cX2_speed 4 = .ok (.invokestatic 31, 3) := by decide +kernel
theorem dX2_speed_7 : decode cX2_speed 7 = .ok (.ireturn, 1) := by decide +kernel
theorem dX2_told_0 : decode cX2_told 0 = .ok (.iload_n 1, 1) := by decide +kernel
theorem dX2_told_1 : decode cX2_told 1 = .ok (.tableswitch 69 0 5 #[39, 44, 49, 54, 59, 64], 39) := by decide +kernel
theorem dX2_told_40 : decode cX2_told 40 = .ok (.aload_n 0, 1) := by decide +kernel
theorem dX2_told_41 : decode cX2_told 41 = .ok (.getfield 9, 3) := by decide +kernel
theorem dX2_told_44 : decode cX2_told 44 = .ok (.ireturn, 1) := by decide +kernel
theorem dX2_told_45 : decode cX2_told 45 = .ok (.aload_n 0, 1) := by decide +kernel
theorem dX2_told_46 : decode cX2_told 46 = .ok (.getfield 15, 3) := by decide +kernel
theorem dX2_told_49 : decode cX2_told 49 = .ok (.ireturn, 1) := by decide +kernel
theorem dX2_told_50 : decode cX2_told 50 = .ok (.aload_n 0, 1) := by decide +kernel
theorem dX2_told_51 : decode cX2_told 51 = .ok (.getfield 25, 3) := by decide +kernel
theorem dX2_told_54 : decode cX2_told 54 = .ok (.ireturn, 1) := by decide +kernel
theorem dX2_told_55 : decode cX2_told 55 = .ok (.aload_n 0, 1) := by decide +kernel
theorem dX2_told_56 : decode cX2_told 56 = .ok (.getfield 22, 3) := by decide +kernel
theorem dX2_told_59 : decode cX2_told 59 = .ok (.ireturn, 1) := by decide +kernel
theorem dX2_told_60 : decode cX2_told 60 = .ok (.aload_n 0, 1) := by decide +kernel
theorem dX2_told_61 : decode cX2_told 61 = .ok (.getfield 28, 3) := by decide +kernel
theorem dX2_told_64 : decode cX2_told 64 = .ok (.ireturn, 1) := by decide +kernel
theorem dX2_told_65 : decode cX2_told 65 = .ok (.aload_n 0, 1) := by decide +kernel
theorem dX2_told_66 : decode cX2_told 66 = .ok (.invokevirtual 37, 3) := by decide +kernel
theorem dX2_told_69 : decode cX2_told 69 = .ok (.ireturn, 1) := by decide +kernel
theorem dX2_told_70 : decode cX2_told 70 = .ok (.ldc 41, 2) := by decide +kernel
theorem dX2_told_72 : decode cX2_told 72 = .ok (.ireturn, 1) := by decide +kernel
theorem dX2_become_0 : decode cX2_become 0 = .ok (.iload_n 1, 1) := by decide +kernel
theorem dX2_become_1 : decode cX2_become 1 = .ok (.tableswitch 62 0 2 #[27, 35, 43], 27) := by decide +kernel
theorem dX2_become_28 : decode cX2_become 28 = .ok (.aload_n 0, 1) := by decide +kernel
theorem dX2_become_29 : decode cX2_become 29 = .ok (.iload_n 2, 1) := by decide +kernel
theorem dX2_become_30 : decode cX2_become 30 = .ok (.putfield 9, 3) := by decide +kernel
theorem dX2_become_33 : decode cX2_become 33 = .ok (.goto 30, 3) := by decide +kernel
theorem dX2_become_36 : decode cX2_become 36 = .ok (.aload_n 0, 1) := by decide +kernel
theorem dX2_become_37 : decode cX2_become 37 = .ok (.iload_n 2, 1) := by decide +kernel
theorem dX2_become_38 : decode cX2_become 38 = .ok (.putfield 15, 3) := by decide +kernel
theorem dX2_become_41 : decode cX2_become 41 = .ok (.goto 22, 3) := by decide +kernel
theorem dX2_become_44 : decode cX2_become 44 = .ok (.aload_n 0, 1) := by decide +kernel
theorem dX2_become_45 : decode cX2_become 45 = .ok (.aload_n 0, 1) := by decide +kernel
theorem dX2_become_46 : decode cX2_become 46 = .ok (.invokevirtual 42, 3) := by decide +kernel
theorem dX2_become_49 : decode cX2_become 49 = .ok (.ifCond .eq 7, 3) := by decide +kernel
theorem dX2_become_52 : decode cX2_become 52 = .ok (.iconst 0, 1) := by decide +kernel
theorem dX2_become_53 : decode cX2_become 53 = .ok (.goto 4, 3) := by decide +kernel
theorem dX2_become_56 : decode cX2_become 56 = .ok (.iload_n 2, 1) := by decide +kernel
theorem dX2_become_57 : decode cX2_become 57 = .ok (.putfield 25, 3) := by decide +kernel
theorem dX2_become_60 : decode cX2_become 60 = .ok (.goto 3, 3) := by decide +kernel
theorem dX2_become_63 : decode cX2_become 63 = .ok (.return_, 1) := by decide +kernel
theorem dX2_farFrom_0 : decode cX2_farFrom 0 = .ok (.aload_n 0, 1) := by decide +kernel
theorem dX2_farFrom_1 : decode cX2_farFrom 1 = .ok (.getfield 22, 3) := by decide +kernel
theorem dX2_farFrom_4 : decode cX2_farFrom 4 = .ok (.iload_n 1, 1) := by decide +kernel
theorem dX2_farFrom_5 : decode cX2_farFrom 5 = .ok (.isub, 1) := by decide +kernel
theorem dX2_farFrom_6 : decode cX2_farFrom 6 = .ok (.bipush 24, 2) := by decide +kernel
theorem dX2_farFrom_8 : decode cX2_farFrom 8 = .ok (.invokestatic 46, 3) := by decide +kernel
theorem dX2_farFrom_11 : decode cX2_farFrom 11 = .ok (.istore_n 2, 1) := by decide +kernel
theorem dX2_farFrom_12 : decode cX2_farFrom 12 = .ok (.iload_n 2, 1) := by decide +kernel
theorem dX2_farFrom_13 : decode cX2_farFrom 13 = .ok (.bipush 24, 2) := by decide +kernel
theorem dX2_farFrom_15 : decode cX2_farFrom 15 = .ok (.iload_n 2, 1) := by decide +kernel
theorem dX2_farFrom_16 : decode cX2_farFrom 16 = .ok (.isub, 1) := by decide +kernel
theorem dX2_farFrom_17 : decode cX2_farFrom 17 = .ok (.invokestatic 50, 3) := by decide +kernel
theorem dX2_farFrom_20 : decode cX2_farFrom 20 = .ok (.ireturn, 1) := by decide +kernel
theorem dX2_quicken_0 : decode cX2_quicken 0 = .ok (.aload_n 0, 1) := by decide +kernel
theorem dX2_quicken_1 : decode cX2_quicken 1 = .ok (.invokevirtual 53, 3) := by decide +kernel
theorem dX2_quicken_4 : decode cX2_quicken 4 = .ok (.iload_n 1, 1) := by decide +kernel
theorem dX2_quicken_5 : decode cX2_quicken 5 = .ok (.iadd, 1) := by decide +kernel
theorem dX2_quicken_6 : decode cX2_quicken 6 = .ok (.iconst 0, 1) := by decide +kernel
theorem dX2_quicken_7 : decode cX2_quicken 7 = .ok (.bipush 9, 2) := by decide +kernel
theorem dX2_quicken_9 : decode cX2_quicken 9 = .ok (.invokestatic 56, 3) := by decide +kernel
theorem dX2_quicken_12 : decode cX2_quicken 12 = .ok (.istore_n 2, 1) := by decide +kernel
theorem dX2_quicken_13 : decode cX2_quicken 13 = .ok (.aload_n 0, 1) := by decide +kernel
theorem dX2_quicken_14 : decode cX2_quicken 14 = .ok (.aload_n 0, 1) := by decide +kernel
theorem dX2_quicken_15 : decode cX2_quicken 15 = .ok (.getfield 25, 3) := by decide +kernel
theorem dX2_quicken_18 : decode cX2_quicken 18 = .ok (.ifCond .ge 8, 3) := by decide +kernel
theorem dX2_quicken_21 : decode cX2_quicken 21 = .ok (.iload_n 2, 1) := by decide +kernel
theorem dX2_quicken_22 : decode cX2_quicken 22 = .ok (.ineg, 1) := by decide +kernel
theorem dX2_quicken_23 : decode cX2_quicken 23 = .ok (.goto 4, 3) := by decide +kernel
theorem dX2_quicken_26 : decode cX2_quicken 26 = .ok (.iload_n 2, 1) := by decide +kernel
theorem dX2_quicken_27 : decode cX2_quicken 27 = .ok (.putfield 25, 3) := by decide +kernel
theorem dX2_quicken_30 : decode cX2_quicken 30 = .ok (.return_, 1) := by decide +kernel
theorem dX2_move_0 : decode cX2_move 0 = .ok (.aload_n 0, 1) := by decide +kernel
theorem dX2_move_1 : decode cX2_move 1 = .ok (.aload_n 0, 1) := by decide +kernel
theorem dX2_move_2 : decode cX2_move 2 = .ok (.getfield 22, 3) := by decide +kernel
theorem dX2_move_5 : decode cX2_move 5 = .ok (.aload_n 0, 1) := by decide +kernel
theorem dX2_move_6 : decode cX2_move 6 = .ok (.getfield 25, 3) := by decide +kernel
theorem dX2_move_9 : decode cX2_move 9 = .ok (.iadd, 1) := by decide +kernel
theorem dX2_move_10 : decode cX2_move 10 = .ok (.bipush 24, 2) := by decide +kernel
theorem dX2_move_12 : decode cX2_move 12 = .ok (.invokestatic 46, 3) := by decide +kernel
theorem dX2_move_15 : decode cX2_move 15 = .ok (.putfield 22, 3) := by decide +kernel
theorem dX2_move_18 : decode cX2_move 18 = .ok (.return_, 1) := by decide +kernel
theorem dX2_sankToLie_0 : decode cX2_sankToLie 0 = .ok (.aload_n 0, 1) := by decide +kernel
theorem dX2_sankToLie_1 : decode cX2_sankToLie 1 = .ok (.invokevirtual 42, 3) := by decide +kernel
theorem dX2_sankToLie_4 : decode cX2_sankToLie 4 = .ok (.ifCond .eq 5, 3) := by decide +kernel
theorem dX2_sankToLie_7 : decode cX2_sankToLie 7 = .ok (.iconst 0, 1) := by decide +kernel
theorem dX2_sankToLie_8 : decode cX2_sankToLie 8 = .ok (.ireturn, 1) := by decide +kernel
theorem dX2_sankToLie_9 : decode cX2_sankToLie 9 = .ok (.aload_n 0, 1) := by decide +kernel
theorem dX2_sankToLie_10 : decode cX2_sankToLie 10 = .ok (.aload_n 0, 1) := by decide +kernel
theorem dX2_sankToLie_11 : decode cX2_sankToLie 11 = .ok (.invokevirtual 53, 3) := by decide +kernel
theorem dX2_sankToLie_14 : decode cX2_sankToLie 14 = .ok (.aload_n 0, 1) := by decide +kernel
theorem dX2_sankToLie_15 : decode cX2_sankToLie 15 = .ok (.invokevirtual 37, 3) := by decide +kernel
theorem dX2_sankToLie_18 : decode cX2_sankToLie 18 = .ok (.if_icmp .lt 17, 3) := by decide +kernel
theorem dX2_sankToLie_21 : decode cX2_sankToLie 21 = .ok (.bipush 20, 2) := by decide +kernel
theorem dX2_sankToLie_23 : decode cX2_sankToLie 23 = .ok (.aload_n 0, 1) := by decide +kernel
theorem dX2_sankToLie_24 : decode cX2_sankToLie 24 = .ok (.getfield 28, 3) := by decide +kernel
theorem dX2_sankToLie_27 : decode cX2_sankToLie 27 = .ok (.iconst 1, 1) := by decide +kernel
theorem dX2_sankToLie_28 : decode cX2_sankToLie 28 = .ok (.iadd, 1) := by decide +kernel
theorem dX2_sankToLie_29 : decode cX2_sankToLie 29 = .ok (.invokestatic 50, 3) := by decide +kernel
theorem dX2_sankToLie_32 : decode cX2_sankToLie 32 = .ok (.goto 13, 3) := by decide +kernel
theorem dX2_sankToLie_35 : decode cX2_sankToLie 35 = .ok (.iconst 0, 1) := by decide +kernel
theorem dX2_sankToLie_36 : decode cX2_sankToLie 36 = .ok (.aload_n 0, 1) := by decide +kernel
theorem dX2_sankToLie_37 : decode cX2_sankToLie 37 = .ok (.getfield 28, 3) := by decide +kernel
theorem dX2_sankToLie_40 : decode cX2_sankToLie 40 = .ok (.iconst 2, 1) := by decide +kernel
theorem dX2_sankToLie_41 : decode cX2_sankToLie 41 = .ok (.isub, 1) := by decide +kernel
theorem dX2_sankToLie_42 : decode cX2_sankToLie 42 = .ok (.invokestatic 60, 3) := by decide +kernel
theorem dX2_sankToLie_45 : decode cX2_sankToLie 45 = .ok (.putfield 28, 3) := by decide +kernel
theorem dX2_sankToLie_48 : decode cX2_sankToLie 48 = .ok (.aload_n 0, 1) := by decide +kernel
theorem dX2_sankToLie_49 : decode cX2_sankToLie 49 = .ok (.invokevirtual 42, 3) := by decide +kernel
theorem dX2_sankToLie_52 : decode cX2_sankToLie 52 = .ok (.ifCond .eq 8, 3) := by decide +kernel
theorem dX2_sankToLie_55 : decode cX2_sankToLie 55 = .ok (.aload_n 0, 1) := by decide +kernel
theorem dX2_sankToLie_56 : decode cX2_sankToLie 56 = .ok (.iconst 0, 1) := by decide +kernel
theorem dX2_sankToLie_57 : decode cX2_sankToLie 57 = .ok (.putfield 25, 3) := by decide +kernel
theorem dX2_sankToLie_60 : decode cX2_sankToLie 60 = .ok (.aload_n 0, 1) := by decide +kernel
theorem dX2_sankToLie_61 : decode cX2_sankToLie 61 = .ok (.invokevirtual 42, 3) := by decide +kernel
theorem dX2_sankToLie_64 : decode cX2_sankToLie 64 = .ok (.ireturn, 1) := by decide +kernel
theorem dX3_init_0 : decode cX3_init 0 = .ok (.aload_n 0, 1) := by decide +kernel
theorem dX3_init_1 : decode cX3_init 1 = .ok (.invokespecial 3, 3) := by decide +kernel
theorem dX3_init_4 : decode cX3_init 4 = .ok (.aload_n 0, 1) := by decide +kernel
theorem dX3_init_5 : decode cX3_init 5 = .ok (.sipush 128, 3) := by decide +kernel
theorem dX3_init_8 : decode cX3_init 8 = .ok (.newarray .int, 2) := by decide +kernel
theorem dX3_init_10 : decode cX3_init 10 = .ok (.putfield 11, 3) := by decide +kernel
theorem dX3_init_13 : decode cX3_init 13 = .ok (.aload_n 0, 1) := by decide +kernel
theorem dX3_init_14 : decode cX3_init 14 = .ok (.sipush 128, 3) := by decide +kernel
theorem dX3_init_17 : decode cX3_init 17 = .ok (.newarray .int, 2) := by decide +kernel
theorem dX3_init_19 : decode cX3_init 19 = .ok (.putfield 15, 3) := by decide +kernel
theorem dX3_init_22 : decode cX3_init 22 = .ok (.aload_n 0, 1) := by decide +kernel
theorem dX3_init_23 : decode cX3_init 23 = .ok (.sipush 128, 3) := by decide +kernel
theorem dX3_init_26 : decode cX3_init 26 = .ok (.newarray .int, 2) := by decide +kernel
theorem dX3_init_28 : decode cX3_init 28 = .ok (.putfield 18, 3) := by decide +kernel
theorem dX3_init_31 : decode cX3_init 31 = .ok (.aload_n 0, 1) := by decide +kernel
theorem dX3_init_32 : decode cX3_init 32 = .ok (.bipush 6, 2) := by decide +kernel
theorem dX3_init_34 : decode cX3_init 34 = .ok (.newarray .int, 2) := by decide +kernel
theorem dX3_init_36 : decode cX3_init 36 = .ok (.putfield 21, 3) := by decide +kernel
theorem dX3_init_39 : decode cX3_init 39 = .ok (.return_, 1) := by decide +kernel
theorem dX3_copy_0 : decode cX3_copy 0 = .ok (.aload_n 0, 1) := by decide +kernel
theorem dX3_copy_1 : decode cX3_copy 1 = .ok (.aload_n 1, 1) := by decide +kernel
theorem dX3_copy_2 : decode cX3_copy 2 = .ok (.getfield 24, 3) := by decide +kernel
theorem dX3_copy_5 : decode cX3_copy 5 = .ok (.putfield 24, 3) := by decide +kernel
theorem dX3_copy_8 : decode cX3_copy 8 = .ok (.aload_n 1, 1) := by decide +kernel
theorem dX3_copy_9 : decode cX3_copy 9 = .ok (.getfield 11, 3) := by decide +kernel
theorem dX3_copy_12 : decode cX3_copy 12 = .ok (.iconst 0, 1) := by decide +kernel
theorem dX3_copy_13 : decode cX3_copy 13 = .ok (.aload_n 0, 1) := by decide +kernel
theorem dX3_copy_14 : decode cX3_copy 14 = .ok (.getfield 11, 3) := by decide +kernel
theorem dX3_copy_17 : decode cX3_copy 17 = .ok (.iconst 0, 1) := by decide +kernel
theorem dX3_copy_18 : decode cX3_copy 18 = .ok (.sipush 128, 3) := by decide +kernel
theorem dX3_copy_21 : decode cX3_copy 21 = .ok (.invokestatic 28, 3) := by decide +kernel
theorem dX3_copy_24 : decode cX3_copy 24 = .ok (.aload_n 1, 1) := by decide +kernel
theorem dX3_copy_25 : decode cX3_copy 25 = .ok (.getfield 15, 3) := by decide +kernel
theorem dX3_copy_28 : decode cX3_copy 28 = .ok (.iconst 0, 1) := by decide +kernel
theorem dX3_copy_29 : decode cX3_copy 29 = .ok (.aload_n 0, 1) := by decide +kernel
theorem dX3_copy_30 : decode cX3_copy 30 = .ok (.getfield 15, 3) := by decide +kernel
theorem dX3_copy_33 : decode cX3_copy 33 = .ok (.iconst 0, 1) := by decide +kernel
theorem dX3_copy_34 : decode cX3_copy 34 = .ok (.sipush 128, 3) := by decide +kernel
theorem dX3_copy_37 : decode cX3_copy 37 = .ok (.invokestatic 28, 3) := by decide +kernel
theorem dX3_copy_40 : decode cX3_copy 40 = .ok (.return_, 1) := by decide +kernel
theorem dX3_add_0 : decode cX3_add 0 = .ok (.aload_n 0, 1) := by decide +kernel
theorem dX3_add_1 : decode cX3_add 1 = .ok (.getfield 24, 3) := by decide +kernel
theorem dX3_add_4 : decode cX3_add 4 = .ok (.sipush 128, 3) := by decide +kernel
theorem dX3_add_7 : decode cX3_add 7 = .ok (.if_icmp .lt 6, 3) := by decide +kernel
theorem dX3_add_10 : decode cX3_add 10 = .ok (.bipush 127, 2) := by decide +kernel
theorem dX3_add_12 : decode cX3_add 12 = .ok (.ireturn, 1) := by decide +kernel
theorem dX3_add_13 : decode cX3_add 13 = .ok (.aload_n 0, 1) := by decide +kernel
theorem dX3_add_14 : decode cX3_add 14 = .ok (.getfield 11, 3) := by decide +kernel
theorem dX3_add_17 : decode cX3_add 17 = .ok (.aload_n 0, 1) := by decide +kernel
theorem dX3_add_18 : decode cX3_add 18 = .ok (.getfield 24, 3) := by decide +kernel
theorem dX3_add_21 : decode cX3_add 21 = .ok (.iload_n 1, 1) := by decide +kernel
theorem dX3_add_22 : decode cX3_add 22 = .ok (.iastore, 1) := by decide +kernel
theorem dX3_add_23 : decode cX3_add 23 = .ok (.aload_n 0, 1) := by decide +kernel
theorem dX3_add_24 : decode cX3_add 24 = .ok (.getfield 15, 3) := by decide +kernel
theorem dX3_add_27 : decode cX3_add 27 = .ok (.aload_n 0, 1) := by decide +kernel
theorem dX3_add_28 : decode cX3_add 28 = .ok (.getfield 24, 3) := by decide +kernel
theorem dX3_add_31 : decode cX3_add 31 = .ok (.iload_n 2, 1) := by decide +kernel
theorem dX3_add_32 : decode cX3_add 32 = .ok (.iastore, 1) := by decide +kernel
theorem dX3_add_33 : decode cX3_add 33 = .ok (.aload_n 0, 1) := by decide +kernel
theorem dX3_add_34 : decode cX3_add 34 = .ok (.dup, 1) := by decide +kernel
theorem dX3_add_35 : decode cX3_add 35 = .ok (.getfield 24, 3) := by decide +kernel
theorem dX3_add_38 : decode cX3_add 38 = .ok (.iconst 1, 1) := by decide +kernel
theorem dX3_add_39 : decode cX3_add 39 = .ok (.iadd, 1) := by decide +kernel
theorem dX3_add_40 : decode cX3_add 40 = .ok (.putfield 24, 3) := by decide +kernel
theorem dX3_add_43 : decode cX3_add 43 = .ok (.aload_n 0, 1) := by decide +kernel
theorem dX3_add_44 : decode cX3_add 44 = .ok (.getfield 24, 3) := by decide +kernel
theorem dX3_add_47 : decode cX3_add 47 = .ok (.iconst 1, 1) := by decide +kernel
theorem dX3_add_48 : decode cX3_add 48 = .ok (.isub, 1) := by decide +kernel
theorem dX3_add_49 : decode cX3_add 49 = .ok (.ireturn, 1) := by decide +kernel
theorem dX3_more_0 : decode cX3_more 0 = .ok (.aload_n 1, 1) := by decide +kernel
theorem dX3_more_1 : decode cX3_more 1 = .ok (.iload_n 2, 1) := by decide +kernel
theorem dX3_more_2 : decode cX3_more 2 = .ok (.invokevirtual 34, 3) := by decide +kernel
theorem dX3_more_5 : decode cX3_more 5 = .ok (.istore 4, 2) := by decide +kernel
theorem dX3_more_7 : decode cX3_more 7 = .ok (.aload_n 0, 1) := by decide +kernel
theorem dX3_more_8 : decode cX3_more 8 = .ok (.getfield 24, 3) := by decide +kernel
theorem dX3_more_11 : decode cX3_more 11 = .ok (.ifCond .ne 10, 3) := by decide +kernel
theorem dX3_more_14 : decode cX3_more 14 = .ok (.iload 4, 2) := by decide +kernel
theorem dX3_more_16 : decode cX3_more 16 = .ok (.iload_n 3, 1) := by decide +kernel
theorem dX3_more_17 : decode cX3_more 17 = .ok (.invokestatic 40, 3) := by decide +kernel
theorem dX3_more_20 : decode cX3_more 20 = .ok (.ireturn, 1) := by decide +kernel
theorem dX3_more_21 : decode cX3_more 21 = .ok (.aload_n 0, 1) := by decide +kernel
theorem dX3_more_22 : decode cX3_more 22 = .ok (.getfield 21, 3) := by decide +kernel
theorem dX3_more_25 : decode cX3_more 25 = .ok (.iconst 0, 1) := by decide +kernel
theorem dX3_more_26 : decode cX3_more 26 = .ok (.iload 4, 2) := by decide +kernel
theorem dX3_more_28 : decode cX3_more 28 = .ok (.iastore, 1) := by decide +kernel
theorem dX3_more_29 : decode cX3_more 29 = .ok (.aload_n 0, 1) := by decide +kernel
theorem dX3_more_30 : decode cX3_more 30 = .ok (.getfield 21, 3) := by decide +kernel
theorem dX3_more_33 : decode cX3_more 33 = .ok (.iconst 1, 1) := by decide +kernel
theorem dX3_more_34 : decode cX3_more 34 = .ok (.aload_n 1, 1) := by decide +kernel
theorem dX3_more_35 : decode cX3_more 35 = .ok (.invokevirtual 44, 3) := by decide +kernel
theorem dX3_more_38 : decode cX3_more 38 = .ok (.iastore, 1) := by decide +kernel
theorem dX3_more_39 : decode cX3_more 39 = .ok (.aload_n 0, 1) := by decide +kernel
theorem dX3_more_40 : decode cX3_more 40 = .ok (.getfield 21, 3) := by decide +kernel
theorem dX3_more_43 : decode cX3_more 43 = .ok (.iconst 2, 1) := by decide +kernel
theorem dX3_more_44 : decode cX3_more 44 = .ok (.aload_n 1, 1) := by decide +kernel
theorem dX3_more_45 : decode cX3_more 45 = .ok (.getfield 48, 3) := by decide +kernel
theorem dX3_more_48 : decode cX3_more 48 = .ok (.iastore, 1) := by decide +kernel
theorem dX3_more_49 : decode cX3_more 49 = .ok (.aload_n 0, 1) := by decide +kernel
theorem dX3_more_50 : decode cX3_more 50 = .ok (.getfield 21, 3) := by decide +kernel
theorem dX3_more_53 : decode cX3_more 53 = .ok (.iconst 3, 1) := by decide +kernel
theorem dX3_more_54 : decode cX3_more 54 = .ok (.aload_n 1, 1) := by decide +kernel
theorem dX3_more_55 : decode cX3_more 55 = .ok (.getfield 51, 3) := by decide +kernel
theorem dX3_more_58 : decode cX3_more 58 = .ok (.iastore, 1) := by decide +kernel
theorem dX3_more_59 : decode cX3_more 59 = .ok (.aload_n 0, 1) := by decide +kernel
theorem dX3_more_60 : decode cX3_more 60 = .ok (.getfield 21, 3) := by decide +kernel
theorem dX3_more_63 : decode cX3_more 63 = .ok (.iconst 4, 1) := by decide +kernel
theorem dX3_more_64 : decode cX3_more 64 = .ok (.iload_n 3, 1) := by decide +kernel
theorem dX3_more_65 : decode cX3_more 65 = .ok (.iastore, 1) := by decide +kernel
theorem dX3_more_66 : decode cX3_more 66 = .ok (.aload_n 0, 1) := by decide +kernel
theorem dX3_more_67 : decode cX3_more 67 = .ok (.getfield 21, 3) := by decide +kernel
theorem dX3_more_70 : decode cX3_more 70 = .ok (.iconst 5, 1) := by decide +kernel
theorem dX3_more_71 : decode cX3_more 71 = .ok (.aload_n 1, 1) := by decide +kernel
theorem dX3_more_72 : decode cX3_more 72 = .ok (.getfield 54, 3) := by decide +kernel
theorem dX3_more_75 : decode cX3_more 75 = .ok (.iastore, 1) := by decide +kernel
theorem dX3_more_76 : decode cX3_more 76 = .ok (.aload_n 0, 1) := by decide +kernel
theorem dX3_more_77 : decode cX3_more 77 = .ok (.invokevirtual 57, 3) := by decide +kernel
theorem dX3_more_80 : decode cX3_more 80 = .ok (.bipush (-9), 2) := by decide +kernel
theorem dX3_more_82 : decode cX3_more 82 = .ok (.bipush 9, 2) := by decide +kernel
theorem dX3_more_84 : decode cX3_more 84 = .ok (.invokestatic 60, 3) := by decide +kernel
theorem dX3_more_87 : decode cX3_more 87 = .ok (.ireturn, 1) := by decide +kernel
theorem dX3_withoutText_0 : decode cX3_withoutText 0 = .ok (.iload_n 0, 1) := by decide +kernel
theorem dX3_withoutText_1 : decode cX3_withoutText 1 = .ok (.iconst 2, 1) := by decide +kernel
theorem dX3_withoutText_2 : decode cX3_withoutText 2 = .ok (.if_icmp .gt 5, 3) := by decide +kernel
theorem dX3_withoutText_5 : decode cX3_withoutText 5 = .ok (.iload_n 1, 1) := by decide +kernel
theorem dX3_withoutText_6 : decode cX3_withoutText 6 = .ok (.ireturn, 1) := by decide +kernel
theorem dX3_withoutText_7 : decode cX3_withoutText 7 = .ok (.iload_n 0, 1) := by decide +kernel
theorem dX3_withoutText_8 : decode cX3_withoutText 8 = .ok (.bipush 10, 2) := by decide +kernel
theorem dX3_withoutText_10 : decode cX3_withoutText 10 = .ok (.if_icmp .lt 7, 3) := by decide +kernel
theorem dX3_withoutText_13 : decode cX3_withoutText 13 = .ok (.iconst (-1), 1) := by decide +kernel
theorem dX3_withoutText_14 : decode cX3_withoutText 14 = .ok (.goto 4, 3) := by decide +kernel
theorem dX3_withoutText_17 : decode cX3_withoutText 17 = .ok (.iconst 0, 1) := by decide +kernel
theorem dX3_withoutText_18 : decode cX3_withoutText 18 = .ok (.ireturn, 1) := by decide +kernel
theorem dX3_worth_0 : decode cX3_worth 0 = .ok (.aload_n 0, 1) := by decide +kernel
theorem dX3_worth_1 : decode cX3_worth 1 = .ok (.iconst 0, 1) := by decide +kernel
theorem dX3_worth_2 : decode cX3_worth 2 = .ok (.putfield 64, 3) := by decide +kernel
theorem dX3_worth_5 : decode cX3_worth 5 = .ok (.iconst 0, 1) := by decide +kernel
theorem dX3_worth_6 : decode cX3_worth 6 = .ok (.istore_n 1, 1) := by decide +kernel
theorem dX3_worth_7 : decode cX3_worth 7 = .ok (.iload_n 1, 1) := by decide +kernel
theorem dX3_worth_8 : decode cX3_worth 8 = .ok (.aload_n 0, 1) := by decide +kernel
theorem dX3_worth_9 : decode cX3_worth 9 = .ok (.getfield 24, 3) := by decide +kernel
theorem dX3_worth_12 : decode cX3_worth 12 = .ok (.if_icmp .ge 163, 3) := by decide +kernel
theorem dX3_worth_15 : decode cX3_worth 15 = .ok (.aload_n 0, 1) := by decide +kernel
theorem dX3_worth_16 : decode cX3_worth 16 = .ok (.getfield 15, 3) := by decide +kernel
theorem dX3_worth_19 : decode cX3_worth 19 = .ok (.iload_n 1, 1) := by decide +kernel
theorem dX3_worth_20 : decode cX3_worth 20 = .ok (.iaload, 1) := by decide +kernel
theorem dX3_worth_21 : decode cX3_worth 21 = .ok (.istore_n 2, 1) := by decide +kernel
theorem dX3_worth_22 : decode cX3_worth 22 = .ok (.aload_n 0, 1) := by decide +kernel
theorem dX3_worth_23 : decode cX3_worth 23 = .ok (.getfield 11, 3) := by decide +kernel
theorem dX3_worth_26 : decode cX3_worth 26 = .ok (.iload_n 1, 1) := by decide +kernel
theorem dX3_worth_27 : decode cX3_worth 27 = .ok (.iaload, 1) := by decide +kernel
theorem dX3_worth_28 : decode cX3_worth 28 = .ok (.tableswitch 118 0 5 #[40, 48, 102, 97, 66, 85], 40) := by decide +kernel
theorem dX3_worth_68 : decode cX3_worth 68 = .ok (.aload_n 0, 1) := by decide +kernel
theorem dX3_worth_69 : decode cX3_worth 69 = .ok (.iload_n 2, 1) := by decide +kernel
theorem dX3_worth_70 : decode cX3_worth 70 = .ok (.invokevirtual 67, 3) := by decide +kernel
theorem dX3_worth_73 : decode cX3_worth 73 = .ok (.goto 96, 3) := by decide +kernel
theorem dX3_worth_76 : decode cX3_worth 76 = .ok (.aload_n 0, 1) := by decide +kernel
theorem dX3_worth_77 : decode cX3_worth 77 = .ok (.aload_n 0, 1) := by decide +kernel
theorem dX3_worth_78 : decode cX3_worth 78 = .ok (.getfield 21, 3) := by decide +kernel
theorem dX3_worth_81 : decode cX3_worth 81 = .ok (.iload_n 2, 1) := by decide +kernel
theorem dX3_worth_82 : decode cX3_worth 82 = .ok (.iconst 0, 1) := by decide +kernel
theorem dX3_worth_83 : decode cX3_worth 83 = .ok (.iconst 5, 1) := by decide +kernel
theorem dX3_worth_84 : decode cX3_worth 84 = .ok (.invokestatic 60, 3) := by decide +kernel
theorem dX3_worth_87 : decode cX3_worth 87 = .ok (.iaload, 1) := by decide +kernel
theorem dX3_worth_88 : decode cX3_worth 88 = .ok (.invokevirtual 67, 3) := by decide +kernel
theorem dX3_worth_91 : decode cX3_worth 91 = .ok (.goto 78, 3) := by decide +kernel
theorem dX3_worth_94 : decode cX3_worth 94 = .ok (.aload_n 0, 1) := by decide +kernel
theorem dX3_worth_95 : decode cX3_worth 95 = .ok (.aload_n 0, 1) := by decide +kernel
theorem dX3_worth_96 : decode cX3_worth 96 = .ok (.invokevirtual 71, 3) := by decide +kernel
theorem dX3_worth_99 : decode cX3_worth 99 = .ok (.ifCond .ne 7, 3) := by decide +kernel
theorem dX3_worth_102 : decode cX3_worth 102 = .ok (.iconst 1, 1) := by decide +kernel
theorem dX3_worth_103 : decode cX3_worth 103 = .ok (.goto 4, 3) := by decide +kernel
theorem dX3_worth_106 : decode cX3_worth 106 = .ok (.iconst 0, 1) := by decide +kernel
theorem dX3_worth_107 : decode cX3_worth 107 = .ok (.invokevirtual 67, 3) := by decide +kernel
theorem dX3_worth_110 : decode cX3_worth 110 = .ok (.goto 59, 3) := by decide +kernel
theorem dX3_worth_113 : decode cX3_worth 113 = .ok (.aload_n 0, 1) := by decide +kernel
theorem dX3_worth_114 : decode cX3_worth 114 = .ok (.aload_n 0, 1) := by decide +kernel
theorem dX3_worth_115 : decode cX3_worth 115 = .ok (.invokevirtual 71, 3) := by decide +kernel
theorem dX3_worth_118 : decode cX3_worth 118 = .ok (.ineg, 1) := by decide +kernel
theorem dX3_worth_119 : decode cX3_worth 119 = .ok (.invokevirtual 67, 3) := by decide +kernel
theorem dX3_worth_122 : decode cX3_worth 122 = .ok (.goto 47, 3) := by decide +kernel
theorem dX3_worth_125 : decode cX3_worth 125 = .ok (.aload_n 0, 1) := by decide +kernel
theorem dX3_worth_126 : decode cX3_worth 126 = .ok (.invokevirtual 71, 3) := by decide +kernel
theorem dX3_worth_129 : decode cX3_worth 129 = .ok (.ireturn, 1) := by decide +kernel
theorem dX3_worth_130 : decode cX3_worth 130 = .ok (.aload_n 0, 1) := by decide +kernel
theorem dX3_worth_131 : decode cX3_worth 131 = .ok (.invokevirtual 71, 3) := by decide +kernel
theorem dX3_worth_134 : decode cX3_worth 134 = .ok (.ifCond .ne 35, 3) := by decide +kernel
theorem dX3_worth_137 : decode cX3_worth 137 = .ok (.iload_n 1, 1) := by decide +kernel
theorem dX3_worth_138 : decode cX3_worth 138 = .ok (.iload_n 2, 1) := by decide +kernel
theorem dX3_worth_139 : decode cX3_worth 139 = .ok (.invokestatic 74, 3) := by decide +kernel
theorem dX3_worth_142 : decode cX3_worth 142 = .ok (.istore_n 1, 1) := by decide +kernel
theorem dX3_worth_143 : decode cX3_worth 143 = .ok (.goto 26, 3) := by decide +kernel
theorem dX3_worth_146 : decode cX3_worth 146 = .ok (.aload_n 0, 1) := by decide +kernel
theorem dX3_worth_147 : decode cX3_worth 147 = .ok (.invokevirtual 71, 3) := by decide +kernel
theorem dX3_worth_150 : decode cX3_worth 150 = .ok (.istore_n 3, 1) := by decide +kernel
theorem dX3_worth_151 : decode cX3_worth 151 = .ok (.aload_n 0, 1) := by decide +kernel
theorem dX3_worth_152 : decode cX3_worth 152 = .ok (.aload_n 0, 1) := by decide +kernel
theorem dX3_worth_153 : decode cX3_worth 153 = .ok (.getfield 11, 3) := by decide +kernel
theorem dX3_worth_156 : decode cX3_worth 156 = .ok (.iload_n 1, 1) := by decide +kernel
theorem dX3_worth_157 : decode cX3_worth 157 = .ok (.iaload, 1) := by decide +kernel
theorem dX3_worth_158 : decode cX3_worth 158 = .ok (.aload_n 0, 1) := by decide +kernel
theorem dX3_worth_159 : decode cX3_worth 159 = .ok (.invokevirtual 71, 3) := by decide +kernel
theorem dX3_worth_162 : decode cX3_worth 162 = .ok (.iload_n 3, 1) := by decide +kernel
theorem dX3_worth_163 : decode cX3_worth 163 = .ok (.invokestatic 79, 3) := by decide +kernel
theorem dX3_worth_166 : decode cX3_worth 166 = .ok (.invokevirtual 67, 3) := by decide +kernel
theorem dX3_worth_169 : decode cX3_worth 169 = .ok (.iinc 1 1, 3) := by decide +kernel
theorem dX3_worth_172 : decode cX3_worth 172 = .ok (.goto (-165), 3) := by decide +kernel
theorem dX3_worth_175 : decode cX3_worth 175 = .ok (.iconst 0, 1) := by decide +kernel
theorem dX3_worth_176 : decode cX3_worth 176 = .ok (.ireturn, 1) := by decide +kernel
theorem dX3_pile_0 : decode cX3_pile 0 = .ok (.aload_n 0, 1) := by decide +kernel
theorem dX3_pile_1 : decode cX3_pile 1 = .ok (.getfield 64, 3) := by decide +kernel
theorem dX3_pile_4 : decode cX3_pile 4 = .ok (.ifCond .lt 33, 3) := by decide +kernel
theorem dX3_pile_7 : decode cX3_pile 7 = .ok (.aload_n 0, 1) := by decide +kernel
theorem dX3_pile_8 : decode cX3_pile 8 = .ok (.getfield 64, 3) := by decide +kernel
theorem dX3_pile_11 : decode cX3_pile 11 = .ok (.sipush 128, 3) := by decide +kernel
theorem dX3_pile_14 : decode cX3_pile 14 = .ok (.if_icmp .ge 23, 3) := by decide +kernel
theorem dX3_pile_17 : decode cX3_pile 17 = .ok (.aload_n 0, 1) := by decide +kernel
theorem dX3_pile_18 : decode cX3_pile 18 = .ok (.getfield 18, 3) := by decide +kernel
theorem dX3_pile_21 : decode cX3_pile 21 = .ok (.aload_n 0, 1) := by decide +kernel
theorem dX3_pile_22 : decode cX3_pile 22 = .ok (.getfield 64, 3) := by decide +kernel
theorem dX3_pile_25 : decode cX3_pile 25 = .ok (.iload_n 1, 1) := by decide +kernel
theorem dX3_pile_26 : decode cX3_pile 26 = .ok (.iastore, 1) := by decide +kernel
theorem dX3_pile_27 : decode cX3_pile 27 = .ok (.aload_n 0, 1) := by decide +kernel
theorem dX3_pile_28 : decode cX3_pile 28 = .ok (.dup, 1) := by decide +kernel
theorem dX3_pile_29 : decode cX3_pile 29 = .ok (.getfield 64, 3) := by decide +kernel
theorem dX3_pile_32 : decode cX3_pile 32 = .ok (.iconst 1, 1) := by decide +kernel
theorem dX3_pile_33 : decode cX3_pile 33 = .ok (.iadd, 1) := by decide +kernel
theorem dX3_pile_34 : decode cX3_pile 34 = .ok (.putfield 64, 3) := by decide +kernel
theorem dX3_pile_37 : decode cX3_pile 37 = .ok (.return_, 1) := by decide +kernel
theorem dX3_unpile_0 : decode cX3_unpile 0 = .ok (.aload_n 0, 1) := by decide +kernel
theorem dX3_unpile_1 : decode cX3_unpile 1 = .ok (.getfield 64, 3) := by decide +kernel
theorem dX3_unpile_4 : decode cX3_unpile 4 = .ok (.ifCond .le 13, 3) := by decide +kernel
theorem dX3_unpile_7 : decode cX3_unpile 7 = .ok (.aload_n 0, 1) := by decide +kernel
theorem dX3_unpile_8 : decode cX3_unpile 8 = .ok (.getfield 64, 3) := by decide +kernel
theorem dX3_unpile_11 : decode cX3_unpile 11 = .ok (.sipush 128, 3) := by decide +kernel
theorem dX3_unpile_14 : decode cX3_unpile 14 = .ok (.if_icmp .le 5, 3) := by decide +kernel
theorem dX3_unpile_17 : decode cX3_unpile 17 = .ok (.iconst 0, 1) := by decide +kernel
theorem dX3_unpile_18 : decode cX3_unpile 18 = .ok (.ireturn, 1) := by decide +kernel
theorem dX3_unpile_19 : decode cX3_unpile 19 = .ok (.aload_n 0, 1) := by decide +kernel
theorem dX3_unpile_20 : decode cX3_unpile 20 = .ok (.dup, 1) := by decide +kernel
theorem dX3_unpile_21 : decode cX3_unpile 21 = .ok (.getfield 64, 3) := by decide +kernel
theorem dX3_unpile_24 : decode cX3_unpile 24 = .ok (.iconst 1, 1) := by decide +kernel
theorem dX3_unpile_25 : decode cX3_unpile 25 = .ok (.isub, 1) := by decide +kernel
theorem dX3_unpile_26 : decode cX3_unpile 26 = .ok (.putfield 64, 3) := by decide +kernel
theorem dX3_unpile_29 : decode cX3_unpile 29 = .ok (.aload_n 0, 1) := by decide +kernel
theorem dX3_unpile_30 : decode cX3_unpile 30 = .ok (.getfield 18, 3) := by decide +kernel
theorem dX3_unpile_33 : decode cX3_unpile 33 = .ok (.aload_n 0, 1) := by decide +kernel
theorem dX3_unpile_34 : decode cX3_unpile 34 = .ok (.getfield 64, 3) := by decide +kernel
theorem dX3_unpile_37 : decode cX3_unpile 37 = .ok (.iaload, 1) := by decide +kernel
theorem dX3_unpile_38 : decode cX3_unpile 38 = .ok (.ireturn, 1) := by decide +kernel
theorem dX3_joined_0 : decode cX3_joined 0 = .ok (.iload_n 0, 1) := by decide +kernel
theorem dX3_joined_1 : decode cX3_joined 1 = .ok (.lookupswitch 188 #[(37, 176), (38, 105), (42, 160), (43, 152), (45, 156), (47, 164), (60, 119), (61, 130), (62, 141), (124, 91)], 91) := by decide +kernel
theorem dX3_joined_92 : decode cX3_joined 92 = .ok (.iload_n 1, 1) := by decide +kernel
theorem dX3_joined_93 : decode cX3_joined 93 = .ok (.ifCond .ne 7, 3) := by decide +kernel
theorem dX3_joined_96 : decode cX3_joined 96 = .ok (.iload_n 2, 1) := by decide +kernel
theorem dX3_joined_97 : decode cX3_joined 97 = .ok (.ifCond .eq 7, 3) := by decide +kernel
theorem dX3_joined_100 : decode cX3_joined 100 = .ok (.iconst 1, 1) := by decide +kernel
theorem dX3_joined_101 : decode cX3_joined 101 = .ok (.goto 4, 3) := by decide +kernel
theorem dX3_joined_104 : decode cX3_joined 104 = .ok (.iconst 0, 1) := by decide +kernel
theorem dX3_joined_105 : decode cX3_joined 105 = .ok (.ireturn, 1) := by decide +kernel
theorem dX3_joined_106 : decode cX3_joined 106 = .ok (.iload_n 1, 1) := by decide +kernel
theorem dX3_joined_107 : decode cX3_joined 107 = .ok (.ifCond .eq 11, 3) := by decide +kernel
theorem dX3_joined_110 : decode cX3_joined 110 = .ok (.iload_n 2, 1) := by decide +kernel
theorem dX3_joined_111 : decode cX3_joined 111 = .ok (.ifCond .eq 7, 3) := by decide +kernel
theorem dX3_joined_114 : decode cX3_joined 114 = .ok (.iconst 1, 1) := by decide +kernel
theorem dX3_joined_115 : decode cX3_joined 115 = .ok (.goto 4, 3) := by decide +kernel
theorem dX3_joined_118 : decode cX3_joined 118 = .ok (.iconst 0, 1) := by decide +kernel
theorem dX3_joined_119 : decode cX3_joined 119 = .ok (.ireturn, 1) := by decide +kernel
theorem dX3_joined_120 : decode cX3_joined 120 = .ok (.iload_n 1, 1) := by decide +kernel
theorem dX3_joined_121 : decode cX3_joined 121 = .ok (.iload_n 2, 1) := by decide +kernel
theorem dX3_joined_122 : decode cX3_joined 122 = .ok (.if_icmp .ge 7, 3) := by decide +kernel
theorem dX3_joined_125 : decode cX3_joined 125 = .ok (.iconst 1, 1) := by decide +kernel
theorem dX3_joined_126 : decode cX3_joined 126 = .ok (.goto 4, 3) := by decide +kernel
theorem dX3_joined_129 : decode cX3_joined 129 = .ok (.iconst 0, 1) := by decide +kernel
theorem dX3_joined_130 : decode cX3_joined 130 = .ok (.ireturn, 1) := by decide +kernel
theorem dX3_joined_131 : decode cX3_joined 131 = .ok (.iload_n 1, 1) := by decide +kernel
theorem dX3_joined_132 : decode cX3_joined 132 = .ok (.iload_n 2, 1) := by decide +kernel
theorem dX3_joined_133 : decode cX3_joined 133 = .ok (.if_icmp .ne 7, 3) := by decide +kernel
theorem dX3_joined_136 : decode cX3_joined 136 = .ok (.iconst 1, 1) := by decide +kernel
theorem dX3_joined_137 : decode cX3_joined 137 = .ok (.goto 4, 3) := by decide +kernel
theorem dX3_joined_140 : decode cX3_joined 140 = .ok (.iconst 0, 1) := by decide +kernel
theorem dX3_joined_141 : decode cX3_joined 141 = .ok (.ireturn, 1) := by decide +kernel
theorem dX3_joined_142 : decode cX3_joined 142 = .ok (.iload_n 1, 1) := by decide +kernel
theorem dX3_joined_143 : decode cX3_joined 143 = .ok (.iload_n 2, 1) := by decide +kernel
theorem dX3_joined_144 : decode cX3_joined 144 = .ok (.if_icmp .le 7, 3) := by decide +kernel
theorem dX3_joined_147 : decode cX3_joined 147 = .ok (.iconst 1, 1) := by decide +kernel
theorem dX3_joined_148 : decode cX3_joined 148 = .ok (.goto 4, 3) := by decide +kernel
theorem dX3_joined_151 : decode cX3_joined 151 = .ok (.iconst 0, 1) := by decide +kernel
theorem dX3_joined_152 : decode cX3_joined 152 = .ok (.ireturn, 1) := by decide +kernel
theorem dX3_joined_153 : decode cX3_joined 153 = .ok (.iload_n 1, 1) := by decide +kernel
theorem dX3_joined_154 : decode cX3_joined 154 = .ok (.iload_n 2, 1) := by decide +kernel
theorem dX3_joined_155 : decode cX3_joined 155 = .ok (.iadd, 1) := by decide +kernel
theorem dX3_joined_156 : decode cX3_joined 156 = .ok (.ireturn, 1) := by decide +kernel
theorem dX3_joined_157 : decode cX3_joined 157 = .ok (.iload_n 1, 1) := by decide +kernel
theorem dX3_joined_158 : decode cX3_joined 158 = .ok (.iload_n 2, 1) := by decide +kernel
theorem dX3_joined_159 : decode cX3_joined 159 = .ok (.isub, 1) := by decide +kernel
theorem dX3_joined_160 : decode cX3_joined 160 = .ok (.ireturn, 1) := by decide +kernel
theorem dX3_joined_161 : decode cX3_joined 161 = .ok (.iload_n 1, 1) := by decide +kernel
theorem dX3_joined_162 : decode cX3_joined 162 = .ok (.iload_n 2, 1) := by decide +kernel
theorem dX3_joined_163 : decode cX3_joined 163 = .ok (.imul, 1) := by decide +kernel
theorem dX3_joined_164 : decode cX3_joined 164 = .ok (.ireturn, 1) := by decide +kernel
theorem dX3_joined_165 : decode cX3_joined 165 = .ok (.iload_n 2, 1) := by decide +kernel
theorem dX3_joined_166 : decode cX3_joined 166 = .ok (.ifCond .ne 7, 3) := by decide +kernel
theorem dX3_joined_169 : decode cX3_joined 169 = .ok (.iconst 0, 1) := by decide +kernel
theorem dX3_joined_170 : decode cX3_joined 170 = .ok (.goto 6, 3) := by decide +kernel
theorem dX3_joined_173 : decode cX3_joined 173 = .ok (.iload_n 1, 1) := by decide +kernel
theorem dX3_joined_174 : decode cX3_joined 174 = .ok (.iload_n 2, 1) := by decide +kernel
theorem dX3_joined_175 : decode cX3_joined 175 = .ok (.idiv, 1) := by decide +kernel
theorem dX3_joined_176 : decode cX3_joined 176 = .ok (.ireturn, 1) := by decide +kernel
theorem dX3_joined_177 : decode cX3_joined 177 = .ok (.iload_n 2, 1) := by decide +kernel
theorem dX3_joined_178 : decode cX3_joined 178 = .ok (.ifCond .ne 7, 3) := by decide +kernel
theorem dX3_joined_181 : decode cX3_joined 181 = .ok (.iconst 0, 1) := by decide +kernel
theorem dX3_joined_182 : decode cX3_joined 182 = .ok (.goto 6, 3) := by decide +kernel
theorem dX3_joined_185 : decode cX3_joined 185 = .ok (.iload_n 1, 1) := by decide +kernel
theorem dX3_joined_186 : decode cX3_joined 186 = .ok (.iload_n 2, 1) := by decide +kernel
theorem dX3_joined_187 : decode cX3_joined 187 = .ok (.irem, 1) := by decide +kernel
theorem dX3_joined_188 : decode cX3_joined 188 = .ok (.ireturn, 1) := by decide +kernel
theorem dX3_joined_189 : decode cX3_joined 189 = .ok (.iconst 0, 1) := by decide +kernel
theorem dX3_joined_190 : decode cX3_joined 190 = .ok (.ireturn, 1) := by decide +kernel
theorem dX4_init_0 : decode cX4_init 0 = .ok (.aload_n 0, 1) := by decide +kernel
theorem dX4_init_1 : decode cX4_init 1 = .ok (.invokespecial 1, 3) := by decide +kernel
theorem dX4_init_4 : decode cX4_init 4 = .ok (.aload_n 0, 1) := by decide +kernel
theorem dX4_init_5 : decode cX4_init 5 = .ok (.bipush 120, 2) := by decide +kernel
theorem dX4_init_7 : decode cX4_init 7 = .ok (.newarray .int, 2) := by decide +kernel
theorem dX4_init_9 : decode cX4_init 9 = .ok (.putfield 9, 3) := by decide +kernel
theorem dX4_init_12 : decode cX4_init 12 = .ok (.aload_n 0, 1) := by decide +kernel
theorem dX4_init_13 : decode cX4_init 13 = .ok (.new 13, 3) := by decide +kernel
theorem dX4_init_16 : decode cX4_init 16 = .ok (.dup, 1) := by decide +kernel
theorem dX4_init_17 : decode cX4_init 17 = .ok (.invokespecial 15, 3) := by decide +kernel
theorem dX4_init_20 : decode cX4_init 20 = .ok (.putfield 16, 3) := by decide +kernel
theorem dX4_init_23 : decode cX4_init 23 = .ok (.return_, 1) := by decide +kernel
theorem dX4_takeIn_0 : decode cX4_takeIn 0 = .ok (.aload_n 0, 1) := by decide +kernel
theorem dX4_takeIn_1 : decode cX4_takeIn 1 = .ok (.getfield 20, 3) := by decide +kernel
theorem dX4_takeIn_4 : decode cX4_takeIn 4 = .ok (.bipush 120, 2) := by decide +kernel
theorem dX4_takeIn_6 : decode cX4_takeIn 6 = .ok (.if_icmp .lt 5, 3) := by decide +kernel
theorem dX4_takeIn_9 : decode cX4_takeIn 9 = .ok (.iconst 0, 1) := by decide +kernel
theorem dX4_takeIn_10 : decode cX4_takeIn 10 = .ok (.ireturn, 1) := by decide +kernel
theorem dX4_takeIn_11 : decode cX4_takeIn 11 = .ok (.aload_n 0, 1) := by decide +kernel
theorem dX4_takeIn_12 : decode cX4_takeIn 12 = .ok (.getfield 9, 3) := by decide +kernel
theorem dX4_takeIn_15 : decode cX4_takeIn 15 = .ok (.aload_n 0, 1) := by decide +kernel
theorem dX4_takeIn_16 : decode cX4_takeIn 16 = .ok (.getfield 20, 3) := by decide +kernel
theorem dX4_takeIn_19 : decode cX4_takeIn 19 = .ok (.iload_n 1, 1) := by decide +kernel
theorem dX4_takeIn_20 : decode cX4_takeIn 20 = .ok (.iastore, 1) := by decide +kernel
theorem dX4_takeIn_21 : decode cX4_takeIn 21 = .ok (.aload_n 0, 1) := by decide +kernel
theorem dX4_takeIn_22 : decode cX4_takeIn 22 = .ok (.dup, 1) := by decide +kernel
theorem dX4_takeIn_23 : decode cX4_takeIn 23 = .ok (.getfield 20, 3) := by decide +kernel
theorem dX4_takeIn_26 : decode cX4_takeIn 26 = .ok (.iconst 1, 1) := by decide +kernel
theorem dX4_takeIn_27 : decode cX4_takeIn 27 = .ok (.iadd, 1) := by decide +kernel
theorem dX4_takeIn_28 : decode cX4_takeIn 28 = .ok (.putfield 20, 3) := by decide +kernel
theorem dX4_takeIn_31 : decode cX4_takeIn 31 = .ok (.iconst 1, 1) := by decide +kernel
theorem dX4_takeIn_32 : decode cX4_takeIn 32 = .ok (.ireturn, 1) := by decide +kernel
theorem dX4_readText_0 : decode cX4_readText 0 = .ok (.aload_n 0, 1) := by decide +kernel
theorem dX4_readText_1 : decode cX4_readText 1 = .ok (.iconst 0, 1) := by decide +kernel
theorem dX4_readText_2 : decode cX4_readText 2 = .ok (.putfield 24, 3) := by decide +kernel
theorem dX4_readText_5 : decode cX4_readText 5 = .ok (.aload_n 0, 1) := by decide +kernel
theorem dX4_readText_6 : decode cX4_readText 6 = .ok (.iconst 0, 1) := by decide +kernel
theorem dX4_readText_7 : decode cX4_readText 7 = .ok (.putfield 27, 3) := by decide +kernel
theorem dX4_readText_10 : decode cX4_readText 10 = .ok (.aload_n 0, 1) := by decide +kernel
theorem dX4_readText_11 : decode cX4_readText 11 = .ok (.getfield 16, 3) := by decide +kernel
theorem dX4_readText_14 : decode cX4_readText 14 = .ok (.iconst 0, 1) := by decide +kernel
theorem dX4_readText_15 : decode cX4_readText 15 = .ok (.putfield 31, 3) := by decide +kernel
theorem dX4_readText_18 : decode cX4_readText 18 = .ok (.iconst 1, 1) := by decide +kernel
theorem dX4_readText_19 : decode cX4_readText 19 = .ok (.istore_n 1, 1) := by decide +kernel
theorem dX4_readText_20 : decode cX4_readText 20 = .ok (.iconst 0, 1) := by decide +kernel
theorem dX4_readText_21 : decode cX4_readText 21 = .ok (.istore_n 2, 1) := by decide +kernel
theorem dX4_readText_22 : decode cX4_readText 22 = .ok (.iload_n 1, 1) := by decide +kernel
theorem dX4_readText_23 : decode cX4_readText 23 = .ok (.ifCond .eq 26, 3) := by decide +kernel
theorem dX4_readText_26 : decode cX4_readText 26 = .ok (.iload_n 2, 1) := by decide +kernel
theorem dX4_readText_27 : decode cX4_readText 27 = .ok (.bipush 120, 2) := by decide +kernel
theorem dX4_readText_29 : decode cX4_readText 29 = .ok (.if_icmp .gt 20, 3) := by decide +kernel
theorem dX4_readText_32 : decode cX4_readText 32 = .ok (.aload_n 0, 1) := by decide +kernel
theorem dX4_readText_33 : decode cX4_readText 33 = .ok (.invokevirtual 32, 3) := by decide +kernel
theorem dX4_readText_36 : decode cX4_readText 36 = .ok (.aload_n 0, 1) := by decide +kernel
theorem dX4_readText_37 : decode cX4_readText 37 = .ok (.bipush 59, 2) := by decide +kernel
theorem dX4_readText_39 : decode cX4_readText 39 = .ok (.invokevirtual 35, 3) := by decide +kernel
theorem dX4_readText_42 : decode cX4_readText 42 = .ok (.istore_n 1, 1) := by decide +kernel
theorem dX4_readText_43 : decode cX4_readText 43 = .ok (.iinc 2 1, 3) := by decide +kernel
theorem dX4_readText_46 : decode cX4_readText 46 = .ok (.goto (-24), 3) := by decide +kernel
theorem dX4_readText_49 : decode cX4_readText 49 = .ok (.aload_n 0, 1) := by decide +kernel
theorem dX4_readText_50 : decode cX4_readText 50 = .ok (.getfield 27, 3) := by decide +kernel
theorem dX4_readText_53 : decode cX4_readText 53 = .ok (.ifCond .ne 14, 3) := by decide +kernel
theorem dX4_readText_56 : decode cX4_readText 56 = .ok (.aload_n 0, 1) := by decide +kernel
theorem dX4_readText_57 : decode cX4_readText 57 = .ok (.getfield 24, 3) := by decide +kernel
theorem dX4_readText_60 : decode cX4_readText 60 = .ok (.aload_n 0, 1) := by decide +kernel
theorem dX4_readText_61 : decode cX4_readText 61 = .ok (.getfield 20, 3) := by decide +kernel
theorem dX4_readText_64 : decode cX4_readText 64 = .ok (.if_icmp .ge 10, 3) := by decide +kernel
theorem dX4_readText_67 : decode cX4_readText 67 = .ok (.aload_n 0, 1) := by decide +kernel
theorem dX4_readText_68 : decode cX4_readText 68 = .ok (.getfield 24, 3) := by decide +kernel
theorem dX4_readText_71 : decode cX4_readText 71 = .ok (.goto 4, 3) := by decide +kernel
theorem dX4_readText_74 : decode cX4_readText 74 = .ok (.iconst (-1), 1) := by decide +kernel
theorem dX4_readText_75 : decode cX4_readText 75 = .ok (.ireturn, 1) := by decide +kernel
theorem dX4_readLine_0 : decode cX4_readLine 0 = .ok (.aload_n 0, 1) := by decide +kernel
theorem dX4_readLine_1 : decode cX4_readLine 1 = .ok (.iconst 0, 1) := by decide +kernel
theorem dX4_readLine_2 : decode cX4_readLine 2 = .ok (.iconst 0, 1) := by decide +kernel
theorem dX4_readLine_3 : decode cX4_readLine 3 = .ok (.invokevirtual 39, 3) := by decide +kernel
theorem dX4_readLine_6 : decode cX4_readLine 6 = .ok (.iconst (-1), 1) := by decide +kernel
theorem dX4_readLine_7 : decode cX4_readLine 7 = .ok (.istore_n 1, 1) := by decide +kernel
theorem dX4_readLine_8 : decode cX4_readLine 8 = .ok (.aload_n 0, 1) := by decide +kernel
theorem dX4_readLine_9 : decode cX4_readLine 9 = .ok (.bipush 63, 2) := by decide +kernel
theorem dX4_readLine_11 : decode cX4_readLine 11 = .ok (.invokevirtual 35, 3) := by decide +kernel
theorem dX4_readLine_14 : decode cX4_readLine 14 = .ok (.ifCond .eq 19, 3) := by decide +kernel
theorem dX4_readLine_17 : decode cX4_readLine 17 = .ok (.aload_n 0, 1) := by decide +kernel
theorem dX4_readLine_18 : decode cX4_readLine 18 = .ok (.getfield 16, 3) := by decide +kernel
theorem dX4_readLine_21 : decode cX4_readLine 21 = .ok (.iconst 2, 1) := by decide +kernel
theorem dX4_readLine_22 : decode cX4_readLine 22 = .ok (.iconst 0, 1) := by decide +kernel
theorem dX4_readLine_23 : decode cX4_readLine 23 = .ok (.invokevirtual 43, 3) := by decide +kernel
theorem dX4_readLine_26 : decode cX4_readLine 26 = .ok (.istore_n 1, 1) := by decide +kernel
theorem dX4_readLine_27 : decode cX4_readLine 27 = .ok (.aload_n 0, 1) := by decide +kernel
theorem dX4_readLine_28 : decode cX4_readLine 28 = .ok (.iconst 0, 1) := by decide +kernel
theorem dX4_readLine_29 : decode cX4_readLine 29 = .ok (.iconst 0, 1) := by decide +kernel
theorem dX4_readLine_30 : decode cX4_readLine 30 = .ok (.invokevirtual 39, 3) := by decide +kernel
theorem dX4_readLine_33 : decode cX4_readLine 33 = .ok (.aload_n 0, 1) := by decide +kernel
theorem dX4_readLine_34 : decode cX4_readLine 34 = .ok (.getfield 16, 3) := by decide +kernel
theorem dX4_readLine_37 : decode cX4_readLine 37 = .ok (.iconst 3, 1) := by decide +kernel
theorem dX4_readLine_38 : decode cX4_readLine 38 = .ok (.iconst 0, 1) := by decide +kernel
theorem dX4_readLine_39 : decode cX4_readLine 39 = .ok (.invokevirtual 43, 3) := by decide +kernel
theorem dX4_readLine_42 : decode cX4_readLine 42 = .ok (.istore_n 2, 1) := by decide +kernel
theorem dX4_readLine_43 : decode cX4_readLine 43 = .ok (.iload_n 1, 1) := by decide +kernel
theorem dX4_readLine_44 : decode cX4_readLine 44 = .ok (.ifCond .lt 13, 3) := by decide +kernel
theorem dX4_readLine_47 : decode cX4_readLine 47 = .ok (.aload_n 0, 1) := by decide +kernel
theorem dX4_readLine_48 : decode cX4_readLine 48 = .ok (.getfield 16, 3) := by decide +kernel
theorem dX4_readLine_51 : decode cX4_readLine 51 = .ok (.getfield 47, 3) := by decide +kernel
theorem dX4_readLine_54 : decode cX4_readLine 54 = .ok (.iload_n 1, 1) := by decide +kernel
theorem dX4_readLine_55 : decode cX4_readLine 55 = .ok (.iload_n 2, 1) := by decide +kernel
theorem dX4_readLine_56 : decode cX4_readLine 56 = .ok (.iastore, 1) := by decide +kernel
theorem dX4_readLine_57 : decode cX4_readLine 57 = .ok (.return_, 1) := by decide +kernel
theorem dX4_readChain_0 : decode cX4_readChain 0 = .ok (.iload_n 1, 1) := by decide +kernel
theorem dX4_readChain_1 : decode cX4_readChain 1 = .ok (.iconst 5, 1) := by decide +kernel
theorem dX4_readChain_2 : decode cX4_readChain 2 = .ok (.if_icmp .lt 9, 3) := by decide +kernel
theorem dX4_readChain_5 : decode cX4_readChain 5 = .ok (.aload_n 0, 1) := by decide +kernel
theorem dX4_readChain_6 : decode cX4_readChain 6 = .ok (.iload_n 2, 1) := by decide +kernel
theorem dX4_readChain_7 : decode cX4_readChain 7 = .ok (.invokevirtual 50, 3) := by decide +kernel
theorem dX4_readChain_10 : decode cX4_readChain 10 = .ok (.return_, 1) := by decide +kernel
theorem dX4_readChain_11 : decode cX4_readChain 11 = .ok (.aload_n 0, 1) := by decide +kernel
theorem dX4_readChain_12 : decode cX4_readChain 12 = .ok (.iload_n 1, 1) := by decide +kernel
theorem dX4_readChain_13 : decode cX4_readChain 13 = .ok (.iconst 1, 1) := by decide +kernel
theorem dX4_readChain_14 : decode cX4_readChain 14 = .ok (.iadd, 1) := by decide +kernel
theorem dX4_readChain_15 : decode cX4_readChain 15 = .ok (.iload_n 2, 1) := by decide +kernel
theorem dX4_readChain_16 : decode cX4_readChain 16 = .ok (.invokevirtual 39, 3) := by decide +kernel
theorem dX4_readChain_19 : decode cX4_readChain 19 = .ok (.aload_n 0, 1) := by decide +kernel
theorem dX4_readChain_20 : decode cX4_readChain 20 = .ok (.iload_n 1, 1) := by decide +kernel
theorem dX4_readChain_21 : decode cX4_readChain 21 = .ok (.invokevirtual 54, 3) := by decide +kernel
theorem dX4_readChain_24 : decode cX4_readChain 24 = .ok (.istore_n 3, 1) := by decide +kernel
theorem dX4_readChain_25 : decode cX4_readChain 25 = .ok (.iconst 0, 1) := by decide +kernel
theorem dX4_readChain_26 : decode cX4_readChain 26 = .ok (.istore 4, 2) := by decide +kernel
theorem dX4_readChain_28 : decode cX4_readChain 28 = .ok (.iload_n 3, 1) := by decide +kernel
theorem dX4_readChain_29 : decode cX4_readChain 29 = .ok (.ifCond .eq 70, 3) := by decide +kernel
theorem dX4_readChain_32 : decode cX4_readChain 32 = .ok (.iload 4, 2) := by decide +kernel
theorem dX4_readChain_34 : decode cX4_readChain 34 = .ok (.bipush 120, 2) := by decide +kernel
theorem dX4_readChain_36 : decode cX4_readChain 36 = .ok (.if_icmp .ge 63, 3) := by decide +kernel
theorem dX4_readChain_39 : decode cX4_readChain 39 = .ok (.aload_n 0, 1) := by decide +kernel
theorem dX4_readChain_40 : decode cX4_readChain 40 = .ok (.invokevirtual 57, 3) := by decide +kernel
theorem dX4_readChain_43 : decode cX4_readChain 43 = .ok (.istore 5, 2) := by decide +kernel
theorem dX4_readChain_45 : decode cX4_readChain 45 = .ok (.aload_n 0, 1) := by decide +kernel
theorem dX4_readChain_46 : decode cX4_readChain 46 = .ok (.dup, 1) := by decide +kernel
theorem dX4_readChain_47 : decode cX4_readChain 47 = .ok (.getfield 24, 3) := by decide +kernel
theorem dX4_readChain_50 : decode cX4_readChain 50 = .ok (.iconst 1, 1) := by decide +kernel
theorem dX4_readChain_51 : decode cX4_readChain 51 = .ok (.iadd, 1) := by decide +kernel
theorem dX4_readChain_52 : decode cX4_readChain 52 = .ok (.putfield 24, 3) := by decide +kernel
theorem dX4_readChain_55 : decode cX4_readChain 55 = .ok (.aload_n 0, 1) := by decide +kernel
theorem dX4_readChain_56 : decode cX4_readChain 56 = .ok (.iload_n 1, 1) := by decide +kernel
theorem dX4_readChain_57 : decode cX4_readChain 57 = .ok (.iconst 1, 1) := by decide +kernel
theorem dX4_readChain_58 : decode cX4_readChain 58 = .ok (.iadd, 1) := by decide +kernel
theorem dX4_readChain_59 : decode cX4_readChain 59 = .ok (.iload_n 2, 1) := by decide +kernel
theorem dX4_readChain_60 : decode cX4_readChain 60 = .ok (.invokevirtual 39, 3) := by decide +kernel
theorem dX4_readChain_63 : decode cX4_readChain 63 = .ok (.aload_n 0, 1) := by decide +kernel
theorem dX4_readChain_64 : decode cX4_readChain 64 = .ok (.getfield 16, 3) := by decide +kernel
theorem dX4_readChain_67 : decode cX4_readChain 67 = .ok (.iload 5, 2) := by decide +kernel
theorem dX4_readChain_69 : decode cX4_readChain 69 = .ok (.iconst 0, 1) := by decide +kernel
theorem dX4_readChain_70 : decode cX4_readChain 70 = .ok (.invokevirtual 43, 3) := by decide +kernel
theorem dX4_readChain_73 : decode cX4_readChain 73 = .ok (.pop, 1) := by decide +kernel
theorem dX4_readChain_74 : decode cX4_readChain 74 = .ok (.iload_n 1, 1) := by decide +kernel
theorem dX4_readChain_75 : decode cX4_readChain 75 = .ok (.iconst 2, 1) := by decide +kernel
theorem dX4_readChain_76 : decode cX4_readChain 76 = .ok (.if_icmp .eq 15, 3) := by decide +kernel
theorem dX4_readChain_79 : decode cX4_readChain 79 = .ok (.aload_n 0, 1) := by decide +kernel
theorem dX4_readChain_80 : decode cX4_readChain 80 = .ok (.iload_n 1, 1) := by decide +kernel
theorem dX4_readChain_81 : decode cX4_readChain 81 = .ok (.invokevirtual 54, 3) := by decide +kernel
theorem dX4_readChain_84 : decode cX4_readChain 84 = .ok (.ifCond .eq 7, 3) := by decide +kernel
theorem dX4_readChain_87 : decode cX4_readChain 87 = .ok (.iconst 1, 1) := by decide +kernel
theorem dX4_readChain_88 : decode cX4_readChain 88 = .ok (.goto 4, 3) := by decide +kernel
theorem dX4_readChain_91 : decode cX4_readChain 91 = .ok (.iconst 0, 1) := by decide +kernel
theorem dX4_readChain_92 : decode cX4_readChain 92 = .ok (.istore_n 3, 1) := by decide +kernel
theorem dX4_readChain_93 : decode cX4_readChain 93 = .ok (.iinc 4 1, 3) := by decide +kernel
theorem dX4_readChain_96 : decode cX4_readChain 96 = .ok (.goto (-68), 3) := by decide +kernel
theorem dX4_readChain_99 : decode cX4_readChain 99 = .ok (.return_, 1) := by decide +kernel
theorem dX4_isJoin_0 : decode cX4_isJoin 0 = .ok (.aload_n 0, 1) := by decide +kernel
theorem dX4_isJoin_1 : decode cX4_isJoin 1 = .ok (.getfield 27, 3) := by decide +kernel
theorem dX4_isJoin_4 : decode cX4_isJoin 4 = .ok (.ifCond .eq 7, 3) := by decide +kernel
theorem dX4_isJoin_7 : decode cX4_isJoin 7 = .ok (.iconst (-1), 1) := by decide +kernel
theorem dX4_isJoin_8 : decode cX4_isJoin 8 = .ok (.goto 7, 3) := by decide +kernel
theorem dX4_isJoin_11 : decode cX4_isJoin 11 = .ok (.aload_n 0, 1) := by decide +kernel
theorem dX4_isJoin_12 : decode cX4_isJoin 12 = .ok (.invokevirtual 57, 3) := by decide +kernel
theorem dX4_isJoin_15 : decode cX4_isJoin 15 = .ok (.istore_n 2, 1) := by decide +kernel
theorem dX4_isJoin_16 : decode cX4_isJoin 16 = .ok (.iload_n 1, 1) := by decide +kernel
theorem dX4_isJoin_17 : decode cX4_isJoin 17 = .ok (.tableswitch 125 0 4 #[35, 47, 59, 83, 101], 35) := by decide +kernel
theorem dX4_isJoin_52 : decode cX4_isJoin 52 = .ok (.iload_n 2, 1) := by decide +kernel
theorem dX4_isJoin_53 : decode cX4_isJoin 53 = .ok (.bipush 124, 2) := by decide +kernel
theorem dX4_isJoin_55 : decode cX4_isJoin 55 = .ok (.if_icmp .ne 7, 3) := by decide +kernel
theorem dX4_isJoin_58 : decode cX4_isJoin 58 = .ok (.iconst 1, 1) := by decide +kernel
theorem dX4_isJoin_59 : decode cX4_isJoin 59 = .ok (.goto 4, 3) := by decide +kernel
theorem dX4_isJoin_62 : decode cX4_isJoin 62 = .ok (.iconst 0, 1) := by decide +kernel
theorem dX4_isJoin_63 : decode cX4_isJoin 63 = .ok (.ireturn, 1) := by decide +kernel
theorem dX4_isJoin_64 : decode cX4_isJoin 64 = .ok (.iload_n 2, 1) := by decide +kernel
theorem dX4_isJoin_65 : decode cX4_isJoin 65 = .ok (.bipush 38, 2) := by decide +kernel
theorem dX4_isJoin_67 : decode cX4_isJoin 67 = .ok (.if_icmp .ne 7, 3) := by decide +kernel
theorem dX4_isJoin_70 : decode cX4_isJoin 70 = .ok (.iconst 1, 1) := by decide +kernel
theorem dX4_isJoin_71 : decode cX4_isJoin 71 = .ok (.goto 4, 3) := by decide +kernel
theorem dX4_isJoin_74 : decode cX4_isJoin 74 = .ok (.iconst 0, 1) := by decide +kernel
theorem dX4_isJoin_75 : decode cX4_isJoin 75 = .ok (.ireturn, 1) := by decide +kernel
theorem dX4_isJoin_76 : decode cX4_isJoin 76 = .ok (.iload_n 2, 1) := by decide +kernel
theorem dX4_isJoin_77 : decode cX4_isJoin 77 = .ok (.bipush 60, 2) := by decide +kernel
theorem dX4_isJoin_79 : decode cX4_isJoin 79 = .ok (.if_icmp .eq 15, 3) := by decide +kernel
theorem dX4_isJoin_82 : decode cX4_isJoin 82 = .ok (.iload_n 2, 1) := by decide +kernel
theorem dX4_isJoin_83 : decode cX4_isJoin 83 = .ok (.bipush 61, 2) := by decide +kernel
theorem dX4_isJoin_85 : decode cX4_isJoin 85 = .ok (.if_icmp .eq 9, 3) := by decide +kernel
theorem dX4_isJoin_88 : decode cX4_isJoin 88 = .ok (.iload_n 2, 1) := by decide +kernel
theorem dX4_isJoin_89 : decode cX4_isJoin 89 = .ok (.bipush 62, 2) := by decide +kernel
theorem dX4_isJoin_91 : decode cX4_isJoin 91 = .ok (.if_icmp .ne 7, 3) := by decide +kernel
theorem dX4_isJoin_94 : decode cX4_isJoin 94 = .ok (.iconst 1, 1) := by decide +kernel
theorem dX4_isJoin_95 : decode cX4_isJoin 95 = .ok (.goto 4, 3) := by decide +kernel
theorem dX4_isJoin_98 : decode cX4_isJoin 98 = .ok (.iconst 0, 1) := by decide +kernel
theorem dX4_isJoin_99 : decode cX4_isJoin 99 = .ok (.ireturn, 1) := by decide +kernel
theorem dX4_isJoin_100 : decode cX4_isJoin 100 = .ok (.iload_n 2, 1) := by decide +kernel
theorem dX4_isJoin_101 : decode cX4_isJoin 101 = .ok (.bipush 43, 2) := by decide +kernel
theorem dX4_isJoin_103 : decode cX4_isJoin 103 = .ok (.if_icmp .eq 9, 3) := by decide +kernel
theorem dX4_isJoin_106 : decode cX4_isJoin 106 = .ok (.iload_n 2, 1) := by decide +kernel
theorem dX4_isJoin_107 : decode cX4_isJoin 107 = .ok (.bipush 45, 2) := by decide +kernel
theorem dX4_isJoin_109 : decode cX4_isJoin 109 = .ok (.if_icmp .ne 7, 3) := by decide +kernel
theorem dX4_isJoin_112 : decode cX4_isJoin 112 = .ok (.iconst 1, 1) := by decide +kernel
theorem dX4_isJoin_113 : decode cX4_isJoin 113 = .ok (.goto 4, 3) := by decide +kernel
theorem dX4_isJoin_116 : decode cX4_isJoin 116 = .ok (.iconst 0, 1) := by decide +kernel
theorem dX4_isJoin_117 : decode cX4_isJoin 117 = .ok (.ireturn, 1) := by decide +kernel
theorem dX4_isJoin_118 : decode cX4_isJoin 118 = .ok (.iload_n 2, 1) := by decide +kernel
theorem dX4_isJoin_119 : decode cX4_isJoin 119 = .ok (.bipush 42, 2) := by decide +kernel
theorem dX4_isJoin_121 : decode cX4_isJoin 121 = .ok (.if_icmp .eq 15, 3) := by decide +kernel
theorem dX4_isJoin_124 : decode cX4_isJoin 124 = .ok (.iload_n 2, 1) := by decide +kernel
theorem dX4_isJoin_125 : decode cX4_isJoin 125 = .ok (.bipush 47, 2) := by decide +kernel
theorem dX4_isJoin_127 : decode cX4_isJoin 127 = .ok (.if_icmp .eq 9, 3) := by decide +kernel
theorem dX4_isJoin_130 : decode cX4_isJoin 130 = .ok (.iload_n 2, 1) := by decide +kernel
theorem dX4_isJoin_131 : decode cX4_isJoin 131 = .ok (.bipush 37, 2) := by decide +kernel
theorem dX4_isJoin_133 : decode cX4_isJoin 133 = .ok (.if_icmp .ne 7, 3) := by decide +kernel
theorem dX4_isJoin_136 : decode cX4_isJoin 136 = .ok (.iconst 1, 1) := by decide +kernel
theorem dX4_isJoin_137 : decode cX4_isJoin 137 = .ok (.goto 4, 3) := by decide +kernel
theorem dX4_isJoin_140 : decode cX4_isJoin 140 = .ok (.iconst 0, 1) := by decide +kernel
theorem dX4_isJoin_141 : decode cX4_isJoin 141 = .ok (.ireturn, 1) := by decide +kernel
theorem dX4_isJoin_142 : decode cX4_isJoin 142 = .ok (.iconst 0, 1) := by decide +kernel
theorem dX4_isJoin_143 : decode cX4_isJoin 143 = .ok (.ireturn, 1) := by decide +kernel
theorem dX4_readOperand_0 : decode cX4_readOperand 0 = .ok (.aload_n 0, 1) := by decide +kernel
theorem dX4_readOperand_1 : decode cX4_readOperand 1 = .ok (.invokevirtual 57, 3) := by decide +kernel
theorem dX4_readOperand_4 : decode cX4_readOperand 4 = .ok (.istore_n 2, 1) := by decide +kernel
theorem dX4_readOperand_5 : decode cX4_readOperand 5 = .ok (.iload_n 2, 1) := by decide +kernel
theorem dX4_readOperand_6 : decode cX4_readOperand 6 = .ok (.invokestatic 61, 3) := by decide +kernel
theorem dX4_readOperand_9 : decode cX4_readOperand 9 = .ok (.ifCond .eq 10, 3) := by decide +kernel
theorem dX4_readOperand_12 : decode cX4_readOperand 12 = .ok (.aload_n 0, 1) := by decide +kernel
theorem dX4_readOperand_13 : decode cX4_readOperand 13 = .ok (.invokevirtual 64, 3) := by decide +kernel
theorem dX4_readOperand_16 : decode cX4_readOperand 16 = .ok (.goto 86, 3) := by decide +kernel
theorem dX4_readOperand_19 : decode cX4_readOperand 19 = .ok (.iload_n 2, 1) := by decide +kernel
theorem dX4_readOperand_20 : decode cX4_readOperand 20 = .ok (.invokestatic 67, 3) := by decide +kernel
theorem dX4_readOperand_23 : decode cX4_readOperand 23 = .ok (.ifCond .lt 29, 3) := by decide +kernel
theorem dX4_readOperand_26 : decode cX4_readOperand 26 = .ok (.aload_n 0, 1) := by decide +kernel
theorem dX4_readOperand_27 : decode cX4_readOperand 27 = .ok (.getfield 16, 3) := by decide +kernel
theorem dX4_readOperand_30 : decode cX4_readOperand 30 = .ok (.iconst 1, 1) := by decide +kernel
theorem dX4_readOperand_31 : decode cX4_readOperand 31 = .ok (.iload_n 2, 1) := by decide +kernel
theorem dX4_readOperand_32 : decode cX4_readOperand 32 = .ok (.invokestatic 67, 3) := by decide +kernel
theorem dX4_readOperand_35 : decode cX4_readOperand 35 = .ok (.invokevirtual 43, 3) := by decide +kernel
theorem dX4_readOperand_38 : decode cX4_readOperand 38 = .ok (.pop, 1) := by decide +kernel
theorem dX4_readOperand_39 : decode cX4_readOperand 39 = .ok (.aload_n 0, 1) := by decide +kernel
theorem dX4_readOperand_40 : decode cX4_readOperand 40 = .ok (.dup, 1) := by decide +kernel
theorem dX4_readOperand_41 : decode cX4_readOperand 41 = .ok (.getfield 24, 3) := by decide +kernel
theorem dX4_readOperand_44 : decode cX4_readOperand 44 = .ok (.iconst 1, 1) := by decide +kernel
theorem dX4_readOperand_45 : decode cX4_readOperand 45 = .ok (.iadd, 1) := by decide +kernel
theorem dX4_readOperand_46 : decode cX4_readOperand 46 = .ok (.putfield 24, 3) := by decide +kernel
theorem dX4_readOperand_49 : decode cX4_readOperand 49 = .ok (.goto 53, 3) := by decide +kernel
theorem dX4_readOperand_52 : decode cX4_readOperand 52 = .ok (.iload_n 1, 1) := by decide +kernel
theorem dX4_readOperand_53 : decode cX4_readOperand 53 = .ok (.bipush 6, 2) := by decide +kernel
theorem dX4_readOperand_55 : decode cX4_readOperand 55 = .ok (.if_icmp .ge 42, 3) := by decide +kernel
theorem dX4_readOperand_58 : decode cX4_readOperand 58 = .ok (.iload_n 2, 1) := by decide +kernel
theorem dX4_readOperand_59 : decode cX4_readOperand 59 = .ok (.bipush 40, 2) := by decide +kernel
theorem dX4_readOperand_61 : decode cX4_readOperand 61 = .ok (.if_icmp .eq 15, 3) := by decide +kernel
theorem dX4_readOperand_64 : decode cX4_readOperand 64 = .ok (.iload_n 2, 1) := by decide +kernel
theorem dX4_readOperand_65 : decode cX4_readOperand 65 = .ok (.bipush 33, 2) := by decide +kernel
theorem dX4_readOperand_67 : decode cX4_readOperand 67 = .ok (.if_icmp .eq 9, 3) := by decide +kernel
theorem dX4_readOperand_70 : decode cX4_readOperand 70 = .ok (.iload_n 2, 1) := by decide +kernel
theorem dX4_readOperand_71 : decode cX4_readOperand 71 = .ok (.bipush 45, 2) := by decide +kernel
theorem dX4_readOperand_73 : decode cX4_readOperand 73 = .ok (.if_icmp .ne 24, 3) := by decide +kernel
theorem dX4_readOperand_76 : decode cX4_readOperand 76 = .ok (.aload_n 0, 1) := by decide +kernel
theorem dX4_readOperand_77 : decode cX4_readOperand 77 = .ok (.dup, 1) := by decide +kernel
theorem dX4_readOperand_78 : decode cX4_readOperand 78 = .ok (.getfield 24, 3) := by decide +kernel
theorem dX4_readOperand_81 : decode cX4_readOperand 81 = .ok (.iconst 1, 1) := by decide +kernel
theorem dX4_readOperand_82 : decode cX4_readOperand 82 = .ok (.iadd, 1) := by decide +kernel
theorem dX4_readOperand_83 : decode cX4_readOperand 83 = .ok (.putfield 24, 3) := by decide +kernel
theorem dX4_readOperand_86 : decode cX4_readOperand 86 = .ok (.aload_n 0, 1) := by decide +kernel
theorem dX4_readOperand_87 : decode cX4_readOperand 87 = .ok (.iload_n 2, 1) := by decide +kernel
theorem dX4_readOperand_88 : decode cX4_readOperand 88 = .ok (.iload_n 1, 1) := by decide +kernel
theorem dX4_readOperand_89 : decode cX4_readOperand 89 = .ok (.iconst 1, 1) := by decide +kernel
theorem dX4_readOperand_90 : decode cX4_readOperand 90 = .ok (.iadd, 1) := by decide +kernel
theorem dX4_readOperand_91 : decode cX4_readOperand 91 = .ok (.invokevirtual 71, 3) := by decide +kernel
theorem dX4_readOperand_94 : decode cX4_readOperand 94 = .ok (.goto 8, 3) := by decide +kernel
theorem dX4_readOperand_97 : decode cX4_readOperand 97 = .ok (.aload_n 0, 1) := by decide +kernel
theorem dX4_readOperand_98 : decode cX4_readOperand 98 = .ok (.iconst 1, 1) := by decide +kernel
theorem dX4_readOperand_99 : decode cX4_readOperand 99 = .ok (.putfield 27, 3) := by decide +kernel
theorem dX4_readOperand_102 : decode cX4_readOperand 102 = .ok (.return_, 1) := by decide +kernel
theorem dX4_readOpened_0 : decode cX4_readOpened 0 = .ok (.iload_n 1, 1) := by decide +kernel
theorem dX4_readOpened_1 : decode cX4_readOpened 1 = .ok (.bipush 40, 2) := by decide +kernel
theorem dX4_readOpened_3 : decode cX4_readOpened 3 = .ok (.if_icmp .ne 26, 3) := by decide +kernel
theorem dX4_readOpened_6 : decode cX4_readOpened 6 = .ok (.aload_n 0, 1) := by decide +kernel
theorem dX4_readOpened_7 : decode cX4_readOpened 7 = .ok (.iconst 0, 1) := by decide +kernel
theorem dX4_readOpened_8 : decode cX4_readOpened 8 = .ok (.iload_n 2, 1) := by decide +kernel
theorem dX4_readOpened_9 : decode cX4_readOpened 9 = .ok (.invokevirtual 39, 3) := by decide +kernel
theorem dX4_readOpened_12 : decode cX4_readOpened 12 = .ok (.aload_n 0, 1) := by decide +kernel
theorem dX4_readOpened_13 : decode cX4_readOpened 13 = .ok (.bipush 41, 2) := by decide +kernel
theorem dX4_readOpened_15 : decode cX4_readOpened 15 = .ok (.invokevirtual 35, 3) := by decide +kernel
theorem dX4_readOpened_18 : decode cX4_readOpened 18 = .ok (.ifCond .ne 36, 3) := by decide +kernel
theorem dX4_readOpened_21 : decode cX4_readOpened 21 = .ok (.aload_n 0, 1) := by decide +kernel
theorem dX4_readOpened_22 : decode cX4_readOpened 22 = .ok (.iconst 1, 1) := by decide +kernel
theorem dX4_readOpened_23 : decode cX4_readOpened 23 = .ok (.putfield 27, 3) := by decide +kernel
theorem dX4_readOpened_26 : decode cX4_readOpened 26 = .ok (.goto 28, 3) := by decide +kernel
theorem dX4_readOpened_29 : decode cX4_readOpened 29 = .ok (.aload_n 0, 1) := by decide +kernel
theorem dX4_readOpened_30 : decode cX4_readOpened 30 = .ok (.iload_n 2, 1) := by decide +kernel
theorem dX4_readOpened_31 : decode cX4_readOpened 31 = .ok (.invokevirtual 50, 3) := by decide +kernel
theorem dX4_readOpened_34 : decode cX4_readOpened 34 = .ok (.aload_n 0, 1) := by decide +kernel
theorem dX4_readOpened_35 : decode cX4_readOpened 35 = .ok (.getfield 16, 3) := by decide +kernel
theorem dX4_readOpened_38 : decode cX4_readOpened 38 = .ok (.iload_n 1, 1) := by decide +kernel
theorem dX4_readOpened_39 : decode cX4_readOpened 39 = .ok (.bipush 33, 2) := by decide +kernel
theorem dX4_readOpened_41 : decode cX4_readOpened 41 = .ok (.if_icmp .ne 7, 3) := by decide +kernel
theorem dX4_readOpened_44 : decode cX4_readOpened 44 = .ok (.iconst 4, 1) := by decide +kernel
theorem dX4_readOpened_45 : decode cX4_readOpened 45 = .ok (.goto 4, 3) := by decide +kernel
theorem dX4_readOpened_48 : decode cX4_readOpened 48 = .ok (.iconst 5, 1) := by decide +kernel
theorem dX4_readOpened_49 : decode cX4_readOpened 49 = .ok (.iconst 0, 1) := by decide +kernel
theorem dX4_readOpened_50 : decode cX4_readOpened 50 = .ok (.invokevirtual 43, 3) := by decide +kernel
theorem dX4_readOpened_53 : decode cX4_readOpened 53 = .ok (.pop, 1) := by decide +kernel
theorem dX4_readOpened_54 : decode cX4_readOpened 54 = .ok (.return_, 1) := by decide +kernel
theorem dX4_readNumber_0 : decode cX4_readNumber 0 = .ok (.iconst 0, 1) := by decide +kernel
theorem dX4_readNumber_1 : decode cX4_readNumber 1 = .ok (.istore_n 1, 1) := by decide +kernel
theorem dX4_readNumber_2 : decode cX4_readNumber 2 = .ok (.iconst 0, 1) := by decide +kernel
theorem dX4_readNumber_3 : decode cX4_readNumber 3 = .ok (.istore_n 2, 1) := by decide +kernel
theorem dX4_readNumber_4 : decode cX4_readNumber 4 = .ok (.iload_n 2, 1) := by decide +kernel
theorem dX4_readNumber_5 : decode cX4_readNumber 5 = .ok (.iconst 4, 1) := by decide +kernel
theorem dX4_readNumber_6 : decode cX4_readNumber 6 = .ok (.if_icmp .ge 42, 3) := by decide +kernel
theorem dX4_readNumber_9 : decode cX4_readNumber 9 = .ok (.aload_n 0, 1) := by decide +kernel
theorem dX4_readNumber_10 : decode cX4_readNumber 10 = .ok (.invokevirtual 57, 3) := by decide +kernel
theorem dX4_readNumber_13 : decode cX4_readNumber 13 = .ok (.invokestatic 61, 3) := by decide +kernel
theorem dX4_readNumber_16 : decode cX4_readNumber 16 = .ok (.ifCond .eq 32, 3) := by decide +kernel
theorem dX4_readNumber_19 : decode cX4_readNumber 19 = .ok (.bipush 10, 2) := by decide +kernel
theorem dX4_readNumber_21 : decode cX4_readNumber 21 = .ok (.iload_n 1, 1) := by decide +kernel
theorem dX4_readNumber_22 : decode cX4_readNumber 22 = .ok (.imul, 1) := by decide +kernel
theorem dX4_readNumber_23 : decode cX4_readNumber 23 = .ok (.aload_n 0, 1) := by decide +kernel
theorem dX4_readNumber_24 : decode cX4_readNumber 24 = .ok (.invokevirtual 57, 3) := by decide +kernel
theorem dX4_readNumber_27 : decode cX4_readNumber 27 = .ok (.iadd, 1) := by decide +kernel
theorem dX4_readNumber_28 : decode cX4_readNumber 28 = .ok (.bipush 48, 2) := by decide +kernel
theorem dX4_readNumber_30 : decode cX4_readNumber 30 = .ok (.isub, 1) := by decide +kernel
theorem dX4_readNumber_31 : decode cX4_readNumber 31 = .ok (.istore_n 1, 1) := by decide +kernel
theorem dX4_readNumber_32 : decode cX4_readNumber 32 = .ok (.aload_n 0, 1) := by decide +kernel
theorem dX4_readNumber_33 : decode cX4_readNumber 33 = .ok (.dup, 1) := by decide +kernel
theorem dX4_readNumber_34 : decode cX4_readNumber 34 = .ok (.getfield 24, 3) := by decide +kernel
theorem dX4_readNumber_37 : decode cX4_readNumber 37 = .ok (.iconst 1, 1) := by decide +kernel
theorem dX4_readNumber_38 : decode cX4_readNumber 38 = .ok (.iadd, 1) := by decide +kernel
theorem dX4_readNumber_39 : decode cX4_readNumber 39 = .ok (.putfield 24, 3) := by decide +kernel
theorem dX4_readNumber_42 : decode cX4_readNumber 42 = .ok (.iinc 2 1, 3) := by decide +kernel
theorem dX4_readNumber_45 : decode cX4_readNumber 45 = .ok (.goto (-41), 3) := by decide +kernel
theorem dX4_readNumber_48 : decode cX4_readNumber 48 = .ok (.aload_n 0, 1) := by decide +kernel
theorem dX4_readNumber_49 : decode cX4_readNumber 49 = .ok (.getfield 16, 3) := by decide +kernel
theorem dX4_readNumber_52 : decode cX4_readNumber 52 = .ok (.iconst 0, 1) := by decide +kernel
theorem dX4_readNumber_53 : decode cX4_readNumber 53 = .ok (.iload_n 1, 1) := by decide +kernel
theorem dX4_readNumber_54 : decode cX4_readNumber 54 = .ok (.invokevirtual 43, 3) := by decide +kernel
theorem dX4_readNumber_57 : decode cX4_readNumber 57 = .ok (.pop, 1) := by decide +kernel
theorem dX4_readNumber_58 : decode cX4_readNumber 58 = .ok (.return_, 1) := by decide +kernel
theorem dX4_next_0 : decode cX4_next 0 = .ok (.aload_n 0, 1) := by decide +kernel
theorem dX4_next_1 : decode cX4_next 1 = .ok (.getfield 24, 3) := by decide +kernel
theorem dX4_next_4 : decode cX4_next 4 = .ok (.ifCond .lt 35, 3) := by decide +kernel
theorem dX4_next_7 : decode cX4_next 7 = .ok (.aload_n 0, 1) := by decide +kernel
theorem dX4_next_8 : decode cX4_next 8 = .ok (.getfield 24, 3) := by decide +kernel
theorem dX4_next_11 : decode cX4_next 11 = .ok (.aload_n 0, 1) := by decide +kernel
theorem dX4_next_12 : decode cX4_next 12 = .ok (.getfield 20, 3) := by decide +kernel
theorem dX4_next_15 : decode cX4_next 15 = .ok (.if_icmp .ge 24, 3) := by decide +kernel
theorem dX4_next_18 : decode cX4_next 18 = .ok (.aload_n 0, 1) := by decide +kernel
theorem dX4_next_19 : decode cX4_next 19 = .ok (.getfield 24, 3) := by decide +kernel
theorem dX4_next_22 : decode cX4_next 22 = .ok (.bipush 120, 2) := by decide +kernel
theorem dX4_next_24 : decode cX4_next 24 = .ok (.if_icmp .ge 15, 3) := by decide +kernel
theorem dX4_next_27 : decode cX4_next 27 = .ok (.aload_n 0, 1) := by decide +kernel
theorem dX4_next_28 : decode cX4_next 28 = .ok (.getfield 9, 3) := by decide +kernel
theorem dX4_next_31 : decode cX4_next 31 = .ok (.aload_n 0, 1) := by decide +kernel
theorem dX4_next_32 : decode cX4_next 32 = .ok (.getfield 24, 3) := by decide +kernel
theorem dX4_next_35 : decode cX4_next 35 = .ok (.iaload, 1) := by decide +kernel
theorem dX4_next_36 : decode cX4_next 36 = .ok (.goto 4, 3) := by decide +kernel
theorem dX4_next_39 : decode cX4_next 39 = .ok (.iconst (-1), 1) := by decide +kernel
theorem dX4_next_40 : decode cX4_next 40 = .ok (.ireturn, 1) := by decide +kernel
theorem dX4_takes_0 : decode cX4_takes 0 = .ok (.aload_n 0, 1) := by decide +kernel
theorem dX4_takes_1 : decode cX4_takes 1 = .ok (.getfield 27, 3) := by decide +kernel
theorem dX4_takes_4 : decode cX4_takes 4 = .ok (.ifCond .ne 11, 3) := by decide +kernel
theorem dX4_takes_7 : decode cX4_takes 7 = .ok (.aload_n 0, 1) := by decide +kernel
theorem dX4_takes_8 : decode cX4_takes 8 = .ok (.invokevirtual 57, 3) := by decide +kernel
theorem dX4_takes_11 : decode cX4_takes 11 = .ok (.iload_n 1, 1) := by decide +kernel
theorem dX4_takes_12 : decode cX4_takes 12 = .ok (.if_icmp .eq 5, 3) := by decide +kernel
theorem dX4_takes_15 : decode cX4_takes 15 = .ok (.iconst 0, 1) := by decide +kernel
theorem dX4_takes_16 : decode cX4_takes 16 = .ok (.ireturn, 1) := by decide +kernel
theorem dX4_takes_17 : decode cX4_takes 17 = .ok (.aload_n 0, 1) := by decide +kernel
theorem dX4_takes_18 : decode cX4_takes 18 = .ok (.dup, 1) := by decide +kernel
theorem dX4_takes_19 : decode cX4_takes 19 = .ok (.getfield 24, 3) := by decide +kernel
theorem dX4_takes_22 : decode cX4_takes 22 = .ok (.iconst 1, 1) := by decide +kernel
theorem dX4_takes_23 : decode cX4_takes 23 = .ok (.iadd, 1) := by decide +kernel
theorem dX4_takes_24 : decode cX4_takes 24 = .ok (.putfield 24, 3) := by decide +kernel
theorem dX4_takes_27 : decode cX4_takes 27 = .ok (.iconst 1, 1) := by decide +kernel
theorem dX4_takes_28 : decode cX4_takes 28 = .ok (.ireturn, 1) := by decide +kernel
theorem dX4_isDigit_0 : decode cX4_isDigit 0 = .ok (.iload_n 0, 1) := by decide +kernel
theorem dX4_isDigit_1 : decode cX4_isDigit 1 = .ok (.bipush 48, 2) := by decide +kernel
theorem dX4_isDigit_3 : decode cX4_isDigit 3 = .ok (.if_icmp .lt 13, 3) := by decide +kernel
theorem dX4_isDigit_6 : decode cX4_isDigit 6 = .ok (.iload_n 0, 1) := by decide +kernel
theorem dX4_isDigit_7 : decode cX4_isDigit 7 = .ok (.bipush 57, 2) := by decide +kernel
theorem dX4_isDigit_9 : decode cX4_isDigit 9 = .ok (.if_icmp .gt 7, 3) := by decide +kernel
theorem dX4_isDigit_12 : decode cX4_isDigit 12 = .ok (.iconst 1, 1) := by decide +kernel
theorem dX4_isDigit_13 : decode cX4_isDigit 13 = .ok (.goto 4, 3) := by decide +kernel
theorem dX4_isDigit_16 : decode cX4_isDigit 16 = .ok (.iconst 0, 1) := by decide +kernel
theorem dX4_isDigit_17 : decode cX4_isDigit 17 = .ok (.ireturn, 1) := by decide +kernel
theorem dX4_nameOf_0 : decode cX4_nameOf 0 = .ok (.iload_n 0, 1) := by decide +kernel
theorem dX4_nameOf_1 : decode cX4_nameOf 1 = .ok (.tableswitch 107 102 121 #[103, 107, 101, 107, 107, 107, 107, 107, 95, 107, 107, 107, 107, 99, 107, 107, 97, 107, 107, 105], 95) := by decide +kernel
theorem dX4_nameOf_96 : decode cX4_nameOf 96 = .ok (.iconst 0, 1) := by decide +kernel
theorem dX4_nameOf_97 : decode cX4_nameOf 97 = .ok (.ireturn, 1) := by decide +kernel
theorem dX4_nameOf_98 : decode cX4_nameOf 98 = .ok (.iconst 1, 1) := by decide +kernel
theorem dX4_nameOf_99 : decode cX4_nameOf 99 = .ok (.ireturn, 1) := by decide +kernel
theorem dX4_nameOf_100 : decode cX4_nameOf 100 = .ok (.iconst 2, 1) := by decide +kernel
theorem dX4_nameOf_101 : decode cX4_nameOf 101 = .ok (.ireturn, 1) := by decide +kernel
theorem dX4_nameOf_102 : decode cX4_nameOf 102 = .ok (.iconst 3, 1) := by decide +kernel
theorem dX4_nameOf_103 : decode cX4_nameOf 103 = .ok (.ireturn, 1) := by decide +kernel
theorem dX4_nameOf_104 : decode cX4_nameOf 104 = .ok (.iconst 4, 1) := by decide +kernel
theorem dX4_nameOf_105 : decode cX4_nameOf 105 = .ok (.ireturn, 1) := by decide +kernel
theorem dX4_nameOf_106 : decode cX4_nameOf 106 = .ok (.iconst 5, 1) := by decide +kernel
theorem dX4_nameOf_107 : decode cX4_nameOf 107 = .ok (.ireturn, 1) := by decide +kernel
theorem dX4_nameOf_108 : decode cX4_nameOf 108 = .ok (.iconst (-1), 1) := by decide +kernel
theorem dX4_nameOf_109 : decode cX4_nameOf 109 = .ok (.ireturn, 1) := by decide +kernel
theorem dX5_init_0 : decode cX5_init 0 = .ok (.aload_n 0, 1) := by decide +kernel
theorem dX5_init_1 : decode cX5_init 1 = .ok (.invokespecial 3, 3) := by decide +kernel
theorem dX5_init_4 : decode cX5_init 4 = .ok (.aload_n 0, 1) := by decide +kernel
theorem dX5_init_5 : decode cX5_init 5 = .ok (.aload_n 1, 1) := by decide +kernel
theorem dX5_init_6 : decode cX5_init 6 = .ok (.putfield 9, 3) := by decide +kernel
theorem dX5_init_9 : decode cX5_init 9 = .ok (.aload_n 0, 1) := by decide +kernel
theorem dX5_init_10 : decode cX5_init 10 = .ok (.iconst 5, 1) := by decide +kernel
theorem dX5_init_11 : decode cX5_init 11 = .ok (.anewarray 15, 3) := by decide +kernel
theorem dX5_init_14 : decode cX5_init 14 = .ok (.putfield 17, 3) := by decide +kernel
theorem dX5_init_17 : decode cX5_init 17 = .ok (.iconst 0, 1) := by decide +kernel
theorem dX5_init_18 : decode cX5_init 18 = .ok (.istore_n 2, 1) := by decide +kernel
theorem dX5_init_19 : decode cX5_init 19 = .ok (.iload_n 2, 1) := by decide +kernel
theorem dX5_init_20 : decode cX5_init 20 = .ok (.iconst 5, 1) := by decide +kernel
theorem dX5_init_21 : decode cX5_init 21 = .ok (.if_icmp .ge 22, 3) := by decide +kernel
theorem dX5_init_24 : decode cX5_init 24 = .ok (.aload_n 0, 1) := by decide +kernel
theorem dX5_init_25 : decode cX5_init 25 = .ok (.getfield 17, 3) := by decide +kernel
theorem dX5_init_28 : decode cX5_init 28 = .ok (.iload_n 2, 1) := by decide +kernel
theorem dX5_init_29 : decode cX5_init 29 = .ok (.new 15, 3) := by decide +kernel
theorem dX5_init_32 : decode cX5_init 32 = .ok (.dup, 1) := by decide +kernel
theorem dX5_init_33 : decode cX5_init 33 = .ok (.invokespecial 21, 3) := by decide +kernel
theorem dX5_init_36 : decode cX5_init 36 = .ok (.aastore, 1) := by decide +kernel
theorem dX5_init_37 : decode cX5_init 37 = .ok (.iinc 2 1, 3) := by decide +kernel
theorem dX5_init_40 : decode cX5_init 40 = .ok (.goto (-21), 3) := by decide +kernel
theorem dX5_init_43 : decode cX5_init 43 = .ok (.aload_n 0, 1) := by decide +kernel
theorem dX5_init_44 : decode cX5_init 44 = .ok (.iconst 1, 1) := by decide +kernel
theorem dX5_init_45 : decode cX5_init 45 = .ok (.putfield 22, 3) := by decide +kernel
theorem dX5_init_48 : decode cX5_init 48 = .ok (.aload_n 0, 1) := by decide +kernel
theorem dX5_init_49 : decode cX5_init 49 = .ok (.bipush 6, 2) := by decide +kernel
theorem dX5_init_51 : decode cX5_init 51 = .ok (.putfield 26, 3) := by decide +kernel
theorem dX5_init_54 : decode cX5_init 54 = .ok (.aload_n 0, 1) := by decide +kernel
theorem dX5_init_55 : decode cX5_init 55 = .ok (.iconst 2, 1) := by decide +kernel
theorem dX5_init_56 : decode cX5_init 56 = .ok (.putfield 29, 3) := by decide +kernel
theorem dX5_init_59 : decode cX5_init 59 = .ok (.aload_n 0, 1) := by decide +kernel
theorem dX5_init_60 : decode cX5_init 60 = .ok (.bipush (-2), 2) := by decide +kernel
theorem dX5_init_62 : decode cX5_init 62 = .ok (.putfield 32, 3) := by decide +kernel
theorem dX5_init_65 : decode cX5_init 65 = .ok (.return_, 1) := by decide +kernel
theorem dX5_copy_0 : decode cX5_copy 0 = .ok (.iconst 0, 1) := by decide +kernel
theorem dX5_copy_1 : decode cX5_copy 1 = .ok (.istore_n 2, 1) := by decide +kernel
theorem dX5_copy_2 : decode cX5_copy 2 = .ok (.iload_n 2, 1) := by decide +kernel
theorem dX5_copy_3 : decode cX5_copy 3 = .ok (.aload_n 1, 1) := by decide +kernel
theorem dX5_copy_4 : decode cX5_copy 4 = .ok (.getfield 35, 3) := by decide +kernel
theorem dX5_copy_7 : decode cX5_copy 7 = .ok (.if_icmp .ge 24, 3) := by decide +kernel
theorem dX5_copy_10 : decode cX5_copy 10 = .ok (.aload_n 0, 1) := by decide +kernel
theorem dX5_copy_11 : decode cX5_copy 11 = .ok (.getfield 17, 3) := by decide +kernel
theorem dX5_copy_14 : decode cX5_copy 14 = .ok (.iload_n 2, 1) := by decide +kernel
theorem dX5_copy_15 : decode cX5_copy 15 = .ok (.aaload, 1) := by decide +kernel
theorem dX5_copy_16 : decode cX5_copy 16 = .ok (.aload_n 1, 1) := by decide +kernel
theorem dX5_copy_17 : decode cX5_copy 17 = .ok (.getfield 17, 3) := by decide +kernel
theorem dX5_copy_20 : decode cX5_copy 20 = .ok (.iload_n 2, 1) := by decide +kernel
theorem dX5_copy_21 : decode cX5_copy 21 = .ok (.aaload, 1) := by decide +kernel
theorem dX5_copy_22 : decode cX5_copy 22 = .ok (.invokevirtual 38, 3) := by decide +kernel
theorem dX5_copy_25 : decode cX5_copy 25 = .ok (.iinc 2 1, 3) := by decide +kernel
theorem dX5_copy_28 : decode cX5_copy 28 = .ok (.goto (-26), 3) := by decide +kernel
theorem dX5_copy_31 : decode cX5_copy 31 = .ok (.aload_n 0, 1) := by decide +kernel
theorem dX5_copy_32 : decode cX5_copy 32 = .ok (.aload_n 1, 1) := by decide +kernel
theorem dX5_copy_33 : decode cX5_copy 33 = .ok (.getfield 35, 3) := by decide +kernel
theorem dX5_copy_36 : decode cX5_copy 36 = .ok (.putfield 35, 3) := by decide +kernel
theorem dX5_copy_39 : decode cX5_copy 39 = .ok (.aload_n 0, 1) := by decide +kernel
theorem dX5_copy_40 : decode cX5_copy 40 = .ok (.aload_n 1, 1) := by decide +kernel
theorem dX5_copy_41 : decode cX5_copy 41 = .ok (.getfield 42, 3) := by decide +kernel
theorem dX5_copy_44 : decode cX5_copy 44 = .ok (.putfield 42, 3) := by decide +kernel
theorem dX5_copy_47 : decode cX5_copy 47 = .ok (.aload_n 0, 1) := by decide +kernel
theorem dX5_copy_48 : decode cX5_copy 48 = .ok (.aload_n 1, 1) := by decide +kernel
theorem dX5_copy_49 : decode cX5_copy 49 = .ok (.getfield 22, 3) := by decide +kernel
theorem dX5_copy_52 : decode cX5_copy 52 = .ok (.putfield 22, 3) := by decide +kernel
theorem dX5_copy_55 : decode cX5_copy 55 = .ok (.aload_n 0, 1) := by decide +kernel
theorem dX5_copy_56 : decode cX5_copy 56 = .ok (.aload_n 1, 1) := by decide +kernel
theorem dX5_copy_57 : decode cX5_copy 57 = .ok (.getfield 26, 3) := by decide +kernel
theorem dX5_copy_60 : decode cX5_copy 60 = .ok (.putfield 26, 3) := by decide +kernel
theorem dX5_copy_63 : decode cX5_copy 63 = .ok (.aload_n 0, 1) := by decide +kernel
theorem dX5_copy_64 : decode cX5_copy 64 = .ok (.aload_n 1, 1) := by decide +kernel
theorem dX5_copy_65 : decode cX5_copy 65 = .ok (.getfield 45, 3) := by decide +kernel
theorem dX5_copy_68 : decode cX5_copy 68 = .ok (.putfield 45, 3) := by decide +kernel
theorem dX5_copy_71 : decode cX5_copy 71 = .ok (.aload_n 0, 1) := by decide +kernel
theorem dX5_copy_72 : decode cX5_copy 72 = .ok (.aload_n 1, 1) := by decide +kernel
theorem dX5_copy_73 : decode cX5_copy 73 = .ok (.getfield 29, 3) := by decide +kernel
theorem dX5_copy_76 : decode cX5_copy 76 = .ok (.putfield 29, 3) := by decide +kernel
theorem dX5_copy_79 : decode cX5_copy 79 = .ok (.aload_n 0, 1) := by decide +kernel
theorem dX5_copy_80 : decode cX5_copy 80 = .ok (.aload_n 1, 1) := by decide +kernel
theorem dX5_copy_81 : decode cX5_copy 81 = .ok (.getfield 48, 3) := by decide +kernel
theorem dX5_copy_84 : decode cX5_copy 84 = .ok (.putfield 48, 3) := by decide +kernel
theorem dX5_copy_87 : decode cX5_copy 87 = .ok (.aload_n 0, 1) := by decide +kernel
theorem dX5_copy_88 : decode cX5_copy 88 = .ok (.aload_n 1, 1) := by decide +kernel
theorem dX5_copy_89 : decode cX5_copy 89 = .ok (.getfield 32, 3) := by decide +kernel
theorem dX5_copy_92 : decode cX5_copy 92 = .ok (.putfield 32, 3) := by decide +kernel
theorem dX5_copy_95 : decode cX5_copy 95 = .ok (.return_, 1) := by decide +kernel
theorem dX5_layBack_0 : decode cX5_layBack 0 = .ok (.iconst 0, 1) := by decide +kernel
theorem dX5_layBack_1 : decode cX5_layBack 1 = .ok (.istore_n 2, 1) := by decide +kernel
theorem dX5_layBack_2 : decode cX5_layBack 2 = .ok (.iload_n 2, 1) := by decide +kernel
theorem dX5_layBack_3 : decode cX5_layBack 3 = .ok (.aload_n 1, 1) := by decide +kernel
theorem dX5_layBack_4 : decode cX5_layBack 4 = .ok (.getfield 35, 3) := by decide +kernel
theorem dX5_layBack_7 : decode cX5_layBack 7 = .ok (.if_icmp .ge 32, 3) := by decide +kernel
theorem dX5_layBack_10 : decode cX5_layBack 10 = .ok (.iload_n 2, 1) := by decide +kernel
theorem dX5_layBack_11 : decode cX5_layBack 11 = .ok (.aload_n 0, 1) := by decide +kernel
theorem dX5_layBack_12 : decode cX5_layBack 12 = .ok (.getfield 35, 3) := by decide +kernel
theorem dX5_layBack_15 : decode cX5_layBack 15 = .ok (.if_icmp .ge 24, 3) := by decide +kernel
theorem dX5_layBack_18 : decode cX5_layBack 18 = .ok (.aload_n 0, 1) := by decide +kernel
theorem dX5_layBack_19 : decode cX5_layBack 19 = .ok (.getfield 17, 3) := by decide +kernel
theorem dX5_layBack_22 : decode cX5_layBack 22 = .ok (.iload_n 2, 1) := by decide +kernel
theorem dX5_layBack_23 : decode cX5_layBack 23 = .ok (.aaload, 1) := by decide +kernel
theorem dX5_layBack_24 : decode cX5_layBack 24 = .ok (.aload_n 1, 1) := by decide +kernel
theorem dX5_layBack_25 : decode cX5_layBack 25 = .ok (.getfield 17, 3) := by decide +kernel
theorem dX5_layBack_28 : decode cX5_layBack 28 = .ok (.iload_n 2, 1) := by decide +kernel
theorem dX5_layBack_29 : decode cX5_layBack 29 = .ok (.aaload, 1) := by decide +kernel
theorem dX5_layBack_30 : decode cX5_layBack 30 = .ok (.invokevirtual 51, 3) := by decide +kernel
theorem dX5_layBack_33 : decode cX5_layBack 33 = .ok (.iinc 2 1, 3) := by decide +kernel
theorem dX5_layBack_36 : decode cX5_layBack 36 = .ok (.goto (-34), 3) := by decide +kernel
theorem dX5_layBack_39 : decode cX5_layBack 39 = .ok (.aload_n 0, 1) := by decide +kernel
theorem dX5_layBack_40 : decode cX5_layBack 40 = .ok (.aload_n 1, 1) := by decide +kernel
theorem dX5_layBack_41 : decode cX5_layBack 41 = .ok (.getfield 42, 3) := by decide +kernel
theorem dX5_layBack_44 : decode cX5_layBack 44 = .ok (.putfield 42, 3) := by decide +kernel
theorem dX5_layBack_47 : decode cX5_layBack 47 = .ok (.aload_n 0, 1) := by decide +kernel
theorem dX5_layBack_48 : decode cX5_layBack 48 = .ok (.aload_n 1, 1) := by decide +kernel
theorem dX5_layBack_49 : decode cX5_layBack 49 = .ok (.getfield 48, 3) := by decide +kernel
theorem dX5_layBack_52 : decode cX5_layBack 52 = .ok (.putfield 48, 3) := by decide +kernel
theorem dX5_layBack_55 : decode cX5_layBack 55 = .ok (.aload_n 0, 1) := by decide +kernel
theorem dX5_layBack_56 : decode cX5_layBack 56 = .ok (.aload_n 1, 1) := by decide +kernel
theorem dX5_layBack_57 : decode cX5_layBack 57 = .ok (.getfield 32, 3) := by decide +kernel
theorem dX5_layBack_60 : decode cX5_layBack 60 = .ok (.putfield 32, 3) := by decide +kernel
theorem dX5_layBack_63 : decode cX5_layBack 63 = .ok (.return_, 1) := by decide +kernel
theorem dX5_has_0 : decode cX5_has 0 = .ok (.iload_n 1, 1) := by decide +kernel
theorem dX5_has_1 : decode cX5_has 1 = .ok (.ifCond .lt 15, 3) := by decide +kernel
theorem dX5_has_4 : decode cX5_has 4 = .ok (.iload_n 1, 1) := by decide +kernel
theorem dX5_has_5 : decode cX5_has 5 = .ok (.aload_n 0, 1) := by decide +kernel
theorem dX5_has_6 : decode cX5_has 6 = .ok (.getfield 35, 3) := by decide +kernel
theorem dX5_has_9 : decode cX5_has 9 = .ok (.if_icmp .ge 7, 3) := by decide +kernel
theorem dX5_has_12 : decode cX5_has 12 = .ok (.iconst 1, 1) := by decide +kernel
theorem dX5_has_13 : decode cX5_has 13 = .ok (.goto 4, 3) := by decide +kernel
theorem dX5_has_16 : decode cX5_has 16 = .ok (.iconst 0, 1) := by decide +kernel
theorem dX5_has_17 : decode cX5_has 17 = .ok (.ireturn, 1) := by decide +kernel
theorem dX5_isFull_0 : decode cX5_isFull 0 = .ok (.aload_n 0, 1) := by decide +kernel
theorem dX5_isFull_1 : decode cX5_isFull 1 = .ok (.getfield 35, 3) := by decide +kernel
theorem dX5_isFull_4 : decode cX5_isFull 4 = .ok (.iconst 5, 1) := by decide +kernel
theorem dX5_isFull_5 : decode cX5_isFull 5 = .ok (.if_icmp .lt 7, 3) := by decide +kernel
theorem dX5_isFull_8 : decode cX5_isFull 8 = .ok (.iconst 1, 1) := by decide +kernel
theorem dX5_isFull_9 : decode cX5_isFull 9 = .ok (.goto 4, 3) := by decide +kernel
theorem dX5_isFull_12 : decode cX5_isFull 12 = .ok (.iconst 0, 1) := by decide +kernel
theorem dX5_isFull_13 : decode cX5_isFull 13 = .ok (.ireturn, 1) := by decide +kernel
theorem dX5_addHoop_0 : decode cX5_addHoop 0 = .ok (.aload_n 0, 1) := by decide +kernel
theorem dX5_addHoop_1 : decode cX5_addHoop 1 = .ok (.invokevirtual 54, 3) := by decide +kernel
theorem dX5_addHoop_4 : decode cX5_addHoop 4 = .ok (.ifCond .eq 6, 3) := by decide +kernel
theorem dX5_addHoop_7 : decode cX5_addHoop 7 = .ok (.bipush (-3), 2) := by decide +kernel
theorem dX5_addHoop_9 : decode cX5_addHoop 9 = .ok (.ireturn, 1) := by decide +kernel
theorem dX5_addHoop_10 : decode cX5_addHoop 10 = .ok (.aload_n 0, 1) := by decide +kernel
theorem dX5_addHoop_11 : decode cX5_addHoop 11 = .ok (.getfield 17, 3) := by decide +kernel
theorem dX5_addHoop_14 : decode cX5_addHoop 14 = .ok (.aload_n 0, 1) := by decide +kernel
theorem dX5_addHoop_15 : decode cX5_addHoop 15 = .ok (.getfield 35, 3) := by decide +kernel
theorem dX5_addHoop_18 : decode cX5_addHoop 18 = .ok (.aaload, 1) := by decide +kernel
theorem dX5_addHoop_19 : decode cX5_addHoop 19 = .ok (.astore 4, 2) := by decide +kernel
theorem dX5_addHoop_21 : decode cX5_addHoop 21 = .ok (.aload 4, 2) := by decide +kernel
theorem dX5_addHoop_23 : decode cX5_addHoop 23 = .ok (.iload_n 1, 1) := by decide +kernel
theorem dX5_addHoop_24 : decode cX5_addHoop 24 = .ok (.putfield 58, 3) := by decide +kernel
theorem dX5_addHoop_27 : decode cX5_addHoop 27 = .ok (.aload 4, 2) := by decide +kernel
theorem dX5_addHoop_29 : decode cX5_addHoop 29 = .ok (.iload_n 2, 1) := by decide +kernel
theorem dX5_addHoop_30 : decode cX5_addHoop 30 = .ok (.putfield 61, 3) := by decide +kernel
theorem dX5_addHoop_33 : decode cX5_addHoop 33 = .ok (.aload 4, 2) := by decide +kernel
theorem dX5_addHoop_35 : decode cX5_addHoop 35 = .ok (.invokevirtual 64, 3) := by decide +kernel
theorem dX5_addHoop_38 : decode cX5_addHoop 38 = .ok (.aload 4, 2) := by decide +kernel
theorem dX5_addHoop_40 : decode cX5_addHoop 40 = .ok (.iload_n 3, 1) := by decide +kernel
theorem dX5_addHoop_41 : decode cX5_addHoop 41 = .ok (.putfield 67, 3) := by decide +kernel
theorem dX5_addHoop_44 : decode cX5_addHoop 44 = .ok (.aload_n 0, 1) := by decide +kernel
theorem dX5_addHoop_45 : decode cX5_addHoop 45 = .ok (.dup, 1) := by decide +kernel
theorem dX5_addHoop_46 : decode cX5_addHoop 46 = .ok (.getfield 35, 3) := by decide +kernel
theorem dX5_addHoop_49 : decode cX5_addHoop 49 = .ok (.iconst 1, 1) := by decide +kernel
theorem dX5_addHoop_50 : decode cX5_addHoop 50 = .ok (.iadd, 1) := by decide +kernel
theorem dX5_addHoop_51 : decode cX5_addHoop 51 = .ok (.putfield 35, 3) := by decide +kernel
theorem dX5_addHoop_54 : decode cX5_addHoop 54 = .ok (.aload_n 0, 1) := by decide +kernel
theorem dX5_addHoop_55 : decode cX5_addHoop 55 = .ok (.getfield 35, 3) := by decide +kernel
theorem dX5_addHoop_58 : decode cX5_addHoop 58 = .ok (.iconst 1, 1) := by decide +kernel
theorem dX5_addHoop_59 : decode cX5_addHoop 59 = .ok (.isub, 1) := by decide +kernel
theorem dX5_addHoop_60 : decode cX5_addHoop 60 = .ok (.ireturn, 1) := by decide +kernel
theorem dX5_upright_0 : decode cX5_upright 0 = .ok (.iconst 0, 1) := by decide +kernel
theorem dX5_upright_1 : decode cX5_upright 1 = .ok (.istore_n 1, 1) := by decide +kernel
theorem dX5_upright_2 : decode cX5_upright 2 = .ok (.iconst 0, 1) := by decide +kernel
theorem dX5_upright_3 : decode cX5_upright 3 = .ok (.istore_n 2, 1) := by decide +kernel
theorem dX5_upright_4 : decode cX5_upright 4 = .ok (.iload_n 2, 1) := by decide +kernel
theorem dX5_upright_5 : decode cX5_upright 5 = .ok (.aload_n 0, 1) := by decide +kernel
theorem dX5_upright_6 : decode cX5_upright 6 = .ok (.getfield 35, 3) := by decide +kernel
theorem dX5_upright_9 : decode cX5_upright 9 = .ok (.if_icmp .ge 24, 3) := by decide +kernel
theorem dX5_upright_12 : decode cX5_upright 12 = .ok (.aload_n 0, 1) := by decide +kernel
theorem dX5_upright_13 : decode cX5_upright 13 = .ok (.getfield 17, 3) := by decide +kernel
theorem dX5_upright_16 : decode cX5_upright 16 = .ok (.iload_n 2, 1) := by decide +kernel
theorem dX5_upright_17 : decode cX5_upright 17 = .ok (.aaload, 1) := by decide +kernel
theorem dX5_upright_18 : decode cX5_upright 18 = .ok (.invokevirtual 70, 3) := by decide +kernel
theorem dX5_upright_21 : decode cX5_upright 21 = .ok (.ifCond .ne 6, 3) := by decide +kernel
theorem dX5_upright_24 : decode cX5_upright 24 = .ok (.iinc 1 1, 3) := by decide +kernel
theorem dX5_upright_27 : decode cX5_upright 27 = .ok (.iinc 2 1, 3) := by decide +kernel
theorem dX5_upright_30 : decode cX5_upright 30 = .ok (.goto (-26), 3) := by decide +kernel
theorem dX5_upright_33 : decode cX5_upright 33 = .ok (.iload_n 1, 1) := by decide +kernel
theorem dX5_upright_34 : decode cX5_upright 34 = .ok (.ireturn, 1) := by decide +kernel
theorem dX5_allUp_0 : decode cX5_allUp 0 = .ok (.iconst 0, 1) := by decide +kernel
theorem dX5_allUp_1 : decode cX5_allUp 1 = .ok (.istore_n 2, 1) := by decide +kernel
theorem dX5_allUp_2 : decode cX5_allUp 2 = .ok (.iload_n 2, 1) := by decide +kernel
theorem dX5_allUp_3 : decode cX5_allUp 3 = .ok (.aload_n 0, 1) := by decide +kernel
theorem dX5_allUp_4 : decode cX5_allUp 4 = .ok (.getfield 35, 3) := by decide +kernel
theorem dX5_allUp_7 : decode cX5_allUp 7 = .ok (.if_icmp .ge 32, 3) := by decide +kernel
theorem dX5_allUp_10 : decode cX5_allUp 10 = .ok (.iload_n 1, 1) := by decide +kernel
theorem dX5_allUp_11 : decode cX5_allUp 11 = .ok (.iload_n 2, 1) := by decide +kernel
theorem dX5_allUp_12 : decode cX5_allUp 12 = .ok (.ishr, 1) := by decide +kernel
theorem dX5_allUp_13 : decode cX5_allUp 13 = .ok (.iconst 1, 1) := by decide +kernel
theorem dX5_allUp_14 : decode cX5_allUp 14 = .ok (.iand, 1) := by decide +kernel
theorem dX5_allUp_15 : decode cX5_allUp 15 = .ok (.iconst 1, 1) := by decide +kernel
theorem dX5_allUp_16 : decode cX5_allUp 16 = .ok (.if_icmp .ne 17, 3) := by decide +kernel
theorem dX5_allUp_19 : decode cX5_allUp 19 = .ok (.aload_n 0, 1) := by decide +kernel
theorem dX5_allUp_20 : decode cX5_allUp 20 = .ok (.getfield 17, 3) := by decide +kernel
theorem dX5_allUp_23 : decode cX5_allUp 23 = .ok (.iload_n 2, 1) := by decide +kernel
theorem dX5_allUp_24 : decode cX5_allUp 24 = .ok (.aaload, 1) := by decide +kernel
theorem dX5_allUp_25 : decode cX5_allUp 25 = .ok (.invokevirtual 70, 3) := by decide +kernel
theorem dX5_allUp_28 : decode cX5_allUp 28 = .ok (.ifCond .eq 5, 3) := by decide +kernel
theorem dX5_allUp_31 : decode cX5_allUp 31 = .ok (.iconst 0, 1) := by decide +kernel
theorem dX5_allUp_32 : decode cX5_allUp 32 = .ok (.ireturn, 1) := by decide +kernel
theorem dX5_allUp_33 : decode cX5_allUp 33 = .ok (.iinc 2 1, 3) := by decide +kernel
theorem dX5_allUp_36 : decode cX5_allUp 36 = .ok (.goto (-34), 3) := by decide +kernel
theorem dX5_allUp_39 : decode cX5_allUp 39 = .ok (.iconst 1, 1) := by decide +kernel
theorem dX5_allUp_40 : decode cX5_allUp 40 = .ok (.ireturn, 1) := by decide +kernel
theorem dX5_allHighest_0 : decode cX5_allHighest 0 = .ok (.iconst 0, 1) := by decide +kernel
theorem dX5_allHighest_1 : decode cX5_allHighest 1 = .ok (.istore_n 1, 1) := by decide +kernel
theorem dX5_allHighest_2 : decode cX5_allHighest 2 = .ok (.iload_n 1, 1) := by decide +kernel
theorem dX5_allHighest_3 : decode cX5_allHighest 3 = .ok (.aload_n 0, 1) := by decide +kernel
theorem dX5_allHighest_4 : decode cX5_allHighest 4 = .ok (.getfield 35, 3) := by decide +kernel
theorem dX5_allHighest_7 : decode cX5_allHighest 7 = .ok (.if_icmp .ge 25, 3) := by decide +kernel
theorem dX5_allHighest_10 : decode cX5_allHighest 10 = .ok (.aload_n 0, 1) := by decide +kernel
theorem dX5_allHighest_11 : decode cX5_allHighest 11 = .ok (.getfield 17, 3) := by decide +kernel
theorem dX5_allHighest_14 : decode cX5_allHighest 14 = .ok (.iload_n 1, 1) := by decide +kernel
theorem dX5_allHighest_15 : decode cX5_allHighest 15 = .ok (.aaload, 1) := by decide +kernel
theorem dX5_allHighest_16 : decode cX5_allHighest 16 = .ok (.getfield 73, 3) := by decide +kernel
theorem dX5_allHighest_19 : decode cX5_allHighest 19 = .ok (.bipush 20, 2) := by decide +kernel
theorem dX5_allHighest_21 : decode cX5_allHighest 21 = .ok (.if_icmp .ge 5, 3) := by decide +kernel
theorem dX5_allHighest_24 : decode cX5_allHighest 24 = .ok (.iconst 0, 1) := by decide +kernel
theorem dX5_allHighest_25 : decode cX5_allHighest 25 = .ok (.ireturn, 1) := by decide +kernel
theorem dX5_allHighest_26 : decode cX5_allHighest 26 = .ok (.iinc 1 1, 3) := by decide +kernel
theorem dX5_allHighest_29 : decode cX5_allHighest 29 = .ok (.goto (-27), 3) := by decide +kernel
theorem dX5_allHighest_32 : decode cX5_allHighest 32 = .ok (.iconst 1, 1) := by decide +kernel
theorem dX5_allHighest_33 : decode cX5_allHighest 33 = .ok (.ireturn, 1) := by decide +kernel
theorem dX5_layAllBut_0 : decode cX5_layAllBut 0 = .ok (.iconst 0, 1) := by decide +kernel
theorem dX5_layAllBut_1 : decode cX5_layAllBut 1 = .ok (.istore_n 2, 1) := by decide +kernel
theorem dX5_layAllBut_2 : decode cX5_layAllBut 2 = .ok (.iload_n 2, 1) := by decide +kernel
theorem dX5_layAllBut_3 : decode cX5_layAllBut 3 = .ok (.aload_n 0, 1) := by decide +kernel
theorem dX5_layAllBut_4 : decode cX5_layAllBut 4 = .ok (.getfield 35, 3) := by decide +kernel
theorem dX5_layAllBut_7 : decode cX5_layAllBut 7 = .ok (.if_icmp .ge 26, 3) := by decide +kernel
theorem dX5_layAllBut_10 : decode cX5_layAllBut 10 = .ok (.iload_n 1, 1) := by decide +kernel
theorem dX5_layAllBut_11 : decode cX5_layAllBut 11 = .ok (.iload_n 2, 1) := by decide +kernel
theorem dX5_layAllBut_12 : decode cX5_layAllBut 12 = .ok (.ishr, 1) := by decide +kernel
theorem dX5_layAllBut_13 : decode cX5_layAllBut 13 = .ok (.iconst 1, 1) := by decide +kernel
theorem dX5_layAllBut_14 : decode cX5_layAllBut 14 = .ok (.iand, 1) := by decide +kernel
theorem dX5_layAllBut_15 : decode cX5_layAllBut 15 = .ok (.ifCond .ne 12, 3) := by decide +kernel
theorem dX5_layAllBut_18 : decode cX5_layAllBut 18 = .ok (.aload_n 0, 1) := by decide +kernel
theorem dX5_layAllBut_19 : decode cX5_layAllBut 19 = .ok (.getfield 17, 3) := by decide +kernel
theorem dX5_layAllBut_22 : decode cX5_layAllBut 22 = .ok (.iload_n 2, 1) := by decide +kernel
theorem dX5_layAllBut_23 : decode cX5_layAllBut 23 = .ok (.aaload, 1) := by decide +kernel
theorem dX5_layAllBut_24 : decode cX5_layAllBut 24 = .ok (.invokevirtual 76, 3) := by decide +kernel
theorem dX5_layAllBut_27 : decode cX5_layAllBut 27 = .ok (.iinc 2 1, 3) := by decide +kernel
theorem dX5_layAllBut_30 : decode cX5_layAllBut 30 = .ok (.goto (-28), 3) := by decide +kernel
theorem dX5_layAllBut_33 : decode cX5_layAllBut 33 = .ok (.return_, 1) := by decide +kernel
theorem dX5_isPushDue_0 : decode cX5_isPushDue 0 = .ok (.aload_n 0, 1) := by decide +kernel
theorem dX5_isPushDue_1 : decode cX5_isPushDue 1 = .ok (.getfield 42, 3) := by decide +kernel
theorem dX5_isPushDue_4 : decode cX5_isPushDue 4 = .ok (.aload_n 0, 1) := by decide +kernel
theorem dX5_isPushDue_5 : decode cX5_isPushDue 5 = .ok (.getfield 26, 3) := by decide +kernel
theorem dX5_isPushDue_8 : decode cX5_isPushDue 8 = .ok (.invokestatic 79, 3) := by decide +kernel
theorem dX5_isPushDue_11 : decode cX5_isPushDue 11 = .ok (.aload_n 0, 1) := by decide +kernel
theorem dX5_isPushDue_12 : decode cX5_isPushDue 12 = .ok (.getfield 45, 3) := by decide +kernel
theorem dX5_isPushDue_15 : decode cX5_isPushDue 15 = .ok (.aload_n 0, 1) := by decide +kernel
theorem dX5_isPushDue_16 : decode cX5_isPushDue 16 = .ok (.getfield 26, 3) := by decide +kernel
theorem dX5_isPushDue_19 : decode cX5_isPushDue 19 = .ok (.invokestatic 79, 3) := by decide +kernel
theorem dX5_isPushDue_22 : decode cX5_isPushDue 22 = .ok (.if_icmp .ne 7, 3) := by decide +kernel
theorem dX5_isPushDue_25 : decode cX5_isPushDue 25 = .ok (.iconst 1, 1) := by decide +kernel
theorem dX5_isPushDue_26 : decode cX5_isPushDue 26 = .ok (.goto 4, 3) := by decide +kernel
theorem dX5_isPushDue_29 : decode cX5_isPushDue 29 = .ok (.iconst 0, 1) := by decide +kernel
theorem dX5_isPushDue_30 : decode cX5_isPushDue 30 = .ok (.ireturn, 1) := by decide +kernel
theorem dX5_goalInTurn_0 : decode cX5_goalInTurn 0 = .ok (.aload_n 0, 1) := by decide +kernel
theorem dX5_goalInTurn_1 : decode cX5_goalInTurn 1 = .ok (.getfield 26, 3) := by decide +kernel
theorem dX5_goalInTurn_4 : decode cX5_goalInTurn 4 = .ok (.ifCond .ne 7, 3) := by decide +kernel
theorem dX5_goalInTurn_7 : decode cX5_goalInTurn 7 = .ok (.iconst 0, 1) := by decide +kernel
theorem dX5_goalInTurn_8 : decode cX5_goalInTurn 8 = .ok (.goto 12, 3) := by decide +kernel
theorem dX5_goalInTurn_11 : decode cX5_goalInTurn 11 = .ok (.aload_n 0, 1) := by decide +kernel
theorem dX5_goalInTurn_12 : decode cX5_goalInTurn 12 = .ok (.getfield 42, 3) := by decide +kernel
theorem dX5_goalInTurn_15 : decode cX5_goalInTurn 15 = .ok (.aload_n 0, 1) := by decide +kernel
theorem dX5_goalInTurn_16 : decode cX5_goalInTurn 16 = .ok (.getfield 26, 3) := by decide +kernel
theorem dX5_goalInTurn_19 : decode cX5_goalInTurn 19 = .ok (.idiv, 1) := by decide +kernel
theorem dX5_goalInTurn_20 : decode cX5_goalInTurn 20 = .ok (.invokestatic 83, 3) := by decide +kernel
theorem dX5_goalInTurn_23 : decode cX5_goalInTurn 23 = .ok (.ireturn, 1) := by decide +kernel
theorem dX5_tick_0 : decode cX5_tick 0 = .ok (.aload_n 0, 1) := by decide +kernel
theorem dX5_tick_1 : decode cX5_tick 1 = .ok (.invokevirtual 87, 3) := by decide +kernel
theorem dX5_tick_4 : decode cX5_tick 4 = .ok (.ifCond .eq 25, 3) := by decide +kernel
theorem dX5_tick_7 : decode cX5_tick 7 = .ok (.aload_n 0, 1) := by decide +kernel
theorem dX5_tick_8 : decode cX5_tick 8 = .ok (.aload_n 0, 1) := by decide +kernel
theorem dX5_tick_9 : decode cX5_tick 9 = .ok (.getfield 29, 3) := by decide +kernel
theorem dX5_tick_12 : decode cX5_tick 12 = .ok (.aload_n 0, 1) := by decide +kernel
theorem dX5_tick_13 : decode cX5_tick 13 = .ok (.invokevirtual 90, 3) := by decide +kernel
theorem dX5_tick_16 : decode cX5_tick 16 = .ok (.invokevirtual 94, 3) := by decide +kernel
theorem dX5_tick_19 : decode cX5_tick 19 = .ok (.aload_n 0, 1) := by decide +kernel
theorem dX5_tick_20 : decode cX5_tick 20 = .ok (.dup, 1) := by decide +kernel
theorem dX5_tick_21 : decode cX5_tick 21 = .ok (.getfield 48, 3) := by decide +kernel
theorem dX5_tick_24 : decode cX5_tick 24 = .ok (.iconst 1, 1) := by decide +kernel
theorem dX5_tick_25 : decode cX5_tick 25 = .ok (.iadd, 1) := by decide +kernel
theorem dX5_tick_26 : decode cX5_tick 26 = .ok (.putfield 48, 3) := by decide +kernel
theorem dX5_tick_29 : decode cX5_tick 29 = .ok (.aload_n 0, 1) := by decide +kernel
theorem dX5_tick_30 : decode cX5_tick 30 = .ok (.invokevirtual 98, 3) := by decide +kernel
theorem dX5_tick_33 : decode cX5_tick 33 = .ok (.return_, 1) := by decide +kernel
theorem dX5_push_0 : decode cX5_push 0 = .ok (.iconst 0, 1) := by decide +kernel
theorem dX5_push_1 : decode cX5_push 1 = .ok (.istore_n 3, 1) := by decide +kernel
theorem dX5_push_2 : decode cX5_push 2 = .ok (.iload_n 3, 1) := by decide +kernel
theorem dX5_push_3 : decode cX5_push 3 = .ok (.aload_n 0, 1) := by decide +kernel
theorem dX5_push_4 : decode cX5_push 4 = .ok (.getfield 35, 3) := by decide +kernel
theorem dX5_push_7 : decode cX5_push 7 = .ok (.if_icmp .ge 45, 3) := by decide +kernel
theorem dX5_push_10 : decode cX5_push 10 = .ok (.aload_n 0, 1) := by decide +kernel
theorem dX5_push_11 : decode cX5_push 11 = .ok (.getfield 17, 3) := by decide +kernel
theorem dX5_push_14 : decode cX5_push 14 = .ok (.iload_n 3, 1) := by decide +kernel
theorem dX5_push_15 : decode cX5_push 15 = .ok (.aaload, 1) := by decide +kernel
theorem dX5_push_16 : decode cX5_push 16 = .ok (.invokevirtual 70, 3) := by decide +kernel
theorem dX5_push_19 : decode cX5_push 19 = .ok (.ifCond .ne 27, 3) := by decide +kernel
theorem dX5_push_22 : decode cX5_push 22 = .ok (.aload_n 0, 1) := by decide +kernel
theorem dX5_push_23 : decode cX5_push 23 = .ok (.getfield 17, 3) := by decide +kernel
theorem dX5_push_26 : decode cX5_push 26 = .ok (.iload_n 3, 1) := by decide +kernel
theorem dX5_push_27 : decode cX5_push 27 = .ok (.aaload, 1) := by decide +kernel
theorem dX5_push_28 : decode cX5_push 28 = .ok (.aload_n 0, 1) := by decide +kernel
theorem dX5_push_29 : decode cX5_push 29 = .ok (.getfield 9, 3) := by decide +kernel
theorem dX5_push_32 : decode cX5_push 32 = .ok (.aload_n 0, 1) := by decide +kernel
theorem dX5_push_33 : decode cX5_push 33 = .ok (.getfield 17, 3) := by decide +kernel
theorem dX5_push_36 : decode cX5_push 36 = .ok (.iload_n 3, 1) := by decide +kernel
theorem dX5_push_37 : decode cX5_push 37 = .ok (.aaload, 1) := by decide +kernel
theorem dX5_push_38 : decode cX5_push 38 = .ok (.iload_n 2, 1) := by decide +kernel
theorem dX5_push_39 : decode cX5_push 39 = .ok (.iload_n 1, 1) := by decide +kernel
theorem dX5_push_40 : decode cX5_push 40 = .ok (.invokevirtual 101, 3) := by decide +kernel
theorem dX5_push_43 : decode cX5_push 43 = .ok (.invokevirtual 107, 3) := by decide +kernel
theorem dX5_push_46 : decode cX5_push 46 = .ok (.iinc 3 1, 3) := by decide +kernel
theorem dX5_push_49 : decode cX5_push 49 = .ok (.goto (-47), 3) := by decide +kernel
theorem dX5_push_52 : decode cX5_push 52 = .ok (.return_, 1) := by decide +kernel
theorem dX5_settle_0 : decode cX5_settle 0 = .ok (.iconst 0, 1) := by decide +kernel
theorem dX5_settle_1 : decode cX5_settle 1 = .ok (.istore_n 1, 1) := by decide +kernel
theorem dX5_settle_2 : decode cX5_settle 2 = .ok (.iload_n 1, 1) := by decide +kernel
theorem dX5_settle_3 : decode cX5_settle 3 = .ok (.aload_n 0, 1) := by decide +kernel
theorem dX5_settle_4 : decode cX5_settle 4 = .ok (.getfield 35, 3) := by decide +kernel
theorem dX5_settle_7 : decode cX5_settle 7 = .ok (.if_icmp .ge 53, 3) := by decide +kernel
theorem dX5_settle_10 : decode cX5_settle 10 = .ok (.aload_n 0, 1) := by decide +kernel
theorem dX5_settle_11 : decode cX5_settle 11 = .ok (.getfield 42, 3) := by decide +kernel
theorem dX5_settle_14 : decode cX5_settle 14 = .ok (.iconst 1, 1) := by decide +kernel
theorem dX5_settle_15 : decode cX5_settle 15 = .ok (.iadd, 1) := by decide +kernel
theorem dX5_settle_16 : decode cX5_settle 16 = .ok (.aload_n 0, 1) := by decide +kernel
theorem dX5_settle_17 : decode cX5_settle 17 = .ok (.getfield 17, 3) := by decide +kernel
theorem dX5_settle_20 : decode cX5_settle 20 = .ok (.iload_n 1, 1) := by decide +kernel
theorem dX5_settle_21 : decode cX5_settle 21 = .ok (.aaload, 1) := by decide +kernel
theorem dX5_settle_22 : decode cX5_settle 22 = .ok (.getfield 61, 3) := by decide +kernel
theorem dX5_settle_25 : decode cX5_settle 25 = .ok (.invokestatic 79, 3) := by decide +kernel
theorem dX5_settle_28 : decode cX5_settle 28 = .ok (.ifCond .ne 17, 3) := by decide +kernel
theorem dX5_settle_31 : decode cX5_settle 31 = .ok (.aload_n 0, 1) := by decide +kernel
theorem dX5_settle_32 : decode cX5_settle 32 = .ok (.getfield 17, 3) := by decide +kernel
theorem dX5_settle_35 : decode cX5_settle 35 = .ok (.iload_n 1, 1) := by decide +kernel
theorem dX5_settle_36 : decode cX5_settle 36 = .ok (.aaload, 1) := by decide +kernel
theorem dX5_settle_37 : decode cX5_settle 37 = .ok (.aload_n 0, 1) := by decide +kernel
theorem dX5_settle_38 : decode cX5_settle 38 = .ok (.getfield 22, 3) := by decide +kernel
theorem dX5_settle_41 : decode cX5_settle 41 = .ok (.ineg, 1) := by decide +kernel
theorem dX5_settle_42 : decode cX5_settle 42 = .ok (.invokevirtual 107, 3) := by decide +kernel
theorem dX5_settle_45 : decode cX5_settle 45 = .ok (.aload_n 0, 1) := by decide +kernel
theorem dX5_settle_46 : decode cX5_settle 46 = .ok (.getfield 17, 3) := by decide +kernel
theorem dX5_settle_49 : decode cX5_settle 49 = .ok (.iload_n 1, 1) := by decide +kernel
theorem dX5_settle_50 : decode cX5_settle 50 = .ok (.aaload, 1) := by decide +kernel
theorem dX5_settle_51 : decode cX5_settle 51 = .ok (.invokevirtual 111, 3) := by decide +kernel
theorem dX5_settle_54 : decode cX5_settle 54 = .ok (.iinc 1 1, 3) := by decide +kernel
theorem dX5_settle_57 : decode cX5_settle 57 = .ok (.goto (-55), 3) := by decide +kernel
theorem dX5_settle_60 : decode cX5_settle 60 = .ok (.aload_n 0, 1) := by decide +kernel
theorem dX5_settle_61 : decode cX5_settle 61 = .ok (.invokevirtual 114, 3) := by decide +kernel
theorem dX5_settle_64 : decode cX5_settle 64 = .ok (.iconst 0, 1) := by decide +kernel
theorem dX5_settle_65 : decode cX5_settle 65 = .ok (.istore_n 1, 1) := by decide +kernel
theorem dX5_settle_66 : decode cX5_settle 66 = .ok (.iload_n 1, 1) := by decide +kernel
theorem dX5_settle_67 : decode cX5_settle 67 = .ok (.aload_n 0, 1) := by decide +kernel
theorem dX5_settle_68 : decode cX5_settle 68 = .ok (.getfield 35, 3) := by decide +kernel
theorem dX5_settle_71 : decode cX5_settle 71 = .ok (.if_icmp .ge 29, 3) := by decide +kernel
theorem dX5_settle_74 : decode cX5_settle 74 = .ok (.aload_n 0, 1) := by decide +kernel
theorem dX5_settle_75 : decode cX5_settle 75 = .ok (.getfield 17, 3) := by decide +kernel
theorem dX5_settle_78 : decode cX5_settle 78 = .ok (.iload_n 1, 1) := by decide +kernel
theorem dX5_settle_79 : decode cX5_settle 79 = .ok (.aaload, 1) := by decide +kernel
theorem dX5_settle_80 : decode cX5_settle 80 = .ok (.invokevirtual 117, 3) := by decide +kernel
theorem dX5_settle_83 : decode cX5_settle 83 = .ok (.ifCond .eq 11, 3) := by decide +kernel
theorem dX5_settle_86 : decode cX5_settle 86 = .ok (.aload_n 0, 1) := by decide +kernel
theorem dX5_settle_87 : decode cX5_settle 87 = .ok (.aload_n 0, 1) := by decide +kernel
theorem dX5_settle_88 : decode cX5_settle 88 = .ok (.getfield 42, 3) := by decide +kernel
theorem dX5_settle_91 : decode cX5_settle 91 = .ok (.putfield 32, 3) := by decide +kernel
theorem dX5_settle_94 : decode cX5_settle 94 = .ok (.iinc 1 1, 3) := by decide +kernel
theorem dX5_settle_97 : decode cX5_settle 97 = .ok (.goto (-31), 3) := by decide +kernel
theorem dX5_settle_100 : decode cX5_settle 100 = .ok (.aload_n 0, 1) := by decide +kernel
theorem dX5_settle_101 : decode cX5_settle 101 = .ok (.dup, 1) := by decide +kernel
theorem dX5_settle_102 : decode cX5_settle 102 = .ok (.getfield 42, 3) := by decide +kernel
theorem dX5_settle_105 : decode cX5_settle 105 = .ok (.iconst 1, 1) := by decide +kernel
theorem dX5_settle_106 : decode cX5_settle 106 = .ok (.iadd, 1) := by decide +kernel
theorem dX5_settle_107 : decode cX5_settle 107 = .ok (.putfield 42, 3) := by decide +kernel
theorem dX5_settle_110 : decode cX5_settle 110 = .ok (.return_, 1) := by decide +kernel
theorem dX5_cross_0 : decode cX5_cross 0 = .ok (.iconst 0, 1) := by decide +kernel
theorem dX5_cross_1 : decode cX5_cross 1 = .ok (.istore_n 1, 1) := by decide +kernel
theorem dX5_cross_2 : decode cX5_cross 2 = .ok (.iload_n 1, 1) := by decide +kernel
theorem dX5_cross_3 : decode cX5_cross 3 = .ok (.aload_n 0, 1) := by decide +kernel
theorem dX5_cross_4 : decode cX5_cross 4 = .ok (.getfield 35, 3) := by decide +kernel
theorem dX5_cross_7 : decode cX5_cross 7 = .ok (.if_icmp .ge 65, 3) := by decide +kernel
theorem dX5_cross_10 : decode cX5_cross 10 = .ok (.iload_n 1, 1) := by decide +kernel
theorem dX5_cross_11 : decode cX5_cross 11 = .ok (.iconst 1, 1) := by decide +kernel
theorem dX5_cross_12 : decode cX5_cross 12 = .ok (.iadd, 1) := by decide +kernel
theorem dX5_cross_13 : decode cX5_cross 13 = .ok (.istore_n 2, 1) := by decide +kernel
theorem dX5_cross_14 : decode cX5_cross 14 = .ok (.iload_n 2, 1) := by decide +kernel
theorem dX5_cross_15 : decode cX5_cross 15 = .ok (.aload_n 0, 1) := by decide +kernel
theorem dX5_cross_16 : decode cX5_cross 16 = .ok (.getfield 35, 3) := by decide +kernel
theorem dX5_cross_19 : decode cX5_cross 19 = .ok (.if_icmp .ge 47, 3) := by decide +kernel
theorem dX5_cross_22 : decode cX5_cross 22 = .ok (.aload_n 0, 1) := by decide +kernel
theorem dX5_cross_23 : decode cX5_cross 23 = .ok (.getfield 17, 3) := by decide +kernel
theorem dX5_cross_26 : decode cX5_cross 26 = .ok (.iload_n 1, 1) := by decide +kernel
theorem dX5_cross_27 : decode cX5_cross 27 = .ok (.aaload, 1) := by decide +kernel
theorem dX5_cross_28 : decode cX5_cross 28 = .ok (.aload_n 0, 1) := by decide +kernel
theorem dX5_cross_29 : decode cX5_cross 29 = .ok (.getfield 17, 3) := by decide +kernel
theorem dX5_cross_32 : decode cX5_cross 32 = .ok (.iload_n 2, 1) := by decide +kernel
theorem dX5_cross_33 : decode cX5_cross 33 = .ok (.aaload, 1) := by decide +kernel
theorem dX5_cross_34 : decode cX5_cross 34 = .ok (.invokestatic 120, 3) := by decide +kernel
theorem dX5_cross_37 : decode cX5_cross 37 = .ok (.ifCond .eq 23, 3) := by decide +kernel
theorem dX5_cross_40 : decode cX5_cross 40 = .ok (.aload_n 0, 1) := by decide +kernel
theorem dX5_cross_41 : decode cX5_cross 41 = .ok (.getfield 17, 3) := by decide +kernel
theorem dX5_cross_44 : decode cX5_cross 44 = .ok (.iload_n 1, 1) := by decide +kernel
theorem dX5_cross_45 : decode cX5_cross 45 = .ok (.aaload, 1) := by decide +kernel
theorem dX5_cross_46 : decode cX5_cross 46 = .ok (.iconst (-1), 1) := by decide +kernel
theorem dX5_cross_47 : decode cX5_cross 47 = .ok (.invokevirtual 107, 3) := by decide +kernel
theorem dX5_cross_50 : decode cX5_cross 50 = .ok (.aload_n 0, 1) := by decide +kernel
theorem dX5_cross_51 : decode cX5_cross 51 = .ok (.getfield 17, 3) := by decide +kernel
theorem dX5_cross_54 : decode cX5_cross 54 = .ok (.iload_n 2, 1) := by decide +kernel
theorem dX5_cross_55 : decode cX5_cross 55 = .ok (.aaload, 1) := by decide +kernel
theorem dX5_cross_56 : decode cX5_cross 56 = .ok (.iconst (-1), 1) := by decide +kernel
theorem dX5_cross_57 : decode cX5_cross 57 = .ok (.invokevirtual 107, 3) := by decide +kernel
theorem dX5_cross_60 : decode cX5_cross 60 = .ok (.iinc 2 1, 3) := by decide +kernel
theorem dX5_cross_63 : decode cX5_cross 63 = .ok (.goto (-49), 3) := by decide +kernel
theorem dX5_cross_66 : decode cX5_cross 66 = .ok (.iinc 1 1, 3) := by decide +kernel
theorem dX5_cross_69 : decode cX5_cross 69 = .ok (.goto (-67), 3) := by decide +kernel
theorem dX5_cross_72 : decode cX5_cross 72 = .ok (.return_, 1) := by decide +kernel
theorem dX5_areCrossed_0 : decode cX5_areCrossed 0 = .ok (.aload_n 0, 1) := by decide +kernel
theorem dX5_areCrossed_1 : decode cX5_areCrossed 1 = .ok (.invokevirtual 70, 3) := by decide +kernel
theorem dX5_areCrossed_4 : decode cX5_areCrossed 4 = .ok (.ifCond .ne 25, 3) := by decide +kernel
theorem dX5_areCrossed_7 : decode cX5_areCrossed 7 = .ok (.aload_n 1, 1) := by decide +kernel
theorem dX5_areCrossed_8 : decode cX5_areCrossed 8 = .ok (.invokevirtual 70, 3) := by decide +kernel
theorem dX5_areCrossed_11 : decode cX5_areCrossed 11 = .ok (.ifCond .ne 18, 3) := by decide +kernel
theorem dX5_areCrossed_14 : decode cX5_areCrossed 14 = .ok (.aload_n 0, 1) := by decide +kernel
theorem dX5_areCrossed_15 : decode cX5_areCrossed 15 = .ok (.getfield 124, 3) := by decide +kernel
theorem dX5_areCrossed_18 : decode cX5_areCrossed 18 = .ok (.aload_n 1, 1) := by decide +kernel
theorem dX5_areCrossed_19 : decode cX5_areCrossed 19 = .ok (.getfield 124, 3) := by decide +kernel
theorem dX5_areCrossed_22 : decode cX5_areCrossed 22 = .ok (.if_icmp .ne 7, 3) := by decide +kernel
theorem dX5_areCrossed_25 : decode cX5_areCrossed 25 = .ok (.iconst 1, 1) := by decide +kernel
theorem dX5_areCrossed_26 : decode cX5_areCrossed 26 = .ok (.goto 4, 3) := by decide +kernel
theorem dX5_areCrossed_29 : decode cX5_areCrossed 29 = .ok (.iconst 0, 1) := by decide +kernel
theorem dX5_areCrossed_30 : decode cX5_areCrossed 30 = .ok (.ireturn, 1) := by decide +kernel
theorem dX6_init_0 : decode cX6_init 0 = .ok (.aload_n 0, 1) := by decide +kernel
theorem dX6_init_1 : decode cX6_init 1 = .ok (.invokespecial 3, 3) := by decide +kernel
theorem dX6_init_4 : decode cX6_init 4 = .ok (.aload_n 0, 1) := by decide +kernel
theorem dX6_init_5 : decode cX6_init 5 = .ok (.bipush 60, 2) := by decide +kernel
theorem dX6_init_7 : decode cX6_init 7 = .ok (.newarray .long, 2) := by decide +kernel
theorem dX6_init_9 : decode cX6_init 9 = .ok (.putfield 9, 3) := by decide +kernel
theorem dX6_init_12 : decode cX6_init 12 = .ok (.return_, 1) := by decide +kernel
theorem dX6_isSort_0 : decode cX6_isSort 0 = .ok (.iload_n 0, 1) := by decide +kernel
theorem dX6_isSort_1 : decode cX6_isSort 1 = .ok (.ifCond .lt 12, 3) := by decide +kernel
theorem dX6_isSort_4 : decode cX6_isSort 4 = .ok (.iload_n 0, 1) := by decide +kernel
theorem dX6_isSort_5 : decode cX6_isSort 5 = .ok (.iconst 4, 1) := by decide +kernel
theorem dX6_isSort_6 : decode cX6_isSort 6 = .ok (.if_icmp .gt 7, 3) := by decide +kernel
theorem dX6_isSort_9 : decode cX6_isSort 9 = .ok (.iconst 1, 1) := by decide +kernel
theorem dX6_isSort_10 : decode cX6_isSort 10 = .ok (.goto 4, 3) := by decide +kernel
theorem dX6_isSort_13 : decode cX6_isSort 13 = .ok (.iconst 0, 1) := by decide +kernel
theorem dX6_isSort_14 : decode cX6_isSort 14 = .ok (.ireturn, 1) := by decide +kernel
theorem dX6_isEmpty_0 : decode cX6_isEmpty 0 = .ok (.aload_n 0, 1) := by decide +kernel
theorem dX6_isEmpty_1 : decode cX6_isEmpty 1 = .ok (.getfield 15, 3) := by decide +kernel
theorem dX6_isEmpty_4 : decode cX6_isEmpty 4 = .ok (.ifCond .ne 7, 3) := by decide +kernel
theorem dX6_isEmpty_7 : decode cX6_isEmpty 7 = .ok (.iconst 1, 1) := by decide +kernel
theorem dX6_isEmpty_8 : decode cX6_isEmpty 8 = .ok (.goto 4, 3) := by decide +kernel
theorem dX6_isEmpty_11 : decode cX6_isEmpty 11 = .ok (.iconst 0, 1) := by decide +kernel
theorem dX6_isEmpty_12 : decode cX6_isEmpty 12 = .ok (.ireturn, 1) := by decide +kernel
theorem dX6_isTurn_0 : decode cX6_isTurn 0 = .ok (.aload_n 0, 1) := by decide +kernel
theorem dX6_isTurn_1 : decode cX6_isTurn 1 = .ok (.getfield 15, 3) := by decide +kernel
theorem dX6_isTurn_4 : decode cX6_isTurn 4 = .ok (.iconst 1, 1) := by decide +kernel
theorem dX6_isTurn_5 : decode cX6_isTurn 5 = .ok (.if_icmp .ne 7, 3) := by decide +kernel
theorem dX6_isTurn_8 : decode cX6_isTurn 8 = .ok (.iconst 1, 1) := by decide +kernel
theorem dX6_isTurn_9 : decode cX6_isTurn 9 = .ok (.goto 4, 3) := by decide +kernel
theorem dX6_isTurn_12 : decode cX6_isTurn 12 = .ok (.iconst 0, 1) := by decide +kernel
theorem dX6_isTurn_13 : decode cX6_isTurn 13 = .ok (.ireturn, 1) := by decide +kernel
theorem dX6_isRow_0 : decode cX6_isRow 0 = .ok (.aload_n 0, 1) := by decide +kernel
theorem dX6_isRow_1 : decode cX6_isRow 1 = .ok (.getfield 15, 3) := by decide +kernel
theorem dX6_isRow_4 : decode cX6_isRow 4 = .ok (.iconst 2, 1) := by decide +kernel
theorem dX6_isRow_5 : decode cX6_isRow 5 = .ok (.if_icmp .ne 7, 3) := by decide +kernel
theorem dX6_isRow_8 : decode cX6_isRow 8 = .ok (.iconst 1, 1) := by decide +kernel
theorem dX6_isRow_9 : decode cX6_isRow 9 = .ok (.goto 4, 3) := by decide +kernel
theorem dX6_isRow_12 : decode cX6_isRow 12 = .ok (.iconst 0, 1) := by decide +kernel
theorem dX6_isRow_13 : decode cX6_isRow 13 = .ok (.ireturn, 1) := by decide +kernel
theorem dX6_hasBytes_0 : decode cX6_hasBytes 0 = .ok (.aload_n 0, 1) := by decide +kernel
theorem dX6_hasBytes_1 : decode cX6_hasBytes 1 = .ok (.invokevirtual 19, 3) := by decide +kernel
theorem dX6_hasBytes_4 : decode cX6_hasBytes 4 = .ok (.ifCond .eq 14, 3) := by decide +kernel
theorem dX6_hasBytes_7 : decode cX6_hasBytes 7 = .ok (.aload_n 0, 1) := by decide +kernel
theorem dX6_hasBytes_8 : decode cX6_hasBytes 8 = .ok (.getfield 23, 3) := by decide +kernel
theorem dX6_hasBytes_11 : decode cX6_hasBytes 11 = .ok (.ifCond .ne 7, 3) := by decide +kernel
theorem dX6_hasBytes_14 : decode cX6_hasBytes 14 = .ok (.iconst 1, 1) := by decide +kernel
theorem dX6_hasBytes_15 : decode cX6_hasBytes 15 = .ok (.goto 4, 3) := by decide +kernel
theorem dX6_hasBytes_18 : decode cX6_hasBytes 18 = .ok (.iconst 0, 1) := by decide +kernel
theorem dX6_hasBytes_19 : decode cX6_hasBytes 19 = .ok (.ireturn, 1) := by decide +kernel
theorem dX6_holdNothing_0 : decode cX6_holdNothing 0 = .ok (.aload_n 0, 1) := by decide +kernel
theorem dX6_holdNothing_1 : decode cX6_holdNothing 1 = .ok (.iconst 0, 1) := by decide +kernel
theorem dX6_holdNothing_2 : decode cX6_holdNothing 2 = .ok (.putfield 15, 3) := by decide +kernel
theorem dX6_holdNothing_5 : decode cX6_holdNothing 5 = .ok (.aload_n 0, 1) := by decide +kernel
theorem dX6_holdNothing_6 : decode cX6_holdNothing 6 = .ok (.iconst 0, 1) := by decide +kernel
theorem dX6_holdNothing_7 : decode cX6_holdNothing 7 = .ok (.putfield 26, 3) := by decide +kernel
theorem dX6_holdNothing_10 : decode cX6_holdNothing 10 = .ok (.return_, 1) := by decide +kernel
theorem dX6_holdTurn_0 : decode cX6_holdTurn 0 = .ok (.aload_n 0, 1) := by decide +kernel
theorem dX6_holdTurn_1 : decode cX6_holdTurn 1 = .ok (.iconst 1, 1) := by decide +kernel
theorem dX6_holdTurn_2 : decode cX6_holdTurn 2 = .ok (.putfield 15, 3) := by decide +kernel
theorem dX6_holdTurn_5 : decode cX6_holdTurn 5 = .ok (.aload_n 0, 1) := by decide +kernel
theorem dX6_holdTurn_6 : decode cX6_holdTurn 6 = .ok (.iload_n 1, 1) := by decide +kernel
theorem dX6_holdTurn_7 : decode cX6_holdTurn 7 = .ok (.putfield 29, 3) := by decide +kernel
theorem dX6_holdTurn_10 : decode cX6_holdTurn 10 = .ok (.aload_n 0, 1) := by decide +kernel
theorem dX6_holdTurn_11 : decode cX6_holdTurn 11 = .ok (.iconst 0, 1) := by decide +kernel
theorem dX6_holdTurn_12 : decode cX6_holdTurn 12 = .ok (.putfield 26, 3) := by decide +kernel
theorem dX6_holdTurn_15 : decode cX6_holdTurn 15 = .ok (.return_, 1) := by decide +kernel
theorem dX6_holdRow_0 : decode cX6_holdRow 0 = .ok (.aload_n 0, 1) := by decide +kernel
theorem dX6_holdRow_1 : decode cX6_holdRow 1 = .ok (.iconst 2, 1) := by decide +kernel
theorem dX6_holdRow_2 : decode cX6_holdRow 2 = .ok (.putfield 15, 3) := by decide +kernel
theorem dX6_holdRow_5 : decode cX6_holdRow 5 = .ok (.aload_n 0, 1) := by decide +kernel
theorem dX6_holdRow_6 : decode cX6_holdRow 6 = .ok (.iload_n 1, 1) := by decide +kernel
theorem dX6_holdRow_7 : decode cX6_holdRow 7 = .ok (.putfield 23, 3) := by decide +kernel
theorem dX6_holdRow_10 : decode cX6_holdRow 10 = .ok (.aload_n 0, 1) := by decide +kernel
theorem dX6_holdRow_11 : decode cX6_holdRow 11 = .ok (.iload_n 2, 1) := by decide +kernel
theorem dX6_holdRow_12 : decode cX6_holdRow 12 = .ok (.putfield 26, 3) := by decide +kernel
theorem dX6_holdRow_15 : decode cX6_holdRow 15 = .ok (.iconst 0, 1) := by decide +kernel
theorem dX6_holdRow_16 : decode cX6_holdRow 16 = .ok (.istore_n 3, 1) := by decide +kernel
theorem dX6_holdRow_17 : decode cX6_holdRow 17 = .ok (.iload_n 3, 1) := by decide +kernel
theorem dX6_holdRow_18 : decode cX6_holdRow 18 = .ok (.bipush 60, 2) := by decide +kernel
theorem dX6_holdRow_20 : decode cX6_holdRow 20 = .ok (.if_icmp .ge 16, 3) := by decide +kernel
theorem dX6_holdRow_23 : decode cX6_holdRow 23 = .ok (.aload_n 0, 1) := by decide +kernel
theorem dX6_holdRow_24 : decode cX6_holdRow 24 = .ok (.getfield 9, 3) := by decide +kernel
theorem dX6_holdRow_27 : decode cX6_holdRow 27 = .ok (.iload_n 3, 1) := by decide +kernel
theorem dX6_holdRow_28 : decode cX6_holdRow 28 = .ok (.lconst 0, 1) := by decide +kernel
theorem dX6_holdRow_29 : decode cX6_holdRow 29 = .ok (.lastore, 1) := by decide +kernel
theorem dX6_holdRow_30 : decode cX6_holdRow 30 = .ok (.iinc 3 1, 3) := by decide +kernel
theorem dX6_holdRow_33 : decode cX6_holdRow 33 = .ok (.goto (-16), 3) := by decide +kernel
theorem dX6_holdRow_36 : decode cX6_holdRow 36 = .ok (.return_, 1) := by decide +kernel
theorem dX6_bytesRefusal_0 : decode cX6_bytesRefusal 0 = .ok (.aload_n 0, 1) := by decide +kernel
theorem dX6_bytesRefusal_1 : decode cX6_bytesRefusal 1 = .ok (.invokevirtual 32, 3) := by decide +kernel
theorem dX6_bytesRefusal_4 : decode cX6_bytesRefusal 4 = .ok (.ifCond .eq 6, 3) := by decide +kernel
theorem dX6_bytesRefusal_7 : decode cX6_bytesRefusal 7 = .ok (.bipush (-11), 2) := by decide +kernel
theorem dX6_bytesRefusal_9 : decode cX6_bytesRefusal 9 = .ok (.ireturn, 1) := by decide +kernel
theorem dX6_bytesRefusal_10 : decode cX6_bytesRefusal 10 = .ok (.aload_n 0, 1) := by decide +kernel
theorem dX6_bytesRefusal_11 : decode cX6_bytesRefusal 11 = .ok (.invokevirtual 35, 3) := by decide +kernel
theorem dX6_bytesRefusal_14 : decode cX6_bytesRefusal 14 = .ok (.ifCond .eq 7, 3) := by decide +kernel
theorem dX6_bytesRefusal_17 : decode cX6_bytesRefusal 17 = .ok (.iconst 0, 1) := by decide +kernel
theorem dX6_bytesRefusal_18 : decode cX6_bytesRefusal 18 = .ok (.goto 5, 3) := by decide +kernel
theorem dX6_bytesRefusal_21 : decode cX6_bytesRefusal 21 = .ok (.bipush (-12), 2) := by decide +kernel
theorem dX6_bytesRefusal_23 : decode cX6_bytesRefusal 23 = .ok (.ireturn, 1) := by decide +kernel
theorem dX6_placeRefusal_0 : decode cX6_placeRefusal 0 = .ok (.aload_n 0, 1) := by decide +kernel
theorem dX6_placeRefusal_1 : decode cX6_placeRefusal 1 = .ok (.invokevirtual 32, 3) := by decide +kernel
theorem dX6_placeRefusal_4 : decode cX6_placeRefusal 4 = .ok (.ifCond .eq 6, 3) := by decide +kernel
theorem dX6_placeRefusal_7 : decode cX6_placeRefusal 7 = .ok (.bipush (-11), 2) := by decide +kernel
theorem dX6_placeRefusal_9 : decode cX6_placeRefusal 9 = .ok (.ireturn, 1) := by decide +kernel
theorem dX6_placeRefusal_10 : decode cX6_placeRefusal 10 = .ok (.aload_n 0, 1) := by decide +kernel
theorem dX6_placeRefusal_11 : decode cX6_placeRefusal 11 = .ok (.invokevirtual 19, 3) := by decide +kernel
theorem dX6_placeRefusal_14 : decode cX6_placeRefusal 14 = .ok (.ifCond .ne 6, 3) := by decide +kernel
theorem dX6_placeRefusal_17 : decode cX6_placeRefusal 17 = .ok (.bipush (-12), 2) := by decide +kernel
theorem dX6_placeRefusal_19 : decode cX6_placeRefusal 19 = .ok (.ireturn, 1) := by decide +kernel
theorem dX6_placeRefusal_20 : decode cX6_placeRefusal 20 = .ok (.iload_n 1, 1) := by decide +kernel
theorem dX6_placeRefusal_21 : decode cX6_placeRefusal 21 = .ok (.ifCond .lt 15, 3) := by decide +kernel
theorem dX6_placeRefusal_24 : decode cX6_placeRefusal 24 = .ok (.iload_n 1, 1) := by decide +kernel
theorem dX6_placeRefusal_25 : decode cX6_placeRefusal 25 = .ok (.aload_n 0, 1) := by decide +kernel
theorem dX6_placeRefusal_26 : decode cX6_placeRefusal 26 = .ok (.getfield 26, 3) := by decide +kernel
theorem dX6_placeRefusal_29 : decode cX6_placeRefusal 29 = .ok (.if_icmp .ge 7, 3) := by decide +kernel
theorem dX6_placeRefusal_32 : decode cX6_placeRefusal 32 = .ok (.iconst 0, 1) := by decide +kernel
theorem dX6_placeRefusal_33 : decode cX6_placeRefusal 33 = .ok (.goto 5, 3) := by decide +kernel
theorem dX6_placeRefusal_36 : decode cX6_placeRefusal 36 = .ok (.bipush (-13), 2) := by decide +kernel
theorem dX6_placeRefusal_38 : decode cX6_placeRefusal 38 = .ok (.ireturn, 1) := by decide +kernel
theorem dX6_hasStretch_0 : decode cX6_hasStretch 0 = .ok (.iload_n 1, 1) := by decide +kernel
theorem dX6_hasStretch_1 : decode cX6_hasStretch 1 = .ok (.ifCond .lt 29, 3) := by decide +kernel
theorem dX6_hasStretch_4 : decode cX6_hasStretch 4 = .ok (.iload_n 2, 1) := by decide +kernel
theorem dX6_hasStretch_5 : decode cX6_hasStretch 5 = .ok (.ifCond .lt 25, 3) := by decide +kernel
theorem dX6_hasStretch_8 : decode cX6_hasStretch 8 = .ok (.iload_n 1, 1) := by decide +kernel
theorem dX6_hasStretch_9 : decode cX6_hasStretch 9 = .ok (.aload_n 0, 1) := by decide +kernel
theorem dX6_hasStretch_10 : decode cX6_hasStretch 10 = .ok (.getfield 26, 3) := by decide +kernel
theorem dX6_hasStretch_13 : decode cX6_hasStretch 13 = .ok (.if_icmp .gt 17, 3) := by decide +kernel
theorem dX6_hasStretch_16 : decode cX6_hasStretch 16 = .ok (.iload_n 2, 1) := by decide +kernel
theorem dX6_hasStretch_17 : decode cX6_hasStretch 17 = .ok (.aload_n 0, 1) := by decide +kernel
theorem dX6_hasStretch_18 : decode cX6_hasStretch 18 = .ok (.getfield 26, 3) := by decide +kernel
theorem dX6_hasStretch_21 : decode cX6_hasStretch 21 = .ok (.iload_n 1, 1) := by decide +kernel
theorem dX6_hasStretch_22 : decode cX6_hasStretch 22 = .ok (.isub, 1) := by decide +kernel
theorem dX6_hasStretch_23 : decode cX6_hasStretch 23 = .ok (.if_icmp .gt 7, 3) := by decide +kernel
theorem dX6_hasStretch_26 : decode cX6_hasStretch 26 = .ok (.iconst 1, 1) := by decide +kernel
theorem dX6_hasStretch_27 : decode cX6_hasStretch 27 = .ok (.goto 4, 3) := by decide +kernel
theorem dX6_hasStretch_30 : decode cX6_hasStretch 30 = .ok (.iconst 0, 1) := by decide +kernel
theorem dX6_hasStretch_31 : decode cX6_hasStretch 31 = .ok (.ireturn, 1) := by decide +kernel
theorem dX6_lay_0 : decode cX6_lay 0 = .ok (.aload_n 0, 1) := by decide +kernel
theorem dX6_lay_1 : decode cX6_lay 1 = .ok (.getfield 23, 3) := by decide +kernel
theorem dX6_lay_4 : decode cX6_lay 4 = .ok (.tableswitch 94 0 4 #[36, 49, 62, 94, 74], 36) := by decide +kernel
theorem dX6_lay_40 : decode cX6_lay 40 = .ok (.aload_n 0, 1) := by decide +kernel
theorem dX6_lay_41 : decode cX6_lay 41 = .ok (.getfield 9, 3) := by decide +kernel
theorem dX6_lay_44 : decode cX6_lay 44 = .ok (.iload_n 1, 1) := by decide +kernel
theorem dX6_lay_45 : decode cX6_lay 45 = .ok (.lload_n 2, 1) := by decide +kernel
theorem dX6_lay_46 : decode cX6_lay 46 = .ok (.l2i, 1) := by decide +kernel
theorem dX6_lay_47 : decode cX6_lay 47 = .ok (.i2b, 1) := by decide +kernel
theorem dX6_lay_48 : decode cX6_lay 48 = .ok (.i2l, 1) := by decide +kernel
theorem dX6_lay_49 : decode cX6_lay 49 = .ok (.lastore, 1) := by decide +kernel
theorem dX6_lay_50 : decode cX6_lay 50 = .ok (.goto 55, 3) := by decide +kernel
theorem dX6_lay_53 : decode cX6_lay 53 = .ok (.aload_n 0, 1) := by decide +kernel
theorem dX6_lay_54 : decode cX6_lay 54 = .ok (.getfield 9, 3) := by decide +kernel
theorem dX6_lay_57 : decode cX6_lay 57 = .ok (.iload_n 1, 1) := by decide +kernel
theorem dX6_lay_58 : decode cX6_lay 58 = .ok (.lload_n 2, 1) := by decide +kernel
theorem dX6_lay_59 : decode cX6_lay 59 = .ok (.l2i, 1) := by decide +kernel
theorem dX6_lay_60 : decode cX6_lay 60 = .ok (.i2s, 1) := by decide +kernel
theorem dX6_lay_61 : decode cX6_lay 61 = .ok (.i2l, 1) := by decide +kernel
theorem dX6_lay_62 : decode cX6_lay 62 = .ok (.lastore, 1) := by decide +kernel
theorem dX6_lay_63 : decode cX6_lay 63 = .ok (.goto 42, 3) := by decide +kernel
theorem dX6_lay_66 : decode cX6_lay 66 = .ok (.aload_n 0, 1) := by decide +kernel
theorem dX6_lay_67 : decode cX6_lay 67 = .ok (.getfield 9, 3) := by decide +kernel
theorem dX6_lay_70 : decode cX6_lay 70 = .ok (.iload_n 1, 1) := by decide +kernel
theorem dX6_lay_71 : decode cX6_lay 71 = .ok (.lload_n 2, 1) := by decide +kernel
theorem dX6_lay_72 : decode cX6_lay 72 = .ok (.l2i, 1) := by decide +kernel
theorem dX6_lay_73 : decode cX6_lay 73 = .ok (.i2l, 1) := by decide +kernel
theorem dX6_lay_74 : decode cX6_lay 74 = .ok (.lastore, 1) := by decide +kernel
theorem dX6_lay_75 : decode cX6_lay 75 = .ok (.goto 30, 3) := by decide +kernel
theorem dX6_lay_78 : decode cX6_lay 78 = .ok (.aload_n 0, 1) := by decide +kernel
theorem dX6_lay_79 : decode cX6_lay 79 = .ok (.getfield 9, 3) := by decide +kernel
theorem dX6_lay_82 : decode cX6_lay 82 = .ok (.iload_n 1, 1) := by decide +kernel
theorem dX6_lay_83 : decode cX6_lay 83 = .ok (.lload_n 2, 1) := by decide +kernel
theorem dX6_lay_84 : decode cX6_lay 84 = .ok (.lconst 0, 1) := by decide +kernel
theorem dX6_lay_85 : decode cX6_lay 85 = .ok (.lcmp, 1) := by decide +kernel
theorem dX6_lay_86 : decode cX6_lay 86 = .ok (.ifCond .eq 7, 3) := by decide +kernel
theorem dX6_lay_89 : decode cX6_lay 89 = .ok (.lconst 1, 1) := by decide +kernel
theorem dX6_lay_90 : decode cX6_lay 90 = .ok (.goto 4, 3) := by decide +kernel
theorem dX6_lay_93 : decode cX6_lay 93 = .ok (.lconst 0, 1) := by decide +kernel
theorem dX6_lay_94 : decode cX6_lay 94 = .ok (.lastore, 1) := by decide +kernel
theorem dX6_lay_95 : decode cX6_lay 95 = .ok (.goto 10, 3) := by decide +kernel
theorem dX6_lay_98 : decode cX6_lay 98 = .ok (.aload_n 0, 1) := by decide +kernel
theorem dX6_lay_99 : decode cX6_lay 99 = .ok (.getfield 9, 3) := by decide +kernel
theorem dX6_lay_102 : decode cX6_lay 102 = .ok (.iload_n 1, 1) := by decide +kernel
theorem dX6_lay_103 : decode cX6_lay 103 = .ok (.lload_n 2, 1) := by decide +kernel
theorem dX6_lay_104 : decode cX6_lay 104 = .ok (.lastore, 1) := by decide +kernel
theorem dX6_lay_105 : decode cX6_lay 105 = .ok (.return_, 1) := by decide +kernel
theorem dX6_gapAt_0 : decode cX6_gapAt 0 = .ok (.iload_n 1, 1) := by decide +kernel
theorem dX6_gapAt_1 : decode cX6_gapAt 1 = .ok (.ifCond .lt 28, 3) := by decide +kernel
theorem dX6_gapAt_4 : decode cX6_gapAt 4 = .ok (.iload_n 1, 1) := by decide +kernel
theorem dX6_gapAt_5 : decode cX6_gapAt 5 = .ok (.aload_n 0, 1) := by decide +kernel
theorem dX6_gapAt_6 : decode cX6_gapAt 6 = .ok (.getfield 26, 3) := by decide +kernel
theorem dX6_gapAt_9 : decode cX6_gapAt 9 = .ok (.if_icmp .ge 20, 3) := by decide +kernel
theorem dX6_gapAt_12 : decode cX6_gapAt 12 = .ok (.iload_n 1, 1) := by decide +kernel
theorem dX6_gapAt_13 : decode cX6_gapAt 13 = .ok (.bipush 60, 2) := by decide +kernel
theorem dX6_gapAt_15 : decode cX6_gapAt 15 = .ok (.if_icmp .ge 14, 3) := by decide +kernel
theorem dX6_gapAt_18 : decode cX6_gapAt 18 = .ok (.aload_n 0, 1) := by decide +kernel
theorem dX6_gapAt_19 : decode cX6_gapAt 19 = .ok (.getfield 9, 3) := by decide +kernel
theorem dX6_gapAt_22 : decode cX6_gapAt 22 = .ok (.iload_n 1, 1) := by decide +kernel
theorem dX6_gapAt_23 : decode cX6_gapAt 23 = .ok (.laload, 1) := by decide +kernel
theorem dX6_gapAt_24 : decode cX6_gapAt 24 = .ok (.lconst 1, 1) := by decide +kernel
theorem dX6_gapAt_25 : decode cX6_gapAt 25 = .ok (.lcmp, 1) := by decide +kernel
theorem dX6_gapAt_26 : decode cX6_gapAt 26 = .ok (.ifCond .ge 5, 3) := by decide +kernel
theorem dX6_gapAt_29 : decode cX6_gapAt 29 = .ok (.iconst (-1), 1) := by decide +kernel
theorem dX6_gapAt_30 : decode cX6_gapAt 30 = .ok (.ireturn, 1) := by decide +kernel
theorem dX6_gapAt_31 : decode cX6_gapAt 31 = .ok (.aload_n 0, 1) := by decide +kernel
theorem dX6_gapAt_32 : decode cX6_gapAt 32 = .ok (.getfield 9, 3) := by decide +kernel
theorem dX6_gapAt_35 : decode cX6_gapAt 35 = .ok (.iload_n 1, 1) := by decide +kernel
theorem dX6_gapAt_36 : decode cX6_gapAt 36 = .ok (.laload, 1) := by decide +kernel
theorem dX6_gapAt_37 : decode cX6_gapAt 37 = .ok (.l2i, 1) := by decide +kernel
theorem dX6_gapAt_38 : decode cX6_gapAt 38 = .ok (.ireturn, 1) := by decide +kernel
theorem dX7_init_0 : decode cX7_init 0 = .ok (.aload_n 0, 1) := by decide +kernel
theorem dX7_init_1 : decode cX7_init 1 = .ok (.invokespecial 3, 3) := by decide +kernel
theorem dX7_init_4 : decode cX7_init 4 = .ok (.aload_n 0, 1) := by decide +kernel
theorem dX7_init_5 : decode cX7_init 5 = .ok (.aload_n 1, 1) := by decide +kernel
theorem dX7_init_6 : decode cX7_init 6 = .ok (.putfield 9, 3) := by decide +kernel
theorem dX7_init_9 : decode cX7_init 9 = .ok (.aload_n 0, 1) := by decide +kernel
theorem dX7_init_10 : decode cX7_init 10 = .ok (.aload_n 2, 1) := by decide +kernel
theorem dX7_init_11 : decode cX7_init 11 = .ok (.putfield 15, 3) := by decide +kernel
theorem dX7_init_14 : decode cX7_init 14 = .ok (.return_, 1) := by decide +kernel
theorem dX7_begin_0 : decode cX7_begin 0 = .ok (.aload_n 0, 1) := by decide +kernel
theorem dX7_begin_1 : decode cX7_begin 1 = .ok (.getfield 15, 3) := by decide +kernel
theorem dX7_begin_4 : decode cX7_begin 4 = .ok (.aload_n 0, 1) := by decide +kernel
theorem dX7_begin_5 : decode cX7_begin 5 = .ok (.getfield 9, 3) := by decide +kernel
theorem dX7_begin_8 : decode cX7_begin 8 = .ok (.invokevirtual 18, 3) := by decide +kernel
theorem dX7_begin_11 : decode cX7_begin 11 = .ok (.aload_n 0, 1) := by decide +kernel
theorem dX7_begin_12 : decode cX7_begin 12 = .ok (.iconst 0, 1) := by decide +kernel
theorem dX7_begin_13 : decode cX7_begin 13 = .ok (.putfield 24, 3) := by decide +kernel
theorem dX7_begin_16 : decode cX7_begin 16 = .ok (.aload_n 0, 1) := by decide +kernel
theorem dX7_begin_17 : decode cX7_begin 17 = .ok (.iconst 0, 1) := by decide +kernel
theorem dX7_begin_18 : decode cX7_begin 18 = .ok (.putfield 28, 3) := by decide +kernel
theorem dX7_begin_21 : decode cX7_begin 21 = .ok (.aload_n 0, 1) := by decide +kernel
theorem dX7_begin_22 : decode cX7_begin 22 = .ok (.iconst (-1), 1) := by decide +kernel
theorem dX7_begin_23 : decode cX7_begin 23 = .ok (.putfield 31, 3) := by decide +kernel
theorem dX7_begin_26 : decode cX7_begin 26 = .ok (.aload_n 0, 1) := by decide +kernel
theorem dX7_begin_27 : decode cX7_begin 27 = .ok (.iconst (-1), 1) := by decide +kernel
theorem dX7_begin_28 : decode cX7_begin 28 = .ok (.putfield 34, 3) := by decide +kernel
theorem dX7_begin_31 : decode cX7_begin 31 = .ok (.return_, 1) := by decide +kernel
theorem dX7_leaveOut_0 : decode cX7_leaveOut 0 = .ok (.aload_n 0, 1) := by decide +kernel
theorem dX7_leaveOut_1 : decode cX7_leaveOut 1 = .ok (.iload_n 1, 1) := by decide +kernel
theorem dX7_leaveOut_2 : decode cX7_leaveOut 2 = .ok (.putfield 31, 3) := by decide +kernel
theorem dX7_leaveOut_5 : decode cX7_leaveOut 5 = .ok (.return_, 1) := by decide +kernel
theorem dX7_addPush_0 : decode cX7_addPush 0 = .ok (.aload_n 0, 1) := by decide +kernel
theorem dX7_addPush_1 : decode cX7_addPush 1 = .ok (.iload_n 1, 1) := by decide +kernel
theorem dX7_addPush_2 : decode cX7_addPush 2 = .ok (.putfield 34, 3) := by decide +kernel
theorem dX7_addPush_5 : decode cX7_addPush 5 = .ok (.aload_n 0, 1) := by decide +kernel
theorem dX7_addPush_6 : decode cX7_addPush 6 = .ok (.iload_n 2, 1) := by decide +kernel
theorem dX7_addPush_7 : decode cX7_addPush 7 = .ok (.putfield 37, 3) := by decide +kernel
theorem dX7_addPush_10 : decode cX7_addPush 10 = .ok (.aload_n 0, 1) := by decide +kernel
theorem dX7_addPush_11 : decode cX7_addPush 11 = .ok (.iload_n 3, 1) := by decide +kernel
theorem dX7_addPush_12 : decode cX7_addPush 12 = .ok (.putfield 40, 3) := by decide +kernel
theorem dX7_addPush_15 : decode cX7_addPush 15 = .ok (.return_, 1) := by decide +kernel
theorem dX7_step_0 : decode cX7_step 0 = .ok (.aload_n 0, 1) := by decide +kernel
theorem dX7_step_1 : decode cX7_step 1 = .ok (.getfield 15, 3) := by decide +kernel
theorem dX7_step_4 : decode cX7_step 4 = .ok (.invokevirtual 43, 3) := by decide +kernel
theorem dX7_step_7 : decode cX7_step 7 = .ok (.ifCond .eq 45, 3) := by decide +kernel
theorem dX7_step_10 : decode cX7_step 10 = .ok (.aload_n 0, 1) := by decide +kernel
theorem dX7_step_11 : decode cX7_step 11 = .ok (.getfield 28, 3) := by decide +kernel
theorem dX7_step_14 : decode cX7_step 14 = .ok (.aload_n 0, 1) := by decide +kernel
theorem dX7_step_15 : decode cX7_step 15 = .ok (.getfield 31, 3) := by decide +kernel
theorem dX7_step_18 : decode cX7_step 18 = .ok (.if_icmp .eq 24, 3) := by decide +kernel
theorem dX7_step_21 : decode cX7_step 21 = .ok (.aload_n 0, 1) := by decide +kernel
theorem dX7_step_22 : decode cX7_step 22 = .ok (.getfield 15, 3) := by decide +kernel
theorem dX7_step_25 : decode cX7_step 25 = .ok (.aload_n 0, 1) := by decide +kernel
theorem dX7_step_26 : decode cX7_step 26 = .ok (.getfield 15, 3) := by decide +kernel
theorem dX7_step_29 : decode cX7_step 29 = .ok (.getfield 47, 3) := by decide +kernel
theorem dX7_step_32 : decode cX7_step 32 = .ok (.aload_n 0, 1) := by decide +kernel
theorem dX7_step_33 : decode cX7_step 33 = .ok (.getfield 15, 3) := by decide +kernel
theorem dX7_step_36 : decode cX7_step 36 = .ok (.invokevirtual 50, 3) := by decide +kernel
theorem dX7_step_39 : decode cX7_step 39 = .ok (.invokevirtual 54, 3) := by decide +kernel
theorem dX7_step_42 : decode cX7_step 42 = .ok (.aload_n 0, 1) := by decide +kernel
theorem dX7_step_43 : decode cX7_step 43 = .ok (.dup, 1) := by decide +kernel
theorem dX7_step_44 : decode cX7_step 44 = .ok (.getfield 28, 3) := by decide +kernel
theorem dX7_step_47 : decode cX7_step 47 = .ok (.iconst 1, 1) := by decide +kernel
theorem dX7_step_48 : decode cX7_step 48 = .ok (.iadd, 1) := by decide +kernel
theorem dX7_step_49 : decode cX7_step 49 = .ok (.putfield 28, 3) := by decide +kernel
theorem dX7_step_52 : decode cX7_step 52 = .ok (.aload_n 0, 1) := by decide +kernel
theorem dX7_step_53 : decode cX7_step 53 = .ok (.getfield 24, 3) := by decide +kernel
theorem dX7_step_56 : decode cX7_step 56 = .ok (.aload_n 0, 1) := by decide +kernel
theorem dX7_step_57 : decode cX7_step 57 = .ok (.getfield 34, 3) := by decide +kernel
theorem dX7_step_60 : decode cX7_step 60 = .ok (.if_icmp .ne 18, 3) := by decide +kernel
theorem dX7_step_63 : decode cX7_step 63 = .ok (.aload_n 0, 1) := by decide +kernel
theorem dX7_step_64 : decode cX7_step 64 = .ok (.getfield 15, 3) := by decide +kernel
theorem dX7_step_67 : decode cX7_step 67 = .ok (.aload_n 0, 1) := by decide +kernel
theorem dX7_step_68 : decode cX7_step 68 = .ok (.getfield 37, 3) := by decide +kernel
theorem dX7_step_71 : decode cX7_step 71 = .ok (.aload_n 0, 1) := by decide +kernel
theorem dX7_step_72 : decode cX7_step 72 = .ok (.getfield 40, 3) := by decide +kernel
theorem dX7_step_75 : decode cX7_step 75 = .ok (.invokevirtual 54, 3) := by decide +kernel
theorem dX7_step_78 : decode cX7_step 78 = .ok (.aload_n 0, 1) := by decide +kernel
theorem dX7_step_79 : decode cX7_step 79 = .ok (.getfield 15, 3) := by decide +kernel
theorem dX7_step_82 : decode cX7_step 82 = .ok (.invokevirtual 58, 3) := by decide +kernel
theorem dX7_step_85 : decode cX7_step 85 = .ok (.aload_n 0, 1) := by decide +kernel
theorem dX7_step_86 : decode cX7_step 86 = .ok (.dup, 1) := by decide +kernel
theorem dX7_step_87 : decode cX7_step 87 = .ok (.getfield 24, 3) := by decide +kernel
theorem dX7_step_90 : decode cX7_step 90 = .ok (.iconst 1, 1) := by decide +kernel
theorem dX7_step_91 : decode cX7_step 91 = .ok (.iadd, 1) := by decide +kernel
theorem dX7_step_92 : decode cX7_step 92 = .ok (.putfield 24, 3) := by decide +kernel
theorem dX7_step_95 : decode cX7_step 95 = .ok (.return_, 1) := by decide +kernel
theorem dX7_behind_0 : decode cX7_behind 0 = .ok (.aload_n 0, 1) := by decide +kernel
theorem dX7_behind_1 : decode cX7_behind 1 = .ok (.invokevirtual 61, 3) := by decide +kernel
theorem dX7_behind_4 : decode cX7_behind 4 = .ok (.iconst 0, 1) := by decide +kernel
theorem dX7_behind_5 : decode cX7_behind 5 = .ok (.istore_n 3, 1) := by decide +kernel
theorem dX7_behind_6 : decode cX7_behind 6 = .ok (.iload_n 3, 1) := by decide +kernel
theorem dX7_behind_7 : decode cX7_behind 7 = .ok (.iload_n 2, 1) := by decide +kernel
theorem dX7_behind_8 : decode cX7_behind 8 = .ok (.if_icmp .ge 13, 3) := by decide +kernel
theorem dX7_behind_11 : decode cX7_behind 11 = .ok (.aload_n 0, 1) := by decide +kernel
theorem dX7_behind_12 : decode cX7_behind 12 = .ok (.invokevirtual 64, 3) := by decide +kernel
theorem dX7_behind_15 : decode cX7_behind 15 = .ok (.iinc 3 1, 3) := by decide +kernel
theorem dX7_behind_18 : decode cX7_behind 18 = .ok (.goto (-12), 3) := by decide +kernel
theorem dX7_behind_21 : decode cX7_behind 21 = .ok (.aload_n 0, 1) := by decide +kernel
theorem dX7_behind_22 : decode cX7_behind 22 = .ok (.getfield 15, 3) := by decide +kernel
theorem dX7_behind_25 : decode cX7_behind 25 = .ok (.getfield 67, 3) := by decide +kernel
theorem dX7_behind_28 : decode cX7_behind 28 = .ok (.iload_n 1, 1) := by decide +kernel
theorem dX7_behind_29 : decode cX7_behind 29 = .ok (.aaload, 1) := by decide +kernel
theorem dX7_behind_30 : decode cX7_behind 30 = .ok (.areturn, 1) := by decide +kernel
theorem dX7_fallOf_0 : decode cX7_fallOf 0 = .ok (.iconst 0, 1) := by decide +kernel
theorem dX7_fallOf_1 : decode cX7_fallOf 1 = .ok (.istore_n 2, 1) := by decide +kernel
theorem dX7_fallOf_2 : decode cX7_fallOf 2 = .ok (.iload_n 2, 1) := by decide +kernel
theorem dX7_fallOf_3 : decode cX7_fallOf 3 = .ok (.sipush 200, 3) := by decide +kernel
theorem dX7_fallOf_6 : decode cX7_fallOf 6 = .ok (.if_icmp .gt 30, 3) := by decide +kernel
theorem dX7_fallOf_9 : decode cX7_fallOf 9 = .ok (.aload_n 0, 1) := by decide +kernel
theorem dX7_fallOf_10 : decode cX7_fallOf 10 = .ok (.getfield 15, 3) := by decide +kernel
theorem dX7_fallOf_13 : decode cX7_fallOf 13 = .ok (.getfield 67, 3) := by decide +kernel
theorem dX7_fallOf_16 : decode cX7_fallOf 16 = .ok (.iload_n 1, 1) := by decide +kernel
theorem dX7_fallOf_17 : decode cX7_fallOf 17 = .ok (.aaload, 1) := by decide +kernel
theorem dX7_fallOf_18 : decode cX7_fallOf 18 = .ok (.invokevirtual 71, 3) := by decide +kernel
theorem dX7_fallOf_21 : decode cX7_fallOf 21 = .ok (.ifCond .eq 5, 3) := by decide +kernel
theorem dX7_fallOf_24 : decode cX7_fallOf 24 = .ok (.iload_n 2, 1) := by decide +kernel
theorem dX7_fallOf_25 : decode cX7_fallOf 25 = .ok (.ireturn, 1) := by decide +kernel
theorem dX7_fallOf_26 : decode cX7_fallOf 26 = .ok (.aload_n 0, 1) := by decide +kernel
theorem dX7_fallOf_27 : decode cX7_fallOf 27 = .ok (.invokevirtual 64, 3) := by decide +kernel
theorem dX7_fallOf_30 : decode cX7_fallOf 30 = .ok (.iinc 2 1, 3) := by decide +kernel
theorem dX7_fallOf_33 : decode cX7_fallOf 33 = .ok (.goto (-31), 3) := by decide +kernel
theorem dX7_fallOf_36 : decode cX7_fallOf 36 = .ok (.bipush (-2), 2) := by decide +kernel
theorem dX7_fallOf_38 : decode cX7_fallOf 38 = .ok (.ireturn, 1) := by decide +kernel
theorem dX7_isUpBehind_0 : decode cX7_isUpBehind 0 = .ok (.iconst 0, 1) := by decide +kernel
theorem dX7_isUpBehind_1 : decode cX7_isUpBehind 1 = .ok (.istore_n 3, 1) := by decide +kernel
theorem dX7_isUpBehind_2 : decode cX7_isUpBehind 2 = .ok (.iload_n 3, 1) := by decide +kernel
theorem dX7_isUpBehind_3 : decode cX7_isUpBehind 3 = .ok (.iload_n 2, 1) := by decide +kernel
theorem dX7_isUpBehind_4 : decode cX7_isUpBehind 4 = .ok (.if_icmp .ge 28, 3) := by decide +kernel
theorem dX7_isUpBehind_7 : decode cX7_isUpBehind 7 = .ok (.aload_n 0, 1) := by decide +kernel
theorem dX7_isUpBehind_8 : decode cX7_isUpBehind 8 = .ok (.getfield 15, 3) := by decide +kernel
theorem dX7_isUpBehind_11 : decode cX7_isUpBehind 11 = .ok (.getfield 67, 3) := by decide +kernel
theorem dX7_isUpBehind_14 : decode cX7_isUpBehind 14 = .ok (.iload_n 1, 1) := by decide +kernel
theorem dX7_isUpBehind_15 : decode cX7_isUpBehind 15 = .ok (.aaload, 1) := by decide +kernel
theorem dX7_isUpBehind_16 : decode cX7_isUpBehind 16 = .ok (.invokevirtual 71, 3) := by decide +kernel
theorem dX7_isUpBehind_19 : decode cX7_isUpBehind 19 = .ok (.ifCond .ne 13, 3) := by decide +kernel
theorem dX7_isUpBehind_22 : decode cX7_isUpBehind 22 = .ok (.aload_n 0, 1) := by decide +kernel
theorem dX7_isUpBehind_23 : decode cX7_isUpBehind 23 = .ok (.invokevirtual 64, 3) := by decide +kernel
theorem dX7_isUpBehind_26 : decode cX7_isUpBehind 26 = .ok (.iinc 3 1, 3) := by decide +kernel
theorem dX7_isUpBehind_29 : decode cX7_isUpBehind 29 = .ok (.goto (-27), 3) := by decide +kernel
theorem dX7_isUpBehind_32 : decode cX7_isUpBehind 32 = .ok (.aload_n 0, 1) := by decide +kernel
theorem dX7_isUpBehind_33 : decode cX7_isUpBehind 33 = .ok (.getfield 15, 3) := by decide +kernel
theorem dX7_isUpBehind_36 : decode cX7_isUpBehind 36 = .ok (.getfield 67, 3) := by decide +kernel
theorem dX7_isUpBehind_39 : decode cX7_isUpBehind 39 = .ok (.iload_n 1, 1) := by decide +kernel
theorem dX7_isUpBehind_40 : decode cX7_isUpBehind 40 = .ok (.aaload, 1) := by decide +kernel
theorem dX7_isUpBehind_41 : decode cX7_isUpBehind 41 = .ok (.invokevirtual 71, 3) := by decide +kernel
theorem dX7_isUpBehind_44 : decode cX7_isUpBehind 44 = .ok (.ifCond .ne 7, 3) := by decide +kernel
theorem dX7_isUpBehind_47 : decode cX7_isUpBehind 47 = .ok (.iconst 1, 1) := by decide +kernel
theorem dX7_isUpBehind_48 : decode cX7_isUpBehind 48 = .ok (.goto 4, 3) := by decide +kernel
theorem dX7_isUpBehind_51 : decode cX7_isUpBehind 51 = .ok (.iconst 0, 1) := by decide +kernel
theorem dX7_isUpBehind_52 : decode cX7_isUpBehind 52 = .ok (.ireturn, 1) := by decide +kernel
theorem dX7_lasting_0 : decode cX7_lasting 0 = .ok (.aload_n 0, 1) := by decide +kernel
theorem dX7_lasting_1 : decode cX7_lasting 1 = .ok (.getfield 15, 3) := by decide +kernel
theorem dX7_lasting_4 : decode cX7_lasting 4 = .ok (.invokevirtual 76, 3) := by decide +kernel
theorem dX7_lasting_7 : decode cX7_lasting 7 = .ok (.istore_n 1, 1) := by decide +kernel
theorem dX7_lasting_8 : decode cX7_lasting 8 = .ok (.iconst 0, 1) := by decide +kernel
theorem dX7_lasting_9 : decode cX7_lasting 9 = .ok (.istore_n 2, 1) := by decide +kernel
theorem dX7_lasting_10 : decode cX7_lasting 10 = .ok (.iload_n 2, 1) := by decide +kernel
theorem dX7_lasting_11 : decode cX7_lasting 11 = .ok (.sipush 200, 3) := by decide +kernel
theorem dX7_lasting_14 : decode cX7_lasting 14 = .ok (.if_icmp .ge 26, 3) := by decide +kernel
theorem dX7_lasting_17 : decode cX7_lasting 17 = .ok (.aload_n 0, 1) := by decide +kernel
theorem dX7_lasting_18 : decode cX7_lasting 18 = .ok (.invokevirtual 64, 3) := by decide +kernel
theorem dX7_lasting_21 : decode cX7_lasting 21 = .ok (.aload_n 0, 1) := by decide +kernel
theorem dX7_lasting_22 : decode cX7_lasting 22 = .ok (.getfield 15, 3) := by decide +kernel
theorem dX7_lasting_25 : decode cX7_lasting 25 = .ok (.invokevirtual 76, 3) := by decide +kernel
theorem dX7_lasting_28 : decode cX7_lasting 28 = .ok (.iload_n 1, 1) := by decide +kernel
theorem dX7_lasting_29 : decode cX7_lasting 29 = .ok (.if_icmp .ge 5, 3) := by decide +kernel
theorem dX7_lasting_32 : decode cX7_lasting 32 = .ok (.iload_n 2, 1) := by decide +kernel
theorem dX7_lasting_33 : decode cX7_lasting 33 = .ok (.ireturn, 1) := by decide +kernel
theorem dX7_lasting_34 : decode cX7_lasting 34 = .ok (.iinc 2 1, 3) := by decide +kernel
theorem dX7_lasting_37 : decode cX7_lasting 37 = .ok (.goto (-27), 3) := by decide +kernel
theorem dX7_lasting_40 : decode cX7_lasting 40 = .ok (.sipush 200, 3) := by decide +kernel
theorem dX7_lasting_43 : decode cX7_lasting 43 = .ok (.ireturn, 1) := by decide +kernel
theorem dX7_caughtAgain_0 : decode cX7_caughtAgain 0 = .ok (.iconst 0, 1) := by decide +kernel
theorem dX7_caughtAgain_1 : decode cX7_caughtAgain 1 = .ok (.istore_n 1, 1) := by decide +kernel
theorem dX7_caughtAgain_2 : decode cX7_caughtAgain 2 = .ok (.iconst 0, 1) := by decide +kernel
theorem dX7_caughtAgain_3 : decode cX7_caughtAgain 3 = .ok (.istore_n 2, 1) := by decide +kernel
theorem dX7_caughtAgain_4 : decode cX7_caughtAgain 4 = .ok (.iload_n 2, 1) := by decide +kernel
theorem dX7_caughtAgain_5 : decode cX7_caughtAgain 5 = .ok (.sipush 200, 3) := by decide +kernel
theorem dX7_caughtAgain_8 : decode cX7_caughtAgain 8 = .ok (.if_icmp .gt 45, 3) := by decide +kernel
theorem dX7_caughtAgain_11 : decode cX7_caughtAgain 11 = .ok (.aload_n 0, 1) := by decide +kernel
theorem dX7_caughtAgain_12 : decode cX7_caughtAgain 12 = .ok (.getfield 15, 3) := by decide +kernel
theorem dX7_caughtAgain_15 : decode cX7_caughtAgain 15 = .ok (.invokevirtual 79, 3) := by decide +kernel
theorem dX7_caughtAgain_18 : decode cX7_caughtAgain 18 = .ok (.istore_n 3, 1) := by decide +kernel
theorem dX7_caughtAgain_19 : decode cX7_caughtAgain 19 = .ok (.iload_n 3, 1) := by decide +kernel
theorem dX7_caughtAgain_20 : decode cX7_caughtAgain 20 = .ok (.ifCond .eq 9, 3) := by decide +kernel
theorem dX7_caughtAgain_23 : decode cX7_caughtAgain 23 = .ok (.iload_n 1, 1) := by decide +kernel
theorem dX7_caughtAgain_24 : decode cX7_caughtAgain 24 = .ok (.ifCond .eq 5, 3) := by decide +kernel
theorem dX7_caughtAgain_27 : decode cX7_caughtAgain 27 = .ok (.iload_n 2, 1) := by decide +kernel
theorem dX7_caughtAgain_28 : decode cX7_caughtAgain 28 = .ok (.ireturn, 1) := by decide +kernel
theorem dX7_caughtAgain_29 : decode cX7_caughtAgain 29 = .ok (.iload_n 3, 1) := by decide +kernel
theorem dX7_caughtAgain_30 : decode cX7_caughtAgain 30 = .ok (.ifCond .eq 7, 3) := by decide +kernel
theorem dX7_caughtAgain_33 : decode cX7_caughtAgain 33 = .ok (.iload_n 1, 1) := by decide +kernel
theorem dX7_caughtAgain_34 : decode cX7_caughtAgain 34 = .ok (.ifCond .eq 7, 3) := by decide +kernel
theorem dX7_caughtAgain_37 : decode cX7_caughtAgain 37 = .ok (.iconst 1, 1) := by decide +kernel
theorem dX7_caughtAgain_38 : decode cX7_caughtAgain 38 = .ok (.goto 4, 3) := by decide +kernel
theorem dX7_caughtAgain_41 : decode cX7_caughtAgain 41 = .ok (.iconst 0, 1) := by decide +kernel
theorem dX7_caughtAgain_42 : decode cX7_caughtAgain 42 = .ok (.istore_n 1, 1) := by decide +kernel
theorem dX7_caughtAgain_43 : decode cX7_caughtAgain 43 = .ok (.aload_n 0, 1) := by decide +kernel
theorem dX7_caughtAgain_44 : decode cX7_caughtAgain 44 = .ok (.invokevirtual 64, 3) := by decide +kernel
theorem dX7_caughtAgain_47 : decode cX7_caughtAgain 47 = .ok (.iinc 2 1, 3) := by decide +kernel
theorem dX7_caughtAgain_50 : decode cX7_caughtAgain 50 = .ok (.goto (-46), 3) := by decide +kernel
theorem dX7_caughtAgain_53 : decode cX7_caughtAgain 53 = .ok (.iload_n 1, 1) := by decide +kernel
theorem dX7_caughtAgain_54 : decode cX7_caughtAgain 54 = .ok (.ifCond .eq 8, 3) := by decide +kernel
theorem dX7_caughtAgain_57 : decode cX7_caughtAgain 57 = .ok (.bipush (-2), 2) := by decide +kernel
theorem dX7_caughtAgain_59 : decode cX7_caughtAgain 59 = .ok (.goto 4, 3) := by decide +kernel
theorem dX7_caughtAgain_62 : decode cX7_caughtAgain 62 = .ok (.iconst 0, 1) := by decide +kernel
theorem dX7_caughtAgain_63 : decode cX7_caughtAgain 63 = .ok (.ireturn, 1) := by decide +kernel
theorem dX7_lastingBy_0 : decode cX7_lastingBy 0 = .ok (.aload_n 0, 1) := by decide +kernel
theorem dX7_lastingBy_1 : decode cX7_lastingBy 1 = .ok (.getfield 15, 3) := by decide +kernel
theorem dX7_lastingBy_4 : decode cX7_lastingBy 4 = .ok (.invokevirtual 76, 3) := by decide +kernel
theorem dX7_lastingBy_7 : decode cX7_lastingBy 7 = .ok (.istore_n 2, 1) := by decide +kernel
theorem dX7_lastingBy_8 : decode cX7_lastingBy 8 = .ok (.iconst 0, 1) := by decide +kernel
theorem dX7_lastingBy_9 : decode cX7_lastingBy 9 = .ok (.istore_n 3, 1) := by decide +kernel
theorem dX7_lastingBy_10 : decode cX7_lastingBy 10 = .ok (.aload_n 1, 1) := by decide +kernel
theorem dX7_lastingBy_11 : decode cX7_lastingBy 11 = .ok (.iconst 0, 1) := by decide +kernel
theorem dX7_lastingBy_12 : decode cX7_lastingBy 12 = .ok (.invokevirtual 82, 3) := by decide +kernel
theorem dX7_lastingBy_15 : decode cX7_lastingBy 15 = .ok (.istore 4, 2) := by decide +kernel
theorem dX7_lastingBy_17 : decode cX7_lastingBy 17 = .ok (.iconst 0, 1) := by decide +kernel
theorem dX7_lastingBy_18 : decode cX7_lastingBy 18 = .ok (.istore 5, 2) := by decide +kernel
theorem dX7_lastingBy_20 : decode cX7_lastingBy 20 = .ok (.iload 5, 2) := by decide +kernel
theorem dX7_lastingBy_22 : decode cX7_lastingBy 22 = .ok (.sipush 200, 3) := by decide +kernel
theorem dX7_lastingBy_25 : decode cX7_lastingBy 25 = .ok (.if_icmp .ge 80, 3) := by decide +kernel
theorem dX7_lastingBy_28 : decode cX7_lastingBy 28 = .ok (.iload 5, 2) := by decide +kernel
theorem dX7_lastingBy_30 : decode cX7_lastingBy 30 = .ok (.iload 4, 2) := by decide +kernel
theorem dX7_lastingBy_32 : decode cX7_lastingBy 32 = .ok (.if_icmp .ne 46, 3) := by decide +kernel
theorem dX7_lastingBy_35 : decode cX7_lastingBy 35 = .ok (.aload_n 0, 1) := by decide +kernel
theorem dX7_lastingBy_36 : decode cX7_lastingBy 36 = .ok (.getfield 15, 3) := by decide +kernel
theorem dX7_lastingBy_39 : decode cX7_lastingBy 39 = .ok (.aload_n 0, 1) := by decide +kernel
theorem dX7_lastingBy_40 : decode cX7_lastingBy 40 = .ok (.getfield 15, 3) := by decide +kernel
theorem dX7_lastingBy_43 : decode cX7_lastingBy 43 = .ok (.getfield 47, 3) := by decide +kernel
theorem dX7_lastingBy_46 : decode cX7_lastingBy 46 = .ok (.iload_n 3, 1) := by decide +kernel
theorem dX7_lastingBy_47 : decode cX7_lastingBy 47 = .ok (.invokestatic 88, 3) := by decide +kernel
theorem dX7_lastingBy_50 : decode cX7_lastingBy 50 = .ok (.invokevirtual 54, 3) := by decide +kernel
theorem dX7_lastingBy_53 : decode cX7_lastingBy 53 = .ok (.iinc 3 1, 3) := by decide +kernel
theorem dX7_lastingBy_56 : decode cX7_lastingBy 56 = .ok (.aload_n 1, 1) := by decide +kernel
theorem dX7_lastingBy_57 : decode cX7_lastingBy 57 = .ok (.iload_n 3, 1) := by decide +kernel
theorem dX7_lastingBy_58 : decode cX7_lastingBy 58 = .ok (.invokevirtual 82, 3) := by decide +kernel
theorem dX7_lastingBy_61 : decode cX7_lastingBy 61 = .ok (.ifCond .ge 7, 3) := by decide +kernel
theorem dX7_lastingBy_64 : decode cX7_lastingBy 64 = .ok (.iconst (-1), 1) := by decide +kernel
theorem dX7_lastingBy_65 : decode cX7_lastingBy 65 = .ok (.goto 11, 3) := by decide +kernel
theorem dX7_lastingBy_68 : decode cX7_lastingBy 68 = .ok (.iload 5, 2) := by decide +kernel
theorem dX7_lastingBy_70 : decode cX7_lastingBy 70 = .ok (.aload_n 1, 1) := by decide +kernel
theorem dX7_lastingBy_71 : decode cX7_lastingBy 71 = .ok (.iload_n 3, 1) := by decide +kernel
theorem dX7_lastingBy_72 : decode cX7_lastingBy 72 = .ok (.invokevirtual 82, 3) := by decide +kernel
theorem dX7_lastingBy_75 : decode cX7_lastingBy 75 = .ok (.iadd, 1) := by decide +kernel
theorem dX7_lastingBy_76 : decode cX7_lastingBy 76 = .ok (.istore 4, 2) := by decide +kernel
theorem dX7_lastingBy_78 : decode cX7_lastingBy 78 = .ok (.aload_n 0, 1) := by decide +kernel
theorem dX7_lastingBy_79 : decode cX7_lastingBy 79 = .ok (.getfield 15, 3) := by decide +kernel
theorem dX7_lastingBy_82 : decode cX7_lastingBy 82 = .ok (.invokevirtual 58, 3) := by decide +kernel
theorem dX7_lastingBy_85 : decode cX7_lastingBy 85 = .ok (.aload_n 0, 1) := by decide +kernel
theorem dX7_lastingBy_86 : decode cX7_lastingBy 86 = .ok (.getfield 15, 3) := by decide +kernel
theorem dX7_lastingBy_89 : decode cX7_lastingBy 89 = .ok (.invokevirtual 76, 3) := by decide +kernel
theorem dX7_lastingBy_92 : decode cX7_lastingBy 92 = .ok (.iload_n 2, 1) := by decide +kernel
theorem dX7_lastingBy_93 : decode cX7_lastingBy 93 = .ok (.if_icmp .ge 6, 3) := by decide +kernel
theorem dX7_lastingBy_96 : decode cX7_lastingBy 96 = .ok (.iload 5, 2) := by decide +kernel
theorem dX7_lastingBy_98 : decode cX7_lastingBy 98 = .ok (.ireturn, 1) := by decide +kernel
theorem dX7_lastingBy_99 : decode cX7_lastingBy 99 = .ok (.iinc 5 1, 3) := by decide +kernel
theorem dX7_lastingBy_102 : decode cX7_lastingBy 102 = .ok (.goto (-82), 3) := by decide +kernel
theorem dX7_lastingBy_105 : decode cX7_lastingBy 105 = .ok (.sipush 200, 3) := by decide +kernel
theorem dX7_lastingBy_108 : decode cX7_lastingBy 108 = .ok (.ireturn, 1) := by decide +kernel
theorem dX7_firstUnlike_0 : decode cX7_firstUnlike 0 = .ok (.iconst 0, 1) := by decide +kernel
theorem dX7_firstUnlike_1 : decode cX7_firstUnlike 1 = .ok (.istore_n 3, 1) := by decide +kernel
theorem dX7_firstUnlike_2 : decode cX7_firstUnlike 2 = .ok (.iload_n 3, 1) := by decide +kernel
theorem dX7_firstUnlike_3 : decode cX7_firstUnlike 3 = .ok (.aload_n 1, 1) := by decide +kernel
theorem dX7_firstUnlike_4 : decode cX7_firstUnlike 4 = .ok (.getfield 91, 3) := by decide +kernel
theorem dX7_firstUnlike_7 : decode cX7_firstUnlike 7 = .ok (.if_icmp .ge 44, 3) := by decide +kernel
theorem dX7_firstUnlike_10 : decode cX7_firstUnlike 10 = .ok (.iload_n 3, 1) := by decide +kernel
theorem dX7_firstUnlike_11 : decode cX7_firstUnlike 11 = .ok (.bipush 60, 2) := by decide +kernel
theorem dX7_firstUnlike_13 : decode cX7_firstUnlike 13 = .ok (.if_icmp .ge 38, 3) := by decide +kernel
theorem dX7_firstUnlike_16 : decode cX7_firstUnlike 16 = .ok (.aload_n 0, 1) := by decide +kernel
theorem dX7_firstUnlike_17 : decode cX7_firstUnlike 17 = .ok (.invokevirtual 64, 3) := by decide +kernel
theorem dX7_firstUnlike_20 : decode cX7_firstUnlike 20 = .ok (.aload_n 0, 1) := by decide +kernel
theorem dX7_firstUnlike_21 : decode cX7_firstUnlike 21 = .ok (.getfield 15, 3) := by decide +kernel
theorem dX7_firstUnlike_24 : decode cX7_firstUnlike 24 = .ok (.getfield 67, 3) := by decide +kernel
theorem dX7_firstUnlike_27 : decode cX7_firstUnlike 27 = .ok (.iload_n 2, 1) := by decide +kernel
theorem dX7_firstUnlike_28 : decode cX7_firstUnlike 28 = .ok (.aaload, 1) := by decide +kernel
theorem dX7_firstUnlike_29 : decode cX7_firstUnlike 29 = .ok (.getfield 94, 3) := by decide +kernel
theorem dX7_firstUnlike_32 : decode cX7_firstUnlike 32 = .ok (.i2l, 1) := by decide +kernel
theorem dX7_firstUnlike_33 : decode cX7_firstUnlike 33 = .ok (.aload_n 1, 1) := by decide +kernel
theorem dX7_firstUnlike_34 : decode cX7_firstUnlike 34 = .ok (.getfield 97, 3) := by decide +kernel
theorem dX7_firstUnlike_37 : decode cX7_firstUnlike 37 = .ok (.iload_n 3, 1) := by decide +kernel
theorem dX7_firstUnlike_38 : decode cX7_firstUnlike 38 = .ok (.laload, 1) := by decide +kernel
theorem dX7_firstUnlike_39 : decode cX7_firstUnlike 39 = .ok (.lcmp, 1) := by decide +kernel
theorem dX7_firstUnlike_40 : decode cX7_firstUnlike 40 = .ok (.ifCond .eq 5, 3) := by decide +kernel
theorem dX7_firstUnlike_43 : decode cX7_firstUnlike 43 = .ok (.iload_n 3, 1) := by decide +kernel
theorem dX7_firstUnlike_44 : decode cX7_firstUnlike 44 = .ok (.ireturn, 1) := by decide +kernel
theorem dX7_firstUnlike_45 : decode cX7_firstUnlike 45 = .ok (.iinc 3 1, 3) := by decide +kernel
theorem dX7_firstUnlike_48 : decode cX7_firstUnlike 48 = .ok (.goto (-46), 3) := by decide +kernel
theorem dX7_firstUnlike_51 : decode cX7_firstUnlike 51 = .ok (.bipush (-2), 2) := by decide +kernel
theorem dX7_firstUnlike_53 : decode cX7_firstUnlike 53 = .ok (.ireturn, 1) := by decide +kernel
theorem dX8_init_0 : decode cX8_init 0 = .ok (.aload_n 0, 1) := by decide +kernel
theorem dX8_init_1 : decode cX8_init 1 = .ok (.invokespecial 3, 3) := by decide +kernel
theorem dX8_init_4 : decode cX8_init 4 = .ok (.aload_n 0, 1) := by decide +kernel
theorem dX8_init_5 : decode cX8_init 5 = .ok (.bipush 50, 2) := by decide +kernel
theorem dX8_init_7 : decode cX8_init 7 = .ok (.newarray .int, 2) := by decide +kernel
theorem dX8_init_9 : decode cX8_init 9 = .ok (.putfield 9, 3) := by decide +kernel
theorem dX8_init_12 : decode cX8_init 12 = .ok (.aload_n 0, 1) := by decide +kernel
theorem dX8_init_13 : decode cX8_init 13 = .ok (.bipush 24, 2) := by decide +kernel
theorem dX8_init_15 : decode cX8_init 15 = .ok (.newarray .int, 2) := by decide +kernel
theorem dX8_init_17 : decode cX8_init 17 = .ok (.putfield 15, 3) := by decide +kernel
theorem dX8_init_20 : decode cX8_init 20 = .ok (.return_, 1) := by decide +kernel
theorem dX8_has_0 : decode cX8_has 0 = .ok (.iload_n 1, 1) := by decide +kernel
theorem dX8_has_1 : decode cX8_has 1 = .ok (.ifCond .lt 15, 3) := by decide +kernel
theorem dX8_has_4 : decode cX8_has 4 = .ok (.iload_n 1, 1) := by decide +kernel
theorem dX8_has_5 : decode cX8_has 5 = .ok (.aload_n 0, 1) := by decide +kernel
theorem dX8_has_6 : decode cX8_has 6 = .ok (.getfield 18, 3) := by decide +kernel
theorem dX8_has_9 : decode cX8_has 9 = .ok (.if_icmp .ge 7, 3) := by decide +kernel
theorem dX8_has_12 : decode cX8_has 12 = .ok (.iconst 1, 1) := by decide +kernel
theorem dX8_has_13 : decode cX8_has 13 = .ok (.goto 4, 3) := by decide +kernel
theorem dX8_has_16 : decode cX8_has 16 = .ok (.iconst 0, 1) := by decide +kernel
theorem dX8_has_17 : decode cX8_has 17 = .ok (.ireturn, 1) := by decide +kernel
theorem dX8_isFull_0 : decode cX8_isFull 0 = .ok (.aload_n 0, 1) := by decide +kernel
theorem dX8_isFull_1 : decode cX8_isFull 1 = .ok (.getfield 18, 3) := by decide +kernel
theorem dX8_isFull_4 : decode cX8_isFull 4 = .ok (.bipush 50, 2) := by decide +kernel
theorem dX8_isFull_6 : decode cX8_isFull 6 = .ok (.if_icmp .lt 7, 3) := by decide +kernel
theorem dX8_isFull_9 : decode cX8_isFull 9 = .ok (.iconst 1, 1) := by decide +kernel
theorem dX8_isFull_10 : decode cX8_isFull 10 = .ok (.goto 4, 3) := by decide +kernel
theorem dX8_isFull_13 : decode cX8_isFull 13 = .ok (.iconst 0, 1) := by decide +kernel
theorem dX8_isFull_14 : decode cX8_isFull 14 = .ok (.ireturn, 1) := by decide +kernel
theorem dX8_addBody_0 : decode cX8_addBody 0 = .ok (.aload_n 0, 1) := by decide +kernel
theorem dX8_addBody_1 : decode cX8_addBody 1 = .ok (.invokevirtual 22, 3) := by decide +kernel
theorem dX8_addBody_4 : decode cX8_addBody 4 = .ok (.ifCond .eq 6, 3) := by decide +kernel
theorem dX8_addBody_7 : decode cX8_addBody 7 = .ok (.bipush (-3), 2) := by decide +kernel
theorem dX8_addBody_9 : decode cX8_addBody 9 = .ok (.ireturn, 1) := by decide +kernel
theorem dX8_addBody_10 : decode cX8_addBody 10 = .ok (.aload_n 0, 1) := by decide +kernel
theorem dX8_addBody_11 : decode cX8_addBody 11 = .ok (.getfield 9, 3) := by decide +kernel
theorem dX8_addBody_14 : decode cX8_addBody 14 = .ok (.aload_n 0, 1) := by decide +kernel
theorem dX8_addBody_15 : decode cX8_addBody 15 = .ok (.getfield 18, 3) := by decide +kernel
theorem dX8_addBody_18 : decode cX8_addBody 18 = .ok (.iload_n 1, 1) := by decide +kernel
theorem dX8_addBody_19 : decode cX8_addBody 19 = .ok (.iastore, 1) := by decide +kernel
theorem dX8_addBody_20 : decode cX8_addBody 20 = .ok (.aload_n 0, 1) := by decide +kernel
theorem dX8_addBody_21 : decode cX8_addBody 21 = .ok (.dup, 1) := by decide +kernel
theorem dX8_addBody_22 : decode cX8_addBody 22 = .ok (.getfield 18, 3) := by decide +kernel
theorem dX8_addBody_25 : decode cX8_addBody 25 = .ok (.iconst 1, 1) := by decide +kernel
theorem dX8_addBody_26 : decode cX8_addBody 26 = .ok (.iadd, 1) := by decide +kernel
theorem dX8_addBody_27 : decode cX8_addBody 27 = .ok (.putfield 18, 3) := by decide +kernel
theorem dX8_addBody_30 : decode cX8_addBody 30 = .ok (.aload_n 0, 1) := by decide +kernel
theorem dX8_addBody_31 : decode cX8_addBody 31 = .ok (.getfield 18, 3) := by decide +kernel
theorem dX8_addBody_34 : decode cX8_addBody 34 = .ok (.iconst 1, 1) := by decide +kernel
theorem dX8_addBody_35 : decode cX8_addBody 35 = .ok (.isub, 1) := by decide +kernel
theorem dX8_addBody_36 : decode cX8_addBody 36 = .ok (.ireturn, 1) := by decide +kernel
theorem dX8_isUnder_0 : decode cX8_isUnder 0 = .ok (.iload_n 0, 1) := by decide +kernel
theorem dX8_isUnder_1 : decode cX8_isUnder 1 = .ok (.istore_n 2, 1) := by decide +kernel
theorem dX8_isUnder_2 : decode cX8_isUnder 2 = .ok (.iconst 0, 1) := by decide +kernel
theorem dX8_isUnder_3 : decode cX8_isUnder 3 = .ok (.istore_n 3, 1) := by decide +kernel
theorem dX8_isUnder_4 : decode cX8_isUnder 4 = .ok (.iload_n 3, 1) := by decide +kernel
theorem dX8_isUnder_5 : decode cX8_isUnder 5 = .ok (.bipush 8, 2) := by decide +kernel
theorem dX8_isUnder_7 : decode cX8_isUnder 7 = .ok (.if_icmp .ge 29, 3) := by decide +kernel
theorem dX8_isUnder_10 : decode cX8_isUnder 10 = .ok (.iload_n 2, 1) := by decide +kernel
theorem dX8_isUnder_11 : decode cX8_isUnder 11 = .ok (.invokestatic 26, 3) := by decide +kernel
theorem dX8_isUnder_14 : decode cX8_isUnder 14 = .ok (.ifCond .eq 22, 3) := by decide +kernel
theorem dX8_isUnder_17 : decode cX8_isUnder 17 = .ok (.iload_n 2, 1) := by decide +kernel
theorem dX8_isUnder_18 : decode cX8_isUnder 18 = .ok (.iload_n 1, 1) := by decide +kernel
theorem dX8_isUnder_19 : decode cX8_isUnder 19 = .ok (.if_icmp .ne 5, 3) := by decide +kernel
theorem dX8_isUnder_22 : decode cX8_isUnder 22 = .ok (.iconst 1, 1) := by decide +kernel
theorem dX8_isUnder_23 : decode cX8_isUnder 23 = .ok (.ireturn, 1) := by decide +kernel
theorem dX8_isUnder_24 : decode cX8_isUnder 24 = .ok (.getstatic 30, 3) := by decide +kernel
theorem dX8_isUnder_27 : decode cX8_isUnder 27 = .ok (.iload_n 2, 1) := by decide +kernel
theorem dX8_isUnder_28 : decode cX8_isUnder 28 = .ok (.iaload, 1) := by decide +kernel
theorem dX8_isUnder_29 : decode cX8_isUnder 29 = .ok (.istore_n 2, 1) := by decide +kernel
theorem dX8_isUnder_30 : decode cX8_isUnder 30 = .ok (.iinc 3 1, 3) := by decide +kernel
theorem dX8_isUnder_33 : decode cX8_isUnder 33 = .ok (.goto (-29), 3) := by decide +kernel
theorem dX8_isUnder_36 : decode cX8_isUnder 36 = .ok (.iconst 0, 1) := by decide +kernel
theorem dX8_isUnder_37 : decode cX8_isUnder 37 = .ok (.ireturn, 1) := by decide +kernel
theorem dX8_perform_0 : decode cX8_perform 0 = .ok (.aload_n 0, 1) := by decide +kernel
theorem dX8_perform_1 : decode cX8_perform 1 = .ok (.iconst 0, 1) := by decide +kernel
theorem dX8_perform_2 : decode cX8_perform 2 = .ok (.putfield 33, 3) := by decide +kernel
theorem dX8_perform_5 : decode cX8_perform 5 = .ok (.aload_n 0, 1) := by decide +kernel
theorem dX8_perform_6 : decode cX8_perform 6 = .ok (.iload_n 1, 1) := by decide +kernel
theorem dX8_perform_7 : decode cX8_perform 7 = .ok (.putfield 36, 3) := by decide +kernel
theorem dX8_perform_10 : decode cX8_perform 10 = .ok (.aload_n 0, 1) := by decide +kernel
theorem dX8_perform_11 : decode cX8_perform 11 = .ok (.iload_n 2, 1) := by decide +kernel
theorem dX8_perform_12 : decode cX8_perform 12 = .ok (.iload_n 3, 1) := by decide +kernel
theorem dX8_perform_13 : decode cX8_perform 13 = .ok (.iconst 0, 1) := by decide +kernel
theorem dX8_perform_14 : decode cX8_perform 14 = .ok (.invokevirtual 39, 3) := by decide +kernel
theorem dX8_perform_17 : decode cX8_perform 17 = .ok (.ireturn, 1) := by decide +kernel
theorem dX8_own_0 : decode cX8_own 0 = .ok (.aload_n 0, 1) := by decide +kernel
theorem dX8_own_1 : decode cX8_own 1 = .ok (.aload_n 0, 1) := by decide +kernel
theorem dX8_own_2 : decode cX8_own 2 = .ok (.getfield 36, 3) := by decide +kernel
theorem dX8_own_5 : decode cX8_own 5 = .ok (.invokevirtual 43, 3) := by decide +kernel
theorem dX8_own_8 : decode cX8_own 8 = .ok (.ifCond .eq 22, 3) := by decide +kernel
theorem dX8_own_11 : decode cX8_own 11 = .ok (.aload_n 0, 1) := by decide +kernel
theorem dX8_own_12 : decode cX8_own 12 = .ok (.aload_n 0, 1) := by decide +kernel
theorem dX8_own_13 : decode cX8_own 13 = .ok (.getfield 9, 3) := by decide +kernel
theorem dX8_own_16 : decode cX8_own 16 = .ok (.aload_n 0, 1) := by decide +kernel
theorem dX8_own_17 : decode cX8_own 17 = .ok (.getfield 36, 3) := by decide +kernel
theorem dX8_own_20 : decode cX8_own 20 = .ok (.iaload, 1) := by decide +kernel
theorem dX8_own_21 : decode cX8_own 21 = .ok (.iload_n 1, 1) := by decide +kernel
theorem dX8_own_22 : decode cX8_own 22 = .ok (.iload_n 2, 1) := by decide +kernel
theorem dX8_own_23 : decode cX8_own 23 = .ok (.iload_n 3, 1) := by decide +kernel
theorem dX8_own_24 : decode cX8_own 24 = .ok (.invokevirtual 46, 3) := by decide +kernel
theorem dX8_own_27 : decode cX8_own 27 = .ok (.goto 4, 3) := by decide +kernel
theorem dX8_own_30 : decode cX8_own 30 = .ok (.iconst 0, 1) := by decide +kernel
theorem dX8_own_31 : decode cX8_own 31 = .ok (.ireturn, 1) := by decide +kernel
theorem dX8_above_0 : decode cX8_above 0 = .ok (.iload_n 1, 1) := by decide +kernel
theorem dX8_above_1 : decode cX8_above 1 = .ok (.invokestatic 26, 3) := by decide +kernel
theorem dX8_above_4 : decode cX8_above 4 = .ok (.ifCond .eq 19, 3) := by decide +kernel
theorem dX8_above_7 : decode cX8_above 7 = .ok (.aload_n 0, 1) := by decide +kernel
theorem dX8_above_8 : decode cX8_above 8 = .ok (.getstatic 30, 3) := by decide +kernel
theorem dX8_above_11 : decode cX8_above 11 = .ok (.iload_n 1, 1) := by decide +kernel
theorem dX8_above_12 : decode cX8_above 12 = .ok (.iaload, 1) := by decide +kernel
theorem dX8_above_13 : decode cX8_above 13 = .ok (.iload_n 2, 1) := by decide +kernel
theorem dX8_above_14 : decode cX8_above 14 = .ok (.iload_n 3, 1) := by decide +kernel
theorem dX8_above_15 : decode cX8_above 15 = .ok (.iload 4, 2) := by decide +kernel
theorem dX8_above_17 : decode cX8_above 17 = .ok (.invokevirtual 46, 3) := by decide +kernel
theorem dX8_above_20 : decode cX8_above 20 = .ok (.goto 4, 3) := by decide +kernel
theorem dX8_above_23 : decode cX8_above 23 = .ok (.iconst 0, 1) := by decide +kernel
theorem dX8_above_24 : decode cX8_above 24 = .ok (.ireturn, 1) := by decide +kernel
theorem dX8_runFrom_0 : decode cX8_runFrom 0 = .ok (.iload_n 1, 1) := by decide +kernel
theorem dX8_runFrom_1 : decode cX8_runFrom 1 = .ok (.istore 5, 2) := by decide +kernel
theorem dX8_runFrom_3 : decode cX8_runFrom 3 = .ok (.iconst 0, 1) := by decide +kernel
theorem dX8_runFrom_4 : decode cX8_runFrom 4 = .ok (.istore 6, 2) := by decide +kernel
theorem dX8_runFrom_6 : decode cX8_runFrom 6 = .ok (.iload 6, 2) := by decide +kernel
theorem dX8_runFrom_8 : decode cX8_runFrom 8 = .ok (.bipush 8, 2) := by decide +kernel
theorem dX8_runFrom_10 : decode cX8_runFrom 10 = .ok (.if_icmp .ge 71, 3) := by decide +kernel
theorem dX8_runFrom_13 : decode cX8_runFrom 13 = .ok (.iload 5, 2) := by decide +kernel
theorem dX8_runFrom_15 : decode cX8_runFrom 15 = .ok (.invokestatic 26, 3) := by decide +kernel
theorem dX8_runFrom_18 : decode cX8_runFrom 18 = .ok (.ifCond .eq 63, 3) := by decide +kernel
theorem dX8_runFrom_21 : decode cX8_runFrom 21 = .ok (.getstatic 50, 3) := by decide +kernel
theorem dX8_runFrom_24 : decode cX8_runFrom 24 = .ok (.iload 5, 2) := by decide +kernel
theorem dX8_runFrom_26 : decode cX8_runFrom 26 = .ok (.iconst 4, 1) := by decide +kernel
theorem dX8_runFrom_27 : decode cX8_runFrom 27 = .ok (.imul, 1) := by decide +kernel
theorem dX8_runFrom_28 : decode cX8_runFrom 28 = .ok (.iload_n 2, 1) := by decide +kernel
theorem dX8_runFrom_29 : decode cX8_runFrom 29 = .ok (.iadd, 1) := by decide +kernel
theorem dX8_runFrom_30 : decode cX8_runFrom 30 = .ok (.iaload, 1) := by decide +kernel
theorem dX8_runFrom_31 : decode cX8_runFrom 31 = .ok (.ifCond .eq 36, 3) := by decide +kernel
theorem dX8_runFrom_34 : decode cX8_runFrom 34 = .ok (.iload 4, 2) := by decide +kernel
theorem dX8_runFrom_36 : decode cX8_runFrom 36 = .ok (.bipush 30, 2) := by decide +kernel
theorem dX8_runFrom_38 : decode cX8_runFrom 38 = .ok (.if_icmp .ge 27, 3) := by decide +kernel
theorem dX8_runFrom_41 : decode cX8_runFrom 41 = .ok (.aload_n 0, 1) := by decide +kernel
theorem dX8_runFrom_42 : decode cX8_runFrom 42 = .ok (.getstatic 50, 3) := by decide +kernel
theorem dX8_runFrom_45 : decode cX8_runFrom 45 = .ok (.iload 5, 2) := by decide +kernel
theorem dX8_runFrom_47 : decode cX8_runFrom 47 = .ok (.iconst 4, 1) := by decide +kernel
theorem dX8_runFrom_48 : decode cX8_runFrom 48 = .ok (.imul, 1) := by decide +kernel
theorem dX8_runFrom_49 : decode cX8_runFrom 49 = .ok (.iload_n 2, 1) := by decide +kernel
theorem dX8_runFrom_50 : decode cX8_runFrom 50 = .ok (.iadd, 1) := by decide +kernel
theorem dX8_runFrom_51 : decode cX8_runFrom 51 = .ok (.iaload, 1) := by decide +kernel
theorem dX8_runFrom_52 : decode cX8_runFrom 52 = .ok (.iload 5, 2) := by decide +kernel
theorem dX8_runFrom_54 : decode cX8_runFrom 54 = .ok (.iload_n 3, 1) := by decide +kernel
theorem dX8_runFrom_55 : decode cX8_runFrom 55 = .ok (.iload 4, 2) := by decide +kernel
theorem dX8_runFrom_57 : decode cX8_runFrom 57 = .ok (.iconst 1, 1) := by decide +kernel
theorem dX8_runFrom_58 : decode cX8_runFrom 58 = .ok (.iadd, 1) := by decide +kernel
theorem dX8_runFrom_59 : decode cX8_runFrom 59 = .ok (.invokevirtual 53, 3) := by decide +kernel
theorem dX8_runFrom_62 : decode cX8_runFrom 62 = .ok (.goto 4, 3) := by decide +kernel
theorem dX8_runFrom_65 : decode cX8_runFrom 65 = .ok (.iconst 0, 1) := by decide +kernel
theorem dX8_runFrom_66 : decode cX8_runFrom 66 = .ok (.ireturn, 1) := by decide +kernel
theorem dX8_runFrom_67 : decode cX8_runFrom 67 = .ok (.getstatic 30, 3) := by decide +kernel
theorem dX8_runFrom_70 : decode cX8_runFrom 70 = .ok (.iload 5, 2) := by decide +kernel
theorem dX8_runFrom_72 : decode cX8_runFrom 72 = .ok (.iaload, 1) := by decide +kernel
theorem dX8_runFrom_73 : decode cX8_runFrom 73 = .ok (.istore 5, 2) := by decide +kernel
theorem dX8_runFrom_75 : decode cX8_runFrom 75 = .ok (.iinc 6 1, 3) := by decide +kernel
theorem dX8_runFrom_78 : decode cX8_runFrom 78 = .ok (.goto (-72), 3) := by decide +kernel
theorem dX8_runFrom_81 : decode cX8_runFrom 81 = .ok (.iconst 0, 1) := by decide +kernel
theorem dX8_runFrom_82 : decode cX8_runFrom 82 = .ok (.ireturn, 1) := by decide +kernel
theorem dX8_run_0 : decode cX8_run 0 = .ok (.aload_n 0, 1) := by decide +kernel
theorem dX8_run_1 : decode cX8_run 1 = .ok (.iload_n 1, 1) := by decide +kernel
theorem dX8_run_2 : decode cX8_run 2 = .ok (.invokevirtual 56, 3) := by decide +kernel
theorem dX8_run_5 : decode cX8_run 5 = .ok (.iload_n 1, 1) := by decide +kernel
theorem dX8_run_6 : decode cX8_run 6 = .ok (.lookupswitch 278 #[(1, 114), (2, 121), (10, 139), (11, 150), (20, 157), (30, 169), (40, 180), (41, 192), (50, 204), (60, 223), (70, 235), (80, 247), (81, 266)], 114) := by decide +kernel
theorem dX8_run_120 : decode cX8_run 120 = .ok (.iload_n 3, 1) := by decide +kernel
theorem dX8_run_121 : decode cX8_run 121 = .ok (.aload_n 0, 1) := by decide +kernel
theorem dX8_run_122 : decode cX8_run 122 = .ok (.getfield 36, 3) := by decide +kernel
theorem dX8_run_125 : decode cX8_run 125 = .ok (.iadd, 1) := by decide +kernel
theorem dX8_run_126 : decode cX8_run 126 = .ok (.ireturn, 1) := by decide +kernel
theorem dX8_run_127 : decode cX8_run 127 = .ok (.aload_n 0, 1) := by decide +kernel
theorem dX8_run_128 : decode cX8_run 128 = .ok (.iconst 1, 1) := by decide +kernel
theorem dX8_run_129 : decode cX8_run 129 = .ok (.iload_n 3, 1) := by decide +kernel
theorem dX8_run_130 : decode cX8_run 130 = .ok (.iload 4, 2) := by decide +kernel
theorem dX8_run_132 : decode cX8_run 132 = .ok (.invokevirtual 39, 3) := by decide +kernel
theorem dX8_run_135 : decode cX8_run 135 = .ok (.aload_n 0, 1) := by decide +kernel
theorem dX8_run_136 : decode cX8_run 136 = .ok (.iconst 2, 1) := by decide +kernel
theorem dX8_run_137 : decode cX8_run 137 = .ok (.iconst 1, 1) := by decide +kernel
theorem dX8_run_138 : decode cX8_run 138 = .ok (.iload 4, 2) := by decide +kernel
theorem dX8_run_140 : decode cX8_run 140 = .ok (.invokevirtual 39, 3) := by decide +kernel
theorem dX8_run_143 : decode cX8_run 143 = .ok (.isub, 1) := by decide +kernel
theorem dX8_run_144 : decode cX8_run 144 = .ok (.ireturn, 1) := by decide +kernel
theorem dX8_run_145 : decode cX8_run 145 = .ok (.aload_n 0, 1) := by decide +kernel
theorem dX8_run_146 : decode cX8_run 146 = .ok (.iconst 0, 1) := by decide +kernel
theorem dX8_run_147 : decode cX8_run 147 = .ok (.iload_n 3, 1) := by decide +kernel
theorem dX8_run_148 : decode cX8_run 148 = .ok (.iload 4, 2) := by decide +kernel
theorem dX8_run_150 : decode cX8_run 150 = .ok (.invokevirtual 39, 3) := by decide +kernel
theorem dX8_run_153 : decode cX8_run 153 = .ok (.iconst 2, 1) := by decide +kernel
theorem dX8_run_154 : decode cX8_run 154 = .ok (.imul, 1) := by decide +kernel
theorem dX8_run_155 : decode cX8_run 155 = .ok (.ireturn, 1) := by decide +kernel
theorem dX8_run_156 : decode cX8_run 156 = .ok (.iload_n 3, 1) := by decide +kernel
theorem dX8_run_157 : decode cX8_run 157 = .ok (.aload_n 0, 1) := by decide +kernel
theorem dX8_run_158 : decode cX8_run 158 = .ok (.getfield 36, 3) := by decide +kernel
theorem dX8_run_161 : decode cX8_run 161 = .ok (.ixor, 1) := by decide +kernel
theorem dX8_run_162 : decode cX8_run 162 = .ok (.ireturn, 1) := by decide +kernel
theorem dX8_run_163 : decode cX8_run 163 = .ok (.aload_n 0, 1) := by decide +kernel
theorem dX8_run_164 : decode cX8_run 164 = .ok (.iload_n 2, 1) := by decide +kernel
theorem dX8_run_165 : decode cX8_run 165 = .ok (.iconst 0, 1) := by decide +kernel
theorem dX8_run_166 : decode cX8_run 166 = .ok (.iload_n 3, 1) := by decide +kernel
theorem dX8_run_167 : decode cX8_run 167 = .ok (.iload 4, 2) := by decide +kernel
theorem dX8_run_169 : decode cX8_run 169 = .ok (.invokevirtual 60, 3) := by decide +kernel
theorem dX8_run_172 : decode cX8_run 172 = .ok (.iconst 3, 1) := by decide +kernel
theorem dX8_run_173 : decode cX8_run 173 = .ok (.iadd, 1) := by decide +kernel
theorem dX8_run_174 : decode cX8_run 174 = .ok (.ireturn, 1) := by decide +kernel
theorem dX8_run_175 : decode cX8_run 175 = .ok (.aload_n 0, 1) := by decide +kernel
theorem dX8_run_176 : decode cX8_run 176 = .ok (.iload_n 2, 1) := by decide +kernel
theorem dX8_run_177 : decode cX8_run 177 = .ok (.iconst 1, 1) := by decide +kernel
theorem dX8_run_178 : decode cX8_run 178 = .ok (.iload_n 3, 1) := by decide +kernel
theorem dX8_run_179 : decode cX8_run 179 = .ok (.iload 4, 2) := by decide +kernel
theorem dX8_run_181 : decode cX8_run 181 = .ok (.invokevirtual 60, 3) := by decide +kernel
theorem dX8_run_184 : decode cX8_run 184 = .ok (.ineg, 1) := by decide +kernel
theorem dX8_run_185 : decode cX8_run 185 = .ok (.ireturn, 1) := by decide +kernel
theorem dX8_run_186 : decode cX8_run 186 = .ok (.aload_n 0, 1) := by decide +kernel
theorem dX8_run_187 : decode cX8_run 187 = .ok (.iload_n 2, 1) := by decide +kernel
theorem dX8_run_188 : decode cX8_run 188 = .ok (.iconst 2, 1) := by decide +kernel
theorem dX8_run_189 : decode cX8_run 189 = .ok (.iload_n 3, 1) := by decide +kernel
theorem dX8_run_190 : decode cX8_run 190 = .ok (.iload 4, 2) := by decide +kernel
theorem dX8_run_192 : decode cX8_run 192 = .ok (.invokevirtual 60, 3) := by decide +kernel
theorem dX8_run_195 : decode cX8_run 195 = .ok (.iconst 3, 1) := by decide +kernel
theorem dX8_run_196 : decode cX8_run 196 = .ok (.imul, 1) := by decide +kernel
theorem dX8_run_197 : decode cX8_run 197 = .ok (.ireturn, 1) := by decide +kernel
theorem dX8_run_198 : decode cX8_run 198 = .ok (.aload_n 0, 1) := by decide +kernel
theorem dX8_run_199 : decode cX8_run 199 = .ok (.iload_n 2, 1) := by decide +kernel
theorem dX8_run_200 : decode cX8_run 200 = .ok (.iconst 1, 1) := by decide +kernel
theorem dX8_run_201 : decode cX8_run 201 = .ok (.iload_n 3, 1) := by decide +kernel
theorem dX8_run_202 : decode cX8_run 202 = .ok (.iconst 1, 1) := by decide +kernel
theorem dX8_run_203 : decode cX8_run 203 = .ok (.iadd, 1) := by decide +kernel
theorem dX8_run_204 : decode cX8_run 204 = .ok (.iload 4, 2) := by decide +kernel
theorem dX8_run_206 : decode cX8_run 206 = .ok (.invokevirtual 60, 3) := by decide +kernel
theorem dX8_run_209 : decode cX8_run 209 = .ok (.ireturn, 1) := by decide +kernel
theorem dX8_run_210 : decode cX8_run 210 = .ok (.aload_n 0, 1) := by decide +kernel
theorem dX8_run_211 : decode cX8_run 211 = .ok (.iload_n 2, 1) := by decide +kernel
theorem dX8_run_212 : decode cX8_run 212 = .ok (.iconst 2, 1) := by decide +kernel
theorem dX8_run_213 : decode cX8_run 213 = .ok (.iload_n 3, 1) := by decide +kernel
theorem dX8_run_214 : decode cX8_run 214 = .ok (.iload 4, 2) := by decide +kernel
theorem dX8_run_216 : decode cX8_run 216 = .ok (.invokevirtual 60, 3) := by decide +kernel
theorem dX8_run_219 : decode cX8_run 219 = .ok (.aload_n 0, 1) := by decide +kernel
theorem dX8_run_220 : decode cX8_run 220 = .ok (.iconst 0, 1) := by decide +kernel
theorem dX8_run_221 : decode cX8_run 221 = .ok (.iconst 2, 1) := by decide +kernel
theorem dX8_run_222 : decode cX8_run 222 = .ok (.iload 4, 2) := by decide +kernel
theorem dX8_run_224 : decode cX8_run 224 = .ok (.invokevirtual 39, 3) := by decide +kernel
theorem dX8_run_227 : decode cX8_run 227 = .ok (.isub, 1) := by decide +kernel
theorem dX8_run_228 : decode cX8_run 228 = .ok (.ireturn, 1) := by decide +kernel
theorem dX8_run_229 : decode cX8_run 229 = .ok (.aload_n 0, 1) := by decide +kernel
theorem dX8_run_230 : decode cX8_run 230 = .ok (.iload_n 2, 1) := by decide +kernel
theorem dX8_run_231 : decode cX8_run 231 = .ok (.iconst 3, 1) := by decide +kernel
theorem dX8_run_232 : decode cX8_run 232 = .ok (.iload_n 3, 1) := by decide +kernel
theorem dX8_run_233 : decode cX8_run 233 = .ok (.iload 4, 2) := by decide +kernel
theorem dX8_run_235 : decode cX8_run 235 = .ok (.invokevirtual 60, 3) := by decide +kernel
theorem dX8_run_238 : decode cX8_run 238 = .ok (.iconst 5, 1) := by decide +kernel
theorem dX8_run_239 : decode cX8_run 239 = .ok (.ixor, 1) := by decide +kernel
theorem dX8_run_240 : decode cX8_run 240 = .ok (.ireturn, 1) := by decide +kernel
theorem dX8_run_241 : decode cX8_run 241 = .ok (.aload_n 0, 1) := by decide +kernel
theorem dX8_run_242 : decode cX8_run 242 = .ok (.iload_n 2, 1) := by decide +kernel
theorem dX8_run_243 : decode cX8_run 243 = .ok (.iconst 0, 1) := by decide +kernel
theorem dX8_run_244 : decode cX8_run 244 = .ok (.iload_n 3, 1) := by decide +kernel
theorem dX8_run_245 : decode cX8_run 245 = .ok (.iload 4, 2) := by decide +kernel
theorem dX8_run_247 : decode cX8_run 247 = .ok (.invokevirtual 60, 3) := by decide +kernel
theorem dX8_run_250 : decode cX8_run 250 = .ok (.iconst 2, 1) := by decide +kernel
theorem dX8_run_251 : decode cX8_run 251 = .ok (.imul, 1) := by decide +kernel
theorem dX8_run_252 : decode cX8_run 252 = .ok (.ireturn, 1) := by decide +kernel
theorem dX8_run_253 : decode cX8_run 253 = .ok (.aload_n 0, 1) := by decide +kernel
theorem dX8_run_254 : decode cX8_run 254 = .ok (.iload_n 2, 1) := by decide +kernel
theorem dX8_run_255 : decode cX8_run 255 = .ok (.iconst 1, 1) := by decide +kernel
theorem dX8_run_256 : decode cX8_run 256 = .ok (.iload_n 3, 1) := by decide +kernel
theorem dX8_run_257 : decode cX8_run 257 = .ok (.iload 4, 2) := by decide +kernel
theorem dX8_run_259 : decode cX8_run 259 = .ok (.invokevirtual 60, 3) := by decide +kernel
theorem dX8_run_262 : decode cX8_run 262 = .ok (.aload_n 0, 1) := by decide +kernel
theorem dX8_run_263 : decode cX8_run 263 = .ok (.iconst 2, 1) := by decide +kernel
theorem dX8_run_264 : decode cX8_run 264 = .ok (.iconst 2, 1) := by decide +kernel
theorem dX8_run_265 : decode cX8_run 265 = .ok (.iload 4, 2) := by decide +kernel
theorem dX8_run_267 : decode cX8_run 267 = .ok (.invokevirtual 39, 3) := by decide +kernel
theorem dX8_run_270 : decode cX8_run 270 = .ok (.iadd, 1) := by decide +kernel
theorem dX8_run_271 : decode cX8_run 271 = .ok (.ireturn, 1) := by decide +kernel
theorem dX8_run_272 : decode cX8_run 272 = .ok (.aload_n 0, 1) := by decide +kernel
theorem dX8_run_273 : decode cX8_run 273 = .ok (.iload_n 2, 1) := by decide +kernel
theorem dX8_run_274 : decode cX8_run 274 = .ok (.iconst 3, 1) := by decide +kernel
theorem dX8_run_275 : decode cX8_run 275 = .ok (.iload_n 3, 1) := by decide +kernel
theorem dX8_run_276 : decode cX8_run 276 = .ok (.iload 4, 2) := by decide +kernel
theorem dX8_run_278 : decode cX8_run 278 = .ok (.invokevirtual 60, 3) := by decide +kernel
theorem dX8_run_281 : decode cX8_run 281 = .ok (.iconst 1, 1) := by decide +kernel
theorem dX8_run_282 : decode cX8_run 282 = .ok (.isub, 1) := by decide +kernel
theorem dX8_run_283 : decode cX8_run 283 = .ok (.ireturn, 1) := by decide +kernel
theorem dX8_run_284 : decode cX8_run 284 = .ok (.iconst 0, 1) := by decide +kernel
theorem dX8_run_285 : decode cX8_run 285 = .ok (.ireturn, 1) := by decide +kernel
theorem dX8_note_0 : decode cX8_note 0 = .ok (.aload_n 0, 1) := by decide +kernel
theorem dX8_note_1 : decode cX8_note 1 = .ok (.getfield 33, 3) := by decide +kernel
theorem dX8_note_4 : decode cX8_note 4 = .ok (.bipush 24, 2) := by decide +kernel
theorem dX8_note_6 : decode cX8_note 6 = .ok (.if_icmp .ge 13, 3) := by decide +kernel
theorem dX8_note_9 : decode cX8_note 9 = .ok (.aload_n 0, 1) := by decide +kernel
theorem dX8_note_10 : decode cX8_note 10 = .ok (.getfield 15, 3) := by decide +kernel
theorem dX8_note_13 : decode cX8_note 13 = .ok (.aload_n 0, 1) := by decide +kernel
theorem dX8_note_14 : decode cX8_note 14 = .ok (.getfield 33, 3) := by decide +kernel
theorem dX8_note_17 : decode cX8_note 17 = .ok (.iload_n 1, 1) := by decide +kernel
theorem dX8_note_18 : decode cX8_note 18 = .ok (.iastore, 1) := by decide +kernel
theorem dX8_note_19 : decode cX8_note 19 = .ok (.aload_n 0, 1) := by decide +kernel
theorem dX8_note_20 : decode cX8_note 20 = .ok (.dup, 1) := by decide +kernel
theorem dX8_note_21 : decode cX8_note 21 = .ok (.getfield 33, 3) := by decide +kernel
theorem dX8_note_24 : decode cX8_note 24 = .ok (.iconst 1, 1) := by decide +kernel
theorem dX8_note_25 : decode cX8_note 25 = .ok (.iadd, 1) := by decide +kernel
theorem dX8_note_26 : decode cX8_note 26 = .ok (.putfield 33, 3) := by decide +kernel
theorem dX8_note_29 : decode cX8_note 29 = .ok (.return_, 1) := by decide +kernel
theorem dX9_init_0 : decode cX9_init 0 = .ok (.aload_n 0, 1) := by decide +kernel
theorem dX9_init_1 : decode cX9_init 1 = .ok (.invokespecial 1, 3) := by decide +kernel
theorem dX9_init_4 : decode cX9_init 4 = .ok (.aload_n 0, 1) := by decide +kernel
theorem dX9_init_5 : decode cX9_init 5 = .ok (.new 7, 3) := by decide +kernel
theorem dX9_init_8 : decode cX9_init 8 = .ok (.dup, 1) := by decide +kernel
theorem dX9_init_9 : decode cX9_init 9 = .ok (.invokespecial 9, 3) := by decide +kernel
theorem dX9_init_12 : decode cX9_init 12 = .ok (.putfield 10, 3) := by decide +kernel
theorem dX9_init_15 : decode cX9_init 15 = .ok (.aload_n 0, 1) := by decide +kernel
theorem dX9_init_16 : decode cX9_init 16 = .ok (.new 16, 3) := by decide +kernel
theorem dX9_init_19 : decode cX9_init 19 = .ok (.dup, 1) := by decide +kernel
theorem dX9_init_20 : decode cX9_init 20 = .ok (.invokespecial 18, 3) := by decide +kernel
theorem dX9_init_23 : decode cX9_init 23 = .ok (.putfield 19, 3) := by decide +kernel
theorem dX9_init_26 : decode cX9_init 26 = .ok (.aload_n 0, 1) := by decide +kernel
theorem dX9_init_27 : decode cX9_init 27 = .ok (.new 23, 3) := by decide +kernel
theorem dX9_init_30 : decode cX9_init 30 = .ok (.dup, 1) := by decide +kernel
theorem dX9_init_31 : decode cX9_init 31 = .ok (.aload_n 0, 1) := by decide +kernel
theorem dX9_init_32 : decode cX9_init 32 = .ok (.getfield 10, 3) := by decide +kernel
theorem dX9_init_35 : decode cX9_init 35 = .ok (.invokespecial 25, 3) := by decide +kernel
theorem dX9_init_38 : decode cX9_init 38 = .ok (.putfield 28, 3) := by decide +kernel
theorem dX9_init_41 : decode cX9_init 41 = .ok (.aload_n 0, 1) := by decide +kernel
theorem dX9_init_42 : decode cX9_init 42 = .ok (.new 23, 3) := by decide +kernel
theorem dX9_init_45 : decode cX9_init 45 = .ok (.dup, 1) := by decide +kernel
theorem dX9_init_46 : decode cX9_init 46 = .ok (.aload_n 0, 1) := by decide +kernel
theorem dX9_init_47 : decode cX9_init 47 = .ok (.getfield 10, 3) := by decide +kernel
theorem dX9_init_50 : decode cX9_init 50 = .ok (.invokespecial 25, 3) := by decide +kernel
theorem dX9_init_53 : decode cX9_init 53 = .ok (.putfield 32, 3) := by decide +kernel
theorem dX9_init_56 : decode cX9_init 56 = .ok (.aload_n 0, 1) := by decide +kernel
theorem dX9_init_57 : decode cX9_init 57 = .ok (.new 35, 3) := by decide +kernel
theorem dX9_init_60 : decode cX9_init 60 = .ok (.dup, 1) := by decide +kernel
theorem dX9_init_61 : decode cX9_init 61 = .ok (.aload_n 0, 1) := by decide +kernel
theorem dX9_init_62 : decode cX9_init 62 = .ok (.getfield 28, 3) := by decide +kernel
theorem dX9_init_65 : decode cX9_init 65 = .ok (.new 23, 3) := by decide +kernel
theorem dX9_init_68 : decode cX9_init 68 = .ok (.dup, 1) := by decide +kernel
theorem dX9_init_69 : decode cX9_init 69 = .ok (.aload_n 0, 1) := by decide +kernel
theorem dX9_init_70 : decode cX9_init 70 = .ok (.getfield 10, 3) := by decide +kernel
theorem dX9_init_73 : decode cX9_init 73 = .ok (.invokespecial 25, 3) := by decide +kernel
theorem dX9_init_76 : decode cX9_init 76 = .ok (.invokespecial 37, 3) := by decide +kernel
theorem dX9_init_79 : decode cX9_init 79 = .ok (.putfield 40, 3) := by decide +kernel
theorem dX9_init_82 : decode cX9_init 82 = .ok (.aload_n 0, 1) := by decide +kernel
theorem dX9_init_83 : decode cX9_init 83 = .ok (.new 44, 3) := by decide +kernel
theorem dX9_init_86 : decode cX9_init 86 = .ok (.dup, 1) := by decide +kernel
theorem dX9_init_87 : decode cX9_init 87 = .ok (.invokespecial 46, 3) := by decide +kernel
theorem dX9_init_90 : decode cX9_init 90 = .ok (.putfield 47, 3) := by decide +kernel
theorem dX9_init_93 : decode cX9_init 93 = .ok (.aload_n 0, 1) := by decide +kernel
theorem dX9_init_94 : decode cX9_init 94 = .ok (.new 51, 3) := by decide +kernel
theorem dX9_init_97 : decode cX9_init 97 = .ok (.dup, 1) := by decide +kernel
theorem dX9_init_98 : decode cX9_init 98 = .ok (.invokespecial 53, 3) := by decide +kernel
theorem dX9_init_101 : decode cX9_init 101 = .ok (.putfield 54, 3) := by decide +kernel
theorem dX9_init_104 : decode cX9_init 104 = .ok (.aload_n 0, 1) := by decide +kernel
theorem dX9_init_105 : decode cX9_init 105 = .ok (.new 58, 3) := by decide +kernel
theorem dX9_init_108 : decode cX9_init 108 = .ok (.dup, 1) := by decide +kernel
theorem dX9_init_109 : decode cX9_init 109 = .ok (.invokespecial 60, 3) := by decide +kernel
theorem dX9_init_112 : decode cX9_init 112 = .ok (.putfield 61, 3) := by decide +kernel
theorem dX9_init_115 : decode cX9_init 115 = .ok (.aload_n 0, 1) := by decide +kernel
theorem dX9_init_116 : decode cX9_init 116 = .ok (.bipush 6, 2) := by decide +kernel
theorem dX9_init_118 : decode cX9_init 118 = .ok (.anewarray 65, 3) := by decide +kernel
theorem dX9_init_121 : decode cX9_init 121 = .ok (.putfield 67, 3) := by decide +kernel
theorem dX9_init_124 : decode cX9_init 124 = .ok (.iconst 0, 1) := by decide +kernel
theorem dX9_init_125 : decode cX9_init 125 = .ok (.istore_n 1, 1) := by decide +kernel
theorem dX9_init_126 : decode cX9_init 126 = .ok (.iload_n 1, 1) := by decide +kernel
theorem dX9_init_127 : decode cX9_init 127 = .ok (.bipush 6, 2) := by decide +kernel
theorem dX9_init_129 : decode cX9_init 129 = .ok (.if_icmp .ge 22, 3) := by decide +kernel
theorem dX9_init_132 : decode cX9_init 132 = .ok (.aload_n 0, 1) := by decide +kernel
theorem dX9_init_133 : decode cX9_init 133 = .ok (.getfield 67, 3) := by decide +kernel
theorem dX9_init_136 : decode cX9_init 136 = .ok (.iload_n 1, 1) := by decide +kernel
theorem dX9_init_137 : decode cX9_init 137 = .ok (.new 65, 3) := by decide +kernel
theorem dX9_init_140 : decode cX9_init 140 = .ok (.dup, 1) := by decide +kernel
theorem dX9_init_141 : decode cX9_init 141 = .ok (.invokespecial 71, 3) := by decide +kernel
theorem dX9_init_144 : decode cX9_init 144 = .ok (.aastore, 1) := by decide +kernel
theorem dX9_init_145 : decode cX9_init 145 = .ok (.iinc 1 1, 3) := by decide +kernel
theorem dX9_init_148 : decode cX9_init 148 = .ok (.goto (-22), 3) := by decide +kernel
theorem dX9_init_151 : decode cX9_init 151 = .ok (.aload_n 0, 1) := by decide +kernel
theorem dX9_init_152 : decode cX9_init 152 = .ok (.iconst 0, 1) := by decide +kernel
theorem dX9_init_153 : decode cX9_init 153 = .ok (.putfield 72, 3) := by decide +kernel
theorem dX9_init_156 : decode cX9_init 156 = .ok (.return_, 1) := by decide +kernel
theorem dX9_hoop_0 : decode cX9_hoop 0 = .ok (.iload_n 1, 1) := by decide +kernel
theorem dX9_hoop_1 : decode cX9_hoop 1 = .ok (.ifCond .lt 23, 3) := by decide +kernel
theorem dX9_hoop_4 : decode cX9_hoop 4 = .ok (.iload_n 1, 1) := by decide +kernel
theorem dX9_hoop_5 : decode cX9_hoop 5 = .ok (.bipush 10, 2) := by decide +kernel
theorem dX9_hoop_7 : decode cX9_hoop 7 = .ok (.idiv, 1) := by decide +kernel
theorem dX9_hoop_8 : decode cX9_hoop 8 = .ok (.invokestatic 76, 3) := by decide +kernel
theorem dX9_hoop_11 : decode cX9_hoop 11 = .ok (.ifCond .eq 13, 3) := by decide +kernel
theorem dX9_hoop_14 : decode cX9_hoop 14 = .ok (.iload_n 1, 1) := by decide +kernel
theorem dX9_hoop_15 : decode cX9_hoop 15 = .ok (.bipush 10, 2) := by decide +kernel
theorem dX9_hoop_17 : decode cX9_hoop 17 = .ok (.irem, 1) := by decide +kernel
theorem dX9_hoop_18 : decode cX9_hoop 18 = .ok (.invokestatic 76, 3) := by decide +kernel
theorem dX9_hoop_21 : decode cX9_hoop 21 = .ok (.ifCond .ne 5, 3) := by decide +kernel
theorem dX9_hoop_24 : decode cX9_hoop 24 = .ok (.iconst (-1), 1) := by decide +kernel
theorem dX9_hoop_25 : decode cX9_hoop 25 = .ok (.ireturn, 1) := by decide +kernel
theorem dX9_hoop_26 : decode cX9_hoop 26 = .ok (.aload_n 0, 1) := by decide +kernel
theorem dX9_hoop_27 : decode cX9_hoop 27 = .ok (.getfield 28, 3) := by decide +kernel
theorem dX9_hoop_30 : decode cX9_hoop 30 = .ok (.invokevirtual 80, 3) := by decide +kernel
theorem dX9_hoop_33 : decode cX9_hoop 33 = .ok (.ifCond .eq 6, 3) := by decide +kernel
theorem dX9_hoop_36 : decode cX9_hoop 36 = .ok (.bipush (-3), 2) := by decide +kernel
theorem dX9_hoop_38 : decode cX9_hoop 38 = .ok (.ireturn, 1) := by decide +kernel
theorem dX9_hoop_39 : decode cX9_hoop 39 = .ok (.aload_n 0, 1) := by decide +kernel
theorem dX9_hoop_40 : decode cX9_hoop 40 = .ok (.getfield 28, 3) := by decide +kernel
theorem dX9_hoop_43 : decode cX9_hoop 43 = .ok (.iload_n 1, 1) := by decide +kernel
theorem dX9_hoop_44 : decode cX9_hoop 44 = .ok (.bipush 10, 2) := by decide +kernel
theorem dX9_hoop_46 : decode cX9_hoop 46 = .ok (.idiv, 1) := by decide +kernel
theorem dX9_hoop_47 : decode cX9_hoop 47 = .ok (.iload_n 1, 1) := by decide +kernel
theorem dX9_hoop_48 : decode cX9_hoop 48 = .ok (.bipush 10, 2) := by decide +kernel
theorem dX9_hoop_50 : decode cX9_hoop 50 = .ok (.irem, 1) := by decide +kernel
theorem dX9_hoop_51 : decode cX9_hoop 51 = .ok (.iconst 4, 1) := by decide +kernel
theorem dX9_hoop_52 : decode cX9_hoop 52 = .ok (.invokevirtual 84, 3) := by decide +kernel
theorem dX9_hoop_55 : decode cX9_hoop 55 = .ok (.ireturn, 1) := by decide +kernel
theorem dX9_hoops_0 : decode cX9_hoops 0 = .ok (.iload_n 1, 1) := by decide +kernel
theorem dX9_hoops_1 : decode cX9_hoops 1 = .ok (.invokestatic 88, 3) := by decide +kernel
theorem dX9_hoops_4 : decode cX9_hoops 4 = .ok (.ifCond .eq 13, 3) := by decide +kernel
theorem dX9_hoops_7 : decode cX9_hoops 7 = .ok (.iload_n 3, 1) := by decide +kernel
theorem dX9_hoops_8 : decode cX9_hoops 8 = .ok (.iconst 1, 1) := by decide +kernel
theorem dX9_hoops_9 : decode cX9_hoops 9 = .ok (.if_icmp .lt 8, 3) := by decide +kernel
theorem dX9_hoops_12 : decode cX9_hoops 12 = .ok (.iload_n 3, 1) := by decide +kernel
theorem dX9_hoops_13 : decode cX9_hoops 13 = .ok (.iconst 5, 1) := by decide +kernel
theorem dX9_hoops_14 : decode cX9_hoops 14 = .ok (.if_icmp .le 5, 3) := by decide +kernel
theorem dX9_hoops_17 : decode cX9_hoops 17 = .ok (.iconst (-1), 1) := by decide +kernel
theorem dX9_hoops_18 : decode cX9_hoops 18 = .ok (.ireturn, 1) := by decide +kernel
theorem dX9_hoops_19 : decode cX9_hoops 19 = .ok (.aload_n 0, 1) := by decide +kernel
theorem dX9_hoops_20 : decode cX9_hoops 20 = .ok (.getfield 67, 3) := by decide +kernel
theorem dX9_hoops_23 : decode cX9_hoops 23 = .ok (.iload_n 1, 1) := by decide +kernel
theorem dX9_hoops_24 : decode cX9_hoops 24 = .ok (.aaload, 1) := by decide +kernel
theorem dX9_hoops_25 : decode cX9_hoops 25 = .ok (.astore 4, 2) := by decide +kernel
theorem dX9_hoops_27 : decode cX9_hoops 27 = .ok (.aload 4, 2) := by decide +kernel
theorem dX9_hoops_29 : decode cX9_hoops 29 = .ok (.invokevirtual 91, 3) := by decide +kernel
theorem dX9_hoops_32 : decode cX9_hoops 32 = .ok (.ifCond .ne 14, 3) := by decide +kernel
theorem dX9_hoops_35 : decode cX9_hoops 35 = .ok (.aload 4, 2) := by decide +kernel
theorem dX9_hoops_37 : decode cX9_hoops 37 = .ok (.invokevirtual 94, 3) := by decide +kernel
theorem dX9_hoops_40 : decode cX9_hoops 40 = .ok (.ifCond .ne 6, 3) := by decide +kernel
theorem dX9_hoops_43 : decode cX9_hoops 43 = .ok (.bipush (-12), 2) := by decide +kernel
theorem dX9_hoops_45 : decode cX9_hoops 45 = .ok (.ireturn, 1) := by decide +kernel
theorem dX9_hoops_46 : decode cX9_hoops 46 = .ok (.iconst 0, 1) := by decide +kernel
theorem dX9_hoops_47 : decode cX9_hoops 47 = .ok (.istore 5, 2) := by decide +kernel
theorem dX9_hoops_49 : decode cX9_hoops 49 = .ok (.iload 5, 2) := by decide +kernel
theorem dX9_hoops_51 : decode cX9_hoops 51 = .ok (.iload_n 3, 1) := by decide +kernel
theorem dX9_hoops_52 : decode cX9_hoops 52 = .ok (.if_icmp .ge 24, 3) := by decide +kernel
theorem dX9_hoops_55 : decode cX9_hoops 55 = .ok (.aload_n 0, 1) := by decide +kernel
theorem dX9_hoops_56 : decode cX9_hoops 56 = .ok (.aload 4, 2) := by decide +kernel
theorem dX9_hoops_58 : decode cX9_hoops 58 = .ok (.iload_n 2, 1) := by decide +kernel
theorem dX9_hoops_59 : decode cX9_hoops 59 = .ok (.iconst 3, 1) := by decide +kernel
theorem dX9_hoops_60 : decode cX9_hoops 60 = .ok (.iload 5, 2) := by decide +kernel
theorem dX9_hoops_62 : decode cX9_hoops 62 = .ok (.imul, 1) := by decide +kernel
theorem dX9_hoops_63 : decode cX9_hoops 63 = .ok (.iadd, 1) := by decide +kernel
theorem dX9_hoops_64 : decode cX9_hoops 64 = .ok (.invokevirtual 97, 3) := by decide +kernel
theorem dX9_hoops_67 : decode cX9_hoops 67 = .ok (.ifCond .eq 9, 3) := by decide +kernel
theorem dX9_hoops_70 : decode cX9_hoops 70 = .ok (.iinc 5 1, 3) := by decide +kernel
theorem dX9_hoops_73 : decode cX9_hoops 73 = .ok (.goto (-24), 3) := by decide +kernel
theorem dX9_hoops_76 : decode cX9_hoops 76 = .ok (.iload 5, 2) := by decide +kernel
theorem dX9_hoops_78 : decode cX9_hoops 78 = .ok (.ireturn, 1) := by decide +kernel
theorem dX9_mend_0 : decode cX9_mend 0 = .ok (.aload_n 0, 1) := by decide +kernel
theorem dX9_mend_1 : decode cX9_mend 1 = .ok (.iload_n 1, 1) := by decide +kernel
theorem dX9_mend_2 : decode cX9_mend 2 = .ok (.iload_n 2, 1) := by decide +kernel
theorem dX9_mend_3 : decode cX9_mend 3 = .ok (.iload_n 3, 1) := by decide +kernel
theorem dX9_mend_4 : decode cX9_mend 4 = .ok (.invokevirtual 101, 3) := by decide +kernel
theorem dX9_mend_7 : decode cX9_mend 7 = .ok (.ifCond .ne 6, 3) := by decide +kernel
theorem dX9_mend_10 : decode cX9_mend 10 = .ok (.ldc 105, 2) := by decide +kernel
theorem dX9_mend_12 : decode cX9_mend 12 = .ok (.ireturn, 1) := by decide +kernel
theorem dX9_mend_13 : decode cX9_mend 13 = .ok (.aload_n 0, 1) := by decide +kernel
theorem dX9_mend_14 : decode cX9_mend 14 = .ok (.iload_n 1, 1) := by decide +kernel
theorem dX9_mend_15 : decode cX9_mend 15 = .ok (.iload_n 2, 1) := by decide +kernel
theorem dX9_mend_16 : decode cX9_mend 16 = .ok (.invokevirtual 106, 3) := by decide +kernel
theorem dX9_mend_19 : decode cX9_mend 19 = .ok (.istore 4, 2) := by decide +kernel
theorem dX9_mend_21 : decode cX9_mend 21 = .ok (.iload 4, 2) := by decide +kernel
theorem dX9_mend_23 : decode cX9_mend 23 = .ok (.iload_n 3, 1) := by decide +kernel
theorem dX9_mend_24 : decode cX9_mend 24 = .ok (.if_icmp .eq 22, 3) := by decide +kernel
theorem dX9_mend_27 : decode cX9_mend 27 = .ok (.aload_n 0, 1) := by decide +kernel
theorem dX9_mend_28 : decode cX9_mend 28 = .ok (.iload_n 1, 1) := by decide +kernel
theorem dX9_mend_29 : decode cX9_mend 29 = .ok (.iload_n 2, 1) := by decide +kernel
theorem dX9_mend_30 : decode cX9_mend 30 = .ok (.iload_n 3, 1) := by decide +kernel
theorem dX9_mend_31 : decode cX9_mend 31 = .ok (.invokevirtual 110, 3) := by decide +kernel
theorem dX9_mend_34 : decode cX9_mend 34 = .ok (.aload_n 0, 1) := by decide +kernel
theorem dX9_mend_35 : decode cX9_mend 35 = .ok (.getfield 54, 3) := by decide +kernel
theorem dX9_mend_38 : decode cX9_mend 38 = .ok (.iload_n 1, 1) := by decide +kernel
theorem dX9_mend_39 : decode cX9_mend 39 = .ok (.iload_n 2, 1) := by decide +kernel
theorem dX9_mend_40 : decode cX9_mend 40 = .ok (.iload 4, 2) := by decide +kernel
theorem dX9_mend_42 : decode cX9_mend 42 = .ok (.iload_n 3, 1) := by decide +kernel
theorem dX9_mend_43 : decode cX9_mend 43 = .ok (.invokevirtual 114, 3) := by decide +kernel
theorem dX9_mend_46 : decode cX9_mend 46 = .ok (.iload 4, 2) := by decide +kernel
theorem dX9_mend_48 : decode cX9_mend 48 = .ok (.ireturn, 1) := by decide +kernel
theorem dX9_of_0 : decode cX9_of 0 = .ok (.iload_n 2, 1) := by decide +kernel
theorem dX9_of_1 : decode cX9_of 1 = .ok (.ifCond .lt 38, 3) := by decide +kernel
theorem dX9_of_4 : decode cX9_of 4 = .ok (.iload_n 2, 1) := by decide +kernel
theorem dX9_of_5 : decode cX9_of 5 = .ok (.iconst 5, 1) := by decide +kernel
theorem dX9_of_6 : decode cX9_of 6 = .ok (.if_icmp .gt 33, 3) := by decide +kernel
theorem dX9_of_9 : decode cX9_of 9 = .ok (.aload_n 0, 1) := by decide +kernel
theorem dX9_of_10 : decode cX9_of 10 = .ok (.getfield 28, 3) := by decide +kernel
theorem dX9_of_13 : decode cX9_of 13 = .ok (.iload_n 1, 1) := by decide +kernel
theorem dX9_of_14 : decode cX9_of 14 = .ok (.invokevirtual 118, 3) := by decide +kernel
theorem dX9_of_17 : decode cX9_of 17 = .ok (.ifCond .eq 19, 3) := by decide +kernel
theorem dX9_of_20 : decode cX9_of 20 = .ok (.aload_n 0, 1) := by decide +kernel
theorem dX9_of_21 : decode cX9_of 21 = .ok (.getfield 28, 3) := by decide +kernel
theorem dX9_of_24 : decode cX9_of 24 = .ok (.getfield 121, 3) := by decide +kernel
theorem dX9_of_27 : decode cX9_of 27 = .ok (.iload_n 1, 1) := by decide +kernel
theorem dX9_of_28 : decode cX9_of 28 = .ok (.aaload, 1) := by decide +kernel
theorem dX9_of_29 : decode cX9_of 29 = .ok (.iload_n 2, 1) := by decide +kernel
theorem dX9_of_30 : decode cX9_of 30 = .ok (.invokevirtual 125, 3) := by decide +kernel
theorem dX9_of_33 : decode cX9_of 33 = .ok (.goto 5, 3) := by decide +kernel
theorem dX9_of_36 : decode cX9_of 36 = .ok (.ldc 105, 2) := by decide +kernel
theorem dX9_of_38 : decode cX9_of 38 = .ok (.ireturn, 1) := by decide +kernel
theorem dX9_of_39 : decode cX9_of 39 = .ok (.iload_n 2, 1) := by decide +kernel
theorem dX9_of_40 : decode cX9_of 40 = .ok (.bipush 10, 2) := by decide +kernel
theorem dX9_of_42 : decode cX9_of 42 = .ok (.if_icmp .lt 24, 3) := by decide +kernel
theorem dX9_of_45 : decode cX9_of 45 = .ok (.iload_n 2, 1) := by decide +kernel
theorem dX9_of_46 : decode cX9_of 46 = .ok (.bipush 15, 2) := by decide +kernel
theorem dX9_of_48 : decode cX9_of 48 = .ok (.if_icmp .gt 18, 3) := by decide +kernel
theorem dX9_of_51 : decode cX9_of 51 = .ok (.iload_n 1, 1) := by decide +kernel
theorem dX9_of_52 : decode cX9_of 52 = .ok (.ifCond .ne 11, 3) := by decide +kernel
theorem dX9_of_55 : decode cX9_of 55 = .ok (.aload_n 0, 1) := by decide +kernel
theorem dX9_of_56 : decode cX9_of 56 = .ok (.iload_n 2, 1) := by decide +kernel
theorem dX9_of_57 : decode cX9_of 57 = .ok (.invokevirtual 131, 3) := by decide +kernel
theorem dX9_of_60 : decode cX9_of 60 = .ok (.goto 5, 3) := by decide +kernel
theorem dX9_of_63 : decode cX9_of 63 = .ok (.ldc 105, 2) := by decide +kernel
theorem dX9_of_65 : decode cX9_of 65 = .ok (.ireturn, 1) := by decide +kernel
theorem dX9_of_66 : decode cX9_of 66 = .ok (.iload_n 2, 1) := by decide +kernel
theorem dX9_of_67 : decode cX9_of 67 = .ok (.bipush 20, 2) := by decide +kernel
theorem dX9_of_69 : decode cX9_of 69 = .ok (.if_icmp .eq 9, 3) := by decide +kernel
theorem dX9_of_72 : decode cX9_of 72 = .ok (.iload_n 2, 1) := by decide +kernel
theorem dX9_of_73 : decode cX9_of 73 = .ok (.bipush 21, 2) := by decide +kernel
theorem dX9_of_75 : decode cX9_of 75 = .ok (.if_icmp .ne 38, 3) := by decide +kernel
theorem dX9_of_78 : decode cX9_of 78 = .ok (.iload_n 1, 1) := by decide +kernel
theorem dX9_of_79 : decode cX9_of 79 = .ok (.invokestatic 134, 3) := by decide +kernel
theorem dX9_of_82 : decode cX9_of 82 = .ok (.ifCond .eq 31, 3) := by decide +kernel
theorem dX9_of_85 : decode cX9_of 85 = .ok (.iload_n 2, 1) := by decide +kernel
theorem dX9_of_86 : decode cX9_of 86 = .ok (.bipush 20, 2) := by decide +kernel
theorem dX9_of_88 : decode cX9_of 88 = .ok (.if_icmp .ne 15, 3) := by decide +kernel
theorem dX9_of_91 : decode cX9_of 91 = .ok (.aload_n 0, 1) := by decide +kernel
theorem dX9_of_92 : decode cX9_of 92 = .ok (.getfield 47, 3) := by decide +kernel
theorem dX9_of_95 : decode cX9_of 95 = .ok (.getfield 137, 3) := by decide +kernel
theorem dX9_of_98 : decode cX9_of 98 = .ok (.iload_n 1, 1) := by decide +kernel
theorem dX9_of_99 : decode cX9_of 99 = .ok (.iaload, 1) := by decide +kernel
theorem dX9_of_100 : decode cX9_of 100 = .ok (.goto 12, 3) := by decide +kernel
theorem dX9_of_103 : decode cX9_of 103 = .ok (.aload_n 0, 1) := by decide +kernel
theorem dX9_of_104 : decode cX9_of 104 = .ok (.getfield 47, 3) := by decide +kernel
theorem dX9_of_107 : decode cX9_of 107 = .ok (.getfield 141, 3) := by decide +kernel
theorem dX9_of_110 : decode cX9_of 110 = .ok (.iload_n 1, 1) := by decide +kernel
theorem dX9_of_111 : decode cX9_of 111 = .ok (.iaload, 1) := by decide +kernel
theorem dX9_of_112 : decode cX9_of 112 = .ok (.ireturn, 1) := by decide +kernel
theorem dX9_of_113 : decode cX9_of 113 = .ok (.ldc 105, 2) := by decide +kernel
theorem dX9_of_115 : decode cX9_of 115 = .ok (.ireturn, 1) := by decide +kernel
theorem dX9_feed_0 : decode cX9_feed 0 = .ok (.iload_n 1, 1) := by decide +kernel
theorem dX9_feed_1 : decode cX9_feed 1 = .ok (.ifCond .lt 10, 3) := by decide +kernel
theorem dX9_feed_4 : decode cX9_feed 4 = .ok (.iload_n 1, 1) := by decide +kernel
theorem dX9_feed_5 : decode cX9_feed 5 = .ok (.sipush 255, 3) := by decide +kernel
theorem dX9_feed_8 : decode cX9_feed 8 = .ok (.if_icmp .le 5, 3) := by decide +kernel
theorem dX9_feed_11 : decode cX9_feed 11 = .ok (.iconst (-1), 1) := by decide +kernel
theorem dX9_feed_12 : decode cX9_feed 12 = .ok (.ireturn, 1) := by decide +kernel
theorem dX9_feed_13 : decode cX9_feed 13 = .ok (.aload_n 0, 1) := by decide +kernel
theorem dX9_feed_14 : decode cX9_feed 14 = .ok (.getfield 19, 3) := by decide +kernel
theorem dX9_feed_17 : decode cX9_feed 17 = .ok (.iload_n 1, 1) := by decide +kernel
theorem dX9_feed_18 : decode cX9_feed 18 = .ok (.invokevirtual 144, 3) := by decide +kernel
theorem dX9_feed_21 : decode cX9_feed 21 = .ok (.ifCond .eq 13, 3) := by decide +kernel
theorem dX9_feed_24 : decode cX9_feed 24 = .ok (.aload_n 0, 1) := by decide +kernel
theorem dX9_feed_25 : decode cX9_feed 25 = .ok (.getfield 19, 3) := by decide +kernel
theorem dX9_feed_28 : decode cX9_feed 28 = .ok (.getfield 147, 3) := by decide +kernel
theorem dX9_feed_31 : decode cX9_feed 31 = .ok (.goto 5, 3) := by decide +kernel
theorem dX9_feed_34 : decode cX9_feed 34 = .ok (.bipush (-3), 2) := by decide +kernel
theorem dX9_feed_36 : decode cX9_feed 36 = .ok (.ireturn, 1) := by decide +kernel
theorem dX9_law_0 : decode cX9_law 0 = .ok (.aload_n 0, 1) := by decide +kernel
theorem dX9_law_1 : decode cX9_law 1 = .ok (.getfield 19, 3) := by decide +kernel
theorem dX9_law_4 : decode cX9_law 4 = .ok (.invokevirtual 151, 3) := by decide +kernel
theorem dX9_law_7 : decode cX9_law 7 = .ok (.istore_n 1, 1) := by decide +kernel
theorem dX9_law_8 : decode cX9_law 8 = .ok (.aload_n 0, 1) := by decide +kernel
theorem dX9_law_9 : decode cX9_law 9 = .ok (.getfield 19, 3) := by decide +kernel
theorem dX9_law_12 : decode cX9_law 12 = .ok (.iconst 0, 1) := by decide +kernel
theorem dX9_law_13 : decode cX9_law 13 = .ok (.putfield 147, 3) := by decide +kernel
theorem dX9_law_16 : decode cX9_law 16 = .ok (.iload_n 1, 1) := by decide +kernel
theorem dX9_law_17 : decode cX9_law 17 = .ok (.ifCond .lt 8, 3) := by decide +kernel
theorem dX9_law_20 : decode cX9_law 20 = .ok (.bipush (-100), 2) := by decide +kernel
theorem dX9_law_22 : decode cX9_law 22 = .ok (.iload_n 1, 1) := by decide +kernel
theorem dX9_law_23 : decode cX9_law 23 = .ok (.isub, 1) := by decide +kernel
theorem dX9_law_24 : decode cX9_law 24 = .ok (.ireturn, 1) := by decide +kernel
theorem dX9_law_25 : decode cX9_law 25 = .ok (.aload_n 0, 1) := by decide +kernel
theorem dX9_law_26 : decode cX9_law 26 = .ok (.getfield 10, 3) := by decide +kernel
theorem dX9_law_29 : decode cX9_law 29 = .ok (.aload_n 0, 1) := by decide +kernel
theorem dX9_law_30 : decode cX9_law 30 = .ok (.getfield 19, 3) := by decide +kernel
theorem dX9_law_33 : decode cX9_law 33 = .ok (.getfield 155, 3) := by decide +kernel
theorem dX9_law_36 : decode cX9_law 36 = .ok (.invokevirtual 158, 3) := by decide +kernel
theorem dX9_law_39 : decode cX9_law 39 = .ok (.iconst 1, 1) := by decide +kernel
theorem dX9_law_40 : decode cX9_law 40 = .ok (.ireturn, 1) := by decide +kernel
theorem dX9_go_0 : decode cX9_go 0 = .ok (.iload_n 1, 1) := by decide +kernel
theorem dX9_go_1 : decode cX9_go 1 = .ok (.iconst 1, 1) := by decide +kernel
theorem dX9_go_2 : decode cX9_go 2 = .ok (.if_icmp .lt 10, 3) := by decide +kernel
theorem dX9_go_5 : decode cX9_go 5 = .ok (.iload_n 1, 1) := by decide +kernel
theorem dX9_go_6 : decode cX9_go 6 = .ok (.sipush 200, 3) := by decide +kernel
theorem dX9_go_9 : decode cX9_go 9 = .ok (.if_icmp .le 5, 3) := by decide +kernel
theorem dX9_go_12 : decode cX9_go 12 = .ok (.iconst (-1), 1) := by decide +kernel
theorem dX9_go_13 : decode cX9_go 13 = .ok (.ireturn, 1) := by decide +kernel
theorem dX9_go_14 : decode cX9_go 14 = .ok (.iconst 0, 1) := by decide +kernel
theorem dX9_go_15 : decode cX9_go 15 = .ok (.istore_n 2, 1) := by decide +kernel
theorem dX9_go_16 : decode cX9_go 16 = .ok (.iload_n 2, 1) := by decide +kernel
theorem dX9_go_17 : decode cX9_go 17 = .ok (.iload_n 1, 1) := by decide +kernel
theorem dX9_go_18 : decode cX9_go 18 = .ok (.if_icmp .ge 16, 3) := by decide +kernel
theorem dX9_go_21 : decode cX9_go 21 = .ok (.aload_n 0, 1) := by decide +kernel
theorem dX9_go_22 : decode cX9_go 22 = .ok (.getfield 28, 3) := by decide +kernel
theorem dX9_go_25 : decode cX9_go 25 = .ok (.invokevirtual 161, 3) := by decide +kernel
theorem dX9_go_28 : decode cX9_go 28 = .ok (.iinc 2 1, 3) := by decide +kernel
theorem dX9_go_31 : decode cX9_go 31 = .ok (.goto (-15), 3) := by decide +kernel
theorem dX9_go_34 : decode cX9_go 34 = .ok (.aload_n 0, 1) := by decide +kernel
theorem dX9_go_35 : decode cX9_go 35 = .ok (.getfield 28, 3) := by decide +kernel
theorem dX9_go_38 : decode cX9_go 38 = .ok (.invokevirtual 164, 3) := by decide +kernel
theorem dX9_go_41 : decode cX9_go 41 = .ok (.ireturn, 1) := by decide +kernel
theorem dX9_lift_0 : decode cX9_lift 0 = .ok (.aload_n 0, 1) := by decide +kernel
theorem dX9_lift_1 : decode cX9_lift 1 = .ok (.getfield 28, 3) := by decide +kernel
theorem dX9_lift_4 : decode cX9_lift 4 = .ok (.iload_n 1, 1) := by decide +kernel
theorem dX9_lift_5 : decode cX9_lift 5 = .ok (.invokevirtual 118, 3) := by decide +kernel
theorem dX9_lift_8 : decode cX9_lift 8 = .ok (.ifCond .ne 5, 3) := by decide +kernel
theorem dX9_lift_11 : decode cX9_lift 11 = .ok (.iconst (-1), 1) := by decide +kernel
theorem dX9_lift_12 : decode cX9_lift 12 = .ok (.ireturn, 1) := by decide +kernel
theorem dX9_lift_13 : decode cX9_lift 13 = .ok (.aload_n 0, 1) := by decide +kernel
theorem dX9_lift_14 : decode cX9_lift 14 = .ok (.getfield 28, 3) := by decide +kernel
theorem dX9_lift_17 : decode cX9_lift 17 = .ok (.getfield 121, 3) := by decide +kernel
theorem dX9_lift_20 : decode cX9_lift 20 = .ok (.iload_n 1, 1) := by decide +kernel
theorem dX9_lift_21 : decode cX9_lift 21 = .ok (.aaload, 1) := by decide +kernel
theorem dX9_lift_22 : decode cX9_lift 22 = .ok (.invokevirtual 167, 3) := by decide +kernel
theorem dX9_lift_25 : decode cX9_lift 25 = .ok (.ifCond .ne 6, 3) := by decide +kernel
theorem dX9_lift_28 : decode cX9_lift 28 = .ok (.bipush (-5), 2) := by decide +kernel
theorem dX9_lift_30 : decode cX9_lift 30 = .ok (.ireturn, 1) := by decide +kernel
theorem dX9_lift_31 : decode cX9_lift 31 = .ok (.aload_n 0, 1) := by decide +kernel
theorem dX9_lift_32 : decode cX9_lift 32 = .ok (.getfield 28, 3) := by decide +kernel
theorem dX9_lift_35 : decode cX9_lift 35 = .ok (.getfield 121, 3) := by decide +kernel
theorem dX9_lift_38 : decode cX9_lift 38 = .ok (.iload_n 1, 1) := by decide +kernel
theorem dX9_lift_39 : decode cX9_lift 39 = .ok (.aaload, 1) := by decide +kernel
theorem dX9_lift_40 : decode cX9_lift 40 = .ok (.invokevirtual 170, 3) := by decide +kernel
theorem dX9_lift_43 : decode cX9_lift 43 = .ok (.iload_n 1, 1) := by decide +kernel
theorem dX9_lift_44 : decode cX9_lift 44 = .ok (.ireturn, 1) := by decide +kernel
theorem dX9_led_0 : decode cX9_led 0 = .ok (.iload_n 1, 1) := by decide +kernel
theorem dX9_led_1 : decode cX9_led 1 = .ok (.ifCond .ne 11, 3) := by decide +kernel
theorem dX9_led_4 : decode cX9_led 4 = .ok (.aload_n 0, 1) := by decide +kernel
theorem dX9_led_5 : decode cX9_led 5 = .ok (.getfield 28, 3) := by decide +kernel
theorem dX9_led_8 : decode cX9_led 8 = .ok (.getfield 173, 3) := by decide +kernel
theorem dX9_led_11 : decode cX9_led 11 = .ok (.ireturn, 1) := by decide +kernel
theorem dX9_led_12 : decode cX9_led 12 = .ok (.iload_n 1, 1) := by decide +kernel
theorem dX9_led_13 : decode cX9_led 13 = .ok (.iconst 1, 1) := by decide +kernel
theorem dX9_led_14 : decode cX9_led 14 = .ok (.if_icmp .ne 13, 3) := by decide +kernel
theorem dX9_led_17 : decode cX9_led 17 = .ok (.aload_n 0, 1) := by decide +kernel
theorem dX9_led_18 : decode cX9_led 18 = .ok (.getfield 28, 3) := by decide +kernel
theorem dX9_led_21 : decode cX9_led 21 = .ok (.getfield 176, 3) := by decide +kernel
theorem dX9_led_24 : decode cX9_led 24 = .ok (.goto 4, 3) := by decide +kernel
theorem dX9_led_27 : decode cX9_led 27 = .ok (.iconst (-1), 1) := by decide +kernel
theorem dX9_led_28 : decode cX9_led 28 = .ok (.ireturn, 1) := by decide +kernel
theorem dX9_then_0 : decode cX9_then 0 = .ok (.aload_n 0, 1) := by decide +kernel
theorem dX9_then_1 : decode cX9_then 1 = .ok (.getfield 28, 3) := by decide +kernel
theorem dX9_then_4 : decode cX9_then 4 = .ok (.iload_n 1, 1) := by decide +kernel
theorem dX9_then_5 : decode cX9_then 5 = .ok (.invokevirtual 118, 3) := by decide +kernel
theorem dX9_then_8 : decode cX9_then 8 = .ok (.ifCond .eq 23, 3) := by decide +kernel
theorem dX9_then_11 : decode cX9_then 11 = .ok (.iload_n 2, 1) := by decide +kernel
theorem dX9_then_12 : decode cX9_then 12 = .ok (.ifCond .lt 19, 3) := by decide +kernel
theorem dX9_then_15 : decode cX9_then 15 = .ok (.iload_n 2, 1) := by decide +kernel
theorem dX9_then_16 : decode cX9_then 16 = .ok (.sipush 200, 3) := by decide +kernel
theorem dX9_then_19 : decode cX9_then 19 = .ok (.if_icmp .gt 12, 3) := by decide +kernel
theorem dX9_then_22 : decode cX9_then 22 = .ok (.iload_n 3, 1) := by decide +kernel
theorem dX9_then_23 : decode cX9_then 23 = .ok (.ifCond .lt 8, 3) := by decide +kernel
theorem dX9_then_26 : decode cX9_then 26 = .ok (.iload_n 3, 1) := by decide +kernel
theorem dX9_then_27 : decode cX9_then 27 = .ok (.iconst 2, 1) := by decide +kernel
theorem dX9_then_28 : decode cX9_then 28 = .ok (.if_icmp .le 6, 3) := by decide +kernel
theorem dX9_then_31 : decode cX9_then 31 = .ok (.ldc 105, 2) := by decide +kernel
theorem dX9_then_33 : decode cX9_then 33 = .ok (.ireturn, 1) := by decide +kernel
theorem dX9_then_34 : decode cX9_then 34 = .ok (.aload_n 0, 1) := by decide +kernel
theorem dX9_then_35 : decode cX9_then 35 = .ok (.getfield 40, 3) := by decide +kernel
theorem dX9_then_38 : decode cX9_then 38 = .ok (.iload_n 1, 1) := by decide +kernel
theorem dX9_then_39 : decode cX9_then 39 = .ok (.iload_n 2, 1) := by decide +kernel
theorem dX9_then_40 : decode cX9_then 40 = .ok (.invokevirtual 179, 3) := by decide +kernel
theorem dX9_then_43 : decode cX9_then 43 = .ok (.astore 4, 2) := by decide +kernel
theorem dX9_then_45 : decode cX9_then 45 = .ok (.iload_n 3, 1) := by decide +kernel
theorem dX9_then_46 : decode cX9_then 46 = .ok (.ifCond .ne 9, 3) := by decide +kernel
theorem dX9_then_49 : decode cX9_then 49 = .ok (.aload 4, 2) := by decide +kernel
theorem dX9_then_51 : decode cX9_then 51 = .ok (.getfield 183, 3) := by decide +kernel
theorem dX9_then_54 : decode cX9_then 54 = .ok (.ireturn, 1) := by decide +kernel
theorem dX9_then_55 : decode cX9_then 55 = .ok (.iload_n 3, 1) := by decide +kernel
theorem dX9_then_56 : decode cX9_then 56 = .ok (.iconst 1, 1) := by decide +kernel
theorem dX9_then_57 : decode cX9_then 57 = .ok (.if_icmp .ne 11, 3) := by decide +kernel
theorem dX9_then_60 : decode cX9_then 60 = .ok (.aload 4, 2) := by decide +kernel
theorem dX9_then_62 : decode cX9_then 62 = .ok (.getfield 186, 3) := by decide +kernel
theorem dX9_then_65 : decode cX9_then 65 = .ok (.goto 8, 3) := by decide +kernel
theorem dX9_then_68 : decode cX9_then 68 = .ok (.aload 4, 2) := by decide +kernel
theorem dX9_then_70 : decode cX9_then 70 = .ok (.getfield 189, 3) := by decide +kernel
theorem dX9_then_73 : decode cX9_then 73 = .ok (.ireturn, 1) := by decide +kernel
theorem dX9_falls_0 : decode cX9_falls 0 = .ok (.aload_n 0, 1) := by decide +kernel
theorem dX9_falls_1 : decode cX9_falls 1 = .ok (.getfield 28, 3) := by decide +kernel
theorem dX9_falls_4 : decode cX9_falls 4 = .ok (.iload_n 1, 1) := by decide +kernel
theorem dX9_falls_5 : decode cX9_falls 5 = .ok (.invokevirtual 118, 3) := by decide +kernel
theorem dX9_falls_8 : decode cX9_falls 8 = .ok (.ifCond .ne 5, 3) := by decide +kernel
theorem dX9_falls_11 : decode cX9_falls 11 = .ok (.iconst (-1), 1) := by decide +kernel
theorem dX9_falls_12 : decode cX9_falls 12 = .ok (.ireturn, 1) := by decide +kernel
theorem dX9_falls_13 : decode cX9_falls 13 = .ok (.aload_n 0, 1) := by decide +kernel
theorem dX9_falls_14 : decode cX9_falls 14 = .ok (.getfield 40, 3) := by decide +kernel
theorem dX9_falls_17 : decode cX9_falls 17 = .ok (.invokevirtual 192, 3) := by decide +kernel
theorem dX9_falls_20 : decode cX9_falls 20 = .ok (.aload_n 0, 1) := by decide +kernel
theorem dX9_falls_21 : decode cX9_falls 21 = .ok (.getfield 40, 3) := by decide +kernel
theorem dX9_falls_24 : decode cX9_falls 24 = .ok (.iload_n 1, 1) := by decide +kernel
theorem dX9_falls_25 : decode cX9_falls 25 = .ok (.invokevirtual 195, 3) := by decide +kernel
theorem dX9_falls_28 : decode cX9_falls 28 = .ok (.ireturn, 1) := by decide +kernel
theorem dX9_lasts_0 : decode cX9_lasts 0 = .ok (.aload_n 0, 1) := by decide +kernel
theorem dX9_lasts_1 : decode cX9_lasts 1 = .ok (.getfield 40, 3) := by decide +kernel
theorem dX9_lasts_4 : decode cX9_lasts 4 = .ok (.invokevirtual 192, 3) := by decide +kernel
theorem dX9_lasts_7 : decode cX9_lasts 7 = .ok (.aload_n 0, 1) := by decide +kernel
theorem dX9_lasts_8 : decode cX9_lasts 8 = .ok (.getfield 40, 3) := by decide +kernel
theorem dX9_lasts_11 : decode cX9_lasts 11 = .ok (.invokevirtual 198, 3) := by decide +kernel
theorem dX9_lasts_14 : decode cX9_lasts 14 = .ok (.ireturn, 1) := by decide +kernel
theorem dX9_beatFor_0 : decode cX9_beatFor 0 = .ok (.iload_n 1, 1) := by decide +kernel
theorem dX9_beatFor_1 : decode cX9_beatFor 1 = .ok (.ifCond .lt 8, 3) := by decide +kernel
theorem dX9_beatFor_4 : decode cX9_beatFor 4 = .ok (.iload_n 1, 1) := by decide +kernel
theorem dX9_beatFor_5 : decode cX9_beatFor 5 = .ok (.iconst 1, 1) := by decide +kernel
theorem dX9_beatFor_6 : decode cX9_beatFor 6 = .ok (.if_icmp .le 5, 3) := by decide +kernel
theorem dX9_beatFor_9 : decode cX9_beatFor 9 = .ok (.iconst (-1), 1) := by decide +kernel
theorem dX9_beatFor_10 : decode cX9_beatFor 10 = .ok (.ireturn, 1) := by decide +kernel
theorem dX9_beatFor_11 : decode cX9_beatFor 11 = .ok (.iconst (-1), 1) := by decide +kernel
theorem dX9_beatFor_12 : decode cX9_beatFor 12 = .ok (.istore_n 2, 1) := by decide +kernel
theorem dX9_beatFor_13 : decode cX9_beatFor 13 = .ok (.iconst 0, 1) := by decide +kernel
theorem dX9_beatFor_14 : decode cX9_beatFor 14 = .ok (.istore_n 3, 1) := by decide +kernel
theorem dX9_beatFor_15 : decode cX9_beatFor 15 = .ok (.iconst 2, 1) := by decide +kernel
theorem dX9_beatFor_16 : decode cX9_beatFor 16 = .ok (.istore 4, 2) := by decide +kernel
theorem dX9_beatFor_18 : decode cX9_beatFor 18 = .ok (.iload 4, 2) := by decide +kernel
theorem dX9_beatFor_20 : decode cX9_beatFor 20 = .ok (.bipush 24, 2) := by decide +kernel
theorem dX9_beatFor_22 : decode cX9_beatFor 22 = .ok (.if_icmp .gt 97, 3) := by decide +kernel
theorem dX9_beatFor_25 : decode cX9_beatFor 25 = .ok (.iload_n 2, 1) := by decide +kernel
theorem dX9_beatFor_26 : decode cX9_beatFor 26 = .ok (.sipush 200, 3) := by decide +kernel
theorem dX9_beatFor_29 : decode cX9_beatFor 29 = .ok (.if_icmp .ge 90, 3) := by decide +kernel
theorem dX9_beatFor_32 : decode cX9_beatFor 32 = .ok (.iconst 0, 1) := by decide +kernel
theorem dX9_beatFor_33 : decode cX9_beatFor 33 = .ok (.istore 5, 2) := by decide +kernel
theorem dX9_beatFor_35 : decode cX9_beatFor 35 = .ok (.iload 5, 2) := by decide +kernel
theorem dX9_beatFor_37 : decode cX9_beatFor 37 = .ok (.iload 4, 2) := by decide +kernel
theorem dX9_beatFor_39 : decode cX9_beatFor 39 = .ok (.if_icmp .ge 74, 3) := by decide +kernel
theorem dX9_beatFor_42 : decode cX9_beatFor 42 = .ok (.iload_n 2, 1) := by decide +kernel
theorem dX9_beatFor_43 : decode cX9_beatFor 43 = .ok (.sipush 200, 3) := by decide +kernel
theorem dX9_beatFor_46 : decode cX9_beatFor 46 = .ok (.if_icmp .ge 67, 3) := by decide +kernel
theorem dX9_beatFor_49 : decode cX9_beatFor 49 = .ok (.aload_n 0, 1) := by decide +kernel
theorem dX9_beatFor_50 : decode cX9_beatFor 50 = .ok (.getfield 40, 3) := by decide +kernel
theorem dX9_beatFor_53 : decode cX9_beatFor 53 = .ok (.invokevirtual 192, 3) := by decide +kernel
theorem dX9_beatFor_56 : decode cX9_beatFor 56 = .ok (.aload_n 0, 1) := by decide +kernel
theorem dX9_beatFor_57 : decode cX9_beatFor 57 = .ok (.getfield 40, 3) := by decide +kernel
theorem dX9_beatFor_60 : decode cX9_beatFor 60 = .ok (.getfield 201, 3) := by decide +kernel
theorem dX9_beatFor_63 : decode cX9_beatFor 63 = .ok (.iload 4, 2) := by decide +kernel
theorem dX9_beatFor_65 : decode cX9_beatFor 65 = .ok (.putfield 202, 3) := by decide +kernel
theorem dX9_beatFor_68 : decode cX9_beatFor 68 = .ok (.aload_n 0, 1) := by decide +kernel
theorem dX9_beatFor_69 : decode cX9_beatFor 69 = .ok (.getfield 40, 3) := by decide +kernel
theorem dX9_beatFor_72 : decode cX9_beatFor 72 = .ok (.getfield 201, 3) := by decide +kernel
theorem dX9_beatFor_75 : decode cX9_beatFor 75 = .ok (.iload 5, 2) := by decide +kernel
theorem dX9_beatFor_77 : decode cX9_beatFor 77 = .ok (.putfield 205, 3) := by decide +kernel
theorem dX9_beatFor_80 : decode cX9_beatFor 80 = .ok (.aload_n 0, 1) := by decide +kernel
theorem dX9_beatFor_81 : decode cX9_beatFor 81 = .ok (.getfield 40, 3) := by decide +kernel
theorem dX9_beatFor_84 : decode cX9_beatFor 84 = .ok (.invokevirtual 198, 3) := by decide +kernel
theorem dX9_beatFor_87 : decode cX9_beatFor 87 = .ok (.istore 6, 2) := by decide +kernel
theorem dX9_beatFor_89 : decode cX9_beatFor 89 = .ok (.iload 6, 2) := by decide +kernel
theorem dX9_beatFor_91 : decode cX9_beatFor 91 = .ok (.iload_n 2, 1) := by decide +kernel
theorem dX9_beatFor_92 : decode cX9_beatFor 92 = .ok (.if_icmp .le 15, 3) := by decide +kernel
theorem dX9_beatFor_95 : decode cX9_beatFor 95 = .ok (.iload 6, 2) := by decide +kernel
theorem dX9_beatFor_97 : decode cX9_beatFor 97 = .ok (.istore_n 2, 1) := by decide +kernel
theorem dX9_beatFor_98 : decode cX9_beatFor 98 = .ok (.bipush 100, 2) := by decide +kernel
theorem dX9_beatFor_100 : decode cX9_beatFor 100 = .ok (.iload 4, 2) := by decide +kernel
theorem dX9_beatFor_102 : decode cX9_beatFor 102 = .ok (.imul, 1) := by decide +kernel
theorem dX9_beatFor_103 : decode cX9_beatFor 103 = .ok (.iload 5, 2) := by decide +kernel
theorem dX9_beatFor_105 : decode cX9_beatFor 105 = .ok (.iadd, 1) := by decide +kernel
theorem dX9_beatFor_106 : decode cX9_beatFor 106 = .ok (.istore_n 3, 1) := by decide +kernel
theorem dX9_beatFor_107 : decode cX9_beatFor 107 = .ok (.iinc 5 1, 3) := by decide +kernel
theorem dX9_beatFor_110 : decode cX9_beatFor 110 = .ok (.goto (-75), 3) := by decide +kernel
theorem dX9_beatFor_113 : decode cX9_beatFor 113 = .ok (.iinc 4 1, 3) := by decide +kernel
theorem dX9_beatFor_116 : decode cX9_beatFor 116 = .ok (.goto (-98), 3) := by decide +kernel
theorem dX9_beatFor_119 : decode cX9_beatFor 119 = .ok (.iload_n 1, 1) := by decide +kernel
theorem dX9_beatFor_120 : decode cX9_beatFor 120 = .ok (.ifCond .ne 7, 3) := by decide +kernel
theorem dX9_beatFor_123 : decode cX9_beatFor 123 = .ok (.iload_n 3, 1) := by decide +kernel
theorem dX9_beatFor_124 : decode cX9_beatFor 124 = .ok (.goto 4, 3) := by decide +kernel
theorem dX9_beatFor_127 : decode cX9_beatFor 127 = .ok (.iload_n 2, 1) := by decide +kernel
theorem dX9_beatFor_128 : decode cX9_beatFor 128 = .ok (.ireturn, 1) := by decide +kernel
theorem dX9_leastPush_0 : decode cX9_leastPush 0 = .ok (.iload_n 1, 1) := by decide +kernel
theorem dX9_leastPush_1 : decode cX9_leastPush 1 = .ok (.iconst 1, 1) := by decide +kernel
theorem dX9_leastPush_2 : decode cX9_leastPush 2 = .ok (.if_icmp .lt 10, 3) := by decide +kernel
theorem dX9_leastPush_5 : decode cX9_leastPush 5 = .ok (.iload_n 1, 1) := by decide +kernel
theorem dX9_leastPush_6 : decode cX9_leastPush 6 = .ok (.sipush 200, 3) := by decide +kernel
theorem dX9_leastPush_9 : decode cX9_leastPush 9 = .ok (.if_icmp .le 5, 3) := by decide +kernel
theorem dX9_leastPush_12 : decode cX9_leastPush 12 = .ok (.iconst (-1), 1) := by decide +kernel
theorem dX9_leastPush_13 : decode cX9_leastPush 13 = .ok (.ireturn, 1) := by decide +kernel
theorem dX9_leastPush_14 : decode cX9_leastPush 14 = .ok (.iconst 0, 1) := by decide +kernel
theorem dX9_leastPush_15 : decode cX9_leastPush 15 = .ok (.istore_n 2, 1) := by decide +kernel
theorem dX9_leastPush_16 : decode cX9_leastPush 16 = .ok (.iload_n 2, 1) := by decide +kernel
theorem dX9_leastPush_17 : decode cX9_leastPush 17 = .ok (.iconst 5, 1) := by decide +kernel
theorem dX9_leastPush_18 : decode cX9_leastPush 18 = .ok (.if_icmp .gt 40, 3) := by decide +kernel
theorem dX9_leastPush_21 : decode cX9_leastPush 21 = .ok (.aload_n 0, 1) := by decide +kernel
theorem dX9_leastPush_22 : decode cX9_leastPush 22 = .ok (.getfield 40, 3) := by decide +kernel
theorem dX9_leastPush_25 : decode cX9_leastPush 25 = .ok (.invokevirtual 192, 3) := by decide +kernel
theorem dX9_leastPush_28 : decode cX9_leastPush 28 = .ok (.aload_n 0, 1) := by decide +kernel
theorem dX9_leastPush_29 : decode cX9_leastPush 29 = .ok (.getfield 40, 3) := by decide +kernel
theorem dX9_leastPush_32 : decode cX9_leastPush 32 = .ok (.getfield 201, 3) := by decide +kernel
theorem dX9_leastPush_35 : decode cX9_leastPush 35 = .ok (.iload_n 2, 1) := by decide +kernel
theorem dX9_leastPush_36 : decode cX9_leastPush 36 = .ok (.putfield 208, 3) := by decide +kernel
theorem dX9_leastPush_39 : decode cX9_leastPush 39 = .ok (.aload_n 0, 1) := by decide +kernel
theorem dX9_leastPush_40 : decode cX9_leastPush 40 = .ok (.getfield 40, 3) := by decide +kernel
theorem dX9_leastPush_43 : decode cX9_leastPush 43 = .ok (.invokevirtual 198, 3) := by decide +kernel
theorem dX9_leastPush_46 : decode cX9_leastPush 46 = .ok (.iload_n 1, 1) := by decide +kernel
theorem dX9_leastPush_47 : decode cX9_leastPush 47 = .ok (.if_icmp .lt 5, 3) := by decide +kernel
theorem dX9_leastPush_50 : decode cX9_leastPush 50 = .ok (.iload_n 2, 1) := by decide +kernel
theorem dX9_leastPush_51 : decode cX9_leastPush 51 = .ok (.ireturn, 1) := by decide +kernel
theorem dX9_leastPush_52 : decode cX9_leastPush 52 = .ok (.iinc 2 1, 3) := by decide +kernel
theorem dX9_leastPush_55 : decode cX9_leastPush 55 = .ok (.goto (-39), 3) := by decide +kernel
theorem dX9_leastPush_58 : decode cX9_leastPush 58 = .ok (.bipush (-2), 2) := by decide +kernel
theorem dX9_leastPush_60 : decode cX9_leastPush 60 = .ok (.ireturn, 1) := by decide +kernel
theorem dX9_mistake_0 : decode cX9_mistake 0 = .ok (.iload_n 1, 1) := by decide +kernel
theorem dX9_mistake_1 : decode cX9_mistake 1 = .ok (.ifCond .lt 18, 3) := by decide +kernel
theorem dX9_mistake_4 : decode cX9_mistake 4 = .ok (.iload_n 1, 1) := by decide +kernel
theorem dX9_mistake_5 : decode cX9_mistake 5 = .ok (.bipush 40, 2) := by decide +kernel
theorem dX9_mistake_7 : decode cX9_mistake 7 = .ok (.if_icmp .gt 12, 3) := by decide +kernel
theorem dX9_mistake_10 : decode cX9_mistake 10 = .ok (.iload_n 2, 1) := by decide +kernel
theorem dX9_mistake_11 : decode cX9_mistake 11 = .ok (.ifCond .lt 8, 3) := by decide +kernel
theorem dX9_mistake_14 : decode cX9_mistake 14 = .ok (.iload_n 2, 1) := by decide +kernel
theorem dX9_mistake_15 : decode cX9_mistake 15 = .ok (.iconst 1, 1) := by decide +kernel
theorem dX9_mistake_16 : decode cX9_mistake 16 = .ok (.if_icmp .le 5, 3) := by decide +kernel
theorem dX9_mistake_19 : decode cX9_mistake 19 = .ok (.iconst (-1), 1) := by decide +kernel
theorem dX9_mistake_20 : decode cX9_mistake 20 = .ok (.ireturn, 1) := by decide +kernel
theorem dX9_mistake_21 : decode cX9_mistake 21 = .ok (.aload_n 0, 1) := by decide +kernel
theorem dX9_mistake_22 : decode cX9_mistake 22 = .ok (.getfield 40, 3) := by decide +kernel
theorem dX9_mistake_25 : decode cX9_mistake 25 = .ok (.invokevirtual 192, 3) := by decide +kernel
theorem dX9_mistake_28 : decode cX9_mistake 28 = .ok (.aload_n 0, 1) := by decide +kernel
theorem dX9_mistake_29 : decode cX9_mistake 29 = .ok (.getfield 40, 3) := by decide +kernel
theorem dX9_mistake_32 : decode cX9_mistake 32 = .ok (.iload_n 1, 1) := by decide +kernel
theorem dX9_mistake_33 : decode cX9_mistake 33 = .ok (.invokevirtual 211, 3) := by decide +kernel
theorem dX9_mistake_36 : decode cX9_mistake 36 = .ok (.iload_n 2, 1) := by decide +kernel
theorem dX9_mistake_37 : decode cX9_mistake 37 = .ok (.ifCond .ne 13, 3) := by decide +kernel
theorem dX9_mistake_40 : decode cX9_mistake 40 = .ok (.aload_n 0, 1) := by decide +kernel
theorem dX9_mistake_41 : decode cX9_mistake 41 = .ok (.getfield 40, 3) := by decide +kernel
theorem dX9_mistake_44 : decode cX9_mistake 44 = .ok (.invokevirtual 198, 3) := by decide +kernel
theorem dX9_mistake_47 : decode cX9_mistake 47 = .ok (.goto 10, 3) := by decide +kernel
theorem dX9_mistake_50 : decode cX9_mistake 50 = .ok (.aload_n 0, 1) := by decide +kernel
theorem dX9_mistake_51 : decode cX9_mistake 51 = .ok (.getfield 40, 3) := by decide +kernel
theorem dX9_mistake_54 : decode cX9_mistake 54 = .ok (.invokevirtual 215, 3) := by decide +kernel
theorem dX9_mistake_57 : decode cX9_mistake 57 = .ok (.ireturn, 1) := by decide +kernel
theorem dX9_held_0 : decode cX9_held 0 = .ok (.iload_n 1, 1) := by decide +kernel
theorem dX9_held_1 : decode cX9_held 1 = .ok (.iconst 1, 1) := by decide +kernel
theorem dX9_held_2 : decode cX9_held 2 = .ok (.if_icmp .lt 10, 3) := by decide +kernel
theorem dX9_held_5 : decode cX9_held 5 = .ok (.iload_n 1, 1) := by decide +kernel
theorem dX9_held_6 : decode cX9_held 6 = .ok (.sipush 200, 3) := by decide +kernel
theorem dX9_held_9 : decode cX9_held 9 = .ok (.if_icmp .le 5, 3) := by decide +kernel
theorem dX9_held_12 : decode cX9_held 12 = .ok (.iconst (-1), 1) := by decide +kernel
theorem dX9_held_13 : decode cX9_held 13 = .ok (.ireturn, 1) := by decide +kernel
theorem dX9_held_14 : decode cX9_held 14 = .ok (.bipush (-2), 2) := by decide +kernel
theorem dX9_held_16 : decode cX9_held 16 = .ok (.istore_n 2, 1) := by decide +kernel
theorem dX9_held_17 : decode cX9_held 17 = .ok (.iconst 0, 1) := by decide +kernel
theorem dX9_held_18 : decode cX9_held 18 = .ok (.istore_n 3, 1) := by decide +kernel
theorem dX9_held_19 : decode cX9_held 19 = .ok (.iconst 1, 1) := by decide +kernel
theorem dX9_held_20 : decode cX9_held 20 = .ok (.istore 4, 2) := by decide +kernel
theorem dX9_held_22 : decode cX9_held 22 = .ok (.iload 4, 2) := by decide +kernel
theorem dX9_held_24 : decode cX9_held 24 = .ok (.iconst 1, 1) := by decide +kernel
theorem dX9_held_25 : decode cX9_held 25 = .ok (.aload_n 0, 1) := by decide +kernel
theorem dX9_held_26 : decode cX9_held 26 = .ok (.getfield 28, 3) := by decide +kernel
theorem dX9_held_29 : decode cX9_held 29 = .ok (.getfield 218, 3) := by decide +kernel
theorem dX9_held_32 : decode cX9_held 32 = .ok (.ishl, 1) := by decide +kernel
theorem dX9_held_33 : decode cX9_held 33 = .ok (.if_icmp .ge 69, 3) := by decide +kernel
theorem dX9_held_36 : decode cX9_held 36 = .ok (.iload 4, 2) := by decide +kernel
theorem dX9_held_38 : decode cX9_held 38 = .ok (.invokestatic 221, 3) := by decide +kernel
theorem dX9_held_41 : decode cX9_held 41 = .ok (.iload_n 3, 1) := by decide +kernel
theorem dX9_held_42 : decode cX9_held 42 = .ok (.if_icmp .le 54, 3) := by decide +kernel
theorem dX9_held_45 : decode cX9_held 45 = .ok (.aload_n 0, 1) := by decide +kernel
theorem dX9_held_46 : decode cX9_held 46 = .ok (.getfield 28, 3) := by decide +kernel
theorem dX9_held_49 : decode cX9_held 49 = .ok (.iload 4, 2) := by decide +kernel
theorem dX9_held_51 : decode cX9_held 51 = .ok (.invokevirtual 226, 3) := by decide +kernel
theorem dX9_held_54 : decode cX9_held 54 = .ok (.ifCond .eq 42, 3) := by decide +kernel
theorem dX9_held_57 : decode cX9_held 57 = .ok (.aload_n 0, 1) := by decide +kernel
theorem dX9_held_58 : decode cX9_held 58 = .ok (.getfield 40, 3) := by decide +kernel
theorem dX9_held_61 : decode cX9_held 61 = .ok (.invokevirtual 192, 3) := by decide +kernel
theorem dX9_held_64 : decode cX9_held 64 = .ok (.aload_n 0, 1) := by decide +kernel
theorem dX9_held_65 : decode cX9_held 65 = .ok (.getfield 40, 3) := by decide +kernel
theorem dX9_held_68 : decode cX9_held 68 = .ok (.getfield 201, 3) := by decide +kernel
theorem dX9_held_71 : decode cX9_held 71 = .ok (.iload 4, 2) := by decide +kernel
theorem dX9_held_73 : decode cX9_held 73 = .ok (.invokevirtual 229, 3) := by decide +kernel
theorem dX9_held_76 : decode cX9_held 76 = .ok (.aload_n 0, 1) := by decide +kernel
theorem dX9_held_77 : decode cX9_held 77 = .ok (.getfield 40, 3) := by decide +kernel
theorem dX9_held_80 : decode cX9_held 80 = .ok (.invokevirtual 198, 3) := by decide +kernel
theorem dX9_held_83 : decode cX9_held 83 = .ok (.iload_n 1, 1) := by decide +kernel
theorem dX9_held_84 : decode cX9_held 84 = .ok (.if_icmp .lt 12, 3) := by decide +kernel
theorem dX9_held_87 : decode cX9_held 87 = .ok (.iload 4, 2) := by decide +kernel
theorem dX9_held_89 : decode cX9_held 89 = .ok (.istore_n 2, 1) := by decide +kernel
theorem dX9_held_90 : decode cX9_held 90 = .ok (.iload 4, 2) := by decide +kernel
theorem dX9_held_92 : decode cX9_held 92 = .ok (.invokestatic 221, 3) := by decide +kernel
theorem dX9_held_95 : decode cX9_held 95 = .ok (.istore_n 3, 1) := by decide +kernel
theorem dX9_held_96 : decode cX9_held 96 = .ok (.iinc 4 1, 3) := by decide +kernel
theorem dX9_held_99 : decode cX9_held 99 = .ok (.goto (-77), 3) := by decide +kernel
theorem dX9_held_102 : decode cX9_held 102 = .ok (.iload_n 2, 1) := by decide +kernel
theorem dX9_held_103 : decode cX9_held 103 = .ok (.ireturn, 1) := by decide +kernel
theorem dX9_rescue_0 : decode cX9_rescue 0 = .ok (.iload_n 2, 1) := by decide +kernel
theorem dX9_rescue_1 : decode cX9_rescue 1 = .ok (.bipush 100, 2) := by decide +kernel
theorem dX9_rescue_3 : decode cX9_rescue 3 = .ok (.idiv, 1) := by decide +kernel
theorem dX9_rescue_4 : decode cX9_rescue 4 = .ok (.istore_n 3, 1) := by decide +kernel
theorem dX9_rescue_5 : decode cX9_rescue 5 = .ok (.iload_n 2, 1) := by decide +kernel
theorem dX9_rescue_6 : decode cX9_rescue 6 = .ok (.bipush 100, 2) := by decide +kernel
theorem dX9_rescue_8 : decode cX9_rescue 8 = .ok (.irem, 1) := by decide +kernel
theorem dX9_rescue_9 : decode cX9_rescue 9 = .ok (.istore 4, 2) := by decide +kernel
theorem dX9_rescue_11 : decode cX9_rescue 11 = .ok (.aload_n 0, 1) := by decide +kernel
theorem dX9_rescue_12 : decode cX9_rescue 12 = .ok (.getfield 28, 3) := by decide +kernel
theorem dX9_rescue_15 : decode cX9_rescue 15 = .ok (.iload_n 1, 1) := by decide +kernel
theorem dX9_rescue_16 : decode cX9_rescue 16 = .ok (.invokevirtual 118, 3) := by decide +kernel
theorem dX9_rescue_19 : decode cX9_rescue 19 = .ok (.ifCond .eq 25, 3) := by decide +kernel
theorem dX9_rescue_22 : decode cX9_rescue 22 = .ok (.iload_n 3, 1) := by decide +kernel
theorem dX9_rescue_23 : decode cX9_rescue 23 = .ok (.iconst 1, 1) := by decide +kernel
theorem dX9_rescue_24 : decode cX9_rescue 24 = .ok (.if_icmp .lt 20, 3) := by decide +kernel
theorem dX9_rescue_27 : decode cX9_rescue 27 = .ok (.iload_n 3, 1) := by decide +kernel
theorem dX9_rescue_28 : decode cX9_rescue 28 = .ok (.iconst 5, 1) := by decide +kernel
theorem dX9_rescue_29 : decode cX9_rescue 29 = .ok (.if_icmp .gt 15, 3) := by decide +kernel
theorem dX9_rescue_32 : decode cX9_rescue 32 = .ok (.iload 4, 2) := by decide +kernel
theorem dX9_rescue_34 : decode cX9_rescue 34 = .ok (.ifCond .lt 10, 3) := by decide +kernel
theorem dX9_rescue_37 : decode cX9_rescue 37 = .ok (.iload 4, 2) := by decide +kernel
theorem dX9_rescue_39 : decode cX9_rescue 39 = .ok (.bipush 24, 2) := by decide +kernel
theorem dX9_rescue_41 : decode cX9_rescue 41 = .ok (.if_icmp .lt 5, 3) := by decide +kernel
theorem dX9_rescue_44 : decode cX9_rescue 44 = .ok (.iconst (-1), 1) := by decide +kernel
theorem dX9_rescue_45 : decode cX9_rescue 45 = .ok (.ireturn, 1) := by decide +kernel
theorem dX9_rescue_46 : decode cX9_rescue 46 = .ok (.aload_n 0, 1) := by decide +kernel
theorem dX9_rescue_47 : decode cX9_rescue 47 = .ok (.getfield 40, 3) := by decide +kernel
theorem dX9_rescue_50 : decode cX9_rescue 50 = .ok (.invokevirtual 192, 3) := by decide +kernel
theorem dX9_rescue_53 : decode cX9_rescue 53 = .ok (.aload_n 0, 1) := by decide +kernel
theorem dX9_rescue_54 : decode cX9_rescue 54 = .ok (.getfield 40, 3) := by decide +kernel
theorem dX9_rescue_57 : decode cX9_rescue 57 = .ok (.iload_n 1, 1) := by decide +kernel
theorem dX9_rescue_58 : decode cX9_rescue 58 = .ok (.invokevirtual 195, 3) := by decide +kernel
theorem dX9_rescue_61 : decode cX9_rescue 61 = .ok (.istore 5, 2) := by decide +kernel
theorem dX9_rescue_63 : decode cX9_rescue 63 = .ok (.iload 5, 2) := by decide +kernel
theorem dX9_rescue_65 : decode cX9_rescue 65 = .ok (.ifCond .eq 10, 3) := by decide +kernel
theorem dX9_rescue_68 : decode cX9_rescue 68 = .ok (.iload 5, 2) := by decide +kernel
theorem dX9_rescue_70 : decode cX9_rescue 70 = .ok (.bipush (-2), 2) := by decide +kernel
theorem dX9_rescue_72 : decode cX9_rescue 72 = .ok (.if_icmp .ne 6, 3) := by decide +kernel
theorem dX9_rescue_75 : decode cX9_rescue 75 = .ok (.bipush (-5), 2) := by decide +kernel
theorem dX9_rescue_77 : decode cX9_rescue 77 = .ok (.ireturn, 1) := by decide +kernel
theorem dX9_rescue_78 : decode cX9_rescue 78 = .ok (.bipush 100, 2) := by decide +kernel
theorem dX9_rescue_80 : decode cX9_rescue 80 = .ok (.iload 5, 2) := by decide +kernel
theorem dX9_rescue_82 : decode cX9_rescue 82 = .ok (.invokestatic 232, 3) := by decide +kernel
theorem dX9_rescue_85 : decode cX9_rescue 85 = .ok (.istore 6, 2) := by decide +kernel
theorem dX9_rescue_87 : decode cX9_rescue 87 = .ok (.iconst 0, 1) := by decide +kernel
theorem dX9_rescue_88 : decode cX9_rescue 88 = .ok (.istore 7, 2) := by decide +kernel
theorem dX9_rescue_90 : decode cX9_rescue 90 = .ok (.iload 7, 2) := by decide +kernel
theorem dX9_rescue_92 : decode cX9_rescue 92 = .ok (.iload 6, 2) := by decide +kernel
theorem dX9_rescue_94 : decode cX9_rescue 94 = .ok (.if_icmp .ge 44, 3) := by decide +kernel
theorem dX9_rescue_97 : decode cX9_rescue 97 = .ok (.aload_n 0, 1) := by decide +kernel
theorem dX9_rescue_98 : decode cX9_rescue 98 = .ok (.getfield 40, 3) := by decide +kernel
theorem dX9_rescue_101 : decode cX9_rescue 101 = .ok (.invokevirtual 192, 3) := by decide +kernel
theorem dX9_rescue_104 : decode cX9_rescue 104 = .ok (.aload_n 0, 1) := by decide +kernel
theorem dX9_rescue_105 : decode cX9_rescue 105 = .ok (.getfield 40, 3) := by decide +kernel
theorem dX9_rescue_108 : decode cX9_rescue 108 = .ok (.iload 7, 2) := by decide +kernel
theorem dX9_rescue_110 : decode cX9_rescue 110 = .ok (.iload_n 3, 1) := by decide +kernel
theorem dX9_rescue_111 : decode cX9_rescue 111 = .ok (.iload 4, 2) := by decide +kernel
theorem dX9_rescue_113 : decode cX9_rescue 113 = .ok (.invokevirtual 237, 3) := by decide +kernel
theorem dX9_rescue_116 : decode cX9_rescue 116 = .ok (.aload_n 0, 1) := by decide +kernel
theorem dX9_rescue_117 : decode cX9_rescue 117 = .ok (.getfield 40, 3) := by decide +kernel
theorem dX9_rescue_120 : decode cX9_rescue 120 = .ok (.iload_n 1, 1) := by decide +kernel
theorem dX9_rescue_121 : decode cX9_rescue 121 = .ok (.iload 5, 2) := by decide +kernel
theorem dX9_rescue_123 : decode cX9_rescue 123 = .ok (.invokevirtual 240, 3) := by decide +kernel
theorem dX9_rescue_126 : decode cX9_rescue 126 = .ok (.ifCond .eq 6, 3) := by decide +kernel
theorem dX9_rescue_129 : decode cX9_rescue 129 = .ok (.iload 7, 2) := by decide +kernel
theorem dX9_rescue_131 : decode cX9_rescue 131 = .ok (.ireturn, 1) := by decide +kernel
theorem dX9_rescue_132 : decode cX9_rescue 132 = .ok (.iinc 7 1, 3) := by decide +kernel
theorem dX9_rescue_135 : decode cX9_rescue 135 = .ok (.goto (-45), 3) := by decide +kernel
theorem dX9_rescue_138 : decode cX9_rescue 138 = .ok (.bipush (-2), 2) := by decide +kernel
theorem dX9_rescue_140 : decode cX9_rescue 140 = .ok (.ireturn, 1) := by decide +kernel
theorem dX9_start_0 : decode cX9_start 0 = .ok (.aload_n 0, 1) := by decide +kernel
theorem dX9_start_1 : decode cX9_start 1 = .ok (.getfield 28, 3) := by decide +kernel
theorem dX9_start_4 : decode cX9_start 4 = .ok (.iload_n 1, 1) := by decide +kernel
theorem dX9_start_5 : decode cX9_start 5 = .ok (.invokevirtual 118, 3) := by decide +kernel
theorem dX9_start_8 : decode cX9_start 8 = .ok (.ifCond .ne 6, 3) := by decide +kernel
theorem dX9_start_11 : decode cX9_start 11 = .ok (.ldc 105, 2) := by decide +kernel
theorem dX9_start_13 : decode cX9_start 13 = .ok (.ireturn, 1) := by decide +kernel
theorem dX9_start_14 : decode cX9_start 14 = .ok (.aload_n 0, 1) := by decide +kernel
theorem dX9_start_15 : decode cX9_start 15 = .ok (.getfield 28, 3) := by decide +kernel
theorem dX9_start_18 : decode cX9_start 18 = .ok (.getfield 121, 3) := by decide +kernel
theorem dX9_start_21 : decode cX9_start 21 = .ok (.iload_n 1, 1) := by decide +kernel
theorem dX9_start_22 : decode cX9_start 22 = .ok (.aaload, 1) := by decide +kernel
theorem dX9_start_23 : decode cX9_start 23 = .ok (.invokevirtual 167, 3) := by decide +kernel
theorem dX9_start_26 : decode cX9_start 26 = .ok (.ifCond .eq 6, 3) := by decide +kernel
theorem dX9_start_29 : decode cX9_start 29 = .ok (.bipush (-5), 2) := by decide +kernel
theorem dX9_start_31 : decode cX9_start 31 = .ok (.ireturn, 1) := by decide +kernel
theorem dX9_start_32 : decode cX9_start 32 = .ok (.bipush (-9), 2) := by decide +kernel
theorem dX9_start_34 : decode cX9_start 34 = .ok (.istore_n 2, 1) := by decide +kernel
theorem dX9_start_35 : decode cX9_start 35 = .ok (.iconst (-1), 1) := by decide +kernel
theorem dX9_start_36 : decode cX9_start 36 = .ok (.istore_n 3, 1) := by decide +kernel
theorem dX9_start_37 : decode cX9_start 37 = .ok (.bipush (-9), 2) := by decide +kernel
theorem dX9_start_39 : decode cX9_start 39 = .ok (.istore 4, 2) := by decide +kernel
theorem dX9_start_41 : decode cX9_start 41 = .ok (.iload 4, 2) := by decide +kernel
theorem dX9_start_43 : decode cX9_start 43 = .ok (.bipush 9, 2) := by decide +kernel
theorem dX9_start_45 : decode cX9_start 45 = .ok (.if_icmp .gt 72, 3) := by decide +kernel
theorem dX9_start_48 : decode cX9_start 48 = .ok (.aload_n 0, 1) := by decide +kernel
theorem dX9_start_49 : decode cX9_start 49 = .ok (.getfield 40, 3) := by decide +kernel
theorem dX9_start_52 : decode cX9_start 52 = .ok (.invokevirtual 192, 3) := by decide +kernel
theorem dX9_start_55 : decode cX9_start 55 = .ok (.aload_n 0, 1) := by decide +kernel
theorem dX9_start_56 : decode cX9_start 56 = .ok (.getfield 40, 3) := by decide +kernel
theorem dX9_start_59 : decode cX9_start 59 = .ok (.getfield 201, 3) := by decide +kernel
theorem dX9_start_62 : decode cX9_start 62 = .ok (.getfield 121, 3) := by decide +kernel
theorem dX9_start_65 : decode cX9_start 65 = .ok (.iload_n 1, 1) := by decide +kernel
theorem dX9_start_66 : decode cX9_start 66 = .ok (.aaload, 1) := by decide +kernel
theorem dX9_start_67 : decode cX9_start 67 = .ok (.iload 4, 2) := by decide +kernel
theorem dX9_start_69 : decode cX9_start 69 = .ok (.putfield 186, 3) := by decide +kernel
theorem dX9_start_72 : decode cX9_start 72 = .ok (.aload_n 0, 1) := by decide +kernel
theorem dX9_start_73 : decode cX9_start 73 = .ok (.getfield 40, 3) := by decide +kernel
theorem dX9_start_76 : decode cX9_start 76 = .ok (.iload_n 1, 1) := by decide +kernel
theorem dX9_start_77 : decode cX9_start 77 = .ok (.invokevirtual 195, 3) := by decide +kernel
theorem dX9_start_80 : decode cX9_start 80 = .ok (.istore 5, 2) := by decide +kernel
theorem dX9_start_82 : decode cX9_start 82 = .ok (.iload 5, 2) := by decide +kernel
theorem dX9_start_84 : decode cX9_start 84 = .ok (.bipush (-2), 2) := by decide +kernel
theorem dX9_start_86 : decode cX9_start 86 = .ok (.if_icmp .ne 9, 3) := by decide +kernel
theorem dX9_start_89 : decode cX9_start 89 = .ok (.sipush 201, 3) := by decide +kernel
theorem dX9_start_92 : decode cX9_start 92 = .ok (.goto 5, 3) := by decide +kernel
theorem dX9_start_95 : decode cX9_start 95 = .ok (.iload 5, 2) := by decide +kernel
theorem dX9_start_97 : decode cX9_start 97 = .ok (.istore 6, 2) := by decide +kernel
theorem dX9_start_99 : decode cX9_start 99 = .ok (.iload 6, 2) := by decide +kernel
theorem dX9_start_101 : decode cX9_start 101 = .ok (.iload_n 3, 1) := by decide +kernel
theorem dX9_start_102 : decode cX9_start 102 = .ok (.if_icmp .le 9, 3) := by decide +kernel
theorem dX9_start_105 : decode cX9_start 105 = .ok (.iload 6, 2) := by decide +kernel
theorem dX9_start_107 : decode cX9_start 107 = .ok (.istore_n 3, 1) := by decide +kernel
theorem dX9_start_108 : decode cX9_start 108 = .ok (.iload 4, 2) := by decide +kernel
theorem dX9_start_110 : decode cX9_start 110 = .ok (.istore_n 2, 1) := by decide +kernel
theorem dX9_start_111 : decode cX9_start 111 = .ok (.iinc 4 1, 3) := by decide +kernel
theorem dX9_start_114 : decode cX9_start 114 = .ok (.goto (-73), 3) := by decide +kernel
theorem dX9_start_117 : decode cX9_start 117 = .ok (.iload_n 2, 1) := by decide +kernel
theorem dX9_start_118 : decode cX9_start 118 = .ok (.ireturn, 1) := by decide +kernel
theorem dX9_music_0 : decode cX9_music 0 = .ok (.iload_n 1, 1) := by decide +kernel
theorem dX9_music_1 : decode cX9_music 1 = .ok (.invokestatic 88, 3) := by decide +kernel
theorem dX9_music_4 : decode cX9_music 4 = .ok (.ifCond .ne 5, 3) := by decide +kernel
theorem dX9_music_7 : decode cX9_music 7 = .ok (.iconst (-1), 1) := by decide +kernel
theorem dX9_music_8 : decode cX9_music 8 = .ok (.ireturn, 1) := by decide +kernel
theorem dX9_music_9 : decode cX9_music 9 = .ok (.aload_n 0, 1) := by decide +kernel
theorem dX9_music_10 : decode cX9_music 10 = .ok (.getfield 67, 3) := by decide +kernel
theorem dX9_music_13 : decode cX9_music 13 = .ok (.iload_n 1, 1) := by decide +kernel
theorem dX9_music_14 : decode cX9_music 14 = .ok (.aaload, 1) := by decide +kernel
theorem dX9_music_15 : decode cX9_music 15 = .ok (.invokevirtual 244, 3) := by decide +kernel
theorem dX9_music_18 : decode cX9_music 18 = .ok (.istore_n 2, 1) := by decide +kernel
theorem dX9_music_19 : decode cX9_music 19 = .ok (.iload_n 2, 1) := by decide +kernel
theorem dX9_music_20 : decode cX9_music 20 = .ok (.ifCond .eq 5, 3) := by decide +kernel
theorem dX9_music_23 : decode cX9_music 23 = .ok (.iload_n 2, 1) := by decide +kernel
theorem dX9_music_24 : decode cX9_music 24 = .ok (.ireturn, 1) := by decide +kernel
theorem dX9_music_25 : decode cX9_music 25 = .ok (.aload_n 0, 1) := by decide +kernel
theorem dX9_music_26 : decode cX9_music 26 = .ok (.getfield 40, 3) := by decide +kernel
theorem dX9_music_29 : decode cX9_music 29 = .ok (.invokevirtual 192, 3) := by decide +kernel
theorem dX9_music_32 : decode cX9_music 32 = .ok (.aload_n 0, 1) := by decide +kernel
theorem dX9_music_33 : decode cX9_music 33 = .ok (.getfield 40, 3) := by decide +kernel
theorem dX9_music_36 : decode cX9_music 36 = .ok (.aload_n 0, 1) := by decide +kernel
theorem dX9_music_37 : decode cX9_music 37 = .ok (.getfield 67, 3) := by decide +kernel
theorem dX9_music_40 : decode cX9_music 40 = .ok (.iload_n 1, 1) := by decide +kernel
theorem dX9_music_41 : decode cX9_music 41 = .ok (.aaload, 1) := by decide +kernel
theorem dX9_music_42 : decode cX9_music 42 = .ok (.invokevirtual 247, 3) := by decide +kernel
theorem dX9_music_45 : decode cX9_music 45 = .ok (.ireturn, 1) := by decide +kernel
theorem dX9_judge_0 : decode cX9_judge 0 = .ok (.iload_n 1, 1) := by decide +kernel
theorem dX9_judge_1 : decode cX9_judge 1 = .ok (.invokestatic 88, 3) := by decide +kernel
theorem dX9_judge_4 : decode cX9_judge 4 = .ok (.ifCond .eq 14, 3) := by decide +kernel
theorem dX9_judge_7 : decode cX9_judge 7 = .ok (.aload_n 0, 1) := by decide +kernel
theorem dX9_judge_8 : decode cX9_judge 8 = .ok (.getfield 28, 3) := by decide +kernel
theorem dX9_judge_11 : decode cX9_judge 11 = .ok (.iload_n 2, 1) := by decide +kernel
theorem dX9_judge_12 : decode cX9_judge 12 = .ok (.invokevirtual 118, 3) := by decide +kernel
theorem dX9_judge_15 : decode cX9_judge 15 = .ok (.ifCond .ne 5, 3) := by decide +kernel
theorem dX9_judge_18 : decode cX9_judge 18 = .ok (.iconst (-1), 1) := by decide +kernel
theorem dX9_judge_19 : decode cX9_judge 19 = .ok (.ireturn, 1) := by decide +kernel
theorem dX9_judge_20 : decode cX9_judge 20 = .ok (.aload_n 0, 1) := by decide +kernel
theorem dX9_judge_21 : decode cX9_judge 21 = .ok (.getfield 67, 3) := by decide +kernel
theorem dX9_judge_24 : decode cX9_judge 24 = .ok (.iload_n 1, 1) := by decide +kernel
theorem dX9_judge_25 : decode cX9_judge 25 = .ok (.aaload, 1) := by decide +kernel
theorem dX9_judge_26 : decode cX9_judge 26 = .ok (.invokevirtual 244, 3) := by decide +kernel
theorem dX9_judge_29 : decode cX9_judge 29 = .ok (.istore_n 3, 1) := by decide +kernel
theorem dX9_judge_30 : decode cX9_judge 30 = .ok (.iload_n 3, 1) := by decide +kernel
theorem dX9_judge_31 : decode cX9_judge 31 = .ok (.ifCond .eq 5, 3) := by decide +kernel
theorem dX9_judge_34 : decode cX9_judge 34 = .ok (.iload_n 3, 1) := by decide +kernel
theorem dX9_judge_35 : decode cX9_judge 35 = .ok (.ireturn, 1) := by decide +kernel
theorem dX9_judge_36 : decode cX9_judge 36 = .ok (.aload_n 0, 1) := by decide +kernel
theorem dX9_judge_37 : decode cX9_judge 37 = .ok (.getfield 40, 3) := by decide +kernel
theorem dX9_judge_40 : decode cX9_judge 40 = .ok (.invokevirtual 192, 3) := by decide +kernel
theorem dX9_judge_43 : decode cX9_judge 43 = .ok (.aload_n 0, 1) := by decide +kernel
theorem dX9_judge_44 : decode cX9_judge 44 = .ok (.getfield 40, 3) := by decide +kernel
theorem dX9_judge_47 : decode cX9_judge 47 = .ok (.aload_n 0, 1) := by decide +kernel
theorem dX9_judge_48 : decode cX9_judge 48 = .ok (.getfield 67, 3) := by decide +kernel
theorem dX9_judge_51 : decode cX9_judge 51 = .ok (.iload_n 1, 1) := by decide +kernel
theorem dX9_judge_52 : decode cX9_judge 52 = .ok (.aaload, 1) := by decide +kernel
theorem dX9_judge_53 : decode cX9_judge 53 = .ok (.iload_n 2, 1) := by decide +kernel
theorem dX9_judge_54 : decode cX9_judge 54 = .ok (.invokevirtual 251, 3) := by decide +kernel
theorem dX9_judge_57 : decode cX9_judge 57 = .ok (.ireturn, 1) := by decide +kernel
theorem dX9_begun_0 : decode cX9_begun 0 = .ok (.iload_n 1, 1) := by decide +kernel
theorem dX9_begun_1 : decode cX9_begun 1 = .ok (.invokestatic 88, 3) := by decide +kernel
theorem dX9_begun_4 : decode cX9_begun 4 = .ok (.ifCond .eq 35, 3) := by decide +kernel
theorem dX9_begun_7 : decode cX9_begun 7 = .ok (.aload_n 0, 1) := by decide +kernel
theorem dX9_begun_8 : decode cX9_begun 8 = .ok (.getfield 28, 3) := by decide +kernel
theorem dX9_begun_11 : decode cX9_begun 11 = .ok (.iload_n 2, 1) := by decide +kernel
theorem dX9_begun_12 : decode cX9_begun 12 = .ok (.invokevirtual 118, 3) := by decide +kernel
theorem dX9_begun_15 : decode cX9_begun 15 = .ok (.ifCond .eq 24, 3) := by decide +kernel
theorem dX9_begun_18 : decode cX9_begun 18 = .ok (.iload_n 3, 1) := by decide +kernel
theorem dX9_begun_19 : decode cX9_begun 19 = .ok (.ifCond .lt 20, 3) := by decide +kernel
theorem dX9_begun_22 : decode cX9_begun 22 = .ok (.iload_n 3, 1) := by decide +kernel
theorem dX9_begun_23 : decode cX9_begun 23 = .ok (.iconst 1, 1) := by decide +kernel
theorem dX9_begun_24 : decode cX9_begun 24 = .ok (.if_icmp .gt 15, 3) := by decide +kernel
theorem dX9_begun_27 : decode cX9_begun 27 = .ok (.aload_n 0, 1) := by decide +kernel
theorem dX9_begun_28 : decode cX9_begun 28 = .ok (.getfield 67, 3) := by decide +kernel
theorem dX9_begun_31 : decode cX9_begun 31 = .ok (.iload_n 1, 1) := by decide +kernel
theorem dX9_begun_32 : decode cX9_begun 32 = .ok (.aaload, 1) := by decide +kernel
theorem dX9_begun_33 : decode cX9_begun 33 = .ok (.invokevirtual 94, 3) := by decide +kernel
theorem dX9_begun_36 : decode cX9_begun 36 = .ok (.ifCond .ne 6, 3) := by decide +kernel
theorem dX9_begun_39 : decode cX9_begun 39 = .ok (.ldc 105, 2) := by decide +kernel
theorem dX9_begun_41 : decode cX9_begun 41 = .ok (.ireturn, 1) := by decide +kernel
theorem dX9_begun_42 : decode cX9_begun 42 = .ok (.aload_n 0, 1) := by decide +kernel
theorem dX9_begun_43 : decode cX9_begun 43 = .ok (.getfield 28, 3) := by decide +kernel
theorem dX9_begun_46 : decode cX9_begun 46 = .ok (.getfield 121, 3) := by decide +kernel
theorem dX9_begun_49 : decode cX9_begun 49 = .ok (.iload_n 2, 1) := by decide +kernel
theorem dX9_begun_50 : decode cX9_begun 50 = .ok (.aaload, 1) := by decide +kernel
theorem dX9_begun_51 : decode cX9_begun 51 = .ok (.invokevirtual 167, 3) := by decide +kernel
theorem dX9_begun_54 : decode cX9_begun 54 = .ok (.ifCond .eq 7, 3) := by decide +kernel
theorem dX9_begun_57 : decode cX9_begun 57 = .ok (.iconst 0, 1) := by decide +kernel
theorem dX9_begun_58 : decode cX9_begun 58 = .ok (.goto 5, 3) := by decide +kernel
theorem dX9_begun_61 : decode cX9_begun 61 = .ok (.bipush 9, 2) := by decide +kernel
theorem dX9_begun_63 : decode cX9_begun 63 = .ok (.istore 4, 2) := by decide +kernel
theorem dX9_begun_65 : decode cX9_begun 65 = .ok (.iconst 0, 1) := by decide +kernel
theorem dX9_begun_66 : decode cX9_begun 66 = .ok (.istore 5, 2) := by decide +kernel
theorem dX9_begun_68 : decode cX9_begun 68 = .ok (.bipush (-2), 2) := by decide +kernel
theorem dX9_begun_70 : decode cX9_begun 70 = .ok (.istore 6, 2) := by decide +kernel
theorem dX9_begun_72 : decode cX9_begun 72 = .ok (.iload 4, 2) := by decide +kernel
theorem dX9_begun_74 : decode cX9_begun 74 = .ok (.ineg, 1) := by decide +kernel
theorem dX9_begun_75 : decode cX9_begun 75 = .ok (.istore 7, 2) := by decide +kernel
theorem dX9_begun_77 : decode cX9_begun 77 = .ok (.iload 7, 2) := by decide +kernel
theorem dX9_begun_79 : decode cX9_begun 79 = .ok (.iload 4, 2) := by decide +kernel
theorem dX9_begun_81 : decode cX9_begun 81 = .ok (.if_icmp .gt 69, 3) := by decide +kernel
theorem dX9_begun_84 : decode cX9_begun 84 = .ok (.aload_n 0, 1) := by decide +kernel
theorem dX9_begun_85 : decode cX9_begun 85 = .ok (.getfield 40, 3) := by decide +kernel
theorem dX9_begun_88 : decode cX9_begun 88 = .ok (.invokevirtual 192, 3) := by decide +kernel
theorem dX9_begun_91 : decode cX9_begun 91 = .ok (.aload_n 0, 1) := by decide +kernel
theorem dX9_begun_92 : decode cX9_begun 92 = .ok (.getfield 40, 3) := by decide +kernel
theorem dX9_begun_95 : decode cX9_begun 95 = .ok (.getfield 201, 3) := by decide +kernel
theorem dX9_begun_98 : decode cX9_begun 98 = .ok (.getfield 121, 3) := by decide +kernel
theorem dX9_begun_101 : decode cX9_begun 101 = .ok (.iload_n 2, 1) := by decide +kernel
theorem dX9_begun_102 : decode cX9_begun 102 = .ok (.aaload, 1) := by decide +kernel
theorem dX9_begun_103 : decode cX9_begun 103 = .ok (.iload 7, 2) := by decide +kernel
theorem dX9_begun_105 : decode cX9_begun 105 = .ok (.putfield 186, 3) := by decide +kernel
theorem dX9_begun_108 : decode cX9_begun 108 = .ok (.aload_n 0, 1) := by decide +kernel
theorem dX9_begun_109 : decode cX9_begun 109 = .ok (.getfield 40, 3) := by decide +kernel
theorem dX9_begun_112 : decode cX9_begun 112 = .ok (.aload_n 0, 1) := by decide +kernel
theorem dX9_begun_113 : decode cX9_begun 113 = .ok (.getfield 67, 3) := by decide +kernel
theorem dX9_begun_116 : decode cX9_begun 116 = .ok (.iload_n 1, 1) := by decide +kernel
theorem dX9_begun_117 : decode cX9_begun 117 = .ok (.aaload, 1) := by decide +kernel
theorem dX9_begun_118 : decode cX9_begun 118 = .ok (.iload_n 2, 1) := by decide +kernel
theorem dX9_begun_119 : decode cX9_begun 119 = .ok (.invokevirtual 251, 3) := by decide +kernel
theorem dX9_begun_122 : decode cX9_begun 122 = .ok (.bipush (-2), 2) := by decide +kernel
theorem dX9_begun_124 : decode cX9_begun 124 = .ok (.if_icmp .ne 20, 3) := by decide +kernel
theorem dX9_begun_127 : decode cX9_begun 127 = .ok (.iload 5, 2) := by decide +kernel
theorem dX9_begun_129 : decode cX9_begun 129 = .ok (.ifCond .ne 8, 3) := by decide +kernel
theorem dX9_begun_132 : decode cX9_begun 132 = .ok (.iload 7, 2) := by decide +kernel
theorem dX9_begun_134 : decode cX9_begun 134 = .ok (.goto 5, 3) := by decide +kernel
theorem dX9_begun_137 : decode cX9_begun 137 = .ok (.iload 6, 2) := by decide +kernel
theorem dX9_begun_139 : decode cX9_begun 139 = .ok (.istore 6, 2) := by decide +kernel
theorem dX9_begun_141 : decode cX9_begun 141 = .ok (.iinc 5 1, 3) := by decide +kernel
theorem dX9_begun_144 : decode cX9_begun 144 = .ok (.iinc 7 1, 3) := by decide +kernel
theorem dX9_begun_147 : decode cX9_begun 147 = .ok (.goto (-70), 3) := by decide +kernel
theorem dX9_begun_150 : decode cX9_begun 150 = .ok (.iload_n 3, 1) := by decide +kernel
theorem dX9_begun_151 : decode cX9_begun 151 = .ok (.ifCond .ne 8, 3) := by decide +kernel
theorem dX9_begun_154 : decode cX9_begun 154 = .ok (.iload 5, 2) := by decide +kernel
theorem dX9_begun_156 : decode cX9_begun 156 = .ok (.goto 5, 3) := by decide +kernel
theorem dX9_begun_159 : decode cX9_begun 159 = .ok (.iload 6, 2) := by decide +kernel
theorem dX9_begun_161 : decode cX9_begun 161 = .ok (.ireturn, 1) := by decide +kernel
theorem dX9_skill_0 : decode cX9_skill 0 = .ok (.iload_n 1, 1) := by decide +kernel
theorem dX9_skill_1 : decode cX9_skill 1 = .ok (.invokestatic 134, 3) := by decide +kernel
theorem dX9_skill_4 : decode cX9_skill 4 = .ok (.ifCond .eq 10, 3) := by decide +kernel
theorem dX9_skill_7 : decode cX9_skill 7 = .ok (.iload_n 2, 1) := by decide +kernel
theorem dX9_skill_8 : decode cX9_skill 8 = .ok (.invokestatic 255, 3) := by decide +kernel
theorem dX9_skill_11 : decode cX9_skill 11 = .ok (.ifCond .ne 5, 3) := by decide +kernel
theorem dX9_skill_14 : decode cX9_skill 14 = .ok (.iconst (-1), 1) := by decide +kernel
theorem dX9_skill_15 : decode cX9_skill 15 = .ok (.ireturn, 1) := by decide +kernel
theorem dX9_skill_16 : decode cX9_skill 16 = .ok (.aload_n 0, 1) := by decide +kernel
theorem dX9_skill_17 : decode cX9_skill 17 = .ok (.getfield 47, 3) := by decide +kernel
theorem dX9_skill_20 : decode cX9_skill 20 = .ok (.getfield 137, 3) := by decide +kernel
theorem dX9_skill_23 : decode cX9_skill 23 = .ok (.iload_n 1, 1) := by decide +kernel
theorem dX9_skill_24 : decode cX9_skill 24 = .ok (.iaload, 1) := by decide +kernel
theorem dX9_skill_25 : decode cX9_skill 25 = .ok (.istore_n 3, 1) := by decide +kernel
theorem dX9_skill_26 : decode cX9_skill 26 = .ok (.aload_n 0, 1) := by decide +kernel
theorem dX9_skill_27 : decode cX9_skill 27 = .ok (.getfield 47, 3) := by decide +kernel
theorem dX9_skill_30 : decode cX9_skill 30 = .ok (.iload_n 1, 1) := by decide +kernel
theorem dX9_skill_31 : decode cX9_skill 31 = .ok (.iload_n 2, 1) := by decide +kernel
theorem dX9_skill_32 : decode cX9_skill 32 = .ok (.invokevirtual 258, 3) := by decide +kernel
theorem dX9_skill_35 : decode cX9_skill 35 = .ok (.iload_n 3, 1) := by decide +kernel
theorem dX9_skill_36 : decode cX9_skill 36 = .ok (.ireturn, 1) := by decide +kernel
theorem dX9_left_0 : decode cX9_left 0 = .ok (.iload_n 2, 1) := by decide +kernel
theorem dX9_left_1 : decode cX9_left 1 = .ok (.invokestatic 262, 3) := by decide +kernel
theorem dX9_left_4 : decode cX9_left 4 = .ok (.ifCond .eq 15, 3) := by decide +kernel
theorem dX9_left_7 : decode cX9_left 7 = .ok (.iload_n 3, 1) := by decide +kernel
theorem dX9_left_8 : decode cX9_left 8 = .ok (.iconst (-1), 1) := by decide +kernel
theorem dX9_left_9 : decode cX9_left 9 = .ok (.if_icmp .eq 12, 3) := by decide +kernel
theorem dX9_left_12 : decode cX9_left 12 = .ok (.iload_n 3, 1) := by decide +kernel
theorem dX9_left_13 : decode cX9_left 13 = .ok (.invokestatic 134, 3) := by decide +kernel
theorem dX9_left_16 : decode cX9_left 16 = .ok (.ifCond .ne 5, 3) := by decide +kernel
theorem dX9_left_19 : decode cX9_left 19 = .ok (.iconst (-1), 1) := by decide +kernel
theorem dX9_left_20 : decode cX9_left 20 = .ok (.ireturn, 1) := by decide +kernel
theorem dX9_left_21 : decode cX9_left 21 = .ok (.aload_n 0, 1) := by decide +kernel
theorem dX9_left_22 : decode cX9_left 22 = .ok (.getfield 47, 3) := by decide +kernel
theorem dX9_left_25 : decode cX9_left 25 = .ok (.iload_n 1, 1) := by decide +kernel
theorem dX9_left_26 : decode cX9_left 26 = .ok (.iload_n 2, 1) := by decide +kernel
theorem dX9_left_27 : decode cX9_left 27 = .ok (.invokevirtual 265, 3) := by decide +kernel
theorem dX9_left_30 : decode cX9_left 30 = .ok (.iload_n 3, 1) := by decide +kernel
theorem dX9_left_31 : decode cX9_left 31 = .ok (.iconst (-1), 1) := by decide +kernel
theorem dX9_left_32 : decode cX9_left 32 = .ok (.if_icmp .ne 11, 3) := by decide +kernel
theorem dX9_left_35 : decode cX9_left 35 = .ok (.aload_n 0, 1) := by decide +kernel
theorem dX9_left_36 : decode cX9_left 36 = .ok (.getfield 47, 3) := by decide +kernel
theorem dX9_left_39 : decode cX9_left 39 = .ok (.invokevirtual 268, 3) := by decide +kernel
theorem dX9_left_42 : decode cX9_left 42 = .ok (.ireturn, 1) := by decide +kernel
theorem dX9_left_43 : decode cX9_left 43 = .ok (.aload_n 0, 1) := by decide +kernel
theorem dX9_left_44 : decode cX9_left 44 = .ok (.getfield 47, 3) := by decide +kernel
theorem dX9_left_47 : decode cX9_left 47 = .ok (.getfield 271, 3) := by decide +kernel
theorem dX9_left_50 : decode cX9_left 50 = .ok (.iload_n 3, 1) := by decide +kernel
theorem dX9_left_51 : decode cX9_left 51 = .ok (.baload, 1) := by decide +kernel
theorem dX9_left_52 : decode cX9_left 52 = .ok (.ifCond .eq 7, 3) := by decide +kernel
theorem dX9_left_55 : decode cX9_left 55 = .ok (.iconst 1, 1) := by decide +kernel
theorem dX9_left_56 : decode cX9_left 56 = .ok (.goto 4, 3) := by decide +kernel
theorem dX9_left_59 : decode cX9_left 59 = .ok (.iconst 0, 1) := by decide +kernel
theorem dX9_left_60 : decode cX9_left 60 = .ok (.ireturn, 1) := by decide +kernel
theorem dX9_knocked_0 : decode cX9_knocked 0 = .ok (.iload_n 2, 1) := by decide +kernel
theorem dX9_knocked_1 : decode cX9_knocked 1 = .ok (.invokestatic 262, 3) := by decide +kernel
theorem dX9_knocked_4 : decode cX9_knocked 4 = .ok (.ifCond .eq 10, 3) := by decide +kernel
theorem dX9_knocked_7 : decode cX9_knocked 7 = .ok (.iload_n 3, 1) := by decide +kernel
theorem dX9_knocked_8 : decode cX9_knocked 8 = .ok (.invokestatic 134, 3) := by decide +kernel
theorem dX9_knocked_11 : decode cX9_knocked 11 = .ok (.ifCond .ne 5, 3) := by decide +kernel
theorem dX9_knocked_14 : decode cX9_knocked 14 = .ok (.iconst (-1), 1) := by decide +kernel
theorem dX9_knocked_15 : decode cX9_knocked 15 = .ok (.ireturn, 1) := by decide +kernel
theorem dX9_knocked_16 : decode cX9_knocked 16 = .ok (.aload_n 0, 1) := by decide +kernel
theorem dX9_knocked_17 : decode cX9_knocked 17 = .ok (.getfield 47, 3) := by decide +kernel
theorem dX9_knocked_20 : decode cX9_knocked 20 = .ok (.iload_n 1, 1) := by decide +kernel
theorem dX9_knocked_21 : decode cX9_knocked 21 = .ok (.iload_n 2, 1) := by decide +kernel
theorem dX9_knocked_22 : decode cX9_knocked 22 = .ok (.invokevirtual 265, 3) := by decide +kernel
theorem dX9_knocked_25 : decode cX9_knocked 25 = .ok (.aload_n 0, 1) := by decide +kernel
theorem dX9_knocked_26 : decode cX9_knocked 26 = .ok (.getfield 47, 3) := by decide +kernel
theorem dX9_knocked_29 : decode cX9_knocked 29 = .ok (.getfield 275, 3) := by decide +kernel
theorem dX9_knocked_32 : decode cX9_knocked 32 = .ok (.iload_n 3, 1) := by decide +kernel
theorem dX9_knocked_33 : decode cX9_knocked 33 = .ok (.iaload, 1) := by decide +kernel
theorem dX9_knocked_34 : decode cX9_knocked 34 = .ok (.ireturn, 1) := by decide +kernel
theorem dX9_last_0 : decode cX9_last 0 = .ok (.iload_n 2, 1) := by decide +kernel
theorem dX9_last_1 : decode cX9_last 1 = .ok (.ifCond .lt 8, 3) := by decide +kernel
theorem dX9_last_4 : decode cX9_last 4 = .ok (.iload_n 2, 1) := by decide +kernel
theorem dX9_last_5 : decode cX9_last 5 = .ok (.iconst 1, 1) := by decide +kernel
theorem dX9_last_6 : decode cX9_last 6 = .ok (.if_icmp .le 5, 3) := by decide +kernel
theorem dX9_last_9 : decode cX9_last 9 = .ok (.iconst (-1), 1) := by decide +kernel
theorem dX9_last_10 : decode cX9_last 10 = .ok (.ireturn, 1) := by decide +kernel
theorem dX9_last_11 : decode cX9_last 11 = .ok (.aload_n 0, 1) := by decide +kernel
theorem dX9_last_12 : decode cX9_last 12 = .ok (.getfield 47, 3) := by decide +kernel
theorem dX9_last_15 : decode cX9_last 15 = .ok (.iload_n 1, 1) := by decide +kernel
theorem dX9_last_16 : decode cX9_last 16 = .ok (.bipush 30, 2) := by decide +kernel
theorem dX9_last_18 : decode cX9_last 18 = .ok (.invokevirtual 265, 3) := by decide +kernel
theorem dX9_last_21 : decode cX9_last 21 = .ok (.aload_n 0, 1) := by decide +kernel
theorem dX9_last_22 : decode cX9_last 22 = .ok (.getfield 47, 3) := by decide +kernel
theorem dX9_last_25 : decode cX9_last 25 = .ok (.invokevirtual 278, 3) := by decide +kernel
theorem dX9_last_28 : decode cX9_last 28 = .ok (.istore_n 3, 1) := by decide +kernel
theorem dX9_last_29 : decode cX9_last 29 = .ok (.iload_n 2, 1) := by decide +kernel
theorem dX9_last_30 : decode cX9_last 30 = .ok (.ifCond .ne 7, 3) := by decide +kernel
theorem dX9_last_33 : decode cX9_last 33 = .ok (.iload_n 3, 1) := by decide +kernel
theorem dX9_last_34 : decode cX9_last 34 = .ok (.goto 12, 3) := by decide +kernel
theorem dX9_last_37 : decode cX9_last 37 = .ok (.aload_n 0, 1) := by decide +kernel
theorem dX9_last_38 : decode cX9_last 38 = .ok (.getfield 47, 3) := by decide +kernel
theorem dX9_last_41 : decode cX9_last 41 = .ok (.getfield 281, 3) := by decide +kernel
theorem dX9_last_44 : decode cX9_last 44 = .ok (.iload_n 3, 1) := by decide +kernel
theorem dX9_last_45 : decode cX9_last 45 = .ok (.iaload, 1) := by decide +kernel
theorem dX9_last_46 : decode cX9_last 46 = .ok (.ireturn, 1) := by decide +kernel
theorem dX9_alone_0 : decode cX9_alone 0 = .ok (.iload_n 1, 1) := by decide +kernel
theorem dX9_alone_1 : decode cX9_alone 1 = .ok (.invokestatic 134, 3) := by decide +kernel
theorem dX9_alone_4 : decode cX9_alone 4 = .ok (.ifCond .eq 22, 3) := by decide +kernel
theorem dX9_alone_7 : decode cX9_alone 7 = .ok (.iload_n 2, 1) := by decide +kernel
theorem dX9_alone_8 : decode cX9_alone 8 = .ok (.ifCond .lt 18, 3) := by decide +kernel
theorem dX9_alone_11 : decode cX9_alone 11 = .ok (.iload_n 2, 1) := by decide +kernel
theorem dX9_alone_12 : decode cX9_alone 12 = .ok (.bipush 8, 2) := by decide +kernel
theorem dX9_alone_14 : decode cX9_alone 14 = .ok (.if_icmp .gt 12, 3) := by decide +kernel
theorem dX9_alone_17 : decode cX9_alone 17 = .ok (.iload_n 3, 1) := by decide +kernel
theorem dX9_alone_18 : decode cX9_alone 18 = .ok (.ifCond .lt 8, 3) := by decide +kernel
theorem dX9_alone_21 : decode cX9_alone 21 = .ok (.iload_n 3, 1) := by decide +kernel
theorem dX9_alone_22 : decode cX9_alone 22 = .ok (.iconst 1, 1) := by decide +kernel
theorem dX9_alone_23 : decode cX9_alone 23 = .ok (.if_icmp .le 7, 3) := by decide +kernel
theorem dX9_alone_26 : decode cX9_alone 26 = .ok (.ldc2_w 286, 3) := by decide +kernel
theorem dX9_alone_29 : decode cX9_alone 29 = .ok (.lreturn, 1) := by decide +kernel
theorem dX9_alone_30 : decode cX9_alone 30 = .ok (.aload_n 0, 1) := by decide +kernel
theorem dX9_alone_31 : decode cX9_alone 31 = .ok (.getfield 47, 3) := by decide +kernel
theorem dX9_alone_34 : decode cX9_alone 34 = .ok (.getfield 137, 3) := by decide +kernel
theorem dX9_alone_37 : decode cX9_alone 37 = .ok (.iload_n 1, 1) := by decide +kernel
theorem dX9_alone_38 : decode cX9_alone 38 = .ok (.iaload, 1) := by decide +kernel
theorem dX9_alone_39 : decode cX9_alone 39 = .ok (.istore 4, 2) := by decide +kernel
theorem dX9_alone_41 : decode cX9_alone 41 = .ok (.iload 4, 2) := by decide +kernel
theorem dX9_alone_43 : decode cX9_alone 43 = .ok (.bipush 12, 2) := by decide +kernel
theorem dX9_alone_45 : decode cX9_alone 45 = .ok (.invokestatic 288, 3) := by decide +kernel
theorem dX9_alone_48 : decode cX9_alone 48 = .ok (.istore 5, 2) := by decide +kernel
theorem dX9_alone_50 : decode cX9_alone 50 = .ok (.iload_n 3, 1) := by decide +kernel
theorem dX9_alone_51 : decode cX9_alone 51 = .ok (.ifCond .ne 8, 3) := by decide +kernel
theorem dX9_alone_54 : decode cX9_alone 54 = .ok (.iload 4, 2) := by decide +kernel
theorem dX9_alone_56 : decode cX9_alone 56 = .ok (.goto 5, 3) := by decide +kernel
theorem dX9_alone_59 : decode cX9_alone 59 = .ok (.bipush 12, 2) := by decide +kernel
theorem dX9_alone_61 : decode cX9_alone 61 = .ok (.iconst 1, 1) := by decide +kernel
theorem dX9_alone_62 : decode cX9_alone 62 = .ok (.iload 5, 2) := by decide +kernel
theorem dX9_alone_64 : decode cX9_alone 64 = .ok (.invokestatic 291, 3) := by decide +kernel
theorem dX9_alone_67 : decode cX9_alone 67 = .ok (.idiv, 1) := by decide +kernel
theorem dX9_alone_68 : decode cX9_alone 68 = .ok (.istore 6, 2) := by decide +kernel
theorem dX9_alone_70 : decode cX9_alone 70 = .ok (.lconst 1, 1) := by decide +kernel
theorem dX9_alone_71 : decode cX9_alone 71 = .ok (.lstore 7, 2) := by decide +kernel
theorem dX9_alone_73 : decode cX9_alone 73 = .ok (.iconst 0, 1) := by decide +kernel
theorem dX9_alone_74 : decode cX9_alone 74 = .ok (.istore 9, 2) := by decide +kernel
theorem dX9_alone_76 : decode cX9_alone 76 = .ok (.iload 9, 2) := by decide +kernel
theorem dX9_alone_78 : decode cX9_alone 78 = .ok (.iload_n 2, 1) := by decide +kernel
theorem dX9_alone_79 : decode cX9_alone 79 = .ok (.if_icmp .ge 17, 3) := by decide +kernel
theorem dX9_alone_82 : decode cX9_alone 82 = .ok (.lload 7, 2) := by decide +kernel
theorem dX9_alone_84 : decode cX9_alone 84 = .ok (.iload 6, 2) := by decide +kernel
theorem dX9_alone_86 : decode cX9_alone 86 = .ok (.i2l, 1) := by decide +kernel
theorem dX9_alone_87 : decode cX9_alone 87 = .ok (.lmul, 1) := by decide +kernel
theorem dX9_alone_88 : decode cX9_alone 88 = .ok (.lstore 7, 2) := by decide +kernel
theorem dX9_alone_90 : decode cX9_alone 90 = .ok (.iinc 9 1, 3) := by decide +kernel
theorem dX9_alone_93 : decode cX9_alone 93 = .ok (.goto (-17), 3) := by decide +kernel
theorem dX9_alone_96 : decode cX9_alone 96 = .ok (.lload 7, 2) := by decide +kernel
theorem dX9_alone_98 : decode cX9_alone 98 = .ok (.lreturn, 1) := by decide +kernel
theorem dX9_learn_0 : decode cX9_learn 0 = .ok (.iload_n 1, 1) := by decide +kernel
theorem dX9_learn_1 : decode cX9_learn 1 = .ok (.invokestatic 134, 3) := by decide +kernel
theorem dX9_learn_4 : decode cX9_learn 4 = .ok (.ifCond .eq 14, 3) := by decide +kernel
theorem dX9_learn_7 : decode cX9_learn 7 = .ok (.iload_n 2, 1) := by decide +kernel
theorem dX9_learn_8 : decode cX9_learn 8 = .ok (.iconst 1, 1) := by decide +kernel
theorem dX9_learn_9 : decode cX9_learn 9 = .ok (.if_icmp .lt 9, 3) := by decide +kernel
theorem dX9_learn_12 : decode cX9_learn 12 = .ok (.iload_n 2, 1) := by decide +kernel
theorem dX9_learn_13 : decode cX9_learn 13 = .ok (.bipush 99, 2) := by decide +kernel
theorem dX9_learn_15 : decode cX9_learn 15 = .ok (.if_icmp .le 5, 3) := by decide +kernel
theorem dX9_learn_18 : decode cX9_learn 18 = .ok (.iconst (-1), 1) := by decide +kernel
theorem dX9_learn_19 : decode cX9_learn 19 = .ok (.ireturn, 1) := by decide +kernel
theorem dX9_learn_20 : decode cX9_learn 20 = .ok (.iconst 0, 1) := by decide +kernel
theorem dX9_learn_21 : decode cX9_learn 21 = .ok (.istore_n 3, 1) := by decide +kernel
theorem dX9_learn_22 : decode cX9_learn 22 = .ok (.iload_n 3, 1) := by decide +kernel
theorem dX9_learn_23 : decode cX9_learn 23 = .ok (.iload_n 2, 1) := by decide +kernel
theorem dX9_learn_24 : decode cX9_learn 24 = .ok (.if_icmp .ge 17, 3) := by decide +kernel
theorem dX9_learn_27 : decode cX9_learn 27 = .ok (.aload_n 0, 1) := by decide +kernel
theorem dX9_learn_28 : decode cX9_learn 28 = .ok (.getfield 47, 3) := by decide +kernel
theorem dX9_learn_31 : decode cX9_learn 31 = .ok (.iload_n 1, 1) := by decide +kernel
theorem dX9_learn_32 : decode cX9_learn 32 = .ok (.invokevirtual 294, 3) := by decide +kernel
theorem dX9_learn_35 : decode cX9_learn 35 = .ok (.iinc 3 1, 3) := by decide +kernel
theorem dX9_learn_38 : decode cX9_learn 38 = .ok (.goto (-16), 3) := by decide +kernel
theorem dX9_learn_41 : decode cX9_learn 41 = .ok (.aload_n 0, 1) := by decide +kernel
theorem dX9_learn_42 : decode cX9_learn 42 = .ok (.getfield 47, 3) := by decide +kernel
theorem dX9_learn_45 : decode cX9_learn 45 = .ok (.getfield 137, 3) := by decide +kernel
theorem dX9_learn_48 : decode cX9_learn 48 = .ok (.iload_n 1, 1) := by decide +kernel
theorem dX9_learn_49 : decode cX9_learn 49 = .ok (.iaload, 1) := by decide +kernel
theorem dX9_learn_50 : decode cX9_learn 50 = .ok (.ireturn, 1) := by decide +kernel
theorem dX9_till_0 : decode cX9_till 0 = .ok (.iload_n 1, 1) := by decide +kernel
theorem dX9_till_1 : decode cX9_till 1 = .ok (.invokestatic 134, 3) := by decide +kernel
theorem dX9_till_4 : decode cX9_till 4 = .ok (.ifCond .eq 10, 3) := by decide +kernel
theorem dX9_till_7 : decode cX9_till 7 = .ok (.iload_n 2, 1) := by decide +kernel
theorem dX9_till_8 : decode cX9_till 8 = .ok (.invokestatic 255, 3) := by decide +kernel
theorem dX9_till_11 : decode cX9_till 11 = .ok (.ifCond .ne 5, 3) := by decide +kernel
theorem dX9_till_14 : decode cX9_till 14 = .ok (.iconst (-1), 1) := by decide +kernel
theorem dX9_till_15 : decode cX9_till 15 = .ok (.ireturn, 1) := by decide +kernel
theorem dX9_till_16 : decode cX9_till 16 = .ok (.aload_n 0, 1) := by decide +kernel
theorem dX9_till_17 : decode cX9_till 17 = .ok (.getfield 47, 3) := by decide +kernel
theorem dX9_till_20 : decode cX9_till 20 = .ok (.getfield 137, 3) := by decide +kernel
theorem dX9_till_23 : decode cX9_till 23 = .ok (.iload_n 1, 1) := by decide +kernel
theorem dX9_till_24 : decode cX9_till 24 = .ok (.iaload, 1) := by decide +kernel
theorem dX9_till_25 : decode cX9_till 25 = .ok (.iload_n 2, 1) := by decide +kernel
theorem dX9_till_26 : decode cX9_till 26 = .ok (.if_icmp .lt 5, 3) := by decide +kernel
theorem dX9_till_29 : decode cX9_till 29 = .ok (.iconst 0, 1) := by decide +kernel
theorem dX9_till_30 : decode cX9_till 30 = .ok (.ireturn, 1) := by decide +kernel
theorem dX9_till_31 : decode cX9_till 31 = .ok (.aload_n 0, 1) := by decide +kernel
theorem dX9_till_32 : decode cX9_till 32 = .ok (.getfield 47, 3) := by decide +kernel
theorem dX9_till_35 : decode cX9_till 35 = .ok (.getfield 141, 3) := by decide +kernel
theorem dX9_till_38 : decode cX9_till 38 = .ok (.iload_n 1, 1) := by decide +kernel
theorem dX9_till_39 : decode cX9_till 39 = .ok (.iaload, 1) := by decide +kernel
theorem dX9_till_40 : decode cX9_till 40 = .ok (.ineg, 1) := by decide +kernel
theorem dX9_till_41 : decode cX9_till 41 = .ok (.istore_n 3, 1) := by decide +kernel
theorem dX9_till_42 : decode cX9_till 42 = .ok (.aload_n 0, 1) := by decide +kernel
theorem dX9_till_43 : decode cX9_till 43 = .ok (.getfield 47, 3) := by decide +kernel
theorem dX9_till_46 : decode cX9_till 46 = .ok (.getfield 137, 3) := by decide +kernel
theorem dX9_till_49 : decode cX9_till 49 = .ok (.iload_n 1, 1) := by decide +kernel
theorem dX9_till_50 : decode cX9_till 50 = .ok (.iaload, 1) := by decide +kernel
theorem dX9_till_51 : decode cX9_till 51 = .ok (.istore 4, 2) := by decide +kernel
theorem dX9_till_53 : decode cX9_till 53 = .ok (.iload 4, 2) := by decide +kernel
theorem dX9_till_55 : decode cX9_till 55 = .ok (.iload_n 2, 1) := by decide +kernel
theorem dX9_till_56 : decode cX9_till 56 = .ok (.if_icmp .ge 17, 3) := by decide +kernel
theorem dX9_till_59 : decode cX9_till 59 = .ok (.iload_n 3, 1) := by decide +kernel
theorem dX9_till_60 : decode cX9_till 60 = .ok (.iload 4, 2) := by decide +kernel
theorem dX9_till_62 : decode cX9_till 62 = .ok (.invokestatic 297, 3) := by decide +kernel
theorem dX9_till_65 : decode cX9_till 65 = .ok (.iadd, 1) := by decide +kernel
theorem dX9_till_66 : decode cX9_till 66 = .ok (.istore_n 3, 1) := by decide +kernel
theorem dX9_till_67 : decode cX9_till 67 = .ok (.iinc 4 1, 3) := by decide +kernel
theorem dX9_till_70 : decode cX9_till 70 = .ok (.goto (-17), 3) := by decide +kernel
theorem dX9_till_73 : decode cX9_till 73 = .ok (.iload_n 3, 1) := by decide +kernel
theorem dX9_till_74 : decode cX9_till 74 = .ok (.ireturn, 1) := by decide +kernel
theorem dX9_image_0 : decode cX9_image 0 = .ok (.aload_n 0, 1) := by decide +kernel
theorem dX9_image_1 : decode cX9_image 1 = .ok (.getfield 32, 3) := by decide +kernel
theorem dX9_image_4 : decode cX9_image 4 = .ok (.aload_n 0, 1) := by decide +kernel
theorem dX9_image_5 : decode cX9_image 5 = .ok (.getfield 28, 3) := by decide +kernel
theorem dX9_image_8 : decode cX9_image 8 = .ok (.invokevirtual 300, 3) := by decide +kernel
theorem dX9_image_11 : decode cX9_image 11 = .ok (.aload_n 0, 1) := by decide +kernel
theorem dX9_image_12 : decode cX9_image 12 = .ok (.iconst 1, 1) := by decide +kernel
theorem dX9_image_13 : decode cX9_image 13 = .ok (.putfield 72, 3) := by decide +kernel
theorem dX9_image_16 : decode cX9_image 16 = .ok (.aload_n 0, 1) := by decide +kernel
theorem dX9_image_17 : decode cX9_image 17 = .ok (.getfield 28, 3) := by decide +kernel
theorem dX9_image_20 : decode cX9_image 20 = .ok (.getfield 303, 3) := by decide +kernel
theorem dX9_image_23 : decode cX9_image 23 = .ok (.ireturn, 1) := by decide +kernel
theorem dX9_back_0 : decode cX9_back 0 = .ok (.aload_n 0, 1) := by decide +kernel
theorem dX9_back_1 : decode cX9_back 1 = .ok (.getfield 72, 3) := by decide +kernel
theorem dX9_back_4 : decode cX9_back 4 = .ok (.ifCond .ne 6, 3) := by decide +kernel
theorem dX9_back_7 : decode cX9_back 7 = .ok (.bipush (-5), 2) := by decide +kernel
theorem dX9_back_9 : decode cX9_back 9 = .ok (.ireturn, 1) := by decide +kernel
theorem dX9_back_10 : decode cX9_back 10 = .ok (.aload_n 0, 1) := by decide +kernel
theorem dX9_back_11 : decode cX9_back 11 = .ok (.getfield 28, 3) := by decide +kernel
theorem dX9_back_14 : decode cX9_back 14 = .ok (.aload_n 0, 1) := by decide +kernel
theorem dX9_back_15 : decode cX9_back 15 = .ok (.getfield 32, 3) := by decide +kernel
theorem dX9_back_18 : decode cX9_back 18 = .ok (.invokevirtual 306, 3) := by decide +kernel
theorem dX9_back_21 : decode cX9_back 21 = .ok (.aload_n 0, 1) := by decide +kernel
theorem dX9_back_22 : decode cX9_back 22 = .ok (.getfield 28, 3) := by decide +kernel
theorem dX9_back_25 : decode cX9_back 25 = .ok (.getfield 303, 3) := by decide +kernel
theorem dX9_back_28 : decode cX9_back 28 = .ok (.ireturn, 1) := by decide +kernel
theorem dX9_undo_0 : decode cX9_undo 0 = .ok (.aload_n 0, 1) := by decide +kernel
theorem dX9_undo_1 : decode cX9_undo 1 = .ok (.getfield 54, 3) := by decide +kernel
theorem dX9_undo_4 : decode cX9_undo 4 = .ok (.getfield 309, 3) := by decide +kernel
theorem dX9_undo_7 : decode cX9_undo 7 = .ok (.ifCond .ne 6, 3) := by decide +kernel
theorem dX9_undo_10 : decode cX9_undo 10 = .ok (.bipush (-5), 2) := by decide +kernel
theorem dX9_undo_12 : decode cX9_undo 12 = .ok (.ireturn, 1) := by decide +kernel
theorem dX9_undo_13 : decode cX9_undo 13 = .ok (.aload_n 0, 1) := by decide +kernel
theorem dX9_undo_14 : decode cX9_undo 14 = .ok (.getfield 54, 3) := by decide +kernel
theorem dX9_undo_17 : decode cX9_undo 17 = .ok (.dup, 1) := by decide +kernel
theorem dX9_undo_18 : decode cX9_undo 18 = .ok (.getfield 309, 3) := by decide +kernel
theorem dX9_undo_21 : decode cX9_undo 21 = .ok (.iconst 1, 1) := by decide +kernel
theorem dX9_undo_22 : decode cX9_undo 22 = .ok (.isub, 1) := by decide +kernel
theorem dX9_undo_23 : decode cX9_undo 23 = .ok (.putfield 309, 3) := by decide +kernel
theorem dX9_undo_26 : decode cX9_undo 26 = .ok (.aload_n 0, 1) := by decide +kernel
theorem dX9_undo_27 : decode cX9_undo 27 = .ok (.getfield 54, 3) := by decide +kernel
theorem dX9_undo_30 : decode cX9_undo 30 = .ok (.getfield 309, 3) := by decide +kernel
theorem dX9_undo_33 : decode cX9_undo 33 = .ok (.istore_n 1, 1) := by decide +kernel
theorem dX9_undo_34 : decode cX9_undo 34 = .ok (.aload_n 0, 1) := by decide +kernel
theorem dX9_undo_35 : decode cX9_undo 35 = .ok (.aload_n 0, 1) := by decide +kernel
theorem dX9_undo_36 : decode cX9_undo 36 = .ok (.getfield 54, 3) := by decide +kernel
theorem dX9_undo_39 : decode cX9_undo 39 = .ok (.getfield 312, 3) := by decide +kernel
theorem dX9_undo_42 : decode cX9_undo 42 = .ok (.iload_n 1, 1) := by decide +kernel
theorem dX9_undo_43 : decode cX9_undo 43 = .ok (.iaload, 1) := by decide +kernel
theorem dX9_undo_44 : decode cX9_undo 44 = .ok (.aload_n 0, 1) := by decide +kernel
theorem dX9_undo_45 : decode cX9_undo 45 = .ok (.getfield 54, 3) := by decide +kernel
theorem dX9_undo_48 : decode cX9_undo 48 = .ok (.getfield 315, 3) := by decide +kernel
theorem dX9_undo_51 : decode cX9_undo 51 = .ok (.iload_n 1, 1) := by decide +kernel
theorem dX9_undo_52 : decode cX9_undo 52 = .ok (.iaload, 1) := by decide +kernel
theorem dX9_undo_53 : decode cX9_undo 53 = .ok (.aload_n 0, 1) := by decide +kernel
theorem dX9_undo_54 : decode cX9_undo 54 = .ok (.getfield 54, 3) := by decide +kernel
theorem dX9_undo_57 : decode cX9_undo 57 = .ok (.getfield 318, 3) := by decide +kernel
theorem dX9_undo_60 : decode cX9_undo 60 = .ok (.iload_n 1, 1) := by decide +kernel
theorem dX9_undo_61 : decode cX9_undo 61 = .ok (.iaload, 1) := by decide +kernel
theorem dX9_undo_62 : decode cX9_undo 62 = .ok (.invokevirtual 110, 3) := by decide +kernel
theorem dX9_undo_65 : decode cX9_undo 65 = .ok (.aload_n 0, 1) := by decide +kernel
theorem dX9_undo_66 : decode cX9_undo 66 = .ok (.getfield 54, 3) := by decide +kernel
theorem dX9_undo_69 : decode cX9_undo 69 = .ok (.getfield 309, 3) := by decide +kernel
theorem dX9_undo_72 : decode cX9_undo 72 = .ok (.ireturn, 1) := by decide +kernel
theorem dX9_redo_0 : decode cX9_redo 0 = .ok (.aload_n 0, 1) := by decide +kernel
theorem dX9_redo_1 : decode cX9_redo 1 = .ok (.getfield 54, 3) := by decide +kernel
theorem dX9_redo_4 : decode cX9_redo 4 = .ok (.getfield 309, 3) := by decide +kernel
theorem dX9_redo_7 : decode cX9_redo 7 = .ok (.aload_n 0, 1) := by decide +kernel
theorem dX9_redo_8 : decode cX9_redo 8 = .ok (.getfield 54, 3) := by decide +kernel
theorem dX9_redo_11 : decode cX9_redo 11 = .ok (.getfield 321, 3) := by decide +kernel
theorem dX9_redo_14 : decode cX9_redo 14 = .ok (.if_icmp .ne 6, 3) := by decide +kernel
theorem dX9_redo_17 : decode cX9_redo 17 = .ok (.bipush (-5), 2) := by decide +kernel
theorem dX9_redo_19 : decode cX9_redo 19 = .ok (.ireturn, 1) := by decide +kernel
theorem dX9_redo_20 : decode cX9_redo 20 = .ok (.aload_n 0, 1) := by decide +kernel
theorem dX9_redo_21 : decode cX9_redo 21 = .ok (.getfield 54, 3) := by decide +kernel
theorem dX9_redo_24 : decode cX9_redo 24 = .ok (.getfield 309, 3) := by decide +kernel
theorem dX9_redo_27 : decode cX9_redo 27 = .ok (.istore_n 1, 1) := by decide +kernel
theorem dX9_redo_28 : decode cX9_redo 28 = .ok (.aload_n 0, 1) := by decide +kernel
theorem dX9_redo_29 : decode cX9_redo 29 = .ok (.getfield 54, 3) := by decide +kernel
theorem dX9_redo_32 : decode cX9_redo 32 = .ok (.dup, 1) := by decide +kernel
theorem dX9_redo_33 : decode cX9_redo 33 = .ok (.getfield 309, 3) := by decide +kernel
theorem dX9_redo_36 : decode cX9_redo 36 = .ok (.iconst 1, 1) := by decide +kernel
theorem dX9_redo_37 : decode cX9_redo 37 = .ok (.iadd, 1) := by decide +kernel
theorem dX9_redo_38 : decode cX9_redo 38 = .ok (.putfield 309, 3) := by decide +kernel
theorem dX9_redo_41 : decode cX9_redo 41 = .ok (.aload_n 0, 1) := by decide +kernel
theorem dX9_redo_42 : decode cX9_redo 42 = .ok (.aload_n 0, 1) := by decide +kernel
theorem dX9_redo_43 : decode cX9_redo 43 = .ok (.getfield 54, 3) := by decide +kernel
theorem dX9_redo_46 : decode cX9_redo 46 = .ok (.getfield 312, 3) := by decide +kernel
theorem dX9_redo_49 : decode cX9_redo 49 = .ok (.iload_n 1, 1) := by decide +kernel
theorem dX9_redo_50 : decode cX9_redo 50 = .ok (.iaload, 1) := by decide +kernel
theorem dX9_redo_51 : decode cX9_redo 51 = .ok (.aload_n 0, 1) := by decide +kernel
theorem dX9_redo_52 : decode cX9_redo 52 = .ok (.getfield 54, 3) := by decide +kernel
theorem dX9_redo_55 : decode cX9_redo 55 = .ok (.getfield 315, 3) := by decide +kernel
theorem dX9_redo_58 : decode cX9_redo 58 = .ok (.iload_n 1, 1) := by decide +kernel
theorem dX9_redo_59 : decode cX9_redo 59 = .ok (.iaload, 1) := by decide +kernel
theorem dX9_redo_60 : decode cX9_redo 60 = .ok (.aload_n 0, 1) := by decide +kernel
theorem dX9_redo_61 : decode cX9_redo 61 = .ok (.getfield 54, 3) := by decide +kernel
theorem dX9_redo_64 : decode cX9_redo 64 = .ok (.getfield 324, 3) := by decide +kernel
theorem dX9_redo_67 : decode cX9_redo 67 = .ok (.iload_n 1, 1) := by decide +kernel
theorem dX9_redo_68 : decode cX9_redo 68 = .ok (.iaload, 1) := by decide +kernel
theorem dX9_redo_69 : decode cX9_redo 69 = .ok (.invokevirtual 110, 3) := by decide +kernel
theorem dX9_redo_72 : decode cX9_redo 72 = .ok (.aload_n 0, 1) := by decide +kernel
theorem dX9_redo_73 : decode cX9_redo 73 = .ok (.getfield 54, 3) := by decide +kernel
theorem dX9_redo_76 : decode cX9_redo 76 = .ok (.getfield 321, 3) := by decide +kernel
theorem dX9_redo_79 : decode cX9_redo 79 = .ok (.aload_n 0, 1) := by decide +kernel
theorem dX9_redo_80 : decode cX9_redo 80 = .ok (.getfield 54, 3) := by decide +kernel
theorem dX9_redo_83 : decode cX9_redo 83 = .ok (.getfield 309, 3) := by decide +kernel
theorem dX9_redo_86 : decode cX9_redo 86 = .ok (.isub, 1) := by decide +kernel
theorem dX9_redo_87 : decode cX9_redo 87 = .ok (.ireturn, 1) := by decide +kernel
theorem dX9_body_0 : decode cX9_body 0 = .ok (.iload_n 1, 1) := by decide +kernel
theorem dX9_body_1 : decode cX9_body 1 = .ok (.invokestatic 327, 3) := by decide +kernel
theorem dX9_body_4 : decode cX9_body 4 = .ok (.ifCond .ne 5, 3) := by decide +kernel
theorem dX9_body_7 : decode cX9_body 7 = .ok (.iconst (-1), 1) := by decide +kernel
theorem dX9_body_8 : decode cX9_body 8 = .ok (.ireturn, 1) := by decide +kernel
theorem dX9_body_9 : decode cX9_body 9 = .ok (.aload_n 0, 1) := by decide +kernel
theorem dX9_body_10 : decode cX9_body 10 = .ok (.getfield 61, 3) := by decide +kernel
theorem dX9_body_13 : decode cX9_body 13 = .ok (.invokevirtual 330, 3) := by decide +kernel
theorem dX9_body_16 : decode cX9_body 16 = .ok (.ifCond .eq 8, 3) := by decide +kernel
theorem dX9_body_19 : decode cX9_body 19 = .ok (.bipush (-3), 2) := by decide +kernel
theorem dX9_body_21 : decode cX9_body 21 = .ok (.goto 11, 3) := by decide +kernel
theorem dX9_body_24 : decode cX9_body 24 = .ok (.aload_n 0, 1) := by decide +kernel
theorem dX9_body_25 : decode cX9_body 25 = .ok (.getfield 61, 3) := by decide +kernel
theorem dX9_body_28 : decode cX9_body 28 = .ok (.iload_n 1, 1) := by decide +kernel
theorem dX9_body_29 : decode cX9_body 29 = .ok (.invokevirtual 331, 3) := by decide +kernel
theorem dX9_body_32 : decode cX9_body 32 = .ok (.ireturn, 1) := by decide +kernel
theorem dX9_act_0 : decode cX9_act 0 = .ok (.aload_n 0, 1) := by decide +kernel
theorem dX9_act_1 : decode cX9_act 1 = .ok (.getfield 61, 3) := by decide +kernel
theorem dX9_act_4 : decode cX9_act 4 = .ok (.iconst 0, 1) := by decide +kernel
theorem dX9_act_5 : decode cX9_act 5 = .ok (.putfield 334, 3) := by decide +kernel
theorem dX9_act_8 : decode cX9_act 8 = .ok (.aload_n 0, 1) := by decide +kernel
theorem dX9_act_9 : decode cX9_act 9 = .ok (.getfield 61, 3) := by decide +kernel
theorem dX9_act_12 : decode cX9_act 12 = .ok (.iload_n 1, 1) := by decide +kernel
theorem dX9_act_13 : decode cX9_act 13 = .ok (.invokevirtual 337, 3) := by decide +kernel
theorem dX9_act_16 : decode cX9_act 16 = .ok (.ifCond .eq 12, 3) := by decide +kernel
theorem dX9_act_19 : decode cX9_act 19 = .ok (.iload_n 2, 1) := by decide +kernel
theorem dX9_act_20 : decode cX9_act 20 = .ok (.ifCond .lt 8, 3) := by decide +kernel
theorem dX9_act_23 : decode cX9_act 23 = .ok (.iload_n 2, 1) := by decide +kernel
theorem dX9_act_24 : decode cX9_act 24 = .ok (.iconst 4, 1) := by decide +kernel
theorem dX9_act_25 : decode cX9_act 25 = .ok (.if_icmp .lt 5, 3) := by decide +kernel
theorem dX9_act_28 : decode cX9_act 28 = .ok (.iconst 0, 1) := by decide +kernel
theorem dX9_act_29 : decode cX9_act 29 = .ok (.ireturn, 1) := by decide +kernel
theorem dX9_act_30 : decode cX9_act 30 = .ok (.aload_n 0, 1) := by decide +kernel
theorem dX9_act_31 : decode cX9_act 31 = .ok (.getfield 61, 3) := by decide +kernel
theorem dX9_act_34 : decode cX9_act 34 = .ok (.iload_n 1, 1) := by decide +kernel
theorem dX9_act_35 : decode cX9_act 35 = .ok (.iload_n 2, 1) := by decide +kernel
theorem dX9_act_36 : decode cX9_act 36 = .ok (.iload_n 3, 1) := by decide +kernel
theorem dX9_act_37 : decode cX9_act 37 = .ok (.invokevirtual 338, 3) := by decide +kernel
theorem dX9_act_40 : decode cX9_act 40 = .ok (.ireturn, 1) := by decide +kernel
theorem dX9_trace_0 : decode cX9_trace 0 = .ok (.iload_n 1, 1) := by decide +kernel
theorem dX9_trace_1 : decode cX9_trace 1 = .ok (.ifCond .lt 20, 3) := by decide +kernel
theorem dX9_trace_4 : decode cX9_trace 4 = .ok (.iload_n 1, 1) := by decide +kernel
theorem dX9_trace_5 : decode cX9_trace 5 = .ok (.aload_n 0, 1) := by decide +kernel
theorem dX9_trace_6 : decode cX9_trace 6 = .ok (.getfield 61, 3) := by decide +kernel
theorem dX9_trace_9 : decode cX9_trace 9 = .ok (.getfield 334, 3) := by decide +kernel
theorem dX9_trace_12 : decode cX9_trace 12 = .ok (.if_icmp .ge 9, 3) := by decide +kernel
theorem dX9_trace_15 : decode cX9_trace 15 = .ok (.iload_n 1, 1) := by decide +kernel
theorem dX9_trace_16 : decode cX9_trace 16 = .ok (.bipush 24, 2) := by decide +kernel
theorem dX9_trace_18 : decode cX9_trace 18 = .ok (.if_icmp .lt 5, 3) := by decide +kernel
theorem dX9_trace_21 : decode cX9_trace 21 = .ok (.iconst (-1), 1) := by decide +kernel
theorem dX9_trace_22 : decode cX9_trace 22 = .ok (.ireturn, 1) := by decide +kernel
theorem dX9_trace_23 : decode cX9_trace 23 = .ok (.aload_n 0, 1) := by decide +kernel
theorem dX9_trace_24 : decode cX9_trace 24 = .ok (.getfield 61, 3) := by decide +kernel
theorem dX9_trace_27 : decode cX9_trace 27 = .ok (.getfield 341, 3) := by decide +kernel
theorem dX9_trace_30 : decode cX9_trace 30 = .ok (.iload_n 1, 1) := by decide +kernel
theorem dX9_trace_31 : decode cX9_trace 31 = .ok (.iaload, 1) := by decide +kernel
theorem dX9_trace_32 : decode cX9_trace 32 = .ok (.ireturn, 1) := by decide +kernel
theorem dX9_keep_0 : decode cX9_keep 0 = .ok (.iload_n 1, 1) := by decide +kernel
theorem dX9_keep_1 : decode cX9_keep 1 = .ok (.invokestatic 88, 3) := by decide +kernel
theorem dX9_keep_4 : decode cX9_keep 4 = .ok (.ifCond .eq 19, 3) := by decide +kernel
theorem dX9_keep_7 : decode cX9_keep 7 = .ok (.iload_n 2, 1) := by decide +kernel
theorem dX9_keep_8 : decode cX9_keep 8 = .ok (.iconst (-1), 1) := by decide +kernel
theorem dX9_keep_9 : decode cX9_keep 9 = .ok (.if_icmp .eq 16, 3) := by decide +kernel
theorem dX9_keep_12 : decode cX9_keep 12 = .ok (.aload_n 0, 1) := by decide +kernel
theorem dX9_keep_13 : decode cX9_keep 13 = .ok (.getfield 61, 3) := by decide +kernel
theorem dX9_keep_16 : decode cX9_keep 16 = .ok (.iload_n 2, 1) := by decide +kernel
theorem dX9_keep_17 : decode cX9_keep 17 = .ok (.invokevirtual 337, 3) := by decide +kernel
theorem dX9_keep_20 : decode cX9_keep 20 = .ok (.ifCond .ne 5, 3) := by decide +kernel
theorem dX9_keep_23 : decode cX9_keep 23 = .ok (.iconst (-1), 1) := by decide +kernel
theorem dX9_keep_24 : decode cX9_keep 24 = .ok (.ireturn, 1) := by decide +kernel
theorem dX9_keep_25 : decode cX9_keep 25 = .ok (.iload_n 2, 1) := by decide +kernel
theorem dX9_keep_26 : decode cX9_keep 26 = .ok (.iconst (-1), 1) := by decide +kernel
theorem dX9_keep_27 : decode cX9_keep 27 = .ok (.if_icmp .ne 15, 3) := by decide +kernel
theorem dX9_keep_30 : decode cX9_keep 30 = .ok (.aload_n 0, 1) := by decide +kernel
theorem dX9_keep_31 : decode cX9_keep 31 = .ok (.getfield 67, 3) := by decide +kernel
theorem dX9_keep_34 : decode cX9_keep 34 = .ok (.iload_n 1, 1) := by decide +kernel
theorem dX9_keep_35 : decode cX9_keep 35 = .ok (.aaload, 1) := by decide +kernel
theorem dX9_keep_36 : decode cX9_keep 36 = .ok (.invokevirtual 344, 3) := by decide +kernel
theorem dX9_keep_39 : decode cX9_keep 39 = .ok (.goto 13, 3) := by decide +kernel
theorem dX9_keep_42 : decode cX9_keep 42 = .ok (.aload_n 0, 1) := by decide +kernel
theorem dX9_keep_43 : decode cX9_keep 43 = .ok (.getfield 67, 3) := by decide +kernel
theorem dX9_keep_46 : decode cX9_keep 46 = .ok (.iload_n 1, 1) := by decide +kernel
theorem dX9_keep_47 : decode cX9_keep 47 = .ok (.aaload, 1) := by decide +kernel
theorem dX9_keep_48 : decode cX9_keep 48 = .ok (.iload_n 2, 1) := by decide +kernel
theorem dX9_keep_49 : decode cX9_keep 49 = .ok (.invokevirtual 347, 3) := by decide +kernel
theorem dX9_keep_52 : decode cX9_keep 52 = .ok (.iconst 1, 1) := by decide +kernel
theorem dX9_keep_53 : decode cX9_keep 53 = .ok (.ireturn, 1) := by decide +kernel
theorem dX9_row_0 : decode cX9_row 0 = .ok (.iload_n 1, 1) := by decide +kernel
theorem dX9_row_1 : decode cX9_row 1 = .ok (.invokestatic 88, 3) := by decide +kernel
theorem dX9_row_4 : decode cX9_row 4 = .ok (.ifCond .eq 16, 3) := by decide +kernel
theorem dX9_row_7 : decode cX9_row 7 = .ok (.iload_n 2, 1) := by decide +kernel
theorem dX9_row_8 : decode cX9_row 8 = .ok (.invokestatic 350, 3) := by decide +kernel
theorem dX9_row_11 : decode cX9_row 11 = .ok (.ifCond .eq 9, 3) := by decide +kernel
theorem dX9_row_14 : decode cX9_row 14 = .ok (.iload_n 3, 1) := by decide +kernel
theorem dX9_row_15 : decode cX9_row 15 = .ok (.bipush 60, 2) := by decide +kernel
theorem dX9_row_17 : decode cX9_row 17 = .ok (.if_icmp .le 5, 3) := by decide +kernel
theorem dX9_row_20 : decode cX9_row 20 = .ok (.iconst (-1), 1) := by decide +kernel
theorem dX9_row_21 : decode cX9_row 21 = .ok (.ireturn, 1) := by decide +kernel
theorem dX9_row_22 : decode cX9_row 22 = .ok (.iload_n 3, 1) := by decide +kernel
theorem dX9_row_23 : decode cX9_row 23 = .ok (.ifCond .ge 6, 3) := by decide +kernel
theorem dX9_row_26 : decode cX9_row 26 = .ok (.bipush (-14), 2) := by decide +kernel
theorem dX9_row_28 : decode cX9_row 28 = .ok (.ireturn, 1) := by decide +kernel
theorem dX9_row_29 : decode cX9_row 29 = .ok (.aload_n 0, 1) := by decide +kernel
theorem dX9_row_30 : decode cX9_row 30 = .ok (.getfield 67, 3) := by decide +kernel
theorem dX9_row_33 : decode cX9_row 33 = .ok (.iload_n 1, 1) := by decide +kernel
theorem dX9_row_34 : decode cX9_row 34 = .ok (.aaload, 1) := by decide +kernel
theorem dX9_row_35 : decode cX9_row 35 = .ok (.iload_n 2, 1) := by decide +kernel
theorem dX9_row_36 : decode cX9_row 36 = .ok (.iload_n 3, 1) := by decide +kernel
theorem dX9_row_37 : decode cX9_row 37 = .ok (.invokevirtual 353, 3) := by decide +kernel
theorem dX9_row_40 : decode cX9_row 40 = .ok (.iconst 1, 1) := by decide +kernel
theorem dX9_row_41 : decode cX9_row 41 = .ok (.ireturn, 1) := by decide +kernel
theorem dX9_put_0 : decode cX9_put 0 = .ok (.iload_n 1, 1) := by decide +kernel
theorem dX9_put_1 : decode cX9_put 1 = .ok (.invokestatic 88, 3) := by decide +kernel
theorem dX9_put_4 : decode cX9_put 4 = .ok (.ifCond .ne 5, 3) := by decide +kernel
theorem dX9_put_7 : decode cX9_put 7 = .ok (.iconst (-1), 1) := by decide +kernel
theorem dX9_put_8 : decode cX9_put 8 = .ok (.ireturn, 1) := by decide +kernel
theorem dX9_put_9 : decode cX9_put 9 = .ok (.aload_n 0, 1) := by decide +kernel
theorem dX9_put_10 : decode cX9_put 10 = .ok (.getfield 67, 3) := by decide +kernel
theorem dX9_put_13 : decode cX9_put 13 = .ok (.iload_n 1, 1) := by decide +kernel
theorem dX9_put_14 : decode cX9_put 14 = .ok (.aaload, 1) := by decide +kernel
theorem dX9_put_15 : decode cX9_put 15 = .ok (.iload_n 2, 1) := by decide +kernel
theorem dX9_put_16 : decode cX9_put 16 = .ok (.invokevirtual 356, 3) := by decide +kernel
theorem dX9_put_19 : decode cX9_put 19 = .ok (.istore 5, 2) := by decide +kernel
theorem dX9_put_21 : decode cX9_put 21 = .ok (.iload 5, 2) := by decide +kernel
theorem dX9_put_23 : decode cX9_put 23 = .ok (.ifCond .eq 6, 3) := by decide +kernel
theorem dX9_put_26 : decode cX9_put 26 = .ok (.iload 5, 2) := by decide +kernel
theorem dX9_put_28 : decode cX9_put 28 = .ok (.ireturn, 1) := by decide +kernel
theorem dX9_put_29 : decode cX9_put 29 = .ok (.aload_n 0, 1) := by decide +kernel
theorem dX9_put_30 : decode cX9_put 30 = .ok (.getfield 67, 3) := by decide +kernel
theorem dX9_put_33 : decode cX9_put 33 = .ok (.iload_n 1, 1) := by decide +kernel
theorem dX9_put_34 : decode cX9_put 34 = .ok (.aaload, 1) := by decide +kernel
theorem dX9_put_35 : decode cX9_put 35 = .ok (.iload_n 2, 1) := by decide +kernel
theorem dX9_put_36 : decode cX9_put 36 = .ok (.lload_n 3, 1) := by decide +kernel
theorem dX9_put_37 : decode cX9_put 37 = .ok (.invokevirtual 359, 3) := by decide +kernel
theorem dX9_put_40 : decode cX9_put 40 = .ok (.iconst 1, 1) := by decide +kernel
theorem dX9_put_41 : decode cX9_put 41 = .ok (.ireturn, 1) := by decide +kernel
theorem dX9_element_0 : decode cX9_element 0 = .ok (.iload_n 1, 1) := by decide +kernel
theorem dX9_element_1 : decode cX9_element 1 = .ok (.invokestatic 88, 3) := by decide +kernel
theorem dX9_element_4 : decode cX9_element 4 = .ok (.ifCond .eq 16, 3) := by decide +kernel
theorem dX9_element_7 : decode cX9_element 7 = .ok (.aload_n 0, 1) := by decide +kernel
theorem dX9_element_8 : decode cX9_element 8 = .ok (.getfield 67, 3) := by decide +kernel
theorem dX9_element_11 : decode cX9_element 11 = .ok (.iload_n 1, 1) := by decide +kernel
theorem dX9_element_12 : decode cX9_element 12 = .ok (.aaload, 1) := by decide +kernel
theorem dX9_element_13 : decode cX9_element 13 = .ok (.iload_n 2, 1) := by decide +kernel
theorem dX9_element_14 : decode cX9_element 14 = .ok (.invokevirtual 356, 3) := by decide +kernel
theorem dX9_element_17 : decode cX9_element 17 = .ok (.ifCond .eq 7, 3) := by decide +kernel
theorem dX9_element_20 : decode cX9_element 20 = .ok (.ldc2_w 286, 3) := by decide +kernel
theorem dX9_element_23 : decode cX9_element 23 = .ok (.lreturn, 1) := by decide +kernel
theorem dX9_element_24 : decode cX9_element 24 = .ok (.aload_n 0, 1) := by decide +kernel
theorem dX9_element_25 : decode cX9_element 25 = .ok (.getfield 67, 3) := by decide +kernel
theorem dX9_element_28 : decode cX9_element 28 = .ok (.iload_n 1, 1) := by decide +kernel
theorem dX9_element_29 : decode cX9_element 29 = .ok (.aaload, 1) := by decide +kernel
theorem dX9_element_30 : decode cX9_element 30 = .ok (.getfield 362, 3) := by decide +kernel
theorem dX9_element_33 : decode cX9_element 33 = .ok (.iload_n 2, 1) := by decide +kernel
theorem dX9_element_34 : decode cX9_element 34 = .ok (.laload, 1) := by decide +kernel
theorem dX9_element_35 : decode cX9_element 35 = .ok (.lreturn, 1) := by decide +kernel
theorem dX9_shift_0 : decode cX9_shift 0 = .ok (.iload_n 1, 1) := by decide +kernel
theorem dX9_shift_1 : decode cX9_shift 1 = .ok (.invokestatic 88, 3) := by decide +kernel
theorem dX9_shift_4 : decode cX9_shift 4 = .ok (.ifCond .eq 10, 3) := by decide +kernel
theorem dX9_shift_7 : decode cX9_shift 7 = .ok (.iload_n 3, 1) := by decide +kernel
theorem dX9_shift_8 : decode cX9_shift 8 = .ok (.invokestatic 88, 3) := by decide +kernel
theorem dX9_shift_11 : decode cX9_shift 11 = .ok (.ifCond .ne 5, 3) := by decide +kernel
theorem dX9_shift_14 : decode cX9_shift 14 = .ok (.iconst (-1), 1) := by decide +kernel
theorem dX9_shift_15 : decode cX9_shift 15 = .ok (.ireturn, 1) := by decide +kernel
theorem dX9_shift_16 : decode cX9_shift 16 = .ok (.aload_n 0, 1) := by decide +kernel
theorem dX9_shift_17 : decode cX9_shift 17 = .ok (.getfield 67, 3) := by decide +kernel
theorem dX9_shift_20 : decode cX9_shift 20 = .ok (.iload_n 1, 1) := by decide +kernel
theorem dX9_shift_21 : decode cX9_shift 21 = .ok (.aaload, 1) := by decide +kernel
theorem dX9_shift_22 : decode cX9_shift 22 = .ok (.astore 6, 2) := by decide +kernel
theorem dX9_shift_24 : decode cX9_shift 24 = .ok (.aload_n 0, 1) := by decide +kernel
theorem dX9_shift_25 : decode cX9_shift 25 = .ok (.getfield 67, 3) := by decide +kernel
theorem dX9_shift_28 : decode cX9_shift 28 = .ok (.iload_n 3, 1) := by decide +kernel
theorem dX9_shift_29 : decode cX9_shift 29 = .ok (.aaload, 1) := by decide +kernel
theorem dX9_shift_30 : decode cX9_shift 30 = .ok (.astore 7, 2) := by decide +kernel
theorem dX9_shift_32 : decode cX9_shift 32 = .ok (.aload 6, 2) := by decide +kernel
theorem dX9_shift_34 : decode cX9_shift 34 = .ok (.invokevirtual 91, 3) := by decide +kernel
theorem dX9_shift_37 : decode cX9_shift 37 = .ok (.ifCond .ne 11, 3) := by decide +kernel
theorem dX9_shift_40 : decode cX9_shift 40 = .ok (.aload 7, 2) := by decide +kernel
theorem dX9_shift_42 : decode cX9_shift 42 = .ok (.invokevirtual 91, 3) := by decide +kernel
theorem dX9_shift_45 : decode cX9_shift 45 = .ok (.ifCond .eq 6, 3) := by decide +kernel
theorem dX9_shift_48 : decode cX9_shift 48 = .ok (.bipush (-11), 2) := by decide +kernel
theorem dX9_shift_50 : decode cX9_shift 50 = .ok (.ireturn, 1) := by decide +kernel
theorem dX9_shift_51 : decode cX9_shift 51 = .ok (.aload 6, 2) := by decide +kernel
theorem dX9_shift_53 : decode cX9_shift 53 = .ok (.invokevirtual 366, 3) := by decide +kernel
theorem dX9_shift_56 : decode cX9_shift 56 = .ok (.ifCond .eq 24, 3) := by decide +kernel
theorem dX9_shift_59 : decode cX9_shift 59 = .ok (.aload 7, 2) := by decide +kernel
theorem dX9_shift_61 : decode cX9_shift 61 = .ok (.invokevirtual 366, 3) := by decide +kernel
theorem dX9_shift_64 : decode cX9_shift 64 = .ok (.ifCond .eq 16, 3) := by decide +kernel
theorem dX9_shift_67 : decode cX9_shift 67 = .ok (.aload 6, 2) := by decide +kernel
theorem dX9_shift_69 : decode cX9_shift 69 = .ok (.getfield 369, 3) := by decide +kernel
theorem dX9_shift_72 : decode cX9_shift 72 = .ok (.aload 7, 2) := by decide +kernel
theorem dX9_shift_74 : decode cX9_shift 74 = .ok (.getfield 369, 3) := by decide +kernel
theorem dX9_shift_77 : decode cX9_shift 77 = .ok (.if_icmp .eq 6, 3) := by decide +kernel
theorem dX9_shift_80 : decode cX9_shift 80 = .ok (.bipush (-12), 2) := by decide +kernel
theorem dX9_shift_82 : decode cX9_shift 82 = .ok (.ireturn, 1) := by decide +kernel
theorem dX9_shift_83 : decode cX9_shift 83 = .ok (.aload 6, 2) := by decide +kernel
theorem dX9_shift_85 : decode cX9_shift 85 = .ok (.iload_n 2, 1) := by decide +kernel
theorem dX9_shift_86 : decode cX9_shift 86 = .ok (.iload 5, 2) := by decide +kernel
theorem dX9_shift_88 : decode cX9_shift 88 = .ok (.invokevirtual 372, 3) := by decide +kernel
theorem dX9_shift_91 : decode cX9_shift 91 = .ok (.ifCond .eq 15, 3) := by decide +kernel
theorem dX9_shift_94 : decode cX9_shift 94 = .ok (.aload 7, 2) := by decide +kernel
theorem dX9_shift_96 : decode cX9_shift 96 = .ok (.iload 4, 2) := by decide +kernel
theorem dX9_shift_98 : decode cX9_shift 98 = .ok (.iload 5, 2) := by decide +kernel
theorem dX9_shift_100 : decode cX9_shift 100 = .ok (.invokevirtual 372, 3) := by decide +kernel
theorem dX9_shift_103 : decode cX9_shift 103 = .ok (.ifCond .ne 6, 3) := by decide +kernel
theorem dX9_shift_106 : decode cX9_shift 106 = .ok (.bipush (-13), 2) := by decide +kernel
theorem dX9_shift_108 : decode cX9_shift 108 = .ok (.ireturn, 1) := by decide +kernel
theorem dX9_shift_109 : decode cX9_shift 109 = .ok (.aload 6, 2) := by decide +kernel
theorem dX9_shift_111 : decode cX9_shift 111 = .ok (.getfield 362, 3) := by decide +kernel
theorem dX9_shift_114 : decode cX9_shift 114 = .ok (.iload_n 2, 1) := by decide +kernel
theorem dX9_shift_115 : decode cX9_shift 115 = .ok (.aload 7, 2) := by decide +kernel
theorem dX9_shift_117 : decode cX9_shift 117 = .ok (.getfield 362, 3) := by decide +kernel
theorem dX9_shift_120 : decode cX9_shift 120 = .ok (.iload 4, 2) := by decide +kernel
theorem dX9_shift_122 : decode cX9_shift 122 = .ok (.iload 5, 2) := by decide +kernel
theorem dX9_shift_124 : decode cX9_shift 124 = .ok (.invokestatic 375, 3) := by decide +kernel
theorem dX9_shift_127 : decode cX9_shift 127 = .ok (.iload 5, 2) := by decide +kernel
theorem dX9_shift_129 : decode cX9_shift 129 = .ok (.ireturn, 1) := by decide +kernel
theorem dX9_taken_0 : decode cX9_taken 0 = .ok (.iload_n 1, 1) := by decide +kernel
theorem dX9_taken_1 : decode cX9_taken 1 = .ok (.invokestatic 88, 3) := by decide +kernel
theorem dX9_taken_4 : decode cX9_taken 4 = .ok (.ifCond .eq 10, 3) := by decide +kernel
theorem dX9_taken_7 : decode cX9_taken 7 = .ok (.iload_n 2, 1) := by decide +kernel
theorem dX9_taken_8 : decode cX9_taken 8 = .ok (.invokestatic 327, 3) := by decide +kernel
theorem dX9_taken_11 : decode cX9_taken 11 = .ok (.ifCond .ne 5, 3) := by decide +kernel
theorem dX9_taken_14 : decode cX9_taken 14 = .ok (.iconst (-1), 1) := by decide +kernel
theorem dX9_taken_15 : decode cX9_taken 15 = .ok (.ireturn, 1) := by decide +kernel
theorem dX9_taken_16 : decode cX9_taken 16 = .ok (.aload_n 0, 1) := by decide +kernel
theorem dX9_taken_17 : decode cX9_taken 17 = .ok (.getfield 67, 3) := by decide +kernel
theorem dX9_taken_20 : decode cX9_taken 20 = .ok (.iload_n 1, 1) := by decide +kernel
theorem dX9_taken_21 : decode cX9_taken 21 = .ok (.aaload, 1) := by decide +kernel
theorem dX9_taken_22 : decode cX9_taken 22 = .ok (.astore_n 3, 1) := by decide +kernel
theorem dX9_taken_23 : decode cX9_taken 23 = .ok (.aload_n 3, 1) := by decide +kernel
theorem dX9_taken_24 : decode cX9_taken 24 = .ok (.invokevirtual 91, 3) := by decide +kernel
theorem dX9_taken_27 : decode cX9_taken 27 = .ok (.ifCond .eq 6, 3) := by decide +kernel
theorem dX9_taken_30 : decode cX9_taken 30 = .ok (.bipush (-11), 2) := by decide +kernel
theorem dX9_taken_32 : decode cX9_taken 32 = .ok (.ireturn, 1) := by decide +kernel
theorem dX9_taken_33 : decode cX9_taken 33 = .ok (.aload_n 3, 1) := by decide +kernel
theorem dX9_taken_34 : decode cX9_taken 34 = .ok (.invokevirtual 381, 3) := by decide +kernel
theorem dX9_taken_37 : decode cX9_taken 37 = .ok (.ifCond .eq 17, 3) := by decide +kernel
theorem dX9_taken_40 : decode cX9_taken 40 = .ok (.aload_n 0, 1) := by decide +kernel
theorem dX9_taken_41 : decode cX9_taken 41 = .ok (.getfield 61, 3) := by decide +kernel
theorem dX9_taken_44 : decode cX9_taken 44 = .ok (.aload_n 3, 1) := by decide +kernel
theorem dX9_taken_45 : decode cX9_taken 45 = .ok (.getfield 384, 3) := by decide +kernel
theorem dX9_taken_48 : decode cX9_taken 48 = .ok (.invokevirtual 337, 3) := by decide +kernel
theorem dX9_taken_51 : decode cX9_taken 51 = .ok (.ifCond .ne 6, 3) := by decide +kernel
theorem dX9_taken_54 : decode cX9_taken 54 = .ok (.bipush (-12), 2) := by decide +kernel
theorem dX9_taken_56 : decode cX9_taken 56 = .ok (.ireturn, 1) := by decide +kernel
theorem dX9_taken_57 : decode cX9_taken 57 = .ok (.aload_n 0, 1) := by decide +kernel
theorem dX9_taken_58 : decode cX9_taken 58 = .ok (.getfield 61, 3) := by decide +kernel
theorem dX9_taken_61 : decode cX9_taken 61 = .ok (.getfield 387, 3) := by decide +kernel
theorem dX9_taken_64 : decode cX9_taken 64 = .ok (.aload_n 3, 1) := by decide +kernel
theorem dX9_taken_65 : decode cX9_taken 65 = .ok (.getfield 384, 3) := by decide +kernel
theorem dX9_taken_68 : decode cX9_taken 68 = .ok (.iaload, 1) := by decide +kernel
theorem dX9_taken_69 : decode cX9_taken 69 = .ok (.istore 4, 2) := by decide +kernel
theorem dX9_taken_71 : decode cX9_taken 71 = .ok (.iload 4, 2) := by decide +kernel
theorem dX9_taken_73 : decode cX9_taken 73 = .ok (.iload_n 2, 1) := by decide +kernel
theorem dX9_taken_74 : decode cX9_taken 74 = .ok (.invokestatic 390, 3) := by decide +kernel
theorem dX9_taken_77 : decode cX9_taken 77 = .ok (.ifCond .eq 8, 3) := by decide +kernel
theorem dX9_taken_80 : decode cX9_taken 80 = .ok (.iload 4, 2) := by decide +kernel
theorem dX9_taken_82 : decode cX9_taken 82 = .ok (.goto 5, 3) := by decide +kernel
theorem dX9_taken_85 : decode cX9_taken 85 = .ok (.bipush (-12), 2) := by decide +kernel
theorem dX9_taken_87 : decode cX9_taken 87 = .ok (.ireturn, 1) := by decide +kernel
theorem dX9_count_0 : decode cX9_count 0 = .ok (.iload_n 1, 1) := by decide +kernel
theorem dX9_count_1 : decode cX9_count 1 = .ok (.tableswitch 87 0 5 #[39, 47, 55, 63, 71, 79], 39) := by decide +kernel
theorem dX9_count_40 : decode cX9_count 40 = .ok (.aload_n 0, 1) := by decide +kernel
theorem dX9_count_41 : decode cX9_count 41 = .ok (.getfield 28, 3) := by decide +kernel
theorem dX9_count_44 : decode cX9_count 44 = .ok (.getfield 218, 3) := by decide +kernel
theorem dX9_count_47 : decode cX9_count 47 = .ok (.ireturn, 1) := by decide +kernel
theorem dX9_count_48 : decode cX9_count 48 = .ok (.aload_n 0, 1) := by decide +kernel
theorem dX9_count_49 : decode cX9_count 49 = .ok (.getfield 28, 3) := by decide +kernel
theorem dX9_count_52 : decode cX9_count 52 = .ok (.invokevirtual 164, 3) := by decide +kernel
theorem dX9_count_55 : decode cX9_count 55 = .ok (.ireturn, 1) := by decide +kernel
theorem dX9_count_56 : decode cX9_count 56 = .ok (.aload_n 0, 1) := by decide +kernel
theorem dX9_count_57 : decode cX9_count 57 = .ok (.getfield 19, 3) := by decide +kernel
theorem dX9_count_60 : decode cX9_count 60 = .ok (.getfield 147, 3) := by decide +kernel
theorem dX9_count_63 : decode cX9_count 63 = .ok (.ireturn, 1) := by decide +kernel
theorem dX9_count_64 : decode cX9_count 64 = .ok (.aload_n 0, 1) := by decide +kernel
theorem dX9_count_65 : decode cX9_count 65 = .ok (.getfield 54, 3) := by decide +kernel
theorem dX9_count_68 : decode cX9_count 68 = .ok (.getfield 309, 3) := by decide +kernel
theorem dX9_count_71 : decode cX9_count 71 = .ok (.ireturn, 1) := by decide +kernel
theorem dX9_count_72 : decode cX9_count 72 = .ok (.aload_n 0, 1) := by decide +kernel
theorem dX9_count_73 : decode cX9_count 73 = .ok (.getfield 61, 3) := by decide +kernel
theorem dX9_count_76 : decode cX9_count 76 = .ok (.getfield 393, 3) := by decide +kernel
theorem dX9_count_79 : decode cX9_count 79 = .ok (.ireturn, 1) := by decide +kernel
theorem dX9_count_80 : decode cX9_count 80 = .ok (.aload_n 0, 1) := by decide +kernel
theorem dX9_count_81 : decode cX9_count 81 = .ok (.getfield 61, 3) := by decide +kernel
theorem dX9_count_84 : decode cX9_count 84 = .ok (.getfield 334, 3) := by decide +kernel
theorem dX9_count_87 : decode cX9_count 87 = .ok (.ireturn, 1) := by decide +kernel
theorem dX9_count_88 : decode cX9_count 88 = .ok (.iconst (-1), 1) := by decide +kernel
theorem dX9_count_89 : decode cX9_count 89 = .ok (.ireturn, 1) := by decide +kernel
theorem dX9_isWeight_0 : decode cX9_isWeight 0 = .ok (.iload_n 0, 1) := by decide +kernel
theorem dX9_isWeight_1 : decode cX9_isWeight 1 = .ok (.iconst 1, 1) := by decide +kernel
theorem dX9_isWeight_2 : decode cX9_isWeight 2 = .ok (.if_icmp .lt 13, 3) := by decide +kernel
theorem dX9_isWeight_5 : decode cX9_isWeight 5 = .ok (.iload_n 0, 1) := by decide +kernel
theorem dX9_isWeight_6 : decode cX9_isWeight 6 = .ok (.bipush 9, 2) := by decide +kernel
theorem dX9_isWeight_8 : decode cX9_isWeight 8 = .ok (.if_icmp .gt 7, 3) := by decide +kernel
theorem dX9_isWeight_11 : decode cX9_isWeight 11 = .ok (.iconst 1, 1) := by decide +kernel
theorem dX9_isWeight_12 : decode cX9_isWeight 12 = .ok (.goto 4, 3) := by decide +kernel
theorem dX9_isWeight_15 : decode cX9_isWeight 15 = .ok (.iconst 0, 1) := by decide +kernel
theorem dX9_isWeight_16 : decode cX9_isWeight 16 = .ok (.ireturn, 1) := by decide +kernel
theorem dX9_isPace_0 : decode cX9_isPace 0 = .ok (.iload_n 0, 1) := by decide +kernel
theorem dX9_isPace_1 : decode cX9_isPace 1 = .ok (.bipush (-9), 2) := by decide +kernel
theorem dX9_isPace_3 : decode cX9_isPace 3 = .ok (.if_icmp .lt 13, 3) := by decide +kernel
theorem dX9_isPace_6 : decode cX9_isPace 6 = .ok (.iload_n 0, 1) := by decide +kernel
theorem dX9_isPace_7 : decode cX9_isPace 7 = .ok (.bipush 9, 2) := by decide +kernel
theorem dX9_isPace_9 : decode cX9_isPace 9 = .ok (.if_icmp .gt 7, 3) := by decide +kernel
theorem dX9_isPace_12 : decode cX9_isPace 12 = .ok (.iconst 1, 1) := by decide +kernel
theorem dX9_isPace_13 : decode cX9_isPace 13 = .ok (.goto 4, 3) := by decide +kernel
theorem dX9_isPace_16 : decode cX9_isPace 16 = .ok (.iconst 0, 1) := by decide +kernel
theorem dX9_isPace_17 : decode cX9_isPace 17 = .ok (.ireturn, 1) := by decide +kernel
theorem dX9_isShelf_0 : decode cX9_isShelf 0 = .ok (.iload_n 0, 1) := by decide +kernel
theorem dX9_isShelf_1 : decode cX9_isShelf 1 = .ok (.ifCond .lt 13, 3) := by decide +kernel
theorem dX9_isShelf_4 : decode cX9_isShelf 4 = .ok (.iload_n 0, 1) := by decide +kernel
theorem dX9_isShelf_5 : decode cX9_isShelf 5 = .ok (.bipush 6, 2) := by decide +kernel
theorem dX9_isShelf_7 : decode cX9_isShelf 7 = .ok (.if_icmp .ge 7, 3) := by decide +kernel
theorem dX9_isShelf_10 : decode cX9_isShelf 10 = .ok (.iconst 1, 1) := by decide +kernel
theorem dX9_isShelf_11 : decode cX9_isShelf 11 = .ok (.goto 4, 3) := by decide +kernel
theorem dX9_isShelf_14 : decode cX9_isShelf 14 = .ok (.iconst 0, 1) := by decide +kernel
theorem dX9_isShelf_15 : decode cX9_isShelf 15 = .ok (.ireturn, 1) := by decide +kernel
theorem dX9_isGirl_0 : decode cX9_isGirl 0 = .ok (.iload_n 0, 1) := by decide +kernel
theorem dX9_isGirl_1 : decode cX9_isGirl 1 = .ok (.ifCond .lt 13, 3) := by decide +kernel
theorem dX9_isGirl_4 : decode cX9_isGirl 4 = .ok (.iload_n 0, 1) := by decide +kernel
theorem dX9_isGirl_5 : decode cX9_isGirl 5 = .ok (.bipush 25, 2) := by decide +kernel
theorem dX9_isGirl_7 : decode cX9_isGirl 7 = .ok (.if_icmp .ge 7, 3) := by decide +kernel
theorem dX9_isGirl_10 : decode cX9_isGirl 10 = .ok (.iconst 1, 1) := by decide +kernel
theorem dX9_isGirl_11 : decode cX9_isGirl 11 = .ok (.goto 4, 3) := by decide +kernel
theorem dX9_isGirl_14 : decode cX9_isGirl 14 = .ok (.iconst 0, 1) := by decide +kernel
theorem dX9_isGirl_15 : decode cX9_isGirl 15 = .ok (.ireturn, 1) := by decide +kernel
theorem dX9_isSkill_0 : decode cX9_isSkill 0 = .ok (.iload_n 0, 1) := by decide +kernel
theorem dX9_isSkill_1 : decode cX9_isSkill 1 = .ok (.ifCond .lt 13, 3) := by decide +kernel
theorem dX9_isSkill_4 : decode cX9_isSkill 4 = .ok (.iload_n 0, 1) := by decide +kernel
theorem dX9_isSkill_5 : decode cX9_isSkill 5 = .ok (.bipush 12, 2) := by decide +kernel
theorem dX9_isSkill_7 : decode cX9_isSkill 7 = .ok (.if_icmp .gt 7, 3) := by decide +kernel
theorem dX9_isSkill_10 : decode cX9_isSkill 10 = .ok (.iconst 1, 1) := by decide +kernel
theorem dX9_isSkill_11 : decode cX9_isSkill 11 = .ok (.goto 4, 3) := by decide +kernel
theorem dX9_isSkill_14 : decode cX9_isSkill 14 = .ok (.iconst 0, 1) := by decide +kernel
theorem dX9_isSkill_15 : decode cX9_isSkill 15 = .ok (.ireturn, 1) := by decide +kernel
theorem dX9_isMinutes_0 : decode cX9_isMinutes 0 = .ok (.iload_n 0, 1) := by decide +kernel
theorem dX9_isMinutes_1 : decode cX9_isMinutes 1 = .ok (.iconst 1, 1) := by decide +kernel
theorem dX9_isMinutes_2 : decode cX9_isMinutes 2 = .ok (.if_icmp .lt 13, 3) := by decide +kernel
theorem dX9_isMinutes_5 : decode cX9_isMinutes 5 = .ok (.iload_n 0, 1) := by decide +kernel
theorem dX9_isMinutes_6 : decode cX9_isMinutes 6 = .ok (.bipush 30, 2) := by decide +kernel
theorem dX9_isMinutes_8 : decode cX9_isMinutes 8 = .ok (.if_icmp .gt 7, 3) := by decide +kernel
theorem dX9_isMinutes_11 : decode cX9_isMinutes 11 = .ok (.iconst 1, 1) := by decide +kernel
theorem dX9_isMinutes_12 : decode cX9_isMinutes 12 = .ok (.goto 4, 3) := by decide +kernel
theorem dX9_isMinutes_15 : decode cX9_isMinutes 15 = .ok (.iconst 0, 1) := by decide +kernel
theorem dX9_isMinutes_16 : decode cX9_isMinutes 16 = .ok (.ireturn, 1) := by decide +kernel
theorem dX9_isKind_0 : decode cX9_isKind 0 = .ok (.iload_n 0, 1) := by decide +kernel
theorem dX9_isKind_1 : decode cX9_isKind 1 = .ok (.ifCond .lt 13, 3) := by decide +kernel
theorem dX9_isKind_4 : decode cX9_isKind 4 = .ok (.iload_n 0, 1) := by decide +kernel
theorem dX9_isKind_5 : decode cX9_isKind 5 = .ok (.bipush 8, 2) := by decide +kernel
theorem dX9_isKind_7 : decode cX9_isKind 7 = .ok (.if_icmp .ge 7, 3) := by decide +kernel
theorem dX9_isKind_10 : decode cX9_isKind 10 = .ok (.iconst 1, 1) := by decide +kernel
theorem dX9_isKind_11 : decode cX9_isKind 11 = .ok (.goto 4, 3) := by decide +kernel
theorem dX9_isKind_14 : decode cX9_isKind 14 = .ok (.iconst 0, 1) := by decide +kernel
theorem dX9_isKind_15 : decode cX9_isKind 15 = .ok (.ireturn, 1) := by decide +kernel
theorem dX9_rest_0 : decode cX9_rest 0 = .ok (.iload_n 1, 1) := by decide +kernel
theorem dX9_rest_1 : decode cX9_rest 1 = .ok (.ifCond .ne 7, 3) := by decide +kernel
theorem dX9_rest_4 : decode cX9_rest 4 = .ok (.iconst 0, 1) := by decide +kernel
theorem dX9_rest_5 : decode cX9_rest 5 = .ok (.goto 6, 3) := by decide +kernel
theorem dX9_rest_8 : decode cX9_rest 8 = .ok (.iload_n 0, 1) := by decide +kernel
theorem dX9_rest_9 : decode cX9_rest 9 = .ok (.iload_n 1, 1) := by decide +kernel
theorem dX9_rest_10 : decode cX9_rest 10 = .ok (.irem, 1) := by decide +kernel
theorem dX9_rest_11 : decode cX9_rest 11 = .ok (.ireturn, 1) := by decide +kernel
theorem dX9_goalOf_0 : decode cX9_goalOf 0 = .ok (.iload_n 0, 1) := by decide +kernel
theorem dX9_goalOf_1 : decode cX9_goalOf 1 = .ok (.iconst 2, 1) := by decide +kernel
theorem dX9_goalOf_2 : decode cX9_goalOf 2 = .ok (.irem, 1) := by decide +kernel
theorem dX9_goalOf_3 : decode cX9_goalOf 3 = .ok (.ifCond .ne 7, 3) := by decide +kernel
theorem dX9_goalOf_6 : decode cX9_goalOf 6 = .ok (.iconst 0, 1) := by decide +kernel
theorem dX9_goalOf_7 : decode cX9_goalOf 7 = .ok (.goto 5, 3) := by decide +kernel
theorem dX9_goalOf_10 : decode cX9_goalOf 10 = .ok (.bipush 12, 2) := by decide +kernel
theorem dX9_goalOf_12 : decode cX9_goalOf 12 = .ok (.ireturn, 1) := by decide +kernel
theorem dX9_within_0 : decode cX9_within 0 = .ok (.iload_n 1, 1) := by decide +kernel
theorem dX9_within_1 : decode cX9_within 1 = .ok (.iload_n 2, 1) := by decide +kernel
theorem dX9_within_2 : decode cX9_within 2 = .ok (.iload_n 0, 1) := by decide +kernel
theorem dX9_within_3 : decode cX9_within 3 = .ok (.invokestatic 232, 3) := by decide +kernel
theorem dX9_within_6 : decode cX9_within 6 = .ok (.invokestatic 291, 3) := by decide +kernel
theorem dX9_within_9 : decode cX9_within 9 = .ok (.ireturn, 1) := by decide +kernel
theorem dX9_greatestDivisor_0 : decode cX9_greatestDivisor 0 = .ok (.iconst 1, 1) := by decide +kernel
theorem dX9_greatestDivisor_1 : decode cX9_greatestDivisor 1 = .ok (.istore_n 2, 1) := by decide +kernel
theorem dX9_greatestDivisor_2 : decode cX9_greatestDivisor 2 = .ok (.iconst 2, 1) := by decide +kernel
theorem dX9_greatestDivisor_3 : decode cX9_greatestDivisor 3 = .ok (.istore_n 3, 1) := by decide +kernel
theorem dX9_greatestDivisor_4 : decode cX9_greatestDivisor 4 = .ok (.iload_n 3, 1) := by decide +kernel
theorem dX9_greatestDivisor_5 : decode cX9_greatestDivisor 5 = .ok (.iload_n 1, 1) := by decide +kernel
theorem dX9_greatestDivisor_6 : decode cX9_greatestDivisor 6 = .ok (.if_icmp .gt 27, 3) := by decide +kernel
theorem dX9_greatestDivisor_9 : decode cX9_greatestDivisor 9 = .ok (.iload_n 0, 1) := by decide +kernel
theorem dX9_greatestDivisor_10 : decode cX9_greatestDivisor 10 = .ok (.iload_n 3, 1) := by decide +kernel
theorem dX9_greatestDivisor_11 : decode cX9_greatestDivisor 11 = .ok (.invokestatic 396, 3) := by decide +kernel
theorem dX9_greatestDivisor_14 : decode cX9_greatestDivisor 14 = .ok (.ifCond .ne 13, 3) := by decide +kernel
theorem dX9_greatestDivisor_17 : decode cX9_greatestDivisor 17 = .ok (.iload_n 1, 1) := by decide +kernel
theorem dX9_greatestDivisor_18 : decode cX9_greatestDivisor 18 = .ok (.iload_n 3, 1) := by decide +kernel
theorem dX9_greatestDivisor_19 : decode cX9_greatestDivisor 19 = .ok (.invokestatic 396, 3) := by decide +kernel
theorem dX9_greatestDivisor_22 : decode cX9_greatestDivisor 22 = .ok (.ifCond .ne 5, 3) := by decide +kernel
theorem dX9_greatestDivisor_25 : decode cX9_greatestDivisor 25 = .ok (.iload_n 3, 1) := by decide +kernel
theorem dX9_greatestDivisor_26 : decode cX9_greatestDivisor 26 = .ok (.istore_n 2, 1) := by decide +kernel
theorem dX9_greatestDivisor_27 : decode cX9_greatestDivisor 27 = .ok (.iinc 3 1, 3) := by decide +kernel
theorem dX9_greatestDivisor_30 : decode cX9_greatestDivisor 30 = .ok (.goto (-26), 3) := by decide +kernel
theorem dX9_greatestDivisor_33 : decode cX9_greatestDivisor 33 = .ok (.iload_n 2, 1) := by decide +kernel
theorem dX9_greatestDivisor_34 : decode cX9_greatestDivisor 34 = .ok (.ireturn, 1) := by decide +kernel
theorem dX9_hoopCame_0 : decode cX9_hoopCame 0 = .ok (.iload_n 2, 1) := by decide +kernel
theorem dX9_hoopCame_1 : decode cX9_hoopCame 1 = .ok (.ifCond .lt 29, 3) := by decide +kernel
theorem dX9_hoopCame_4 : decode cX9_hoopCame 4 = .ok (.iload_n 2, 1) := by decide +kernel
theorem dX9_hoopCame_5 : decode cX9_hoopCame 5 = .ok (.aload_n 1, 1) := by decide +kernel
theorem dX9_hoopCame_6 : decode cX9_hoopCame 6 = .ok (.getfield 399, 3) := by decide +kernel
theorem dX9_hoopCame_9 : decode cX9_hoopCame 9 = .ok (.iconst 3, 1) := by decide +kernel
theorem dX9_hoopCame_10 : decode cX9_hoopCame 10 = .ok (.isub, 1) := by decide +kernel
theorem dX9_hoopCame_11 : decode cX9_hoopCame 11 = .ok (.if_icmp .gt 19, 3) := by decide +kernel
theorem dX9_hoopCame_14 : decode cX9_hoopCame 14 = .ok (.iload_n 2, 1) := by decide +kernel
theorem dX9_hoopCame_15 : decode cX9_hoopCame 15 = .ok (.bipush 57, 2) := by decide +kernel
theorem dX9_hoopCame_17 : decode cX9_hoopCame 17 = .ok (.if_icmp .gt 13, 3) := by decide +kernel
theorem dX9_hoopCame_20 : decode cX9_hoopCame 20 = .ok (.aload_n 0, 1) := by decide +kernel
theorem dX9_hoopCame_21 : decode cX9_hoopCame 21 = .ok (.getfield 28, 3) := by decide +kernel
theorem dX9_hoopCame_24 : decode cX9_hoopCame 24 = .ok (.invokevirtual 80, 3) := by decide +kernel
theorem dX9_hoopCame_27 : decode cX9_hoopCame 27 = .ok (.ifCond .eq 5, 3) := by decide +kernel
theorem dX9_hoopCame_30 : decode cX9_hoopCame 30 = .ok (.iconst 0, 1) := by decide +kernel
theorem dX9_hoopCame_31 : decode cX9_hoopCame 31 = .ok (.ireturn, 1) := by decide +kernel
theorem dX9_hoopCame_32 : decode cX9_hoopCame 32 = .ok (.aload_n 1, 1) := by decide +kernel
theorem dX9_hoopCame_33 : decode cX9_hoopCame 33 = .ok (.getfield 362, 3) := by decide +kernel
theorem dX9_hoopCame_36 : decode cX9_hoopCame 36 = .ok (.iload_n 2, 1) := by decide +kernel
theorem dX9_hoopCame_37 : decode cX9_hoopCame 37 = .ok (.laload, 1) := by decide +kernel
theorem dX9_hoopCame_38 : decode cX9_hoopCame 38 = .ok (.l2i, 1) := by decide +kernel
theorem dX9_hoopCame_39 : decode cX9_hoopCame 39 = .ok (.istore_n 3, 1) := by decide +kernel
theorem dX9_hoopCame_40 : decode cX9_hoopCame 40 = .ok (.aload_n 1, 1) := by decide +kernel
theorem dX9_hoopCame_41 : decode cX9_hoopCame 41 = .ok (.getfield 362, 3) := by decide +kernel
theorem dX9_hoopCame_44 : decode cX9_hoopCame 44 = .ok (.iload_n 2, 1) := by decide +kernel
theorem dX9_hoopCame_45 : decode cX9_hoopCame 45 = .ok (.iconst 1, 1) := by decide +kernel
theorem dX9_hoopCame_46 : decode cX9_hoopCame 46 = .ok (.iadd, 1) := by decide +kernel
theorem dX9_hoopCame_47 : decode cX9_hoopCame 47 = .ok (.laload, 1) := by decide +kernel
theorem dX9_hoopCame_48 : decode cX9_hoopCame 48 = .ok (.l2i, 1) := by decide +kernel
theorem dX9_hoopCame_49 : decode cX9_hoopCame 49 = .ok (.istore 4, 2) := by decide +kernel
theorem dX9_hoopCame_51 : decode cX9_hoopCame 51 = .ok (.aload_n 1, 1) := by decide +kernel
theorem dX9_hoopCame_52 : decode cX9_hoopCame 52 = .ok (.getfield 362, 3) := by decide +kernel
theorem dX9_hoopCame_55 : decode cX9_hoopCame 55 = .ok (.iload_n 2, 1) := by decide +kernel
theorem dX9_hoopCame_56 : decode cX9_hoopCame 56 = .ok (.iconst 2, 1) := by decide +kernel
theorem dX9_hoopCame_57 : decode cX9_hoopCame 57 = .ok (.iadd, 1) := by decide +kernel
theorem dX9_hoopCame_58 : decode cX9_hoopCame 58 = .ok (.laload, 1) := by decide +kernel
theorem dX9_hoopCame_59 : decode cX9_hoopCame 59 = .ok (.l2i, 1) := by decide +kernel
theorem dX9_hoopCame_60 : decode cX9_hoopCame 60 = .ok (.istore 5, 2) := by decide +kernel
theorem dX9_hoopCame_62 : decode cX9_hoopCame 62 = .ok (.iload_n 3, 1) := by decide +kernel
theorem dX9_hoopCame_63 : decode cX9_hoopCame 63 = .ok (.invokestatic 76, 3) := by decide +kernel
theorem dX9_hoopCame_66 : decode cX9_hoopCame 66 = .ok (.ifCond .eq 19, 3) := by decide +kernel
theorem dX9_hoopCame_69 : decode cX9_hoopCame 69 = .ok (.iload 4, 2) := by decide +kernel
theorem dX9_hoopCame_71 : decode cX9_hoopCame 71 = .ok (.invokestatic 76, 3) := by decide +kernel
theorem dX9_hoopCame_74 : decode cX9_hoopCame 74 = .ok (.ifCond .eq 11, 3) := by decide +kernel
theorem dX9_hoopCame_77 : decode cX9_hoopCame 77 = .ok (.iload 5, 2) := by decide +kernel
theorem dX9_hoopCame_79 : decode cX9_hoopCame 79 = .ok (.invokestatic 400, 3) := by decide +kernel
theorem dX9_hoopCame_82 : decode cX9_hoopCame 82 = .ok (.ifCond .ne 5, 3) := by decide +kernel
theorem dX9_hoopCame_85 : decode cX9_hoopCame 85 = .ok (.iconst 0, 1) := by decide +kernel
theorem dX9_hoopCame_86 : decode cX9_hoopCame 86 = .ok (.ireturn, 1) := by decide +kernel
theorem dX9_hoopCame_87 : decode cX9_hoopCame 87 = .ok (.aload_n 0, 1) := by decide +kernel
theorem dX9_hoopCame_88 : decode cX9_hoopCame 88 = .ok (.getfield 28, 3) := by decide +kernel
theorem dX9_hoopCame_91 : decode cX9_hoopCame 91 = .ok (.iload_n 3, 1) := by decide +kernel
theorem dX9_hoopCame_92 : decode cX9_hoopCame 92 = .ok (.iload 4, 2) := by decide +kernel
theorem dX9_hoopCame_94 : decode cX9_hoopCame 94 = .ok (.iload 5, 2) := by decide +kernel
theorem dX9_hoopCame_96 : decode cX9_hoopCame 96 = .ok (.invokevirtual 84, 3) := by decide +kernel
theorem dX9_hoopCame_99 : decode cX9_hoopCame 99 = .ok (.pop, 1) := by decide +kernel
theorem dX9_hoopCame_100 : decode cX9_hoopCame 100 = .ok (.iconst 1, 1) := by decide +kernel
theorem dX9_hoopCame_101 : decode cX9_hoopCame 101 = .ok (.ireturn, 1) := by decide +kernel
theorem dX9_canBecome_0 : decode cX9_canBecome 0 = .ok (.iload_n 2, 1) := by decide +kernel
theorem dX9_canBecome_1 : decode cX9_canBecome 1 = .ok (.ifCond .lt 42, 3) := by decide +kernel
theorem dX9_canBecome_4 : decode cX9_canBecome 4 = .ok (.iload_n 2, 1) := by decide +kernel
theorem dX9_canBecome_5 : decode cX9_canBecome 5 = .ok (.iconst 2, 1) := by decide +kernel
theorem dX9_canBecome_6 : decode cX9_canBecome 6 = .ok (.if_icmp .gt 37, 3) := by decide +kernel
theorem dX9_canBecome_9 : decode cX9_canBecome 9 = .ok (.aload_n 0, 1) := by decide +kernel
theorem dX9_canBecome_10 : decode cX9_canBecome 10 = .ok (.getfield 28, 3) := by decide +kernel
theorem dX9_canBecome_13 : decode cX9_canBecome 13 = .ok (.iload_n 1, 1) := by decide +kernel
theorem dX9_canBecome_14 : decode cX9_canBecome 14 = .ok (.invokevirtual 118, 3) := by decide +kernel
theorem dX9_canBecome_17 : decode cX9_canBecome 17 = .ok (.ifCond .eq 24, 3) := by decide +kernel
theorem dX9_canBecome_20 : decode cX9_canBecome 20 = .ok (.aload_n 0, 1) := by decide +kernel
theorem dX9_canBecome_21 : decode cX9_canBecome 21 = .ok (.getfield 28, 3) := by decide +kernel
theorem dX9_canBecome_24 : decode cX9_canBecome 24 = .ok (.getfield 121, 3) := by decide +kernel
theorem dX9_canBecome_27 : decode cX9_canBecome 27 = .ok (.iload_n 1, 1) := by decide +kernel
theorem dX9_canBecome_28 : decode cX9_canBecome 28 = .ok (.aaload, 1) := by decide +kernel
theorem dX9_canBecome_29 : decode cX9_canBecome 29 = .ok (.iload_n 2, 1) := by decide +kernel
theorem dX9_canBecome_30 : decode cX9_canBecome 30 = .ok (.iload_n 3, 1) := by decide +kernel
theorem dX9_canBecome_31 : decode cX9_canBecome 31 = .ok (.invokestatic 403, 3) := by decide +kernel
theorem dX9_canBecome_34 : decode cX9_canBecome 34 = .ok (.ifCond .eq 7, 3) := by decide +kernel
theorem dX9_canBecome_37 : decode cX9_canBecome 37 = .ok (.iconst 1, 1) := by decide +kernel
theorem dX9_canBecome_38 : decode cX9_canBecome 38 = .ok (.goto 4, 3) := by decide +kernel
theorem dX9_canBecome_41 : decode cX9_canBecome 41 = .ok (.iconst 0, 1) := by decide +kernel
theorem dX9_canBecome_42 : decode cX9_canBecome 42 = .ok (.ireturn, 1) := by decide +kernel
theorem dX9_canBecome_43 : decode cX9_canBecome 43 = .ok (.iload_n 1, 1) := by decide +kernel
theorem dX9_canBecome_44 : decode cX9_canBecome 44 = .ok (.ifCond .ne 16, 3) := by decide +kernel
theorem dX9_canBecome_47 : decode cX9_canBecome 47 = .ok (.aload_n 0, 1) := by decide +kernel
theorem dX9_canBecome_48 : decode cX9_canBecome 48 = .ok (.iload_n 2, 1) := by decide +kernel
theorem dX9_canBecome_49 : decode cX9_canBecome 49 = .ok (.iload_n 3, 1) := by decide +kernel
theorem dX9_canBecome_50 : decode cX9_canBecome 50 = .ok (.invokevirtual 407, 3) := by decide +kernel
theorem dX9_canBecome_53 : decode cX9_canBecome 53 = .ok (.ifCond .eq 7, 3) := by decide +kernel
theorem dX9_canBecome_56 : decode cX9_canBecome 56 = .ok (.iconst 1, 1) := by decide +kernel
theorem dX9_canBecome_57 : decode cX9_canBecome 57 = .ok (.goto 4, 3) := by decide +kernel
theorem dX9_canBecome_60 : decode cX9_canBecome 60 = .ok (.iconst 0, 1) := by decide +kernel
theorem dX9_canBecome_61 : decode cX9_canBecome 61 = .ok (.ireturn, 1) := by decide +kernel
theorem dX9_hoopCanBecome_0 : decode cX9_hoopCanBecome 0 = .ok (.iload_n 1, 1) := by decide +kernel
theorem dX9_hoopCanBecome_1 : decode cX9_hoopCanBecome 1 = .ok (.iconst 2, 1) := by decide +kernel
theorem dX9_hoopCanBecome_2 : decode cX9_hoopCanBecome 2 = .ok (.if_icmp .eq 8, 3) := by decide +kernel
theorem dX9_hoopCanBecome_5 : decode cX9_hoopCanBecome 5 = .ok (.iload_n 2, 1) := by decide +kernel
theorem dX9_hoopCanBecome_6 : decode cX9_hoopCanBecome 6 = .ok (.invokestatic 76, 3) := by decide +kernel
theorem dX9_hoopCanBecome_9 : decode cX9_hoopCanBecome 9 = .ok (.ireturn, 1) := by decide +kernel
theorem dX9_hoopCanBecome_10 : decode cX9_hoopCanBecome 10 = .ok (.aload_n 0, 1) := by decide +kernel
theorem dX9_hoopCanBecome_11 : decode cX9_hoopCanBecome 11 = .ok (.invokevirtual 167, 3) := by decide +kernel
theorem dX9_hoopCanBecome_14 : decode cX9_hoopCanBecome 14 = .ok (.ifCond .eq 15, 3) := by decide +kernel
theorem dX9_hoopCanBecome_17 : decode cX9_hoopCanBecome 17 = .ok (.iload_n 2, 1) := by decide +kernel
theorem dX9_hoopCanBecome_18 : decode cX9_hoopCanBecome 18 = .ok (.ifCond .ne 7, 3) := by decide +kernel
theorem dX9_hoopCanBecome_21 : decode cX9_hoopCanBecome 21 = .ok (.iconst 1, 1) := by decide +kernel
theorem dX9_hoopCanBecome_22 : decode cX9_hoopCanBecome 22 = .ok (.goto 11, 3) := by decide +kernel
theorem dX9_hoopCanBecome_25 : decode cX9_hoopCanBecome 25 = .ok (.iconst 0, 1) := by decide +kernel
theorem dX9_hoopCanBecome_26 : decode cX9_hoopCanBecome 26 = .ok (.goto 7, 3) := by decide +kernel
theorem dX9_hoopCanBecome_29 : decode cX9_hoopCanBecome 29 = .ok (.iload_n 2, 1) := by decide +kernel
theorem dX9_hoopCanBecome_30 : decode cX9_hoopCanBecome 30 = .ok (.invokestatic 400, 3) := by decide +kernel
theorem dX9_hoopCanBecome_33 : decode cX9_hoopCanBecome 33 = .ok (.ireturn, 1) := by decide +kernel
theorem dX9_settingCanBecome_0 : decode cX9_settingCanBecome 0 = .ok (.iload_n 1, 1) := by decide +kernel
theorem dX9_settingCanBecome_1 : decode cX9_settingCanBecome 1 = .ok (.tableswitch 108 3 7 #[35, 50, 67, 88, 103], 35) := by decide +kernel
theorem dX9_settingCanBecome_36 : decode cX9_settingCanBecome 36 = .ok (.iload_n 2, 1) := by decide +kernel
theorem dX9_settingCanBecome_37 : decode cX9_settingCanBecome 37 = .ok (.ifCond .lt 12, 3) := by decide +kernel
theorem dX9_settingCanBecome_40 : decode cX9_settingCanBecome 40 = .ok (.iload_n 2, 1) := by decide +kernel
theorem dX9_settingCanBecome_41 : decode cX9_settingCanBecome 41 = .ok (.iconst 3, 1) := by decide +kernel
theorem dX9_settingCanBecome_42 : decode cX9_settingCanBecome 42 = .ok (.if_icmp .gt 7, 3) := by decide +kernel
theorem dX9_settingCanBecome_45 : decode cX9_settingCanBecome 45 = .ok (.iconst 1, 1) := by decide +kernel
theorem dX9_settingCanBecome_46 : decode cX9_settingCanBecome 46 = .ok (.goto 4, 3) := by decide +kernel
theorem dX9_settingCanBecome_49 : decode cX9_settingCanBecome 49 = .ok (.iconst 0, 1) := by decide +kernel
theorem dX9_settingCanBecome_50 : decode cX9_settingCanBecome 50 = .ok (.ireturn, 1) := by decide +kernel
theorem dX9_settingCanBecome_51 : decode cX9_settingCanBecome 51 = .ok (.iload_n 2, 1) := by decide +kernel
theorem dX9_settingCanBecome_52 : decode cX9_settingCanBecome 52 = .ok (.iconst 2, 1) := by decide +kernel
theorem dX9_settingCanBecome_53 : decode cX9_settingCanBecome 53 = .ok (.if_icmp .lt 13, 3) := by decide +kernel
theorem dX9_settingCanBecome_56 : decode cX9_settingCanBecome 56 = .ok (.iload_n 2, 1) := by decide +kernel
theorem dX9_settingCanBecome_57 : decode cX9_settingCanBecome 57 = .ok (.bipush 24, 2) := by decide +kernel
theorem dX9_settingCanBecome_59 : decode cX9_settingCanBecome 59 = .ok (.if_icmp .gt 7, 3) := by decide +kernel
theorem dX9_settingCanBecome_62 : decode cX9_settingCanBecome 62 = .ok (.iconst 1, 1) := by decide +kernel
theorem dX9_settingCanBecome_63 : decode cX9_settingCanBecome 63 = .ok (.goto 4, 3) := by decide +kernel
theorem dX9_settingCanBecome_66 : decode cX9_settingCanBecome 66 = .ok (.iconst 0, 1) := by decide +kernel
theorem dX9_settingCanBecome_67 : decode cX9_settingCanBecome 67 = .ok (.ireturn, 1) := by decide +kernel
theorem dX9_settingCanBecome_68 : decode cX9_settingCanBecome 68 = .ok (.iload_n 2, 1) := by decide +kernel
theorem dX9_settingCanBecome_69 : decode cX9_settingCanBecome 69 = .ok (.ifCond .lt 18, 3) := by decide +kernel
theorem dX9_settingCanBecome_72 : decode cX9_settingCanBecome 72 = .ok (.iload_n 2, 1) := by decide +kernel
theorem dX9_settingCanBecome_73 : decode cX9_settingCanBecome 73 = .ok (.aload_n 0, 1) := by decide +kernel
theorem dX9_settingCanBecome_74 : decode cX9_settingCanBecome 74 = .ok (.getfield 28, 3) := by decide +kernel
theorem dX9_settingCanBecome_77 : decode cX9_settingCanBecome 77 = .ok (.getfield 202, 3) := by decide +kernel
theorem dX9_settingCanBecome_80 : decode cX9_settingCanBecome 80 = .ok (.if_icmp .ge 7, 3) := by decide +kernel
theorem dX9_settingCanBecome_83 : decode cX9_settingCanBecome 83 = .ok (.iconst 1, 1) := by decide +kernel
theorem dX9_settingCanBecome_84 : decode cX9_settingCanBecome 84 = .ok (.goto 4, 3) := by decide +kernel
theorem dX9_settingCanBecome_87 : decode cX9_settingCanBecome 87 = .ok (.iconst 0, 1) := by decide +kernel
theorem dX9_settingCanBecome_88 : decode cX9_settingCanBecome 88 = .ok (.ireturn, 1) := by decide +kernel
theorem dX9_settingCanBecome_89 : decode cX9_settingCanBecome 89 = .ok (.iload_n 2, 1) := by decide +kernel
theorem dX9_settingCanBecome_90 : decode cX9_settingCanBecome 90 = .ok (.ifCond .lt 12, 3) := by decide +kernel
theorem dX9_settingCanBecome_93 : decode cX9_settingCanBecome 93 = .ok (.iload_n 2, 1) := by decide +kernel
theorem dX9_settingCanBecome_94 : decode cX9_settingCanBecome 94 = .ok (.iconst 5, 1) := by decide +kernel
theorem dX9_settingCanBecome_95 : decode cX9_settingCanBecome 95 = .ok (.if_icmp .gt 7, 3) := by decide +kernel
theorem dX9_settingCanBecome_98 : decode cX9_settingCanBecome 98 = .ok (.iconst 1, 1) := by decide +kernel
theorem dX9_settingCanBecome_99 : decode cX9_settingCanBecome 99 = .ok (.goto 4, 3) := by decide +kernel
theorem dX9_settingCanBecome_102 : decode cX9_settingCanBecome 102 = .ok (.iconst 0, 1) := by decide +kernel
theorem dX9_settingCanBecome_103 : decode cX9_settingCanBecome 103 = .ok (.ireturn, 1) := by decide +kernel
theorem dX9_settingCanBecome_104 : decode cX9_settingCanBecome 104 = .ok (.iload_n 2, 1) := by decide +kernel
theorem dX9_settingCanBecome_105 : decode cX9_settingCanBecome 105 = .ok (.invokestatic 255, 3) := by decide +kernel
theorem dX9_settingCanBecome_108 : decode cX9_settingCanBecome 108 = .ok (.ireturn, 1) := by decide +kernel
theorem dX9_settingCanBecome_109 : decode cX9_settingCanBecome 109 = .ok (.iconst 0, 1) := by decide +kernel
theorem dX9_settingCanBecome_110 : decode cX9_settingCanBecome 110 = .ok (.ireturn, 1) := by decide +kernel
theorem dX9_valueOf_0 : decode cX9_valueOf 0 = .ok (.iload_n 2, 1) := by decide +kernel
theorem dX9_valueOf_1 : decode cX9_valueOf 1 = .ok (.iconst 2, 1) := by decide +kernel
theorem dX9_valueOf_2 : decode cX9_valueOf 2 = .ok (.if_icmp .gt 33, 3) := by decide +kernel
theorem dX9_valueOf_5 : decode cX9_valueOf 5 = .ok (.aload_n 0, 1) := by decide +kernel
theorem dX9_valueOf_6 : decode cX9_valueOf 6 = .ok (.getfield 28, 3) := by decide +kernel
theorem dX9_valueOf_9 : decode cX9_valueOf 9 = .ok (.iload_n 1, 1) := by decide +kernel
theorem dX9_valueOf_10 : decode cX9_valueOf 10 = .ok (.invokevirtual 118, 3) := by decide +kernel
theorem dX9_valueOf_13 : decode cX9_valueOf 13 = .ok (.ifCond .eq 19, 3) := by decide +kernel
theorem dX9_valueOf_16 : decode cX9_valueOf 16 = .ok (.aload_n 0, 1) := by decide +kernel
theorem dX9_valueOf_17 : decode cX9_valueOf 17 = .ok (.getfield 28, 3) := by decide +kernel
theorem dX9_valueOf_20 : decode cX9_valueOf 20 = .ok (.getfield 121, 3) := by decide +kernel
theorem dX9_valueOf_23 : decode cX9_valueOf 23 = .ok (.iload_n 1, 1) := by decide +kernel
theorem dX9_valueOf_24 : decode cX9_valueOf 24 = .ok (.aaload, 1) := by decide +kernel
theorem dX9_valueOf_25 : decode cX9_valueOf 25 = .ok (.iload_n 2, 1) := by decide +kernel
theorem dX9_valueOf_26 : decode cX9_valueOf 26 = .ok (.invokevirtual 125, 3) := by decide +kernel
theorem dX9_valueOf_29 : decode cX9_valueOf 29 = .ok (.goto 5, 3) := by decide +kernel
theorem dX9_valueOf_32 : decode cX9_valueOf 32 = .ok (.ldc 105, 2) := by decide +kernel
theorem dX9_valueOf_34 : decode cX9_valueOf 34 = .ok (.ireturn, 1) := by decide +kernel
theorem dX9_valueOf_35 : decode cX9_valueOf 35 = .ok (.aload_n 0, 1) := by decide +kernel
theorem dX9_valueOf_36 : decode cX9_valueOf 36 = .ok (.iload_n 2, 1) := by decide +kernel
theorem dX9_valueOf_37 : decode cX9_valueOf 37 = .ok (.bipush 7, 2) := by decide +kernel
theorem dX9_valueOf_39 : decode cX9_valueOf 39 = .ok (.iadd, 1) := by decide +kernel
theorem dX9_valueOf_40 : decode cX9_valueOf 40 = .ok (.invokevirtual 131, 3) := by decide +kernel
theorem dX9_valueOf_43 : decode cX9_valueOf 43 = .ok (.ireturn, 1) := by decide +kernel
theorem dX9_settingOf_0 : decode cX9_settingOf 0 = .ok (.iload_n 1, 1) := by decide +kernel
theorem dX9_settingOf_1 : decode cX9_settingOf 1 = .ok (.tableswitch 87 10 15 #[39, 47, 55, 63, 71, 79], 39) := by decide +kernel
theorem dX9_settingOf_40 : decode cX9_settingOf 40 = .ok (.aload_n 0, 1) := by decide +kernel
theorem dX9_settingOf_41 : decode cX9_settingOf 41 = .ok (.getfield 28, 3) := by decide +kernel
theorem dX9_settingOf_44 : decode cX9_settingOf 44 = .ok (.getfield 410, 3) := by decide +kernel
theorem dX9_settingOf_47 : decode cX9_settingOf 47 = .ok (.ireturn, 1) := by decide +kernel
theorem dX9_settingOf_48 : decode cX9_settingOf 48 = .ok (.aload_n 0, 1) := by decide +kernel
theorem dX9_settingOf_49 : decode cX9_settingOf 49 = .ok (.getfield 28, 3) := by decide +kernel
theorem dX9_settingOf_52 : decode cX9_settingOf 52 = .ok (.getfield 202, 3) := by decide +kernel
theorem dX9_settingOf_55 : decode cX9_settingOf 55 = .ok (.ireturn, 1) := by decide +kernel
theorem dX9_settingOf_56 : decode cX9_settingOf 56 = .ok (.aload_n 0, 1) := by decide +kernel
theorem dX9_settingOf_57 : decode cX9_settingOf 57 = .ok (.getfield 28, 3) := by decide +kernel
theorem dX9_settingOf_60 : decode cX9_settingOf 60 = .ok (.getfield 205, 3) := by decide +kernel
theorem dX9_settingOf_63 : decode cX9_settingOf 63 = .ok (.ireturn, 1) := by decide +kernel
theorem dX9_settingOf_64 : decode cX9_settingOf 64 = .ok (.aload_n 0, 1) := by decide +kernel
theorem dX9_settingOf_65 : decode cX9_settingOf 65 = .ok (.getfield 28, 3) := by decide +kernel
theorem dX9_settingOf_68 : decode cX9_settingOf 68 = .ok (.getfield 208, 3) := by decide +kernel
theorem dX9_settingOf_71 : decode cX9_settingOf 71 = .ok (.ireturn, 1) := by decide +kernel
theorem dX9_settingOf_72 : decode cX9_settingOf 72 = .ok (.aload_n 0, 1) := by decide +kernel
theorem dX9_settingOf_73 : decode cX9_settingOf 73 = .ok (.getfield 47, 3) := by decide +kernel
theorem dX9_settingOf_76 : decode cX9_settingOf 76 = .ok (.getfield 413, 3) := by decide +kernel
theorem dX9_settingOf_79 : decode cX9_settingOf 79 = .ok (.ireturn, 1) := by decide +kernel
theorem dX9_settingOf_80 : decode cX9_settingOf 80 = .ok (.aload_n 0, 1) := by decide +kernel
theorem dX9_settingOf_81 : decode cX9_settingOf 81 = .ok (.getfield 28, 3) := by decide +kernel
theorem dX9_settingOf_84 : decode cX9_settingOf 84 = .ok (.getfield 303, 3) := by decide +kernel
theorem dX9_settingOf_87 : decode cX9_settingOf 87 = .ok (.ireturn, 1) := by decide +kernel
theorem dX9_settingOf_88 : decode cX9_settingOf 88 = .ok (.ldc 105, 2) := by decide +kernel
theorem dX9_settingOf_90 : decode cX9_settingOf 90 = .ok (.ireturn, 1) := by decide +kernel
theorem dX9_lay_0 : decode cX9_lay 0 = .ok (.iload_n 2, 1) := by decide +kernel
theorem dX9_lay_1 : decode cX9_lay 1 = .ok (.tableswitch 90 3 7 #[35, 46, 57, 68, 79], 35) := by decide +kernel
theorem dX9_lay_36 : decode cX9_lay 36 = .ok (.aload_n 0, 1) := by decide +kernel
theorem dX9_lay_37 : decode cX9_lay 37 = .ok (.getfield 28, 3) := by decide +kernel
theorem dX9_lay_40 : decode cX9_lay 40 = .ok (.iload_n 3, 1) := by decide +kernel
theorem dX9_lay_41 : decode cX9_lay 41 = .ok (.putfield 410, 3) := by decide +kernel
theorem dX9_lay_44 : decode cX9_lay 44 = .ok (.goto 72, 3) := by decide +kernel
theorem dX9_lay_47 : decode cX9_lay 47 = .ok (.aload_n 0, 1) := by decide +kernel
theorem dX9_lay_48 : decode cX9_lay 48 = .ok (.getfield 28, 3) := by decide +kernel
theorem dX9_lay_51 : decode cX9_lay 51 = .ok (.iload_n 3, 1) := by decide +kernel
theorem dX9_lay_52 : decode cX9_lay 52 = .ok (.putfield 202, 3) := by decide +kernel
theorem dX9_lay_55 : decode cX9_lay 55 = .ok (.goto 61, 3) := by decide +kernel
theorem dX9_lay_58 : decode cX9_lay 58 = .ok (.aload_n 0, 1) := by decide +kernel
theorem dX9_lay_59 : decode cX9_lay 59 = .ok (.getfield 28, 3) := by decide +kernel
theorem dX9_lay_62 : decode cX9_lay 62 = .ok (.iload_n 3, 1) := by decide +kernel
theorem dX9_lay_63 : decode cX9_lay 63 = .ok (.putfield 205, 3) := by decide +kernel
theorem dX9_lay_66 : decode cX9_lay 66 = .ok (.goto 50, 3) := by decide +kernel
theorem dX9_lay_69 : decode cX9_lay 69 = .ok (.aload_n 0, 1) := by decide +kernel
theorem dX9_lay_70 : decode cX9_lay 70 = .ok (.getfield 28, 3) := by decide +kernel
theorem dX9_lay_73 : decode cX9_lay 73 = .ok (.iload_n 3, 1) := by decide +kernel
theorem dX9_lay_74 : decode cX9_lay 74 = .ok (.putfield 208, 3) := by decide +kernel
theorem dX9_lay_77 : decode cX9_lay 77 = .ok (.goto 39, 3) := by decide +kernel
theorem dX9_lay_80 : decode cX9_lay 80 = .ok (.aload_n 0, 1) := by decide +kernel
theorem dX9_lay_81 : decode cX9_lay 81 = .ok (.getfield 47, 3) := by decide +kernel
theorem dX9_lay_84 : decode cX9_lay 84 = .ok (.iload_n 3, 1) := by decide +kernel
theorem dX9_lay_85 : decode cX9_lay 85 = .ok (.putfield 413, 3) := by decide +kernel
theorem dX9_lay_88 : decode cX9_lay 88 = .ok (.goto 28, 3) := by decide +kernel
theorem dX9_lay_91 : decode cX9_lay 91 = .ok (.aload_n 0, 1) := by decide +kernel
theorem dX9_lay_92 : decode cX9_lay 92 = .ok (.getfield 28, 3) := by decide +kernel
theorem dX9_lay_95 : decode cX9_lay 95 = .ok (.iload_n 1, 1) := by decide +kernel
theorem dX9_lay_96 : decode cX9_lay 96 = .ok (.invokevirtual 118, 3) := by decide +kernel
theorem dX9_lay_99 : decode cX9_lay 99 = .ok (.ifCond .eq 17, 3) := by decide +kernel
theorem dX9_lay_102 : decode cX9_lay 102 = .ok (.aload_n 0, 1) := by decide +kernel
theorem dX9_lay_103 : decode cX9_lay 103 = .ok (.getfield 28, 3) := by decide +kernel
theorem dX9_lay_106 : decode cX9_lay 106 = .ok (.getfield 121, 3) := by decide +kernel
theorem dX9_lay_109 : decode cX9_lay 109 = .ok (.iload_n 1, 1) := by decide +kernel
theorem dX9_lay_110 : decode cX9_lay 110 = .ok (.aaload, 1) := by decide +kernel
theorem dX9_lay_111 : decode cX9_lay 111 = .ok (.iload_n 2, 1) := by decide +kernel
theorem dX9_lay_112 : decode cX9_lay 112 = .ok (.iload_n 3, 1) := by decide +kernel
theorem dX9_lay_113 : decode cX9_lay 113 = .ok (.invokevirtual 416, 3) := by decide +kernel
theorem dX9_lay_116 : decode cX9_lay 116 = .ok (.return_, 1) := by decide +kernel
theorem dJ6_bitCount_0f7a4_0 : decode cJ6_bitCount_0f7a4 0 = .ok (.iload_n 0, 1) := by decide +kernel
theorem dJ6_bitCount_0f7a4_1 : decode cJ6_bitCount_0f7a4 1 = .ok (.iload_n 0, 1) := by decide +kernel
theorem dJ6_bitCount_0f7a4_2 : decode cJ6_bitCount_0f7a4 2 = .ok (.iconst 1, 1) := by decide +kernel
theorem dJ6_bitCount_0f7a4_3 : decode cJ6_bitCount_0f7a4 3 = .ok (.iushr, 1) := by decide +kernel
theorem dJ6_bitCount_0f7a4_4 : decode cJ6_bitCount_0f7a4 4 = .ok (.ldc_w 265, 3) := by decide +kernel
theorem dJ6_bitCount_0f7a4_7 : decode cJ6_bitCount_0f7a4 7 = .ok (.iand, 1) := by decide +kernel
theorem dJ6_bitCount_0f7a4_8 : decode cJ6_bitCount_0f7a4 8 = .ok (.isub, 1) := by decide +kernel
theorem dJ6_bitCount_0f7a4_9 : decode cJ6_bitCount_0f7a4 9 = .ok (.istore_n 0, 1) := by decide +kernel
theorem dJ6_bitCount_0f7a4_10 : decode cJ6_bitCount_0f7a4 10 = .ok (.iload_n 0, 1) := by decide +kernel
theorem dJ6_bitCount_0f7a4_11 : decode cJ6_bitCount_0f7a4 11 = .ok (.ldc_w 266, 3) := by decide +kernel
theorem dJ6_bitCount_0f7a4_14 : decode cJ6_bitCount_0f7a4 14 = .ok (.iand, 1) := by decide +kernel
theorem dJ6_bitCount_0f7a4_15 : decode cJ6_bitCount_0f7a4 15 = .ok (.iload_n 0, 1) := by decide +kernel
theorem dJ6_bitCount_0f7a4_16 : decode cJ6_bitCount_0f7a4 16 = .ok (.iconst 2, 1) := by decide +kernel
theorem dJ6_bitCount_0f7a4_17 : decode cJ6_bitCount_0f7a4 17 = .ok (.iushr, 1) := by decide +kernel
theorem dJ6_bitCount_0f7a4_18 : decode cJ6_bitCount_0f7a4 18 = .ok (.ldc_w 266, 3) := by decide +kernel
theorem dJ6_bitCount_0f7a4_21 : decode cJ6_bitCount_0f7a4 21 = .ok (.iand, 1) := by decide +kernel
theorem dJ6_bitCount_0f7a4_22 : decode cJ6_bitCount_0f7a4 22 = .ok (.iadd, 1) := by decide +kernel
theorem dJ6_bitCount_0f7a4_23 : decode cJ6_bitCount_0f7a4 23 = .ok (.istore_n 0, 1) := by decide +kernel
theorem dJ6_bitCount_0f7a4_24 : decode cJ6_bitCount_0f7a4 24 = .ok (.iload_n 0, 1) := by decide +kernel
theorem dJ6_bitCount_0f7a4_25 : decode cJ6_bitCount_0f7a4 25 = .ok (.iload_n 0, 1) := by decide +kernel
theorem dJ6_bitCount_0f7a4_26 : decode cJ6_bitCount_0f7a4 26 = .ok (.iconst 4, 1) := by decide +kernel
theorem dJ6_bitCount_0f7a4_27 : decode cJ6_bitCount_0f7a4 27 = .ok (.iushr, 1) := by decide +kernel
theorem dJ6_bitCount_0f7a4_28 : decode cJ6_bitCount_0f7a4 28 = .ok (.iadd, 1) := by decide +kernel
theorem dJ6_bitCount_0f7a4_29 : decode cJ6_bitCount_0f7a4 29 = .ok (.ldc_w 267, 3) := by decide +kernel
theorem dJ6_bitCount_0f7a4_32 : decode cJ6_bitCount_0f7a4 32 = .ok (.iand, 1) := by decide +kernel
theorem dJ6_bitCount_0f7a4_33 : decode cJ6_bitCount_0f7a4 33 = .ok (.istore_n 0, 1) := by decide +kernel
theorem dJ6_bitCount_0f7a4_34 : decode cJ6_bitCount_0f7a4 34 = .ok (.iload_n 0, 1) := by decide +kernel
theorem dJ6_bitCount_0f7a4_35 : decode cJ6_bitCount_0f7a4 35 = .ok (.iload_n 0, 1) := by decide +kernel
theorem dJ6_bitCount_0f7a4_36 : decode cJ6_bitCount_0f7a4 36 = .ok (.bipush 8, 2) := by decide +kernel
theorem dJ6_bitCount_0f7a4_38 : decode cJ6_bitCount_0f7a4 38 = .ok (.iushr, 1) := by decide +kernel
theorem dJ6_bitCount_0f7a4_39 : decode cJ6_bitCount_0f7a4 39 = .ok (.iadd, 1) := by decide +kernel
theorem dJ6_bitCount_0f7a4_40 : decode cJ6_bitCount_0f7a4 40 = .ok (.istore_n 0, 1) := by decide +kernel
theorem dJ6_bitCount_0f7a4_41 : decode cJ6_bitCount_0f7a4 41 = .ok (.iload_n 0, 1) := by decide +kernel
theorem dJ6_bitCount_0f7a4_42 : decode cJ6_bitCount_0f7a4 42 = .ok (.iload_n 0, 1) := by decide +kernel
theorem dJ6_bitCount_0f7a4_43 : decode cJ6_bitCount_0f7a4 43 = .ok (.bipush 16, 2) := by decide +kernel
theorem dJ6_bitCount_0f7a4_45 : decode cJ6_bitCount_0f7a4 45 = .ok (.iushr, 1) := by decide +kernel
theorem dJ6_bitCount_0f7a4_46 : decode cJ6_bitCount_0f7a4 46 = .ok (.iadd, 1) := by decide +kernel
theorem dJ6_bitCount_0f7a4_47 : decode cJ6_bitCount_0f7a4 47 = .ok (.istore_n 0, 1) := by decide +kernel
theorem dJ6_bitCount_0f7a4_48 : decode cJ6_bitCount_0f7a4 48 = .ok (.iload_n 0, 1) := by decide +kernel
theorem dJ6_bitCount_0f7a4_49 : decode cJ6_bitCount_0f7a4 49 = .ok (.bipush 63, 2) := by decide +kernel
theorem dJ6_bitCount_0f7a4_51 : decode cJ6_bitCount_0f7a4 51 = .ok (.iand, 1) := by decide +kernel
theorem dJ6_bitCount_0f7a4_52 : decode cJ6_bitCount_0f7a4 52 = .ok (.ireturn, 1) := by decide +kernel
theorem dJ9_floorMod_7cf53_0 : decode cJ9_floorMod_7cf53 0 = .ok (.iload_n 0, 1) := by decide +kernel
theorem dJ9_floorMod_7cf53_1 : decode cJ9_floorMod_7cf53 1 = .ok (.iload_n 1, 1) := by decide +kernel
theorem dJ9_floorMod_7cf53_2 : decode cJ9_floorMod_7cf53 2 = .ok (.irem, 1) := by decide +kernel
theorem dJ9_floorMod_7cf53_3 : decode cJ9_floorMod_7cf53 3 = .ok (.istore_n 2, 1) := by decide +kernel
theorem dJ9_floorMod_7cf53_4 : decode cJ9_floorMod_7cf53 4 = .ok (.iload_n 0, 1) := by decide +kernel
theorem dJ9_floorMod_7cf53_5 : decode cJ9_floorMod_7cf53 5 = .ok (.iload_n 1, 1) := by decide +kernel
theorem dJ9_floorMod_7cf53_6 : decode cJ9_floorMod_7cf53 6 = .ok (.ixor, 1) := by decide +kernel
theorem dJ9_floorMod_7cf53_7 : decode cJ9_floorMod_7cf53 7 = .ok (.ifCond .ge 11, 3) := by decide +kernel
theorem dJ9_floorMod_7cf53_10 : decode cJ9_floorMod_7cf53 10 = .ok (.iload_n 2, 1) := by decide +kernel
theorem dJ9_floorMod_7cf53_11 : decode cJ9_floorMod_7cf53 11 = .ok (.ifCond .eq 7, 3) := by decide +kernel
theorem dJ9_floorMod_7cf53_14 : decode cJ9_floorMod_7cf53 14 = .ok (.iload_n 2, 1) := by decide +kernel
theorem dJ9_floorMod_7cf53_15 : decode cJ9_floorMod_7cf53 15 = .ok (.iload_n 1, 1) := by decide +kernel
theorem dJ9_floorMod_7cf53_16 : decode cJ9_floorMod_7cf53 16 = .ok (.iadd, 1) := by decide +kernel
theorem dJ9_floorMod_7cf53_17 : decode cJ9_floorMod_7cf53 17 = .ok (.ireturn, 1) := by decide +kernel
theorem dJ9_floorMod_7cf53_18 : decode cJ9_floorMod_7cf53 18 = .ok (.iload_n 2, 1) := by decide +kernel
theorem dJ9_floorMod_7cf53_19 : decode cJ9_floorMod_7cf53 19 = .ok (.ireturn, 1) := by decide +kernel
theorem dJ9_abs_0f7a4_0 : decode cJ9_abs_0f7a4 0 = .ok (.iload_n 0, 1) := by decide +kernel
theorem dJ9_abs_0f7a4_1 : decode cJ9_abs_0f7a4 1 = .ok (.ifCond .ge 8, 3) := by decide +kernel
theorem dJ9_abs_0f7a4_4 : decode cJ9_abs_0f7a4 4 = .ok (.iload_n 0, 1) := by decide +kernel
theorem dJ9_abs_0f7a4_5 : decode cJ9_abs_0f7a4 5 = .ok (.ineg, 1) := by decide +kernel
theorem dJ9_abs_0f7a4_6 : decode cJ9_abs_0f7a4 6 = .ok (.goto 4, 3) := by decide +kernel
theorem dJ9_abs_0f7a4_9 : decode cJ9_abs_0f7a4 9 = .ok (.iload_n 0, 1) := by decide +kernel
theorem dJ9_abs_0f7a4_10 : decode cJ9_abs_0f7a4 10 = .ok (.ireturn, 1) := by decide +kernel
theorem dJ9_max_7cf53_0 : decode cJ9_max_7cf53 0 = .ok (.iload_n 0, 1) := by decide +kernel
theorem dJ9_max_7cf53_1 : decode cJ9_max_7cf53 1 = .ok (.iload_n 1, 1) := by decide +kernel
theorem dJ9_max_7cf53_2 : decode cJ9_max_7cf53 2 = .ok (.if_icmp .lt 7, 3) := by decide +kernel
theorem dJ9_max_7cf53_5 : decode cJ9_max_7cf53 5 = .ok (.iload_n 0, 1) := by decide +kernel
theorem dJ9_max_7cf53_6 : decode cJ9_max_7cf53 6 = .ok (.goto 4, 3) := by decide +kernel
theorem dJ9_max_7cf53_9 : decode cJ9_max_7cf53 9 = .ok (.iload_n 1, 1) := by decide +kernel
theorem dJ9_max_7cf53_10 : decode cJ9_max_7cf53 10 = .ok (.ireturn, 1) := by decide +kernel
theorem dJ9_min_7cf53_0 : decode cJ9_min_7cf53 0 = .ok (.iload_n 0, 1) := by decide +kernel
theorem dJ9_min_7cf53_1 : decode cJ9_min_7cf53 1 = .ok (.iload_n 1, 1) := by decide +kernel
theorem dJ9_min_7cf53_2 : decode cJ9_min_7cf53 2 = .ok (.if_icmp .gt 7, 3) := by decide +kernel
theorem dJ9_min_7cf53_5 : decode cJ9_min_7cf53 5 = .ok (.iload_n 0, 1) := by decide +kernel
theorem dJ9_min_7cf53_6 : decode cJ9_min_7cf53 6 = .ok (.goto 4, 3) := by decide +kernel
theorem dJ9_min_7cf53_9 : decode cJ9_min_7cf53 9 = .ok (.iload_n 1, 1) := by decide +kernel
theorem dJ9_min_7cf53_10 : decode cJ9_min_7cf53 10 = .ok (.ireturn, 1) := by decide +kernel
