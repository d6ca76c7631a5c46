theorem dX9_isWeight_0 : decode cX9_isWeight 0 = .ok (.iload_n 0, 1) := by decide +kernel
theorem dX9_isWeight_1 : decode cX9_isWeight 1 = .ok (.iconst 1, 1) := by decide +kernel
theorem dX9_isWeight_2 : decode cX9_isWeight 2 = .ok (.if_icmp .lt 13, 3) := by decide +kernel
theorem dX9_isWeight_15 : decode cX9_isWeight 15 = .ok (.iconst 0, 1) := by decide +kernel
theorem dX9_isWeight_16 : decode cX9_isWeight 16 = .ok (.ireturn, 1) := by decide +kernel
theorem dX9_isWeight_5 : decode cX9_isWeight 5 = .ok (.iload_n 0, 1) := by decide +kernel
theorem dX9_isWeight_6 : decode cX9_isWeight 6 = .ok (.bipush 9, 2) := by decide +kernel
theorem dX9_isWeight_8 : decode cX9_isWeight 8 = .ok (.if_icmp .gt 7, 3) := by decide +kernel
theorem dX9_isWeight_11 : decode cX9_isWeight 11 = .ok (.iconst 1, 1) := by decide +kernel
theorem dX9_isWeight_12 : decode cX9_isWeight 12 = .ok (.goto 4, 3) := by decide +kernel
theorem dX9_isPace_0 : decode cX9_isPace 0 = .ok (.iload_n 0, 1) := by decide +kernel
theorem dX9_isPace_1 : decode cX9_isPace 1 = .ok (.bipush (-9), 2) := by decide +kernel
theorem dX9_isPace_3 : decode cX9_isPace 3 = .ok (.if_icmp .lt 13, 3) := by decide +kernel
theorem dX9_isPace_16 : decode cX9_isPace 16 = .ok (.iconst 0, 1) := by decide +kernel
theorem dX9_isPace_17 : decode cX9_isPace 17 = .ok (.ireturn, 1) := by decide +kernel
theorem dX9_isPace_6 : decode cX9_isPace 6 = .ok (.iload_n 0, 1) := by decide +kernel
theorem dX9_isPace_7 : decode cX9_isPace 7 = .ok (.bipush 9, 2) := by decide +kernel
theorem dX9_isPace_9 : decode cX9_isPace 9 = .ok (.if_icmp .gt 7, 3) := by decide +kernel
theorem dX9_isPace_12 : decode cX9_isPace 12 = .ok (.iconst 1, 1) := by decide +kernel
theorem dX9_isPace_13 : decode cX9_isPace 13 = .ok (.goto 4, 3) := by decide +kernel
theorem dX9_isShelf_0 : decode cX9_isShelf 0 = .ok (.iload_n 0, 1) := by decide +kernel
theorem dX9_isShelf_1 : decode cX9_isShelf 1 = .ok (.ifCond .lt 13, 3) := by decide +kernel
theorem dX9_isShelf_14 : decode cX9_isShelf 14 = .ok (.iconst 0, 1) := by decide +kernel
theorem dX9_isShelf_15 : decode cX9_isShelf 15 = .ok (.ireturn, 1) := by decide +kernel
theorem dX9_isShelf_4 : decode cX9_isShelf 4 = .ok (.iload_n 0, 1) := by decide +kernel
theorem dX9_isShelf_5 : decode cX9_isShelf 5 = .ok (.bipush 6, 2) := by decide +kernel
theorem dX9_isShelf_7 : decode cX9_isShelf 7 = .ok (.if_icmp .ge 7, 3) := by decide +kernel
theorem dX9_isShelf_10 : decode cX9_isShelf 10 = .ok (.iconst 1, 1) := by decide +kernel
theorem dX9_isShelf_11 : decode cX9_isShelf 11 = .ok (.goto 4, 3) := by decide +kernel
theorem dX9_isGirl_0 : decode cX9_isGirl 0 = .ok (.iload_n 0, 1) := by decide +kernel
theorem dX9_isGirl_1 : decode cX9_isGirl 1 = .ok (.ifCond .lt 13, 3) := by decide +kernel
theorem dX9_isGirl_14 : decode cX9_isGirl 14 = .ok (.iconst 0, 1) := by decide +kernel
theorem dX9_isGirl_15 : decode cX9_isGirl 15 = .ok (.ireturn, 1) := by decide +kernel
theorem dX9_isGirl_4 : decode cX9_isGirl 4 = .ok (.iload_n 0, 1) := by decide +kernel
theorem dX9_isGirl_5 : decode cX9_isGirl 5 = .ok (.bipush 25, 2) := by decide +kernel
theorem dX9_isGirl_7 : decode cX9_isGirl 7 = .ok (.if_icmp .ge 7, 3) := by decide +kernel
theorem dX9_isGirl_10 : decode cX9_isGirl 10 = .ok (.iconst 1, 1) := by decide +kernel
theorem dX9_isGirl_11 : decode cX9_isGirl 11 = .ok (.goto 4, 3) := by decide +kernel
theorem dX9_isSkill_0 : decode cX9_isSkill 0 = .ok (.iload_n 0, 1) := by decide +kernel
theorem dX9_isSkill_1 : decode cX9_isSkill 1 = .ok (.ifCond .lt 13, 3) := by decide +kernel
theorem dX9_isSkill_14 : decode cX9_isSkill 14 = .ok (.iconst 0, 1) := by decide +kernel
theorem dX9_isSkill_15 : decode cX9_isSkill 15 = .ok (.ireturn, 1) := by decide +kernel
theorem dX9_isSkill_4 : decode cX9_isSkill 4 = .ok (.iload_n 0, 1) := by decide +kernel
theorem dX9_isSkill_5 : decode cX9_isSkill 5 = .ok (.bipush 12, 2) := by decide +kernel
theorem dX9_isSkill_7 : decode cX9_isSkill 7 = .ok (.if_icmp .gt 7, 3) := by decide +kernel
theorem dX9_isSkill_10 : decode cX9_isSkill 10 = .ok (.iconst 1, 1) := by decide +kernel
theorem dX9_isSkill_11 : decode cX9_isSkill 11 = .ok (.goto 4, 3) := by decide +kernel
theorem dX9_isMinutes_0 : decode cX9_isMinutes 0 = .ok (.iload_n 0, 1) := by decide +kernel
theorem dX9_isMinutes_1 : decode cX9_isMinutes 1 = .ok (.iconst 1, 1) := by decide +kernel
theorem dX9_isMinutes_2 : decode cX9_isMinutes 2 = .ok (.if_icmp .lt 13, 3) := by decide +kernel
theorem dX9_isMinutes_15 : decode cX9_isMinutes 15 = .ok (.iconst 0, 1) := by decide +kernel
theorem dX9_isMinutes_16 : decode cX9_isMinutes 16 = .ok (.ireturn, 1) := by decide +kernel
theorem dX9_isMinutes_5 : decode cX9_isMinutes 5 = .ok (.iload_n 0, 1) := by decide +kernel
theorem dX9_isMinutes_6 : decode cX9_isMinutes 6 = .ok (.bipush 30, 2) := by decide +kernel
theorem dX9_isMinutes_8 : decode cX9_isMinutes 8 = .ok (.if_icmp .gt 7, 3) := by decide +kernel
theorem dX9_isMinutes_11 : decode cX9_isMinutes 11 = .ok (.iconst 1, 1) := by decide +kernel
theorem dX9_isMinutes_12 : decode cX9_isMinutes 12 = .ok (.goto 4, 3) := by decide +kernel
theorem dX9_isKind_0 : decode cX9_isKind 0 = .ok (.iload_n 0, 1) := by decide +kernel
theorem dX9_isKind_1 : decode cX9_isKind 1 = .ok (.ifCond .lt 13, 3) := by decide +kernel
theorem dX9_isKind_14 : decode cX9_isKind 14 = .ok (.iconst 0, 1) := by decide +kernel
theorem dX9_isKind_15 : decode cX9_isKind 15 = .ok (.ireturn, 1) := by decide +kernel
theorem dX9_isKind_4 : decode cX9_isKind 4 = .ok (.iload_n 0, 1) := by decide +kernel
theorem dX9_isKind_5 : decode cX9_isKind 5 = .ok (.bipush 8, 2) := by decide +kernel
theorem dX9_isKind_7 : decode cX9_isKind 7 = .ok (.if_icmp .ge 7, 3) := by decide +kernel
theorem dX9_isKind_10 : decode cX9_isKind 10 = .ok (.iconst 1, 1) := by decide +kernel
theorem dX9_isKind_11 : decode cX9_isKind 11 = .ok (.goto 4, 3) := by decide +kernel
theorem dX6_isSort_0 : decode cX6_isSort 0 = .ok (.iload_n 0, 1) := by decide +kernel
theorem dX6_isSort_1 : decode cX6_isSort 1 = .ok (.ifCond .lt 12, 3) := by decide +kernel
theorem dX6_isSort_13 : decode cX6_isSort 13 = .ok (.iconst 0, 1) := by decide +kernel
theorem dX6_isSort_14 : decode cX6_isSort 14 = .ok (.ireturn, 1) := by decide +kernel
theorem dX6_isSort_4 : decode cX6_isSort 4 = .ok (.iload_n 0, 1) := by decide +kernel
theorem dX6_isSort_5 : decode cX6_isSort 5 = .ok (.iconst 4, 1) := by decide +kernel
theorem dX6_isSort_6 : decode cX6_isSort 6 = .ok (.if_icmp .gt 7, 3) := by decide +kernel
theorem dX6_isSort_9 : decode cX6_isSort 9 = .ok (.iconst 1, 1) := by decide +kernel
theorem dX6_isSort_10 : decode cX6_isSort 10 = .ok (.goto 4, 3) := by decide +kernel
theorem dX9_rest_0 : decode cX9_rest 0 = .ok (.iload_n 1, 1) := by decide +kernel
theorem dX9_rest_1 : decode cX9_rest 1 = .ok (.ifCond .ne 7, 3) := by decide +kernel
theorem dX9_rest_8 : decode cX9_rest 8 = .ok (.iload_n 0, 1) := by decide +kernel
theorem dX9_rest_9 : decode cX9_rest 9 = .ok (.iload_n 1, 1) := by decide +kernel
theorem dX9_rest_10 : decode cX9_rest 10 = .ok (.irem, 1) := by decide +kernel
theorem dX9_rest_11 : decode cX9_rest 11 = .ok (.ireturn, 1) := by decide +kernel
theorem dX9_rest_4 : decode cX9_rest 4 = .ok (.iconst 0, 1) := by decide +kernel
theorem dX9_rest_5 : decode cX9_rest 5 = .ok (.goto 6, 3) := by decide +kernel
theorem dX9_goalOf_0 : decode cX9_goalOf 0 = .ok (.iload_n 0, 1) := by decide +kernel
theorem dX9_goalOf_1 : decode cX9_goalOf 1 = .ok (.iconst 2, 1) := by decide +kernel
theorem dX9_goalOf_2 : decode cX9_goalOf 2 = .ok (.irem, 1) := by decide +kernel
theorem dX9_goalOf_3 : decode cX9_goalOf 3 = .ok (.ifCond .ne 7, 3) := by decide +kernel
theorem dX9_goalOf_10 : decode cX9_goalOf 10 = .ok (.bipush 12, 2) := by decide +kernel
theorem dX9_goalOf_12 : decode cX9_goalOf 12 = .ok (.ireturn, 1) := by decide +kernel
theorem dX9_goalOf_6 : decode cX9_goalOf 6 = .ok (.iconst 0, 1) := by decide +kernel
theorem dX9_goalOf_7 : decode cX9_goalOf 7 = .ok (.goto 5, 3) := by decide +kernel
theorem dX9_within_0 : decode cX9_within 0 = .ok (.iload_n 1, 1) := by decide +kernel
theorem dX9_within_1 : decode cX9_within 1 = .ok (.iload_n 2, 1) := by decide +kernel
theorem dX9_within_2 : decode cX9_within 2 = .ok (.iload_n 0, 1) := by decide +kernel
theorem dX9_within_3 : decode cX9_within 3 = .ok (.invokestatic 232, 3) := by decide +kernel
theorem dX9_within_6 : decode cX9_within 6 = .ok (.invokestatic 291, 3) := by decide +kernel
theorem dX9_within_9 : decode cX9_within 9 = .ok (.ireturn, 1) := by decide +kernel
theorem dX2_lies_0 : decode cX2_lies 0 = .ok (.aload_n 0, 1) := by decide +kernel
theorem dX2_lies_1 : decode cX2_lies 1 = .ok (.getfield 28, 3) := by decide +kernel
theorem dX2_lies_4 : decode cX2_lies 4 = .ok (.ifCond .ne 7, 3) := by decide +kernel
theorem dX2_lies_11 : decode cX2_lies 11 = .ok (.iconst 0, 1) := by decide +kernel
theorem dX2_lies_12 : decode cX2_lies 12 = .ok (.ireturn, 1) := by decide +kernel
theorem dX2_lies_7 : decode cX2_lies 7 = .ok (.iconst 1, 1) := by decide +kernel
theorem dX2_lies_8 : decode cX2_lies 8 = .ok (.goto 4, 3) := by decide +kernel
theorem dX2_need_0 : decode cX2_need 0 = .ok (.bipush 10, 2) := by decide +kernel
theorem dX2_need_2 : decode cX2_need 2 = .ok (.aload_n 0, 1) := by decide +kernel
theorem dX2_need_3 : decode cX2_need 3 = .ok (.getfield 9, 3) := by decide +kernel
theorem dX2_need_6 : decode cX2_need 6 = .ok (.isub, 1) := by decide +kernel
theorem dX2_need_7 : decode cX2_need 7 = .ok (.iconst 2, 1) := by decide +kernel
theorem dX2_need_8 : decode cX2_need 8 = .ok (.idiv, 1) := by decide +kernel
theorem dX2_need_9 : decode cX2_need 9 = .ok (.iconst 1, 1) := by decide +kernel
theorem dX2_need_10 : decode cX2_need 10 = .ok (.iadd, 1) := by decide +kernel
theorem dX2_need_11 : decode cX2_need 11 = .ok (.ireturn, 1) := by decide +kernel
theorem dX2_speed_0 : decode cX2_speed 0 = .ok (.aload_n 0, 1) := by decide +kernel
theorem dX2_speed_1 : decode cX2_speed 1 = .ok (.getfield 25, 3) := by decide +kernel
theorem dX2_speed_4 : decode cX2_speed 4 = .ok (.invokestatic 31, 3) := by decide +kernel
theorem dX2_speed_7 : decode cX2_speed 7 = .ok (.ireturn, 1) := by decide +kernel
theorem dX2_told_0 : decode cX2_told 0 = .ok (.iload_n 1, 1) := by decide +kernel
theorem dX2_told_1 : decode cX2_told 1 = .ok (.tableswitch 69 0 5 #[39, 44, 49, 54, 59, 64], 39) := by decide +kernel
theorem dX2_told_40 : decode cX2_told 40 = .ok (.aload_n 0, 1) := by decide +kernel
theorem dX2_told_41 : decode cX2_told 41 = .ok (.getfield 9, 3) := by decide +kernel
theorem dX2_told_44 : decode cX2_told 44 = .ok (.ireturn, 1) := by decide +kernel
theorem dX2_told_45 : decode cX2_told 45 = .ok (.aload_n 0, 1) := by decide +kernel
theorem dX2_told_46 : decode cX2_told 46 = .ok (.getfield 15, 3) := by decide +kernel
theorem dX2_told_49 : decode cX2_told 49 = .ok (.ireturn, 1) := by decide +kernel
theorem dX2_told_50 : decode cX2_told 50 = .ok (.aload_n 0, 1) := by decide +kernel
theorem dX2_told_51 : decode cX2_told 51 = .ok (.getfield 25, 3) := by decide +kernel
theorem dX2_told_54 : decode cX2_told 54 = .ok (.ireturn, 1) := by decide +kernel
theorem dX2_told_55 : decode cX2_told 55 = .ok (.aload_n 0, 1) := by decide +kernel
theorem dX2_told_56 : decode cX2_told 56 = .ok (.getfield 22, 3) := by decide +kernel
theorem dX2_told_59 : decode cX2_told 59 = .ok (.ireturn, 1) := by decide +kernel
theorem dX2_told_60 : decode cX2_told 60 = .ok (.aload_n 0, 1) := by decide +kernel
theorem dX2_told_61 : decode cX2_told 61 = .ok (.getfield 28, 3) := by decide +kernel
theorem dX2_told_64 : decode cX2_told 64 = .ok (.ireturn, 1) := by decide +kernel
theorem dX2_told_65 : decode cX2_told 65 = .ok (.aload_n 0, 1) := by decide +kernel
theorem dX2_told_66 : decode cX2_told 66 = .ok (.invokevirtual 37, 3) := by decide +kernel
theorem dX2_told_69 : decode cX2_told 69 = .ok (.ireturn, 1) := by decide +kernel
theorem dX2_told_70 : decode cX2_told 70 = .ok (.ldc 41, 2) := by decide +kernel
theorem dX2_told_72 : decode cX2_told 72 = .ok (.ireturn, 1) := by decide +kernel
theorem dX2_become_0 : decode cX2_become 0 = .ok (.iload_n 1, 1) := by decide +kernel
theorem dX2_become_1 : decode cX2_become 1 = .ok (.tableswitch 62 0 2 #[27, 35, 43], 27) := by decide +kernel
theorem dX2_become_28 : decode cX2_become 28 = .ok (.aload_n 0, 1) := by decide +kernel
theorem dX2_become_29 : decode cX2_become 29 = .ok (.iload_n 2, 1) := by decide +kernel
theorem dX2_become_30 : decode cX2_become 30 = .ok (.putfield 9, 3) := by decide +kernel
theorem dX2_become_33 : decode cX2_become 33 = .ok (.goto 30, 3) := by decide +kernel
theorem dX2_become_63 : decode cX2_become 63 = .ok (.return_, 1) := by decide +kernel
theorem dX2_become_36 : decode cX2_become 36 = .ok (.aload_n 0, 1) := by decide +kernel
theorem dX2_become_37 : decode cX2_become 37 = .ok (.iload_n 2, 1) := by decide +kernel
theorem dX2_become_38 : decode cX2_become 38 = .ok (.putfield 15, 3) := by decide +kernel
theorem dX2_become_41 : decode cX2_become 41 = .ok (.goto 22, 3) := by decide +kernel
theorem dX2_become_44 : decode cX2_become 44 = .ok (.aload_n 0, 1) := by decide +kernel
theorem dX2_become_45 : decode cX2_become 45 = .ok (.aload_n 0, 1) := by decide +kernel
theorem dX2_become_46 : decode cX2_become 46 = .ok (.invokevirtual 42, 3) := by decide +kernel
theorem dX2_become_49 : decode cX2_become 49 = .ok (.ifCond .eq 7, 3) := by decide +kernel
theorem dX2_become_56 : decode cX2_become 56 = .ok (.iload_n 2, 1) := by decide +kernel
theorem dX2_become_57 : decode cX2_become 57 = .ok (.putfield 25, 3) := by decide +kernel
theorem dX2_become_60 : decode cX2_become 60 = .ok (.goto 3, 3) := by decide +kernel
theorem dX2_become_52 : decode cX2_become 52 = .ok (.iconst 0, 1) := by decide +kernel
theorem dX2_become_53 : decode cX2_become 53 = .ok (.goto 4, 3) := by decide +kernel
theorem dX2_raise_0 : decode cX2_raise 0 = .ok (.aload_n 0, 1) := by decide +kernel
theorem dX2_raise_1 : decode cX2_raise 1 = .ok (.iconst 0, 1) := by decide +kernel
theorem dX2_raise_2 : decode cX2_raise 2 = .ok (.putfield 22, 3) := by decide +kernel
theorem dX2_raise_5 : decode cX2_raise 5 = .ok (.aload_n 0, 1) := by decide +kernel
theorem dX2_raise_6 : decode cX2_raise 6 = .ok (.iconst 4, 1) := by decide +kernel
theorem dX2_raise_7 : decode cX2_raise 7 = .ok (.putfield 25, 3) := by decide +kernel
theorem dX2_raise_10 : decode cX2_raise 10 = .ok (.aload_n 0, 1) := by decide +kernel
theorem dX2_raise_11 : decode cX2_raise 11 = .ok (.bipush 20, 2) := by decide +kernel
theorem dX2_raise_13 : decode cX2_raise 13 = .ok (.putfield 28, 3) := by decide +kernel
theorem dX2_raise_16 : decode cX2_raise 16 = .ok (.return_, 1) := by decide +kernel
theorem dX2_drop_0 : decode cX2_drop 0 = .ok (.aload_n 0, 1) := by decide +kernel
theorem dX2_drop_1 : decode cX2_drop 1 = .ok (.iconst 0, 1) := by decide +kernel
theorem dX2_drop_2 : decode cX2_drop 2 = .ok (.putfield 25, 3) := by decide +kernel
theorem dX2_drop_5 : decode cX2_drop 5 = .ok (.aload_n 0, 1) := by decide +kernel
theorem dX2_drop_6 : decode cX2_drop 6 = .ok (.iconst 0, 1) := by decide +kernel
theorem dX2_drop_7 : decode cX2_drop 7 = .ok (.putfield 28, 3) := by decide +kernel
theorem dX2_drop_10 : decode cX2_drop 10 = .ok (.return_, 1) := by decide +kernel
theorem dX2_farFrom_0 : decode cX2_farFrom 0 = .ok (.aload_n 0, 1) := by decide +kernel
theorem dX2_farFrom_1 : decode cX2_farFrom 1 = .ok (.getfield 22, 3) := by decide +kernel
theorem dX2_farFrom_4 : decode cX2_farFrom 4 = .ok (.iload_n 1, 1) := by decide +kernel
theorem dX2_farFrom_5 : decode cX2_farFrom 5 = .ok (.isub, 1) := by decide +kernel
theorem dX2_farFrom_6 : decode cX2_farFrom 6 = .ok (.bipush 24, 2) := by decide +kernel
theorem dX2_farFrom_8 : decode cX2_farFrom 8 = .ok (.invokestatic 46, 3) := by decide +kernel
theorem dX2_farFrom_11 : decode cX2_farFrom 11 = .ok (.istore_n 2, 1) := by decide +kernel
theorem dX2_farFrom_12 : decode cX2_farFrom 12 = .ok (.iload_n 2, 1) := by decide +kernel
theorem dX2_farFrom_13 : decode cX2_farFrom 13 = .ok (.bipush 24, 2) := by decide +kernel
theorem dX2_farFrom_15 : decode cX2_farFrom 15 = .ok (.iload_n 2, 1) := by decide +kernel
theorem dX2_farFrom_16 : decode cX2_farFrom 16 = .ok (.isub, 1) := by decide +kernel
theorem dX2_farFrom_17 : decode cX2_farFrom 17 = .ok (.invokestatic 50, 3) := by decide +kernel
theorem dX2_farFrom_20 : decode cX2_farFrom 20 = .ok (.ireturn, 1) := by decide +kernel
theorem dX2_quicken_0 : decode cX2_quicken 0 = .ok (.aload_n 0, 1) := by decide +kernel
theorem dX2_quicken_1 : decode cX2_quicken 1 = .ok (.invokevirtual 53, 3) := by decide +kernel
theorem dX2_quicken_4 : decode cX2_quicken 4 = .ok (.iload_n 1, 1) := by decide +kernel
theorem dX2_quicken_5 : decode cX2_quicken 5 = .ok (.iadd, 1) := by decide +kernel
theorem dX2_quicken_6 : decode cX2_quicken 6 = .ok (.iconst 0, 1) := by decide +kernel
theorem dX2_quicken_7 : decode cX2_quicken 7 = .ok (.bipush 9, 2) := by decide +kernel
theorem dX2_quicken_9 : decode cX2_quicken 9 = .ok (.invokestatic 56, 3) := by decide +kernel
theorem dX2_quicken_12 : decode cX2_quicken 12 = .ok (.istore_n 2, 1) := by decide +kernel
theorem dX2_quicken_13 : decode cX2_quicken 13 = .ok (.aload_n 0, 1) := by decide +kernel
theorem dX2_quicken_14 : decode cX2_quicken 14 = .ok (.aload_n 0, 1) := by decide +kernel
theorem dX2_quicken_15 : decode cX2_quicken 15 = .ok (.getfield 25, 3) := by decide +kernel
theorem dX2_quicken_18 : decode cX2_quicken 18 = .ok (.ifCond .ge 8, 3) := by decide +kernel
theorem dX2_quicken_26 : decode cX2_quicken 26 = .ok (.iload_n 2, 1) := by decide +kernel
theorem dX2_quicken_27 : decode cX2_quicken 27 = .ok (.putfield 25, 3) := by decide +kernel
theorem dX2_quicken_30 : decode cX2_quicken 30 = .ok (.return_, 1) := by decide +kernel
theorem dX2_quicken_21 : decode cX2_quicken 21 = .ok (.iload_n 2, 1) := by decide +kernel
theorem dX2_quicken_22 : decode cX2_quicken 22 = .ok (.ineg, 1) := by decide +kernel
theorem dX2_quicken_23 : decode cX2_quicken 23 = .ok (.goto 4, 3) := by decide +kernel
theorem dX2_move_0 : decode cX2_move 0 = .ok (.aload_n 0, 1) := by decide +kernel
theorem dX2_move_1 : decode cX2_move 1 = .ok (.aload_n 0, 1) := by decide +kernel
theorem dX2_move_2 : decode cX2_move 2 = .ok (.getfield 22, 3) := by decide +kernel
theorem dX2_move_5 : decode cX2_move 5 = .ok (.aload_n 0, 1) := by decide +kernel
theorem dX2_move_6 : decode cX2_move 6 = .ok (.getfield 25, 3) := by decide +kernel
theorem dX2_move_9 : decode cX2_move 9 = .ok (.iadd, 1) := by decide +kernel
theorem dX2_move_10 : decode cX2_move 10 = .ok (.bipush 24, 2) := by decide +kernel
theorem dX2_move_12 : decode cX2_move 12 = .ok (.invokestatic 46, 3) := by decide +kernel
theorem dX2_move_15 : decode cX2_move 15 = .ok (.putfield 22, 3) := by decide +kernel
theorem dX2_move_18 : decode cX2_move 18 = .ok (.return_, 1) := by decide +kernel
theorem dX2_sankToLie_0 : decode cX2_sankToLie 0 = .ok (.aload_n 0, 1) := by decide +kernel
theorem dX2_sankToLie_1 : decode cX2_sankToLie 1 = .ok (.invokevirtual 42, 3) := by decide +kernel
theorem dX2_sankToLie_4 : decode cX2_sankToLie 4 = .ok (.ifCond .eq 5, 3) := by decide +kernel
theorem dX2_sankToLie_9 : decode cX2_sankToLie 9 = .ok (.aload_n 0, 1) := by decide +kernel
theorem dX2_sankToLie_10 : decode cX2_sankToLie 10 = .ok (.aload_n 0, 1) := by decide +kernel
theorem dX2_sankToLie_11 : decode cX2_sankToLie 11 = .ok (.invokevirtual 53, 3) := by decide +kernel
theorem dX2_sankToLie_14 : decode cX2_sankToLie 14 = .ok (.aload_n 0, 1) := by decide +kernel
theorem dX2_sankToLie_15 : decode cX2_sankToLie 15 = .ok (.invokevirtual 37, 3) := by decide +kernel
theorem dX2_sankToLie_18 : decode cX2_sankToLie 18 = .ok (.if_icmp .lt 17, 3) := by decide +kernel
theorem dX2_sankToLie_35 : decode cX2_sankToLie 35 = .ok (.iconst 0, 1) := by decide +kernel
theorem dX2_sankToLie_36 : decode cX2_sankToLie 36 = .ok (.aload_n 0, 1) := by decide +kernel
theorem dX2_sankToLie_37 : decode cX2_sankToLie 37 = .ok (.getfield 28, 3) := by decide +kernel
theorem dX2_sankToLie_40 : decode cX2_sankToLie 40 = .ok (.iconst 2, 1) := by decide +kernel
theorem dX2_sankToLie_41 : decode cX2_sankToLie 41 = .ok (.isub, 1) := by decide +kernel
theorem dX2_sankToLie_42 : decode cX2_sankToLie 42 = .ok (.invokestatic 60, 3) := by decide +kernel
theorem dX2_sankToLie_45 : decode cX2_sankToLie 45 = .ok (.putfield 28, 3) := by decide +kernel
theorem dX2_sankToLie_48 : decode cX2_sankToLie 48 = .ok (.aload_n 0, 1) := by decide +kernel
theorem dX2_sankToLie_49 : decode cX2_sankToLie 49 = .ok (.invokevirtual 42, 3) := by decide +kernel
theorem dX2_sankToLie_52 : decode cX2_sankToLie 52 = .ok (.ifCond .eq 8, 3) := by decide +kernel
theorem dX2_sankToLie_60 : decode cX2_sankToLie 60 = .ok (.aload_n 0, 1) := by decide +kernel
theorem dX2_sankToLie_61 : decode cX2_sankToLie 61 = .ok (.invokevirtual 42, 3) := by decide +kernel
theorem dX2_sankToLie_64 : decode cX2_sankToLie 64 = .ok (.ireturn, 1) := by decide +kernel
theorem dX2_sankToLie_55 : decode cX2_sankToLie 55 = .ok (.aload_n 0, 1) := by decide +kernel
theorem dX2_sankToLie_56 : decode cX2_sankToLie 56 = .ok (.iconst 0, 1) := by decide +kernel
theorem dX2_sankToLie_57 : decode cX2_sankToLie 57 = .ok (.putfield 25, 3) := by decide +kernel
theorem dX2_sankToLie_21 : decode cX2_sankToLie 21 = .ok (.bipush 20, 2) := by decide +kernel
theorem dX2_sankToLie_23 : decode cX2_sankToLie 23 = .ok (.aload_n 0, 1) := by decide +kernel
theorem dX2_sankToLie_24 : decode cX2_sankToLie 24 = .ok (.getfield 28, 3) := by decide +kernel
theorem dX2_sankToLie_27 : decode cX2_sankToLie 27 = .ok (.iconst 1, 1) := by decide +kernel
theorem dX2_sankToLie_28 : decode cX2_sankToLie 28 = .ok (.iadd, 1) := by decide +kernel
theorem dX2_sankToLie_29 : decode cX2_sankToLie 29 = .ok (.invokestatic 50, 3) := by decide +kernel
theorem dX2_sankToLie_32 : decode cX2_sankToLie 32 = .ok (.goto 13, 3) := by decide +kernel
theorem dX2_sankToLie_7 : decode cX2_sankToLie 7 = .ok (.iconst 0, 1) := by decide +kernel
theorem dX2_sankToLie_8 : decode cX2_sankToLie 8 = .ok (.ireturn, 1) := by decide +kernel
theorem dX2_copyWay_0 : decode cX2_copyWay 0 = .ok (.aload_n 0, 1) := by decide +kernel
theorem dX2_copyWay_1 : decode cX2_copyWay 1 = .ok (.aload_n 1, 1) := by decide +kernel
theorem dX2_copyWay_2 : decode cX2_copyWay 2 = .ok (.getfield 22, 3) := by decide +kernel
theorem dX2_copyWay_5 : decode cX2_copyWay 5 = .ok (.putfield 22, 3) := by decide +kernel
theorem dX2_copyWay_8 : decode cX2_copyWay 8 = .ok (.aload_n 0, 1) := by decide +kernel
theorem dX2_copyWay_9 : decode cX2_copyWay 9 = .ok (.aload_n 1, 1) := by decide +kernel
theorem dX2_copyWay_10 : decode cX2_copyWay 10 = .ok (.getfield 25, 3) := by decide +kernel
theorem dX2_copyWay_13 : decode cX2_copyWay 13 = .ok (.putfield 25, 3) := by decide +kernel
theorem dX2_copyWay_16 : decode cX2_copyWay 16 = .ok (.aload_n 0, 1) := by decide +kernel
theorem dX2_copyWay_17 : decode cX2_copyWay 17 = .ok (.aload_n 1, 1) := by decide +kernel
theorem dX2_copyWay_18 : decode cX2_copyWay 18 = .ok (.getfield 28, 3) := by decide +kernel
theorem dX2_copyWay_21 : decode cX2_copyWay 21 = .ok (.putfield 28, 3) := by decide +kernel
theorem dX2_copyWay_24 : decode cX2_copyWay 24 = .ok (.return_, 1) := by decide +kernel
theorem dX2_copy_0 : decode cX2_copy 0 = .ok (.aload_n 0, 1) := by decide +kernel
theorem dX2_copy_1 : decode cX2_copy 1 = .ok (.aload_n 1, 1) := by decide +kernel
theorem dX2_copy_2 : decode cX2_copy 2 = .ok (.getfield 9, 3) := by decide +kernel
theorem dX2_copy_5 : decode cX2_copy 5 = .ok (.putfield 9, 3) := by decide +kernel
theorem dX2_copy_8 : decode cX2_copy 8 = .ok (.aload_n 0, 1) := by decide +kernel
theorem dX2_copy_9 : decode cX2_copy 9 = .ok (.aload_n 1, 1) := by decide +kernel
theorem dX2_copy_10 : decode cX2_copy 10 = .ok (.getfield 15, 3) := by decide +kernel
theorem dX2_copy_13 : decode cX2_copy 13 = .ok (.putfield 15, 3) := by decide +kernel
theorem dX2_copy_16 : decode cX2_copy 16 = .ok (.aload_n 0, 1) := by decide +kernel
theorem dX2_copy_17 : decode cX2_copy 17 = .ok (.aload_n 1, 1) := by decide +kernel
theorem dX2_copy_18 : decode cX2_copy 18 = .ok (.invokevirtual 18, 3) := by decide +kernel
theorem dX2_copy_21 : decode cX2_copy 21 = .ok (.return_, 1) := by decide +kernel
set_option maxRecDepth 100000 in
set_option maxHeartbeats 4000000 in
theorem c_X9_isWeight (v : Int32) {l : Launch} {G : xG} {sh : List xS} {M : xM} {J : xJ} : x_M l G fX9_isWeight 0 0 0 [.int (v)] sh M J (qE (some (.int (bI (1 ≤ v ∧ v ≤ 9)))) sh M J) := by
  refine xb_of pX9 (Nat.le_of_ble_eq_true rfl) rfl ?_
  refine xr_iload_n dX9_isWeight_0 0 rfl ?_
  refine xr_iconst (v := 1) dX9_isWeight_1 rfl ?_
  refine xr_icmp_lt (tgt := 15) dX9_isWeight_2 rfl (fun c1 => ?_) (fun c1 => ?_)
  · refine xr_iconst (v := 0) dX9_isWeight_15 rfl ?_
    exact xr_iret dX9_isWeight_16 rfl rfl (⟨congrArg (fun z => some (Value.int z)) (bI_f (by grind)).symm, rfl, rfl, rfl⟩)
  · refine xr_iload_n dX9_isWeight_5 0 rfl ?_
    refine xr_bipush (v := 9) dX9_isWeight_6 rfl ?_
    refine xr_icmp_gt (tgt := 15) dX9_isWeight_8 rfl (fun c2 => ?_) (fun c2 => ?_)
    · refine xr_iconst (v := 0) dX9_isWeight_15 rfl ?_
      exact xr_iret dX9_isWeight_16 rfl rfl (⟨congrArg (fun z => some (Value.int z)) (bI_f (by grind)).symm, rfl, rfl, rfl⟩)
    · refine xr_iconst (v := 1) dX9_isWeight_11 rfl ?_
      refine xr_goto (tgt := 16) dX9_isWeight_12 rfl ?_
      exact xr_iret dX9_isWeight_16 rfl rfl (⟨congrArg (fun z => some (Value.int z)) (bI_t (by grind)).symm, rfl, rfl, rfl⟩)
set_option maxRecDepth 100000 in
set_option maxHeartbeats 4000000 in
theorem c_X9_isPace (v : Int32) {l : Launch} {G : xG} {sh : List xS} {M : xM} {J : xJ} : x_M l G fX9_isPace 0 0 0 [.int (v)] sh M J (qE (some (.int (bI (-9 ≤ v ∧ v ≤ 9)))) sh M J) := by
  refine xb_of pX9 (Nat.le_of_ble_eq_true rfl) rfl ?_
  refine xr_iload_n dX9_isPace_0 0 rfl ?_
  refine xr_bipush (v := -9) dX9_isPace_1 rfl ?_
  refine xr_icmp_lt (tgt := 16) dX9_isPace_3 rfl (fun c1 => ?_) (fun c1 => ?_)
  · refine xr_iconst (v := 0) dX9_isPace_16 rfl ?_
    exact xr_iret dX9_isPace_17 rfl rfl (⟨congrArg (fun z => some (Value.int z)) (bI_f (by grind)).symm, rfl, rfl, rfl⟩)
  · refine xr_iload_n dX9_isPace_6 0 rfl ?_
    refine xr_bipush (v := 9) dX9_isPace_7 rfl ?_
    refine xr_icmp_gt (tgt := 16) dX9_isPace_9 rfl (fun c2 => ?_) (fun c2 => ?_)
    · refine xr_iconst (v := 0) dX9_isPace_16 rfl ?_
      exact xr_iret dX9_isPace_17 rfl rfl (⟨congrArg (fun z => some (Value.int z)) (bI_f (by grind)).symm, rfl, rfl, rfl⟩)
    · refine xr_iconst (v := 1) dX9_isPace_12 rfl ?_
      refine xr_goto (tgt := 17) dX9_isPace_13 rfl ?_
      exact xr_iret dX9_isPace_17 rfl rfl (⟨congrArg (fun z => some (Value.int z)) (bI_t (by grind)).symm, rfl, rfl, rfl⟩)
set_option maxRecDepth 100000 in
set_option maxHeartbeats 4000000 in
theorem c_X9_isShelf (v : Int32) {l : Launch} {G : xG} {sh : List xS} {M : xM} {J : xJ} : x_M l G fX9_isShelf 0 0 0 [.int (v)] sh M J (qE (some (.int (bI (0 ≤ v ∧ v < 6)))) sh M J) := by
  refine xb_of pX9 (Nat.le_of_ble_eq_true rfl) rfl ?_
  refine xr_iload_n dX9_isShelf_0 0 rfl ?_
  refine xr_if_lt (tgt := 14) dX9_isShelf_1 rfl (fun c1 => ?_) (fun c1 => ?_)
  · refine xr_iconst (v := 0) dX9_isShelf_14 rfl ?_
    exact xr_iret dX9_isShelf_15 rfl rfl (⟨congrArg (fun z => some (Value.int z)) (bI_f (by grind)).symm, rfl, rfl, rfl⟩)
  · refine xr_iload_n dX9_isShelf_4 0 rfl ?_
    refine xr_bipush (v := 6) dX9_isShelf_5 rfl ?_
    refine xr_icmp_ge (tgt := 14) dX9_isShelf_7 rfl (fun c2 => ?_) (fun c2 => ?_)
    · refine xr_iconst (v := 0) dX9_isShelf_14 rfl ?_
      exact xr_iret dX9_isShelf_15 rfl rfl (⟨congrArg (fun z => some (Value.int z)) (bI_f (by grind)).symm, rfl, rfl, rfl⟩)
    · refine xr_iconst (v := 1) dX9_isShelf_10 rfl ?_
      refine xr_goto (tgt := 15) dX9_isShelf_11 rfl ?_
      exact xr_iret dX9_isShelf_15 rfl rfl (⟨congrArg (fun z => some (Value.int z)) (bI_t (by grind)).symm, rfl, rfl, rfl⟩)
set_option maxRecDepth 100000 in
set_option maxHeartbeats 4000000 in
theorem c_X9_isGirl (v : Int32) {l : Launch} {G : xG} {sh : List xS} {M : xM} {J : xJ} : x_M l G fX9_isGirl 0 0 0 [.int (v)] sh M J (qE (some (.int (bI (0 ≤ v ∧ v < 25)))) sh M J) := by
  refine xb_of pX9 (Nat.le_of_ble_eq_true rfl) rfl ?_
  refine xr_iload_n dX9_isGirl_0 0 rfl ?_
  refine xr_if_lt (tgt := 14) dX9_isGirl_1 rfl (fun c1 => ?_) (fun c1 => ?_)
  · refine xr_iconst (v := 0) dX9_isGirl_14 rfl ?_
    exact xr_iret dX9_isGirl_15 rfl rfl (⟨congrArg (fun z => some (Value.int z)) (bI_f (by grind)).symm, rfl, rfl, rfl⟩)
  · refine xr_iload_n dX9_isGirl_4 0 rfl ?_
    refine xr_bipush (v := 25) dX9_isGirl_5 rfl ?_
    refine xr_icmp_ge (tgt := 14) dX9_isGirl_7 rfl (fun c2 => ?_) (fun c2 => ?_)
    · refine xr_iconst (v := 0) dX9_isGirl_14 rfl ?_
      exact xr_iret dX9_isGirl_15 rfl rfl (⟨congrArg (fun z => some (Value.int z)) (bI_f (by grind)).symm, rfl, rfl, rfl⟩)
    · refine xr_iconst (v := 1) dX9_isGirl_10 rfl ?_
      refine xr_goto (tgt := 15) dX9_isGirl_11 rfl ?_
      exact xr_iret dX9_isGirl_15 rfl rfl (⟨congrArg (fun z => some (Value.int z)) (bI_t (by grind)).symm, rfl, rfl, rfl⟩)
set_option maxRecDepth 100000 in
set_option maxHeartbeats 4000000 in
theorem c_X9_isSkill (v : Int32) {l : Launch} {G : xG} {sh : List xS} {M : xM} {J : xJ} : x_M l G fX9_isSkill 0 0 0 [.int (v)] sh M J (qE (some (.int (bI (0 ≤ v ∧ v ≤ 12)))) sh M J) := by
  refine xb_of pX9 (Nat.le_of_ble_eq_true rfl) rfl ?_
  refine xr_iload_n dX9_isSkill_0 0 rfl ?_
  refine xr_if_lt (tgt := 14) dX9_isSkill_1 rfl (fun c1 => ?_) (fun c1 => ?_)
  · refine xr_iconst (v := 0) dX9_isSkill_14 rfl ?_
    exact xr_iret dX9_isSkill_15 rfl rfl (⟨congrArg (fun z => some (Value.int z)) (bI_f (by grind)).symm, rfl, rfl, rfl⟩)
  · refine xr_iload_n dX9_isSkill_4 0 rfl ?_
    refine xr_bipush (v := 12) dX9_isSkill_5 rfl ?_
    refine xr_icmp_gt (tgt := 14) dX9_isSkill_7 rfl (fun c2 => ?_) (fun c2 => ?_)
    · refine xr_iconst (v := 0) dX9_isSkill_14 rfl ?_
      exact xr_iret dX9_isSkill_15 rfl rfl (⟨congrArg (fun z => some (Value.int z)) (bI_f (by grind)).symm, rfl, rfl, rfl⟩)
    · refine xr_iconst (v := 1) dX9_isSkill_10 rfl ?_
      refine xr_goto (tgt := 15) dX9_isSkill_11 rfl ?_
      exact xr_iret dX9_isSkill_15 rfl rfl (⟨congrArg (fun z => some (Value.int z)) (bI_t (by grind)).symm, rfl, rfl, rfl⟩)
set_option maxRecDepth 100000 in
set_option maxHeartbeats 4000000 in
theorem c_X9_isMinutes (v : Int32) {l : Launch} {G : xG} {sh : List xS} {M : xM} {J : xJ} : x_M l G fX9_isMinutes 0 0 0 [.int (v)] sh M J (qE (some (.int (bI (1 ≤ v ∧ v ≤ 30)))) sh M J) := by
  refine xb_of pX9 (Nat.le_of_ble_eq_true rfl) rfl ?_
  refine xr_iload_n dX9_isMinutes_0 0 rfl ?_
  refine xr_iconst (v := 1) dX9_isMinutes_1 rfl ?_
  refine xr_icmp_lt (tgt := 15) dX9_isMinutes_2 rfl (fun c1 => ?_) (fun c1 => ?_)
  · refine xr_iconst (v := 0) dX9_isMinutes_15 rfl ?_
    exact xr_iret dX9_isMinutes_16 rfl rfl (⟨congrArg (fun z => some (Value.int z)) (bI_f (by grind)).symm, rfl, rfl, rfl⟩)
  · refine xr_iload_n dX9_isMinutes_5 0 rfl ?_
    refine xr_bipush (v := 30) dX9_isMinutes_6 rfl ?_
    refine xr_icmp_gt (tgt := 15) dX9_isMinutes_8 rfl (fun c2 => ?_) (fun c2 => ?_)
    · refine xr_iconst (v := 0) dX9_isMinutes_15 rfl ?_
      exact xr_iret dX9_isMinutes_16 rfl rfl (⟨congrArg (fun z => some (Value.int z)) (bI_f (by grind)).symm, rfl, rfl, rfl⟩)
    · refine xr_iconst (v := 1) dX9_isMinutes_11 rfl ?_
      refine xr_goto (tgt := 16) dX9_isMinutes_12 rfl ?_
      exact xr_iret dX9_isMinutes_16 rfl rfl (⟨congrArg (fun z => some (Value.int z)) (bI_t (by grind)).symm, rfl, rfl, rfl⟩)
set_option maxRecDepth 100000 in
set_option maxHeartbeats 4000000 in
theorem c_X9_isKind (v : Int32) {l : Launch} {G : xG} {sh : List xS} {M : xM} {J : xJ} : x_M l G fX9_isKind 0 0 0 [.int (v)] sh M J (qE (some (.int (bI (0 ≤ v ∧ v < 8)))) sh M J) := by
  refine xb_of pX9 (Nat.le_of_ble_eq_true rfl) rfl ?_
  refine xr_iload_n dX9_isKind_0 0 rfl ?_
  refine xr_if_lt (tgt := 14) dX9_isKind_1 rfl (fun c1 => ?_) (fun c1 => ?_)
  · refine xr_iconst (v := 0) dX9_isKind_14 rfl ?_
    exact xr_iret dX9_isKind_15 rfl rfl (⟨congrArg (fun z => some (Value.int z)) (bI_f (by grind)).symm, rfl, rfl, rfl⟩)
  · refine xr_iload_n dX9_isKind_4 0 rfl ?_
    refine xr_bipush (v := 8) dX9_isKind_5 rfl ?_
    refine xr_icmp_ge (tgt := 14) dX9_isKind_7 rfl (fun c2 => ?_) (fun c2 => ?_)
    · refine xr_iconst (v := 0) dX9_isKind_14 rfl ?_
      exact xr_iret dX9_isKind_15 rfl rfl (⟨congrArg (fun z => some (Value.int z)) (bI_f (by grind)).symm, rfl, rfl, rfl⟩)
    · refine xr_iconst (v := 1) dX9_isKind_10 rfl ?_
      refine xr_goto (tgt := 15) dX9_isKind_11 rfl ?_
      exact xr_iret dX9_isKind_15 rfl rfl (⟨congrArg (fun z => some (Value.int z)) (bI_t (by grind)).symm, rfl, rfl, rfl⟩)
set_option maxRecDepth 100000 in
set_option maxHeartbeats 4000000 in
theorem c_X6_isSort (v : Int32) {l : Launch} {G : xG} {sh : List xS} {M : xM} {J : xJ} : x_M l G fX6_isSort 0 0 0 [.int (v)] sh M J (qE (some (.int (bI (0 ≤ v ∧ v ≤ 4)))) sh M J) := by
  refine xb_of pX6 (Nat.le_of_ble_eq_true rfl) rfl ?_
  refine xr_iload_n dX6_isSort_0 0 rfl ?_
  refine xr_if_lt (tgt := 13) dX6_isSort_1 rfl (fun c1 => ?_) (fun c1 => ?_)
  · refine xr_iconst (v := 0) dX6_isSort_13 rfl ?_
    exact xr_iret dX6_isSort_14 rfl rfl (⟨congrArg (fun z => some (Value.int z)) (bI_f (by grind)).symm, rfl, rfl, rfl⟩)
  · refine xr_iload_n dX6_isSort_4 0 rfl ?_
    refine xr_iconst (v := 4) dX6_isSort_5 rfl ?_
    refine xr_icmp_gt (tgt := 13) dX6_isSort_6 rfl (fun c2 => ?_) (fun c2 => ?_)
    · refine xr_iconst (v := 0) dX6_isSort_13 rfl ?_
      exact xr_iret dX6_isSort_14 rfl rfl (⟨congrArg (fun z => some (Value.int z)) (bI_f (by grind)).symm, rfl, rfl, rfl⟩)
    · refine xr_iconst (v := 1) dX6_isSort_9 rfl ?_
      refine xr_goto (tgt := 14) dX6_isSort_10 rfl ?_
      exact xr_iret dX6_isSort_14 rfl rfl (⟨congrArg (fun z => some (Value.int z)) (bI_t (by grind)).symm, rfl, rfl, rfl⟩)
set_option maxRecDepth 100000 in
set_option maxHeartbeats 4000000 in
theorem c_X9_rest (a b : Int32) {l : Launch} {G : xG} {sh : List xS} {M : xM} {J : xJ} : x_M l G fX9_rest 0 0 0 [.int (a), .int (b)] sh M J (qE (some (.int (if b = 0 then 0 else a - a / b * b))) sh M J) := by
  refine xb_of pX9 (Nat.le_of_ble_eq_true rfl) rfl ?_
  refine xr_iload_n dX9_rest_0 1 rfl ?_
  refine xr_if_ne (tgt := 8) dX9_rest_1 rfl (fun c1 => ?_) (fun c1 => ?_)
  · refine xr_iload_n dX9_rest_8 0 rfl ?_
    refine xr_iload_n dX9_rest_9 1 rfl ?_
    refine xr_irem dX9_rest_10 c1 ?_
    exact xr_iret dX9_rest_11 rfl rfl (⟨by first | rfl | grind, rfl, rfl, rfl⟩)
  · refine xr_iconst (v := 0) dX9_rest_4 rfl ?_
    refine xr_goto (tgt := 11) dX9_rest_5 rfl ?_
    exact xr_iret dX9_rest_11 rfl rfl (⟨by first | rfl | grind, rfl, rfl, rfl⟩)
set_option maxRecDepth 100000 in
set_option maxHeartbeats 4000000 in
theorem c_X9_goalOf (i : Int32) {l : Launch} {G : xG} {sh : List xS} {M : xM} {J : xJ} : x_M l G fX9_goalOf 0 0 0 [.int (i)] sh M J (qE (some (.int (if i - i / 2 * 2 = 0 then 0 else 12))) sh M J) := by
  refine xb_of pX9 (Nat.le_of_ble_eq_true rfl) rfl ?_
  refine xr_iload_n dX9_goalOf_0 0 rfl ?_
  refine xr_iconst (v := 2) dX9_goalOf_1 rfl ?_
  refine xr_irem dX9_goalOf_2 (by decide) ?_
  refine xr_if_ne (tgt := 10) dX9_goalOf_3 rfl (fun c1 => ?_) (fun c1 => ?_)
  · refine xr_bipush (v := 12) dX9_goalOf_10 rfl ?_
    exact xr_iret dX9_goalOf_12 rfl rfl (⟨by first | rfl | grind, rfl, rfl, rfl⟩)
  · refine xr_iconst (v := 0) dX9_goalOf_6 rfl ?_
    refine xr_goto (tgt := 12) dX9_goalOf_7 rfl ?_
    exact xr_iret dX9_goalOf_12 rfl rfl (⟨by first | rfl | grind, rfl, rfl, rfl⟩)
set_option maxRecDepth 100000 in
set_option maxHeartbeats 4000000 in
theorem c_X9_within (v le mo : Int32) {l : Launch} {G : xG} {sh : List xS} {M : xM} {J : xJ} : x_M l G fX9_within 1 0 0 [.int (v), .int (le), .int (mo)] sh M J (qE (some (.int (if le < (if v < mo then v else mo) then (if v < mo then v else mo) else le))) sh M J) := by
  refine xb_of pX9 (Nat.le_of_ble_eq_true rfl) rfl ?_
  refine xr_iload_n dX9_within_0 1 rfl ?_
  refine xr_iload_n dX9_within_1 2 rfl ?_
  refine xr_iload_n dX9_within_2 0 rfl ?_
  refine xr_min mmX9_232 uj_min uj_mi uj_minc dX9_within_3 (Nat.le_of_ble_eq_true rfl) (by decide) ?_
  refine xr_max mmX9_291 uj_max uj_mi uj_maxc dX9_within_6 (Nat.le_of_ble_eq_true rfl) (by decide) ?_
  exact xr_iret dX9_within_9 rfl rfl (⟨by first | rfl | grind, rfl, rfl, rfl⟩)
set_option maxRecDepth 100000 in
set_option maxHeartbeats 4000000 in
theorem c_X2_lies {q : Nat} (hq : x_SH[q]? = some (.inl (2, [none, none, none, none, none]))) {l : Launch} {G : xG} {M : xM} {J : xJ} : x_M l G fX2_lies 0 0 0 [.ref q] x_SH M J (qE (some (.int (bI (M q 4 = 0)))) x_SH M J) := by
  refine xb_of pX2 (Nat.le_of_ble_eq_true rfl) rfl ?_
  refine xr_aload_n dX2_lies_0 0 rfl ?_
  refine xb_get (v := M q 4) flX2_28 dX2_lies_1 hq rfl rfl ?_
  refine xr_if_ne (tgt := 11) dX2_lies_4 rfl (fun c1 => ?_) (fun c1 => ?_)
  · refine xr_iconst (v := 0) dX2_lies_11 rfl ?_
    exact xr_iret dX2_lies_12 rfl rfl (⟨congrArg (fun z => some (Value.int z)) (bI_f (by grind)).symm, rfl, rfl, rfl⟩)
  · refine xr_iconst (v := 1) dX2_lies_7 rfl ?_
    refine xr_goto (tgt := 12) dX2_lies_8 rfl ?_
    exact xr_iret dX2_lies_12 rfl rfl (⟨congrArg (fun z => some (Value.int z)) (bI_t (by grind)).symm, rfl, rfl, rfl⟩)
set_option maxRecDepth 100000 in
set_option maxHeartbeats 4000000 in
theorem c_X2_need {q : Nat} (hq : x_SH[q]? = some (.inl (2, [none, none, none, none, none]))) {l : Launch} {G : xG} {M : xM} {J : xJ} : x_M l G fX2_need 0 0 0 [.ref q] x_SH M J (qE (some (.int ((10 - M q 0) / 2 + 1))) x_SH M J) := by
  refine xb_of pX2 (Nat.le_of_ble_eq_true rfl) rfl ?_
  refine xr_bipush (v := 10) dX2_need_0 rfl ?_
  refine xr_aload_n dX2_need_2 0 rfl ?_
  refine xb_get (v := M q 0) flX2_9 dX2_need_3 hq rfl rfl ?_
  refine xr_isub dX2_need_6 ?_
  refine xr_iconst (v := 2) dX2_need_7 rfl ?_
  refine xr_idiv dX2_need_8 (by decide) ?_
  refine xr_iconst (v := 1) dX2_need_9 rfl ?_
  refine xr_iadd dX2_need_10 ?_
  exact xr_iret dX2_need_11 rfl rfl (⟨by first | rfl | grind, rfl, rfl, rfl⟩)
set_option maxRecDepth 100000 in
set_option maxHeartbeats 4000000 in
theorem c_X2_speed {q : Nat} (hq : x_SH[q]? = some (.inl (2, [none, none, none, none, none]))) {l : Launch} {G : xG} {M : xM} {J : xJ} : x_M l G fX2_speed 1 0 0 [.ref q] x_SH M J (qE (some (.int ((if 0 ≤ M q 3 then M q 3 else 0 - M q 3)))) x_SH M J) := by
  refine xb_of pX2 (Nat.le_of_ble_eq_true rfl) rfl ?_
  refine xr_aload_n dX2_speed_0 0 rfl ?_
  refine xb_get (v := M q 3) flX2_25 dX2_speed_1 hq rfl rfl ?_
  refine xr_abs mmX2_31 uj_abs uj_mi uj_absc dX2_speed_4 (Nat.le_of_ble_eq_true rfl) (by decide) ?_
  exact xr_iret dX2_speed_7 rfl rfl (⟨by first | rfl | grind, rfl, rfl, rfl⟩)
set_option maxRecDepth 100000 in
set_option maxHeartbeats 4000000 in
theorem g_X2_told (w : Int32) {q : Nat} (hq : x_SH[q]? = some (.inl (2, [none, none, none, none, none]))) {l : Launch} {G : xG} {M : xM} {J : xJ} : x_M l G fX2_told 1 0 0 [.ref (q), .int (w)] x_SH M J (qPI M J (fun r => True)) := by
  refine xb_of pX2 (Nat.le_of_ble_eq_true rfl) rfl ?_
  refine xr_iload_n dX2_told_0 1 rfl ?_
  refine xg_eq 0 (fun w1 => ?_) (fun w1 => ?_)
  · refine xr_tableIn (tgt := 40) dX2_told_1 (by decide) (by decide) rfl rfl ?_
    refine xr_aload_n dX2_told_40 0 rfl ?_
    refine xb_get (v := M q 0) flX2_9 dX2_told_41 hq rfl rfl ?_
    exact xr_iret dX2_told_44 rfl rfl (⟨_, rfl, rfl, rfl, rfl, trivial⟩)
  refine xg_eq 1 (fun w2 => ?_) (fun w2 => ?_)
  · refine xr_tableIn (tgt := 45) dX2_told_1 (by decide) (by decide) rfl rfl ?_
    refine xr_aload_n dX2_told_45 0 rfl ?_
    refine xb_get (v := M q 1) flX2_15 dX2_told_46 hq rfl rfl ?_
    exact xr_iret dX2_told_49 rfl rfl (⟨_, rfl, rfl, rfl, rfl, trivial⟩)
  refine xg_eq 2 (fun w3 => ?_) (fun w3 => ?_)
  · refine xr_tableIn (tgt := 50) dX2_told_1 (by decide) (by decide) rfl rfl ?_
    refine xr_aload_n dX2_told_50 0 rfl ?_
    refine xb_get (v := M q 3) flX2_25 dX2_told_51 hq rfl rfl ?_
    exact xr_iret dX2_told_54 rfl rfl (⟨_, rfl, rfl, rfl, rfl, trivial⟩)
  refine xg_eq 3 (fun w4 => ?_) (fun w4 => ?_)
  · refine xr_tableIn (tgt := 55) dX2_told_1 (by decide) (by decide) rfl rfl ?_
    refine xr_aload_n dX2_told_55 0 rfl ?_
    refine xb_get (v := M q 2) flX2_22 dX2_told_56 hq rfl rfl ?_
    exact xr_iret dX2_told_59 rfl rfl (⟨_, rfl, rfl, rfl, rfl, trivial⟩)
  refine xg_eq 4 (fun w5 => ?_) (fun w5 => ?_)
  · refine xr_tableIn (tgt := 60) dX2_told_1 (by decide) (by decide) rfl rfl ?_
    refine xr_aload_n dX2_told_60 0 rfl ?_
    refine xb_get (v := M q 4) flX2_28 dX2_told_61 hq rfl rfl ?_
    exact xr_iret dX2_told_64 rfl rfl (⟨_, rfl, rfl, rfl, rfl, trivial⟩)
  refine xg_eq 5 (fun w6 => ?_) (fun w6 => ?_)
  · refine xr_tableIn (tgt := 65) dX2_told_1 (by decide) (by decide) rfl rfl ?_
    refine xr_aload_n dX2_told_65 0 rfl ?_
    refine xb_cV (As := []) (rest := []) mlX2_37 (c_X2_need hq) dX2_told_66 hq rfl rfl (Nat.le_of_ble_eq_true rfl) (by decide) (by decide) ?_
    exact xr_iret dX2_told_69 rfl rfl (⟨_, rfl, rfl, rfl, rfl, trivial⟩)
  refine xr_tableOut (tgt := 70) dX2_told_1 (xg_out (lo := 0) (hi := 5) (by decide) (fun j h1 h2 qq => by have h3 : j = 0 ∨ j = 1 ∨ j = 2 ∨ j = 3 ∨ j = 4 ∨ j = 5 := (by omega); rcases h3 with rfl | rfl | rfl | rfl | rfl | rfl <;> first | exact absurd qq w1 | exact absurd qq w2 | exact absurd qq w3 | exact absurd qq w4 | exact absurd qq w5 | exact absurd qq w6)) rfl ?_
  refine xr_ldc coX2_41 dX2_told_70 ?_
  exact xr_iret dX2_told_72 rfl rfl (⟨_, rfl, rfl, rfl, rfl, trivial⟩)
set_option maxRecDepth 100000 in
set_option maxHeartbeats 4000000 in
theorem g_X2_drop {q : Nat} (hq : x_SH[q]? = some (.inl (2, [none, none, none, none, none]))) {l : Launch} {G : xG} {M : xM} {J : xJ} : x_M l G fX2_drop 0 0 0 [.ref (q)] x_SH M J (qKV (fun p _ => p = q) M J (fun M2 => True)) := by
  refine xb_of pX2 (Nat.le_of_ble_eq_true rfl) rfl ?_
  refine xr_aload_n dX2_drop_0 0 rfl ?_
  refine xr_iconst (v := 0) dX2_drop_1 rfl ?_
  refine xr_putI fpX2_25 dX2_drop_2 hq rfl rfl rfl ?_
  refine xr_aload_n dX2_drop_5 0 rfl ?_
  refine xr_iconst (v := 0) dX2_drop_6 rfl ?_
  refine xr_putI fpX2_28 dX2_drop_7 hq rfl rfl rfl ?_
  exact xr_vret dX2_drop_10 rfl (⟨rfl, rfl, rfl, (Ke.up rfl (Ke.up rfl Ke.rf)), trivial⟩)
set_option maxRecDepth 100000 in
set_option maxHeartbeats 4000000 in
theorem g_X2_farFrom (g : Int32) {q : Nat} (hq : x_SH[q]? = some (.inl (2, [none, none, none, none, none]))) {l : Launch} {G : xG} {M : xM} {J : xJ} : x_M l G fX2_farFrom 1 0 0 [.ref (q), .int (g)] x_SH M J (qPI M J (fun r => True)) := by
  refine xb_of pX2 (Nat.le_of_ble_eq_true rfl) rfl ?_
  refine xr_aload_n dX2_farFrom_0 0 rfl ?_
  refine xb_get (v := M q 2) flX2_22 dX2_farFrom_1 hq rfl rfl ?_
  refine xr_iload_n dX2_farFrom_4 1 rfl ?_
  refine xr_isub dX2_farFrom_5 ?_
  refine xr_bipush (v := 24) dX2_farFrom_6 rfl ?_
  refine xr_fmod fm_l46 uj_fm uj_mi uj_fmc dX2_farFrom_8 (Nat.le_of_ble_eq_true rfl) (by decide) ?_
  refine xr_istore_n (ls2 := [(2, .int ((fm24 ((M q 2) - g)))), (0, .ref (q)), (1, .int (g))]) dX2_farFrom_11 (by decide) rfl ?_
  refine xr_iload_n dX2_farFrom_12 0 rfl ?_
  refine xr_bipush (v := 24) dX2_farFrom_13 rfl ?_
  refine xr_iload_n dX2_farFrom_15 0 rfl ?_
  refine xr_isub dX2_farFrom_16 ?_
  refine xr_min mmX2_50 uj_min uj_mi uj_minc dX2_farFrom_17 (Nat.le_of_ble_eq_true rfl) (by decide) ?_
  exact xr_iret dX2_farFrom_20 rfl rfl (⟨_, rfl, rfl, rfl, rfl, trivial⟩)
set_option maxRecDepth 100000 in
set_option maxHeartbeats 4000000 in
theorem g_X2_quicken (b : Int32) {q : Nat} (hq : x_SH[q]? = some (.inl (2, [none, none, none, none, none]))) {l : Launch} {G : xG} {M : xM} {J : xJ} : x_M l G fX2_quicken 2 0 0 [.ref (q), .int (b)] x_SH M J (qKV (fun p _ => p = q) M J (fun M2 => True)) := by
  refine xb_of pX2 (Nat.le_of_ble_eq_true rfl) rfl ?_
  refine xr_aload_n dX2_quicken_0 0 rfl ?_
  refine xb_cV (As := []) (rest := []) mlX2_53 (c_X2_speed hq) dX2_quicken_1 hq rfl rfl (Nat.le_of_ble_eq_true rfl) (by decide) (by decide) ?_
  refine xr_iload_n dX2_quicken_4 1 rfl ?_
  refine xr_iadd dX2_quicken_5 ?_
  refine xr_iconst (v := 0) dX2_quicken_6 rfl ?_
  refine xr_bipush (v := 9) dX2_quicken_7 rfl ?_
  refine xb_cN (As := [.int (((if 0 ≤ M q 3 then M q 3 else 0 - M q 3) + b)), .int (0), .int (9)]) (rest := []) mlX2_56 (c_X9_within ((if 0 ≤ M q 3 then M q 3 else 0 - M q 3) + b) 0 9) dX2_quicken_9 rfl rfl (Nat.le_of_ble_eq_true rfl) (by decide) (by decide) ?_
  refine xr_istore_n (ls2 := [(2, .int ((if 0 < (if ((if 0 ≤ M q 3 then M q 3 else 0 - M q 3) + b) < 9 then ((if 0 ≤ M q 3 then M q 3 else 0 - M q 3) + b) else 9) then (if ((if 0 ≤ M q 3 then M q 3 else 0 - M q 3) + b) < 9 then ((if 0 ≤ M q 3 then M q 3 else 0 - M q 3) + b) else 9) else 0))), (0, .ref (q)), (1, .int (b))]) dX2_quicken_12 (by decide) rfl ?_
  refine xr_aload_n dX2_quicken_13 1 rfl ?_
  refine xr_aload_n dX2_quicken_14 1 rfl ?_
  refine xb_get (v := M q 3) flX2_25 dX2_quicken_15 hq rfl rfl ?_
  refine xr_if_ge (tgt := 26) dX2_quicken_18 rfl (fun c1 => ?_) (fun c1 => ?_)
  · refine xr_iload_n dX2_quicken_26 0 rfl ?_
    refine xr_putI fpX2_25 dX2_quicken_27 hq rfl rfl rfl ?_
    exact xr_vret dX2_quicken_30 rfl (⟨rfl, rfl, rfl, (Ke.up rfl Ke.rf), trivial⟩)
  · refine xr_iload_n dX2_quicken_21 0 rfl ?_
    refine xr_ineg dX2_quicken_22 ?_
    refine xr_goto (tgt := 27) dX2_quicken_23 rfl ?_
    refine xr_putI fpX2_25 dX2_quicken_27 hq rfl rfl rfl ?_
    exact xr_vret dX2_quicken_30 rfl (⟨rfl, rfl, rfl, (Ke.up rfl Ke.rf), trivial⟩)
set_option maxRecDepth 100000 in
set_option maxHeartbeats 4000000 in
theorem g_X2_move {q : Nat} (hq : x_SH[q]? = some (.inl (2, [none, none, none, none, none]))) {l : Launch} {G : xG} {M : xM} {J : xJ} : x_M l G fX2_move 1 0 0 [.ref (q)] x_SH M J (qKV (fun p _ => p = q) M J (fun M2 => True)) := by
  refine xb_of pX2 (Nat.le_of_ble_eq_true rfl) rfl ?_
  refine xr_aload_n dX2_move_0 0 rfl ?_
  refine xr_aload_n dX2_move_1 0 rfl ?_
  refine xb_get (v := M q 2) flX2_22 dX2_move_2 hq rfl rfl ?_
  refine xr_aload_n dX2_move_5 0 rfl ?_
  refine xb_get (v := M q 3) flX2_25 dX2_move_6 hq rfl rfl ?_
  refine xr_iadd dX2_move_9 ?_
  refine xr_bipush (v := 24) dX2_move_10 rfl ?_
  refine xr_fmod fm_l46 uj_fm uj_mi uj_fmc dX2_move_12 (Nat.le_of_ble_eq_true rfl) (by decide) ?_
  refine xr_putI fpX2_22 dX2_move_15 hq rfl rfl rfl ?_
  exact xr_vret dX2_move_18 rfl (⟨rfl, rfl, rfl, (Ke.up rfl Ke.rf), trivial⟩)
set_option maxRecDepth 100000 in
set_option maxHeartbeats 4000000 in
theorem g_X2_sankToLie {q : Nat} (hq : x_SH[q]? = some (.inl (2, [none, none, none, none, none]))) {l : Launch} {G : xG} {M : xM} {J : xJ} : x_M l G fX2_sankToLie 2 0 0 [.ref (q)] x_SH M J (qKI (fun p _ => p = q) M J (fun r M2 => r = 0 ∨ r = 1)) := by
  refine xb_of pX2 (Nat.le_of_ble_eq_true rfl) rfl ?_
  refine xr_aload_n dX2_sankToLie_0 0 rfl ?_
  refine xb_cV (As := []) (rest := []) mlX2_42 (c_X2_lies hq) dX2_sankToLie_1 hq rfl rfl (Nat.le_of_ble_eq_true rfl) (by decide) (by decide) ?_
  refine xb_beq (tgt := 9) dX2_sankToLie_4 rfl (fun c1 => ?_) (fun c1 => ?_)
  · refine xr_aload_n dX2_sankToLie_9 0 rfl ?_
    refine xr_aload_n dX2_sankToLie_10 0 rfl ?_
    refine xb_cV (As := []) (rest := [.ref (q)]) mlX2_53 (c_X2_speed hq) dX2_sankToLie_11 hq rfl rfl (Nat.le_of_ble_eq_true rfl) (by decide) (by decide) ?_
    refine xr_aload_n dX2_sankToLie_14 0 rfl ?_
    refine xb_cV (As := []) (rest := [.int ((if 0 ≤ M q 3 then M q 3 else 0 - M q 3)), .ref (q)]) mlX2_37 (c_X2_need hq) dX2_sankToLie_15 hq rfl rfl (Nat.le_of_ble_eq_true rfl) (by decide) (by decide) ?_
    refine xr_icmp_lt (tgt := 35) dX2_sankToLie_18 rfl (fun c2 => ?_) (fun c2 => ?_)
    · refine xr_iconst (v := 0) dX2_sankToLie_35 rfl ?_
      refine xr_aload_n dX2_sankToLie_36 0 rfl ?_
      refine xb_get (v := M q 4) flX2_28 dX2_sankToLie_37 hq rfl rfl ?_
      refine xr_iconst (v := 2) dX2_sankToLie_40 rfl ?_
      refine xr_isub dX2_sankToLie_41 ?_
      refine xr_max mmX2_60 uj_max uj_mi uj_maxc dX2_sankToLie_42 (Nat.le_of_ble_eq_true rfl) (by decide) ?_
      refine xr_putI fpX2_28 dX2_sankToLie_45 hq rfl rfl rfl ?_
      refine xr_aload_n dX2_sankToLie_48 0 rfl ?_
      refine xb_cV (As := []) (rest := []) mlX2_42 (c_X2_lies hq) dX2_sankToLie_49 hq rfl rfl (Nat.le_of_ble_eq_true rfl) (by decide) (by decide) ?_
      refine xb_beq (tgt := 60) dX2_sankToLie_52 rfl (fun c3 => ?_) (fun c3 => ?_)
      · refine xr_aload_n dX2_sankToLie_60 0 rfl ?_
        refine xb_cV (As := []) (rest := []) mlX2_42 (c_X2_lies hq) dX2_sankToLie_61 hq rfl rfl (Nat.le_of_ble_eq_true rfl) (by decide) (by decide) ?_
        exact xr_iret dX2_sankToLie_64 rfl (bI_n _) (⟨_, rfl, rfl, rfl, (Ke.up rfl Ke.rf), (bI_01 _)⟩)
      · refine xr_aload_n dX2_sankToLie_55 0 rfl ?_
        refine xr_iconst (v := 0) dX2_sankToLie_56 rfl ?_
        refine xr_putI fpX2_25 dX2_sankToLie_57 hq rfl rfl rfl ?_
        refine xr_aload_n dX2_sankToLie_60 0 rfl ?_
        refine xb_cV (As := []) (rest := []) mlX2_42 (c_X2_lies hq) dX2_sankToLie_61 hq rfl rfl (Nat.le_of_ble_eq_true rfl) (by decide) (by decide) ?_
        exact xr_iret dX2_sankToLie_64 rfl (bI_n _) (⟨_, rfl, rfl, rfl, (Ke.up rfl (Ke.up rfl Ke.rf)), (bI_01 _)⟩)
    · refine xr_bipush (v := 20) dX2_sankToLie_21 rfl ?_
      refine xr_aload_n dX2_sankToLie_23 0 rfl ?_
      refine xb_get (v := M q 4) flX2_28 dX2_sankToLie_24 hq rfl rfl ?_
      refine xr_iconst (v := 1) dX2_sankToLie_27 rfl ?_
      refine xr_iadd dX2_sankToLie_28 ?_
      refine xr_min mmX2_50 uj_min uj_mi uj_minc dX2_sankToLie_29 (Nat.le_of_ble_eq_true rfl) (by decide) ?_
      refine xr_goto (tgt := 45) dX2_sankToLie_32 rfl ?_
      refine xr_putI fpX2_28 dX2_sankToLie_45 hq rfl rfl rfl ?_
      refine xr_aload_n dX2_sankToLie_48 0 rfl ?_
      refine xb_cV (As := []) (rest := []) mlX2_42 (c_X2_lies hq) dX2_sankToLie_49 hq rfl rfl (Nat.le_of_ble_eq_true rfl) (by decide) (by decide) ?_
      refine xb_beq (tgt := 60) dX2_sankToLie_52 rfl (fun c4 => ?_) (fun c4 => ?_)
      · refine xr_aload_n dX2_sankToLie_60 0 rfl ?_
        refine xb_cV (As := []) (rest := []) mlX2_42 (c_X2_lies hq) dX2_sankToLie_61 hq rfl rfl (Nat.le_of_ble_eq_true rfl) (by decide) (by decide) ?_
        exact xr_iret dX2_sankToLie_64 rfl (bI_n _) (⟨_, rfl, rfl, rfl, (Ke.up rfl Ke.rf), (bI_01 _)⟩)
      · refine xr_aload_n dX2_sankToLie_55 0 rfl ?_
        refine xr_iconst (v := 0) dX2_sankToLie_56 rfl ?_
        refine xr_putI fpX2_25 dX2_sankToLie_57 hq rfl rfl rfl ?_
        refine xr_aload_n dX2_sankToLie_60 0 rfl ?_
        refine xb_cV (As := []) (rest := []) mlX2_42 (c_X2_lies hq) dX2_sankToLie_61 hq rfl rfl (Nat.le_of_ble_eq_true rfl) (by decide) (by decide) ?_
        exact xr_iret dX2_sankToLie_64 rfl (bI_n _) (⟨_, rfl, rfl, rfl, (Ke.up rfl (Ke.up rfl Ke.rf)), (bI_01 _)⟩)
  · refine xr_iconst (v := 0) dX2_sankToLie_7 rfl ?_
    exact xr_iret dX2_sankToLie_8 rfl rfl (⟨_, rfl, rfl, rfl, Ke.rf, (Or.inl rfl)⟩)
set_option maxRecDepth 100000 in
set_option maxHeartbeats 4000000 in
theorem g_X2_copyWay {q : Nat} (hq : x_SH[q]? = some (.inl (2, [none, none, none, none, none]))) {o : Nat} (ho : x_SH[o]? = some (.inl (2, [none, none, none, none, none]))) {l : Launch} {G : xG} {M : xM} {J : xJ} : x_M l G fX2_copyWay 0 0 0 [.ref (q), .ref (o)] x_SH M J (qKV (fun p _ => p = q) M J (fun M2 => True)) := by
  refine xb_of pX2 (Nat.le_of_ble_eq_true rfl) rfl ?_
  refine xr_aload_n dX2_copyWay_0 0 rfl ?_
  refine xr_aload_n dX2_copyWay_1 1 rfl ?_
  refine xb_get (v := M o 2) flX2_22 dX2_copyWay_2 ho rfl rfl ?_
  refine xr_putI fpX2_22 dX2_copyWay_5 hq rfl rfl rfl ?_
  refine xr_aload_n dX2_copyWay_8 0 rfl ?_
  refine xr_aload_n dX2_copyWay_9 1 rfl ?_
  refine xb_get (v := (x_up M q 2 (M o 2)) o 3) flX2_25 dX2_copyWay_10 ho rfl rfl ?_
  refine xr_putI fpX2_25 dX2_copyWay_13 hq rfl rfl rfl ?_
  refine xr_aload_n dX2_copyWay_16 0 rfl ?_
  refine xr_aload_n dX2_copyWay_17 1 rfl ?_
  refine xb_get (v := (x_up (x_up M q 2 (M o 2)) q 3 ((x_up M q 2 (M o 2)) o 3)) o 4) flX2_28 dX2_copyWay_18 ho rfl rfl ?_
  refine xr_putI fpX2_28 dX2_copyWay_21 hq rfl rfl rfl ?_
  exact xr_vret dX2_copyWay_24 rfl (⟨rfl, rfl, rfl, (Ke.up rfl (Ke.up rfl (Ke.up rfl Ke.rf))), trivial⟩)
set_option maxRecDepth 100000 in
set_option maxHeartbeats 4000000 in
theorem g_X2_copy {q : Nat} (hq : x_SH[q]? = some (.inl (2, [none, none, none, none, none]))) {o : Nat} (ho : x_SH[o]? = some (.inl (2, [none, none, none, none, none]))) {l : Launch} {G : xG} {M : xM} {J : xJ} : x_M l G fX2_copy 1 0 0 [.ref (q), .ref (o)] x_SH M J (qKV (fun p _ => p = q) M J (fun M2 => True)) := by
  refine xb_of pX2 (Nat.le_of_ble_eq_true rfl) rfl ?_
  refine xr_aload_n dX2_copy_0 0 rfl ?_
  refine xr_aload_n dX2_copy_1 1 rfl ?_
  refine xb_get (v := M o 0) flX2_9 dX2_copy_2 ho rfl rfl ?_
  refine xr_putI fpX2_9 dX2_copy_5 hq rfl rfl rfl ?_
  refine xr_aload_n dX2_copy_8 0 rfl ?_
  refine xr_aload_n dX2_copy_9 1 rfl ?_
  refine xb_get (v := (x_up M q 0 (M o 0)) o 1) flX2_15 dX2_copy_10 ho rfl rfl ?_
  refine xr_putI fpX2_15 dX2_copy_13 hq rfl rfl rfl ?_
  refine xr_aload_n dX2_copy_16 0 rfl ?_
  refine xr_aload_n dX2_copy_17 1 rfl ?_
  refine xr_callV (As := [.ref (o)]) (rest := []) mlX2_18 (g_X2_copyWay hq ho) dX2_copy_18 hq rfl rfl (Nat.le_of_ble_eq_true rfl) (by decide) ⟨by decide, by decide⟩ (fun v s2 M1 J2 hq => ?_)
  obtain ⟨rfl, rfl, rfl, k2, _⟩ := hq
  try dsimp only [Option.toList, List.cons_append, List.nil_append]
  exact xr_vret dX2_copy_21 rfl (⟨rfl, rfl, rfl, (Ke.tr (fun _ _ h => h) (Ke.up rfl (Ke.up rfl Ke.rf)) k2), trivial⟩)
