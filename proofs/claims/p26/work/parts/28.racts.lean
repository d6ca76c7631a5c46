theorem dX10_begins_0 : decode cX10_begins 0 = .ok (.aload_n 0, 1) := by decide +kernel
theorem dX10_begins_1 : decode cX10_begins 1 = .ok (.getfield 337, 3) := by decide +kernel
theorem dX10_begins_4 : decode cX10_begins 4 = .ok (.bipush 24, 2) := by decide +kernel
theorem dX10_begins_6 : decode cX10_begins 6 = .ok (.if_icmp .ge 13, 3) := by decide +kernel
theorem dX10_begins_19 : decode cX10_begins 19 = .ok (.aload_n 0, 1) := by decide +kernel
theorem dX10_begins_20 : decode cX10_begins 20 = .ok (.dup, 1) := by decide +kernel
theorem dX10_begins_21 : decode cX10_begins 21 = .ok (.getfield 337, 3) := by decide +kernel
theorem dX10_begins_24 : decode cX10_begins 24 = .ok (.iconst 1, 1) := by decide +kernel
theorem dX10_begins_25 : decode cX10_begins 25 = .ok (.iadd, 1) := by decide +kernel
theorem dX10_begins_26 : decode cX10_begins 26 = .ok (.putfield 337, 3) := by decide +kernel
theorem dX10_begins_29 : decode cX10_begins 29 = .ok (.return_, 1) := by decide +kernel
theorem dX10_begins_9 : decode cX10_begins 9 = .ok (.aload_n 0, 1) := by decide +kernel
theorem dX10_begins_10 : decode cX10_begins 10 = .ok (.getfield 72, 3) := by decide +kernel
theorem dX10_begins_13 : decode cX10_begins 13 = .ok (.aload_n 0, 1) := by decide +kernel
theorem dX10_begins_14 : decode cX10_begins 14 = .ok (.getfield 337, 3) := by decide +kernel
theorem dX10_begins_17 : decode cX10_begins 17 = .ok (.iload_n 1, 1) := by decide +kernel
theorem dX10_begins_18 : decode cX10_begins 18 = .ok (.iastore, 1) := by decide +kernel
theorem dX10_pushesAs_0 : decode cX10_pushesAs 0 = .ok (.iload_n 1, 1) := by decide +kernel
theorem dX10_pushesAs_1 : decode cX10_pushesAs 1 = .ok (.iconst 1, 1) := by decide +kernel
theorem dX10_pushesAs_2 : decode cX10_pushesAs 2 = .ok (.if_icmp .eq 14, 3) := by decide +kernel
theorem dX10_pushesAs_5 : decode cX10_pushesAs 5 = .ok (.iload_n 1, 1) := by decide +kernel
theorem dX10_pushesAs_6 : decode cX10_pushesAs 6 = .ok (.iconst 4, 1) := by decide +kernel
theorem dX10_pushesAs_7 : decode cX10_pushesAs 7 = .ok (.if_icmp .eq 9, 3) := by decide +kernel
theorem dX10_pushesAs_10 : decode cX10_pushesAs 10 = .ok (.iload_n 1, 1) := by decide +kernel
theorem dX10_pushesAs_11 : decode cX10_pushesAs 11 = .ok (.bipush 7, 2) := by decide +kernel
theorem dX10_pushesAs_13 : decode cX10_pushesAs 13 = .ok (.if_icmp .ne 18, 3) := by decide +kernel
theorem dX10_pushesAs_31 : decode cX10_pushesAs 31 = .ok (.iload_n 1, 1) := by decide +kernel
theorem dX10_pushesAs_32 : decode cX10_pushesAs 32 = .ok (.bipush 6, 2) := by decide +kernel
theorem dX10_pushesAs_34 : decode cX10_pushesAs 34 = .ok (.if_icmp .ne 18, 3) := by decide +kernel
theorem dX10_pushesAs_52 : decode cX10_pushesAs 52 = .ok (.aload_n 0, 1) := by decide +kernel
theorem dX10_pushesAs_53 : decode cX10_pushesAs 53 = .ok (.iconst 1, 1) := by decide +kernel
theorem dX10_pushesAs_54 : decode cX10_pushesAs 54 = .ok (.invokevirtual 340, 3) := by decide +kernel
theorem dX10_pushesAs_57 : decode cX10_pushesAs 57 = .ok (.iload_n 2, 1) := by decide +kernel
theorem dX10_pushesAs_58 : decode cX10_pushesAs 58 = .ok (.aload_n 0, 1) := by decide +kernel
theorem dX10_pushesAs_59 : decode cX10_pushesAs 59 = .ok (.getfield 346, 3) := by decide +kernel
theorem dX10_pushesAs_62 : decode cX10_pushesAs 62 = .ok (.iadd, 1) := by decide +kernel
theorem dX10_pushesAs_63 : decode cX10_pushesAs 63 = .ok (.ireturn, 1) := by decide +kernel
theorem dX10_turnsAs_0 : decode cX10_turnsAs 0 = .ok (.iload_n 1, 1) := by decide +kernel
theorem dX10_turnsAs_1 : decode cX10_turnsAs 1 = .ok (.iconst 3, 1) := by decide +kernel
theorem dX10_turnsAs_2 : decode cX10_turnsAs 2 = .ok (.if_icmp .eq 8, 3) := by decide +kernel
theorem dX10_turnsAs_5 : decode cX10_turnsAs 5 = .ok (.iload_n 1, 1) := by decide +kernel
theorem dX10_turnsAs_6 : decode cX10_turnsAs 6 = .ok (.iconst 5, 1) := by decide +kernel
theorem dX10_turnsAs_7 : decode cX10_turnsAs 7 = .ok (.if_icmp .ne 18, 3) := by decide +kernel
theorem dX10_turnsAs_25 : decode cX10_turnsAs 25 = .ok (.iload_n 1, 1) := by decide +kernel
theorem dX10_turnsAs_26 : decode cX10_turnsAs 26 = .ok (.iconst 2, 1) := by decide +kernel
theorem dX10_turnsAs_27 : decode cX10_turnsAs 27 = .ok (.if_icmp .ne 17, 3) := by decide +kernel
theorem dX10_turnsAs_44 : decode cX10_turnsAs 44 = .ok (.iload_n 1, 1) := by decide +kernel
theorem dX10_turnsAs_45 : decode cX10_turnsAs 45 = .ok (.bipush 7, 2) := by decide +kernel
theorem dX10_turnsAs_47 : decode cX10_turnsAs 47 = .ok (.if_icmp .ne 28, 3) := by decide +kernel
theorem dX10_turnsAs_75 : decode cX10_turnsAs 75 = .ok (.aload_n 0, 1) := by decide +kernel
theorem dX10_turnsAs_76 : decode cX10_turnsAs 76 = .ok (.bipush 10, 2) := by decide +kernel
theorem dX10_turnsAs_78 : decode cX10_turnsAs 78 = .ok (.invokevirtual 340, 3) := by decide +kernel
theorem dX10_turnsAs_81 : decode cX10_turnsAs 81 = .ok (.aload_n 0, 1) := by decide +kernel
theorem dX10_turnsAs_82 : decode cX10_turnsAs 82 = .ok (.aload_n 0, 1) := by decide +kernel
theorem dX10_turnsAs_83 : decode cX10_turnsAs 83 = .ok (.getfield 352, 3) := by decide +kernel
theorem dX10_turnsAs_86 : decode cX10_turnsAs 86 = .ok (.iload_n 2, 1) := by decide +kernel
theorem dX10_turnsAs_87 : decode cX10_turnsAs 87 = .ok (.invokevirtual 343, 3) := by decide +kernel
theorem dX10_turnsAs_90 : decode cX10_turnsAs 90 = .ok (.iconst 2, 1) := by decide +kernel
theorem dX10_turnsAs_91 : decode cX10_turnsAs 91 = .ok (.imul, 1) := by decide +kernel
theorem dX10_turnsAs_92 : decode cX10_turnsAs 92 = .ok (.ireturn, 1) := by decide +kernel
theorem dX10_sinksAs_0 : decode cX10_sinksAs 0 = .ok (.iload_n 1, 1) := by decide +kernel
theorem dX10_sinksAs_1 : decode cX10_sinksAs 1 = .ok (.iconst 3, 1) := by decide +kernel
theorem dX10_sinksAs_2 : decode cX10_sinksAs 2 = .ok (.if_icmp .eq 8, 3) := by decide +kernel
theorem dX10_sinksAs_5 : decode cX10_sinksAs 5 = .ok (.iload_n 1, 1) := by decide +kernel
theorem dX10_sinksAs_6 : decode cX10_sinksAs 6 = .ok (.iconst 5, 1) := by decide +kernel
theorem dX10_sinksAs_7 : decode cX10_sinksAs 7 = .ok (.if_icmp .ne 18, 3) := by decide +kernel
theorem dX10_sinksAs_25 : decode cX10_sinksAs 25 = .ok (.iload_n 1, 1) := by decide +kernel
theorem dX10_sinksAs_26 : decode cX10_sinksAs 26 = .ok (.iconst 4, 1) := by decide +kernel
theorem dX10_sinksAs_27 : decode cX10_sinksAs 27 = .ok (.if_icmp .eq 9, 3) := by decide +kernel
theorem dX10_sinksAs_30 : decode cX10_sinksAs 30 = .ok (.iload_n 1, 1) := by decide +kernel
theorem dX10_sinksAs_31 : decode cX10_sinksAs 31 = .ok (.bipush 7, 2) := by decide +kernel
theorem dX10_sinksAs_33 : decode cX10_sinksAs 33 = .ok (.if_icmp .ne 28, 3) := by decide +kernel
theorem dX10_sinksAs_61 : decode cX10_sinksAs 61 = .ok (.aload_n 0, 1) := by decide +kernel
theorem dX10_sinksAs_62 : decode cX10_sinksAs 62 = .ok (.bipush 11, 2) := by decide +kernel
theorem dX10_sinksAs_64 : decode cX10_sinksAs 64 = .ok (.invokevirtual 340, 3) := by decide +kernel
theorem dX10_sinksAs_67 : decode cX10_sinksAs 67 = .ok (.iload_n 2, 1) := by decide +kernel
theorem dX10_sinksAs_68 : decode cX10_sinksAs 68 = .ok (.aload_n 0, 1) := by decide +kernel
theorem dX10_sinksAs_69 : decode cX10_sinksAs 69 = .ok (.getfield 346, 3) := by decide +kernel
theorem dX10_sinksAs_72 : decode cX10_sinksAs 72 = .ok (.ixor, 1) := by decide +kernel
theorem dX10_sinksAs_73 : decode cX10_sinksAs 73 = .ok (.ireturn, 1) := by decide +kernel
theorem dX10_tellsAs_0 : decode cX10_tellsAs 0 = .ok (.iload_n 1, 1) := by decide +kernel
theorem dX10_tellsAs_1 : decode cX10_tellsAs 1 = .ok (.iconst 5, 1) := by decide +kernel
theorem dX10_tellsAs_2 : decode cX10_tellsAs 2 = .ok (.if_icmp .ne 18, 3) := by decide +kernel
theorem dX10_tellsAs_20 : decode cX10_tellsAs 20 = .ok (.iload_n 1, 1) := by decide +kernel
theorem dX10_tellsAs_21 : decode cX10_tellsAs 21 = .ok (.bipush 7, 2) := by decide +kernel
theorem dX10_tellsAs_23 : decode cX10_tellsAs 23 = .ok (.if_icmp .ne 18, 3) := by decide +kernel
theorem dX10_tellsAs_41 : decode cX10_tellsAs 41 = .ok (.aload_n 0, 1) := by decide +kernel
theorem dX10_tellsAs_42 : decode cX10_tellsAs 42 = .ok (.iconst 2, 1) := by decide +kernel
theorem dX10_tellsAs_43 : decode cX10_tellsAs 43 = .ok (.invokevirtual 340, 3) := by decide +kernel
theorem dX10_tellsAs_46 : decode cX10_tellsAs 46 = .ok (.aload_n 0, 1) := by decide +kernel
theorem dX10_tellsAs_47 : decode cX10_tellsAs 47 = .ok (.aload_n 0, 1) := by decide +kernel
theorem dX10_tellsAs_48 : decode cX10_tellsAs 48 = .ok (.getfield 352, 3) := by decide +kernel
theorem dX10_tellsAs_51 : decode cX10_tellsAs 51 = .ok (.iload_n 2, 1) := by decide +kernel
theorem dX10_tellsAs_52 : decode cX10_tellsAs 52 = .ok (.invokevirtual 349, 3) := by decide +kernel
theorem dX10_tellsAs_55 : decode cX10_tellsAs 55 = .ok (.istore_n 3, 1) := by decide +kernel
theorem dX10_tellsAs_56 : decode cX10_tellsAs 56 = .ok (.iload_n 3, 1) := by decide +kernel
theorem dX10_tellsAs_57 : decode cX10_tellsAs 57 = .ok (.aload_n 0, 1) := by decide +kernel
theorem dX10_tellsAs_58 : decode cX10_tellsAs 58 = .ok (.aload_n 0, 1) := by decide +kernel
theorem dX10_tellsAs_59 : decode cX10_tellsAs 59 = .ok (.getfield 352, 3) := by decide +kernel
theorem dX10_tellsAs_62 : decode cX10_tellsAs 62 = .ok (.iconst 1, 1) := by decide +kernel
theorem dX10_tellsAs_63 : decode cX10_tellsAs 63 = .ok (.invokevirtual 355, 3) := by decide +kernel
theorem dX10_tellsAs_66 : decode cX10_tellsAs 66 = .ok (.isub, 1) := by decide +kernel
theorem dX10_tellsAs_67 : decode cX10_tellsAs 67 = .ok (.ireturn, 1) := by decide +kernel
theorem dX10_pushesAs_16 : decode cX10_pushesAs 16 = .ok (.aload_n 0, 1) := by decide +kernel
theorem dX10_pushesAs_17 : decode cX10_pushesAs 17 = .ok (.bipush 20, 2) := by decide +kernel
theorem dX10_pushesAs_19 : decode cX10_pushesAs 19 = .ok (.invokevirtual 340, 3) := by decide +kernel
theorem dX10_pushesAs_22 : decode cX10_pushesAs 22 = .ok (.aload_n 0, 1) := by decide +kernel
theorem dX10_pushesAs_23 : decode cX10_pushesAs 23 = .ok (.iconst 0, 1) := by decide +kernel
theorem dX10_pushesAs_24 : decode cX10_pushesAs 24 = .ok (.iload_n 2, 1) := by decide +kernel
theorem dX10_pushesAs_25 : decode cX10_pushesAs 25 = .ok (.invokevirtual 343, 3) := by decide +kernel
theorem dX10_pushesAs_28 : decode cX10_pushesAs 28 = .ok (.iconst 3, 1) := by decide +kernel
theorem dX10_pushesAs_29 : decode cX10_pushesAs 29 = .ok (.iadd, 1) := by decide +kernel
theorem dX10_pushesAs_30 : decode cX10_pushesAs 30 = .ok (.ireturn, 1) := by decide +kernel
theorem dX10_turnsAs_30 : decode cX10_turnsAs 30 = .ok (.aload_n 0, 1) := by decide +kernel
theorem dX10_turnsAs_31 : decode cX10_turnsAs 31 = .ok (.bipush 30, 2) := by decide +kernel
theorem dX10_turnsAs_33 : decode cX10_turnsAs 33 = .ok (.invokevirtual 340, 3) := by decide +kernel
theorem dX10_turnsAs_36 : decode cX10_turnsAs 36 = .ok (.aload_n 0, 1) := by decide +kernel
theorem dX10_turnsAs_37 : decode cX10_turnsAs 37 = .ok (.iconst 0, 1) := by decide +kernel
theorem dX10_turnsAs_38 : decode cX10_turnsAs 38 = .ok (.iload_n 2, 1) := by decide +kernel
theorem dX10_turnsAs_39 : decode cX10_turnsAs 39 = .ok (.invokevirtual 349, 3) := by decide +kernel
theorem dX10_turnsAs_42 : decode cX10_turnsAs 42 = .ok (.ineg, 1) := by decide +kernel
theorem dX10_turnsAs_43 : decode cX10_turnsAs 43 = .ok (.ireturn, 1) := by decide +kernel
theorem dX10_turnsAs_10 : decode cX10_turnsAs 10 = .ok (.aload_n 0, 1) := by decide +kernel
theorem dX10_turnsAs_11 : decode cX10_turnsAs 11 = .ok (.bipush 41, 2) := by decide +kernel
theorem dX10_turnsAs_13 : decode cX10_turnsAs 13 = .ok (.invokevirtual 340, 3) := by decide +kernel
theorem dX10_turnsAs_16 : decode cX10_turnsAs 16 = .ok (.aload_n 0, 1) := by decide +kernel
theorem dX10_turnsAs_17 : decode cX10_turnsAs 17 = .ok (.iconst 2, 1) := by decide +kernel
theorem dX10_turnsAs_18 : decode cX10_turnsAs 18 = .ok (.iload_n 2, 1) := by decide +kernel
theorem dX10_turnsAs_19 : decode cX10_turnsAs 19 = .ok (.iconst 1, 1) := by decide +kernel
theorem dX10_turnsAs_20 : decode cX10_turnsAs 20 = .ok (.iadd, 1) := by decide +kernel
theorem dX10_turnsAs_21 : decode cX10_turnsAs 21 = .ok (.invokevirtual 349, 3) := by decide +kernel
theorem dX10_turnsAs_24 : decode cX10_turnsAs 24 = .ok (.ireturn, 1) := by decide +kernel
theorem dX10_sinksAs_10 : decode cX10_sinksAs 10 = .ok (.aload_n 0, 1) := by decide +kernel
theorem dX10_sinksAs_11 : decode cX10_sinksAs 11 = .ok (.bipush 40, 2) := by decide +kernel
theorem dX10_sinksAs_13 : decode cX10_sinksAs 13 = .ok (.invokevirtual 340, 3) := by decide +kernel
theorem dX10_sinksAs_16 : decode cX10_sinksAs 16 = .ok (.aload_n 0, 1) := by decide +kernel
theorem dX10_sinksAs_17 : decode cX10_sinksAs 17 = .ok (.iconst 2, 1) := by decide +kernel
theorem dX10_sinksAs_18 : decode cX10_sinksAs 18 = .ok (.iload_n 2, 1) := by decide +kernel
theorem dX10_sinksAs_19 : decode cX10_sinksAs 19 = .ok (.invokevirtual 355, 3) := by decide +kernel
theorem dX10_sinksAs_22 : decode cX10_sinksAs 22 = .ok (.iconst 3, 1) := by decide +kernel
theorem dX10_sinksAs_23 : decode cX10_sinksAs 23 = .ok (.imul, 1) := by decide +kernel
theorem dX10_sinksAs_24 : decode cX10_sinksAs 24 = .ok (.ireturn, 1) := by decide +kernel
theorem dX10_sinksAs_36 : decode cX10_sinksAs 36 = .ok (.aload_n 0, 1) := by decide +kernel
theorem dX10_sinksAs_37 : decode cX10_sinksAs 37 = .ok (.bipush 50, 2) := by decide +kernel
theorem dX10_sinksAs_39 : decode cX10_sinksAs 39 = .ok (.invokevirtual 340, 3) := by decide +kernel
theorem dX10_sinksAs_42 : decode cX10_sinksAs 42 = .ok (.aload_n 0, 1) := by decide +kernel
theorem dX10_sinksAs_43 : decode cX10_sinksAs 43 = .ok (.iconst 1, 1) := by decide +kernel
theorem dX10_sinksAs_44 : decode cX10_sinksAs 44 = .ok (.iload_n 2, 1) := by decide +kernel
theorem dX10_sinksAs_45 : decode cX10_sinksAs 45 = .ok (.invokevirtual 355, 3) := by decide +kernel
theorem dX10_sinksAs_48 : decode cX10_sinksAs 48 = .ok (.istore_n 3, 1) := by decide +kernel
theorem dX10_sinksAs_49 : decode cX10_sinksAs 49 = .ok (.iload_n 3, 1) := by decide +kernel
theorem dX10_sinksAs_50 : decode cX10_sinksAs 50 = .ok (.aload_n 0, 1) := by decide +kernel
theorem dX10_sinksAs_51 : decode cX10_sinksAs 51 = .ok (.aload_n 0, 1) := by decide +kernel
theorem dX10_sinksAs_52 : decode cX10_sinksAs 52 = .ok (.getfield 352, 3) := by decide +kernel
theorem dX10_sinksAs_55 : decode cX10_sinksAs 55 = .ok (.iconst 2, 1) := by decide +kernel
theorem dX10_sinksAs_56 : decode cX10_sinksAs 56 = .ok (.invokevirtual 343, 3) := by decide +kernel
theorem dX10_sinksAs_59 : decode cX10_sinksAs 59 = .ok (.isub, 1) := by decide +kernel
theorem dX10_sinksAs_60 : decode cX10_sinksAs 60 = .ok (.ireturn, 1) := by decide +kernel
theorem dX10_tellsAs_5 : decode cX10_tellsAs 5 = .ok (.aload_n 0, 1) := by decide +kernel
theorem dX10_tellsAs_6 : decode cX10_tellsAs 6 = .ok (.bipush 60, 2) := by decide +kernel
theorem dX10_tellsAs_8 : decode cX10_tellsAs 8 = .ok (.invokevirtual 340, 3) := by decide +kernel
theorem dX10_tellsAs_11 : decode cX10_tellsAs 11 = .ok (.aload_n 0, 1) := by decide +kernel
theorem dX10_tellsAs_12 : decode cX10_tellsAs 12 = .ok (.iconst 3, 1) := by decide +kernel
theorem dX10_tellsAs_13 : decode cX10_tellsAs 13 = .ok (.iload_n 2, 1) := by decide +kernel
theorem dX10_tellsAs_14 : decode cX10_tellsAs 14 = .ok (.invokevirtual 358, 3) := by decide +kernel
theorem dX10_tellsAs_17 : decode cX10_tellsAs 17 = .ok (.iconst 5, 1) := by decide +kernel
theorem dX10_tellsAs_18 : decode cX10_tellsAs 18 = .ok (.ixor, 1) := by decide +kernel
theorem dX10_tellsAs_19 : decode cX10_tellsAs 19 = .ok (.ireturn, 1) := by decide +kernel
theorem dX10_pushesAs_37 : decode cX10_pushesAs 37 = .ok (.aload_n 0, 1) := by decide +kernel
theorem dX10_pushesAs_38 : decode cX10_pushesAs 38 = .ok (.bipush 70, 2) := by decide +kernel
theorem dX10_pushesAs_40 : decode cX10_pushesAs 40 = .ok (.invokevirtual 340, 3) := by decide +kernel
theorem dX10_pushesAs_43 : decode cX10_pushesAs 43 = .ok (.aload_n 0, 1) := by decide +kernel
theorem dX10_pushesAs_44 : decode cX10_pushesAs 44 = .ok (.iconst 0, 1) := by decide +kernel
theorem dX10_pushesAs_45 : decode cX10_pushesAs 45 = .ok (.iload_n 2, 1) := by decide +kernel
theorem dX10_pushesAs_46 : decode cX10_pushesAs 46 = .ok (.invokevirtual 343, 3) := by decide +kernel
theorem dX10_pushesAs_49 : decode cX10_pushesAs 49 = .ok (.iconst 2, 1) := by decide +kernel
theorem dX10_pushesAs_50 : decode cX10_pushesAs 50 = .ok (.imul, 1) := by decide +kernel
theorem dX10_pushesAs_51 : decode cX10_pushesAs 51 = .ok (.ireturn, 1) := by decide +kernel
theorem dX10_turnsAs_50 : decode cX10_turnsAs 50 = .ok (.aload_n 0, 1) := by decide +kernel
theorem dX10_turnsAs_51 : decode cX10_turnsAs 51 = .ok (.bipush 80, 2) := by decide +kernel
theorem dX10_turnsAs_53 : decode cX10_turnsAs 53 = .ok (.invokevirtual 340, 3) := by decide +kernel
theorem dX10_turnsAs_56 : decode cX10_turnsAs 56 = .ok (.aload_n 0, 1) := by decide +kernel
theorem dX10_turnsAs_57 : decode cX10_turnsAs 57 = .ok (.iconst 4, 1) := by decide +kernel
theorem dX10_turnsAs_58 : decode cX10_turnsAs 58 = .ok (.iload_n 2, 1) := by decide +kernel
theorem dX10_turnsAs_59 : decode cX10_turnsAs 59 = .ok (.invokevirtual 349, 3) := by decide +kernel
theorem dX10_turnsAs_62 : decode cX10_turnsAs 62 = .ok (.istore_n 3, 1) := by decide +kernel
theorem dX10_turnsAs_63 : decode cX10_turnsAs 63 = .ok (.iload_n 3, 1) := by decide +kernel
theorem dX10_turnsAs_64 : decode cX10_turnsAs 64 = .ok (.aload_n 0, 1) := by decide +kernel
theorem dX10_turnsAs_65 : decode cX10_turnsAs 65 = .ok (.aload_n 0, 1) := by decide +kernel
theorem dX10_turnsAs_66 : decode cX10_turnsAs 66 = .ok (.getfield 352, 3) := by decide +kernel
theorem dX10_turnsAs_69 : decode cX10_turnsAs 69 = .ok (.iconst 2, 1) := by decide +kernel
theorem dX10_turnsAs_70 : decode cX10_turnsAs 70 = .ok (.invokevirtual 355, 3) := by decide +kernel
theorem dX10_turnsAs_73 : decode cX10_turnsAs 73 = .ok (.iadd, 1) := by decide +kernel
theorem dX10_turnsAs_74 : decode cX10_turnsAs 74 = .ok (.ireturn, 1) := by decide +kernel
theorem dX10_tellsAs_26 : decode cX10_tellsAs 26 = .ok (.aload_n 0, 1) := by decide +kernel
theorem dX10_tellsAs_27 : decode cX10_tellsAs 27 = .ok (.bipush 81, 2) := by decide +kernel
theorem dX10_tellsAs_29 : decode cX10_tellsAs 29 = .ok (.invokevirtual 340, 3) := by decide +kernel
theorem dX10_tellsAs_32 : decode cX10_tellsAs 32 = .ok (.aload_n 0, 1) := by decide +kernel
theorem dX10_tellsAs_33 : decode cX10_tellsAs 33 = .ok (.iconst 4, 1) := by decide +kernel
theorem dX10_tellsAs_34 : decode cX10_tellsAs 34 = .ok (.iload_n 2, 1) := by decide +kernel
theorem dX10_tellsAs_35 : decode cX10_tellsAs 35 = .ok (.invokevirtual 358, 3) := by decide +kernel
theorem dX10_tellsAs_38 : decode cX10_tellsAs 38 = .ok (.iconst 1, 1) := by decide +kernel
theorem dX10_tellsAs_39 : decode cX10_tellsAs 39 = .ok (.isub, 1) := by decide +kernel
theorem dX10_tellsAs_40 : decode cX10_tellsAs 40 = .ok (.ireturn, 1) := by decide +kernel
abbrev WRA (p k : Nat) : Prop := (p = 62 ∧ k = 39) ∨ (p = 82)
abbrev WRC (p k : Nat) : Prop := (p = 62 ∧ k = 39) ∨ (p = 62 ∧ k = 40) ∨ (p = 62 ∧ k = 41) ∨ (p = 82)
set_option maxRecDepth 100000 in
set_option maxHeartbeats 4000000 in
theorem g_X10_begins (nu : Int32) {l : Launch} {G : xG} {M : xM} {J : xJ} {ra : Nat} (h_ra : ra ≤ 1000) (e_ra : M 62 39 = nI ra) : x_M l G fX10_begins 0 0 0 [.ref (62), .int (nu)] x_SH M J (qKV WRA M J (fun M2 => M2 62 39 = nI (ra + 1))) := by
  refine xb_of pX10 (Nat.le_of_ble_eq_true rfl) rfl ?_
  refine xr_aload_n dX10_begins_0 0 rfl ?_
  refine xb_get (v := nI (ra)) flX10_337 dX10_begins_1 s_62 rfl e_ra ?_
  refine xr_bipush (v := 24) dX10_begins_4 rfl ?_
  refine xr_icmp_ge (tgt := 19) dX10_begins_6 rfl (fun c1 => ?_) (fun c1 => ?_)
  · have nc1 : 24 ≤ ra := (nI_leI (a := 24) (b := ra) (by omega) (by omega)).mp c1
    refine xr_aload_n dX10_begins_19 0 rfl ?_
    refine xr_dup dX10_begins_20 rfl ?_
    refine xb_get (v := nI (ra)) flX10_337 dX10_begins_21 s_62 rfl e_ra ?_
    refine xr_iconst (v := 1) dX10_begins_24 rfl ?_
    refine xr_iadd dX10_begins_25 ?_
    refine xb_top (y := nI (ra + 1)) (nI_add (ra) (1)) ?_
    refine xr_putI fpX10_337 dX10_begins_26 s_62 rfl rfl rfl ?_
    exact xr_vret dX10_begins_29 rfl (⟨rfl, rfl, rfl, (Ke.up (Or.inl (by omega)) Ke.rf), (x_up_s _ _ _ _)⟩)
  · have nc1 : ¬ (24 ≤ ra) := fun q => c1 ((nI_leI (a := 24) (b := ra) (by omega) (by omega)).mpr q)
    have hra : ra < 24 := by omega
    refine xr_aload_n dX10_begins_9 0 rfl ?_
    refine xr_getR flX10_72 dX10_begins_10 s_62 rfl ?_
    refine xr_aload_n dX10_begins_13 0 rfl ?_
    refine xb_get (v := nI (ra)) flX10_337 dX10_begins_14 s_62 rfl e_ra ?_
    refine xr_iload_n dX10_begins_17 1 rfl ?_
    refine xb_iast (j := ra) dX10_begins_18 s_82 (by omega) (by decide) ?_
    refine xr_aload_n dX10_begins_19 0 rfl ?_
    refine xr_dup dX10_begins_20 rfl ?_
    refine xb_get (v := nI (ra)) flX10_337 dX10_begins_21 s_62 rfl (Eq.trans (congrFun (x_up_n _ _ _ (by decide)) _) e_ra) ?_
    refine xr_iconst (v := 1) dX10_begins_24 rfl ?_
    refine xr_iadd dX10_begins_25 ?_
    refine xb_top (y := nI (ra + 1)) (nI_add (ra) (1)) ?_
    refine xr_putI fpX10_337 dX10_begins_26 s_62 rfl rfl rfl ?_
    exact xr_vret dX10_begins_29 rfl (⟨rfl, rfl, rfl, (Ke.up (Or.inl (by omega)) (Ke.up (Or.inr (by omega)) Ke.rf)), (x_up_s _ _ _ _)⟩)
set_option maxRecDepth 100000 in
set_option maxHeartbeats 4000000 in
theorem ra0_pushesAs_0 {ac : Nat} (x : Int32) {l : Launch} {G : xG} {M : xM} {J : xJ} {ra : Nat} (h_ra : ra + 1 ≤ 900) (e_ra : M 62 39 = nI ra) (e_k : M 62 40 = 0) (e_ac : M 62 41 = nI ac) : x_M l G fX10_pushesAs 1 0 0 [.ref (62), .int (0), .int (x)] x_SH M J (qKI WRA M J (fun r M2 => r = (x + (nI (ac))) ∧ M2 62 39 = nI (ra + 1))) := by
  refine xb_of pX10 (Nat.le_of_ble_eq_true rfl) rfl ?_
  refine xr_iload_n dX10_pushesAs_0 1 rfl ?_
  refine xr_iconst (v := 1) dX10_pushesAs_1 rfl ?_
  refine xr_icmp_eq (tgt := 16) dX10_pushesAs_2 rfl (fun c => absurd c (by decide)) (fun _ => ?_)
  refine xr_iload_n dX10_pushesAs_5 1 rfl ?_
  refine xr_iconst (v := 4) dX10_pushesAs_6 rfl ?_
  refine xr_icmp_eq (tgt := 16) dX10_pushesAs_7 rfl (fun c => absurd c (by decide)) (fun _ => ?_)
  refine xr_iload_n dX10_pushesAs_10 1 rfl ?_
  refine xr_bipush (v := 7) dX10_pushesAs_11 rfl ?_
  refine xr_icmp_ne (tgt := 31) dX10_pushesAs_13 rfl (fun _ => ?_) (fun c => absurd c (by decide))
  refine xr_iload_n dX10_pushesAs_31 1 rfl ?_
  refine xr_bipush (v := 6) dX10_pushesAs_32 rfl ?_
  refine xr_icmp_ne (tgt := 52) dX10_pushesAs_34 rfl (fun _ => ?_) (fun c => absurd c (by decide))
  refine xr_aload_n dX10_pushesAs_52 0 rfl ?_
  refine xr_iconst (v := 1) dX10_pushesAs_53 rfl ?_
  refine xr_callV (As := [.int (1)]) (rest := []) mlX10_340 (g_X10_begins 1 (by omega) e_ra) dX10_pushesAs_54 s_62 rfl rfl (Nat.le_of_ble_eq_true rfl) (by decide) ⟨by decide, by decide⟩ (fun v s2 M2 J2 hq => ?_)
  obtain ⟨rfl, rfl, rfl, k3, hx1⟩ := hq
  try dsimp only [Option.toList, List.cons_append, List.nil_append]
  refine xr_iload_n dX10_pushesAs_57 2 rfl ?_
  refine xr_aload_n dX10_pushesAs_58 0 rfl ?_
  refine xb_get (v := nI (ac)) flX10_346 dX10_pushesAs_59 s_62 rfl (Eq.trans (k3 62 41 (by decide)) e_ac) ?_
  refine xr_iadd dX10_pushesAs_62 ?_
  exact xr_iret dX10_pushesAs_63 rfl rfl (⟨_, rfl, rfl, rfl, (Ke.tr (fun _ _ h => h) Ke.rf k3), rfl, hx1⟩)
set_option maxRecDepth 100000 in
set_option maxHeartbeats 4000000 in
theorem ra0_turnsAs_0 {ac : Nat} (x : Int32) {l : Launch} {G : xG} {M : xM} {J : xJ} {ra : Nat} (h_ra : ra + 2 ≤ 900) (e_ra : M 62 39 = nI ra) (e_k : M 62 40 = 0) (e_ac : M 62 41 = nI ac) : x_M l G fX10_turnsAs 2 0 0 [.ref (62), .int (0), .int (x)] x_SH M J (qKI WRA M J (fun r M2 => r = ((x + (nI (ac))) * 2) ∧ M2 62 39 = nI (ra + 2))) := by
  refine xb_of pX10 (Nat.le_of_ble_eq_true rfl) rfl ?_
  refine xr_iload_n dX10_turnsAs_0 1 rfl ?_
  refine xr_iconst (v := 3) dX10_turnsAs_1 rfl ?_
  refine xr_icmp_eq (tgt := 10) dX10_turnsAs_2 rfl (fun c => absurd c (by decide)) (fun _ => ?_)
  refine xr_iload_n dX10_turnsAs_5 1 rfl ?_
  refine xr_iconst (v := 5) dX10_turnsAs_6 rfl ?_
  refine xr_icmp_ne (tgt := 25) dX10_turnsAs_7 rfl (fun _ => ?_) (fun c => absurd c (by decide))
  refine xr_iload_n dX10_turnsAs_25 1 rfl ?_
  refine xr_iconst (v := 2) dX10_turnsAs_26 rfl ?_
  refine xr_icmp_ne (tgt := 44) dX10_turnsAs_27 rfl (fun _ => ?_) (fun c => absurd c (by decide))
  refine xr_iload_n dX10_turnsAs_44 1 rfl ?_
  refine xr_bipush (v := 7) dX10_turnsAs_45 rfl ?_
  refine xr_icmp_ne (tgt := 75) dX10_turnsAs_47 rfl (fun _ => ?_) (fun c => absurd c (by decide))
  refine xr_aload_n dX10_turnsAs_75 0 rfl ?_
  refine xr_bipush (v := 10) dX10_turnsAs_76 rfl ?_
  refine xr_callV (As := [.int (10)]) (rest := []) mlX10_340 (g_X10_begins 10 (by omega) e_ra) dX10_turnsAs_78 s_62 rfl rfl (Nat.le_of_ble_eq_true rfl) (by decide) ⟨by decide, by decide⟩ (fun v s2 M2 J2 hq => ?_)
  obtain ⟨rfl, rfl, rfl, k3, hx1⟩ := hq
  try dsimp only [Option.toList, List.cons_append, List.nil_append]
  refine xr_aload_n dX10_turnsAs_81 0 rfl ?_
  refine xr_aload_n dX10_turnsAs_82 0 rfl ?_
  refine xb_get (v := 0) flX10_352 dX10_turnsAs_83 s_62 rfl (Eq.trans (k3 62 40 (by decide)) e_k) ?_
  refine xr_iload_n dX10_turnsAs_86 2 rfl ?_
  refine xr_callV (As := [.int (0), .int (x)]) (rest := []) mlX10_343 (ra0_pushesAs_0 x (by omega) hx1 (Eq.trans (k3 62 40 (by decide)) e_k) (Eq.trans (k3 62 41 (by decide)) e_ac)) dX10_turnsAs_87 s_62 rfl rfl (Nat.le_of_ble_eq_true rfl) (by decide) ⟨by decide, by decide⟩ (fun v s2 M6 J2 hq => ?_)
  obtain ⟨r8, rfl, rfl, rfl, k7, ⟨hr5, hx4⟩⟩ := hq
  try dsimp only [Option.toList, List.cons_append, List.nil_append]
  subst hr5
  refine xr_iconst (v := 2) dX10_turnsAs_90 rfl ?_
  refine xr_imul dX10_turnsAs_91 ?_
  exact xr_iret dX10_turnsAs_92 rfl rfl (⟨_, rfl, rfl, rfl, (Ke.tr (fun _ _ h => h) (Ke.tr (fun _ _ h => h) Ke.rf k3) k7), rfl, hx4⟩)
set_option maxRecDepth 100000 in
set_option maxHeartbeats 4000000 in
theorem ra0_sinksAs_0 {ac : Nat} (x : Int32) {l : Launch} {G : xG} {M : xM} {J : xJ} {ra : Nat} (h_ra : ra + 1 ≤ 900) (e_ra : M 62 39 = nI ra) (e_k : M 62 40 = 0) (e_ac : M 62 41 = nI ac) : x_M l G fX10_sinksAs 1 0 0 [.ref (62), .int (0), .int (x)] x_SH M J (qKI WRA M J (fun r M2 => r = (x ^^^ (nI (ac))) ∧ M2 62 39 = nI (ra + 1))) := by
  refine xb_of pX10 (Nat.le_of_ble_eq_true rfl) rfl ?_
  refine xr_iload_n dX10_sinksAs_0 1 rfl ?_
  refine xr_iconst (v := 3) dX10_sinksAs_1 rfl ?_
  refine xr_icmp_eq (tgt := 10) dX10_sinksAs_2 rfl (fun c => absurd c (by decide)) (fun _ => ?_)
  refine xr_iload_n dX10_sinksAs_5 1 rfl ?_
  refine xr_iconst (v := 5) dX10_sinksAs_6 rfl ?_
  refine xr_icmp_ne (tgt := 25) dX10_sinksAs_7 rfl (fun _ => ?_) (fun c => absurd c (by decide))
  refine xr_iload_n dX10_sinksAs_25 1 rfl ?_
  refine xr_iconst (v := 4) dX10_sinksAs_26 rfl ?_
  refine xr_icmp_eq (tgt := 36) dX10_sinksAs_27 rfl (fun c => absurd c (by decide)) (fun _ => ?_)
  refine xr_iload_n dX10_sinksAs_30 1 rfl ?_
  refine xr_bipush (v := 7) dX10_sinksAs_31 rfl ?_
  refine xr_icmp_ne (tgt := 61) dX10_sinksAs_33 rfl (fun _ => ?_) (fun c => absurd c (by decide))
  refine xr_aload_n dX10_sinksAs_61 0 rfl ?_
  refine xr_bipush (v := 11) dX10_sinksAs_62 rfl ?_
  refine xr_callV (As := [.int (11)]) (rest := []) mlX10_340 (g_X10_begins 11 (by omega) e_ra) dX10_sinksAs_64 s_62 rfl rfl (Nat.le_of_ble_eq_true rfl) (by decide) ⟨by decide, by decide⟩ (fun v s2 M2 J2 hq => ?_)
  obtain ⟨rfl, rfl, rfl, k3, hx1⟩ := hq
  try dsimp only [Option.toList, List.cons_append, List.nil_append]
  refine xr_iload_n dX10_sinksAs_67 2 rfl ?_
  refine xr_aload_n dX10_sinksAs_68 0 rfl ?_
  refine xb_get (v := nI (ac)) flX10_346 dX10_sinksAs_69 s_62 rfl (Eq.trans (k3 62 41 (by decide)) e_ac) ?_
  refine xr_ixor dX10_sinksAs_72 ?_
  exact xr_iret dX10_sinksAs_73 rfl rfl (⟨_, rfl, rfl, rfl, (Ke.tr (fun _ _ h => h) Ke.rf k3), rfl, hx1⟩)
set_option maxRecDepth 100000 in
set_option maxHeartbeats 4000000 in
theorem ra0_tellsAs_0 {ac : Nat} (x : Int32) {l : Launch} {G : xG} {M : xM} {J : xJ} {ra : Nat} (h_ra : ra + 4 ≤ 900) (e_ra : M 62 39 = nI ra) (e_k : M 62 40 = 0) (e_ac : M 62 41 = nI ac) : x_M l G fX10_tellsAs 3 0 0 [.ref (62), .int (0), .int (x)] x_SH M J (qKI WRA M J (fun r M2 => r = (((x + (nI (ac))) * 2) - (1 ^^^ (nI (ac)))) ∧ M2 62 39 = nI (ra + 4))) := by
  refine xb_of pX10 (Nat.le_of_ble_eq_true rfl) rfl ?_
  refine xr_iload_n dX10_tellsAs_0 1 rfl ?_
  refine xr_iconst (v := 5) dX10_tellsAs_1 rfl ?_
  refine xr_icmp_ne (tgt := 20) dX10_tellsAs_2 rfl (fun _ => ?_) (fun c => absurd c (by decide))
  refine xr_iload_n dX10_tellsAs_20 1 rfl ?_
  refine xr_bipush (v := 7) dX10_tellsAs_21 rfl ?_
  refine xr_icmp_ne (tgt := 41) dX10_tellsAs_23 rfl (fun _ => ?_) (fun c => absurd c (by decide))
  refine xr_aload_n dX10_tellsAs_41 0 rfl ?_
  refine xr_iconst (v := 2) dX10_tellsAs_42 rfl ?_
  refine xr_callV (As := [.int (2)]) (rest := []) mlX10_340 (g_X10_begins 2 (by omega) e_ra) dX10_tellsAs_43 s_62 rfl rfl (Nat.le_of_ble_eq_true rfl) (by decide) ⟨by decide, by decide⟩ (fun v s2 M2 J2 hq => ?_)
  obtain ⟨rfl, rfl, rfl, k3, hx1⟩ := hq
  try dsimp only [Option.toList, List.cons_append, List.nil_append]
  refine xr_aload_n dX10_tellsAs_46 0 rfl ?_
  refine xr_aload_n dX10_tellsAs_47 0 rfl ?_
  refine xb_get (v := 0) flX10_352 dX10_tellsAs_48 s_62 rfl (Eq.trans (k3 62 40 (by decide)) e_k) ?_
  refine xr_iload_n dX10_tellsAs_51 2 rfl ?_
  refine xr_callV (As := [.int (0), .int (x)]) (rest := []) mlX10_349 (ra0_turnsAs_0 x (by omega) hx1 (Eq.trans (k3 62 40 (by decide)) e_k) (Eq.trans (k3 62 41 (by decide)) e_ac)) dX10_tellsAs_52 s_62 rfl rfl (Nat.le_of_ble_eq_true rfl) (by decide) ⟨by decide, by decide⟩ (fun v s2 M6 J2 hq => ?_)
  obtain ⟨r8, rfl, rfl, rfl, k7, ⟨hr5, hx4⟩⟩ := hq
  try dsimp only [Option.toList, List.cons_append, List.nil_append]
  subst hr5
  refine xr_istore_n (ls2 := [(3, .int (((x + (nI (ac))) * 2))), (0, .ref (62)), (1, .int (0)), (2, .int (x))]) dX10_tellsAs_55 (by decide) rfl ?_
  refine xr_iload_n dX10_tellsAs_56 0 rfl ?_
  refine xr_aload_n dX10_tellsAs_57 1 rfl ?_
  refine xr_aload_n dX10_tellsAs_58 1 rfl ?_
  refine xb_get (v := 0) flX10_352 dX10_tellsAs_59 s_62 rfl (Eq.trans (k7 62 40 (by decide)) (Eq.trans (k3 62 40 (by decide)) e_k)) ?_
  refine xr_iconst (v := 1) dX10_tellsAs_62 rfl ?_
  refine xr_callV (As := [.int (0), .int (1)]) (rest := [.int (((x + (nI (ac))) * 2))]) mlX10_355 (ra0_sinksAs_0 1 (by omega) hx4 (Eq.trans (k7 62 40 (by decide)) (Eq.trans (k3 62 40 (by decide)) e_k)) (Eq.trans (k7 62 41 (by decide)) (Eq.trans (k3 62 41 (by decide)) e_ac))) dX10_tellsAs_63 s_62 rfl rfl (Nat.le_of_ble_eq_true rfl) (by decide) ⟨by decide, by decide⟩ (fun v s2 M11 J2 hq => ?_)
  obtain ⟨r13, rfl, rfl, rfl, k12, ⟨hr10, hx9⟩⟩ := hq
  try dsimp only [Option.toList, List.cons_append, List.nil_append]
  subst hr10
  refine xr_isub dX10_tellsAs_66 ?_
  exact xr_iret dX10_tellsAs_67 rfl rfl (⟨_, rfl, rfl, rfl, (Ke.tr (fun _ _ h => h) (Ke.tr (fun _ _ h => h) (Ke.tr (fun _ _ h => h) Ke.rf k3) k7) k12), rfl, hx9⟩)
set_option maxRecDepth 100000 in
set_option maxHeartbeats 4000000 in
theorem ra1_pushesAs_0 {ac : Nat} (x : Int32) {l : Launch} {G : xG} {M : xM} {J : xJ} {ra : Nat} (h_ra : ra + 1 ≤ 900) (e_ra : M 62 39 = nI ra) (e_k : M 62 40 = 1) (e_ac : M 62 41 = nI ac) : x_M l G fX10_pushesAs 1 0 0 [.ref (62), .int (0), .int (x)] x_SH M J (qKI WRA M J (fun r M2 => r = (x + (nI (ac))) ∧ M2 62 39 = nI (ra + 1))) := by
  refine xb_of pX10 (Nat.le_of_ble_eq_true rfl) rfl ?_
  refine xr_iload_n dX10_pushesAs_0 1 rfl ?_
  refine xr_iconst (v := 1) dX10_pushesAs_1 rfl ?_
  refine xr_icmp_eq (tgt := 16) dX10_pushesAs_2 rfl (fun c => absurd c (by decide)) (fun _ => ?_)
  refine xr_iload_n dX10_pushesAs_5 1 rfl ?_
  refine xr_iconst (v := 4) dX10_pushesAs_6 rfl ?_
  refine xr_icmp_eq (tgt := 16) dX10_pushesAs_7 rfl (fun c => absurd c (by decide)) (fun _ => ?_)
  refine xr_iload_n dX10_pushesAs_10 1 rfl ?_
  refine xr_bipush (v := 7) dX10_pushesAs_11 rfl ?_
  refine xr_icmp_ne (tgt := 31) dX10_pushesAs_13 rfl (fun _ => ?_) (fun c => absurd c (by decide))
  refine xr_iload_n dX10_pushesAs_31 1 rfl ?_
  refine xr_bipush (v := 6) dX10_pushesAs_32 rfl ?_
  refine xr_icmp_ne (tgt := 52) dX10_pushesAs_34 rfl (fun _ => ?_) (fun c => absurd c (by decide))
  refine xr_aload_n dX10_pushesAs_52 0 rfl ?_
  refine xr_iconst (v := 1) dX10_pushesAs_53 rfl ?_
  refine xr_callV (As := [.int (1)]) (rest := []) mlX10_340 (g_X10_begins 1 (by omega) e_ra) dX10_pushesAs_54 s_62 rfl rfl (Nat.le_of_ble_eq_true rfl) (by decide) ⟨by decide, by decide⟩ (fun v s2 M2 J2 hq => ?_)
  obtain ⟨rfl, rfl, rfl, k3, hx1⟩ := hq
  try dsimp only [Option.toList, List.cons_append, List.nil_append]
  refine xr_iload_n dX10_pushesAs_57 2 rfl ?_
  refine xr_aload_n dX10_pushesAs_58 0 rfl ?_
  refine xb_get (v := nI (ac)) flX10_346 dX10_pushesAs_59 s_62 rfl (Eq.trans (k3 62 41 (by decide)) e_ac) ?_
  refine xr_iadd dX10_pushesAs_62 ?_
  exact xr_iret dX10_pushesAs_63 rfl rfl (⟨_, rfl, rfl, rfl, (Ke.tr (fun _ _ h => h) Ke.rf k3), rfl, hx1⟩)
set_option maxRecDepth 100000 in
set_option maxHeartbeats 4000000 in
theorem ra1_pushesAs_1 {ac : Nat} (x : Int32) {l : Launch} {G : xG} {M : xM} {J : xJ} {ra : Nat} (h_ra : ra + 2 ≤ 900) (e_ra : M 62 39 = nI ra) (e_k : M 62 40 = 1) (e_ac : M 62 41 = nI ac) : x_M l G fX10_pushesAs 2 0 0 [.ref (62), .int (1), .int (x)] x_SH M J (qKI WRA M J (fun r M2 => r = ((x + (nI (ac))) + 3) ∧ M2 62 39 = nI (ra + 2))) := by
  refine xb_of pX10 (Nat.le_of_ble_eq_true rfl) rfl ?_
  refine xr_iload_n dX10_pushesAs_0 1 rfl ?_
  refine xr_iconst (v := 1) dX10_pushesAs_1 rfl ?_
  refine xr_icmp_eq (tgt := 16) dX10_pushesAs_2 rfl (fun _ => ?_) (fun c => absurd (by decide) c)
  refine xr_aload_n dX10_pushesAs_16 0 rfl ?_
  refine xr_bipush (v := 20) dX10_pushesAs_17 rfl ?_
  refine xr_callV (As := [.int (20)]) (rest := []) mlX10_340 (g_X10_begins 20 (by omega) e_ra) dX10_pushesAs_19 s_62 rfl rfl (Nat.le_of_ble_eq_true rfl) (by decide) ⟨by decide, by decide⟩ (fun v s2 M2 J2 hq => ?_)
  obtain ⟨rfl, rfl, rfl, k3, hx1⟩ := hq
  try dsimp only [Option.toList, List.cons_append, List.nil_append]
  refine xr_aload_n dX10_pushesAs_22 0 rfl ?_
  refine xr_iconst (v := 0) dX10_pushesAs_23 rfl ?_
  refine xr_iload_n dX10_pushesAs_24 2 rfl ?_
  refine xr_callV (As := [.int (0), .int (x)]) (rest := []) mlX10_343 (ra1_pushesAs_0 x (by omega) hx1 (Eq.trans (k3 62 40 (by decide)) e_k) (Eq.trans (k3 62 41 (by decide)) e_ac)) dX10_pushesAs_25 s_62 rfl rfl (Nat.le_of_ble_eq_true rfl) (by decide) ⟨by decide, by decide⟩ (fun v s2 M6 J2 hq => ?_)
  obtain ⟨r8, rfl, rfl, rfl, k7, ⟨hr5, hx4⟩⟩ := hq
  try dsimp only [Option.toList, List.cons_append, List.nil_append]
  subst hr5
  refine xr_iconst (v := 3) dX10_pushesAs_28 rfl ?_
  refine xr_iadd dX10_pushesAs_29 ?_
  exact xr_iret dX10_pushesAs_30 rfl rfl (⟨_, rfl, rfl, rfl, (Ke.tr (fun _ _ h => h) (Ke.tr (fun _ _ h => h) Ke.rf k3) k7), rfl, hx4⟩)
set_option maxRecDepth 100000 in
set_option maxHeartbeats 4000000 in
theorem ra1_turnsAs_1 {ac : Nat} (x : Int32) {l : Launch} {G : xG} {M : xM} {J : xJ} {ra : Nat} (h_ra : ra + 3 ≤ 900) (e_ra : M 62 39 = nI ra) (e_k : M 62 40 = 1) (e_ac : M 62 41 = nI ac) : x_M l G fX10_turnsAs 3 0 0 [.ref (62), .int (1), .int (x)] x_SH M J (qKI WRA M J (fun r M2 => r = (((x + (nI (ac))) + 3) * 2) ∧ M2 62 39 = nI (ra + 3))) := by
  refine xb_of pX10 (Nat.le_of_ble_eq_true rfl) rfl ?_
  refine xr_iload_n dX10_turnsAs_0 1 rfl ?_
  refine xr_iconst (v := 3) dX10_turnsAs_1 rfl ?_
  refine xr_icmp_eq (tgt := 10) dX10_turnsAs_2 rfl (fun c => absurd c (by decide)) (fun _ => ?_)
  refine xr_iload_n dX10_turnsAs_5 1 rfl ?_
  refine xr_iconst (v := 5) dX10_turnsAs_6 rfl ?_
  refine xr_icmp_ne (tgt := 25) dX10_turnsAs_7 rfl (fun _ => ?_) (fun c => absurd c (by decide))
  refine xr_iload_n dX10_turnsAs_25 1 rfl ?_
  refine xr_iconst (v := 2) dX10_turnsAs_26 rfl ?_
  refine xr_icmp_ne (tgt := 44) dX10_turnsAs_27 rfl (fun _ => ?_) (fun c => absurd c (by decide))
  refine xr_iload_n dX10_turnsAs_44 1 rfl ?_
  refine xr_bipush (v := 7) dX10_turnsAs_45 rfl ?_
  refine xr_icmp_ne (tgt := 75) dX10_turnsAs_47 rfl (fun _ => ?_) (fun c => absurd c (by decide))
  refine xr_aload_n dX10_turnsAs_75 0 rfl ?_
  refine xr_bipush (v := 10) dX10_turnsAs_76 rfl ?_
  refine xr_callV (As := [.int (10)]) (rest := []) mlX10_340 (g_X10_begins 10 (by omega) e_ra) dX10_turnsAs_78 s_62 rfl rfl (Nat.le_of_ble_eq_true rfl) (by decide) ⟨by decide, by decide⟩ (fun v s2 M2 J2 hq => ?_)
  obtain ⟨rfl, rfl, rfl, k3, hx1⟩ := hq
  try dsimp only [Option.toList, List.cons_append, List.nil_append]
  refine xr_aload_n dX10_turnsAs_81 0 rfl ?_
  refine xr_aload_n dX10_turnsAs_82 0 rfl ?_
  refine xb_get (v := 1) flX10_352 dX10_turnsAs_83 s_62 rfl (Eq.trans (k3 62 40 (by decide)) e_k) ?_
  refine xr_iload_n dX10_turnsAs_86 2 rfl ?_
  refine xr_callV (As := [.int (1), .int (x)]) (rest := []) mlX10_343 (ra1_pushesAs_1 x (by omega) hx1 (Eq.trans (k3 62 40 (by decide)) e_k) (Eq.trans (k3 62 41 (by decide)) e_ac)) dX10_turnsAs_87 s_62 rfl rfl (Nat.le_of_ble_eq_true rfl) (by decide) ⟨by decide, by decide⟩ (fun v s2 M6 J2 hq => ?_)
  obtain ⟨r8, rfl, rfl, rfl, k7, ⟨hr5, hx4⟩⟩ := hq
  try dsimp only [Option.toList, List.cons_append, List.nil_append]
  subst hr5
  refine xr_iconst (v := 2) dX10_turnsAs_90 rfl ?_
  refine xr_imul dX10_turnsAs_91 ?_
  exact xr_iret dX10_turnsAs_92 rfl rfl (⟨_, rfl, rfl, rfl, (Ke.tr (fun _ _ h => h) (Ke.tr (fun _ _ h => h) Ke.rf k3) k7), rfl, hx4⟩)
set_option maxRecDepth 100000 in
set_option maxHeartbeats 4000000 in
theorem ra1_sinksAs_1 {ac : Nat} (x : Int32) {l : Launch} {G : xG} {M : xM} {J : xJ} {ra : Nat} (h_ra : ra + 1 ≤ 900) (e_ra : M 62 39 = nI ra) (e_k : M 62 40 = 1) (e_ac : M 62 41 = nI ac) : x_M l G fX10_sinksAs 1 0 0 [.ref (62), .int (1), .int (x)] x_SH M J (qKI WRA M J (fun r M2 => r = (x ^^^ (nI (ac))) ∧ M2 62 39 = nI (ra + 1))) := by
  refine xb_of pX10 (Nat.le_of_ble_eq_true rfl) rfl ?_
  refine xr_iload_n dX10_sinksAs_0 1 rfl ?_
  refine xr_iconst (v := 3) dX10_sinksAs_1 rfl ?_
  refine xr_icmp_eq (tgt := 10) dX10_sinksAs_2 rfl (fun c => absurd c (by decide)) (fun _ => ?_)
  refine xr_iload_n dX10_sinksAs_5 1 rfl ?_
  refine xr_iconst (v := 5) dX10_sinksAs_6 rfl ?_
  refine xr_icmp_ne (tgt := 25) dX10_sinksAs_7 rfl (fun _ => ?_) (fun c => absurd c (by decide))
  refine xr_iload_n dX10_sinksAs_25 1 rfl ?_
  refine xr_iconst (v := 4) dX10_sinksAs_26 rfl ?_
  refine xr_icmp_eq (tgt := 36) dX10_sinksAs_27 rfl (fun c => absurd c (by decide)) (fun _ => ?_)
  refine xr_iload_n dX10_sinksAs_30 1 rfl ?_
  refine xr_bipush (v := 7) dX10_sinksAs_31 rfl ?_
  refine xr_icmp_ne (tgt := 61) dX10_sinksAs_33 rfl (fun _ => ?_) (fun c => absurd c (by decide))
  refine xr_aload_n dX10_sinksAs_61 0 rfl ?_
  refine xr_bipush (v := 11) dX10_sinksAs_62 rfl ?_
  refine xr_callV (As := [.int (11)]) (rest := []) mlX10_340 (g_X10_begins 11 (by omega) e_ra) dX10_sinksAs_64 s_62 rfl rfl (Nat.le_of_ble_eq_true rfl) (by decide) ⟨by decide, by decide⟩ (fun v s2 M2 J2 hq => ?_)
  obtain ⟨rfl, rfl, rfl, k3, hx1⟩ := hq
  try dsimp only [Option.toList, List.cons_append, List.nil_append]
  refine xr_iload_n dX10_sinksAs_67 2 rfl ?_
  refine xr_aload_n dX10_sinksAs_68 0 rfl ?_
  refine xb_get (v := nI (ac)) flX10_346 dX10_sinksAs_69 s_62 rfl (Eq.trans (k3 62 41 (by decide)) e_ac) ?_
  refine xr_ixor dX10_sinksAs_72 ?_
  exact xr_iret dX10_sinksAs_73 rfl rfl (⟨_, rfl, rfl, rfl, (Ke.tr (fun _ _ h => h) Ke.rf k3), rfl, hx1⟩)
set_option maxRecDepth 100000 in
set_option maxHeartbeats 4000000 in
theorem ra1_tellsAs_1 {ac : Nat} (x : Int32) {l : Launch} {G : xG} {M : xM} {J : xJ} {ra : Nat} (h_ra : ra + 5 ≤ 900) (e_ra : M 62 39 = nI ra) (e_k : M 62 40 = 1) (e_ac : M 62 41 = nI ac) : x_M l G fX10_tellsAs 4 0 0 [.ref (62), .int (1), .int (x)] x_SH M J (qKI WRA M J (fun r M2 => r = ((((x + (nI (ac))) + 3) * 2) - (1 ^^^ (nI (ac)))) ∧ M2 62 39 = nI (ra + 5))) := by
  refine xb_of pX10 (Nat.le_of_ble_eq_true rfl) rfl ?_
  refine xr_iload_n dX10_tellsAs_0 1 rfl ?_
  refine xr_iconst (v := 5) dX10_tellsAs_1 rfl ?_
  refine xr_icmp_ne (tgt := 20) dX10_tellsAs_2 rfl (fun _ => ?_) (fun c => absurd c (by decide))
  refine xr_iload_n dX10_tellsAs_20 1 rfl ?_
  refine xr_bipush (v := 7) dX10_tellsAs_21 rfl ?_
  refine xr_icmp_ne (tgt := 41) dX10_tellsAs_23 rfl (fun _ => ?_) (fun c => absurd c (by decide))
  refine xr_aload_n dX10_tellsAs_41 0 rfl ?_
  refine xr_iconst (v := 2) dX10_tellsAs_42 rfl ?_
  refine xr_callV (As := [.int (2)]) (rest := []) mlX10_340 (g_X10_begins 2 (by omega) e_ra) dX10_tellsAs_43 s_62 rfl rfl (Nat.le_of_ble_eq_true rfl) (by decide) ⟨by decide, by decide⟩ (fun v s2 M2 J2 hq => ?_)
  obtain ⟨rfl, rfl, rfl, k3, hx1⟩ := hq
  try dsimp only [Option.toList, List.cons_append, List.nil_append]
  refine xr_aload_n dX10_tellsAs_46 0 rfl ?_
  refine xr_aload_n dX10_tellsAs_47 0 rfl ?_
  refine xb_get (v := 1) flX10_352 dX10_tellsAs_48 s_62 rfl (Eq.trans (k3 62 40 (by decide)) e_k) ?_
  refine xr_iload_n dX10_tellsAs_51 2 rfl ?_
  refine xr_callV (As := [.int (1), .int (x)]) (rest := []) mlX10_349 (ra1_turnsAs_1 x (by omega) hx1 (Eq.trans (k3 62 40 (by decide)) e_k) (Eq.trans (k3 62 41 (by decide)) e_ac)) dX10_tellsAs_52 s_62 rfl rfl (Nat.le_of_ble_eq_true rfl) (by decide) ⟨by decide, by decide⟩ (fun v s2 M6 J2 hq => ?_)
  obtain ⟨r8, rfl, rfl, rfl, k7, ⟨hr5, hx4⟩⟩ := hq
  try dsimp only [Option.toList, List.cons_append, List.nil_append]
  subst hr5
  refine xr_istore_n (ls2 := [(3, .int ((((x + (nI (ac))) + 3) * 2))), (0, .ref (62)), (1, .int (1)), (2, .int (x))]) dX10_tellsAs_55 (by decide) rfl ?_
  refine xr_iload_n dX10_tellsAs_56 0 rfl ?_
  refine xr_aload_n dX10_tellsAs_57 1 rfl ?_
  refine xr_aload_n dX10_tellsAs_58 1 rfl ?_
  refine xb_get (v := 1) flX10_352 dX10_tellsAs_59 s_62 rfl (Eq.trans (k7 62 40 (by decide)) (Eq.trans (k3 62 40 (by decide)) e_k)) ?_
  refine xr_iconst (v := 1) dX10_tellsAs_62 rfl ?_
  refine xr_callV (As := [.int (1), .int (1)]) (rest := [.int ((((x + (nI (ac))) + 3) * 2))]) mlX10_355 (ra1_sinksAs_1 1 (by omega) hx4 (Eq.trans (k7 62 40 (by decide)) (Eq.trans (k3 62 40 (by decide)) e_k)) (Eq.trans (k7 62 41 (by decide)) (Eq.trans (k3 62 41 (by decide)) e_ac))) dX10_tellsAs_63 s_62 rfl rfl (Nat.le_of_ble_eq_true rfl) (by decide) ⟨by decide, by decide⟩ (fun v s2 M11 J2 hq => ?_)
  obtain ⟨r13, rfl, rfl, rfl, k12, ⟨hr10, hx9⟩⟩ := hq
  try dsimp only [Option.toList, List.cons_append, List.nil_append]
  subst hr10
  refine xr_isub dX10_tellsAs_66 ?_
  exact xr_iret dX10_tellsAs_67 rfl rfl (⟨_, rfl, rfl, rfl, (Ke.tr (fun _ _ h => h) (Ke.tr (fun _ _ h => h) (Ke.tr (fun _ _ h => h) Ke.rf k3) k7) k12), rfl, hx9⟩)
set_option maxRecDepth 100000 in
set_option maxHeartbeats 4000000 in
theorem ra2_pushesAs_2 {ac : Nat} (x : Int32) {l : Launch} {G : xG} {M : xM} {J : xJ} {ra : Nat} (h_ra : ra + 1 ≤ 900) (e_ra : M 62 39 = nI ra) (e_k : M 62 40 = 2) (e_ac : M 62 41 = nI ac) : x_M l G fX10_pushesAs 1 0 0 [.ref (62), .int (2), .int (x)] x_SH M J (qKI WRA M J (fun r M2 => r = (x + (nI (ac))) ∧ M2 62 39 = nI (ra + 1))) := by
  refine xb_of pX10 (Nat.le_of_ble_eq_true rfl) rfl ?_
  refine xr_iload_n dX10_pushesAs_0 1 rfl ?_
  refine xr_iconst (v := 1) dX10_pushesAs_1 rfl ?_
  refine xr_icmp_eq (tgt := 16) dX10_pushesAs_2 rfl (fun c => absurd c (by decide)) (fun _ => ?_)
  refine xr_iload_n dX10_pushesAs_5 1 rfl ?_
  refine xr_iconst (v := 4) dX10_pushesAs_6 rfl ?_
  refine xr_icmp_eq (tgt := 16) dX10_pushesAs_7 rfl (fun c => absurd c (by decide)) (fun _ => ?_)
  refine xr_iload_n dX10_pushesAs_10 1 rfl ?_
  refine xr_bipush (v := 7) dX10_pushesAs_11 rfl ?_
  refine xr_icmp_ne (tgt := 31) dX10_pushesAs_13 rfl (fun _ => ?_) (fun c => absurd c (by decide))
  refine xr_iload_n dX10_pushesAs_31 1 rfl ?_
  refine xr_bipush (v := 6) dX10_pushesAs_32 rfl ?_
  refine xr_icmp_ne (tgt := 52) dX10_pushesAs_34 rfl (fun _ => ?_) (fun c => absurd c (by decide))
  refine xr_aload_n dX10_pushesAs_52 0 rfl ?_
  refine xr_iconst (v := 1) dX10_pushesAs_53 rfl ?_
  refine xr_callV (As := [.int (1)]) (rest := []) mlX10_340 (g_X10_begins 1 (by omega) e_ra) dX10_pushesAs_54 s_62 rfl rfl (Nat.le_of_ble_eq_true rfl) (by decide) ⟨by decide, by decide⟩ (fun v s2 M2 J2 hq => ?_)
  obtain ⟨rfl, rfl, rfl, k3, hx1⟩ := hq
  try dsimp only [Option.toList, List.cons_append, List.nil_append]
  refine xr_iload_n dX10_pushesAs_57 2 rfl ?_
  refine xr_aload_n dX10_pushesAs_58 0 rfl ?_
  refine xb_get (v := nI (ac)) flX10_346 dX10_pushesAs_59 s_62 rfl (Eq.trans (k3 62 41 (by decide)) e_ac) ?_
  refine xr_iadd dX10_pushesAs_62 ?_
  exact xr_iret dX10_pushesAs_63 rfl rfl (⟨_, rfl, rfl, rfl, (Ke.tr (fun _ _ h => h) Ke.rf k3), rfl, hx1⟩)
set_option maxRecDepth 100000 in
set_option maxHeartbeats 4000000 in
theorem ra2_turnsAs_0 {ac : Nat} (x : Int32) {l : Launch} {G : xG} {M : xM} {J : xJ} {ra : Nat} (h_ra : ra + 2 ≤ 900) (e_ra : M 62 39 = nI ra) (e_k : M 62 40 = 2) (e_ac : M 62 41 = nI ac) : x_M l G fX10_turnsAs 2 0 0 [.ref (62), .int (0), .int (x)] x_SH M J (qKI WRA M J (fun r M2 => r = ((x + (nI (ac))) * 2) ∧ M2 62 39 = nI (ra + 2))) := by
  refine xb_of pX10 (Nat.le_of_ble_eq_true rfl) rfl ?_
  refine xr_iload_n dX10_turnsAs_0 1 rfl ?_
  refine xr_iconst (v := 3) dX10_turnsAs_1 rfl ?_
  refine xr_icmp_eq (tgt := 10) dX10_turnsAs_2 rfl (fun c => absurd c (by decide)) (fun _ => ?_)
  refine xr_iload_n dX10_turnsAs_5 1 rfl ?_
  refine xr_iconst (v := 5) dX10_turnsAs_6 rfl ?_
  refine xr_icmp_ne (tgt := 25) dX10_turnsAs_7 rfl (fun _ => ?_) (fun c => absurd c (by decide))
  refine xr_iload_n dX10_turnsAs_25 1 rfl ?_
  refine xr_iconst (v := 2) dX10_turnsAs_26 rfl ?_
  refine xr_icmp_ne (tgt := 44) dX10_turnsAs_27 rfl (fun _ => ?_) (fun c => absurd c (by decide))
  refine xr_iload_n dX10_turnsAs_44 1 rfl ?_
  refine xr_bipush (v := 7) dX10_turnsAs_45 rfl ?_
  refine xr_icmp_ne (tgt := 75) dX10_turnsAs_47 rfl (fun _ => ?_) (fun c => absurd c (by decide))
  refine xr_aload_n dX10_turnsAs_75 0 rfl ?_
  refine xr_bipush (v := 10) dX10_turnsAs_76 rfl ?_
  refine xr_callV (As := [.int (10)]) (rest := []) mlX10_340 (g_X10_begins 10 (by omega) e_ra) dX10_turnsAs_78 s_62 rfl rfl (Nat.le_of_ble_eq_true rfl) (by decide) ⟨by decide, by decide⟩ (fun v s2 M2 J2 hq => ?_)
  obtain ⟨rfl, rfl, rfl, k3, hx1⟩ := hq
  try dsimp only [Option.toList, List.cons_append, List.nil_append]
  refine xr_aload_n dX10_turnsAs_81 0 rfl ?_
  refine xr_aload_n dX10_turnsAs_82 0 rfl ?_
  refine xb_get (v := 2) flX10_352 dX10_turnsAs_83 s_62 rfl (Eq.trans (k3 62 40 (by decide)) e_k) ?_
  refine xr_iload_n dX10_turnsAs_86 2 rfl ?_
  refine xr_callV (As := [.int (2), .int (x)]) (rest := []) mlX10_343 (ra2_pushesAs_2 x (by omega) hx1 (Eq.trans (k3 62 40 (by decide)) e_k) (Eq.trans (k3 62 41 (by decide)) e_ac)) dX10_turnsAs_87 s_62 rfl rfl (Nat.le_of_ble_eq_true rfl) (by decide) ⟨by decide, by decide⟩ (fun v s2 M6 J2 hq => ?_)
  obtain ⟨r8, rfl, rfl, rfl, k7, ⟨hr5, hx4⟩⟩ := hq
  try dsimp only [Option.toList, List.cons_append, List.nil_append]
  subst hr5
  refine xr_iconst (v := 2) dX10_turnsAs_90 rfl ?_
  refine xr_imul dX10_turnsAs_91 ?_
  exact xr_iret dX10_turnsAs_92 rfl rfl (⟨_, rfl, rfl, rfl, (Ke.tr (fun _ _ h => h) (Ke.tr (fun _ _ h => h) Ke.rf k3) k7), rfl, hx4⟩)
set_option maxRecDepth 100000 in
set_option maxHeartbeats 4000000 in
theorem ra2_turnsAs_2 {ac : Nat} (x : Int32) {l : Launch} {G : xG} {M : xM} {J : xJ} {ra : Nat} (h_ra : ra + 3 ≤ 900) (e_ra : M 62 39 = nI ra) (e_k : M 62 40 = 2) (e_ac : M 62 41 = nI ac) : x_M l G fX10_turnsAs 3 0 0 [.ref (62), .int (2), .int (x)] x_SH M J (qKI WRA M J (fun r M2 => r = (-((x + (nI (ac))) * 2)) ∧ M2 62 39 = nI (ra + 3))) := by
  refine xb_of pX10 (Nat.le_of_ble_eq_true rfl) rfl ?_
  refine xr_iload_n dX10_turnsAs_0 1 rfl ?_
  refine xr_iconst (v := 3) dX10_turnsAs_1 rfl ?_
  refine xr_icmp_eq (tgt := 10) dX10_turnsAs_2 rfl (fun c => absurd c (by decide)) (fun _ => ?_)
  refine xr_iload_n dX10_turnsAs_5 1 rfl ?_
  refine xr_iconst (v := 5) dX10_turnsAs_6 rfl ?_
  refine xr_icmp_ne (tgt := 25) dX10_turnsAs_7 rfl (fun _ => ?_) (fun c => absurd c (by decide))
  refine xr_iload_n dX10_turnsAs_25 1 rfl ?_
  refine xr_iconst (v := 2) dX10_turnsAs_26 rfl ?_
  refine xr_icmp_ne (tgt := 44) dX10_turnsAs_27 rfl (fun c => absurd (by decide) c) (fun _ => ?_)
  refine xr_aload_n dX10_turnsAs_30 0 rfl ?_
  refine xr_bipush (v := 30) dX10_turnsAs_31 rfl ?_
  refine xr_callV (As := [.int (30)]) (rest := []) mlX10_340 (g_X10_begins 30 (by omega) e_ra) dX10_turnsAs_33 s_62 rfl rfl (Nat.le_of_ble_eq_true rfl) (by decide) ⟨by decide, by decide⟩ (fun v s2 M2 J2 hq => ?_)
  obtain ⟨rfl, rfl, rfl, k3, hx1⟩ := hq
  try dsimp only [Option.toList, List.cons_append, List.nil_append]
  refine xr_aload_n dX10_turnsAs_36 0 rfl ?_
  refine xr_iconst (v := 0) dX10_turnsAs_37 rfl ?_
  refine xr_iload_n dX10_turnsAs_38 2 rfl ?_
  refine xr_callV (As := [.int (0), .int (x)]) (rest := []) mlX10_349 (ra2_turnsAs_0 x (by omega) hx1 (Eq.trans (k3 62 40 (by decide)) e_k) (Eq.trans (k3 62 41 (by decide)) e_ac)) dX10_turnsAs_39 s_62 rfl rfl (Nat.le_of_ble_eq_true rfl) (by decide) ⟨by decide, by decide⟩ (fun v s2 M6 J2 hq => ?_)
  obtain ⟨r8, rfl, rfl, rfl, k7, ⟨hr5, hx4⟩⟩ := hq
  try dsimp only [Option.toList, List.cons_append, List.nil_append]
  subst hr5
  refine xr_ineg dX10_turnsAs_42 ?_
  exact xr_iret dX10_turnsAs_43 rfl rfl (⟨_, rfl, rfl, rfl, (Ke.tr (fun _ _ h => h) (Ke.tr (fun _ _ h => h) Ke.rf k3) k7), rfl, hx4⟩)
set_option maxRecDepth 100000 in
set_option maxHeartbeats 4000000 in
theorem ra2_sinksAs_2 {ac : Nat} (x : Int32) {l : Launch} {G : xG} {M : xM} {J : xJ} {ra : Nat} (h_ra : ra + 1 ≤ 900) (e_ra : M 62 39 = nI ra) (e_k : M 62 40 = 2) (e_ac : M 62 41 = nI ac) : x_M l G fX10_sinksAs 1 0 0 [.ref (62), .int (2), .int (x)] x_SH M J (qKI WRA M J (fun r M2 => r = (x ^^^ (nI (ac))) ∧ M2 62 39 = nI (ra + 1))) := by
  refine xb_of pX10 (Nat.le_of_ble_eq_true rfl) rfl ?_
  refine xr_iload_n dX10_sinksAs_0 1 rfl ?_
  refine xr_iconst (v := 3) dX10_sinksAs_1 rfl ?_
  refine xr_icmp_eq (tgt := 10) dX10_sinksAs_2 rfl (fun c => absurd c (by decide)) (fun _ => ?_)
  refine xr_iload_n dX10_sinksAs_5 1 rfl ?_
  refine xr_iconst (v := 5) dX10_sinksAs_6 rfl ?_
  refine xr_icmp_ne (tgt := 25) dX10_sinksAs_7 rfl (fun _ => ?_) (fun c => absurd c (by decide))
  refine xr_iload_n dX10_sinksAs_25 1 rfl ?_
  refine xr_iconst (v := 4) dX10_sinksAs_26 rfl ?_
  refine xr_icmp_eq (tgt := 36) dX10_sinksAs_27 rfl (fun c => absurd c (by decide)) (fun _ => ?_)
  refine xr_iload_n dX10_sinksAs_30 1 rfl ?_
  refine xr_bipush (v := 7) dX10_sinksAs_31 rfl ?_
  refine xr_icmp_ne (tgt := 61) dX10_sinksAs_33 rfl (fun _ => ?_) (fun c => absurd c (by decide))
  refine xr_aload_n dX10_sinksAs_61 0 rfl ?_
  refine xr_bipush (v := 11) dX10_sinksAs_62 rfl ?_
  refine xr_callV (As := [.int (11)]) (rest := []) mlX10_340 (g_X10_begins 11 (by omega) e_ra) dX10_sinksAs_64 s_62 rfl rfl (Nat.le_of_ble_eq_true rfl) (by decide) ⟨by decide, by decide⟩ (fun v s2 M2 J2 hq => ?_)
  obtain ⟨rfl, rfl, rfl, k3, hx1⟩ := hq
  try dsimp only [Option.toList, List.cons_append, List.nil_append]
  refine xr_iload_n dX10_sinksAs_67 2 rfl ?_
  refine xr_aload_n dX10_sinksAs_68 0 rfl ?_
  refine xb_get (v := nI (ac)) flX10_346 dX10_sinksAs_69 s_62 rfl (Eq.trans (k3 62 41 (by decide)) e_ac) ?_
  refine xr_ixor dX10_sinksAs_72 ?_
  exact xr_iret dX10_sinksAs_73 rfl rfl (⟨_, rfl, rfl, rfl, (Ke.tr (fun _ _ h => h) Ke.rf k3), rfl, hx1⟩)
set_option maxRecDepth 100000 in
set_option maxHeartbeats 4000000 in
theorem ra2_tellsAs_2 {ac : Nat} (x : Int32) {l : Launch} {G : xG} {M : xM} {J : xJ} {ra : Nat} (h_ra : ra + 5 ≤ 900) (e_ra : M 62 39 = nI ra) (e_k : M 62 40 = 2) (e_ac : M 62 41 = nI ac) : x_M l G fX10_tellsAs 4 0 0 [.ref (62), .int (2), .int (x)] x_SH M J (qKI WRA M J (fun r M2 => r = ((-((x + (nI (ac))) * 2)) - (1 ^^^ (nI (ac)))) ∧ M2 62 39 = nI (ra + 5))) := by
  refine xb_of pX10 (Nat.le_of_ble_eq_true rfl) rfl ?_
  refine xr_iload_n dX10_tellsAs_0 1 rfl ?_
  refine xr_iconst (v := 5) dX10_tellsAs_1 rfl ?_
  refine xr_icmp_ne (tgt := 20) dX10_tellsAs_2 rfl (fun _ => ?_) (fun c => absurd c (by decide))
  refine xr_iload_n dX10_tellsAs_20 1 rfl ?_
  refine xr_bipush (v := 7) dX10_tellsAs_21 rfl ?_
  refine xr_icmp_ne (tgt := 41) dX10_tellsAs_23 rfl (fun _ => ?_) (fun c => absurd c (by decide))
  refine xr_aload_n dX10_tellsAs_41 0 rfl ?_
  refine xr_iconst (v := 2) dX10_tellsAs_42 rfl ?_
  refine xr_callV (As := [.int (2)]) (rest := []) mlX10_340 (g_X10_begins 2 (by omega) e_ra) dX10_tellsAs_43 s_62 rfl rfl (Nat.le_of_ble_eq_true rfl) (by decide) ⟨by decide, by decide⟩ (fun v s2 M2 J2 hq => ?_)
  obtain ⟨rfl, rfl, rfl, k3, hx1⟩ := hq
  try dsimp only [Option.toList, List.cons_append, List.nil_append]
  refine xr_aload_n dX10_tellsAs_46 0 rfl ?_
  refine xr_aload_n dX10_tellsAs_47 0 rfl ?_
  refine xb_get (v := 2) flX10_352 dX10_tellsAs_48 s_62 rfl (Eq.trans (k3 62 40 (by decide)) e_k) ?_
  refine xr_iload_n dX10_tellsAs_51 2 rfl ?_
  refine xr_callV (As := [.int (2), .int (x)]) (rest := []) mlX10_349 (ra2_turnsAs_2 x (by omega) hx1 (Eq.trans (k3 62 40 (by decide)) e_k) (Eq.trans (k3 62 41 (by decide)) e_ac)) dX10_tellsAs_52 s_62 rfl rfl (Nat.le_of_ble_eq_true rfl) (by decide) ⟨by decide, by decide⟩ (fun v s2 M6 J2 hq => ?_)
  obtain ⟨r8, rfl, rfl, rfl, k7, ⟨hr5, hx4⟩⟩ := hq
  try dsimp only [Option.toList, List.cons_append, List.nil_append]
  subst hr5
  refine xr_istore_n (ls2 := [(3, .int ((-((x + (nI (ac))) * 2)))), (0, .ref (62)), (1, .int (2)), (2, .int (x))]) dX10_tellsAs_55 (by decide) rfl ?_
  refine xr_iload_n dX10_tellsAs_56 0 rfl ?_
  refine xr_aload_n dX10_tellsAs_57 1 rfl ?_
  refine xr_aload_n dX10_tellsAs_58 1 rfl ?_
  refine xb_get (v := 2) flX10_352 dX10_tellsAs_59 s_62 rfl (Eq.trans (k7 62 40 (by decide)) (Eq.trans (k3 62 40 (by decide)) e_k)) ?_
  refine xr_iconst (v := 1) dX10_tellsAs_62 rfl ?_
  refine xr_callV (As := [.int (2), .int (1)]) (rest := [.int ((-((x + (nI (ac))) * 2)))]) mlX10_355 (ra2_sinksAs_2 1 (by omega) hx4 (Eq.trans (k7 62 40 (by decide)) (Eq.trans (k3 62 40 (by decide)) e_k)) (Eq.trans (k7 62 41 (by decide)) (Eq.trans (k3 62 41 (by decide)) e_ac))) dX10_tellsAs_63 s_62 rfl rfl (Nat.le_of_ble_eq_true rfl) (by decide) ⟨by decide, by decide⟩ (fun v s2 M11 J2 hq => ?_)
  obtain ⟨r13, rfl, rfl, rfl, k12, ⟨hr10, hx9⟩⟩ := hq
  try dsimp only [Option.toList, List.cons_append, List.nil_append]
  subst hr10
  refine xr_isub dX10_tellsAs_66 ?_
  exact xr_iret dX10_tellsAs_67 rfl rfl (⟨_, rfl, rfl, rfl, (Ke.tr (fun _ _ h => h) (Ke.tr (fun _ _ h => h) (Ke.tr (fun _ _ h => h) Ke.rf k3) k7) k12), rfl, hx9⟩)
set_option maxRecDepth 100000 in
set_option maxHeartbeats 4000000 in
theorem ra3_pushesAs_3 {ac : Nat} (x : Int32) {l : Launch} {G : xG} {M : xM} {J : xJ} {ra : Nat} (h_ra : ra + 1 ≤ 900) (e_ra : M 62 39 = nI ra) (e_k : M 62 40 = 3) (e_ac : M 62 41 = nI ac) : x_M l G fX10_pushesAs 1 0 0 [.ref (62), .int (3), .int (x)] x_SH M J (qKI WRA M J (fun r M2 => r = (x + (nI (ac))) ∧ M2 62 39 = nI (ra + 1))) := by
  refine xb_of pX10 (Nat.le_of_ble_eq_true rfl) rfl ?_
  refine xr_iload_n dX10_pushesAs_0 1 rfl ?_
  refine xr_iconst (v := 1) dX10_pushesAs_1 rfl ?_
  refine xr_icmp_eq (tgt := 16) dX10_pushesAs_2 rfl (fun c => absurd c (by decide)) (fun _ => ?_)
  refine xr_iload_n dX10_pushesAs_5 1 rfl ?_
  refine xr_iconst (v := 4) dX10_pushesAs_6 rfl ?_
  refine xr_icmp_eq (tgt := 16) dX10_pushesAs_7 rfl (fun c => absurd c (by decide)) (fun _ => ?_)
  refine xr_iload_n dX10_pushesAs_10 1 rfl ?_
  refine xr_bipush (v := 7) dX10_pushesAs_11 rfl ?_
  refine xr_icmp_ne (tgt := 31) dX10_pushesAs_13 rfl (fun _ => ?_) (fun c => absurd c (by decide))
  refine xr_iload_n dX10_pushesAs_31 1 rfl ?_
  refine xr_bipush (v := 6) dX10_pushesAs_32 rfl ?_
  refine xr_icmp_ne (tgt := 52) dX10_pushesAs_34 rfl (fun _ => ?_) (fun c => absurd c (by decide))
  refine xr_aload_n dX10_pushesAs_52 0 rfl ?_
  refine xr_iconst (v := 1) dX10_pushesAs_53 rfl ?_
  refine xr_callV (As := [.int (1)]) (rest := []) mlX10_340 (g_X10_begins 1 (by omega) e_ra) dX10_pushesAs_54 s_62 rfl rfl (Nat.le_of_ble_eq_true rfl) (by decide) ⟨by decide, by decide⟩ (fun v s2 M2 J2 hq => ?_)
  obtain ⟨rfl, rfl, rfl, k3, hx1⟩ := hq
  try dsimp only [Option.toList, List.cons_append, List.nil_append]
  refine xr_iload_n dX10_pushesAs_57 2 rfl ?_
  refine xr_aload_n dX10_pushesAs_58 0 rfl ?_
  refine xb_get (v := nI (ac)) flX10_346 dX10_pushesAs_59 s_62 rfl (Eq.trans (k3 62 41 (by decide)) e_ac) ?_
  refine xr_iadd dX10_pushesAs_62 ?_
  exact xr_iret dX10_pushesAs_63 rfl rfl (⟨_, rfl, rfl, rfl, (Ke.tr (fun _ _ h => h) Ke.rf k3), rfl, hx1⟩)
set_option maxRecDepth 100000 in
set_option maxHeartbeats 4000000 in
theorem ra3_turnsAs_0 {ac : Nat} (x : Int32) {l : Launch} {G : xG} {M : xM} {J : xJ} {ra : Nat} (h_ra : ra + 2 ≤ 900) (e_ra : M 62 39 = nI ra) (e_k : M 62 40 = 3) (e_ac : M 62 41 = nI ac) : x_M l G fX10_turnsAs 2 0 0 [.ref (62), .int (0), .int (x)] x_SH M J (qKI WRA M J (fun r M2 => r = ((x + (nI (ac))) * 2) ∧ M2 62 39 = nI (ra + 2))) := by
  refine xb_of pX10 (Nat.le_of_ble_eq_true rfl) rfl ?_
  refine xr_iload_n dX10_turnsAs_0 1 rfl ?_
  refine xr_iconst (v := 3) dX10_turnsAs_1 rfl ?_
  refine xr_icmp_eq (tgt := 10) dX10_turnsAs_2 rfl (fun c => absurd c (by decide)) (fun _ => ?_)
  refine xr_iload_n dX10_turnsAs_5 1 rfl ?_
  refine xr_iconst (v := 5) dX10_turnsAs_6 rfl ?_
  refine xr_icmp_ne (tgt := 25) dX10_turnsAs_7 rfl (fun _ => ?_) (fun c => absurd c (by decide))
  refine xr_iload_n dX10_turnsAs_25 1 rfl ?_
  refine xr_iconst (v := 2) dX10_turnsAs_26 rfl ?_
  refine xr_icmp_ne (tgt := 44) dX10_turnsAs_27 rfl (fun _ => ?_) (fun c => absurd c (by decide))
  refine xr_iload_n dX10_turnsAs_44 1 rfl ?_
  refine xr_bipush (v := 7) dX10_turnsAs_45 rfl ?_
  refine xr_icmp_ne (tgt := 75) dX10_turnsAs_47 rfl (fun _ => ?_) (fun c => absurd c (by decide))
  refine xr_aload_n dX10_turnsAs_75 0 rfl ?_
  refine xr_bipush (v := 10) dX10_turnsAs_76 rfl ?_
  refine xr_callV (As := [.int (10)]) (rest := []) mlX10_340 (g_X10_begins 10 (by omega) e_ra) dX10_turnsAs_78 s_62 rfl rfl (Nat.le_of_ble_eq_true rfl) (by decide) ⟨by decide, by decide⟩ (fun v s2 M2 J2 hq => ?_)
  obtain ⟨rfl, rfl, rfl, k3, hx1⟩ := hq
  try dsimp only [Option.toList, List.cons_append, List.nil_append]
  refine xr_aload_n dX10_turnsAs_81 0 rfl ?_
  refine xr_aload_n dX10_turnsAs_82 0 rfl ?_
  refine xb_get (v := 3) flX10_352 dX10_turnsAs_83 s_62 rfl (Eq.trans (k3 62 40 (by decide)) e_k) ?_
  refine xr_iload_n dX10_turnsAs_86 2 rfl ?_
  refine xr_callV (As := [.int (3), .int (x)]) (rest := []) mlX10_343 (ra3_pushesAs_3 x (by omega) hx1 (Eq.trans (k3 62 40 (by decide)) e_k) (Eq.trans (k3 62 41 (by decide)) e_ac)) dX10_turnsAs_87 s_62 rfl rfl (Nat.le_of_ble_eq_true rfl) (by decide) ⟨by decide, by decide⟩ (fun v s2 M6 J2 hq => ?_)
  obtain ⟨r8, rfl, rfl, rfl, k7, ⟨hr5, hx4⟩⟩ := hq
  try dsimp only [Option.toList, List.cons_append, List.nil_append]
  subst hr5
  refine xr_iconst (v := 2) dX10_turnsAs_90 rfl ?_
  refine xr_imul dX10_turnsAs_91 ?_
  exact xr_iret dX10_turnsAs_92 rfl rfl (⟨_, rfl, rfl, rfl, (Ke.tr (fun _ _ h => h) (Ke.tr (fun _ _ h => h) Ke.rf k3) k7), rfl, hx4⟩)
set_option maxRecDepth 100000 in
set_option maxHeartbeats 4000000 in
theorem ra3_turnsAs_2 {ac : Nat} (x : Int32) {l : Launch} {G : xG} {M : xM} {J : xJ} {ra : Nat} (h_ra : ra + 3 ≤ 900) (e_ra : M 62 39 = nI ra) (e_k : M 62 40 = 3) (e_ac : M 62 41 = nI ac) : x_M l G fX10_turnsAs 3 0 0 [.ref (62), .int (2), .int (x)] x_SH M J (qKI WRA M J (fun r M2 => r = (-((x + (nI (ac))) * 2)) ∧ M2 62 39 = nI (ra + 3))) := by
  refine xb_of pX10 (Nat.le_of_ble_eq_true rfl) rfl ?_
  refine xr_iload_n dX10_turnsAs_0 1 rfl ?_
  refine xr_iconst (v := 3) dX10_turnsAs_1 rfl ?_
  refine xr_icmp_eq (tgt := 10) dX10_turnsAs_2 rfl (fun c => absurd c (by decide)) (fun _ => ?_)
  refine xr_iload_n dX10_turnsAs_5 1 rfl ?_
  refine xr_iconst (v := 5) dX10_turnsAs_6 rfl ?_
  refine xr_icmp_ne (tgt := 25) dX10_turnsAs_7 rfl (fun _ => ?_) (fun c => absurd c (by decide))
  refine xr_iload_n dX10_turnsAs_25 1 rfl ?_
  refine xr_iconst (v := 2) dX10_turnsAs_26 rfl ?_
  refine xr_icmp_ne (tgt := 44) dX10_turnsAs_27 rfl (fun c => absurd (by decide) c) (fun _ => ?_)
  refine xr_aload_n dX10_turnsAs_30 0 rfl ?_
  refine xr_bipush (v := 30) dX10_turnsAs_31 rfl ?_
  refine xr_callV (As := [.int (30)]) (rest := []) mlX10_340 (g_X10_begins 30 (by omega) e_ra) dX10_turnsAs_33 s_62 rfl rfl (Nat.le_of_ble_eq_true rfl) (by decide) ⟨by decide, by decide⟩ (fun v s2 M2 J2 hq => ?_)
  obtain ⟨rfl, rfl, rfl, k3, hx1⟩ := hq
  try dsimp only [Option.toList, List.cons_append, List.nil_append]
  refine xr_aload_n dX10_turnsAs_36 0 rfl ?_
  refine xr_iconst (v := 0) dX10_turnsAs_37 rfl ?_
  refine xr_iload_n dX10_turnsAs_38 2 rfl ?_
  refine xr_callV (As := [.int (0), .int (x)]) (rest := []) mlX10_349 (ra3_turnsAs_0 x (by omega) hx1 (Eq.trans (k3 62 40 (by decide)) e_k) (Eq.trans (k3 62 41 (by decide)) e_ac)) dX10_turnsAs_39 s_62 rfl rfl (Nat.le_of_ble_eq_true rfl) (by decide) ⟨by decide, by decide⟩ (fun v s2 M6 J2 hq => ?_)
  obtain ⟨r8, rfl, rfl, rfl, k7, ⟨hr5, hx4⟩⟩ := hq
  try dsimp only [Option.toList, List.cons_append, List.nil_append]
  subst hr5
  refine xr_ineg dX10_turnsAs_42 ?_
  exact xr_iret dX10_turnsAs_43 rfl rfl (⟨_, rfl, rfl, rfl, (Ke.tr (fun _ _ h => h) (Ke.tr (fun _ _ h => h) Ke.rf k3) k7), rfl, hx4⟩)
set_option maxRecDepth 100000 in
set_option maxHeartbeats 4000000 in
theorem ra3_turnsAs_3 {ac : Nat} (x : Int32) {l : Launch} {G : xG} {M : xM} {J : xJ} {ra : Nat} (h_ra : ra + 4 ≤ 900) (e_ra : M 62 39 = nI ra) (e_k : M 62 40 = 3) (e_ac : M 62 41 = nI ac) : x_M l G fX10_turnsAs 4 0 0 [.ref (62), .int (3), .int (x)] x_SH M J (qKI WRA M J (fun r M2 => r = (-(((x + 1) + (nI (ac))) * 2)) ∧ M2 62 39 = nI (ra + 4))) := by
  refine xb_of pX10 (Nat.le_of_ble_eq_true rfl) rfl ?_
  refine xr_iload_n dX10_turnsAs_0 1 rfl ?_
  refine xr_iconst (v := 3) dX10_turnsAs_1 rfl ?_
  refine xr_icmp_eq (tgt := 10) dX10_turnsAs_2 rfl (fun _ => ?_) (fun c => absurd (by decide) c)
  refine xr_aload_n dX10_turnsAs_10 0 rfl ?_
  refine xr_bipush (v := 41) dX10_turnsAs_11 rfl ?_
  refine xr_callV (As := [.int (41)]) (rest := []) mlX10_340 (g_X10_begins 41 (by omega) e_ra) dX10_turnsAs_13 s_62 rfl rfl (Nat.le_of_ble_eq_true rfl) (by decide) ⟨by decide, by decide⟩ (fun v s2 M2 J2 hq => ?_)
  obtain ⟨rfl, rfl, rfl, k3, hx1⟩ := hq
  try dsimp only [Option.toList, List.cons_append, List.nil_append]
  refine xr_aload_n dX10_turnsAs_16 0 rfl ?_
  refine xr_iconst (v := 2) dX10_turnsAs_17 rfl ?_
  refine xr_iload_n dX10_turnsAs_18 2 rfl ?_
  refine xr_iconst (v := 1) dX10_turnsAs_19 rfl ?_
  refine xr_iadd dX10_turnsAs_20 ?_
  refine xr_callV (As := [.int (2), .int ((x + 1))]) (rest := []) mlX10_349 (ra3_turnsAs_2 (x + 1) (by omega) hx1 (Eq.trans (k3 62 40 (by decide)) e_k) (Eq.trans (k3 62 41 (by decide)) e_ac)) dX10_turnsAs_21 s_62 rfl rfl (Nat.le_of_ble_eq_true rfl) (by decide) ⟨by decide, by decide⟩ (fun v s2 M6 J2 hq => ?_)
  obtain ⟨r8, rfl, rfl, rfl, k7, ⟨hr5, hx4⟩⟩ := hq
  try dsimp only [Option.toList, List.cons_append, List.nil_append]
  subst hr5
  exact xr_iret dX10_turnsAs_24 rfl rfl (⟨_, rfl, rfl, rfl, (Ke.tr (fun _ _ h => h) (Ke.tr (fun _ _ h => h) Ke.rf k3) k7), rfl, hx4⟩)
set_option maxRecDepth 100000 in
set_option maxHeartbeats 4000000 in
theorem ra3_sinksAs_2 {ac : Nat} (x : Int32) {l : Launch} {G : xG} {M : xM} {J : xJ} {ra : Nat} (h_ra : ra + 1 ≤ 900) (e_ra : M 62 39 = nI ra) (e_k : M 62 40 = 3) (e_ac : M 62 41 = nI ac) : x_M l G fX10_sinksAs 1 0 0 [.ref (62), .int (2), .int (x)] x_SH M J (qKI WRA M J (fun r M2 => r = (x ^^^ (nI (ac))) ∧ M2 62 39 = nI (ra + 1))) := by
  refine xb_of pX10 (Nat.le_of_ble_eq_true rfl) rfl ?_
  refine xr_iload_n dX10_sinksAs_0 1 rfl ?_
  refine xr_iconst (v := 3) dX10_sinksAs_1 rfl ?_
  refine xr_icmp_eq (tgt := 10) dX10_sinksAs_2 rfl (fun c => absurd c (by decide)) (fun _ => ?_)
  refine xr_iload_n dX10_sinksAs_5 1 rfl ?_
  refine xr_iconst (v := 5) dX10_sinksAs_6 rfl ?_
  refine xr_icmp_ne (tgt := 25) dX10_sinksAs_7 rfl (fun _ => ?_) (fun c => absurd c (by decide))
  refine xr_iload_n dX10_sinksAs_25 1 rfl ?_
  refine xr_iconst (v := 4) dX10_sinksAs_26 rfl ?_
  refine xr_icmp_eq (tgt := 36) dX10_sinksAs_27 rfl (fun c => absurd c (by decide)) (fun _ => ?_)
  refine xr_iload_n dX10_sinksAs_30 1 rfl ?_
  refine xr_bipush (v := 7) dX10_sinksAs_31 rfl ?_
  refine xr_icmp_ne (tgt := 61) dX10_sinksAs_33 rfl (fun _ => ?_) (fun c => absurd c (by decide))
  refine xr_aload_n dX10_sinksAs_61 0 rfl ?_
  refine xr_bipush (v := 11) dX10_sinksAs_62 rfl ?_
  refine xr_callV (As := [.int (11)]) (rest := []) mlX10_340 (g_X10_begins 11 (by omega) e_ra) dX10_sinksAs_64 s_62 rfl rfl (Nat.le_of_ble_eq_true rfl) (by decide) ⟨by decide, by decide⟩ (fun v s2 M2 J2 hq => ?_)
  obtain ⟨rfl, rfl, rfl, k3, hx1⟩ := hq
  try dsimp only [Option.toList, List.cons_append, List.nil_append]
  refine xr_iload_n dX10_sinksAs_67 2 rfl ?_
  refine xr_aload_n dX10_sinksAs_68 0 rfl ?_
  refine xb_get (v := nI (ac)) flX10_346 dX10_sinksAs_69 s_62 rfl (Eq.trans (k3 62 41 (by decide)) e_ac) ?_
  refine xr_ixor dX10_sinksAs_72 ?_
  exact xr_iret dX10_sinksAs_73 rfl rfl (⟨_, rfl, rfl, rfl, (Ke.tr (fun _ _ h => h) Ke.rf k3), rfl, hx1⟩)
set_option maxRecDepth 100000 in
set_option maxHeartbeats 4000000 in
theorem ra3_sinksAs_3 {ac : Nat} (x : Int32) {l : Launch} {G : xG} {M : xM} {J : xJ} {ra : Nat} (h_ra : ra + 2 ≤ 900) (e_ra : M 62 39 = nI ra) (e_k : M 62 40 = 3) (e_ac : M 62 41 = nI ac) : x_M l G fX10_sinksAs 2 0 0 [.ref (62), .int (3), .int (x)] x_SH M J (qKI WRA M J (fun r M2 => r = ((x ^^^ (nI (ac))) * 3) ∧ M2 62 39 = nI (ra + 2))) := by
  refine xb_of pX10 (Nat.le_of_ble_eq_true rfl) rfl ?_
  refine xr_iload_n dX10_sinksAs_0 1 rfl ?_
  refine xr_iconst (v := 3) dX10_sinksAs_1 rfl ?_
  refine xr_icmp_eq (tgt := 10) dX10_sinksAs_2 rfl (fun _ => ?_) (fun c => absurd (by decide) c)
  refine xr_aload_n dX10_sinksAs_10 0 rfl ?_
  refine xr_bipush (v := 40) dX10_sinksAs_11 rfl ?_
  refine xr_callV (As := [.int (40)]) (rest := []) mlX10_340 (g_X10_begins 40 (by omega) e_ra) dX10_sinksAs_13 s_62 rfl rfl (Nat.le_of_ble_eq_true rfl) (by decide) ⟨by decide, by decide⟩ (fun v s2 M2 J2 hq => ?_)
  obtain ⟨rfl, rfl, rfl, k3, hx1⟩ := hq
  try dsimp only [Option.toList, List.cons_append, List.nil_append]
  refine xr_aload_n dX10_sinksAs_16 0 rfl ?_
  refine xr_iconst (v := 2) dX10_sinksAs_17 rfl ?_
  refine xr_iload_n dX10_sinksAs_18 2 rfl ?_
  refine xr_callV (As := [.int (2), .int (x)]) (rest := []) mlX10_355 (ra3_sinksAs_2 x (by omega) hx1 (Eq.trans (k3 62 40 (by decide)) e_k) (Eq.trans (k3 62 41 (by decide)) e_ac)) dX10_sinksAs_19 s_62 rfl rfl (Nat.le_of_ble_eq_true rfl) (by decide) ⟨by decide, by decide⟩ (fun v s2 M6 J2 hq => ?_)
  obtain ⟨r8, rfl, rfl, rfl, k7, ⟨hr5, hx4⟩⟩ := hq
  try dsimp only [Option.toList, List.cons_append, List.nil_append]
  subst hr5
  refine xr_iconst (v := 3) dX10_sinksAs_22 rfl ?_
  refine xr_imul dX10_sinksAs_23 ?_
  exact xr_iret dX10_sinksAs_24 rfl rfl (⟨_, rfl, rfl, rfl, (Ke.tr (fun _ _ h => h) (Ke.tr (fun _ _ h => h) Ke.rf k3) k7), rfl, hx4⟩)
set_option maxRecDepth 100000 in
set_option maxHeartbeats 4000000 in
theorem ra3_tellsAs_3 {ac : Nat} (x : Int32) {l : Launch} {G : xG} {M : xM} {J : xJ} {ra : Nat} (h_ra : ra + 7 ≤ 900) (e_ra : M 62 39 = nI ra) (e_k : M 62 40 = 3) (e_ac : M 62 41 = nI ac) : x_M l G fX10_tellsAs 5 0 0 [.ref (62), .int (3), .int (x)] x_SH M J (qKI WRA M J (fun r M2 => r = ((-(((x + 1) + (nI (ac))) * 2)) - ((1 ^^^ (nI (ac))) * 3)) ∧ M2 62 39 = nI (ra + 7))) := by
  refine xb_of pX10 (Nat.le_of_ble_eq_true rfl) rfl ?_
  refine xr_iload_n dX10_tellsAs_0 1 rfl ?_
  refine xr_iconst (v := 5) dX10_tellsAs_1 rfl ?_
  refine xr_icmp_ne (tgt := 20) dX10_tellsAs_2 rfl (fun _ => ?_) (fun c => absurd c (by decide))
  refine xr_iload_n dX10_tellsAs_20 1 rfl ?_
  refine xr_bipush (v := 7) dX10_tellsAs_21 rfl ?_
  refine xr_icmp_ne (tgt := 41) dX10_tellsAs_23 rfl (fun _ => ?_) (fun c => absurd c (by decide))
  refine xr_aload_n dX10_tellsAs_41 0 rfl ?_
  refine xr_iconst (v := 2) dX10_tellsAs_42 rfl ?_
  refine xr_callV (As := [.int (2)]) (rest := []) mlX10_340 (g_X10_begins 2 (by omega) e_ra) dX10_tellsAs_43 s_62 rfl rfl (Nat.le_of_ble_eq_true rfl) (by decide) ⟨by decide, by decide⟩ (fun v s2 M2 J2 hq => ?_)
  obtain ⟨rfl, rfl, rfl, k3, hx1⟩ := hq
  try dsimp only [Option.toList, List.cons_append, List.nil_append]
  refine xr_aload_n dX10_tellsAs_46 0 rfl ?_
  refine xr_aload_n dX10_tellsAs_47 0 rfl ?_
  refine xb_get (v := 3) flX10_352 dX10_tellsAs_48 s_62 rfl (Eq.trans (k3 62 40 (by decide)) e_k) ?_
  refine xr_iload_n dX10_tellsAs_51 2 rfl ?_
  refine xr_callV (As := [.int (3), .int (x)]) (rest := []) mlX10_349 (ra3_turnsAs_3 x (by omega) hx1 (Eq.trans (k3 62 40 (by decide)) e_k) (Eq.trans (k3 62 41 (by decide)) e_ac)) dX10_tellsAs_52 s_62 rfl rfl (Nat.le_of_ble_eq_true rfl) (by decide) ⟨by decide, by decide⟩ (fun v s2 M6 J2 hq => ?_)
  obtain ⟨r8, rfl, rfl, rfl, k7, ⟨hr5, hx4⟩⟩ := hq
  try dsimp only [Option.toList, List.cons_append, List.nil_append]
  subst hr5
  refine xr_istore_n (ls2 := [(3, .int ((-(((x + 1) + (nI (ac))) * 2)))), (0, .ref (62)), (1, .int (3)), (2, .int (x))]) dX10_tellsAs_55 (by decide) rfl ?_
  refine xr_iload_n dX10_tellsAs_56 0 rfl ?_
  refine xr_aload_n dX10_tellsAs_57 1 rfl ?_
  refine xr_aload_n dX10_tellsAs_58 1 rfl ?_
  refine xb_get (v := 3) flX10_352 dX10_tellsAs_59 s_62 rfl (Eq.trans (k7 62 40 (by decide)) (Eq.trans (k3 62 40 (by decide)) e_k)) ?_
  refine xr_iconst (v := 1) dX10_tellsAs_62 rfl ?_
  refine xr_callV (As := [.int (3), .int (1)]) (rest := [.int ((-(((x + 1) + (nI (ac))) * 2)))]) mlX10_355 (ra3_sinksAs_3 1 (by omega) hx4 (Eq.trans (k7 62 40 (by decide)) (Eq.trans (k3 62 40 (by decide)) e_k)) (Eq.trans (k7 62 41 (by decide)) (Eq.trans (k3 62 41 (by decide)) e_ac))) dX10_tellsAs_63 s_62 rfl rfl (Nat.le_of_ble_eq_true rfl) (by decide) ⟨by decide, by decide⟩ (fun v s2 M11 J2 hq => ?_)
  obtain ⟨r13, rfl, rfl, rfl, k12, ⟨hr10, hx9⟩⟩ := hq
  try dsimp only [Option.toList, List.cons_append, List.nil_append]
  subst hr10
  refine xr_isub dX10_tellsAs_66 ?_
  exact xr_iret dX10_tellsAs_67 rfl rfl (⟨_, rfl, rfl, rfl, (Ke.tr (fun _ _ h => h) (Ke.tr (fun _ _ h => h) (Ke.tr (fun _ _ h => h) Ke.rf k3) k7) k12), rfl, hx9⟩)
set_option maxRecDepth 100000 in
set_option maxHeartbeats 4000000 in
theorem ra4_pushesAs_0 {ac : Nat} (x : Int32) {l : Launch} {G : xG} {M : xM} {J : xJ} {ra : Nat} (h_ra : ra + 1 ≤ 900) (e_ra : M 62 39 = nI ra) (e_k : M 62 40 = 4) (e_ac : M 62 41 = nI ac) : x_M l G fX10_pushesAs 1 0 0 [.ref (62), .int (0), .int (x)] x_SH M J (qKI WRA M J (fun r M2 => r = (x + (nI (ac))) ∧ M2 62 39 = nI (ra + 1))) := by
  refine xb_of pX10 (Nat.le_of_ble_eq_true rfl) rfl ?_
  refine xr_iload_n dX10_pushesAs_0 1 rfl ?_
  refine xr_iconst (v := 1) dX10_pushesAs_1 rfl ?_
  refine xr_icmp_eq (tgt := 16) dX10_pushesAs_2 rfl (fun c => absurd c (by decide)) (fun _ => ?_)
  refine xr_iload_n dX10_pushesAs_5 1 rfl ?_
  refine xr_iconst (v := 4) dX10_pushesAs_6 rfl ?_
  refine xr_icmp_eq (tgt := 16) dX10_pushesAs_7 rfl (fun c => absurd c (by decide)) (fun _ => ?_)
  refine xr_iload_n dX10_pushesAs_10 1 rfl ?_
  refine xr_bipush (v := 7) dX10_pushesAs_11 rfl ?_
  refine xr_icmp_ne (tgt := 31) dX10_pushesAs_13 rfl (fun _ => ?_) (fun c => absurd c (by decide))
  refine xr_iload_n dX10_pushesAs_31 1 rfl ?_
  refine xr_bipush (v := 6) dX10_pushesAs_32 rfl ?_
  refine xr_icmp_ne (tgt := 52) dX10_pushesAs_34 rfl (fun _ => ?_) (fun c => absurd c (by decide))
  refine xr_aload_n dX10_pushesAs_52 0 rfl ?_
  refine xr_iconst (v := 1) dX10_pushesAs_53 rfl ?_
  refine xr_callV (As := [.int (1)]) (rest := []) mlX10_340 (g_X10_begins 1 (by omega) e_ra) dX10_pushesAs_54 s_62 rfl rfl (Nat.le_of_ble_eq_true rfl) (by decide) ⟨by decide, by decide⟩ (fun v s2 M2 J2 hq => ?_)
  obtain ⟨rfl, rfl, rfl, k3, hx1⟩ := hq
  try dsimp only [Option.toList, List.cons_append, List.nil_append]
  refine xr_iload_n dX10_pushesAs_57 2 rfl ?_
  refine xr_aload_n dX10_pushesAs_58 0 rfl ?_
  refine xb_get (v := nI (ac)) flX10_346 dX10_pushesAs_59 s_62 rfl (Eq.trans (k3 62 41 (by decide)) e_ac) ?_
  refine xr_iadd dX10_pushesAs_62 ?_
  exact xr_iret dX10_pushesAs_63 rfl rfl (⟨_, rfl, rfl, rfl, (Ke.tr (fun _ _ h => h) Ke.rf k3), rfl, hx1⟩)
set_option maxRecDepth 100000 in
set_option maxHeartbeats 4000000 in
theorem ra4_pushesAs_4 {ac : Nat} (x : Int32) {l : Launch} {G : xG} {M : xM} {J : xJ} {ra : Nat} (h_ra : ra + 2 ≤ 900) (e_ra : M 62 39 = nI ra) (e_k : M 62 40 = 4) (e_ac : M 62 41 = nI ac) : x_M l G fX10_pushesAs 2 0 0 [.ref (62), .int (4), .int (x)] x_SH M J (qKI WRA M J (fun r M2 => r = ((x + (nI (ac))) + 3) ∧ M2 62 39 = nI (ra + 2))) := by
  refine xb_of pX10 (Nat.le_of_ble_eq_true rfl) rfl ?_
  refine xr_iload_n dX10_pushesAs_0 1 rfl ?_
  refine xr_iconst (v := 1) dX10_pushesAs_1 rfl ?_
  refine xr_icmp_eq (tgt := 16) dX10_pushesAs_2 rfl (fun c => absurd c (by decide)) (fun _ => ?_)
  refine xr_iload_n dX10_pushesAs_5 1 rfl ?_
  refine xr_iconst (v := 4) dX10_pushesAs_6 rfl ?_
  refine xr_icmp_eq (tgt := 16) dX10_pushesAs_7 rfl (fun _ => ?_) (fun c => absurd (by decide) c)
  refine xr_aload_n dX10_pushesAs_16 0 rfl ?_
  refine xr_bipush (v := 20) dX10_pushesAs_17 rfl ?_
  refine xr_callV (As := [.int (20)]) (rest := []) mlX10_340 (g_X10_begins 20 (by omega) e_ra) dX10_pushesAs_19 s_62 rfl rfl (Nat.le_of_ble_eq_true rfl) (by decide) ⟨by decide, by decide⟩ (fun v s2 M2 J2 hq => ?_)
  obtain ⟨rfl, rfl, rfl, k3, hx1⟩ := hq
  try dsimp only [Option.toList, List.cons_append, List.nil_append]
  refine xr_aload_n dX10_pushesAs_22 0 rfl ?_
  refine xr_iconst (v := 0) dX10_pushesAs_23 rfl ?_
  refine xr_iload_n dX10_pushesAs_24 2 rfl ?_
  refine xr_callV (As := [.int (0), .int (x)]) (rest := []) mlX10_343 (ra4_pushesAs_0 x (by omega) hx1 (Eq.trans (k3 62 40 (by decide)) e_k) (Eq.trans (k3 62 41 (by decide)) e_ac)) dX10_pushesAs_25 s_62 rfl rfl (Nat.le_of_ble_eq_true rfl) (by decide) ⟨by decide, by decide⟩ (fun v s2 M6 J2 hq => ?_)
  obtain ⟨r8, rfl, rfl, rfl, k7, ⟨hr5, hx4⟩⟩ := hq
  try dsimp only [Option.toList, List.cons_append, List.nil_append]
  subst hr5
  refine xr_iconst (v := 3) dX10_pushesAs_28 rfl ?_
  refine xr_iadd dX10_pushesAs_29 ?_
  exact xr_iret dX10_pushesAs_30 rfl rfl (⟨_, rfl, rfl, rfl, (Ke.tr (fun _ _ h => h) (Ke.tr (fun _ _ h => h) Ke.rf k3) k7), rfl, hx4⟩)
set_option maxRecDepth 100000 in
set_option maxHeartbeats 4000000 in
theorem ra4_turnsAs_4 {ac : Nat} (x : Int32) {l : Launch} {G : xG} {M : xM} {J : xJ} {ra : Nat} (h_ra : ra + 3 ≤ 900) (e_ra : M 62 39 = nI ra) (e_k : M 62 40 = 4) (e_ac : M 62 41 = nI ac) : x_M l G fX10_turnsAs 3 0 0 [.ref (62), .int (4), .int (x)] x_SH M J (qKI WRA M J (fun r M2 => r = (((x + (nI (ac))) + 3) * 2) ∧ M2 62 39 = nI (ra + 3))) := by
  refine xb_of pX10 (Nat.le_of_ble_eq_true rfl) rfl ?_
  refine xr_iload_n dX10_turnsAs_0 1 rfl ?_
  refine xr_iconst (v := 3) dX10_turnsAs_1 rfl ?_
  refine xr_icmp_eq (tgt := 10) dX10_turnsAs_2 rfl (fun c => absurd c (by decide)) (fun _ => ?_)
  refine xr_iload_n dX10_turnsAs_5 1 rfl ?_
  refine xr_iconst (v := 5) dX10_turnsAs_6 rfl ?_
  refine xr_icmp_ne (tgt := 25) dX10_turnsAs_7 rfl (fun _ => ?_) (fun c => absurd c (by decide))
  refine xr_iload_n dX10_turnsAs_25 1 rfl ?_
  refine xr_iconst (v := 2) dX10_turnsAs_26 rfl ?_
  refine xr_icmp_ne (tgt := 44) dX10_turnsAs_27 rfl (fun _ => ?_) (fun c => absurd c (by decide))
  refine xr_iload_n dX10_turnsAs_44 1 rfl ?_
  refine xr_bipush (v := 7) dX10_turnsAs_45 rfl ?_
  refine xr_icmp_ne (tgt := 75) dX10_turnsAs_47 rfl (fun _ => ?_) (fun c => absurd c (by decide))
  refine xr_aload_n dX10_turnsAs_75 0 rfl ?_
  refine xr_bipush (v := 10) dX10_turnsAs_76 rfl ?_
  refine xr_callV (As := [.int (10)]) (rest := []) mlX10_340 (g_X10_begins 10 (by omega) e_ra) dX10_turnsAs_78 s_62 rfl rfl (Nat.le_of_ble_eq_true rfl) (by decide) ⟨by decide, by decide⟩ (fun v s2 M2 J2 hq => ?_)
  obtain ⟨rfl, rfl, rfl, k3, hx1⟩ := hq
  try dsimp only [Option.toList, List.cons_append, List.nil_append]
  refine xr_aload_n dX10_turnsAs_81 0 rfl ?_
  refine xr_aload_n dX10_turnsAs_82 0 rfl ?_
  refine xb_get (v := 4) flX10_352 dX10_turnsAs_83 s_62 rfl (Eq.trans (k3 62 40 (by decide)) e_k) ?_
  refine xr_iload_n dX10_turnsAs_86 2 rfl ?_
  refine xr_callV (As := [.int (4), .int (x)]) (rest := []) mlX10_343 (ra4_pushesAs_4 x (by omega) hx1 (Eq.trans (k3 62 40 (by decide)) e_k) (Eq.trans (k3 62 41 (by decide)) e_ac)) dX10_turnsAs_87 s_62 rfl rfl (Nat.le_of_ble_eq_true rfl) (by decide) ⟨by decide, by decide⟩ (fun v s2 M6 J2 hq => ?_)
  obtain ⟨r8, rfl, rfl, rfl, k7, ⟨hr5, hx4⟩⟩ := hq
  try dsimp only [Option.toList, List.cons_append, List.nil_append]
  subst hr5
  refine xr_iconst (v := 2) dX10_turnsAs_90 rfl ?_
  refine xr_imul dX10_turnsAs_91 ?_
  exact xr_iret dX10_turnsAs_92 rfl rfl (⟨_, rfl, rfl, rfl, (Ke.tr (fun _ _ h => h) (Ke.tr (fun _ _ h => h) Ke.rf k3) k7), rfl, hx4⟩)
set_option maxRecDepth 100000 in
set_option maxHeartbeats 4000000 in
theorem ra4_sinksAs_1 {ac : Nat} (x : Int32) {l : Launch} {G : xG} {M : xM} {J : xJ} {ra : Nat} (h_ra : ra + 1 ≤ 900) (e_ra : M 62 39 = nI ra) (e_k : M 62 40 = 4) (e_ac : M 62 41 = nI ac) : x_M l G fX10_sinksAs 1 0 0 [.ref (62), .int (1), .int (x)] x_SH M J (qKI WRA M J (fun r M2 => r = (x ^^^ (nI (ac))) ∧ M2 62 39 = nI (ra + 1))) := by
  refine xb_of pX10 (Nat.le_of_ble_eq_true rfl) rfl ?_
  refine xr_iload_n dX10_sinksAs_0 1 rfl ?_
  refine xr_iconst (v := 3) dX10_sinksAs_1 rfl ?_
  refine xr_icmp_eq (tgt := 10) dX10_sinksAs_2 rfl (fun c => absurd c (by decide)) (fun _ => ?_)
  refine xr_iload_n dX10_sinksAs_5 1 rfl ?_
  refine xr_iconst (v := 5) dX10_sinksAs_6 rfl ?_
  refine xr_icmp_ne (tgt := 25) dX10_sinksAs_7 rfl (fun _ => ?_) (fun c => absurd c (by decide))
  refine xr_iload_n dX10_sinksAs_25 1 rfl ?_
  refine xr_iconst (v := 4) dX10_sinksAs_26 rfl ?_
  refine xr_icmp_eq (tgt := 36) dX10_sinksAs_27 rfl (fun c => absurd c (by decide)) (fun _ => ?_)
  refine xr_iload_n dX10_sinksAs_30 1 rfl ?_
  refine xr_bipush (v := 7) dX10_sinksAs_31 rfl ?_
  refine xr_icmp_ne (tgt := 61) dX10_sinksAs_33 rfl (fun _ => ?_) (fun c => absurd c (by decide))
  refine xr_aload_n dX10_sinksAs_61 0 rfl ?_
  refine xr_bipush (v := 11) dX10_sinksAs_62 rfl ?_
  refine xr_callV (As := [.int (11)]) (rest := []) mlX10_340 (g_X10_begins 11 (by omega) e_ra) dX10_sinksAs_64 s_62 rfl rfl (Nat.le_of_ble_eq_true rfl) (by decide) ⟨by decide, by decide⟩ (fun v s2 M2 J2 hq => ?_)
  obtain ⟨rfl, rfl, rfl, k3, hx1⟩ := hq
  try dsimp only [Option.toList, List.cons_append, List.nil_append]
  refine xr_iload_n dX10_sinksAs_67 2 rfl ?_
  refine xr_aload_n dX10_sinksAs_68 0 rfl ?_
  refine xb_get (v := nI (ac)) flX10_346 dX10_sinksAs_69 s_62 rfl (Eq.trans (k3 62 41 (by decide)) e_ac) ?_
  refine xr_ixor dX10_sinksAs_72 ?_
  exact xr_iret dX10_sinksAs_73 rfl rfl (⟨_, rfl, rfl, rfl, (Ke.tr (fun _ _ h => h) Ke.rf k3), rfl, hx1⟩)
set_option maxRecDepth 100000 in
set_option maxHeartbeats 4000000 in
theorem ra4_sinksAs_4 {ac : Nat} (x : Int32) {l : Launch} {G : xG} {M : xM} {J : xJ} {ra : Nat} (h_ra : ra + 4 ≤ 900) (e_ra : M 62 39 = nI ra) (e_k : M 62 40 = 4) (e_ac : M 62 41 = nI ac) : x_M l G fX10_sinksAs 3 0 0 [.ref (62), .int (4), .int (x)] x_SH M J (qKI WRA M J (fun r M2 => r = ((x ^^^ (nI (ac))) - ((2 + (nI (ac))) + 3)) ∧ M2 62 39 = nI (ra + 4))) := by
  refine xb_of pX10 (Nat.le_of_ble_eq_true rfl) rfl ?_
  refine xr_iload_n dX10_sinksAs_0 1 rfl ?_
  refine xr_iconst (v := 3) dX10_sinksAs_1 rfl ?_
  refine xr_icmp_eq (tgt := 10) dX10_sinksAs_2 rfl (fun c => absurd c (by decide)) (fun _ => ?_)
  refine xr_iload_n dX10_sinksAs_5 1 rfl ?_
  refine xr_iconst (v := 5) dX10_sinksAs_6 rfl ?_
  refine xr_icmp_ne (tgt := 25) dX10_sinksAs_7 rfl (fun _ => ?_) (fun c => absurd c (by decide))
  refine xr_iload_n dX10_sinksAs_25 1 rfl ?_
  refine xr_iconst (v := 4) dX10_sinksAs_26 rfl ?_
  refine xr_icmp_eq (tgt := 36) dX10_sinksAs_27 rfl (fun _ => ?_) (fun c => absurd (by decide) c)
  refine xr_aload_n dX10_sinksAs_36 0 rfl ?_
  refine xr_bipush (v := 50) dX10_sinksAs_37 rfl ?_
  refine xr_callV (As := [.int (50)]) (rest := []) mlX10_340 (g_X10_begins 50 (by omega) e_ra) dX10_sinksAs_39 s_62 rfl rfl (Nat.le_of_ble_eq_true rfl) (by decide) ⟨by decide, by decide⟩ (fun v s2 M2 J2 hq => ?_)
  obtain ⟨rfl, rfl, rfl, k3, hx1⟩ := hq
  try dsimp only [Option.toList, List.cons_append, List.nil_append]
  refine xr_aload_n dX10_sinksAs_42 0 rfl ?_
  refine xr_iconst (v := 1) dX10_sinksAs_43 rfl ?_
  refine xr_iload_n dX10_sinksAs_44 2 rfl ?_
  refine xr_callV (As := [.int (1), .int (x)]) (rest := []) mlX10_355 (ra4_sinksAs_1 x (by omega) hx1 (Eq.trans (k3 62 40 (by decide)) e_k) (Eq.trans (k3 62 41 (by decide)) e_ac)) dX10_sinksAs_45 s_62 rfl rfl (Nat.le_of_ble_eq_true rfl) (by decide) ⟨by decide, by decide⟩ (fun v s2 M6 J2 hq => ?_)
  obtain ⟨r8, rfl, rfl, rfl, k7, ⟨hr5, hx4⟩⟩ := hq
  try dsimp only [Option.toList, List.cons_append, List.nil_append]
  subst hr5
  refine xr_istore_n (ls2 := [(3, .int ((x ^^^ (nI (ac))))), (0, .ref (62)), (1, .int (4)), (2, .int (x))]) dX10_sinksAs_48 (by decide) rfl ?_
  refine xr_iload_n dX10_sinksAs_49 0 rfl ?_
  refine xr_aload_n dX10_sinksAs_50 1 rfl ?_
  refine xr_aload_n dX10_sinksAs_51 1 rfl ?_
  refine xb_get (v := 4) flX10_352 dX10_sinksAs_52 s_62 rfl (Eq.trans (k7 62 40 (by decide)) (Eq.trans (k3 62 40 (by decide)) e_k)) ?_
  refine xr_iconst (v := 2) dX10_sinksAs_55 rfl ?_
  refine xr_callV (As := [.int (4), .int (2)]) (rest := [.int ((x ^^^ (nI (ac))))]) mlX10_343 (ra4_pushesAs_4 2 (by omega) hx4 (Eq.trans (k7 62 40 (by decide)) (Eq.trans (k3 62 40 (by decide)) e_k)) (Eq.trans (k7 62 41 (by decide)) (Eq.trans (k3 62 41 (by decide)) e_ac))) dX10_sinksAs_56 s_62 rfl rfl (Nat.le_of_ble_eq_true rfl) (by decide) ⟨by decide, by decide⟩ (fun v s2 M11 J2 hq => ?_)
  obtain ⟨r13, rfl, rfl, rfl, k12, ⟨hr10, hx9⟩⟩ := hq
  try dsimp only [Option.toList, List.cons_append, List.nil_append]
  subst hr10
  refine xr_isub dX10_sinksAs_59 ?_
  exact xr_iret dX10_sinksAs_60 rfl rfl (⟨_, rfl, rfl, rfl, (Ke.tr (fun _ _ h => h) (Ke.tr (fun _ _ h => h) (Ke.tr (fun _ _ h => h) Ke.rf k3) k7) k12), rfl, hx9⟩)
set_option maxRecDepth 100000 in
set_option maxHeartbeats 4000000 in
theorem ra4_tellsAs_4 {ac : Nat} (x : Int32) {l : Launch} {G : xG} {M : xM} {J : xJ} {ra : Nat} (h_ra : ra + 8 ≤ 900) (e_ra : M 62 39 = nI ra) (e_k : M 62 40 = 4) (e_ac : M 62 41 = nI ac) : x_M l G fX10_tellsAs 4 0 0 [.ref (62), .int (4), .int (x)] x_SH M J (qKI WRA M J (fun r M2 => r = ((((x + (nI (ac))) + 3) * 2) - ((1 ^^^ (nI (ac))) - ((2 + (nI (ac))) + 3))) ∧ M2 62 39 = nI (ra + 8))) := by
  refine xb_of pX10 (Nat.le_of_ble_eq_true rfl) rfl ?_
  refine xr_iload_n dX10_tellsAs_0 1 rfl ?_
  refine xr_iconst (v := 5) dX10_tellsAs_1 rfl ?_
  refine xr_icmp_ne (tgt := 20) dX10_tellsAs_2 rfl (fun _ => ?_) (fun c => absurd c (by decide))
  refine xr_iload_n dX10_tellsAs_20 1 rfl ?_
  refine xr_bipush (v := 7) dX10_tellsAs_21 rfl ?_
  refine xr_icmp_ne (tgt := 41) dX10_tellsAs_23 rfl (fun _ => ?_) (fun c => absurd c (by decide))
  refine xr_aload_n dX10_tellsAs_41 0 rfl ?_
  refine xr_iconst (v := 2) dX10_tellsAs_42 rfl ?_
  refine xr_callV (As := [.int (2)]) (rest := []) mlX10_340 (g_X10_begins 2 (by omega) e_ra) dX10_tellsAs_43 s_62 rfl rfl (Nat.le_of_ble_eq_true rfl) (by decide) ⟨by decide, by decide⟩ (fun v s2 M2 J2 hq => ?_)
  obtain ⟨rfl, rfl, rfl, k3, hx1⟩ := hq
  try dsimp only [Option.toList, List.cons_append, List.nil_append]
  refine xr_aload_n dX10_tellsAs_46 0 rfl ?_
  refine xr_aload_n dX10_tellsAs_47 0 rfl ?_
  refine xb_get (v := 4) flX10_352 dX10_tellsAs_48 s_62 rfl (Eq.trans (k3 62 40 (by decide)) e_k) ?_
  refine xr_iload_n dX10_tellsAs_51 2 rfl ?_
  refine xr_callV (As := [.int (4), .int (x)]) (rest := []) mlX10_349 (ra4_turnsAs_4 x (by omega) hx1 (Eq.trans (k3 62 40 (by decide)) e_k) (Eq.trans (k3 62 41 (by decide)) e_ac)) dX10_tellsAs_52 s_62 rfl rfl (Nat.le_of_ble_eq_true rfl) (by decide) ⟨by decide, by decide⟩ (fun v s2 M6 J2 hq => ?_)
  obtain ⟨r8, rfl, rfl, rfl, k7, ⟨hr5, hx4⟩⟩ := hq
  try dsimp only [Option.toList, List.cons_append, List.nil_append]
  subst hr5
  refine xr_istore_n (ls2 := [(3, .int ((((x + (nI (ac))) + 3) * 2))), (0, .ref (62)), (1, .int (4)), (2, .int (x))]) dX10_tellsAs_55 (by decide) rfl ?_
  refine xr_iload_n dX10_tellsAs_56 0 rfl ?_
  refine xr_aload_n dX10_tellsAs_57 1 rfl ?_
  refine xr_aload_n dX10_tellsAs_58 1 rfl ?_
  refine xb_get (v := 4) flX10_352 dX10_tellsAs_59 s_62 rfl (Eq.trans (k7 62 40 (by decide)) (Eq.trans (k3 62 40 (by decide)) e_k)) ?_
  refine xr_iconst (v := 1) dX10_tellsAs_62 rfl ?_
  refine xr_callV (As := [.int (4), .int (1)]) (rest := [.int ((((x + (nI (ac))) + 3) * 2))]) mlX10_355 (ra4_sinksAs_4 1 (by omega) hx4 (Eq.trans (k7 62 40 (by decide)) (Eq.trans (k3 62 40 (by decide)) e_k)) (Eq.trans (k7 62 41 (by decide)) (Eq.trans (k3 62 41 (by decide)) e_ac))) dX10_tellsAs_63 s_62 rfl rfl (Nat.le_of_ble_eq_true rfl) (by decide) ⟨by decide, by decide⟩ (fun v s2 M11 J2 hq => ?_)
  obtain ⟨r13, rfl, rfl, rfl, k12, ⟨hr10, hx9⟩⟩ := hq
  try dsimp only [Option.toList, List.cons_append, List.nil_append]
  subst hr10
  refine xr_isub dX10_tellsAs_66 ?_
  exact xr_iret dX10_tellsAs_67 rfl rfl (⟨_, rfl, rfl, rfl, (Ke.tr (fun _ _ h => h) (Ke.tr (fun _ _ h => h) (Ke.tr (fun _ _ h => h) Ke.rf k3) k7) k12), rfl, hx9⟩)
set_option maxRecDepth 100000 in
set_option maxHeartbeats 4000000 in
theorem ra5_pushesAs_5 {ac : Nat} (x : Int32) {l : Launch} {G : xG} {M : xM} {J : xJ} {ra : Nat} (h_ra : ra + 1 ≤ 900) (e_ra : M 62 39 = nI ra) (e_k : M 62 40 = 5) (e_ac : M 62 41 = nI ac) : x_M l G fX10_pushesAs 1 0 0 [.ref (62), .int (5), .int (x)] x_SH M J (qKI WRA M J (fun r M2 => r = (x + (nI (ac))) ∧ M2 62 39 = nI (ra + 1))) := by
  refine xb_of pX10 (Nat.le_of_ble_eq_true rfl) rfl ?_
  refine xr_iload_n dX10_pushesAs_0 1 rfl ?_
  refine xr_iconst (v := 1) dX10_pushesAs_1 rfl ?_
  refine xr_icmp_eq (tgt := 16) dX10_pushesAs_2 rfl (fun c => absurd c (by decide)) (fun _ => ?_)
  refine xr_iload_n dX10_pushesAs_5 1 rfl ?_
  refine xr_iconst (v := 4) dX10_pushesAs_6 rfl ?_
  refine xr_icmp_eq (tgt := 16) dX10_pushesAs_7 rfl (fun c => absurd c (by decide)) (fun _ => ?_)
  refine xr_iload_n dX10_pushesAs_10 1 rfl ?_
  refine xr_bipush (v := 7) dX10_pushesAs_11 rfl ?_
  refine xr_icmp_ne (tgt := 31) dX10_pushesAs_13 rfl (fun _ => ?_) (fun c => absurd c (by decide))
  refine xr_iload_n dX10_pushesAs_31 1 rfl ?_
  refine xr_bipush (v := 6) dX10_pushesAs_32 rfl ?_
  refine xr_icmp_ne (tgt := 52) dX10_pushesAs_34 rfl (fun _ => ?_) (fun c => absurd c (by decide))
  refine xr_aload_n dX10_pushesAs_52 0 rfl ?_
  refine xr_iconst (v := 1) dX10_pushesAs_53 rfl ?_
  refine xr_callV (As := [.int (1)]) (rest := []) mlX10_340 (g_X10_begins 1 (by omega) e_ra) dX10_pushesAs_54 s_62 rfl rfl (Nat.le_of_ble_eq_true rfl) (by decide) ⟨by decide, by decide⟩ (fun v s2 M2 J2 hq => ?_)
  obtain ⟨rfl, rfl, rfl, k3, hx1⟩ := hq
  try dsimp only [Option.toList, List.cons_append, List.nil_append]
  refine xr_iload_n dX10_pushesAs_57 2 rfl ?_
  refine xr_aload_n dX10_pushesAs_58 0 rfl ?_
  refine xb_get (v := nI (ac)) flX10_346 dX10_pushesAs_59 s_62 rfl (Eq.trans (k3 62 41 (by decide)) e_ac) ?_
  refine xr_iadd dX10_pushesAs_62 ?_
  exact xr_iret dX10_pushesAs_63 rfl rfl (⟨_, rfl, rfl, rfl, (Ke.tr (fun _ _ h => h) Ke.rf k3), rfl, hx1⟩)
set_option maxRecDepth 100000 in
set_option maxHeartbeats 4000000 in
theorem ra5_turnsAs_0 {ac : Nat} (x : Int32) {l : Launch} {G : xG} {M : xM} {J : xJ} {ra : Nat} (h_ra : ra + 2 ≤ 900) (e_ra : M 62 39 = nI ra) (e_k : M 62 40 = 5) (e_ac : M 62 41 = nI ac) : x_M l G fX10_turnsAs 2 0 0 [.ref (62), .int (0), .int (x)] x_SH M J (qKI WRA M J (fun r M2 => r = ((x + (nI (ac))) * 2) ∧ M2 62 39 = nI (ra + 2))) := by
  refine xb_of pX10 (Nat.le_of_ble_eq_true rfl) rfl ?_
  refine xr_iload_n dX10_turnsAs_0 1 rfl ?_
  refine xr_iconst (v := 3) dX10_turnsAs_1 rfl ?_
  refine xr_icmp_eq (tgt := 10) dX10_turnsAs_2 rfl (fun c => absurd c (by decide)) (fun _ => ?_)
  refine xr_iload_n dX10_turnsAs_5 1 rfl ?_
  refine xr_iconst (v := 5) dX10_turnsAs_6 rfl ?_
  refine xr_icmp_ne (tgt := 25) dX10_turnsAs_7 rfl (fun _ => ?_) (fun c => absurd c (by decide))
  refine xr_iload_n dX10_turnsAs_25 1 rfl ?_
  refine xr_iconst (v := 2) dX10_turnsAs_26 rfl ?_
  refine xr_icmp_ne (tgt := 44) dX10_turnsAs_27 rfl (fun _ => ?_) (fun c => absurd c (by decide))
  refine xr_iload_n dX10_turnsAs_44 1 rfl ?_
  refine xr_bipush (v := 7) dX10_turnsAs_45 rfl ?_
  refine xr_icmp_ne (tgt := 75) dX10_turnsAs_47 rfl (fun _ => ?_) (fun c => absurd c (by decide))
  refine xr_aload_n dX10_turnsAs_75 0 rfl ?_
  refine xr_bipush (v := 10) dX10_turnsAs_76 rfl ?_
  refine xr_callV (As := [.int (10)]) (rest := []) mlX10_340 (g_X10_begins 10 (by omega) e_ra) dX10_turnsAs_78 s_62 rfl rfl (Nat.le_of_ble_eq_true rfl) (by decide) ⟨by decide, by decide⟩ (fun v s2 M2 J2 hq => ?_)
  obtain ⟨rfl, rfl, rfl, k3, hx1⟩ := hq
  try dsimp only [Option.toList, List.cons_append, List.nil_append]
  refine xr_aload_n dX10_turnsAs_81 0 rfl ?_
  refine xr_aload_n dX10_turnsAs_82 0 rfl ?_
  refine xb_get (v := 5) flX10_352 dX10_turnsAs_83 s_62 rfl (Eq.trans (k3 62 40 (by decide)) e_k) ?_
  refine xr_iload_n dX10_turnsAs_86 2 rfl ?_
  refine xr_callV (As := [.int (5), .int (x)]) (rest := []) mlX10_343 (ra5_pushesAs_5 x (by omega) hx1 (Eq.trans (k3 62 40 (by decide)) e_k) (Eq.trans (k3 62 41 (by decide)) e_ac)) dX10_turnsAs_87 s_62 rfl rfl (Nat.le_of_ble_eq_true rfl) (by decide) ⟨by decide, by decide⟩ (fun v s2 M6 J2 hq => ?_)
  obtain ⟨r8, rfl, rfl, rfl, k7, ⟨hr5, hx4⟩⟩ := hq
  try dsimp only [Option.toList, List.cons_append, List.nil_append]
  subst hr5
  refine xr_iconst (v := 2) dX10_turnsAs_90 rfl ?_
  refine xr_imul dX10_turnsAs_91 ?_
  exact xr_iret dX10_turnsAs_92 rfl rfl (⟨_, rfl, rfl, rfl, (Ke.tr (fun _ _ h => h) (Ke.tr (fun _ _ h => h) Ke.rf k3) k7), rfl, hx4⟩)
set_option maxRecDepth 100000 in
set_option maxHeartbeats 4000000 in
theorem ra5_turnsAs_2 {ac : Nat} (x : Int32) {l : Launch} {G : xG} {M : xM} {J : xJ} {ra : Nat} (h_ra : ra + 3 ≤ 900) (e_ra : M 62 39 = nI ra) (e_k : M 62 40 = 5) (e_ac : M 62 41 = nI ac) : x_M l G fX10_turnsAs 3 0 0 [.ref (62), .int (2), .int (x)] x_SH M J (qKI WRA M J (fun r M2 => r = (-((x + (nI (ac))) * 2)) ∧ M2 62 39 = nI (ra + 3))) := by
  refine xb_of pX10 (Nat.le_of_ble_eq_true rfl) rfl ?_
  refine xr_iload_n dX10_turnsAs_0 1 rfl ?_
  refine xr_iconst (v := 3) dX10_turnsAs_1 rfl ?_
  refine xr_icmp_eq (tgt := 10) dX10_turnsAs_2 rfl (fun c => absurd c (by decide)) (fun _ => ?_)
  refine xr_iload_n dX10_turnsAs_5 1 rfl ?_
  refine xr_iconst (v := 5) dX10_turnsAs_6 rfl ?_
  refine xr_icmp_ne (tgt := 25) dX10_turnsAs_7 rfl (fun _ => ?_) (fun c => absurd c (by decide))
  refine xr_iload_n dX10_turnsAs_25 1 rfl ?_
  refine xr_iconst (v := 2) dX10_turnsAs_26 rfl ?_
  refine xr_icmp_ne (tgt := 44) dX10_turnsAs_27 rfl (fun c => absurd (by decide) c) (fun _ => ?_)
  refine xr_aload_n dX10_turnsAs_30 0 rfl ?_
  refine xr_bipush (v := 30) dX10_turnsAs_31 rfl ?_
  refine xr_callV (As := [.int (30)]) (rest := []) mlX10_340 (g_X10_begins 30 (by omega) e_ra) dX10_turnsAs_33 s_62 rfl rfl (Nat.le_of_ble_eq_true rfl) (by decide) ⟨by decide, by decide⟩ (fun v s2 M2 J2 hq => ?_)
  obtain ⟨rfl, rfl, rfl, k3, hx1⟩ := hq
  try dsimp only [Option.toList, List.cons_append, List.nil_append]
  refine xr_aload_n dX10_turnsAs_36 0 rfl ?_
  refine xr_iconst (v := 0) dX10_turnsAs_37 rfl ?_
  refine xr_iload_n dX10_turnsAs_38 2 rfl ?_
  refine xr_callV (As := [.int (0), .int (x)]) (rest := []) mlX10_349 (ra5_turnsAs_0 x (by omega) hx1 (Eq.trans (k3 62 40 (by decide)) e_k) (Eq.trans (k3 62 41 (by decide)) e_ac)) dX10_turnsAs_39 s_62 rfl rfl (Nat.le_of_ble_eq_true rfl) (by decide) ⟨by decide, by decide⟩ (fun v s2 M6 J2 hq => ?_)
  obtain ⟨r8, rfl, rfl, rfl, k7, ⟨hr5, hx4⟩⟩ := hq
  try dsimp only [Option.toList, List.cons_append, List.nil_append]
  subst hr5
  refine xr_ineg dX10_turnsAs_42 ?_
  exact xr_iret dX10_turnsAs_43 rfl rfl (⟨_, rfl, rfl, rfl, (Ke.tr (fun _ _ h => h) (Ke.tr (fun _ _ h => h) Ke.rf k3) k7), rfl, hx4⟩)
set_option maxRecDepth 100000 in
set_option maxHeartbeats 4000000 in
theorem ra5_turnsAs_5 {ac : Nat} (x : Int32) {l : Launch} {G : xG} {M : xM} {J : xJ} {ra : Nat} (h_ra : ra + 4 ≤ 900) (e_ra : M 62 39 = nI ra) (e_k : M 62 40 = 5) (e_ac : M 62 41 = nI ac) : x_M l G fX10_turnsAs 4 0 0 [.ref (62), .int (5), .int (x)] x_SH M J (qKI WRA M J (fun r M2 => r = (-(((x + 1) + (nI (ac))) * 2)) ∧ M2 62 39 = nI (ra + 4))) := by
  refine xb_of pX10 (Nat.le_of_ble_eq_true rfl) rfl ?_
  refine xr_iload_n dX10_turnsAs_0 1 rfl ?_
  refine xr_iconst (v := 3) dX10_turnsAs_1 rfl ?_
  refine xr_icmp_eq (tgt := 10) dX10_turnsAs_2 rfl (fun c => absurd c (by decide)) (fun _ => ?_)
  refine xr_iload_n dX10_turnsAs_5 1 rfl ?_
  refine xr_iconst (v := 5) dX10_turnsAs_6 rfl ?_
  refine xr_icmp_ne (tgt := 25) dX10_turnsAs_7 rfl (fun c => absurd (by decide) c) (fun _ => ?_)
  refine xr_aload_n dX10_turnsAs_10 0 rfl ?_
  refine xr_bipush (v := 41) dX10_turnsAs_11 rfl ?_
  refine xr_callV (As := [.int (41)]) (rest := []) mlX10_340 (g_X10_begins 41 (by omega) e_ra) dX10_turnsAs_13 s_62 rfl rfl (Nat.le_of_ble_eq_true rfl) (by decide) ⟨by decide, by decide⟩ (fun v s2 M2 J2 hq => ?_)
  obtain ⟨rfl, rfl, rfl, k3, hx1⟩ := hq
  try dsimp only [Option.toList, List.cons_append, List.nil_append]
  refine xr_aload_n dX10_turnsAs_16 0 rfl ?_
  refine xr_iconst (v := 2) dX10_turnsAs_17 rfl ?_
  refine xr_iload_n dX10_turnsAs_18 2 rfl ?_
  refine xr_iconst (v := 1) dX10_turnsAs_19 rfl ?_
  refine xr_iadd dX10_turnsAs_20 ?_
  refine xr_callV (As := [.int (2), .int ((x + 1))]) (rest := []) mlX10_349 (ra5_turnsAs_2 (x + 1) (by omega) hx1 (Eq.trans (k3 62 40 (by decide)) e_k) (Eq.trans (k3 62 41 (by decide)) e_ac)) dX10_turnsAs_21 s_62 rfl rfl (Nat.le_of_ble_eq_true rfl) (by decide) ⟨by decide, by decide⟩ (fun v s2 M6 J2 hq => ?_)
  obtain ⟨r8, rfl, rfl, rfl, k7, ⟨hr5, hx4⟩⟩ := hq
  try dsimp only [Option.toList, List.cons_append, List.nil_append]
  subst hr5
  exact xr_iret dX10_turnsAs_24 rfl rfl (⟨_, rfl, rfl, rfl, (Ke.tr (fun _ _ h => h) (Ke.tr (fun _ _ h => h) Ke.rf k3) k7), rfl, hx4⟩)
set_option maxRecDepth 100000 in
set_option maxHeartbeats 4000000 in
theorem ra5_sinksAs_2 {ac : Nat} (x : Int32) {l : Launch} {G : xG} {M : xM} {J : xJ} {ra : Nat} (h_ra : ra + 1 ≤ 900) (e_ra : M 62 39 = nI ra) (e_k : M 62 40 = 5) (e_ac : M 62 41 = nI ac) : x_M l G fX10_sinksAs 1 0 0 [.ref (62), .int (2), .int (x)] x_SH M J (qKI WRA M J (fun r M2 => r = (x ^^^ (nI (ac))) ∧ M2 62 39 = nI (ra + 1))) := by
  refine xb_of pX10 (Nat.le_of_ble_eq_true rfl) rfl ?_
  refine xr_iload_n dX10_sinksAs_0 1 rfl ?_
  refine xr_iconst (v := 3) dX10_sinksAs_1 rfl ?_
  refine xr_icmp_eq (tgt := 10) dX10_sinksAs_2 rfl (fun c => absurd c (by decide)) (fun _ => ?_)
  refine xr_iload_n dX10_sinksAs_5 1 rfl ?_
  refine xr_iconst (v := 5) dX10_sinksAs_6 rfl ?_
  refine xr_icmp_ne (tgt := 25) dX10_sinksAs_7 rfl (fun _ => ?_) (fun c => absurd c (by decide))
  refine xr_iload_n dX10_sinksAs_25 1 rfl ?_
  refine xr_iconst (v := 4) dX10_sinksAs_26 rfl ?_
  refine xr_icmp_eq (tgt := 36) dX10_sinksAs_27 rfl (fun c => absurd c (by decide)) (fun _ => ?_)
  refine xr_iload_n dX10_sinksAs_30 1 rfl ?_
  refine xr_bipush (v := 7) dX10_sinksAs_31 rfl ?_
  refine xr_icmp_ne (tgt := 61) dX10_sinksAs_33 rfl (fun _ => ?_) (fun c => absurd c (by decide))
  refine xr_aload_n dX10_sinksAs_61 0 rfl ?_
  refine xr_bipush (v := 11) dX10_sinksAs_62 rfl ?_
  refine xr_callV (As := [.int (11)]) (rest := []) mlX10_340 (g_X10_begins 11 (by omega) e_ra) dX10_sinksAs_64 s_62 rfl rfl (Nat.le_of_ble_eq_true rfl) (by decide) ⟨by decide, by decide⟩ (fun v s2 M2 J2 hq => ?_)
  obtain ⟨rfl, rfl, rfl, k3, hx1⟩ := hq
  try dsimp only [Option.toList, List.cons_append, List.nil_append]
  refine xr_iload_n dX10_sinksAs_67 2 rfl ?_
  refine xr_aload_n dX10_sinksAs_68 0 rfl ?_
  refine xb_get (v := nI (ac)) flX10_346 dX10_sinksAs_69 s_62 rfl (Eq.trans (k3 62 41 (by decide)) e_ac) ?_
  refine xr_ixor dX10_sinksAs_72 ?_
  exact xr_iret dX10_sinksAs_73 rfl rfl (⟨_, rfl, rfl, rfl, (Ke.tr (fun _ _ h => h) Ke.rf k3), rfl, hx1⟩)
set_option maxRecDepth 100000 in
set_option maxHeartbeats 4000000 in
theorem ra5_sinksAs_5 {ac : Nat} (x : Int32) {l : Launch} {G : xG} {M : xM} {J : xJ} {ra : Nat} (h_ra : ra + 2 ≤ 900) (e_ra : M 62 39 = nI ra) (e_k : M 62 40 = 5) (e_ac : M 62 41 = nI ac) : x_M l G fX10_sinksAs 2 0 0 [.ref (62), .int (5), .int (x)] x_SH M J (qKI WRA M J (fun r M2 => r = ((x ^^^ (nI (ac))) * 3) ∧ M2 62 39 = nI (ra + 2))) := by
  refine xb_of pX10 (Nat.le_of_ble_eq_true rfl) rfl ?_
  refine xr_iload_n dX10_sinksAs_0 1 rfl ?_
  refine xr_iconst (v := 3) dX10_sinksAs_1 rfl ?_
  refine xr_icmp_eq (tgt := 10) dX10_sinksAs_2 rfl (fun c => absurd c (by decide)) (fun _ => ?_)
  refine xr_iload_n dX10_sinksAs_5 1 rfl ?_
  refine xr_iconst (v := 5) dX10_sinksAs_6 rfl ?_
  refine xr_icmp_ne (tgt := 25) dX10_sinksAs_7 rfl (fun c => absurd (by decide) c) (fun _ => ?_)
  refine xr_aload_n dX10_sinksAs_10 0 rfl ?_
  refine xr_bipush (v := 40) dX10_sinksAs_11 rfl ?_
  refine xr_callV (As := [.int (40)]) (rest := []) mlX10_340 (g_X10_begins 40 (by omega) e_ra) dX10_sinksAs_13 s_62 rfl rfl (Nat.le_of_ble_eq_true rfl) (by decide) ⟨by decide, by decide⟩ (fun v s2 M2 J2 hq => ?_)
  obtain ⟨rfl, rfl, rfl, k3, hx1⟩ := hq
  try dsimp only [Option.toList, List.cons_append, List.nil_append]
  refine xr_aload_n dX10_sinksAs_16 0 rfl ?_
  refine xr_iconst (v := 2) dX10_sinksAs_17 rfl ?_
  refine xr_iload_n dX10_sinksAs_18 2 rfl ?_
  refine xr_callV (As := [.int (2), .int (x)]) (rest := []) mlX10_355 (ra5_sinksAs_2 x (by omega) hx1 (Eq.trans (k3 62 40 (by decide)) e_k) (Eq.trans (k3 62 41 (by decide)) e_ac)) dX10_sinksAs_19 s_62 rfl rfl (Nat.le_of_ble_eq_true rfl) (by decide) ⟨by decide, by decide⟩ (fun v s2 M6 J2 hq => ?_)
  obtain ⟨r8, rfl, rfl, rfl, k7, ⟨hr5, hx4⟩⟩ := hq
  try dsimp only [Option.toList, List.cons_append, List.nil_append]
  subst hr5
  refine xr_iconst (v := 3) dX10_sinksAs_22 rfl ?_
  refine xr_imul dX10_sinksAs_23 ?_
  exact xr_iret dX10_sinksAs_24 rfl rfl (⟨_, rfl, rfl, rfl, (Ke.tr (fun _ _ h => h) (Ke.tr (fun _ _ h => h) Ke.rf k3) k7), rfl, hx4⟩)
set_option maxRecDepth 100000 in
set_option maxHeartbeats 4000000 in
theorem ra5_tellsAs_3 {ac : Nat} (x : Int32) {l : Launch} {G : xG} {M : xM} {J : xJ} {ra : Nat} (h_ra : ra + 7 ≤ 900) (e_ra : M 62 39 = nI ra) (e_k : M 62 40 = 5) (e_ac : M 62 41 = nI ac) : x_M l G fX10_tellsAs 5 0 0 [.ref (62), .int (3), .int (x)] x_SH M J (qKI WRA M J (fun r M2 => r = ((-(((x + 1) + (nI (ac))) * 2)) - ((1 ^^^ (nI (ac))) * 3)) ∧ M2 62 39 = nI (ra + 7))) := by
  refine xb_of pX10 (Nat.le_of_ble_eq_true rfl) rfl ?_
  refine xr_iload_n dX10_tellsAs_0 1 rfl ?_
  refine xr_iconst (v := 5) dX10_tellsAs_1 rfl ?_
  refine xr_icmp_ne (tgt := 20) dX10_tellsAs_2 rfl (fun _ => ?_) (fun c => absurd c (by decide))
  refine xr_iload_n dX10_tellsAs_20 1 rfl ?_
  refine xr_bipush (v := 7) dX10_tellsAs_21 rfl ?_
  refine xr_icmp_ne (tgt := 41) dX10_tellsAs_23 rfl (fun _ => ?_) (fun c => absurd c (by decide))
  refine xr_aload_n dX10_tellsAs_41 0 rfl ?_
  refine xr_iconst (v := 2) dX10_tellsAs_42 rfl ?_
  refine xr_callV (As := [.int (2)]) (rest := []) mlX10_340 (g_X10_begins 2 (by omega) e_ra) dX10_tellsAs_43 s_62 rfl rfl (Nat.le_of_ble_eq_true rfl) (by decide) ⟨by decide, by decide⟩ (fun v s2 M2 J2 hq => ?_)
  obtain ⟨rfl, rfl, rfl, k3, hx1⟩ := hq
  try dsimp only [Option.toList, List.cons_append, List.nil_append]
  refine xr_aload_n dX10_tellsAs_46 0 rfl ?_
  refine xr_aload_n dX10_tellsAs_47 0 rfl ?_
  refine xb_get (v := 5) flX10_352 dX10_tellsAs_48 s_62 rfl (Eq.trans (k3 62 40 (by decide)) e_k) ?_
  refine xr_iload_n dX10_tellsAs_51 2 rfl ?_
  refine xr_callV (As := [.int (5), .int (x)]) (rest := []) mlX10_349 (ra5_turnsAs_5 x (by omega) hx1 (Eq.trans (k3 62 40 (by decide)) e_k) (Eq.trans (k3 62 41 (by decide)) e_ac)) dX10_tellsAs_52 s_62 rfl rfl (Nat.le_of_ble_eq_true rfl) (by decide) ⟨by decide, by decide⟩ (fun v s2 M6 J2 hq => ?_)
  obtain ⟨r8, rfl, rfl, rfl, k7, ⟨hr5, hx4⟩⟩ := hq
  try dsimp only [Option.toList, List.cons_append, List.nil_append]
  subst hr5
  refine xr_istore_n (ls2 := [(3, .int ((-(((x + 1) + (nI (ac))) * 2)))), (0, .ref (62)), (1, .int (3)), (2, .int (x))]) dX10_tellsAs_55 (by decide) rfl ?_
  refine xr_iload_n dX10_tellsAs_56 0 rfl ?_
  refine xr_aload_n dX10_tellsAs_57 1 rfl ?_
  refine xr_aload_n dX10_tellsAs_58 1 rfl ?_
  refine xb_get (v := 5) flX10_352 dX10_tellsAs_59 s_62 rfl (Eq.trans (k7 62 40 (by decide)) (Eq.trans (k3 62 40 (by decide)) e_k)) ?_
  refine xr_iconst (v := 1) dX10_tellsAs_62 rfl ?_
  refine xr_callV (As := [.int (5), .int (1)]) (rest := [.int ((-(((x + 1) + (nI (ac))) * 2)))]) mlX10_355 (ra5_sinksAs_5 1 (by omega) hx4 (Eq.trans (k7 62 40 (by decide)) (Eq.trans (k3 62 40 (by decide)) e_k)) (Eq.trans (k7 62 41 (by decide)) (Eq.trans (k3 62 41 (by decide)) e_ac))) dX10_tellsAs_63 s_62 rfl rfl (Nat.le_of_ble_eq_true rfl) (by decide) ⟨by decide, by decide⟩ (fun v s2 M11 J2 hq => ?_)
  obtain ⟨r13, rfl, rfl, rfl, k12, ⟨hr10, hx9⟩⟩ := hq
  try dsimp only [Option.toList, List.cons_append, List.nil_append]
  subst hr10
  refine xr_isub dX10_tellsAs_66 ?_
  exact xr_iret dX10_tellsAs_67 rfl rfl (⟨_, rfl, rfl, rfl, (Ke.tr (fun _ _ h => h) (Ke.tr (fun _ _ h => h) (Ke.tr (fun _ _ h => h) Ke.rf k3) k7) k12), rfl, hx9⟩)
set_option maxRecDepth 100000 in
set_option maxHeartbeats 4000000 in
theorem ra5_tellsAs_5 {ac : Nat} (x : Int32) {l : Launch} {G : xG} {M : xM} {J : xJ} {ra : Nat} (h_ra : ra + 8 ≤ 900) (e_ra : M 62 39 = nI ra) (e_k : M 62 40 = 5) (e_ac : M 62 41 = nI ac) : x_M l G fX10_tellsAs 6 0 0 [.ref (62), .int (5), .int (x)] x_SH M J (qKI WRA M J (fun r M2 => r = (((-(((x + 1) + (nI (ac))) * 2)) - ((1 ^^^ (nI (ac))) * 3)) ^^^ 5) ∧ M2 62 39 = nI (ra + 8))) := by
  refine xb_of pX10 (Nat.le_of_ble_eq_true rfl) rfl ?_
  refine xr_iload_n dX10_tellsAs_0 1 rfl ?_
  refine xr_iconst (v := 5) dX10_tellsAs_1 rfl ?_
  refine xr_icmp_ne (tgt := 20) dX10_tellsAs_2 rfl (fun c => absurd (by decide) c) (fun _ => ?_)
  refine xr_aload_n dX10_tellsAs_5 0 rfl ?_
  refine xr_bipush (v := 60) dX10_tellsAs_6 rfl ?_
  refine xr_callV (As := [.int (60)]) (rest := []) mlX10_340 (g_X10_begins 60 (by omega) e_ra) dX10_tellsAs_8 s_62 rfl rfl (Nat.le_of_ble_eq_true rfl) (by decide) ⟨by decide, by decide⟩ (fun v s2 M2 J2 hq => ?_)
  obtain ⟨rfl, rfl, rfl, k3, hx1⟩ := hq
  try dsimp only [Option.toList, List.cons_append, List.nil_append]
  refine xr_aload_n dX10_tellsAs_11 0 rfl ?_
  refine xr_iconst (v := 3) dX10_tellsAs_12 rfl ?_
  refine xr_iload_n dX10_tellsAs_13 2 rfl ?_
  refine xr_callV (As := [.int (3), .int (x)]) (rest := []) mlX10_358 (ra5_tellsAs_3 x (by omega) hx1 (Eq.trans (k3 62 40 (by decide)) e_k) (Eq.trans (k3 62 41 (by decide)) e_ac)) dX10_tellsAs_14 s_62 rfl rfl (Nat.le_of_ble_eq_true rfl) (by decide) ⟨by decide, by decide⟩ (fun v s2 M6 J2 hq => ?_)
  obtain ⟨r8, rfl, rfl, rfl, k7, ⟨hr5, hx4⟩⟩ := hq
  try dsimp only [Option.toList, List.cons_append, List.nil_append]
  subst hr5
  refine xr_iconst (v := 5) dX10_tellsAs_17 rfl ?_
  refine xr_ixor dX10_tellsAs_18 ?_
  exact xr_iret dX10_tellsAs_19 rfl rfl (⟨_, rfl, rfl, rfl, (Ke.tr (fun _ _ h => h) (Ke.tr (fun _ _ h => h) Ke.rf k3) k7), rfl, hx4⟩)
set_option maxRecDepth 100000 in
set_option maxHeartbeats 4000000 in
theorem ra6_pushesAs_0 {ac : Nat} (x : Int32) {l : Launch} {G : xG} {M : xM} {J : xJ} {ra : Nat} (h_ra : ra + 1 ≤ 900) (e_ra : M 62 39 = nI ra) (e_k : M 62 40 = 6) (e_ac : M 62 41 = nI ac) : x_M l G fX10_pushesAs 1 0 0 [.ref (62), .int (0), .int (x)] x_SH M J (qKI WRA M J (fun r M2 => r = (x + (nI (ac))) ∧ M2 62 39 = nI (ra + 1))) := by
  refine xb_of pX10 (Nat.le_of_ble_eq_true rfl) rfl ?_
  refine xr_iload_n dX10_pushesAs_0 1 rfl ?_
  refine xr_iconst (v := 1) dX10_pushesAs_1 rfl ?_
  refine xr_icmp_eq (tgt := 16) dX10_pushesAs_2 rfl (fun c => absurd c (by decide)) (fun _ => ?_)
  refine xr_iload_n dX10_pushesAs_5 1 rfl ?_
  refine xr_iconst (v := 4) dX10_pushesAs_6 rfl ?_
  refine xr_icmp_eq (tgt := 16) dX10_pushesAs_7 rfl (fun c => absurd c (by decide)) (fun _ => ?_)
  refine xr_iload_n dX10_pushesAs_10 1 rfl ?_
  refine xr_bipush (v := 7) dX10_pushesAs_11 rfl ?_
  refine xr_icmp_ne (tgt := 31) dX10_pushesAs_13 rfl (fun _ => ?_) (fun c => absurd c (by decide))
  refine xr_iload_n dX10_pushesAs_31 1 rfl ?_
  refine xr_bipush (v := 6) dX10_pushesAs_32 rfl ?_
  refine xr_icmp_ne (tgt := 52) dX10_pushesAs_34 rfl (fun _ => ?_) (fun c => absurd c (by decide))
  refine xr_aload_n dX10_pushesAs_52 0 rfl ?_
  refine xr_iconst (v := 1) dX10_pushesAs_53 rfl ?_
  refine xr_callV (As := [.int (1)]) (rest := []) mlX10_340 (g_X10_begins 1 (by omega) e_ra) dX10_pushesAs_54 s_62 rfl rfl (Nat.le_of_ble_eq_true rfl) (by decide) ⟨by decide, by decide⟩ (fun v s2 M2 J2 hq => ?_)
  obtain ⟨rfl, rfl, rfl, k3, hx1⟩ := hq
  try dsimp only [Option.toList, List.cons_append, List.nil_append]
  refine xr_iload_n dX10_pushesAs_57 2 rfl ?_
  refine xr_aload_n dX10_pushesAs_58 0 rfl ?_
  refine xb_get (v := nI (ac)) flX10_346 dX10_pushesAs_59 s_62 rfl (Eq.trans (k3 62 41 (by decide)) e_ac) ?_
  refine xr_iadd dX10_pushesAs_62 ?_
  exact xr_iret dX10_pushesAs_63 rfl rfl (⟨_, rfl, rfl, rfl, (Ke.tr (fun _ _ h => h) Ke.rf k3), rfl, hx1⟩)
set_option maxRecDepth 100000 in
set_option maxHeartbeats 4000000 in
theorem ra6_pushesAs_6 {ac : Nat} (x : Int32) {l : Launch} {G : xG} {M : xM} {J : xJ} {ra : Nat} (h_ra : ra + 2 ≤ 900) (e_ra : M 62 39 = nI ra) (e_k : M 62 40 = 6) (e_ac : M 62 41 = nI ac) : x_M l G fX10_pushesAs 2 0 0 [.ref (62), .int (6), .int (x)] x_SH M J (qKI WRA M J (fun r M2 => r = ((x + (nI (ac))) * 2) ∧ M2 62 39 = nI (ra + 2))) := by
  refine xb_of pX10 (Nat.le_of_ble_eq_true rfl) rfl ?_
  refine xr_iload_n dX10_pushesAs_0 1 rfl ?_
  refine xr_iconst (v := 1) dX10_pushesAs_1 rfl ?_
  refine xr_icmp_eq (tgt := 16) dX10_pushesAs_2 rfl (fun c => absurd c (by decide)) (fun _ => ?_)
  refine xr_iload_n dX10_pushesAs_5 1 rfl ?_
  refine xr_iconst (v := 4) dX10_pushesAs_6 rfl ?_
  refine xr_icmp_eq (tgt := 16) dX10_pushesAs_7 rfl (fun c => absurd c (by decide)) (fun _ => ?_)
  refine xr_iload_n dX10_pushesAs_10 1 rfl ?_
  refine xr_bipush (v := 7) dX10_pushesAs_11 rfl ?_
  refine xr_icmp_ne (tgt := 31) dX10_pushesAs_13 rfl (fun _ => ?_) (fun c => absurd c (by decide))
  refine xr_iload_n dX10_pushesAs_31 1 rfl ?_
  refine xr_bipush (v := 6) dX10_pushesAs_32 rfl ?_
  refine xr_icmp_ne (tgt := 52) dX10_pushesAs_34 rfl (fun c => absurd (by decide) c) (fun _ => ?_)
  refine xr_aload_n dX10_pushesAs_37 0 rfl ?_
  refine xr_bipush (v := 70) dX10_pushesAs_38 rfl ?_
  refine xr_callV (As := [.int (70)]) (rest := []) mlX10_340 (g_X10_begins 70 (by omega) e_ra) dX10_pushesAs_40 s_62 rfl rfl (Nat.le_of_ble_eq_true rfl) (by decide) ⟨by decide, by decide⟩ (fun v s2 M2 J2 hq => ?_)
  obtain ⟨rfl, rfl, rfl, k3, hx1⟩ := hq
  try dsimp only [Option.toList, List.cons_append, List.nil_append]
  refine xr_aload_n dX10_pushesAs_43 0 rfl ?_
  refine xr_iconst (v := 0) dX10_pushesAs_44 rfl ?_
  refine xr_iload_n dX10_pushesAs_45 2 rfl ?_
  refine xr_callV (As := [.int (0), .int (x)]) (rest := []) mlX10_343 (ra6_pushesAs_0 x (by omega) hx1 (Eq.trans (k3 62 40 (by decide)) e_k) (Eq.trans (k3 62 41 (by decide)) e_ac)) dX10_pushesAs_46 s_62 rfl rfl (Nat.le_of_ble_eq_true rfl) (by decide) ⟨by decide, by decide⟩ (fun v s2 M6 J2 hq => ?_)
  obtain ⟨r8, rfl, rfl, rfl, k7, ⟨hr5, hx4⟩⟩ := hq
  try dsimp only [Option.toList, List.cons_append, List.nil_append]
  subst hr5
  refine xr_iconst (v := 2) dX10_pushesAs_49 rfl ?_
  refine xr_imul dX10_pushesAs_50 ?_
  exact xr_iret dX10_pushesAs_51 rfl rfl (⟨_, rfl, rfl, rfl, (Ke.tr (fun _ _ h => h) (Ke.tr (fun _ _ h => h) Ke.rf k3) k7), rfl, hx4⟩)
set_option maxRecDepth 100000 in
set_option maxHeartbeats 4000000 in
theorem ra6_turnsAs_6 {ac : Nat} (x : Int32) {l : Launch} {G : xG} {M : xM} {J : xJ} {ra : Nat} (h_ra : ra + 3 ≤ 900) (e_ra : M 62 39 = nI ra) (e_k : M 62 40 = 6) (e_ac : M 62 41 = nI ac) : x_M l G fX10_turnsAs 3 0 0 [.ref (62), .int (6), .int (x)] x_SH M J (qKI WRA M J (fun r M2 => r = (((x + (nI (ac))) * 2) * 2) ∧ M2 62 39 = nI (ra + 3))) := by
  refine xb_of pX10 (Nat.le_of_ble_eq_true rfl) rfl ?_
  refine xr_iload_n dX10_turnsAs_0 1 rfl ?_
  refine xr_iconst (v := 3) dX10_turnsAs_1 rfl ?_
  refine xr_icmp_eq (tgt := 10) dX10_turnsAs_2 rfl (fun c => absurd c (by decide)) (fun _ => ?_)
  refine xr_iload_n dX10_turnsAs_5 1 rfl ?_
  refine xr_iconst (v := 5) dX10_turnsAs_6 rfl ?_
  refine xr_icmp_ne (tgt := 25) dX10_turnsAs_7 rfl (fun _ => ?_) (fun c => absurd c (by decide))
  refine xr_iload_n dX10_turnsAs_25 1 rfl ?_
  refine xr_iconst (v := 2) dX10_turnsAs_26 rfl ?_
  refine xr_icmp_ne (tgt := 44) dX10_turnsAs_27 rfl (fun _ => ?_) (fun c => absurd c (by decide))
  refine xr_iload_n dX10_turnsAs_44 1 rfl ?_
  refine xr_bipush (v := 7) dX10_turnsAs_45 rfl ?_
  refine xr_icmp_ne (tgt := 75) dX10_turnsAs_47 rfl (fun _ => ?_) (fun c => absurd c (by decide))
  refine xr_aload_n dX10_turnsAs_75 0 rfl ?_
  refine xr_bipush (v := 10) dX10_turnsAs_76 rfl ?_
  refine xr_callV (As := [.int (10)]) (rest := []) mlX10_340 (g_X10_begins 10 (by omega) e_ra) dX10_turnsAs_78 s_62 rfl rfl (Nat.le_of_ble_eq_true rfl) (by decide) ⟨by decide, by decide⟩ (fun v s2 M2 J2 hq => ?_)
  obtain ⟨rfl, rfl, rfl, k3, hx1⟩ := hq
  try dsimp only [Option.toList, List.cons_append, List.nil_append]
  refine xr_aload_n dX10_turnsAs_81 0 rfl ?_
  refine xr_aload_n dX10_turnsAs_82 0 rfl ?_
  refine xb_get (v := 6) flX10_352 dX10_turnsAs_83 s_62 rfl (Eq.trans (k3 62 40 (by decide)) e_k) ?_
  refine xr_iload_n dX10_turnsAs_86 2 rfl ?_
  refine xr_callV (As := [.int (6), .int (x)]) (rest := []) mlX10_343 (ra6_pushesAs_6 x (by omega) hx1 (Eq.trans (k3 62 40 (by decide)) e_k) (Eq.trans (k3 62 41 (by decide)) e_ac)) dX10_turnsAs_87 s_62 rfl rfl (Nat.le_of_ble_eq_true rfl) (by decide) ⟨by decide, by decide⟩ (fun v s2 M6 J2 hq => ?_)
  obtain ⟨r8, rfl, rfl, rfl, k7, ⟨hr5, hx4⟩⟩ := hq
  try dsimp only [Option.toList, List.cons_append, List.nil_append]
  subst hr5
  refine xr_iconst (v := 2) dX10_turnsAs_90 rfl ?_
  refine xr_imul dX10_turnsAs_91 ?_
  exact xr_iret dX10_turnsAs_92 rfl rfl (⟨_, rfl, rfl, rfl, (Ke.tr (fun _ _ h => h) (Ke.tr (fun _ _ h => h) Ke.rf k3) k7), rfl, hx4⟩)
set_option maxRecDepth 100000 in
set_option maxHeartbeats 4000000 in
theorem ra6_sinksAs_6 {ac : Nat} (x : Int32) {l : Launch} {G : xG} {M : xM} {J : xJ} {ra : Nat} (h_ra : ra + 1 ≤ 900) (e_ra : M 62 39 = nI ra) (e_k : M 62 40 = 6) (e_ac : M 62 41 = nI ac) : x_M l G fX10_sinksAs 1 0 0 [.ref (62), .int (6), .int (x)] x_SH M J (qKI WRA M J (fun r M2 => r = (x ^^^ (nI (ac))) ∧ M2 62 39 = nI (ra + 1))) := by
  refine xb_of pX10 (Nat.le_of_ble_eq_true rfl) rfl ?_
  refine xr_iload_n dX10_sinksAs_0 1 rfl ?_
  refine xr_iconst (v := 3) dX10_sinksAs_1 rfl ?_
  refine xr_icmp_eq (tgt := 10) dX10_sinksAs_2 rfl (fun c => absurd c (by decide)) (fun _ => ?_)
  refine xr_iload_n dX10_sinksAs_5 1 rfl ?_
  refine xr_iconst (v := 5) dX10_sinksAs_6 rfl ?_
  refine xr_icmp_ne (tgt := 25) dX10_sinksAs_7 rfl (fun _ => ?_) (fun c => absurd c (by decide))
  refine xr_iload_n dX10_sinksAs_25 1 rfl ?_
  refine xr_iconst (v := 4) dX10_sinksAs_26 rfl ?_
  refine xr_icmp_eq (tgt := 36) dX10_sinksAs_27 rfl (fun c => absurd c (by decide)) (fun _ => ?_)
  refine xr_iload_n dX10_sinksAs_30 1 rfl ?_
  refine xr_bipush (v := 7) dX10_sinksAs_31 rfl ?_
  refine xr_icmp_ne (tgt := 61) dX10_sinksAs_33 rfl (fun _ => ?_) (fun c => absurd c (by decide))
  refine xr_aload_n dX10_sinksAs_61 0 rfl ?_
  refine xr_bipush (v := 11) dX10_sinksAs_62 rfl ?_
  refine xr_callV (As := [.int (11)]) (rest := []) mlX10_340 (g_X10_begins 11 (by omega) e_ra) dX10_sinksAs_64 s_62 rfl rfl (Nat.le_of_ble_eq_true rfl) (by decide) ⟨by decide, by decide⟩ (fun v s2 M2 J2 hq => ?_)
  obtain ⟨rfl, rfl, rfl, k3, hx1⟩ := hq
  try dsimp only [Option.toList, List.cons_append, List.nil_append]
  refine xr_iload_n dX10_sinksAs_67 2 rfl ?_
  refine xr_aload_n dX10_sinksAs_68 0 rfl ?_
  refine xb_get (v := nI (ac)) flX10_346 dX10_sinksAs_69 s_62 rfl (Eq.trans (k3 62 41 (by decide)) e_ac) ?_
  refine xr_ixor dX10_sinksAs_72 ?_
  exact xr_iret dX10_sinksAs_73 rfl rfl (⟨_, rfl, rfl, rfl, (Ke.tr (fun _ _ h => h) Ke.rf k3), rfl, hx1⟩)
set_option maxRecDepth 100000 in
set_option maxHeartbeats 4000000 in
theorem ra6_tellsAs_6 {ac : Nat} (x : Int32) {l : Launch} {G : xG} {M : xM} {J : xJ} {ra : Nat} (h_ra : ra + 5 ≤ 900) (e_ra : M 62 39 = nI ra) (e_k : M 62 40 = 6) (e_ac : M 62 41 = nI ac) : x_M l G fX10_tellsAs 4 0 0 [.ref (62), .int (6), .int (x)] x_SH M J (qKI WRA M J (fun r M2 => r = ((((x + (nI (ac))) * 2) * 2) - (1 ^^^ (nI (ac)))) ∧ M2 62 39 = nI (ra + 5))) := by
  refine xb_of pX10 (Nat.le_of_ble_eq_true rfl) rfl ?_
  refine xr_iload_n dX10_tellsAs_0 1 rfl ?_
  refine xr_iconst (v := 5) dX10_tellsAs_1 rfl ?_
  refine xr_icmp_ne (tgt := 20) dX10_tellsAs_2 rfl (fun _ => ?_) (fun c => absurd c (by decide))
  refine xr_iload_n dX10_tellsAs_20 1 rfl ?_
  refine xr_bipush (v := 7) dX10_tellsAs_21 rfl ?_
  refine xr_icmp_ne (tgt := 41) dX10_tellsAs_23 rfl (fun _ => ?_) (fun c => absurd c (by decide))
  refine xr_aload_n dX10_tellsAs_41 0 rfl ?_
  refine xr_iconst (v := 2) dX10_tellsAs_42 rfl ?_
  refine xr_callV (As := [.int (2)]) (rest := []) mlX10_340 (g_X10_begins 2 (by omega) e_ra) dX10_tellsAs_43 s_62 rfl rfl (Nat.le_of_ble_eq_true rfl) (by decide) ⟨by decide, by decide⟩ (fun v s2 M2 J2 hq => ?_)
  obtain ⟨rfl, rfl, rfl, k3, hx1⟩ := hq
  try dsimp only [Option.toList, List.cons_append, List.nil_append]
  refine xr_aload_n dX10_tellsAs_46 0 rfl ?_
  refine xr_aload_n dX10_tellsAs_47 0 rfl ?_
  refine xb_get (v := 6) flX10_352 dX10_tellsAs_48 s_62 rfl (Eq.trans (k3 62 40 (by decide)) e_k) ?_
  refine xr_iload_n dX10_tellsAs_51 2 rfl ?_
  refine xr_callV (As := [.int (6), .int (x)]) (rest := []) mlX10_349 (ra6_turnsAs_6 x (by omega) hx1 (Eq.trans (k3 62 40 (by decide)) e_k) (Eq.trans (k3 62 41 (by decide)) e_ac)) dX10_tellsAs_52 s_62 rfl rfl (Nat.le_of_ble_eq_true rfl) (by decide) ⟨by decide, by decide⟩ (fun v s2 M6 J2 hq => ?_)
  obtain ⟨r8, rfl, rfl, rfl, k7, ⟨hr5, hx4⟩⟩ := hq
  try dsimp only [Option.toList, List.cons_append, List.nil_append]
  subst hr5
  refine xr_istore_n (ls2 := [(3, .int ((((x + (nI (ac))) * 2) * 2))), (0, .ref (62)), (1, .int (6)), (2, .int (x))]) dX10_tellsAs_55 (by decide) rfl ?_
  refine xr_iload_n dX10_tellsAs_56 0 rfl ?_
  refine xr_aload_n dX10_tellsAs_57 1 rfl ?_
  refine xr_aload_n dX10_tellsAs_58 1 rfl ?_
  refine xb_get (v := 6) flX10_352 dX10_tellsAs_59 s_62 rfl (Eq.trans (k7 62 40 (by decide)) (Eq.trans (k3 62 40 (by decide)) e_k)) ?_
  refine xr_iconst (v := 1) dX10_tellsAs_62 rfl ?_
  refine xr_callV (As := [.int (6), .int (1)]) (rest := [.int ((((x + (nI (ac))) * 2) * 2))]) mlX10_355 (ra6_sinksAs_6 1 (by omega) hx4 (Eq.trans (k7 62 40 (by decide)) (Eq.trans (k3 62 40 (by decide)) e_k)) (Eq.trans (k7 62 41 (by decide)) (Eq.trans (k3 62 41 (by decide)) e_ac))) dX10_tellsAs_63 s_62 rfl rfl (Nat.le_of_ble_eq_true rfl) (by decide) ⟨by decide, by decide⟩ (fun v s2 M11 J2 hq => ?_)
  obtain ⟨r13, rfl, rfl, rfl, k12, ⟨hr10, hx9⟩⟩ := hq
  try dsimp only [Option.toList, List.cons_append, List.nil_append]
  subst hr10
  refine xr_isub dX10_tellsAs_66 ?_
  exact xr_iret dX10_tellsAs_67 rfl rfl (⟨_, rfl, rfl, rfl, (Ke.tr (fun _ _ h => h) (Ke.tr (fun _ _ h => h) (Ke.tr (fun _ _ h => h) Ke.rf k3) k7) k12), rfl, hx9⟩)
set_option maxRecDepth 100000 in
set_option maxHeartbeats 4000000 in
theorem ra7_pushesAs_0 {ac : Nat} (x : Int32) {l : Launch} {G : xG} {M : xM} {J : xJ} {ra : Nat} (h_ra : ra + 1 ≤ 900) (e_ra : M 62 39 = nI ra) (e_k : M 62 40 = 7) (e_ac : M 62 41 = nI ac) : x_M l G fX10_pushesAs 1 0 0 [.ref (62), .int (0), .int (x)] x_SH M J (qKI WRA M J (fun r M2 => r = (x + (nI (ac))) ∧ M2 62 39 = nI (ra + 1))) := by
  refine xb_of pX10 (Nat.le_of_ble_eq_true rfl) rfl ?_
  refine xr_iload_n dX10_pushesAs_0 1 rfl ?_
  refine xr_iconst (v := 1) dX10_pushesAs_1 rfl ?_
  refine xr_icmp_eq (tgt := 16) dX10_pushesAs_2 rfl (fun c => absurd c (by decide)) (fun _ => ?_)
  refine xr_iload_n dX10_pushesAs_5 1 rfl ?_
  refine xr_iconst (v := 4) dX10_pushesAs_6 rfl ?_
  refine xr_icmp_eq (tgt := 16) dX10_pushesAs_7 rfl (fun c => absurd c (by decide)) (fun _ => ?_)
  refine xr_iload_n dX10_pushesAs_10 1 rfl ?_
  refine xr_bipush (v := 7) dX10_pushesAs_11 rfl ?_
  refine xr_icmp_ne (tgt := 31) dX10_pushesAs_13 rfl (fun _ => ?_) (fun c => absurd c (by decide))
  refine xr_iload_n dX10_pushesAs_31 1 rfl ?_
  refine xr_bipush (v := 6) dX10_pushesAs_32 rfl ?_
  refine xr_icmp_ne (tgt := 52) dX10_pushesAs_34 rfl (fun _ => ?_) (fun c => absurd c (by decide))
  refine xr_aload_n dX10_pushesAs_52 0 rfl ?_
  refine xr_iconst (v := 1) dX10_pushesAs_53 rfl ?_
  refine xr_callV (As := [.int (1)]) (rest := []) mlX10_340 (g_X10_begins 1 (by omega) e_ra) dX10_pushesAs_54 s_62 rfl rfl (Nat.le_of_ble_eq_true rfl) (by decide) ⟨by decide, by decide⟩ (fun v s2 M2 J2 hq => ?_)
  obtain ⟨rfl, rfl, rfl, k3, hx1⟩ := hq
  try dsimp only [Option.toList, List.cons_append, List.nil_append]
  refine xr_iload_n dX10_pushesAs_57 2 rfl ?_
  refine xr_aload_n dX10_pushesAs_58 0 rfl ?_
  refine xb_get (v := nI (ac)) flX10_346 dX10_pushesAs_59 s_62 rfl (Eq.trans (k3 62 41 (by decide)) e_ac) ?_
  refine xr_iadd dX10_pushesAs_62 ?_
  exact xr_iret dX10_pushesAs_63 rfl rfl (⟨_, rfl, rfl, rfl, (Ke.tr (fun _ _ h => h) Ke.rf k3), rfl, hx1⟩)
set_option maxRecDepth 100000 in
set_option maxHeartbeats 4000000 in
theorem ra7_pushesAs_7 {ac : Nat} (x : Int32) {l : Launch} {G : xG} {M : xM} {J : xJ} {ra : Nat} (h_ra : ra + 2 ≤ 900) (e_ra : M 62 39 = nI ra) (e_k : M 62 40 = 7) (e_ac : M 62 41 = nI ac) : x_M l G fX10_pushesAs 2 0 0 [.ref (62), .int (7), .int (x)] x_SH M J (qKI WRA M J (fun r M2 => r = ((x + (nI (ac))) + 3) ∧ M2 62 39 = nI (ra + 2))) := by
  refine xb_of pX10 (Nat.le_of_ble_eq_true rfl) rfl ?_
  refine xr_iload_n dX10_pushesAs_0 1 rfl ?_
  refine xr_iconst (v := 1) dX10_pushesAs_1 rfl ?_
  refine xr_icmp_eq (tgt := 16) dX10_pushesAs_2 rfl (fun c => absurd c (by decide)) (fun _ => ?_)
  refine xr_iload_n dX10_pushesAs_5 1 rfl ?_
  refine xr_iconst (v := 4) dX10_pushesAs_6 rfl ?_
  refine xr_icmp_eq (tgt := 16) dX10_pushesAs_7 rfl (fun c => absurd c (by decide)) (fun _ => ?_)
  refine xr_iload_n dX10_pushesAs_10 1 rfl ?_
  refine xr_bipush (v := 7) dX10_pushesAs_11 rfl ?_
  refine xr_icmp_ne (tgt := 31) dX10_pushesAs_13 rfl (fun c => absurd (by decide) c) (fun _ => ?_)
  refine xr_aload_n dX10_pushesAs_16 0 rfl ?_
  refine xr_bipush (v := 20) dX10_pushesAs_17 rfl ?_
  refine xr_callV (As := [.int (20)]) (rest := []) mlX10_340 (g_X10_begins 20 (by omega) e_ra) dX10_pushesAs_19 s_62 rfl rfl (Nat.le_of_ble_eq_true rfl) (by decide) ⟨by decide, by decide⟩ (fun v s2 M2 J2 hq => ?_)
  obtain ⟨rfl, rfl, rfl, k3, hx1⟩ := hq
  try dsimp only [Option.toList, List.cons_append, List.nil_append]
  refine xr_aload_n dX10_pushesAs_22 0 rfl ?_
  refine xr_iconst (v := 0) dX10_pushesAs_23 rfl ?_
  refine xr_iload_n dX10_pushesAs_24 2 rfl ?_
  refine xr_callV (As := [.int (0), .int (x)]) (rest := []) mlX10_343 (ra7_pushesAs_0 x (by omega) hx1 (Eq.trans (k3 62 40 (by decide)) e_k) (Eq.trans (k3 62 41 (by decide)) e_ac)) dX10_pushesAs_25 s_62 rfl rfl (Nat.le_of_ble_eq_true rfl) (by decide) ⟨by decide, by decide⟩ (fun v s2 M6 J2 hq => ?_)
  obtain ⟨r8, rfl, rfl, rfl, k7, ⟨hr5, hx4⟩⟩ := hq
  try dsimp only [Option.toList, List.cons_append, List.nil_append]
  subst hr5
  refine xr_iconst (v := 3) dX10_pushesAs_28 rfl ?_
  refine xr_iadd dX10_pushesAs_29 ?_
  exact xr_iret dX10_pushesAs_30 rfl rfl (⟨_, rfl, rfl, rfl, (Ke.tr (fun _ _ h => h) (Ke.tr (fun _ _ h => h) Ke.rf k3) k7), rfl, hx4⟩)
set_option maxRecDepth 100000 in
set_option maxHeartbeats 4000000 in
theorem ra7_turnsAs_4 {ac : Nat} (x : Int32) {l : Launch} {G : xG} {M : xM} {J : xJ} {ra : Nat} (h_ra : ra + 3 ≤ 900) (e_ra : M 62 39 = nI ra) (e_k : M 62 40 = 7) (e_ac : M 62 41 = nI ac) : x_M l G fX10_turnsAs 3 0 0 [.ref (62), .int (4), .int (x)] x_SH M J (qKI WRA M J (fun r M2 => r = (((x + (nI (ac))) + 3) * 2) ∧ M2 62 39 = nI (ra + 3))) := by
  refine xb_of pX10 (Nat.le_of_ble_eq_true rfl) rfl ?_
  refine xr_iload_n dX10_turnsAs_0 1 rfl ?_
  refine xr_iconst (v := 3) dX10_turnsAs_1 rfl ?_
  refine xr_icmp_eq (tgt := 10) dX10_turnsAs_2 rfl (fun c => absurd c (by decide)) (fun _ => ?_)
  refine xr_iload_n dX10_turnsAs_5 1 rfl ?_
  refine xr_iconst (v := 5) dX10_turnsAs_6 rfl ?_
  refine xr_icmp_ne (tgt := 25) dX10_turnsAs_7 rfl (fun _ => ?_) (fun c => absurd c (by decide))
  refine xr_iload_n dX10_turnsAs_25 1 rfl ?_
  refine xr_iconst (v := 2) dX10_turnsAs_26 rfl ?_
  refine xr_icmp_ne (tgt := 44) dX10_turnsAs_27 rfl (fun _ => ?_) (fun c => absurd c (by decide))
  refine xr_iload_n dX10_turnsAs_44 1 rfl ?_
  refine xr_bipush (v := 7) dX10_turnsAs_45 rfl ?_
  refine xr_icmp_ne (tgt := 75) dX10_turnsAs_47 rfl (fun _ => ?_) (fun c => absurd c (by decide))
  refine xr_aload_n dX10_turnsAs_75 0 rfl ?_
  refine xr_bipush (v := 10) dX10_turnsAs_76 rfl ?_
  refine xr_callV (As := [.int (10)]) (rest := []) mlX10_340 (g_X10_begins 10 (by omega) e_ra) dX10_turnsAs_78 s_62 rfl rfl (Nat.le_of_ble_eq_true rfl) (by decide) ⟨by decide, by decide⟩ (fun v s2 M2 J2 hq => ?_)
  obtain ⟨rfl, rfl, rfl, k3, hx1⟩ := hq
  try dsimp only [Option.toList, List.cons_append, List.nil_append]
  refine xr_aload_n dX10_turnsAs_81 0 rfl ?_
  refine xr_aload_n dX10_turnsAs_82 0 rfl ?_
  refine xb_get (v := 7) flX10_352 dX10_turnsAs_83 s_62 rfl (Eq.trans (k3 62 40 (by decide)) e_k) ?_
  refine xr_iload_n dX10_turnsAs_86 2 rfl ?_
  refine xr_callV (As := [.int (7), .int (x)]) (rest := []) mlX10_343 (ra7_pushesAs_7 x (by omega) hx1 (Eq.trans (k3 62 40 (by decide)) e_k) (Eq.trans (k3 62 41 (by decide)) e_ac)) dX10_turnsAs_87 s_62 rfl rfl (Nat.le_of_ble_eq_true rfl) (by decide) ⟨by decide, by decide⟩ (fun v s2 M6 J2 hq => ?_)
  obtain ⟨r8, rfl, rfl, rfl, k7, ⟨hr5, hx4⟩⟩ := hq
  try dsimp only [Option.toList, List.cons_append, List.nil_append]
  subst hr5
  refine xr_iconst (v := 2) dX10_turnsAs_90 rfl ?_
  refine xr_imul dX10_turnsAs_91 ?_
  exact xr_iret dX10_turnsAs_92 rfl rfl (⟨_, rfl, rfl, rfl, (Ke.tr (fun _ _ h => h) (Ke.tr (fun _ _ h => h) Ke.rf k3) k7), rfl, hx4⟩)
set_option maxRecDepth 100000 in
set_option maxHeartbeats 4000000 in
theorem ra7_sinksAs_1 {ac : Nat} (x : Int32) {l : Launch} {G : xG} {M : xM} {J : xJ} {ra : Nat} (h_ra : ra + 1 ≤ 900) (e_ra : M 62 39 = nI ra) (e_k : M 62 40 = 7) (e_ac : M 62 41 = nI ac) : x_M l G fX10_sinksAs 1 0 0 [.ref (62), .int (1), .int (x)] x_SH M J (qKI WRA M J (fun r M2 => r = (x ^^^ (nI (ac))) ∧ M2 62 39 = nI (ra + 1))) := by
  refine xb_of pX10 (Nat.le_of_ble_eq_true rfl) rfl ?_
  refine xr_iload_n dX10_sinksAs_0 1 rfl ?_
  refine xr_iconst (v := 3) dX10_sinksAs_1 rfl ?_
  refine xr_icmp_eq (tgt := 10) dX10_sinksAs_2 rfl (fun c => absurd c (by decide)) (fun _ => ?_)
  refine xr_iload_n dX10_sinksAs_5 1 rfl ?_
  refine xr_iconst (v := 5) dX10_sinksAs_6 rfl ?_
  refine xr_icmp_ne (tgt := 25) dX10_sinksAs_7 rfl (fun _ => ?_) (fun c => absurd c (by decide))
  refine xr_iload_n dX10_sinksAs_25 1 rfl ?_
  refine xr_iconst (v := 4) dX10_sinksAs_26 rfl ?_
  refine xr_icmp_eq (tgt := 36) dX10_sinksAs_27 rfl (fun c => absurd c (by decide)) (fun _ => ?_)
  refine xr_iload_n dX10_sinksAs_30 1 rfl ?_
  refine xr_bipush (v := 7) dX10_sinksAs_31 rfl ?_
  refine xr_icmp_ne (tgt := 61) dX10_sinksAs_33 rfl (fun _ => ?_) (fun c => absurd c (by decide))
  refine xr_aload_n dX10_sinksAs_61 0 rfl ?_
  refine xr_bipush (v := 11) dX10_sinksAs_62 rfl ?_
  refine xr_callV (As := [.int (11)]) (rest := []) mlX10_340 (g_X10_begins 11 (by omega) e_ra) dX10_sinksAs_64 s_62 rfl rfl (Nat.le_of_ble_eq_true rfl) (by decide) ⟨by decide, by decide⟩ (fun v s2 M2 J2 hq => ?_)
  obtain ⟨rfl, rfl, rfl, k3, hx1⟩ := hq
  try dsimp only [Option.toList, List.cons_append, List.nil_append]
  refine xr_iload_n dX10_sinksAs_67 2 rfl ?_
  refine xr_aload_n dX10_sinksAs_68 0 rfl ?_
  refine xb_get (v := nI (ac)) flX10_346 dX10_sinksAs_69 s_62 rfl (Eq.trans (k3 62 41 (by decide)) e_ac) ?_
  refine xr_ixor dX10_sinksAs_72 ?_
  exact xr_iret dX10_sinksAs_73 rfl rfl (⟨_, rfl, rfl, rfl, (Ke.tr (fun _ _ h => h) Ke.rf k3), rfl, hx1⟩)
set_option maxRecDepth 100000 in
set_option maxHeartbeats 4000000 in
theorem ra7_sinksAs_7 {ac : Nat} (x : Int32) {l : Launch} {G : xG} {M : xM} {J : xJ} {ra : Nat} (h_ra : ra + 4 ≤ 900) (e_ra : M 62 39 = nI ra) (e_k : M 62 40 = 7) (e_ac : M 62 41 = nI ac) : x_M l G fX10_sinksAs 3 0 0 [.ref (62), .int (7), .int (x)] x_SH M J (qKI WRA M J (fun r M2 => r = ((x ^^^ (nI (ac))) - ((2 + (nI (ac))) + 3)) ∧ M2 62 39 = nI (ra + 4))) := by
  refine xb_of pX10 (Nat.le_of_ble_eq_true rfl) rfl ?_
  refine xr_iload_n dX10_sinksAs_0 1 rfl ?_
  refine xr_iconst (v := 3) dX10_sinksAs_1 rfl ?_
  refine xr_icmp_eq (tgt := 10) dX10_sinksAs_2 rfl (fun c => absurd c (by decide)) (fun _ => ?_)
  refine xr_iload_n dX10_sinksAs_5 1 rfl ?_
  refine xr_iconst (v := 5) dX10_sinksAs_6 rfl ?_
  refine xr_icmp_ne (tgt := 25) dX10_sinksAs_7 rfl (fun _ => ?_) (fun c => absurd c (by decide))
  refine xr_iload_n dX10_sinksAs_25 1 rfl ?_
  refine xr_iconst (v := 4) dX10_sinksAs_26 rfl ?_
  refine xr_icmp_eq (tgt := 36) dX10_sinksAs_27 rfl (fun c => absurd c (by decide)) (fun _ => ?_)
  refine xr_iload_n dX10_sinksAs_30 1 rfl ?_
  refine xr_bipush (v := 7) dX10_sinksAs_31 rfl ?_
  refine xr_icmp_ne (tgt := 61) dX10_sinksAs_33 rfl (fun c => absurd (by decide) c) (fun _ => ?_)
  refine xr_aload_n dX10_sinksAs_36 0 rfl ?_
  refine xr_bipush (v := 50) dX10_sinksAs_37 rfl ?_
  refine xr_callV (As := [.int (50)]) (rest := []) mlX10_340 (g_X10_begins 50 (by omega) e_ra) dX10_sinksAs_39 s_62 rfl rfl (Nat.le_of_ble_eq_true rfl) (by decide) ⟨by decide, by decide⟩ (fun v s2 M2 J2 hq => ?_)
  obtain ⟨rfl, rfl, rfl, k3, hx1⟩ := hq
  try dsimp only [Option.toList, List.cons_append, List.nil_append]
  refine xr_aload_n dX10_sinksAs_42 0 rfl ?_
  refine xr_iconst (v := 1) dX10_sinksAs_43 rfl ?_
  refine xr_iload_n dX10_sinksAs_44 2 rfl ?_
  refine xr_callV (As := [.int (1), .int (x)]) (rest := []) mlX10_355 (ra7_sinksAs_1 x (by omega) hx1 (Eq.trans (k3 62 40 (by decide)) e_k) (Eq.trans (k3 62 41 (by decide)) e_ac)) dX10_sinksAs_45 s_62 rfl rfl (Nat.le_of_ble_eq_true rfl) (by decide) ⟨by decide, by decide⟩ (fun v s2 M6 J2 hq => ?_)
  obtain ⟨r8, rfl, rfl, rfl, k7, ⟨hr5, hx4⟩⟩ := hq
  try dsimp only [Option.toList, List.cons_append, List.nil_append]
  subst hr5
  refine xr_istore_n (ls2 := [(3, .int ((x ^^^ (nI (ac))))), (0, .ref (62)), (1, .int (7)), (2, .int (x))]) dX10_sinksAs_48 (by decide) rfl ?_
  refine xr_iload_n dX10_sinksAs_49 0 rfl ?_
  refine xr_aload_n dX10_sinksAs_50 1 rfl ?_
  refine xr_aload_n dX10_sinksAs_51 1 rfl ?_
  refine xb_get (v := 7) flX10_352 dX10_sinksAs_52 s_62 rfl (Eq.trans (k7 62 40 (by decide)) (Eq.trans (k3 62 40 (by decide)) e_k)) ?_
  refine xr_iconst (v := 2) dX10_sinksAs_55 rfl ?_
  refine xr_callV (As := [.int (7), .int (2)]) (rest := [.int ((x ^^^ (nI (ac))))]) mlX10_343 (ra7_pushesAs_7 2 (by omega) hx4 (Eq.trans (k7 62 40 (by decide)) (Eq.trans (k3 62 40 (by decide)) e_k)) (Eq.trans (k7 62 41 (by decide)) (Eq.trans (k3 62 41 (by decide)) e_ac))) dX10_sinksAs_56 s_62 rfl rfl (Nat.le_of_ble_eq_true rfl) (by decide) ⟨by decide, by decide⟩ (fun v s2 M11 J2 hq => ?_)
  obtain ⟨r13, rfl, rfl, rfl, k12, ⟨hr10, hx9⟩⟩ := hq
  try dsimp only [Option.toList, List.cons_append, List.nil_append]
  subst hr10
  refine xr_isub dX10_sinksAs_59 ?_
  exact xr_iret dX10_sinksAs_60 rfl rfl (⟨_, rfl, rfl, rfl, (Ke.tr (fun _ _ h => h) (Ke.tr (fun _ _ h => h) (Ke.tr (fun _ _ h => h) Ke.rf k3) k7) k12), rfl, hx9⟩)
set_option maxRecDepth 100000 in
set_option maxHeartbeats 4000000 in
theorem ra7_turnsAs_7 {ac : Nat} (x : Int32) {l : Launch} {G : xG} {M : xM} {J : xJ} {ra : Nat} (h_ra : ra + 8 ≤ 900) (e_ra : M 62 39 = nI ra) (e_k : M 62 40 = 7) (e_ac : M 62 41 = nI ac) : x_M l G fX10_turnsAs 4 0 0 [.ref (62), .int (7), .int (x)] x_SH M J (qKI WRA M J (fun r M2 => r = ((((x + (nI (ac))) + 3) * 2) + ((2 ^^^ (nI (ac))) - ((2 + (nI (ac))) + 3))) ∧ M2 62 39 = nI (ra + 8))) := by
  refine xb_of pX10 (Nat.le_of_ble_eq_true rfl) rfl ?_
  refine xr_iload_n dX10_turnsAs_0 1 rfl ?_
  refine xr_iconst (v := 3) dX10_turnsAs_1 rfl ?_
  refine xr_icmp_eq (tgt := 10) dX10_turnsAs_2 rfl (fun c => absurd c (by decide)) (fun _ => ?_)
  refine xr_iload_n dX10_turnsAs_5 1 rfl ?_
  refine xr_iconst (v := 5) dX10_turnsAs_6 rfl ?_
  refine xr_icmp_ne (tgt := 25) dX10_turnsAs_7 rfl (fun _ => ?_) (fun c => absurd c (by decide))
  refine xr_iload_n dX10_turnsAs_25 1 rfl ?_
  refine xr_iconst (v := 2) dX10_turnsAs_26 rfl ?_
  refine xr_icmp_ne (tgt := 44) dX10_turnsAs_27 rfl (fun _ => ?_) (fun c => absurd c (by decide))
  refine xr_iload_n dX10_turnsAs_44 1 rfl ?_
  refine xr_bipush (v := 7) dX10_turnsAs_45 rfl ?_
  refine xr_icmp_ne (tgt := 75) dX10_turnsAs_47 rfl (fun c => absurd (by decide) c) (fun _ => ?_)
  refine xr_aload_n dX10_turnsAs_50 0 rfl ?_
  refine xr_bipush (v := 80) dX10_turnsAs_51 rfl ?_
  refine xr_callV (As := [.int (80)]) (rest := []) mlX10_340 (g_X10_begins 80 (by omega) e_ra) dX10_turnsAs_53 s_62 rfl rfl (Nat.le_of_ble_eq_true rfl) (by decide) ⟨by decide, by decide⟩ (fun v s2 M2 J2 hq => ?_)
  obtain ⟨rfl, rfl, rfl, k3, hx1⟩ := hq
  try dsimp only [Option.toList, List.cons_append, List.nil_append]
  refine xr_aload_n dX10_turnsAs_56 0 rfl ?_
  refine xr_iconst (v := 4) dX10_turnsAs_57 rfl ?_
  refine xr_iload_n dX10_turnsAs_58 2 rfl ?_
  refine xr_callV (As := [.int (4), .int (x)]) (rest := []) mlX10_349 (ra7_turnsAs_4 x (by omega) hx1 (Eq.trans (k3 62 40 (by decide)) e_k) (Eq.trans (k3 62 41 (by decide)) e_ac)) dX10_turnsAs_59 s_62 rfl rfl (Nat.le_of_ble_eq_true rfl) (by decide) ⟨by decide, by decide⟩ (fun v s2 M6 J2 hq => ?_)
  obtain ⟨r8, rfl, rfl, rfl, k7, ⟨hr5, hx4⟩⟩ := hq
  try dsimp only [Option.toList, List.cons_append, List.nil_append]
  subst hr5
  refine xr_istore_n (ls2 := [(3, .int ((((x + (nI (ac))) + 3) * 2))), (0, .ref (62)), (1, .int (7)), (2, .int (x))]) dX10_turnsAs_62 (by decide) rfl ?_
  refine xr_iload_n dX10_turnsAs_63 0 rfl ?_
  refine xr_aload_n dX10_turnsAs_64 1 rfl ?_
  refine xr_aload_n dX10_turnsAs_65 1 rfl ?_
  refine xb_get (v := 7) flX10_352 dX10_turnsAs_66 s_62 rfl (Eq.trans (k7 62 40 (by decide)) (Eq.trans (k3 62 40 (by decide)) e_k)) ?_
  refine xr_iconst (v := 2) dX10_turnsAs_69 rfl ?_
  refine xr_callV (As := [.int (7), .int (2)]) (rest := [.int ((((x + (nI (ac))) + 3) * 2))]) mlX10_355 (ra7_sinksAs_7 2 (by omega) hx4 (Eq.trans (k7 62 40 (by decide)) (Eq.trans (k3 62 40 (by decide)) e_k)) (Eq.trans (k7 62 41 (by decide)) (Eq.trans (k3 62 41 (by decide)) e_ac))) dX10_turnsAs_70 s_62 rfl rfl (Nat.le_of_ble_eq_true rfl) (by decide) ⟨by decide, by decide⟩ (fun v s2 M11 J2 hq => ?_)
  obtain ⟨r13, rfl, rfl, rfl, k12, ⟨hr10, hx9⟩⟩ := hq
  try dsimp only [Option.toList, List.cons_append, List.nil_append]
  subst hr10
  refine xr_iadd dX10_turnsAs_73 ?_
  exact xr_iret dX10_turnsAs_74 rfl rfl (⟨_, rfl, rfl, rfl, (Ke.tr (fun _ _ h => h) (Ke.tr (fun _ _ h => h) (Ke.tr (fun _ _ h => h) Ke.rf k3) k7) k12), rfl, hx9⟩)
set_option maxRecDepth 100000 in
set_option maxHeartbeats 4000000 in
theorem ra7_tellsAs_4 {ac : Nat} (x : Int32) {l : Launch} {G : xG} {M : xM} {J : xJ} {ra : Nat} (h_ra : ra + 13 ≤ 900) (e_ra : M 62 39 = nI ra) (e_k : M 62 40 = 7) (e_ac : M 62 41 = nI ac) : x_M l G fX10_tellsAs 5 0 0 [.ref (62), .int (4), .int (x)] x_SH M J (qKI WRA M J (fun r M2 => r = (((((x + (nI (ac))) + 3) * 2) + ((2 ^^^ (nI (ac))) - ((2 + (nI (ac))) + 3))) - ((1 ^^^ (nI (ac))) - ((2 + (nI (ac))) + 3))) ∧ M2 62 39 = nI (ra + 13))) := by
  refine xb_of pX10 (Nat.le_of_ble_eq_true rfl) rfl ?_
  refine xr_iload_n dX10_tellsAs_0 1 rfl ?_
  refine xr_iconst (v := 5) dX10_tellsAs_1 rfl ?_
  refine xr_icmp_ne (tgt := 20) dX10_tellsAs_2 rfl (fun _ => ?_) (fun c => absurd c (by decide))
  refine xr_iload_n dX10_tellsAs_20 1 rfl ?_
  refine xr_bipush (v := 7) dX10_tellsAs_21 rfl ?_
  refine xr_icmp_ne (tgt := 41) dX10_tellsAs_23 rfl (fun _ => ?_) (fun c => absurd c (by decide))
  refine xr_aload_n dX10_tellsAs_41 0 rfl ?_
  refine xr_iconst (v := 2) dX10_tellsAs_42 rfl ?_
  refine xr_callV (As := [.int (2)]) (rest := []) mlX10_340 (g_X10_begins 2 (by omega) e_ra) dX10_tellsAs_43 s_62 rfl rfl (Nat.le_of_ble_eq_true rfl) (by decide) ⟨by decide, by decide⟩ (fun v s2 M2 J2 hq => ?_)
  obtain ⟨rfl, rfl, rfl, k3, hx1⟩ := hq
  try dsimp only [Option.toList, List.cons_append, List.nil_append]
  refine xr_aload_n dX10_tellsAs_46 0 rfl ?_
  refine xr_aload_n dX10_tellsAs_47 0 rfl ?_
  refine xb_get (v := 7) flX10_352 dX10_tellsAs_48 s_62 rfl (Eq.trans (k3 62 40 (by decide)) e_k) ?_
  refine xr_iload_n dX10_tellsAs_51 2 rfl ?_
  refine xr_callV (As := [.int (7), .int (x)]) (rest := []) mlX10_349 (ra7_turnsAs_7 x (by omega) hx1 (Eq.trans (k3 62 40 (by decide)) e_k) (Eq.trans (k3 62 41 (by decide)) e_ac)) dX10_tellsAs_52 s_62 rfl rfl (Nat.le_of_ble_eq_true rfl) (by decide) ⟨by decide, by decide⟩ (fun v s2 M6 J2 hq => ?_)
  obtain ⟨r8, rfl, rfl, rfl, k7, ⟨hr5, hx4⟩⟩ := hq
  try dsimp only [Option.toList, List.cons_append, List.nil_append]
  subst hr5
  refine xr_istore_n (ls2 := [(3, .int (((((x + (nI (ac))) + 3) * 2) + ((2 ^^^ (nI (ac))) - ((2 + (nI (ac))) + 3))))), (0, .ref (62)), (1, .int (4)), (2, .int (x))]) dX10_tellsAs_55 (by decide) rfl ?_
  refine xr_iload_n dX10_tellsAs_56 0 rfl ?_
  refine xr_aload_n dX10_tellsAs_57 1 rfl ?_
  refine xr_aload_n dX10_tellsAs_58 1 rfl ?_
  refine xb_get (v := 7) flX10_352 dX10_tellsAs_59 s_62 rfl (Eq.trans (k7 62 40 (by decide)) (Eq.trans (k3 62 40 (by decide)) e_k)) ?_
  refine xr_iconst (v := 1) dX10_tellsAs_62 rfl ?_
  refine xr_callV (As := [.int (7), .int (1)]) (rest := [.int (((((x + (nI (ac))) + 3) * 2) + ((2 ^^^ (nI (ac))) - ((2 + (nI (ac))) + 3))))]) mlX10_355 (ra7_sinksAs_7 1 (by omega) hx4 (Eq.trans (k7 62 40 (by decide)) (Eq.trans (k3 62 40 (by decide)) e_k)) (Eq.trans (k7 62 41 (by decide)) (Eq.trans (k3 62 41 (by decide)) e_ac))) dX10_tellsAs_63 s_62 rfl rfl (Nat.le_of_ble_eq_true rfl) (by decide) ⟨by decide, by decide⟩ (fun v s2 M11 J2 hq => ?_)
  obtain ⟨r13, rfl, rfl, rfl, k12, ⟨hr10, hx9⟩⟩ := hq
  try dsimp only [Option.toList, List.cons_append, List.nil_append]
  subst hr10
  refine xr_isub dX10_tellsAs_66 ?_
  exact xr_iret dX10_tellsAs_67 rfl rfl (⟨_, rfl, rfl, rfl, (Ke.tr (fun _ _ h => h) (Ke.tr (fun _ _ h => h) (Ke.tr (fun _ _ h => h) Ke.rf k3) k7) k12), rfl, hx9⟩)
set_option maxRecDepth 100000 in
set_option maxHeartbeats 4000000 in
theorem ra7_tellsAs_7 {ac : Nat} (x : Int32) {l : Launch} {G : xG} {M : xM} {J : xJ} {ra : Nat} (h_ra : ra + 14 ≤ 900) (e_ra : M 62 39 = nI ra) (e_k : M 62 40 = 7) (e_ac : M 62 41 = nI ac) : x_M l G fX10_tellsAs 6 0 0 [.ref (62), .int (7), .int (x)] x_SH M J (qKI WRA M J (fun r M2 => r = ((((((x + (nI (ac))) + 3) * 2) + ((2 ^^^ (nI (ac))) - ((2 + (nI (ac))) + 3))) - ((1 ^^^ (nI (ac))) - ((2 + (nI (ac))) + 3))) - 1) ∧ M2 62 39 = nI (ra + 14))) := by
  refine xb_of pX10 (Nat.le_of_ble_eq_true rfl) rfl ?_
  refine xr_iload_n dX10_tellsAs_0 1 rfl ?_
  refine xr_iconst (v := 5) dX10_tellsAs_1 rfl ?_
  refine xr_icmp_ne (tgt := 20) dX10_tellsAs_2 rfl (fun _ => ?_) (fun c => absurd c (by decide))
  refine xr_iload_n dX10_tellsAs_20 1 rfl ?_
  refine xr_bipush (v := 7) dX10_tellsAs_21 rfl ?_
  refine xr_icmp_ne (tgt := 41) dX10_tellsAs_23 rfl (fun c => absurd (by decide) c) (fun _ => ?_)
  refine xr_aload_n dX10_tellsAs_26 0 rfl ?_
  refine xr_bipush (v := 81) dX10_tellsAs_27 rfl ?_
  refine xr_callV (As := [.int (81)]) (rest := []) mlX10_340 (g_X10_begins 81 (by omega) e_ra) dX10_tellsAs_29 s_62 rfl rfl (Nat.le_of_ble_eq_true rfl) (by decide) ⟨by decide, by decide⟩ (fun v s2 M2 J2 hq => ?_)
  obtain ⟨rfl, rfl, rfl, k3, hx1⟩ := hq
  try dsimp only [Option.toList, List.cons_append, List.nil_append]
  refine xr_aload_n dX10_tellsAs_32 0 rfl ?_
  refine xr_iconst (v := 4) dX10_tellsAs_33 rfl ?_
  refine xr_iload_n dX10_tellsAs_34 2 rfl ?_
  refine xr_callV (As := [.int (4), .int (x)]) (rest := []) mlX10_358 (ra7_tellsAs_4 x (by omega) hx1 (Eq.trans (k3 62 40 (by decide)) e_k) (Eq.trans (k3 62 41 (by decide)) e_ac)) dX10_tellsAs_35 s_62 rfl rfl (Nat.le_of_ble_eq_true rfl) (by decide) ⟨by decide, by decide⟩ (fun v s2 M6 J2 hq => ?_)
  obtain ⟨r8, rfl, rfl, rfl, k7, ⟨hr5, hx4⟩⟩ := hq
  try dsimp only [Option.toList, List.cons_append, List.nil_append]
  subst hr5
  refine xr_iconst (v := 1) dX10_tellsAs_38 rfl ?_
  refine xr_isub dX10_tellsAs_39 ?_
  exact xr_iret dX10_tellsAs_40 rfl rfl (⟨_, rfl, rfl, rfl, (Ke.tr (fun _ _ h => h) (Ke.tr (fun _ _ h => h) Ke.rf k3) k7), rfl, hx4⟩)
