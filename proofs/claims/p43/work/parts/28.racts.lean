theorem dX10_begins_0 : decode cX10_begins 0 = .ok (.aload_n 0, 1) := by decide +kernel
theorem dX10_begins_1 : decode cX10_begins 1 = .ok (.getfield 337, 3) := by decide +kernel
theorem dX10_begins_4 : decode cX10_begins 4 = .ok (.bipush 24, 2) := by decide +kernel
theorem dX10_begins_6 : decode cX10_begins 6 = .ok (.if_icmp .ge 13, 3) := by decide +kernel
theorem dX10_begins_19 : decode cX10_begins 19 = .ok (.aload_n 0, 1) := by decide +kernel
theorem dX10_begins_20 : decode cX10_begins 20 = .ok (.dup, 1) := by decide +kernel
theorem dX10_begins_21 : decode cX10_begins 21 = .ok (.getfield 337, 3) := by decide +kernel
theorem dX10_begins_24 : decode cX10_begins 24 = .ok (.iconst 1, 1) := by decide +kernel
theorem dX10_begins_25 : decode cX10_begins 25 = .ok (.iadd, 1) := by decide +kernel
theorem dX10_begins_26 : decode cX10_begins 26 = .ok (.putfield 337, 3) := by decide +kernel
theorem dX10_begins_29 : decode cX10_begins 29 = .ok (.return_, 1) := by decide +kernel
theorem dX10_begins_9 : decode cX10_begins 9 = .ok (.aload_n 0, 1) := by decide +kernel
theorem dX10_begins_10 : decode cX10_begins 10 = .ok (.getfield 72, 3) := by decide +kernel
theorem dX10_begins_13 : decode cX10_begins 13 = .ok (.aload_n 0, 1) := by decide +kernel
theorem dX10_begins_14 : decode cX10_begins 14 = .ok (.getfield 337, 3) := by decide +kernel
theorem dX10_begins_17 : decode cX10_begins 17 = .ok (.iload_n 1, 1) := by decide +kernel
theorem dX10_begins_18 : decode cX10_begins 18 = .ok (.iastore, 1) := by decide +kernel
theorem dX10_pushesAs_0 : decode cX10_pushesAs 0 = .ok (.iload_n 1, 1) := by decide +kernel
theorem dX10_pushesAs_1 : decode cX10_pushesAs 1 = .ok (.iconst 1, 1) := by decide +kernel
theorem dX10_pushesAs_2 : decode cX10_pushesAs 2 = .ok (.if_icmp .eq 14, 3) := by decide +kernel
theorem dX10_pushesAs_5 : decode cX10_pushesAs 5 = .ok (.iload_n 1, 1) := by decide +kernel
theorem dX10_pushesAs_6 : decode cX10_pushesAs 6 = .ok (.iconst 4, 1) := by decide +kernel
theorem dX10_pushesAs_7 : decode cX10_pushesAs 7 = .ok (.if_icmp .eq 9, 3) := by decide +kernel
theorem dX10_pushesAs_10 : decode cX10_pushesAs 10 = .ok (.iload_n 1, 1) := by decide +kernel
theorem dX10_pushesAs_11 : decode cX10_pushesAs 11 = .ok (.bipush 7, 2) := by decide +kernel
theorem dX10_pushesAs_13 : decode cX10_pushesAs 13 = .ok (.if_icmp .ne 18, 3) := by decide +kernel
theorem dX10_pushesAs_31 : decode cX10_pushesAs 31 = .ok (.iload_n 1, 1) := by decide +kernel
theorem dX10_pushesAs_32 : decode cX10_pushesAs 32 = .ok (.bipush 6, 2) := by decide +kernel
theorem dX10_pushesAs_34 : decode cX10_pushesAs 34 = .ok (.if_icmp .ne 18, 3) := by decide +kernel
theorem dX10_pushesAs_52 : decode cX10_pushesAs 52 = .ok (.aload_n 0, 1) := by decide +kernel
theorem dX10_pushesAs_53 : decode cX10_pushesAs 53 = .ok (.iconst 1, 1) := by decide +kernel
theorem dX10_pushesAs_54 : decode cX10_pushesAs 54 = .ok (.invokevirtual 340, 3) := by decide +kernel
theorem dX10_pushesAs_57 : decode cX10_pushesAs 57 = .ok (.iload_n 2, 1) := by decide +kernel
theorem dX10_pushesAs_58 : decode cX10_pushesAs 58 = .ok (.aload_n 0, 1) := by decide +kernel
theorem dX10_pushesAs_59 : decode cX10_pushesAs 59 = .ok (.getfield 346, 3) := by decide +kernel
theorem dX10_pushesAs_62 : decode cX10_pushesAs 62 = .ok (.iadd, 1) := by decide +kernel
theorem dX10_pushesAs_63 : decode cX10_pushesAs 63 = .ok (.ireturn, 1) := by decide +kernel
theorem dX10_turnsAs_0 : decode cX10_turnsAs 0 = .ok (.iload_n 1, 1) := by decide +kernel
theorem dX10_turnsAs_1 : decode cX10_turnsAs 1 = .ok (.iconst 3, 1) := by decide +kernel
theorem dX10_turnsAs_2 : decode cX10_turnsAs 2 = .ok (.if_icmp .eq 8, 3) := by decide +kernel
theorem dX10_turnsAs_5 : decode cX10_turnsAs 5 = .ok (.iload_n 1, 1) := by decide +kernel
theorem dX10_turnsAs_6 : decode cX10_turnsAs 6 = .ok (.iconst 5, 1) := by decide +kernel
theorem dX10_turnsAs_7 : decode cX10_turnsAs 7 = .ok (.if_icmp .ne 18, 3) := by decide +kernel
theorem dX10_turnsAs_25 : decode cX10_turnsAs 25 = .ok (.iload_n 1, 1) := by decide +kernel
theorem dX10_turnsAs_26 : decode cX10_turnsAs 26 = .ok (.iconst 2, 1) := by decide +kernel
theorem dX10_turnsAs_27 : decode cX10_turnsAs 27 = .ok (.if_icmp .ne 17, 3) := by decide +kernel
theorem dX10_turnsAs_44 : decode cX10_turnsAs 44 = .ok (.iload_n 1, 1) := by decide +kernel
theorem dX10_turnsAs_45 : decode cX10_turnsAs 45 = .ok (.bipush 7, 2) := by decide +kernel
theorem dX10_turnsAs_47 : decode cX10_turnsAs 47 = .ok (.if_icmp .ne 28, 3) := by decide +kernel
theorem dX10_turnsAs_75 : decode cX10_turnsAs 75 = .ok (.aload_n 0, 1) := by decide +kernel
theorem dX10_turnsAs_76 : decode cX10_turnsAs 76 = .ok (.bipush 10, 2) := by decide +kernel
theorem dX10_turnsAs_78 : decode cX10_turnsAs 78 = .ok (.invokevirtual 340, 3) := by decide +kernel
theorem dX10_turnsAs_81 : decode cX10_turnsAs 81 = .ok (.aload_n 0, 1) := by decide +kernel
theorem dX10_turnsAs_82 : decode cX10_turnsAs 82 = .ok (.aload_n 0, 1) := by decide +kernel
theorem dX10_turnsAs_83 : decode cX10_turnsAs 83 = .ok (.getfield 352, 3) := by decide +kernel
theorem dX10_turnsAs_86 : decode cX10_turnsAs 86 = .ok (.iload_n 2, 1) := by decide +kernel
theorem dX10_turnsAs_87 : decode cX10_turnsAs 87 = .ok (.invokevirtual 343, 3) := by decide +kernel
theorem dX10_turnsAs_90 : decode cX10_turnsAs 90 = .ok (.iconst 2, 1) := by decide +kernel
theorem dX10_turnsAs_91 : decode cX10_turnsAs 91 = .ok (.imul, 1) := by decide +kernel
theorem dX10_turnsAs_92 : decode cX10_turnsAs 92 = .ok (.ireturn, 1) := by decide +kernel
theorem dX10_sinksAs_0 : decode cX10_sinksAs 0 = .ok (.iload_n 1, 1) := by decide +kernel
theorem dX10_sinksAs_1 : decode cX10_sinksAs 1 = .ok (.iconst 3, 1) := by decide +kernel
theorem dX10_sinksAs_2 : decode cX10_sinksAs 2 = .ok (.if_icmp .eq 8, 3) := by decide +kernel
theorem dX10_sinksAs_5 : decode cX10_sinksAs 5 = .ok (.iload_n 1, 1) := by decide +kernel
theorem dX10_sinksAs_6 : decode cX10_sinksAs 6 = .ok (.iconst 5, 1) := by decide +kernel
theorem dX10_sinksAs_7 : decode cX10_sinksAs 7 = .ok (.if_icmp .ne 18, 3) := by decide +kernel
theorem dX10_sinksAs_25 : decode cX10_sinksAs 25 = .ok (.iload_n 1, 1) := by decide +kernel
theorem dX10_sinksAs_26 : decode cX10_sinksAs 26 = .ok (.iconst 4, 1) := by decide +kernel
theorem dX10_sinksAs_27 : decode cX10_sinksAs 27 = .ok (.if_icmp .eq 9, 3) := by decide +kernel
theorem dX10_sinksAs_30 : decode cX10_sinksAs 30 = .ok (.iload_n 1, 1) := by decide +kernel
theorem dX10_sinksAs_31 : decode cX10_sinksAs 31 = .ok (.bipush 7, 2) := by decide +kernel
theorem dX10_sinksAs_33 : decode cX10_sinksAs 33 = .ok (.if_icmp .ne 28, 3) := by decide +kernel
theorem dX10_sinksAs_61 : decode cX10_sinksAs 61 = .ok (.aload_n 0, 1) := by decide +kernel
theorem dX10_sinksAs_62 : decode cX10_sinksAs 62 = .ok (.bipush 11, 2) := by decide +kernel
theorem dX10_sinksAs_64 : decode cX10_sinksAs 64 = .ok (.invokevirtual 340, 3) := by decide +kernel
theorem dX10_sinksAs_67 : decode cX10_sinksAs 67 = .ok (.iload_n 2, 1) := by decide +kernel
theorem dX10_sinksAs_68 : decode cX10_sinksAs 68 = .ok (.aload_n 0, 1) := by decide +kernel
theorem dX10_sinksAs_69 : decode cX10_sinksAs 69 = .ok (.getfield 346, 3) := by decide +kernel
theorem dX10_sinksAs_72 : decode cX10_sinksAs 72 = .ok (.ixor, 1) := by decide +kernel
theorem dX10_sinksAs_73 : decode cX10_sinksAs 73 = .ok (.ireturn, 1) := by decide +kernel
theorem dX10_tellsAs_0 : decode cX10_tellsAs 0 = .ok (.iload_n 1, 1) := by decide +kernel
theorem dX10_tellsAs_1 : decode cX10_tellsAs 1 = .ok (.iconst 5, 1) := by decide +kernel
theorem dX10_tellsAs_2 : decode cX10_tellsAs 2 = .ok (.if_icmp .ne 18, 3) := by decide +kernel
theorem dX10_tellsAs_20 : decode cX10_tellsAs 20 = .ok (.iload_n 1, 1) := by decide +kernel
theorem dX10_tellsAs_21 : decode cX10_tellsAs 21 = .ok (.bipush 7, 2) := by decide +kernel
theorem dX10_tellsAs_23 : decode cX10_tellsAs 23 = .ok (.if_icmp .ne 18, 3) := by decide +kernel
theorem dX10_tellsAs_41 : decode cX10_tellsAs 41 = .ok (.aload_n 0, 1) := by decide +kernel
theorem dX10_tellsAs_42 : decode cX10_tellsAs 42 = .ok (.iconst 2, 1) := by decide +kernel
theorem dX10_tellsAs_43 : decode cX10_tellsAs 43 = .ok (.invokevirtual 340, 3) := by decide +kernel
theorem dX10_tellsAs_46 : decode cX10_tellsAs 46 = .ok (.aload_n 0, 1) := by decide +kernel
theorem dX10_tellsAs_47 : decode cX10_tellsAs 47 = .ok (.aload_n 0, 1) := by decide +kernel
theorem dX10_tellsAs_48 : decode cX10_tellsAs 48 = .ok (.getfield 352, 3) := by decide +kernel
theorem dX10_tellsAs_51 : decode cX10_tellsAs 51 = .ok (.iload_n 2, 1) := by decide +kernel
theorem dX10_tellsAs_52 : decode cX10_tellsAs 52 = .ok (.invokevirtual 349, 3) := by decide +kernel
theorem dX10_tellsAs_55 : decode cX10_tellsAs 55 = .ok (.istore_n 3, 1) := by decide +kernel
theorem dX10_tellsAs_56 : decode cX10_tellsAs 56 = .ok (.iload_n 3, 1) := by decide +kernel
theorem dX10_tellsAs_57 : decode cX10_tellsAs 57 = .ok (.aload_n 0, 1) := by decide +kernel
theorem dX10_tellsAs_58 : decode cX10_tellsAs 58 = .ok (.aload_n 0, 1) := by decide +kernel
theorem dX10_tellsAs_59 : decode cX10_tellsAs 59 = .ok (.getfield 352, 3) := by decide +kernel
theorem dX10_tellsAs_62 : decode cX10_tellsAs 62 = .ok (.iconst 1, 1) := by decide +kernel
theorem dX10_tellsAs_63 : decode cX10_tellsAs 63 = .ok (.invokevirtual 355, 3) := by decide +kernel
theorem dX10_tellsAs_66 : decode cX10_tellsAs 66 = .ok (.isub, 1) := by decide +kernel
theorem dX10_tellsAs_67 : decode cX10_tellsAs 67 = .ok (.ireturn, 1) := by decide +kernel
theorem dX10_pushesAs_16 : decode cX10_pushesAs 16 = .ok (.aload_n 0, 1) := by decide +kernel
theorem dX10_pushesAs_17 : decode cX10_pushesAs 17 = .ok (.bipush 20, 2) := by decide +kernel
theorem dX10_pushesAs_19 : decode cX10_pushesAs 19 = .ok (.invokevirtual 340, 3) := by decide +kernel
theorem dX10_pushesAs_22 : decode cX10_pushesAs 22 = .ok (.aload_n 0, 1) := by decide +kernel
theorem dX10_pushesAs_23 : decode cX10_pushesAs 23 = .ok (.iconst 0, 1) := by decide +kernel
theorem dX10_pushesAs_24 : decode cX10_pushesAs 24 = .ok (.iload_n 2, 1) := by decide +kernel
theorem dX10_pushesAs_25 : decode cX10_pushesAs 25 = .ok (.invokevirtual 343, 3) := by decide +kernel
theorem dX10_pushesAs_28 : decode cX10_pushesAs 28 = .ok (.iconst 3, 1) := by decide +kernel
theorem dX10_pushesAs_29 : decode cX10_pushesAs 29 = .ok (.iadd, 1) := by decide +kernel
theorem dX10_pushesAs_30 : decode cX10_pushesAs 30 = .ok (.ireturn, 1) := by decide +kernel
theorem dX10_turnsAs_30 : decode cX10_turnsAs 30 = .ok (.aload_n 0, 1) := by decide +kernel
theorem dX10_turnsAs_31 : decode cX10_turnsAs 31 = .ok (.bipush 30, 2) := by decide +kernel
theorem dX10_turnsAs_33 : decode cX10_turnsAs 33 = .ok (.invokevirtual 340, 3) := by decide +kernel
theorem dX10_turnsAs_36 : decode cX10_turnsAs 36 = .ok (.aload_n 0, 1) := by decide +kernel
theorem dX10_turnsAs_37 : decode cX10_turnsAs 37 = .ok (.iconst 0, 1) := by decide +kernel
theorem dX10_turnsAs_38 : decode cX10_turnsAs 38 = .ok (.iload_n 2, 1) := by decide +kernel
theorem dX10_turnsAs_39 : decode cX10_turnsAs 39 = .ok (.invokevirtual 349, 3) := by decide +kernel
theorem dX10_turnsAs_42 : decode cX10_turnsAs 42 = .ok (.ineg, 1) := by decide +kernel
theorem dX10_turnsAs_43 : decode cX10_turnsAs 43 = .ok (.ireturn, 1) := by decide +kernel
theorem dX10_turnsAs_10 : decode cX10_turnsAs 10 = .ok (.aload_n 0, 1) := by decide +kernel
theorem dX10_turnsAs_11 : decode cX10_turnsAs 11 = .ok (.bipush 41, 2) := by decide +kernel
theorem dX10_turnsAs_13 : decode cX10_turnsAs 13 = .ok (.invokevirtual 340, 3) := by decide +kernel
theorem dX10_turnsAs_16 : decode cX10_turnsAs 16 = .ok (.aload_n 0, 1) := by decide +kernel
theorem dX10_turnsAs_17 : decode cX10_turnsAs 17 = .ok (.iconst 2, 1) := by decide +kernel
theorem dX10_turnsAs_18 : decode cX10_turnsAs 18 = .ok (.iload_n 2, 1) := by decide +kernel
theorem dX10_turnsAs_19 : decode cX10_turnsAs 19 = .ok (.iconst 1, 1) := by decide +kernel
theorem dX10_turnsAs_20 : decode cX10_turnsAs 20 = .ok (.iadd, 1) := by decide +kernel
theorem dX10_turnsAs_21 : decode cX10_turnsAs 21 = .ok (.invokevirtual 349, 3) := by decide +kernel
theorem dX10_turnsAs_24 : decode cX10_turnsAs 24 = .ok (.ireturn, 1) := by decide +kernel
theorem dX10_sinksAs_10 : decode cX10_sinksAs 10 = .ok (.aload_n 0, 1) := by decide +kernel
theorem dX10_sinksAs_11 : decode cX10_sinksAs 11 = .ok (.bipush 40, 2) := by decide +kernel
theorem dX10_sinksAs_13 : decode cX10_sinksAs 13 = .ok (.invokevirtual 340, 3) := by decide +kernel
theorem dX10_sinksAs_16 : decode cX10_sinksAs 16 = .ok (.aload_n 0, 1) := by decide +kernel
theorem dX10_sinksAs_17 : decode cX10_sinksAs 17 = .ok (.iconst 2, 1) := by decide +kernel
theorem dX10_sinksAs_18 : decode cX10_sinksAs 18 = .ok (.iload_n 2, 1) := by decide +kernel
theorem dX10_sinksAs_19 : decode cX10_sinksAs 19 = .ok (.invokevirtual 355, 3) := by decide +kernel
theorem dX10_sinksAs_22 : decode cX10_sinksAs 22 = .ok (.iconst 3, 1) := by decide +kernel
theorem dX10_sinksAs_23 : decode cX10_sinksAs 23 = .ok (.imul, 1) := by decide +kernel
theorem dX10_sinksAs_24 : decode cX10_sinksAs 24 = .ok (.ireturn, 1) := by decide +kernel
theorem dX10_sinksAs_36 : decode cX10_sinksAs 36 = .ok (.aload_n 0, 1) := by decide +kernel
theorem dX10_sinksAs_37 : decode cX10_sinksAs 37 = .ok (.bipush 50, 2) := by decide +kernel
theorem dX10_sinksAs_39 : decode cX10_sinksAs 39 = .ok (.invokevirtual 340, 3) := by decide +kernel
theorem dX10_sinksAs_42 : decode cX10_sinksAs 42 = .ok (.aload_n 0, 1) := by decide +kernel
theorem dX10_sinksAs_43 : decode cX10_sinksAs 43 = .ok (.iconst 1, 1) := by decide +kernel
theorem dX10_sinksAs_44 : decode cX10_sinksAs 44 = .ok (.iload_n 2, 1) := by decide +kernel
theorem dX10_sinksAs_45 : decode cX10_sinksAs 45 = .ok (.invokevirtual 355, 3) := by decide +kernel
theorem dX10_sinksAs_48 : decode cX10_sinksAs 48 = .ok (.istore_n 3, 1) := by decide +kernel
theorem dX10_sinksAs_49 : decode cX10_sinksAs 49 = .ok (.iload_n 3, 1) := by decide +kernel
theorem dX10_sinksAs_50 : decode cX10_sinksAs 50 = .ok (.aload_n 0, 1) := by decide +kernel
theorem dX10_sinksAs_51 : decode cX10_sinksAs 51 = .ok (.aload_n 0, 1) := by decide +kernel
theorem dX10_sinksAs_52 : decode cX10_sinksAs 52 = .ok (.getfield 352, 3) := by decide +kernel
theorem dX10_sinksAs_55 : decode cX10_sinksAs 55 = .ok (.iconst 2, 1) := by decide +kernel
theorem dX10_sinksAs_56 : decode cX10_sinksAs 56 = .ok (.invokevirtual 343, 3) := by decide +kernel
theorem dX10_sinksAs_59 : decode cX10_sinksAs 59 = .ok (.isub, 1) := by decide +kernel
theorem dX10_sinksAs_60 : decode cX10_sinksAs 60 = .ok (.ireturn, 1) := by decide +kernel
theorem dX10_tellsAs_5 : decode cX10_tellsAs 5 = .ok (.aload_n 0, 1) := by decide +kernel
theorem dX10_tellsAs_6 : decode cX10_tellsAs 6 = .ok (.bipush 60, 2) := by decide +kernel
theorem dX10_tellsAs_8 : decode cX10_tellsAs 8 = .ok (.invokevirtual 340, 3) := by decide +kernel
theorem dX10_tellsAs_11 : decode cX10_tellsAs 11 = .ok (.aload_n 0, 1) := by decide +kernel
theorem dX10_tellsAs_12 : decode cX10_tellsAs 12 = .ok (.iconst 3, 1) := by decide +kernel
theorem dX10_tellsAs_13 : decode cX10_tellsAs 13 = .ok (.iload_n 2, 1) := by decide +kernel
theorem dX10_tellsAs_14 : decode cX10_tellsAs 14 = .ok (.invokevirtual 358, 3) := by decide +kernel
theorem dX10_tellsAs_17 : decode cX10_tellsAs 17 = .ok (.iconst 5, 1) := by decide +kernel
theorem dX10_tellsAs_18 : decode cX10_tellsAs 18 = .ok (.ixor, 1) := by decide +kernel
theorem dX10_tellsAs_19 : decode cX10_tellsAs 19 = .ok (.ireturn, 1) := by decide +kernel
theorem dX10_pushesAs_37 : decode cX10_pushesAs 37 = .ok (.aload_n 0, 1) := by decide +kernel
theorem dX10_pushesAs_38 : decode cX10_pushesAs 38 = .ok (.bipush 70, 2) := by decide +kernel
theorem dX10_pushesAs_40 : decode cX10_pushesAs 40 = .ok (.invokevirtual 340, 3) := by decide +kernel
theorem dX10_pushesAs_43 : decode cX10_pushesAs 43 = .ok (.aload_n 0, 1) := by decide +kernel
theorem dX10_pushesAs_44 : decode cX10_pushesAs 44 = .ok (.iconst 0, 1) := by decide +kernel
theorem dX10_pushesAs_45 : decode cX10_pushesAs 45 = .ok (.iload_n 2, 1) := by decide +kernel
theorem dX10_pushesAs_46 : decode cX10_pushesAs 46 = .ok (.invokevirtual 343, 3) := by decide +kernel
theorem dX10_pushesAs_49 : decode cX10_pushesAs 49 = .ok (.iconst 2, 1) := by decide +kernel
theorem dX10_pushesAs_50 : decode cX10_pushesAs 50 = .ok (.imul, 1) := by decide +kernel
theorem dX10_pushesAs_51 : decode cX10_pushesAs 51 = .ok (.ireturn, 1) := by decide +kernel
theorem dX10_turnsAs_50 : decode cX10_turnsAs 50 = .ok (.aload_n 0, 1) := by decide +kernel
theorem dX10_turnsAs_51 : decode cX10_turnsAs 51 = .ok (.bipush 80, 2) := by decide +kernel
theorem dX10_turnsAs_53 : decode cX10_turnsAs 53 = .ok (.invokevirtual 340, 3) := by decide +kernel
theorem dX10_turnsAs_56 : decode cX10_turnsAs 56 = .ok (.aload_n 0, 1) := by decide +kernel
theorem dX10_turnsAs_57 : decode cX10_turnsAs 57 = .ok (.iconst 4, 1) := by decide +kernel
theorem dX10_turnsAs_58 : decode cX10_turnsAs 58 = .ok (.iload_n 2, 1) := by decide +kernel
theorem dX10_turnsAs_59 : decode cX10_turnsAs 59 = .ok (.invokevirtual 349, 3) := by decide +kernel
theorem dX10_turnsAs_62 : decode cX10_turnsAs 62 = .ok (.istore_n 3, 1) := by decide +kernel
theorem dX10_turnsAs_63 : decode cX10_turnsAs 63 = .ok (.iload_n 3, 1) := by decide +kernel
theorem dX10_turnsAs_64 : decode cX10_turnsAs 64 = .ok (.aload_n 0, 1) := by decide +kernel
theorem dX10_turnsAs_65 : decode cX10_turnsAs 65 = .ok (.aload_n 0, 1) := by decide +kernel
theorem dX10_turnsAs_66 : decode cX10_turnsAs 66 = .ok (.getfield 352, 3) := by decide +kernel
theorem dX10_turnsAs_69 : decode cX10_turnsAs 69 = .ok (.iconst 2, 1) := by decide +kernel
theorem dX10_turnsAs_70 : decode cX10_turnsAs 70 = .ok (.invokevirtual 355, 3) := by decide +kernel
theorem dX10_turnsAs_73 : decode cX10_turnsAs 73 = .ok (.iadd, 1) := by decide +kernel
theorem dX10_turnsAs_74 : decode cX10_turnsAs 74 = .ok (.ireturn, 1) := by decide +kernel
theorem dX10_tellsAs_26 : decode cX10_tellsAs 26 = .ok (.aload_n 0, 1) := by decide +kernel
theorem dX10_tellsAs_27 : decode cX10_tellsAs 27 = .ok (.bipush 81, 2) := by decide +kernel
theorem dX10_tellsAs_29 : decode cX10_tellsAs 29 = .ok (.invokevirtual 340, 3) := by decide +kernel
theorem dX10_tellsAs_32 : decode cX10_tellsAs 32 = .ok (.aload_n 0, 1) := by decide +kernel
theorem dX10_tellsAs_33 : decode cX10_tellsAs 33 = .ok (.iconst 4, 1) := by decide +kernel
theorem dX10_tellsAs_34 : decode cX10_tellsAs 34 = .ok (.iload_n 2, 1) := by decide +kernel
theorem dX10_tellsAs_35 : decode cX10_tellsAs 35 = .ok (.invokevirtual 358, 3) := by decide +kernel
theorem dX10_tellsAs_38 : decode cX10_tellsAs 38 = .ok (.iconst 1, 1) := by decide +kernel
theorem dX10_tellsAs_39 : decode cX10_tellsAs 39 = .ok (.isub, 1) := by decide +kernel
theorem dX10_tellsAs_40 : decode cX10_tellsAs 40 = .ok (.ireturn, 1) := by decide +kernel
abbrev WRA (p k : Nat) : Prop := (p = 62 ∧ k = 39) ∨ (p = 82)
abbrev WRC (p k : Nat) : Prop := (p = 62 ∧ k = 39) ∨ (p = 62 ∧ k = 40) ∨ (p = 62 ∧ k = 41) ∨ (p = 82)