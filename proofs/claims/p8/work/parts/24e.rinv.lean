theorem dX10_lasts_0 : decode cX10_lasts 0 = .ok (.aload_n 0, 1) := by decide +kernel
theorem dX10_lasts_1 : decode cX10_lasts 1 = .ok (.aload_n 0, 1) := by decide +kernel
theorem dX10_lasts_2 : decode cX10_lasts 2 = .ok (.invokevirtual 246, 3) := by decide +kernel
theorem dX10_lasts_5 : decode cX10_lasts 5 = .ok (.invokevirtual 267, 3) := by decide +kernel
theorem dX10_lasts_8 : decode cX10_lasts 8 = .ok (.ireturn, 1) := by decide +kernel
theorem dX10_rescue_61 : decode cX10_rescue 61 = .ok (.iload 4, 2) := by decide +kernel
theorem dX10_rescue_63 : decode cX10_rescue 63 = .ok (.bipush 100, 2) := by decide +kernel
theorem dX10_rescue_65 : decode cX10_rescue 65 = .ok (.if_icmp .ge 31, 3) := by decide +kernel
theorem dX10_rescue_68 : decode cX10_rescue 68 = .ok (.aload_n 0, 1) := by decide +kernel
theorem dX10_rescue_69 : decode cX10_rescue 69 = .ok (.iload_n 1, 1) := by decide +kernel
theorem dX10_rescue_70 : decode cX10_rescue 70 = .ok (.iload 4, 2) := by decide +kernel
theorem dX10_rescue_72 : decode cX10_rescue 72 = .ok (.iload_n 2, 1) := by decide +kernel
theorem dX10_rescue_73 : decode cX10_rescue 73 = .ok (.bipush 100, 2) := by decide +kernel
theorem dX10_rescue_75 : decode cX10_rescue 75 = .ok (.irem, 1) := by decide +kernel
theorem dX10_rescue_76 : decode cX10_rescue 76 = .ok (.iload_n 2, 1) := by decide +kernel
theorem dX10_rescue_77 : decode cX10_rescue 77 = .ok (.bipush 100, 2) := by decide +kernel
theorem dX10_rescue_79 : decode cX10_rescue 79 = .ok (.idiv, 1) := by decide +kernel
theorem dX10_rescue_80 : decode cX10_rescue 80 = .ok (.invokevirtual 281, 3) := by decide +kernel
theorem dX10_rescue_83 : decode cX10_rescue 83 = .ok (.iload_n 3, 1) := by decide +kernel
theorem dX10_rescue_84 : decode cX10_rescue 84 = .ok (.if_icmp .le 6, 3) := by decide +kernel
theorem dX10_rescue_90 : decode cX10_rescue 90 = .ok (.iinc 4 1, 3) := by decide +kernel
theorem dX10_rescue_93 : decode cX10_rescue 93 = .ok (.goto (-32), 3) := by decide +kernel
theorem dX10_rescue_87 : decode cX10_rescue 87 = .ok (.iload 4, 2) := by decide +kernel
theorem dX10_rescue_89 : decode cX10_rescue 89 = .ok (.ireturn, 1) := by decide +kernel
theorem dX10_rowIs_0 : decode cX10_rowIs 0 = .ok (.iload_n 1, 1) := by decide +kernel
theorem dX10_rowIs_1 : decode cX10_rowIs 1 = .ok (.invokestatic 125, 3) := by decide +kernel
theorem dX10_rowIs_4 : decode cX10_rowIs 4 = .ok (.ifCond .ne 7, 3) := by decide +kernel
theorem dX10_rowIs_11 : decode cX10_rowIs 11 = .ok (.aload_n 0, 1) := by decide +kernel
theorem dX10_rowIs_12 : decode cX10_rowIs 12 = .ok (.getfield 75, 3) := by decide +kernel
theorem dX10_rowIs_15 : decode cX10_rowIs 15 = .ok (.iload_n 1, 1) := by decide +kernel
theorem dX10_rowIs_16 : decode cX10_rowIs 16 = .ok (.iaload, 1) := by decide +kernel
theorem dX10_rowIs_17 : decode cX10_rowIs 17 = .ok (.ifCond .ge 8, 3) := by decide +kernel
theorem dX10_rowIs_25 : decode cX10_rowIs 25 = .ok (.aload_n 0, 1) := by decide +kernel
theorem dX10_rowIs_26 : decode cX10_rowIs 26 = .ok (.getfield 75, 3) := by decide +kernel
theorem dX10_rowIs_29 : decode cX10_rowIs 29 = .ok (.iload_n 1, 1) := by decide +kernel
theorem dX10_rowIs_30 : decode cX10_rowIs 30 = .ok (.iaload, 1) := by decide +kernel
theorem dX10_rowIs_31 : decode cX10_rowIs 31 = .ok (.bipush 50, 2) := by decide +kernel
theorem dX10_rowIs_33 : decode cX10_rowIs 33 = .ok (.if_icmp .ne 7, 3) := by decide +kernel
theorem dX10_rowIs_40 : decode cX10_rowIs 40 = .ok (.bipush (-12), 2) := by decide +kernel
theorem dX10_rowIs_42 : decode cX10_rowIs 42 = .ok (.ireturn, 1) := by decide +kernel
theorem dX10_rowIs_36 : decode cX10_rowIs 36 = .ok (.iconst 1, 1) := by decide +kernel
theorem dX10_rowIs_37 : decode cX10_rowIs 37 = .ok (.goto 5, 3) := by decide +kernel
theorem dX10_rowIs_20 : decode cX10_rowIs 20 = .ok (.bipush (-11), 2) := by decide +kernel
theorem dX10_rowIs_22 : decode cX10_rowIs 22 = .ok (.goto 20, 3) := by decide +kernel
theorem dX10_rowIs_7 : decode cX10_rowIs 7 = .ok (.iconst (-1), 1) := by decide +kernel
theorem dX10_rowIs_8 : decode cX10_rowIs 8 = .ok (.goto 34, 3) := by decide +kernel