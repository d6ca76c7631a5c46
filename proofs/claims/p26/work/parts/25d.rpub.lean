theorem dX10_go_0 : decode cX10_go 0 = .ok (.iload_n 1, 1) := by decide +kernel
theorem dX10_go_1 : decode cX10_go 1 = .ok (.i2l, 1) := by decide +kernel
theorem dX10_go_2 : decode cX10_go 2 = .ok (.lconst 1, 1) := by decide +kernel
theorem dX10_go_3 : decode cX10_go 3 = .ok (.ldc2_w 244, 3) := by decide +kernel
theorem dX10_go_6 : decode cX10_go 6 = .ok (.invokestatic 101, 3) := by decide +kernel
theorem dX10_go_9 : decode cX10_go 9 = .ok (.ifCond .ne 5, 3) := by decide +kernel
theorem dX10_go_14 : decode cX10_go 14 = .ok (.aload_n 0, 1) := by decide +kernel
theorem dX10_go_15 : decode cX10_go 15 = .ok (.invokevirtual 246, 3) := by decide +kernel
theorem dX10_go_18 : decode cX10_go 18 = .ok (.istore_n 2, 1) := by decide +kernel
theorem dX10_go_19 : decode cX10_go 19 = .ok (.aload_n 0, 1) := by decide +kernel
theorem dX10_go_20 : decode cX10_go 20 = .ok (.iload_n 2, 1) := by decide +kernel
theorem dX10_go_21 : decode cX10_go 21 = .ok (.invokevirtual 249, 3) := by decide +kernel
theorem dX10_go_24 : decode cX10_go 24 = .ok (.aload_n 0, 1) := by decide +kernel
theorem dX10_go_25 : decode cX10_go 25 = .ok (.iconst 0, 1) := by decide +kernel
theorem dX10_go_26 : decode cX10_go 26 = .ok (.putfield 237, 3) := by decide +kernel
theorem dX10_go_29 : decode cX10_go 29 = .ok (.iconst 0, 1) := by decide +kernel
theorem dX10_go_30 : decode cX10_go 30 = .ok (.istore_n 3, 1) := by decide +kernel
theorem dX10_go_92 : decode cX10_go 92 = .ok (.aload_n 0, 1) := by decide +kernel
theorem dX10_go_93 : decode cX10_go 93 = .ok (.dup, 1) := by decide +kernel
theorem dX10_go_94 : decode cX10_go 94 = .ok (.getfield 258, 3) := by decide +kernel
theorem dX10_go_97 : decode cX10_go 97 = .ok (.aload_n 0, 1) := by decide +kernel
theorem dX10_go_98 : decode cX10_go 98 = .ok (.getfield 237, 3) := by decide +kernel
theorem dX10_go_101 : decode cX10_go 101 = .ok (.iadd, 1) := by decide +kernel
theorem dX10_go_102 : decode cX10_go 102 = .ok (.putfield 258, 3) := by decide +kernel
theorem dX10_go_105 : decode cX10_go 105 = .ok (.iconst 0, 1) := by decide +kernel
theorem dX10_go_106 : decode cX10_go 106 = .ok (.istore_n 3, 1) := by decide +kernel
theorem dX10_go_160 : decode cX10_go 160 = .ok (.aload_n 0, 1) := by decide +kernel
theorem dX10_go_161 : decode cX10_go 161 = .ok (.invokevirtual 246, 3) := by decide +kernel
theorem dX10_go_164 : decode cX10_go 164 = .ok (.invokestatic 261, 3) := by decide +kernel
theorem dX10_go_167 : decode cX10_go 167 = .ok (.ireturn, 1) := by decide +kernel
theorem dX10_go_12 : decode cX10_go 12 = .ok (.iconst (-1), 1) := by decide +kernel
theorem dX10_go_13 : decode cX10_go 13 = .ok (.ireturn, 1) := by decide +kernel