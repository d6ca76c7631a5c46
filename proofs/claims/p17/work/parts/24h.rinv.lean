theorem dX10_held_24 : decode cX10_held 24 = .ok (.iload 4, 2) := by decide +kernel
theorem dX10_held_26 : decode cX10_held 26 = .ok (.iconst 1, 1) := by decide +kernel
theorem dX10_held_27 : decode cX10_held 27 = .ok (.aload_n 0, 1) := by decide +kernel
theorem dX10_held_28 : decode cX10_held 28 = .ok (.getfield 109, 3) := by decide +kernel
theorem dX10_held_31 : decode cX10_held 31 = .ok (.ishl, 1) := by decide +kernel
theorem dX10_held_32 : decode cX10_held 32 = .ok (.if_icmp .ge 47, 3) := by decide +kernel
theorem dX10_held_79 : decode cX10_held 79 = .ok (.iload_n 3, 1) := by decide +kernel
theorem dX10_held_80 : decode cX10_held 80 = .ok (.ifCond .ne 8, 3) := by decide +kernel
theorem dX10_held_88 : decode cX10_held 88 = .ok (.iload_n 3, 1) := by decide +kernel
theorem dX10_held_89 : decode cX10_held 89 = .ok (.ireturn, 1) := by decide +kernel
theorem dX10_held_83 : decode cX10_held 83 = .ok (.bipush (-2), 2) := by decide +kernel
theorem dX10_held_85 : decode cX10_held 85 = .ok (.goto 4, 3) := by decide +kernel
theorem dX10_held_35 : decode cX10_held 35 = .ok (.iload 4, 2) := by decide +kernel
theorem dX10_held_37 : decode cX10_held 37 = .ok (.iload_n 2, 1) := by decide +kernel
theorem dX10_held_38 : decode cX10_held 38 = .ok (.iconst (-1), 1) := by decide +kernel
theorem dX10_held_39 : decode cX10_held 39 = .ok (.ixor, 1) := by decide +kernel
theorem dX10_held_40 : decode cX10_held 40 = .ok (.iand, 1) := by decide +kernel
theorem dX10_held_41 : decode cX10_held 41 = .ok (.ifCond .ne 30, 3) := by decide +kernel
theorem dX10_held_71 : decode cX10_held 71 = .ok (.iload_n 3, 1) := by decide +kernel
theorem dX10_held_72 : decode cX10_held 72 = .ok (.istore_n 3, 1) := by decide +kernel
theorem dX10_held_73 : decode cX10_held 73 = .ok (.iinc 4 1, 3) := by decide +kernel
theorem dX10_held_76 : decode cX10_held 76 = .ok (.goto (-52), 3) := by decide +kernel
theorem dX10_held_44 : decode cX10_held 44 = .ok (.iload 4, 2) := by decide +kernel
theorem dX10_held_46 : decode cX10_held 46 = .ok (.invokestatic 261, 3) := by decide +kernel
theorem dX10_held_49 : decode cX10_held 49 = .ok (.iload_n 3, 1) := by decide +kernel
theorem dX10_held_50 : decode cX10_held 50 = .ok (.invokestatic 261, 3) := by decide +kernel
theorem dX10_held_53 : decode cX10_held 53 = .ok (.if_icmp .le 18, 3) := by decide +kernel
theorem dX10_held_56 : decode cX10_held 56 = .ok (.aload_n 0, 1) := by decide +kernel
theorem dX10_held_57 : decode cX10_held 57 = .ok (.iload 4, 2) := by decide +kernel
theorem dX10_held_59 : decode cX10_held 59 = .ok (.invokevirtual 267, 3) := by decide +kernel
theorem dX10_held_62 : decode cX10_held 62 = .ok (.iload_n 1, 1) := by decide +kernel
theorem dX10_held_63 : decode cX10_held 63 = .ok (.if_icmp .lt 8, 3) := by decide +kernel
theorem dX10_held_66 : decode cX10_held 66 = .ok (.iload 4, 2) := by decide +kernel
theorem dX10_held_68 : decode cX10_held 68 = .ok (.goto 4, 3) := by decide +kernel