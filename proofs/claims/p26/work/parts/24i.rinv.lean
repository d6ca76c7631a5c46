theorem dX10_start_43 : decode cX10_start 43 = .ok (.iload 5, 2) := by decide +kernel
theorem dX10_start_45 : decode cX10_start 45 = .ok (.bipush 9, 2) := by decide +kernel
theorem dX10_start_47 : decode cX10_start 47 = .ok (.if_icmp .gt 57, 3) := by decide +kernel
theorem dX10_start_50 : decode cX10_start 50 = .ok (.aload_n 0, 1) := by decide +kernel
theorem dX10_start_51 : decode cX10_start 51 = .ok (.getfield 9, 3) := by decide +kernel
theorem dX10_start_54 : decode cX10_start 54 = .ok (.bipush 10, 2) := by decide +kernel
theorem dX10_start_56 : decode cX10_start 56 = .ok (.iload_n 1, 1) := by decide +kernel
theorem dX10_start_57 : decode cX10_start 57 = .ok (.iadd, 1) := by decide +kernel
theorem dX10_start_58 : decode cX10_start 58 = .ok (.iload 5, 2) := by decide +kernel
theorem dX10_start_60 : decode cX10_start 60 = .ok (.iastore, 1) := by decide +kernel
theorem dX10_start_61 : decode cX10_start 61 = .ok (.aload_n 0, 1) := by decide +kernel
theorem dX10_start_62 : decode cX10_start 62 = .ok (.iload_n 1, 1) := by decide +kernel
theorem dX10_start_63 : decode cX10_start 63 = .ok (.invokevirtual 264, 3) := by decide +kernel
theorem dX10_start_66 : decode cX10_start 66 = .ok (.istore 6, 2) := by decide +kernel
theorem dX10_start_68 : decode cX10_start 68 = .ok (.iload 6, 2) := by decide +kernel
theorem dX10_start_70 : decode cX10_start 70 = .ok (.iload 4, 2) := by decide +kernel
theorem dX10_start_72 : decode cX10_start 72 = .ok (.if_icmp .le 8, 3) := by decide +kernel
theorem dX10_start_80 : decode cX10_start 80 = .ok (.iload_n 3, 1) := by decide +kernel
theorem dX10_start_81 : decode cX10_start 81 = .ok (.istore_n 3, 1) := by decide +kernel
theorem dX10_start_82 : decode cX10_start 82 = .ok (.iload 6, 2) := by decide +kernel
theorem dX10_start_84 : decode cX10_start 84 = .ok (.iload 4, 2) := by decide +kernel
theorem dX10_start_86 : decode cX10_start 86 = .ok (.if_icmp .le 8, 3) := by decide +kernel
theorem dX10_start_94 : decode cX10_start 94 = .ok (.iload 4, 2) := by decide +kernel
theorem dX10_start_96 : decode cX10_start 96 = .ok (.istore 4, 2) := by decide +kernel
theorem dX10_start_98 : decode cX10_start 98 = .ok (.iinc 5 1, 3) := by decide +kernel
theorem dX10_start_101 : decode cX10_start 101 = .ok (.goto (-58), 3) := by decide +kernel
theorem dX10_start_89 : decode cX10_start 89 = .ok (.iload 6, 2) := by decide +kernel
theorem dX10_start_91 : decode cX10_start 91 = .ok (.goto 5, 3) := by decide +kernel
theorem dX10_start_75 : decode cX10_start 75 = .ok (.iload 5, 2) := by decide +kernel
theorem dX10_start_77 : decode cX10_start 77 = .ok (.goto 4, 3) := by decide +kernel
theorem pv_s1 {k : Nat} (h : k < 30) : pv k + Int32.ofInt 1 = pv (k + 1) := pv_s h