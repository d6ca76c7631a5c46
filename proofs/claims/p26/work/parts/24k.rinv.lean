theorem dX10_begun_69 : decode cX10_begun 69 = .ok (.iload 8, 2) := by decide +kernel
theorem dX10_begun_71 : decode cX10_begun 71 = .ok (.iload 5, 2) := by decide +kernel
theorem dX10_begun_73 : decode cX10_begun 73 = .ok (.if_icmp .gt 48, 3) := by decide +kernel
theorem dX10_begun_76 : decode cX10_begun 76 = .ok (.aload_n 0, 1) := by decide +kernel
theorem dX10_begun_77 : decode cX10_begun 77 = .ok (.getfield 9, 3) := by decide +kernel
theorem dX10_begun_80 : decode cX10_begun 80 = .ok (.bipush 10, 2) := by decide +kernel
theorem dX10_begun_82 : decode cX10_begun 82 = .ok (.iload_n 2, 1) := by decide +kernel
theorem dX10_begun_83 : decode cX10_begun 83 = .ok (.iadd, 1) := by decide +kernel
theorem dX10_begun_84 : decode cX10_begun 84 = .ok (.iload 8, 2) := by decide +kernel
theorem dX10_begun_86 : decode cX10_begun 86 = .ok (.iastore, 1) := by decide +kernel
theorem dX10_begun_87 : decode cX10_begun 87 = .ok (.aload_n 0, 1) := by decide +kernel
theorem dX10_begun_88 : decode cX10_begun 88 = .ok (.iload_n 1, 1) := by decide +kernel
theorem dX10_begun_89 : decode cX10_begun 89 = .ok (.iload_n 2, 1) := by decide +kernel
theorem dX10_begun_90 : decode cX10_begun 90 = .ok (.invokevirtual 290, 3) := by decide +kernel
theorem dX10_begun_93 : decode cX10_begun 93 = .ok (.bipush (-2), 2) := by decide +kernel
theorem dX10_begun_95 : decode cX10_begun 95 = .ok (.if_icmp .ne 20, 3) := by decide +kernel
theorem dX10_begun_115 : decode cX10_begun 115 = .ok (.iinc 8 1, 3) := by decide +kernel
theorem dX10_begun_118 : decode cX10_begun 118 = .ok (.goto (-49), 3) := by decide +kernel
theorem dX10_begun_98 : decode cX10_begun 98 = .ok (.iload 6, 2) := by decide +kernel
theorem dX10_begun_100 : decode cX10_begun 100 = .ok (.ifCond .ne 8, 3) := by decide +kernel
theorem dX10_begun_108 : decode cX10_begun 108 = .ok (.iload 7, 2) := by decide +kernel
theorem dX10_begun_110 : decode cX10_begun 110 = .ok (.istore 7, 2) := by decide +kernel
theorem dX10_begun_112 : decode cX10_begun 112 = .ok (.iinc 6 1, 3) := by decide +kernel
theorem dX10_begun_103 : decode cX10_begun 103 = .ok (.iload 8, 2) := by decide +kernel
theorem dX10_begun_105 : decode cX10_begun 105 = .ok (.goto 5, 3) := by decide +kernel
theorem dX10_go_31 : decode cX10_go 31 = .ok (.iload_n 3, 1) := by decide +kernel
theorem dX10_go_32 : decode cX10_go 32 = .ok (.iload_n 1, 1) := by decide +kernel
theorem dX10_go_33 : decode cX10_go 33 = .ok (.if_icmp .ge 59, 3) := by decide +kernel
theorem dX10_go_36 : decode cX10_go 36 = .ok (.aload_n 0, 1) := by decide +kernel
theorem dX10_go_37 : decode cX10_go 37 = .ok (.iload_n 2, 1) := by decide +kernel
theorem dX10_go_38 : decode cX10_go 38 = .ok (.invokevirtual 252, 3) := by decide +kernel
theorem dX10_go_41 : decode cX10_go 41 = .ok (.istore 4, 2) := by decide +kernel
theorem dX10_go_43 : decode cX10_go 43 = .ok (.aload_n 0, 1) := by decide +kernel
theorem dX10_go_44 : decode cX10_go 44 = .ok (.aload_n 0, 1) := by decide +kernel
theorem dX10_go_45 : decode cX10_go 45 = .ok (.getfield 151, 3) := by decide +kernel
theorem dX10_go_48 : decode cX10_go 48 = .ok (.invokevirtual 255, 3) := by decide +kernel
theorem dX10_go_51 : decode cX10_go 51 = .ok (.aload_n 0, 1) := by decide +kernel
theorem dX10_go_52 : decode cX10_go 52 = .ok (.aload_n 0, 1) := by decide +kernel
theorem dX10_go_53 : decode cX10_go 53 = .ok (.iload_n 2, 1) := by decide +kernel
theorem dX10_go_54 : decode cX10_go 54 = .ok (.invokevirtual 252, 3) := by decide +kernel
theorem dX10_go_57 : decode cX10_go 57 = .ok (.iload 4, 2) := by decide +kernel
theorem dX10_go_59 : decode cX10_go 59 = .ok (.if_icmp .le 10, 3) := by decide +kernel
theorem dX10_go_69 : decode cX10_go 69 = .ok (.aload_n 0, 1) := by decide +kernel
theorem dX10_go_70 : decode cX10_go 70 = .ok (.getfield 46, 3) := by decide +kernel
theorem dX10_go_73 : decode cX10_go 73 = .ok (.putfield 46, 3) := by decide +kernel
theorem dX10_go_76 : decode cX10_go 76 = .ok (.aload_n 0, 1) := by decide +kernel
theorem dX10_go_77 : decode cX10_go 77 = .ok (.dup, 1) := by decide +kernel
theorem dX10_go_78 : decode cX10_go 78 = .ok (.getfield 151, 3) := by decide +kernel
theorem dX10_go_81 : decode cX10_go 81 = .ok (.iconst 1, 1) := by decide +kernel
theorem dX10_go_82 : decode cX10_go 82 = .ok (.iadd, 1) := by decide +kernel
theorem dX10_go_83 : decode cX10_go 83 = .ok (.putfield 151, 3) := by decide +kernel
theorem dX10_go_86 : decode cX10_go 86 = .ok (.iinc 3 1, 3) := by decide +kernel
theorem dX10_go_89 : decode cX10_go 89 = .ok (.goto (-58), 3) := by decide +kernel
theorem dX10_go_62 : decode cX10_go 62 = .ok (.aload_n 0, 1) := by decide +kernel
theorem dX10_go_63 : decode cX10_go 63 = .ok (.getfield 151, 3) := by decide +kernel
theorem dX10_go_66 : decode cX10_go 66 = .ok (.goto 7, 3) := by decide +kernel
abbrev WRG (p k : Nat) : Prop := (p = 62 ∧ k = 14) ∨ (p = 62 ∧ k = 15) ∨ (p = 62 ∧ k = 16) ∨ (p = 62 ∧ k = 17) ∨ (p = 62 ∧ k = 18) ∨ (p = 62 ∧ k = 23) ∨ (p = 62 ∧ k = 26) ∨ (71 ≤ p ∧ p ≤ 74) ∨ (p = 62 ∧ k = 9) ∨ (p = 62 ∧ k = 24) ∨ (p = 62 ∧ k = 25) ∨ (67 ≤ p ∧ p ≤ 68) ∨ (p = 63 ∧ 10 ≤ k ∧ k ≤ 14)