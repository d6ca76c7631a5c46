theorem dX10_beatFor_47 : decode cX10_beatFor 47 = .ok (.iload 7, 2) := by decide +kernel
theorem dX10_beatFor_49 : decode cX10_beatFor 49 = .ok (.iload 6, 2) := by decide +kernel
theorem dX10_beatFor_51 : decode cX10_beatFor 51 = .ok (.if_icmp .ge 71, 3) := by decide +kernel
theorem dX10_beatFor_54 : decode cX10_beatFor 54 = .ok (.aload_n 0, 1) := by decide +kernel
theorem dX10_beatFor_55 : decode cX10_beatFor 55 = .ok (.getfield 9, 3) := by decide +kernel
theorem dX10_beatFor_58 : decode cX10_beatFor 58 = .ok (.bipush 16, 2) := by decide +kernel
theorem dX10_beatFor_60 : decode cX10_beatFor 60 = .ok (.iload 6, 2) := by decide +kernel
theorem dX10_beatFor_62 : decode cX10_beatFor 62 = .ok (.iastore, 1) := by decide +kernel
theorem dX10_beatFor_63 : decode cX10_beatFor 63 = .ok (.aload_n 0, 1) := by decide +kernel
theorem dX10_beatFor_64 : decode cX10_beatFor 64 = .ok (.getfield 9, 3) := by decide +kernel
theorem dX10_beatFor_67 : decode cX10_beatFor 67 = .ok (.bipush 17, 2) := by decide +kernel
theorem dX10_beatFor_69 : decode cX10_beatFor 69 = .ok (.iload 7, 2) := by decide +kernel
theorem dX10_beatFor_71 : decode cX10_beatFor 71 = .ok (.iastore, 1) := by decide +kernel
theorem dX10_beatFor_72 : decode cX10_beatFor 72 = .ok (.aload_n 0, 1) := by decide +kernel
theorem dX10_beatFor_73 : decode cX10_beatFor 73 = .ok (.invokevirtual 270, 3) := by decide +kernel
theorem dX10_beatFor_76 : decode cX10_beatFor 76 = .ok (.istore 8, 2) := by decide +kernel
theorem dX10_beatFor_78 : decode cX10_beatFor 78 = .ok (.iload 8, 2) := by decide +kernel
theorem dX10_beatFor_80 : decode cX10_beatFor 80 = .ok (.iload 5, 2) := by decide +kernel
theorem dX10_beatFor_82 : decode cX10_beatFor 82 = .ok (.if_icmp .le 14, 3) := by decide +kernel
theorem dX10_beatFor_96 : decode cX10_beatFor 96 = .ok (.iload 4, 2) := by decide +kernel
theorem dX10_beatFor_98 : decode cX10_beatFor 98 = .ok (.istore 4, 2) := by decide +kernel
theorem dX10_beatFor_100 : decode cX10_beatFor 100 = .ok (.iload 8, 2) := by decide +kernel
theorem dX10_beatFor_102 : decode cX10_beatFor 102 = .ok (.iload 5, 2) := by decide +kernel
theorem dX10_beatFor_104 : decode cX10_beatFor 104 = .ok (.if_icmp .le 8, 3) := by decide +kernel
theorem dX10_beatFor_112 : decode cX10_beatFor 112 = .ok (.iload 5, 2) := by decide +kernel
theorem dX10_beatFor_114 : decode cX10_beatFor 114 = .ok (.istore 5, 2) := by decide +kernel
theorem dX10_beatFor_116 : decode cX10_beatFor 116 = .ok (.iinc 7 1, 3) := by decide +kernel
theorem dX10_beatFor_119 : decode cX10_beatFor 119 = .ok (.goto (-72), 3) := by decide +kernel
theorem dX10_beatFor_107 : decode cX10_beatFor 107 = .ok (.iload 8, 2) := by decide +kernel
theorem dX10_beatFor_109 : decode cX10_beatFor 109 = .ok (.goto 5, 3) := by decide +kernel
theorem dX10_beatFor_85 : decode cX10_beatFor 85 = .ok (.bipush 100, 2) := by decide +kernel
theorem dX10_beatFor_87 : decode cX10_beatFor 87 = .ok (.iload 6, 2) := by decide +kernel
theorem dX10_beatFor_89 : decode cX10_beatFor 89 = .ok (.imul, 1) := by decide +kernel
theorem dX10_beatFor_90 : decode cX10_beatFor 90 = .ok (.iload 7, 2) := by decide +kernel
theorem dX10_beatFor_92 : decode cX10_beatFor 92 = .ok (.iadd, 1) := by decide +kernel
theorem dX10_beatFor_93 : decode cX10_beatFor 93 = .ok (.goto 5, 3) := by decide +kernel
abbrev WRB (p k : Nat) : Prop := (p = 62 ∧ k = 14) ∨ (p = 62 ∧ k = 15) ∨ (p = 62 ∧ k = 16) ∨ (p = 62 ∧ k = 17) ∨ (p = 62 ∧ k = 18) ∨ (p = 62 ∧ k = 23) ∨ (p = 62 ∧ k = 26) ∨ (71 ≤ p ∧ p ≤ 74) ∨ (p = 63 ∧ k = 16) ∨ (p = 63 ∧ k = 17)
abbrev WRL (p k : Nat) : Prop := (p = 62 ∧ k = 14) ∨ (p = 62 ∧ k = 15) ∨ (p = 62 ∧ k = 16) ∨ (p = 62 ∧ k = 17) ∨ (p = 62 ∧ k = 18) ∨ (p = 62 ∧ k = 23) ∨ (p = 62 ∧ k = 26) ∨ (71 ≤ p ∧ p ≤ 74) ∨ (p = 63 ∧ k = 18)
abbrev WRS (p k : Nat) : Prop := (p = 62 ∧ k = 14) ∨ (p = 62 ∧ k = 15) ∨ (p = 62 ∧ k = 16) ∨ (p = 62 ∧ k = 17) ∨ (p = 62 ∧ k = 18) ∨ (p = 62 ∧ k = 23) ∨ (p = 62 ∧ k = 26) ∨ (71 ≤ p ∧ p ≤ 74) ∨ (p = 63 ∧ 10 ≤ k ∧ k ≤ 14)