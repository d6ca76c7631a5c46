theorem dX10_beatFor_37 : decode cX10_beatFor 37 = .ok (.iload 6, 2) := by decide +kernel
theorem dX10_beatFor_39 : decode cX10_beatFor 39 = .ok (.bipush 24, 2) := by decide +kernel
theorem dX10_beatFor_41 : decode cX10_beatFor 41 = .ok (.if_icmp .gt 87, 3) := by decide +kernel
theorem dX10_beatFor_44 : decode cX10_beatFor 44 = .ok (.iconst 0, 1) := by decide +kernel
theorem dX10_beatFor_45 : decode cX10_beatFor 45 = .ok (.istore 7, 2) := by decide +kernel
theorem dX10_beatFor_122 : decode cX10_beatFor 122 = .ok (.iinc 6 1, 3) := by decide +kernel
theorem dX10_beatFor_125 : decode cX10_beatFor 125 = .ok (.goto (-88), 3) := by decide +kernel
theorem dX10_leastPush_28 : decode cX10_leastPush 28 = .ok (.iload 4, 2) := by decide +kernel
theorem dX10_leastPush_30 : decode cX10_leastPush 30 = .ok (.ifCond .lt 33, 3) := by decide +kernel
theorem dX10_leastPush_33 : decode cX10_leastPush 33 = .ok (.aload_n 0, 1) := by decide +kernel
theorem dX10_leastPush_34 : decode cX10_leastPush 34 = .ok (.getfield 9, 3) := by decide +kernel
theorem dX10_leastPush_37 : decode cX10_leastPush 37 = .ok (.bipush 18, 2) := by decide +kernel
theorem dX10_leastPush_39 : decode cX10_leastPush 39 = .ok (.iload 4, 2) := by decide +kernel
theorem dX10_leastPush_41 : decode cX10_leastPush 41 = .ok (.iastore, 1) := by decide +kernel
theorem dX10_leastPush_42 : decode cX10_leastPush 42 = .ok (.aload_n 0, 1) := by decide +kernel
theorem dX10_leastPush_43 : decode cX10_leastPush 43 = .ok (.invokevirtual 270, 3) := by decide +kernel
theorem dX10_leastPush_46 : decode cX10_leastPush 46 = .ok (.iload_n 1, 1) := by decide +kernel
theorem dX10_leastPush_47 : decode cX10_leastPush 47 = .ok (.if_icmp .lt 8, 3) := by decide +kernel
theorem dX10_leastPush_55 : decode cX10_leastPush 55 = .ok (.iload_n 3, 1) := by decide +kernel
theorem dX10_leastPush_56 : decode cX10_leastPush 56 = .ok (.istore_n 3, 1) := by decide +kernel
theorem dX10_leastPush_57 : decode cX10_leastPush 57 = .ok (.iinc 4 (-1), 3) := by decide +kernel
theorem dX10_leastPush_60 : decode cX10_leastPush 60 = .ok (.goto (-32), 3) := by decide +kernel
theorem dX10_leastPush_50 : decode cX10_leastPush 50 = .ok (.iload 4, 2) := by decide +kernel
theorem dX10_leastPush_52 : decode cX10_leastPush 52 = .ok (.goto 4, 3) := by decide +kernel
def qv (k : Nat) : Int32 := 5 - nI k
theorem qv_s {k : Nat} (h : k < 10) : qv k + Int32.ofInt (-1) = qv (k + 1) := (show ∀ k, k < 10 → qv k + Int32.ofInt (-1) = qv (k + 1) by decide +kernel) k h
theorem qv_lt {k : Nat} (h : k = 6) : qv k < 0 := by subst h; decide
theorem qv_ge {k : Nat} (h : k < 6) : ¬ qv k < 0 := (show ∀ k, k < 6 → ¬ qv k < 0 by decide +kernel) k h