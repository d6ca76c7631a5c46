theorem dX10_law_37 : decode cX10_law 37 = .ok (.iload_n 3, 1) := by decide +kernel
theorem dX10_law_38 : decode cX10_law 38 = .ok (.iload_n 2, 1) := by decide +kernel
theorem dX10_law_39 : decode cX10_law 39 = .ok (.if_icmp .ge 21, 3) := by decide +kernel
theorem dX10_law_42 : decode cX10_law 42 = .ok (.aload_n 0, 1) := by decide +kernel
theorem dX10_law_43 : decode cX10_law 43 = .ok (.getfield 31, 3) := by decide +kernel
theorem dX10_law_46 : decode cX10_law 46 = .ok (.iload_n 3, 1) := by decide +kernel
theorem dX10_law_47 : decode cX10_law 47 = .ok (.aload_n 0, 1) := by decide +kernel
theorem dX10_law_48 : decode cX10_law 48 = .ok (.getfield 28, 3) := by decide +kernel
theorem dX10_law_51 : decode cX10_law 51 = .ok (.iload_n 3, 1) := by decide +kernel
theorem dX10_law_52 : decode cX10_law 52 = .ok (.iaload, 1) := by decide +kernel
theorem dX10_law_53 : decode cX10_law 53 = .ok (.iastore, 1) := by decide +kernel
theorem dX10_law_54 : decode cX10_law 54 = .ok (.iinc 3 1, 3) := by decide +kernel
theorem dX10_law_57 : decode cX10_law 57 = .ok (.goto (-20), 3) := by decide +kernel
theorem dX10_then_46 : decode cX10_then 46 = .ok (.iload 4, 2) := by decide +kernel
theorem dX10_then_48 : decode cX10_then 48 = .ok (.iload_n 2, 1) := by decide +kernel
theorem dX10_then_49 : decode cX10_then 49 = .ok (.if_icmp .ge 20, 3) := by decide +kernel
theorem dX10_then_52 : decode cX10_then 52 = .ok (.aload_n 0, 1) := by decide +kernel
theorem dX10_then_53 : decode cX10_then 53 = .ok (.aload_n 0, 1) := by decide +kernel
theorem dX10_then_54 : decode cX10_then 54 = .ok (.getfield 151, 3) := by decide +kernel
theorem dX10_then_57 : decode cX10_then 57 = .ok (.iload 4, 2) := by decide +kernel
theorem dX10_then_59 : decode cX10_then 59 = .ok (.iadd, 1) := by decide +kernel
theorem dX10_then_60 : decode cX10_then 60 = .ok (.invokevirtual 255, 3) := by decide +kernel
theorem dX10_then_63 : decode cX10_then 63 = .ok (.iinc 4 1, 3) := by decide +kernel
theorem dX10_then_66 : decode cX10_then 66 = .ok (.goto (-20), 3) := by decide +kernel
theorem sx_n0 {v : Int32} (h : 1 ≤ v.toInt64 ∧ v.toInt64 ≤ 9) : v ≠ 0 := fun q => by subst q; exact absurd h.1 (by decide)
theorem sx_n0J {v : Int64} (h : 1 ≤ v ∧ v ≤ 9) : v.toInt32 ≠ 0 := fun q => by
  have h1 := Int64.le_iff_toInt_le.mp h.1
  have h2 := Int64.le_iff_toInt_le.mp h.2
  have h3 : (1 : Int64).toInt = 1 := rfl
  have h4 : (9 : Int64).toInt = 9 := rfl
  have h5 := congrArg Int32.toInt q
  rw [Int64.toInt_toInt32] at h5
  rw [show (0 : Int32).toInt = 0 from rfl, Int.bmod_eq_of_le (by omega) (by omega)] at h5
  omega
abbrev WLT (p k : Nat) : Prop := (p = 62 ∧ k = 11) ∨ (p = 62 ∧ k = 13) ∨ (p = 62 ∧ k = 14) ∨ (p = 62 ∧ k = 15) ∨ (p = 62 ∧ k = 16) ∨ (p = 62 ∧ k = 17) ∨ (p = 62 ∧ k = 18) ∨ (p = 70)
abbrev W70 (p k : Nat) : Prop := (p = 70)
abbrev WLI (p k : Nat) : Prop := (p = 63) ∨ (67 ≤ p ∧ p ≤ 68)