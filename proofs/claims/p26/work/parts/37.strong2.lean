abbrev WBK2 (p k : Nat) : Prop := (67 ≤ p ∧ p ≤ 68) ∨ (p = 63 ∧ 10 ≤ k ∧ k ≤ 14)
theorem now_s {c : Int32} {k : Nat} : c + nI k + 1 = c + nI (k + 1) := by rw [Int32.add_assoc, nI_1]
theorem now_0 {c : Int32} : c = c + nI 0 := by rw [show nI 0 = (0 : Int32) from rfl, Int32.add_zero]