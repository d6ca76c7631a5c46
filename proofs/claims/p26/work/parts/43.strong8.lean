def el9 (el : Nat → Int64) (j : Nat) : Prop := (1 ≤ (el j).toInt32 ∧ (el j).toInt32 ≤ 9) ∧ (1 ≤ (el (j + 1)).toInt32 ∧ (el (j + 1)).toInt32 ≤ 9) ∧ (-9 ≤ (el (j + 2)).toInt32 ∧ (el (j + 2)).toInt32 ≤ 9)
theorem oC_lt {s j : Nat} {L a : Int32} (hs : s ≤ 60) (hL : L = nI s) (ha : a = nI j) (hj : j + 3 ≤ s) : ¬ L - 3 < a ∧ ¬ 57 < a ∧ ¬ a < 0 := by
  subst hL; subst ha
  have e : (nI s - 3).toInt = (s : Int) - 3 := (show ∀ s, s ≤ 60 → (nI s - 3).toInt = (s : Int) - 3 by decide +kernel) s hs
  refine ⟨fun q => ?_, nI_nlt (a := 57) (b := j) (by omega) (by decide), nI_nlt (a := j) (b := 0) (by omega) (by omega)⟩
  rw [Int32.lt_iff_toInt_lt, e, nI_toInt (by omega)] at q
  omega
theorem oC_in {s : Nat} {L a : Int32} (hs : s ≤ 60) (hL : L = nI s) (h1 : ¬ a < 0) (h2 : ¬ L - 3 < a) (h3 : ¬ 57 < a) : ∃ j : Nat, j + 3 ≤ s ∧ a = nI j := by
  subst hL
  obtain ⟨j, hj, rfl⟩ := x_natle (v := a) (N := 57) (K := 57) (by decide) (by decide) ⟨by grind, by grind⟩
  have e : (nI s - 3).toInt = (s : Int) - 3 := (show ∀ s, s ≤ 60 → (nI s - 3).toInt = (s : Int) - 3 by decide +kernel) s hs
  rw [Int32.lt_iff_toInt_lt, e, nI_toInt (by omega)] at h2
  exact ⟨j, by omega, rfl⟩
theorem sx_hpn {nm i k : Nat} (hnm : nm ≤ 60) (h : i + 3 * k + 3 ≤ nm) : ¬ nI nm - 3 - nI (3 * k) < nI i := by
  have e : (nI nm - 3 - nI (3 * k)).toInt = (nm : Int) - 3 - 3 * k := (show ∀ nm, nm ≤ 60 → ∀ k, k ≤ 20 → (nI nm - 3 - nI (3 * k)).toInt = (nm : Int) - 3 - 3 * k by decide +kernel) nm hnm k (by omega)
  rw [Int32.lt_iff_toInt_lt, e, nI_toInt (by omega)]
  omega