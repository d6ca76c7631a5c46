abbrev CSB (p k : Nat) : Prop := (p = 46 ∧ k = 2) ∨ (p = 47) ∨ (p = 62 ∧ k = 36) ∨ (p = 81)
abbrev CSS (p k : Nat) : Prop := (50 ≤ p ∧ p ≤ 61) ∨ (83 ≤ p ∧ p ≤ 84) ∨ (p = 46 ∧ k = 2)
abbrev CSP (p k : Nat) : Prop := (p = 6 ∧ k = 2) ∨ (p = 62 ∧ k = 11)
abbrev CSN (p k : Nat) : Prop := (p = 13 ∧ k = 3) ∨ (p = 62 ∧ k = 9) ∨ (p = 0 ∧ k = 9) ∨ (p = 62 ∧ k = 33) ∨ (p = 20 ∧ k = 3) ∨ (p = 80 ∧ k = 0)
abbrev CSL (p k : Nat) : Prop := (36 ≤ p ∧ p ≤ 37) ∨ (75 ≤ p ∧ p ≤ 76)
abbrev CSH (p k : Nat) : Prop := (p = 13 ∧ k = 2) ∨ (p = 62 ∧ k = 6)
abbrev CSY (p k : Nat) : Prop := (50 ≤ p ∧ p ≤ 61) ∨ (p = 83)
theorem RB_f {M M2 : xM} (h : ∀ p k, CSB p k → M2 p k = M p k) (hR : RB M) : RB M2 := ⟨(h 46 2 (by decide)).trans (hR.1.trans (h 62 36 (by decide)).symm), fun j hj => (h 47 j (Or.inr (Or.inl rfl))).trans ((hR.2 j hj).trans (h 81 j (Or.inr (Or.inr (Or.inr rfl)))).symm)⟩
theorem RS_f {M M2 : xM} (h : ∀ p k, CSS p k → M2 p k = M p k) (hR : RS M) : RS M2 := fun d hd => by
  have e1 : ∀ j, M2 (50 + 2 * d) j = M (50 + 2 * d) j := fun j => h _ j (Or.inl (by omega))
  have e2 : ∀ j, M2 83 j = M 83 j := fun j => h _ j (Or.inr (Or.inl (by omega)))
  have e3 : ∀ j, M2 84 j = M 84 j := fun j => h _ j (Or.inr (Or.inl (by omega)))
  rw [e1, e1, e1, e1, e2, e3, h 46 2 (by decide)]
  exact hR d hd
theorem RP_f {M M2 : xM} (h : ∀ p k, CSP p k → M2 p k = M p k) (hR : RP M) : RP M2 := (h 6 2 (by decide)).trans (hR.trans (h 62 11 (by decide)).symm)
theorem RN_f {M M2 : xM} (h : ∀ p k, CSN p k → M2 p k = M p k) (hR : RN M) : RN M2 := ⟨(h 13 3 (by decide)).trans (hR.1.trans (h 62 9 (by decide)).symm), (h 0 9 (by decide)).trans (hR.2.1.trans (h 62 33 (by decide)).symm), (h 20 3 (by decide)).trans (hR.2.2.trans (h 80 0 (by decide)).symm)⟩
theorem RL_f {M M2 : xM} (h : ∀ p k, CSL p k → M2 p k = M p k) (hR : RLk M) : RLk M2 := by
  have e1 : ∀ j, M2 36 j = M 36 j := fun j => h _ j (Or.inl (by omega))
  have e2 : ∀ j, M2 37 j = M 37 j := fun j => h _ j (Or.inl (by omega))
  have e3 : ∀ j, M2 75 j = M 75 j := fun j => h _ j (Or.inr (by omega))
  have e4 : ∀ j, M2 76 j = M 76 j := fun j => h _ j (Or.inr (by omega))
  refine ⟨fun j hj => ?_, fun j hj => ?_⟩
  · rw [e1, e2, e3, e4]; exact hR.1 j hj
  · rw [e1, e2]; exact hR.2 j hj
theorem RH_f {M M2 : xM} (h : ∀ p k, CSH p k → M2 p k = M p k) (hR : RH_ M) : RH_ M2 := (h 13 2 (by decide)).trans (hR.trans (h 62 6 (by decide)).symm)
theorem RE_f {J J1 J2 : xJ} (h9 : J1 = J) (h10 : J2 = J1) (hR : RE J) : RE J2 := by rw [h10, h9]; exact hR
theorem RS_e {M M1 M2 : xM} (h9 : M1 = M) (h10 : M2 = M1) (hR : RS M) : RS M2 := by rw [h10, h9]; exact hR
theorem RY_f {M M2 : xM} {J : xJ} (h : ∀ p k, CSY p k → M2 p k = M p k) (hR : RY M J) : RY M2 J := fun d hd => by
  have e1 : ∀ j, M2 (50 + 2 * d) j = M (50 + 2 * d) j := fun j => h _ j (Or.inl (by omega))
  have e2 : ∀ j, M2 83 j = M 83 j := fun j => h _ j (Or.inr (by omega))
  rw [e1, e1, e2]
  exact hR d hd
