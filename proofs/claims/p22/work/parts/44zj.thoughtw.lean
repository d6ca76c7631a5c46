/-- a tick in thought, with one push more at a tick mt (strength mf, to mg) -/
def tkm (P : xP) (mt mf mg : Int32) (k : Nat) (nw : Int32) (D : xM) : xM := if nI k = mt then puL P.2.1 mf mg P.1 0 (tkp P nw D) else tkp P nw D
def tiM (P : xP) (mt mf mg : Int32) (k : Nat) (nw : Int32) (D : xM) : xM := seT P.1 P.2.2.1 nw (tkm P mt mf mg k nw D)
theorem m1_ne {k : Nat} (hk : k < 2 ^ 31) : ¬ nI k = -1 := fun z => absurd (show (0 : Int32) ≤ -1 from z ▸ nI_pos' hk) (by decide)
theorem tiM_0 {P : xP} {mf mg : Int32} {k : Nat} {nw : Int32} {D : xM} (hk : k < 2 ^ 31) : tiM P (-1) mf mg k nw D = tiF P nw D := by unfold tiM tkm; rw [if_neg (m1_ne hk)]; rfl
theorem WF_tkm {P : xP} {mt mf mg : Int32} {k : Nat} {nw : Int32} {D : xM} (h : WF P.1 D) : WF P.1 (tkm P mt mf mg k nw D) := by
  unfold tkm; split
  · exact WF_puL _ _ _ (WF_tkp h)
  · exact WF_tkp h
theorem WF_tiM {P : xP} {mt mf mg : Int32} {k : Nat} {nw : Int32} {D : xM} (h : WF P.1 D) : WF P.1 (tiM P mt mf mg k nw D) := WF_seT (WF_tkm h)
def flF (P : xP) (h : Nat) : Nat → Nat → Int32 → xM → Nat
  | 0, k, _, _ => k
  | m + 1, k, nw, D => if D h 4 = 0 then k else flF P h m (k + 1) (nw + 1) (tiF P nw D)
theorem flF_z {P : xP} {h N k : Nat} {nw : Int32} {D : xM} (hk : k < N) (z : D h 4 = 0) : flF P h (N - k) k nw D = k := by
  rw [show N - k = (N - (k + 1)) + 1 by omega]; exact if_pos z
theorem flF_s {P : xP} {h N k : Nat} {nw : Int32} {D : xM} (hk : k < N) (z : ¬ D h 4 = 0) : flF P h (N - (k + 1)) (k + 1) (nw + 1) (tiF P nw D) = flF P h (N - k) k nw D := by
  rw [show N - k = (N - (k + 1)) + 1 by omega]; exact (if_neg z).symm
theorem flF_ge {P : xP} {h : Nat} : ∀ (m k : Nat) (nw : Int32) (D : xM), k ≤ flF P h m k nw D ∧ flF P h m k nw D ≤ k + m := by
  intro m
  induction m with
  | zero => exact fun k nw D => ⟨Nat.le_refl _, Nat.le_refl _⟩
  | succ m ih =>
    intro k nw D
    show k ≤ (if D h 4 = 0 then k else _) ∧ (if D h 4 = 0 then k else _) ≤ k + (m + 1)
    split
    · exact ⟨Nat.le_refl _, by omega⟩
    · have := ih (k + 1) (nw + 1) (tiF P nw D)
      exact ⟨by omega, by omega⟩
/-- how long none more lies -/
def laF (P : xP) (u : Nat) : Nat → Nat → Int32 → xM → Nat
  | 0, k, _, _ => k
  | m + 1, k, nw, D => if upn P.1 (tiF P nw D) < u then k else laF P u m (k + 1) (nw + 1) (tiF P nw D)
theorem laF_y {P : xP} {u N k : Nat} {nw : Int32} {D : xM} (hk : k < N) (c : upn P.1 (tiF P nw D) < u) : laF P u (N - k) k nw D = k := by
  rw [show N - k = (N - (k + 1)) + 1 by omega]; exact if_pos c
theorem laF_n {P : xP} {u N k : Nat} {nw : Int32} {D : xM} (hk : k < N) (c : ¬ upn P.1 (tiF P nw D) < u) : laF P u (N - (k + 1)) (k + 1) (nw + 1) (tiF P nw D) = laF P u (N - k) k nw D := by
  rw [show N - k = (N - (k + 1)) + 1 by omega]; exact (if_neg c).symm
def faV (P : xP) (h : Nat) (nw : Int32) (D : xM) : Nat := flF P h 201 0 nw D
def laV (P : xP) (nw : Int32) (D : xM) : Nat := laF P (upn P.1 D) 200 0 nw D
theorem faV_le {P : xP} {h : Nat} {nw : Int32} {D : xM} : faV P h nw D ≤ 201 := by have := (flF_ge (P := P) (h := h) 201 0 nw D).2; unfold faV; omega
abbrev WP (P : xP) : Prop := P.1 ≤ 5 ∧ (0 ≤ P.2.2.1 ∧ P.2.2.1 ≤ 3) ∧ ¬ P.2.2.2.1 = 0
/-- the class's thought: its ring 28, its numbers 27 -/
def TC (M : xM) (P : xP) (nw : Int32) (D : xM) (k : Nat) (mt mf mg : Int32) : Prop := (M 28 2 = nI P.1 ∧ AbC 30 P.1 M D ∧ WF P.1 D ∧ LCt M P.2.1) ∧ (M 28 3 = nw ∧ M 28 4 = P.2.2.1 ∧ M 28 5 = P.2.2.2.1 ∧ M 28 6 = P.2.2.2.2.1 ∧ M 28 7 = P.2.2.2.2.2) ∧ (M 27 2 = nI k ∧ (∃ q, q ≤ k ∧ M 27 3 = nI q) ∧ M 27 4 = -1 ∧ M 27 5 = mt ∧ M 27 6 = mf ∧ M 27 7 = mg)