def flF (P : xP) (h : Nat) : Nat → Nat → Int32 → xM → Nat
  | 0, k, _, _ => k
  | m + 1, k, nw, D => if D h 4 = 0 then k else flF P h m (k + 1) (nw + 1) (tiF P nw D)
theorem flF_z {P : xP} {h N k : Nat} {nw : Int32} {D : xM} (hk : k < N) (z : D h 4 = 0) : flF P h (N - k) k nw D = k := by
  rw [show N - k = (N - (k + 1)) + 1 by omega]; exact if_pos z
theorem flF_s {P : xP} {h N k : Nat} {nw : Int32} {D : xM} (hk : k < N) (z : ¬ D h 4 = 0) : flF P h (N - (k + 1)) (k + 1) (nw + 1) (tiF P nw D) = flF P h (N - k) k nw D := by
  rw [show N - k = (N - (k + 1)) + 1 by omega]; exact (if_neg z).symm
theorem flF_ge {P : xP} {h : Nat} : ∀ (m k : Nat) (nw : Int32) (D : xM), k ≤ flF P h m k nw D ∧ flF P h m k nw D ≤ k + m := by
  intro m
  induction m with
  | zero => exact fun k nw D => ⟨Nat.le_refl _, Nat.le_refl _⟩
  | succ m ih =>
    intro k nw D
    show k ≤ (if D h 4 = 0 then k else _) ∧ (if D h 4 = 0 then k else _) ≤ k + (m + 1)
    split
    · exact ⟨Nat.le_refl _, by omega⟩
    · have := ih (k + 1) (nw + 1) (tiF P nw D)
      exact ⟨by omega, by omega⟩
/-- how long none more lies -/
def laF (P : xP) (u : Nat) : Nat → Nat → Int32 → xM → Nat
  | 0, k, _, _ => k
  | m + 1, k, nw, D => if upn P.1 (tiF P nw D) < u then k else laF P u m (k + 1) (nw + 1) (tiF P nw D)
theorem laF_y {P : xP} {u N k : Nat} {nw : Int32} {D : xM} (hk : k < N) (c : upn P.1 (tiF P nw D) < u) : laF P u (N - k) k nw D = k := by
  rw [show N - k = (N - (k + 1)) + 1 by omega]; exact if_pos c
theorem laF_n {P : xP} {u N k : Nat} {nw : Int32} {D : xM} (hk : k < N) (c : ¬ upn P.1 (tiF P nw D) < u) : laF P u (N - (k + 1)) (k + 1) (nw + 1) (tiF P nw D) = laF P u (N - k) k nw D := by
  rw [show N - k = (N - (k + 1)) + 1 by omega]; exact (if_neg c).symm
def faV (P : xP) (h : Nat) (nw : Int32) (D : xM) : Nat := flF P h 201 0 nw D
def laV (P : xP) (nw : Int32) (D : xM) : Nat := laF P (upn P.1 D) 200 0 nw D
theorem faV_le {P : xP} {h : Nat} {nw : Int32} {D : xM} : faV P h nw D ≤ 201 := by have := (flF_ge (P := P) (h := h) 201 0 nw D).2; unfold faV; omega
abbrev WP (P : xP) : Prop := P.1 ≤ 5 ∧ (0 ≤ P.2.2.1 ∧ P.2.2.1 ≤ 3) ∧ ¬ P.2.2.2.1 = 0