/-- shelves in words: what lies there (0 nothing, 1 a row of bytes, 2 another), how many, elements -/
abbrev xQs : Type := Nat → Nat × Nat × (Nat → Int64)
def CSh (M : xM) (J : xJ) (G : xQs) : Prop := ∀ q, q < 6 → (G q).2.1 ≤ 60 ∧ M (50 + 2 * q) 3 = nI (G q).2.1 ∧ (∀ j, j < 60 → J (51 + 2 * q) j = (G q).2.2 j) ∧ ((G q).1 = 0 ∧ M (50 + 2 * q) 0 = 0 ∨ (G q).1 = 1 ∧ M (50 + 2 * q) 0 = 2 ∧ M (50 + 2 * q) 2 = 0 ∨ (G q).1 = 2 ∧ ¬ M (50 + 2 * q) 0 = 0 ∧ ¬ (M (50 + 2 * q) 0 = 2 ∧ M (50 + 2 * q) 2 = 0))
def RSh (M : xM) (J : xJ) (G : xQs) : Prop := ∀ q, q < 6 → (G q).2.1 ≤ 60 ∧ M 84 q = nI (G q).2.1 ∧ (∀ j, j < 60 → J 85 (60 * q + j) = (G q).2.2 j) ∧ ((G q).1 = 0 ∧ M 83 q < 0 ∨ (G q).1 = 1 ∧ M 83 q = 50 ∨ (G q).1 = 2 ∧ ¬ M 83 q < 0 ∧ ¬ M 83 q = 50)
def WSh (G : xQs) : Prop := ∀ q, q < 6 → ((G q).1 = 1 → ∀ j, j < 60 → ∃ w : Int32, (G q).2.2 j = w.toInt64) ∧ ((G q).1 = 0 → (G q).2.1 = 0)
/-! films -/
def fuF (P : xP) (h : Nat) (el : Nat → Int64) : Nat → Nat → Int32 → xM → Int32
  | 0, _, _, _ => -2
  | m + 1, k, nw, D => if (tiF P nw D h 2).toInt64 = el k then fuF P h el m (k + 1) (nw + 1) (tiF P nw D) else nI k
theorem fuF_y {P : xP} {h N k : Nat} {el : Nat → Int64} {nw : Int32} {D : xM} (hk : k < N) (c : (tiF P nw D h 2).toInt64 = el k) : fuF P h el (N - (k + 1)) (k + 1) (nw + 1) (tiF P nw D) = fuF P h el (N - k) k nw D := by
  rw [show N - k = (N - (k + 1)) + 1 by omega]; exact (if_pos c).symm
theorem fuF_n {P : xP} {h N k : Nat} {el : Nat → Int64} {nw : Int32} {D : xM} (hk : k < N) (c : ¬ (tiF P nw D h 2).toInt64 = el k) : fuF P h el (N - k) k nw D = nI k := by
  rw [show N - k = (N - (k + 1)) + 1 by omega]; exact if_neg c
def fuV (P : xP) (h L : Nat) (el : Nat → Int64) (nw : Int32) (D : xM) : Int32 := fuF P h el L 0 nw D
abbrev jdC (n : Nat) (sh h : Int32) : Prop := (0 ≤ sh ∧ sh ≤ 5) ∧ (0 ≤ h ∧ h < nI n)
/-! starts that fit -/
def bgV (n : Nat) (D : xM) (t : Option zL) (S : Nat → Int32) (G : xQs) (q i j : Nat) : Int32 := fuV (PS n t S) i (G q).2.1 (G q).2.2 (S 0) (x_up D i 3 (pv j))
def bg1 (n : Nat) (D : xM) (t : Option zL) (S : Nat → Int32) (G : xQs) (q i j : Nat) (s : Int32 × Int32) : Int32 × Int32 := if bgV n D t S G q i j = -2 then ((if s.2 = 0 then pv j else s.1), s.2 + 1) else s
def bgL (n : Nat) (D : xM) (t : Option zL) (S : Nat → Int32) (G : xQs) (q i : Nat) : Nat → Nat → Int32 × Int32 → Int32 × Int32
  | 0, _, s => s
  | m + 1, j, s => bgL n D t S G q i m (j + 1) (bg1 n D t S G q i j s)
def bgF (n : Nat) (D : xM) (t : Option zL) (S : Nat → Int32) (G : xQs) (q i : Nat) : Int32 × Int32 := if D i 4 = 0 then bg1 n D t S G q i 9 (-2, 0) else bgL n D t S G q i 19 0 (-2, 0)
abbrev bgC (n : Nat) (G : xQs) (sh h w : Int32) : Prop := jdC n sh h ∧ (0 ≤ w ∧ w ≤ 1) ∧ (G (w_ix sh)).1 = 1
def bgR (n : Nat) (D : xM) (t : Option zL) (S : Nat → Int32) (G : xQs) (sh h w : Int32) : Int32 := if bgC n G sh h w then (if w = 0 then (bgF n D t S G (w_ix sh) (w_ix h)).2 else (bgF n D t S G (w_ix sh) (w_ix h)).1) else -2000000000
theorem bgR_y {n : Nat} {D : xM} {t : Option zL} {S : Nat → Int32} {G : xQs} {q i : Nat} {w : Int32} (hn : n ≤ 5) (hq : q < 6) (hi : i < n) (hw : 0 ≤ w ∧ w ≤ 1) (hG : (G q).1 = 1) : (if w = 0 then (bgF n D t S G q i).2 else (bgF n D t S G q i).1) = bgR n D t S G (nI q) (nI i) w := by
  unfold bgR
  rw [if_pos (show bgC n G (nI q) (nI i) w from ⟨⟨⟨nI_pos' (by omega), nI_le (a := q) (b := 5) (by omega) (by decide)⟩, nI_pos' (by omega), nI_lt (by omega) (by omega)⟩, hw, by rw [w_ix_n (by omega)]; exact hG⟩), w_ix_n (by omega), w_ix_n (by omega)]
theorem bgR_n {n : Nat} {D : xM} {t : Option zL} {S : Nat → Int32} {G : xQs} {sh h w : Int32} (c : ¬ bgC n G sh h w) : -2000000000 = bgR n D t S G sh h w := (if_neg c).symm
theorem bg1_y {n : Nat} {D : xM} {t : Option zL} {S : Nat → Int32} {G : xQs} {q i j : Nat} {f c : Int32} (h : bgV n D t S G q i j = -2) : bg1 n D t S G q i j (f, c) = ((if c = 0 then pv j else f), c + 1) := if_pos h
theorem bg1_n {n : Nat} {D : xM} {t : Option zL} {S : Nat → Int32} {G : xQs} {q i j : Nat} {f c : Int32} (h : ¬ bgV n D t S G q i j = -2) : bg1 n D t S G q i j (f, c) = (f, c) := if_neg h
theorem bgL_e {n : Nat} {D : xM} {t : Option zL} {S : Nat → Int32} {G : xQs} {q i N k : Nat} {s s2 : Int32 × Int32} (hk : k < N) (e : bg1 n D t S G q i k s = s2) : bgL n D t S G q i (N - (k + 1)) (k + 1) s2 = bgL n D t S G q i (N - k) k s := by
  rw [show N - k = (N - (k + 1)) + 1 by omega, ← e]; rfl
theorem bgF_u {n : Nat} {D : xM} {t : Option zL} {S : Nat → Int32} {G : xQs} {q i : Nat} {s : Int32 × Int32} (hup : ¬ D i 4 = 0) (h : s = bgL n D t S G q i 19 0 (-2, 0)) : s = bgF n D t S G q i := by rw [h]; exact (if_neg hup).symm
theorem bgF_l {n : Nat} {D : xM} {t : Option zL} {S : Nat → Int32} {G : xQs} {q i : Nat} {s : Int32 × Int32} (hup : D i 4 = 0) (h : s = bg1 n D t S G q i 9 (-2, 0)) : s = bgF n D t S G q i := by rw [h]; exact (if_pos hup).symm
/-! music -/