theorem up_n {M : xM} {p q k j : Nat} {v : Int32} (h : q ≠ p) : x_up M p k v q j = M q j := congrFun (x_up_n M k v h) j
theorem up_k {M : xM} {p k j : Nat} {v : Int32} (h : j ≠ k) : x_up M p k v p j = M p j := x_up_k M p v h
theorem up_s {M : xM} {p k : Nat} {v : Int32} : x_up M p k v p k = v := x_up_s M p k v
/-- bodies -/
def RB (M : xM) : Prop := M 46 2 = M 62 36 ∧ ∀ j, j < 50 → M 47 j = M 81 j
/-- what shelves hold -/
def RS (M : xM) : Prop := ∀ d, d < 6 → M (50 + 2 * d) 3 = M 84 d ∧ ((M (50 + 2 * d) 0 = 0 ∧ M 83 d = -1) ∨ (M (50 + 2 * d) 0 = 1 ∧ ∃ t : Nat, t < 50 ∧ M (50 + 2 * d) 1 = nI t ∧ M 83 d = nI t ∧ nI t < M 46 2) ∨ (M (50 + 2 * d) 0 = 2 ∧ ∃ s : Nat, s ≤ 4 ∧ M (50 + 2 * d) 2 = nI s ∧ M 83 d = nI (50 + s)))
/-- elements of rows -/
def RE (J : xJ) : Prop := ∀ d, d < 6 → ∀ j, j < 60 → J (51 + 2 * d) j = J 85 (60 * d + j)
/-- bytes on the tape -/
def RP (M : xM) : Prop := M 6 2 = M 62 11
/-- skills -/
def RLk (M : xM) : Prop := (∀ j, j < 25 → M 36 j = M 75 j ∧ M 37 j = M 76 j) ∧ LM (M 36) (M 37)
theorem RLk_r {M : xM} (h : RLk M) : LM (M 75) (M 76) := fun j hj => by
  obtain ⟨q, m, h1, h2, h3, h4⟩ := h.2 j hj
  exact ⟨q, m, h1, h2, (h.1 j hj).1.symm.trans h3, (h.1 j hj).2.symm.trans h4⟩
theorem RLk_r1 {M M1 : xM} (k9 : ∀ p k, 62 ≤ p → M1 p k = M p k) (h : RLk M) : LM (M1 75) (M1 76) := fun j hj => by
  obtain ⟨q, m, h1, h2, h3, h4⟩ := RLk_r h j hj
  exact ⟨q, m, h1, h2, (k9 75 j (by decide)).trans h3, (k9 76 j (by decide)).trans h4⟩
theorem bodyD {a b : Prop} (hab : a ↔ b) {c c2 d d2 k r r2 : Int32} {f f2 g g2 : Nat → Int32} (h1 : EBody a c c2 f f2 k r) (h2 : EBody b d d2 g g2 k r2) (hc : c = d) (hf : ∀ j, j < 50 → f j = g j) : r = r2 ∧ c2 = d2 ∧ ∀ j, j < 50 → f2 j = g2 j := by
  subst hc
  rcases h1 with ⟨h1, h3, h4, h5⟩ | ⟨n, hn, hcn, h1, h3⟩ <;> rcases h2 with ⟨g1, g3, g4, g5⟩ | ⟨n2, hn2, hcn2, g1, g3⟩
  · exact ⟨h3.trans g3.symm, h4.trans g4.symm, fun j hj => by rw [h5, g5]; exact hf j hj⟩
  · exact absurd (hab.mpr g1) h1
  · exact absurd (hab.mp h1) g1
  · have e : n = n2 := (nI_eq (by omega) (by omega)).mp (hcn.symm.trans hcn2)
    subst e
    rcases h3 with ⟨a1, a2, a3, a4⟩ | ⟨a1, a2, a3, a4, a5⟩ <;> rcases g3 with ⟨b1, b2, b3, b4⟩ | ⟨b1, b2, b3, b4, b5⟩
    · exact ⟨a2.trans b2.symm, a3.trans b3.symm, fun j hj => by rw [a4, b4]; exact hf j hj⟩
    · omega
    · omega
    · refine ⟨a2.trans b2.symm, a3.trans b3.symm, fun j hj => ?_⟩
      by_cases e : j = n
      · subst e; exact a4.trans b4.symm
      · rw [a5 j e, b5 j e]; exact hf j hj
theorem lt_le {a : Int32} : (0 ≤ a ∧ a < 8) ↔ (0 ≤ a ∧ a ≤ 7) := by grind
theorem lt_le6 {a : Int32} : (0 ≤ a ∧ a < 6) ↔ (0 ≤ a ∧ a ≤ 5) := by grind
theorem lt_le25 {a : Int32} : (0 ≤ a ∧ a < 25) ↔ (0 ≤ a ∧ a ≤ 24) := by grind
theorem jB_body {M M1 M2 : xM} {k r r2 : Int32} (h9 : EBody (0 ≤ k ∧ k < 8) (M 46 2) (M1 46 2) (M 47) (M1 47) k r) (h10 : EBody (0 ≤ k ∧ k ≤ 7) (M1 62 36) (M2 62 36) (M1 81) (M2 81) k r2) (k9 : ∀ p k, 62 ≤ p → M1 p k = M p k) (k10 : ∀ p k, p < 62 → M2 p k = M1 p k) (hB : RB M) : r = r2 ∧ RB M2 := by
  have h := bodyD lt_le h9 h10 (hB.1.trans (k9 62 36 (by decide)).symm) (fun j hj => (hB.2 j hj).trans (k9 81 j (by decide)).symm)
  exact ⟨h.1, (k10 46 2 (by decide)).trans h.2.1, fun j hj => (k10 47 j (by decide)).trans (h.2.2 j hj)⟩
theorem jS_body {M M1 M2 : xM} {k r r2 : Int32} (h9 : EBody (0 ≤ k ∧ k < 8) (M 46 2) (M1 46 2) (M 47) (M1 47) k r) (hk9 : Ke WBD M M1) (hk10 : Ke WRY M1 M2) (k9 : ∀ p k, 62 ≤ p → M1 p k = M p k) (k10 : ∀ p k, p < 62 → M2 p k = M1 p k) (hS : RS M) : RS M2 := fun d hd => by
  have e1 : ∀ j, M2 (50 + 2 * d) j = M (50 + 2 * d) j := fun j => (k10 _ j (by omega)).trans (hk9 _ j (by unfold WBD; omega))
  have e2 : M2 83 d = M 83 d := (hk10 83 d (by unfold WRY; omega)).trans (k9 83 d (by decide))
  have e3 : M2 84 d = M 84 d := (hk10 84 d (by unfold WRY; omega)).trans (k9 84 d (by decide))
  have e4 : ∀ t : Nat, t < 50 → nI t < M 46 2 → nI t < M2 46 2 := fun t ht h => by
    rw [k10 46 2 (by decide)]
    rcases h9 with ⟨-, -, h4, -⟩ | ⟨n, hn, hcn, -, ⟨-, -, h4, -⟩ | ⟨hn2, -, h4, -⟩⟩
    · rw [h4]; exact h
    · rw [h4]; exact h
    · rw [hcn] at h; rw [h4]
      have := (nI_ltI (a := t) (b := n) (by omega) (by omega)).mp h
      exact (nI_ltI (a := t) (b := n + 1) (by omega) (by omega)).mpr (by omega)
  obtain ⟨h1, h2⟩ := hS d hd
  rw [e1 3, e1 0, e1 1, e1 2, e2, e3]
  refine ⟨h1, ?_⟩
  rcases h2 with h | ⟨h, t, a, b, c, e⟩ | h
  · exact Or.inl h
  · exact Or.inr (Or.inl ⟨h, t, a, b, c, e4 t a e⟩)
  · exact Or.inr (Or.inr h)
theorem nI_ub {w : Int32} {b : Nat} (hb : b ≤ 50) (h : 0 ≤ w ∧ w < nI b) : ∃ t : Nat, t < 50 ∧ w = nI t ∧ t < b := by
  obtain ⟨t, ht, rfl⟩ := x_nat (N := b) (by omega) rfl h
  exact ⟨t, by omega, rfl, ht⟩
theorem jS_keep {M M1 M2 : xM} {d w r r2 : Int32} (h9 : EKeep9 M M1 d w r) (h10 : EKeep10 M1 M2 d w r2) (k9 : ∀ p k, 62 ≤ p → M1 p k = M p k) (k10 : ∀ p k, p < 62 → M2 p k = M1 p k) (hI : InvC M) (hB : RB M) (hS : RS M) : RS M2 := by
  obtain ⟨-, -, -, -, -, -, -, ⟨b, hb, e_b⟩, -⟩ := hI
  rcases h9 with ⟨h1, h3, h4⟩ | ⟨q, hq, hd, h3, h4⟩ <;> rcases h10 with ⟨g1, g3, g4⟩ | ⟨q2, hq2, hd2, g3, g5, g4⟩
  · rw [g4, h4]; exact hS
  · exfalso
    have e := lt_le6.mpr (show 0 ≤ d ∧ d ≤ 5 by rw [hd2]; exact ⟨nI_pos' (by omega), nI_le (a := q2) (b := 5) (by omega) (by decide)⟩)
    rcases h1 with h1 | ⟨-, h5, h6⟩
    · exact h1 e
    · rcases g5 with g5 | ⟨-, g6⟩
      · exact h5 g5
      · rw [k9 62 36 (by decide), ← hB.1] at g6; exact h6 g6
  · exfalso
    have e := lt_le6.mp (show 0 ≤ d ∧ d < 6 by rw [hd]; exact ⟨nI_pos' (by omega), nI_lt (a := q) (b := 6) (by omega) (by decide)⟩)
    rcases g1 with g1 | ⟨-, g5, g6⟩
    · exact g1 e
    · rcases h4 with ⟨h5, -⟩ | ⟨-, h6, -⟩
      · exact g5 h5
      · rw [k9 62 36 (by decide), ← hB.1] at g6; exact g6 h6
  · have e : q = q2 := (nI_eq (by omega) (by omega)).mp (hd.symm.trans hd2)
    subst e
    intro j hj
    have c1 : ∀ k, M2 (50 + 2 * j) k = M1 (50 + 2 * j) k := fun k => k10 _ k (by omega)
    have c2 : M2 46 2 = M 46 2 := (k10 46 2 (by decide)).trans (by
      rcases h4 with ⟨-, h6⟩ | ⟨-, -, h6⟩
      · rw [h6]; exact (up_n (by omega)).trans (up_n (by omega))
      · rw [h6]; exact (up_n (by omega)).trans ((up_n (by omega)).trans (up_n (by omega))))
    rw [c1, c1, c1, c1, c2]
    by_cases e : j = q
    · subst e
      have d1 : M2 84 j = 0 := by rw [g4]; exact up_s
      have d2 : M2 83 j = w := by rw [g4]; exact (up_n (by decide)).trans up_s
      rw [d1, d2]
      rcases h4 with ⟨h5, h6⟩ | ⟨h5, h7, h6⟩
      · refine ⟨by rw [h6]; exact up_s, Or.inl ⟨by rw [h6]; exact (up_k (by decide)).trans up_s, h5⟩⟩
      · rw [e_b] at h7
        obtain ⟨t, ht, rfl, htb⟩ := nI_ub hb h7
        refine ⟨by rw [h6]; exact up_s, Or.inr (Or.inl ⟨by rw [h6]; exact (up_k (by decide)).trans ((up_k (by decide)).trans up_s), t, ht, by rw [h6]; exact (up_k (by decide)).trans up_s, rfl, by rw [e_b]; exact h7.2⟩)⟩
    · have d1 : M2 84 j = M 84 j := by rw [g4]; exact (up_k e).trans ((up_n (by decide)).trans (k9 84 j (by decide)))
      have d2 : M2 83 j = M 83 j := by rw [g4]; exact (up_n (by decide)).trans ((up_k e).trans (k9 83 j (by decide)))
      have d3 : ∀ k, M1 (50 + 2 * j) k = M (50 + 2 * j) k := fun k => by
        rcases h4 with ⟨-, h6⟩ | ⟨-, -, h6⟩
        · rw [h6]; exact (up_n (by omega)).trans (up_n (by omega))
        · rw [h6]; exact (up_n (by omega)).trans ((up_n (by omega)).trans (up_n (by omega)))
      rw [d1, d2, d3, d3, d3, d3]
      exact hS j hj
theorem jA_keep {M M1 M2 : xM} {d w r r2 : Int32} (h9 : EKeep9 M M1 d w r) (h10 : EKeep10 M1 M2 d w r2) (k9 : ∀ p k, 62 ≤ p → M1 p k = M p k) (k10 : ∀ p k, p < 62 → M2 p k = M1 p k) (hB : RB M) : r = r2 := by
  rcases h9 with ⟨h1, h3, h4⟩ | ⟨q, hq, hd, h3, h4⟩ <;> rcases h10 with ⟨g1, g3, g4⟩ | ⟨q2, hq2, hd2, g3, g5, g4⟩
  · exact h3.trans g3.symm
  · exfalso
    have e := lt_le6.mpr (show 0 ≤ d ∧ d ≤ 5 by rw [hd2]; exact ⟨nI_pos' (by omega), nI_le (a := q2) (b := 5) (by omega) (by decide)⟩)
    rcases h1 with h1 | ⟨-, h5, h6⟩
    · exact h1 e
    · rcases g5 with g5 | ⟨-, g6⟩
      · exact h5 g5
      · rw [k9 62 36 (by decide), ← hB.1] at g6; exact h6 g6
  · exfalso
    have e := lt_le6.mp (show 0 ≤ d ∧ d < 6 by rw [hd]; exact ⟨nI_pos' (by omega), nI_lt (a := q) (b := 6) (by omega) (by decide)⟩)
    rcases g1 with g1 | ⟨-, g5, g6⟩
    · exact g1 e
    · rcases h4 with ⟨h5, -⟩ | ⟨-, h6, -⟩
      · exact g5 h5
      · rw [k9 62 36 (by decide), ← hB.1] at g6; exact g6 h6
  · exact h3.trans g3.symm
theorem rw_1 {d s n : Int32} (h : RW d s n = 1) : ∃ s2 : Nat, s2 ≤ 4 ∧ s = nI s2 := by
  unfold RW at h
  by_cases c : (0 ≤ d ∧ d ≤ 5) ∧ (0 ≤ s ∧ s ≤ 4) ∧ n ≤ 60
  · obtain ⟨s2, h1, h2⟩ := x_natle (v := s) (N := 4) (K := 4) (by decide) (by decide) c.2.1
    exact ⟨s2, h1, h2⟩
  · rw [if_neg c] at h; exact absurd h (by decide)
theorem jS_row {M M1 M2 : xM} {J J1 J2 : xJ} {d s n r r2 : Int32} (h9 : ERow9 M M1 J J1 d s n r) (h10 : ERow10 M1 M2 J1 J2 d s n r2) (k9 : ∀ p k, 62 ≤ p → M1 p k = M p k) (k10 : ∀ p k, p < 62 → M2 p k = M1 p k) (hS : RS M) : RS M2 := by
  obtain ⟨h0, h1⟩ := h9
  obtain ⟨g0, g1⟩ := h10
  rcases h1 with ⟨h2, h3, -⟩ | ⟨h2, q, hq, hd, h3, -⟩ <;> rcases g1 with ⟨g2, g3, -⟩ | ⟨g2, q2, hq2, hd2, g3, -⟩
  · rw [g3, h3]; exact hS
  · exact absurd (h0.trans (g0.symm.trans g2)) h2
  · exact absurd (g0.trans (h0.symm.trans h2)) g2
  · have e : q = q2 := (nI_eq (by omega) (by omega)).mp (hd.symm.trans hd2)
    subst e
    obtain ⟨s2, hs2, es⟩ := rw_1 (h0.symm.trans h2)
    intro j hj
    have c1 : ∀ k, M2 (50 + 2 * j) k = M1 (50 + 2 * j) k := fun k => k10 _ k (by omega)
    have c2 : M2 46 2 = M 46 2 := (k10 46 2 (by decide)).trans (by rw [h3]; exact (up_n (by omega)).trans ((up_n (by omega)).trans (up_n (by omega))))
    rw [c1, c1, c1, c1, c2]
    by_cases e : j = q
    · subst e
      have d1 : M2 84 j = n := by rw [g3]; exact up_s
      have d2 : M2 83 j = 50 + s := by rw [g3]; exact (up_n (by decide)).trans up_s
      rw [d1, d2]
      refine ⟨by rw [h3]; exact up_s, Or.inr (Or.inr ⟨by rw [h3]; exact (up_k (by decide)).trans ((up_k (by decide)).trans up_s), s2, hs2, by rw [h3]; exact (up_k (by decide)).trans (up_s.trans es), by rw [es]; exact nI_a50 s2⟩)⟩
    · have d1 : M2 84 j = M 84 j := by rw [g3]; exact (up_k e).trans ((up_n (by decide)).trans (k9 84 j (by decide)))
      have d2 : M2 83 j = M 83 j := by rw [g3]; exact (up_n (by decide)).trans ((up_k e).trans (k9 83 j (by decide)))
      have d3 : ∀ k, M1 (50 + 2 * j) k = M (50 + 2 * j) k := fun k => by rw [h3]; exact (up_n (by omega)).trans ((up_n (by omega)).trans (up_n (by omega)))
      rw [d1, d2, d3, d3, d3, d3]
      exact hS j hj
theorem jE_row {M M1 M2 : xM} {J J1 J2 : xJ} {d s n r r2 : Int32} (h9 : ERow9 M M1 J J1 d s n r) (h10 : ERow10 M1 M2 J1 J2 d s n r2) (j9 : ∀ p, ¬ (50 ≤ p ∧ p ≤ 61) → J1 p = J p) (j10 : ∀ p, ¬ (p = 85 ∨ p = 86) → J2 p = J1 p) (hE : RE J) : RE J2 := by
  obtain ⟨h0, h1⟩ := h9
  obtain ⟨g0, g1⟩ := h10
  rcases h1 with ⟨h2, -, h3⟩ | ⟨h2, q, hq, hd, -, h3, h4⟩ <;> rcases g1 with ⟨g2, -, g3⟩ | ⟨g2, q2, hq2, hd2, -, g3⟩
  · rw [g3, h3]; exact hE
  · exact absurd (h0.trans (g0.symm.trans g2)) h2
  · exact absurd (g0.trans (h0.symm.trans h2)) g2
  · have e : q = q2 := (nI_eq (by omega) (by omega)).mp (hd.symm.trans hd2)
    subst e
    intro a ha j hj
    rw [j10 (51 + 2 * a) (by omega), g3, j9 85 (by omega)]
    by_cases e : a = q
    · subst e; rw [h4 j hj, if_pos ⟨by omega, by omega⟩]
    · rw [h3 _ (by omega), if_neg (by omega)]; exact hE a ha j hj
theorem ref_eq {M : xM} {q : Nat} {i : Int32} (hq : q < 6) (hS : RS M) : pRef M q i = rRef M q i := by
  obtain ⟨h1, h2⟩ := hS q hq
  unfold pRef rRef
  rw [h1]
  rcases h2 with ⟨a, b⟩ | ⟨a, t, ht, -, b, -⟩ | ⟨a, s, hs, -, b⟩
  · rw [a, b]; rfl
  · have c1 : ¬ nI t < 0 := nI_nlt (a := t) (b := 0) (by omega) (by omega)
    have c2 : nI t < 50 := nI_lt (a := t) (b := 50) (by omega) (by omega)
    rw [a, b, if_neg c1, if_pos c2]; rfl
  · have c1 : ¬ nI (50 + s) < 0 := nI_nlt (a := 50 + s) (b := 0) (by omega) (by omega)
    have c2 : ¬ nI (50 + s) < 50 := nI_nlt (a := 50 + s) (b := 50) (by omega) (by omega)
    rw [a, b, if_neg c1, if_neg c2]; rfl
theorem jE_put {M M1 M2 : xM} {J J1 J2 : xJ} {d i r r2 : Int32} {v : Int64} (h9 : EPut9 M M1 J J1 d i v r) (h10 : EPut10 M1 M2 J1 J2 d i v r2) (hS : RS M) (hE : RE J) : RE J2 := by
  obtain ⟨e9, h1⟩ := h9
  obtain ⟨e10, g1⟩ := h10
  rw [e9] at g1
  rcases h1 with ⟨h1, h2, h3⟩ | ⟨q, hq, hd, h2⟩ <;> rcases g1 with ⟨g1, g2, g3⟩ | ⟨q2, hq2, hd2, g2⟩
  · rw [g3, h3]; exact hE
  · exact absurd (lt_le6.mpr (by rw [hd2]; exact ⟨nI_pos' (by omega), nI_le (a := q2) (b := 5) (by omega) (by decide)⟩)) h1
  · exact absurd (lt_le6.mp (by rw [hd]; exact ⟨nI_pos' (by omega), nI_lt (a := q) (b := 6) (by omega) (by decide)⟩)) g1
  · have e : q = q2 := (nI_eq (by omega) (by omega)).mp (hd.symm.trans hd2)
    subst e
    have e := ref_eq (i := i) hq hS
    rcases h2 with ⟨a, -, h3⟩ | ⟨a, -, j, hj, hi, h3⟩ <;> rcases g2 with ⟨c, -, g3⟩ | ⟨c, -, j2, hj2, hi2, g3⟩
    · rw [g3, h3]; exact hE
    · exact absurd (e.trans c) a
    · exact absurd (e.symm.trans a) c
    · have ej : j = j2 := (nI_eq (by omega) (by omega)).mp (hi.symm.trans hi2)
      subst ej
      have es : M (50 + 2 * q) 2 = M 83 q - 50 := by
        rcases (hS q hq).2 with ⟨b, -⟩ | ⟨b, -⟩ | ⟨b, s, hs, b2, b3⟩
        · unfold pRef at a; rw [if_pos b] at a; exact absurd a (by decide)
        · unfold pRef at a; rw [b] at a; exact absurd (show (-12 : Int32) = 0 from a) (by decide)
        · rw [b2, b3, show nI (50 + s) = nI s + nI 50 by rw [nI_add, Nat.add_comm], show nI 50 = (50 : Int32) from rfl, Int32.add_sub_cancel]
      intro a2 ha2 k hk
      rw [g3, h3, x_upJ_n _ _ _ (show 51 + 2 * a2 ≠ 85 by omega)]
      by_cases e1 : a2 = q ∧ k = j
      · obtain ⟨e1a, e1b⟩ := e1
        rw [e1a, e1b, x_upJ_s, x_upJ_s, es]
      · rw [x_upJ_k _ _ _ (show 60 * a2 + k ≠ 60 * q + j by omega), x_upJ_n _ _ _ (show (85 : Nat) ≠ 51 + 2 * q by omega)]
        by_cases e2 : a2 = q
        · rw [e2, x_upJ_k _ _ _ (fun z => e1 ⟨e2, z⟩)]; exact hE q hq k hk
        · rw [x_upJ_n _ _ _ (show 51 + 2 * a2 ≠ 51 + 2 * q by omega)]; exact hE a2 ha2 k hk
theorem feedD {a b : Prop} (hab : a ↔ b) {c c2 d d2 r r2 : Int32} (h1 : EFeed a c c2 r) (h2 : EFeed b d d2 r2) (hc : c = d) : r = r2 ∧ c2 = d2 := by
  subst hc
  rcases h1 with ⟨h1, h3, h4⟩ | ⟨n, hn, hcn, h1, h3⟩ <;> rcases h2 with ⟨g1, g3, g4⟩ | ⟨n2, hn2, hcn2, g1, g3⟩
  · exact ⟨h3.trans g3.symm, h4.trans g4.symm⟩
  · exact absurd (hab.mpr g1) h1
  · exact absurd (hab.mp h1) g1
  · have e : n = n2 := (nI_eq (by omega) (by omega)).mp (hcn.symm.trans hcn2)
    subst e
    rcases h3 with ⟨a1, a2, a3⟩ | ⟨a1, a2, a3⟩ <;> rcases g3 with ⟨b1, b2, b3⟩ | ⟨b1, b2, b3⟩
    · exact ⟨a2.trans b2.symm, a3.trans b3.symm⟩
    · omega
    · omega
    · exact ⟨a2.trans b2.symm, a3.trans b3.symm⟩
theorem jP_feed {M M1 M2 : xM} {k r r2 : Int32} (h9 : EFeed (0 ≤ k ∧ k ≤ 255) (M 6 2) (M1 6 2) r) (h10 : EFeed (0 ≤ k ∧ k ≤ 255) (M1 62 11) (M2 62 11) r2) (k9 : ∀ p k, 62 ≤ p → M1 p k = M p k) (k10 : ∀ p k, p < 62 → M2 p k = M1 p k) (hP : RP M) : r = r2 ∧ RP M2 := by
  have h := feedD Iff.rfl h9 h10 (hP.trans (k9 62 11 (by decide)).symm)
  exact ⟨h.1, (k10 6 2 (by decide)).trans h.2⟩
theorem jP_law {M M1 M2 : xM} (h9 : M1 6 2 = nI 0) (h10 : M2 62 11 = nI 0) (k9 : ∀ p k, 62 ≤ p → M1 p k = M p k) (k10 : ∀ p k, p < 62 → M2 p k = M1 p k) : RP M2 := (k10 6 2 (by decide)).trans (h9.trans h10.symm)
theorem jL_skill {M M1 M2 : xM} {g v r r2 : Int32} (h9 : ESkill ((0 ≤ g ∧ g < 25) ∧ (0 ≤ v ∧ v ≤ 12)) (M 36) (M 37) (M1 36) (M1 37) g v r) (h10 : ESkill ((0 ≤ g ∧ g ≤ 24) ∧ (0 ≤ v ∧ v ≤ 12)) (M1 75) (M1 76) (M2 75) (M2 76) g v r2) (k9 : ∀ p k, 62 ≤ p → M1 p k = M p k) (k10 : ∀ p k, p < 62 → M2 p k = M1 p k) (hL : RLk M) : r = r2 ∧ RLk M2 := by
  have c : ∀ j, j < 25 → M2 36 j = M1 36 j ∧ M2 37 j = M1 37 j := fun j _ => ⟨k10 36 j (by decide), k10 37 j (by decide)⟩
  have b : ∀ j, M1 75 j = M 75 j ∧ M1 76 j = M 76 j := fun j => ⟨k9 75 j (by decide), k9 76 j (by decide)⟩
  rcases h9 with ⟨h1, h2, h3, h4⟩ | ⟨h1, j, w, hj, hw, h2, h3, h4, h5, h6, h7⟩ <;> rcases h10 with ⟨g1, g2, g3, g4⟩ | ⟨g1, j2, w2, hj2, hw2, g2, g3, g4, g5, g6, g7⟩
  · refine ⟨h2.trans g2.symm, fun i hi => ?_, fun i hi => ?_⟩
    · rw [(c i hi).1, (c i hi).2, h3, h4, g3, g4, (b i).1, (b i).2]; exact hL.1 i hi
    · rw [(c i hi).1, (c i hi).2, h3, h4]; exact hL.2 i hi
  · exact absurd ⟨lt_le25.mpr g1.1, g1.2⟩ h1
  · exact absurd ⟨lt_le25.mp h1.1, h1.2⟩ g1
  · have ej : j = j2 := (nI_eq (by omega) (by omega)).mp (h2.symm.trans g2)
    subst ej
    have ew : w = w2 := (nI_eq (by omega) (by omega)).mp (h3.symm.trans g3)
    subst ew
    refine ⟨?_, fun i hi => ?_, fun i hi => ?_⟩
    · rw [h4, g4, (b j).1]; exact (hL.1 j hj).1
    · rw [(c i hi).1, (c i hi).2]
      by_cases e : i = j
      · subst e; exact ⟨h5.trans g5.symm, h6.trans g6.symm⟩
      · rw [(h7 i e).1, (h7 i e).2, (g7 i e).1, (g7 i e).2, (b i).1, (b i).2]; exact hL.1 i hi
    · rw [(c i hi).1, (c i hi).2]
      by_cases e : i = j
      · subst e; exact ⟨w, 0, hw, by omega, h5, h6⟩
      · rw [(h7 i e).1, (h7 i e).2]; exact hL.2 i hi
theorem jL_learn {M M1 M2 : xM} {g v r r2 : Int32} (h9 : ELearn ((0 ≤ g ∧ g < 25) ∧ (1 ≤ v ∧ v ≤ 99)) (M 36) (M 37) (M1 36) (M1 37) g v r) (h10 : ELearn ((0 ≤ g ∧ g ≤ 24) ∧ (1 ≤ v ∧ v ≤ 99)) (M1 75) (M1 76) (M2 75) (M2 76) g v r2) (k9 : ∀ p k, 62 ≤ p → M1 p k = M p k) (k10 : ∀ p k, p < 62 → M2 p k = M1 p k) (hL : RLk M) : r = r2 ∧ RLk M2 := by
  have c : ∀ j, j < 25 → M2 36 j = M1 36 j ∧ M2 37 j = M1 37 j := fun j _ => ⟨k10 36 j (by decide), k10 37 j (by decide)⟩
  have b : ∀ j, M1 75 j = M 75 j ∧ M1 76 j = M 76 j := fun j => ⟨k9 75 j (by decide), k9 76 j (by decide)⟩
  rcases h9 with ⟨h1, h2, h3, h4⟩ | ⟨h1, j, N, q, m, hj, hq, hm, hN, h2, h3, h4, h5, h6, h7, h8, hh⟩ <;> rcases h10 with ⟨g1, g2, g3, g4⟩ | ⟨g1, j2, N2, q2, m2, hj2, hq2, hm2, hN2, g2, g3, g4, g5, g6, g7, g8, gg⟩
  · refine ⟨h2.trans g2.symm, fun i hi => ?_, fun i hi => ?_⟩
    · rw [(c i hi).1, (c i hi).2, h3, h4, g3, g4, (b i).1, (b i).2]; exact hL.1 i hi
    · rw [(c i hi).1, (c i hi).2, h3, h4]; exact hL.2 i hi
  · exact absurd ⟨lt_le25.mpr g1.1, g1.2⟩ h1
  · exact absurd ⟨lt_le25.mp h1.1, h1.2⟩ g1
  · have ej : j = j2 := (nI_eq (by omega) (by omega)).mp (h2.symm.trans g2)
    subst ej
    have eN : N = N2 := (nI_eq (by omega) (by omega)).mp (h3.symm.trans g3)
    subst eN
    have eq : q = q2 := (nI_eq (by omega) (by omega)).mp (h4.symm.trans ((hL.1 j hj).1.trans ((b j).1.symm.trans g4)))
    subst eq
    have em : m = m2 := (nI_eq (by omega) (by omega)).mp (h5.symm.trans ((hL.1 j hj).2.trans ((b j).2.symm.trans g5)))
    subst em
    have hb := LrN_b hq hm N
    refine ⟨h6.trans g6.symm, fun i hi => ?_, fun i hi => ?_⟩
    · rw [(c i hi).1, (c i hi).2]
      by_cases e : i = j
      · subst e; exact ⟨h7.trans g7.symm, h8.trans g8.symm⟩
      · rw [(hh i e).1, (hh i e).2, (gg i e).1, (gg i e).2, (b i).1, (b i).2]; exact hL.1 i hi
    · rw [(c i hi).1, (c i hi).2]
      by_cases e : i = j
      · subst e; exact ⟨_, _, hb.1, hb.2, h7, h8⟩
      · rw [(hh i e).1, (hh i e).2]; exact hL.2 i hi