theorem in6a {q : Nat} (hq : q < 6) : 0 ≤ nI q ∧ nI q < 6 := ⟨nI_pos' (by omega), nI_lt (a := q) (b := 6) (by omega) (by decide)⟩
theorem in6b {q : Nat} (hq : q < 6) : 0 ≤ nI q ∧ nI q ≤ 5 := ⟨nI_pos' (by omega), nI_le (a := q) (b := 5) (by omega) (by decide)⟩
theorem nI_l0 {t : Nat} (ht : t < 2 ^ 31) : ¬ nI t < 0 := nI_nlt (a := t) (b := 0) (by omega) ht
/-- two shelves' kinds, by both sides -/
theorem sh_k {M : xM} {q p : Nat} (hq : q < 6) (hp : p < 6) (hS : RS M) : ((M (50 + 2 * q) 0 = 0 ∨ M (50 + 2 * p) 0 = 0) ↔ (M 83 q < 0 ∨ M 83 p < 0)) ∧ ((M (50 + 2 * q) 0 = 2 ∧ M (50 + 2 * p) 0 = 2 ∧ M (50 + 2 * q) 2 = M (50 + 2 * p) 2) ↔ (¬ M 83 q < 50 ∧ M 83 q = M 83 p)) := by
  have n0 : ((-1 : Int32) < 0) = True := by decide
  have n1 : ((-1 : Int32) < 50) = True := by decide
  have t0 : ∀ t : Nat, t < 55 → (nI t < 0) = False := fun t ht => eq_false (nI_l0 (by omega))
  have t1 : ∀ t : Nat, t < 50 → (nI t < 50) = True := fun t ht => eq_true (nI_lt (a := t) (b := 50) (by omega) (by decide))
  have t2 : ∀ s : Nat, s ≤ 4 → (nI (50 + s) < 50) = False := fun s hs => eq_false (nI_nlt (a := 50 + s) (b := 50) (by omega) (by omega))
  rcases (hS q hq).2 with ⟨a, b⟩ | ⟨a, t, ht, a2, b, c⟩ | ⟨a, s, hs, a2, b⟩ <;> rcases (hS p hp).2 with ⟨a', b'⟩ | ⟨a', t', ht', a2', b', c'⟩ | ⟨a', s', hs', a2', b'⟩ <;> rw [a, b, a', b']
  · constructor
    · simp
    · simp
  · constructor
    · simp [n0]
    · simp [n1]
  · constructor
    · simp [n0]
    · simp [n1]
  · constructor
    · simp [n0]
    · simp [t1 t ht]
  · constructor
    · simp [t0 t (by omega), t0 t' (by omega)]
    · simp [t1 t ht]
  · constructor
    · simp [t0 t (by omega), t0 (50 + s') (by omega)]
    · simp [t1 t ht]
  · constructor
    · simp [n0]
    · have e : ¬ nI (50 + s) = -1 := fun z => absurd (show nI (50 + s) < 0 by rw [z]; decide) (nI_l0 (by omega))
      simp [e]
  · constructor
    · simp [t0 (50 + s) (by omega), t0 t' (by omega)]
    · have e : ¬ nI (50 + s) = nI t' := fun z => absurd ((nI_eq (by omega) (by omega)).mp z) (by omega)
      simp [e]
  · constructor
    · simp [t0 (50 + s) (by omega), t0 (50 + s') (by omega)]
    · have e : (nI s = nI s') ↔ (nI (50 + s) = nI (50 + s')) := by rw [nI_eq (a := s) (b := s') (by omega) (by omega), nI_eq (a := 50 + s) (b := 50 + s') (by omega) (by omega)]; omega
      rw [a2, a2', e]; simp [t2 s hs]
theorem not_or' {a b : Prop} (h : ¬ a ∧ ¬ b) : ¬ (a ∨ b) := fun q => q.elim h.1 h.2
theorem jSh {M M1 M2 : xM} {J J1 J2 : xJ} {d i t j n r r2 : Int32} (h9 : ESh9 M M1 J J1 d i t j n r) (h10 : ESh10 M1 M2 J1 J2 d i t j n r2) (j10 : ∀ p, ¬ (p = 85 ∨ p = 86) → J2 p = J1 p) (hI : InvC M) (hS : RS M) : r = r2 ∧ (RE J → RE J2) := by
  obtain ⟨-, -, -, -, -, -, -, -, -, -, hlen, -⟩ := hI
  obtain ⟨e9, h1⟩ := h9
  obtain ⟨e10, g1⟩ := h10
  rw [e9] at g1
  rcases h1 with ⟨h1, h2, h3⟩ | ⟨q, p, hq, hp, hd, ht, h1⟩ <;> rcases g1 with ⟨g1, g2, g3⟩ | ⟨q2, p2, hq2, hp2, hd2, ht2, g1⟩
  · exact ⟨h2.trans g2.symm, fun hE => by rw [g3, h3]; exact hE⟩
  · exact absurd ⟨by rw [hd2]; exact in6a hq2, by rw [ht2]; exact in6a hp2⟩ h1
  · exact absurd ⟨by rw [hd]; exact in6b hq, by rw [ht]; exact in6b hp⟩ g1
  · obtain rfl : q = q2 := (nI_eq (by omega) (by omega)).mp (hd.symm.trans hd2)
    obtain rfl : p = p2 := (nI_eq (by omega) (by omega)).mp (ht.symm.trans ht2)
    obtain ⟨k1, k2⟩ := sh_k hq hp hS
    obtain ⟨s, hs, es⟩ := hlen q hq
    obtain ⟨s2, hs2, es2⟩ := hlen p hp
    have o1 := ok_eq (i := i) (n := n) hs es
    have o2 := ok_eq (i := j) (n := n) hs2 es2
    rw [(hS q hq).1] at o1 h1
    rw [(hS p hp).1] at o2 h1
    rcases h1 with ⟨a, b, c⟩ | ⟨a, h1⟩ <;> rcases g1 with ⟨a', b', c'⟩ | ⟨a', g1⟩
    · exact ⟨b.trans b'.symm, fun hE => by rw [c', c]; exact hE⟩
    · exact absurd (k1.mp a) (not_or' a')
    · exact absurd (k1.mpr a') (not_or' a)
    · rcases h1 with ⟨a, b, c⟩ | ⟨a, h1⟩ <;> rcases g1 with ⟨a', b', c'⟩ | ⟨a', g1⟩
      · exact ⟨b.trans b'.symm, fun hE => by rw [c', c]; exact hE⟩
      · exact absurd (k2.mpr a') a
      · exact absurd (k2.mp a) a'
      · rcases h1 with ⟨a, b, c⟩ | ⟨a, b, c⟩ <;> rcases g1 with ⟨a', b', c'⟩ | ⟨a', b', x, y, m, hx, hy, ei, ej, en, c'⟩
        · exact ⟨b.trans b'.symm, fun hE => by rw [c', c]; exact hE⟩
        · exact absurd ⟨o1.mpr a'.1, o2.mpr a'.2⟩ a
        · exact absurd ⟨o1.mp a.1, o2.mp a.2⟩ a'
        · refine ⟨b.trans b'.symm, fun hE u hu v hv => ?_⟩
          have c1 : i.toNatClampNeg = x := by rw [ei, nI_clamp (by omega)]
          have c2 : j.toNatClampNeg = y := by rw [ej, nI_clamp (by omega)]
          have c3 : n.toNatClampNeg = m := by rw [en, nI_clamp (by omega)]
          rw [c1, c2, c3] at c
          have d1 : ∀ z, J1 85 z = J 85 z := fun z => by rw [c, x_rowJ_n _ _ (show (85 : Nat) ≠ 51 + 2 * p by omega)]
          have d2 : J2 (51 + 2 * u) = J1 (51 + 2 * u) := j10 _ (by omega)
          rw [d2, c', d1]
          by_cases e : u = p
          · subst e
            rw [c, x_rowJ_s]
            show (if y ≤ v ∧ v < y + m then J (51 + 2 * q) (x + (v - y)) else J (51 + 2 * u) v) = _
            by_cases h : y ≤ v ∧ v < y + m
            · rw [if_pos h, if_pos ⟨by omega, by omega⟩, hE q hq _ (by omega)]
              congr 1; omega
            · rw [if_neg h, if_neg (by omega), ← c, d1]; exact hE u hu v hv
          · rw [c, x_rowJ_n _ _ (show 51 + 2 * u ≠ 51 + 2 * p by omega), if_neg (by omega), ← c, d1]; exact hE u hu v hv
theorem jE_shift {M M1 M2 : xM} {J J1 J2 : xJ} {d i t j n r r2 : Int32} (h9 : ESh9 M M1 J J1 d i t j n r) (h10 : ESh10 M1 M2 J1 J2 d i t j n r2) (j10 : ∀ p, ¬ (p = 85 ∨ p = 86) → J2 p = J1 p) (hI : InvC M) (hS : RS M) (hE : RE J) : RE J2 := (jSh h9 h10 j10 hI hS).2 hE
/-- an empty shelf has no length; elements of rows of bytes are ints -/
def RY (M : xM) (J : xJ) : Prop := ∀ d, d < 6 → (M (50 + 2 * d) 0 = 0 → M (50 + 2 * d) 3 = 0) ∧ (M 83 d = 50 → ∀ j, j < 60 → ∃ w : Int32, J 85 (60 * d + j) = w.toInt64)
theorem jY_keep {M M1 M2 : xM} {J : xJ} {d w r r2 : Int32} (h9 : EKeep9 M M1 d w r) (h10 : EKeep10 M1 M2 d w r2) (k9 : ∀ p k, 62 ≤ p → M1 p k = M p k) (k10 : ∀ p k, p < 62 → M2 p k = M1 p k) (hI : InvC M) (hB : RB M) (hY : RY M J) : RY M2 J := by
  have hr := jA_keep h9 h10 k9 k10 hB
  obtain ⟨-, -, -, -, -, -, -, ⟨b, hb, e_b⟩, -⟩ := hI
  rcases h9 with ⟨-, h3, h4⟩ | ⟨q, hq, hd, h3, h4⟩ <;> rcases h10 with ⟨-, g3, g4⟩ | ⟨q2, hq2, hd2, g3, g5, g4⟩
  · rw [g4, h4]; exact hY
  · rw [h3, g3] at hr; exact absurd hr (by decide)
  · rw [h3, g3] at hr; exact absurd hr (by decide)
  · obtain rfl : q = q2 := (nI_eq (by omega) (by omega)).mp (hd.symm.trans hd2)
    intro j hj
    have c1 : ∀ k, M2 (50 + 2 * j) k = M1 (50 + 2 * j) k := fun k => k10 _ k (by omega)
    rw [c1, c1]
    by_cases e : j = q
    · subst e
      have d2 : M2 83 j = w := by rw [g4]; exact (up_n (by decide)).trans up_s
      refine ⟨fun _ => by rcases h4 with ⟨-, h6⟩ | ⟨-, -, h6⟩ <;> (rw [h6]; exact up_s), fun z => ?_⟩
      rw [d2] at z
      rcases h4 with ⟨h5, -⟩ | ⟨-, h7, -⟩
      · rw [h5] at z; exact absurd z (by decide)
      · rw [e_b] at h7
        obtain ⟨t, ht, rfl, -⟩ := nI_ub hb h7
        exact absurd ((nI_eq (a := t) (b := 50) (by omega) (by decide)).mp z) (by omega)
    · have d2 : M2 83 j = M 83 j := by rw [g4]; exact (up_n (by decide)).trans ((up_k e).trans (k9 83 j (by decide)))
      have d3 : ∀ k, M1 (50 + 2 * j) k = M (50 + 2 * j) k := fun k => by
        rcases h4 with ⟨-, h6⟩ | ⟨-, -, h6⟩
        · rw [h6]; exact (up_n (by omega)).trans (up_n (by omega))
        · rw [h6]; exact (up_n (by omega)).trans ((up_n (by omega)).trans (up_n (by omega)))
      rw [d2, d3, d3]; exact hY j hj
theorem jY_row {M M1 M2 : xM} {J J1 J2 : xJ} {d s n r r2 : Int32} (h9 : ERow9 M M1 J J1 d s n r) (h10 : ERow10 M1 M2 J1 J2 d s n r2) (k9 : ∀ p k, 62 ≤ p → M1 p k = M p k) (k10 : ∀ p k, p < 62 → M2 p k = M1 p k) (j9 : ∀ p, ¬ (50 ≤ p ∧ p ≤ 61) → J1 p = J p) (hY : RY M J) : RY M2 J2 := by
  obtain ⟨h0, h1⟩ := h9
  obtain ⟨g0, g1⟩ := h10
  rcases h1 with ⟨h2, h3, h4⟩ | ⟨h2, q, hq, hd, h3, h4, h5⟩ <;> rcases g1 with ⟨g2, g3, g4⟩ | ⟨g2, q2, hq2, hd2, g3, g4⟩
  · rw [g3, h3, g4, h4]; exact hY
  · exact absurd (h0.trans (g0.symm.trans g2)) h2
  · exact absurd (g0.trans (h0.symm.trans h2)) g2
  · obtain rfl : q = q2 := (nI_eq (by omega) (by omega)).mp (hd.symm.trans hd2)
    intro j hj
    have c1 : ∀ k, M2 (50 + 2 * j) k = M1 (50 + 2 * j) k := fun k => k10 _ k (by omega)
    rw [c1, c1]
    by_cases e : j = q
    · subst e
      refine ⟨fun z => ?_, fun _ k hk => ⟨0, by rw [g4, if_pos ⟨by omega, by omega⟩]; rfl⟩⟩
      rw [h3] at z
      exact absurd (((up_k (by decide)).trans ((up_k (by decide)).trans up_s)).symm.trans z) (by decide)
    · have d2 : M2 83 j = M 83 j := by rw [g3]; exact (up_n (by decide)).trans ((up_k e).trans (k9 83 j (by decide)))
      have d3 : ∀ k, M1 (50 + 2 * j) k = M (50 + 2 * j) k := fun k => by rw [h3]; exact (up_n (by omega)).trans ((up_n (by omega)).trans (up_n (by omega)))
      rw [d2, d3, d3]
      refine ⟨(hY j hj).1, fun z k hk => ?_⟩
      rw [g4, if_neg (by omega), j9 85 (by omega)]; exact (hY j hj).2 z k hk
theorem jY_put {M M1 M2 : xM} {J J1 J2 : xJ} {d i r r2 : Int32} {v : Int64} (h9 : EPut9 M M1 J J1 d i v r) (h10 : EPut10 M1 M2 J1 J2 d i v r2) (j9 : ∀ p, ¬ (50 ≤ p ∧ p ≤ 61) → J1 p = J p) (hY : RY M J) : RY M2 J2 := by
  obtain ⟨e9, -⟩ := h9
  obtain ⟨e10, g1⟩ := h10
  rw [e10, e9]
  rw [e9] at g1
  have key : ∀ K : xJ, K = J1 → RY M K := fun K hK d2 hd2 => ⟨(hY d2 hd2).1, fun z k hk => by rw [hK, j9 85 (by omega)]; exact (hY d2 hd2).2 z k hk⟩
  rcases g1 with ⟨-, -, g3⟩ | ⟨q, hq, -, ⟨-, -, g3⟩ | ⟨-, -, j, hj, -, g3⟩⟩
  · exact key _ g3
  · exact key _ g3
  · intro a ha
    refine ⟨(hY a ha).1, fun z k hk => ?_⟩
    by_cases e : 60 * a + k = 60 * q + j
    · obtain rfl : a = q := by omega
      rw [g3, e, x_upJ_s, z]
      exact ⟨v.toInt32.toInt8.toInt32, by show asS 0 v = _; rfl⟩
    · rw [g3, x_upJ_k _ _ _ e, j9 85 (by omega)]; exact (hY a ha).2 z k hk
theorem jY_shift {M M1 M2 : xM} {J J1 J2 : xJ} {d i t j n r r2 : Int32} (h9 : ESh9 M M1 J J1 d i t j n r) (h10 : ESh10 M1 M2 J1 J2 d i t j n r2) (j9 : ∀ p, ¬ (50 ≤ p ∧ p ≤ 61) → J1 p = J p) (hY : RY M J) : RY M2 J2 := by
  obtain ⟨e9, -⟩ := h9
  obtain ⟨e10, g1⟩ := h10
  rw [e10, e9]
  rw [e9] at g1
  have key : ∀ K : xJ, K = J1 → RY M K := fun K hK d2 hd2 => ⟨(hY d2 hd2).1, fun z k hk => by rw [hK, j9 85 (by omega)]; exact (hY d2 hd2).2 z k hk⟩
  rcases g1 with ⟨-, -, g3⟩ | ⟨q, p, hq, hp, -, -, ⟨-, -, g3⟩ | ⟨-, ⟨-, -, g3⟩ | ⟨ge, ⟨-, -, g3⟩ | ⟨-, -, x, y, m, hx, hy, -, -, -, g3⟩⟩⟩⟩
  · exact key _ g3
  · exact key _ g3
  · exact key _ g3
  · exact key _ g3
  · intro a ha
    refine ⟨(hY a ha).1, fun z k hk => ?_⟩
    rw [g3]
    by_cases e : 60 * p + y ≤ 60 * a + k ∧ 60 * a + k < 60 * p + y + m
    · obtain rfl : a = p := by omega
      rw [if_pos e, j9 85 (by omega), show 60 * q + x + (60 * a + k - (60 * a + y)) = 60 * q + (x + (k - y)) by omega]
      exact (hY q hq).2 (ge.2.trans z) _ (by omega)
    · rw [if_neg e, j9 85 (by omega)]; exact (hY a ha).2 z k hk