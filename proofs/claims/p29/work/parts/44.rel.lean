/-- bodies -/
def RB (M : xM) : Prop := M 46 2 = M 62 36 ∧ ∀ j, j < 50 → M 47 j = M 81 j
/-- bytes on the tape -/
def RP (M : xM) : Prop := M 6 2 = M 62 11
/-- NOW, kept and not -/
def RN (M : xM) : Prop := M 13 3 = M 62 9 ∧ M 0 9 = M 62 33 ∧ M 20 3 = M 80 0
/-- skills -/
def RLk (M : xM) : Prop := (∀ j, j < 25 → M 36 j = M 75 j ∧ M 37 j = M 76 j) ∧ LM (M 36) (M 37)
theorem RLk_r {M : xM} (h : RLk M) : LM (M 75) (M 76) := fun j hj => by
  obtain ⟨q, m, h1, h2, h3, h4⟩ := h.2 j hj
  exact ⟨q, m, h1, h2, (h.1 j hj).1.symm.trans h3, (h.1 j hj).2.symm.trans h4⟩
theorem RLk_r1 {M M1 : xM} (k9 : ∀ p k, 62 ≤ p → M1 p k = M p k) (h : RLk M) : LM (M1 75) (M1 76) := fun j hj => by
  obtain ⟨q, m, h1, h2, h3, h4⟩ := RLk_r h j hj
  exact ⟨q, m, h1, h2, (k9 75 j (by decide)).trans h3, (k9 76 j (by decide)).trans h4⟩
theorem bodyD {a b : Prop} (hab : a ↔ b) {c c2 d d2 k r r2 : Int32} {f f2 g g2 : Nat → Int32} (h1 : EBody a c c2 f f2 k r) (h2 : EBody b d d2 g g2 k r2) (hc : c = d) (hf : ∀ j, j < 50 → f j = g j) : r = r2 ∧ c2 = d2 ∧ ∀ j, j < 50 → f2 j = g2 j := by
  subst hc
  rcases h1 with ⟨h1, h3, h4, h5⟩ | ⟨n, hn, hcn, h1, h3⟩ <;> rcases h2 with ⟨g1, g3, g4, g5⟩ | ⟨n2, hn2, hcn2, g1, g3⟩
  · exact ⟨h3.trans g3.symm, h4.trans g4.symm, fun j hj => by rw [h5, g5]; exact hf j hj⟩
  · exact absurd (hab.mpr g1) h1
  · exact absurd (hab.mp h1) g1
  · have e : n = n2 := (nI_eq (by omega) (by omega)).mp (hcn.symm.trans hcn2)
    subst e
    rcases h3 with ⟨a1, a2, a3, a4⟩ | ⟨a1, a2, a3, a4, a5⟩ <;> rcases g3 with ⟨b1, b2, b3, b4⟩ | ⟨b1, b2, b3, b4, b5⟩
    · exact ⟨a2.trans b2.symm, a3.trans b3.symm, fun j hj => by rw [a4, b4]; exact hf j hj⟩
    · omega
    · omega
    · refine ⟨a2.trans b2.symm, a3.trans b3.symm, fun j hj => ?_⟩
      by_cases e : j = n
      · subst e; exact a4.trans b4.symm
      · rw [a5 j e, b5 j e]; exact hf j hj
theorem lt_le {a : Int32} : (0 ≤ a ∧ a < 8) ↔ (0 ≤ a ∧ a ≤ 7) := by grind
theorem lt_le25 {a : Int32} : (0 ≤ a ∧ a < 25) ↔ (0 ≤ a ∧ a ≤ 24) := by grind
theorem jB_body {M M1 M2 : xM} {k r r2 : Int32} (h9 : EBody (0 ≤ k ∧ k < 8) (M 46 2) (M1 46 2) (M 47) (M1 47) k r) (h10 : EBody (0 ≤ k ∧ k ≤ 7) (M1 62 36) (M2 62 36) (M1 81) (M2 81) k r2) (k9 : ∀ p k, 62 ≤ p → M1 p k = M p k) (k10 : ∀ p k, p < 62 → M2 p k = M1 p k) (hB : RB M) : r = r2 ∧ RB M2 := by
  have h := bodyD lt_le h9 h10 (hB.1.trans (k9 62 36 (by decide)).symm) (fun j hj => (hB.2 j hj).trans (k9 81 j (by decide)).symm)
  exact ⟨h.1, (k10 46 2 (by decide)).trans h.2.1, fun j hj => (k10 47 j (by decide)).trans (h.2.2 j hj)⟩
theorem feedD {a b : Prop} (hab : a ↔ b) {c c2 d d2 r r2 : Int32} (h1 : EFeed a c c2 r) (h2 : EFeed b d d2 r2) (hc : c = d) : r = r2 ∧ c2 = d2 := by
  subst hc
  rcases h1 with ⟨h1, h3, h4⟩ | ⟨n, hn, hcn, h1, h3⟩ <;> rcases h2 with ⟨g1, g3, g4⟩ | ⟨n2, hn2, hcn2, g1, g3⟩
  · exact ⟨h3.trans g3.symm, h4.trans g4.symm⟩
  · exact absurd (hab.mpr g1) h1
  · exact absurd (hab.mp h1) g1
  · have e : n = n2 := (nI_eq (by omega) (by omega)).mp (hcn.symm.trans hcn2)
    subst e
    rcases h3 with ⟨a1, a2, a3⟩ | ⟨a1, a2, a3⟩ <;> rcases g3 with ⟨b1, b2, b3⟩ | ⟨b1, b2, b3⟩
    · exact ⟨a2.trans b2.symm, a3.trans b3.symm⟩
    · omega
    · omega
    · exact ⟨a2.trans b2.symm, a3.trans b3.symm⟩
theorem jP_feed {M M1 M2 : xM} {k r r2 : Int32} (h9 : EFeed (0 ≤ k ∧ k ≤ 255) (M 6 2) (M1 6 2) r) (h10 : EFeed (0 ≤ k ∧ k ≤ 255) (M1 62 11) (M2 62 11) r2) (k9 : ∀ p k, 62 ≤ p → M1 p k = M p k) (k10 : ∀ p k, p < 62 → M2 p k = M1 p k) (hP : RP M) : r = r2 ∧ RP M2 := by
  have h := feedD Iff.rfl h9 h10 (hP.trans (k9 62 11 (by decide)).symm)
  exact ⟨h.1, (k10 6 2 (by decide)).trans h.2⟩
theorem jP_law {M M1 M2 : xM} (h9 : M1 6 2 = nI 0) (h10 : M2 62 11 = nI 0) (k9 : ∀ p k, 62 ≤ p → M1 p k = M p k) (k10 : ∀ p k, p < 62 → M2 p k = M1 p k) : RP M2 := (k10 6 2 (by decide)).trans (h9.trans h10.symm)
theorem jN_image {M M1 M2 : xM} {r r2 : Int32} (h9 : r = M 13 3 ∧ M1 20 3 = M 13 3 ∧ M1 0 9 = 1) (h10 : r2 = M1 62 9 ∧ M2 80 0 = M1 62 9 ∧ M2 62 33 = 1) (hk9 : Ke WIM M M1) (hk10 : Ke WRI M1 M2) (k9 : ∀ p k, 62 ≤ p → M1 p k = M p k) (k10 : ∀ p k, p < 62 → M2 p k = M1 p k) (hN : RN M) : r = r2 ∧ RN M2 := by
  have e : M 13 3 = M1 62 9 := hN.1.trans (k9 62 9 (by decide)).symm
  exact ⟨h9.1.trans (e.trans h10.1.symm), ((k10 13 3 (by decide)).trans (hk9 13 3 (by decide))).trans (e.trans (hk10 62 9 (by decide)).symm), (k10 0 9 (by decide)).trans (h9.2.2.trans h10.2.2.symm), (k10 20 3 (by decide)).trans (h9.2.1.trans (e.trans h10.2.1.symm))⟩
theorem jN_back {M M1 M2 : xM} {r r2 : Int32} (h9 : EBack (M 0 9) (M 20 3) (M1 13 3) (M 13 3) r) (h10 : EBack (M1 62 33) (M1 80 0) (M2 62 9) (M1 62 9) r2) (hk9 : Ke W13b M M1) (hk10 : Ke WRBK M1 M2) (k9 : ∀ p k, 62 ≤ p → M1 p k = M p k) (k10 : ∀ p k, p < 62 → M2 p k = M1 p k) (hN : RN M) : r = r2 ∧ RN M2 := by
  rw [k9 62 33 (by decide), k9 80 0 (by decide), k9 62 9 (by decide), ← hN.1, ← hN.2.1, ← hN.2.2] at h10
  have a1 : M2 0 9 = M2 62 33 := ((k10 0 9 (by decide)).trans (hk9 0 9 (by decide))).trans (hN.2.1.trans ((hk10 62 33 (by decide)).trans (k9 62 33 (by decide))).symm)
  have a2 : M2 20 3 = M2 80 0 := ((k10 20 3 (by decide)).trans (hk9 20 3 (by decide))).trans (hN.2.2.trans ((hk10 80 0 (by decide)).trans (k9 80 0 (by decide))).symm)
  have a3 := k10 13 3 (by decide)
  rcases h9 with ⟨h1, h2, h3⟩ | ⟨h1, h2, h3⟩ <;> rcases h10 with ⟨g1, g2, g3⟩ | ⟨g1, g2, g3⟩
  · exact ⟨h2.trans g2.symm, a3.trans (h3.trans g3.symm), a1, a2⟩
  · exact absurd h1 g1
  · exact absurd g1 h1
  · exact ⟨h2.trans g2.symm, a3.trans (h3.trans g3.symm), a1, a2⟩
theorem jN_go {M M1 M2 : xM} {n : Int32} (h9 : EGo n (M 13 3) (M1 13 3)) (h10 : EGo n (M1 62 9) (M2 62 9)) (hk9 : Ke W13t M M1) (hk10 : Ke WRG M1 M2) (k9 : ∀ p k, 62 ≤ p → M1 p k = M p k) (k10 : ∀ p k, p < 62 → M2 p k = M1 p k) (hN : RN M) : RN M2 := by
  rw [k9 62 9 (by decide), ← hN.1] at h10
  have a1 : M2 0 9 = M2 62 33 := ((k10 0 9 (by decide)).trans (hk9 0 9 (by decide))).trans (hN.2.1.trans ((hk10 62 33 (by decide)).trans (k9 62 33 (by decide))).symm)
  have a2 : M2 20 3 = M2 80 0 := ((k10 20 3 (by decide)).trans (hk9 20 3 (by decide))).trans (hN.2.2.trans ((hk10 80 0 (by decide)).trans (k9 80 0 (by decide))).symm)
  refine ⟨(k10 13 3 (by decide)).trans ?_, a1, a2⟩
  rcases h9 with ⟨h1, h2⟩ | ⟨k, hk, h1, h2, h3⟩ <;> rcases h10 with ⟨g1, g2⟩ | ⟨k2, hk2, g1, g2, g3⟩
  · exact h2.trans g2.symm
  · exact absurd g1 h1
  · exact absurd h1 g1
  · rw [h3, g3, h2.symm.trans g2]
theorem jL_skill {M M1 M2 : xM} {g v r r2 : Int32} (h9 : ESkill ((0 ≤ g ∧ g < 25) ∧ (0 ≤ v ∧ v ≤ 12)) (M 36) (M 37) (M1 36) (M1 37) g v r) (h10 : ESkill ((0 ≤ g ∧ g ≤ 24) ∧ (0 ≤ v ∧ v ≤ 12)) (M1 75) (M1 76) (M2 75) (M2 76) g v r2) (k9 : ∀ p k, 62 ≤ p → M1 p k = M p k) (k10 : ∀ p k, p < 62 → M2 p k = M1 p k) (hL : RLk M) : r = r2 ∧ RLk M2 := by
  have c : ∀ j, j < 25 → M2 36 j = M1 36 j ∧ M2 37 j = M1 37 j := fun j _ => ⟨k10 36 j (by decide), k10 37 j (by decide)⟩
  have b : ∀ j, M1 75 j = M 75 j ∧ M1 76 j = M 76 j := fun j => ⟨k9 75 j (by decide), k9 76 j (by decide)⟩
  rcases h9 with ⟨h1, h2, h3, h4⟩ | ⟨h1, j, w, hj, hw, h2, h3, h4, h5, h6, h7⟩ <;> rcases h10 with ⟨g1, g2, g3, g4⟩ | ⟨g1, j2, w2, hj2, hw2, g2, g3, g4, g5, g6, g7⟩
  · refine ⟨h2.trans g2.symm, fun i hi => ?_, fun i hi => ?_⟩
    · rw [(c i hi).1, (c i hi).2, h3, h4, g3, g4, (b i).1, (b i).2]; exact hL.1 i hi
    · rw [(c i hi).1, (c i hi).2, h3, h4]; exact hL.2 i hi
  · exact absurd ⟨lt_le25.mpr g1.1, g1.2⟩ h1
  · exact absurd ⟨lt_le25.mp h1.1, h1.2⟩ g1
  · have ej : j = j2 := (nI_eq (by omega) (by omega)).mp (h2.symm.trans g2)
    subst ej
    have ew : w = w2 := (nI_eq (by omega) (by omega)).mp (h3.symm.trans g3)
    subst ew
    refine ⟨?_, fun i hi => ?_, fun i hi => ?_⟩
    · rw [h4, g4, (b j).1]; exact (hL.1 j hj).1
    · rw [(c i hi).1, (c i hi).2]
      by_cases e : i = j
      · subst e; exact ⟨h5.trans g5.symm, h6.trans g6.symm⟩
      · rw [(h7 i e).1, (h7 i e).2, (g7 i e).1, (g7 i e).2, (b i).1, (b i).2]; exact hL.1 i hi
    · rw [(c i hi).1, (c i hi).2]
      by_cases e : i = j
      · subst e; exact ⟨w, 0, hw, by omega, h5, h6⟩
      · rw [(h7 i e).1, (h7 i e).2]; exact hL.2 i hi
theorem jL_learn {M M1 M2 : xM} {g v r r2 : Int32} (h9 : ELearn ((0 ≤ g ∧ g < 25) ∧ (1 ≤ v ∧ v ≤ 99)) (M 36) (M 37) (M1 36) (M1 37) g v r) (h10 : ELearn ((0 ≤ g ∧ g ≤ 24) ∧ (1 ≤ v ∧ v ≤ 99)) (M1 75) (M1 76) (M2 75) (M2 76) g v r2) (k9 : ∀ p k, 62 ≤ p → M1 p k = M p k) (k10 : ∀ p k, p < 62 → M2 p k = M1 p k) (hL : RLk M) : r = r2 ∧ RLk M2 := by
  have c : ∀ j, j < 25 → M2 36 j = M1 36 j ∧ M2 37 j = M1 37 j := fun j _ => ⟨k10 36 j (by decide), k10 37 j (by decide)⟩
  have b : ∀ j, M1 75 j = M 75 j ∧ M1 76 j = M 76 j := fun j => ⟨k9 75 j (by decide), k9 76 j (by decide)⟩
  rcases h9 with ⟨h1, h2, h3, h4⟩ | ⟨h1, j, N, q, m, hj, hq, hm, hN, h2, h3, h4, h5, h6, h7, h8, hh⟩ <;> rcases h10 with ⟨g1, g2, g3, g4⟩ | ⟨g1, j2, N2, q2, m2, hj2, hq2, hm2, hN2, g2, g3, g4, g5, g6, g7, g8, gg⟩
  · refine ⟨h2.trans g2.symm, fun i hi => ?_, fun i hi => ?_⟩
    · rw [(c i hi).1, (c i hi).2, h3, h4, g3, g4, (b i).1, (b i).2]; exact hL.1 i hi
    · rw [(c i hi).1, (c i hi).2, h3, h4]; exact hL.2 i hi
  · exact absurd ⟨lt_le25.mpr g1.1, g1.2⟩ h1
  · exact absurd ⟨lt_le25.mp h1.1, h1.2⟩ g1
  · have ej : j = j2 := (nI_eq (by omega) (by omega)).mp (h2.symm.trans g2)
    subst ej
    have eN : N = N2 := (nI_eq (by omega) (by omega)).mp (h3.symm.trans g3)
    subst eN
    have eq : q = q2 := (nI_eq (by omega) (by omega)).mp (h4.symm.trans ((hL.1 j hj).1.trans ((b j).1.symm.trans g4)))
    subst eq
    have em : m = m2 := (nI_eq (by omega) (by omega)).mp (h5.symm.trans ((hL.1 j hj).2.trans ((b j).2.symm.trans g5)))
    subst em
    have hb := LrN_b hq hm N
    refine ⟨h6.trans g6.symm, fun i hi => ?_, fun i hi => ?_⟩
    · rw [(c i hi).1, (c i hi).2]
      by_cases e : i = j
      · subst e; exact ⟨h7.trans g7.symm, h8.trans g8.symm⟩
      · rw [(hh i e).1, (hh i e).2, (gg i e).1, (gg i e).2, (b i).1, (b i).2]; exact hL.1 i hi
    · rw [(c i hi).1, (c i hi).2]
      by_cases e : i = j
      · subst e; exact ⟨_, _, hb.1, hb.2, h7, h8⟩
      · rw [(hh i e).1, (hh i e).2]; exact hL.2 i hi
theorem jA_till {M : xM} {g v r r2 : Int32} (h9 : ETill ((0 ≤ g ∧ g < 25) ∧ (0 ≤ v ∧ v ≤ 12)) (M 36) (M 37) g v r) (h10 : ETill ((0 ≤ g ∧ g ≤ 24) ∧ (0 ≤ v ∧ v ≤ 12)) (M 75) (M 76) g v r2) (hL : RLk M) : r = r2 := by
  rcases h9 with ⟨h1, h2⟩ | ⟨h1, j, w, q, m, hj, h2, h3, h4, h5, hq, hm, hw, h6⟩ <;> rcases h10 with ⟨g1, g2⟩ | ⟨g1, j2, w2, q2, m2, hj2, g2, g3, g4, g5, hq2, hm2, hw2, g6⟩
  · exact h2.trans g2.symm
  · exact absurd ⟨lt_le25.mpr g1.1, g1.2⟩ h1
  · exact absurd ⟨lt_le25.mp h1.1, h1.2⟩ g1
  · have ej : j = j2 := (nI_eq (by omega) (by omega)).mp (h2.symm.trans g2)
    subst ej
    have ew : w = w2 := (nI_eq (by omega) (by omega)).mp (h3.symm.trans g3)
    subst ew
    have eq : q = q2 := (nI_eq (by omega) (by omega)).mp (h4.symm.trans ((hL.1 j hj).1.trans g4))
    subst eq
    have em : m = m2 := (nI_eq (by omega) (by omega)).mp (h5.symm.trans ((hL.1 j hj).2.trans g5))
    subst em
    rcases h6 with ⟨a, h6⟩ | ⟨a, h6⟩ <;> rcases g6 with ⟨a2, g6⟩ | ⟨a2, g6⟩
    · exact h6.trans g6.symm
    · omega
    · omega
    · exact h6.trans g6.symm
