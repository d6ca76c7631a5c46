/-- hoops in thought, as the reference has them -/
def AbR (n : Nat) (M D : xM) : Prop := ∀ i, i < n → M 63 i = D i 0 ∧ M 63 (5 + i) = D i 1 ∧ M 72 i = D i 2 ∧ M 73 i = D i 3 ∧ M 74 i = D i 4
/-- in deed -/
def AbS (n : Nat) (M D : xM) : Prop := ∀ i, i < n → M 63 i = D i 0 ∧ M 63 (5 + i) = D i 1 ∧ M 67 i = D i 2 ∧ M 63 (10 + i) = D i 3 ∧ M 68 i = D i 4
theorem AbR_k {n : Nat} {M M2 D : xM} (h : AbR n M D) (h63 : ∀ k, k < 10 → M2 63 k = M 63 k) (h72 : ∀ k, M2 72 k = M 72 k) (h73 : ∀ k, M2 73 k = M 73 k) (h74 : ∀ k, M2 74 k = M 74 k) (hn : n ≤ 5) : AbR n M2 D := fun i hi => by
  obtain ⟨a, b, c, d, e⟩ := h i hi
  exact ⟨(h63 _ (by omega)).trans a, (h63 _ (by omega)).trans b, (h72 _).trans c, (h73 _).trans d, (h74 _).trans e⟩
theorem AbS_k {n : Nat} {M M2 D : xM} (h : AbS n M D) (h63 : ∀ k, k < 15 → M2 63 k = M 63 k) (h67 : ∀ k, M2 67 k = M 67 k) (h68 : ∀ k, M2 68 k = M 68 k) (hn : n ≤ 5) : AbS n M2 D := fun i hi => by
  obtain ⟨a, b, c, d, e⟩ := h i hi
  exact ⟨(h63 _ (by omega)).trans a, (h63 _ (by omega)).trans b, (h67 _).trans c, (h63 _ (by omega)).trans d, (h68 _).trans e⟩
theorem AbR_72 {n i : Nat} {M D : xM} {v : Int32} (h : AbR n M D) : AbR n (x_up M 72 i v) (x_up D i 2 v) := fun j hj => by
  obtain ⟨a, b, c, d, e⟩ := h j hj
  by_cases q : j = i
  · subst q; exact ⟨(up_n (by decide)).trans (a.trans (up_k (by decide)).symm), (up_n (by decide)).trans (b.trans (up_k (by decide)).symm), up_s.trans up_s.symm, (up_n (by decide)).trans (d.trans (up_k (by decide)).symm), (up_n (by decide)).trans (e.trans (up_k (by decide)).symm)⟩
  · exact ⟨(up_n (by decide)).trans (a.trans (up_n q).symm), (up_n (by decide)).trans (b.trans (up_n q).symm), (up_k q).trans (c.trans (up_n q).symm), (up_n (by decide)).trans (d.trans (up_n q).symm), (up_n (by decide)).trans (e.trans (up_n q).symm)⟩
theorem AbR_73 {n i : Nat} {M D : xM} {v : Int32} (h : AbR n M D) : AbR n (x_up M 73 i v) (x_up D i 3 v) := fun j hj => by
  obtain ⟨a, b, c, d, e⟩ := h j hj
  by_cases q : j = i
  · subst q; exact ⟨(up_n (by decide)).trans (a.trans (up_k (by decide)).symm), (up_n (by decide)).trans (b.trans (up_k (by decide)).symm), (up_n (by decide)).trans (c.trans (up_k (by decide)).symm), up_s.trans up_s.symm, (up_n (by decide)).trans (e.trans (up_k (by decide)).symm)⟩
  · exact ⟨(up_n (by decide)).trans (a.trans (up_n q).symm), (up_n (by decide)).trans (b.trans (up_n q).symm), (up_n (by decide)).trans (c.trans (up_n q).symm), (up_k q).trans (d.trans (up_n q).symm), (up_n (by decide)).trans (e.trans (up_n q).symm)⟩
theorem AbR_74 {n i : Nat} {M D : xM} {v : Int32} (h : AbR n M D) : AbR n (x_up M 74 i v) (x_up D i 4 v) := fun j hj => by
  obtain ⟨a, b, c, d, e⟩ := h j hj
  by_cases q : j = i
  · subst q; exact ⟨(up_n (by decide)).trans (a.trans (up_k (by decide)).symm), (up_n (by decide)).trans (b.trans (up_k (by decide)).symm), (up_n (by decide)).trans (c.trans (up_k (by decide)).symm), (up_n (by decide)).trans (d.trans (up_k (by decide)).symm), up_s.trans up_s.symm⟩
  · exact ⟨(up_n (by decide)).trans (a.trans (up_n q).symm), (up_n (by decide)).trans (b.trans (up_n q).symm), (up_n (by decide)).trans (c.trans (up_n q).symm), (up_n (by decide)).trans (d.trans (up_n q).symm), (up_k q).trans (e.trans (up_n q).symm)⟩
theorem AbR_sD {n i : Nat} {M D : xM} {v : Int32} (h : AbR n M D) (hv : D i 3 = v) : AbR n M (x_up D i 3 v) := fun j hj => by
  by_cases q : j = i
  · subst q; rw [up_k (by decide), up_k (by decide), up_k (by decide), up_s, up_k (by decide), ← hv]; exact h j hj
  · rw [x_up_n _ _ _ q]; exact h j hj
theorem AbR_n {n p k : Nat} {M D : xM} {v : Int32} (h : AbR n M D) (hp : p < 63 ∨ 74 < p ∨ 63 < p ∧ p < 72) : AbR n (x_up M p k v) D := fun j hj => by
  rw [up_n (by omega), up_n (by omega), up_n (by omega), up_n (by omega), up_n (by omega)]; exact h j hj
theorem nm6_r {M : xM} {a b c d e f : Int32} : ∀ j, j < 6 → (x_up (x_up (x_up (x_up (x_up (x_up M 71 0 a) 71 1 b) 71 2 c) 71 3 d) 71 4 e) 71 5 f) 71 j = nm6 a b c d e f j := fun j hj => by
  match j, hj with
  | 0, _ => rfl
  | 1, _ => rfl
  | 2, _ => rfl
  | 3, _ => rfl
  | 4, _ => rfl
  | 5, _ => rfl
/-- the law as the reference has it -/
def LRt (M : xM) (t : Option zL) : Prop := match t with
  | none => M 62 13 = -1
  | some ls => ∃ E f g a2 : Nat, 0 ≤ E ∧ E ≤ 120 ∧ M 62 13 = nI E ∧ txB (M 70) E f g 0 = some (a2, true, ls) ∧ ftF E a2 true = -1 ∧ ∀ nm, CVL nm ls
theorem LRt_k {M M2 : xM} {t : Option zL} (h13 : M2 62 13 = M 62 13) (h70 : M2 70 = M 70) (h : LRt M t) : LRt M2 t := by
  cases t with
  | none => exact h13.trans h
  | some ls =>
    obtain ⟨E, f, g, a2, a, b, c, d, e⟩ := h
    exact ⟨E, f, g, a2, a, b, h13.trans c, by rw [h70]; exact d, e⟩
theorem w_cl_1 {si : Int32} (h : ¬ 0 ≤ si) : (0 : Int32) = w_cl si := (if_pos (by exact Int32.not_le.mp h)).symm
theorem w_cl_2 {si : Int32} (h : 0 ≤ si) (h2 : ¬ si ≤ 9) : (9 : Int32) = w_cl si := by unfold w_cl; rw [if_neg (Int32.not_lt.mpr h), if_pos (Int32.not_le.mp h2)]
theorem w_cl_3 {si : Int32} (h : 0 ≤ si) (h2 : si ≤ 9) : si = w_cl si := by unfold w_cl; rw [if_neg (Int32.not_lt.mpr h), if_neg (Int32.not_lt.mpr h2)]
theorem w_qk_m {pc v x : Int32} (h : ¬ 0 ≤ pc) (e : x = w_cl v) : -x = w_qk pc v := by rw [e]; exact w_qk_n v (Int32.not_le.mp h)
theorem w_qk_q {pc v x : Int32} (h : 0 ≤ pc) (e : x = w_cl v) : x = w_qk pc v := by rw [e]; exact w_qk_p v (Int32.not_lt.mpr h)
theorem w_neg0 : (0 : Int32) = -0 := rfl
theorem w_far_1 {pl go : Int32} (h : ¬ w_ab (pl - go) ≤ 12) : 24 - w_ab (pl - go) = w_far pl go := (if_pos (Int32.not_le.mp h)).symm
theorem w_far_2 {pl go : Int32} (h : w_ab (pl - go) ≤ 12) : w_ab (pl - go) = w_far pl go := (if_neg (Int32.not_lt.mpr h)).symm
theorem w_c9_1 {v : Int32} (h : ¬ -9 ≤ v) : (-9 : Int32) = w_c9 v := (if_pos (Int32.not_le.mp h)).symm
theorem w_c9_2 {v : Int32} (h : -9 ≤ v) (h2 : ¬ v ≤ 9) : (9 : Int32) = w_c9 v := by unfold w_c9; rw [if_neg (Int32.not_lt.mpr h), if_pos (Int32.not_le.mp h2)]
theorem w_c9_3 {v : Int32} (h : -9 ≤ v) (h2 : v ≤ 9) : v = w_c9 v := by unfold w_c9; rw [if_neg (Int32.not_lt.mpr h), if_neg (Int32.not_lt.mpr h2)]
/-- held within 0 .. 20 -/
def w_cr (v : Int32) : Int32 := if 20 < v then 20 else if v < 0 then 0 else v
theorem w_cr_1 {v : Int32} (h : ¬ v ≤ 20) : (20 : Int32) = w_cr v := (if_pos (Int32.not_le.mp h)).symm
theorem w_cr_2 {v : Int32} (h : v ≤ 20) (h2 : ¬ 0 ≤ v) : (0 : Int32) = w_cr v := by unfold w_cr; rw [if_neg (Int32.not_lt.mpr h), if_pos (Int32.not_le.mp h2)]
theorem w_cr_3 {v : Int32} (h : v ≤ 20) (h2 : 0 ≤ v) : v = w_cr v := by unfold w_cr; rw [if_neg (Int32.not_lt.mpr h), if_neg (Int32.not_lt.mpr h2)]
theorem w_cr_t : ∀ a, a < 21 → w_cr (nI a + 1) = (if nI a + 1 < 20 then nI a + 1 else 20) ∧ w_cr (nI a - 2) = (if 0 < nI a - 2 then nI a - 2 else 0) := by decide +kernel
theorem w_cr_h {sz pc hi v : Int32} (h : 0 ≤ hi ∧ hi ≤ 20) (c : w_ab pc < w_need sz ∧ v = hi - 2 ∨ ¬ w_ab pc < w_need sz ∧ v = hi + 1) : w_cr v = w_hi sz pc hi := by
  obtain ⟨a, ha, rfl⟩ := n20 h
  rcases c with ⟨c, e⟩ | ⟨c, e⟩
  · rw [e, (w_cr_t a ha).2]; exact w_hi_2 c
  · rw [e, (w_cr_t a ha).1]; exact w_hi_1 c
theorem le0_eq {n i : Nat} {D : xM} {v : Int32} (h : WF n D) (hi : i < n) (e : v = D i 4) : v ≤ 0 ↔ D i 4 = 0 := by
  rw [e]
  exact ⟨fun q => Int32.le_antisymm q (h i hi).2.2.2.2.1.1, fun q => by rw [q]; decide⟩
/-! what stands at the head of each loop of the reference's ring -/
def RPi (n : Nat) (t : Option zL) (fo go : Int32) (T M1 : xM) (k : Nat) : Prop := ∃ D1, AbR n M1 D1 ∧ WF n D1 ∧ puL t fo go (n - k) k D1 = T
theorem RPi_T {n : Nat} {t : Option zL} {fo go : Int32} {T M1 : xM} (h : RPi n t fo go T M1 n) : AbR n M1 T := by
  obtain ⟨D1, hA, hW, hT⟩ := h
  rw [Nat.sub_self] at hT
  exact (show D1 = T from hT) ▸ hA
theorem RPi_z {n k : Nat} {t : Option zL} {fo go : Int32} {T M1 : xM} (h : RPi n t fo go T M1 k) (hk : k < n) (hz : M1 74 k ≤ 0) : RPi n t fo go T M1 (k + 1) := by
  obtain ⟨D1, hA, hW, hT⟩ := h
  refine ⟨D1, hA, hW, ?_⟩
  rw [← hT, show n - k = (n - (k + 1)) + 1 by omega]
  show _ = puL t fo go (n - (k + 1)) (k + 1) (pu1 t fo go D1 k)
  rw [show pu1 t fo go D1 k = D1 from if_pos ((le0_eq hW hk (hA k hk).2.2.2.2).mp hz)]
theorem RPi_s {n k : Nat} {t : Option zL} {fo go r fa : Int32} {T M1 M2 : xM} (h : RPi n t fo go T M1 k) (hk : k < n) (hz : ¬ M1 74 k ≤ 0) (hM : AbR n M1 = AbR n M1 → ∀ D, AbR n M1 D → AbR n M2 D) (h3 : M2 73 k = M1 73 k)
    (hf : fa = w_far (M1 72 k) go) (hr : r = w_more t fa (w_ab (M1 73 k)) (M1 63 k) (M1 63 (5 + k)) fo (M1 74 k)) : RPi n t fo go T (x_up M2 73 k (w_qk (M2 73 k) (w_ab (M1 73 k) + r))) (k + 1) := by
  obtain ⟨D1, hA, hW, hT⟩ := h
  have hz2 : ¬ D1 k 4 = 0 := fun q => hz ((le0_eq hW hk (hA k hk).2.2.2.2).mpr q)
  obtain ⟨a, b, c, d, e⟩ := hA k hk
  rw [hf, a, b, c, d, e] at hr
  rw [h3, d, hr]
  refine ⟨_, AbR_73 (hM rfl D1 hA), WF_3 hW (w_qk_b _ _) (fun q => absurd q hz2), ?_⟩
  rw [← hT, show n - k = (n - (k + 1)) + 1 by omega]
  show _ = puL t fo go (n - (k + 1)) (k + 1) (pu1 t fo go D1 k)
  rw [show pu1 t fo go D1 k = _ from if_neg hz2]
def RSi (n : Nat) (rub nw : Int32) (T M1 : xM) (k : Nat) : Prop := ∃ D1, AbR n M1 D1 ∧ WF n D1 ∧ s1L rub nw (n - k) k D1 = T
theorem RSi_T {n : Nat} {rub nw : Int32} {T M1 : xM} (h : RSi n rub nw T M1 n) : AbR n M1 T ∧ WF n T := by
  obtain ⟨D1, hA, hW, hT⟩ := h
  rw [Nat.sub_self] at hT
  exact (show D1 = T from hT) ▸ ⟨hA, hW⟩
theorem RSi_nz {n k : Nat} {rub nw : Int32} {T M1 : xM} (h : RSi n rub nw T M1 k) (hk : k < n) : M1 63 (5 + k) ≠ 0 := by
  obtain ⟨D1, hA, hW, hT⟩ := h
  rw [(hA k hk).2.1]; exact ne0_1 (hW k hk).2.1.1
theorem RSi_e {n k : Nat} {rub nw : Int32} {T M2 D1 : xM} (hk : k < n) (hT : s1L rub nw (n - k) k D1 = T) (hW : WF n D1) (hA : AbR n M2 (s11 rub nw D1 k)) : RSi n rub nw T M2 (k + 1) := by
  refine ⟨_, hA, WF_s11 hW hk, ?_⟩
  rw [← hT, show n - k = (n - (k + 1)) + 1 by omega]; rfl
theorem RSi_z {n k : Nat} {rub nw : Int32} {T M1 : xM} (h : RSi n rub nw T M1 k) (hk : k < n) (hz : M1 74 k ≤ 0) : RSi n rub nw T M1 (k + 1) := by
  obtain ⟨D1, hA, hW, hT⟩ := h
  refine RSi_e hk hT hW ?_
  rw [show s11 rub nw D1 k = D1 from if_pos ((le0_eq hW hk (hA k hk).2.2.2.2).mp hz)]; exact hA
theorem RSi_a {n k : Nat} {rub nw : Int32} {T M1 : xM} (h : RSi n rub nw T M1 k) (hk : k < n) (hz : ¬ M1 74 k ≤ 0) (c : ¬ (nw + 1) - (nw + 1) / M1 63 (5 + k) * M1 63 (5 + k) = 0) : RSi n rub nw T (x_up M1 72 k (w_mv (M1 72 k) (M1 73 k))) (k + 1) := by
  obtain ⟨D1, hA, hW, hT⟩ := h
  refine RSi_e hk hT hW ?_
  have hz2 : ¬ D1 k 4 = 0 := fun q => hz ((le0_eq hW hk (hA k hk).2.2.2.2).mpr q)
  rw [(hA k hk).2.1] at c
  rw [(hA k hk).2.2.1, (hA k hk).2.2.2.1]
  have e : s1p rub nw D1 k = D1 k 3 := if_neg c
  unfold s11
  rw [if_neg hz2, e]; exact AbR_72 (AbR_sD hA rfl)
theorem RSi_b {n k : Nat} {rub nw : Int32} {T M1 : xM} (h : RSi n rub nw T M1 k) (hk : k < n) (hz : ¬ M1 74 k ≤ 0) (c : (nw + 1) - (nw + 1) / M1 63 (5 + k) * M1 63 (5 + k) = 0) :
    RSi n rub nw T (x_up (x_up M1 73 k (w_qk (M1 73 k) (w_ab (M1 73 k) - rub))) 72 k (w_mv ((x_up M1 73 k (w_qk (M1 73 k) (w_ab (M1 73 k) - rub))) 72 k) ((x_up M1 73 k (w_qk (M1 73 k) (w_ab (M1 73 k) - rub))) 73 k))) (k + 1) := by
  obtain ⟨D1, hA, hW, hT⟩ := h
  refine RSi_e hk hT hW ?_
  have hz2 : ¬ D1 k 4 = 0 := fun q => hz ((le0_eq hW hk (hA k hk).2.2.2.2).mpr q)
  rw [(hA k hk).2.1] at c
  rw [up_s, up_n (by decide), (hA k hk).2.2.1, (hA k hk).2.2.2.1]
  have e : s1p rub nw D1 k = w_qk (D1 k 3) (w_ab (D1 k 3) - rub) := if_pos c
  unfold s11
  rw [if_neg hz2, e]; exact AbR_72 (AbR_73 hA)
def RJi (n a : Nat) (T M1 : xM) (k : Nat) : Prop := ∃ D1, AbR n M1 D1 ∧ WF n D1 ∧ crJ a (n - k) k D1 = T
theorem RJi_e {n a k : Nat} {T M2 D1 : xM} (hk : k < n) (hT : crJ a (n - k) k D1 = T) (hW : WF n D1) (hA : AbR n M2 (cr1 D1 a k)) : RJi n a T M2 (k + 1) := by
  refine ⟨_, hA, WF_cr1 hW, ?_⟩
  rw [← hT, show n - k = (n - (k + 1)) + 1 by omega]; rfl
theorem RJi_n {n a k : Nat} {T M1 : xM} (hak : a < k) (h : RJi n a T M1 k) (hk : k < n) (c : ¬ (¬ M1 74 a ≤ 0 ∧ ¬ M1 74 k ≤ 0 ∧ M1 72 a = M1 72 k)) : RJi n a T M1 (k + 1) := by
  obtain ⟨D1, hA, hW, hT⟩ := h
  refine RJi_e hk hT hW ?_
  rw [le0_eq hW (show a < n by omega) (hA a (by omega)).2.2.2.2, le0_eq hW hk (hA k hk).2.2.2.2, (hA a (by omega)).2.2.1, (hA k hk).2.2.1] at c
  rw [show cr1 D1 a k = D1 from if_neg c]; exact hA
theorem RJi_y {n a k : Nat} {T M1 : xM} (hak : a < k) (h : RJi n a T M1 k) (hk : k < n) (c : ¬ M1 74 a ≤ 0 ∧ ¬ M1 74 k ≤ 0 ∧ M1 72 a = M1 72 k) :
    RJi n a T (x_up (x_up M1 73 a (w_qk (M1 73 a) (w_ab (M1 73 a) - 1))) 73 k (w_qk ((x_up M1 73 a (w_qk (M1 73 a) (w_ab (M1 73 a) - 1))) 73 k) (w_ab ((x_up M1 73 a (w_qk (M1 73 a) (w_ab (M1 73 a) - 1))) 73 k) - 1))) (k + 1) := by
  obtain ⟨D1, hA, hW, hT⟩ := h
  refine RJi_e hk hT hW ?_
  rw [le0_eq hW (show a < n by omega) (hA a (by omega)).2.2.2.2, le0_eq hW hk (hA k hk).2.2.2.2, (hA a (by omega)).2.2.1, (hA k hk).2.2.1] at c
  rw [show cr1 D1 a k = crA (crA D1 a) k from if_pos c]
  have h1 : AbR n (x_up M1 73 a (w_qk (M1 73 a) (w_ab (M1 73 a) - 1))) (crA D1 a) := by
    rw [(hA a (by omega)).2.2.2.1]; exact AbR_73 hA
  generalize x_up M1 73 a (w_qk (M1 73 a) (w_ab (M1 73 a) - 1)) = M2 at h1 ⊢
  rw [(h1 k hk).2.2.2.1]; exact AbR_73 h1
theorem RJi_T {n a : Nat} {T M1 : xM} (h : RJi n a T M1 n) : AbR n M1 T ∧ WF n T := by
  obtain ⟨D1, hA, hW, hT⟩ := h
  rw [Nat.sub_self] at hT
  exact (show D1 = T from hT) ▸ ⟨hA, hW⟩
def RIi (n : Nat) (T M1 : xM) (k : Nat) : Prop := ∃ D1, AbR n M1 D1 ∧ WF n D1 ∧ crI n (n - k) k D1 = T
theorem RIi_s {n k : Nat} {T M2 D1 : xM} (hk : k < n) (hT : crI n (n - k) k D1 = T) (h : RJi n k (crJ k (n - (k + 1)) (k + 1) D1) M2 n) : RIi n T M2 (k + 1) := by
  obtain ⟨hA, hW⟩ := RJi_T h
  refine ⟨_, hA, hW, ?_⟩
  rw [← hT, show n - k = (n - (k + 1)) + 1 by omega]; rfl
theorem RIi_T {n : Nat} {T M1 : xM} (h : RIi n T M1 n) : AbR n M1 T ∧ WF n T := by
  obtain ⟨D1, hA, hW, hT⟩ := h
  rw [Nat.sub_self] at hT
  exact (show D1 = T from hT) ▸ ⟨hA, hW⟩
def RKi (n : Nat) (T M1 : xM) (k : Nat) : Prop := ∃ D1, AbR n M1 D1 ∧ WF n D1 ∧ skL (n - k) k D1 = T
theorem RKi_e {n k : Nat} {T M2 D1 : xM} (hk : k < n) (hT : skL (n - k) k D1 = T) (hW : WF n D1) (hA : AbR n M2 (sk1 D1 k)) : RKi n T M2 (k + 1) := by
  refine ⟨_, hA, WF_sk1 hW hk, ?_⟩
  rw [← hT, show n - k = (n - (k + 1)) + 1 by omega]; rfl
theorem RKi_z {n k : Nat} {T M1 : xM} (h : RKi n T M1 k) (hk : k < n) (hz : M1 74 k ≤ 0) : RKi n T M1 (k + 1) := by
  obtain ⟨D1, hA, hW, hT⟩ := h
  refine RKi_e hk hT hW ?_
  rw [show sk1 D1 k = D1 from if_pos ((le0_eq hW hk (hA k hk).2.2.2.2).mp hz)]; exact hA
theorem RKi_s {n k : Nat} {h2 p2 v : Int32} {T M1 : xM} (h : RKi n T M1 k) (hk : k < n) (hz : ¬ M1 74 k ≤ 0) (hv : w_ab (M1 73 k) < w_need (M1 63 k) ∧ v = M1 74 k - 2 ∨ ¬ w_ab (M1 73 k) < w_need (M1 63 k) ∧ v = M1 74 k + 1) (hh : h2 = w_cr v) (hp : p2 = if h2 = 0 then 0 else M1 73 k) : RKi n T (x_up (x_up M1 74 k h2) 73 k p2) (k + 1) := by
  obtain ⟨D1, hA, hW, hT⟩ := h
  refine RKi_e hk hT hW ?_
  have hz2 : ¬ D1 k 4 = 0 := fun q => hz ((le0_eq hW hk (hA k hk).2.2.2.2).mpr q)
  obtain ⟨a, b, c, d, e⟩ := hA k hk
  rw [a, d, e] at hv
  rw [w_cr_h (hW k hk).2.2.2.2.1 hv] at hh
  rw [d, hh] at hp
  rw [hp, hh, show sk1 D1 k = _ from if_neg hz2]
  exact AbR_73 (AbR_74 hA)
theorem RKi_T {n : Nat} {T M1 : xM} (h : RKi n T M1 n) : AbR n M1 T := by
  obtain ⟨D1, hA, hW, hT⟩ := h
  rw [Nat.sub_self] at hT
  exact (show D1 = T from hT) ▸ hA
/-! sets of hoops as bits -/
abbrev w_in (S : Int32) (i : Nat) : Prop := (S >>> (nI i &&& 31)) &&& 1 = 1
/-- those of a set as they are, the others lying -/
def w_msk (S : Int32) (D : xM) : xM := fun i k => if (k = 3 ∨ k = 4) ∧ ¬ w_in S i then 0 else D i k
def upB : Nat → (Nat → Bool) → Int32
  | 0, _ => 0
  | n + 1, f => upB n f ||| (if f n = true then 1 <<< (nI n &&& 31) else 0)
def ctB : Nat → (Nat → Bool) → Nat
  | 0, _ => 0
  | n + 1, f => ctB n f + (if f n = true then 1 else 0)
/-- who is up -/
def isU (D : xM) : Nat → Bool := fun i => decide (¬ D i 4 = 0)
def upS (n : Nat) (D : xM) : Int32 := upB n (isU D)
def tb5 (a b c d e : Bool) : Nat → Bool := fun i => if i = 0 then a else if i = 1 then b else if i = 2 then c else if i = 3 then d else e
theorem upB_c {f g : Nat → Bool} : ∀ (n : Nat), (∀ i, i < n → f i = g i) → upB n f = upB n g ∧ ctB n f = ctB n g := by
  intro n
  induction n with
  | zero => intro _; exact ⟨rfl, rfl⟩
  | succ n ih =>
    intro h
    obtain ⟨e1, e2⟩ := ih (fun i hi => h i (by omega))
    have e := h n (by omega)
    exact ⟨by show upB n f ||| _ = upB n g ||| _; rw [e1, e], by show ctB n f + _ = ctB n g + _; rw [e2, e]⟩
theorem tb5_c (f : Nat → Bool) : ∀ i, i < 5 → f i = tb5 (f 0) (f 1) (f 2) (f 3) (f 4) i := fun i hi => by
  match i, hi with
  | 0, _ => rfl
  | 1, _ => rfl
  | 2, _ => rfl
  | 3, _ => rfl
  | 4, _ => rfl
/-- bits counted as the reference does -/
def bcF : Nat → Int32 → Int32 → Int32
  | 0, _, c => c
  | m + 1, lf, c => if lf = 0 then c else bcF m (lf &&& (lf - 1)) (c + 1)
theorem upB_t : ∀ a b c d e : Bool, ∀ n, n < 6 → (∀ k, k < n → (w_in (upB n (tb5 a b c d e)) k ↔ tb5 a b c d e k = true)) ∧ bcF 32 (upB n (tb5 a b c d e)) 0 = nI (ctB n (tb5 a b c d e)) ∧ (upB n (tb5 a b c d e)).toBitVec.toNat ≤ 32 := by decide +kernel
theorem upB_in {n k : Nat} {f : Nat → Bool} (hn : n ≤ 5) (hk : k < n) : w_in (upB n f) k ↔ f k = true := by
  rw [(upB_c n (fun i hi => tb5_c f i (by omega))).1, tb5_c f k (by omega)]
  exact (upB_t _ _ _ _ _ n (by omega)).1 k hk
theorem upB_bc {n : Nat} {f : Nat → Bool} (hn : n ≤ 5) : bcF 32 (upB n f) 0 = nI (ctB n f) := by
  rw [(upB_c n (fun i hi => tb5_c f i (by omega))).1, (upB_c n (fun i hi => tb5_c f i (by omega))).2]
  exact (upB_t _ _ _ _ _ n (by omega)).2.1
theorem upB_le {n : Nat} {f : Nat → Bool} (hn : n ≤ 5) : (upB n f).toBitVec.toNat ≤ 32 := by
  rw [(upB_c n (fun i hi => tb5_c f i (by omega))).1]
  exact (upB_t _ _ _ _ _ n (by omega)).2.2
theorem ctB_up {D : xM} : ∀ (n : Nat), ctB n (isU D) = upn n D := by
  intro n
  induction n with
  | zero => rfl
  | succ n ih =>
    show ctB n (isU D) + (if isU D n = true then 1 else 0) = upn n D + (if D n 4 = 0 then 0 else 1)
    rw [ih]
    by_cases c : D n 4 = 0
    · rw [if_pos c, if_neg (by unfold isU; simp [c])]
    · rw [if_neg c, if_pos (by unfold isU; simp [c])]
theorem upS_in {n k : Nat} {D : xM} (hn : n ≤ 5) (hk : k < n) : w_in (upS n D) k ↔ ¬ D k 4 = 0 := by
  rw [show upS n D = upB n (isU D) from rfl, upB_in hn hk]; unfold isU; simp
theorem upS_bc {n : Nat} {D : xM} (hn : n ≤ 5) : bcF 32 (upS n D) 0 = nI (upn n D) := by
  rw [show upS n D = upB n (isU D) from rfl, upB_bc hn, ctB_up]
theorem upS_z {D : xM} {k : Nat} {u : Int32} (h : u = upS k D) (c : D k 4 = 0) : u ||| 0 = upS (k + 1) D := by
  rw [h]; show _ = upB k (isU D) ||| (if isU D k = true then 1 <<< (nI k &&& 31) else 0)
  rw [if_neg (by unfold isU; simp [c])]; rfl
theorem upS_o {D : xM} {k : Nat} {u : Int32} (h : u = upS k D) (c : ¬ D k 4 = 0) : u ||| (1 <<< (nI k &&& 31)) = upS (k + 1) D := by
  rw [h]; show _ = upB k (isU D) ||| (if isU D k = true then 1 <<< (nI k &&& 31) else 0)
  rw [if_pos (by unfold isU; simp [c])]; rfl
/-- how many of a set lie -/
def lyn (S : Int32) : Nat → xM → Nat
  | 0, _ => 0
  | n + 1, D => lyn S n D + (if w_in S n ∧ D n 4 = 0 then 1 else 0)
theorem lyn_y {S u : Int32} {D : xM} {k : Nat} (h : u = nI (lyn S k D)) (c : w_in S k) (c2 : D k 4 = 0) : u + 1 = nI (lyn S (k + 1) D) := by
  rw [h, show lyn S (k + 1) D = lyn S k D + 1 from by show lyn S k D + (if w_in S k ∧ D k 4 = 0 then 1 else 0) = _; rw [if_pos ⟨c, c2⟩], nI_1]
theorem lyn_n {S u : Int32} {D : xM} {k : Nat} (h : u = nI (lyn S k D)) (c : ¬ (w_in S k ∧ D k 4 = 0)) : u + 0 = nI (lyn S (k + 1) D) := by
  rw [h, show lyn S (k + 1) D = lyn S k D from by show lyn S k D + (if w_in S k ∧ D k 4 = 0 then 1 else 0) = _; rw [if_neg c]; rfl, Int32.add_zero]
theorem lyn_b {S : Int32} {D : xM} : ∀ (n : Nat), lyn S n D ≤ n := by
  intro n
  induction n with
  | zero => exact Nat.le_refl _
  | succ n ih =>
    show lyn S n D + (if w_in S n ∧ D n 4 = 0 then 1 else 0) ≤ n + 1
    have : (if w_in S n ∧ D n 4 = 0 then 1 else 0) ≤ 1 := by split <;> omega
    omega
theorem lyn_up {S : Int32} {D0 D : xM} (hm : mo D0 D) : ∀ (n : Nat), (∀ k, k < n → (w_in S k ↔ ¬ D0 k 4 = 0)) → lyn S n D + upn n D = upn n D0 := by
  intro n
  induction n with
  | zero => intro _; rfl
  | succ n ih =>
    intro hs
    have e := ih (fun k hk => hs k (by omega))
    show lyn S n D + (if w_in S n ∧ D n 4 = 0 then 1 else 0) + (upn n D + (if D n 4 = 0 then 0 else 1)) = upn n D0 + (if D0 n 4 = 0 then 0 else 1)
    by_cases c : D n 4 = 0
    · by_cases c0 : D0 n 4 = 0
      · rw [if_neg (fun q => (hs n (by omega)).mp q.1 c0), if_pos c, if_pos c0]; omega
      · rw [if_pos ⟨(hs n (by omega)).mpr c0, c⟩, if_pos c, if_neg c0]; omega
    · rw [if_neg (fun q => c q.2), if_neg c, if_neg (fun q => c (hm n q))]; omega
