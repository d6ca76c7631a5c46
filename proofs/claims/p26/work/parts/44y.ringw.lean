/-- hoops from a place on: what D says of them (0 size, 1 heavy, 2 place, 3 pace, 4 high) -/
def AbC (b n : Nat) (M D : xM) : Prop := ∀ i, i < n → ∀ k, k < 5 → M (b + i) k = D i k
theorem AbC_up {b n : Nat} {M D : xM} {i k : Nat} {v : Int32} (h : AbC b n M D) : AbC b n (x_up M (b + i) k v) (x_up D i k v) := fun j hj m hm => by
  by_cases e : j = i
  · subst e
    by_cases e2 : m = k
    · subst e2; rw [up_s, up_s]
    · rw [up_k e2, up_k e2]; exact h j hj m hm
  · rw [up_n (by omega), up_n e]; exact h j hj m hm
theorem AbC_n {b n : Nat} {M D : xM} {p k : Nat} {v : Int32} (h : AbC b n M D) (hp : p < b ∨ b + n ≤ p) : AbC b n (x_up M p k v) D := fun j hj m hm => by
  rw [up_n (by omega)]; exact h j hj m hm
theorem AbC_sM {b n : Nat} {M D : xM} {i k : Nat} {v : Int32} (h : AbC b n M D) (hv : v = D i k) : AbC b n (x_up M (b + i) k v) D := fun j hj m hm => by
  by_cases e : j = i
  · subst e
    by_cases e2 : m = k
    · subst e2; rw [up_s]; exact hv
    · rw [up_k e2]; exact h j hj m hm
  · rw [up_n (by omega)]; exact h j hj m hm
theorem AbC_sD {b n : Nat} {M D : xM} {i k : Nat} {v : Int32} (h : AbC b n M D) (hv : D i k = v) : AbC b n M (x_up D i k v) := fun j hj m hm => by
  by_cases e : j = i
  · subst e
    by_cases e2 : m = k
    · subst e2; rw [up_s]; exact (h j hj m hm).trans hv
    · rw [up_k e2]; exact h j hj m hm
  · rw [up_n e]; exact h j hj m hm
theorem AbC_k {b n : Nat} {M M2 D : xM} (h : AbC b n M D) (hk : ∀ i, i < n → ∀ j, M2 (b + i) j = M (b + i) j) : AbC b n M2 D := fun i hi k h5 => (hk i hi k).trans (h i hi k h5)
/-- one hoop's five cells -/
theorem AbC_hp {b n i : Nat} {M M2 D D2 : xM} (h : AbC b n M D) (hk : Ke (fun p _ => p = b + i) M M2) (h5 : ∀ k, k < 5 → M2 (b + i) k = D2 i k) (hD : ∀ j, j ≠ i → ∀ k, D2 j k = D j k) : AbC b n M2 D2 := fun j hj k h => by
  by_cases e : j = i
  · subst e; exact h5 k h
  · rw [hk (b + j) k (show ¬ b + j = b + i by omega), hD j e]; rename_i hh; exact hh j hj k h
/-- hoops as they may be -/
def WF (n : Nat) (D : xM) : Prop := ∀ i, i < n → (1 ≤ D i 0 ∧ D i 0 ≤ 9) ∧ (1 ≤ D i 1 ∧ D i 1 ≤ 9) ∧ (0 ≤ D i 2 ∧ D i 2 < 24) ∧ (-9 ≤ D i 3 ∧ D i 3 ≤ 9) ∧ (0 ≤ D i 4 ∧ D i 4 ≤ 20) ∧ (D i 4 = 0 → D i 3 = 0)
theorem WF_2 {n k : Nat} {D : xM} {v : Int32} (h : WF n D) (hv : 0 ≤ v ∧ v < 24) : WF n (x_up D k 2 v) := fun i hi => by
  by_cases e : i = k
  · subst e
    rw [up_k (by decide), up_k (by decide), up_s, up_k (by decide), up_k (by decide)]
    obtain ⟨a, b, c, d, f, g⟩ := h i hi
    exact ⟨a, b, hv, d, f, g⟩
  · rw [x_up_n _ _ _ e]; exact h i hi
theorem WF_3 {n k : Nat} {D : xM} {v : Int32} (h : WF n D) (hv : -9 ≤ v ∧ v ≤ 9) (hz : D k 4 = 0 → v = 0) : WF n (x_up D k 3 v) := fun i hi => by
  by_cases e : i = k
  · subst e
    rw [up_k (by decide), up_k (by decide), up_k (by decide), up_s, up_k (by decide)]
    obtain ⟨a, b, c, d, f, g⟩ := h i hi
    exact ⟨a, b, c, hv, f, hz⟩
  · rw [x_up_n _ _ _ e]; exact h i hi
theorem WF_34 {n k : Nat} {D : xM} {v w : Int32} (h : WF n D) (hv : -9 ≤ v ∧ v ≤ 9) (hw : 0 ≤ w ∧ w ≤ 20) (hz : w = 0 → v = 0) : WF n (x_up (x_up D k 4 w) k 3 v) := fun i hi => by
  by_cases e : i = k
  · subst e
    rw [up_k (by decide), up_k (by decide), up_k (by decide), up_k (by decide), up_k (by decide), up_k (by decide), up_s, up_k (by decide), up_s]
    obtain ⟨a, b, c, d, f, g⟩ := h i hi
    exact ⟨a, b, c, hv, hw, hz⟩
  · rw [x_up_n _ _ _ e, x_up_n _ _ _ e]; exact h i hi
def nm6 (a b c d e f : Int32) : Nat → Int32 := fun j => if j = 0 then a else if j = 1 then b else if j = 2 then c else if j = 3 then d else if j = 4 then e else f
def w_c9 (v : Int32) : Int32 := if v < -9 then -9 else if 9 < v then 9 else v
/-- by how much a pace is more -/
def w_more (t : Option zL) (fr sp sz hv fo hi : Int32) : Int32 := match t with
  | none => if fr ≤ 2 then fo else if 10 ≤ fr then -1 else 0
  | some ls => w_c9 (evT (nm6 fr sp sz hv fo hi) ls)
/-- a push of one hoop, of all -/
def pu1 (t : Option zL) (fo go : Int32) (D : xM) (k : Nat) : xM := if D k 4 = 0 then D else x_up D k 3 (w_qk (D k 3) (w_ab (D k 3) + w_more t (w_far (D k 2) go) (w_ab (D k 3)) (D k 0) (D k 1) fo (D k 4)))
def puL (t : Option zL) (fo go : Int32) : Nat → Nat → xM → xM
  | 0, _, D => D
  | m + 1, k, D => puL t fo go m (k + 1) (pu1 t fo go D k)
/-- rub, place -/
def s1p (rub nw : Int32) (D : xM) (k : Nat) : Int32 := if (nw + 1) - (nw + 1) / D k 1 * D k 1 = 0 then w_qk (D k 3) (w_ab (D k 3) - rub) else D k 3
def s11 (rub nw : Int32) (D : xM) (k : Nat) : xM := if D k 4 = 0 then D else x_up (x_up D k 3 (s1p rub nw D k)) k 2 (w_mv (D k 2) (s1p rub nw D k))
def s1L (rub nw : Int32) : Nat → Nat → xM → xM
  | 0, _, D => D
  | m + 1, k, D => s1L rub nw m (k + 1) (s11 rub nw D k)
/-- crossed -/
def crA (D : xM) (a : Nat) : xM := x_up D a 3 (w_qk (D a 3) (w_ab (D a 3) - 1))
def cr1 (D : xM) (a b : Nat) : xM := if ¬ D a 4 = 0 ∧ ¬ D b 4 = 0 ∧ D a 2 = D b 2 then crA (crA D a) b else D
def crJ (a : Nat) : Nat → Nat → xM → xM
  | 0, _, D => D
  | m + 1, j, D => crJ a m (j + 1) (cr1 D a j)
def crI (n : Nat) : Nat → Nat → xM → xM
  | 0, _, D => D
  | m + 1, a, D => crI n m (a + 1) (crJ a (n - (a + 1)) (a + 1) D)
/-- sinks, climbs -/
def sk1 (D : xM) (k : Nat) : xM := if D k 4 = 0 then D else x_up (x_up D k 4 (w_hi (D k 0) (D k 3) (D k 4))) k 3 (if w_hi (D k 0) (D k 3) (D k 4) = 0 then 0 else D k 3)
def skL : Nat → Nat → xM → xM
  | 0, _, D => D
  | m + 1, k, D => skL m (k + 1) (sk1 D k)
def seT (n : Nat) (rub nw : Int32) (D : xM) : xM := skL n 0 (crI n n 0 (s1L rub nw n 0 D))
abbrev w_due (bt ph nw : Int32) : Prop := nw - nw / bt * bt = ph - ph / bt * bt
def w_go (bt nw : Int32) : Int32 := if nw / bt - nw / bt / 2 * 2 = 0 then 0 else 12
theorem w_go_b (bt nw : Int32) : 0 ≤ w_go bt nw ∧ w_go bt nw < 24 := by
  unfold w_go
  by_cases h : nw / bt - nw / bt / 2 * 2 = 0
  · rw [if_pos h]; decide
  · rw [if_neg h]; decide
/-- what a ring is set to: how many, the law, RUB, BEAT, PHASE, STRENGTH -/
abbrev xP : Type := Nat × Option zL × Int32 × Int32 × Int32 × Int32
def tkp (P : xP) (nw : Int32) (D : xM) : xM := if w_due P.2.2.2.1 P.2.2.2.2.1 nw then puL P.2.1 P.2.2.2.2.2 (w_go P.2.2.2.1 nw) P.1 0 D else D
/-- a tick -/
def tiF (P : xP) (nw : Int32) (D : xM) : xM := seT P.1 P.2.2.1 nw (tkp P nw D)
/-- how many are up -/
def upn : Nat → xM → Nat
  | 0, _ => 0
  | n + 1, D => upn n D + (if D n 4 = 0 then 0 else 1)
/-- who lies, lies -/
def mo (D D2 : xM) : Prop := ∀ i, D i 4 = 0 → D2 i 4 = 0
/-- sizes and heavies stand -/
def st01 (D D2 : xM) : Prop := ∀ i, D2 i 0 = D i 0 ∧ D2 i 1 = D i 1
def st4 (D D2 : xM) : Prop := ∀ i, D2 i 4 = D i 4
theorem mo_rf {D : xM} : mo D D := fun _ h => h
theorem mo_tr {D D2 D3 : xM} (h : mo D D2) (h2 : mo D2 D3) : mo D D3 := fun i hi => h2 i (h i hi)
theorem st4_mo {D D2 : xM} (h : st4 D D2) : mo D D2 := fun i hi => (h i).trans hi
theorem st4_tr {D D2 D3 : xM} (h : st4 D D2) (h2 : st4 D2 D3) : st4 D D3 := fun i => (h2 i).trans (h i)
theorem st01_tr {D D2 D3 : xM} (h : st01 D D2) (h2 : st01 D2 D3) : st01 D D3 := fun i => ⟨(h2 i).1.trans (h i).1, (h2 i).2.trans (h i).2⟩
theorem st01_rf {D : xM} : st01 D D := fun _ => ⟨rfl, rfl⟩
theorem st4_rf {D : xM} : st4 D D := fun _ => rfl
theorem st4_up {D : xM} {k j : Nat} {v : Int32} (hj : j ≠ 4) : st4 D (x_up D k j v) := fun i => by
  by_cases e : i = k
  · subst e; exact up_k (fun q => hj q.symm)
  · exact up_n e
theorem st01_up {D : xM} {k j : Nat} {v : Int32} (hj : 2 ≤ j) : st01 D (x_up D k j v) := fun i => by
  by_cases e : i = k
  · subst e; exact ⟨up_k (by omega), up_k (by omega)⟩
  · exact ⟨up_n e, up_n e⟩
theorem pu1_s {t : Option zL} {fo go : Int32} {D : xM} {k : Nat} : st4 D (pu1 t fo go D k) ∧ st01 D (pu1 t fo go D k) := by
  unfold pu1; split
  · exact ⟨st4_rf, st01_rf⟩
  · exact ⟨st4_up (by decide), st01_up (by decide)⟩
theorem puL_s {t : Option zL} {fo go : Int32} : ∀ (m k : Nat) (D : xM), st4 D (puL t fo go m k D) ∧ st01 D (puL t fo go m k D) := by
  intro m
  induction m with
  | zero => exact fun k D => ⟨st4_rf, st01_rf⟩
  | succ m ih => exact fun k D => ⟨st4_tr pu1_s.1 (ih (k + 1) _).1, st01_tr pu1_s.2 (ih (k + 1) _).2⟩
theorem s11_s {rub nw : Int32} {D : xM} {k : Nat} : st4 D (s11 rub nw D k) ∧ st01 D (s11 rub nw D k) := by
  unfold s11; split
  · exact ⟨st4_rf, st01_rf⟩
  · exact ⟨st4_tr (st4_up (by decide)) (st4_up (by decide)), st01_tr (st01_up (by decide)) (st01_up (by decide))⟩
theorem s1L_s {rub nw : Int32} : ∀ (m k : Nat) (D : xM), st4 D (s1L rub nw m k D) ∧ st01 D (s1L rub nw m k D) := by
  intro m
  induction m with
  | zero => exact fun k D => ⟨st4_rf, st01_rf⟩
  | succ m ih => exact fun k D => ⟨st4_tr s11_s.1 (ih (k + 1) _).1, st01_tr s11_s.2 (ih (k + 1) _).2⟩
theorem cr1_s {D : xM} {a b : Nat} : st4 D (cr1 D a b) ∧ st01 D (cr1 D a b) := by
  unfold cr1; split
  · exact ⟨st4_tr (st4_up (by decide)) (st4_up (by decide)), st01_tr (st01_up (by decide)) (st01_up (by decide))⟩
  · exact ⟨st4_rf, st01_rf⟩
theorem crJ_s {a : Nat} : ∀ (m k : Nat) (D : xM), st4 D (crJ a m k D) ∧ st01 D (crJ a m k D) := by
  intro m
  induction m with
  | zero => exact fun k D => ⟨st4_rf, st01_rf⟩
  | succ m ih => exact fun k D => ⟨st4_tr cr1_s.1 (ih (k + 1) _).1, st01_tr cr1_s.2 (ih (k + 1) _).2⟩
theorem crI_s {n : Nat} : ∀ (m k : Nat) (D : xM), st4 D (crI n m k D) ∧ st01 D (crI n m k D) := by
  intro m
  induction m with
  | zero => exact fun k D => ⟨st4_rf, st01_rf⟩
  | succ m ih => exact fun k D => ⟨st4_tr (crJ_s _ _ _).1 (ih (k + 1) _).1, st01_tr (crJ_s _ _ _).2 (ih (k + 1) _).2⟩
theorem sk1_m {D : xM} {k : Nat} : mo D (sk1 D k) ∧ st01 D (sk1 D k) := by
  unfold sk1
  by_cases c : D k 4 = 0
  · rw [if_pos c]; exact ⟨mo_rf, st01_rf⟩
  · rw [if_neg c]
    refine ⟨fun i hi => ?_, st01_tr (st01_up (by decide)) (st01_up (by decide))⟩
    by_cases e : i = k
    · subst e; exact absurd hi c
    · rw [up_n e, up_n e]; exact hi
theorem skL_m : ∀ (m k : Nat) (D : xM), mo D (skL m k D) ∧ st01 D (skL m k D) := by
  intro m
  induction m with
  | zero => exact fun k D => ⟨mo_rf, st01_rf⟩
  | succ m ih => exact fun k D => ⟨mo_tr sk1_m.1 (ih (k + 1) _).1, st01_tr sk1_m.2 (ih (k + 1) _).2⟩
theorem s1c_s {n : Nat} {rub nw : Int32} {D : xM} : st4 D (crI n n 0 (s1L rub nw n 0 D)) ∧ st01 D (crI n n 0 (s1L rub nw n 0 D)) := ⟨st4_tr (s1L_s _ _ _).1 (crI_s _ _ _).1, st01_tr (s1L_s _ _ _).2 (crI_s _ _ _).2⟩
theorem seT_m {n : Nat} {rub nw : Int32} {D : xM} : mo D (seT n rub nw D) ∧ st01 D (seT n rub nw D) := ⟨mo_tr (st4_mo s1c_s.1) (skL_m _ _ _).1, st01_tr s1c_s.2 (skL_m _ _ _).2⟩
theorem tkp_s {P : xP} {nw : Int32} {D : xM} : st4 D (tkp P nw D) ∧ st01 D (tkp P nw D) := by
  unfold tkp; split
  · exact puL_s _ _ _
  · exact ⟨st4_rf, st01_rf⟩
theorem tiF_m {P : xP} {nw : Int32} {D : xM} : mo D (tiF P nw D) ∧ st01 D (tiF P nw D) := ⟨mo_tr (st4_mo tkp_s.1) seT_m.1, st01_tr tkp_s.2 seT_m.2⟩
theorem upn_c {D D2 : xM} : ∀ (n : Nat), (∀ i, i < n → (D i 4 = 0 ↔ D2 i 4 = 0)) → upn n D = upn n D2 := by
  intro n
  induction n with
  | zero => intro _; rfl
  | succ n ih =>
    intro h
    have e := ih (fun i hi => h i (by omega))
    have e2 := h n (by omega)
    show upn n D + (if D n 4 = 0 then 0 else 1) = upn n D2 + (if D2 n 4 = 0 then 0 else 1)
    rw [e]
    by_cases c : D n 4 = 0
    · rw [if_pos c, if_pos (e2.mp c)]
    · rw [if_neg c, if_neg (fun q => c (e2.mpr q))]
theorem upn_4 {D D2 : xM} {n : Nat} (h : st4 D D2) : upn n D2 = upn n D := upn_c n (fun i _ => by rw [h i])
theorem upn_le {D D2 : xM} (h : mo D D2) : ∀ (n : Nat), upn n D2 ≤ upn n D := by
  intro n
  induction n with
  | zero => exact Nat.le_refl _
  | succ n ih =>
    show upn n D2 + (if D2 n 4 = 0 then 0 else 1) ≤ upn n D + (if D n 4 = 0 then 0 else 1)
    by_cases c : D n 4 = 0
    · rw [if_pos c, if_pos (h n c)]; exact ih
    · rw [if_neg c]
      have : (if D2 n 4 = 0 then 0 else 1) ≤ 1 := by split <;> omega
      omega
theorem upn_lt {D D2 : xM} {k : Nat} (h : mo D D2) (h1 : ¬ D k 4 = 0) (h2 : D2 k 4 = 0) : ∀ (n : Nat), k < n → upn n D2 < upn n D := by
  intro n
  induction n with
  | zero => intro q; exact absurd q (Nat.not_lt_zero k)
  | succ n ih =>
    intro hk
    show upn n D2 + (if D2 n 4 = 0 then 0 else 1) < upn n D + (if D n 4 = 0 then 0 else 1)
    by_cases e : k = n
    · subst e
      have := upn_le h k
      rw [if_neg h1, if_pos h2]; omega
    · have := ih (by omega)
      by_cases c : D n 4 = 0
      · rw [if_pos c, if_pos (h n c)]; exact this
      · rw [if_neg c]
        have : (if D2 n 4 = 0 then 0 else 1) ≤ 1 := by split <;> omega
        omega
theorem WF_pu1 {n : Nat} {t : Option zL} {fo go : Int32} {D : xM} {k : Nat} (h : WF n D) : WF n (pu1 t fo go D k) := by
  unfold pu1
  by_cases c : D k 4 = 0
  · rw [if_pos c]; exact h
  · rw [if_neg c]; exact WF_3 h (w_qk_b _ _) (fun q => absurd q c)
theorem WF_puL {n : Nat} {t : Option zL} {fo go : Int32} : ∀ (m k : Nat) (D : xM), WF n D → WF n (puL t fo go m k D) := by
  intro m
  induction m with
  | zero => exact fun k D h => h
  | succ m ih => exact fun k D h => ih (k + 1) _ (WF_pu1 h)
theorem s1p_b {n : Nat} {rub nw : Int32} {D : xM} {k : Nat} (h : WF n D) (hk : k < n) : -9 ≤ s1p rub nw D k ∧ s1p rub nw D k ≤ 9 := by
  unfold s1p; split
  · exact w_qk_b _ _
  · exact (h k hk).2.2.2.1
theorem WF_s11 {n : Nat} {rub nw : Int32} {D : xM} {k : Nat} (h : WF n D) (hk : k < n) : WF n (s11 rub nw D k) := by
  unfold s11
  by_cases c : D k 4 = 0
  · rw [if_pos c]; exact h
  · rw [if_neg c]; exact WF_2 (WF_3 h (s1p_b h hk) (fun q => absurd q c)) (w_mv_b (h k hk).2.2.1 (s1p_b h hk))
theorem WF_s1L {n : Nat} {rub nw : Int32} : ∀ (m k : Nat) (D : xM), k + m ≤ n → WF n D → WF n (s1L rub nw m k D) := by
  intro m
  induction m with
  | zero => exact fun k D _ h => h
  | succ m ih => exact fun k D hk h => ih (k + 1) _ (by omega) (WF_s11 h (by omega))
theorem WF_crA {n : Nat} {D : xM} {a : Nat} (h : WF n D) (c : ¬ D a 4 = 0) : WF n (crA D a) := WF_3 h (w_qk_b _ _) (fun q => absurd q c)
theorem crA_4 {D : xM} {a : Nat} : st4 D (crA D a) := st4_up (by decide)
theorem WF_cr1 {n : Nat} {D : xM} {a b : Nat} (h : WF n D) : WF n (cr1 D a b) := by
  unfold cr1
  by_cases c : ¬ D a 4 = 0 ∧ ¬ D b 4 = 0 ∧ D a 2 = D b 2
  · rw [if_pos c]; exact WF_crA (WF_crA h c.1) (by rw [crA_4 b]; exact c.2.1)
  · rw [if_neg c]; exact h
theorem WF_crJ {n a : Nat} : ∀ (m k : Nat) (D : xM), WF n D → WF n (crJ a m k D) := by
  intro m
  induction m with
  | zero => exact fun k D h => h
  | succ m ih => exact fun k D h => ih (k + 1) _ (WF_cr1 h)
theorem WF_crI {n p : Nat} : ∀ (m k : Nat) (D : xM), WF n D → WF n (crI p m k D) := by
  intro m
  induction m with
  | zero => exact fun k D h => h
  | succ m ih => exact fun k D h => ih (k + 1) _ (WF_crJ _ _ _ h)
theorem WF_sk1 {n : Nat} {D : xM} {k : Nat} (h : WF n D) (hk : k < n) : WF n (sk1 D k) := by
  unfold sk1
  by_cases c : D k 4 = 0
  · rw [if_pos c]; exact h
  · rw [if_neg c]
    refine WF_34 h ?_ (w_hi_b (h k hk).2.2.2.2.1) (fun z => if_pos z)
    split
    · decide
    · exact (h k hk).2.2.2.1
theorem WF_skL {n : Nat} : ∀ (m k : Nat) (D : xM), k + m ≤ n → WF n D → WF n (skL m k D) := by
  intro m
  induction m with
  | zero => exact fun k D _ h => h
  | succ m ih => exact fun k D hk h => ih (k + 1) _ (by omega) (WF_sk1 h (by omega))
theorem WF_seT {n : Nat} {rub nw : Int32} {D : xM} (h : WF n D) : WF n (seT n rub nw D) := WF_skL _ _ _ (by omega) (WF_crI _ _ _ (WF_s1L _ _ _ (by omega) h))
theorem WF_tkp {P : xP} {nw : Int32} {D : xM} (h : WF P.1 D) : WF P.1 (tkp P nw D) := by
  unfold tkp; split
  · exact WF_puL _ _ _ h
  · exact h
theorem WF_tiF {P : xP} {nw : Int32} {D : xM} (h : WF P.1 D) : WF P.1 (tiF P nw D) := WF_seT (WF_tkp h)
/-! what stands at the head of each loop of the class's ring -/
def PUi (b n : Nat) (t : Option zL) (fo go : Int32) (T M1 : xM) (k : Nat) : Prop := ∃ D1, AbC b n M1 D1 ∧ WF n D1 ∧ puL t fo go (n - k) k D1 = T
theorem PUi_T {b n : Nat} {t : Option zL} {fo go : Int32} {T M1 : xM} (h : PUi b n t fo go T M1 n) : AbC b n M1 T := by
  obtain ⟨D1, hA, hW, hT⟩ := h
  rw [Nat.sub_self] at hT
  exact (show D1 = T from hT) ▸ hA
theorem PUi_z {b n k : Nat} {t : Option zL} {fo go : Int32} {T M1 : xM} (h : PUi b n t fo go T M1 k) (hk : k < n) (hz : M1 (b + k) 4 = 0) : PUi b n t fo go T M1 (k + 1) := by
  obtain ⟨D1, hA, hW, hT⟩ := h
  refine ⟨D1, hA, hW, ?_⟩
  rw [← hT, show n - k = (n - (k + 1)) + 1 by omega]
  show _ = puL t fo go (n - (k + 1)) (k + 1) (pu1 t fo go D1 k)
  rw [show pu1 t fo go D1 k = D1 from if_pos ((hA k hk 4 (by decide)).symm.trans hz)]
theorem PUi_s {b n k : Nat} {t : Option zL} {fo go r : Int32} {T M1 M2 : xM} (hgo : 0 ≤ go ∧ go < 24) (h : PUi b n t fo go T M1 k) (hk : k < n) (hz : ¬ M1 (b + k) 4 = 0) (hM : ∀ i, i < n → ∀ j, M2 (b + i) j = M1 (b + i) j)
    (hr : r = w_more t (w_ff (M1 (b + k) 2 - go)) (w_ab (M1 (b + k) 3)) (M1 (b + k) 0) (M1 (b + k) 1) fo (M1 (b + k) 4)) : PUi b n t fo go T (x_up M2 (b + k) 3 (w_qk (M2 (b + k) 3) (w_ab (M2 (b + k) 3) + r))) (k + 1) := by
  obtain ⟨D1, hA, hW, hT⟩ := h
  rw [hA k hk 0 (by decide), hA k hk 1 (by decide), hA k hk 2 (by decide), hA k hk 3 (by decide), hA k hk 4 (by decide), w_far_c (hW k hk).2.2.1 hgo] at hr
  rw [hA k hk 4 (by decide)] at hz
  rw [hM k hk 3, hA k hk 3 (by decide), hr]
  refine ⟨_, AbC_up (AbC_k hA hM), WF_3 hW (w_qk_b _ _) (fun q => absurd q hz), ?_⟩
  rw [← hT, show n - k = (n - (k + 1)) + 1 by omega]
  show _ = puL t fo go (n - (k + 1)) (k + 1) (pu1 t fo go D1 k)
  rw [show pu1 t fo go D1 k = _ from if_neg hz]
def S1i (b n : Nat) (rub nw : Int32) (T M1 : xM) (k : Nat) : Prop := ∃ D1, AbC b n M1 D1 ∧ WF n D1 ∧ s1L rub nw (n - k) k D1 = T
theorem S1i_T {b n : Nat} {rub nw : Int32} {T M1 : xM} (h : S1i b n rub nw T M1 n) : AbC b n M1 T ∧ WF n T := by
  obtain ⟨D1, hA, hW, hT⟩ := h
  rw [Nat.sub_self] at hT
  exact (show D1 = T from hT) ▸ ⟨hA, hW⟩
theorem S1i_e {b n k : Nat} {rub nw : Int32} {T M2 D1 : xM} (hk : k < n) (hT : s1L rub nw (n - k) k D1 = T) (hW : WF n D1) (hA : AbC b n M2 (s11 rub nw D1 k)) : S1i b n rub nw T M2 (k + 1) := by
  refine ⟨_, hA, WF_s11 hW hk, ?_⟩
  rw [← hT, show n - k = (n - (k + 1)) + 1 by omega]; rfl
theorem ne0_1 {v : Int32} (h : 1 ≤ v) : ¬ v = 0 := fun q => by rw [q] at h; exact absurd h (by decide)
theorem S1i_a {b n k : Nat} {rub nw : Int32} {T M1 : xM} (h : S1i b n rub nw T M1 k) (hk : k < n) (c : ¬ (if M1 (b + k) 1 = 0 then 0 else (nw + 1) - (nw + 1) / M1 (b + k) 1 * M1 (b + k) 1) = 0) : S1i b n rub nw T (x_up M1 (b + k) 2 (fm24 (M1 (b + k) 2 + M1 (b + k) 3))) (k + 1) := by
  obtain ⟨D1, hA, hW, hT⟩ := h
  refine S1i_e hk hT hW ?_
  obtain ⟨-, h1, h2, h3, -, h0⟩ := hW k hk
  rw [hA k hk 1 (by decide), if_neg (ne0_1 h1.1)] at c
  rw [hA k hk 2 (by decide), hA k hk 3 (by decide), w_mv_c h2 h3]
  have e : s1p rub nw D1 k = D1 k 3 := if_neg c
  unfold s11
  by_cases z : D1 k 4 = 0
  · rw [if_pos z]; exact AbC_sM hA (by rw [h0 z]; exact w_mv_0 h2)
  · rw [if_neg z, e]; exact AbC_up (AbC_sD hA rfl)
theorem S1i_b {b n k : Nat} {rub nw : Int32} {T M1 : xM} (hrub : 0 ≤ rub ∧ rub ≤ 3) (h : S1i b n rub nw T M1 k) (hk : k < n) (c : (if M1 (b + k) 1 = 0 then 0 else (nw + 1) - (nw + 1) / M1 (b + k) 1 * M1 (b + k) 1) = 0) :
    S1i b n rub nw T (x_up (x_up M1 (b + k) 3 (w_qk (M1 (b + k) 3) (w_ab (M1 (b + k) 3) + -rub))) (b + k) 2 (fm24 ((x_up M1 (b + k) 3 (w_qk (M1 (b + k) 3) (w_ab (M1 (b + k) 3) + -rub))) (b + k) 2 + (x_up M1 (b + k) 3 (w_qk (M1 (b + k) 3) (w_ab (M1 (b + k) 3) + -rub))) (b + k) 3))) (k + 1) := by
  obtain ⟨D1, hA, hW, hT⟩ := h
  refine S1i_e hk hT hW ?_
  obtain ⟨-, h1, h2, h3, -, h0⟩ := hW k hk
  rw [hA k hk 1 (by decide), if_neg (ne0_1 h1.1)] at c
  rw [up_s, up_k (by decide), hA k hk 2 (by decide), hA k hk 3 (by decide), w_mv_c h2 (w_qk_b _ _), ← Int32.sub_eq_add_neg]
  have e : s1p rub nw D1 k = w_qk (D1 k 3) (w_ab (D1 k 3) - rub) := if_pos c
  unfold s11
  by_cases z : D1 k 4 = 0
  · have e2 : w_qk (D1 k 3) (w_ab (D1 k 3) - rub) = D1 k 3 := by
      rw [h0 z]; exact w_qk_0 (by
        obtain ⟨r, hr, er⟩ := x_natle (v := rub) (N := 3) (K := 3) (by decide) (by decide) hrub
        rw [er]; exact (show ∀ r, r ≤ 3 → w_ab 0 - nI r ≤ 0 by decide +kernel) r hr)
    rw [if_pos z, e2]
    exact AbC_sM (AbC_sM hA rfl) (by rw [h0 z]; exact w_mv_0 h2)
  · rw [if_neg z, e]; exact AbC_up (AbC_up hA)
def CJi (b n a : Nat) (T M1 : xM) (k : Nat) : Prop := ∃ D1, AbC b n M1 D1 ∧ WF n D1 ∧ crJ a (n - k) k D1 = T
theorem CJi_e {b n a k : Nat} {T M2 D1 : xM} (hk : k < n) (hT : crJ a (n - k) k D1 = T) (hW : WF n D1) (hA : AbC b n M2 (cr1 D1 a k)) : CJi b n a T M2 (k + 1) := by
  refine ⟨_, hA, WF_cr1 hW, ?_⟩
  rw [← hT, show n - k = (n - (k + 1)) + 1 by omega]; rfl
theorem CJi_n {b n a k : Nat} {T M1 : xM} (hak : a < k) (h : CJi b n a T M1 k) (hk : k < n) (c : ¬ (¬ M1 (b + a) 4 = 0 ∧ ¬ M1 (b + k) 4 = 0 ∧ M1 (b + a) 2 = M1 (b + k) 2)) : CJi b n a T M1 (k + 1) := by
  obtain ⟨D1, hA, hW, hT⟩ := h
  refine CJi_e hk hT hW ?_
  rw [hA a (by omega) 4 (by decide), hA a (by omega) 2 (by decide), hA k hk 4 (by decide), hA k hk 2 (by decide)] at c
  rw [show cr1 D1 a k = D1 from if_neg c]; exact hA
theorem CJi_y {b n a k : Nat} {T M1 : xM} (hak : a < k) (h : CJi b n a T M1 k) (hk : k < n) (c : ¬ M1 (b + a) 4 = 0 ∧ ¬ M1 (b + k) 4 = 0 ∧ M1 (b + a) 2 = M1 (b + k) 2) :
    CJi b n a T (x_up (x_up M1 (b + a) 3 (w_qk (M1 (b + a) 3) (w_ab (M1 (b + a) 3) + -1))) (b + k) 3 (w_qk ((x_up M1 (b + a) 3 (w_qk (M1 (b + a) 3) (w_ab (M1 (b + a) 3) + -1))) (b + k) 3) (w_ab ((x_up M1 (b + a) 3 (w_qk (M1 (b + a) 3) (w_ab (M1 (b + a) 3) + -1))) (b + k) 3) + -1))) (k + 1) := by
  obtain ⟨D1, hA, hW, hT⟩ := h
  refine CJi_e hk hT hW ?_
  rw [hA a (by omega) 4 (by decide), hA a (by omega) 2 (by decide), hA k hk 4 (by decide), hA k hk 2 (by decide)] at c
  rw [show cr1 D1 a k = crA (crA D1 a) k from if_pos c]
  have h1 : AbC b n (x_up M1 (b + a) 3 (w_qk (M1 (b + a) 3) (w_ab (M1 (b + a) 3) + -1))) (crA D1 a) := by
    rw [← Int32.sub_eq_add_neg, hA a (by omega) 3 (by decide)]; exact AbC_up hA
  generalize x_up M1 (b + a) 3 (w_qk (M1 (b + a) 3) (w_ab (M1 (b + a) 3) + -1)) = M2 at h1 ⊢
  rw [← Int32.sub_eq_add_neg, h1 k hk 3 (by decide)]; exact AbC_up h1
theorem CJi_T {b n a : Nat} {T M1 : xM} (h : CJi b n a T M1 n) : AbC b n M1 T ∧ WF n T := by
  obtain ⟨D1, hA, hW, hT⟩ := h
  rw [Nat.sub_self] at hT
  exact (show D1 = T from hT) ▸ ⟨hA, hW⟩
def CIi (b n : Nat) (T M1 : xM) (k : Nat) : Prop := ∃ D1, AbC b n M1 D1 ∧ WF n D1 ∧ crI n (n - k) k D1 = T
theorem CIi_s {b n k : Nat} {T M2 D1 : xM} (hk : k < n) (hT : crI n (n - k) k D1 = T) (h : CJi b n k (crJ k (n - (k + 1)) (k + 1) D1) M2 n) : CIi b n T M2 (k + 1) := by
  obtain ⟨hA, hW⟩ := CJi_T h
  refine ⟨_, hA, hW, ?_⟩
  rw [← hT, show n - k = (n - (k + 1)) + 1 by omega]; rfl
theorem CIi_T {b n : Nat} {T M1 : xM} (h : CIi b n T M1 n) : AbC b n M1 T ∧ WF n T := by
  obtain ⟨D1, hA, hW, hT⟩ := h
  rw [Nat.sub_self] at hT
  exact (show D1 = T from hT) ▸ ⟨hA, hW⟩
def SKi (rp b n : Nat) (nw lf : Int32) (D0 T M1 : xM) (k : Nat) : Prop := ∃ D1, AbC b n M1 D1 ∧ WF n D1 ∧ skL (n - k) k D1 = T ∧ mo D0 D1 ∧ M1 rp 9 = (if upn n D1 < upn n D0 then nw else lf)
theorem sk1_5 {D1 : xM} {k j : Nat} : j ≠ k → ∀ i, sk1 D1 k j i = D1 j i := fun e i => by
  unfold sk1
  by_cases z : D1 k 4 = 0
  · rw [if_pos z]
  · rw [if_neg z, up_n e, up_n e]
theorem sk1_c {D1 : xM} {k : Nat} {M2 : xM} {q : Nat} (h0 : M2 q 0 = D1 k 0 ∧ M2 q 1 = D1 k 1 ∧ M2 q 2 = D1 k 2) (h3 : M2 q 3 = w_pcS (D1 k 0) (D1 k 3) (D1 k 4)) (h4 : M2 q 4 = w_hiS (D1 k 0) (D1 k 3) (D1 k 4)) : ∀ i, i < 5 → M2 q i = sk1 D1 k k i := fun i hi => by
  unfold sk1
  by_cases z : D1 k 4 = 0
  · rw [if_pos z]
    have e3 : M2 q 3 = D1 k 3 := h3.trans (if_pos z)
    have e4 : M2 q 4 = D1 k 4 := h4.trans ((if_pos z).trans z.symm)
    match i, hi with
    | 0, _ => exact h0.1
    | 1, _ => exact h0.2.1
    | 2, _ => exact h0.2.2
    | 3, _ => exact e3
    | 4, _ => exact e4
  · rw [if_neg z]
    have e3 : M2 q 3 = (if w_hi (D1 k 0) (D1 k 3) (D1 k 4) = 0 then 0 else D1 k 3) := h3.trans (if_neg z)
    have e4 : M2 q 4 = w_hi (D1 k 0) (D1 k 3) (D1 k 4) := h4.trans (if_neg z)
    match i, hi with
    | 0, _ => rw [up_k (by decide), up_k (by decide)]; exact h0.1
    | 1, _ => rw [up_k (by decide), up_k (by decide)]; exact h0.2.1
    | 2, _ => rw [up_k (by decide), up_k (by decide)]; exact h0.2.2
    | 3, _ => rw [up_s]; exact e3
    | 4, _ => rw [up_k (by decide), up_s]; exact e4
theorem sk1_z {D1 : xM} {k : Nat} (h : ¬ D1 k 4 = 0) : sk1 D1 k k 4 = w_hi (D1 k 0) (D1 k 3) (D1 k 4) := by
  unfold sk1; rw [if_neg h, up_k (by decide), up_s]
theorem SKi_g {rp b n k : Nat} {nw lf : Int32} {D0 T M1 M2 : xM} (h : SKi rp b n nw lf D0 T M1 k) (hk : k < n) (hK : Ke (fun p _ => p = b + k) M1 M2) (h0 : M2 (b + k) 0 = M1 (b + k) 0 ∧ M2 (b + k) 1 = M1 (b + k) 1 ∧ M2 (b + k) 2 = M1 (b + k) 2)
    (h3 : M2 (b + k) 3 = w_pcS (M1 (b + k) 0) (M1 (b + k) 3) (M1 (b + k) 4)) (h4 : M2 (b + k) 4 = w_hiS (M1 (b + k) 0) (M1 (b + k) 3) (M1 (b + k) 4)) :
    ∃ D1, AbC b n M2 (sk1 D1 k) ∧ WF n (sk1 D1 k) ∧ skL (n - (k + 1)) (k + 1) (sk1 D1 k) = T ∧ mo D0 D1 ∧ M1 rp 9 = (if upn n D1 < upn n D0 then nw else lf) ∧ D1 k 0 = M1 (b + k) 0 ∧ D1 k 3 = M1 (b + k) 3 ∧ D1 k 4 = M1 (b + k) 4 := by
  obtain ⟨D1, hA, hW, hT, hm, h9⟩ := h
  rw [hA k hk 0 (by decide), hA k hk 1 (by decide), hA k hk 2 (by decide)] at h0
  rw [hA k hk 0 (by decide), hA k hk 3 (by decide), hA k hk 4 (by decide)] at h3 h4
  refine ⟨D1, AbC_hp hA hK (sk1_c h0 h3 h4) (fun j e => sk1_5 e), WF_sk1 hW hk, ?_, hm, h9, (hA k hk 0 (by decide)).symm, (hA k hk 3 (by decide)).symm, (hA k hk 4 (by decide)).symm⟩
  rw [← hT, show n - k = (n - (k + 1)) + 1 by omega]; rfl
theorem SKi_n {rp b n k : Nat} {nw lf : Int32} {D0 T M1 M2 : xM} (hrp : rp < b) (h : SKi rp b n nw lf D0 T M1 k) (hk : k < n) (hK : Ke (fun p _ => p = b + k) M1 M2) (h0 : M2 (b + k) 0 = M1 (b + k) 0 ∧ M2 (b + k) 1 = M1 (b + k) 1 ∧ M2 (b + k) 2 = M1 (b + k) 2)
    (h3 : M2 (b + k) 3 = w_pcS (M1 (b + k) 0) (M1 (b + k) 3) (M1 (b + k) 4)) (h4 : M2 (b + k) 4 = w_hiS (M1 (b + k) 0) (M1 (b + k) 3) (M1 (b + k) 4))
    (c : ¬ (¬ M1 (b + k) 4 = 0 ∧ w_hi (M1 (b + k) 0) (M1 (b + k) 3) (M1 (b + k) 4) = 0)) : SKi rp b n nw lf D0 T M2 (k + 1) := by
  obtain ⟨D1, hA, hW, hT, hm, h9, e0, e3, e4⟩ := SKi_g h hk hK h0 h3 h4
  rw [← e0, ← e3, ← e4] at c
  refine ⟨_, hA, hW, hT, mo_tr hm sk1_m.1, ?_⟩
  rw [hK rp 9 (show ¬ rp = b + k by omega), h9, show upn n (sk1 D1 k) = upn n D1 from upn_c n (fun i hi => ?_)]
  by_cases e : i = k
  · subst e
    by_cases z : D1 i 4 = 0
    · rw [show sk1 D1 i = D1 from if_pos z]
    · rw [sk1_z z]; exact ⟨fun q => absurd ⟨z, q⟩ c, fun q => absurd q z⟩
  · rw [sk1_5 e 4]
theorem SKi_f {rp b n k : Nat} {nw lf : Int32} {D0 T M1 M2 : xM} (hrp : rp < b) (h : SKi rp b n nw lf D0 T M1 k) (hk : k < n) (hK : Ke (fun p _ => p = b + k) M1 M2) (h0 : M2 (b + k) 0 = M1 (b + k) 0 ∧ M2 (b + k) 1 = M1 (b + k) 1 ∧ M2 (b + k) 2 = M1 (b + k) 2)
    (h3 : M2 (b + k) 3 = w_pcS (M1 (b + k) 0) (M1 (b + k) 3) (M1 (b + k) 4)) (h4 : M2 (b + k) 4 = w_hiS (M1 (b + k) 0) (M1 (b + k) 3) (M1 (b + k) 4))
    (c : ¬ M1 (b + k) 4 = 0 ∧ w_hi (M1 (b + k) 0) (M1 (b + k) 3) (M1 (b + k) 4) = 0) : SKi rp b n nw lf D0 T (x_up M2 rp 9 nw) (k + 1) := by
  obtain ⟨D1, hA, hW, hT, hm, h9, e0, e3, e4⟩ := SKi_g h hk hK h0 h3 h4
  rw [← e0, ← e3, ← e4] at c
  refine ⟨_, AbC_n hA (Or.inl hrp), hW, hT, mo_tr hm sk1_m.1, ?_⟩
  rw [up_s, if_pos]
  have h5 := upn_le hm n
  have h6 := upn_lt (sk1_m (D := D1) (k := k)).1 c.1 ((sk1_z c.1).trans c.2) n hk
  omega
theorem SKi_T {rp b n : Nat} {nw lf : Int32} {D0 T M1 : xM} (h : SKi rp b n nw lf D0 T M1 n) : AbC b n M1 T ∧ M1 rp 9 = (if upn n T < upn n D0 then nw else lf) := by
  obtain ⟨D1, hA, hW, hT, hm, h9⟩ := h
  rw [Nat.sub_self] at hT
  exact (show D1 = T from hT) ▸ ⟨hA, h9⟩
