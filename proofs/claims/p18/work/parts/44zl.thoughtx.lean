/-! the best beat -/
def bfV (n : Nat) (D : xM) (t : Option zL) (S : Nat → Int32) (b p : Int32) : Nat := laV (n, t, S 1, b, p, S 4) (S 0) D
def bf1 (n : Nat) (D : xM) (t : Option zL) (S : Nat → Int32) (b p : Nat) (s : Int32 × Int32) : Int32 × Int32 := if s.1 < nI (bfV n D t S (nI b) (nI p)) then (nI (bfV n D t S (nI b) (nI p)), nI (100 * b + p)) else s
def bfJ (n : Nat) (D : xM) (t : Option zL) (S : Nat → Int32) (b : Nat) : Nat → Nat → Int32 × Int32 → Int32 × Int32
  | 0, _, s => s
  | m + 1, j, s => bfJ n D t S b m (j + 1) (bf1 n D t S b j s)
def bfI (n : Nat) (D : xM) (t : Option zL) (S : Nat → Int32) : Nat → Nat → Int32 × Int32 → Int32 × Int32
  | 0, _, s => s
  | m + 1, b, s => bfI n D t S m (b + 1) (bfJ n D t S b b 0 s)
def bfR (n : Nat) (D : xM) (t : Option zL) (S : Nat → Int32) (w : Int32) : Int32 := if 0 ≤ w ∧ w ≤ 1 then (if w = 0 then (bfI n D t S 23 2 (-1, 0)).2 else (bfI n D t S 23 2 (-1, 0)).1) else -1
theorem bfJ_e {n : Nat} {D : xM} {t : Option zL} {S : Nat → Int32} {b N k : Nat} {s s2 : Int32 × Int32} (hk : k < N) (e : bf1 n D t S b k s = s2) : bfJ n D t S b (N - (k + 1)) (k + 1) s2 = bfJ n D t S b (N - k) k s := by
  rw [show N - k = (N - (k + 1)) + 1 by omega, ← e]; rfl
theorem bfI_e {n : Nat} {D : xM} {t : Option zL} {S : Nat → Int32} {N k : Nat} {s : Int32 × Int32} (hk : k < N) : bfI n D t S (N - (k + 1)) (k + 1) (bfJ n D t S k k 0 s) = bfI n D t S (N - k) k s := by
  rw [show N - k = (N - (k + 1)) + 1 by omega]; rfl
theorem bf1_y {n : Nat} {D : xM} {t : Option zL} {S : Nat → Int32} {b p : Nat} {be wh : Int32} (c : be < nI (bfV n D t S (nI b) (nI p))) : bf1 n D t S b p (be, wh) = (nI (bfV n D t S (nI b) (nI p)), nI (100 * b + p)) := if_pos c
theorem bf1_n {n : Nat} {D : xM} {t : Option zL} {S : Nat → Int32} {b p : Nat} {be wh : Int32} (c : ¬ be < nI (bfV n D t S (nI b) (nI p))) : bf1 n D t S b p (be, wh) = (be, wh) := if_neg c
theorem nb0 {b : Nat} (h : 2 ≤ b) (h2 : b ≤ 24) : ¬ nI b = 0 := fun z => absurd ((nI_eq (a := b) (b := 0) (by omega) (by decide)).mp z) (by omega)
/-! the least push -/
def lpV (n : Nat) (D : xM) (t : Option zL) (S : Nat → Int32) (f : Nat) : Nat := laV (n, t, S 1, S 2, S 3, nI f) (S 0) D
def lpA (n : Nat) (D : xM) (t : Option zL) (S : Nat → Int32) (nn : Int32) : Nat → Nat → Int32
  | 0, _ => -2
  | m + 1, k => if nn ≤ nI (lpV n D t S k) then nI k else lpA n D t S nn m (k + 1)
def lpR (n : Nat) (D : xM) (t : Option zL) (S : Nat → Int32) (nn : Int32) : Int32 := if 1 ≤ nn ∧ nn ≤ 200 then lpA n D t S nn 6 0 else -1
/-! brought up again -/
def rsV (n : Nat) (D : xM) (t : Option zL) (S : Nat → Int32) (h : Nat) (f g : Int32) (k : Nat) : Nat := flM (PS n t S) (nI k) f g h 201 0 (S 0) D
def rsL (n : Nat) (D : xM) (t : Option zL) (S : Nat → Int32) (h : Nat) (f g : Int32) (fall : Nat) : Nat → Nat → Int32
  | 0, _ => -2
  | m + 1, k => if fall < rsV n D t S h f g k then nI k else rsL n D t S h f g fall m (k + 1)
abbrev rsC (n : Nat) (h fp : Int32) : Prop := (0 ≤ h ∧ h < nI n) ∧ (1 ≤ fp / 100 ∧ fp / 100 ≤ 5) ∧ (0 ≤ fp - fp / 100 * 100 ∧ fp - fp / 100 * 100 < 24)
def rsF (n : Nat) (D : xM) (t : Option zL) (S : Nat → Int32) (h : Nat) (fp : Int32) : Int32 := if faV (PS n t S) h (S 0) D = 0 ∨ faV (PS n t S) h (S 0) D = 201 then -5 else rsL n D t S h (fp / 100) (fp - fp / 100 * 100) (faV (PS n t S) h (S 0) D) 100 0
def rsR (n : Nat) (D : xM) (t : Option zL) (S : Nat → Int32) (h fp : Int32) : Int32 := if rsC n h fp then rsF n D t S (w_ix h) fp else -1
theorem rsR_y {n : Nat} {D : xM} {t : Option zL} {S : Nat → Int32} {i : Nat} {fp : Int32} (hn : n ≤ 5) (c : rsC n (nI i) fp) (hi : i < n) : rsF n D t S i fp = rsR n D t S (nI i) fp := by
  unfold rsR
  rw [if_pos c, w_ix_n (by omega)]
theorem rsR_n {n : Nat} {D : xM} {t : Option zL} {S : Nat → Int32} {h fp : Int32} (c : ¬ rsC n h fp) : -1 = rsR n D t S h fp := (if_neg c).symm
theorem rsL_y {n : Nat} {D : xM} {t : Option zL} {S : Nat → Int32} {h fall N k : Nat} {f g : Int32} (hk : k < N) (c : fall < rsV n D t S h f g k) : rsL n D t S h f g fall (N - k) k = nI k := by
  rw [show N - k = (N - (k + 1)) + 1 by omega]; exact if_pos c
theorem rsL_n {n : Nat} {D : xM} {t : Option zL} {S : Nat → Int32} {h fall N k : Nat} {f g : Int32} (hk : k < N) (c : ¬ fall < rsV n D t S h f g k) : rsL n D t S h f g fall (N - (k + 1)) (k + 1) = rsL n D t S h f g fall (N - k) k := by
  rw [show N - k = (N - (k + 1)) + 1 by omega]; exact (if_neg c).symm
theorem rsV_late {n : Nat} {D : xM} {t : Option zL} {S : Nat → Int32} {h k : Nat} {f g : Int32} (hk : k < 1000) (h1 : faV (PS n t S) h (S 0) D ≤ k) (h2 : faV (PS n t S) h (S 0) D ≠ 201) : rsV n D t S h f g k = faV (PS n t S) h (S 0) D := by
  have hle := faV_le (P := PS n t S) (h := h) (nw := S 0) (D := D)
  exact flM_late (by omega) 201 0 (S 0) D (by decide) h1 (show flF (PS n t S) h 201 0 (S 0) D < 201 by have : flF (PS n t S) h 201 0 (S 0) D = faV (PS n t S) h (S 0) D := rfl; omega)
theorem rsL_late {n : Nat} {D : xM} {t : Option zL} {S : Nat → Int32} {h : Nat} {f g : Int32} (h2 : faV (PS n t S) h (S 0) D ≠ 201) : ∀ (m k : Nat), k + m < 1000 → faV (PS n t S) h (S 0) D ≤ k → rsL n D t S h f g (faV (PS n t S) h (S 0) D) m k = -2 := by
  intro m
  induction m with
  | zero => exact fun k _ _ => rfl
  | succ m ih =>
    intro k hk h1
    show (if faV (PS n t S) h (S 0) D < rsV n D t S h f g k then nI k else rsL n D t S h f g (faV (PS n t S) h (S 0) D) m (k + 1)) = -2
    rw [rsV_late (by omega) h1 h2, if_neg (Nat.lt_irrefl _)]
    exact ih (k + 1) (by omega) (by omega)
/-! the best start -/
def stV (n : Nat) (D : xM) (t : Option zL) (S : Nat → Int32) (h j : Nat) : Nat := faV (PS n t S) h (S 0) (x_up D h 3 (pv j))
def st1 (n : Nat) (D : xM) (t : Option zL) (S : Nat → Int32) (h j : Nat) (s : Int32 × Int32) : Int32 × Int32 := if s.2 < nI (stV n D t S h j) then (pv j, nI (stV n D t S h j)) else s
def stL (n : Nat) (D : xM) (t : Option zL) (S : Nat → Int32) (h : Nat) : Nat → Nat → Int32 × Int32 → Int32 × Int32
  | 0, _, s => s
  | m + 1, j, s => stL n D t S h m (j + 1) (st1 n D t S h j s)
theorem stL_e {n : Nat} {D : xM} {t : Option zL} {S : Nat → Int32} {h N k : Nat} {s s2 : Int32 × Int32} (hk : k < N) (e : st1 n D t S h k s = s2) : stL n D t S h (N - (k + 1)) (k + 1) s2 = stL n D t S h (N - k) k s := by
  rw [show N - k = (N - (k + 1)) + 1 by omega, ← e]; rfl
theorem st1_y {n : Nat} {D : xM} {t : Option zL} {S : Nat → Int32} {h j : Nat} {be la : Int32} (c : la < nI (stV n D t S h j)) : st1 n D t S h j (be, la) = (pv j, nI (stV n D t S h j)) := if_pos c
theorem st1_n {n : Nat} {D : xM} {t : Option zL} {S : Nat → Int32} {h j : Nat} {be la : Int32} (c : ¬ la < nI (stV n D t S h j)) : st1 n D t S h j (be, la) = (be, la) := if_neg c
theorem stL_0 {n : Nat} {D : xM} {t : Option zL} {S : Nat → Int32} {h : Nat} {a b : Int32} : stL n D t S h 19 0 (a, -1) = stL n D t S h 19 0 (b, -1) := by
  have hv : (-1 : Int32) < nI (stV n D t S h 0) := Int32.lt_of_lt_of_le (by decide) (nI_pos' (n := stV n D t S h 0) (by have := faV_le (P := PS n t S) (h := h) (nw := S 0) (D := x_up D h 3 (pv 0)); unfold stV; omega))
  show stL n D t S h 18 1 (st1 n D t S h 0 (a, -1)) = stL n D t S h 18 1 (st1 n D t S h 0 (b, -1))
  rw [st1_y hv, st1_y hv]
def stR (n : Nat) (D : xM) (t : Option zL) (S : Nat → Int32) (h : Int32) : Int32 := if 0 ≤ h ∧ h < nI n then (if D (w_ix h) 4 = 0 then -5 else (stL n D t S (w_ix h) 19 0 (-9, -1)).1) else -2000000000
theorem stR_y {n : Nat} {D : xM} {t : Option zL} {S : Nat → Int32} {i : Nat} (hn : n ≤ 5) (hi : i < n) : (if D i 4 = 0 then -5 else (stL n D t S i 19 0 (-9, -1)).1) = stR n D t S (nI i) := by
  unfold stR
  rw [if_pos (show 0 ≤ nI i ∧ nI i < nI n from ⟨nI_pos' (by omega), nI_lt (by omega) (by omega)⟩), w_ix_n (by omega)]
theorem stR_n {n : Nat} {D : xM} {t : Option zL} {S : Nat → Int32} {h : Int32} (c : ¬ (0 ≤ h ∧ h < nI n)) : -2000000000 = stR n D t S h := (if_neg c).symm
theorem pv_b {j : Nat} (h : j < 19) : -9 ≤ pv j ∧ pv j ≤ 9 := (show ∀ j, j < 19 → -9 ≤ pv j ∧ pv j ≤ 9 by decide +kernel) j h
theorem faR_1 {v : Nat} (h : v ≤ 201) (c : faR v = -2) : (201 : Int32) = nI v := by
  unfold faR at c
  by_cases e : v = 201
  · rw [e]; rfl
  · rw [if_neg e] at c; exact absurd (show (0 : Int32) ≤ -2 from c ▸ nI_pos' (by omega)) (by decide)
theorem faR_2 {v : Nat} (c : ¬ faR v = -2) : faR v = nI v := by
  unfold faR at c ⊢
  by_cases e : v = 201
  · exact absurd (if_pos e) c
  · rw [if_neg e]
theorem rs_min {K : Nat} (h : K ≤ 200) : (if (100 : Int32) < nI K then (100 : Int32) else nI K) = nI (min 100 K) ∧ (if (100 : Int32) ≤ nI K then (100 : Int32) else nI K) = nI (min 100 K) ∧ (if nI K < (100 : Int32) then nI K else (100 : Int32)) = nI (min 100 K) := by
  refine ⟨?_, ?_, ?_⟩
  · by_cases c : 100 < K
    · rw [if_pos (show (100 : Int32) < nI K from nI_lt (a := 100) (b := K) c (by omega)), Nat.min_eq_left (by omega)]; rfl
    · rw [if_neg (show ¬ (100 : Int32) < nI K from nI_nlt (a := 100) (b := K) (by omega) (by decide)), Nat.min_eq_right (by omega)]
  · by_cases c : 100 ≤ K
    · rw [if_pos (show (100 : Int32) ≤ nI K from nI_le (a := 100) (b := K) c (by omega)), Nat.min_eq_left c]; rfl
    · rw [if_neg (show ¬ (100 : Int32) ≤ nI K from fun z => c ((nI_leI (a := 100) (b := K) (by decide) (by omega)).mp z)), Nat.min_eq_right (by omega)]
  · by_cases c : K < 100
    · rw [if_pos (show nI K < (100 : Int32) from nI_lt (a := K) (b := 100) c (by decide)), Nat.min_eq_right (by omega)]
    · rw [if_neg (show ¬ nI K < (100 : Int32) from nI_nlt (a := K) (b := 100) (by omega) (by omega)), Nat.min_eq_left (by omega)]; rfl
theorem faR_3 {v : Nat} {r : Int32} (h : v ≤ 201) (e : r = faR v) (c : ¬ r = -2) : ∃ K, K ≤ 200 ∧ K = v ∧ r = nI K := by
  rw [e] at c
  refine ⟨v, ?_, rfl, e.trans (faR_2 c)⟩
  have h2 : v ≠ 201 := fun z => c (by rw [z]; rfl)
  omega
theorem faR_0 {v : Nat} (h : v ≤ 201) (c : faR v = 0) : v = 0 := by
  have c2 : ¬ faR v = -2 := fun z => absurd (c.symm.trans z) (by decide)
  rw [faR_2 c2] at c
  exact (nI_eq (a := v) (b := 0) (by omega) (by decide)).mp c
theorem faR_m {v : Nat} (h : v ≤ 201) (c : faR v = -2) : v = 201 := by
  have := faR_1 h c
  exact ((nI_eq (a := 201) (b := v) (by decide) (by omega)).mp this).symm
theorem rs_end {n : Nat} {D : xM} {t : Option zL} {S : Nat → Int32} {h K : Nat} {f g : Int32} (hK : K ≤ 200) (e : K = faV (PS n t S) h (S 0) D) : rsL n D t S h f g K (100 - min 100 K) (min 100 K) = -2 := by
  by_cases c : 100 ≤ K
  · rw [Nat.min_eq_left c]; rfl
  · rw [Nat.min_eq_right (by omega)]
    have h2 : faV (PS n t S) h (S 0) D ≠ 201 := by omega
    have z := rsL_late (n := n) (D := D) (t := t) (S := S) (h := h) (f := f) (g := g) h2 (100 - K) K (by omega) (by omega)
    rw [← e] at z; exact z
