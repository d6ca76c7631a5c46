/-! the best beat -/
def bfV (n : Nat) (D : xM) (t : Option zL) (S : Nat → Int32) (b p : Int32) : Nat := laV (n, t, S 1, b, p, S 4) (S 0) D
def bf1 (n : Nat) (D : xM) (t : Option zL) (S : Nat → Int32) (b p : Nat) (s : Int32 × Int32) : Int32 × Int32 := if s.1 < nI (bfV n D t S (nI b) (nI p)) then (nI (bfV n D t S (nI b) (nI p)), nI (100 * b + p)) else s
def bfJ (n : Nat) (D : xM) (t : Option zL) (S : Nat → Int32) (b : Nat) : Nat → Nat → Int32 × Int32 → Int32 × Int32
  | 0, _, s => s
  | m + 1, j, s => bfJ n D t S b m (j + 1) (bf1 n D t S b j s)
def bfI (n : Nat) (D : xM) (t : Option zL) (S : Nat → Int32) : Nat → Nat → Int32 × Int32 → Int32 × Int32
  | 0, _, s => s
  | m + 1, b, s => bfI n D t S m (b + 1) (bfJ n D t S b b 0 s)
def bfR (n : Nat) (D : xM) (t : Option zL) (S : Nat → Int32) (w : Int32) : Int32 := if 0 ≤ w ∧ w ≤ 1 then (if w = 0 then (bfI n D t S 23 2 (-1, 0)).2 else (bfI n D t S 23 2 (-1, 0)).1) else -1
theorem bfJ_e {n : Nat} {D : xM} {t : Option zL} {S : Nat → Int32} {b N k : Nat} {s s2 : Int32 × Int32} (hk : k < N) (e : bf1 n D t S b k s = s2) : bfJ n D t S b (N - (k + 1)) (k + 1) s2 = bfJ n D t S b (N - k) k s := by
  rw [show N - k = (N - (k + 1)) + 1 by omega, ← e]; rfl
theorem bfI_e {n : Nat} {D : xM} {t : Option zL} {S : Nat → Int32} {N k : Nat} {s : Int32 × Int32} (hk : k < N) : bfI n D t S (N - (k + 1)) (k + 1) (bfJ n D t S k k 0 s) = bfI n D t S (N - k) k s := by
  rw [show N - k = (N - (k + 1)) + 1 by omega]; rfl
theorem bf1_y {n : Nat} {D : xM} {t : Option zL} {S : Nat → Int32} {b p : Nat} {be wh : Int32} (c : be < nI (bfV n D t S (nI b) (nI p))) : bf1 n D t S b p (be, wh) = (nI (bfV n D t S (nI b) (nI p)), nI (100 * b + p)) := if_pos c
theorem bf1_n {n : Nat} {D : xM} {t : Option zL} {S : Nat → Int32} {b p : Nat} {be wh : Int32} (c : ¬ be < nI (bfV n D t S (nI b) (nI p))) : bf1 n D t S b p (be, wh) = (be, wh) := if_neg c
theorem nb0 {b : Nat} (h : 2 ≤ b) (h2 : b ≤ 24) : ¬ nI b = 0 := fun z => absurd ((nI_eq (a := b) (b := 0) (by omega) (by decide)).mp z) (by omega)
/-! the least push -/
def lpV (n : Nat) (D : xM) (t : Option zL) (S : Nat → Int32) (f : Nat) : Nat := laV (n, t, S 1, S 2, S 3, nI f) (S 0) D
def lpA (n : Nat) (D : xM) (t : Option zL) (S : Nat → Int32) (nn : Int32) : Nat → Nat → Int32
  | 0, _ => -2
  | m + 1, k => if nn ≤ nI (lpV n D t S k) then nI k else lpA n D t S nn m (k + 1)
def lpR (n : Nat) (D : xM) (t : Option zL) (S : Nat → Int32) (nn : Int32) : Int32 := if 1 ≤ nn ∧ nn ≤ 200 then lpA n D t S nn 6 0 else -1
/-! brought up again -/
/-! the best start -/
def stV (n : Nat) (D : xM) (t : Option zL) (S : Nat → Int32) (h j : Nat) : Nat := faV (PS n t S) h (S 0) (x_up D h 3 (pv j))
def st1 (n : Nat) (D : xM) (t : Option zL) (S : Nat → Int32) (h j : Nat) (s : Int32 × Int32) : Int32 × Int32 := if s.2 < nI (stV n D t S h j) then (pv j, nI (stV n D t S h j)) else s
def stL (n : Nat) (D : xM) (t : Option zL) (S : Nat → Int32) (h : Nat) : Nat → Nat → Int32 × Int32 → Int32 × Int32
  | 0, _, s => s
  | m + 1, j, s => stL n D t S h m (j + 1) (st1 n D t S h j s)
theorem stL_e {n : Nat} {D : xM} {t : Option zL} {S : Nat → Int32} {h N k : Nat} {s s2 : Int32 × Int32} (hk : k < N) (e : st1 n D t S h k s = s2) : stL n D t S h (N - (k + 1)) (k + 1) s2 = stL n D t S h (N - k) k s := by
  rw [show N - k = (N - (k + 1)) + 1 by omega, ← e]; rfl
theorem st1_y {n : Nat} {D : xM} {t : Option zL} {S : Nat → Int32} {h j : Nat} {be la : Int32} (c : la < nI (stV n D t S h j)) : st1 n D t S h j (be, la) = (pv j, nI (stV n D t S h j)) := if_pos c
theorem st1_n {n : Nat} {D : xM} {t : Option zL} {S : Nat → Int32} {h j : Nat} {be la : Int32} (c : ¬ la < nI (stV n D t S h j)) : st1 n D t S h j (be, la) = (be, la) := if_neg c
theorem stL_0 {n : Nat} {D : xM} {t : Option zL} {S : Nat → Int32} {h : Nat} {a b : Int32} : stL n D t S h 19 0 (a, -1) = stL n D t S h 19 0 (b, -1) := by
  have hv : (-1 : Int32) < nI (stV n D t S h 0) := Int32.lt_of_lt_of_le (by decide) (nI_pos' (n := stV n D t S h 0) (by have := faV_le (P := PS n t S) (h := h) (nw := S 0) (D := x_up D h 3 (pv 0)); unfold stV; omega))
  show stL n D t S h 18 1 (st1 n D t S h 0 (a, -1)) = stL n D t S h 18 1 (st1 n D t S h 0 (b, -1))
  rw [st1_y hv, st1_y hv]
def stR (n : Nat) (D : xM) (t : Option zL) (S : Nat → Int32) (h : Int32) : Int32 := if 0 ≤ h ∧ h < nI n then (if D (w_ix h) 4 = 0 then -5 else (stL n D t S (w_ix h) 19 0 (-9, -1)).1) else -2000000000
theorem stR_y {n : Nat} {D : xM} {t : Option zL} {S : Nat → Int32} {i : Nat} (hn : n ≤ 5) (hi : i < n) : (if D i 4 = 0 then -5 else (stL n D t S i 19 0 (-9, -1)).1) = stR n D t S (nI i) := by
  unfold stR
  rw [if_pos (show 0 ≤ nI i ∧ nI i < nI n from ⟨nI_pos' (by omega), nI_lt (by omega) (by omega)⟩), w_ix_n (by omega)]
theorem stR_n {n : Nat} {D : xM} {t : Option zL} {S : Nat → Int32} {h : Int32} (c : ¬ (0 ≤ h ∧ h < nI n)) : -2000000000 = stR n D t S h := (if_neg c).symm
theorem pv_b {j : Nat} (h : j < 19) : -9 ≤ pv j ∧ pv j ≤ 9 := (show ∀ j, j < 19 → -9 ≤ pv j ∧ pv j ≤ 9 by decide +kernel) j h