abbrev fiS : Type := Int32 × (Nat → Int32) × (Nat → Int32) × (Nat → Int32)
def fiZ (z : Int32) : Int32 := z * 1103515245 + 12345
def fiD (z : Int32) : Int32 := ((z).toUInt32 >>> ((8 : Int32).toUInt32 &&& Int32.toUInt32 31)).toInt32 - ((z).toUInt32 >>> ((8 : Int32).toUInt32 &&& Int32.toUInt32 31)).toInt32 / 12 * 12
/-- the girl on a side of a girl; 25: none -/
def fiB (g s : Nat) : Nat := if s = 0 then (if 5 ≤ g then g - 5 else 25) else if s = 1 then (if g % 5 < 4 then g + 1 else 25) else if s = 2 then (if g + 5 < 25 then g + 5 else 25) else (if 0 < g % 5 then g - 1 else 25)
def fiBI (g s : Nat) : Int32 := if fiB g s = 25 then -1 else nI (fiB g s)
theorem fi_bc : ∀ g, g < 25 → ∀ s, s < 4 → (fiBI g s = -1 ∧ fiB g s = 25) ∨ (fiB g s < 25 ∧ fiBI g s = nI (fiB g s)) := by decide +kernel
theorem fi_nm {a : Nat} (h : a < 25) : ¬ nI a = -1 := (show ∀ a, a < 25 → ¬ nI a = -1 by decide +kernel) a h
theorem fi_nl {a : Nat} (h : a < 25) : ¬ nI a < 0 := (show ∀ a, a < 25 → ¬ nI a < 0 by decide +kernel) a h
def fiu (f : Nat → Int32) (g : Nat) (v : Int32) : Nat → Int32 := fun j => if j = g then v else f j
def fiDr (g : Nat) (b m : Int32) (S : fiS) : fiS := (S.1, fiu S.2.1 g 0, fiu S.2.2.1 g b, fiu S.2.2.2 g m)
def fiK (kk : Int32) (g : Nat) (mi : Int32) (s : Nat) (S : fiS) : fiS := if fiB g s = 25 then S else if S.2.1 (fiB g s) = 0 then S else if fiD (fiZ S.1) < kk then fiDr (fiB g s) (nI g) mi (fiZ S.1, S.2) else (fiZ S.1, S.2)
def fiKL (kk : Int32) (g : Nat) (mi : Int32) : Nat → Nat → fiS → fiS
  | 0, _, S => S
  | m + 1, s, S => fiKL kk g mi m (s + 1) (fiK kk g mi s S)
theorem fiKL_y {kk mi : Int32} {g k : Nat} {S S2 T : fiS} (h : k < 4) (he : fiK kk g mi k S = S2) (hT : fiKL kk g mi (4 - k) k S = T) : fiKL kk g mi (4 - (k + 1)) (k + 1) S2 = T := by
  rw [show 4 - k = 4 - (k + 1) + 1 by omega] at hT; rw [← he]; exact hT
def fiGm (sk : Nat → Int32) (kk mi : Int32) (g : Nat) (S : fiS) : fiS := if S.2.1 g = 0 then S else if fiD (fiZ S.1) < sk g then (fiZ S.1, S.2) else fiKL kk g mi (4 - 0) 0 (fiDr g (-2) mi (fiZ S.1, S.2))
def fiG (sk : Nat → Int32) (kk mi : Int32) : Nat → Nat → fiS → fiS
  | 0, _, S => S
  | m + 1, g, S => fiG sk kk mi m (g + 1) (fiGm sk kk mi g S)
theorem fiG_y {sk : Nat → Int32} {kk mi : Int32} {k : Nat} {S S2 T : fiS} (h : k < 25) (he : fiGm sk kk mi k S = S2) (hT : fiG sk kk mi (25 - k) k S = T) : fiG sk kk mi (25 - (k + 1)) (k + 1) S2 = T := by
  rw [show 25 - k = 25 - (k + 1) + 1 by omega] at hT; rw [← he]; exact hT
def fiM (sk : Nat → Int32) (kk : Int32) : Nat → Nat → fiS → fiS
  | 0, _, S => S
  | m + 1, k, S => fiM sk kk m (k + 1) (fiG sk kk (nI k) (25 - 0) 0 S)
theorem fiM_y {sk : Nat → Int32} {kk : Int32} {n k : Nat} {S S2 T : fiS} (h : k < n + 1) (he : fiG sk kk (nI k) (25 - 0) 0 S = S2) (hT : fiM sk kk (n + 1 - k) k S = T) : fiM sk kk (n + 1 - (k + 1)) (k + 1) S2 = T := by
  rw [show n + 1 - k = n + 1 - (k + 1) + 1 by omega] at hT; rw [← he]; exact hT
def fi0 (se : Int32) : fiS := (se, fun _ => 1, fun _ => -2, fun _ => 31)
/-- the field behind n minutes by a seed -/
def fiF (sk : Nat → Int32) (kk se : Int32) (n : Nat) : fiS := fiM sk kk (n + 1 - 1) 1 (fi0 se)
def knR (sk : Nat → Int32) (kk se n g : Int32) : Int32 := if (1 ≤ n ∧ n ≤ 30) ∧ (0 ≤ g ∧ g < 25) then (fiF sk kk se (w_ix n)).2.2.1 (w_ix g) else -1
theorem fi_g {g : Nat} (h : g < 25) : 0 ≤ nI g ∧ nI g < 25 := ⟨nI_pos' (by omega), nI_lt (a := g) (b := 25) (by omega) (by decide)⟩
theorem knR_b {sk : Nat → Int32} {kk se : Int32} {N g : Nat} (hN : N ≤ 30) (h : 1 ≤ nI N ∧ nI N ≤ 30) (hg : g < 25) : knR sk kk se (nI N) (nI g) = (fiF sk kk se N).2.2.1 g := by
  unfold knR; rw [if_pos ⟨h, fi_g hg⟩, w_ix_n (by omega), w_ix_n (by omega)]
