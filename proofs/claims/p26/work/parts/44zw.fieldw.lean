abbrev fiS : Type := Int32 × (Nat → Int32) × (Nat → Int32) × (Nat → Int32)
def fiZ (z : Int32) : Int32 := z * 1103515245 + 12345
def fiD (z : Int32) : Int32 := ((z).toUInt32 >>> ((8 : Int32).toUInt32 &&& Int32.toUInt32 31)).toInt32 - ((z).toUInt32 >>> ((8 : Int32).toUInt32 &&& Int32.toUInt32 31)).toInt32 / 12 * 12
/-- the girl on a side of a girl; 25: none -/
def fiB (g s : Nat) : Nat := if s = 0 then (if 5 ≤ g then g - 5 else 25) else if s = 1 then (if g % 5 < 4 then g + 1 else 25) else if s = 2 then (if g + 5 < 25 then g + 5 else 25) else (if 0 < g % 5 then g - 1 else 25)
def fiBI (g s : Nat) : Int32 := if fiB g s = 25 then -1 else nI (fiB g s)
theorem fi_bc : ∀ g, g < 25 → ∀ s, s < 4 → (fiBI g s = -1 ∧ fiB g s = 25) ∨ (fiB g s < 25 ∧ fiBI g s = nI (fiB g s)) := by decide +kernel
theorem fi_nm {a : Nat} (h : a < 25) : ¬ nI a = -1 := (show ∀ a, a < 25 → ¬ nI a = -1 by decide +kernel) a h
theorem fi_nl {a : Nat} (h : a < 25) : ¬ nI a < 0 := (show ∀ a, a < 25 → ¬ nI a < 0 by decide +kernel) a h
def fiu (f : Nat → Int32) (g : Nat) (v : Int32) : Nat → Int32 := fun j => if j = g then v else f j
def fiDr (g : Nat) (b m : Int32) (S : fiS) : fiS := (S.1, fiu S.2.1 g 0, fiu S.2.2.1 g b, fiu S.2.2.2 g m)
def fiK (kk : Int32) (g : Nat) (mi : Int32) (s : Nat) (S : fiS) : fiS := if fiB g s = 25 then S else if S.2.1 (fiB g s) = 0 then S else if fiD (fiZ S.1) < kk then fiDr (fiB g s) (nI g) mi (fiZ S.1, S.2) else (fiZ S.1, S.2)
def fiKL (kk : Int32) (g : Nat) (mi : Int32) : Nat → Nat → fiS → fiS
  | 0, _, S => S
  | m + 1, s, S => fiKL kk g mi m (s + 1) (fiK kk g mi s S)
theorem fiKL_y {kk mi : Int32} {g k : Nat} {S S2 T : fiS} (h : k < 4) (he : fiK kk g mi k S = S2) (hT : fiKL kk g mi (4 - k) k S = T) : fiKL kk g mi (4 - (k + 1)) (k + 1) S2 = T := by
  rw [show 4 - k = 4 - (k + 1) + 1 by omega] at hT; rw [← he]; exact hT
def fiGm (sk : Nat → Int32) (kk mi : Int32) (g : Nat) (S : fiS) : fiS := if S.2.1 g = 0 then S else if fiD (fiZ S.1) < sk g then (fiZ S.1, S.2) else fiKL kk g mi (4 - 0) 0 (fiDr g (-2) mi (fiZ S.1, S.2))
def fiG (sk : Nat → Int32) (kk mi : Int32) : Nat → Nat → fiS → fiS
  | 0, _, S => S
  | m + 1, g, S => fiG sk kk mi m (g + 1) (fiGm sk kk mi g S)
theorem fiG_y {sk : Nat → Int32} {kk mi : Int32} {k : Nat} {S S2 T : fiS} (h : k < 25) (he : fiGm sk kk mi k S = S2) (hT : fiG sk kk mi (25 - k) k S = T) : fiG sk kk mi (25 - (k + 1)) (k + 1) S2 = T := by
  rw [show 25 - k = 25 - (k + 1) + 1 by omega] at hT; rw [← he]; exact hT
def fiM (sk : Nat → Int32) (kk : Int32) : Nat → Nat → fiS → fiS
  | 0, _, S => S
  | m + 1, k, S => fiM sk kk m (k + 1) (fiG sk kk (nI k) (25 - 0) 0 S)
theorem fiM_y {sk : Nat → Int32} {kk : Int32} {n k : Nat} {S S2 T : fiS} (h : k < n + 1) (he : fiG sk kk (nI k) (25 - 0) 0 S = S2) (hT : fiM sk kk (n + 1 - k) k S = T) : fiM sk kk (n + 1 - (k + 1)) (k + 1) S2 = T := by
  rw [show n + 1 - k = n + 1 - (k + 1) + 1 by omega] at hT; rw [← he]; exact hT
def fi0 (se : Int32) : fiS := (se, fun _ => 1, fun _ => -2, fun _ => 31)
/-- the field behind n minutes by a seed -/
def fiF (sk : Nat → Int32) (kk se : Int32) (n : Nat) : fiS := fiM sk kk (n + 1 - 1) 1 (fi0 se)
def fiL (d : Nat → Int32) : Nat → Nat → Nat → Nat
  | 0, _, b => b
  | m + 1, k, b => fiL d m (k + 1) (if d k ≤ d b then b else k)
theorem fiL_y {d : Nat → Int32} {k b b2 T : Nat} (h : k < 25) (he : (if d k ≤ d b then b else k) = b2) (hT : fiL d (25 - k) k b = T) : fiL d (25 - (k + 1)) (k + 1) b2 = T := by
  rw [show 25 - k = 25 - (k + 1) + 1 by omega] at hT; rw [← he]; exact hT
def lsR (sk : Nat → Int32) (kk se w : Int32) : Int32 := if 0 ≤ w ∧ w ≤ 1 then (if w = 0 then nI (fiL (fiF sk kk se 30).2.2.2 (25 - 1) 1 0) else (fiF sk kk se 30).2.2.2 (fiL (fiF sk kk se 30).2.2.2 (25 - 1) 1 0)) else -1