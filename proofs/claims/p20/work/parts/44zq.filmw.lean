/-- shelves in words: what lies there (0 nothing, 1 a row of bytes, 2 another), how many, elements -/
abbrev xQs : Type := Nat → Nat × Nat × (Nat → Int64)
def CSh (M : xM) (J : xJ) (G : xQs) : Prop := ∀ q, q < 6 → (G q).2.1 ≤ 60 ∧ M (50 + 2 * q) 3 = nI (G q).2.1 ∧ (∀ j, j < 60 → J (51 + 2 * q) j = (G q).2.2 j) ∧ ((G q).1 = 0 ∧ M (50 + 2 * q) 0 = 0 ∨ (G q).1 = 1 ∧ M (50 + 2 * q) 0 = 2 ∧ M (50 + 2 * q) 2 = 0 ∨ (G q).1 = 2 ∧ ¬ M (50 + 2 * q) 0 = 0 ∧ ¬ (M (50 + 2 * q) 0 = 2 ∧ M (50 + 2 * q) 2 = 0))
def RSh (M : xM) (J : xJ) (G : xQs) : Prop := ∀ q, q < 6 → (G q).2.1 ≤ 60 ∧ M 84 q = nI (G q).2.1 ∧ (∀ j, j < 60 → J 85 (60 * q + j) = (G q).2.2 j) ∧ ((G q).1 = 0 ∧ M 83 q < 0 ∨ (G q).1 = 1 ∧ M 83 q = 50 ∨ (G q).1 = 2 ∧ ¬ M 83 q < 0 ∧ ¬ M 83 q = 50)
def WSh (G : xQs) : Prop := ∀ q, q < 6 → ((G q).1 = 1 → ∀ j, j < 60 → ∃ w : Int32, (G q).2.2 j = w.toInt64) ∧ ((G q).1 = 0 → (G q).2.1 = 0)
/-! films -/
def fuF (P : xP) (h : Nat) (el : Nat → Int64) : Nat → Nat → Int32 → xM → Int32
  | 0, _, _, _ => -2
  | m + 1, k, nw, D => if (tiF P nw D h 2).toInt64 = el k then fuF P h el m (k + 1) (nw + 1) (tiF P nw D) else nI k
theorem fuF_y {P : xP} {h N k : Nat} {el : Nat → Int64} {nw : Int32} {D : xM} (hk : k < N) (c : (tiF P nw D h 2).toInt64 = el k) : fuF P h el (N - (k + 1)) (k + 1) (nw + 1) (tiF P nw D) = fuF P h el (N - k) k nw D := by
  rw [show N - k = (N - (k + 1)) + 1 by omega]; exact (if_pos c).symm
theorem fuF_n {P : xP} {h N k : Nat} {el : Nat → Int64} {nw : Int32} {D : xM} (hk : k < N) (c : ¬ (tiF P nw D h 2).toInt64 = el k) : fuF P h el (N - k) k nw D = nI k := by
  rw [show N - k = (N - (k + 1)) + 1 by omega]; exact if_neg c
def fuV (P : xP) (h L : Nat) (el : Nat → Int64) (nw : Int32) (D : xM) : Int32 := fuF P h el L 0 nw D
abbrev jdC (n : Nat) (sh h : Int32) : Prop := (0 ≤ sh ∧ sh ≤ 5) ∧ (0 ≤ h ∧ h < nI n)
/-! starts that fit -/
def bgV (n : Nat) (D : xM) (t : Option zL) (S : Nat → Int32) (G : xQs) (q i j : Nat) : Int32 := fuV (PS n t S) i (G q).2.1 (G q).2.2 (S 0) (x_up D i 3 (pv j))
def bg1 (n : Nat) (D : xM) (t : Option zL) (S : Nat → Int32) (G : xQs) (q i j : Nat) (s : Int32 × Int32) : Int32 × Int32 := if bgV n D t S G q i j = -2 then ((if s.2 = 0 then pv j else s.1), s.2 + 1) else s
def bgL (n : Nat) (D : xM) (t : Option zL) (S : Nat → Int32) (G : xQs) (q i : Nat) : Nat → Nat → Int32 × Int32 → Int32 × Int32
  | 0, _, s => s
  | m + 1, j, s => bgL n D t S G q i m (j + 1) (bg1 n D t S G q i j s)
def bgF (n : Nat) (D : xM) (t : Option zL) (S : Nat → Int32) (G : xQs) (q i : Nat) : Int32 × Int32 := if D i 4 = 0 then bg1 n D t S G q i 9 (-2, 0) else bgL n D t S G q i 19 0 (-2, 0)
abbrev bgC (n : Nat) (G : xQs) (sh h w : Int32) : Prop := jdC n sh h ∧ (0 ≤ w ∧ w ≤ 1) ∧ (G (w_ix sh)).1 = 1
def bgR (n : Nat) (D : xM) (t : Option zL) (S : Nat → Int32) (G : xQs) (sh h w : Int32) : Int32 := if bgC n G sh h w then (if w = 0 then (bgF n D t S G (w_ix sh) (w_ix h)).2 else (bgF n D t S G (w_ix sh) (w_ix h)).1) else -2000000000
theorem bgR_y {n : Nat} {D : xM} {t : Option zL} {S : Nat → Int32} {G : xQs} {q i : Nat} {w : Int32} (hn : n ≤ 5) (hq : q < 6) (hi : i < n) (hw : 0 ≤ w ∧ w ≤ 1) (hG : (G q).1 = 1) : (if w = 0 then (bgF n D t S G q i).2 else (bgF n D t S G q i).1) = bgR n D t S G (nI q) (nI i) w := by
  unfold bgR
  rw [if_pos (show bgC n G (nI q) (nI i) w from ⟨⟨⟨nI_pos' (by omega), nI_le (a := q) (b := 5) (by omega) (by decide)⟩, nI_pos' (by omega), nI_lt (by omega) (by omega)⟩, hw, by rw [w_ix_n (by omega)]; exact hG⟩), w_ix_n (by omega), w_ix_n (by omega)]
theorem bgR_n {n : Nat} {D : xM} {t : Option zL} {S : Nat → Int32} {G : xQs} {sh h w : Int32} (c : ¬ bgC n G sh h w) : -2000000000 = bgR n D t S G sh h w := (if_neg c).symm
theorem bg1_y {n : Nat} {D : xM} {t : Option zL} {S : Nat → Int32} {G : xQs} {q i j : Nat} {f c : Int32} (h : bgV n D t S G q i j = -2) : bg1 n D t S G q i j (f, c) = ((if c = 0 then pv j else f), c + 1) := if_pos h
theorem bg1_n {n : Nat} {D : xM} {t : Option zL} {S : Nat → Int32} {G : xQs} {q i j : Nat} {f c : Int32} (h : ¬ bgV n D t S G q i j = -2) : bg1 n D t S G q i j (f, c) = (f, c) := if_neg h
theorem bgL_e {n : Nat} {D : xM} {t : Option zL} {S : Nat → Int32} {G : xQs} {q i N k : Nat} {s s2 : Int32 × Int32} (hk : k < N) (e : bg1 n D t S G q i k s = s2) : bgL n D t S G q i (N - (k + 1)) (k + 1) s2 = bgL n D t S G q i (N - k) k s := by
  rw [show N - k = (N - (k + 1)) + 1 by omega, ← e]; rfl
theorem bgF_u {n : Nat} {D : xM} {t : Option zL} {S : Nat → Int32} {G : xQs} {q i : Nat} {s : Int32 × Int32} (hup : ¬ D i 4 = 0) (h : s = bgL n D t S G q i 19 0 (-2, 0)) : s = bgF n D t S G q i := by rw [h]; exact (if_neg hup).symm
theorem bgF_l {n : Nat} {D : xM} {t : Option zL} {S : Nat → Int32} {G : xQs} {q i : Nat} {s : Int32 × Int32} (hup : D i 4 = 0) (h : s = bg1 n D t S G q i 9 (-2, 0)) : s = bgF n D t S G q i := by rw [h]; exact (if_pos hup).symm
/-! music -/
def gpN (L : Nat) (el : Nat → Int64) (j : Nat) : Nat := if j < L ∧ 1 ≤ el j then (el j).toInt.toNat else 0
def w_g2 (x : Nat) : Int32 := if x % 2 = 0 then 0 else 12
def duN (k g : Nat) : Nat := if g = 0 then 4294967295 else k + g
def mu1 (P : xP) (x : Nat) (D : xM) : xM := puL P.2.1 P.2.2.2.2.2 (w_g2 x) P.1 0 D
def muF (P : xP) (u : Nat) (g : Nat → Nat) : Nat → Nat → Nat → Nat → Int32 → xM → Nat
  | 0, k, _, _, _, _ => k
  | m + 1, k, d, x, nw, D => if k = d then (if upn P.1 (seT P.1 P.2.2.1 nw (mu1 P x D)) < u then k else muF P u g m (k + 1) (duN k (g (x + 1))) (x + 1) (nw + 1) (seT P.1 P.2.2.1 nw (mu1 P x D))) else (if upn P.1 (seT P.1 P.2.2.1 nw D) < u then k else muF P u g m (k + 1) d x (nw + 1) (seT P.1 P.2.2.1 nw D))
def muV (P : xP) (L : Nat) (el : Nat → Int64) (nw : Int32) (D : xM) : Nat := muF P (upn P.1 D) (gpN L el) 200 0 (duN 0 (gpN L el 0)) 0 nw D
/-- a tick to music -/
def muD (P : xP) (k d x : Nat) (D : xM) : xM := if k = d then mu1 P x D else D
def muT (P : xP) (k d x : Nat) (nw : Int32) (D : xM) : xM := seT P.1 P.2.2.1 nw (muD P k d x D)
def muX (k d x : Nat) : Nat := if k = d then x + 1 else x
def muG (g : Nat → Nat) (k d x : Nat) : Nat := if k = d then duN k (g (x + 1)) else d
theorem muF_y {P : xP} {u N k d x : Nat} {g : Nat → Nat} {nw : Int32} {D : xM} (hk : k < N) (c : upn P.1 (muT P k d x nw D) < u) : muF P u g (N - k) k d x nw D = k := by
  rw [show N - k = (N - (k + 1)) + 1 by omega]
  unfold muT muD at c
  by_cases e : k = d
  · rw [if_pos e] at c; exact (if_pos e).trans (if_pos c)
  · rw [if_neg e] at c; exact (if_neg e).trans (if_pos c)
theorem muF_n {P : xP} {u N k d x : Nat} {g : Nat → Nat} {nw : Int32} {D : xM} (hk : k < N) (c : ¬ upn P.1 (muT P k d x nw D) < u) : muF P u g (N - (k + 1)) (k + 1) (muG g k d x) (muX k d x) (nw + 1) (muT P k d x nw D) = muF P u g (N - k) k d x nw D := by
  rw [show N - k = (N - (k + 1)) + 1 by omega]
  unfold muT muD at c ⊢
  unfold muG muX
  by_cases e : k = d
  · rw [if_pos e] at c
    rw [if_pos e, if_pos e, if_pos e]; exact ((if_pos e).trans (if_neg c)).symm
  · rw [if_neg e] at c
    rw [if_neg e, if_neg e, if_neg e]; exact ((if_neg e).trans (if_neg c)).symm
theorem WF_muD {P : xP} {k d x : Nat} {D : xM} (h : WF P.1 D) : WF P.1 (muD P k d x D) := by
  unfold muD; split
  · exact WF_puL _ _ _ h
  · exact h
theorem muD_4 {P : xP} {k d x : Nat} {D : xM} : st4 D (muD P k d x D) := by
  unfold muD; split
  · exact (puL_s _ _ _).1
  · exact st4_rf
theorem muT_m {P : xP} {k d x : Nat} {nw : Int32} {D : xM} : mo D (muT P k d x nw D) := mo_tr (st4_mo muD_4) seT_m.1
theorem w_g2_b (x : Nat) : 0 ≤ w_g2 x ∧ w_g2 x < 24 := by
  unfold w_g2; split
  · decide
  · decide
theorem w_g2_c {x : Nat} (h : x ≤ 300) : (if nI x - nI x / 2 * 2 = 0 then (0 : Int32) else 12) = w_g2 x := (show ∀ x, x ≤ 300 → (if nI x - nI x / 2 * 2 = 0 then (0 : Int32) else 12) = w_g2 x by decide +kernel) x h
theorem nI_eqw {a b : Nat} (ha : a < 2 ^ 32) (hb : b < 2 ^ 32) : nI a = nI b ↔ a = b := by
  constructor
  · intro h
    have h2 : (BitVec.ofNat 32 a).toNat = (BitVec.ofNat 32 b).toNat := congrArg (fun z : Int32 => z.toBitVec.toNat) h
    rw [BitVec.toNat_ofNat, BitVec.toNat_ofNat, Nat.mod_eq_of_lt ha, Nat.mod_eq_of_lt hb] at h2; exact h2
  · intro h; rw [h]
def gI (g : Nat) : Int32 := if g = 0 then -1 else nI g
theorem gpN_b {L j : Nat} {el : Nat → Int64} (hL : L ≤ 60) (hw : ∀ j, j < 60 → ∃ w : Int32, el j = w.toInt64) : gpN L el j < 2 ^ 31 := by
  unfold gpN
  by_cases c : j < L ∧ 1 ≤ el j
  · rw [if_pos c]
    obtain ⟨w, e⟩ := hw j (by omega)
    rw [e, Int32.toInt_toInt64]
    have := w.toInt_lt; omega
  · rw [if_neg c]; decide
theorem gpN_y {L j : Nat} {el : Nat → Int64} (hj : j < L) (c : 1 ≤ el j) (hw : ∃ w : Int32, el j = w.toInt64) : (el j).toInt32 = gI (gpN L el j) ∧ gpN L el j ≠ 0 ∧ el j = nJ (gpN L el j) := by
  obtain ⟨w, e⟩ := hw
  have h1 : 1 ≤ w.toInt := by
    have := Int64.le_iff_toInt_le.mp c
    rw [e, Int32.toInt_toInt64] at this; exact this
  have h2 : gpN L el j = w.toInt.toNat := by unfold gpN; rw [if_pos ⟨hj, c⟩, e, Int32.toInt_toInt64]
  have h3 := w.toInt_lt
  have h4 : w = nI w.toInt.toNat := Int32.toInt_inj.mp (by rw [nI_toInt (by omega)]; omega)
  refine ⟨?_, by rw [h2]; omega, ?_⟩
  · rw [h2, e]; unfold gI
    rw [if_neg (by omega), ← h4]
    exact Int32.toInt_inj.mp (by rw [Int64.toInt_toInt32, Int32.toInt_toInt64]; exact Int.bmod_eq_of_le (by have := w.le_toInt; omega) (by omega))
  · rw [h2, e]
    exact Int64.toInt_inj.mp (by rw [Int32.toInt_toInt64, nJ_toInt (by omega)]; omega)
theorem gpN_n {L j : Nat} {el : Nat → Int64} (c : ¬ (j < L ∧ 1 ≤ el j)) : gpN L el j = 0 := if_neg c
theorem gI_lt {g : Nat} (hg : g < 2 ^ 31) : gI g < 0 ↔ g = 0 := by
  unfold gI
  by_cases c : g = 0
  · rw [if_pos c]; exact ⟨fun _ => c, fun _ => by decide⟩
  · rw [if_neg c]; exact ⟨fun z => absurd z (nI_nlt (a := g) (b := 0) (by omega) (by omega)), fun z => absurd z c⟩
theorem du_0 {k g : Nat} (h : g = 0) : (-1 : Int32) = nI (duN k g) := by unfold duN; rw [if_pos h]; rfl
theorem du_1 {k g : Nat} (h : ¬ g = 0) : nI k + gI g = nI (duN k g) := by unfold duN gI; rw [if_neg h, if_neg h, nI_add]
theorem du_b {k g : Nat} (hk : k ≤ 300) (hg : g < 2 ^ 31) : duN k g < 2 ^ 32 := by unfold duN; split <;> omega
theorem du_g {g : Nat} : gI g = nI (duN 0 g) := by
  unfold gI duN; split
  · rfl
  · rw [Nat.zero_add]
/-- the reference's due -/
def dJ (d : Nat) : Int64 := if d = 4294967295 then -1 else nJ d
theorem dJ_eq {k d : Nat} (hk : k < 1000) (hd : d < 2 ^ 32) : (nI k).toInt64 = dJ d ↔ k = d := by
  unfold dJ
  rw [nI_J (by omega)]
  by_cases c : d = 4294967295
  · rw [if_pos c]
    constructor
    · intro z
      have := congrArg Int64.toInt z
      rw [nJ_toInt (by omega), show (-1 : Int64).toInt = -1 from rfl] at this; omega
    · intro z; omega
  · rw [if_neg c]
    constructor
    · intro z
      have := congrArg Int64.toInt z
      rw [nJ_toInt (by omega), nJ_toInt (by omega)] at this; omega
    · intro z; rw [z]
theorem dJ_0 {k g : Nat} (h : g = 0) : (-1 : Int64) = dJ (duN k g) := by unfold dJ duN; rw [if_pos h, if_pos rfl]
theorem dJ_1 {k g : Nat} (hk : k < 1000) (hg : g < 2 ^ 31) (h : ¬ g = 0) : nJ k + nJ g = dJ (duN k g) := by
  unfold dJ duN
  rw [if_neg h, if_neg (by omega)]; exact (Int64.ofNat_add k g).symm
def muRf (n : Nat) (D : xM) (t : Option zL) (S : Nat → Int32) (G : xQs) (q : Nat) : Int32 := if (G q).1 = 0 then -11 else if (G q).1 = 1 then nI (muV (PS n t S) (G q).2.1 (G q).2.2 (S 0) D) else -12
def muR (n : Nat) (D : xM) (t : Option zL) (S : Nat → Int32) (G : xQs) (sh : Int32) : Int32 := if 0 ≤ sh ∧ sh ≤ 5 then muRf n D t S G (w_ix sh) else -1
theorem muR_y {n : Nat} {D : xM} {t : Option zL} {S : Nat → Int32} {G : xQs} {q : Nat} (hq : q < 6) : muRf n D t S G q = muR n D t S G (nI q) := by
  unfold muR
  rw [if_pos (show 0 ≤ nI q ∧ nI q ≤ 5 from ⟨nI_pos' (by omega), nI_le (a := q) (b := 5) (by omega) (by decide)⟩), w_ix_n (by omega)]
theorem muR_n {n : Nat} {D : xM} {t : Option zL} {S : Nat → Int32} {G : xQs} {sh : Int32} (c : ¬ (0 ≤ sh ∧ sh ≤ 5)) : -1 = muR n D t S G sh := (if_neg c).symm
