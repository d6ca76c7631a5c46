theorem and1_01 (x : Int32) : x &&& 1 = 0 ∨ x &&& 1 = 1 := by
  have h : (x &&& 1).toBitVec.toNat < 2 := by
    rw [Int32.toBitVec_and, BitVec.toNat_and, show (1 : Int32).toBitVec.toNat = 1 from rfl, Nat.and_one_is_mod]; omega
  have h2 : (x &&& 1).toBitVec.toNat = 0 ∨ (x &&& 1).toBitVec.toNat = 1 := by omega
  rcases h2 with h2 | h2
  · exact Or.inl (Int32.toBitVec_inj.mp (BitVec.eq_of_toNat_eq (h2.trans rfl)))
  · exact Or.inr (Int32.toBitVec_inj.mp (BitVec.eq_of_toNat_eq (h2.trans rfl)))
/-- is each of a set up -/
def auF (b : Int32) : Nat → xM → Bool
  | 0, _ => true
  | n + 1, D => auF b n D && !(decide (w_in b n) && decide (D n 4 = 0))
theorem auF_n {b : Int32} {D : xM} {k : Nat} (h : auF b k D = true) (c : ¬ (w_in b k ∧ D k 4 = 0)) : auF b (k + 1) D = true := by
  show (auF b k D && !(decide (w_in b k) && decide (D k 4 = 0))) = true
  rw [h]
  by_cases c1 : w_in b k
  · have c2 : ¬ D k 4 = 0 := fun z => c ⟨c1, z⟩
    simp [c2]
  · simp [c1]
theorem auF_y {b : Int32} {D : xM} {k : Nat} (c1 : w_in b k) (c2 : D k 4 = 0) : auF b (k + 1) D = false := by
  show (auF b k D && !(decide (w_in b k) && decide (D k 4 = 0))) = false
  rw [decide_eq_true c1, decide_eq_true c2]; exact Bool.and_false _
theorem auF_m {b : Int32} {D : xM} {k : Nat} (h : auF b k D = false) : ∀ m, auF b (k + m) D = false := by
  intro m
  induction m with
  | zero => exact h
  | succ m ih => show (auF b (k + m) D && _) = false; rw [ih]; rfl
theorem auF_in {b : Int32} {D : xM} : ∀ n, auF b n D = true → ∀ k, k < n → w_in b k → ¬ D k 4 = 0 := by
  intro n
  induction n with
  | zero => intro _ k hk; exact absurd hk (Nat.not_lt_zero k)
  | succ n ih =>
    intro h k hk hw hz
    have h' : (auF b n D && !(decide (w_in b n) && decide (D n 4 = 0))) = true := h
    rw [Bool.and_eq_true] at h'
    by_cases e : k = n
    · subst e; simp [hw, hz] at h'
    · exact ih h'.1 k (by omega) hw hz
theorem auF_cg {b : Int32} {D : xM} {f : Nat → Bool} : ∀ n, (∀ k, k < n → (f k = true ↔ ¬ D k 4 = 0)) → (auF b n D = true ↔ ∀ k, k < n → w_in b k → f k = true) := by
  intro n
  induction n with
  | zero => intro _; exact ⟨fun _ k hk => absurd hk (Nat.not_lt_zero k), fun _ => rfl⟩
  | succ n ih =>
    intro h
    have e := ih (fun k hk => h k (by omega))
    constructor
    · intro h2 k hk hw; exact (h k hk).mpr (auF_in _ h2 k hk hw)
    · intro h2; exact auF_n (e.mpr (fun k hk => h2 k (by omega))) (fun z => (h n (by omega)).mp (h2 n (by omega) z.1) z.2)
theorem sub_t : ∀ a b c d e : Bool, ∀ n, n < 6 → ∀ s, s < 2 ^ n → (nI s &&& (upB n (tb5 a b c d e) ^^^ (-1)) = 0 ↔ ∀ k, k < n → w_in (nI s) k → tb5 a b c d e k = true) := by decide +kernel
theorem sub_au {n s : Nat} {D : xM} (hn : n ≤ 5) (hs : s < 2 ^ n) : nI s &&& (upS n D ^^^ (-1)) = 0 ↔ auF (nI s) n D = true := by
  have e : upS n D = upB n (tb5 (isU D 0) (isU D 1) (isU D 2) (isU D 3) (isU D 4)) := (upB_c n (fun i hi => tb5_c (isU D) i (by omega))).1
  rw [e, sub_t _ _ _ _ _ n (by omega) s hs]
  refine (auF_cg n (fun k hk => ?_)).symm
  rw [← tb5_c (isU D) k (by omega)]; unfold isU; simp
/-- hoops that a set of bits names -/
def bcV (s : Nat) : Int32 := bcF 32 (nI s) 0
def hdV (n : Nat) (D : xM) (t : Option zL) (S : Nat → Int32) (b : Nat) : Nat := laV (PS n t S) (S 0) (w_msk (nI b) D)
def hd1 (n : Nat) (D : xM) (t : Option zL) (S : Nat → Int32) (nn : Int32) (s b : Nat) : Nat := if bcV s < bcV b ∧ auF (nI b) n D = true ∧ nn ≤ nI (hdV n D t S b) then b else s
def hdL (n : Nat) (D : xM) (t : Option zL) (S : Nat → Int32) (nn : Int32) : Nat → Nat → Nat → Nat
  | 0, _, s => s
  | m + 1, b, s => hdL n D t S nn m (b + 1) (hd1 n D t S nn s b)
def hdR (n : Nat) (D : xM) (t : Option zL) (S : Nat → Int32) (nn : Int32) : Int32 := if 1 ≤ nn ∧ nn ≤ 200 then (if hdL n D t S nn (2 ^ n - 1) 1 0 = 0 then -2 else nI (hdL n D t S nn (2 ^ n - 1) 1 0)) else -1
theorem hdL_e {n : Nat} {D : xM} {t : Option zL} {S : Nat → Int32} {nn : Int32} {N k s s2 : Nat} (hk : k < N) (e : hd1 n D t S nn s k = s2) : hdL n D t S nn (N - (k + 1)) (k + 1) s2 = hdL n D t S nn (N - k) k s := by
  rw [show N - k = (N - (k + 1)) + 1 by omega, ← e]; rfl
theorem WF_msk {n : Nat} {b : Int32} {D : xM} (h : WF n D) : WF n (w_msk b D) := fun i hi => by
  obtain ⟨a, c, d, e, f, g⟩ := h i hi
  rw [show w_msk b D i 0 = D i 0 from if_neg (fun q => q.1.elim (by decide) (by decide)), show w_msk b D i 1 = D i 1 from if_neg (fun q => q.1.elim (by decide) (by decide)), ← msk_2]
  by_cases w : w_in b i
  · rw [← msk_y w, ← msk_y w]; exact ⟨a, c, d, e, f, g⟩
  · rw [← msk_n (Or.inl rfl) w, ← msk_n (Or.inr rfl) w]; exact ⟨a, c, d, by decide, by decide, fun _ => rfl⟩
theorem hs_msk {n s : Nat} {D : xM} (h : auF (nI s) n D = true) : ∀ k, k < n → (w_in (nI s) k ↔ ¬ w_msk (nI s) D k 4 = 0) := fun k hk => by
  constructor
  · intro w; rw [← msk_y w]; exact auF_in n h k hk w
  · intro z
    by_cases w : w_in (nI s) k
    · exact w
    · exact absurd (msk_n (Or.inr rfl) w).symm z
/-- laid so far: hoops ahead of k -/
def mkK (b : Int32) (k : Nat) (D : xM) : xM := fun i j => if i < k then w_msk b D i j else D i j
theorem mkK_0 {b : Int32} {D : xM} : mkK b 0 D = D := by funext i j; exact if_neg (Nat.not_lt_zero i)
theorem mkK_n {b : Int32} {k i : Nat} {D : xM} (h : i ≠ k) (j : Nat) : mkK b (k + 1) D i j = mkK b k D i j := by
  unfold mkK
  by_cases c : i < k
  · rw [if_pos (by omega), if_pos c]
  · rw [if_neg (by omega), if_neg c]
theorem mkK_y {b : Int32} {k : Nat} {D : xM} (j : Nat) : mkK b (k + 1) D k j = w_msk b D k j := if_pos (Nat.lt_succ_self k)
theorem mkK_k {b : Int32} {k : Nat} {D : xM} (j : Nat) : mkK b k D k j = D k j := if_neg (Nat.lt_irrefl k)
theorem AbC_mk {b : Int32} {n k : Nat} {M1 D : xM} (h : AbC 30 n M1 (mkK b k D)) (w : w_in b k) : AbC 30 n M1 (mkK b (k + 1) D) := AbC_eq h (fun i hi j hj => by
  by_cases e : i = k
  · subst e; rw [mkK_k, mkK_y]; exact msk_y w
  · exact (mkK_n e j).symm)
theorem AbC_md {b : Int32} {n k : Nat} {M1 M2 D : xM} (h : AbC 30 n M1 (mkK b k D)) (hk : k < n) (w : ¬ w_in b k) (hK : Ke (fun p _ => p = 30 + k) M1 M2) (h0 : M2 (30 + k) 0 = M1 (30 + k) 0) (h1 : M2 (30 + k) 1 = M1 (30 + k) 1) (h2 : M2 (30 + k) 2 = M1 (30 + k) 2) (h3 : M2 (30 + k) 3 = 0) (h4 : M2 (30 + k) 4 = 0) : AbC 30 n M2 (mkK b (k + 1) D) := by
  refine AbC_5 (i := k) h (fun j _ he i => hK (30 + j) i (show ¬ 30 + j = 30 + k by omega)) (fun j he i => mkK_n he i) ?_ ?_ ?_ ?_ ?_ n (fun j hj => Or.inl hj)
  · rw [h0, h k hk 0 (by decide), mkK_k, mkK_y]; exact (if_neg (fun q => q.1.elim (by decide) (by decide))).symm
  · rw [h1, h k hk 1 (by decide), mkK_k, mkK_y]; exact (if_neg (fun q => q.1.elim (by decide) (by decide))).symm
  · rw [h2, h k hk 2 (by decide), mkK_k, mkK_y]; exact msk_2
  · rw [h3, mkK_y]; exact msk_n (Or.inl rfl) w
  · rw [h4, mkK_y]; exact msk_n (Or.inr rfl) w
theorem TC_m {M M2 : xM} {P : xP} {nw : Int32} {D : xM} {k : Nat} {mt mf mg b : Int32} (hT : TC M P nw D k mt mf mg) (hA : AbC 30 P.1 M2 (w_msk b D)) (hK : Ke W28h M M2) : TC M2 P nw (w_msk b D) k mt mf mg := by
  obtain ⟨⟨a, hb, c, d⟩, ⟨e1, e2, e3, e4, e5⟩, f1, ⟨q, hq, f2⟩, f3, f4, f5, f6⟩ := hT
  have h28 : ∀ j, M2 28 j = M 28 j := fun j => hK 28 j (by unfold W28h; omega)
  have h27 : ∀ j, M2 27 j = M 27 j := fun j => hK 27 j (by unfold W28h; omega)
  exact ⟨⟨(h28 2).trans a, hA, WF_msk c, LCt_k (hK 1 4 (by decide)) (fun k => hK 2 k (by unfold W28h; omega)) (fun k => hK 3 k (by unfold W28h; omega)) d⟩, ⟨(h28 3).trans e1, (h28 4).trans e2, (h28 5).trans e3, (h28 6).trans e4, (h28 7).trans e5⟩, (h27 2).trans f1, ⟨q, hq, (h27 3).trans f2⟩, (h27 4).trans f3, (h27 5).trans f4, (h27 6).trans f5, (h27 7).trans f6⟩
def bcJ (v : Int32) : Int32 := ((((((((v - ((((v).toUInt32 >>> ((1 : Int32).toUInt32 &&& Int32.toUInt32 31)).toInt32) &&& 1431655765)) &&& 858993459) + (((((v - ((((v).toUInt32 >>> ((1 : Int32).toUInt32 &&& Int32.toUInt32 31)).toInt32) &&& 1431655765))).toUInt32 >>> ((2 : Int32).toUInt32 &&& Int32.toUInt32 31)).toInt32) &&& 858993459)) + ((((((v - ((((v).toUInt32 >>> ((1 : Int32).toUInt32 &&& Int32.toUInt32 31)).toInt32) &&& 1431655765)) &&& 858993459) + (((((v - ((((v).toUInt32 >>> ((1 : Int32).toUInt32 &&& Int32.toUInt32 31)).toInt32) &&& 1431655765))).toUInt32 >>> ((2 : Int32).toUInt32 &&& Int32.toUInt32 31)).toInt32) &&& 858993459))).toUInt32 >>> ((4 : Int32).toUInt32 &&& Int32.toUInt32 31)).toInt32)) &&& 252645135) + ((((((((v - ((((v).toUInt32 >>> ((1 : Int32).toUInt32 &&& Int32.toUInt32 31)).toInt32) &&& 1431655765)) &&& 858993459) + (((((v - ((((v).toUInt32 >>> ((1 : Int32).toUInt32 &&& Int32.toUInt32 31)).toInt32) &&& 1431655765))).toUInt32 >>> ((2 : Int32).toUInt32 &&& Int32.toUInt32 31)).toInt32) &&& 858993459)) + ((((((v - ((((v).toUInt32 >>> ((1 : Int32).toUInt32 &&& Int32.toUInt32 31)).toInt32) &&& 1431655765)) &&& 858993459) + (((((v - ((((v).toUInt32 >>> ((1 : Int32).toUInt32 &&& Int32.toUInt32 31)).toInt32) &&& 1431655765))).toUInt32 >>> ((2 : Int32).toUInt32 &&& Int32.toUInt32 31)).toInt32) &&& 858993459))).toUInt32 >>> ((4 : Int32).toUInt32 &&& Int32.toUInt32 31)).toInt32)) &&& 252645135)).toUInt32 >>> ((8 : Int32).toUInt32 &&& Int32.toUInt32 31)).toInt32)) + (((((((((v - ((((v).toUInt32 >>> ((1 : Int32).toUInt32 &&& Int32.toUInt32 31)).toInt32) &&& 1431655765)) &&& 858993459) + (((((v - ((((v).toUInt32 >>> ((1 : Int32).toUInt32 &&& Int32.toUInt32 31)).toInt32) &&& 1431655765))).toUInt32 >>> ((2 : Int32).toUInt32 &&& Int32.toUInt32 31)).toInt32) &&& 858993459)) + ((((((v - ((((v).toUInt32 >>> ((1 : Int32).toUInt32 &&& Int32.toUInt32 31)).toInt32) &&& 1431655765)) &&& 858993459) + (((((v - ((((v).toUInt32 >>> ((1 : Int32).toUInt32 &&& Int32.toUInt32 31)).toInt32) &&& 1431655765))).toUInt32 >>> ((2 : Int32).toUInt32 &&& Int32.toUInt32 31)).toInt32) &&& 858993459))).toUInt32 >>> ((4 : Int32).toUInt32 &&& Int32.toUInt32 31)).toInt32)) &&& 252645135) + ((((((((v - ((((v).toUInt32 >>> ((1 : Int32).toUInt32 &&& Int32.toUInt32 31)).toInt32) &&& 1431655765)) &&& 858993459) + (((((v - ((((v).toUInt32 >>> ((1 : Int32).toUInt32 &&& Int32.toUInt32 31)).toInt32) &&& 1431655765))).toUInt32 >>> ((2 : Int32).toUInt32 &&& Int32.toUInt32 31)).toInt32) &&& 858993459)) + ((((((v - ((((v).toUInt32 >>> ((1 : Int32).toUInt32 &&& Int32.toUInt32 31)).toInt32) &&& 1431655765)) &&& 858993459) + (((((v - ((((v).toUInt32 >>> ((1 : Int32).toUInt32 &&& Int32.toUInt32 31)).toInt32) &&& 1431655765))).toUInt32 >>> ((2 : Int32).toUInt32 &&& Int32.toUInt32 31)).toInt32) &&& 858993459))).toUInt32 >>> ((4 : Int32).toUInt32 &&& Int32.toUInt32 31)).toInt32)) &&& 252645135)).toUInt32 >>> ((8 : Int32).toUInt32 &&& Int32.toUInt32 31)).toInt32))).toUInt32 >>> ((16 : Int32).toUInt32 &&& Int32.toUInt32 31)).toInt32)) &&& 63)
set_option maxRecDepth 100000 in
set_option maxHeartbeats 4000000 in
theorem gw_J6_bitCount (v : Int32) {l : Launch} {G : xG} {sh : List xS} {M : xM} {J : xJ} : x_M l G fJ6_bitCount_0f7a4 0 0 0 [.int (v)] sh M J (qE (some (.int (bcJ v))) sh M J) := by
  refine xb_of pJ6 (Nat.le_of_ble_eq_true rfl) rfl ?_
  refine xr_iload_n dJ6_bitCount_0f7a4_0 0 rfl ?_
  refine xr_iload_n dJ6_bitCount_0f7a4_1 0 rfl ?_
  refine xr_iconst (v := 1) dJ6_bitCount_0f7a4_2 rfl ?_
  refine xr_iushr dJ6_bitCount_0f7a4_3 ?_
  refine xr_ldcw coJ6_265 dJ6_bitCount_0f7a4_4 ?_
  refine xr_iand dJ6_bitCount_0f7a4_7 ?_
  refine xr_isub dJ6_bitCount_0f7a4_8 ?_
  refine xr_istore_n (ls2 := [(0, .int ((v - ((((v).toUInt32 >>> ((1 : Int32).toUInt32 &&& Int32.toUInt32 31)).toInt32) &&& 1431655765))))]) dJ6_bitCount_0f7a4_9 (by decide) rfl ?_
  refine xr_iload_n dJ6_bitCount_0f7a4_10 0 rfl ?_
  refine xr_ldcw coJ6_266 dJ6_bitCount_0f7a4_11 ?_
  refine xr_iand dJ6_bitCount_0f7a4_14 ?_
  refine xr_iload_n dJ6_bitCount_0f7a4_15 0 rfl ?_
  refine xr_iconst (v := 2) dJ6_bitCount_0f7a4_16 rfl ?_
  refine xr_iushr dJ6_bitCount_0f7a4_17 ?_
  refine xr_ldcw coJ6_266 dJ6_bitCount_0f7a4_18 ?_
  refine xr_iand dJ6_bitCount_0f7a4_21 ?_
  refine xr_iadd dJ6_bitCount_0f7a4_22 ?_
  refine xr_istore_n (ls2 := [(0, .int ((((v - ((((v).toUInt32 >>> ((1 : Int32).toUInt32 &&& Int32.toUInt32 31)).toInt32) &&& 1431655765)) &&& 858993459) + (((((v - ((((v).toUInt32 >>> ((1 : Int32).toUInt32 &&& Int32.toUInt32 31)).toInt32) &&& 1431655765))).toUInt32 >>> ((2 : Int32).toUInt32 &&& Int32.toUInt32 31)).toInt32) &&& 858993459))))]) dJ6_bitCount_0f7a4_23 (by decide) rfl ?_
  refine xr_iload_n dJ6_bitCount_0f7a4_24 0 rfl ?_
  refine xr_iload_n dJ6_bitCount_0f7a4_25 0 rfl ?_
  refine xr_iconst (v := 4) dJ6_bitCount_0f7a4_26 rfl ?_
  refine xr_iushr dJ6_bitCount_0f7a4_27 ?_
  refine xr_iadd dJ6_bitCount_0f7a4_28 ?_
  refine xr_ldcw coJ6_267 dJ6_bitCount_0f7a4_29 ?_
  refine xr_iand dJ6_bitCount_0f7a4_32 ?_
  refine xr_istore_n (ls2 := [(0, .int ((((((v - ((((v).toUInt32 >>> ((1 : Int32).toUInt32 &&& Int32.toUInt32 31)).toInt32) &&& 1431655765)) &&& 858993459) + (((((v - ((((v).toUInt32 >>> ((1 : Int32).toUInt32 &&& Int32.toUInt32 31)).toInt32) &&& 1431655765))).toUInt32 >>> ((2 : Int32).toUInt32 &&& Int32.toUInt32 31)).toInt32) &&& 858993459)) + ((((((v - ((((v).toUInt32 >>> ((1 : Int32).toUInt32 &&& Int32.toUInt32 31)).toInt32) &&& 1431655765)) &&& 858993459) + (((((v - ((((v).toUInt32 >>> ((1 : Int32).toUInt32 &&& Int32.toUInt32 31)).toInt32) &&& 1431655765))).toUInt32 >>> ((2 : Int32).toUInt32 &&& Int32.toUInt32 31)).toInt32) &&& 858993459))).toUInt32 >>> ((4 : Int32).toUInt32 &&& Int32.toUInt32 31)).toInt32)) &&& 252645135)))]) dJ6_bitCount_0f7a4_33 (by decide) rfl ?_
  refine xr_iload_n dJ6_bitCount_0f7a4_34 0 rfl ?_
  refine xr_iload_n dJ6_bitCount_0f7a4_35 0 rfl ?_
  refine xr_bipush (v := 8) dJ6_bitCount_0f7a4_36 rfl ?_
  refine xr_iushr dJ6_bitCount_0f7a4_38 ?_
  refine xr_iadd dJ6_bitCount_0f7a4_39 ?_
  refine xr_istore_n (ls2 := [(0, .int (((((((v - ((((v).toUInt32 >>> ((1 : Int32).toUInt32 &&& Int32.toUInt32 31)).toInt32) &&& 1431655765)) &&& 858993459) + (((((v - ((((v).toUInt32 >>> ((1 : Int32).toUInt32 &&& Int32.toUInt32 31)).toInt32) &&& 1431655765))).toUInt32 >>> ((2 : Int32).toUInt32 &&& Int32.toUInt32 31)).toInt32) &&& 858993459)) + ((((((v - ((((v).toUInt32 >>> ((1 : Int32).toUInt32 &&& Int32.toUInt32 31)).toInt32) &&& 1431655765)) &&& 858993459) + (((((v - ((((v).toUInt32 >>> ((1 : Int32).toUInt32 &&& Int32.toUInt32 31)).toInt32) &&& 1431655765))).toUInt32 >>> ((2 : Int32).toUInt32 &&& Int32.toUInt32 31)).toInt32) &&& 858993459))).toUInt32 >>> ((4 : Int32).toUInt32 &&& Int32.toUInt32 31)).toInt32)) &&& 252645135) + ((((((((v - ((((v).toUInt32 >>> ((1 : Int32).toUInt32 &&& Int32.toUInt32 31)).toInt32) &&& 1431655765)) &&& 858993459) + (((((v - ((((v).toUInt32 >>> ((1 : Int32).toUInt32 &&& Int32.toUInt32 31)).toInt32) &&& 1431655765))).toUInt32 >>> ((2 : Int32).toUInt32 &&& Int32.toUInt32 31)).toInt32) &&& 858993459)) + ((((((v - ((((v).toUInt32 >>> ((1 : Int32).toUInt32 &&& Int32.toUInt32 31)).toInt32) &&& 1431655765)) &&& 858993459) + (((((v - ((((v).toUInt32 >>> ((1 : Int32).toUInt32 &&& Int32.toUInt32 31)).toInt32) &&& 1431655765))).toUInt32 >>> ((2 : Int32).toUInt32 &&& Int32.toUInt32 31)).toInt32) &&& 858993459))).toUInt32 >>> ((4 : Int32).toUInt32 &&& Int32.toUInt32 31)).toInt32)) &&& 252645135)).toUInt32 >>> ((8 : Int32).toUInt32 &&& Int32.toUInt32 31)).toInt32))))]) dJ6_bitCount_0f7a4_40 (by decide) rfl ?_
  refine xr_iload_n dJ6_bitCount_0f7a4_41 0 rfl ?_
  refine xr_iload_n dJ6_bitCount_0f7a4_42 0 rfl ?_
  refine xr_bipush (v := 16) dJ6_bitCount_0f7a4_43 rfl ?_
  refine xr_iushr dJ6_bitCount_0f7a4_45 ?_
  refine xr_iadd dJ6_bitCount_0f7a4_46 ?_
  refine xr_istore_n (ls2 := [(0, .int ((((((((v - ((((v).toUInt32 >>> ((1 : Int32).toUInt32 &&& Int32.toUInt32 31)).toInt32) &&& 1431655765)) &&& 858993459) + (((((v - ((((v).toUInt32 >>> ((1 : Int32).toUInt32 &&& Int32.toUInt32 31)).toInt32) &&& 1431655765))).toUInt32 >>> ((2 : Int32).toUInt32 &&& Int32.toUInt32 31)).toInt32) &&& 858993459)) + ((((((v - ((((v).toUInt32 >>> ((1 : Int32).toUInt32 &&& Int32.toUInt32 31)).toInt32) &&& 1431655765)) &&& 858993459) + (((((v - ((((v).toUInt32 >>> ((1 : Int32).toUInt32 &&& Int32.toUInt32 31)).toInt32) &&& 1431655765))).toUInt32 >>> ((2 : Int32).toUInt32 &&& Int32.toUInt32 31)).toInt32) &&& 858993459))).toUInt32 >>> ((4 : Int32).toUInt32 &&& Int32.toUInt32 31)).toInt32)) &&& 252645135) + ((((((((v - ((((v).toUInt32 >>> ((1 : Int32).toUInt32 &&& Int32.toUInt32 31)).toInt32) &&& 1431655765)) &&& 858993459) + (((((v - ((((v).toUInt32 >>> ((1 : Int32).toUInt32 &&& Int32.toUInt32 31)).toInt32) &&& 1431655765))).toUInt32 >>> ((2 : Int32).toUInt32 &&& Int32.toUInt32 31)).toInt32) &&& 858993459)) + ((((((v - ((((v).toUInt32 >>> ((1 : Int32).toUInt32 &&& Int32.toUInt32 31)).toInt32) &&& 1431655765)) &&& 858993459) + (((((v - ((((v).toUInt32 >>> ((1 : Int32).toUInt32 &&& Int32.toUInt32 31)).toInt32) &&& 1431655765))).toUInt32 >>> ((2 : Int32).toUInt32 &&& Int32.toUInt32 31)).toInt32) &&& 858993459))).toUInt32 >>> ((4 : Int32).toUInt32 &&& Int32.toUInt32 31)).toInt32)) &&& 252645135)).toUInt32 >>> ((8 : Int32).toUInt32 &&& Int32.toUInt32 31)).toInt32)) + (((((((((v - ((((v).toUInt32 >>> ((1 : Int32).toUInt32 &&& Int32.toUInt32 31)).toInt32) &&& 1431655765)) &&& 858993459) + (((((v - ((((v).toUInt32 >>> ((1 : Int32).toUInt32 &&& Int32.toUInt32 31)).toInt32) &&& 1431655765))).toUInt32 >>> ((2 : Int32).toUInt32 &&& Int32.toUInt32 31)).toInt32) &&& 858993459)) + ((((((v - ((((v).toUInt32 >>> ((1 : Int32).toUInt32 &&& Int32.toUInt32 31)).toInt32) &&& 1431655765)) &&& 858993459) + (((((v - ((((v).toUInt32 >>> ((1 : Int32).toUInt32 &&& Int32.toUInt32 31)).toInt32) &&& 1431655765))).toUInt32 >>> ((2 : Int32).toUInt32 &&& Int32.toUInt32 31)).toInt32) &&& 858993459))).toUInt32 >>> ((4 : Int32).toUInt32 &&& Int32.toUInt32 31)).toInt32)) &&& 252645135) + ((((((((v - ((((v).toUInt32 >>> ((1 : Int32).toUInt32 &&& Int32.toUInt32 31)).toInt32) &&& 1431655765)) &&& 858993459) + (((((v - ((((v).toUInt32 >>> ((1 : Int32).toUInt32 &&& Int32.toUInt32 31)).toInt32) &&& 1431655765))).toUInt32 >>> ((2 : Int32).toUInt32 &&& Int32.toUInt32 31)).toInt32) &&& 858993459)) + ((((((v - ((((v).toUInt32 >>> ((1 : Int32).toUInt32 &&& Int32.toUInt32 31)).toInt32) &&& 1431655765)) &&& 858993459) + (((((v - ((((v).toUInt32 >>> ((1 : Int32).toUInt32 &&& Int32.toUInt32 31)).toInt32) &&& 1431655765))).toUInt32 >>> ((2 : Int32).toUInt32 &&& Int32.toUInt32 31)).toInt32) &&& 858993459))).toUInt32 >>> ((4 : Int32).toUInt32 &&& Int32.toUInt32 31)).toInt32)) &&& 252645135)).toUInt32 >>> ((8 : Int32).toUInt32 &&& Int32.toUInt32 31)).toInt32))).toUInt32 >>> ((16 : Int32).toUInt32 &&& Int32.toUInt32 31)).toInt32))))]) dJ6_bitCount_0f7a4_47 (by decide) rfl ?_
  refine xr_iload_n dJ6_bitCount_0f7a4_48 0 rfl ?_
  refine xr_bipush (v := 63) dJ6_bitCount_0f7a4_49 rfl ?_
  refine xr_iand dJ6_bitCount_0f7a4_51 ?_
  exact xr_iret dJ6_bitCount_0f7a4_52 rfl rfl (⟨rfl, rfl, rfl, rfl⟩)
theorem bcJ_e {s : Nat} (h : s < 32) : bcJ (nI s) = bcV s := (show ∀ s, s < 32 → bcJ (nI s) = bcV s by decide +kernel) s h
set_option maxRecDepth 100000 in
set_option maxHeartbeats 4000000 in
theorem aux {bi : Int32} {D : xM} {cn : Nat} (h_cn : cn ≤ 5) {l : Launch} {G : xG} {M : xM} {J : xJ} {Q : xQ} (e_cn : M 13 2 = nI cn) (hA : AbC 15 cn M D) (hR : ∀ r : Int32, (r = 0 ∧ auF bi cn D = false ∨ r = 1 ∧ auF bi cn D = true) → Q (some (.int r)) x_SH M J) (hC : (auF bi cn D = true) → x_X l G fX5_allUp 1 0 0 Q 39 [(1, .int (bi)), (0, .ref (13))] [] x_SH M J 0 0) : ∀ (m k : Nat), k + m = cn → (auF bi k D = true) → x_X l G fX5_allUp 1 0 0 Q 2 [(2, .int (nI (k))), (1, .int (bi)), (0, .ref (13))] [] x_SH M J 0 0 := by
  intro m
  induction m with
  | zero =>
    intro k hk hI
    refine xr_iload_n dX5_allUp_2 0 rfl ?_
    refine xr_aload_n dX5_allUp_3 2 rfl ?_
    refine xb_get (v := nI (cn)) flX5_35 dX5_allUp_4 s_13 rfl e_cn ?_
    refine xr_icmp_ge (tgt := 39) dX5_allUp_7 rfl (fun _ => ?_) (fun c => absurd (nI_le (a := cn) (b := k) (by omega) (by omega)) c)
    refine xb_ls (ls2 := [(1, .int (bi)), (0, .ref (13))]) [1, 2] rfl ?_
    exact hC (by obtain rfl : k = cn := (by omega); exact hI)
  | succ m ih =>
    intro k hk hI
    have hkN : k < cn := by omega
    refine xr_iload_n dX5_allUp_2 0 rfl ?_
    refine xr_aload_n dX5_allUp_3 2 rfl ?_
    refine xb_get (v := nI (cn)) flX5_35 dX5_allUp_4 s_13 rfl e_cn ?_
    refine xr_icmp_ge (tgt := 39) dX5_allUp_7 rfl (fun c => absurd c (nI_ge (a := k) (b := cn) (by omega) (by omega))) (fun _ => ?_)
    refine xr_iload_n dX5_allUp_10 1 rfl ?_
    refine xr_iload_n dX5_allUp_11 0 rfl ?_
    refine xr_ishr dX5_allUp_12 ?_
    refine xr_iconst (v := 1) dX5_allUp_13 rfl ?_
    refine xr_iand dX5_allUp_14 ?_
    refine xr_iconst (v := 1) dX5_allUp_15 rfl ?_
    refine xr_icmp_ne (tgt := 33) dX5_allUp_16 rfl (fun c1 => ?_) (fun c1 => ?_)
    · refine xr_iinc (v := nI (k + 1)) (ls2 := [(2, .int (nI (k + 1))), (1, .int (bi)), (0, .ref (13))]) dX5_allUp_33 0 rfl (nI_1 _) (by decide) rfl ?_
      refine xr_goto (tgt := 2) dX5_allUp_36 rfl ?_
      refine xb_ls (ls2 := [(2, .int (nI (k + 1))), (1, .int (bi)), (0, .ref (13))]) [0, 1, 2] rfl ?_
      exact ih (k + 1) (by omega) (auF_n hI (fun z => c1 z.1))
    · refine xr_aload_n dX5_allUp_19 2 rfl ?_
      refine xr_getR flX5_17 dX5_allUp_20 s_13 rfl ?_
      refine xr_iload_n dX5_allUp_23 0 rfl ?_
      refine xb_aald (j := k) (q := 15 + k) (by decide) dX5_allUp_24 s_14 (by omega) (by decide) (if_pos (by omega)) ?_
      refine xb_cV (As := []) (rest := []) mlX5_70 (c_X2_lies (s_hp15 (by omega))) dX5_allUp_25 (s_hp15 (by omega)) rfl rfl (Nat.le_of_ble_eq_true rfl) (by decide) (by decide) ?_
      refine xb_beq (tgt := 33) dX5_allUp_28 rfl (fun c2 => ?_) (fun c2 => ?_)
      · refine xr_iinc (v := nI (k + 1)) (ls2 := [(2, .int (nI (k + 1))), (1, .int (bi)), (0, .ref (13))]) dX5_allUp_33 0 rfl (nI_1 _) (by decide) rfl ?_
        refine xr_goto (tgt := 2) dX5_allUp_36 rfl ?_
        refine xb_ls (ls2 := [(2, .int (nI (k + 1))), (1, .int (bi)), (0, .ref (13))]) [0, 1, 2] rfl ?_
        exact ih (k + 1) (by omega) (auF_n hI (fun z => c2 ((hA k (by omega) 4 (by decide)).trans z.2)))
      · refine xr_iconst (v := 0) dX5_allUp_31 rfl ?_
        exact xr_iret dX5_allUp_32 rfl rfl ((hR _ (Or.inl ⟨rfl, by have z := auF_m (auF_y c1 ((hA k (by omega) 4 (by decide)).symm.trans c2)) (cn - (k + 1)); rwa [show k + 1 + (cn - (k + 1)) = cn by omega] at z⟩)))
set_option maxRecDepth 100000 in
set_option maxHeartbeats 4000000 in
theorem gw_X5_allUp (bi : Int32) {D : xM} {cn : Nat} (h_cn : cn ≤ 5) {l : Launch} {G : xG} {M : xM} {J : xJ} (e_cn : M 13 2 = nI cn) (hA : AbC 15 cn M D) : x_M l G fX5_allUp 1 0 0 [.ref (13), .int (bi)] x_SH M J (qPI M J (fun r => r = 0 ∧ auF bi cn D = false ∨ r = 1 ∧ auF bi cn D = true)) := by
  refine xb_of pX5 (Nat.le_of_ble_eq_true rfl) rfl ?_
  refine xr_iconst (v := 0) dX5_allUp_0 rfl ?_
  refine xr_istore_n (ls2 := [(2, .int (0)), (0, .ref (13)), (1, .int (bi))]) dX5_allUp_1 (by decide) rfl ?_
  refine xb_ls (ls2 := [(2, .int (nI (0))), (1, .int (bi)), (0, .ref (13))]) [0, 2, 1] rfl ?_
  refine aux h_cn e_cn hA (fun r hr => ⟨_, rfl, rfl, rfl, rfl, hr⟩) (fun hE => ?_) (cn - 0) 0 (by omega) rfl
  refine xr_iconst (v := 1) dX5_allUp_39 rfl ?_
  exact xr_iret dX5_allUp_40 rfl rfl (⟨_, rfl, rfl, rfl, rfl, (Or.inr ⟨rfl, hE⟩)⟩)
set_option maxRecDepth 100000 in
set_option maxHeartbeats 4000000 in
theorem lbx {bi : Int32} {D : xM} {cn : Nat} (h_cn : cn ≤ 5) {l : Launch} {G : xG} {M : xM} {J : xJ} {Q : xQ} (e_cn : M 28 2 = nI cn) (hC : ∀ (M2 : xM), Ke W28h M M2 → (AbC 30 cn M2 (mkK bi cn D)) → x_X l G fX5_layAllBut 1 0 0 Q 33 [(1, .int (bi)), (0, .ref (28))] [] x_SH M2 J 0 0) : ∀ (m k : Nat) (M1 : xM), k + m = cn → Ke W28h M M1 → (AbC 30 cn M1 (mkK bi k D)) → x_X l G fX5_layAllBut 1 0 0 Q 2 [(2, .int (nI (k))), (1, .int (bi)), (0, .ref (28))] [] x_SH M1 J 0 0 := by
  intro m
  induction m with
  | zero =>
    intro k M1 hk hM hI
    refine xr_iload_n dX5_layAllBut_2 0 rfl ?_
    refine xr_aload_n dX5_layAllBut_3 2 rfl ?_
    refine xb_get (v := nI (cn)) flX5_35 dX5_layAllBut_4 s_28 rfl (Eq.trans (hM 28 2 (by decide)) e_cn) ?_
    refine xr_icmp_ge (tgt := 33) dX5_layAllBut_7 rfl (fun _ => ?_) (fun c => absurd (nI_le (a := cn) (b := k) (by omega) (by omega)) c)
    refine xb_ls (ls2 := [(1, .int (bi)), (0, .ref (28))]) [1, 2] rfl ?_
    exact hC _ hM (by obtain rfl : k = cn := (by omega); exact hI)
  | succ m ih =>
    intro k M1 hk hM hI
    have hkN : k < cn := by omega
    refine xr_iload_n dX5_layAllBut_2 0 rfl ?_
    refine xr_aload_n dX5_layAllBut_3 2 rfl ?_
    refine xb_get (v := nI (cn)) flX5_35 dX5_layAllBut_4 s_28 rfl (Eq.trans (hM 28 2 (by decide)) e_cn) ?_
    refine xr_icmp_ge (tgt := 33) dX5_layAllBut_7 rfl (fun c => absurd c (nI_ge (a := k) (b := cn) (by omega) (by omega))) (fun _ => ?_)
    refine xr_iload_n dX5_layAllBut_10 1 rfl ?_
    refine xr_iload_n dX5_layAllBut_11 0 rfl ?_
    refine xr_ishr dX5_layAllBut_12 ?_
    refine xr_iconst (v := 1) dX5_layAllBut_13 rfl ?_
    refine xr_iand dX5_layAllBut_14 ?_
    refine xr_if_ne (tgt := 27) dX5_layAllBut_15 rfl (fun c1 => ?_) (fun c1 => ?_)
    · refine xr_iinc (v := nI (k + 1)) (ls2 := [(2, .int (nI (k + 1))), (1, .int (bi)), (0, .ref (28))]) dX5_layAllBut_27 0 rfl (nI_1 _) (by decide) rfl ?_
      refine xr_goto (tgt := 2) dX5_layAllBut_30 rfl ?_
      refine xb_ls (ls2 := [(2, .int (nI (k + 1))), (1, .int (bi)), (0, .ref (28))]) [0, 1, 2] rfl ?_
      exact ih (k + 1) M1 (by omega) hM (AbC_mk hI ((and1_01 _).resolve_left c1))
    · refine xr_aload_n dX5_layAllBut_18 2 rfl ?_
      refine xr_getR flX5_17 dX5_layAllBut_19 s_28 rfl ?_
      refine xr_iload_n dX5_layAllBut_22 0 rfl ?_
      refine xb_aald (j := k) (q := 30 + k) (by decide) dX5_layAllBut_23 s_29 (by omega) (by decide) (if_pos (by omega)) ?_
      refine xr_callV (As := []) (rest := []) mlX5_76 (gw_X2_drop (s_hp30 (by omega))) dX5_layAllBut_24 (s_hp30 (by omega)) rfl rfl (Nat.le_of_ble_eq_true rfl) (by decide) ⟨by decide, by decide⟩ (fun v s2 M3 J2 hq => ?_)
      obtain ⟨rfl, rfl, rfl, k4, hx2⟩ := hq
      try dsimp only [Option.toList, List.cons_append, List.nil_append]
      refine xr_iinc (v := nI (k + 1)) (ls2 := [(2, .int (nI (k + 1))), (1, .int (bi)), (0, .ref (28))]) dX5_layAllBut_27 0 rfl (nI_1 _) (by decide) rfl ?_
      refine xr_goto (tgt := 2) dX5_layAllBut_30 rfl ?_
      refine xb_ls (ls2 := [(2, .int (nI (k + 1))), (1, .int (bi)), (0, .ref (28))]) [0, 1, 2] rfl ?_
      exact ih (k + 1) M3 (by omega) (Ke.tr (fun pp kk hh => by have h2 : pp = 30 + k := hh; unfold W28h; omega) hM k4) (AbC_md hI (by omega) (fun z => absurd (z.symm.trans c1) (by decide)) k4 hx2.1 hx2.2.1 hx2.2.2.1 hx2.2.2.2.1 hx2.2.2.2.2)
set_option maxRecDepth 100000 in
set_option maxHeartbeats 4000000 in
theorem gw_X5_layAllBut (bi : Int32) {D : xM} {cn : Nat} (h_cn : cn ≤ 5) {l : Launch} {G : xG} {M : xM} {J : xJ} (e_cn : M 28 2 = nI cn) (hA : AbC 30 cn M D) : x_M l G fX5_layAllBut 1 0 0 [.ref (28), .int (bi)] x_SH M J (qKV W28h M J (fun M2 => AbC 30 cn M2 (w_msk bi D))) := by
  refine xb_of pX5 (Nat.le_of_ble_eq_true rfl) rfl ?_
  refine xr_iconst (v := 0) dX5_layAllBut_0 rfl ?_
  refine xr_istore_n (ls2 := [(2, .int (0)), (0, .ref (28)), (1, .int (bi))]) dX5_layAllBut_1 (by decide) rfl ?_
  refine xb_ls (ls2 := [(2, .int (nI (0))), (1, .int (bi)), (0, .ref (28))]) [0, 2, 1] rfl ?_
  refine lbx h_cn e_cn (fun M1 k2 hI => ?_) (cn - 0) 0 M (by omega) Ke.rf (by rw [mkK_0]; exact hA)
  exact xr_vret dX5_layAllBut_33 rfl (⟨rfl, rfl, rfl, (Ke.tr (fun _ _ h => h) Ke.rf k2), (AbC_eq hI (fun i hi j _ => (if_pos hi)))⟩)
set_option maxRecDepth 100000 in
set_option maxHeartbeats 4000000 in
theorem hdx {nn : Int32} {P : Nat} {nh : Nat} {D : xM} {t : Option zL} {S : Nat → Int32} (hP2 : P = 2 ^ nh) (hP32 : P ≤ 32) (hn5 : nh ≤ 5) (hrub : 0 ≤ S 1 ∧ S 1 ≤ 3) (hbt : ¬ S 2 = 0) (T : Nat) {l : Launch} {G : xG} {M : xM} {J : xJ} {Q : xQ} (e_cn : M 13 2 = nI nh) (e_nw : M 13 3 = S 0) (e_rub : M 13 4 = S 1) (e_bt : M 13 5 = S 2) (e_ph : M 13 6 = S 3) (e_st : M 13 7 = S 4) (hL : LCt M t) (hA : AbC 15 nh M D) (hW : WF nh D) (hC : ∀ (mo : Int32) (be : Int32) (M2 : xM), Ke WTH M M2 → (be = (if T = 0 then -2 else nI T)) → x_X l G fX9_held 7 0 0 Q 102 [(2, .int (be)), (0, .ref (0))] [] x_SH M2 J 0 0) : ∀ (m k : Nat) (mo : Int32) (be : Int32) (M1 : xM), k + m = P → Ke WTH M M1 → (∃ s, s < 32 ∧ be = (if s = 0 then -2 else nI s) ∧ mo = bcV s ∧ hdL nh D t S nn (P - k) k s = T ∧ 1 ≤ k) → x_X l G fX9_held 7 0 0 Q 22 [(4, .int (nI (k))), (3, .int (mo)), (2, .int (be)), (1, .int (nn)), (0, .ref (0))] [] x_SH M1 J 0 0 := by
  intro m
  induction m with
  | zero =>
    intro k mo be M1 hk hM hI
    skip
    have hP : WP (PS nh t S) := ⟨hn5, hrub, hbt⟩
    obtain ⟨s, hs32, hbe, hmo, hI2, hk1⟩ := hI
    refine xr_iload dX9_held_22 0 rfl ?_
    refine xr_iconst (v := 1) dX9_held_24 rfl ?_
    refine xr_aload_n dX9_held_25 4 rfl ?_
    refine xr_getR flX9_28 dX9_held_26 s_0 rfl ?_
    refine xb_get (v := nI (nh)) flX9_218 dX9_held_29 s_13 rfl (Eq.trans (hM 13 2 (by decide)) e_cn) ?_
    refine xr_ishl dX9_held_32 ?_
    refine xb_top (y := nI P) (sx_shl (by omega) hP2) ?_
    refine xr_icmp_ge (tgt := 102) dX9_held_33 rfl (fun _ => ?_) (fun c => absurd (nI_le (a := P) (b := k) (by omega) (by omega)) c)
    refine xb_ls (ls2 := [(2, .int (be)), (0, .ref (0))]) [2, 4] rfl ?_
    exact hC mo be _ hM (by obtain rfl : k = P := (by omega); rw [Nat.sub_self] at hI2; obtain rfl := (show s = T from hI2); exact hbe)
  | succ m ih =>
    intro k mo be M1 hk hM hI
    have hkN : k < P := by omega
    skip
    have hP : WP (PS nh t S) := ⟨hn5, hrub, hbt⟩
    obtain ⟨s, hs32, hbe, hmo, hI2, hk1⟩ := hI
    refine xr_iload dX9_held_22 0 rfl ?_
    refine xr_iconst (v := 1) dX9_held_24 rfl ?_
    refine xr_aload_n dX9_held_25 4 rfl ?_
    refine xr_getR flX9_28 dX9_held_26 s_0 rfl ?_
    refine xb_get (v := nI (nh)) flX9_218 dX9_held_29 s_13 rfl (Eq.trans (hM 13 2 (by decide)) e_cn) ?_
    refine xr_ishl dX9_held_32 ?_
    refine xb_top (y := nI P) (sx_shl (by omega) hP2) ?_
    refine xr_icmp_ge (tgt := 102) dX9_held_33 rfl (fun c => absurd c (nI_ge (a := k) (b := P) (by omega) (by omega))) (fun _ => ?_)
    refine xr_iload dX9_held_36 0 rfl ?_
    refine xb_cS (As := [.int (nI (k))]) (rest := []) mlX9_221 (gw_J6_bitCount (nI (k))) dX9_held_38 rfl rfl (Nat.le_of_ble_eq_true rfl) (by decide) (by decide) ?_
    refine xb_top (y := bcV k) (bcJ_e (by omega)) ?_
    refine xr_iload_n dX9_held_41 1 rfl ?_
    refine xr_icmp_le (tgt := 96) dX9_held_42 rfl (fun c1 => ?_) (fun c1 => ?_)
    · refine xr_iinc (v := nI (k + 1)) (ls2 := [(4, .int (nI (k + 1))), (3, .int (mo)), (2, .int (be)), (1, .int (nn)), (0, .ref (0))]) dX9_held_96 0 rfl (nI_1 _) (by decide) rfl ?_
      refine xr_goto (tgt := 22) dX9_held_99 rfl ?_
      refine xb_ls (ls2 := [(4, .int (nI (k + 1))), (3, .int (mo)), (2, .int (be)), (1, .int (nn)), (0, .ref (0))]) [0, 1, 2, 3, 4] rfl ?_
      exact ih (k + 1) mo be M1 (by omega) hM ⟨s, hs32, hbe, hmo, (hdL_e hkN (if_neg (fun z => absurd (hmo ▸ z.1) (Int32.not_lt.mpr c1)))).trans hI2, by omega⟩
    · refine xr_aload_n dX9_held_45 4 rfl ?_
      refine xr_getR flX9_28 dX9_held_46 s_0 rfl ?_
      refine xr_iload dX9_held_49 0 rfl ?_
      refine xr_callV (As := [.int (nI (k))]) (rest := []) mlX9_226 (gw_X5_allUp (nI (k)) (D := D) hn5 (Eq.trans (hM 13 2 (by decide)) e_cn) (AbC_k hA (fun i hi j => (Eq.trans (hM (15 + i) j (by unfold WTH; omega)) rfl)))) dX9_held_51 s_13 rfl rfl (Nat.le_of_ble_eq_true rfl) (by decide) ⟨by decide, by decide⟩ (fun v s2 M9 J2 hq => ?_)
      obtain ⟨r3, rfl, rfl, rfl, rfl, hx2⟩ := hq
      try dsimp only [Option.toList, List.cons_append, List.nil_append]
      refine xr_if_eq (tgt := 96) dX9_held_54 rfl (fun c4 => ?_) (fun c4 => ?_)
      · refine xr_iinc (v := nI (k + 1)) (ls2 := [(4, .int (nI (k + 1))), (3, .int (mo)), (2, .int (be)), (1, .int (nn)), (0, .ref (0))]) dX9_held_96 0 rfl (nI_1 _) (by decide) rfl ?_
        refine xr_goto (tgt := 22) dX9_held_99 rfl ?_
        refine xb_ls (ls2 := [(4, .int (nI (k + 1))), (3, .int (mo)), (2, .int (be)), (1, .int (nn)), (0, .ref (0))]) [0, 1, 2, 3, 4] rfl ?_
        exact ih (k + 1) mo be M1 (by omega) hM ⟨s, hs32, hbe, hmo, (hdL_e hkN (if_neg (fun z => Or.elim hx2 (fun q => absurd (q.2.symm.trans z.2.1) (by decide)) (fun q => absurd (q.1.symm.trans c4) (by decide))))).trans hI2, by omega⟩
      · refine xr_aload_n dX9_held_57 4 rfl ?_
        refine xr_getR flX9_40 dX9_held_58 s_0 rfl ?_
        refine xr_callV (As := []) (rest := []) mlX9_192 (gw_X7_begin (D := D) (t := t) (cn := nh) hn5 (Eq.trans (hM 13 2 (by decide)) e_cn) (Eq.trans (hM 13 3 (by decide)) e_nw) (Eq.trans (hM 13 4 (by decide)) e_rub) (Eq.trans (hM 13 5 (by decide)) e_bt) (Eq.trans (hM 13 6 (by decide)) e_ph) (Eq.trans (hM 13 7 (by decide)) e_st) (LCt_k (Eq.trans (hM 1 4 (by unfold WTH; omega)) rfl) (fun kl => (Eq.trans (hM 2 kl (by unfold WTH; omega)) rfl)) (fun kl => (Eq.trans (hM 3 kl (by unfold WTH; omega)) rfl)) hL) (AbC_k hA (fun i hi j => (Eq.trans (hM (15 + i) j (by unfold WTH; omega)) rfl))) hW) dX9_held_61 s_27 rfl rfl (Nat.le_of_ble_eq_true rfl) (by decide) ⟨by decide, by decide⟩ (fun v s2 M6 J2 hq => ?_)
        obtain ⟨rfl, rfl, rfl, k7, hT5⟩ := hq
        try dsimp only [Option.toList, List.cons_append, List.nil_append]
        refine xr_aload_n dX9_held_64 4 rfl ?_
        refine xr_getR flX9_40 dX9_held_65 s_0 rfl ?_
        refine xr_getR flX9_201 dX9_held_68 s_27 rfl ?_
        refine xr_iload dX9_held_71 0 rfl ?_
        refine xr_callV (As := [.int (nI (k))]) (rest := []) mlX9_229 (gw_X5_layAllBut (nI (k)) (D := D) (cn := nh) hn5 hT5.1.1 hT5.1.2.1) dX9_held_73 s_28 rfl rfl (Nat.le_of_ble_eq_true rfl) (by decide) ⟨by decide, by decide⟩ (fun v s2 M9 J2 hq => ?_)
        obtain ⟨rfl, rfl, rfl, k10, hx8⟩ := hq
        try dsimp only [Option.toList, List.cons_append, List.nil_append]
        have hT11 := TC_m (P := (PS nh t S)) hT5 hx8 k10
        refine xr_aload_n dX9_held_76 4 rfl ?_
        refine xr_getR flX9_40 dX9_held_77 s_0 rfl ?_
        refine xr_callV (As := []) (rest := []) mlX9_198 (gw_X7_lasting (P := (PS nh t S)) hP hT11) dX9_held_80 s_27 rfl rfl (Nat.le_of_ble_eq_true rfl) (by decide) ⟨by decide, by decide⟩ (fun v s2 M13 J2 hq => ?_)
        obtain ⟨r15, rfl, rfl, rfl, k14, hx12⟩ := hq
        try dsimp only [Option.toList, List.cons_append, List.nil_append]
        subst hx12
        refine xb_top (y := nI (hdV nh D t S k)) rfl ?_
        refine xr_iload_n dX9_held_83 3 rfl ?_
        refine xr_icmp_lt (tgt := 96) dX9_held_84 rfl (fun c16 => ?_) (fun c16 => ?_)
        · refine xr_iinc (v := nI (k + 1)) (ls2 := [(4, .int (nI (k + 1))), (3, .int (mo)), (2, .int (be)), (1, .int (nn)), (0, .ref (0))]) dX9_held_96 0 rfl (nI_1 _) (by decide) rfl ?_
          refine xr_goto (tgt := 22) dX9_held_99 rfl ?_
          refine xb_ls (ls2 := [(4, .int (nI (k + 1))), (3, .int (mo)), (2, .int (be)), (1, .int (nn)), (0, .ref (0))]) [0, 1, 2, 3, 4] rfl ?_
          exact ih (k + 1) mo be M13 (by omega) (Ke.tr (fun pp kk => (fun hh => Or.elim hh (fun h => (Or.inl h)) (fun hh => Or.elim hh (fun h => (Or.inr (Or.inl h))) (fun hh => Or.elim hh (fun h => (Or.inr (Or.inr (Or.inl (by omega))))) (fun hh => Or.elim hh (fun h => (Or.inr (Or.inr (Or.inl (by omega))))) (fun h => (Or.inr (Or.inr (Or.inr h))))))))) (Ke.tr (fun pp kk h => (Or.inr (Or.inr (Or.inr h)))) (Ke.tr (fun pp kk => (fun hh => Or.elim hh (fun h => (Or.inr (Or.inr (Or.inl h)))) (fun h => (Or.inr (Or.inr (Or.inr h)))))) hM k7) k10) k14) ⟨s, hs32, hbe, hmo, (hdL_e hkN (if_neg (fun z => absurd z.2.2 (Int32.not_le.mpr c16)))).trans hI2, by omega⟩
        · refine xr_iload dX9_held_87 0 rfl ?_
          refine xr_istore_n (ls2 := [(2, .int (nI (k))), (4, .int (nI (k))), (3, .int (mo)), (1, .int (nn)), (0, .ref (0))]) dX9_held_89 (by decide) rfl ?_
          refine xr_iload dX9_held_90 1 rfl ?_
          refine xb_cS (As := [.int (nI (k))]) (rest := []) mlX9_221 (gw_J6_bitCount (nI (k))) dX9_held_92 rfl rfl (Nat.le_of_ble_eq_true rfl) (by decide) (by decide) ?_
          refine xb_top (y := bcV k) (bcJ_e (by omega)) ?_
          refine xr_istore_n (ls2 := [(3, .int ((bcV k))), (2, .int (nI (k))), (4, .int (nI (k))), (1, .int (nn)), (0, .ref (0))]) dX9_held_95 (by decide) rfl ?_
          refine xr_iinc (v := nI (k + 1)) (ls2 := [(4, .int (nI (k + 1))), (3, .int ((bcV k))), (2, .int (nI (k))), (1, .int (nn)), (0, .ref (0))]) dX9_held_96 2 rfl (nI_1 _) (by decide) rfl ?_
          refine xr_goto (tgt := 22) dX9_held_99 rfl ?_
          refine xb_ls (ls2 := [(4, .int (nI (k + 1))), (3, .int ((bcV k))), (2, .int (nI (k))), (1, .int (nn)), (0, .ref (0))]) [0, 1, 2, 3, 4] rfl ?_
          exact ih (k + 1) (bcV k) (nI (k)) M13 (by omega) (Ke.tr (fun pp kk => (fun hh => Or.elim hh (fun h => (Or.inl h)) (fun hh => Or.elim hh (fun h => (Or.inr (Or.inl h))) (fun hh => Or.elim hh (fun h => (Or.inr (Or.inr (Or.inl (by omega))))) (fun hh => Or.elim hh (fun h => (Or.inr (Or.inr (Or.inl (by omega))))) (fun h => (Or.inr (Or.inr (Or.inr h))))))))) (Ke.tr (fun pp kk h => (Or.inr (Or.inr (Or.inr h)))) (Ke.tr (fun pp kk => (fun hh => Or.elim hh (fun h => (Or.inr (Or.inr (Or.inl h)))) (fun h => (Or.inr (Or.inr (Or.inr h)))))) hM k7) k10) k14) ⟨k, by omega, (if_neg (by omega)).symm, rfl, (hdL_e hkN (if_pos ⟨hmo ▸ Int32.not_le.mp c1, (hx2.resolve_left (fun q => c4 q.1)).2, Int32.not_lt.mp c16⟩)).trans hI2, by omega⟩
set_option maxRecDepth 100000 in
set_option maxHeartbeats 4000000 in
theorem gx_X9_held {nh : Nat} {D : xM} {t : Option zL} {S : Nat → Int32} (nn : Int32) {l : Launch} {G : xG} {M : xM} {J : xJ} (hI : InvC M) (hWG : WG nh D S) (hG : CG M nh D t S) : x_M l G fX9_held 7 0 0 [.ref (0), .int (nn)] x_SH M J (qKI WTH M J (fun r M2 => InvC M2 ∧ (r = hdR nh D t S nn))) := by
  refine xb_of pX9 (Nat.le_of_ble_eq_true rfl) rfl ?_
  obtain ⟨⟨cn, h_cn, e_cn⟩, ⟨cm, h_cm, e_cm⟩, ⟨L, h_L, e_L⟩, hv, hD, ⟨n, h_n, e_n⟩, ⟨un, wn, h_uw, h_wn, e_un, e_wn⟩, ⟨b, h_b, e_b⟩, hkd, ⟨ra, h_ra, e_ra⟩, hsl, hS⟩ := hI
  obtain ⟨hn5, hW, hrub, hbeat⟩ := hWG
  obtain ⟨hGn, hA, hL, e_nw, e_rub, e_bt, e_ph, e_st, e_kn, e_pu, e_lf⟩ := hG
  obtain rfl : nh = cn := (nI_eq (by omega) (by omega)).mp (hGn.symm.trans e_cn)
  have hbt : ¬ S 2 = 0 := ne2_0 hbeat.1
  refine xr_iload_n dX9_held_0 1 rfl ?_
  refine xr_iconst (v := 1) dX9_held_1 rfl ?_
  refine xr_icmp_lt (tgt := 12) dX9_held_2 rfl (fun c1 => ?_) (fun c1 => ?_)
  · refine xr_iconst (v := -1) dX9_held_12 rfl ?_
    exact xr_iret dX9_held_13 rfl rfl (⟨_, rfl, rfl, rfl, Ke.rf, ⟨⟨⟨nh, by omega, e_cn⟩, ⟨cm, by omega, e_cm⟩, ⟨L, by omega, e_L⟩, (fun kk hkk => by rw [show M 3 kk = M 3 kk from rfl]; exact hv kk hkk), hD, ⟨n, by omega, e_n⟩, ⟨un, wn, by omega, by omega, e_un, e_wn⟩, ⟨b, by omega, e_b⟩, (fun j hj => by obtain ⟨q, hq, eq⟩ := hkd j hj; exact ⟨q, hq, (show M 47 j = M 47 j from rfl).trans eq⟩), ⟨ra, by omega, e_ra⟩, (fun j hj => by obtain ⟨s, hs, es⟩ := hsl j hj; exact ⟨s, hs, (show M (50 + 2 * j) 3 = M (50 + 2 * j) 3 from rfl).trans es⟩), (fun j hj => by obtain ⟨q, hq, eq⟩ := hS j hj; exact ⟨q, hq, (show M 36 j = M 36 j from rfl).trans eq⟩)⟩, (by unfold hdR; rw [if_neg (fun z => absurd z.1 (by grind))])⟩⟩)
  · refine xr_iload_n dX9_held_5 1 rfl ?_
    refine xr_sipush (v := 200) dX9_held_6 rfl ?_
    refine xr_icmp_le (tgt := 14) dX9_held_9 rfl (fun c2 => ?_) (fun c2 => ?_)
    · refine xr_bipush (v := -2) dX9_held_14 rfl ?_
      refine xr_istore_n (ls2 := [(2, .int ((-2))), (0, .ref (0)), (1, .int (nn))]) dX9_held_16 (by decide) rfl ?_
      refine xr_iconst (v := 0) dX9_held_17 rfl ?_
      refine xr_istore_n (ls2 := [(3, .int (0)), (2, .int ((-2))), (0, .ref (0)), (1, .int (nn))]) dX9_held_18 (by decide) rfl ?_
      refine xr_iconst (v := 1) dX9_held_19 rfl ?_
      refine xr_istore (ls2 := [(4, .int (1)), (3, .int (0)), (2, .int ((-2))), (0, .ref (0)), (1, .int (nn))]) dX9_held_20 (by decide) rfl ?_
      obtain ⟨P, hP2⟩ : ∃ P : Nat, P = 2 ^ nh := ⟨_, rfl⟩
      have hP3 := sx_p2 hn5 hP2
      refine xb_ls (ls2 := [(4, .int (nI (1))), (3, .int (0)), (2, .int ((-2))), (1, .int (nn)), (0, .ref (0))]) [0, 1, 2, 4, 3] rfl ?_
      refine hdx hP2 hP3.1 hn5 hrub hbt (hdL nh D t S nn (P - 1) 1 0) e_cn e_nw e_rub e_bt e_ph e_st (LCt_k rfl (fun kl => rfl) (fun kl => rfl) hL) (AbC_k hA (fun i hi j => rfl)) hW (fun q3 q4 M5 k6 hE => ?_) (P - 1) 1 0 (-2) M (by omega) Ke.rf ⟨0, by decide, rfl, rfl, rfl, Nat.le_refl _⟩
      refine xr_iload_n dX9_held_102 0 rfl ?_
      exact xr_iret dX9_held_103 rfl rfl (⟨_, rfl, rfl, rfl, (Ke.tr (fun _ _ h => h) Ke.rf k6), ⟨⟨⟨nh, by omega, (Eq.trans (k6 13 2 (by decide)) e_cn)⟩, ⟨cm, by omega, (Eq.trans (k6 20 2 (by decide)) e_cm)⟩, ⟨L, by omega, (Eq.trans (k6 1 4 (by decide)) e_L)⟩, (fun kk hkk => by rw [show M5 3 kk = M 3 kk from (Eq.trans (k6 3 kk (by unfold WTH; omega)) rfl)]; exact hv kk hkk), (DI_ke (by intro k; unfold WTH; omega) k6 hD), ⟨n, by omega, (Eq.trans (k6 6 2 (by decide)) e_n)⟩, ⟨un, wn, by omega, by omega, (Eq.trans (k6 41 4 (by decide)) e_un), (Eq.trans (k6 41 5 (by decide)) e_wn)⟩, ⟨b, by omega, (Eq.trans (k6 46 2 (by decide)) e_b)⟩, (fun j hj => by obtain ⟨q, hq, eq⟩ := hkd j hj; exact ⟨q, hq, (show M5 47 j = M 47 j from (Eq.trans (k6 47 j (by unfold WTH; omega)) rfl)).trans eq⟩), ⟨ra, by omega, (Eq.trans (k6 46 3 (by decide)) e_ra)⟩, (fun j hj => by obtain ⟨s, hs, es⟩ := hsl j hj; exact ⟨s, hs, (show M5 (50 + 2 * j) 3 = M (50 + 2 * j) 3 from (Eq.trans (k6 (50 + 2 * j) 3 (by unfold WTH; omega)) rfl)).trans es⟩), (fun j hj => by obtain ⟨q, hq, eq⟩ := hS j hj; exact ⟨q, hq, (show M5 36 j = M 36 j from (Eq.trans (k6 36 j (by unfold WTH; omega)) rfl)).trans eq⟩)⟩, (by unfold hdR; rw [if_pos ⟨by grind, by grind⟩, ← hP2]; exact hE)⟩⟩)
    · refine xr_iconst (v := -1) dX9_held_12 rfl ?_
      exact xr_iret dX9_held_13 rfl rfl (⟨_, rfl, rfl, rfl, Ke.rf, ⟨⟨⟨nh, by omega, e_cn⟩, ⟨cm, by omega, e_cm⟩, ⟨L, by omega, e_L⟩, (fun kk hkk => by rw [show M 3 kk = M 3 kk from rfl]; exact hv kk hkk), hD, ⟨n, by omega, e_n⟩, ⟨un, wn, by omega, by omega, e_un, e_wn⟩, ⟨b, by omega, e_b⟩, (fun j hj => by obtain ⟨q, hq, eq⟩ := hkd j hj; exact ⟨q, hq, (show M 47 j = M 47 j from rfl).trans eq⟩), ⟨ra, by omega, e_ra⟩, (fun j hj => by obtain ⟨s, hs, es⟩ := hsl j hj; exact ⟨s, hs, (show M (50 + 2 * j) 3 = M (50 + 2 * j) 3 from rfl).trans es⟩), (fun j hj => by obtain ⟨q, hq, eq⟩ := hS j hj; exact ⟨q, hq, (show M 36 j = M 36 j from rfl).trans eq⟩)⟩, (by unfold hdR; rw [if_neg (fun z => absurd z.2 (by grind))])⟩⟩)
theorem nI_32 {s : Nat} (h : s < 32) : (nI s).toBitVec.toNat ≤ 32 := (show ∀ s, s < 32 → (nI s).toBitVec.toNat ≤ 32 by decide +kernel) s h
set_option maxRecDepth 100000 in
set_option maxHeartbeats 4000000 in
theorem hdrx {nn : Int32} {P : Nat} {nh : Nat} {D : xM} {t : Option zL} {S : Nat → Int32} (hP2 : P = 2 ^ nh) (hP32 : P ≤ 32) (hn5 : nh ≤ 5) (hrub : 0 ≤ S 1 ∧ S 1 ≤ 3) (hbt2 : ¬ S 2 = 0) (T : Nat) {l : Launch} {G : xG} {M : xM} {J : xJ} {Q : xQ} (e_hn : M 62 6 = nI nh) (e_nw : M 62 9 = S 0) (e_rub : M 63 15 = S 1) (e_bt : M 63 16 = S 2) (e_ph : M 63 17 = S 3) (e_st : M 63 18 = S 4) (hL : LRt M t) (hA : AbS nh M D) (hW : WF nh D) (hC : ∀ (be : Int32) (M2 : xM), Ke WR1 M M2 → (T < 32 ∧ be = nI T) → x_X l G fX10_held 63 0 0 Q 79 [(3, .int (be)), (0, .ref (62))] [] x_SH M2 J 0 0) : ∀ (m k : Nat) (be : Int32) (M1 : xM), k + m = P → Ke WR1 M M1 → (∃ s, s < 32 ∧ be = nI s ∧ hdL nh D t S nn (P - k) k s = T) → x_X l G fX10_held 63 0 0 Q 24 [(4, .int (nI (k))), (3, .int (be)), (2, .int ((upS nh D))), (1, .int (nn)), (0, .ref (62))] [] x_SH M1 J 0 0 := by
  intro m
  induction m with
  | zero =>
    intro k be M1 hk hM hI
    have hP : WP (PS nh t S) := ⟨hn5, hrub, hbt2⟩
    obtain ⟨s, hs32, rfl, hI2⟩ := hI
    refine xr_iload dX10_held_24 0 rfl ?_
    refine xr_iconst (v := 1) dX10_held_26 rfl ?_
    refine xr_aload_n dX10_held_27 4 rfl ?_
    refine xb_get (v := nI (nh)) flX10_109 dX10_held_28 s_62 rfl (Eq.trans (hM 62 6 (by decide)) e_hn) ?_
    refine xr_ishl dX10_held_31 ?_
    refine xb_top (y := nI P) (sx_shl (by omega) hP2) ?_
    refine xr_icmp_ge (tgt := 79) dX10_held_32 rfl (fun _ => ?_) (fun c => absurd (nI_le (a := P) (b := k) (by omega) (by omega)) c)
    refine xb_ls (ls2 := [(3, .int (nI (s))), (0, .ref (62))]) [1, 4] rfl ?_
    exact hC (nI (s)) _ hM (by obtain rfl : k = P := (by omega); rw [Nat.sub_self] at hI2; obtain rfl := (show s = T from hI2); exact ⟨hs32, rfl⟩)
  | succ m ih =>
    intro k be M1 hk hM hI
    have hkN : k < P := by omega
    have hP : WP (PS nh t S) := ⟨hn5, hrub, hbt2⟩
    obtain ⟨s, hs32, rfl, hI2⟩ := hI
    refine xr_iload dX10_held_24 0 rfl ?_
    refine xr_iconst (v := 1) dX10_held_26 rfl ?_
    refine xr_aload_n dX10_held_27 4 rfl ?_
    refine xb_get (v := nI (nh)) flX10_109 dX10_held_28 s_62 rfl (Eq.trans (hM 62 6 (by decide)) e_hn) ?_
    refine xr_ishl dX10_held_31 ?_
    refine xb_top (y := nI P) (sx_shl (by omega) hP2) ?_
    refine xr_icmp_ge (tgt := 79) dX10_held_32 rfl (fun c => absurd c (nI_ge (a := k) (b := P) (by omega) (by omega))) (fun _ => ?_)
    refine xr_iload dX10_held_35 0 rfl ?_
    refine xr_iload_n dX10_held_37 2 rfl ?_
    refine xr_iconst (v := -1) dX10_held_38 rfl ?_
    refine xr_ixor dX10_held_39 ?_
    refine xr_iand dX10_held_40 ?_
    refine xr_if_ne (tgt := 71) dX10_held_41 rfl (fun c1 => ?_) (fun c1 => ?_)
    · refine xr_iload_n dX10_held_71 1 rfl ?_
      refine xr_istore_n (ls2 := [(3, .int (nI (s))), (4, .int (nI (k))), (2, .int ((upS nh D))), (1, .int (nn)), (0, .ref (62))]) dX10_held_72 (by decide) rfl ?_
      refine xr_iinc (v := nI (k + 1)) (ls2 := [(4, .int (nI (k + 1))), (3, .int (nI (s))), (2, .int ((upS nh D))), (1, .int (nn)), (0, .ref (62))]) dX10_held_73 1 rfl (nI_1 _) (by decide) rfl ?_
      refine xr_goto (tgt := 24) dX10_held_76 rfl ?_
      refine xb_ls (ls2 := [(4, .int (nI (k + 1))), (3, .int (nI (s))), (2, .int ((upS nh D))), (1, .int (nn)), (0, .ref (62))]) [0, 1, 2, 3, 4] rfl ?_
      exact ih (k + 1) (nI (s)) M1 (by omega) hM ⟨s, hs32, rfl, (hdL_e hkN (if_neg (fun z => c1 ((sub_au hn5 (by omega)).mpr z.2.1)))).trans hI2⟩
    · refine xr_iload dX10_held_44 0 rfl ?_
      refine xr_callS (As := [.int (nI (k))]) (rest := []) mlX10_261 (gw_X10_bitsOf (nI (k)) (nI_32 (by omega))) dX10_held_46 rfl rfl (Nat.le_of_ble_eq_true rfl) (by decide) ⟨by decide, by decide⟩ (fun v s2 M9 J2 hq => ?_)
      obtain ⟨r3, rfl, rfl, rfl, rfl, hx2⟩ := hq
      try dsimp only [Option.toList, List.cons_append, List.nil_append]
      subst hx2
      refine xb_top (y := bcV k) rfl ?_
      refine xr_iload_n dX10_held_49 1 rfl ?_
      refine xr_callS (As := [.int (nI (s))]) (rest := [.int ((bcV k))]) mlX10_261 (gw_X10_bitsOf (nI (s)) (nI_32 (by omega))) dX10_held_50 rfl rfl (Nat.le_of_ble_eq_true rfl) (by decide) ⟨by decide, by decide⟩ (fun v s2 M9 J2 hq => ?_)
      obtain ⟨r5, rfl, rfl, rfl, rfl, hx4⟩ := hq
      try dsimp only [Option.toList, List.cons_append, List.nil_append]
      subst hx4
      refine xb_top (y := bcV s) rfl ?_
      refine xr_icmp_le (tgt := 71) dX10_held_53 rfl (fun c6 => ?_) (fun c6 => ?_)
      · refine xr_iload_n dX10_held_71 1 rfl ?_
        refine xr_istore_n (ls2 := [(3, .int (nI (s))), (4, .int (nI (k))), (2, .int ((upS nh D))), (1, .int (nn)), (0, .ref (62))]) dX10_held_72 (by decide) rfl ?_
        refine xr_iinc (v := nI (k + 1)) (ls2 := [(4, .int (nI (k + 1))), (3, .int (nI (s))), (2, .int ((upS nh D))), (1, .int (nn)), (0, .ref (62))]) dX10_held_73 1 rfl (nI_1 _) (by decide) rfl ?_
        refine xr_goto (tgt := 24) dX10_held_76 rfl ?_
        refine xb_ls (ls2 := [(4, .int (nI (k + 1))), (3, .int (nI (s))), (2, .int ((upS nh D))), (1, .int (nn)), (0, .ref (62))]) [0, 1, 2, 3, 4] rfl ?_
        exact ih (k + 1) (nI (s)) M1 (by omega) hM ⟨s, hs32, rfl, (hdL_e hkN (if_neg (fun z => absurd z.1 (Int32.not_lt.mpr c6)))).trans hI2⟩
      · refine xr_aload_n dX10_held_56 4 rfl ?_
        refine xr_iload dX10_held_57 0 rfl ?_
        have hau : auF (nI k) nh D = true := (sub_au hn5 (by omega)).mp c1
        refine xr_callV (As := [.int (nI (k))]) (rest := []) mlX10_267 (gy_X10_lastsOf (nI (k)) (P := (PS nh t S)) hP (D0 := w_msk (nI k) D) (WF_msk hW) (hs_msk hau) (fun _ _ _ _ => rfl) ⟨⟨(Eq.trans (hM 62 6 (by decide)) e_hn), (AbS_k hA (fun kl hkl => (Eq.trans (hM 63 kl (by unfold WR1; omega)) rfl)) (fun kl => (Eq.trans (hM 67 kl (by unfold WR1; omega)) rfl)) (fun kl => (Eq.trans (hM 68 kl (by unfold WR1; omega)) rfl)) hn5), hW, (LRt_k (Eq.trans (hM 62 13 (by unfold WR1; omega)) rfl) (Eq.trans (funext fun kk => hM 70 kk (by unfold WR1; omega)) rfl) hL)⟩, ⟨(Eq.trans (hM 63 15 (by decide)) e_rub), (Eq.trans (hM 63 16 (by decide)) e_bt), (Eq.trans (hM 63 17 (by decide)) e_ph), (Eq.trans (hM 63 18 (by decide)) e_st)⟩, (Eq.trans (hM 62 9 (by decide)) e_nw)⟩) dX10_held_59 s_62 rfl rfl (Nat.le_of_ble_eq_true rfl) (by decide) ⟨by decide, by decide⟩ (fun v s2 M8 J2 hq => ?_)
        obtain ⟨r10, rfl, rfl, rfl, k9, hx7⟩ := hq
        try dsimp only [Option.toList, List.cons_append, List.nil_append]
        subst hx7
        refine xb_top (y := nI (hdV nh D t S k)) rfl ?_
        refine xr_iload_n dX10_held_62 3 rfl ?_
        refine xr_icmp_lt (tgt := 71) dX10_held_63 rfl (fun c11 => ?_) (fun c11 => ?_)
        · refine xr_iload_n dX10_held_71 1 rfl ?_
          refine xr_istore_n (ls2 := [(3, .int (nI (s))), (4, .int (nI (k))), (2, .int ((upS nh D))), (1, .int (nn)), (0, .ref (62))]) dX10_held_72 (by decide) rfl ?_
          refine xr_iinc (v := nI (k + 1)) (ls2 := [(4, .int (nI (k + 1))), (3, .int (nI (s))), (2, .int ((upS nh D))), (1, .int (nn)), (0, .ref (62))]) dX10_held_73 1 rfl (nI_1 _) (by decide) rfl ?_
          refine xr_goto (tgt := 24) dX10_held_76 rfl ?_
          refine xb_ls (ls2 := [(4, .int (nI (k + 1))), (3, .int (nI (s))), (2, .int ((upS nh D))), (1, .int (nn)), (0, .ref (62))]) [0, 1, 2, 3, 4] rfl ?_
          exact ih (k + 1) (nI (s)) M8 (by omega) (Ke.tr (fun _ _ h => h) hM k9) ⟨s, hs32, rfl, (hdL_e hkN (if_neg (fun z => absurd z.2.2 (Int32.not_le.mpr c11)))).trans hI2⟩
        · refine xr_iload dX10_held_66 0 rfl ?_
          refine xr_goto (tgt := 72) dX10_held_68 rfl ?_
          refine xr_istore_n (ls2 := [(3, .int (nI (k))), (4, .int (nI (k))), (2, .int ((upS nh D))), (1, .int (nn)), (0, .ref (62))]) dX10_held_72 (by decide) rfl ?_
          refine xr_iinc (v := nI (k + 1)) (ls2 := [(4, .int (nI (k + 1))), (3, .int (nI (k))), (2, .int ((upS nh D))), (1, .int (nn)), (0, .ref (62))]) dX10_held_73 1 rfl (nI_1 _) (by decide) rfl ?_
          refine xr_goto (tgt := 24) dX10_held_76 rfl ?_
          refine xb_ls (ls2 := [(4, .int (nI (k + 1))), (3, .int (nI (k))), (2, .int ((upS nh D))), (1, .int (nn)), (0, .ref (62))]) [0, 1, 2, 3, 4] rfl ?_
          exact ih (k + 1) (nI (k)) M8 (by omega) (Ke.tr (fun _ _ h => h) hM k9) ⟨k, by omega, rfl, (hdL_e hkN (if_pos ⟨Int32.not_le.mp c6, hau, Int32.not_lt.mp c11⟩)).trans hI2⟩
set_option maxRecDepth 100000 in
set_option maxHeartbeats 4000000 in
theorem gx_X10_held {nh : Nat} {D : xM} {t : Option zL} {S : Nat → Int32} (nn : Int32) {l : Launch} {G : xG} {M : xM} {J : xJ} (hI : InvR M) (hWG : WG nh D S) (hG : RG M nh D t S) : x_M l G fX10_held 63 0 0 [.ref (62), .int (nn)] x_SH M J (qKI WR1 M J (fun r M2 => InvR M2 ∧ (r = hdR nh D t S nn))) := by
  refine xb_of pX10 (Nat.le_of_ble_eq_true rfl) rfl ?_
  obtain ⟨⟨hn, h_hn, e_hn, hw⟩, hbt, ⟨un, wn, h_uw, h_wn, e_un, e_wn⟩, hch, ⟨n, h_n, e_n⟩, htx, ⟨b, h_b, e_b⟩, hkd, ⟨ra, h_ra, e_ra⟩, hsl, ⟨ic, h_ic, e_ic⟩, hS⟩ := hI
  obtain ⟨hn5, hW, hrub, hbeat⟩ := hWG
  obtain ⟨hGn, hA, hL, e_nw, e_rub, e_bt, e_ph, e_st, e_kn, e_pu, e_lf⟩ := hG
  obtain rfl : nh = hn := (nI_eq (by omega) (by omega)).mp (hGn.symm.trans e_hn)
  have hbt2 : ¬ S 2 = 0 := ne2_0 hbeat.1
  refine xr_iload_n dX10_held_0 1 rfl ?_
  refine xr_i2l dX10_held_1 ?_
  refine xr_lconst (v := 1) dX10_held_2 rfl ?_
  refine xr_ldc2 coX10_244 dX10_held_3 ?_
  refine xb_cS (As := [.long ((nn).toInt64), .long (1), .long (200)]) (rest := []) mlX10_101 (c_within32 (nn) (1) (200) (by decide) (by decide)) dX10_held_6 rfl rfl (Nat.le_of_ble_eq_true rfl) (by decide) (by decide) ?_
  refine xb_bne (tgt := 14) dX10_held_9 rfl (fun c1 => ?_) (fun c1 => ?_)
  · refine xr_aload_n dX10_held_14 0 rfl ?_
    refine xr_callV (As := []) (rest := []) mlX10_246 (gw_X10_upNow (D := D) (hn := nh) hn5 e_hn (AbS_k hA (fun kl hkl => rfl) (fun kl => rfl) (fun kl => rfl) hn5) hW) dX10_held_15 s_62 rfl rfl (Nat.le_of_ble_eq_true rfl) (by decide) ⟨by decide, by decide⟩ (fun v s2 M9 J2 hq => ?_)
    obtain ⟨r3, rfl, rfl, rfl, rfl, hx2⟩ := hq
    try dsimp only [Option.toList, List.cons_append, List.nil_append]
    subst hx2
    refine xr_istore_n (ls2 := [(2, .int ((upS nh D))), (0, .ref (62)), (1, .int (nn))]) dX10_held_18 (by decide) rfl ?_
    refine xr_iconst (v := 0) dX10_held_19 rfl ?_
    refine xr_istore_n (ls2 := [(3, .int (0)), (2, .int ((upS nh D))), (0, .ref (62)), (1, .int (nn))]) dX10_held_20 (by decide) rfl ?_
    refine xr_iconst (v := 1) dX10_held_21 rfl ?_
    refine xr_istore (ls2 := [(4, .int (1)), (3, .int (0)), (2, .int ((upS nh D))), (0, .ref (62)), (1, .int (nn))]) dX10_held_22 (by decide) rfl ?_
    obtain ⟨P, hP2⟩ : ∃ P : Nat, P = 2 ^ nh := ⟨_, rfl⟩
    have hP3 := sx_p2 hn5 hP2
    refine xb_ls (ls2 := [(4, .int (nI (1))), (3, .int (0)), (2, .int ((upS nh D))), (1, .int (nn)), (0, .ref (62))]) [0, 1, 2, 4, 3] rfl ?_
    refine hdrx hP2 hP3.1 hn5 hrub hbt2 (hdL nh D t S nn (P - 1) 1 0) e_hn e_nw e_rub e_bt e_ph e_st (LRt_k rfl rfl hL) (AbS_k hA (fun kl hkl => rfl) (fun kl => rfl) (fun kl => rfl) hn5) hW (fun q4 M5 k6 hE => ?_) (P - 1) 1 0 M (by omega) Ke.rf ⟨0, by decide, rfl, rfl⟩
    refine xr_iload_n dX10_held_79 0 rfl ?_
    refine xr_if_ne (tgt := 88) dX10_held_80 rfl (fun c7 => ?_) (fun c7 => ?_)
    · refine xr_iload_n dX10_held_88 0 rfl ?_
      exact xr_iret dX10_held_89 rfl rfl (⟨_, rfl, rfl, rfl, (Ke.tr (fun _ _ h => h) Ke.rf k6), ⟨⟨⟨nh, by omega, (Eq.trans (k6 62 6 (by decide)) e_hn), (fun kw hkw => by rw [show M5 63 (5 + kw) = M 63 (5 + kw) from (Eq.trans (k6 63 (5 + kw) (by unfold WR1; omega)) rfl)]; exact hw kw hkw)⟩, (by rw [show M5 63 16 = M 63 16 from (Eq.trans (k6 63 16 (by unfold WR1; omega)) rfl)]; exact hbt), ⟨un, wn, by omega, by omega, (Eq.trans (k6 62 5 (by decide)) e_un), (Eq.trans (k6 62 4 (by decide)) e_wn)⟩, (fun kk hkk => by rw [show M5 64 kk = M 64 kk from (Eq.trans (k6 64 kk (by unfold WR1; omega)) rfl), show M5 65 kk = M 65 kk from (Eq.trans (k6 65 kk (by unfold WR1; omega)) rfl), show M5 66 kk = M 66 kk from (Eq.trans (k6 66 kk (by unfold WR1; omega)) rfl)]; exact hch kk hkk), ⟨n, by omega, (Eq.trans (k6 62 11 (by decide)) e_n)⟩, (by rw [show M5 62 13 = M 62 13 from (Eq.trans (k6 62 13 (by unfold WR1; omega)) rfl)]; exact htx), ⟨b, by omega, (Eq.trans (k6 62 36 (by decide)) e_b)⟩, (fun j hj => by obtain ⟨q, hq, eq⟩ := hkd j hj; exact ⟨q, hq, (show M5 81 j = M 81 j from (Eq.trans (k6 81 j (by unfold WR1; omega)) rfl)).trans eq⟩), ⟨ra, by omega, (Eq.trans (k6 62 39 (by decide)) e_ra)⟩, (fun j hj => by rw [show M5 83 j = M 83 j from (Eq.trans (k6 83 j (by unfold WR1; omega)) rfl), show M5 84 j = M 84 j from (Eq.trans (k6 84 j (by unfold WR1; omega)) rfl)]; exact hsl j hj), ⟨ic, by omega, (Eq.trans (k6 62 34 (by decide)) e_ic)⟩, (fun j hj => by obtain ⟨q, hq, eq⟩ := hS j hj; exact ⟨q, hq, (show M5 75 j = M 75 j from (Eq.trans (k6 75 j (by unfold WR1; omega)) rfl)).trans eq⟩)⟩, (by unfold hdR; rw [if_pos c1, ← hP2, if_neg (fun z => c7 (by rw [hE.2, z]; rfl))]; exact hE.2)⟩⟩)
    · refine xr_bipush (v := -2) dX10_held_83 rfl ?_
      refine xr_goto (tgt := 89) dX10_held_85 rfl ?_
      exact xr_iret dX10_held_89 rfl rfl (⟨_, rfl, rfl, rfl, (Ke.tr (fun _ _ h => h) Ke.rf k6), ⟨⟨⟨nh, by omega, (Eq.trans (k6 62 6 (by decide)) e_hn), (fun kw hkw => by rw [show M5 63 (5 + kw) = M 63 (5 + kw) from (Eq.trans (k6 63 (5 + kw) (by unfold WR1; omega)) rfl)]; exact hw kw hkw)⟩, (by rw [show M5 63 16 = M 63 16 from (Eq.trans (k6 63 16 (by unfold WR1; omega)) rfl)]; exact hbt), ⟨un, wn, by omega, by omega, (Eq.trans (k6 62 5 (by decide)) e_un), (Eq.trans (k6 62 4 (by decide)) e_wn)⟩, (fun kk hkk => by rw [show M5 64 kk = M 64 kk from (Eq.trans (k6 64 kk (by unfold WR1; omega)) rfl), show M5 65 kk = M 65 kk from (Eq.trans (k6 65 kk (by unfold WR1; omega)) rfl), show M5 66 kk = M 66 kk from (Eq.trans (k6 66 kk (by unfold WR1; omega)) rfl)]; exact hch kk hkk), ⟨n, by omega, (Eq.trans (k6 62 11 (by decide)) e_n)⟩, (by rw [show M5 62 13 = M 62 13 from (Eq.trans (k6 62 13 (by unfold WR1; omega)) rfl)]; exact htx), ⟨b, by omega, (Eq.trans (k6 62 36 (by decide)) e_b)⟩, (fun j hj => by obtain ⟨q, hq, eq⟩ := hkd j hj; exact ⟨q, hq, (show M5 81 j = M 81 j from (Eq.trans (k6 81 j (by unfold WR1; omega)) rfl)).trans eq⟩), ⟨ra, by omega, (Eq.trans (k6 62 39 (by decide)) e_ra)⟩, (fun j hj => by rw [show M5 83 j = M 83 j from (Eq.trans (k6 83 j (by unfold WR1; omega)) rfl), show M5 84 j = M 84 j from (Eq.trans (k6 84 j (by unfold WR1; omega)) rfl)]; exact hsl j hj), ⟨ic, by omega, (Eq.trans (k6 62 34 (by decide)) e_ic)⟩, (fun j hj => by obtain ⟨q, hq, eq⟩ := hS j hj; exact ⟨q, hq, (show M5 75 j = M 75 j from (Eq.trans (k6 75 j (by unfold WR1; omega)) rfl)).trans eq⟩)⟩, (by unfold hdR; rw [if_pos c1, ← hP2, if_pos ((nI_eq (a := hdL nh D t S nn (P - 1) 1 0) (b := 0) (by have := hE.1; omega) (by decide)).mp (hE.2.symm.trans c7))])⟩⟩)
  · refine xr_iconst (v := -1) dX10_held_12 rfl ?_
    exact xr_iret dX10_held_13 rfl rfl (⟨_, rfl, rfl, rfl, Ke.rf, ⟨⟨⟨nh, by omega, e_hn, (fun kw hkw => by rw [show M 63 (5 + kw) = M 63 (5 + kw) from rfl]; exact hw kw hkw)⟩, (by rw [show M 63 16 = M 63 16 from rfl]; exact hbt), ⟨un, wn, by omega, by omega, e_un, e_wn⟩, (fun kk hkk => by rw [show M 64 kk = M 64 kk from rfl, show M 65 kk = M 65 kk from rfl, show M 66 kk = M 66 kk from rfl]; exact hch kk hkk), ⟨n, by omega, e_n⟩, (by rw [show M 62 13 = M 62 13 from rfl]; exact htx), ⟨b, by omega, e_b⟩, (fun j hj => by obtain ⟨q, hq, eq⟩ := hkd j hj; exact ⟨q, hq, (show M 81 j = M 81 j from rfl).trans eq⟩), ⟨ra, by omega, e_ra⟩, (fun j hj => by rw [show M 83 j = M 83 j from rfl, show M 84 j = M 84 j from rfl]; exact hsl j hj), ⟨ic, by omega, e_ic⟩, (fun j hj => by obtain ⟨q, hq, eq⟩ := hS j hj; exact ⟨q, hq, (show M 75 j = M 75 j from rfl).trans eq⟩)⟩, (by unfold hdR; rw [if_neg c1])⟩⟩)
