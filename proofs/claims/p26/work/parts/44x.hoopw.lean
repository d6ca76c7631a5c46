/-- a pace's size; 0 .. 9; a pace of such a size with the sign of old -/
def w_ab (v : Int32) : Int32 := if v < 0 then -v else v
def w_cl (v : Int32) : Int32 := if v < 0 then 0 else if 9 < v then 9 else v
def w_qk (pc v : Int32) : Int32 := if pc < 0 then -(w_cl v) else w_cl v
/-- how far from a place -/
def w_far (pl go : Int32) : Int32 := if 12 < w_ab (pl - go) then 24 - w_ab (pl - go) else w_ab (pl - go)
def w_need (sz : Int32) : Int32 := (10 - sz) / 2 + 1
/-- how high behind a tick -/
def w_hi (sz pc hi : Int32) : Int32 := if w_need sz ≤ w_ab pc then (if hi + 1 < 20 then hi + 1 else 20) else (if 0 < hi - 2 then hi - 2 else 0)
def w_mv (pl pc : Int32) : Int32 := (pl + pc + 24) - (pl + pc + 24) / 24 * 24
theorem w_ab_c (v : Int32) : (if 0 ≤ v then v else 0 - v) = w_ab v := by
  unfold w_ab
  by_cases h : v < 0
  · rw [if_neg (fun q => absurd h (Int32.not_lt.mpr q)), if_pos h, Int32.zero_sub]
  · rw [if_pos (Int32.not_lt.mp h), if_neg h]
theorem w_cl_c (v : Int32) : (if 0 < (if v < 9 then v else 9) then (if v < 9 then v else 9) else 0) = w_cl v := by
  unfold w_cl
  by_cases h : v < 9
  · rw [if_pos h, if_neg (show ¬ 9 < v from fun q => absurd (Int32.lt_trans h q) Int32.lt_irrefl)]
    by_cases h2 : v < 0
    · rw [if_neg (fun q => absurd (Int32.lt_trans h2 q) Int32.lt_irrefl), if_pos h2]
    · rw [if_neg h2]
      by_cases h3 : 0 < v
      · rw [if_pos h3]
      · rw [if_neg h3]; exact Int32.le_antisymm (Int32.not_lt.mp h2) (Int32.not_lt.mp h3)
  · have h4 := Int32.not_lt.mp h
    rw [if_neg h, if_pos (by decide), if_neg (show ¬ v < 0 from fun q => absurd (Int32.lt_of_le_of_lt h4 q) (by decide))]
    by_cases h2 : 9 < v
    · rw [if_pos h2]
    · rw [if_neg h2]; exact Int32.le_antisymm h4 (Int32.not_lt.mp h2)
theorem w_qk_n {pc : Int32} (v : Int32) (h : pc < 0) : -(w_cl v) = w_qk pc v := (if_pos h).symm
theorem w_qk_p {pc : Int32} (v : Int32) (h : ¬ pc < 0) : w_cl v = w_qk pc v := (if_neg h).symm
theorem n24 {v : Int32} (h : 0 ≤ v ∧ v < 24) : ∃ a : Nat, a < 24 ∧ v = nI a := x_nat (N := 24) (K := 24) (by decide) (by decide) h
theorem n19 {v : Int32} (h : -9 ≤ v ∧ v ≤ 9) : ∃ a : Nat, a < 19 ∧ v = nI a - 9 := by
  obtain ⟨a, ha, e⟩ := x_natle (v := v + 9) (N := 18) (K := 18) (by decide) (by decide) (by
    have h1 := Int32.le_iff_toInt_le.mp h.1
    have h2 := Int32.le_iff_toInt_le.mp h.2
    rw [show (-9 : Int32).toInt = -9 from rfl] at h1
    rw [show (9 : Int32).toInt = 9 from rfl] at h2
    have e : (v + 9).toInt = v.toInt + 9 := by
      rw [Int32.toInt_add, show (9 : Int32).toInt = 9 from rfl, Int.bmod_eq_of_le (by omega) (by omega)]
    exact ⟨Int32.le_iff_toInt_le.mpr (by rw [e]; show (0 : Int) ≤ _; omega), Int32.le_iff_toInt_le.mpr (by rw [e]; show _ ≤ (18 : Int); omega)⟩)
  exact ⟨a, by omega, by rw [← e]; exact (Int32.add_sub_cancel v 9).symm⟩
theorem n20 {v : Int32} (h : 0 ≤ v ∧ v ≤ 20) : ∃ a : Nat, a < 21 ∧ v = nI a := by
  obtain ⟨a, ha, e⟩ := x_natle (v := v) (N := 20) (K := 20) (by decide) (by decide) h
  exact ⟨a, by omega, e⟩
theorem w_mv_t : ∀ s, s < 42 → fm24 (nI s - 9) = w_mv (nI s) (-9) ∧ 0 ≤ w_mv (nI s) (-9) ∧ w_mv (nI s) (-9) < 24 := by decide +kernel
theorem w_mv_e {a b : Nat} : nI a + (nI b - 9) = nI (a + b) - 9 := by rw [Int32.sub_eq_add_neg, ← Int32.add_assoc, nI_add, ← Int32.sub_eq_add_neg]
theorem w_mv_f {a b : Nat} : w_mv (nI a) (nI b - 9) = w_mv (nI (a + b)) (-9) := by unfold w_mv; rw [w_mv_e, Int32.sub_eq_add_neg (nI (a + b)) 9]
theorem w_mv_c {pl pc : Int32} (h : 0 ≤ pl ∧ pl < 24) (h2 : -9 ≤ pc ∧ pc ≤ 9) : fm24 (pl + pc) = w_mv pl pc := by
  obtain ⟨a, ha, rfl⟩ := n24 h
  obtain ⟨b, hb, rfl⟩ := n19 h2
  rw [w_mv_f, w_mv_e]; exact (w_mv_t (a + b) (by omega)).1
theorem w_mv_b {pl pc : Int32} (h : 0 ≤ pl ∧ pl < 24) (h2 : -9 ≤ pc ∧ pc ≤ 9) : 0 ≤ w_mv pl pc ∧ w_mv pl pc < 24 := by
  obtain ⟨a, ha, rfl⟩ := n24 h
  obtain ⟨b, hb, rfl⟩ := n19 h2
  rw [w_mv_f]; exact (w_mv_t (a + b) (by omega)).2
theorem w_mv_0 {pl : Int32} (h : 0 ≤ pl ∧ pl < 24) : w_mv pl 0 = pl := by
  obtain ⟨a, ha, rfl⟩ := n24 h
  exact (show ∀ a, a < 24 → w_mv (nI a) 0 = nI a by decide +kernel) a ha
/-- the class's way to tell how far -/
def w_ff (x : Int32) : Int32 := if 24 - fm24 x < fm24 x then 24 - fm24 x else fm24 x
def w_fa (x : Int32) : Int32 := if 12 < w_ab x then 24 - w_ab x else w_ab x
theorem w_far_t : ∀ s, s < 47 → w_ff (nI s - 23) = w_fa (nI s - 23) := by decide +kernel
theorem w_far_e {a b : Nat} (hb : b ≤ 23) : nI a - nI b = nI (a + (23 - b)) - 23 := by
  have e : nI b + nI (23 - b) = 23 := by rw [nI_add, show b + (23 - b) = 23 by omega]; rfl
  rw [← nI_add, ← e]; grind
theorem w_far_c {pl go : Int32} (h : 0 ≤ pl ∧ pl < 24) (h2 : 0 ≤ go ∧ go < 24) : w_ff (pl - go) = w_far pl go := by
  obtain ⟨a, ha, rfl⟩ := n24 h
  obtain ⟨b, hb, rfl⟩ := n24 h2
  show _ = w_fa (nI a - nI b)
  rw [w_far_e (show b ≤ 23 by omega)]; exact w_far_t _ (by omega)
theorem w_cl_b (v : Int32) : 0 ≤ w_cl v ∧ w_cl v ≤ 9 := by
  unfold w_cl
  by_cases h : v < 0
  · rw [if_pos h]; decide
  · rw [if_neg h]
    by_cases h2 : 9 < v
    · rw [if_pos h2]; decide
    · rw [if_neg h2]; exact ⟨Int32.not_lt.mp h, Int32.not_lt.mp h2⟩
theorem w_qk_b (pc v : Int32) : -9 ≤ w_qk pc v ∧ w_qk pc v ≤ 9 := by
  obtain ⟨a, ha, e⟩ := x_natle (v := w_cl v) (N := 9) (K := 9) (by decide) (by decide) (w_cl_b v)
  unfold w_qk
  rw [e]
  by_cases h : pc < 0
  · rw [if_pos h]; exact (show ∀ a, a ≤ 9 → -9 ≤ -(nI a) ∧ -(nI a) ≤ 9 by decide +kernel) a ha
  · rw [if_neg h]; exact (show ∀ a, a ≤ 9 → -9 ≤ nI a ∧ nI a ≤ 9 by decide +kernel) a ha
theorem w_hi_t : ∀ a, a < 21 → (0 ≤ (if nI a + 1 < 20 then nI a + 1 else 20) ∧ (if nI a + 1 < 20 then nI a + 1 else 20) ≤ 20) ∧ (0 ≤ (if 0 < nI a - 2 then nI a - 2 else 0) ∧ (if 0 < nI a - 2 then nI a - 2 else 0) ≤ 20) := by decide +kernel
theorem w_hi_b {sz pc hi : Int32} (h : 0 ≤ hi ∧ hi ≤ 20) : 0 ≤ w_hi sz pc hi ∧ w_hi sz pc hi ≤ 20 := by
  obtain ⟨a, ha, rfl⟩ := n20 h
  unfold w_hi
  by_cases c : w_need sz ≤ w_ab pc
  · rw [if_pos c]; exact (w_hi_t a ha).1
  · rw [if_neg c]; exact (w_hi_t a ha).2
theorem w_qk_0 {v : Int32} (h : v ≤ 0) : w_qk 0 v = 0 := by
  unfold w_qk w_cl
  rw [if_neg (by decide)]
  by_cases h2 : v < 0
  · rw [if_pos h2]
  · rw [if_neg h2, if_neg (fun q => absurd (Int32.lt_of_lt_of_le q h) (by decide))]; exact Int32.le_antisymm h (Int32.not_lt.mp h2)
set_option maxRecDepth 100000 in
set_option maxHeartbeats 4000000 in
theorem gw_X2_farFrom (g : Int32) {q : Nat} (hq : x_SH[q]? = some (.inl (2, [none, none, none, none, none]))) {l : Launch} {G : xG} {M : xM} {J : xJ} : x_M l G fX2_farFrom 1 0 0 [.ref (q), .int (g)] x_SH M J (qE (some (.int (w_ff (M q 2 - g)))) x_SH M J) := by
  refine xb_of pX2 (Nat.le_of_ble_eq_true rfl) rfl ?_
  refine xr_aload_n dX2_farFrom_0 0 rfl ?_
  refine xb_get (v := (M q 2)) flX2_22 dX2_farFrom_1 hq rfl rfl ?_
  refine xr_iload_n dX2_farFrom_4 1 rfl ?_
  refine xr_isub dX2_farFrom_5 ?_
  refine xr_bipush (v := 24) dX2_farFrom_6 rfl ?_
  refine xr_fmod fm_l46 uj_fm uj_mi uj_fmc dX2_farFrom_8 (Nat.le_of_ble_eq_true rfl) (by decide) ?_
  refine xr_istore_n (ls2 := [(2, .int ((fm24 ((M q 2) - g)))), (0, .ref (q)), (1, .int (g))]) dX2_farFrom_11 (by decide) rfl ?_
  refine xr_iload_n dX2_farFrom_12 0 rfl ?_
  refine xr_bipush (v := 24) dX2_farFrom_13 rfl ?_
  refine xr_iload_n dX2_farFrom_15 0 rfl ?_
  refine xr_isub dX2_farFrom_16 ?_
  refine xr_min mmX2_50 uj_min uj_mi uj_minc dX2_farFrom_17 (Nat.le_of_ble_eq_true rfl) (by decide) ?_
  exact xr_iret dX2_farFrom_20 rfl rfl (⟨rfl, rfl, rfl, rfl⟩)
set_option maxRecDepth 100000 in
set_option maxHeartbeats 4000000 in
theorem gw_X2_quicken (b : Int32) {q : Nat} (hq : x_SH[q]? = some (.inl (2, [none, none, none, none, none]))) {l : Launch} {G : xG} {M : xM} {J : xJ} : x_M l G fX2_quicken 2 0 0 [.ref (q), .int (b)] x_SH M J (qE none x_SH (x_up M q 3 (w_qk (M q 3) (w_ab (M q 3) + b))) J) := by
  refine xb_of pX2 (Nat.le_of_ble_eq_true rfl) rfl ?_
  refine xr_aload_n dX2_quicken_0 0 rfl ?_
  refine xb_cV (As := []) (rest := []) mlX2_53 (c_X2_speed hq) dX2_quicken_1 hq rfl rfl (Nat.le_of_ble_eq_true rfl) (by decide) (by decide) ?_
  refine xr_iload_n dX2_quicken_4 1 rfl ?_
  refine xr_iadd dX2_quicken_5 ?_
  refine xr_iconst (v := 0) dX2_quicken_6 rfl ?_
  refine xr_bipush (v := 9) dX2_quicken_7 rfl ?_
  refine xb_cN (As := [.int (((if 0 ≤ M q 3 then M q 3 else 0 - M q 3) + b)), .int (0), .int (9)]) (rest := []) mlX2_56 (c_X9_within ((if 0 ≤ M q 3 then M q 3 else 0 - M q 3) + b) 0 9) dX2_quicken_9 rfl rfl (Nat.le_of_ble_eq_true rfl) (by decide) (by decide) ?_
  refine xr_istore_n (ls2 := [(2, .int ((if 0 < (if ((if 0 ≤ M q 3 then M q 3 else 0 - M q 3) + b) < 9 then ((if 0 ≤ M q 3 then M q 3 else 0 - M q 3) + b) else 9) then (if ((if 0 ≤ M q 3 then M q 3 else 0 - M q 3) + b) < 9 then ((if 0 ≤ M q 3 then M q 3 else 0 - M q 3) + b) else 9) else 0))), (0, .ref (q)), (1, .int (b))]) dX2_quicken_12 (by decide) rfl ?_
  refine xr_aload_n dX2_quicken_13 1 rfl ?_
  refine xr_aload_n dX2_quicken_14 1 rfl ?_
  refine xb_get (v := (M q 3)) flX2_25 dX2_quicken_15 hq rfl rfl ?_
  refine xr_if_ge (tgt := 26) dX2_quicken_18 rfl (fun c1 => ?_) (fun c1 => ?_)
  · refine xr_iload_n dX2_quicken_26 0 rfl ?_
    refine xr_putI fpX2_25 dX2_quicken_27 hq rfl rfl rfl ?_
    exact xr_vret dX2_quicken_30 rfl (⟨rfl, rfl, (by rw [w_ab_c, w_cl_c, w_qk_p _ (Int32.not_lt.mpr c1)]), rfl⟩)
  · refine xr_iload_n dX2_quicken_21 0 rfl ?_
    refine xr_ineg dX2_quicken_22 ?_
    refine xr_goto (tgt := 27) dX2_quicken_23 rfl ?_
    refine xr_putI fpX2_25 dX2_quicken_27 hq rfl rfl rfl ?_
    exact xr_vret dX2_quicken_30 rfl (⟨rfl, rfl, (by rw [w_ab_c, w_cl_c, w_qk_n _ (Int32.not_le.mp c1)]), rfl⟩)
set_option maxRecDepth 100000 in
set_option maxHeartbeats 4000000 in
theorem gw_X2_move {q : Nat} (hq : x_SH[q]? = some (.inl (2, [none, none, none, none, none]))) {l : Launch} {G : xG} {M : xM} {J : xJ} : x_M l G fX2_move 1 0 0 [.ref (q)] x_SH M J (qE none x_SH (x_up M q 2 (fm24 (M q 2 + M q 3))) J) := by
  refine xb_of pX2 (Nat.le_of_ble_eq_true rfl) rfl ?_
  refine xr_aload_n dX2_move_0 0 rfl ?_
  refine xr_aload_n dX2_move_1 0 rfl ?_
  refine xb_get (v := (M q 2)) flX2_22 dX2_move_2 hq rfl rfl ?_
  refine xr_aload_n dX2_move_5 0 rfl ?_
  refine xb_get (v := (M q 3)) flX2_25 dX2_move_6 hq rfl rfl ?_
  refine xr_iadd dX2_move_9 ?_
  refine xr_bipush (v := 24) dX2_move_10 rfl ?_
  refine xr_fmod fm_l46 uj_fm uj_mi uj_fmc dX2_move_12 (Nat.le_of_ble_eq_true rfl) (by decide) ?_
  refine xr_putI fpX2_22 dX2_move_15 hq rfl rfl rfl ?_
  exact xr_vret dX2_move_18 rfl (⟨rfl, rfl, rfl, rfl⟩)
def w_hiS (sz pc hi : Int32) : Int32 := if hi = 0 then 0 else w_hi sz pc hi
def w_pcS (sz pc hi : Int32) : Int32 := if hi = 0 then pc else if w_hi sz pc hi = 0 then 0 else pc
theorem w_sk_0 {sz pc hi : Int32} (h : hi = 0) : pc = w_pcS sz pc hi ∧ hi = w_hiS sz pc hi ∧ (0 : Int32) = bI (¬ hi = 0 ∧ w_hi sz pc hi = 0) := ⟨(if_pos h).symm, by unfold w_hiS; rw [if_pos h]; exact h, (bI_f (fun q => q.1 h)).symm⟩
theorem w_sk_1 {sz pc hi h2 : Int32} (h : ¬ hi = 0) (e : h2 = w_hi sz pc hi) (z : h2 = 0) : (0 : Int32) = w_pcS sz pc hi ∧ h2 = w_hiS sz pc hi ∧ bI (h2 = 0) = bI (¬ hi = 0 ∧ w_hi sz pc hi = 0) := by
  subst e
  exact ⟨by unfold w_pcS; rw [if_neg h, if_pos z], by unfold w_hiS; rw [if_neg h], x_bI_c ⟨fun q => ⟨h, q⟩, fun q => q.2⟩⟩
theorem w_sk_2 {sz pc hi h2 : Int32} (h : ¬ hi = 0) (e : h2 = w_hi sz pc hi) (z : ¬ h2 = 0) : pc = w_pcS sz pc hi ∧ h2 = w_hiS sz pc hi ∧ bI (h2 = 0) = bI (¬ hi = 0 ∧ w_hi sz pc hi = 0) := by
  subst e
  exact ⟨by unfold w_pcS; rw [if_neg h, if_neg z], by unfold w_hiS; rw [if_neg h], x_bI_c ⟨fun q => ⟨h, q⟩, fun q => q.2⟩⟩
theorem w_hi_1 {sz pc hi : Int32} (h : ¬ w_ab pc < w_need sz) : (if hi + 1 < 20 then hi + 1 else 20) = w_hi sz pc hi := (if_pos (Int32.not_lt.mp h)).symm
theorem w_hi_2 {sz pc hi : Int32} (h : w_ab pc < w_need sz) : (if 0 < hi - 2 then hi - 2 else 0) = w_hi sz pc hi := (if_neg (fun q => absurd (Int32.lt_of_lt_of_le h q) Int32.lt_irrefl)).symm
set_option maxRecDepth 100000 in
set_option maxHeartbeats 4000000 in
theorem gw_X2_sankToLie {q : Nat} (hq : x_SH[q]? = some (.inl (2, [none, none, none, none, none]))) {l : Launch} {G : xG} {M : xM} {J : xJ} : x_M l G fX2_sankToLie 2 0 0 [.ref (q)] x_SH M J (qKI (fun p _ => p = q) M J (fun r M2 => (M2 q 0 = M q 0 ∧ M2 q 1 = M q 1 ∧ M2 q 2 = M q 2) ∧ M2 q 3 = w_pcS (M q 0) (M q 3) (M q 4) ∧ M2 q 4 = w_hiS (M q 0) (M q 3) (M q 4) ∧ r = bI (¬ M q 4 = 0 ∧ w_hi (M q 0) (M q 3) (M q 4) = 0))) := by
  refine xb_of pX2 (Nat.le_of_ble_eq_true rfl) rfl ?_
  refine xr_aload_n dX2_sankToLie_0 0 rfl ?_
  refine xb_cV (As := []) (rest := []) mlX2_42 (c_X2_lies hq) dX2_sankToLie_1 hq rfl rfl (Nat.le_of_ble_eq_true rfl) (by decide) (by decide) ?_
  refine xb_beq (tgt := 9) dX2_sankToLie_4 rfl (fun c1 => ?_) (fun c1 => ?_)
  · refine xr_aload_n dX2_sankToLie_9 0 rfl ?_
    refine xr_aload_n dX2_sankToLie_10 0 rfl ?_
    refine xb_cV (As := []) (rest := [.ref (q)]) mlX2_53 (c_X2_speed hq) dX2_sankToLie_11 hq rfl rfl (Nat.le_of_ble_eq_true rfl) (by decide) (by decide) ?_
    refine xr_aload_n dX2_sankToLie_14 0 rfl ?_
    refine xb_cV (As := []) (rest := [.int ((if 0 ≤ M q 3 then M q 3 else 0 - M q 3)), .ref (q)]) mlX2_37 (c_X2_need hq) dX2_sankToLie_15 hq rfl rfl (Nat.le_of_ble_eq_true rfl) (by decide) (by decide) ?_
    refine xr_icmp_lt (tgt := 35) dX2_sankToLie_18 rfl (fun c2 => ?_) (fun c2 => ?_)
    · refine xr_iconst (v := 0) dX2_sankToLie_35 rfl ?_
      refine xr_aload_n dX2_sankToLie_36 0 rfl ?_
      refine xb_get (v := (M q 4)) flX2_28 dX2_sankToLie_37 hq rfl rfl ?_
      refine xr_iconst (v := 2) dX2_sankToLie_40 rfl ?_
      refine xr_isub dX2_sankToLie_41 ?_
      refine xr_max mmX2_60 uj_max uj_mi uj_maxc dX2_sankToLie_42 (Nat.le_of_ble_eq_true rfl) (by decide) ?_
      refine xr_putI fpX2_28 dX2_sankToLie_45 hq rfl rfl rfl ?_
      refine xr_aload_n dX2_sankToLie_48 0 rfl ?_
      refine xb_cV (As := []) (rest := []) mlX2_42 (c_X2_lies hq) dX2_sankToLie_49 hq rfl rfl (Nat.le_of_ble_eq_true rfl) (by decide) (by decide) ?_
      refine xb_beq (tgt := 60) dX2_sankToLie_52 rfl (fun c3 => ?_) (fun c3 => ?_)
      · refine xr_aload_n dX2_sankToLie_60 0 rfl ?_
        refine xb_cV (As := []) (rest := []) mlX2_42 (c_X2_lies hq) dX2_sankToLie_61 hq rfl rfl (Nat.le_of_ble_eq_true rfl) (by decide) (by decide) ?_
        exact xr_iret dX2_sankToLie_64 rfl (bI_n _) (⟨_, rfl, rfl, rfl, (Ke.up rfl Ke.rf), ⟨(Eq.trans (x_up_k _ _ _ (by decide)) rfl), (Eq.trans (x_up_k _ _ _ (by decide)) rfl), (Eq.trans (x_up_k _ _ _ (by decide)) rfl)⟩, ((Eq.trans (x_up_k _ _ _ (by decide)) rfl)).trans (w_sk_2 (sz := M q 0) (pc := M q 3) c1 (w_hi_2 (sz := M q 0) (pc := M q 3) (hi := M q 4) (by rw [← w_ab_c]; exact c2)) (fun qz => c3 (((x_up_s _ _ _ _)).trans qz))).1, ((x_up_s _ _ _ _)).trans (w_sk_2 (sz := M q 0) (pc := M q 3) c1 (w_hi_2 (sz := M q 0) (pc := M q 3) (hi := M q 4) (by rw [← w_ab_c]; exact c2)) (fun qz => c3 (((x_up_s _ _ _ _)).trans qz))).2.1, ((x_bI_c ⟨fun qz => ((x_up_s _ _ _ _)).symm.trans qz, fun qz => ((x_up_s _ _ _ _)).trans qz⟩).trans (w_sk_2 (sz := M q 0) (pc := M q 3) c1 (w_hi_2 (sz := M q 0) (pc := M q 3) (hi := M q 4) (by rw [← w_ab_c]; exact c2)) (fun qz => c3 (((x_up_s _ _ _ _)).trans qz))).2.2)⟩)
      · refine xr_aload_n dX2_sankToLie_55 0 rfl ?_
        refine xr_iconst (v := 0) dX2_sankToLie_56 rfl ?_
        refine xr_putI fpX2_25 dX2_sankToLie_57 hq rfl rfl rfl ?_
        refine xr_aload_n dX2_sankToLie_60 0 rfl ?_
        refine xb_cV (As := []) (rest := []) mlX2_42 (c_X2_lies hq) dX2_sankToLie_61 hq rfl rfl (Nat.le_of_ble_eq_true rfl) (by decide) (by decide) ?_
        exact xr_iret dX2_sankToLie_64 rfl (bI_n _) (⟨_, rfl, rfl, rfl, (Ke.up rfl (Ke.up rfl Ke.rf)), ⟨(Eq.trans (x_up_k _ _ _ (by decide)) (Eq.trans (x_up_k _ _ _ (by decide)) rfl)), (Eq.trans (x_up_k _ _ _ (by decide)) (Eq.trans (x_up_k _ _ _ (by decide)) rfl)), (Eq.trans (x_up_k _ _ _ (by decide)) (Eq.trans (x_up_k _ _ _ (by decide)) rfl))⟩, ((x_up_s _ _ _ _)).trans (w_sk_1 (sz := M q 0) (pc := M q 3) c1 (w_hi_2 (sz := M q 0) (pc := M q 3) (hi := M q 4) (by rw [← w_ab_c]; exact c2)) (((x_up_s _ _ _ _)).symm.trans c3)).1, ((Eq.trans (x_up_k _ _ _ (by decide)) (x_up_s _ _ _ _))).trans (w_sk_1 (sz := M q 0) (pc := M q 3) c1 (w_hi_2 (sz := M q 0) (pc := M q 3) (hi := M q 4) (by rw [← w_ab_c]; exact c2)) (((x_up_s _ _ _ _)).symm.trans c3)).2.1, ((x_bI_c ⟨fun qz => ((Eq.trans (x_up_k _ _ _ (by decide)) (x_up_s _ _ _ _))).symm.trans qz, fun qz => ((Eq.trans (x_up_k _ _ _ (by decide)) (x_up_s _ _ _ _))).trans qz⟩).trans (w_sk_1 (sz := M q 0) (pc := M q 3) c1 (w_hi_2 (sz := M q 0) (pc := M q 3) (hi := M q 4) (by rw [← w_ab_c]; exact c2)) (((x_up_s _ _ _ _)).symm.trans c3)).2.2)⟩)
    · refine xr_bipush (v := 20) dX2_sankToLie_21 rfl ?_
      refine xr_aload_n dX2_sankToLie_23 0 rfl ?_
      refine xb_get (v := (M q 4)) flX2_28 dX2_sankToLie_24 hq rfl rfl ?_
      refine xr_iconst (v := 1) dX2_sankToLie_27 rfl ?_
      refine xr_iadd dX2_sankToLie_28 ?_
      refine xr_min mmX2_50 uj_min uj_mi uj_minc dX2_sankToLie_29 (Nat.le_of_ble_eq_true rfl) (by decide) ?_
      refine xr_goto (tgt := 45) dX2_sankToLie_32 rfl ?_
      refine xr_putI fpX2_28 dX2_sankToLie_45 hq rfl rfl rfl ?_
      refine xr_aload_n dX2_sankToLie_48 0 rfl ?_
      refine xb_cV (As := []) (rest := []) mlX2_42 (c_X2_lies hq) dX2_sankToLie_49 hq rfl rfl (Nat.le_of_ble_eq_true rfl) (by decide) (by decide) ?_
      refine xb_beq (tgt := 60) dX2_sankToLie_52 rfl (fun c4 => ?_) (fun c4 => ?_)
      · refine xr_aload_n dX2_sankToLie_60 0 rfl ?_
        refine xb_cV (As := []) (rest := []) mlX2_42 (c_X2_lies hq) dX2_sankToLie_61 hq rfl rfl (Nat.le_of_ble_eq_true rfl) (by decide) (by decide) ?_
        exact xr_iret dX2_sankToLie_64 rfl (bI_n _) (⟨_, rfl, rfl, rfl, (Ke.up rfl Ke.rf), ⟨(Eq.trans (x_up_k _ _ _ (by decide)) rfl), (Eq.trans (x_up_k _ _ _ (by decide)) rfl), (Eq.trans (x_up_k _ _ _ (by decide)) rfl)⟩, ((Eq.trans (x_up_k _ _ _ (by decide)) rfl)).trans (w_sk_2 (sz := M q 0) (pc := M q 3) c1 (w_hi_1 (sz := M q 0) (pc := M q 3) (hi := M q 4) (by rw [← w_ab_c]; exact c2)) (fun qz => c4 (((x_up_s _ _ _ _)).trans qz))).1, ((x_up_s _ _ _ _)).trans (w_sk_2 (sz := M q 0) (pc := M q 3) c1 (w_hi_1 (sz := M q 0) (pc := M q 3) (hi := M q 4) (by rw [← w_ab_c]; exact c2)) (fun qz => c4 (((x_up_s _ _ _ _)).trans qz))).2.1, ((x_bI_c ⟨fun qz => ((x_up_s _ _ _ _)).symm.trans qz, fun qz => ((x_up_s _ _ _ _)).trans qz⟩).trans (w_sk_2 (sz := M q 0) (pc := M q 3) c1 (w_hi_1 (sz := M q 0) (pc := M q 3) (hi := M q 4) (by rw [← w_ab_c]; exact c2)) (fun qz => c4 (((x_up_s _ _ _ _)).trans qz))).2.2)⟩)
      · refine xr_aload_n dX2_sankToLie_55 0 rfl ?_
        refine xr_iconst (v := 0) dX2_sankToLie_56 rfl ?_
        refine xr_putI fpX2_25 dX2_sankToLie_57 hq rfl rfl rfl ?_
        refine xr_aload_n dX2_sankToLie_60 0 rfl ?_
        refine xb_cV (As := []) (rest := []) mlX2_42 (c_X2_lies hq) dX2_sankToLie_61 hq rfl rfl (Nat.le_of_ble_eq_true rfl) (by decide) (by decide) ?_
        exact xr_iret dX2_sankToLie_64 rfl (bI_n _) (⟨_, rfl, rfl, rfl, (Ke.up rfl (Ke.up rfl Ke.rf)), ⟨(Eq.trans (x_up_k _ _ _ (by decide)) (Eq.trans (x_up_k _ _ _ (by decide)) rfl)), (Eq.trans (x_up_k _ _ _ (by decide)) (Eq.trans (x_up_k _ _ _ (by decide)) rfl)), (Eq.trans (x_up_k _ _ _ (by decide)) (Eq.trans (x_up_k _ _ _ (by decide)) rfl))⟩, ((x_up_s _ _ _ _)).trans (w_sk_1 (sz := M q 0) (pc := M q 3) c1 (w_hi_1 (sz := M q 0) (pc := M q 3) (hi := M q 4) (by rw [← w_ab_c]; exact c2)) (((x_up_s _ _ _ _)).symm.trans c4)).1, ((Eq.trans (x_up_k _ _ _ (by decide)) (x_up_s _ _ _ _))).trans (w_sk_1 (sz := M q 0) (pc := M q 3) c1 (w_hi_1 (sz := M q 0) (pc := M q 3) (hi := M q 4) (by rw [← w_ab_c]; exact c2)) (((x_up_s _ _ _ _)).symm.trans c4)).2.1, ((x_bI_c ⟨fun qz => ((Eq.trans (x_up_k _ _ _ (by decide)) (x_up_s _ _ _ _))).symm.trans qz, fun qz => ((Eq.trans (x_up_k _ _ _ (by decide)) (x_up_s _ _ _ _))).trans qz⟩).trans (w_sk_1 (sz := M q 0) (pc := M q 3) c1 (w_hi_1 (sz := M q 0) (pc := M q 3) (hi := M q 4) (by rw [← w_ab_c]; exact c2)) (((x_up_s _ _ _ _)).symm.trans c4)).2.2)⟩)
  · refine xr_iconst (v := 0) dX2_sankToLie_7 rfl ?_
    exact xr_iret dX2_sankToLie_8 rfl rfl (⟨_, rfl, rfl, rfl, Ke.rf, ⟨rfl, rfl, rfl⟩, (rfl).trans (w_sk_0 c1).1, (rfl).trans (w_sk_0 (sz := M q 0) (pc := M q 3) c1).2.1, (w_sk_0 c1).2.2⟩)
set_option maxRecDepth 100000 in
set_option maxHeartbeats 4000000 in
theorem gw_X2_raise {q : Nat} (hq : x_SH[q]? = some (.inl (2, [none, none, none, none, none]))) {l : Launch} {G : xG} {M : xM} {J : xJ} : x_M l G fX2_raise 0 0 0 [.ref (q)] x_SH M J (qKV (fun p _ => p = q) M J (fun M2 => M2 q 0 = M q 0 ∧ M2 q 1 = M q 1 ∧ M2 q 2 = 0 ∧ M2 q 3 = 4 ∧ M2 q 4 = 20)) := by
  refine xb_of pX2 (Nat.le_of_ble_eq_true rfl) rfl ?_
  refine xr_aload_n dX2_raise_0 0 rfl ?_
  refine xr_iconst (v := 0) dX2_raise_1 rfl ?_
  refine xr_putI fpX2_22 dX2_raise_2 hq rfl rfl rfl ?_
  refine xr_aload_n dX2_raise_5 0 rfl ?_
  refine xr_iconst (v := 4) dX2_raise_6 rfl ?_
  refine xr_putI fpX2_25 dX2_raise_7 hq rfl rfl rfl ?_
  refine xr_aload_n dX2_raise_10 0 rfl ?_
  refine xr_bipush (v := 20) dX2_raise_11 rfl ?_
  refine xr_putI fpX2_28 dX2_raise_13 hq rfl rfl rfl ?_
  exact xr_vret dX2_raise_16 rfl (⟨rfl, rfl, rfl, (Ke.up rfl (Ke.up rfl (Ke.up rfl Ke.rf))), (Eq.trans (x_up_k _ _ _ (by decide)) (Eq.trans (x_up_k _ _ _ (by decide)) (Eq.trans (x_up_k _ _ _ (by decide)) rfl))), (Eq.trans (x_up_k _ _ _ (by decide)) (Eq.trans (x_up_k _ _ _ (by decide)) (Eq.trans (x_up_k _ _ _ (by decide)) rfl))), (Eq.trans (x_up_k _ _ _ (by decide)) (Eq.trans (x_up_k _ _ _ (by decide)) (x_up_s _ _ _ _))), (Eq.trans (x_up_k _ _ _ (by decide)) (x_up_s _ _ _ _)), (x_up_s _ _ _ _)⟩)