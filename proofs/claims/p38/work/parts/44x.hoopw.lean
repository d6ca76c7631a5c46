/-- a pace's size; 0 .. 9; a pace of such a size with the sign of old -/
def ab (v : Int32) : Int32 := if v < 0 then -v else v
def cl9 (v : Int32) : Int32 := if v < 0 then 0 else if 9 < v then 9 else v
def qk (pc v : Int32) : Int32 := if pc < 0 then -(cl9 v) else cl9 v
/-- how far from a place -/
def far (pl go : Int32) : Int32 := if 12 < ab (pl - go) then 24 - ab (pl - go) else ab (pl - go)
def needF (sz : Int32) : Int32 := (10 - sz) / 2 + 1
/-- how high behind a tick -/
def hiF (sz pc hi : Int32) : Int32 := if needF sz ≤ ab pc then (if 20 < hi + 1 then 20 else hi + 1) else (if hi - 2 < 0 then 0 else hi - 2)
def mv (pl pc : Int32) : Int32 := pl + pc + 24 - (pl + pc + 24) / 24 * 24
def hiS (sz pc hi : Int32) : Int32 := if hi = 0 then 0 else hiF sz pc hi
def pcS (sz pc hi : Int32) : Int32 := if hi = 0 then pc else if hiF sz pc hi = 0 then 0 else pc
theorem n24 {v : Int32} (h : 0 ≤ v ∧ v < 24) : ∃ a : Nat, a < 24 ∧ v = nI a := x_nat (N := 24) (K := 24) (by decide) (by decide) h
theorem n19 {v : Int32} (h : -9 ≤ v ∧ v ≤ 9) : ∃ a : Nat, a < 19 ∧ v = nI a - 9 := by
  obtain ⟨a, ha, e⟩ := x_natle (v := v + 9) (N := 18) (K := 18) (by decide) (by decide) (by
    have h1 := Int32.le_iff_toInt_le.mp h.1
    have h2 := Int32.le_iff_toInt_le.mp h.2
    rw [show (-9 : Int32).toInt = -9 from rfl] at h1
    rw [show (9 : Int32).toInt = 9 from rfl] at h2
    have e : (v + 9).toInt = v.toInt + 9 := by
      rw [Int32.toInt_add, show (9 : Int32).toInt = 9 from rfl, Int.bmod_eq_of_le (by omega) (by omega)]
    exact ⟨Int32.le_iff_toInt_le.mpr (by rw [e]; show (0 : Int) ≤ _; omega), Int32.le_iff_toInt_le.mpr (by rw [e]; show _ ≤ (18 : Int); omega)⟩)
  exact ⟨a, by omega, by rw [← e]; exact (Int32.add_sub_cancel v 9).symm⟩
theorem n20 {v : Int32} (h : 0 ≤ v ∧ v ≤ 20) : ∃ a : Nat, a < 21 ∧ v = nI a := by
  obtain ⟨a, ha, e⟩ := x_natle (v := v) (N := 20) (K := 20) (by decide) (by decide) h
  exact ⟨a, by omega, e⟩
theorem mv_c {pl pc : Int32} (h : 0 ≤ pl ∧ pl < 24) (h2 : -9 ≤ pc ∧ pc ≤ 9) : fm24 (pl + pc) = mv pl pc := by
  obtain ⟨a, ha, rfl⟩ := n24 h
  obtain ⟨b, hb, rfl⟩ := n19 h2
  exact (show ∀ a, a < 24 → ∀ b, b < 19 → fm24 (nI a + (nI b - 9)) = mv (nI a) (nI b - 9) by decide +kernel) a ha b hb
theorem mv_b {pl pc : Int32} (h : 0 ≤ pl ∧ pl < 24) (h2 : -9 ≤ pc ∧ pc ≤ 9) : 0 ≤ mv pl pc ∧ mv pl pc < 24 := by
  obtain ⟨a, ha, rfl⟩ := n24 h
  obtain ⟨b, hb, rfl⟩ := n19 h2
  exact (show ∀ a, a < 24 → ∀ b, b < 19 → 0 ≤ mv (nI a) (nI b - 9) ∧ mv (nI a) (nI b - 9) < 24 by decide +kernel) a ha b hb
theorem far_c {pl go : Int32} (h : 0 ≤ pl ∧ pl < 24) (h2 : go = 0 ∨ go = 12) : (if fm24 (pl - go) < 24 - fm24 (pl - go) then fm24 (pl - go) else 24 - fm24 (pl - go)) = far pl go := by
  obtain ⟨a, ha, rfl⟩ := n24 h
  rcases h2 with rfl | rfl
  · exact (show ∀ a, a < 24 → (if fm24 (nI a - 0) < 24 - fm24 (nI a - 0) then fm24 (nI a - 0) else 24 - fm24 (nI a - 0)) = far (nI a) 0 by decide +kernel) a ha
  · exact (show ∀ a, a < 24 → (if fm24 (nI a - 12) < 24 - fm24 (nI a - 12) then fm24 (nI a - 12) else 24 - fm24 (nI a - 12)) = far (nI a) 12 by decide +kernel) a ha
theorem ab_c (v : Int32) : (if 0 ≤ v then v else 0 - v) = ab v := by unfold ab; grind
theorem cl9_b (v : Int32) : 0 ≤ cl9 v ∧ cl9 v ≤ 9 := by unfold cl9; grind
theorem qk_b (pc v : Int32) : -9 ≤ qk pc v ∧ qk pc v ≤ 9 := by
  have h := cl9_b v
  obtain ⟨a, ha, e⟩ := x_natle (v := cl9 v) (N := 9) (K := 9) (by decide) (by decide) h
  unfold qk
  rw [e]
  split
  · exact (show ∀ a, a ≤ 9 → -9 ≤ -(nI a) ∧ -(nI a) ≤ 9 by decide +kernel) a ha
  · exact (show ∀ a, a ≤ 9 → -9 ≤ nI a ∧ nI a ≤ 9 by decide +kernel) a ha
theorem hiF_b {sz pc hi : Int32} (h : 0 ≤ hi ∧ hi ≤ 20) : 0 ≤ hiF sz pc hi ∧ hiF sz pc hi ≤ 20 := by
  obtain ⟨a, ha, rfl⟩ := n20 h
  unfold hiF
  split
  · exact (show ∀ a, a < 21 → 0 ≤ (if 20 < nI a + 1 then 20 else nI a + 1) ∧ (if 20 < nI a + 1 then 20 else nI a + 1) ≤ 20 by decide +kernel) a ha
  · exact (show ∀ a, a < 21 → 0 ≤ (if nI a - 2 < 0 then 0 else nI a - 2) ∧ (if nI a - 2 < 0 then 0 else nI a - 2) ≤ 20 by decide +kernel) a ha
set_option maxRecDepth 100000 in
set_option maxHeartbeats 4000000 in
theorem gw_X2_farFrom (g : Int32) {q : Nat} (hq : x_SH[q]? = some (.inl (2, [none, none, none, none, none]))) {l : Launch} {G : xG} {M : xM} {J : xJ} (hpl : 0 ≤ M q 2 ∧ M q 2 < 24) (hg : g = 0 ∨ g = 12) : x_M l G fX2_farFrom 1 0 0 [.ref (q), .int (g)] x_SH M J (qE (some (.int (far (M q 2) g))) x_SH M J) := by
  refine xb_of pX2 (Nat.le_of_ble_eq_true rfl) rfl ?_
  refine xr_aload_n dX2_farFrom_0 0 rfl ?_
  refine xb_get (v := (M q 2)) flX2_22 dX2_farFrom_1 hq rfl rfl ?_
  refine xr_iload_n dX2_farFrom_4 1 rfl ?_
  refine xr_isub dX2_farFrom_5 ?_
  refine xr_bipush (v := 24) dX2_farFrom_6 rfl ?_
  refine xr_fmod fm_l46 uj_fm uj_mi uj_fmc dX2_farFrom_8 (Nat.le_of_ble_eq_true rfl) (by decide) ?_
  refine xr_istore_n (ls2 := [(2, .int ((fm24 ((M q 2) - g)))), (0, .ref (q)), (1, .int (g))]) dX2_farFrom_11 (by decide) rfl ?_
  refine xr_iload_n dX2_farFrom_12 0 rfl ?_
  refine xr_bipush (v := 24) dX2_farFrom_13 rfl ?_
  refine xr_iload_n dX2_farFrom_15 0 rfl ?_
  refine xr_isub dX2_farFrom_16 ?_
  refine xr_min mmX2_50 uj_min uj_mi uj_minc dX2_farFrom_17 (Nat.le_of_ble_eq_true rfl) (by decide) ?_
  exact xr_iret dX2_farFrom_20 rfl rfl (⟨congrArg (fun z => some (Value.int z)) (far_c hpl hg), rfl, rfl, rfl⟩)
set_option maxRecDepth 100000 in
set_option maxHeartbeats 4000000 in
theorem gw_X2_quicken (b : Int32) {q : Nat} (hq : x_SH[q]? = some (.inl (2, [none, none, none, none, none]))) {l : Launch} {G : xG} {M : xM} {J : xJ} : x_M l G fX2_quicken 2 0 0 [.ref (q), .int (b)] x_SH M J (qE none x_SH (x_up M q 3 (qk (M q 3) (ab (M q 3) + b))) J) := by
  refine xb_of pX2 (Nat.le_of_ble_eq_true rfl) rfl ?_
  refine xr_aload_n dX2_quicken_0 0 rfl ?_
  refine xb_cV (As := []) (rest := []) mlX2_53 (c_X2_speed hq) dX2_quicken_1 hq rfl rfl (Nat.le_of_ble_eq_true rfl) (by decide) (by decide) ?_
  refine xr_iload_n dX2_quicken_4 1 rfl ?_
  refine xr_iadd dX2_quicken_5 ?_
  refine xr_iconst (v := 0) dX2_quicken_6 rfl ?_
  refine xr_bipush (v := 9) dX2_quicken_7 rfl ?_
  refine xb_cN (As := [.int (((if 0 ≤ M q 3 then M q 3 else 0 - M q 3) + b)), .int (0), .int (9)]) (rest := []) mlX2_56 (c_X9_within ((if 0 ≤ M q 3 then M q 3 else 0 - M q 3) + b) 0 9) dX2_quicken_9 rfl rfl (Nat.le_of_ble_eq_true rfl) (by decide) (by decide) ?_
  refine xr_istore_n (ls2 := [(2, .int ((if 0 < (if ((if 0 ≤ M q 3 then M q 3 else 0 - M q 3) + b) < 9 then ((if 0 ≤ M q 3 then M q 3 else 0 - M q 3) + b) else 9) then (if ((if 0 ≤ M q 3 then M q 3 else 0 - M q 3) + b) < 9 then ((if 0 ≤ M q 3 then M q 3 else 0 - M q 3) + b) else 9) else 0))), (0, .ref (q)), (1, .int (b))]) dX2_quicken_12 (by decide) rfl ?_
  refine xr_aload_n dX2_quicken_13 1 rfl ?_
  refine xr_aload_n dX2_quicken_14 1 rfl ?_
  refine xb_get (v := (M q 3)) flX2_25 dX2_quicken_15 hq rfl rfl ?_
  refine xr_if_ge (tgt := 26) dX2_quicken_18 rfl (fun c1 => ?_) (fun c1 => ?_)
  · refine xr_iload_n dX2_quicken_26 0 rfl ?_
    refine xr_putI fpX2_25 dX2_quicken_27 hq rfl rfl rfl ?_
    exact xr_vret dX2_quicken_30 rfl (⟨rfl, rfl, (by congr 1; unfold qk; rw [← ab_c]; unfold cl9; grind), rfl⟩)
  · refine xr_iload_n dX2_quicken_21 0 rfl ?_
    refine xr_ineg dX2_quicken_22 ?_
    refine xr_goto (tgt := 27) dX2_quicken_23 rfl ?_
    refine xr_putI fpX2_25 dX2_quicken_27 hq rfl rfl rfl ?_
    exact xr_vret dX2_quicken_30 rfl (⟨rfl, rfl, (by congr 1; unfold qk; rw [← ab_c]; unfold cl9; grind), rfl⟩)
set_option maxRecDepth 100000 in
set_option maxHeartbeats 4000000 in
theorem gw_X2_move {q : Nat} (hq : x_SH[q]? = some (.inl (2, [none, none, none, none, none]))) {l : Launch} {G : xG} {M : xM} {J : xJ} (hpl : 0 ≤ M q 2 ∧ M q 2 < 24) (hpc : -9 ≤ M q 3 ∧ M q 3 ≤ 9) : x_M l G fX2_move 1 0 0 [.ref (q)] x_SH M J (qE none x_SH (x_up M q 2 (mv (M q 2) (M q 3))) J) := by
  refine xb_of pX2 (Nat.le_of_ble_eq_true rfl) rfl ?_
  refine xr_aload_n dX2_move_0 0 rfl ?_
  refine xr_aload_n dX2_move_1 0 rfl ?_
  refine xb_get (v := (M q 2)) flX2_22 dX2_move_2 hq rfl rfl ?_
  refine xr_aload_n dX2_move_5 0 rfl ?_
  refine xb_get (v := (M q 3)) flX2_25 dX2_move_6 hq rfl rfl ?_
  refine xr_iadd dX2_move_9 ?_
  refine xr_bipush (v := 24) dX2_move_10 rfl ?_
  refine xr_fmod fm_l46 uj_fm uj_mi uj_fmc dX2_move_12 (Nat.le_of_ble_eq_true rfl) (by decide) ?_
  refine xr_putI fpX2_22 dX2_move_15 hq rfl rfl rfl ?_
  exact xr_vret dX2_move_18 rfl (⟨rfl, rfl, (by rw [← mv_c hpl hpc]), rfl⟩)
set_option maxRecDepth 100000 in
set_option maxHeartbeats 4000000 in
theorem gw_X2_sankToLie {q : Nat} (hq : x_SH[q]? = some (.inl (2, [none, none, none, none, none]))) {l : Launch} {G : xG} {M : xM} {J : xJ} (hhi : 0 ≤ M q 4 ∧ M q 4 ≤ 20) : x_M l G fX2_sankToLie 2 0 0 [.ref (q)] x_SH M J (qKI (fun p _ => p = q) M J (fun r M2 => M2 q 0 = M q 0 ∧ M2 q 1 = M q 1 ∧ M2 q 2 = M q 2 ∧ M2 q 3 = pcS (M q 0) (M q 3) (M q 4) ∧ M2 q 4 = hiS (M q 0) (M q 3) (M q 4) ∧ r = bI (¬ M q 4 = 0 ∧ hiF (M q 0) (M q 3) (M q 4) = 0))) := by
  refine xb_of pX2 (Nat.le_of_ble_eq_true rfl) rfl ?_
  refine xr_aload_n dX2_sankToLie_0 0 rfl ?_
  refine xb_cV (As := []) (rest := []) mlX2_42 (c_X2_lies hq) dX2_sankToLie_1 hq rfl rfl (Nat.le_of_ble_eq_true rfl) (by decide) (by decide) ?_
  refine xb_beq (tgt := 9) dX2_sankToLie_4 rfl (fun c1 => ?_) (fun c1 => ?_)
  · refine xr_aload_n dX2_sankToLie_9 0 rfl ?_
    refine xr_aload_n dX2_sankToLie_10 0 rfl ?_
    refine xb_cV (As := []) (rest := [.ref (q)]) mlX2_53 (c_X2_speed hq) dX2_sankToLie_11 hq rfl rfl (Nat.le_of_ble_eq_true rfl) (by decide) (by decide) ?_
    refine xr_aload_n dX2_sankToLie_14 0 rfl ?_
    refine xb_cV (As := []) (rest := [.int ((if 0 ≤ M q 3 then M q 3 else 0 - M q 3)), .ref (q)]) mlX2_37 (c_X2_need hq) dX2_sankToLie_15 hq rfl rfl (Nat.le_of_ble_eq_true rfl) (by decide) (by decide) ?_
    refine xr_icmp_lt (tgt := 35) dX2_sankToLie_18 rfl (fun c2 => ?_) (fun c2 => ?_)
    · refine xr_iconst (v := 0) dX2_sankToLie_35 rfl ?_
      refine xr_aload_n dX2_sankToLie_36 0 rfl ?_
      refine xb_get (v := (M q 4)) flX2_28 dX2_sankToLie_37 hq rfl rfl ?_
      refine xr_iconst (v := 2) dX2_sankToLie_40 rfl ?_
      refine xr_isub dX2_sankToLie_41 ?_
      refine xr_max mmX2_60 uj_max uj_mi uj_maxc dX2_sankToLie_42 (Nat.le_of_ble_eq_true rfl) (by decide) ?_
      refine xr_putI fpX2_28 dX2_sankToLie_45 hq rfl rfl rfl ?_
      refine xr_aload_n dX2_sankToLie_48 0 rfl ?_
      refine xb_cV (As := []) (rest := []) mlX2_42 (c_X2_lies hq) dX2_sankToLie_49 hq rfl rfl (Nat.le_of_ble_eq_true rfl) (by decide) (by decide) ?_
      refine xb_beq (tgt := 60) dX2_sankToLie_52 rfl (fun c3 => ?_) (fun c3 => ?_)
      · refine xr_aload_n dX2_sankToLie_60 0 rfl ?_
        refine xb_cV (As := []) (rest := []) mlX2_42 (c_X2_lies hq) dX2_sankToLie_61 hq rfl rfl (Nat.le_of_ble_eq_true rfl) (by decide) (by decide) ?_
        exact xr_iret dX2_sankToLie_64 rfl (bI_n _) (⟨_, rfl, rfl, rfl, (Ke.up rfl Ke.rf), (Eq.trans (x_up_k _ _ _ (by decide)) rfl), (Eq.trans (x_up_k _ _ _ (by decide)) rfl), (Eq.trans (x_up_k _ _ _ (by decide)) rfl), (((Eq.trans (x_up_k _ _ _ (by decide)) rfl)).trans (by first | (unfold pcS hiF needF; rw [← ab_c]; grind) | (unfold pcS; grind))), (((x_up_s _ _ _ _)).trans (by first | (unfold hiS hiF needF; rw [← ab_c]; grind) | (unfold hiS; grind))), (by first | (unfold bI hiF needF; rw [← ab_c]; grind) | (unfold bI; grind))⟩)
      · refine xr_aload_n dX2_sankToLie_55 0 rfl ?_
        refine xr_iconst (v := 0) dX2_sankToLie_56 rfl ?_
        refine xr_putI fpX2_25 dX2_sankToLie_57 hq rfl rfl rfl ?_
        refine xr_aload_n dX2_sankToLie_60 0 rfl ?_
        refine xb_cV (As := []) (rest := []) mlX2_42 (c_X2_lies hq) dX2_sankToLie_61 hq rfl rfl (Nat.le_of_ble_eq_true rfl) (by decide) (by decide) ?_
        exact xr_iret dX2_sankToLie_64 rfl (bI_n _) (⟨_, rfl, rfl, rfl, (Ke.up rfl (Ke.up rfl Ke.rf)), (Eq.trans (x_up_k _ _ _ (by decide)) (Eq.trans (x_up_k _ _ _ (by decide)) rfl)), (Eq.trans (x_up_k _ _ _ (by decide)) (Eq.trans (x_up_k _ _ _ (by decide)) rfl)), (Eq.trans (x_up_k _ _ _ (by decide)) (Eq.trans (x_up_k _ _ _ (by decide)) rfl)), (((x_up_s _ _ _ _)).trans (by first | (unfold pcS hiF needF; rw [← ab_c]; grind) | (unfold pcS; grind))), (((Eq.trans (x_up_k _ _ _ (by decide)) (x_up_s _ _ _ _))).trans (by first | (unfold hiS hiF needF; rw [← ab_c]; grind) | (unfold hiS; grind))), (by first | (unfold bI hiF needF; rw [← ab_c]; grind) | (unfold bI; grind))⟩)
    · refine xr_bipush (v := 20) dX2_sankToLie_21 rfl ?_
      refine xr_aload_n dX2_sankToLie_23 0 rfl ?_
      refine xb_get (v := (M q 4)) flX2_28 dX2_sankToLie_24 hq rfl rfl ?_
      refine xr_iconst (v := 1) dX2_sankToLie_27 rfl ?_
      refine xr_iadd dX2_sankToLie_28 ?_
      refine xr_min mmX2_50 uj_min uj_mi uj_minc dX2_sankToLie_29 (Nat.le_of_ble_eq_true rfl) (by decide) ?_
      refine xr_goto (tgt := 45) dX2_sankToLie_32 rfl ?_
      refine xr_putI fpX2_28 dX2_sankToLie_45 hq rfl rfl rfl ?_
      refine xr_aload_n dX2_sankToLie_48 0 rfl ?_
      refine xb_cV (As := []) (rest := []) mlX2_42 (c_X2_lies hq) dX2_sankToLie_49 hq rfl rfl (Nat.le_of_ble_eq_true rfl) (by decide) (by decide) ?_
      refine xb_beq (tgt := 60) dX2_sankToLie_52 rfl (fun c4 => ?_) (fun c4 => ?_)
      · refine xr_aload_n dX2_sankToLie_60 0 rfl ?_
        refine xb_cV (As := []) (rest := []) mlX2_42 (c_X2_lies hq) dX2_sankToLie_61 hq rfl rfl (Nat.le_of_ble_eq_true rfl) (by decide) (by decide) ?_
        exact xr_iret dX2_sankToLie_64 rfl (bI_n _) (⟨_, rfl, rfl, rfl, (Ke.up rfl Ke.rf), (Eq.trans (x_up_k _ _ _ (by decide)) rfl), (Eq.trans (x_up_k _ _ _ (by decide)) rfl), (Eq.trans (x_up_k _ _ _ (by decide)) rfl), (((Eq.trans (x_up_k _ _ _ (by decide)) rfl)).trans (by first | (unfold pcS hiF needF; rw [← ab_c]; grind) | (unfold pcS; grind))), (((x_up_s _ _ _ _)).trans (by first | (unfold hiS hiF needF; rw [← ab_c]; grind) | (unfold hiS; grind))), (by first | (unfold bI hiF needF; rw [← ab_c]; grind) | (unfold bI; grind))⟩)
      · refine xr_aload_n dX2_sankToLie_55 0 rfl ?_
        refine xr_iconst (v := 0) dX2_sankToLie_56 rfl ?_
        refine xr_putI fpX2_25 dX2_sankToLie_57 hq rfl rfl rfl ?_
        refine xr_aload_n dX2_sankToLie_60 0 rfl ?_
        refine xb_cV (As := []) (rest := []) mlX2_42 (c_X2_lies hq) dX2_sankToLie_61 hq rfl rfl (Nat.le_of_ble_eq_true rfl) (by decide) (by decide) ?_
        exact xr_iret dX2_sankToLie_64 rfl (bI_n _) (⟨_, rfl, rfl, rfl, (Ke.up rfl (Ke.up rfl Ke.rf)), (Eq.trans (x_up_k _ _ _ (by decide)) (Eq.trans (x_up_k _ _ _ (by decide)) rfl)), (Eq.trans (x_up_k _ _ _ (by decide)) (Eq.trans (x_up_k _ _ _ (by decide)) rfl)), (Eq.trans (x_up_k _ _ _ (by decide)) (Eq.trans (x_up_k _ _ _ (by decide)) rfl)), (((x_up_s _ _ _ _)).trans (by first | (unfold pcS hiF needF; rw [← ab_c]; grind) | (unfold pcS; grind))), (((Eq.trans (x_up_k _ _ _ (by decide)) (x_up_s _ _ _ _))).trans (by first | (unfold hiS hiF needF; rw [← ab_c]; grind) | (unfold hiS; grind))), (by first | (unfold bI hiF needF; rw [← ab_c]; grind) | (unfold bI; grind))⟩)
  · refine xr_iconst (v := 0) dX2_sankToLie_7 rfl ?_
    exact xr_iret dX2_sankToLie_8 rfl rfl (⟨_, rfl, rfl, rfl, Ke.rf, rfl, rfl, rfl, ((rfl).trans (by first | (unfold pcS hiF needF; rw [← ab_c]; grind) | (unfold pcS; grind))), ((rfl).trans (by first | (unfold hiS hiF needF; rw [← ab_c]; grind) | (unfold hiS; grind))), (by first | (unfold bI hiF needF; rw [← ab_c]; grind) | (unfold bI; grind))⟩)
set_option maxRecDepth 100000 in
set_option maxHeartbeats 4000000 in
theorem gw_X2_raise {q : Nat} (hq : x_SH[q]? = some (.inl (2, [none, none, none, none, none]))) {l : Launch} {G : xG} {M : xM} {J : xJ} : x_M l G fX2_raise 0 0 0 [.ref (q)] x_SH M J (qKV (fun p _ => p = q) M J (fun M2 => M2 q 0 = M q 0 ∧ M2 q 1 = M q 1 ∧ M2 q 2 = 0 ∧ M2 q 3 = 4 ∧ M2 q 4 = 20)) := by
  refine xb_of pX2 (Nat.le_of_ble_eq_true rfl) rfl ?_
  refine xr_aload_n dX2_raise_0 0 rfl ?_
  refine xr_iconst (v := 0) dX2_raise_1 rfl ?_
  refine xr_putI fpX2_22 dX2_raise_2 hq rfl rfl rfl ?_
  refine xr_aload_n dX2_raise_5 0 rfl ?_
  refine xr_iconst (v := 4) dX2_raise_6 rfl ?_
  refine xr_putI fpX2_25 dX2_raise_7 hq rfl rfl rfl ?_
  refine xr_aload_n dX2_raise_10 0 rfl ?_
  refine xr_bipush (v := 20) dX2_raise_11 rfl ?_
  refine xr_putI fpX2_28 dX2_raise_13 hq rfl rfl rfl ?_
  exact xr_vret dX2_raise_16 rfl (⟨rfl, rfl, rfl, (Ke.up rfl (Ke.up rfl (Ke.up rfl Ke.rf))), (Eq.trans (x_up_k _ _ _ (by decide)) (Eq.trans (x_up_k _ _ _ (by decide)) (Eq.trans (x_up_k _ _ _ (by decide)) rfl))), (Eq.trans (x_up_k _ _ _ (by decide)) (Eq.trans (x_up_k _ _ _ (by decide)) (Eq.trans (x_up_k _ _ _ (by decide)) rfl))), (Eq.trans (x_up_k _ _ _ (by decide)) (Eq.trans (x_up_k _ _ _ (by decide)) (x_up_s _ _ _ _))), (Eq.trans (x_up_k _ _ _ (by decide)) (x_up_s _ _ _ _)), (x_up_s _ _ _ _)⟩)
set_option maxRecDepth 100000 in
set_option maxHeartbeats 4000000 in
theorem gw_X2_drop {q : Nat} (hq : x_SH[q]? = some (.inl (2, [none, none, none, none, none]))) {l : Launch} {G : xG} {M : xM} {J : xJ} : x_M l G fX2_drop 0 0 0 [.ref (q)] x_SH M J (qKV (fun p _ => p = q) M J (fun M2 => M2 q 0 = M q 0 ∧ M2 q 1 = M q 1 ∧ M2 q 2 = M q 2 ∧ M2 q 3 = 0 ∧ M2 q 4 = 0)) := by
  refine xb_of pX2 (Nat.le_of_ble_eq_true rfl) rfl ?_
  refine xr_aload_n dX2_drop_0 0 rfl ?_
  refine xr_iconst (v := 0) dX2_drop_1 rfl ?_
  refine xr_putI fpX2_25 dX2_drop_2 hq rfl rfl rfl ?_
  refine xr_aload_n dX2_drop_5 0 rfl ?_
  refine xr_iconst (v := 0) dX2_drop_6 rfl ?_
  refine xr_putI fpX2_28 dX2_drop_7 hq rfl rfl rfl ?_
  exact xr_vret dX2_drop_10 rfl (⟨rfl, rfl, rfl, (Ke.up rfl (Ke.up rfl Ke.rf)), (Eq.trans (x_up_k _ _ _ (by decide)) (Eq.trans (x_up_k _ _ _ (by decide)) rfl)), (Eq.trans (x_up_k _ _ _ (by decide)) (Eq.trans (x_up_k _ _ _ (by decide)) rfl)), (Eq.trans (x_up_k _ _ _ (by decide)) (Eq.trans (x_up_k _ _ _ (by decide)) rfl)), (Eq.trans (x_up_k _ _ _ (by decide)) (x_up_s _ _ _ _)), (x_up_s _ _ _ _)⟩)
