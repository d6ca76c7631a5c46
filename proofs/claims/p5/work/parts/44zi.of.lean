def w_ix (v : Int32) : Nat := v.toInt.toNat
theorem w_ix_n {i : Nat} (h : i < 2 ^ 31) : w_ix (nI i) = i := by unfold w_ix; rw [nI_toInt h]; rfl
/-- what a hoop, the settings, a girl are told by -/
def tlF (D : xM) (i : Nat) : Nat → Int32
  | 0 => D i 0
  | 1 => D i 1
  | 2 => D i 3
  | 3 => D i 2
  | 4 => D i 4
  | _ => w_need (D i 0)
def stF (S : Nat → Int32) : Nat → Int32
  | 10 => S 1
  | 11 => S 2
  | 12 => S 3
  | 13 => S 4
  | 14 => S 5
  | _ => S 0
abbrev ofA (n : Nat) (nu w : Int32) : Prop := (0 ≤ w ∧ w ≤ 5) ∧ (0 ≤ nu ∧ nu < nI n)
abbrev ofB (nu w : Int32) : Prop := (10 ≤ w ∧ w ≤ 15) ∧ nu = 0
abbrev ofC (nu w : Int32) : Prop := (20 ≤ w ∧ w ≤ 21) ∧ (0 ≤ nu ∧ nu ≤ 24)
def ofF (n : Nat) (D : xM) (S sk mi : Nat → Int32) (nu w : Int32) : Int32 := if ofA n nu w then tlF D (w_ix nu) (w_ix w) else if ofB nu w then stF S (w_ix w) else if ofC nu w then (if w = 20 then sk (w_ix nu) else mi (w_ix nu)) else -2000000000
theorem ofF_a {n : Nat} {D : xM} {S sk mi : Nat → Int32} {i a : Nat} (hn : n ≤ 5) (hi : i < n) (ha : a < 6) : ofF n D S sk mi (nI i) (nI a) = tlF D i a := by
  unfold ofF
  rw [if_pos ⟨⟨nI_pos' (by omega), nI_le (a := a) (b := 5) (by omega) (by decide)⟩, nI_pos' (by omega), nI_lt (by omega) (by omega)⟩, w_ix_n (by omega), w_ix_n (by omega)]
theorem ofF_b {n : Nat} {D : xM} {S sk mi : Nat → Int32} {a : Nat} (ha : 10 ≤ a) (hb : a ≤ 15) : ofF n D S sk mi 0 (nI a) = stF S a := by
  unfold ofF
  rw [if_neg (fun z => absurd z.1.2 (Int32.not_le.mpr (nI_lt (a := 5) (b := a) (by omega) (by omega)))), if_pos ⟨⟨nI_le (a := 10) (b := a) (by omega) (by omega), nI_le (a := a) (b := 15) (by omega) (by omega)⟩, rfl⟩, w_ix_n (by omega)]
theorem ofF_c {n : Nat} {D : xM} {S sk mi : Nat → Int32} {g : Nat} (hg : g < 25) : ofF n D S sk mi (nI g) 20 = sk g ∧ ofF n D S sk mi (nI g) 21 = mi g := by
  unfold ofF
  refine ⟨?_, ?_⟩
  · rw [if_neg (fun z => absurd z.1.2 (by decide)), if_neg (fun z => absurd z.1.2 (by decide)), if_pos ⟨by decide, nI_pos' (by omega), nI_le (a := g) (b := 24) (by omega) (by decide)⟩, if_pos rfl, w_ix_n (by omega)]
  · rw [if_neg (fun z => absurd z.1.2 (by decide)), if_neg (fun z => absurd z.1.2 (by decide)), if_pos ⟨by decide, nI_pos' (by omega), nI_le (a := g) (b := 24) (by omega) (by decide)⟩, if_neg (by decide), w_ix_n (by omega)]
theorem ofF_v {n : Nat} {D : xM} {S sk mi : Nat → Int32} {nu w : Int32} (h1 : ¬ ofA n nu w) (h2 : ¬ ofB nu w) (h3 : ¬ ofC nu w) : ofF n D S sk mi nu w = -2000000000 := by
  unfold ofF
  rw [if_neg h1, if_neg h2, if_neg h3]
set_option maxRecDepth 100000 in
set_option maxHeartbeats 4000000 in
theorem gxoh0_X9_of {nh : Nat} {D : xM} {t : Option zL} {S : Nat → Int32} {i : Nat} {l : Launch} {G : xG} {M : xM} {J : xJ} (hI : InvC M) (hWG : WG nh D S) (hG : CG M nh D t S) (hi : i < nh) : x_M l G fX9_of 2 0 0 [.ref (0), .int (nI (i)), .int (0)] x_SH M J (qPI M J (fun r => r = ofF nh D S (M 36) (M 37) (nI (i)) (0))) := by
  refine xb_of pX9 (Nat.le_of_ble_eq_true rfl) rfl ?_
  obtain ⟨⟨cn, h_cn, e_cn⟩, ⟨cm, h_cm, e_cm⟩, ⟨L, h_L, e_L⟩, hv, hD, ⟨n, h_n, e_n⟩, ⟨un, wn, h_uw, h_wn, e_un, e_wn⟩, ⟨b, h_b, e_b⟩, hkd, ⟨ra, h_ra, e_ra⟩, hsl, hS⟩ := hI
  obtain ⟨hn5, hW, hrub, hbeat⟩ := hWG
  obtain ⟨hGn, hA, hL, e_nw, e_rub, e_bt, e_ph, e_st, e_kn, e_pu, e_lf⟩ := hG
  obtain rfl : nh = cn := (nI_eq (by omega) (by omega)).mp (hGn.symm.trans e_cn)
  have hbt : ¬ S 2 = 0 := ne2_0 hbeat.1
  refine xr_iload_n dX9_of_0 2 rfl ?_
  refine xr_if_lt (tgt := 39) dX9_of_1 rfl (fun c => absurd c (by decide)) (fun _ => ?_)
  refine xr_iload_n dX9_of_4 2 rfl ?_
  refine xr_iconst (v := 5) dX9_of_5 rfl ?_
  refine xr_icmp_gt (tgt := 39) dX9_of_6 rfl (fun c => absurd c (by decide)) (fun _ => ?_)
  refine xr_aload_n dX9_of_9 0 rfl ?_
  refine xr_getR flX9_28 dX9_of_10 s_0 rfl ?_
  refine xr_iload_n dX9_of_13 1 rfl ?_
  refine xb_cV (As := [.int (nI (i))]) (rest := []) mlX9_118 (c_X5_has (nI (i)) (by omega) e_cn) dX9_of_14 s_13 rfl rfl (Nat.le_of_ble_eq_true rfl) (by decide) (by decide) ?_
  refine xb_beq (tgt := 36) dX9_of_17 rfl (fun c => absurd ⟨nI_pos' (by omega), nI_lt (a := i) (b := nh) (by omega) (by omega)⟩ c) (fun _ => ?_)
  refine xr_aload_n dX9_of_20 0 rfl ?_
  refine xr_getR flX9_28 dX9_of_21 s_0 rfl ?_
  refine xr_getR flX9_121 dX9_of_24 s_13 rfl ?_
  refine xr_iload_n dX9_of_27 1 rfl ?_
  refine xb_aald (j := i) (q := 15 + i) (by decide) dX9_of_28 s_14 (by omega) (by decide) (if_pos (by omega)) ?_
  refine xr_iload_n dX9_of_29 2 rfl ?_
  refine xb_cV (As := [.int (0)]) (rest := []) mlX9_125 (cw_X2_told_0 (s_hp15 (by omega))) dX9_of_30 (s_hp15 (by omega)) rfl rfl (Nat.le_of_ble_eq_true rfl) (by decide) (by decide) ?_
  refine xr_goto (tgt := 38) dX9_of_33 rfl ?_
  exact xr_iret dX9_of_38 rfl rfl (⟨_, rfl, rfl, rfl, rfl, ((hA i hi 0 (by decide)).trans (ofF_a hn5 hi (a := 0) (by decide)).symm)⟩)
set_option maxRecDepth 100000 in
set_option maxHeartbeats 4000000 in
theorem gxoh1_X9_of {nh : Nat} {D : xM} {t : Option zL} {S : Nat → Int32} {i : Nat} {l : Launch} {G : xG} {M : xM} {J : xJ} (hI : InvC M) (hWG : WG nh D S) (hG : CG M nh D t S) (hi : i < nh) : x_M l G fX9_of 2 0 0 [.ref (0), .int (nI (i)), .int (1)] x_SH M J (qPI M J (fun r => r = ofF nh D S (M 36) (M 37) (nI (i)) (1))) := by
  refine xb_of pX9 (Nat.le_of_ble_eq_true rfl) rfl ?_
  obtain ⟨⟨cn, h_cn, e_cn⟩, ⟨cm, h_cm, e_cm⟩, ⟨L, h_L, e_L⟩, hv, hD, ⟨n, h_n, e_n⟩, ⟨un, wn, h_uw, h_wn, e_un, e_wn⟩, ⟨b, h_b, e_b⟩, hkd, ⟨ra, h_ra, e_ra⟩, hsl, hS⟩ := hI
  obtain ⟨hn5, hW, hrub, hbeat⟩ := hWG
  obtain ⟨hGn, hA, hL, e_nw, e_rub, e_bt, e_ph, e_st, e_kn, e_pu, e_lf⟩ := hG
  obtain rfl : nh = cn := (nI_eq (by omega) (by omega)).mp (hGn.symm.trans e_cn)
  have hbt : ¬ S 2 = 0 := ne2_0 hbeat.1
  refine xr_iload_n dX9_of_0 2 rfl ?_
  refine xr_if_lt (tgt := 39) dX9_of_1 rfl (fun c => absurd c (by decide)) (fun _ => ?_)
  refine xr_iload_n dX9_of_4 2 rfl ?_
  refine xr_iconst (v := 5) dX9_of_5 rfl ?_
  refine xr_icmp_gt (tgt := 39) dX9_of_6 rfl (fun c => absurd c (by decide)) (fun _ => ?_)
  refine xr_aload_n dX9_of_9 0 rfl ?_
  refine xr_getR flX9_28 dX9_of_10 s_0 rfl ?_
  refine xr_iload_n dX9_of_13 1 rfl ?_
  refine xb_cV (As := [.int (nI (i))]) (rest := []) mlX9_118 (c_X5_has (nI (i)) (by omega) e_cn) dX9_of_14 s_13 rfl rfl (Nat.le_of_ble_eq_true rfl) (by decide) (by decide) ?_
  refine xb_beq (tgt := 36) dX9_of_17 rfl (fun c => absurd ⟨nI_pos' (by omega), nI_lt (a := i) (b := nh) (by omega) (by omega)⟩ c) (fun _ => ?_)
  refine xr_aload_n dX9_of_20 0 rfl ?_
  refine xr_getR flX9_28 dX9_of_21 s_0 rfl ?_
  refine xr_getR flX9_121 dX9_of_24 s_13 rfl ?_
  refine xr_iload_n dX9_of_27 1 rfl ?_
  refine xb_aald (j := i) (q := 15 + i) (by decide) dX9_of_28 s_14 (by omega) (by decide) (if_pos (by omega)) ?_
  refine xr_iload_n dX9_of_29 2 rfl ?_
  refine xb_cV (As := [.int (1)]) (rest := []) mlX9_125 (cw_X2_told_1 (s_hp15 (by omega))) dX9_of_30 (s_hp15 (by omega)) rfl rfl (Nat.le_of_ble_eq_true rfl) (by decide) (by decide) ?_
  refine xr_goto (tgt := 38) dX9_of_33 rfl ?_
  exact xr_iret dX9_of_38 rfl rfl (⟨_, rfl, rfl, rfl, rfl, ((hA i hi 1 (by decide)).trans (ofF_a hn5 hi (a := 1) (by decide)).symm)⟩)
set_option maxRecDepth 100000 in
set_option maxHeartbeats 4000000 in
theorem gxoh2_X9_of {nh : Nat} {D : xM} {t : Option zL} {S : Nat → Int32} {i : Nat} {l : Launch} {G : xG} {M : xM} {J : xJ} (hI : InvC M) (hWG : WG nh D S) (hG : CG M nh D t S) (hi : i < nh) : x_M l G fX9_of 2 0 0 [.ref (0), .int (nI (i)), .int (2)] x_SH M J (qPI M J (fun r => r = ofF nh D S (M 36) (M 37) (nI (i)) (2))) := by
  refine xb_of pX9 (Nat.le_of_ble_eq_true rfl) rfl ?_
  obtain ⟨⟨cn, h_cn, e_cn⟩, ⟨cm, h_cm, e_cm⟩, ⟨L, h_L, e_L⟩, hv, hD, ⟨n, h_n, e_n⟩, ⟨un, wn, h_uw, h_wn, e_un, e_wn⟩, ⟨b, h_b, e_b⟩, hkd, ⟨ra, h_ra, e_ra⟩, hsl, hS⟩ := hI
  obtain ⟨hn5, hW, hrub, hbeat⟩ := hWG
  obtain ⟨hGn, hA, hL, e_nw, e_rub, e_bt, e_ph, e_st, e_kn, e_pu, e_lf⟩ := hG
  obtain rfl : nh = cn := (nI_eq (by omega) (by omega)).mp (hGn.symm.trans e_cn)
  have hbt : ¬ S 2 = 0 := ne2_0 hbeat.1
  refine xr_iload_n dX9_of_0 2 rfl ?_
  refine xr_if_lt (tgt := 39) dX9_of_1 rfl (fun c => absurd c (by decide)) (fun _ => ?_)
  refine xr_iload_n dX9_of_4 2 rfl ?_
  refine xr_iconst (v := 5) dX9_of_5 rfl ?_
  refine xr_icmp_gt (tgt := 39) dX9_of_6 rfl (fun c => absurd c (by decide)) (fun _ => ?_)
  refine xr_aload_n dX9_of_9 0 rfl ?_
  refine xr_getR flX9_28 dX9_of_10 s_0 rfl ?_
  refine xr_iload_n dX9_of_13 1 rfl ?_
  refine xb_cV (As := [.int (nI (i))]) (rest := []) mlX9_118 (c_X5_has (nI (i)) (by omega) e_cn) dX9_of_14 s_13 rfl rfl (Nat.le_of_ble_eq_true rfl) (by decide) (by decide) ?_
  refine xb_beq (tgt := 36) dX9_of_17 rfl (fun c => absurd ⟨nI_pos' (by omega), nI_lt (a := i) (b := nh) (by omega) (by omega)⟩ c) (fun _ => ?_)
  refine xr_aload_n dX9_of_20 0 rfl ?_
  refine xr_getR flX9_28 dX9_of_21 s_0 rfl ?_
  refine xr_getR flX9_121 dX9_of_24 s_13 rfl ?_
  refine xr_iload_n dX9_of_27 1 rfl ?_
  refine xb_aald (j := i) (q := 15 + i) (by decide) dX9_of_28 s_14 (by omega) (by decide) (if_pos (by omega)) ?_
  refine xr_iload_n dX9_of_29 2 rfl ?_
  refine xb_cV (As := [.int (2)]) (rest := []) mlX9_125 (cw_X2_told_2 (s_hp15 (by omega))) dX9_of_30 (s_hp15 (by omega)) rfl rfl (Nat.le_of_ble_eq_true rfl) (by decide) (by decide) ?_
  refine xr_goto (tgt := 38) dX9_of_33 rfl ?_
  exact xr_iret dX9_of_38 rfl rfl (⟨_, rfl, rfl, rfl, rfl, ((hA i hi 3 (by decide)).trans (ofF_a hn5 hi (a := 2) (by decide)).symm)⟩)
set_option maxRecDepth 100000 in
set_option maxHeartbeats 4000000 in
theorem gxoh3_X9_of {nh : Nat} {D : xM} {t : Option zL} {S : Nat → Int32} {i : Nat} {l : Launch} {G : xG} {M : xM} {J : xJ} (hI : InvC M) (hWG : WG nh D S) (hG : CG M nh D t S) (hi : i < nh) : x_M l G fX9_of 2 0 0 [.ref (0), .int (nI (i)), .int (3)] x_SH M J (qPI M J (fun r => r = ofF nh D S (M 36) (M 37) (nI (i)) (3))) := by
  refine xb_of pX9 (Nat.le_of_ble_eq_true rfl) rfl ?_
  obtain ⟨⟨cn, h_cn, e_cn⟩, ⟨cm, h_cm, e_cm⟩, ⟨L, h_L, e_L⟩, hv, hD, ⟨n, h_n, e_n⟩, ⟨un, wn, h_uw, h_wn, e_un, e_wn⟩, ⟨b, h_b, e_b⟩, hkd, ⟨ra, h_ra, e_ra⟩, hsl, hS⟩ := hI
  obtain ⟨hn5, hW, hrub, hbeat⟩ := hWG
  obtain ⟨hGn, hA, hL, e_nw, e_rub, e_bt, e_ph, e_st, e_kn, e_pu, e_lf⟩ := hG
  obtain rfl : nh = cn := (nI_eq (by omega) (by omega)).mp (hGn.symm.trans e_cn)
  have hbt : ¬ S 2 = 0 := ne2_0 hbeat.1
  refine xr_iload_n dX9_of_0 2 rfl ?_
  refine xr_if_lt (tgt := 39) dX9_of_1 rfl (fun c => absurd c (by decide)) (fun _ => ?_)
  refine xr_iload_n dX9_of_4 2 rfl ?_
  refine xr_iconst (v := 5) dX9_of_5 rfl ?_
  refine xr_icmp_gt (tgt := 39) dX9_of_6 rfl (fun c => absurd c (by decide)) (fun _ => ?_)
  refine xr_aload_n dX9_of_9 0 rfl ?_
  refine xr_getR flX9_28 dX9_of_10 s_0 rfl ?_
  refine xr_iload_n dX9_of_13 1 rfl ?_
  refine xb_cV (As := [.int (nI (i))]) (rest := []) mlX9_118 (c_X5_has (nI (i)) (by omega) e_cn) dX9_of_14 s_13 rfl rfl (Nat.le_of_ble_eq_true rfl) (by decide) (by decide) ?_
  refine xb_beq (tgt := 36) dX9_of_17 rfl (fun c => absurd ⟨nI_pos' (by omega), nI_lt (a := i) (b := nh) (by omega) (by omega)⟩ c) (fun _ => ?_)
  refine xr_aload_n dX9_of_20 0 rfl ?_
  refine xr_getR flX9_28 dX9_of_21 s_0 rfl ?_
  refine xr_getR flX9_121 dX9_of_24 s_13 rfl ?_
  refine xr_iload_n dX9_of_27 1 rfl ?_
  refine xb_aald (j := i) (q := 15 + i) (by decide) dX9_of_28 s_14 (by omega) (by decide) (if_pos (by omega)) ?_
  refine xr_iload_n dX9_of_29 2 rfl ?_
  refine xb_cV (As := [.int (3)]) (rest := []) mlX9_125 (cw_X2_told_3 (s_hp15 (by omega))) dX9_of_30 (s_hp15 (by omega)) rfl rfl (Nat.le_of_ble_eq_true rfl) (by decide) (by decide) ?_
  refine xr_goto (tgt := 38) dX9_of_33 rfl ?_
  exact xr_iret dX9_of_38 rfl rfl (⟨_, rfl, rfl, rfl, rfl, ((hA i hi 2 (by decide)).trans (ofF_a hn5 hi (a := 3) (by decide)).symm)⟩)
set_option maxRecDepth 100000 in
set_option maxHeartbeats 4000000 in
theorem gxoh4_X9_of {nh : Nat} {D : xM} {t : Option zL} {S : Nat → Int32} {i : Nat} {l : Launch} {G : xG} {M : xM} {J : xJ} (hI : InvC M) (hWG : WG nh D S) (hG : CG M nh D t S) (hi : i < nh) : x_M l G fX9_of 2 0 0 [.ref (0), .int (nI (i)), .int (4)] x_SH M J (qPI M J (fun r => r = ofF nh D S (M 36) (M 37) (nI (i)) (4))) := by
  refine xb_of pX9 (Nat.le_of_ble_eq_true rfl) rfl ?_
  obtain ⟨⟨cn, h_cn, e_cn⟩, ⟨cm, h_cm, e_cm⟩, ⟨L, h_L, e_L⟩, hv, hD, ⟨n, h_n, e_n⟩, ⟨un, wn, h_uw, h_wn, e_un, e_wn⟩, ⟨b, h_b, e_b⟩, hkd, ⟨ra, h_ra, e_ra⟩, hsl, hS⟩ := hI
  obtain ⟨hn5, hW, hrub, hbeat⟩ := hWG
  obtain ⟨hGn, hA, hL, e_nw, e_rub, e_bt, e_ph, e_st, e_kn, e_pu, e_lf⟩ := hG
  obtain rfl : nh = cn := (nI_eq (by omega) (by omega)).mp (hGn.symm.trans e_cn)
  have hbt : ¬ S 2 = 0 := ne2_0 hbeat.1
  refine xr_iload_n dX9_of_0 2 rfl ?_
  refine xr_if_lt (tgt := 39) dX9_of_1 rfl (fun c => absurd c (by decide)) (fun _ => ?_)
  refine xr_iload_n dX9_of_4 2 rfl ?_
  refine xr_iconst (v := 5) dX9_of_5 rfl ?_
  refine xr_icmp_gt (tgt := 39) dX9_of_6 rfl (fun c => absurd c (by decide)) (fun _ => ?_)
  refine xr_aload_n dX9_of_9 0 rfl ?_
  refine xr_getR flX9_28 dX9_of_10 s_0 rfl ?_
  refine xr_iload_n dX9_of_13 1 rfl ?_
  refine xb_cV (As := [.int (nI (i))]) (rest := []) mlX9_118 (c_X5_has (nI (i)) (by omega) e_cn) dX9_of_14 s_13 rfl rfl (Nat.le_of_ble_eq_true rfl) (by decide) (by decide) ?_
  refine xb_beq (tgt := 36) dX9_of_17 rfl (fun c => absurd ⟨nI_pos' (by omega), nI_lt (a := i) (b := nh) (by omega) (by omega)⟩ c) (fun _ => ?_)
  refine xr_aload_n dX9_of_20 0 rfl ?_
  refine xr_getR flX9_28 dX9_of_21 s_0 rfl ?_
  refine xr_getR flX9_121 dX9_of_24 s_13 rfl ?_
  refine xr_iload_n dX9_of_27 1 rfl ?_
  refine xb_aald (j := i) (q := 15 + i) (by decide) dX9_of_28 s_14 (by omega) (by decide) (if_pos (by omega)) ?_
  refine xr_iload_n dX9_of_29 2 rfl ?_
  refine xb_cV (As := [.int (4)]) (rest := []) mlX9_125 (cw_X2_told_4 (s_hp15 (by omega))) dX9_of_30 (s_hp15 (by omega)) rfl rfl (Nat.le_of_ble_eq_true rfl) (by decide) (by decide) ?_
  refine xr_goto (tgt := 38) dX9_of_33 rfl ?_
  exact xr_iret dX9_of_38 rfl rfl (⟨_, rfl, rfl, rfl, rfl, ((hA i hi 4 (by decide)).trans (ofF_a hn5 hi (a := 4) (by decide)).symm)⟩)
set_option maxRecDepth 100000 in
set_option maxHeartbeats 4000000 in
theorem gxoh5_X9_of {nh : Nat} {D : xM} {t : Option zL} {S : Nat → Int32} {i : Nat} {l : Launch} {G : xG} {M : xM} {J : xJ} (hI : InvC M) (hWG : WG nh D S) (hG : CG M nh D t S) (hi : i < nh) : x_M l G fX9_of 2 0 0 [.ref (0), .int (nI (i)), .int (5)] x_SH M J (qPI M J (fun r => r = ofF nh D S (M 36) (M 37) (nI (i)) (5))) := by
  refine xb_of pX9 (Nat.le_of_ble_eq_true rfl) rfl ?_
  obtain ⟨⟨cn, h_cn, e_cn⟩, ⟨cm, h_cm, e_cm⟩, ⟨L, h_L, e_L⟩, hv, hD, ⟨n, h_n, e_n⟩, ⟨un, wn, h_uw, h_wn, e_un, e_wn⟩, ⟨b, h_b, e_b⟩, hkd, ⟨ra, h_ra, e_ra⟩, hsl, hS⟩ := hI
  obtain ⟨hn5, hW, hrub, hbeat⟩ := hWG
  obtain ⟨hGn, hA, hL, e_nw, e_rub, e_bt, e_ph, e_st, e_kn, e_pu, e_lf⟩ := hG
  obtain rfl : nh = cn := (nI_eq (by omega) (by omega)).mp (hGn.symm.trans e_cn)
  have hbt : ¬ S 2 = 0 := ne2_0 hbeat.1
  refine xr_iload_n dX9_of_0 2 rfl ?_
  refine xr_if_lt (tgt := 39) dX9_of_1 rfl (fun c => absurd c (by decide)) (fun _ => ?_)
  refine xr_iload_n dX9_of_4 2 rfl ?_
  refine xr_iconst (v := 5) dX9_of_5 rfl ?_
  refine xr_icmp_gt (tgt := 39) dX9_of_6 rfl (fun c => absurd c (by decide)) (fun _ => ?_)
  refine xr_aload_n dX9_of_9 0 rfl ?_
  refine xr_getR flX9_28 dX9_of_10 s_0 rfl ?_
  refine xr_iload_n dX9_of_13 1 rfl ?_
  refine xb_cV (As := [.int (nI (i))]) (rest := []) mlX9_118 (c_X5_has (nI (i)) (by omega) e_cn) dX9_of_14 s_13 rfl rfl (Nat.le_of_ble_eq_true rfl) (by decide) (by decide) ?_
  refine xb_beq (tgt := 36) dX9_of_17 rfl (fun c => absurd ⟨nI_pos' (by omega), nI_lt (a := i) (b := nh) (by omega) (by omega)⟩ c) (fun _ => ?_)
  refine xr_aload_n dX9_of_20 0 rfl ?_
  refine xr_getR flX9_28 dX9_of_21 s_0 rfl ?_
  refine xr_getR flX9_121 dX9_of_24 s_13 rfl ?_
  refine xr_iload_n dX9_of_27 1 rfl ?_
  refine xb_aald (j := i) (q := 15 + i) (by decide) dX9_of_28 s_14 (by omega) (by decide) (if_pos (by omega)) ?_
  refine xr_iload_n dX9_of_29 2 rfl ?_
  refine xb_cV (As := [.int (5)]) (rest := []) mlX9_125 (cw_X2_told_5 (s_hp15 (by omega))) dX9_of_30 (s_hp15 (by omega)) rfl rfl (Nat.le_of_ble_eq_true rfl) (by decide) (by decide) ?_
  refine xr_goto (tgt := 38) dX9_of_33 rfl ?_
  exact xr_iret dX9_of_38 rfl rfl (⟨_, rfl, rfl, rfl, rfl, ((congrArg w_need (hA i hi 0 (by decide))).trans (ofF_a hn5 hi (a := 5) (by decide)).symm)⟩)
set_option maxRecDepth 100000 in
set_option maxHeartbeats 4000000 in
theorem gxos10_X9_of {nh : Nat} {D : xM} {t : Option zL} {S : Nat → Int32} {l : Launch} {G : xG} {M : xM} {J : xJ} (hI : InvC M) (hWG : WG nh D S) (hG : CG M nh D t S) : x_M l G fX9_of 2 0 0 [.ref (0), .int (0), .int (10)] x_SH M J (qPI M J (fun r => r = ofF nh D S (M 36) (M 37) (0) (10))) := by
  refine xb_of pX9 (Nat.le_of_ble_eq_true rfl) rfl ?_
  obtain ⟨⟨cn, h_cn, e_cn⟩, ⟨cm, h_cm, e_cm⟩, ⟨L, h_L, e_L⟩, hv, hD, ⟨n, h_n, e_n⟩, ⟨un, wn, h_uw, h_wn, e_un, e_wn⟩, ⟨b, h_b, e_b⟩, hkd, ⟨ra, h_ra, e_ra⟩, hsl, hS⟩ := hI
  obtain ⟨hn5, hW, hrub, hbeat⟩ := hWG
  obtain ⟨hGn, hA, hL, e_nw, e_rub, e_bt, e_ph, e_st, e_kn, e_pu, e_lf⟩ := hG
  obtain rfl : nh = cn := (nI_eq (by omega) (by omega)).mp (hGn.symm.trans e_cn)
  have hbt : ¬ S 2 = 0 := ne2_0 hbeat.1
  refine xr_iload_n dX9_of_0 2 rfl ?_
  refine xr_if_lt (tgt := 39) dX9_of_1 rfl (fun c => absurd c (by decide)) (fun _ => ?_)
  refine xr_iload_n dX9_of_4 2 rfl ?_
  refine xr_iconst (v := 5) dX9_of_5 rfl ?_
  refine xr_icmp_gt (tgt := 39) dX9_of_6 rfl (fun _ => ?_) (fun c => absurd (by decide) c)
  refine xr_iload_n dX9_of_39 2 rfl ?_
  refine xr_bipush (v := 10) dX9_of_40 rfl ?_
  refine xr_icmp_lt (tgt := 66) dX9_of_42 rfl (fun c => absurd c (by decide)) (fun _ => ?_)
  refine xr_iload_n dX9_of_45 2 rfl ?_
  refine xr_bipush (v := 15) dX9_of_46 rfl ?_
  refine xr_icmp_gt (tgt := 66) dX9_of_48 rfl (fun c => absurd c (by decide)) (fun _ => ?_)
  refine xr_iload_n dX9_of_51 1 rfl ?_
  refine xr_if_ne (tgt := 63) dX9_of_52 rfl (fun c => absurd (by decide) c) (fun _ => ?_)
  refine xr_aload_n dX9_of_55 0 rfl ?_
  refine xr_iload_n dX9_of_56 2 rfl ?_
  refine xb_cV (As := [.int (10)]) (rest := []) mlX9_131 (cw_X9_settingOf_10) dX9_of_57 s_0 rfl rfl (Nat.le_of_ble_eq_true rfl) (by decide) (by decide) ?_
  refine xr_goto (tgt := 65) dX9_of_60 rfl ?_
  exact xr_iret dX9_of_65 rfl rfl (⟨_, rfl, rfl, rfl, rfl, (e_rub.trans (ofF_b (a := 10) (by decide) (by decide)).symm)⟩)
set_option maxRecDepth 100000 in
set_option maxHeartbeats 4000000 in
theorem gxos11_X9_of {nh : Nat} {D : xM} {t : Option zL} {S : Nat → Int32} {l : Launch} {G : xG} {M : xM} {J : xJ} (hI : InvC M) (hWG : WG nh D S) (hG : CG M nh D t S) : x_M l G fX9_of 2 0 0 [.ref (0), .int (0), .int (11)] x_SH M J (qPI M J (fun r => r = ofF nh D S (M 36) (M 37) (0) (11))) := by
  refine xb_of pX9 (Nat.le_of_ble_eq_true rfl) rfl ?_
  obtain ⟨⟨cn, h_cn, e_cn⟩, ⟨cm, h_cm, e_cm⟩, ⟨L, h_L, e_L⟩, hv, hD, ⟨n, h_n, e_n⟩, ⟨un, wn, h_uw, h_wn, e_un, e_wn⟩, ⟨b, h_b, e_b⟩, hkd, ⟨ra, h_ra, e_ra⟩, hsl, hS⟩ := hI
  obtain ⟨hn5, hW, hrub, hbeat⟩ := hWG
  obtain ⟨hGn, hA, hL, e_nw, e_rub, e_bt, e_ph, e_st, e_kn, e_pu, e_lf⟩ := hG
  obtain rfl : nh = cn := (nI_eq (by omega) (by omega)).mp (hGn.symm.trans e_cn)
  have hbt : ¬ S 2 = 0 := ne2_0 hbeat.1
  refine xr_iload_n dX9_of_0 2 rfl ?_
  refine xr_if_lt (tgt := 39) dX9_of_1 rfl (fun c => absurd c (by decide)) (fun _ => ?_)
  refine xr_iload_n dX9_of_4 2 rfl ?_
  refine xr_iconst (v := 5) dX9_of_5 rfl ?_
  refine xr_icmp_gt (tgt := 39) dX9_of_6 rfl (fun _ => ?_) (fun c => absurd (by decide) c)
  refine xr_iload_n dX9_of_39 2 rfl ?_
  refine xr_bipush (v := 10) dX9_of_40 rfl ?_
  refine xr_icmp_lt (tgt := 66) dX9_of_42 rfl (fun c => absurd c (by decide)) (fun _ => ?_)
  refine xr_iload_n dX9_of_45 2 rfl ?_
  refine xr_bipush (v := 15) dX9_of_46 rfl ?_
  refine xr_icmp_gt (tgt := 66) dX9_of_48 rfl (fun c => absurd c (by decide)) (fun _ => ?_)
  refine xr_iload_n dX9_of_51 1 rfl ?_
  refine xr_if_ne (tgt := 63) dX9_of_52 rfl (fun c => absurd (by decide) c) (fun _ => ?_)
  refine xr_aload_n dX9_of_55 0 rfl ?_
  refine xr_iload_n dX9_of_56 2 rfl ?_
  refine xb_cV (As := [.int (11)]) (rest := []) mlX9_131 (cw_X9_settingOf_11) dX9_of_57 s_0 rfl rfl (Nat.le_of_ble_eq_true rfl) (by decide) (by decide) ?_
  refine xr_goto (tgt := 65) dX9_of_60 rfl ?_
  exact xr_iret dX9_of_65 rfl rfl (⟨_, rfl, rfl, rfl, rfl, (e_bt.trans (ofF_b (a := 11) (by decide) (by decide)).symm)⟩)
set_option maxRecDepth 100000 in
set_option maxHeartbeats 4000000 in
theorem gxos12_X9_of {nh : Nat} {D : xM} {t : Option zL} {S : Nat → Int32} {l : Launch} {G : xG} {M : xM} {J : xJ} (hI : InvC M) (hWG : WG nh D S) (hG : CG M nh D t S) : x_M l G fX9_of 2 0 0 [.ref (0), .int (0), .int (12)] x_SH M J (qPI M J (fun r => r = ofF nh D S (M 36) (M 37) (0) (12))) := by
  refine xb_of pX9 (Nat.le_of_ble_eq_true rfl) rfl ?_
  obtain ⟨⟨cn, h_cn, e_cn⟩, ⟨cm, h_cm, e_cm⟩, ⟨L, h_L, e_L⟩, hv, hD, ⟨n, h_n, e_n⟩, ⟨un, wn, h_uw, h_wn, e_un, e_wn⟩, ⟨b, h_b, e_b⟩, hkd, ⟨ra, h_ra, e_ra⟩, hsl, hS⟩ := hI
  obtain ⟨hn5, hW, hrub, hbeat⟩ := hWG
  obtain ⟨hGn, hA, hL, e_nw, e_rub, e_bt, e_ph, e_st, e_kn, e_pu, e_lf⟩ := hG
  obtain rfl : nh = cn := (nI_eq (by omega) (by omega)).mp (hGn.symm.trans e_cn)
  have hbt : ¬ S 2 = 0 := ne2_0 hbeat.1
  refine xr_iload_n dX9_of_0 2 rfl ?_
  refine xr_if_lt (tgt := 39) dX9_of_1 rfl (fun c => absurd c (by decide)) (fun _ => ?_)
  refine xr_iload_n dX9_of_4 2 rfl ?_
  refine xr_iconst (v := 5) dX9_of_5 rfl ?_
  refine xr_icmp_gt (tgt := 39) dX9_of_6 rfl (fun _ => ?_) (fun c => absurd (by decide) c)
  refine xr_iload_n dX9_of_39 2 rfl ?_
  refine xr_bipush (v := 10) dX9_of_40 rfl ?_
  refine xr_icmp_lt (tgt := 66) dX9_of_42 rfl (fun c => absurd c (by decide)) (fun _ => ?_)
  refine xr_iload_n dX9_of_45 2 rfl ?_
  refine xr_bipush (v := 15) dX9_of_46 rfl ?_
  refine xr_icmp_gt (tgt := 66) dX9_of_48 rfl (fun c => absurd c (by decide)) (fun _ => ?_)
  refine xr_iload_n dX9_of_51 1 rfl ?_
  refine xr_if_ne (tgt := 63) dX9_of_52 rfl (fun c => absurd (by decide) c) (fun _ => ?_)
  refine xr_aload_n dX9_of_55 0 rfl ?_
  refine xr_iload_n dX9_of_56 2 rfl ?_
  refine xb_cV (As := [.int (12)]) (rest := []) mlX9_131 (cw_X9_settingOf_12) dX9_of_57 s_0 rfl rfl (Nat.le_of_ble_eq_true rfl) (by decide) (by decide) ?_
  refine xr_goto (tgt := 65) dX9_of_60 rfl ?_
  exact xr_iret dX9_of_65 rfl rfl (⟨_, rfl, rfl, rfl, rfl, (e_ph.trans (ofF_b (a := 12) (by decide) (by decide)).symm)⟩)
set_option maxRecDepth 100000 in
set_option maxHeartbeats 4000000 in
theorem gxos13_X9_of {nh : Nat} {D : xM} {t : Option zL} {S : Nat → Int32} {l : Launch} {G : xG} {M : xM} {J : xJ} (hI : InvC M) (hWG : WG nh D S) (hG : CG M nh D t S) : x_M l G fX9_of 2 0 0 [.ref (0), .int (0), .int (13)] x_SH M J (qPI M J (fun r => r = ofF nh D S (M 36) (M 37) (0) (13))) := by
  refine xb_of pX9 (Nat.le_of_ble_eq_true rfl) rfl ?_
  obtain ⟨⟨cn, h_cn, e_cn⟩, ⟨cm, h_cm, e_cm⟩, ⟨L, h_L, e_L⟩, hv, hD, ⟨n, h_n, e_n⟩, ⟨un, wn, h_uw, h_wn, e_un, e_wn⟩, ⟨b, h_b, e_b⟩, hkd, ⟨ra, h_ra, e_ra⟩, hsl, hS⟩ := hI
  obtain ⟨hn5, hW, hrub, hbeat⟩ := hWG
  obtain ⟨hGn, hA, hL, e_nw, e_rub, e_bt, e_ph, e_st, e_kn, e_pu, e_lf⟩ := hG
  obtain rfl : nh = cn := (nI_eq (by omega) (by omega)).mp (hGn.symm.trans e_cn)
  have hbt : ¬ S 2 = 0 := ne2_0 hbeat.1
  refine xr_iload_n dX9_of_0 2 rfl ?_
  refine xr_if_lt (tgt := 39) dX9_of_1 rfl (fun c => absurd c (by decide)) (fun _ => ?_)
  refine xr_iload_n dX9_of_4 2 rfl ?_
  refine xr_iconst (v := 5) dX9_of_5 rfl ?_
  refine xr_icmp_gt (tgt := 39) dX9_of_6 rfl (fun _ => ?_) (fun c => absurd (by decide) c)
  refine xr_iload_n dX9_of_39 2 rfl ?_
  refine xr_bipush (v := 10) dX9_of_40 rfl ?_
  refine xr_icmp_lt (tgt := 66) dX9_of_42 rfl (fun c => absurd c (by decide)) (fun _ => ?_)
  refine xr_iload_n dX9_of_45 2 rfl ?_
  refine xr_bipush (v := 15) dX9_of_46 rfl ?_
  refine xr_icmp_gt (tgt := 66) dX9_of_48 rfl (fun c => absurd c (by decide)) (fun _ => ?_)
  refine xr_iload_n dX9_of_51 1 rfl ?_
  refine xr_if_ne (tgt := 63) dX9_of_52 rfl (fun c => absurd (by decide) c) (fun _ => ?_)
  refine xr_aload_n dX9_of_55 0 rfl ?_
  refine xr_iload_n dX9_of_56 2 rfl ?_
  refine xb_cV (As := [.int (13)]) (rest := []) mlX9_131 (cw_X9_settingOf_13) dX9_of_57 s_0 rfl rfl (Nat.le_of_ble_eq_true rfl) (by decide) (by decide) ?_
  refine xr_goto (tgt := 65) dX9_of_60 rfl ?_
  exact xr_iret dX9_of_65 rfl rfl (⟨_, rfl, rfl, rfl, rfl, (e_st.trans (ofF_b (a := 13) (by decide) (by decide)).symm)⟩)
set_option maxRecDepth 100000 in
set_option maxHeartbeats 4000000 in
theorem gxos14_X9_of {nh : Nat} {D : xM} {t : Option zL} {S : Nat → Int32} {l : Launch} {G : xG} {M : xM} {J : xJ} (hI : InvC M) (hWG : WG nh D S) (hG : CG M nh D t S) : x_M l G fX9_of 2 0 0 [.ref (0), .int (0), .int (14)] x_SH M J (qPI M J (fun r => r = ofF nh D S (M 36) (M 37) (0) (14))) := by
  refine xb_of pX9 (Nat.le_of_ble_eq_true rfl) rfl ?_
  obtain ⟨⟨cn, h_cn, e_cn⟩, ⟨cm, h_cm, e_cm⟩, ⟨L, h_L, e_L⟩, hv, hD, ⟨n, h_n, e_n⟩, ⟨un, wn, h_uw, h_wn, e_un, e_wn⟩, ⟨b, h_b, e_b⟩, hkd, ⟨ra, h_ra, e_ra⟩, hsl, hS⟩ := hI
  obtain ⟨hn5, hW, hrub, hbeat⟩ := hWG
  obtain ⟨hGn, hA, hL, e_nw, e_rub, e_bt, e_ph, e_st, e_kn, e_pu, e_lf⟩ := hG
  obtain rfl : nh = cn := (nI_eq (by omega) (by omega)).mp (hGn.symm.trans e_cn)
  have hbt : ¬ S 2 = 0 := ne2_0 hbeat.1
  refine xr_iload_n dX9_of_0 2 rfl ?_
  refine xr_if_lt (tgt := 39) dX9_of_1 rfl (fun c => absurd c (by decide)) (fun _ => ?_)
  refine xr_iload_n dX9_of_4 2 rfl ?_
  refine xr_iconst (v := 5) dX9_of_5 rfl ?_
  refine xr_icmp_gt (tgt := 39) dX9_of_6 rfl (fun _ => ?_) (fun c => absurd (by decide) c)
  refine xr_iload_n dX9_of_39 2 rfl ?_
  refine xr_bipush (v := 10) dX9_of_40 rfl ?_
  refine xr_icmp_lt (tgt := 66) dX9_of_42 rfl (fun c => absurd c (by decide)) (fun _ => ?_)
  refine xr_iload_n dX9_of_45 2 rfl ?_
  refine xr_bipush (v := 15) dX9_of_46 rfl ?_
  refine xr_icmp_gt (tgt := 66) dX9_of_48 rfl (fun c => absurd c (by decide)) (fun _ => ?_)
  refine xr_iload_n dX9_of_51 1 rfl ?_
  refine xr_if_ne (tgt := 63) dX9_of_52 rfl (fun c => absurd (by decide) c) (fun _ => ?_)
  refine xr_aload_n dX9_of_55 0 rfl ?_
  refine xr_iload_n dX9_of_56 2 rfl ?_
  refine xb_cV (As := [.int (14)]) (rest := []) mlX9_131 (cw_X9_settingOf_14) dX9_of_57 s_0 rfl rfl (Nat.le_of_ble_eq_true rfl) (by decide) (by decide) ?_
  refine xr_goto (tgt := 65) dX9_of_60 rfl ?_
  exact xr_iret dX9_of_65 rfl rfl (⟨_, rfl, rfl, rfl, rfl, (e_kn.trans (ofF_b (a := 14) (by decide) (by decide)).symm)⟩)
set_option maxRecDepth 100000 in
set_option maxHeartbeats 4000000 in
theorem gxos15_X9_of {nh : Nat} {D : xM} {t : Option zL} {S : Nat → Int32} {l : Launch} {G : xG} {M : xM} {J : xJ} (hI : InvC M) (hWG : WG nh D S) (hG : CG M nh D t S) : x_M l G fX9_of 2 0 0 [.ref (0), .int (0), .int (15)] x_SH M J (qPI M J (fun r => r = ofF nh D S (M 36) (M 37) (0) (15))) := by
  refine xb_of pX9 (Nat.le_of_ble_eq_true rfl) rfl ?_
  obtain ⟨⟨cn, h_cn, e_cn⟩, ⟨cm, h_cm, e_cm⟩, ⟨L, h_L, e_L⟩, hv, hD, ⟨n, h_n, e_n⟩, ⟨un, wn, h_uw, h_wn, e_un, e_wn⟩, ⟨b, h_b, e_b⟩, hkd, ⟨ra, h_ra, e_ra⟩, hsl, hS⟩ := hI
  obtain ⟨hn5, hW, hrub, hbeat⟩ := hWG
  obtain ⟨hGn, hA, hL, e_nw, e_rub, e_bt, e_ph, e_st, e_kn, e_pu, e_lf⟩ := hG
  obtain rfl : nh = cn := (nI_eq (by omega) (by omega)).mp (hGn.symm.trans e_cn)
  have hbt : ¬ S 2 = 0 := ne2_0 hbeat.1
  refine xr_iload_n dX9_of_0 2 rfl ?_
  refine xr_if_lt (tgt := 39) dX9_of_1 rfl (fun c => absurd c (by decide)) (fun _ => ?_)
  refine xr_iload_n dX9_of_4 2 rfl ?_
  refine xr_iconst (v := 5) dX9_of_5 rfl ?_
  refine xr_icmp_gt (tgt := 39) dX9_of_6 rfl (fun _ => ?_) (fun c => absurd (by decide) c)
  refine xr_iload_n dX9_of_39 2 rfl ?_
  refine xr_bipush (v := 10) dX9_of_40 rfl ?_
  refine xr_icmp_lt (tgt := 66) dX9_of_42 rfl (fun c => absurd c (by decide)) (fun _ => ?_)
  refine xr_iload_n dX9_of_45 2 rfl ?_
  refine xr_bipush (v := 15) dX9_of_46 rfl ?_
  refine xr_icmp_gt (tgt := 66) dX9_of_48 rfl (fun c => absurd c (by decide)) (fun _ => ?_)
  refine xr_iload_n dX9_of_51 1 rfl ?_
  refine xr_if_ne (tgt := 63) dX9_of_52 rfl (fun c => absurd (by decide) c) (fun _ => ?_)
  refine xr_aload_n dX9_of_55 0 rfl ?_
  refine xr_iload_n dX9_of_56 2 rfl ?_
  refine xb_cV (As := [.int (15)]) (rest := []) mlX9_131 (cw_X9_settingOf_15) dX9_of_57 s_0 rfl rfl (Nat.le_of_ble_eq_true rfl) (by decide) (by decide) ?_
  refine xr_goto (tgt := 65) dX9_of_60 rfl ?_
  exact xr_iret dX9_of_65 rfl rfl (⟨_, rfl, rfl, rfl, rfl, (e_nw.trans (ofF_b (a := 15) (by decide) (by decide)).symm)⟩)
set_option maxRecDepth 100000 in
set_option maxHeartbeats 4000000 in
theorem gxog20_X9_of {nh : Nat} {D : xM} {t : Option zL} {S : Nat → Int32} {g : Nat} {l : Launch} {G : xG} {M : xM} {J : xJ} (hI : InvC M) (hWG : WG nh D S) (hG : CG M nh D t S) (hg : g < 25) : x_M l G fX9_of 2 0 0 [.ref (0), .int (nI (g)), .int (20)] x_SH M J (qPI M J (fun r => r = ofF nh D S (M 36) (M 37) (nI (g)) (20))) := by
  refine xb_of pX9 (Nat.le_of_ble_eq_true rfl) rfl ?_
  obtain ⟨⟨cn, h_cn, e_cn⟩, ⟨cm, h_cm, e_cm⟩, ⟨L, h_L, e_L⟩, hv, hD, ⟨n, h_n, e_n⟩, ⟨un, wn, h_uw, h_wn, e_un, e_wn⟩, ⟨b, h_b, e_b⟩, hkd, ⟨ra, h_ra, e_ra⟩, hsl, hS⟩ := hI
  obtain ⟨hn5, hW, hrub, hbeat⟩ := hWG
  obtain ⟨hGn, hA, hL, e_nw, e_rub, e_bt, e_ph, e_st, e_kn, e_pu, e_lf⟩ := hG
  obtain rfl : nh = cn := (nI_eq (by omega) (by omega)).mp (hGn.symm.trans e_cn)
  have hbt : ¬ S 2 = 0 := ne2_0 hbeat.1
  refine xr_iload_n dX9_of_0 2 rfl ?_
  refine xr_if_lt (tgt := 39) dX9_of_1 rfl (fun c => absurd c (by decide)) (fun _ => ?_)
  refine xr_iload_n dX9_of_4 2 rfl ?_
  refine xr_iconst (v := 5) dX9_of_5 rfl ?_
  refine xr_icmp_gt (tgt := 39) dX9_of_6 rfl (fun _ => ?_) (fun c => absurd (by decide) c)
  refine xr_iload_n dX9_of_39 2 rfl ?_
  refine xr_bipush (v := 10) dX9_of_40 rfl ?_
  refine xr_icmp_lt (tgt := 66) dX9_of_42 rfl (fun c => absurd c (by decide)) (fun _ => ?_)
  refine xr_iload_n dX9_of_45 2 rfl ?_
  refine xr_bipush (v := 15) dX9_of_46 rfl ?_
  refine xr_icmp_gt (tgt := 66) dX9_of_48 rfl (fun _ => ?_) (fun c => absurd (by decide) c)
  refine xr_iload_n dX9_of_66 2 rfl ?_
  refine xr_bipush (v := 20) dX9_of_67 rfl ?_
  refine xr_icmp_eq (tgt := 78) dX9_of_69 rfl (fun _ => ?_) (fun c => absurd (by decide) c)
  refine xr_iload_n dX9_of_78 1 rfl ?_
  refine xb_cS (As := [.int (nI (g))]) (rest := []) mlX9_134 (c_X9_isGirl (nI (g))) dX9_of_79 rfl rfl (Nat.le_of_ble_eq_true rfl) (by decide) (by decide) ?_
  refine xb_beq (tgt := 113) dX9_of_82 rfl (fun c => absurd ⟨nI_pos' (by omega), nI_lt (a := g) (b := 25) (by omega) (by decide)⟩ c) (fun _ => ?_)
  refine xr_iload_n dX9_of_85 2 rfl ?_
  refine xr_bipush (v := 20) dX9_of_86 rfl ?_
  refine xr_icmp_ne (tgt := 103) dX9_of_88 rfl (fun c => absurd (by decide) c) (fun _ => ?_)
  refine xr_aload_n dX9_of_91 0 rfl ?_
  refine xr_getR flX9_47 dX9_of_92 s_0 rfl ?_
  refine xr_getR flX9_137 dX9_of_95 s_35 rfl ?_
  refine xr_iload_n dX9_of_98 1 rfl ?_
  refine xb_iald (j := g) (v := M 36 g) dX9_of_99 s_36 hg (by decide) rfl ?_
  refine xr_goto (tgt := 112) dX9_of_100 rfl ?_
  exact xr_iret dX9_of_112 rfl rfl (⟨_, rfl, rfl, rfl, rfl, ((ofF_c hg).1).symm⟩)
set_option maxRecDepth 100000 in
set_option maxHeartbeats 4000000 in
theorem gxog21_X9_of {nh : Nat} {D : xM} {t : Option zL} {S : Nat → Int32} {g : Nat} {l : Launch} {G : xG} {M : xM} {J : xJ} (hI : InvC M) (hWG : WG nh D S) (hG : CG M nh D t S) (hg : g < 25) : x_M l G fX9_of 2 0 0 [.ref (0), .int (nI (g)), .int (21)] x_SH M J (qPI M J (fun r => r = ofF nh D S (M 36) (M 37) (nI (g)) (21))) := by
  refine xb_of pX9 (Nat.le_of_ble_eq_true rfl) rfl ?_
  obtain ⟨⟨cn, h_cn, e_cn⟩, ⟨cm, h_cm, e_cm⟩, ⟨L, h_L, e_L⟩, hv, hD, ⟨n, h_n, e_n⟩, ⟨un, wn, h_uw, h_wn, e_un, e_wn⟩, ⟨b, h_b, e_b⟩, hkd, ⟨ra, h_ra, e_ra⟩, hsl, hS⟩ := hI
  obtain ⟨hn5, hW, hrub, hbeat⟩ := hWG
  obtain ⟨hGn, hA, hL, e_nw, e_rub, e_bt, e_ph, e_st, e_kn, e_pu, e_lf⟩ := hG
  obtain rfl : nh = cn := (nI_eq (by omega) (by omega)).mp (hGn.symm.trans e_cn)
  have hbt : ¬ S 2 = 0 := ne2_0 hbeat.1
  refine xr_iload_n dX9_of_0 2 rfl ?_
  refine xr_if_lt (tgt := 39) dX9_of_1 rfl (fun c => absurd c (by decide)) (fun _ => ?_)
  refine xr_iload_n dX9_of_4 2 rfl ?_
  refine xr_iconst (v := 5) dX9_of_5 rfl ?_
  refine xr_icmp_gt (tgt := 39) dX9_of_6 rfl (fun _ => ?_) (fun c => absurd (by decide) c)
  refine xr_iload_n dX9_of_39 2 rfl ?_
  refine xr_bipush (v := 10) dX9_of_40 rfl ?_
  refine xr_icmp_lt (tgt := 66) dX9_of_42 rfl (fun c => absurd c (by decide)) (fun _ => ?_)
  refine xr_iload_n dX9_of_45 2 rfl ?_
  refine xr_bipush (v := 15) dX9_of_46 rfl ?_
  refine xr_icmp_gt (tgt := 66) dX9_of_48 rfl (fun _ => ?_) (fun c => absurd (by decide) c)
  refine xr_iload_n dX9_of_66 2 rfl ?_
  refine xr_bipush (v := 20) dX9_of_67 rfl ?_
  refine xr_icmp_eq (tgt := 78) dX9_of_69 rfl (fun c => absurd c (by decide)) (fun _ => ?_)
  refine xr_iload_n dX9_of_72 2 rfl ?_
  refine xr_bipush (v := 21) dX9_of_73 rfl ?_
  refine xr_icmp_ne (tgt := 113) dX9_of_75 rfl (fun c => absurd (by decide) c) (fun _ => ?_)
  refine xr_iload_n dX9_of_78 1 rfl ?_
  refine xb_cS (As := [.int (nI (g))]) (rest := []) mlX9_134 (c_X9_isGirl (nI (g))) dX9_of_79 rfl rfl (Nat.le_of_ble_eq_true rfl) (by decide) (by decide) ?_
  refine xb_beq (tgt := 113) dX9_of_82 rfl (fun c => absurd ⟨nI_pos' (by omega), nI_lt (a := g) (b := 25) (by omega) (by decide)⟩ c) (fun _ => ?_)
  refine xr_iload_n dX9_of_85 2 rfl ?_
  refine xr_bipush (v := 20) dX9_of_86 rfl ?_
  refine xr_icmp_ne (tgt := 103) dX9_of_88 rfl (fun _ => ?_) (fun c => absurd c (by decide))
  refine xr_aload_n dX9_of_103 0 rfl ?_
  refine xr_getR flX9_47 dX9_of_104 s_0 rfl ?_
  refine xr_getR flX9_141 dX9_of_107 s_35 rfl ?_
  refine xr_iload_n dX9_of_110 1 rfl ?_
  refine xb_iald (j := g) (v := M 37 g) dX9_of_111 s_37 hg (by decide) rfl ?_
  exact xr_iret dX9_of_112 rfl rfl (⟨_, rfl, rfl, rfl, rfl, ((ofF_c hg).2).symm⟩)
set_option maxRecDepth 100000 in
set_option maxHeartbeats 4000000 in
theorem gxoe_X9_of {nh : Nat} {D : xM} {t : Option zL} {S : Nat → Int32} (nu w : Int32) {l : Launch} {G : xG} {M : xM} {J : xJ} (hI : InvC M) (hWG : WG nh D S) (hG : CG M nh D t S) (h1 : ¬ ofA nh nu w) (h2 : ¬ ofB nu w) (h3 : ¬ ofC nu w) : x_M l G fX9_of 2 0 0 [.ref (0), .int (nu), .int (w)] x_SH M J (qPI M J (fun r => r = ofF nh D S (M 36) (M 37) (nu) (w))) := by
  refine xb_of pX9 (Nat.le_of_ble_eq_true rfl) rfl ?_
  obtain ⟨⟨cn, h_cn, e_cn⟩, ⟨cm, h_cm, e_cm⟩, ⟨L, h_L, e_L⟩, hv, hD, ⟨n, h_n, e_n⟩, ⟨un, wn, h_uw, h_wn, e_un, e_wn⟩, ⟨b, h_b, e_b⟩, hkd, ⟨ra, h_ra, e_ra⟩, hsl, hS⟩ := hI
  obtain ⟨hn5, hW, hrub, hbeat⟩ := hWG
  obtain ⟨hGn, hA, hL, e_nw, e_rub, e_bt, e_ph, e_st, e_kn, e_pu, e_lf⟩ := hG
  obtain rfl : nh = cn := (nI_eq (by omega) (by omega)).mp (hGn.symm.trans e_cn)
  have hbt : ¬ S 2 = 0 := ne2_0 hbeat.1
  refine xr_iload_n dX9_of_0 2 rfl ?_
  refine xr_if_lt (tgt := 39) dX9_of_1 rfl (fun c1 => ?_) (fun c1 => ?_)
  · refine xr_iload_n dX9_of_39 2 rfl ?_
    refine xr_bipush (v := 10) dX9_of_40 rfl ?_
    refine xr_icmp_lt (tgt := 66) dX9_of_42 rfl (fun c2 => ?_) (fun c2 => ?_)
    · refine xr_iload_n dX9_of_66 2 rfl ?_
      refine xr_bipush (v := 20) dX9_of_67 rfl ?_
      refine xr_icmp_eq (tgt := 78) dX9_of_69 rfl (fun c3 => ?_) (fun c3 => ?_)
      · refine xr_iload_n dX9_of_78 1 rfl ?_
        refine xb_cS (As := [.int (nu)]) (rest := []) mlX9_134 (c_X9_isGirl nu) dX9_of_79 rfl rfl (Nat.le_of_ble_eq_true rfl) (by decide) (by decide) ?_
        refine xb_beq (tgt := 113) dX9_of_82 rfl (fun c4 => ?_) (fun c4 => ?_)
        · refine xr_ldc coX9_105 dX9_of_113 ?_
          exact xr_iret dX9_of_115 rfl rfl (⟨_, rfl, rfl, rfl, rfl, (ofF_v h1 h2 h3).symm⟩)
        · exact absurd ⟨by rw [c3]; decide, c4.1, by have z := c4.2; grind⟩ h3
      · refine xr_iload_n dX9_of_72 2 rfl ?_
        refine xr_bipush (v := 21) dX9_of_73 rfl ?_
        refine xr_icmp_ne (tgt := 113) dX9_of_75 rfl (fun c5 => ?_) (fun c5 => ?_)
        · refine xr_ldc coX9_105 dX9_of_113 ?_
          exact xr_iret dX9_of_115 rfl rfl (⟨_, rfl, rfl, rfl, rfl, (ofF_v h1 h2 h3).symm⟩)
        · refine xr_iload_n dX9_of_78 1 rfl ?_
          refine xb_cS (As := [.int (nu)]) (rest := []) mlX9_134 (c_X9_isGirl nu) dX9_of_79 rfl rfl (Nat.le_of_ble_eq_true rfl) (by decide) (by decide) ?_
          refine xb_beq (tgt := 113) dX9_of_82 rfl (fun c6 => ?_) (fun c6 => ?_)
          · refine xr_ldc coX9_105 dX9_of_113 ?_
            exact xr_iret dX9_of_115 rfl rfl (⟨_, rfl, rfl, rfl, rfl, (ofF_v h1 h2 h3).symm⟩)
          · exact absurd ⟨by rw [c5]; decide, c6.1, by have z := c6.2; grind⟩ h3
    · refine xr_iload_n dX9_of_45 2 rfl ?_
      refine xr_bipush (v := 15) dX9_of_46 rfl ?_
      refine xr_icmp_gt (tgt := 66) dX9_of_48 rfl (fun c7 => ?_) (fun c7 => ?_)
      · refine xr_iload_n dX9_of_66 2 rfl ?_
        refine xr_bipush (v := 20) dX9_of_67 rfl ?_
        refine xr_icmp_eq (tgt := 78) dX9_of_69 rfl (fun c8 => ?_) (fun c8 => ?_)
        · refine xr_iload_n dX9_of_78 1 rfl ?_
          refine xb_cS (As := [.int (nu)]) (rest := []) mlX9_134 (c_X9_isGirl nu) dX9_of_79 rfl rfl (Nat.le_of_ble_eq_true rfl) (by decide) (by decide) ?_
          refine xb_beq (tgt := 113) dX9_of_82 rfl (fun c9 => ?_) (fun c9 => ?_)
          · refine xr_ldc coX9_105 dX9_of_113 ?_
            exact xr_iret dX9_of_115 rfl rfl (⟨_, rfl, rfl, rfl, rfl, (ofF_v h1 h2 h3).symm⟩)
          · exact absurd ⟨by rw [c8]; decide, c9.1, by have z := c9.2; grind⟩ h3
        · refine xr_iload_n dX9_of_72 2 rfl ?_
          refine xr_bipush (v := 21) dX9_of_73 rfl ?_
          refine xr_icmp_ne (tgt := 113) dX9_of_75 rfl (fun c10 => ?_) (fun c10 => ?_)
          · refine xr_ldc coX9_105 dX9_of_113 ?_
            exact xr_iret dX9_of_115 rfl rfl (⟨_, rfl, rfl, rfl, rfl, (ofF_v h1 h2 h3).symm⟩)
          · refine xr_iload_n dX9_of_78 1 rfl ?_
            refine xb_cS (As := [.int (nu)]) (rest := []) mlX9_134 (c_X9_isGirl nu) dX9_of_79 rfl rfl (Nat.le_of_ble_eq_true rfl) (by decide) (by decide) ?_
            refine xb_beq (tgt := 113) dX9_of_82 rfl (fun c11 => ?_) (fun c11 => ?_)
            · refine xr_ldc coX9_105 dX9_of_113 ?_
              exact xr_iret dX9_of_115 rfl rfl (⟨_, rfl, rfl, rfl, rfl, (ofF_v h1 h2 h3).symm⟩)
            · exact absurd ⟨by rw [c10]; decide, c11.1, by have z := c11.2; grind⟩ h3
      · refine xr_iload_n dX9_of_51 1 rfl ?_
        refine xr_if_ne (tgt := 63) dX9_of_52 rfl (fun c12 => ?_) (fun c12 => ?_)
        · refine xr_ldc coX9_105 dX9_of_63 ?_
          exact xr_iret dX9_of_65 rfl rfl (⟨_, rfl, rfl, rfl, rfl, (ofF_v h1 h2 h3).symm⟩)
        · exact absurd ⟨⟨by grind, by grind⟩, c12⟩ h2
  · refine xr_iload_n dX9_of_4 2 rfl ?_
    refine xr_iconst (v := 5) dX9_of_5 rfl ?_
    refine xr_icmp_gt (tgt := 39) dX9_of_6 rfl (fun c13 => ?_) (fun c13 => ?_)
    · refine xr_iload_n dX9_of_39 2 rfl ?_
      refine xr_bipush (v := 10) dX9_of_40 rfl ?_
      refine xr_icmp_lt (tgt := 66) dX9_of_42 rfl (fun c14 => ?_) (fun c14 => ?_)
      · refine xr_iload_n dX9_of_66 2 rfl ?_
        refine xr_bipush (v := 20) dX9_of_67 rfl ?_
        refine xr_icmp_eq (tgt := 78) dX9_of_69 rfl (fun c15 => ?_) (fun c15 => ?_)
        · refine xr_iload_n dX9_of_78 1 rfl ?_
          refine xb_cS (As := [.int (nu)]) (rest := []) mlX9_134 (c_X9_isGirl nu) dX9_of_79 rfl rfl (Nat.le_of_ble_eq_true rfl) (by decide) (by decide) ?_
          refine xb_beq (tgt := 113) dX9_of_82 rfl (fun c16 => ?_) (fun c16 => ?_)
          · refine xr_ldc coX9_105 dX9_of_113 ?_
            exact xr_iret dX9_of_115 rfl rfl (⟨_, rfl, rfl, rfl, rfl, (ofF_v h1 h2 h3).symm⟩)
          · exact absurd ⟨by rw [c15]; decide, c16.1, by have z := c16.2; grind⟩ h3
        · refine xr_iload_n dX9_of_72 2 rfl ?_
          refine xr_bipush (v := 21) dX9_of_73 rfl ?_
          refine xr_icmp_ne (tgt := 113) dX9_of_75 rfl (fun c17 => ?_) (fun c17 => ?_)
          · refine xr_ldc coX9_105 dX9_of_113 ?_
            exact xr_iret dX9_of_115 rfl rfl (⟨_, rfl, rfl, rfl, rfl, (ofF_v h1 h2 h3).symm⟩)
          · refine xr_iload_n dX9_of_78 1 rfl ?_
            refine xb_cS (As := [.int (nu)]) (rest := []) mlX9_134 (c_X9_isGirl nu) dX9_of_79 rfl rfl (Nat.le_of_ble_eq_true rfl) (by decide) (by decide) ?_
            refine xb_beq (tgt := 113) dX9_of_82 rfl (fun c18 => ?_) (fun c18 => ?_)
            · refine xr_ldc coX9_105 dX9_of_113 ?_
              exact xr_iret dX9_of_115 rfl rfl (⟨_, rfl, rfl, rfl, rfl, (ofF_v h1 h2 h3).symm⟩)
            · exact absurd ⟨by rw [c17]; decide, c18.1, by have z := c18.2; grind⟩ h3
      · refine xr_iload_n dX9_of_45 2 rfl ?_
        refine xr_bipush (v := 15) dX9_of_46 rfl ?_
        refine xr_icmp_gt (tgt := 66) dX9_of_48 rfl (fun c19 => ?_) (fun c19 => ?_)
        · refine xr_iload_n dX9_of_66 2 rfl ?_
          refine xr_bipush (v := 20) dX9_of_67 rfl ?_
          refine xr_icmp_eq (tgt := 78) dX9_of_69 rfl (fun c20 => ?_) (fun c20 => ?_)
          · refine xr_iload_n dX9_of_78 1 rfl ?_
            refine xb_cS (As := [.int (nu)]) (rest := []) mlX9_134 (c_X9_isGirl nu) dX9_of_79 rfl rfl (Nat.le_of_ble_eq_true rfl) (by decide) (by decide) ?_
            refine xb_beq (tgt := 113) dX9_of_82 rfl (fun c21 => ?_) (fun c21 => ?_)
            · refine xr_ldc coX9_105 dX9_of_113 ?_
              exact xr_iret dX9_of_115 rfl rfl (⟨_, rfl, rfl, rfl, rfl, (ofF_v h1 h2 h3).symm⟩)
            · exact absurd ⟨by rw [c20]; decide, c21.1, by have z := c21.2; grind⟩ h3
          · refine xr_iload_n dX9_of_72 2 rfl ?_
            refine xr_bipush (v := 21) dX9_of_73 rfl ?_
            refine xr_icmp_ne (tgt := 113) dX9_of_75 rfl (fun c22 => ?_) (fun c22 => ?_)
            · refine xr_ldc coX9_105 dX9_of_113 ?_
              exact xr_iret dX9_of_115 rfl rfl (⟨_, rfl, rfl, rfl, rfl, (ofF_v h1 h2 h3).symm⟩)
            · refine xr_iload_n dX9_of_78 1 rfl ?_
              refine xb_cS (As := [.int (nu)]) (rest := []) mlX9_134 (c_X9_isGirl nu) dX9_of_79 rfl rfl (Nat.le_of_ble_eq_true rfl) (by decide) (by decide) ?_
              refine xb_beq (tgt := 113) dX9_of_82 rfl (fun c23 => ?_) (fun c23 => ?_)
              · refine xr_ldc coX9_105 dX9_of_113 ?_
                exact xr_iret dX9_of_115 rfl rfl (⟨_, rfl, rfl, rfl, rfl, (ofF_v h1 h2 h3).symm⟩)
              · exact absurd ⟨by rw [c22]; decide, c23.1, by have z := c23.2; grind⟩ h3
        · refine xr_iload_n dX9_of_51 1 rfl ?_
          refine xr_if_ne (tgt := 63) dX9_of_52 rfl (fun c24 => ?_) (fun c24 => ?_)
          · refine xr_ldc coX9_105 dX9_of_63 ?_
            exact xr_iret dX9_of_65 rfl rfl (⟨_, rfl, rfl, rfl, rfl, (ofF_v h1 h2 h3).symm⟩)
          · exact absurd ⟨⟨by grind, by grind⟩, c24⟩ h2
    · refine xr_aload_n dX9_of_9 0 rfl ?_
      refine xr_getR flX9_28 dX9_of_10 s_0 rfl ?_
      refine xr_iload_n dX9_of_13 1 rfl ?_
      refine xb_cV (As := [.int (nu)]) (rest := []) mlX9_118 (c_X5_has nu (by omega) e_cn) dX9_of_14 s_13 rfl rfl (Nat.le_of_ble_eq_true rfl) (by decide) (by decide) ?_
      refine xb_beq (tgt := 36) dX9_of_17 rfl (fun c25 => ?_) (fun c25 => ?_)
      · refine xr_ldc coX9_105 dX9_of_36 ?_
        exact xr_iret dX9_of_38 rfl rfl (⟨_, rfl, rfl, rfl, rfl, (ofF_v h1 h2 h3).symm⟩)
      · exact absurd ⟨⟨by grind, by grind⟩, c25⟩ h1
set_option maxRecDepth 100000 in
set_option maxHeartbeats 4000000 in
theorem gxoh0_X10_of {nh : Nat} {D : xM} {t : Option zL} {S : Nat → Int32} {i : Nat} {l : Launch} {G : xG} {M : xM} {J : xJ} (hI : InvR M) (hWG : WG nh D S) (hG : RG M nh D t S) (hi : i < nh) : x_M l G fX10_of 2 0 0 [.ref (62), .int (nI (i)), .int (0)] x_SH M J (qPI M J (fun r => r = ofF nh D S (M 75) (M 76) (nI (i)) (0))) := by
  refine xb_of pX10 (Nat.le_of_ble_eq_true rfl) rfl ?_
  obtain ⟨⟨hn, h_hn, e_hn, hw⟩, hbt, ⟨un, wn, h_uw, h_wn, e_un, e_wn⟩, hch, ⟨n, h_n, e_n⟩, htx, ⟨b, h_b, e_b⟩, hkd, ⟨ra, h_ra, e_ra⟩, hsl, ⟨ic, h_ic, e_ic⟩, hS⟩ := hI
  obtain ⟨hn5, hW, hrub, hbeat⟩ := hWG
  obtain ⟨hGn, hA, hL, e_nw, e_rub, e_bt, e_ph, e_st, e_kn, e_pu, e_lf⟩ := hG
  obtain rfl : nh = hn := (nI_eq (by omega) (by omega)).mp (hGn.symm.trans e_hn)
  have hbt2 : ¬ S 2 = 0 := ne2_0 hbeat.1
  refine xr_iload_n dX10_of_0 2 rfl ?_
  refine xr_i2l dX10_of_1 ?_
  refine xb_topJ (y := 0) (by decide) ?_
  refine xr_lconst (v := 0) dX10_of_2 rfl ?_
  refine xr_ldc2 coX10_129 dX10_of_3 ?_
  refine xb_cS (As := [.long (0), .long (0), .long (5)]) (rest := []) mlX10_101 (c_X10_within 0 0 5) dX10_of_6 rfl rfl (Nat.le_of_ble_eq_true rfl) (by decide) (by decide) ?_
  refine xb_beq (tgt := 75) dX10_of_9 rfl (fun c => absurd (by decide) c) (fun _ => ?_)
  refine xr_aload_n dX10_of_12 0 rfl ?_
  refine xr_iload_n dX10_of_13 1 rfl ?_
  refine xb_cV (As := [.int (nI (i))]) (rest := []) mlX10_133 (c_X10_isHoop (nI (i)) (by omega) e_hn) dX10_of_14 s_62 rfl rfl (Nat.le_of_ble_eq_true rfl) (by decide) (by decide) ?_
  refine xb_bne (tgt := 23) dX10_of_17 rfl (fun _ => ?_) (fun c => absurd ⟨nI_pos' (by omega), nI_lt (a := i) (b := nh) (by omega) (by omega)⟩ c)
  refine xr_iload_n dX10_of_23 2 rfl ?_
  refine xr_iconst (v := 3) dX10_of_24 rfl ?_
  refine xr_icmp_ge (tgt := 41) dX10_of_25 rfl (fun c => absurd c (by decide)) (fun _ => ?_)
  refine xr_aload_n dX10_of_28 0 rfl ?_
  refine xr_getR flX10_9 dX10_of_29 s_62 rfl ?_
  refine xr_iconst (v := 5) dX10_of_32 rfl ?_
  refine xr_iload_n dX10_of_33 2 rfl ?_
  refine xr_imul dX10_of_34 ?_
  refine xb_top (y := 0) (by decide) ?_
  refine xr_iload_n dX10_of_35 1 rfl ?_
  refine xr_iadd dX10_of_36 ?_
  refine xb_top (y := nI (5 * 0 + i)) ((show (0 : Int32) + nI i = nI (0) + nI i from rfl).trans (nI_add (0) i)) ?_
  refine xb_iald (j := 5 * 0 + i) (v := M 63 (5 * 0 + i)) dX10_of_37 s_63 (by omega) (by decide) rfl ?_
  refine xr_goto (tgt := 74) dX10_of_38 rfl ?_
  exact xr_iret dX10_of_74 rfl rfl (⟨_, rfl, rfl, rfl, rfl, (Eq.trans ((congrArg (M 63) (show 5 * 0 + i = i by omega)).trans (hA i hi).1) (ofF_a hn5 hi (a := 0) (by decide)).symm)⟩)
set_option maxRecDepth 100000 in
set_option maxHeartbeats 4000000 in
theorem gxoh1_X10_of {nh : Nat} {D : xM} {t : Option zL} {S : Nat → Int32} {i : Nat} {l : Launch} {G : xG} {M : xM} {J : xJ} (hI : InvR M) (hWG : WG nh D S) (hG : RG M nh D t S) (hi : i < nh) : x_M l G fX10_of 2 0 0 [.ref (62), .int (nI (i)), .int (1)] x_SH M J (qPI M J (fun r => r = ofF nh D S (M 75) (M 76) (nI (i)) (1))) := by
  refine xb_of pX10 (Nat.le_of_ble_eq_true rfl) rfl ?_
  obtain ⟨⟨hn, h_hn, e_hn, hw⟩, hbt, ⟨un, wn, h_uw, h_wn, e_un, e_wn⟩, hch, ⟨n, h_n, e_n⟩, htx, ⟨b, h_b, e_b⟩, hkd, ⟨ra, h_ra, e_ra⟩, hsl, ⟨ic, h_ic, e_ic⟩, hS⟩ := hI
  obtain ⟨hn5, hW, hrub, hbeat⟩ := hWG
  obtain ⟨hGn, hA, hL, e_nw, e_rub, e_bt, e_ph, e_st, e_kn, e_pu, e_lf⟩ := hG
  obtain rfl : nh = hn := (nI_eq (by omega) (by omega)).mp (hGn.symm.trans e_hn)
  have hbt2 : ¬ S 2 = 0 := ne2_0 hbeat.1
  refine xr_iload_n dX10_of_0 2 rfl ?_
  refine xr_i2l dX10_of_1 ?_
  refine xb_topJ (y := 1) (by decide) ?_
  refine xr_lconst (v := 0) dX10_of_2 rfl ?_
  refine xr_ldc2 coX10_129 dX10_of_3 ?_
  refine xb_cS (As := [.long (1), .long (0), .long (5)]) (rest := []) mlX10_101 (c_X10_within 1 0 5) dX10_of_6 rfl rfl (Nat.le_of_ble_eq_true rfl) (by decide) (by decide) ?_
  refine xb_beq (tgt := 75) dX10_of_9 rfl (fun c => absurd (by decide) c) (fun _ => ?_)
  refine xr_aload_n dX10_of_12 0 rfl ?_
  refine xr_iload_n dX10_of_13 1 rfl ?_
  refine xb_cV (As := [.int (nI (i))]) (rest := []) mlX10_133 (c_X10_isHoop (nI (i)) (by omega) e_hn) dX10_of_14 s_62 rfl rfl (Nat.le_of_ble_eq_true rfl) (by decide) (by decide) ?_
  refine xb_bne (tgt := 23) dX10_of_17 rfl (fun _ => ?_) (fun c => absurd ⟨nI_pos' (by omega), nI_lt (a := i) (b := nh) (by omega) (by omega)⟩ c)
  refine xr_iload_n dX10_of_23 2 rfl ?_
  refine xr_iconst (v := 3) dX10_of_24 rfl ?_
  refine xr_icmp_ge (tgt := 41) dX10_of_25 rfl (fun c => absurd c (by decide)) (fun _ => ?_)
  refine xr_aload_n dX10_of_28 0 rfl ?_
  refine xr_getR flX10_9 dX10_of_29 s_62 rfl ?_
  refine xr_iconst (v := 5) dX10_of_32 rfl ?_
  refine xr_iload_n dX10_of_33 2 rfl ?_
  refine xr_imul dX10_of_34 ?_
  refine xb_top (y := 5) (by decide) ?_
  refine xr_iload_n dX10_of_35 1 rfl ?_
  refine xr_iadd dX10_of_36 ?_
  refine xb_top (y := nI (5 * 1 + i)) ((show (5 : Int32) + nI i = nI (5) + nI i from rfl).trans (nI_add (5) i)) ?_
  refine xb_iald (j := 5 * 1 + i) (v := M 63 (5 * 1 + i)) dX10_of_37 s_63 (by omega) (by decide) rfl ?_
  refine xr_goto (tgt := 74) dX10_of_38 rfl ?_
  exact xr_iret dX10_of_74 rfl rfl (⟨_, rfl, rfl, rfl, rfl, (Eq.trans (hA i hi).2.1 (ofF_a hn5 hi (a := 1) (by decide)).symm)⟩)
set_option maxRecDepth 100000 in
set_option maxHeartbeats 4000000 in
theorem gxoh2_X10_of {nh : Nat} {D : xM} {t : Option zL} {S : Nat → Int32} {i : Nat} {l : Launch} {G : xG} {M : xM} {J : xJ} (hI : InvR M) (hWG : WG nh D S) (hG : RG M nh D t S) (hi : i < nh) : x_M l G fX10_of 2 0 0 [.ref (62), .int (nI (i)), .int (2)] x_SH M J (qPI M J (fun r => r = ofF nh D S (M 75) (M 76) (nI (i)) (2))) := by
  refine xb_of pX10 (Nat.le_of_ble_eq_true rfl) rfl ?_
  obtain ⟨⟨hn, h_hn, e_hn, hw⟩, hbt, ⟨un, wn, h_uw, h_wn, e_un, e_wn⟩, hch, ⟨n, h_n, e_n⟩, htx, ⟨b, h_b, e_b⟩, hkd, ⟨ra, h_ra, e_ra⟩, hsl, ⟨ic, h_ic, e_ic⟩, hS⟩ := hI
  obtain ⟨hn5, hW, hrub, hbeat⟩ := hWG
  obtain ⟨hGn, hA, hL, e_nw, e_rub, e_bt, e_ph, e_st, e_kn, e_pu, e_lf⟩ := hG
  obtain rfl : nh = hn := (nI_eq (by omega) (by omega)).mp (hGn.symm.trans e_hn)
  have hbt2 : ¬ S 2 = 0 := ne2_0 hbeat.1
  refine xr_iload_n dX10_of_0 2 rfl ?_
  refine xr_i2l dX10_of_1 ?_
  refine xb_topJ (y := 2) (by decide) ?_
  refine xr_lconst (v := 0) dX10_of_2 rfl ?_
  refine xr_ldc2 coX10_129 dX10_of_3 ?_
  refine xb_cS (As := [.long (2), .long (0), .long (5)]) (rest := []) mlX10_101 (c_X10_within 2 0 5) dX10_of_6 rfl rfl (Nat.le_of_ble_eq_true rfl) (by decide) (by decide) ?_
  refine xb_beq (tgt := 75) dX10_of_9 rfl (fun c => absurd (by decide) c) (fun _ => ?_)
  refine xr_aload_n dX10_of_12 0 rfl ?_
  refine xr_iload_n dX10_of_13 1 rfl ?_
  refine xb_cV (As := [.int (nI (i))]) (rest := []) mlX10_133 (c_X10_isHoop (nI (i)) (by omega) e_hn) dX10_of_14 s_62 rfl rfl (Nat.le_of_ble_eq_true rfl) (by decide) (by decide) ?_
  refine xb_bne (tgt := 23) dX10_of_17 rfl (fun _ => ?_) (fun c => absurd ⟨nI_pos' (by omega), nI_lt (a := i) (b := nh) (by omega) (by omega)⟩ c)
  refine xr_iload_n dX10_of_23 2 rfl ?_
  refine xr_iconst (v := 3) dX10_of_24 rfl ?_
  refine xr_icmp_ge (tgt := 41) dX10_of_25 rfl (fun c => absurd c (by decide)) (fun _ => ?_)
  refine xr_aload_n dX10_of_28 0 rfl ?_
  refine xr_getR flX10_9 dX10_of_29 s_62 rfl ?_
  refine xr_iconst (v := 5) dX10_of_32 rfl ?_
  refine xr_iload_n dX10_of_33 2 rfl ?_
  refine xr_imul dX10_of_34 ?_
  refine xb_top (y := 10) (by decide) ?_
  refine xr_iload_n dX10_of_35 1 rfl ?_
  refine xr_iadd dX10_of_36 ?_
  refine xb_top (y := nI (5 * 2 + i)) ((show (10 : Int32) + nI i = nI (10) + nI i from rfl).trans (nI_add (10) i)) ?_
  refine xb_iald (j := 5 * 2 + i) (v := M 63 (5 * 2 + i)) dX10_of_37 s_63 (by omega) (by decide) rfl ?_
  refine xr_goto (tgt := 74) dX10_of_38 rfl ?_
  exact xr_iret dX10_of_74 rfl rfl (⟨_, rfl, rfl, rfl, rfl, (Eq.trans (hA i hi).2.2.2.1 (ofF_a hn5 hi (a := 2) (by decide)).symm)⟩)
set_option maxRecDepth 100000 in
set_option maxHeartbeats 4000000 in
theorem gxoh3_X10_of {nh : Nat} {D : xM} {t : Option zL} {S : Nat → Int32} {i : Nat} {l : Launch} {G : xG} {M : xM} {J : xJ} (hI : InvR M) (hWG : WG nh D S) (hG : RG M nh D t S) (hi : i < nh) : x_M l G fX10_of 2 0 0 [.ref (62), .int (nI (i)), .int (3)] x_SH M J (qPI M J (fun r => r = ofF nh D S (M 75) (M 76) (nI (i)) (3))) := by
  refine xb_of pX10 (Nat.le_of_ble_eq_true rfl) rfl ?_
  obtain ⟨⟨hn, h_hn, e_hn, hw⟩, hbt, ⟨un, wn, h_uw, h_wn, e_un, e_wn⟩, hch, ⟨n, h_n, e_n⟩, htx, ⟨b, h_b, e_b⟩, hkd, ⟨ra, h_ra, e_ra⟩, hsl, ⟨ic, h_ic, e_ic⟩, hS⟩ := hI
  obtain ⟨hn5, hW, hrub, hbeat⟩ := hWG
  obtain ⟨hGn, hA, hL, e_nw, e_rub, e_bt, e_ph, e_st, e_kn, e_pu, e_lf⟩ := hG
  obtain rfl : nh = hn := (nI_eq (by omega) (by omega)).mp (hGn.symm.trans e_hn)
  have hbt2 : ¬ S 2 = 0 := ne2_0 hbeat.1
  refine xr_iload_n dX10_of_0 2 rfl ?_
  refine xr_i2l dX10_of_1 ?_
  refine xb_topJ (y := 3) (by decide) ?_
  refine xr_lconst (v := 0) dX10_of_2 rfl ?_
  refine xr_ldc2 coX10_129 dX10_of_3 ?_
  refine xb_cS (As := [.long (3), .long (0), .long (5)]) (rest := []) mlX10_101 (c_X10_within 3 0 5) dX10_of_6 rfl rfl (Nat.le_of_ble_eq_true rfl) (by decide) (by decide) ?_
  refine xb_beq (tgt := 75) dX10_of_9 rfl (fun c => absurd (by decide) c) (fun _ => ?_)
  refine xr_aload_n dX10_of_12 0 rfl ?_
  refine xr_iload_n dX10_of_13 1 rfl ?_
  refine xb_cV (As := [.int (nI (i))]) (rest := []) mlX10_133 (c_X10_isHoop (nI (i)) (by omega) e_hn) dX10_of_14 s_62 rfl rfl (Nat.le_of_ble_eq_true rfl) (by decide) (by decide) ?_
  refine xb_bne (tgt := 23) dX10_of_17 rfl (fun _ => ?_) (fun c => absurd ⟨nI_pos' (by omega), nI_lt (a := i) (b := nh) (by omega) (by omega)⟩ c)
  refine xr_iload_n dX10_of_23 2 rfl ?_
  refine xr_iconst (v := 3) dX10_of_24 rfl ?_
  refine xr_icmp_ge (tgt := 41) dX10_of_25 rfl (fun _ => ?_) (fun c => absurd (by decide) c)
  refine xr_iload_n dX10_of_41 2 rfl ?_
  refine xr_iconst (v := 3) dX10_of_42 rfl ?_
  refine xr_icmp_ne (tgt := 55) dX10_of_43 rfl (fun c => absurd (by decide) c) (fun _ => ?_)
  refine xr_aload_n dX10_of_46 0 rfl ?_
  refine xr_getR flX10_22 dX10_of_47 s_62 rfl ?_
  refine xr_iload_n dX10_of_50 1 rfl ?_
  refine xb_iald (j := i) (v := M 67 i) dX10_of_51 s_67 (by omega) (by decide) rfl ?_
  refine xr_goto (tgt := 74) dX10_of_52 rfl ?_
  exact xr_iret dX10_of_74 rfl rfl (⟨_, rfl, rfl, rfl, rfl, (Eq.trans (hA i hi).2.2.1 (ofF_a hn5 hi (a := 3) (by decide)).symm)⟩)
set_option maxRecDepth 100000 in
set_option maxHeartbeats 4000000 in
theorem gxoh4_X10_of {nh : Nat} {D : xM} {t : Option zL} {S : Nat → Int32} {i : Nat} {l : Launch} {G : xG} {M : xM} {J : xJ} (hI : InvR M) (hWG : WG nh D S) (hG : RG M nh D t S) (hi : i < nh) : x_M l G fX10_of 2 0 0 [.ref (62), .int (nI (i)), .int (4)] x_SH M J (qPI M J (fun r => r = ofF nh D S (M 75) (M 76) (nI (i)) (4))) := by
  refine xb_of pX10 (Nat.le_of_ble_eq_true rfl) rfl ?_
  obtain ⟨⟨hn, h_hn, e_hn, hw⟩, hbt, ⟨un, wn, h_uw, h_wn, e_un, e_wn⟩, hch, ⟨n, h_n, e_n⟩, htx, ⟨b, h_b, e_b⟩, hkd, ⟨ra, h_ra, e_ra⟩, hsl, ⟨ic, h_ic, e_ic⟩, hS⟩ := hI
  obtain ⟨hn5, hW, hrub, hbeat⟩ := hWG
  obtain ⟨hGn, hA, hL, e_nw, e_rub, e_bt, e_ph, e_st, e_kn, e_pu, e_lf⟩ := hG
  obtain rfl : nh = hn := (nI_eq (by omega) (by omega)).mp (hGn.symm.trans e_hn)
  have hbt2 : ¬ S 2 = 0 := ne2_0 hbeat.1
  refine xr_iload_n dX10_of_0 2 rfl ?_
  refine xr_i2l dX10_of_1 ?_
  refine xb_topJ (y := 4) (by decide) ?_
  refine xr_lconst (v := 0) dX10_of_2 rfl ?_
  refine xr_ldc2 coX10_129 dX10_of_3 ?_
  refine xb_cS (As := [.long (4), .long (0), .long (5)]) (rest := []) mlX10_101 (c_X10_within 4 0 5) dX10_of_6 rfl rfl (Nat.le_of_ble_eq_true rfl) (by decide) (by decide) ?_
  refine xb_beq (tgt := 75) dX10_of_9 rfl (fun c => absurd (by decide) c) (fun _ => ?_)
  refine xr_aload_n dX10_of_12 0 rfl ?_
  refine xr_iload_n dX10_of_13 1 rfl ?_
  refine xb_cV (As := [.int (nI (i))]) (rest := []) mlX10_133 (c_X10_isHoop (nI (i)) (by omega) e_hn) dX10_of_14 s_62 rfl rfl (Nat.le_of_ble_eq_true rfl) (by decide) (by decide) ?_
  refine xb_bne (tgt := 23) dX10_of_17 rfl (fun _ => ?_) (fun c => absurd ⟨nI_pos' (by omega), nI_lt (a := i) (b := nh) (by omega) (by omega)⟩ c)
  refine xr_iload_n dX10_of_23 2 rfl ?_
  refine xr_iconst (v := 3) dX10_of_24 rfl ?_
  refine xr_icmp_ge (tgt := 41) dX10_of_25 rfl (fun _ => ?_) (fun c => absurd (by decide) c)
  refine xr_iload_n dX10_of_41 2 rfl ?_
  refine xr_iconst (v := 3) dX10_of_42 rfl ?_
  refine xr_icmp_ne (tgt := 55) dX10_of_43 rfl (fun _ => ?_) (fun c => absurd c (by decide))
  refine xr_iload_n dX10_of_55 2 rfl ?_
  refine xr_iconst (v := 4) dX10_of_56 rfl ?_
  refine xr_icmp_ne (tgt := 69) dX10_of_57 rfl (fun c => absurd (by decide) c) (fun _ => ?_)
  refine xr_aload_n dX10_of_60 0 rfl ?_
  refine xr_getR flX10_25 dX10_of_61 s_62 rfl ?_
  refine xr_iload_n dX10_of_64 1 rfl ?_
  refine xb_iald (j := i) (v := M 68 i) dX10_of_65 s_68 (by omega) (by decide) rfl ?_
  refine xr_goto (tgt := 74) dX10_of_66 rfl ?_
  exact xr_iret dX10_of_74 rfl rfl (⟨_, rfl, rfl, rfl, rfl, (Eq.trans (hA i hi).2.2.2.2 (ofF_a hn5 hi (a := 4) (by decide)).symm)⟩)
set_option maxRecDepth 100000 in
set_option maxHeartbeats 4000000 in
theorem gxoh5_X10_of {nh : Nat} {D : xM} {t : Option zL} {S : Nat → Int32} {i : Nat} {l : Launch} {G : xG} {M : xM} {J : xJ} (hI : InvR M) (hWG : WG nh D S) (hG : RG M nh D t S) (hi : i < nh) : x_M l G fX10_of 2 0 0 [.ref (62), .int (nI (i)), .int (5)] x_SH M J (qPI M J (fun r => r = ofF nh D S (M 75) (M 76) (nI (i)) (5))) := by
  refine xb_of pX10 (Nat.le_of_ble_eq_true rfl) rfl ?_
  obtain ⟨⟨hn, h_hn, e_hn, hw⟩, hbt, ⟨un, wn, h_uw, h_wn, e_un, e_wn⟩, hch, ⟨n, h_n, e_n⟩, htx, ⟨b, h_b, e_b⟩, hkd, ⟨ra, h_ra, e_ra⟩, hsl, ⟨ic, h_ic, e_ic⟩, hS⟩ := hI
  obtain ⟨hn5, hW, hrub, hbeat⟩ := hWG
  obtain ⟨hGn, hA, hL, e_nw, e_rub, e_bt, e_ph, e_st, e_kn, e_pu, e_lf⟩ := hG
  obtain rfl : nh = hn := (nI_eq (by omega) (by omega)).mp (hGn.symm.trans e_hn)
  have hbt2 : ¬ S 2 = 0 := ne2_0 hbeat.1
  refine xr_iload_n dX10_of_0 2 rfl ?_
  refine xr_i2l dX10_of_1 ?_
  refine xb_topJ (y := 5) (by decide) ?_
  refine xr_lconst (v := 0) dX10_of_2 rfl ?_
  refine xr_ldc2 coX10_129 dX10_of_3 ?_
  refine xb_cS (As := [.long (5), .long (0), .long (5)]) (rest := []) mlX10_101 (c_X10_within 5 0 5) dX10_of_6 rfl rfl (Nat.le_of_ble_eq_true rfl) (by decide) (by decide) ?_
  refine xb_beq (tgt := 75) dX10_of_9 rfl (fun c => absurd (by decide) c) (fun _ => ?_)
  refine xr_aload_n dX10_of_12 0 rfl ?_
  refine xr_iload_n dX10_of_13 1 rfl ?_
  refine xb_cV (As := [.int (nI (i))]) (rest := []) mlX10_133 (c_X10_isHoop (nI (i)) (by omega) e_hn) dX10_of_14 s_62 rfl rfl (Nat.le_of_ble_eq_true rfl) (by decide) (by decide) ?_
  refine xb_bne (tgt := 23) dX10_of_17 rfl (fun _ => ?_) (fun c => absurd ⟨nI_pos' (by omega), nI_lt (a := i) (b := nh) (by omega) (by omega)⟩ c)
  refine xr_iload_n dX10_of_23 2 rfl ?_
  refine xr_iconst (v := 3) dX10_of_24 rfl ?_
  refine xr_icmp_ge (tgt := 41) dX10_of_25 rfl (fun _ => ?_) (fun c => absurd (by decide) c)
  refine xr_iload_n dX10_of_41 2 rfl ?_
  refine xr_iconst (v := 3) dX10_of_42 rfl ?_
  refine xr_icmp_ne (tgt := 55) dX10_of_43 rfl (fun _ => ?_) (fun c => absurd c (by decide))
  refine xr_iload_n dX10_of_55 2 rfl ?_
  refine xr_iconst (v := 4) dX10_of_56 rfl ?_
  refine xr_icmp_ne (tgt := 69) dX10_of_57 rfl (fun _ => ?_) (fun c => absurd c (by decide))
  refine xr_aload_n dX10_of_69 0 rfl ?_
  refine xr_iload_n dX10_of_70 1 rfl ?_
  refine xb_cV (As := [.int (nI (i))]) (rest := []) mlX10_145 (cw_X10_needOf (h := i) (by omega)) dX10_of_71 s_62 rfl rfl (Nat.le_of_ble_eq_true rfl) (by decide) (by decide) ?_
  exact xr_iret dX10_of_74 rfl rfl (⟨_, rfl, rfl, rfl, rfl, (Eq.trans (congrArg w_need (hA i hi).1) (ofF_a hn5 hi (a := 5) (by decide)).symm)⟩)
set_option maxRecDepth 100000 in
set_option maxHeartbeats 4000000 in
theorem gxos10_X10_of {nh : Nat} {D : xM} {t : Option zL} {S : Nat → Int32} {l : Launch} {G : xG} {M : xM} {J : xJ} (hI : InvR M) (hWG : WG nh D S) (hG : RG M nh D t S) : x_M l G fX10_of 2 0 0 [.ref (62), .int (0), .int (10)] x_SH M J (qPI M J (fun r => r = ofF nh D S (M 75) (M 76) (0) (10))) := by
  refine xb_of pX10 (Nat.le_of_ble_eq_true rfl) rfl ?_
  obtain ⟨⟨hn, h_hn, e_hn, hw⟩, hbt, ⟨un, wn, h_uw, h_wn, e_un, e_wn⟩, hch, ⟨n, h_n, e_n⟩, htx, ⟨b, h_b, e_b⟩, hkd, ⟨ra, h_ra, e_ra⟩, hsl, ⟨ic, h_ic, e_ic⟩, hS⟩ := hI
  obtain ⟨hn5, hW, hrub, hbeat⟩ := hWG
  obtain ⟨hGn, hA, hL, e_nw, e_rub, e_bt, e_ph, e_st, e_kn, e_pu, e_lf⟩ := hG
  obtain rfl : nh = hn := (nI_eq (by omega) (by omega)).mp (hGn.symm.trans e_hn)
  have hbt2 : ¬ S 2 = 0 := ne2_0 hbeat.1
  refine xr_iload_n dX10_of_0 2 rfl ?_
  refine xr_i2l dX10_of_1 ?_
  refine xb_topJ (y := 10) (by decide) ?_
  refine xr_lconst (v := 0) dX10_of_2 rfl ?_
  refine xr_ldc2 coX10_129 dX10_of_3 ?_
  refine xb_cS (As := [.long (10), .long (0), .long (5)]) (rest := []) mlX10_101 (c_X10_within 10 0 5) dX10_of_6 rfl rfl (Nat.le_of_ble_eq_true rfl) (by decide) (by decide) ?_
  refine xb_beq (tgt := 75) dX10_of_9 rfl (fun _ => ?_) (fun c => absurd c (by decide))
  refine xr_iload_n dX10_of_75 2 rfl ?_
  refine xr_i2l dX10_of_76 ?_
  refine xb_topJ (y := 10) (by decide) ?_
  refine xr_ldc2 coX10_97 dX10_of_77 ?_
  refine xr_ldc2 coX10_149 dX10_of_80 ?_
  refine xb_cS (As := [.long (10), .long (10), .long (15)]) (rest := []) mlX10_101 (c_X10_within 10 10 15) dX10_of_83 rfl rfl (Nat.le_of_ble_eq_true rfl) (by decide) (by decide) ?_
  refine xb_beq (tgt := 124) dX10_of_86 rfl (fun c => absurd (by decide) c) (fun _ => ?_)
  refine xr_iload_n dX10_of_89 1 rfl ?_
  refine xr_if_eq (tgt := 98) dX10_of_90 rfl (fun _ => ?_) (fun c => absurd (by decide) c)
  refine xr_iload_n dX10_of_98 2 rfl ?_
  refine xr_bipush (v := 15) dX10_of_99 rfl ?_
  refine xr_icmp_ne (tgt := 111) dX10_of_101 rfl (fun _ => ?_) (fun c => absurd c (by decide))
  refine xr_aload_n dX10_of_111 0 rfl ?_
  refine xr_getR flX10_9 dX10_of_112 s_62 rfl ?_
  refine xr_bipush (v := 15) dX10_of_115 rfl ?_
  refine xr_iload_n dX10_of_117 2 rfl ?_
  refine xr_iadd dX10_of_118 ?_
  refine xb_top (y := 25) (by decide) ?_
  refine xr_bipush (v := 10) dX10_of_119 rfl ?_
  refine xr_isub dX10_of_121 ?_
  refine xb_top (y := 15) (by decide) ?_
  refine xb_iald (j := 15) (v := (S 1)) dX10_of_122 s_63 (by decide) (by decide) e_rub ?_
  exact xr_iret dX10_of_123 rfl rfl (⟨_, rfl, rfl, rfl, rfl, (ofF_b (a := 10) (by decide) (by decide)).symm⟩)
set_option maxRecDepth 100000 in
set_option maxHeartbeats 4000000 in
theorem gxos11_X10_of {nh : Nat} {D : xM} {t : Option zL} {S : Nat → Int32} {l : Launch} {G : xG} {M : xM} {J : xJ} (hI : InvR M) (hWG : WG nh D S) (hG : RG M nh D t S) : x_M l G fX10_of 2 0 0 [.ref (62), .int (0), .int (11)] x_SH M J (qPI M J (fun r => r = ofF nh D S (M 75) (M 76) (0) (11))) := by
  refine xb_of pX10 (Nat.le_of_ble_eq_true rfl) rfl ?_
  obtain ⟨⟨hn, h_hn, e_hn, hw⟩, hbt, ⟨un, wn, h_uw, h_wn, e_un, e_wn⟩, hch, ⟨n, h_n, e_n⟩, htx, ⟨b, h_b, e_b⟩, hkd, ⟨ra, h_ra, e_ra⟩, hsl, ⟨ic, h_ic, e_ic⟩, hS⟩ := hI
  obtain ⟨hn5, hW, hrub, hbeat⟩ := hWG
  obtain ⟨hGn, hA, hL, e_nw, e_rub, e_bt, e_ph, e_st, e_kn, e_pu, e_lf⟩ := hG
  obtain rfl : nh = hn := (nI_eq (by omega) (by omega)).mp (hGn.symm.trans e_hn)
  have hbt2 : ¬ S 2 = 0 := ne2_0 hbeat.1
  refine xr_iload_n dX10_of_0 2 rfl ?_
  refine xr_i2l dX10_of_1 ?_
  refine xb_topJ (y := 11) (by decide) ?_
  refine xr_lconst (v := 0) dX10_of_2 rfl ?_
  refine xr_ldc2 coX10_129 dX10_of_3 ?_
  refine xb_cS (As := [.long (11), .long (0), .long (5)]) (rest := []) mlX10_101 (c_X10_within 11 0 5) dX10_of_6 rfl rfl (Nat.le_of_ble_eq_true rfl) (by decide) (by decide) ?_
  refine xb_beq (tgt := 75) dX10_of_9 rfl (fun _ => ?_) (fun c => absurd c (by decide))
  refine xr_iload_n dX10_of_75 2 rfl ?_
  refine xr_i2l dX10_of_76 ?_
  refine xb_topJ (y := 11) (by decide) ?_
  refine xr_ldc2 coX10_97 dX10_of_77 ?_
  refine xr_ldc2 coX10_149 dX10_of_80 ?_
  refine xb_cS (As := [.long (11), .long (10), .long (15)]) (rest := []) mlX10_101 (c_X10_within 11 10 15) dX10_of_83 rfl rfl (Nat.le_of_ble_eq_true rfl) (by decide) (by decide) ?_
  refine xb_beq (tgt := 124) dX10_of_86 rfl (fun c => absurd (by decide) c) (fun _ => ?_)
  refine xr_iload_n dX10_of_89 1 rfl ?_
  refine xr_if_eq (tgt := 98) dX10_of_90 rfl (fun _ => ?_) (fun c => absurd (by decide) c)
  refine xr_iload_n dX10_of_98 2 rfl ?_
  refine xr_bipush (v := 15) dX10_of_99 rfl ?_
  refine xr_icmp_ne (tgt := 111) dX10_of_101 rfl (fun _ => ?_) (fun c => absurd c (by decide))
  refine xr_aload_n dX10_of_111 0 rfl ?_
  refine xr_getR flX10_9 dX10_of_112 s_62 rfl ?_
  refine xr_bipush (v := 15) dX10_of_115 rfl ?_
  refine xr_iload_n dX10_of_117 2 rfl ?_
  refine xr_iadd dX10_of_118 ?_
  refine xb_top (y := 26) (by decide) ?_
  refine xr_bipush (v := 10) dX10_of_119 rfl ?_
  refine xr_isub dX10_of_121 ?_
  refine xb_top (y := 16) (by decide) ?_
  refine xb_iald (j := 16) (v := (S 2)) dX10_of_122 s_63 (by decide) (by decide) e_bt ?_
  exact xr_iret dX10_of_123 rfl rfl (⟨_, rfl, rfl, rfl, rfl, (ofF_b (a := 11) (by decide) (by decide)).symm⟩)
set_option maxRecDepth 100000 in
set_option maxHeartbeats 4000000 in
theorem gxos12_X10_of {nh : Nat} {D : xM} {t : Option zL} {S : Nat → Int32} {l : Launch} {G : xG} {M : xM} {J : xJ} (hI : InvR M) (hWG : WG nh D S) (hG : RG M nh D t S) : x_M l G fX10_of 2 0 0 [.ref (62), .int (0), .int (12)] x_SH M J (qPI M J (fun r => r = ofF nh D S (M 75) (M 76) (0) (12))) := by
  refine xb_of pX10 (Nat.le_of_ble_eq_true rfl) rfl ?_
  obtain ⟨⟨hn, h_hn, e_hn, hw⟩, hbt, ⟨un, wn, h_uw, h_wn, e_un, e_wn⟩, hch, ⟨n, h_n, e_n⟩, htx, ⟨b, h_b, e_b⟩, hkd, ⟨ra, h_ra, e_ra⟩, hsl, ⟨ic, h_ic, e_ic⟩, hS⟩ := hI
  obtain ⟨hn5, hW, hrub, hbeat⟩ := hWG
  obtain ⟨hGn, hA, hL, e_nw, e_rub, e_bt, e_ph, e_st, e_kn, e_pu, e_lf⟩ := hG
  obtain rfl : nh = hn := (nI_eq (by omega) (by omega)).mp (hGn.symm.trans e_hn)
  have hbt2 : ¬ S 2 = 0 := ne2_0 hbeat.1
  refine xr_iload_n dX10_of_0 2 rfl ?_
  refine xr_i2l dX10_of_1 ?_
  refine xb_topJ (y := 12) (by decide) ?_
  refine xr_lconst (v := 0) dX10_of_2 rfl ?_
  refine xr_ldc2 coX10_129 dX10_of_3 ?_
  refine xb_cS (As := [.long (12), .long (0), .long (5)]) (rest := []) mlX10_101 (c_X10_within 12 0 5) dX10_of_6 rfl rfl (Nat.le_of_ble_eq_true rfl) (by decide) (by decide) ?_
  refine xb_beq (tgt := 75) dX10_of_9 rfl (fun _ => ?_) (fun c => absurd c (by decide))
  refine xr_iload_n dX10_of_75 2 rfl ?_
  refine xr_i2l dX10_of_76 ?_
  refine xb_topJ (y := 12) (by decide) ?_
  refine xr_ldc2 coX10_97 dX10_of_77 ?_
  refine xr_ldc2 coX10_149 dX10_of_80 ?_
  refine xb_cS (As := [.long (12), .long (10), .long (15)]) (rest := []) mlX10_101 (c_X10_within 12 10 15) dX10_of_83 rfl rfl (Nat.le_of_ble_eq_true rfl) (by decide) (by decide) ?_
  refine xb_beq (tgt := 124) dX10_of_86 rfl (fun c => absurd (by decide) c) (fun _ => ?_)
  refine xr_iload_n dX10_of_89 1 rfl ?_
  refine xr_if_eq (tgt := 98) dX10_of_90 rfl (fun _ => ?_) (fun c => absurd (by decide) c)
  refine xr_iload_n dX10_of_98 2 rfl ?_
  refine xr_bipush (v := 15) dX10_of_99 rfl ?_
  refine xr_icmp_ne (tgt := 111) dX10_of_101 rfl (fun _ => ?_) (fun c => absurd c (by decide))
  refine xr_aload_n dX10_of_111 0 rfl ?_
  refine xr_getR flX10_9 dX10_of_112 s_62 rfl ?_
  refine xr_bipush (v := 15) dX10_of_115 rfl ?_
  refine xr_iload_n dX10_of_117 2 rfl ?_
  refine xr_iadd dX10_of_118 ?_
  refine xb_top (y := 27) (by decide) ?_
  refine xr_bipush (v := 10) dX10_of_119 rfl ?_
  refine xr_isub dX10_of_121 ?_
  refine xb_top (y := 17) (by decide) ?_
  refine xb_iald (j := 17) (v := (S 3)) dX10_of_122 s_63 (by decide) (by decide) e_ph ?_
  exact xr_iret dX10_of_123 rfl rfl (⟨_, rfl, rfl, rfl, rfl, (ofF_b (a := 12) (by decide) (by decide)).symm⟩)
set_option maxRecDepth 100000 in
set_option maxHeartbeats 4000000 in
theorem gxos13_X10_of {nh : Nat} {D : xM} {t : Option zL} {S : Nat → Int32} {l : Launch} {G : xG} {M : xM} {J : xJ} (hI : InvR M) (hWG : WG nh D S) (hG : RG M nh D t S) : x_M l G fX10_of 2 0 0 [.ref (62), .int (0), .int (13)] x_SH M J (qPI M J (fun r => r = ofF nh D S (M 75) (M 76) (0) (13))) := by
  refine xb_of pX10 (Nat.le_of_ble_eq_true rfl) rfl ?_
  obtain ⟨⟨hn, h_hn, e_hn, hw⟩, hbt, ⟨un, wn, h_uw, h_wn, e_un, e_wn⟩, hch, ⟨n, h_n, e_n⟩, htx, ⟨b, h_b, e_b⟩, hkd, ⟨ra, h_ra, e_ra⟩, hsl, ⟨ic, h_ic, e_ic⟩, hS⟩ := hI
  obtain ⟨hn5, hW, hrub, hbeat⟩ := hWG
  obtain ⟨hGn, hA, hL, e_nw, e_rub, e_bt, e_ph, e_st, e_kn, e_pu, e_lf⟩ := hG
  obtain rfl : nh = hn := (nI_eq (by omega) (by omega)).mp (hGn.symm.trans e_hn)
  have hbt2 : ¬ S 2 = 0 := ne2_0 hbeat.1
  refine xr_iload_n dX10_of_0 2 rfl ?_
  refine xr_i2l dX10_of_1 ?_
  refine xb_topJ (y := 13) (by decide) ?_
  refine xr_lconst (v := 0) dX10_of_2 rfl ?_
  refine xr_ldc2 coX10_129 dX10_of_3 ?_
  refine xb_cS (As := [.long (13), .long (0), .long (5)]) (rest := []) mlX10_101 (c_X10_within 13 0 5) dX10_of_6 rfl rfl (Nat.le_of_ble_eq_true rfl) (by decide) (by decide) ?_
  refine xb_beq (tgt := 75) dX10_of_9 rfl (fun _ => ?_) (fun c => absurd c (by decide))
  refine xr_iload_n dX10_of_75 2 rfl ?_
  refine xr_i2l dX10_of_76 ?_
  refine xb_topJ (y := 13) (by decide) ?_
  refine xr_ldc2 coX10_97 dX10_of_77 ?_
  refine xr_ldc2 coX10_149 dX10_of_80 ?_
  refine xb_cS (As := [.long (13), .long (10), .long (15)]) (rest := []) mlX10_101 (c_X10_within 13 10 15) dX10_of_83 rfl rfl (Nat.le_of_ble_eq_true rfl) (by decide) (by decide) ?_
  refine xb_beq (tgt := 124) dX10_of_86 rfl (fun c => absurd (by decide) c) (fun _ => ?_)
  refine xr_iload_n dX10_of_89 1 rfl ?_
  refine xr_if_eq (tgt := 98) dX10_of_90 rfl (fun _ => ?_) (fun c => absurd (by decide) c)
  refine xr_iload_n dX10_of_98 2 rfl ?_
  refine xr_bipush (v := 15) dX10_of_99 rfl ?_
  refine xr_icmp_ne (tgt := 111) dX10_of_101 rfl (fun _ => ?_) (fun c => absurd c (by decide))
  refine xr_aload_n dX10_of_111 0 rfl ?_
  refine xr_getR flX10_9 dX10_of_112 s_62 rfl ?_
  refine xr_bipush (v := 15) dX10_of_115 rfl ?_
  refine xr_iload_n dX10_of_117 2 rfl ?_
  refine xr_iadd dX10_of_118 ?_
  refine xb_top (y := 28) (by decide) ?_
  refine xr_bipush (v := 10) dX10_of_119 rfl ?_
  refine xr_isub dX10_of_121 ?_
  refine xb_top (y := 18) (by decide) ?_
  refine xb_iald (j := 18) (v := (S 4)) dX10_of_122 s_63 (by decide) (by decide) e_st ?_
  exact xr_iret dX10_of_123 rfl rfl (⟨_, rfl, rfl, rfl, rfl, (ofF_b (a := 13) (by decide) (by decide)).symm⟩)
set_option maxRecDepth 100000 in
set_option maxHeartbeats 4000000 in
theorem gxos14_X10_of {nh : Nat} {D : xM} {t : Option zL} {S : Nat → Int32} {l : Launch} {G : xG} {M : xM} {J : xJ} (hI : InvR M) (hWG : WG nh D S) (hG : RG M nh D t S) : x_M l G fX10_of 2 0 0 [.ref (62), .int (0), .int (14)] x_SH M J (qPI M J (fun r => r = ofF nh D S (M 75) (M 76) (0) (14))) := by
  refine xb_of pX10 (Nat.le_of_ble_eq_true rfl) rfl ?_
  obtain ⟨⟨hn, h_hn, e_hn, hw⟩, hbt, ⟨un, wn, h_uw, h_wn, e_un, e_wn⟩, hch, ⟨n, h_n, e_n⟩, htx, ⟨b, h_b, e_b⟩, hkd, ⟨ra, h_ra, e_ra⟩, hsl, ⟨ic, h_ic, e_ic⟩, hS⟩ := hI
  obtain ⟨hn5, hW, hrub, hbeat⟩ := hWG
  obtain ⟨hGn, hA, hL, e_nw, e_rub, e_bt, e_ph, e_st, e_kn, e_pu, e_lf⟩ := hG
  obtain rfl : nh = hn := (nI_eq (by omega) (by omega)).mp (hGn.symm.trans e_hn)
  have hbt2 : ¬ S 2 = 0 := ne2_0 hbeat.1
  refine xr_iload_n dX10_of_0 2 rfl ?_
  refine xr_i2l dX10_of_1 ?_
  refine xb_topJ (y := 14) (by decide) ?_
  refine xr_lconst (v := 0) dX10_of_2 rfl ?_
  refine xr_ldc2 coX10_129 dX10_of_3 ?_
  refine xb_cS (As := [.long (14), .long (0), .long (5)]) (rest := []) mlX10_101 (c_X10_within 14 0 5) dX10_of_6 rfl rfl (Nat.le_of_ble_eq_true rfl) (by decide) (by decide) ?_
  refine xb_beq (tgt := 75) dX10_of_9 rfl (fun _ => ?_) (fun c => absurd c (by decide))
  refine xr_iload_n dX10_of_75 2 rfl ?_
  refine xr_i2l dX10_of_76 ?_
  refine xb_topJ (y := 14) (by decide) ?_
  refine xr_ldc2 coX10_97 dX10_of_77 ?_
  refine xr_ldc2 coX10_149 dX10_of_80 ?_
  refine xb_cS (As := [.long (14), .long (10), .long (15)]) (rest := []) mlX10_101 (c_X10_within 14 10 15) dX10_of_83 rfl rfl (Nat.le_of_ble_eq_true rfl) (by decide) (by decide) ?_
  refine xb_beq (tgt := 124) dX10_of_86 rfl (fun c => absurd (by decide) c) (fun _ => ?_)
  refine xr_iload_n dX10_of_89 1 rfl ?_
  refine xr_if_eq (tgt := 98) dX10_of_90 rfl (fun _ => ?_) (fun c => absurd (by decide) c)
  refine xr_iload_n dX10_of_98 2 rfl ?_
  refine xr_bipush (v := 15) dX10_of_99 rfl ?_
  refine xr_icmp_ne (tgt := 111) dX10_of_101 rfl (fun _ => ?_) (fun c => absurd c (by decide))
  refine xr_aload_n dX10_of_111 0 rfl ?_
  refine xr_getR flX10_9 dX10_of_112 s_62 rfl ?_
  refine xr_bipush (v := 15) dX10_of_115 rfl ?_
  refine xr_iload_n dX10_of_117 2 rfl ?_
  refine xr_iadd dX10_of_118 ?_
  refine xb_top (y := 29) (by decide) ?_
  refine xr_bipush (v := 10) dX10_of_119 rfl ?_
  refine xr_isub dX10_of_121 ?_
  refine xb_top (y := 19) (by decide) ?_
  refine xb_iald (j := 19) (v := (S 5)) dX10_of_122 s_63 (by decide) (by decide) e_kn ?_
  exact xr_iret dX10_of_123 rfl rfl (⟨_, rfl, rfl, rfl, rfl, (ofF_b (a := 14) (by decide) (by decide)).symm⟩)
set_option maxRecDepth 100000 in
set_option maxHeartbeats 4000000 in
theorem gxos15_X10_of {nh : Nat} {D : xM} {t : Option zL} {S : Nat → Int32} {l : Launch} {G : xG} {M : xM} {J : xJ} (hI : InvR M) (hWG : WG nh D S) (hG : RG M nh D t S) : x_M l G fX10_of 2 0 0 [.ref (62), .int (0), .int (15)] x_SH M J (qPI M J (fun r => r = ofF nh D S (M 75) (M 76) (0) (15))) := by
  refine xb_of pX10 (Nat.le_of_ble_eq_true rfl) rfl ?_
  obtain ⟨⟨hn, h_hn, e_hn, hw⟩, hbt, ⟨un, wn, h_uw, h_wn, e_un, e_wn⟩, hch, ⟨n, h_n, e_n⟩, htx, ⟨b, h_b, e_b⟩, hkd, ⟨ra, h_ra, e_ra⟩, hsl, ⟨ic, h_ic, e_ic⟩, hS⟩ := hI
  obtain ⟨hn5, hW, hrub, hbeat⟩ := hWG
  obtain ⟨hGn, hA, hL, e_nw, e_rub, e_bt, e_ph, e_st, e_kn, e_pu, e_lf⟩ := hG
  obtain rfl : nh = hn := (nI_eq (by omega) (by omega)).mp (hGn.symm.trans e_hn)
  have hbt2 : ¬ S 2 = 0 := ne2_0 hbeat.1
  refine xr_iload_n dX10_of_0 2 rfl ?_
  refine xr_i2l dX10_of_1 ?_
  refine xb_topJ (y := 15) (by decide) ?_
  refine xr_lconst (v := 0) dX10_of_2 rfl ?_
  refine xr_ldc2 coX10_129 dX10_of_3 ?_
  refine xb_cS (As := [.long (15), .long (0), .long (5)]) (rest := []) mlX10_101 (c_X10_within 15 0 5) dX10_of_6 rfl rfl (Nat.le_of_ble_eq_true rfl) (by decide) (by decide) ?_
  refine xb_beq (tgt := 75) dX10_of_9 rfl (fun _ => ?_) (fun c => absurd c (by decide))
  refine xr_iload_n dX10_of_75 2 rfl ?_
  refine xr_i2l dX10_of_76 ?_
  refine xb_topJ (y := 15) (by decide) ?_
  refine xr_ldc2 coX10_97 dX10_of_77 ?_
  refine xr_ldc2 coX10_149 dX10_of_80 ?_
  refine xb_cS (As := [.long (15), .long (10), .long (15)]) (rest := []) mlX10_101 (c_X10_within 15 10 15) dX10_of_83 rfl rfl (Nat.le_of_ble_eq_true rfl) (by decide) (by decide) ?_
  refine xb_beq (tgt := 124) dX10_of_86 rfl (fun c => absurd (by decide) c) (fun _ => ?_)
  refine xr_iload_n dX10_of_89 1 rfl ?_
  refine xr_if_eq (tgt := 98) dX10_of_90 rfl (fun _ => ?_) (fun c => absurd (by decide) c)
  refine xr_iload_n dX10_of_98 2 rfl ?_
  refine xr_bipush (v := 15) dX10_of_99 rfl ?_
  refine xr_icmp_ne (tgt := 111) dX10_of_101 rfl (fun c => absurd (by decide) c) (fun _ => ?_)
  refine xr_aload_n dX10_of_104 0 rfl ?_
  refine xb_get (v := (S 0)) flX10_151 dX10_of_105 s_62 rfl e_nw ?_
  refine xr_goto (tgt := 123) dX10_of_108 rfl ?_
  exact xr_iret dX10_of_123 rfl rfl (⟨_, rfl, rfl, rfl, rfl, (ofF_b (a := 15) (by decide) (by decide)).symm⟩)
set_option maxRecDepth 100000 in
set_option maxHeartbeats 4000000 in
theorem gxog20_X10_of {nh : Nat} {D : xM} {t : Option zL} {S : Nat → Int32} {g : Nat} {l : Launch} {G : xG} {M : xM} {J : xJ} (hI : InvR M) (hWG : WG nh D S) (hG : RG M nh D t S) (hg : g < 25) : x_M l G fX10_of 2 0 0 [.ref (62), .int (nI (g)), .int (20)] x_SH M J (qPI M J (fun r => r = ofF nh D S (M 75) (M 76) (nI (g)) (20))) := by
  refine xb_of pX10 (Nat.le_of_ble_eq_true rfl) rfl ?_
  obtain ⟨⟨hn, h_hn, e_hn, hw⟩, hbt, ⟨un, wn, h_uw, h_wn, e_un, e_wn⟩, hch, ⟨n, h_n, e_n⟩, htx, ⟨b, h_b, e_b⟩, hkd, ⟨ra, h_ra, e_ra⟩, hsl, ⟨ic, h_ic, e_ic⟩, hS⟩ := hI
  obtain ⟨hn5, hW, hrub, hbeat⟩ := hWG
  obtain ⟨hGn, hA, hL, e_nw, e_rub, e_bt, e_ph, e_st, e_kn, e_pu, e_lf⟩ := hG
  obtain rfl : nh = hn := (nI_eq (by omega) (by omega)).mp (hGn.symm.trans e_hn)
  have hbt2 : ¬ S 2 = 0 := ne2_0 hbeat.1
  refine xr_iload_n dX10_of_0 2 rfl ?_
  refine xr_i2l dX10_of_1 ?_
  refine xb_topJ (y := 20) (by decide) ?_
  refine xr_lconst (v := 0) dX10_of_2 rfl ?_
  refine xr_ldc2 coX10_129 dX10_of_3 ?_
  refine xb_cS (As := [.long (20), .long (0), .long (5)]) (rest := []) mlX10_101 (c_X10_within 20 0 5) dX10_of_6 rfl rfl (Nat.le_of_ble_eq_true rfl) (by decide) (by decide) ?_
  refine xb_beq (tgt := 75) dX10_of_9 rfl (fun _ => ?_) (fun c => absurd c (by decide))
  refine xr_iload_n dX10_of_75 2 rfl ?_
  refine xr_i2l dX10_of_76 ?_
  refine xb_topJ (y := 20) (by decide) ?_
  refine xr_ldc2 coX10_97 dX10_of_77 ?_
  refine xr_ldc2 coX10_149 dX10_of_80 ?_
  refine xb_cS (As := [.long (20), .long (10), .long (15)]) (rest := []) mlX10_101 (c_X10_within 20 10 15) dX10_of_83 rfl rfl (Nat.le_of_ble_eq_true rfl) (by decide) (by decide) ?_
  refine xb_beq (tgt := 124) dX10_of_86 rfl (fun _ => ?_) (fun c => absurd c (by decide))
  refine xr_iload_n dX10_of_124 2 rfl ?_
  refine xr_i2l dX10_of_125 ?_
  refine xb_topJ (y := 20) (by decide) ?_
  refine xr_ldc2 coX10_154 dX10_of_126 ?_
  refine xr_ldc2 coX10_156 dX10_of_129 ?_
  refine xb_cS (As := [.long (20), .long (20), .long (21)]) (rest := []) mlX10_101 (c_X10_within 20 20 21) dX10_of_132 rfl rfl (Nat.le_of_ble_eq_true rfl) (by decide) (by decide) ?_
  refine xb_beq (tgt := 150) dX10_of_135 rfl (fun c => absurd (by decide) c) (fun _ => ?_)
  refine xr_iload_n dX10_of_138 1 rfl ?_
  refine xr_i2l dX10_of_139 ?_
  refine xr_lconst (v := 0) dX10_of_140 rfl ?_
  refine xr_ldc2 coX10_158 dX10_of_141 ?_
  refine xb_cS (As := [.long ((nI (g)).toInt64), .long (0), .long (24)]) (rest := []) mlX10_101 (c_within32 (nI (g)) (0) (24) (by decide) (by decide)) dX10_of_144 rfl rfl (Nat.le_of_ble_eq_true rfl) (by decide) (by decide) ?_
  refine xb_bne (tgt := 155) dX10_of_147 rfl (fun _ => ?_) (fun c => absurd ⟨nI_pos' (by omega), nI_le (a := g) (b := 24) (by omega) (by decide)⟩ c)
  refine xr_iload_n dX10_of_155 2 rfl ?_
  refine xr_bipush (v := 20) dX10_of_156 rfl ?_
  refine xr_icmp_ne (tgt := 170) dX10_of_158 rfl (fun c => absurd (by decide) c) (fun _ => ?_)
  refine xr_aload_n dX10_of_161 0 rfl ?_
  refine xr_getR flX10_50 dX10_of_162 s_62 rfl ?_
  refine xr_iload_n dX10_of_165 1 rfl ?_
  refine xb_iald (j := g) (v := M 75 g) dX10_of_166 s_75 hg (by decide) rfl ?_
  refine xr_goto (tgt := 176) dX10_of_167 rfl ?_
  exact xr_iret dX10_of_176 rfl rfl (⟨_, rfl, rfl, rfl, rfl, ((ofF_c hg).1).symm⟩)
set_option maxRecDepth 100000 in
set_option maxHeartbeats 4000000 in
theorem gxog21_X10_of {nh : Nat} {D : xM} {t : Option zL} {S : Nat → Int32} {g : Nat} {l : Launch} {G : xG} {M : xM} {J : xJ} (hI : InvR M) (hWG : WG nh D S) (hG : RG M nh D t S) (hg : g < 25) : x_M l G fX10_of 2 0 0 [.ref (62), .int (nI (g)), .int (21)] x_SH M J (qPI M J (fun r => r = ofF nh D S (M 75) (M 76) (nI (g)) (21))) := by
  refine xb_of pX10 (Nat.le_of_ble_eq_true rfl) rfl ?_
  obtain ⟨⟨hn, h_hn, e_hn, hw⟩, hbt, ⟨un, wn, h_uw, h_wn, e_un, e_wn⟩, hch, ⟨n, h_n, e_n⟩, htx, ⟨b, h_b, e_b⟩, hkd, ⟨ra, h_ra, e_ra⟩, hsl, ⟨ic, h_ic, e_ic⟩, hS⟩ := hI
  obtain ⟨hn5, hW, hrub, hbeat⟩ := hWG
  obtain ⟨hGn, hA, hL, e_nw, e_rub, e_bt, e_ph, e_st, e_kn, e_pu, e_lf⟩ := hG
  obtain rfl : nh = hn := (nI_eq (by omega) (by omega)).mp (hGn.symm.trans e_hn)
  have hbt2 : ¬ S 2 = 0 := ne2_0 hbeat.1
  refine xr_iload_n dX10_of_0 2 rfl ?_
  refine xr_i2l dX10_of_1 ?_
  refine xb_topJ (y := 21) (by decide) ?_
  refine xr_lconst (v := 0) dX10_of_2 rfl ?_
  refine xr_ldc2 coX10_129 dX10_of_3 ?_
  refine xb_cS (As := [.long (21), .long (0), .long (5)]) (rest := []) mlX10_101 (c_X10_within 21 0 5) dX10_of_6 rfl rfl (Nat.le_of_ble_eq_true rfl) (by decide) (by decide) ?_
  refine xb_beq (tgt := 75) dX10_of_9 rfl (fun _ => ?_) (fun c => absurd c (by decide))
  refine xr_iload_n dX10_of_75 2 rfl ?_
  refine xr_i2l dX10_of_76 ?_
  refine xb_topJ (y := 21) (by decide) ?_
  refine xr_ldc2 coX10_97 dX10_of_77 ?_
  refine xr_ldc2 coX10_149 dX10_of_80 ?_
  refine xb_cS (As := [.long (21), .long (10), .long (15)]) (rest := []) mlX10_101 (c_X10_within 21 10 15) dX10_of_83 rfl rfl (Nat.le_of_ble_eq_true rfl) (by decide) (by decide) ?_
  refine xb_beq (tgt := 124) dX10_of_86 rfl (fun _ => ?_) (fun c => absurd c (by decide))
  refine xr_iload_n dX10_of_124 2 rfl ?_
  refine xr_i2l dX10_of_125 ?_
  refine xb_topJ (y := 21) (by decide) ?_
  refine xr_ldc2 coX10_154 dX10_of_126 ?_
  refine xr_ldc2 coX10_156 dX10_of_129 ?_
  refine xb_cS (As := [.long (21), .long (20), .long (21)]) (rest := []) mlX10_101 (c_X10_within 21 20 21) dX10_of_132 rfl rfl (Nat.le_of_ble_eq_true rfl) (by decide) (by decide) ?_
  refine xb_beq (tgt := 150) dX10_of_135 rfl (fun c => absurd (by decide) c) (fun _ => ?_)
  refine xr_iload_n dX10_of_138 1 rfl ?_
  refine xr_i2l dX10_of_139 ?_
  refine xr_lconst (v := 0) dX10_of_140 rfl ?_
  refine xr_ldc2 coX10_158 dX10_of_141 ?_
  refine xb_cS (As := [.long ((nI (g)).toInt64), .long (0), .long (24)]) (rest := []) mlX10_101 (c_within32 (nI (g)) (0) (24) (by decide) (by decide)) dX10_of_144 rfl rfl (Nat.le_of_ble_eq_true rfl) (by decide) (by decide) ?_
  refine xb_bne (tgt := 155) dX10_of_147 rfl (fun _ => ?_) (fun c => absurd ⟨nI_pos' (by omega), nI_le (a := g) (b := 24) (by omega) (by decide)⟩ c)
  refine xr_iload_n dX10_of_155 2 rfl ?_
  refine xr_bipush (v := 20) dX10_of_156 rfl ?_
  refine xr_icmp_ne (tgt := 170) dX10_of_158 rfl (fun _ => ?_) (fun c => absurd c (by decide))
  refine xr_aload_n dX10_of_170 0 rfl ?_
  refine xr_getR flX10_53 dX10_of_171 s_62 rfl ?_
  refine xr_iload_n dX10_of_174 1 rfl ?_
  refine xb_iald (j := g) (v := M 76 g) dX10_of_175 s_76 hg (by decide) rfl ?_
  exact xr_iret dX10_of_176 rfl rfl (⟨_, rfl, rfl, rfl, rfl, ((ofF_c hg).2).symm⟩)
set_option maxRecDepth 100000 in
set_option maxHeartbeats 4000000 in
theorem gxoe_X10_of {nh : Nat} {D : xM} {t : Option zL} {S : Nat → Int32} (nu w : Int32) {l : Launch} {G : xG} {M : xM} {J : xJ} (hI : InvR M) (hWG : WG nh D S) (hG : RG M nh D t S) (h1 : ¬ ofA nh nu w) (h2 : ¬ ofB nu w) (h3 : ¬ ofC nu w) : x_M l G fX10_of 2 0 0 [.ref (62), .int (nu), .int (w)] x_SH M J (qPI M J (fun r => r = ofF nh D S (M 75) (M 76) (nu) (w))) := by
  refine xb_of pX10 (Nat.le_of_ble_eq_true rfl) rfl ?_
  obtain ⟨⟨hn, h_hn, e_hn, hw⟩, hbt, ⟨un, wn, h_uw, h_wn, e_un, e_wn⟩, hch, ⟨n, h_n, e_n⟩, htx, ⟨b, h_b, e_b⟩, hkd, ⟨ra, h_ra, e_ra⟩, hsl, ⟨ic, h_ic, e_ic⟩, hS⟩ := hI
  obtain ⟨hn5, hW, hrub, hbeat⟩ := hWG
  obtain ⟨hGn, hA, hL, e_nw, e_rub, e_bt, e_ph, e_st, e_kn, e_pu, e_lf⟩ := hG
  obtain rfl : nh = hn := (nI_eq (by omega) (by omega)).mp (hGn.symm.trans e_hn)
  have hbt2 : ¬ S 2 = 0 := ne2_0 hbeat.1
  refine xr_iload_n dX10_of_0 2 rfl ?_
  refine xr_i2l dX10_of_1 ?_
  refine xr_lconst (v := 0) dX10_of_2 rfl ?_
  refine xr_ldc2 coX10_129 dX10_of_3 ?_
  refine xb_cS (As := [.long ((w).toInt64), .long (0), .long (5)]) (rest := []) mlX10_101 (c_within32 (w) (0) (5) (by decide) (by decide)) dX10_of_6 rfl rfl (Nat.le_of_ble_eq_true rfl) (by decide) (by decide) ?_
  refine xb_beq (tgt := 75) dX10_of_9 rfl (fun c1 => ?_) (fun c1 => ?_)
  · refine xr_iload_n dX10_of_75 2 rfl ?_
    refine xr_i2l dX10_of_76 ?_
    refine xr_ldc2 coX10_97 dX10_of_77 ?_
    refine xr_ldc2 coX10_149 dX10_of_80 ?_
    refine xb_cS (As := [.long ((w).toInt64), .long (10), .long (15)]) (rest := []) mlX10_101 (c_within32 (w) (10) (15) (by decide) (by decide)) dX10_of_83 rfl rfl (Nat.le_of_ble_eq_true rfl) (by decide) (by decide) ?_
    refine xb_beq (tgt := 124) dX10_of_86 rfl (fun c2 => ?_) (fun c2 => ?_)
    · refine xr_iload_n dX10_of_124 2 rfl ?_
      refine xr_i2l dX10_of_125 ?_
      refine xr_ldc2 coX10_154 dX10_of_126 ?_
      refine xr_ldc2 coX10_156 dX10_of_129 ?_
      refine xb_cS (As := [.long ((w).toInt64), .long (20), .long (21)]) (rest := []) mlX10_101 (c_within32 (w) (20) (21) (by decide) (by decide)) dX10_of_132 rfl rfl (Nat.le_of_ble_eq_true rfl) (by decide) (by decide) ?_
      refine xb_beq (tgt := 150) dX10_of_135 rfl (fun c3 => ?_) (fun c3 => ?_)
      · refine xr_ldc coX10_140 dX10_of_150 ?_
        refine xr_goto (tgt := 176) dX10_of_152 rfl ?_
        exact xr_iret dX10_of_176 rfl rfl (⟨_, rfl, rfl, rfl, rfl, (ofF_v h1 h2 h3).symm⟩)
      · refine xr_iload_n dX10_of_138 1 rfl ?_
        refine xr_i2l dX10_of_139 ?_
        refine xr_lconst (v := 0) dX10_of_140 rfl ?_
        refine xr_ldc2 coX10_158 dX10_of_141 ?_
        refine xb_cS (As := [.long ((nu).toInt64), .long (0), .long (24)]) (rest := []) mlX10_101 (c_within32 (nu) (0) (24) (by decide) (by decide)) dX10_of_144 rfl rfl (Nat.le_of_ble_eq_true rfl) (by decide) (by decide) ?_
        refine xb_bne (tgt := 155) dX10_of_147 rfl (fun c4 => ?_) (fun c4 => ?_)
        · exact absurd ⟨c3, c4⟩ h3
        · refine xr_ldc coX10_140 dX10_of_150 ?_
          refine xr_goto (tgt := 176) dX10_of_152 rfl ?_
          exact xr_iret dX10_of_176 rfl rfl (⟨_, rfl, rfl, rfl, rfl, (ofF_v h1 h2 h3).symm⟩)
    · refine xr_iload_n dX10_of_89 1 rfl ?_
      refine xr_if_eq (tgt := 98) dX10_of_90 rfl (fun c5 => ?_) (fun c5 => ?_)
      · exact absurd ⟨c2, c5⟩ h2
      · refine xr_ldc coX10_140 dX10_of_93 ?_
        refine xr_goto (tgt := 123) dX10_of_95 rfl ?_
        exact xr_iret dX10_of_123 rfl rfl (⟨_, rfl, rfl, rfl, rfl, (ofF_v h1 h2 h3).symm⟩)
  · refine xr_aload_n dX10_of_12 0 rfl ?_
    refine xr_iload_n dX10_of_13 1 rfl ?_
    refine xb_cV (As := [.int (nu)]) (rest := []) mlX10_133 (c_X10_isHoop nu (by omega) e_hn) dX10_of_14 s_62 rfl rfl (Nat.le_of_ble_eq_true rfl) (by decide) (by decide) ?_
    refine xb_bne (tgt := 23) dX10_of_17 rfl (fun c6 => ?_) (fun c6 => ?_)
    · exact absurd ⟨c1, c6⟩ h1
    · refine xr_ldc coX10_140 dX10_of_20 ?_
      exact xr_iret dX10_of_22 rfl rfl (⟨_, rfl, rfl, rfl, rfl, (ofF_v h1 h2 h3).symm⟩)
theorem gx_X9_of (nu w : Int32) {nh : Nat} {D : xM} {t : Option zL} {S : Nat → Int32} {l : Launch} {G : xG} {M : xM} {J : xJ} (hI : InvC M) (hWG : WG nh D S) (hG : CG M nh D t S) : x_M l G fX9_of 2 0 0 [.ref 0, .int (nu), .int (w)] x_SH M J (qPI M J (fun r => r = ofF nh D S (M 36) (M 37) nu w)) := by
  by_cases h1 : ofA nh nu w
  · obtain ⟨hw, hb⟩ := h1
    obtain ⟨i, hi, rfl⟩ := x_nat (N := nh) (by have := hWG.1; omega) rfl hb
    obtain ⟨a, ha, rfl⟩ := x_natle (v := w) (N := 5) (K := 5) (by decide) (by decide) hw
    match a, ha with
    | 0, _ => exact gxoh0_X9_of hI hWG hG hi
    | 1, _ => exact gxoh1_X9_of hI hWG hG hi
    | 2, _ => exact gxoh2_X9_of hI hWG hG hi
    | 3, _ => exact gxoh3_X9_of hI hWG hG hi
    | 4, _ => exact gxoh4_X9_of hI hWG hG hi
    | 5, _ => exact gxoh5_X9_of hI hWG hG hi
  · by_cases h2 : ofB nu w
    · obtain ⟨hw, rfl⟩ := h2
      obtain ⟨a, ha, rfl⟩ := x_natle (v := w) (N := 15) (K := 15) (by decide) (by decide) ⟨Int32.le_trans (by decide) hw.1, hw.2⟩
      have h10 : 10 ≤ a := (nI_leI (a := 10) (b := a) (by decide) (by omega)).mp hw.1
      match a, ha, h10 with
      | 10, _, _ => exact gxos10_X9_of hI hWG hG
      | 11, _, _ => exact gxos11_X9_of hI hWG hG
      | 12, _, _ => exact gxos12_X9_of hI hWG hG
      | 13, _, _ => exact gxos13_X9_of hI hWG hG
      | 14, _, _ => exact gxos14_X9_of hI hWG hG
      | 15, _, _ => exact gxos15_X9_of hI hWG hG
    · by_cases h3 : ofC nu w
      · obtain ⟨hw, hg⟩ := h3
        obtain ⟨g, hg2, rfl⟩ := x_natle (v := nu) (N := 24) (K := 24) (by decide) (by decide) hg
        obtain ⟨a, ha, rfl⟩ := x_natle (v := w) (N := 21) (K := 21) (by decide) (by decide) ⟨Int32.le_trans (by decide) hw.1, hw.2⟩
        have h20 : 20 ≤ a := (nI_leI (a := 20) (b := a) (by decide) (by omega)).mp hw.1
        have h2021 : a = 20 ∨ a = 21 := by omega
        rcases h2021 with rfl | rfl
        · exact gxog20_X9_of hI hWG hG (by omega)
        · exact gxog21_X9_of hI hWG hG (by omega)
      · exact gxoe_X9_of nu w hI hWG hG h1 h2 h3
theorem gx_X10_of (nu w : Int32) {nh : Nat} {D : xM} {t : Option zL} {S : Nat → Int32} {l : Launch} {G : xG} {M : xM} {J : xJ} (hI : InvR M) (hWG : WG nh D S) (hG : RG M nh D t S) : x_M l G fX10_of 2 0 0 [.ref 62, .int (nu), .int (w)] x_SH M J (qPI M J (fun r => r = ofF nh D S (M 75) (M 76) nu w)) := by
  by_cases h1 : ofA nh nu w
  · obtain ⟨hw, hb⟩ := h1
    obtain ⟨i, hi, rfl⟩ := x_nat (N := nh) (by have := hWG.1; omega) rfl hb
    obtain ⟨a, ha, rfl⟩ := x_natle (v := w) (N := 5) (K := 5) (by decide) (by decide) hw
    match a, ha with
    | 0, _ => exact gxoh0_X10_of hI hWG hG hi
    | 1, _ => exact gxoh1_X10_of hI hWG hG hi
    | 2, _ => exact gxoh2_X10_of hI hWG hG hi
    | 3, _ => exact gxoh3_X10_of hI hWG hG hi
    | 4, _ => exact gxoh4_X10_of hI hWG hG hi
    | 5, _ => exact gxoh5_X10_of hI hWG hG hi
  · by_cases h2 : ofB nu w
    · obtain ⟨hw, rfl⟩ := h2
      obtain ⟨a, ha, rfl⟩ := x_natle (v := w) (N := 15) (K := 15) (by decide) (by decide) ⟨Int32.le_trans (by decide) hw.1, hw.2⟩
      have h10 : 10 ≤ a := (nI_leI (a := 10) (b := a) (by decide) (by omega)).mp hw.1
      match a, ha, h10 with
      | 10, _, _ => exact gxos10_X10_of hI hWG hG
      | 11, _, _ => exact gxos11_X10_of hI hWG hG
      | 12, _, _ => exact gxos12_X10_of hI hWG hG
      | 13, _, _ => exact gxos13_X10_of hI hWG hG
      | 14, _, _ => exact gxos14_X10_of hI hWG hG
      | 15, _, _ => exact gxos15_X10_of hI hWG hG
    · by_cases h3 : ofC nu w
      · obtain ⟨hw, hg⟩ := h3
        obtain ⟨g, hg2, rfl⟩ := x_natle (v := nu) (N := 24) (K := 24) (by decide) (by decide) hg
        obtain ⟨a, ha, rfl⟩ := x_natle (v := w) (N := 21) (K := 21) (by decide) (by decide) ⟨Int32.le_trans (by decide) hw.1, hw.2⟩
        have h20 : 20 ≤ a := (nI_leI (a := 20) (b := a) (by decide) (by omega)).mp hw.1
        have h2021 : a = 20 ∨ a = 21 := by omega
        rcases h2021 with rfl | rfl
        · exact gxog20_X10_of hI hWG hG (by omega)
        · exact gxog21_X10_of hI hWG hG (by omega)
      · exact gxoe_X10_of nu w hI hWG hG h1 h2 h3
