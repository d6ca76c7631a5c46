def ctR (n : Nat) (D : xM) (a b c d w : Int32) : Int32 := if w = 0 then nI n else if w = 1 then nI (upn n D) else if w = 2 then a else if w = 3 then b else if w = 4 then c else if w = 5 then d else -1
theorem ctR_0 {n : Nat} {D : xM} {a b c d w : Int32} (h : w = 0) : nI n = ctR n D a b c d w := by subst h; rfl
theorem ctR_1 {n : Nat} {D : xM} {a b c d w : Int32} (h : w = 1) : nI (upn n D) = ctR n D a b c d w := by subst h; rfl
theorem ctR_2 {n : Nat} {D : xM} {a b c d w : Int32} (h : w = 2) : a = ctR n D a b c d w := by subst h; rfl
theorem ctR_3 {n : Nat} {D : xM} {a b c d w : Int32} (h : w = 3) : b = ctR n D a b c d w := by subst h; rfl
theorem ctR_4 {n : Nat} {D : xM} {a b c d w : Int32} (h : w = 4) : c = ctR n D a b c d w := by subst h; rfl
theorem ctR_5 {n : Nat} {D : xM} {a b c d w : Int32} (h : w = 5) : d = ctR n D a b c d w := by subst h; rfl
theorem ctR_n {n : Nat} {D : xM} {a b c d w : Int32} (h0 : ¬ w = 0) (h1 : ¬ w = 1) (h2 : ¬ w = 2) (h3 : ¬ w = 3) (h4 : ¬ w = 4) (h5 : ¬ w = 5) : -1 = ctR n D a b c d w := by
  unfold ctR; rw [if_neg h0, if_neg h1, if_neg h2, if_neg h3, if_neg h4, if_neg h5]
theorem jA_count {n : Nat} {D : xM} {a b c d a2 b2 c2 d2 w : Int32} (h1 : a = a2) (h2 : b = b2) (h3 : c = c2) (h4 : d = d2) : ctR n D a b c d w = ctR n D a2 b2 c2 d2 w := by rw [h1, h2, h3, h4]
set_option maxRecDepth 100000 in
set_option maxHeartbeats 4000000 in
theorem gx_X9_count {nh : Nat} {D : xM} {t : Option zL} {S : Nat → Int32} (w : Int32) {l : Launch} {G : xG} {M : xM} {J : xJ} (hI : InvC M) (hWG : WG nh D S) (hG : CG M nh D t S) : x_M l G fX9_count 2 0 0 [.ref (0), .int (w)] x_SH M J (qPI M J (fun r => r = ctR nh D (M 6 2) (M 41 4) (M 46 2) (M 46 3) w)) := by
  refine xb_of pX9 (Nat.le_of_ble_eq_true rfl) rfl ?_
  obtain ⟨⟨cn, h_cn, e_cn⟩, ⟨cm, h_cm, e_cm⟩, ⟨L, h_L, e_L⟩, hv, hD, ⟨n, h_n, e_n⟩, ⟨un, wn, h_uw, h_wn, e_un, e_wn⟩, ⟨b, h_b, e_b⟩, hkd, ⟨ra, h_ra, e_ra⟩, hsl, hS⟩ := hI
  obtain ⟨hn5, hW, hrub, hbeat⟩ := hWG
  obtain ⟨hGn, hA, hL, e_nw, e_rub, e_bt, e_ph, e_st, e_kn, e_pu, e_lf⟩ := hG
  obtain rfl : nh = cn := (nI_eq (by omega) (by omega)).mp (hGn.symm.trans e_cn)
  have hbt : ¬ S 2 = 0 := ne2_0 hbeat.1
  refine xr_iload_n dX9_count_0 1 rfl ?_
  refine xg_eq 0 (fun w1 => ?_) (fun w1 => ?_)
  · refine xr_tableIn (tgt := 40) dX9_count_1 (by decide) (by decide) rfl rfl ?_
    refine xr_aload_n dX9_count_40 0 rfl ?_
    refine xr_getR flX9_28 dX9_count_41 s_0 rfl ?_
    refine xb_get (v := nI (nh)) flX9_218 dX9_count_44 s_13 rfl e_cn ?_
    exact xr_iret dX9_count_47 rfl rfl (⟨_, rfl, rfl, rfl, rfl, (ctR_0 w1)⟩)
  refine xg_eq 1 (fun w2 => ?_) (fun w2 => ?_)
  · refine xr_tableIn (tgt := 48) dX9_count_1 (by decide) (by decide) rfl rfl ?_
    refine xr_aload_n dX9_count_48 0 rfl ?_
    refine xr_getR flX9_28 dX9_count_49 s_0 rfl ?_
    refine xr_callV (As := []) (rest := []) mlX9_164 (gw_X5_upright_13 (cn := nh) (D := D) hn5 e_cn hA) dX9_count_52 s_13 rfl rfl (Nat.le_of_ble_eq_true rfl) (by decide) ⟨by decide, by decide⟩ (fun v s2 M9 J2 hq => ?_)
    obtain ⟨r4, rfl, rfl, rfl, rfl, hx3⟩ := hq
    try dsimp only [Option.toList, List.cons_append, List.nil_append]
    subst hx3
    exact xr_iret dX9_count_55 rfl rfl (⟨_, rfl, rfl, rfl, rfl, (ctR_1 w2)⟩)
  refine xg_eq 2 (fun w5 => ?_) (fun w5 => ?_)
  · refine xr_tableIn (tgt := 56) dX9_count_1 (by decide) (by decide) rfl rfl ?_
    refine xr_aload_n dX9_count_56 0 rfl ?_
    refine xr_getR flX9_19 dX9_count_57 s_0 rfl ?_
    refine xb_get (v := nI (n)) flX9_147 dX9_count_60 s_6 rfl e_n ?_
    exact xr_iret dX9_count_63 rfl rfl (⟨_, rfl, rfl, rfl, rfl, ((e_n).symm.trans (ctR_2 w5))⟩)
  refine xg_eq 3 (fun w6 => ?_) (fun w6 => ?_)
  · refine xr_tableIn (tgt := 64) dX9_count_1 (by decide) (by decide) rfl rfl ?_
    refine xr_aload_n dX9_count_64 0 rfl ?_
    refine xr_getR flX9_54 dX9_count_65 s_0 rfl ?_
    refine xb_get (v := nI (un)) flX9_309 dX9_count_68 s_41 rfl e_un ?_
    exact xr_iret dX9_count_71 rfl rfl (⟨_, rfl, rfl, rfl, rfl, ((e_un).symm.trans (ctR_3 w6))⟩)
  refine xg_eq 4 (fun w7 => ?_) (fun w7 => ?_)
  · refine xr_tableIn (tgt := 72) dX9_count_1 (by decide) (by decide) rfl rfl ?_
    refine xr_aload_n dX9_count_72 0 rfl ?_
    refine xr_getR flX9_61 dX9_count_73 s_0 rfl ?_
    refine xb_get (v := nI (b)) flX9_393 dX9_count_76 s_46 rfl e_b ?_
    exact xr_iret dX9_count_79 rfl rfl (⟨_, rfl, rfl, rfl, rfl, ((e_b).symm.trans (ctR_4 w7))⟩)
  refine xg_eq 5 (fun w8 => ?_) (fun w8 => ?_)
  · refine xr_tableIn (tgt := 80) dX9_count_1 (by decide) (by decide) rfl rfl ?_
    refine xr_aload_n dX9_count_80 0 rfl ?_
    refine xr_getR flX9_61 dX9_count_81 s_0 rfl ?_
    refine xb_get (v := nI (ra)) flX9_334 dX9_count_84 s_46 rfl e_ra ?_
    exact xr_iret dX9_count_87 rfl rfl (⟨_, rfl, rfl, rfl, rfl, ((e_ra).symm.trans (ctR_5 w8))⟩)
  refine xr_tableOut (tgt := 88) dX9_count_1 (xg_out (lo := 0) (hi := 5) (by decide) (fun j h1 h2 qq => by have h3 : j = 0 ∨ j = 1 ∨ j = 2 ∨ j = 3 ∨ j = 4 ∨ j = 5 := (by omega); rcases h3 with rfl | rfl | rfl | rfl | rfl | rfl <;> first | exact absurd qq w1 | exact absurd qq w2 | exact absurd qq w5 | exact absurd qq w6 | exact absurd qq w7 | exact absurd qq w8)) rfl ?_
  refine xr_iconst (v := -1) dX9_count_88 rfl ?_
  exact xr_iret dX9_count_89 rfl rfl (⟨_, rfl, rfl, rfl, rfl, (ctR_n (by assumption) (by assumption) (by assumption) (by assumption) (by assumption) (by assumption))⟩)
set_option maxRecDepth 100000 in
set_option maxHeartbeats 4000000 in
theorem gx_X10_count {nh : Nat} {D : xM} {t : Option zL} {S : Nat → Int32} (w : Int32) {l : Launch} {G : xG} {M : xM} {J : xJ} (hI : InvR M) (hWG : WG nh D S) (hG : RG M nh D t S) : x_M l G fX10_count 1 0 0 [.ref (62), .int (w)] x_SH M J (qPI M J (fun r => r = ctR nh D (M 62 11) (M 62 5) (M 62 36) (M 62 39) w)) := by
  refine xb_of pX10 (Nat.le_of_ble_eq_true rfl) rfl ?_
  obtain ⟨⟨hn, h_hn, e_hn, hw⟩, hbt, ⟨un, wn, h_uw, h_wn, e_un, e_wn⟩, hch, ⟨n, h_n, e_n⟩, htx, ⟨b, h_b, e_b⟩, hkd, ⟨ra, h_ra, e_ra⟩, hsl, ⟨ic, h_ic, e_ic⟩, hS⟩ := hI
  obtain ⟨hn5, hW, hrub, hbeat⟩ := hWG
  obtain ⟨hGn, hA, hL, e_nw, e_rub, e_bt, e_ph, e_st, e_kn, e_pu, e_lf⟩ := hG
  obtain rfl : nh = hn := (nI_eq (by omega) (by omega)).mp (hGn.symm.trans e_hn)
  have hbt2 : ¬ S 2 = 0 := ne2_0 hbeat.1
  refine xr_iload_n dX10_count_0 1 rfl ?_
  refine xg_eq 0 (fun w1 => ?_) (fun w1 => ?_)
  · refine xr_tableIn (tgt := 40) dX10_count_1 (by decide) (by decide) rfl rfl ?_
    refine xr_aload_n dX10_count_40 0 rfl ?_
    refine xb_get (v := nI (nh)) flX10_109 dX10_count_41 s_62 rfl e_hn ?_
    exact xr_iret dX10_count_44 rfl rfl (⟨_, rfl, rfl, rfl, rfl, (ctR_0 w1)⟩)
  refine xg_eq 1 (fun w2 => ?_) (fun w2 => ?_)
  · refine xr_tableIn (tgt := 45) dX10_count_1 (by decide) (by decide) rfl rfl ?_
    refine xr_aload_n dX10_count_45 0 rfl ?_
    refine xr_callV (As := []) (rest := []) mlX10_246 (gw_X10_upNow (D := D) (hn := nh) hn5 e_hn (AbS_k hA (fun kl hkl => rfl) (fun kl => rfl) (fun kl => rfl) hn5) hW) dX10_count_46 s_62 rfl rfl (Nat.le_of_ble_eq_true rfl) (by decide) ⟨by decide, by decide⟩ (fun v s2 M9 J2 hq => ?_)
    obtain ⟨r4, rfl, rfl, rfl, rfl, hx3⟩ := hq
    try dsimp only [Option.toList, List.cons_append, List.nil_append]
    subst hx3
    refine xr_callS (As := [.int ((upS nh D))]) (rest := []) mlX10_261 (gw_X10_bitsOf (upS nh D) (upB_le hn5)) dX10_count_49 rfl rfl (Nat.le_of_ble_eq_true rfl) (by decide) ⟨by decide, by decide⟩ (fun v s2 M9 J2 hq => ?_)
    obtain ⟨r6, rfl, rfl, rfl, rfl, hx5⟩ := hq
    try dsimp only [Option.toList, List.cons_append, List.nil_append]
    obtain rfl := hx5.trans (upS_bc hn5)
    exact xr_iret dX10_count_52 rfl rfl (⟨_, rfl, rfl, rfl, rfl, (ctR_1 w2)⟩)
  refine xg_eq 2 (fun w7 => ?_) (fun w7 => ?_)
  · refine xr_tableIn (tgt := 53) dX10_count_1 (by decide) (by decide) rfl rfl ?_
    refine xr_aload_n dX10_count_53 0 rfl ?_
    refine xb_get (v := nI (n)) flX10_162 dX10_count_54 s_62 rfl e_n ?_
    exact xr_iret dX10_count_57 rfl rfl (⟨_, rfl, rfl, rfl, rfl, ((e_n).symm.trans (ctR_2 w7))⟩)
  refine xg_eq 3 (fun w8 => ?_) (fun w8 => ?_)
  · refine xr_tableIn (tgt := 58) dX10_count_1 (by decide) (by decide) rfl rfl ?_
    refine xr_aload_n dX10_count_58 0 rfl ?_
    refine xb_get (v := nI (un)) flX10_91 dX10_count_59 s_62 rfl e_un ?_
    exact xr_iret dX10_count_62 rfl rfl (⟨_, rfl, rfl, rfl, rfl, ((e_un).symm.trans (ctR_3 w8))⟩)
  refine xg_eq 4 (fun w9 => ?_) (fun w9 => ?_)
  · refine xr_tableIn (tgt := 63) dX10_count_1 (by decide) (by decide) rfl rfl ?_
    refine xr_aload_n dX10_count_63 0 rfl ?_
    refine xb_get (v := nI (b)) flX10_334 dX10_count_64 s_62 rfl e_b ?_
    exact xr_iret dX10_count_67 rfl rfl (⟨_, rfl, rfl, rfl, rfl, ((e_b).symm.trans (ctR_4 w9))⟩)
  refine xg_eq 5 (fun w10 => ?_) (fun w10 => ?_)
  · refine xr_tableIn (tgt := 68) dX10_count_1 (by decide) (by decide) rfl rfl ?_
    refine xr_aload_n dX10_count_68 0 rfl ?_
    refine xb_get (v := nI (ra)) flX10_337 dX10_count_69 s_62 rfl e_ra ?_
    exact xr_iret dX10_count_72 rfl rfl (⟨_, rfl, rfl, rfl, rfl, ((e_ra).symm.trans (ctR_5 w10))⟩)
  refine xr_tableOut (tgt := 73) dX10_count_1 (xg_out (lo := 0) (hi := 5) (by decide) (fun j h1 h2 qq => by have h3 : j = 0 ∨ j = 1 ∨ j = 2 ∨ j = 3 ∨ j = 4 ∨ j = 5 := (by omega); rcases h3 with rfl | rfl | rfl | rfl | rfl | rfl <;> first | exact absurd qq w1 | exact absurd qq w2 | exact absurd qq w7 | exact absurd qq w8 | exact absurd qq w9 | exact absurd qq w10)) rfl ?_
  refine xr_iconst (v := -1) dX10_count_73 rfl ?_
  exact xr_iret dX10_count_74 rfl rfl (⟨_, rfl, rfl, rfl, rfl, (ctR_n (by assumption) (by assumption) (by assumption) (by assumption) (by assumption) (by assumption))⟩)
