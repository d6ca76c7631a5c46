set_option maxRecDepth 100000 in
set_option maxHeartbeats 4000000 in
theorem gx_X9_falls {nh : Nat} {D : xM} {t : Option zL} {S : Nat → Int32} (h : Int32) {l : Launch} {G : xG} {M : xM} {J : xJ} (hI : InvC M) (hWG : WG nh D S) (hG : CG M nh D t S) : x_M l G fX9_falls 7 0 0 [.ref (0), .int (h)] x_SH M J (qKI WTH M J (fun r M2 => InvC M2 ∧ (r = fallR nh D t S h))) := by
  refine xb_of pX9 (Nat.le_of_ble_eq_true rfl) rfl ?_
  obtain ⟨⟨cn, h_cn, e_cn⟩, ⟨cm, h_cm, e_cm⟩, ⟨L, h_L, e_L⟩, hv, hD, ⟨n, h_n, e_n⟩, ⟨un, wn, h_uw, h_wn, e_un, e_wn⟩, ⟨b, h_b, e_b⟩, hkd, ⟨ra, h_ra, e_ra⟩, hsl, hS⟩ := hI
  obtain ⟨hn5, hW, hrub, hbeat⟩ := hWG
  obtain ⟨hGn, hA, hL, e_nw, e_rub, e_bt, e_ph, e_st, e_kn, e_pu, e_lf⟩ := hG
  obtain rfl : nh = cn := (nI_eq (by omega) (by omega)).mp (hGn.symm.trans e_cn)
  have hbt : ¬ S 2 = 0 := ne2_0 hbeat.1
  have hP : WP (PS nh t S) := ⟨hn5, hrub, hbt⟩
  refine xr_aload_n dX9_falls_0 0 rfl ?_
  refine xr_getR flX9_28 dX9_falls_1 s_0 rfl ?_
  refine xr_iload_n dX9_falls_4 1 rfl ?_
  refine xb_cV (As := [.int (h)]) (rest := []) mlX9_118 (c_X5_has h (by omega) e_cn) dX9_falls_5 s_13 rfl rfl (Nat.le_of_ble_eq_true rfl) (by decide) (by decide) ?_
  refine xb_bne (tgt := 13) dX9_falls_8 rfl (fun c1 => ?_) (fun c1 => ?_)
  · obtain ⟨h_, hh_, rfl⟩ := x_nat (N := nh) (by omega) rfl c1
    refine xr_aload_n dX9_falls_13 0 rfl ?_
    refine xr_getR flX9_40 dX9_falls_14 s_0 rfl ?_
    refine xr_callV (As := []) (rest := []) mlX9_192 (gw_X7_begin (D := D) (t := t) (cn := nh) hn5 e_cn e_nw e_rub e_bt e_ph e_st (LCt_k rfl (fun kl => rfl) (fun kl => rfl) hL) (AbC_k hA (fun i hi j => rfl)) hW) dX9_falls_17 s_27 rfl rfl (Nat.le_of_ble_eq_true rfl) (by decide) ⟨by decide, by decide⟩ (fun v s2 M3 J2 hq => ?_)
    obtain ⟨rfl, rfl, rfl, k4, hT2⟩ := hq
    try dsimp only [Option.toList, List.cons_append, List.nil_append]
    refine xr_aload_n dX9_falls_20 0 rfl ?_
    refine xr_getR flX9_40 dX9_falls_21 s_0 rfl ?_
    refine xr_iload_n dX9_falls_24 1 rfl ?_
    refine xr_callV (As := [.int (nI (h_))]) (rest := []) mlX9_195 (gw_X7_fallOf (P := (PS nh t S)) (h := h_) hP hh_ hT2) dX9_falls_25 s_27 rfl rfl (Nat.le_of_ble_eq_true rfl) (by decide) ⟨by decide, by decide⟩ (fun v s2 M6 J2 hq => ?_)
    obtain ⟨r8, rfl, rfl, rfl, k7, hx5⟩ := hq
    try dsimp only [Option.toList, List.cons_append, List.nil_append]
    exact xr_iret dX9_falls_28 rfl rfl (⟨_, rfl, rfl, rfl, (Ke.tr (fun pp kk => (fun hh => Or.elim hh (fun h => (Or.inl h)) (fun hh => Or.elim hh (fun h => (Or.inr (Or.inl h))) (fun hh => Or.elim hh (fun h => (Or.inr (Or.inr (Or.inl (by omega))))) (fun hh => Or.elim hh (fun h => (Or.inr (Or.inr (Or.inl (by omega))))) (fun h => (Or.inr (Or.inr (Or.inr h))))))))) (Ke.tr (fun pp kk => (fun hh => Or.elim hh (fun h => (Or.inr (Or.inr (Or.inl h)))) (fun h => (Or.inr (Or.inr (Or.inr h)))))) Ke.rf k4) k7), ⟨⟨⟨nh, by omega, (Eq.trans (k7 13 2 (by decide)) (Eq.trans (k4 13 2 (by decide)) e_cn))⟩, ⟨cm, by omega, (Eq.trans (k7 20 2 (by decide)) (Eq.trans (k4 20 2 (by decide)) e_cm))⟩, ⟨L, by omega, (Eq.trans (k7 1 4 (by decide)) (Eq.trans (k4 1 4 (by decide)) e_L))⟩, (fun kk hkk => by rw [show M6 3 kk = M 3 kk from (Eq.trans (k7 3 kk (by unfold WS; omega)) (Eq.trans (k4 3 kk (by unfold WTB; omega)) rfl))]; exact hv kk hkk), (DI_ke (by intro k; unfold WS; omega) k7 (DI_ke (by intro k; unfold WTB; omega) k4 hD)), ⟨n, by omega, (Eq.trans (k7 6 2 (by decide)) (Eq.trans (k4 6 2 (by decide)) e_n))⟩, ⟨un, wn, by omega, by omega, (Eq.trans (k7 41 4 (by decide)) (Eq.trans (k4 41 4 (by decide)) e_un)), (Eq.trans (k7 41 5 (by decide)) (Eq.trans (k4 41 5 (by decide)) e_wn))⟩, ⟨b, by omega, (Eq.trans (k7 46 2 (by decide)) (Eq.trans (k4 46 2 (by decide)) e_b))⟩, (fun j hj => by obtain ⟨q, hq, eq⟩ := hkd j hj; exact ⟨q, hq, (show M6 47 j = M 47 j from (Eq.trans (k7 47 j (by unfold WS; omega)) (Eq.trans (k4 47 j (by unfold WTB; omega)) rfl))).trans eq⟩), ⟨ra, by omega, (Eq.trans (k7 46 3 (by decide)) (Eq.trans (k4 46 3 (by decide)) e_ra))⟩, (fun j hj => by obtain ⟨s, hs, es⟩ := hsl j hj; exact ⟨s, hs, (show M6 (50 + 2 * j) 3 = M (50 + 2 * j) 3 from (Eq.trans (k7 (50 + 2 * j) 3 (by unfold WS; omega)) (Eq.trans (k4 (50 + 2 * j) 3 (by unfold WTB; omega)) rfl))).trans es⟩), (fun j hj => by obtain ⟨q, hq, eq⟩ := hS j hj; exact ⟨q, hq, (show M6 36 j = M 36 j from (Eq.trans (k7 36 j (by unfold WS; omega)) (Eq.trans (k4 36 j (by unfold WTB; omega)) rfl))).trans eq⟩)⟩, (hx5.trans (fallR_y hn5 hh_))⟩⟩)
  · refine xr_iconst (v := -1) dX9_falls_11 rfl ?_
    exact xr_iret dX9_falls_12 rfl rfl (⟨_, rfl, rfl, rfl, Ke.rf, ⟨⟨⟨nh, by omega, e_cn⟩, ⟨cm, by omega, e_cm⟩, ⟨L, by omega, e_L⟩, (fun kk hkk => by rw [show M 3 kk = M 3 kk from rfl]; exact hv kk hkk), hD, ⟨n, by omega, e_n⟩, ⟨un, wn, by omega, by omega, e_un, e_wn⟩, ⟨b, by omega, e_b⟩, (fun j hj => by obtain ⟨q, hq, eq⟩ := hkd j hj; exact ⟨q, hq, (show M 47 j = M 47 j from rfl).trans eq⟩), ⟨ra, by omega, e_ra⟩, (fun j hj => by obtain ⟨s, hs, es⟩ := hsl j hj; exact ⟨s, hs, (show M (50 + 2 * j) 3 = M (50 + 2 * j) 3 from rfl).trans es⟩), (fun j hj => by obtain ⟨q, hq, eq⟩ := hS j hj; exact ⟨q, hq, (show M 36 j = M 36 j from rfl).trans eq⟩)⟩, (fallR_n c1)⟩⟩)