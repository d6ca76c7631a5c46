set_option maxRecDepth 100000 in
set_option maxHeartbeats 4000000 in
theorem gx_X9_lasts {nh : Nat} {D : xM} {t : Option zL} {S : Nat → Int32} {l : Launch} {G : xG} {M : xM} {J : xJ} (hI : InvC M) (hWG : WG nh D S) (hG : CG M nh D t S) : x_M l G fX9_lasts 7 0 0 [.ref (0)] x_SH M J (qKI WTH M J (fun r M2 => InvC M2 ∧ (r = lastR nh D t S))) := by
  refine xb_of pX9 (Nat.le_of_ble_eq_true rfl) rfl ?_
  obtain ⟨⟨cn, h_cn, e_cn⟩, ⟨cm, h_cm, e_cm⟩, ⟨L, h_L, e_L⟩, hv, hD, ⟨n, h_n, e_n⟩, ⟨un, wn, h_uw, h_wn, e_un, e_wn⟩, ⟨b, h_b, e_b⟩, hkd, ⟨ra, h_ra, e_ra⟩, hsl, hS⟩ := hI
  obtain ⟨hn5, hW, hrub, hbeat⟩ := hWG
  obtain ⟨hGn, hA, hL, e_nw, e_rub, e_bt, e_ph, e_st, e_kn, e_pu, e_lf⟩ := hG
  obtain rfl : nh = cn := (nI_eq (by omega) (by omega)).mp (hGn.symm.trans e_cn)
  have hbt : ¬ S 2 = 0 := ne2_0 hbeat.1
  have hP : WP (PS nh t S) := ⟨hn5, hrub, hbt⟩
  refine xr_aload_n dX9_lasts_0 0 rfl ?_
  refine xr_getR flX9_40 dX9_lasts_1 s_0 rfl ?_
  refine xr_callV (As := []) (rest := []) mlX9_192 (gw_X7_begin (D := D) (t := t) (cn := nh) hn5 e_cn e_nw e_rub e_bt e_ph e_st (LCt_k rfl (fun kl => rfl) (fun kl => rfl) hL) (AbC_k hA (fun i hi j => rfl)) hW) dX9_lasts_4 s_27 rfl rfl (Nat.le_of_ble_eq_true rfl) (by decide) ⟨by decide, by decide⟩ (fun v s2 M2 J2 hq => ?_)
  obtain ⟨rfl, rfl, rfl, k3, hT1⟩ := hq
  try dsimp only [Option.toList, List.cons_append, List.nil_append]
  refine xr_aload_n dX9_lasts_7 0 rfl ?_
  refine xr_getR flX9_40 dX9_lasts_8 s_0 rfl ?_
  refine xr_callV (As := []) (rest := []) mlX9_198 (gw_X7_lasting (P := (PS nh t S)) hP hT1) dX9_lasts_11 s_27 rfl rfl (Nat.le_of_ble_eq_true rfl) (by decide) ⟨by decide, by decide⟩ (fun v s2 M5 J2 hq => ?_)
  obtain ⟨r7, rfl, rfl, rfl, k6, hx4⟩ := hq
  try dsimp only [Option.toList, List.cons_append, List.nil_append]
  exact xr_iret dX9_lasts_14 rfl rfl (⟨_, rfl, rfl, rfl, (Ke.tr (fun pp kk => (fun hh => Or.elim hh (fun h => (Or.inl h)) (fun hh => Or.elim hh (fun h => (Or.inr (Or.inl h))) (fun hh => Or.elim hh (fun h => (Or.inr (Or.inr (Or.inl (by omega))))) (fun hh => Or.elim hh (fun h => (Or.inr (Or.inr (Or.inl (by omega))))) (fun h => (Or.inr (Or.inr (Or.inr h))))))))) (Ke.tr (fun pp kk => (fun hh => Or.elim hh (fun h => (Or.inr (Or.inr (Or.inl h)))) (fun h => (Or.inr (Or.inr (Or.inr h)))))) Ke.rf k3) k6), ⟨⟨⟨nh, by omega, (Eq.trans (k6 13 2 (by decide)) (Eq.trans (k3 13 2 (by decide)) e_cn))⟩, ⟨cm, by omega, (Eq.trans (k6 20 2 (by decide)) (Eq.trans (k3 20 2 (by decide)) e_cm))⟩, ⟨L, by omega, (Eq.trans (k6 1 4 (by decide)) (Eq.trans (k3 1 4 (by decide)) e_L))⟩, (fun kk hkk => by rw [show M5 3 kk = M 3 kk from (Eq.trans (k6 3 kk (by unfold WS; omega)) (Eq.trans (k3 3 kk (by unfold WTB; omega)) rfl))]; exact hv kk hkk), (DI_ke (by intro k; unfold WS; omega) k6 (DI_ke (by intro k; unfold WTB; omega) k3 hD)), ⟨n, by omega, (Eq.trans (k6 6 2 (by decide)) (Eq.trans (k3 6 2 (by decide)) e_n))⟩, ⟨un, wn, by omega, by omega, (Eq.trans (k6 41 4 (by decide)) (Eq.trans (k3 41 4 (by decide)) e_un)), (Eq.trans (k6 41 5 (by decide)) (Eq.trans (k3 41 5 (by decide)) e_wn))⟩, ⟨b, by omega, (Eq.trans (k6 46 2 (by decide)) (Eq.trans (k3 46 2 (by decide)) e_b))⟩, (fun j hj => by obtain ⟨q, hq, eq⟩ := hkd j hj; exact ⟨q, hq, (show M5 47 j = M 47 j from (Eq.trans (k6 47 j (by unfold WS; omega)) (Eq.trans (k3 47 j (by unfold WTB; omega)) rfl))).trans eq⟩), ⟨ra, by omega, (Eq.trans (k6 46 3 (by decide)) (Eq.trans (k3 46 3 (by decide)) e_ra))⟩, (fun j hj => by obtain ⟨s, hs, es⟩ := hsl j hj; exact ⟨s, hs, (show M5 (50 + 2 * j) 3 = M (50 + 2 * j) 3 from (Eq.trans (k6 (50 + 2 * j) 3 (by unfold WS; omega)) (Eq.trans (k3 (50 + 2 * j) 3 (by unfold WTB; omega)) rfl))).trans es⟩), (fun j hj => by obtain ⟨q, hq, eq⟩ := hS j hj; exact ⟨q, hq, (show M5 36 j = M 36 j from (Eq.trans (k6 36 j (by unfold WS; omega)) (Eq.trans (k3 36 j (by unfold WTB; omega)) rfl))).trans eq⟩)⟩, hx4⟩⟩)