set_option maxRecDepth 100000 in
set_option maxHeartbeats 4000000 in
theorem gx_X9_then {nh : Nat} {D : xM} {t : Option zL} {S : Nat → Int32} (h kk w : Int32) {l : Launch} {G : xG} {M : xM} {J : xJ} (hI : InvC M) (hWG : WG nh D S) (hG : CG M nh D t S) : x_M l G fX9_then 7 0 0 [.ref (0), .int (h), .int (kk), .int (w)] x_SH M J (qKI WTH M J (fun r M2 => InvC M2 ∧ (r = thR nh D t S h kk w))) := by
  refine xb_of pX9 (Nat.le_of_ble_eq_true rfl) rfl ?_
  obtain ⟨⟨cn, h_cn, e_cn⟩, ⟨cm, h_cm, e_cm⟩, ⟨L, h_L, e_L⟩, hv, hD, ⟨n, h_n, e_n⟩, ⟨un, wn, h_uw, h_wn, e_un, e_wn⟩, ⟨b, h_b, e_b⟩, hkd, ⟨ra, h_ra, e_ra⟩, hsl, hS⟩ := hI
  obtain ⟨hn5, hW, hrub, hbeat⟩ := hWG
  obtain ⟨hGn, hA, hL, e_nw, e_rub, e_bt, e_ph, e_st, e_kn, e_pu, e_lf⟩ := hG
  obtain rfl : nh = cn := (nI_eq (by omega) (by omega)).mp (hGn.symm.trans e_cn)
  have hbt : ¬ S 2 = 0 := ne2_0 hbeat.1
  refine xr_aload_n dX9_then_0 0 rfl ?_
  refine xr_getR flX9_28 dX9_then_1 s_0 rfl ?_
  refine xr_iload_n dX9_then_4 1 rfl ?_
  refine xb_cV (As := [.int (h)]) (rest := []) mlX9_118 (c_X5_has h (by omega) e_cn) dX9_then_5 s_13 rfl rfl (Nat.le_of_ble_eq_true rfl) (by decide) (by decide) ?_
  refine xb_beq (tgt := 31) dX9_then_8 rfl (fun c1 => ?_) (fun c1 => ?_)
  · refine xr_ldc coX9_105 dX9_then_31 ?_
    exact xr_iret dX9_then_33 rfl rfl (⟨_, rfl, rfl, rfl, Ke.rf, ⟨⟨⟨nh, by omega, e_cn⟩, ⟨cm, by omega, e_cm⟩, ⟨L, by omega, e_L⟩, (fun kk hkk => by rw [show M 3 kk = M 3 kk from rfl]; exact hv kk hkk), hD, ⟨n, by omega, e_n⟩, ⟨un, wn, by omega, by omega, e_un, e_wn⟩, ⟨b, by omega, e_b⟩, (fun j hj => by obtain ⟨q, hq, eq⟩ := hkd j hj; exact ⟨q, hq, (show M 47 j = M 47 j from rfl).trans eq⟩), ⟨ra, by omega, e_ra⟩, (fun j hj => by obtain ⟨s, hs, es⟩ := hsl j hj; exact ⟨s, hs, (show M (50 + 2 * j) 3 = M (50 + 2 * j) 3 from rfl).trans es⟩), (fun j hj => by obtain ⟨q, hq, eq⟩ := hS j hj; exact ⟨q, hq, (show M 36 j = M 36 j from rfl).trans eq⟩)⟩, (thR_n (fun z => c1 z.1))⟩⟩)
  · obtain ⟨h_, hh_, rfl⟩ := x_nat (N := nh) (by omega) rfl c1
    refine xr_iload_n dX9_then_11 2 rfl ?_
    refine xr_if_lt (tgt := 31) dX9_then_12 rfl (fun c2 => ?_) (fun c2 => ?_)
    · refine xr_ldc coX9_105 dX9_then_31 ?_
      exact xr_iret dX9_then_33 rfl rfl (⟨_, rfl, rfl, rfl, Ke.rf, ⟨⟨⟨nh, by omega, e_cn⟩, ⟨cm, by omega, e_cm⟩, ⟨L, by omega, e_L⟩, (fun kk hkk => by rw [show M 3 kk = M 3 kk from rfl]; exact hv kk hkk), hD, ⟨n, by omega, e_n⟩, ⟨un, wn, by omega, by omega, e_un, e_wn⟩, ⟨b, by omega, e_b⟩, (fun j hj => by obtain ⟨q, hq, eq⟩ := hkd j hj; exact ⟨q, hq, (show M 47 j = M 47 j from rfl).trans eq⟩), ⟨ra, by omega, e_ra⟩, (fun j hj => by obtain ⟨s, hs, es⟩ := hsl j hj; exact ⟨s, hs, (show M (50 + 2 * j) 3 = M (50 + 2 * j) 3 from rfl).trans es⟩), (fun j hj => by obtain ⟨q, hq, eq⟩ := hS j hj; exact ⟨q, hq, (show M 36 j = M 36 j from rfl).trans eq⟩)⟩, (thR_n (fun z => absurd z.2.1.1 (by grind)))⟩⟩)
    · refine xr_iload_n dX9_then_15 2 rfl ?_
      refine xr_sipush (v := 200) dX9_then_16 rfl ?_
      refine xr_icmp_gt (tgt := 31) dX9_then_19 rfl (fun c3 => ?_) (fun c3 => ?_)
      · refine xr_ldc coX9_105 dX9_then_31 ?_
        exact xr_iret dX9_then_33 rfl rfl (⟨_, rfl, rfl, rfl, Ke.rf, ⟨⟨⟨nh, by omega, e_cn⟩, ⟨cm, by omega, e_cm⟩, ⟨L, by omega, e_L⟩, (fun kk hkk => by rw [show M 3 kk = M 3 kk from rfl]; exact hv kk hkk), hD, ⟨n, by omega, e_n⟩, ⟨un, wn, by omega, by omega, e_un, e_wn⟩, ⟨b, by omega, e_b⟩, (fun j hj => by obtain ⟨q, hq, eq⟩ := hkd j hj; exact ⟨q, hq, (show M 47 j = M 47 j from rfl).trans eq⟩), ⟨ra, by omega, e_ra⟩, (fun j hj => by obtain ⟨s, hs, es⟩ := hsl j hj; exact ⟨s, hs, (show M (50 + 2 * j) 3 = M (50 + 2 * j) 3 from rfl).trans es⟩), (fun j hj => by obtain ⟨q, hq, eq⟩ := hS j hj; exact ⟨q, hq, (show M 36 j = M 36 j from rfl).trans eq⟩)⟩, (thR_n (fun z => absurd z.2.1.2 (by grind)))⟩⟩)
      · refine xr_iload_n dX9_then_22 3 rfl ?_
        refine xr_if_lt (tgt := 31) dX9_then_23 rfl (fun c4 => ?_) (fun c4 => ?_)
        · refine xr_ldc coX9_105 dX9_then_31 ?_
          exact xr_iret dX9_then_33 rfl rfl (⟨_, rfl, rfl, rfl, Ke.rf, ⟨⟨⟨nh, by omega, e_cn⟩, ⟨cm, by omega, e_cm⟩, ⟨L, by omega, e_L⟩, (fun kk hkk => by rw [show M 3 kk = M 3 kk from rfl]; exact hv kk hkk), hD, ⟨n, by omega, e_n⟩, ⟨un, wn, by omega, by omega, e_un, e_wn⟩, ⟨b, by omega, e_b⟩, (fun j hj => by obtain ⟨q, hq, eq⟩ := hkd j hj; exact ⟨q, hq, (show M 47 j = M 47 j from rfl).trans eq⟩), ⟨ra, by omega, e_ra⟩, (fun j hj => by obtain ⟨s, hs, es⟩ := hsl j hj; exact ⟨s, hs, (show M (50 + 2 * j) 3 = M (50 + 2 * j) 3 from rfl).trans es⟩), (fun j hj => by obtain ⟨q, hq, eq⟩ := hS j hj; exact ⟨q, hq, (show M 36 j = M 36 j from rfl).trans eq⟩)⟩, (thR_n (fun z => absurd z.2.2.1 (by grind)))⟩⟩)
        · refine xr_iload_n dX9_then_26 3 rfl ?_
          refine xr_iconst (v := 2) dX9_then_27 rfl ?_
          refine xr_icmp_le (tgt := 34) dX9_then_28 rfl (fun c5 => ?_) (fun c5 => ?_)
          · obtain ⟨K, hK, rfl⟩ := x_natle (v := kk) (N := 200) (K := 200) (by decide) (by decide) ⟨by grind, by grind⟩
            refine xr_aload_n dX9_then_34 0 rfl ?_
            refine xr_getR flX9_40 dX9_then_35 s_0 rfl ?_
            refine xr_iload_n dX9_then_38 1 rfl ?_
            refine xr_iload_n dX9_then_39 2 rfl ?_
            refine xr_callV (As := [.int (nI (h_)), .int (nI (K))]) (rest := []) mlX9_179 (gw_X7_behind (D := D) (t := t) (S := S) (nh := nh) (h := h_) (K := K) (by omega) (by omega) hn5 hrub hbt e_cn e_nw e_rub e_bt e_ph e_st (LCt_k rfl (fun kl => rfl) (fun kl => rfl) hL) (AbC_k hA (fun i hi j => rfl)) hW) dX9_then_40 s_27 rfl rfl (Nat.le_of_ble_eq_true rfl) (by decide) ⟨by decide, by decide⟩ (fun v s2 M6 J2 hq => ?_)
            obtain ⟨rfl, rfl, rfl, k7, hx8⟩ := hq
            try dsimp only [Option.toList, List.cons_append, List.nil_append]
            refine xr_astore (ls2 := [(4, .ref (30 + h_)), (0, .ref (0)), (1, .int (nI (h_))), (2, .int (nI (K))), (3, .int (w))]) dX9_then_43 (by decide) rfl ?_
            refine xr_iload_n dX9_then_45 4 rfl ?_
            refine xr_if_ne (tgt := 55) dX9_then_46 rfl (fun c9 => ?_) (fun c9 => ?_)
            · refine xr_iload_n dX9_then_55 4 rfl ?_
              refine xr_iconst (v := 1) dX9_then_56 rfl ?_
              refine xr_icmp_ne (tgt := 68) dX9_then_57 rfl (fun c10 => ?_) (fun c10 => ?_)
              · refine xr_aload dX9_then_68 0 rfl ?_
                refine xb_get (v := (thF (PS nh t S) K (S 0) D h_ 4)) flX9_189 dX9_then_70 (s_hp30 (by omega)) rfl (hx8 h_ hh_ 4 (by decide)) ?_
                exact xr_iret dX9_then_73 rfl rfl (⟨_, rfl, rfl, rfl, (Ke.tr (fun pp kk => (fun hh => Or.elim hh (fun h => (Or.inl h)) (fun hh => Or.elim hh (fun h => (Or.inr (Or.inl h))) (fun hh => Or.elim hh (fun h => (Or.inr (Or.inr (Or.inl h)))) (fun h => (Or.inr (Or.inr (Or.inr h)))))))) Ke.rf k7), ⟨⟨⟨nh, by omega, (Eq.trans (k7 13 2 (by decide)) e_cn)⟩, ⟨cm, by omega, (Eq.trans (k7 20 2 (by decide)) e_cm)⟩, ⟨L, by omega, (Eq.trans (k7 1 4 (by decide)) e_L)⟩, (fun kk hkk => by rw [show M6 3 kk = M 3 kk from (Eq.trans (k7 3 kk (by unfold WTS; omega)) rfl)]; exact hv kk hkk), (DI_ke (by intro k; unfold WTS; omega) k7 hD), ⟨n, by omega, (Eq.trans (k7 6 2 (by decide)) e_n)⟩, ⟨un, wn, by omega, by omega, (Eq.trans (k7 41 4 (by decide)) e_un), (Eq.trans (k7 41 5 (by decide)) e_wn)⟩, ⟨b, by omega, (Eq.trans (k7 46 2 (by decide)) e_b)⟩, (fun j hj => by obtain ⟨q, hq, eq⟩ := hkd j hj; exact ⟨q, hq, (show M6 47 j = M 47 j from (Eq.trans (k7 47 j (by unfold WTS; omega)) rfl)).trans eq⟩), ⟨ra, by omega, (Eq.trans (k7 46 3 (by decide)) e_ra)⟩, (fun j hj => by obtain ⟨s, hs, es⟩ := hsl j hj; exact ⟨s, hs, (show M6 (50 + 2 * j) 3 = M (50 + 2 * j) 3 from (Eq.trans (k7 (50 + 2 * j) 3 (by unfold WTS; omega)) rfl)).trans es⟩), (fun j hj => by obtain ⟨q, hq, eq⟩ := hS j hj; exact ⟨q, hq, (show M6 36 j = M 36 j from (Eq.trans (k7 36 j (by unfold WTS; omega)) rfl)).trans eq⟩)⟩, (((if_neg c9).trans (if_neg c10)).symm.trans (thR_y hn5 hh_ (by omega) ⟨by grind, by grind⟩))⟩⟩)
              · refine xr_aload dX9_then_60 0 rfl ?_
                refine xb_get (v := (thF (PS nh t S) K (S 0) D h_ 3)) flX9_186 dX9_then_62 (s_hp30 (by omega)) rfl (hx8 h_ hh_ 3 (by decide)) ?_
                refine xr_goto (tgt := 73) dX9_then_65 rfl ?_
                exact xr_iret dX9_then_73 rfl rfl (⟨_, rfl, rfl, rfl, (Ke.tr (fun pp kk => (fun hh => Or.elim hh (fun h => (Or.inl h)) (fun hh => Or.elim hh (fun h => (Or.inr (Or.inl h))) (fun hh => Or.elim hh (fun h => (Or.inr (Or.inr (Or.inl h)))) (fun h => (Or.inr (Or.inr (Or.inr h)))))))) Ke.rf k7), ⟨⟨⟨nh, by omega, (Eq.trans (k7 13 2 (by decide)) e_cn)⟩, ⟨cm, by omega, (Eq.trans (k7 20 2 (by decide)) e_cm)⟩, ⟨L, by omega, (Eq.trans (k7 1 4 (by decide)) e_L)⟩, (fun kk hkk => by rw [show M6 3 kk = M 3 kk from (Eq.trans (k7 3 kk (by unfold WTS; omega)) rfl)]; exact hv kk hkk), (DI_ke (by intro k; unfold WTS; omega) k7 hD), ⟨n, by omega, (Eq.trans (k7 6 2 (by decide)) e_n)⟩, ⟨un, wn, by omega, by omega, (Eq.trans (k7 41 4 (by decide)) e_un), (Eq.trans (k7 41 5 (by decide)) e_wn)⟩, ⟨b, by omega, (Eq.trans (k7 46 2 (by decide)) e_b)⟩, (fun j hj => by obtain ⟨q, hq, eq⟩ := hkd j hj; exact ⟨q, hq, (show M6 47 j = M 47 j from (Eq.trans (k7 47 j (by unfold WTS; omega)) rfl)).trans eq⟩), ⟨ra, by omega, (Eq.trans (k7 46 3 (by decide)) e_ra)⟩, (fun j hj => by obtain ⟨s, hs, es⟩ := hsl j hj; exact ⟨s, hs, (show M6 (50 + 2 * j) 3 = M (50 + 2 * j) 3 from (Eq.trans (k7 (50 + 2 * j) 3 (by unfold WTS; omega)) rfl)).trans es⟩), (fun j hj => by obtain ⟨q, hq, eq⟩ := hS j hj; exact ⟨q, hq, (show M6 36 j = M 36 j from (Eq.trans (k7 36 j (by unfold WTS; omega)) rfl)).trans eq⟩)⟩, (((if_neg c9).trans (if_pos c10)).symm.trans (thR_y hn5 hh_ (by omega) ⟨by grind, by grind⟩))⟩⟩)
            · refine xr_aload dX9_then_49 0 rfl ?_
              refine xb_get (v := (thF (PS nh t S) K (S 0) D h_ 2)) flX9_183 dX9_then_51 (s_hp30 (by omega)) rfl (hx8 h_ hh_ 2 (by decide)) ?_
              exact xr_iret dX9_then_54 rfl rfl (⟨_, rfl, rfl, rfl, (Ke.tr (fun pp kk => (fun hh => Or.elim hh (fun h => (Or.inl h)) (fun hh => Or.elim hh (fun h => (Or.inr (Or.inl h))) (fun hh => Or.elim hh (fun h => (Or.inr (Or.inr (Or.inl h)))) (fun h => (Or.inr (Or.inr (Or.inr h)))))))) Ke.rf k7), ⟨⟨⟨nh, by omega, (Eq.trans (k7 13 2 (by decide)) e_cn)⟩, ⟨cm, by omega, (Eq.trans (k7 20 2 (by decide)) e_cm)⟩, ⟨L, by omega, (Eq.trans (k7 1 4 (by decide)) e_L)⟩, (fun kk hkk => by rw [show M6 3 kk = M 3 kk from (Eq.trans (k7 3 kk (by unfold WTS; omega)) rfl)]; exact hv kk hkk), (DI_ke (by intro k; unfold WTS; omega) k7 hD), ⟨n, by omega, (Eq.trans (k7 6 2 (by decide)) e_n)⟩, ⟨un, wn, by omega, by omega, (Eq.trans (k7 41 4 (by decide)) e_un), (Eq.trans (k7 41 5 (by decide)) e_wn)⟩, ⟨b, by omega, (Eq.trans (k7 46 2 (by decide)) e_b)⟩, (fun j hj => by obtain ⟨q, hq, eq⟩ := hkd j hj; exact ⟨q, hq, (show M6 47 j = M 47 j from (Eq.trans (k7 47 j (by unfold WTS; omega)) rfl)).trans eq⟩), ⟨ra, by omega, (Eq.trans (k7 46 3 (by decide)) e_ra)⟩, (fun j hj => by obtain ⟨s, hs, es⟩ := hsl j hj; exact ⟨s, hs, (show M6 (50 + 2 * j) 3 = M (50 + 2 * j) 3 from (Eq.trans (k7 (50 + 2 * j) 3 (by unfold WTS; omega)) rfl)).trans es⟩), (fun j hj => by obtain ⟨q, hq, eq⟩ := hS j hj; exact ⟨q, hq, (show M6 36 j = M 36 j from (Eq.trans (k7 36 j (by unfold WTS; omega)) rfl)).trans eq⟩)⟩, ((if_pos c9).symm.trans (thR_y hn5 hh_ (by omega) ⟨by grind, by grind⟩))⟩⟩)
          · refine xr_ldc coX9_105 dX9_then_31 ?_
            exact xr_iret dX9_then_33 rfl rfl (⟨_, rfl, rfl, rfl, Ke.rf, ⟨⟨⟨nh, by omega, e_cn⟩, ⟨cm, by omega, e_cm⟩, ⟨L, by omega, e_L⟩, (fun kk hkk => by rw [show M 3 kk = M 3 kk from rfl]; exact hv kk hkk), hD, ⟨n, by omega, e_n⟩, ⟨un, wn, by omega, by omega, e_un, e_wn⟩, ⟨b, by omega, e_b⟩, (fun j hj => by obtain ⟨q, hq, eq⟩ := hkd j hj; exact ⟨q, hq, (show M 47 j = M 47 j from rfl).trans eq⟩), ⟨ra, by omega, e_ra⟩, (fun j hj => by obtain ⟨s, hs, es⟩ := hsl j hj; exact ⟨s, hs, (show M (50 + 2 * j) 3 = M (50 + 2 * j) 3 from rfl).trans es⟩), (fun j hj => by obtain ⟨q, hq, eq⟩ := hS j hj; exact ⟨q, hq, (show M 36 j = M 36 j from rfl).trans eq⟩)⟩, (thR_n (fun z => absurd z.2.2.2 (by grind)))⟩⟩)
set_option maxRecDepth 100000 in
set_option maxHeartbeats 4000000 in
theorem gx_X9_falls {nh : Nat} {D : xM} {t : Option zL} {S : Nat → Int32} (h : Int32) {l : Launch} {G : xG} {M : xM} {J : xJ} (hI : InvC M) (hWG : WG nh D S) (hG : CG M nh D t S) : x_M l G fX9_falls 7 0 0 [.ref (0), .int (h)] x_SH M J (qKI WTH M J (fun r M2 => InvC M2 ∧ (r = fallR nh D t S h))) := by
  refine xb_of pX9 (Nat.le_of_ble_eq_true rfl) rfl ?_
  obtain ⟨⟨cn, h_cn, e_cn⟩, ⟨cm, h_cm, e_cm⟩, ⟨L, h_L, e_L⟩, hv, hD, ⟨n, h_n, e_n⟩, ⟨un, wn, h_uw, h_wn, e_un, e_wn⟩, ⟨b, h_b, e_b⟩, hkd, ⟨ra, h_ra, e_ra⟩, hsl, hS⟩ := hI
  obtain ⟨hn5, hW, hrub, hbeat⟩ := hWG
  obtain ⟨hGn, hA, hL, e_nw, e_rub, e_bt, e_ph, e_st, e_kn, e_pu, e_lf⟩ := hG
  obtain rfl : nh = cn := (nI_eq (by omega) (by omega)).mp (hGn.symm.trans e_cn)
  have hbt : ¬ S 2 = 0 := ne2_0 hbeat.1
  have hP : WP (PS nh t S) := ⟨hn5, hrub, hbt⟩
  refine xr_aload_n dX9_falls_0 0 rfl ?_
  refine xr_getR flX9_28 dX9_falls_1 s_0 rfl ?_
  refine xr_iload_n dX9_falls_4 1 rfl ?_
  refine xb_cV (As := [.int (h)]) (rest := []) mlX9_118 (c_X5_has h (by omega) e_cn) dX9_falls_5 s_13 rfl rfl (Nat.le_of_ble_eq_true rfl) (by decide) (by decide) ?_
  refine xb_bne (tgt := 13) dX9_falls_8 rfl (fun c1 => ?_) (fun c1 => ?_)
  · obtain ⟨h_, hh_, rfl⟩ := x_nat (N := nh) (by omega) rfl c1
    refine xr_aload_n dX9_falls_13 0 rfl ?_
    refine xr_getR flX9_40 dX9_falls_14 s_0 rfl ?_
    refine xr_callV (As := []) (rest := []) mlX9_192 (gw_X7_begin (D := D) (t := t) (cn := nh) hn5 e_cn e_nw e_rub e_bt e_ph e_st (LCt_k rfl (fun kl => rfl) (fun kl => rfl) hL) (AbC_k hA (fun i hi j => rfl)) hW) dX9_falls_17 s_27 rfl rfl (Nat.le_of_ble_eq_true rfl) (by decide) ⟨by decide, by decide⟩ (fun v s2 M3 J2 hq => ?_)
    obtain ⟨rfl, rfl, rfl, k4, hT2⟩ := hq
    try dsimp only [Option.toList, List.cons_append, List.nil_append]
    refine xr_aload_n dX9_falls_20 0 rfl ?_
    refine xr_getR flX9_40 dX9_falls_21 s_0 rfl ?_
    refine xr_iload_n dX9_falls_24 1 rfl ?_
    refine xr_callV (As := [.int (nI (h_))]) (rest := []) mlX9_195 (gw_X7_fallOf (P := (PS nh t S)) (h := h_) hP hh_ hT2) dX9_falls_25 s_27 rfl rfl (Nat.le_of_ble_eq_true rfl) (by decide) ⟨by decide, by decide⟩ (fun v s2 M6 J2 hq => ?_)
    obtain ⟨r8, rfl, rfl, rfl, k7, hx5⟩ := hq
    try dsimp only [Option.toList, List.cons_append, List.nil_append]
    exact xr_iret dX9_falls_28 rfl rfl (⟨_, rfl, rfl, rfl, (Ke.tr (fun pp kk => (fun hh => Or.elim hh (fun h => (Or.inl h)) (fun hh => Or.elim hh (fun h => (Or.inr (Or.inl h))) (fun hh => Or.elim hh (fun h => (Or.inr (Or.inr (Or.inl (by omega))))) (fun hh => Or.elim hh (fun h => (Or.inr (Or.inr (Or.inl (by omega))))) (fun h => (Or.inr (Or.inr (Or.inr h))))))))) (Ke.tr (fun pp kk => (fun hh => Or.elim hh (fun h => (Or.inr (Or.inr (Or.inl h)))) (fun h => (Or.inr (Or.inr (Or.inr h)))))) Ke.rf k4) k7), ⟨⟨⟨nh, by omega, (Eq.trans (k7 13 2 (by decide)) (Eq.trans (k4 13 2 (by decide)) e_cn))⟩, ⟨cm, by omega, (Eq.trans (k7 20 2 (by decide)) (Eq.trans (k4 20 2 (by decide)) e_cm))⟩, ⟨L, by omega, (Eq.trans (k7 1 4 (by decide)) (Eq.trans (k4 1 4 (by decide)) e_L))⟩, (fun kk hkk => by rw [show M6 3 kk = M 3 kk from (Eq.trans (k7 3 kk (by unfold WS; omega)) (Eq.trans (k4 3 kk (by unfold WTB; omega)) rfl))]; exact hv kk hkk), (DI_ke (by intro k; unfold WS; omega) k7 (DI_ke (by intro k; unfold WTB; omega) k4 hD)), ⟨n, by omega, (Eq.trans (k7 6 2 (by decide)) (Eq.trans (k4 6 2 (by decide)) e_n))⟩, ⟨un, wn, by omega, by omega, (Eq.trans (k7 41 4 (by decide)) (Eq.trans (k4 41 4 (by decide)) e_un)), (Eq.trans (k7 41 5 (by decide)) (Eq.trans (k4 41 5 (by decide)) e_wn))⟩, ⟨b, by omega, (Eq.trans (k7 46 2 (by decide)) (Eq.trans (k4 46 2 (by decide)) e_b))⟩, (fun j hj => by obtain ⟨q, hq, eq⟩ := hkd j hj; exact ⟨q, hq, (show M6 47 j = M 47 j from (Eq.trans (k7 47 j (by unfold WS; omega)) (Eq.trans (k4 47 j (by unfold WTB; omega)) rfl))).trans eq⟩), ⟨ra, by omega, (Eq.trans (k7 46 3 (by decide)) (Eq.trans (k4 46 3 (by decide)) e_ra))⟩, (fun j hj => by obtain ⟨s, hs, es⟩ := hsl j hj; exact ⟨s, hs, (show M6 (50 + 2 * j) 3 = M (50 + 2 * j) 3 from (Eq.trans (k7 (50 + 2 * j) 3 (by unfold WS; omega)) (Eq.trans (k4 (50 + 2 * j) 3 (by unfold WTB; omega)) rfl))).trans es⟩), (fun j hj => by obtain ⟨q, hq, eq⟩ := hS j hj; exact ⟨q, hq, (show M6 36 j = M 36 j from (Eq.trans (k7 36 j (by unfold WS; omega)) (Eq.trans (k4 36 j (by unfold WTB; omega)) rfl))).trans eq⟩)⟩, (hx5.trans (fallR_y hn5 hh_))⟩⟩)
  · refine xr_iconst (v := -1) dX9_falls_11 rfl ?_
    exact xr_iret dX9_falls_12 rfl rfl (⟨_, rfl, rfl, rfl, Ke.rf, ⟨⟨⟨nh, by omega, e_cn⟩, ⟨cm, by omega, e_cm⟩, ⟨L, by omega, e_L⟩, (fun kk hkk => by rw [show M 3 kk = M 3 kk from rfl]; exact hv kk hkk), hD, ⟨n, by omega, e_n⟩, ⟨un, wn, by omega, by omega, e_un, e_wn⟩, ⟨b, by omega, e_b⟩, (fun j hj => by obtain ⟨q, hq, eq⟩ := hkd j hj; exact ⟨q, hq, (show M 47 j = M 47 j from rfl).trans eq⟩), ⟨ra, by omega, e_ra⟩, (fun j hj => by obtain ⟨s, hs, es⟩ := hsl j hj; exact ⟨s, hs, (show M (50 + 2 * j) 3 = M (50 + 2 * j) 3 from rfl).trans es⟩), (fun j hj => by obtain ⟨q, hq, eq⟩ := hS j hj; exact ⟨q, hq, (show M 36 j = M 36 j from rfl).trans eq⟩)⟩, (fallR_n c1)⟩⟩)
set_option maxRecDepth 100000 in
set_option maxHeartbeats 4000000 in
theorem gx_X9_lasts {nh : Nat} {D : xM} {t : Option zL} {S : Nat → Int32} {l : Launch} {G : xG} {M : xM} {J : xJ} (hI : InvC M) (hWG : WG nh D S) (hG : CG M nh D t S) : x_M l G fX9_lasts 7 0 0 [.ref (0)] x_SH M J (qKI WTH M J (fun r M2 => InvC M2 ∧ (r = lastR nh D t S))) := by
  refine xb_of pX9 (Nat.le_of_ble_eq_true rfl) rfl ?_
  obtain ⟨⟨cn, h_cn, e_cn⟩, ⟨cm, h_cm, e_cm⟩, ⟨L, h_L, e_L⟩, hv, hD, ⟨n, h_n, e_n⟩, ⟨un, wn, h_uw, h_wn, e_un, e_wn⟩, ⟨b, h_b, e_b⟩, hkd, ⟨ra, h_ra, e_ra⟩, hsl, hS⟩ := hI
  obtain ⟨hn5, hW, hrub, hbeat⟩ := hWG
  obtain ⟨hGn, hA, hL, e_nw, e_rub, e_bt, e_ph, e_st, e_kn, e_pu, e_lf⟩ := hG
  obtain rfl : nh = cn := (nI_eq (by omega) (by omega)).mp (hGn.symm.trans e_cn)
  have hbt : ¬ S 2 = 0 := ne2_0 hbeat.1
  have hP : WP (PS nh t S) := ⟨hn5, hrub, hbt⟩
  refine xr_aload_n dX9_lasts_0 0 rfl ?_
  refine xr_getR flX9_40 dX9_lasts_1 s_0 rfl ?_
  refine xr_callV (As := []) (rest := []) mlX9_192 (gw_X7_begin (D := D) (t := t) (cn := nh) hn5 e_cn e_nw e_rub e_bt e_ph e_st (LCt_k rfl (fun kl => rfl) (fun kl => rfl) hL) (AbC_k hA (fun i hi j => rfl)) hW) dX9_lasts_4 s_27 rfl rfl (Nat.le_of_ble_eq_true rfl) (by decide) ⟨by decide, by decide⟩ (fun v s2 M2 J2 hq => ?_)
  obtain ⟨rfl, rfl, rfl, k3, hT1⟩ := hq
  try dsimp only [Option.toList, List.cons_append, List.nil_append]
  refine xr_aload_n dX9_lasts_7 0 rfl ?_
  refine xr_getR flX9_40 dX9_lasts_8 s_0 rfl ?_
  refine xr_callV (As := []) (rest := []) mlX9_198 (gw_X7_lasting (P := (PS nh t S)) hP hT1) dX9_lasts_11 s_27 rfl rfl (Nat.le_of_ble_eq_true rfl) (by decide) ⟨by decide, by decide⟩ (fun v s2 M5 J2 hq => ?_)
  obtain ⟨r7, rfl, rfl, rfl, k6, hx4⟩ := hq
  try dsimp only [Option.toList, List.cons_append, List.nil_append]
  exact xr_iret dX9_lasts_14 rfl rfl (⟨_, rfl, rfl, rfl, (Ke.tr (fun pp kk => (fun hh => Or.elim hh (fun h => (Or.inl h)) (fun hh => Or.elim hh (fun h => (Or.inr (Or.inl h))) (fun hh => Or.elim hh (fun h => (Or.inr (Or.inr (Or.inl (by omega))))) (fun hh => Or.elim hh (fun h => (Or.inr (Or.inr (Or.inl (by omega))))) (fun h => (Or.inr (Or.inr (Or.inr h))))))))) (Ke.tr (fun pp kk => (fun hh => Or.elim hh (fun h => (Or.inr (Or.inr (Or.inl h)))) (fun h => (Or.inr (Or.inr (Or.inr h)))))) Ke.rf k3) k6), ⟨⟨⟨nh, by omega, (Eq.trans (k6 13 2 (by decide)) (Eq.trans (k3 13 2 (by decide)) e_cn))⟩, ⟨cm, by omega, (Eq.trans (k6 20 2 (by decide)) (Eq.trans (k3 20 2 (by decide)) e_cm))⟩, ⟨L, by omega, (Eq.trans (k6 1 4 (by decide)) (Eq.trans (k3 1 4 (by decide)) e_L))⟩, (fun kk hkk => by rw [show M5 3 kk = M 3 kk from (Eq.trans (k6 3 kk (by unfold WS; omega)) (Eq.trans (k3 3 kk (by unfold WTB; omega)) rfl))]; exact hv kk hkk), (DI_ke (by intro k; unfold WS; omega) k6 (DI_ke (by intro k; unfold WTB; omega) k3 hD)), ⟨n, by omega, (Eq.trans (k6 6 2 (by decide)) (Eq.trans (k3 6 2 (by decide)) e_n))⟩, ⟨un, wn, by omega, by omega, (Eq.trans (k6 41 4 (by decide)) (Eq.trans (k3 41 4 (by decide)) e_un)), (Eq.trans (k6 41 5 (by decide)) (Eq.trans (k3 41 5 (by decide)) e_wn))⟩, ⟨b, by omega, (Eq.trans (k6 46 2 (by decide)) (Eq.trans (k3 46 2 (by decide)) e_b))⟩, (fun j hj => by obtain ⟨q, hq, eq⟩ := hkd j hj; exact ⟨q, hq, (show M5 47 j = M 47 j from (Eq.trans (k6 47 j (by unfold WS; omega)) (Eq.trans (k3 47 j (by unfold WTB; omega)) rfl))).trans eq⟩), ⟨ra, by omega, (Eq.trans (k6 46 3 (by decide)) (Eq.trans (k3 46 3 (by decide)) e_ra))⟩, (fun j hj => by obtain ⟨s, hs, es⟩ := hsl j hj; exact ⟨s, hs, (show M5 (50 + 2 * j) 3 = M (50 + 2 * j) 3 from (Eq.trans (k6 (50 + 2 * j) 3 (by unfold WS; omega)) (Eq.trans (k3 (50 + 2 * j) 3 (by unfold WTB; omega)) rfl))).trans es⟩), (fun j hj => by obtain ⟨q, hq, eq⟩ := hS j hj; exact ⟨q, hq, (show M5 36 j = M 36 j from (Eq.trans (k6 36 j (by unfold WS; omega)) (Eq.trans (k3 36 j (by unfold WTB; omega)) rfl))).trans eq⟩)⟩, hx4⟩⟩)
set_option maxRecDepth 100000 in
set_option maxHeartbeats 4000000 in
theorem bfx_i {w : Int32} {b : Nat} (hb2 : 2 ≤ b) (hb : b ≤ 24) {nh : Nat} {D : xM} {t : Option zL} {S : Nat → Int32} (hn5 : nh ≤ 5) (hrub : 0 ≤ S 1 ∧ S 1 ≤ 3) (hbt : ¬ S 2 = 0) (T : Int32 × Int32) {l : Launch} {G : xG} {M : xM} {J : xJ} {Q : xQ} (e_cn : M 13 2 = nI nh) (e_nw : M 13 3 = S 0) (e_rub : M 13 4 = S 1) (e_bt : M 13 5 = S 2) (e_ph : M 13 6 = S 3) (e_st : M 13 7 = S 4) (hL : LCt M t) (hA : AbC 15 nh M D) (hW : WF nh D) (hC : ∀ (wh : Int32) (be : Int32) (M2 : xM), Ke WTH M M2 → ((be, wh) = T) → x_X l G fX9_beatFor 7 0 0 Q 113 [(4, .int (nI (b))), (3, .int (wh)), (2, .int (be)), (1, .int (w)), (0, .ref (0))] [] x_SH M2 J 0 0) : ∀ (m k : Nat) (wh : Int32) (be : Int32) (M1 : xM), k + m = b → Ke WTH M M1 → (bfJ nh D t S b (b - k) k (be, wh) = T) → x_X l G fX9_beatFor 7 0 0 Q 35 [(5, .int (nI (k))), (4, .int (nI (b))), (3, .int (wh)), (2, .int (be)), (1, .int (w)), (0, .ref (0))] [] x_SH M1 J 0 0 := by
  intro m
  induction m with
  | zero =>
    intro k wh be M1 hk hM hI
    refine xr_iload dX9_beatFor_35 0 rfl ?_
    refine xr_iload dX9_beatFor_37 1 rfl ?_
    refine xr_icmp_ge (tgt := 113) dX9_beatFor_39 rfl (fun _ => ?_) (fun c => absurd (nI_le (a := b) (b := k) (by omega) (by omega)) c)
    refine xb_ls (ls2 := [(4, .int (nI (b))), (3, .int (wh)), (2, .int (be)), (1, .int (w)), (0, .ref (0))]) [1, 2, 3, 4, 5] rfl ?_
    exact hC wh be _ hM (by obtain rfl : k = b := (by omega); rw [Nat.sub_self] at hI; exact hI)
  | succ m ih =>
    intro k wh be M1 hk hM hI
    have hkN : k < b := by omega
    refine xr_iload dX9_beatFor_35 0 rfl ?_
    refine xr_iload dX9_beatFor_37 1 rfl ?_
    refine xr_icmp_ge (tgt := 113) dX9_beatFor_39 rfl (fun c => absurd c (nI_ge (a := k) (b := b) (by omega) (by omega))) (fun _ => ?_)
    refine xr_iload_n dX9_beatFor_42 3 rfl ?_
    refine xr_sipush (v := 200) dX9_beatFor_43 rfl ?_
    refine xr_icmp_ge (tgt := 113) dX9_beatFor_46 rfl (fun c1 => ?_) (fun c1 => ?_)
    · refine xb_ls (ls2 := [(4, .int (nI (b))), (3, .int (wh)), (2, .int (be)), (1, .int (w)), (0, .ref (0))]) [1, 2, 3, 4, 5] rfl ?_
      exact hC wh be _ hM ((bfJ_f _ _ (be, wh) (Int32.not_lt.mpr c1)).symm.trans hI)
    · refine xr_aload_n dX9_beatFor_49 5 rfl ?_
      refine xr_getR flX9_40 dX9_beatFor_50 s_0 rfl ?_
      refine xr_callV (As := []) (rest := []) mlX9_192 (gw_X7_begin (D := D) (t := t) (cn := nh) hn5 (Eq.trans (hM 13 2 (by decide)) e_cn) (Eq.trans (hM 13 3 (by decide)) e_nw) (Eq.trans (hM 13 4 (by decide)) e_rub) (Eq.trans (hM 13 5 (by decide)) e_bt) (Eq.trans (hM 13 6 (by decide)) e_ph) (Eq.trans (hM 13 7 (by decide)) e_st) (LCt_k (Eq.trans (hM 1 4 (by unfold WTH; omega)) rfl) (fun kl => (Eq.trans (hM 2 kl (by unfold WTH; omega)) rfl)) (fun kl => (Eq.trans (hM 3 kl (by unfold WTH; omega)) rfl)) hL) (AbC_k hA (fun i hi j => (Eq.trans (hM (15 + i) j (by unfold WTH; omega)) rfl))) hW) dX9_beatFor_53 s_27 rfl rfl (Nat.le_of_ble_eq_true rfl) (by decide) ⟨by decide, by decide⟩ (fun v s2 M3 J2 hq => ?_)
      obtain ⟨rfl, rfl, rfl, k4, hT2⟩ := hq
      try dsimp only [Option.toList, List.cons_append, List.nil_append]
      refine xr_aload_n dX9_beatFor_56 5 rfl ?_
      refine xr_getR flX9_40 dX9_beatFor_57 s_0 rfl ?_
      refine xr_getR flX9_201 dX9_beatFor_60 s_27 rfl ?_
      refine xr_iload dX9_beatFor_63 1 rfl ?_
      refine xr_putI fpX9_202 dX9_beatFor_65 s_28 rfl rfl rfl ?_
      refine xr_aload_n dX9_beatFor_68 5 rfl ?_
      refine xr_getR flX9_40 dX9_beatFor_69 s_0 rfl ?_
      refine xr_getR flX9_201 dX9_beatFor_72 s_27 rfl ?_
      refine xr_iload dX9_beatFor_75 0 rfl ?_
      refine xr_putI fpX9_205 dX9_beatFor_77 s_28 rfl rfl rfl ?_
      refine xr_aload_n dX9_beatFor_80 5 rfl ?_
      refine xr_getR flX9_40 dX9_beatFor_81 s_0 rfl ?_
      refine xr_callV (As := []) (rest := []) mlX9_198 (gw_X7_lasting (P := (nh, t, S 1, nI b, nI k, S 4)) ⟨hn5, hrub, nb0 hb2 hb⟩ (TC_b hT2 (nI b) (nI k))) dX9_beatFor_84 s_27 rfl rfl (Nat.le_of_ble_eq_true rfl) (by decide) ⟨by decide, by decide⟩ (fun v s2 M6 J2 hq => ?_)
      obtain ⟨r8, rfl, rfl, rfl, k7, hx5⟩ := hq
      try dsimp only [Option.toList, List.cons_append, List.nil_append]
      subst hx5
      refine xb_top (y := nI (bfV nh D t S (nI b) (nI k))) rfl ?_
      refine xr_istore (ls2 := [(6, .int (nI (bfV nh D t S (nI b) (nI k)))), (5, .int (nI (k))), (4, .int (nI (b))), (3, .int (wh)), (2, .int (be)), (1, .int (w)), (0, .ref (0))]) dX9_beatFor_87 (by decide) rfl ?_
      refine xr_iload dX9_beatFor_89 0 rfl ?_
      refine xr_iload_n dX9_beatFor_91 4 rfl ?_
      refine xr_icmp_le (tgt := 107) dX9_beatFor_92 rfl (fun c9 => ?_) (fun c9 => ?_)
      · refine xr_iinc (v := nI (k + 1)) (ls2 := [(5, .int (nI (k + 1))), (6, .int (nI (bfV nh D t S (nI b) (nI k)))), (4, .int (nI (b))), (3, .int (wh)), (2, .int (be)), (1, .int (w)), (0, .ref (0))]) dX9_beatFor_107 1 rfl (nI_1 _) (by decide) rfl ?_
        refine xr_goto (tgt := 35) dX9_beatFor_110 rfl ?_
        refine xb_ls (ls2 := [(5, .int (nI (k + 1))), (4, .int (nI (b))), (3, .int (wh)), (2, .int (be)), (1, .int (w)), (0, .ref (0))]) [0, 2, 3, 4, 5, 6] rfl ?_
        exact ih (k + 1) wh be M6 (by omega) (Ke.tr (fun pp kk => (fun hh => Or.elim hh (fun h => (Or.inl h)) (fun hh => Or.elim hh (fun h => (Or.inr (Or.inl h))) (fun hh => Or.elim hh (fun h => (Or.inr (Or.inr (Or.inl (by omega))))) (fun hh => Or.elim hh (fun h => (Or.inr (Or.inr (Or.inl (by omega))))) (fun h => (Or.inr (Or.inr (Or.inr h))))))))) (Ke.up (Or.inr (Or.inr (Or.inl (by omega)))) (Ke.up (Or.inr (Or.inr (Or.inl (by omega)))) (Ke.tr (fun pp kk => (fun hh => Or.elim hh (fun h => (Or.inr (Or.inr (Or.inl h)))) (fun h => (Or.inr (Or.inr (Or.inr h)))))) hM k4))) k7) ((bfJ_e hkN (bf1_n (n := nh) (D := D) (t := t) (S := S) (be := be) (wh := wh) (Int32.not_lt.mpr c9))).trans hI)
      · refine xr_iload dX9_beatFor_95 0 rfl ?_
        refine xr_istore_n (ls2 := [(2, .int (nI (bfV nh D t S (nI b) (nI k)))), (6, .int (nI (bfV nh D t S (nI b) (nI k)))), (5, .int (nI (k))), (4, .int (nI (b))), (3, .int (wh)), (1, .int (w)), (0, .ref (0))]) dX9_beatFor_97 (by decide) rfl ?_
        refine xr_bipush (v := 100) dX9_beatFor_98 rfl ?_
        refine xr_iload dX9_beatFor_100 3 rfl ?_
        refine xr_imul dX9_beatFor_102 ?_
        refine xb_top (y := nI (100 * b)) (nI_mulc 100 b) ?_
        refine xr_iload dX9_beatFor_103 2 rfl ?_
        refine xr_iadd dX9_beatFor_105 ?_
        refine xb_top (y := nI (100 * b + k)) (nI_add (100 * b) (k)) ?_
        refine xr_istore_n (ls2 := [(3, .int (nI (100 * b + k))), (2, .int (nI (bfV nh D t S (nI b) (nI k)))), (6, .int (nI (bfV nh D t S (nI b) (nI k)))), (5, .int (nI (k))), (4, .int (nI (b))), (1, .int (w)), (0, .ref (0))]) dX9_beatFor_106 (by decide) rfl ?_
        refine xr_iinc (v := nI (k + 1)) (ls2 := [(5, .int (nI (k + 1))), (3, .int (nI (100 * b + k))), (2, .int (nI (bfV nh D t S (nI b) (nI k)))), (6, .int (nI (bfV nh D t S (nI b) (nI k)))), (4, .int (nI (b))), (1, .int (w)), (0, .ref (0))]) dX9_beatFor_107 3 rfl (nI_1 _) (by decide) rfl ?_
        refine xr_goto (tgt := 35) dX9_beatFor_110 rfl ?_
        refine xb_ls (ls2 := [(5, .int (nI (k + 1))), (4, .int (nI (b))), (3, .int (nI (100 * b + k))), (2, .int (nI (bfV nh D t S (nI b) (nI k)))), (1, .int (w)), (0, .ref (0))]) [0, 4, 1, 2, 5, 6] rfl ?_
        exact ih (k + 1) (nI (100 * b + k)) (nI (bfV nh D t S (nI b) (nI k))) M6 (by omega) (Ke.tr (fun pp kk => (fun hh => Or.elim hh (fun h => (Or.inl h)) (fun hh => Or.elim hh (fun h => (Or.inr (Or.inl h))) (fun hh => Or.elim hh (fun h => (Or.inr (Or.inr (Or.inl (by omega))))) (fun hh => Or.elim hh (fun h => (Or.inr (Or.inr (Or.inl (by omega))))) (fun h => (Or.inr (Or.inr (Or.inr h))))))))) (Ke.up (Or.inr (Or.inr (Or.inl (by omega)))) (Ke.up (Or.inr (Or.inr (Or.inl (by omega)))) (Ke.tr (fun pp kk => (fun hh => Or.elim hh (fun h => (Or.inr (Or.inr (Or.inl h)))) (fun h => (Or.inr (Or.inr (Or.inr h)))))) hM k4))) k7) ((bfJ_e hkN (bf1_y (n := nh) (D := D) (t := t) (S := S) (be := be) (wh := wh) (Int32.not_le.mp c9))).trans hI)
set_option maxRecDepth 100000 in
set_option maxHeartbeats 4000000 in
theorem bfx_o {w : Int32} {nh : Nat} {D : xM} {t : Option zL} {S : Nat → Int32} (hn5 : nh ≤ 5) (hrub : 0 ≤ S 1 ∧ S 1 ≤ 3) (hbt : ¬ S 2 = 0) (T : Int32 × Int32) {l : Launch} {G : xG} {M : xM} {J : xJ} {Q : xQ} (e_cn : M 13 2 = nI nh) (e_nw : M 13 3 = S 0) (e_rub : M 13 4 = S 1) (e_bt : M 13 5 = S 2) (e_ph : M 13 6 = S 3) (e_st : M 13 7 = S 4) (hL : LCt M t) (hA : AbC 15 nh M D) (hW : WF nh D) (hC : ∀ (wh : Int32) (be : Int32) (M2 : xM), Ke WTH M M2 → ((be, wh) = T) → x_X l G fX9_beatFor 7 0 0 Q 119 [(3, .int (wh)), (2, .int (be)), (1, .int (w)), (0, .ref (0))] [] x_SH M2 J 0 0) : ∀ (m k : Nat) (wh : Int32) (be : Int32) (M1 : xM), k + m = 25 → Ke WTH M M1 → (bfI nh D t S (25 - k) k (be, wh) = T ∧ 2 ≤ k) → x_X l G fX9_beatFor 7 0 0 Q 18 [(4, .int (nI (k))), (3, .int (wh)), (2, .int (be)), (1, .int (w)), (0, .ref (0))] [] x_SH M1 J 0 0 := by
  intro m
  induction m with
  | zero =>
    intro k wh be M1 hk hM hI
    refine xr_iload dX9_beatFor_18 0 rfl ?_
    refine xr_bipush (v := 24) dX9_beatFor_20 rfl ?_
    refine xr_icmp_gt (tgt := 119) dX9_beatFor_22 rfl (fun _ => ?_) (fun c => absurd (nI_lt (a := 24) (b := k) (by omega) (by omega)) c)
    refine xb_ls (ls2 := [(3, .int (wh)), (2, .int (be)), (1, .int (w)), (0, .ref (0))]) [1, 2, 3, 4] rfl ?_
    exact hC wh be _ hM (by obtain rfl : k = 25 := (by omega); exact hI.1)
  | succ m ih =>
    intro k wh be M1 hk hM hI
    have hkN : k < 25 := by omega
    have hk2 := hI.2
    refine xr_iload dX9_beatFor_18 0 rfl ?_
    refine xr_bipush (v := 24) dX9_beatFor_20 rfl ?_
    refine xr_icmp_gt (tgt := 119) dX9_beatFor_22 rfl (fun c => absurd c (nI_nlt (a := 24) (b := k) (by omega) (by omega))) (fun _ => ?_)
    refine xr_iload_n dX9_beatFor_25 2 rfl ?_
    refine xr_sipush (v := 200) dX9_beatFor_26 rfl ?_
    refine xr_icmp_ge (tgt := 119) dX9_beatFor_29 rfl (fun c1 => ?_) (fun c1 => ?_)
    · refine xb_ls (ls2 := [(3, .int (wh)), (2, .int (be)), (1, .int (w)), (0, .ref (0))]) [1, 2, 3, 4] rfl ?_
      exact hC wh be _ hM ((bfI_f _ _ (be, wh) (Int32.not_lt.mpr c1)).symm.trans hI.1)
    · refine xr_iconst (v := 0) dX9_beatFor_32 rfl ?_
      refine xr_istore (ls2 := [(5, .int (0)), (4, .int (nI (k))), (3, .int (wh)), (2, .int (be)), (1, .int (w)), (0, .ref (0))]) dX9_beatFor_33 (by decide) rfl ?_
      refine xb_ls (ls2 := [(5, .int (nI (0))), (4, .int (nI (k))), (3, .int (wh)), (2, .int (be)), (1, .int (w)), (0, .ref (0))]) [0, 1, 2, 3, 4, 5] rfl ?_
      refine bfx_i (b := k) (by omega) (by omega) hn5 hrub hbt (bfJ nh D t S k k 0 (be, wh)) (Eq.trans (hM 13 2 (by decide)) e_cn) (Eq.trans (hM 13 3 (by decide)) e_nw) (Eq.trans (hM 13 4 (by decide)) e_rub) (Eq.trans (hM 13 5 (by decide)) e_bt) (Eq.trans (hM 13 6 (by decide)) e_ph) (Eq.trans (hM 13 7 (by decide)) e_st) (LCt_k (Eq.trans (hM 1 4 (by unfold WTH; omega)) rfl) (fun kl => (Eq.trans (hM 2 kl (by unfold WTH; omega)) rfl)) (fun kl => (Eq.trans (hM 3 kl (by unfold WTH; omega)) rfl)) hL) (AbC_k hA (fun i hi j => (Eq.trans (hM (15 + i) j (by unfold WTH; omega)) rfl))) hW (fun q2 q3 M4 k5 hJ => ?_) (k - 0) 0 wh be M1 (by omega) Ke.rf rfl
      refine xr_iinc (v := nI (k + 1)) (ls2 := [(4, .int (nI (k + 1))), (3, .int (q2)), (2, .int (q3)), (1, .int (w)), (0, .ref (0))]) dX9_beatFor_113 0 rfl (nI_1 _) (by decide) rfl ?_
      refine xr_goto (tgt := 18) dX9_beatFor_116 rfl ?_
      refine xb_ls (ls2 := [(4, .int (nI (k + 1))), (3, .int (q2)), (2, .int (q3)), (1, .int (w)), (0, .ref (0))]) [0, 1, 2, 3, 4] rfl ?_
      exact ih (k + 1) q2 q3 M4 (by omega) (Ke.tr (fun _ _ h => h) hM k5) ⟨by rw [hJ]; exact (bfI_e hkN).trans hI.1, by omega⟩
set_option maxRecDepth 100000 in
set_option maxHeartbeats 4000000 in
theorem gx_X9_beatFor {nh : Nat} {D : xM} {t : Option zL} {S : Nat → Int32} (w : Int32) {l : Launch} {G : xG} {M : xM} {J : xJ} (hI : InvC M) (hWG : WG nh D S) (hG : CG M nh D t S) : x_M l G fX9_beatFor 7 0 0 [.ref (0), .int (w)] x_SH M J (qKI WTH M J (fun r M2 => InvC M2 ∧ (r = bfR nh D t S w))) := by
  refine xb_of pX9 (Nat.le_of_ble_eq_true rfl) rfl ?_
  obtain ⟨⟨cn, h_cn, e_cn⟩, ⟨cm, h_cm, e_cm⟩, ⟨L, h_L, e_L⟩, hv, hD, ⟨n, h_n, e_n⟩, ⟨un, wn, h_uw, h_wn, e_un, e_wn⟩, ⟨b, h_b, e_b⟩, hkd, ⟨ra, h_ra, e_ra⟩, hsl, hS⟩ := hI
  obtain ⟨hn5, hW, hrub, hbeat⟩ := hWG
  obtain ⟨hGn, hA, hL, e_nw, e_rub, e_bt, e_ph, e_st, e_kn, e_pu, e_lf⟩ := hG
  obtain rfl : nh = cn := (nI_eq (by omega) (by omega)).mp (hGn.symm.trans e_cn)
  have hbt : ¬ S 2 = 0 := ne2_0 hbeat.1
  refine xr_iload_n dX9_beatFor_0 1 rfl ?_
  refine xr_if_lt (tgt := 9) dX9_beatFor_1 rfl (fun c1 => ?_) (fun c1 => ?_)
  · refine xr_iconst (v := -1) dX9_beatFor_9 rfl ?_
    exact xr_iret dX9_beatFor_10 rfl rfl (⟨_, rfl, rfl, rfl, Ke.rf, ⟨⟨⟨nh, by omega, e_cn⟩, ⟨cm, by omega, e_cm⟩, ⟨L, by omega, e_L⟩, (fun kk hkk => by rw [show M 3 kk = M 3 kk from rfl]; exact hv kk hkk), hD, ⟨n, by omega, e_n⟩, ⟨un, wn, by omega, by omega, e_un, e_wn⟩, ⟨b, by omega, e_b⟩, (fun j hj => by obtain ⟨q, hq, eq⟩ := hkd j hj; exact ⟨q, hq, (show M 47 j = M 47 j from rfl).trans eq⟩), ⟨ra, by omega, e_ra⟩, (fun j hj => by obtain ⟨s, hs, es⟩ := hsl j hj; exact ⟨s, hs, (show M (50 + 2 * j) 3 = M (50 + 2 * j) 3 from rfl).trans es⟩), (fun j hj => by obtain ⟨q, hq, eq⟩ := hS j hj; exact ⟨q, hq, (show M 36 j = M 36 j from rfl).trans eq⟩)⟩, (by unfold bfR; rw [if_neg (fun z => absurd z.1 (by grind))])⟩⟩)
  · refine xr_iload_n dX9_beatFor_4 1 rfl ?_
    refine xr_iconst (v := 1) dX9_beatFor_5 rfl ?_
    refine xr_icmp_le (tgt := 11) dX9_beatFor_6 rfl (fun c2 => ?_) (fun c2 => ?_)
    · refine xr_iconst (v := -1) dX9_beatFor_11 rfl ?_
      refine xr_istore_n (ls2 := [(2, .int ((-1))), (0, .ref (0)), (1, .int (w))]) dX9_beatFor_12 (by decide) rfl ?_
      refine xr_iconst (v := 0) dX9_beatFor_13 rfl ?_
      refine xr_istore_n (ls2 := [(3, .int (0)), (2, .int ((-1))), (0, .ref (0)), (1, .int (w))]) dX9_beatFor_14 (by decide) rfl ?_
      refine xr_iconst (v := 2) dX9_beatFor_15 rfl ?_
      refine xr_istore (ls2 := [(4, .int (2)), (3, .int (0)), (2, .int ((-1))), (0, .ref (0)), (1, .int (w))]) dX9_beatFor_16 (by decide) rfl ?_
      refine xb_ls (ls2 := [(4, .int (nI (2))), (3, .int (0)), (2, .int ((-1))), (1, .int (w)), (0, .ref (0))]) [0, 1, 2, 4, 3] rfl ?_
      refine bfx_o hn5 hrub hbt (bfI nh D t S 23 2 (-1, 0)) e_cn e_nw e_rub e_bt e_ph e_st (LCt_k rfl (fun kl => rfl) (fun kl => rfl) hL) (AbC_k hA (fun i hi j => rfl)) hW (fun q3 q4 M5 k6 hE => ?_) (25 - 2) 2 0 (-1) M (by omega) Ke.rf ⟨rfl, Nat.le_refl _⟩
      refine xr_iload_n dX9_beatFor_119 2 rfl ?_
      refine xr_if_ne (tgt := 127) dX9_beatFor_120 rfl (fun c7 => ?_) (fun c7 => ?_)
      · refine xr_iload_n dX9_beatFor_127 1 rfl ?_
        exact xr_iret dX9_beatFor_128 rfl rfl (⟨_, rfl, rfl, rfl, (Ke.tr (fun _ _ h => h) Ke.rf k6), ⟨⟨⟨nh, by omega, (Eq.trans (k6 13 2 (by decide)) e_cn)⟩, ⟨cm, by omega, (Eq.trans (k6 20 2 (by decide)) e_cm)⟩, ⟨L, by omega, (Eq.trans (k6 1 4 (by decide)) e_L)⟩, (fun kk hkk => by rw [show M5 3 kk = M 3 kk from (Eq.trans (k6 3 kk (by unfold WTH; omega)) rfl)]; exact hv kk hkk), (DI_ke (by intro k; unfold WTH; omega) k6 hD), ⟨n, by omega, (Eq.trans (k6 6 2 (by decide)) e_n)⟩, ⟨un, wn, by omega, by omega, (Eq.trans (k6 41 4 (by decide)) e_un), (Eq.trans (k6 41 5 (by decide)) e_wn)⟩, ⟨b, by omega, (Eq.trans (k6 46 2 (by decide)) e_b)⟩, (fun j hj => by obtain ⟨q, hq, eq⟩ := hkd j hj; exact ⟨q, hq, (show M5 47 j = M 47 j from (Eq.trans (k6 47 j (by unfold WTH; omega)) rfl)).trans eq⟩), ⟨ra, by omega, (Eq.trans (k6 46 3 (by decide)) e_ra)⟩, (fun j hj => by obtain ⟨s, hs, es⟩ := hsl j hj; exact ⟨s, hs, (show M5 (50 + 2 * j) 3 = M (50 + 2 * j) 3 from (Eq.trans (k6 (50 + 2 * j) 3 (by unfold WTH; omega)) rfl)).trans es⟩), (fun j hj => by obtain ⟨q, hq, eq⟩ := hS j hj; exact ⟨q, hq, (show M5 36 j = M 36 j from (Eq.trans (k6 36 j (by unfold WTH; omega)) rfl)).trans eq⟩)⟩, (by unfold bfR; rw [if_pos ⟨by grind, by grind⟩, if_neg c7, ← hE])⟩⟩)
      · refine xr_iload_n dX9_beatFor_123 0 rfl ?_
        refine xr_goto (tgt := 128) dX9_beatFor_124 rfl ?_
        exact xr_iret dX9_beatFor_128 rfl rfl (⟨_, rfl, rfl, rfl, (Ke.tr (fun _ _ h => h) Ke.rf k6), ⟨⟨⟨nh, by omega, (Eq.trans (k6 13 2 (by decide)) e_cn)⟩, ⟨cm, by omega, (Eq.trans (k6 20 2 (by decide)) e_cm)⟩, ⟨L, by omega, (Eq.trans (k6 1 4 (by decide)) e_L)⟩, (fun kk hkk => by rw [show M5 3 kk = M 3 kk from (Eq.trans (k6 3 kk (by unfold WTH; omega)) rfl)]; exact hv kk hkk), (DI_ke (by intro k; unfold WTH; omega) k6 hD), ⟨n, by omega, (Eq.trans (k6 6 2 (by decide)) e_n)⟩, ⟨un, wn, by omega, by omega, (Eq.trans (k6 41 4 (by decide)) e_un), (Eq.trans (k6 41 5 (by decide)) e_wn)⟩, ⟨b, by omega, (Eq.trans (k6 46 2 (by decide)) e_b)⟩, (fun j hj => by obtain ⟨q, hq, eq⟩ := hkd j hj; exact ⟨q, hq, (show M5 47 j = M 47 j from (Eq.trans (k6 47 j (by unfold WTH; omega)) rfl)).trans eq⟩), ⟨ra, by omega, (Eq.trans (k6 46 3 (by decide)) e_ra)⟩, (fun j hj => by obtain ⟨s, hs, es⟩ := hsl j hj; exact ⟨s, hs, (show M5 (50 + 2 * j) 3 = M (50 + 2 * j) 3 from (Eq.trans (k6 (50 + 2 * j) 3 (by unfold WTH; omega)) rfl)).trans es⟩), (fun j hj => by obtain ⟨q, hq, eq⟩ := hS j hj; exact ⟨q, hq, (show M5 36 j = M 36 j from (Eq.trans (k6 36 j (by unfold WTH; omega)) rfl)).trans eq⟩)⟩, (by unfold bfR; rw [if_pos ⟨by grind, by grind⟩, if_pos c7, ← hE])⟩⟩)
    · refine xr_iconst (v := -1) dX9_beatFor_9 rfl ?_
      exact xr_iret dX9_beatFor_10 rfl rfl (⟨_, rfl, rfl, rfl, Ke.rf, ⟨⟨⟨nh, by omega, e_cn⟩, ⟨cm, by omega, e_cm⟩, ⟨L, by omega, e_L⟩, (fun kk hkk => by rw [show M 3 kk = M 3 kk from rfl]; exact hv kk hkk), hD, ⟨n, by omega, e_n⟩, ⟨un, wn, by omega, by omega, e_un, e_wn⟩, ⟨b, by omega, e_b⟩, (fun j hj => by obtain ⟨q, hq, eq⟩ := hkd j hj; exact ⟨q, hq, (show M 47 j = M 47 j from rfl).trans eq⟩), ⟨ra, by omega, e_ra⟩, (fun j hj => by obtain ⟨s, hs, es⟩ := hsl j hj; exact ⟨s, hs, (show M (50 + 2 * j) 3 = M (50 + 2 * j) 3 from rfl).trans es⟩), (fun j hj => by obtain ⟨q, hq, eq⟩ := hS j hj; exact ⟨q, hq, (show M 36 j = M 36 j from rfl).trans eq⟩)⟩, (by unfold bfR; rw [if_neg (fun z => absurd z.2 (by grind))])⟩⟩)
set_option maxRecDepth 100000 in
set_option maxHeartbeats 4000000 in
theorem lpx {nn : Int32} {nh : Nat} {D : xM} {t : Option zL} {S : Nat → Int32} (hn5 : nh ≤ 5) (hrub : 0 ≤ S 1 ∧ S 1 ≤ 3) (hbt : ¬ S 2 = 0) (T : Int32) {l : Launch} {G : xG} {M : xM} {J : xJ} {Q : xQ} (e_cn : M 13 2 = nI nh) (e_nw : M 13 3 = S 0) (e_rub : M 13 4 = S 1) (e_bt : M 13 5 = S 2) (e_ph : M 13 6 = S 3) (e_st : M 13 7 = S 4) (hL : LCt M t) (hA : AbC 15 nh M D) (hW : WF nh D) (hR : ∀ (r : Int32) (M2 : xM), Ke WTH M M2 → r = T → Q (some (.int r)) x_SH M2 J) (hC : ∀ (M2 : xM), Ke WTH M M2 → (lpA nh D t S nn (6 - 6) 6 = T) → x_X l G fX9_leastPush 7 0 0 Q 58 [(0, .ref (0))] [] x_SH M2 J 0 0) : ∀ (m k : Nat) (M1 : xM), k + m = 6 → Ke WTH M M1 → (lpA nh D t S nn (6 - k) k = T) → x_X l G fX9_leastPush 7 0 0 Q 16 [(2, .int (nI (k))), (1, .int (nn)), (0, .ref (0))] [] x_SH M1 J 0 0 := by
  intro m
  induction m with
  | zero =>
    intro k M1 hk hM hI
    refine xr_iload_n dX9_leastPush_16 0 rfl ?_
    refine xr_iconst (v := 5) dX9_leastPush_17 rfl ?_
    refine xr_icmp_gt (tgt := 58) dX9_leastPush_18 rfl (fun _ => ?_) (fun c => absurd (nI_lt (a := 5) (b := k) (by omega) (by omega)) c)
    refine xb_ls (ls2 := [(0, .ref (0))]) [2] rfl ?_
    exact hC _ hM (by obtain rfl : k = 6 := (by omega); exact hI)
  | succ m ih =>
    intro k M1 hk hM hI
    have hkN : k < 6 := by omega
    refine xr_iload_n dX9_leastPush_16 0 rfl ?_
    refine xr_iconst (v := 5) dX9_leastPush_17 rfl ?_
    refine xr_icmp_gt (tgt := 58) dX9_leastPush_18 rfl (fun c => absurd c (nI_nlt (a := 5) (b := k) (by omega) (by omega))) (fun _ => ?_)
    refine xr_aload_n dX9_leastPush_21 2 rfl ?_
    refine xr_getR flX9_40 dX9_leastPush_22 s_0 rfl ?_
    refine xr_callV (As := []) (rest := []) mlX9_192 (gw_X7_begin (D := D) (t := t) (cn := nh) hn5 (Eq.trans (hM 13 2 (by decide)) e_cn) (Eq.trans (hM 13 3 (by decide)) e_nw) (Eq.trans (hM 13 4 (by decide)) e_rub) (Eq.trans (hM 13 5 (by decide)) e_bt) (Eq.trans (hM 13 6 (by decide)) e_ph) (Eq.trans (hM 13 7 (by decide)) e_st) (LCt_k (Eq.trans (hM 1 4 (by unfold WTH; omega)) rfl) (fun kl => (Eq.trans (hM 2 kl (by unfold WTH; omega)) rfl)) (fun kl => (Eq.trans (hM 3 kl (by unfold WTH; omega)) rfl)) hL) (AbC_k hA (fun i hi j => (Eq.trans (hM (15 + i) j (by unfold WTH; omega)) rfl))) hW) dX9_leastPush_25 s_27 rfl rfl (Nat.le_of_ble_eq_true rfl) (by decide) ⟨by decide, by decide⟩ (fun v s2 M2 J2 hq => ?_)
    obtain ⟨rfl, rfl, rfl, k3, hT1⟩ := hq
    try dsimp only [Option.toList, List.cons_append, List.nil_append]
    refine xr_aload_n dX9_leastPush_28 2 rfl ?_
    refine xr_getR flX9_40 dX9_leastPush_29 s_0 rfl ?_
    refine xr_getR flX9_201 dX9_leastPush_32 s_27 rfl ?_
    refine xr_iload_n dX9_leastPush_35 0 rfl ?_
    refine xr_putI fpX9_208 dX9_leastPush_36 s_28 rfl rfl rfl ?_
    refine xr_aload_n dX9_leastPush_39 2 rfl ?_
    refine xr_getR flX9_40 dX9_leastPush_40 s_0 rfl ?_
    refine xr_callV (As := []) (rest := []) mlX9_198 (gw_X7_lasting (P := (nh, t, S 1, S 2, S 3, nI k)) ⟨hn5, hrub, hbt⟩ (TC_st hT1 (nI k))) dX9_leastPush_43 s_27 rfl rfl (Nat.le_of_ble_eq_true rfl) (by decide) ⟨by decide, by decide⟩ (fun v s2 M5 J2 hq => ?_)
    obtain ⟨r7, rfl, rfl, rfl, k6, hx4⟩ := hq
    try dsimp only [Option.toList, List.cons_append, List.nil_append]
    subst hx4
    refine xb_top (y := nI (lpV nh D t S k)) rfl ?_
    refine xr_iload_n dX9_leastPush_46 1 rfl ?_
    refine xr_icmp_lt (tgt := 52) dX9_leastPush_47 rfl (fun c8 => ?_) (fun c8 => ?_)
    · refine xr_iinc (v := nI (k + 1)) (ls2 := [(2, .int (nI (k + 1))), (1, .int (nn)), (0, .ref (0))]) dX9_leastPush_52 0 rfl (nI_1 _) (by decide) rfl ?_
      refine xr_goto (tgt := 16) dX9_leastPush_55 rfl ?_
      refine xb_ls (ls2 := [(2, .int (nI (k + 1))), (1, .int (nn)), (0, .ref (0))]) [0, 1, 2] rfl ?_
      exact ih (k + 1) M5 (by omega) (Ke.tr (fun pp kk => (fun hh => Or.elim hh (fun h => (Or.inl h)) (fun hh => Or.elim hh (fun h => (Or.inr (Or.inl h))) (fun hh => Or.elim hh (fun h => (Or.inr (Or.inr (Or.inl (by omega))))) (fun hh => Or.elim hh (fun h => (Or.inr (Or.inr (Or.inl (by omega))))) (fun h => (Or.inr (Or.inr (Or.inr h))))))))) (Ke.up (Or.inr (Or.inr (Or.inl (by omega)))) (Ke.tr (fun pp kk => (fun hh => Or.elim hh (fun h => (Or.inr (Or.inr (Or.inl h)))) (fun h => (Or.inr (Or.inr (Or.inr h)))))) hM k3)) k6) ((lpA_n hkN (Int32.not_le.mpr c8)).trans hI)
    · refine xr_iload_n dX9_leastPush_50 0 rfl ?_
      exact xr_iret dX9_leastPush_51 rfl rfl ((hR _ _ (Ke.tr (fun pp kk => (fun hh => Or.elim hh (fun h => (Or.inl h)) (fun hh => Or.elim hh (fun h => (Or.inr (Or.inl h))) (fun hh => Or.elim hh (fun h => (Or.inr (Or.inr (Or.inl (by omega))))) (fun hh => Or.elim hh (fun h => (Or.inr (Or.inr (Or.inl (by omega))))) (fun h => (Or.inr (Or.inr (Or.inr h))))))))) (Ke.up (Or.inr (Or.inr (Or.inl (by omega)))) (Ke.tr (fun pp kk => (fun hh => Or.elim hh (fun h => (Or.inr (Or.inr (Or.inl h)))) (fun h => (Or.inr (Or.inr (Or.inr h)))))) hM k3)) k6) ((lpA_y hkN (Int32.not_lt.mp c8)).symm.trans hI)))
set_option maxRecDepth 100000 in
set_option maxHeartbeats 4000000 in
theorem gx_X9_leastPush {nh : Nat} {D : xM} {t : Option zL} {S : Nat → Int32} (nn : Int32) {l : Launch} {G : xG} {M : xM} {J : xJ} (hI : InvC M) (hWG : WG nh D S) (hG : CG M nh D t S) : x_M l G fX9_leastPush 7 0 0 [.ref (0), .int (nn)] x_SH M J (qKI WTH M J (fun r M2 => InvC M2 ∧ (r = lpR nh D t S nn))) := by
  refine xb_of pX9 (Nat.le_of_ble_eq_true rfl) rfl ?_
  obtain ⟨⟨cn, h_cn, e_cn⟩, ⟨cm, h_cm, e_cm⟩, ⟨L, h_L, e_L⟩, hv, hD, ⟨n, h_n, e_n⟩, ⟨un, wn, h_uw, h_wn, e_un, e_wn⟩, ⟨b, h_b, e_b⟩, hkd, ⟨ra, h_ra, e_ra⟩, hsl, hS⟩ := hI
  obtain ⟨hn5, hW, hrub, hbeat⟩ := hWG
  obtain ⟨hGn, hA, hL, e_nw, e_rub, e_bt, e_ph, e_st, e_kn, e_pu, e_lf⟩ := hG
  obtain rfl : nh = cn := (nI_eq (by omega) (by omega)).mp (hGn.symm.trans e_cn)
  have hbt : ¬ S 2 = 0 := ne2_0 hbeat.1
  refine xr_iload_n dX9_leastPush_0 1 rfl ?_
  refine xr_iconst (v := 1) dX9_leastPush_1 rfl ?_
  refine xr_icmp_lt (tgt := 12) dX9_leastPush_2 rfl (fun c1 => ?_) (fun c1 => ?_)
  · refine xr_iconst (v := -1) dX9_leastPush_12 rfl ?_
    exact xr_iret dX9_leastPush_13 rfl rfl (⟨_, rfl, rfl, rfl, Ke.rf, ⟨⟨⟨nh, by omega, e_cn⟩, ⟨cm, by omega, e_cm⟩, ⟨L, by omega, e_L⟩, (fun kk hkk => by rw [show M 3 kk = M 3 kk from rfl]; exact hv kk hkk), hD, ⟨n, by omega, e_n⟩, ⟨un, wn, by omega, by omega, e_un, e_wn⟩, ⟨b, by omega, e_b⟩, (fun j hj => by obtain ⟨q, hq, eq⟩ := hkd j hj; exact ⟨q, hq, (show M 47 j = M 47 j from rfl).trans eq⟩), ⟨ra, by omega, e_ra⟩, (fun j hj => by obtain ⟨s, hs, es⟩ := hsl j hj; exact ⟨s, hs, (show M (50 + 2 * j) 3 = M (50 + 2 * j) 3 from rfl).trans es⟩), (fun j hj => by obtain ⟨q, hq, eq⟩ := hS j hj; exact ⟨q, hq, (show M 36 j = M 36 j from rfl).trans eq⟩)⟩, (by unfold lpR; rw [if_neg (fun z => absurd z.1 (by grind))])⟩⟩)
  · refine xr_iload_n dX9_leastPush_5 1 rfl ?_
    refine xr_sipush (v := 200) dX9_leastPush_6 rfl ?_
    refine xr_icmp_le (tgt := 14) dX9_leastPush_9 rfl (fun c2 => ?_) (fun c2 => ?_)
    · refine xr_iconst (v := 0) dX9_leastPush_14 rfl ?_
      refine xr_istore_n (ls2 := [(2, .int (0)), (0, .ref (0)), (1, .int (nn))]) dX9_leastPush_15 (by decide) rfl ?_
      refine xb_ls (ls2 := [(2, .int (nI (0))), (1, .int (nn)), (0, .ref (0))]) [0, 2, 1] rfl ?_
      refine lpx hn5 hrub hbt (lpA nh D t S nn 6 0) e_cn e_nw e_rub e_bt e_ph e_st (LCt_k rfl (fun kl => rfl) (fun kl => rfl) hL) (AbC_k hA (fun i hi j => rfl)) hW (fun r M2 hk hr => ⟨_, rfl, rfl, rfl, hk, ⟨⟨nh, by omega, (Eq.trans (hk 13 2 (by decide)) e_cn)⟩, ⟨cm, by omega, (Eq.trans (hk 20 2 (by decide)) e_cm)⟩, ⟨L, by omega, (Eq.trans (hk 1 4 (by decide)) e_L)⟩, (fun kk hkk => by rw [show M2 3 kk = M 3 kk from (Eq.trans (hk 3 kk (by unfold WTH; omega)) rfl)]; exact hv kk hkk), (DI_ke (by intro k; unfold WTH; omega) hk hD), ⟨n, by omega, (Eq.trans (hk 6 2 (by decide)) e_n)⟩, ⟨un, wn, by omega, by omega, (Eq.trans (hk 41 4 (by decide)) e_un), (Eq.trans (hk 41 5 (by decide)) e_wn)⟩, ⟨b, by omega, (Eq.trans (hk 46 2 (by decide)) e_b)⟩, (fun j hj => by obtain ⟨q, hq, eq⟩ := hkd j hj; exact ⟨q, hq, (show M2 47 j = M 47 j from (Eq.trans (hk 47 j (by unfold WTH; omega)) rfl)).trans eq⟩), ⟨ra, by omega, (Eq.trans (hk 46 3 (by decide)) e_ra)⟩, (fun j hj => by obtain ⟨s, hs, es⟩ := hsl j hj; exact ⟨s, hs, (show M2 (50 + 2 * j) 3 = M (50 + 2 * j) 3 from (Eq.trans (hk (50 + 2 * j) 3 (by unfold WTH; omega)) rfl)).trans es⟩), (fun j hj => by obtain ⟨q, hq, eq⟩ := hS j hj; exact ⟨q, hq, (show M2 36 j = M 36 j from (Eq.trans (hk 36 j (by unfold WTH; omega)) rfl)).trans eq⟩)⟩, (by unfold lpR; rw [if_pos ⟨by grind, by grind⟩]; exact hr)⟩) (fun M3 k4 hE => ?_) (6 - 0) 0 M (by omega) Ke.rf rfl
      refine xr_bipush (v := -2) dX9_leastPush_58 rfl ?_
      exact xr_iret dX9_leastPush_60 rfl rfl (⟨_, rfl, rfl, rfl, (Ke.tr (fun _ _ h => h) Ke.rf k4), ⟨⟨⟨nh, by omega, (Eq.trans (k4 13 2 (by decide)) e_cn)⟩, ⟨cm, by omega, (Eq.trans (k4 20 2 (by decide)) e_cm)⟩, ⟨L, by omega, (Eq.trans (k4 1 4 (by decide)) e_L)⟩, (fun kk hkk => by rw [show M3 3 kk = M 3 kk from (Eq.trans (k4 3 kk (by unfold WTH; omega)) rfl)]; exact hv kk hkk), (DI_ke (by intro k; unfold WTH; omega) k4 hD), ⟨n, by omega, (Eq.trans (k4 6 2 (by decide)) e_n)⟩, ⟨un, wn, by omega, by omega, (Eq.trans (k4 41 4 (by decide)) e_un), (Eq.trans (k4 41 5 (by decide)) e_wn)⟩, ⟨b, by omega, (Eq.trans (k4 46 2 (by decide)) e_b)⟩, (fun j hj => by obtain ⟨q, hq, eq⟩ := hkd j hj; exact ⟨q, hq, (show M3 47 j = M 47 j from (Eq.trans (k4 47 j (by unfold WTH; omega)) rfl)).trans eq⟩), ⟨ra, by omega, (Eq.trans (k4 46 3 (by decide)) e_ra)⟩, (fun j hj => by obtain ⟨s, hs, es⟩ := hsl j hj; exact ⟨s, hs, (show M3 (50 + 2 * j) 3 = M (50 + 2 * j) 3 from (Eq.trans (k4 (50 + 2 * j) 3 (by unfold WTH; omega)) rfl)).trans es⟩), (fun j hj => by obtain ⟨q, hq, eq⟩ := hS j hj; exact ⟨q, hq, (show M3 36 j = M 36 j from (Eq.trans (k4 36 j (by unfold WTH; omega)) rfl)).trans eq⟩)⟩, (by unfold lpR; rw [if_pos ⟨by grind, by grind⟩]; exact hE)⟩⟩)
    · refine xr_iconst (v := -1) dX9_leastPush_12 rfl ?_
      exact xr_iret dX9_leastPush_13 rfl rfl (⟨_, rfl, rfl, rfl, Ke.rf, ⟨⟨⟨nh, by omega, e_cn⟩, ⟨cm, by omega, e_cm⟩, ⟨L, by omega, e_L⟩, (fun kk hkk => by rw [show M 3 kk = M 3 kk from rfl]; exact hv kk hkk), hD, ⟨n, by omega, e_n⟩, ⟨un, wn, by omega, by omega, e_un, e_wn⟩, ⟨b, by omega, e_b⟩, (fun j hj => by obtain ⟨q, hq, eq⟩ := hkd j hj; exact ⟨q, hq, (show M 47 j = M 47 j from rfl).trans eq⟩), ⟨ra, by omega, e_ra⟩, (fun j hj => by obtain ⟨s, hs, es⟩ := hsl j hj; exact ⟨s, hs, (show M (50 + 2 * j) 3 = M (50 + 2 * j) 3 from rfl).trans es⟩), (fun j hj => by obtain ⟨q, hq, eq⟩ := hS j hj; exact ⟨q, hq, (show M 36 j = M 36 j from rfl).trans eq⟩)⟩, (by unfold lpR; rw [if_neg (fun z => absurd z.2 (by grind))])⟩⟩)
set_option maxRecDepth 100000 in
set_option maxHeartbeats 4000000 in
theorem stx {h : Nat} {nh : Nat} {D : xM} {t : Option zL} {S : Nat → Int32} (hh : h < nh) (hup : ¬ D h 4 = 0) (hn5 : nh ≤ 5) (hrub : 0 ≤ S 1 ∧ S 1 ≤ 3) (hbt : ¬ S 2 = 0) (T : Int32 × Int32) {l : Launch} {G : xG} {M : xM} {J : xJ} {Q : xQ} (e_cn : M 13 2 = nI nh) (e_nw : M 13 3 = S 0) (e_rub : M 13 4 = S 1) (e_bt : M 13 5 = S 2) (e_ph : M 13 6 = S 3) (e_st : M 13 7 = S 4) (hL : LCt M t) (hA : AbC 15 nh M D) (hW : WF nh D) (hC : ∀ (la : Int32) (be : Int32) (M2 : xM), Ke WTH M M2 → (be = T.1) → x_X l G fX9_start 7 0 0 Q 117 [(2, .int (be)), (0, .ref (0))] [] x_SH M2 J 0 0) : ∀ (m k : Nat) (la : Int32) (be : Int32) (M1 : xM), k + m = 19 → Ke WTH M M1 → (stL nh D t S h (19 - k) k (be, la) = T) → x_X l G fX9_start 7 0 0 Q 41 [(4, .int (pv k)), (3, .int (la)), (2, .int (be)), (1, .int (nI (h))), (0, .ref (0))] [] x_SH M1 J 0 0 := by
  intro m
  induction m with
  | zero =>
    intro k la be M1 hk hM hI
    have hP : WP (PS nh t S) := ⟨hn5, hrub, hbt⟩
    refine xr_iload dX9_start_41 0 rfl ?_
    refine xr_bipush (v := 9) dX9_start_43 rfl ?_
    refine xr_icmp_gt (tgt := 117) dX9_start_45 rfl (fun _ => ?_) (fun c => absurd (pv_gt (k := k) (by omega)) c)
    refine xb_ls (ls2 := [(2, .int (be)), (0, .ref (0))]) [2, 4] rfl ?_
    exact hC la be _ hM (by obtain rfl : k = 19 := (by omega); exact congrArg Prod.fst hI)
  | succ m ih =>
    intro k la be M1 hk hM hI
    have hkN : k < 19 := by omega
    have hP : WP (PS nh t S) := ⟨hn5, hrub, hbt⟩
    refine xr_iload dX9_start_41 0 rfl ?_
    refine xr_bipush (v := 9) dX9_start_43 rfl ?_
    refine xr_icmp_gt (tgt := 117) dX9_start_45 rfl (fun c => absurd c (pv_le (k := k) (by omega))) (fun _ => ?_)
    refine xr_aload_n dX9_start_48 4 rfl ?_
    refine xr_getR flX9_40 dX9_start_49 s_0 rfl ?_
    refine xr_callV (As := []) (rest := []) mlX9_192 (gw_X7_begin (D := D) (t := t) (cn := nh) hn5 (Eq.trans (hM 13 2 (by decide)) e_cn) (Eq.trans (hM 13 3 (by decide)) e_nw) (Eq.trans (hM 13 4 (by decide)) e_rub) (Eq.trans (hM 13 5 (by decide)) e_bt) (Eq.trans (hM 13 6 (by decide)) e_ph) (Eq.trans (hM 13 7 (by decide)) e_st) (LCt_k (Eq.trans (hM 1 4 (by unfold WTH; omega)) rfl) (fun kl => (Eq.trans (hM 2 kl (by unfold WTH; omega)) rfl)) (fun kl => (Eq.trans (hM 3 kl (by unfold WTH; omega)) rfl)) hL) (AbC_k hA (fun i hi j => (Eq.trans (hM (15 + i) j (by unfold WTH; omega)) rfl))) hW) dX9_start_52 s_27 rfl rfl (Nat.le_of_ble_eq_true rfl) (by decide) ⟨by decide, by decide⟩ (fun v s2 M2 J2 hq => ?_)
    obtain ⟨rfl, rfl, rfl, k3, hT1⟩ := hq
    try dsimp only [Option.toList, List.cons_append, List.nil_append]
    refine xr_aload_n dX9_start_55 4 rfl ?_
    refine xr_getR flX9_40 dX9_start_56 s_0 rfl ?_
    refine xr_getR flX9_201 dX9_start_59 s_27 rfl ?_
    refine xr_getR flX9_121 dX9_start_62 s_28 rfl ?_
    refine xr_iload_n dX9_start_65 3 rfl ?_
    refine xb_aald (j := h) (q := 30 + h) (by decide) dX9_start_66 s_29 (by omega) (by decide) (if_pos (by omega)) ?_
    refine xr_iload dX9_start_67 0 rfl ?_
    refine xr_putI fpX9_186 dX9_start_69 (s_hp30 (by omega)) rfl rfl rfl ?_
    refine xr_aload_n dX9_start_72 4 rfl ?_
    refine xr_getR flX9_40 dX9_start_73 s_0 rfl ?_
    refine xr_iload_n dX9_start_76 3 rfl ?_
    refine xr_callV (As := [.int (nI (h))]) (rest := []) mlX9_195 (gw_X7_fallOf (P := (PS nh t S)) (h := h) hP hh (TC_p (h := h) hT1 (pv_b (by omega)) (fun z => absurd z hup))) dX9_start_77 s_27 rfl rfl (Nat.le_of_ble_eq_true rfl) (by decide) ⟨by decide, by decide⟩ (fun v s2 M5 J2 hq => ?_)
    obtain ⟨r7, rfl, rfl, rfl, k6, hx4⟩ := hq
    try dsimp only [Option.toList, List.cons_append, List.nil_append]
    subst hx4
    refine xb_top (y := faR (stV nh D t S h k)) rfl ?_
    have hv9 : stV nh D t S h k ≤ 201 := faV_le
    refine xr_istore (ls2 := [(5, .int ((faR (stV nh D t S h k)))), (4, .int (pv k)), (3, .int (la)), (2, .int (be)), (1, .int (nI (h))), (0, .ref (0))]) dX9_start_80 (by decide) rfl ?_
    refine xr_iload dX9_start_82 0 rfl ?_
    refine xr_bipush (v := -2) dX9_start_84 rfl ?_
    refine xr_icmp_ne (tgt := 95) dX9_start_86 rfl (fun c8 => ?_) (fun c8 => ?_)
    · refine xr_iload dX9_start_95 0 rfl ?_
      refine xb_top (y := nI (stV nh D t S h k)) (faR_2 c8) ?_
      refine xr_istore (ls2 := [(6, .int (nI (stV nh D t S h k))), (5, .int ((faR (stV nh D t S h k)))), (4, .int (pv k)), (3, .int (la)), (2, .int (be)), (1, .int (nI (h))), (0, .ref (0))]) dX9_start_97 (by decide) rfl ?_
      refine xr_iload dX9_start_99 0 rfl ?_
      refine xr_iload_n dX9_start_101 3 rfl ?_
      refine xr_icmp_le (tgt := 111) dX9_start_102 rfl (fun c9 => ?_) (fun c9 => ?_)
      · refine xr_iinc (v := pv (k + 1)) (ls2 := [(4, .int (pv (k + 1))), (6, .int (nI (stV nh D t S h k))), (5, .int ((faR (stV nh D t S h k)))), (3, .int (la)), (2, .int (be)), (1, .int (nI (h))), (0, .ref (0))]) dX9_start_111 2 rfl (pv_s (by omega)) (by decide) rfl ?_
        refine xr_goto (tgt := 41) dX9_start_114 rfl ?_
        refine xb_ls (ls2 := [(4, .int (pv (k + 1))), (3, .int (la)), (2, .int (be)), (1, .int (nI (h))), (0, .ref (0))]) [0, 3, 4, 5, 6] rfl ?_
        exact ih (k + 1) la be M5 (by omega) (Ke.tr (fun pp kk => (fun hh => Or.elim hh (fun h => (Or.inl h)) (fun hh => Or.elim hh (fun h => (Or.inr (Or.inl h))) (fun hh => Or.elim hh (fun h => (Or.inr (Or.inr (Or.inl (by omega))))) (fun hh => Or.elim hh (fun h => (Or.inr (Or.inr (Or.inl (by omega))))) (fun h => (Or.inr (Or.inr (Or.inr h))))))))) (Ke.up (Or.inr (Or.inr (Or.inr (by omega)))) (Ke.tr (fun pp kk => (fun hh => Or.elim hh (fun h => (Or.inr (Or.inr (Or.inl h)))) (fun h => (Or.inr (Or.inr (Or.inr h)))))) hM k3)) k6) ((stL_e hkN (st1_n (n := nh) (D := D) (t := t) (S := S) (be := be) (la := la) (Int32.not_lt.mpr c9))).trans hI)
      · refine xr_iload dX9_start_105 0 rfl ?_
        refine xr_istore_n (ls2 := [(3, .int (nI (stV nh D t S h k))), (6, .int (nI (stV nh D t S h k))), (5, .int ((faR (stV nh D t S h k)))), (4, .int (pv k)), (2, .int (be)), (1, .int (nI (h))), (0, .ref (0))]) dX9_start_107 (by decide) rfl ?_
        refine xr_iload dX9_start_108 3 rfl ?_
        refine xr_istore_n (ls2 := [(2, .int (pv k)), (3, .int (nI (stV nh D t S h k))), (6, .int (nI (stV nh D t S h k))), (5, .int ((faR (stV nh D t S h k)))), (4, .int (pv k)), (1, .int (nI (h))), (0, .ref (0))]) dX9_start_110 (by decide) rfl ?_
        refine xr_iinc (v := pv (k + 1)) (ls2 := [(4, .int (pv (k + 1))), (2, .int (pv k)), (3, .int (nI (stV nh D t S h k))), (6, .int (nI (stV nh D t S h k))), (5, .int ((faR (stV nh D t S h k)))), (1, .int (nI (h))), (0, .ref (0))]) dX9_start_111 4 rfl (pv_s (by omega)) (by decide) rfl ?_
        refine xr_goto (tgt := 41) dX9_start_114 rfl ?_
        refine xb_ls (ls2 := [(4, .int (pv (k + 1))), (3, .int (nI (stV nh D t S h k))), (2, .int (pv k)), (1, .int (nI (h))), (0, .ref (0))]) [0, 2, 1, 5, 6] rfl ?_
        exact ih (k + 1) (nI (stV nh D t S h k)) (pv k) M5 (by omega) (Ke.tr (fun pp kk => (fun hh => Or.elim hh (fun h => (Or.inl h)) (fun hh => Or.elim hh (fun h => (Or.inr (Or.inl h))) (fun hh => Or.elim hh (fun h => (Or.inr (Or.inr (Or.inl (by omega))))) (fun hh => Or.elim hh (fun h => (Or.inr (Or.inr (Or.inl (by omega))))) (fun h => (Or.inr (Or.inr (Or.inr h))))))))) (Ke.up (Or.inr (Or.inr (Or.inr (by omega)))) (Ke.tr (fun pp kk => (fun hh => Or.elim hh (fun h => (Or.inr (Or.inr (Or.inl h)))) (fun h => (Or.inr (Or.inr (Or.inr h)))))) hM k3)) k6) ((stL_e hkN (st1_y (n := nh) (D := D) (t := t) (S := S) (be := be) (la := la) (Int32.not_le.mp c9))).trans hI)
    · refine xr_sipush (v := 201) dX9_start_89 rfl ?_
      refine xr_goto (tgt := 97) dX9_start_92 rfl ?_
      refine xb_top (y := nI (stV nh D t S h k)) (faR_1 hv9 c8) ?_
      refine xr_istore (ls2 := [(6, .int (nI (stV nh D t S h k))), (5, .int ((faR (stV nh D t S h k)))), (4, .int (pv k)), (3, .int (la)), (2, .int (be)), (1, .int (nI (h))), (0, .ref (0))]) dX9_start_97 (by decide) rfl ?_
      refine xr_iload dX9_start_99 0 rfl ?_
      refine xr_iload_n dX9_start_101 3 rfl ?_
      refine xr_icmp_le (tgt := 111) dX9_start_102 rfl (fun c10 => ?_) (fun c10 => ?_)
      · refine xr_iinc (v := pv (k + 1)) (ls2 := [(4, .int (pv (k + 1))), (6, .int (nI (stV nh D t S h k))), (5, .int ((faR (stV nh D t S h k)))), (3, .int (la)), (2, .int (be)), (1, .int (nI (h))), (0, .ref (0))]) dX9_start_111 2 rfl (pv_s (by omega)) (by decide) rfl ?_
        refine xr_goto (tgt := 41) dX9_start_114 rfl ?_
        refine xb_ls (ls2 := [(4, .int (pv (k + 1))), (3, .int (la)), (2, .int (be)), (1, .int (nI (h))), (0, .ref (0))]) [0, 3, 4, 5, 6] rfl ?_
        exact ih (k + 1) la be M5 (by omega) (Ke.tr (fun pp kk => (fun hh => Or.elim hh (fun h => (Or.inl h)) (fun hh => Or.elim hh (fun h => (Or.inr (Or.inl h))) (fun hh => Or.elim hh (fun h => (Or.inr (Or.inr (Or.inl (by omega))))) (fun hh => Or.elim hh (fun h => (Or.inr (Or.inr (Or.inl (by omega))))) (fun h => (Or.inr (Or.inr (Or.inr h))))))))) (Ke.up (Or.inr (Or.inr (Or.inr (by omega)))) (Ke.tr (fun pp kk => (fun hh => Or.elim hh (fun h => (Or.inr (Or.inr (Or.inl h)))) (fun h => (Or.inr (Or.inr (Or.inr h)))))) hM k3)) k6) ((stL_e hkN (st1_n (n := nh) (D := D) (t := t) (S := S) (be := be) (la := la) (Int32.not_lt.mpr c10))).trans hI)
      · refine xr_iload dX9_start_105 0 rfl ?_
        refine xr_istore_n (ls2 := [(3, .int (nI (stV nh D t S h k))), (6, .int (nI (stV nh D t S h k))), (5, .int ((faR (stV nh D t S h k)))), (4, .int (pv k)), (2, .int (be)), (1, .int (nI (h))), (0, .ref (0))]) dX9_start_107 (by decide) rfl ?_
        refine xr_iload dX9_start_108 3 rfl ?_
        refine xr_istore_n (ls2 := [(2, .int (pv k)), (3, .int (nI (stV nh D t S h k))), (6, .int (nI (stV nh D t S h k))), (5, .int ((faR (stV nh D t S h k)))), (4, .int (pv k)), (1, .int (nI (h))), (0, .ref (0))]) dX9_start_110 (by decide) rfl ?_
        refine xr_iinc (v := pv (k + 1)) (ls2 := [(4, .int (pv (k + 1))), (2, .int (pv k)), (3, .int (nI (stV nh D t S h k))), (6, .int (nI (stV nh D t S h k))), (5, .int ((faR (stV nh D t S h k)))), (1, .int (nI (h))), (0, .ref (0))]) dX9_start_111 4 rfl (pv_s (by omega)) (by decide) rfl ?_
        refine xr_goto (tgt := 41) dX9_start_114 rfl ?_
        refine xb_ls (ls2 := [(4, .int (pv (k + 1))), (3, .int (nI (stV nh D t S h k))), (2, .int (pv k)), (1, .int (nI (h))), (0, .ref (0))]) [0, 2, 1, 5, 6] rfl ?_
        exact ih (k + 1) (nI (stV nh D t S h k)) (pv k) M5 (by omega) (Ke.tr (fun pp kk => (fun hh => Or.elim hh (fun h => (Or.inl h)) (fun hh => Or.elim hh (fun h => (Or.inr (Or.inl h))) (fun hh => Or.elim hh (fun h => (Or.inr (Or.inr (Or.inl (by omega))))) (fun hh => Or.elim hh (fun h => (Or.inr (Or.inr (Or.inl (by omega))))) (fun h => (Or.inr (Or.inr (Or.inr h))))))))) (Ke.up (Or.inr (Or.inr (Or.inr (by omega)))) (Ke.tr (fun pp kk => (fun hh => Or.elim hh (fun h => (Or.inr (Or.inr (Or.inl h)))) (fun h => (Or.inr (Or.inr (Or.inr h)))))) hM k3)) k6) ((stL_e hkN (st1_y (n := nh) (D := D) (t := t) (S := S) (be := be) (la := la) (Int32.not_le.mp c10))).trans hI)
set_option maxRecDepth 100000 in
set_option maxHeartbeats 4000000 in
theorem gx_X9_start {nh : Nat} {D : xM} {t : Option zL} {S : Nat → Int32} (h : Int32) {l : Launch} {G : xG} {M : xM} {J : xJ} (hI : InvC M) (hWG : WG nh D S) (hG : CG M nh D t S) : x_M l G fX9_start 7 0 0 [.ref (0), .int (h)] x_SH M J (qKI WTH M J (fun r M2 => InvC M2 ∧ (r = stR nh D t S h))) := by
  refine xb_of pX9 (Nat.le_of_ble_eq_true rfl) rfl ?_
  obtain ⟨⟨cn, h_cn, e_cn⟩, ⟨cm, h_cm, e_cm⟩, ⟨L, h_L, e_L⟩, hv, hD, ⟨n, h_n, e_n⟩, ⟨un, wn, h_uw, h_wn, e_un, e_wn⟩, ⟨b, h_b, e_b⟩, hkd, ⟨ra, h_ra, e_ra⟩, hsl, hS⟩ := hI
  obtain ⟨hn5, hW, hrub, hbeat⟩ := hWG
  obtain ⟨hGn, hA, hL, e_nw, e_rub, e_bt, e_ph, e_st, e_kn, e_pu, e_lf⟩ := hG
  obtain rfl : nh = cn := (nI_eq (by omega) (by omega)).mp (hGn.symm.trans e_cn)
  have hbt : ¬ S 2 = 0 := ne2_0 hbeat.1
  refine xr_aload_n dX9_start_0 0 rfl ?_
  refine xr_getR flX9_28 dX9_start_1 s_0 rfl ?_
  refine xr_iload_n dX9_start_4 1 rfl ?_
  refine xb_cV (As := [.int (h)]) (rest := []) mlX9_118 (c_X5_has h (by omega) e_cn) dX9_start_5 s_13 rfl rfl (Nat.le_of_ble_eq_true rfl) (by decide) (by decide) ?_
  refine xb_bne (tgt := 14) dX9_start_8 rfl (fun c1 => ?_) (fun c1 => ?_)
  · obtain ⟨h_, hh_, rfl⟩ := x_nat (N := nh) (by omega) rfl c1
    refine xr_aload_n dX9_start_14 0 rfl ?_
    refine xr_getR flX9_28 dX9_start_15 s_0 rfl ?_
    refine xr_getR flX9_121 dX9_start_18 s_13 rfl ?_
    refine xr_iload_n dX9_start_21 1 rfl ?_
    refine xb_aald (j := h_) (q := 15 + h_) (by decide) dX9_start_22 s_14 (by omega) (by decide) (if_pos (by omega)) ?_
    refine xb_cV (As := []) (rest := []) mlX9_167 (c_X2_lies (s_hp15 (by omega))) dX9_start_23 (s_hp15 (by omega)) rfl rfl (Nat.le_of_ble_eq_true rfl) (by decide) (by decide) ?_
    refine xb_beq (tgt := 32) dX9_start_26 rfl (fun c2 => ?_) (fun c2 => ?_)
    · refine xr_bipush (v := -9) dX9_start_32 rfl ?_
      refine xr_istore_n (ls2 := [(2, .int ((-9))), (0, .ref (0)), (1, .int (nI (h_)))]) dX9_start_34 (by decide) rfl ?_
      refine xr_iconst (v := -1) dX9_start_35 rfl ?_
      refine xr_istore_n (ls2 := [(3, .int ((-1))), (2, .int ((-9))), (0, .ref (0)), (1, .int (nI (h_)))]) dX9_start_36 (by decide) rfl ?_
      refine xr_bipush (v := -9) dX9_start_37 rfl ?_
      refine xr_istore (ls2 := [(4, .int ((-9))), (3, .int ((-1))), (2, .int ((-9))), (0, .ref (0)), (1, .int (nI (h_)))]) dX9_start_39 (by decide) rfl ?_
      refine xb_ls (ls2 := [(4, .int ((-9))), (3, .int ((-1))), (2, .int ((-9))), (1, .int (nI (h_))), (0, .ref (0))]) [0, 1, 2, 4, 3] rfl ?_
      refine stx hh_ (fun z => c2 ((hA h_ hh_ 4 (by decide)).trans z)) hn5 hrub hbt (stL nh D t S h_ 19 0 (-9, -1)) e_cn e_nw e_rub e_bt e_ph e_st (LCt_k rfl (fun kl => rfl) (fun kl => rfl) hL) (AbC_k hA (fun i hi j => rfl)) hW (fun q3 q4 M5 k6 hE => ?_) (19 - 0) 0 (-1) (-9) M (by omega) Ke.rf rfl
      refine xr_iload_n dX9_start_117 0 rfl ?_
      exact xr_iret dX9_start_118 rfl rfl (⟨_, rfl, rfl, rfl, (Ke.tr (fun _ _ h => h) Ke.rf k6), ⟨⟨⟨nh, by omega, (Eq.trans (k6 13 2 (by decide)) e_cn)⟩, ⟨cm, by omega, (Eq.trans (k6 20 2 (by decide)) e_cm)⟩, ⟨L, by omega, (Eq.trans (k6 1 4 (by decide)) e_L)⟩, (fun kk hkk => by rw [show M5 3 kk = M 3 kk from (Eq.trans (k6 3 kk (by unfold WTH; omega)) rfl)]; exact hv kk hkk), (DI_ke (by intro k; unfold WTH; omega) k6 hD), ⟨n, by omega, (Eq.trans (k6 6 2 (by decide)) e_n)⟩, ⟨un, wn, by omega, by omega, (Eq.trans (k6 41 4 (by decide)) e_un), (Eq.trans (k6 41 5 (by decide)) e_wn)⟩, ⟨b, by omega, (Eq.trans (k6 46 2 (by decide)) e_b)⟩, (fun j hj => by obtain ⟨q, hq, eq⟩ := hkd j hj; exact ⟨q, hq, (show M5 47 j = M 47 j from (Eq.trans (k6 47 j (by unfold WTH; omega)) rfl)).trans eq⟩), ⟨ra, by omega, (Eq.trans (k6 46 3 (by decide)) e_ra)⟩, (fun j hj => by obtain ⟨s, hs, es⟩ := hsl j hj; exact ⟨s, hs, (show M5 (50 + 2 * j) 3 = M (50 + 2 * j) 3 from (Eq.trans (k6 (50 + 2 * j) 3 (by unfold WTH; omega)) rfl)).trans es⟩), (fun j hj => by obtain ⟨q, hq, eq⟩ := hS j hj; exact ⟨q, hq, (show M5 36 j = M 36 j from (Eq.trans (k6 36 j (by unfold WTH; omega)) rfl)).trans eq⟩)⟩, ((hE.trans (if_neg (fun z => c2 ((hA h_ hh_ 4 (by decide)).trans z))).symm).trans (stR_y hn5 hh_))⟩⟩)
    · refine xr_bipush (v := -5) dX9_start_29 rfl ?_
      exact xr_iret dX9_start_31 rfl rfl (⟨_, rfl, rfl, rfl, Ke.rf, ⟨⟨⟨nh, by omega, e_cn⟩, ⟨cm, by omega, e_cm⟩, ⟨L, by omega, e_L⟩, (fun kk hkk => by rw [show M 3 kk = M 3 kk from rfl]; exact hv kk hkk), hD, ⟨n, by omega, e_n⟩, ⟨un, wn, by omega, by omega, e_un, e_wn⟩, ⟨b, by omega, e_b⟩, (fun j hj => by obtain ⟨q, hq, eq⟩ := hkd j hj; exact ⟨q, hq, (show M 47 j = M 47 j from rfl).trans eq⟩), ⟨ra, by omega, e_ra⟩, (fun j hj => by obtain ⟨s, hs, es⟩ := hsl j hj; exact ⟨s, hs, (show M (50 + 2 * j) 3 = M (50 + 2 * j) 3 from rfl).trans es⟩), (fun j hj => by obtain ⟨q, hq, eq⟩ := hS j hj; exact ⟨q, hq, (show M 36 j = M 36 j from rfl).trans eq⟩)⟩, ((if_pos ((hA h_ hh_ 4 (by decide)).symm.trans c2)).symm.trans (stR_y hn5 hh_))⟩⟩)
  · refine xr_ldc coX9_105 dX9_start_11 ?_
    exact xr_iret dX9_start_13 rfl rfl (⟨_, rfl, rfl, rfl, Ke.rf, ⟨⟨⟨nh, by omega, e_cn⟩, ⟨cm, by omega, e_cm⟩, ⟨L, by omega, e_L⟩, (fun kk hkk => by rw [show M 3 kk = M 3 kk from rfl]; exact hv kk hkk), hD, ⟨n, by omega, e_n⟩, ⟨un, wn, by omega, by omega, e_un, e_wn⟩, ⟨b, by omega, e_b⟩, (fun j hj => by obtain ⟨q, hq, eq⟩ := hkd j hj; exact ⟨q, hq, (show M 47 j = M 47 j from rfl).trans eq⟩), ⟨ra, by omega, e_ra⟩, (fun j hj => by obtain ⟨s, hs, es⟩ := hsl j hj; exact ⟨s, hs, (show M (50 + 2 * j) 3 = M (50 + 2 * j) 3 from rfl).trans es⟩), (fun j hj => by obtain ⟨q, hq, eq⟩ := hS j hj; exact ⟨q, hq, (show M 36 j = M 36 j from rfl).trans eq⟩)⟩, (stR_n c1)⟩⟩)
set_option maxRecDepth 100000 in
set_option maxHeartbeats 4000000 in
theorem gw_X7_addPush (a1 a2 a3 : Int32) {P : xP} {nw mt mf mg : Int32} {D : xM} {l : Launch} {G : xG} {M : xM} {J : xJ} (hT : TC M P nw D 0 mt mf mg) : x_M l G fX7_addPush 0 0 0 [.ref (27), .int (a1), .int (a2), .int (a3)] x_SH M J (qKV W27 M J (fun M2 => TC M2 P nw D 0 a1 a2 a3)) := by
  refine xb_of pX7 (Nat.le_of_ble_eq_true rfl) rfl ?_
  obtain ⟨⟨a_, hb_, c_, d_⟩, ⟨e1, e2, e3, e4, e5⟩, f1, ⟨q, hq, f2⟩, f3, f4, f5, f6⟩ := hT
  refine xr_aload_n dX7_addPush_0 0 rfl ?_
  refine xr_iload_n dX7_addPush_1 1 rfl ?_
  refine xr_putI fpX7_34 dX7_addPush_2 s_27 rfl rfl rfl ?_
  refine xr_aload_n dX7_addPush_5 0 rfl ?_
  refine xr_iload_n dX7_addPush_6 2 rfl ?_
  refine xr_putI fpX7_37 dX7_addPush_7 s_27 rfl rfl rfl ?_
  refine xr_aload_n dX7_addPush_10 0 rfl ?_
  refine xr_iload_n dX7_addPush_11 3 rfl ?_
  refine xr_putI fpX7_40 dX7_addPush_12 s_27 rfl rfl rfl ?_
  exact xr_vret dX7_addPush_15 rfl (⟨rfl, rfl, rfl, (Ke.up (by omega) (Ke.up (by omega) (Ke.up (by omega) Ke.rf))), ⟨⟨((up_n (by decide)).trans ((up_n (by decide)).trans ((up_n (by decide)).trans a_))), AbC_n (AbC_n (AbC_n hb_ (Or.inl (by decide))) (Or.inl (by decide))) (Or.inl (by decide)), c_, LCt_k ((up_n (by decide)).trans ((up_n (by decide)).trans ((up_n (by decide)).trans rfl))) (fun k => ((up_n (by decide)).trans ((up_n (by decide)).trans ((up_n (by decide)).trans rfl)))) (fun k => ((up_n (by decide)).trans ((up_n (by decide)).trans ((up_n (by decide)).trans rfl)))) d_⟩, ⟨((up_n (by decide)).trans ((up_n (by decide)).trans ((up_n (by decide)).trans e1))), ((up_n (by decide)).trans ((up_n (by decide)).trans ((up_n (by decide)).trans e2))), ((up_n (by decide)).trans ((up_n (by decide)).trans ((up_n (by decide)).trans e3))), ((up_n (by decide)).trans ((up_n (by decide)).trans ((up_n (by decide)).trans e4))), ((up_n (by decide)).trans ((up_n (by decide)).trans ((up_n (by decide)).trans e5)))⟩, ((up_k (by decide)).trans ((up_k (by decide)).trans ((up_k (by decide)).trans f1))), ⟨q, hq, ((up_k (by decide)).trans ((up_k (by decide)).trans ((up_k (by decide)).trans f2)))⟩, ((up_k (by decide)).trans ((up_k (by decide)).trans ((up_k (by decide)).trans f3))), (Eq.trans (x_up_k _ _ _ (by decide)) (Eq.trans (x_up_k _ _ _ (by decide)) (x_up_s _ _ _ _))), (Eq.trans (x_up_k _ _ _ (by decide)) (x_up_s _ _ _ _)), (x_up_s _ _ _ _)⟩⟩)
set_option maxRecDepth 100000 in
set_option maxHeartbeats 4000000 in
theorem rsx9 {go st : Int32} {h K K2 : Nat} {nh : Nat} {D : xM} {t : Option zL} {S : Nat → Int32} (hh : h < nh) (hK : K ≤ 200) (hK2 : K2 ≤ 100) (hgo : 0 ≤ go ∧ go < 24) (hn5 : nh ≤ 5) (hrub : 0 ≤ S 1 ∧ S 1 ≤ 3) (hbt : ¬ S 2 = 0) (T : Int32) {l : Launch} {G : xG} {M : xM} {J : xJ} {Q : xQ} (e_cn : M 13 2 = nI nh) (e_nw : M 13 3 = S 0) (e_rub : M 13 4 = S 1) (e_bt : M 13 5 = S 2) (e_ph : M 13 6 = S 3) (e_st : M 13 7 = S 4) (hL : LCt M t) (hA : AbC 15 nh M D) (hW : WF nh D) (hR : ∀ (r : Int32) (M2 : xM), Ke WTH M M2 → r = T → Q (some (.int r)) x_SH M2 J) (hC : ∀ (M2 : xM), Ke WTH M M2 → (rsL nh D t S h st go K (100 - K2) K2 = T) → x_X l G fX9_rescue 7 0 0 Q 138 [(0, .ref (0))] [] x_SH M2 J 0 0) : ∀ (m k : Nat) (M1 : xM), k + m = K2 → Ke WTH M M1 → (rsL nh D t S h st go K (100 - k) k = T) → x_X l G fX9_rescue 7 0 0 Q 90 [(7, .int (nI (k))), (6, .int (nI (K2))), (5, .int (nI (K))), (4, .int (go)), (3, .int (st)), (1, .int (nI (h))), (0, .ref (0))] [] x_SH M1 J 0 0 := by
  intro m
  induction m with
  | zero =>
    intro k M1 hk hM hI
    have hP : WP (PS nh t S) := ⟨hn5, hrub, hbt⟩
    refine xr_iload dX9_rescue_90 0 rfl ?_
    refine xr_iload dX9_rescue_92 1 rfl ?_
    refine xr_icmp_ge (tgt := 138) dX9_rescue_94 rfl (fun _ => ?_) (fun c => absurd (nI_le (a := K2) (b := k) (by omega) (by omega)) c)
    refine xb_ls (ls2 := [(0, .ref (0))]) [6] rfl ?_
    exact hC _ hM (by obtain rfl : k = K2 := (by omega); exact hI)
  | succ m ih =>
    intro k M1 hk hM hI
    have hkN : k < K2 := by omega
    have hP : WP (PS nh t S) := ⟨hn5, hrub, hbt⟩
    refine xr_iload dX9_rescue_90 0 rfl ?_
    refine xr_iload dX9_rescue_92 1 rfl ?_
    refine xr_icmp_ge (tgt := 138) dX9_rescue_94 rfl (fun c => absurd c (nI_ge (a := k) (b := K2) (by omega) (by omega))) (fun _ => ?_)
    refine xr_aload_n dX9_rescue_97 6 rfl ?_
    refine xr_getR flX9_40 dX9_rescue_98 s_0 rfl ?_
    refine xr_callV (As := []) (rest := []) mlX9_192 (gw_X7_begin (D := D) (t := t) (cn := nh) hn5 (Eq.trans (hM 13 2 (by decide)) e_cn) (Eq.trans (hM 13 3 (by decide)) e_nw) (Eq.trans (hM 13 4 (by decide)) e_rub) (Eq.trans (hM 13 5 (by decide)) e_bt) (Eq.trans (hM 13 6 (by decide)) e_ph) (Eq.trans (hM 13 7 (by decide)) e_st) (LCt_k (Eq.trans (hM 1 4 (by unfold WTH; omega)) rfl) (fun kl => (Eq.trans (hM 2 kl (by unfold WTH; omega)) rfl)) (fun kl => (Eq.trans (hM 3 kl (by unfold WTH; omega)) rfl)) hL) (AbC_k hA (fun i hi j => (Eq.trans (hM (15 + i) j (by unfold WTH; omega)) rfl))) hW) dX9_rescue_101 s_27 rfl rfl (Nat.le_of_ble_eq_true rfl) (by decide) ⟨by decide, by decide⟩ (fun v s2 M2 J2 hq => ?_)
    obtain ⟨rfl, rfl, rfl, k3, hT1⟩ := hq
    try dsimp only [Option.toList, List.cons_append, List.nil_append]
    refine xr_aload_n dX9_rescue_104 6 rfl ?_
    refine xr_getR flX9_40 dX9_rescue_105 s_0 rfl ?_
    refine xr_iload dX9_rescue_108 0 rfl ?_
    refine xr_iload_n dX9_rescue_110 4 rfl ?_
    refine xr_iload dX9_rescue_111 3 rfl ?_
    refine xr_callV (As := [.int (nI (k)), .int (st), .int (go)]) (rest := []) mlX9_237 (gw_X7_addPush (nI (k)) st go (P := (PS nh t S)) hT1) dX9_rescue_113 s_27 rfl rfl (Nat.le_of_ble_eq_true rfl) (by decide) ⟨by decide, by decide⟩ (fun v s2 M5 J2 hq => ?_)
    obtain ⟨rfl, rfl, rfl, k6, hT4⟩ := hq
    try dsimp only [Option.toList, List.cons_append, List.nil_append]
    refine xr_aload_n dX9_rescue_116 6 rfl ?_
    refine xr_getR flX9_40 dX9_rescue_117 s_0 rfl ?_
    refine xr_iload_n dX9_rescue_120 5 rfl ?_
    refine xr_iload dX9_rescue_121 2 rfl ?_
    refine xr_callV (As := [.int (nI (h)), .int (nI (K))]) (rest := []) mlX9_240 (gw_X7_isUpBehind (P := (PS nh t S)) (h := h) (K := K) hP (Or.inr hgo) hh hK hT4) dX9_rescue_123 s_27 rfl rfl (Nat.le_of_ble_eq_true rfl) (by decide) ⟨by decide, by decide⟩ (fun v s2 M8 J2 hq => ?_)
    obtain ⟨r10, rfl, rfl, rfl, k9, hx7⟩ := hq
    try dsimp only [Option.toList, List.cons_append, List.nil_append]
    subst hx7
    refine xb_top (y := bI (K < rsV nh D t S h st go k)) rfl ?_
    refine xb_beq (tgt := 132) dX9_rescue_126 rfl (fun c11 => ?_) (fun c11 => ?_)
    · refine xr_iinc (v := nI (k + 1)) (ls2 := [(7, .int (nI (k + 1))), (6, .int (nI (K2))), (5, .int (nI (K))), (4, .int (go)), (3, .int (st)), (1, .int (nI (h))), (0, .ref (0))]) dX9_rescue_132 0 rfl (nI_1 _) (by decide) rfl ?_
      refine xr_goto (tgt := 90) dX9_rescue_135 rfl ?_
      refine xb_ls (ls2 := [(7, .int (nI (k + 1))), (6, .int (nI (K2))), (5, .int (nI (K))), (4, .int (go)), (3, .int (st)), (1, .int (nI (h))), (0, .ref (0))]) [0, 1, 2, 3, 4, 5, 6] rfl ?_
      exact ih (k + 1) M8 (by omega) (Ke.tr (fun pp kk => (fun hh => Or.elim hh (fun h => (Or.inl h)) (fun hh => Or.elim hh (fun h => (Or.inr (Or.inl h))) (fun hh => Or.elim hh (fun h => (Or.inr (Or.inr (Or.inl (by omega))))) (fun hh => Or.elim hh (fun h => (Or.inr (Or.inr (Or.inl (by omega))))) (fun h => (Or.inr (Or.inr (Or.inr h))))))))) (Ke.tr (fun pp kk h => (Or.inr (Or.inr (Or.inl (by omega))))) (Ke.tr (fun pp kk => (fun hh => Or.elim hh (fun h => (Or.inr (Or.inr (Or.inl h)))) (fun h => (Or.inr (Or.inr (Or.inr h)))))) hM k3) k6) k9) ((rsL_n (N := 100) (by omega) c11).trans hI)
    · refine xr_iload dX9_rescue_129 0 rfl ?_
      exact xr_iret dX9_rescue_131 rfl rfl ((hR _ _ (Ke.tr (fun pp kk => (fun hh => Or.elim hh (fun h => (Or.inl h)) (fun hh => Or.elim hh (fun h => (Or.inr (Or.inl h))) (fun hh => Or.elim hh (fun h => (Or.inr (Or.inr (Or.inl (by omega))))) (fun hh => Or.elim hh (fun h => (Or.inr (Or.inr (Or.inl (by omega))))) (fun h => (Or.inr (Or.inr (Or.inr h))))))))) (Ke.tr (fun pp kk h => (Or.inr (Or.inr (Or.inl (by omega))))) (Ke.tr (fun pp kk => (fun hh => Or.elim hh (fun h => (Or.inr (Or.inr (Or.inl h)))) (fun h => (Or.inr (Or.inr (Or.inr h)))))) hM k3) k6) k9) ((rsL_y (N := 100) (by omega) c11).symm.trans hI)))
set_option maxRecDepth 100000 in
set_option maxHeartbeats 4000000 in
theorem gx_X9_rescue {nh : Nat} {D : xM} {t : Option zL} {S : Nat → Int32} (h fp : Int32) {l : Launch} {G : xG} {M : xM} {J : xJ} (hI : InvC M) (hWG : WG nh D S) (hG : CG M nh D t S) : x_M l G fX9_rescue 7 0 0 [.ref (0), .int (h), .int (fp)] x_SH M J (qKI WTH M J (fun r M2 => InvC M2 ∧ (r = rsR nh D t S h fp))) := by
  refine xb_of pX9 (Nat.le_of_ble_eq_true rfl) rfl ?_
  obtain ⟨⟨cn, h_cn, e_cn⟩, ⟨cm, h_cm, e_cm⟩, ⟨L, h_L, e_L⟩, hv, hD, ⟨n, h_n, e_n⟩, ⟨un, wn, h_uw, h_wn, e_un, e_wn⟩, ⟨b, h_b, e_b⟩, hkd, ⟨ra, h_ra, e_ra⟩, hsl, hS⟩ := hI
  obtain ⟨hn5, hW, hrub, hbeat⟩ := hWG
  obtain ⟨hGn, hA, hL, e_nw, e_rub, e_bt, e_ph, e_st, e_kn, e_pu, e_lf⟩ := hG
  obtain rfl : nh = cn := (nI_eq (by omega) (by omega)).mp (hGn.symm.trans e_cn)
  have hbt : ¬ S 2 = 0 := ne2_0 hbeat.1
  have hP : WP (PS nh t S) := ⟨hn5, hrub, hbt⟩
  refine xr_iload_n dX9_rescue_0 2 rfl ?_
  refine xr_bipush (v := 100) dX9_rescue_1 rfl ?_
  refine xr_idiv dX9_rescue_3 (by decide) ?_
  refine xr_istore_n (ls2 := [(3, .int ((fp / 100))), (0, .ref (0)), (1, .int (h)), (2, .int (fp))]) dX9_rescue_4 (by decide) rfl ?_
  refine xr_iload_n dX9_rescue_5 3 rfl ?_
  refine xr_bipush (v := 100) dX9_rescue_6 rfl ?_
  refine xr_irem dX9_rescue_8 (by decide) ?_
  refine xr_istore (ls2 := [(4, .int ((fp - fp / 100 * 100))), (3, .int ((fp / 100))), (0, .ref (0)), (1, .int (h)), (2, .int (fp))]) dX9_rescue_9 (by decide) rfl ?_
  refine xr_aload_n dX9_rescue_11 2 rfl ?_
  refine xr_getR flX9_28 dX9_rescue_12 s_0 rfl ?_
  refine xr_iload_n dX9_rescue_15 3 rfl ?_
  refine xb_cV (As := [.int (h)]) (rest := []) mlX9_118 (c_X5_has h (by omega) e_cn) dX9_rescue_16 s_13 rfl rfl (Nat.le_of_ble_eq_true rfl) (by decide) (by decide) ?_
  refine xb_beq (tgt := 44) dX9_rescue_19 rfl (fun c1 => ?_) (fun c1 => ?_)
  · refine xr_iconst (v := -1) dX9_rescue_44 rfl ?_
    exact xr_iret dX9_rescue_45 rfl rfl (⟨_, rfl, rfl, rfl, Ke.rf, ⟨⟨⟨nh, by omega, e_cn⟩, ⟨cm, by omega, e_cm⟩, ⟨L, by omega, e_L⟩, (fun kk hkk => by rw [show M 3 kk = M 3 kk from rfl]; exact hv kk hkk), hD, ⟨n, by omega, e_n⟩, ⟨un, wn, by omega, by omega, e_un, e_wn⟩, ⟨b, by omega, e_b⟩, (fun j hj => by obtain ⟨q, hq, eq⟩ := hkd j hj; exact ⟨q, hq, (show M 47 j = M 47 j from rfl).trans eq⟩), ⟨ra, by omega, e_ra⟩, (fun j hj => by obtain ⟨s, hs, es⟩ := hsl j hj; exact ⟨s, hs, (show M (50 + 2 * j) 3 = M (50 + 2 * j) 3 from rfl).trans es⟩), (fun j hj => by obtain ⟨q, hq, eq⟩ := hS j hj; exact ⟨q, hq, (show M 36 j = M 36 j from rfl).trans eq⟩)⟩, (rsR_n (fun z => c1 z.1))⟩⟩)
  · obtain ⟨h_, hh_, rfl⟩ := x_nat (N := nh) (by omega) rfl c1
    refine xr_iload_n dX9_rescue_22 1 rfl ?_
    refine xr_iconst (v := 1) dX9_rescue_23 rfl ?_
    refine xr_icmp_lt (tgt := 44) dX9_rescue_24 rfl (fun c2 => ?_) (fun c2 => ?_)
    · refine xr_iconst (v := -1) dX9_rescue_44 rfl ?_
      exact xr_iret dX9_rescue_45 rfl rfl (⟨_, rfl, rfl, rfl, Ke.rf, ⟨⟨⟨nh, by omega, e_cn⟩, ⟨cm, by omega, e_cm⟩, ⟨L, by omega, e_L⟩, (fun kk hkk => by rw [show M 3 kk = M 3 kk from rfl]; exact hv kk hkk), hD, ⟨n, by omega, e_n⟩, ⟨un, wn, by omega, by omega, e_un, e_wn⟩, ⟨b, by omega, e_b⟩, (fun j hj => by obtain ⟨q, hq, eq⟩ := hkd j hj; exact ⟨q, hq, (show M 47 j = M 47 j from rfl).trans eq⟩), ⟨ra, by omega, e_ra⟩, (fun j hj => by obtain ⟨s, hs, es⟩ := hsl j hj; exact ⟨s, hs, (show M (50 + 2 * j) 3 = M (50 + 2 * j) 3 from rfl).trans es⟩), (fun j hj => by obtain ⟨q, hq, eq⟩ := hS j hj; exact ⟨q, hq, (show M 36 j = M 36 j from rfl).trans eq⟩)⟩, (rsR_n (fun z => absurd z.2.1.1 (by grind)))⟩⟩)
    · refine xr_iload_n dX9_rescue_27 1 rfl ?_
      refine xr_iconst (v := 5) dX9_rescue_28 rfl ?_
      refine xr_icmp_gt (tgt := 44) dX9_rescue_29 rfl (fun c3 => ?_) (fun c3 => ?_)
      · refine xr_iconst (v := -1) dX9_rescue_44 rfl ?_
        exact xr_iret dX9_rescue_45 rfl rfl (⟨_, rfl, rfl, rfl, Ke.rf, ⟨⟨⟨nh, by omega, e_cn⟩, ⟨cm, by omega, e_cm⟩, ⟨L, by omega, e_L⟩, (fun kk hkk => by rw [show M 3 kk = M 3 kk from rfl]; exact hv kk hkk), hD, ⟨n, by omega, e_n⟩, ⟨un, wn, by omega, by omega, e_un, e_wn⟩, ⟨b, by omega, e_b⟩, (fun j hj => by obtain ⟨q, hq, eq⟩ := hkd j hj; exact ⟨q, hq, (show M 47 j = M 47 j from rfl).trans eq⟩), ⟨ra, by omega, e_ra⟩, (fun j hj => by obtain ⟨s, hs, es⟩ := hsl j hj; exact ⟨s, hs, (show M (50 + 2 * j) 3 = M (50 + 2 * j) 3 from rfl).trans es⟩), (fun j hj => by obtain ⟨q, hq, eq⟩ := hS j hj; exact ⟨q, hq, (show M 36 j = M 36 j from rfl).trans eq⟩)⟩, (rsR_n (fun z => absurd z.2.1.2 (by grind)))⟩⟩)
      · refine xr_iload dX9_rescue_32 0 rfl ?_
        refine xr_if_lt (tgt := 44) dX9_rescue_34 rfl (fun c4 => ?_) (fun c4 => ?_)
        · refine xr_iconst (v := -1) dX9_rescue_44 rfl ?_
          exact xr_iret dX9_rescue_45 rfl rfl (⟨_, rfl, rfl, rfl, Ke.rf, ⟨⟨⟨nh, by omega, e_cn⟩, ⟨cm, by omega, e_cm⟩, ⟨L, by omega, e_L⟩, (fun kk hkk => by rw [show M 3 kk = M 3 kk from rfl]; exact hv kk hkk), hD, ⟨n, by omega, e_n⟩, ⟨un, wn, by omega, by omega, e_un, e_wn⟩, ⟨b, by omega, e_b⟩, (fun j hj => by obtain ⟨q, hq, eq⟩ := hkd j hj; exact ⟨q, hq, (show M 47 j = M 47 j from rfl).trans eq⟩), ⟨ra, by omega, e_ra⟩, (fun j hj => by obtain ⟨s, hs, es⟩ := hsl j hj; exact ⟨s, hs, (show M (50 + 2 * j) 3 = M (50 + 2 * j) 3 from rfl).trans es⟩), (fun j hj => by obtain ⟨q, hq, eq⟩ := hS j hj; exact ⟨q, hq, (show M 36 j = M 36 j from rfl).trans eq⟩)⟩, (rsR_n (fun z => absurd z.2.2.1 (by grind)))⟩⟩)
        · refine xr_iload dX9_rescue_37 0 rfl ?_
          refine xr_bipush (v := 24) dX9_rescue_39 rfl ?_
          refine xr_icmp_lt (tgt := 46) dX9_rescue_41 rfl (fun c5 => ?_) (fun c5 => ?_)
          · refine xr_aload_n dX9_rescue_46 2 rfl ?_
            refine xr_getR flX9_40 dX9_rescue_47 s_0 rfl ?_
            refine xr_callV (As := []) (rest := []) mlX9_192 (gw_X7_begin (D := D) (t := t) (cn := nh) hn5 e_cn e_nw e_rub e_bt e_ph e_st (LCt_k rfl (fun kl => rfl) (fun kl => rfl) hL) (AbC_k hA (fun i hi j => rfl)) hW) dX9_rescue_50 s_27 rfl rfl (Nat.le_of_ble_eq_true rfl) (by decide) ⟨by decide, by decide⟩ (fun v s2 M7 J2 hq => ?_)
            obtain ⟨rfl, rfl, rfl, k8, hT6⟩ := hq
            try dsimp only [Option.toList, List.cons_append, List.nil_append]
            refine xr_aload_n dX9_rescue_53 2 rfl ?_
            refine xr_getR flX9_40 dX9_rescue_54 s_0 rfl ?_
            refine xr_iload_n dX9_rescue_57 3 rfl ?_
            refine xr_callV (As := [.int (nI (h_))]) (rest := []) mlX9_195 (gw_X7_fallOf (P := (PS nh t S)) (h := h_) hP hh_ hT6) dX9_rescue_58 s_27 rfl rfl (Nat.le_of_ble_eq_true rfl) (by decide) ⟨by decide, by decide⟩ (fun v s2 M10 J2 hq => ?_)
            obtain ⟨r12, rfl, rfl, rfl, k11, hx9⟩ := hq
            try dsimp only [Option.toList, List.cons_append, List.nil_append]
            refine xr_istore (ls2 := [(5, .int (r12)), (4, .int ((fp - fp / 100 * 100))), (3, .int ((fp / 100))), (0, .ref (0)), (1, .int (nI (h_))), (2, .int (fp))]) dX9_rescue_61 (by decide) rfl ?_
            refine xr_iload dX9_rescue_63 0 rfl ?_
            refine xr_if_eq (tgt := 75) dX9_rescue_65 rfl (fun c13 => ?_) (fun c13 => ?_)
            · refine xr_bipush (v := -5) dX9_rescue_75 rfl ?_
              exact xr_iret dX9_rescue_77 rfl rfl (⟨_, rfl, rfl, rfl, (Ke.tr (fun pp kk => (fun hh => Or.elim hh (fun h => (Or.inl h)) (fun hh => Or.elim hh (fun h => (Or.inr (Or.inl h))) (fun hh => Or.elim hh (fun h => (Or.inr (Or.inr (Or.inl (by omega))))) (fun hh => Or.elim hh (fun h => (Or.inr (Or.inr (Or.inl (by omega))))) (fun h => (Or.inr (Or.inr (Or.inr h))))))))) (Ke.tr (fun pp kk => (fun hh => Or.elim hh (fun h => (Or.inr (Or.inr (Or.inl h)))) (fun h => (Or.inr (Or.inr (Or.inr h)))))) Ke.rf k8) k11), ⟨⟨⟨nh, by omega, (Eq.trans (k11 13 2 (by decide)) (Eq.trans (k8 13 2 (by decide)) e_cn))⟩, ⟨cm, by omega, (Eq.trans (k11 20 2 (by decide)) (Eq.trans (k8 20 2 (by decide)) e_cm))⟩, ⟨L, by omega, (Eq.trans (k11 1 4 (by decide)) (Eq.trans (k8 1 4 (by decide)) e_L))⟩, (fun kk hkk => by rw [show M10 3 kk = M 3 kk from (Eq.trans (k11 3 kk (by unfold WS; omega)) (Eq.trans (k8 3 kk (by unfold WTB; omega)) rfl))]; exact hv kk hkk), (DI_ke (by intro k; unfold WS; omega) k11 (DI_ke (by intro k; unfold WTB; omega) k8 hD)), ⟨n, by omega, (Eq.trans (k11 6 2 (by decide)) (Eq.trans (k8 6 2 (by decide)) e_n))⟩, ⟨un, wn, by omega, by omega, (Eq.trans (k11 41 4 (by decide)) (Eq.trans (k8 41 4 (by decide)) e_un)), (Eq.trans (k11 41 5 (by decide)) (Eq.trans (k8 41 5 (by decide)) e_wn))⟩, ⟨b, by omega, (Eq.trans (k11 46 2 (by decide)) (Eq.trans (k8 46 2 (by decide)) e_b))⟩, (fun j hj => by obtain ⟨q, hq, eq⟩ := hkd j hj; exact ⟨q, hq, (show M10 47 j = M 47 j from (Eq.trans (k11 47 j (by unfold WS; omega)) (Eq.trans (k8 47 j (by unfold WTB; omega)) rfl))).trans eq⟩), ⟨ra, by omega, (Eq.trans (k11 46 3 (by decide)) (Eq.trans (k8 46 3 (by decide)) e_ra))⟩, (fun j hj => by obtain ⟨s, hs, es⟩ := hsl j hj; exact ⟨s, hs, (show M10 (50 + 2 * j) 3 = M (50 + 2 * j) 3 from (Eq.trans (k11 (50 + 2 * j) 3 (by unfold WS; omega)) (Eq.trans (k8 (50 + 2 * j) 3 (by unfold WTB; omega)) rfl))).trans es⟩), (fun j hj => by obtain ⟨q, hq, eq⟩ := hS j hj; exact ⟨q, hq, (show M10 36 j = M 36 j from (Eq.trans (k11 36 j (by unfold WS; omega)) (Eq.trans (k8 36 j (by unfold WTB; omega)) rfl))).trans eq⟩)⟩, ((if_pos (Or.inl (faR_0 faV_le (hx9.symm.trans c13)))).symm.trans (rsR_y hn5 ⟨c1, ⟨by grind, by grind⟩, ⟨by grind, by grind⟩⟩ hh_))⟩⟩)
            · refine xr_iload dX9_rescue_68 0 rfl ?_
              refine xr_bipush (v := -2) dX9_rescue_70 rfl ?_
              refine xr_icmp_ne (tgt := 78) dX9_rescue_72 rfl (fun c14 => ?_) (fun c14 => ?_)
              · obtain ⟨K, hK, hKV, rfl⟩ := faR_3 faV_le hx9 c14
                refine xr_bipush (v := 100) dX9_rescue_78 rfl ?_
                refine xr_iload dX9_rescue_80 0 rfl ?_
                refine xr_min mmX9_232 uj_min uj_mi uj_minc dX9_rescue_82 (Nat.le_of_ble_eq_true rfl) (by decide) ?_
                have hmn := rs_min hK
                refine xb_top (y := nI (min 100 K)) hmn.2.2 ?_
                refine xr_istore (ls2 := [(6, .int (nI (min 100 K))), (5, .int (nI (K))), (4, .int ((fp - fp / 100 * 100))), (3, .int ((fp / 100))), (0, .ref (0)), (1, .int (nI (h_))), (2, .int (fp))]) dX9_rescue_85 (by decide) rfl ?_
                refine xr_iconst (v := 0) dX9_rescue_87 rfl ?_
                refine xr_istore (ls2 := [(7, .int (0)), (6, .int (nI (min 100 K))), (5, .int (nI (K))), (4, .int ((fp - fp / 100 * 100))), (3, .int ((fp / 100))), (0, .ref (0)), (1, .int (nI (h_))), (2, .int (fp))]) dX9_rescue_88 (by decide) rfl ?_
                have hrc : rsC nh (nI h_) fp := ⟨c1, ⟨by grind, by grind⟩, ⟨by grind, by grind⟩⟩
                have hnz : ¬ (faV (PS nh t S) h_ (S 0) D = 0 ∨ faV (PS nh t S) h_ (S 0) D = 201) := fun z => z.elim (fun z => c13 (by rw [hKV, z]; rfl)) (fun z => by omega)
                have hRs : rsL nh D t S h_ (fp / 100) (fp - fp / 100 * 100) K 100 0 = rsR nh D t S (nI h_) fp := by rw [← rsR_y hn5 hrc hh_]; unfold rsF; rw [if_neg hnz, ← hKV]
                refine xb_ls (ls2 := [(7, .int (nI (0))), (6, .int (nI (min 100 K))), (5, .int (nI (K))), (4, .int ((fp - fp / 100 * 100))), (3, .int ((fp / 100))), (1, .int (nI (h_))), (0, .ref (0))]) [0, 1, 2, 3, 4, 6, 5] rfl ?_
                refine rsx9 hh_ hK (Nat.min_le_left _ _) hrc.2.2 hn5 hrub hbt (rsL nh D t S h_ (fp / 100) (fp - fp / 100 * 100) K 100 0) (Eq.trans (k11 13 2 (by decide)) (Eq.trans (k8 13 2 (by decide)) e_cn)) (Eq.trans (k11 13 3 (by decide)) (Eq.trans (k8 13 3 (by decide)) e_nw)) (Eq.trans (k11 13 4 (by decide)) (Eq.trans (k8 13 4 (by decide)) e_rub)) (Eq.trans (k11 13 5 (by decide)) (Eq.trans (k8 13 5 (by decide)) e_bt)) (Eq.trans (k11 13 6 (by decide)) (Eq.trans (k8 13 6 (by decide)) e_ph)) (Eq.trans (k11 13 7 (by decide)) (Eq.trans (k8 13 7 (by decide)) e_st)) (LCt_k (Eq.trans (k11 1 4 (by unfold WS; omega)) (Eq.trans (k8 1 4 (by unfold WTB; omega)) rfl)) (fun kl => (Eq.trans (k11 2 kl (by unfold WS; omega)) (Eq.trans (k8 2 kl (by unfold WTB; omega)) rfl))) (fun kl => (Eq.trans (k11 3 kl (by unfold WS; omega)) (Eq.trans (k8 3 kl (by unfold WTB; omega)) rfl))) hL) (AbC_k hA (fun i hi j => (Eq.trans (k11 (15 + i) j (by unfold WS; omega)) (Eq.trans (k8 (15 + i) j (by unfold WTB; omega)) rfl)))) hW (fun r M2 hk hr => ⟨_, rfl, rfl, rfl, Ke.tr (fun _ _ h => h) (Ke.tr (fun pp kk => (fun hh => Or.elim hh (fun h => (Or.inl h)) (fun hh => Or.elim hh (fun h => (Or.inr (Or.inl h))) (fun hh => Or.elim hh (fun h => (Or.inr (Or.inr (Or.inl (by omega))))) (fun hh => Or.elim hh (fun h => (Or.inr (Or.inr (Or.inl (by omega))))) (fun h => (Or.inr (Or.inr (Or.inr h))))))))) (Ke.tr (fun pp kk => (fun hh => Or.elim hh (fun h => (Or.inr (Or.inr (Or.inl h)))) (fun h => (Or.inr (Or.inr (Or.inr h)))))) Ke.rf k8) k11) hk, ⟨⟨nh, by omega, (Eq.trans (hk 13 2 (by decide)) (Eq.trans (k11 13 2 (by decide)) (Eq.trans (k8 13 2 (by decide)) e_cn)))⟩, ⟨cm, by omega, (Eq.trans (hk 20 2 (by decide)) (Eq.trans (k11 20 2 (by decide)) (Eq.trans (k8 20 2 (by decide)) e_cm)))⟩, ⟨L, by omega, (Eq.trans (hk 1 4 (by decide)) (Eq.trans (k11 1 4 (by decide)) (Eq.trans (k8 1 4 (by decide)) e_L)))⟩, (fun kk hkk => by rw [show M2 3 kk = M 3 kk from (Eq.trans (hk 3 kk (by unfold WTH; omega)) (Eq.trans (k11 3 kk (by unfold WS; omega)) (Eq.trans (k8 3 kk (by unfold WTB; omega)) rfl)))]; exact hv kk hkk), (DI_ke (by intro k; unfold WTH; omega) hk (DI_ke (by intro k; unfold WS; omega) k11 (DI_ke (by intro k; unfold WTB; omega) k8 hD))), ⟨n, by omega, (Eq.trans (hk 6 2 (by decide)) (Eq.trans (k11 6 2 (by decide)) (Eq.trans (k8 6 2 (by decide)) e_n)))⟩, ⟨un, wn, by omega, by omega, (Eq.trans (hk 41 4 (by decide)) (Eq.trans (k11 41 4 (by decide)) (Eq.trans (k8 41 4 (by decide)) e_un))), (Eq.trans (hk 41 5 (by decide)) (Eq.trans (k11 41 5 (by decide)) (Eq.trans (k8 41 5 (by decide)) e_wn)))⟩, ⟨b, by omega, (Eq.trans (hk 46 2 (by decide)) (Eq.trans (k11 46 2 (by decide)) (Eq.trans (k8 46 2 (by decide)) e_b)))⟩, (fun j hj => by obtain ⟨q, hq, eq⟩ := hkd j hj; exact ⟨q, hq, (show M2 47 j = M 47 j from (Eq.trans (hk 47 j (by unfold WTH; omega)) (Eq.trans (k11 47 j (by unfold WS; omega)) (Eq.trans (k8 47 j (by unfold WTB; omega)) rfl)))).trans eq⟩), ⟨ra, by omega, (Eq.trans (hk 46 3 (by decide)) (Eq.trans (k11 46 3 (by decide)) (Eq.trans (k8 46 3 (by decide)) e_ra)))⟩, (fun j hj => by obtain ⟨s, hs, es⟩ := hsl j hj; exact ⟨s, hs, (show M2 (50 + 2 * j) 3 = M (50 + 2 * j) 3 from (Eq.trans (hk (50 + 2 * j) 3 (by unfold WTH; omega)) (Eq.trans (k11 (50 + 2 * j) 3 (by unfold WS; omega)) (Eq.trans (k8 (50 + 2 * j) 3 (by unfold WTB; omega)) rfl)))).trans es⟩), (fun j hj => by obtain ⟨q, hq, eq⟩ := hS j hj; exact ⟨q, hq, (show M2 36 j = M 36 j from (Eq.trans (hk 36 j (by unfold WTH; omega)) (Eq.trans (k11 36 j (by unfold WS; omega)) (Eq.trans (k8 36 j (by unfold WTB; omega)) rfl)))).trans eq⟩)⟩, hr.trans hRs⟩) (fun M15 k16 hE => ?_) ((min 100 K) - 0) 0 M10 (by omega) Ke.rf rfl
                refine xr_bipush (v := -2) dX9_rescue_138 rfl ?_
                exact xr_iret dX9_rescue_140 rfl rfl (⟨_, rfl, rfl, rfl, (Ke.tr (fun _ _ h => h) (Ke.tr (fun pp kk => (fun hh => Or.elim hh (fun h => (Or.inl h)) (fun hh => Or.elim hh (fun h => (Or.inr (Or.inl h))) (fun hh => Or.elim hh (fun h => (Or.inr (Or.inr (Or.inl (by omega))))) (fun hh => Or.elim hh (fun h => (Or.inr (Or.inr (Or.inl (by omega))))) (fun h => (Or.inr (Or.inr (Or.inr h))))))))) (Ke.tr (fun pp kk => (fun hh => Or.elim hh (fun h => (Or.inr (Or.inr (Or.inl h)))) (fun h => (Or.inr (Or.inr (Or.inr h)))))) Ke.rf k8) k11) k16), ⟨⟨⟨nh, by omega, (Eq.trans (k16 13 2 (by decide)) (Eq.trans (k11 13 2 (by decide)) (Eq.trans (k8 13 2 (by decide)) e_cn)))⟩, ⟨cm, by omega, (Eq.trans (k16 20 2 (by decide)) (Eq.trans (k11 20 2 (by decide)) (Eq.trans (k8 20 2 (by decide)) e_cm)))⟩, ⟨L, by omega, (Eq.trans (k16 1 4 (by decide)) (Eq.trans (k11 1 4 (by decide)) (Eq.trans (k8 1 4 (by decide)) e_L)))⟩, (fun kk hkk => by rw [show M15 3 kk = M 3 kk from (Eq.trans (k16 3 kk (by unfold WTH; omega)) (Eq.trans (k11 3 kk (by unfold WS; omega)) (Eq.trans (k8 3 kk (by unfold WTB; omega)) rfl)))]; exact hv kk hkk), (DI_ke (by intro k; unfold WTH; omega) k16 (DI_ke (by intro k; unfold WS; omega) k11 (DI_ke (by intro k; unfold WTB; omega) k8 hD))), ⟨n, by omega, (Eq.trans (k16 6 2 (by decide)) (Eq.trans (k11 6 2 (by decide)) (Eq.trans (k8 6 2 (by decide)) e_n)))⟩, ⟨un, wn, by omega, by omega, (Eq.trans (k16 41 4 (by decide)) (Eq.trans (k11 41 4 (by decide)) (Eq.trans (k8 41 4 (by decide)) e_un))), (Eq.trans (k16 41 5 (by decide)) (Eq.trans (k11 41 5 (by decide)) (Eq.trans (k8 41 5 (by decide)) e_wn)))⟩, ⟨b, by omega, (Eq.trans (k16 46 2 (by decide)) (Eq.trans (k11 46 2 (by decide)) (Eq.trans (k8 46 2 (by decide)) e_b)))⟩, (fun j hj => by obtain ⟨q, hq, eq⟩ := hkd j hj; exact ⟨q, hq, (show M15 47 j = M 47 j from (Eq.trans (k16 47 j (by unfold WTH; omega)) (Eq.trans (k11 47 j (by unfold WS; omega)) (Eq.trans (k8 47 j (by unfold WTB; omega)) rfl)))).trans eq⟩), ⟨ra, by omega, (Eq.trans (k16 46 3 (by decide)) (Eq.trans (k11 46 3 (by decide)) (Eq.trans (k8 46 3 (by decide)) e_ra)))⟩, (fun j hj => by obtain ⟨s, hs, es⟩ := hsl j hj; exact ⟨s, hs, (show M15 (50 + 2 * j) 3 = M (50 + 2 * j) 3 from (Eq.trans (k16 (50 + 2 * j) 3 (by unfold WTH; omega)) (Eq.trans (k11 (50 + 2 * j) 3 (by unfold WS; omega)) (Eq.trans (k8 (50 + 2 * j) 3 (by unfold WTB; omega)) rfl)))).trans es⟩), (fun j hj => by obtain ⟨q, hq, eq⟩ := hS j hj; exact ⟨q, hq, (show M15 36 j = M 36 j from (Eq.trans (k16 36 j (by unfold WTH; omega)) (Eq.trans (k11 36 j (by unfold WS; omega)) (Eq.trans (k8 36 j (by unfold WTB; omega)) rfl)))).trans eq⟩)⟩, (((rs_end hK hKV).symm.trans hE).trans hRs)⟩⟩)
              · refine xr_bipush (v := -5) dX9_rescue_75 rfl ?_
                exact xr_iret dX9_rescue_77 rfl rfl (⟨_, rfl, rfl, rfl, (Ke.tr (fun pp kk => (fun hh => Or.elim hh (fun h => (Or.inl h)) (fun hh => Or.elim hh (fun h => (Or.inr (Or.inl h))) (fun hh => Or.elim hh (fun h => (Or.inr (Or.inr (Or.inl (by omega))))) (fun hh => Or.elim hh (fun h => (Or.inr (Or.inr (Or.inl (by omega))))) (fun h => (Or.inr (Or.inr (Or.inr h))))))))) (Ke.tr (fun pp kk => (fun hh => Or.elim hh (fun h => (Or.inr (Or.inr (Or.inl h)))) (fun h => (Or.inr (Or.inr (Or.inr h)))))) Ke.rf k8) k11), ⟨⟨⟨nh, by omega, (Eq.trans (k11 13 2 (by decide)) (Eq.trans (k8 13 2 (by decide)) e_cn))⟩, ⟨cm, by omega, (Eq.trans (k11 20 2 (by decide)) (Eq.trans (k8 20 2 (by decide)) e_cm))⟩, ⟨L, by omega, (Eq.trans (k11 1 4 (by decide)) (Eq.trans (k8 1 4 (by decide)) e_L))⟩, (fun kk hkk => by rw [show M10 3 kk = M 3 kk from (Eq.trans (k11 3 kk (by unfold WS; omega)) (Eq.trans (k8 3 kk (by unfold WTB; omega)) rfl))]; exact hv kk hkk), (DI_ke (by intro k; unfold WS; omega) k11 (DI_ke (by intro k; unfold WTB; omega) k8 hD)), ⟨n, by omega, (Eq.trans (k11 6 2 (by decide)) (Eq.trans (k8 6 2 (by decide)) e_n))⟩, ⟨un, wn, by omega, by omega, (Eq.trans (k11 41 4 (by decide)) (Eq.trans (k8 41 4 (by decide)) e_un)), (Eq.trans (k11 41 5 (by decide)) (Eq.trans (k8 41 5 (by decide)) e_wn))⟩, ⟨b, by omega, (Eq.trans (k11 46 2 (by decide)) (Eq.trans (k8 46 2 (by decide)) e_b))⟩, (fun j hj => by obtain ⟨q, hq, eq⟩ := hkd j hj; exact ⟨q, hq, (show M10 47 j = M 47 j from (Eq.trans (k11 47 j (by unfold WS; omega)) (Eq.trans (k8 47 j (by unfold WTB; omega)) rfl))).trans eq⟩), ⟨ra, by omega, (Eq.trans (k11 46 3 (by decide)) (Eq.trans (k8 46 3 (by decide)) e_ra))⟩, (fun j hj => by obtain ⟨s, hs, es⟩ := hsl j hj; exact ⟨s, hs, (show M10 (50 + 2 * j) 3 = M (50 + 2 * j) 3 from (Eq.trans (k11 (50 + 2 * j) 3 (by unfold WS; omega)) (Eq.trans (k8 (50 + 2 * j) 3 (by unfold WTB; omega)) rfl))).trans es⟩), (fun j hj => by obtain ⟨q, hq, eq⟩ := hS j hj; exact ⟨q, hq, (show M10 36 j = M 36 j from (Eq.trans (k11 36 j (by unfold WS; omega)) (Eq.trans (k8 36 j (by unfold WTB; omega)) rfl))).trans eq⟩)⟩, ((if_pos (Or.inr (faR_m faV_le (hx9.symm.trans c14)))).symm.trans (rsR_y hn5 ⟨c1, ⟨by grind, by grind⟩, ⟨by grind, by grind⟩⟩ hh_))⟩⟩)
          · refine xr_iconst (v := -1) dX9_rescue_44 rfl ?_
            exact xr_iret dX9_rescue_45 rfl rfl (⟨_, rfl, rfl, rfl, Ke.rf, ⟨⟨⟨nh, by omega, e_cn⟩, ⟨cm, by omega, e_cm⟩, ⟨L, by omega, e_L⟩, (fun kk hkk => by rw [show M 3 kk = M 3 kk from rfl]; exact hv kk hkk), hD, ⟨n, by omega, e_n⟩, ⟨un, wn, by omega, by omega, e_un, e_wn⟩, ⟨b, by omega, e_b⟩, (fun j hj => by obtain ⟨q, hq, eq⟩ := hkd j hj; exact ⟨q, hq, (show M 47 j = M 47 j from rfl).trans eq⟩), ⟨ra, by omega, e_ra⟩, (fun j hj => by obtain ⟨s, hs, es⟩ := hsl j hj; exact ⟨s, hs, (show M (50 + 2 * j) 3 = M (50 + 2 * j) 3 from rfl).trans es⟩), (fun j hj => by obtain ⟨q, hq, eq⟩ := hS j hj; exact ⟨q, hq, (show M 36 j = M 36 j from rfl).trans eq⟩)⟩, (rsR_n (fun z => absurd z.2.2.2 (by grind)))⟩⟩)
