def brF (a b : Int32) : Int32 := if a = 0 then -11 else if a = 2 ∧ b = 0 then 0 else -12
set_option maxRecDepth 100000 in
set_option maxHeartbeats 4000000 in
theorem gw_X6_bytesRefusal {sq el : Nat} (hs : x_SH[sq]? = some (.inl (6, [none, none, none, none, some (some el)]))) (hel : x_SH[el]? = some (.inr (2, 60, fun _ => none))) {l : Launch} {G : xG} {M : xM} {J : xJ} : x_M l G fX6_bytesRefusal 2 0 0 [.ref sq] x_SH M J (qE (some (.int (brF (M sq 0) (M sq 2)))) x_SH M J) := by
  refine xb_of pX6 (Nat.le_of_ble_eq_true rfl) rfl ?_
  refine xr_aload_n dX6_bytesRefusal_0 0 rfl ?_
  refine xb_cV (As := []) (rest := []) mlX6_32 (c_X6_isEmpty hs hel) dX6_bytesRefusal_1 hs rfl rfl (Nat.le_of_ble_eq_true rfl) (by decide) (by decide) ?_
  refine xb_beq (tgt := 10) dX6_bytesRefusal_4 rfl (fun c1 => ?_) (fun c1 => ?_)
  · refine xr_aload_n dX6_bytesRefusal_10 0 rfl ?_
    refine xb_cV (As := []) (rest := []) mlX6_35 (c_X6_hasBytes hs hel) dX6_bytesRefusal_11 hs rfl rfl (Nat.le_of_ble_eq_true rfl) (by decide) (by decide) ?_
    refine xb_beq (tgt := 21) dX6_bytesRefusal_14 rfl (fun c2 => ?_) (fun c2 => ?_)
    · refine xr_bipush (v := -12) dX6_bytesRefusal_21 rfl ?_
      exact xr_iret dX6_bytesRefusal_23 rfl rfl (⟨congrArg (fun z => some (Value.int z)) ((if_neg c1).trans (if_neg c2)).symm, rfl, rfl, rfl⟩)
    · refine xr_iconst (v := 0) dX6_bytesRefusal_17 rfl ?_
      refine xr_goto (tgt := 23) dX6_bytesRefusal_18 rfl ?_
      exact xr_iret dX6_bytesRefusal_23 rfl rfl (⟨congrArg (fun z => some (Value.int z)) ((if_neg c1).trans (if_pos c2)).symm, rfl, rfl, rfl⟩)
  · refine xr_bipush (v := -11) dX6_bytesRefusal_7 rfl ?_
    exact xr_iret dX6_bytesRefusal_9 rfl rfl (⟨congrArg (fun z => some (Value.int z)) (if_pos c1).symm, rfl, rfl, rfl⟩)
set_option maxRecDepth 100000 in
set_option maxHeartbeats 4000000 in
theorem fux {P : xP} {mf mg : Int32} (hP : WP P) {h : Nat} (hh : h < P.1) (h5 : P.1 ≤ 5) {sq el : Nat} (hs : x_SH[sq]? = some (.inl (6, [none, none, none, none, some (some el)]))) (hel : x_SH[el]? = some (.inr (2, 60, fun _ => none))) (h50 : 50 ≤ sq ∧ sq ≤ 61) {L : Nat} {E : Nat → Int64} (hLL : L ≤ 60) (T : Int32) {l : Launch} {G : xG} {M : xM} {J : xJ} {Q : xQ} (e_s : M sq 3 = nI L) (hE : ∀ j, j < 60 → J el j = E j) (hR : ∀ (r : Int32) (M2 : xM), Ke WS M M2 → r = T → Q (some (.int r)) x_SH M2 J) (hC : ∀ (M2 : xM), Ke WS M M2 → (-2 = T) → x_X l G fX7_firstUnlike 6 0 0 Q 51 [(0, .ref (27))] [] x_SH M2 J 0 0) : ∀ (m k : Nat) (M1 : xM), k + m = L → Ke WS M M1 → (∃ D1 nw1, TC M1 P nw1 D1 k (-1) mf mg ∧ fuF P h E (L - k) k nw1 D1 = T) → x_X l G fX7_firstUnlike 6 0 0 Q 2 [(3, .int (nI (k))), (2, .int (nI (h))), (1, .ref (sq)), (0, .ref (27))] [] x_SH M1 J 0 0 := by
  intro m
  induction m with
  | zero =>
    intro k M1 hk hM hI
    obtain ⟨D1, nw1, hT1, hR1⟩ := hI
    refine xr_iload_n dX7_firstUnlike_2 0 rfl ?_
    refine xr_aload_n dX7_firstUnlike_3 2 rfl ?_
    refine xb_get (v := nI (L)) flX7_91 dX7_firstUnlike_4 hs rfl (Eq.trans (hM sq 3 (by unfold WS; omega)) e_s) ?_
    refine xr_icmp_ge (tgt := 51) dX7_firstUnlike_7 rfl (fun _ => ?_) (fun c => absurd (nI_le (a := L) (b := k) (by omega) (by omega)) c)
    refine xb_ls (ls2 := [(0, .ref (27))]) [3] rfl ?_
    exact hC _ hM (by obtain rfl : k = L := (by omega); rw [Nat.sub_self] at hR1; exact hR1)
  | succ m ih =>
    intro k M1 hk hM hI
    have hkN : k < L := by omega
    obtain ⟨D1, nw1, hT1, hR1⟩ := hI
    refine xr_iload_n dX7_firstUnlike_2 0 rfl ?_
    refine xr_aload_n dX7_firstUnlike_3 2 rfl ?_
    refine xb_get (v := nI (L)) flX7_91 dX7_firstUnlike_4 hs rfl (Eq.trans (hM sq 3 (by unfold WS; omega)) e_s) ?_
    refine xr_icmp_ge (tgt := 51) dX7_firstUnlike_7 rfl (fun c => absurd c (nI_ge (a := k) (b := L) (by omega) (by omega))) (fun _ => ?_)
    refine xr_iload_n dX7_firstUnlike_10 0 rfl ?_
    refine xr_bipush (v := 60) dX7_firstUnlike_11 rfl ?_
    refine xr_icmp_ge (tgt := 51) dX7_firstUnlike_13 rfl (fun c => absurd c (nI_ge (a := k) (b := 60) (by omega) (by omega))) (fun _ => ?_)
    refine xr_aload_n dX7_firstUnlike_16 3 rfl ?_
    refine xr_callV (As := []) (rest := []) mlX7_64 (gw_X7_step hP (by omega) (Or.inl rfl) hT1) dX7_firstUnlike_17 s_27 rfl rfl (Nat.le_of_ble_eq_true rfl) (by decide) ⟨by decide, by decide⟩ (fun v s2 M2 J2 hq => ?_)
    obtain ⟨rfl, rfl, rfl, k3, hT1⟩ := hq
    try dsimp only [Option.toList, List.cons_append, List.nil_append]
    have hT3 : TC M2 P (nw1 + 1) (tiF P nw1 D1) (k + 1) (-1) mf mg := tiM_0 (k := k) (by omega) ▸ hT1
    refine xr_aload_n dX7_firstUnlike_20 3 rfl ?_
    refine xr_getR flX7_15 dX7_firstUnlike_21 s_27 rfl ?_
    refine xr_getR flX7_67 dX7_firstUnlike_24 s_28 rfl ?_
    refine xr_iload_n dX7_firstUnlike_27 1 rfl ?_
    refine xb_aald (j := h) (q := 30 + h) (by decide) dX7_firstUnlike_28 s_29 (by omega) (by decide) (if_pos (by omega)) ?_
    refine xb_get (v := (tiF P nw1 D1 h 2)) flX7_94 dX7_firstUnlike_29 (s_hp30 (by omega)) rfl (hT3.1.2.1 h hh 2 (by decide)) ?_
    refine xr_i2l dX7_firstUnlike_32 ?_
    refine xr_aload_n dX7_firstUnlike_33 2 rfl ?_
    refine xr_getR flX7_97 dX7_firstUnlike_34 hs rfl ?_
    refine xr_iload_n dX7_firstUnlike_37 0 rfl ?_
    refine xb_lald (j := k) (v := J el k) dX7_firstUnlike_38 hel (by omega) (by decide) rfl ?_
    refine xr_lcmp dX7_firstUnlike_39 ?_
    refine xl_eq (tgt := 45) dX7_firstUnlike_40 rfl (fun c4 => ?_) (fun c4 => ?_)
    · refine xr_iinc (v := nI (k + 1)) (ls2 := [(3, .int (nI (k + 1))), (2, .int (nI (h))), (1, .ref (sq)), (0, .ref (27))]) dX7_firstUnlike_45 0 rfl (nI_1 _) (by decide) rfl ?_
      refine xr_goto (tgt := 2) dX7_firstUnlike_48 rfl ?_
      refine xb_ls (ls2 := [(3, .int (nI (k + 1))), (2, .int (nI (h))), (1, .ref (sq)), (0, .ref (27))]) [0, 1, 2, 3] rfl ?_
      exact ih (k + 1) M2 (by omega) (Ke.tr (fun _ _ h => h) hM k3) ⟨_, _, hT3, (fuF_y hkN (c4.trans (hE k (by omega)))).trans hR1⟩
    · refine xr_iload_n dX7_firstUnlike_43 0 rfl ?_
      exact xr_iret dX7_firstUnlike_44 rfl rfl ((hR _ _ (Ke.tr (fun _ _ h => h) hM k3) ((fuF_n hkN (fun z => c4 (z.trans (hE k (by omega)).symm))).symm.trans hR1)))
set_option maxRecDepth 100000 in
set_option maxHeartbeats 4000000 in
theorem gw_X7_firstUnlike {P : xP} {mf mg : Int32} (hP : WP P) {nw : Int32} {D : xM} {h : Nat} (hh : h < P.1) {sq el : Nat} (hs : x_SH[sq]? = some (.inl (6, [none, none, none, none, some (some el)]))) (hel : x_SH[el]? = some (.inr (2, 60, fun _ => none))) (h50 : 50 ≤ sq ∧ sq ≤ 61) {L : Nat} {E : Nat → Int64} (hLL : L ≤ 60) {l : Launch} {G : xG} {M : xM} {J : xJ} (hT : TC M P nw D 0 (-1) mf mg) (e_s : M sq 3 = nI L) (hE : ∀ j, j < 60 → J el j = E j) : x_M l G fX7_firstUnlike 6 0 0 [.ref (27), .ref (sq), .int (nI (h))] x_SH M J (qKI WS M J (fun r M2 => r = fuV P h L E nw D)) := by
  refine xb_of pX7 (Nat.le_of_ble_eq_true rfl) rfl ?_
  have h5 : P.1 ≤ 5 := hP.1
  refine xr_iconst (v := 0) dX7_firstUnlike_0 rfl ?_
  refine xr_istore_n (ls2 := [(3, .int (0)), (0, .ref (27)), (1, .ref (sq)), (2, .int (nI (h)))]) dX7_firstUnlike_1 (by decide) rfl ?_
  refine xb_ls (ls2 := [(3, .int (nI (0))), (2, .int (nI (h))), (1, .ref (sq)), (0, .ref (27))]) [0, 3, 2, 1] rfl ?_
  refine fux hP hh h5 hs hel h50 hLL (fuV P h L E nw D) e_s hE (fun r M2 hk hr => ⟨_, rfl, rfl, rfl, hk, hr⟩) (fun M1 k2 hI => ?_) (L - 0) 0 M (by omega) Ke.rf ⟨D, nw, hT, rfl⟩
  refine xr_bipush (v := -2) dX7_firstUnlike_51 rfl ?_
  exact xr_iret dX7_firstUnlike_53 rfl rfl (⟨_, rfl, rfl, rfl, (Ke.tr (fun _ _ h => h) Ke.rf k2), hI⟩)
set_option maxRecDepth 100000 in
set_option maxHeartbeats 4000000 in
theorem gx_X9_judge {nh : Nat} {D : xM} {t : Option zL} {S : Nat → Int32} {G9 : xQs} (sh h : Int32) {l : Launch} {G : xG} {M : xM} {J : xJ} (hI : InvC M) (hWG : WG nh D S) (hG : CG M nh D t S) (hSh : CSh M J G9) (hWS : WSh G9) : x_M l G fX9_judge 7 0 0 [.ref (0), .int (sh), .int (h)] x_SH M J (qKI WTH M J (fun r M2 => InvC M2 ∧ (r = jdR nh D t S G9 sh h))) := by
  refine xb_of pX9 (Nat.le_of_ble_eq_true rfl) rfl ?_
  obtain ⟨⟨cn, h_cn, e_cn⟩, ⟨cm, h_cm, e_cm⟩, ⟨L, h_L, e_L⟩, hv, hD, ⟨n, h_n, e_n⟩, ⟨un, wn, h_uw, h_wn, e_un, e_wn⟩, ⟨b, h_b, e_b⟩, hkd, ⟨ra, h_ra, e_ra⟩, hsl, hS⟩ := hI
  obtain ⟨hn5, hW, hrub, hbeat⟩ := hWG
  obtain ⟨hGn, hA, hL, e_nw, e_rub, e_bt, e_ph, e_st, e_kn, e_pu, e_lf⟩ := hG
  obtain rfl : nh = cn := (nI_eq (by omega) (by omega)).mp (hGn.symm.trans e_cn)
  have hbt : ¬ S 2 = 0 := ne2_0 hbeat.1
  have hP : WP (PS nh t S) := ⟨hn5, hrub, hbt⟩
  refine xr_iload_n dX9_judge_0 1 rfl ?_
  refine xb_cS (As := [.int (sh)]) (rest := []) mlX9_88 (c_X9_isShelf sh) dX9_judge_1 rfl rfl (Nat.le_of_ble_eq_true rfl) (by decide) (by decide) ?_
  refine xb_beq (tgt := 18) dX9_judge_4 rfl (fun c1 => ?_) (fun c1 => ?_)
  · refine xr_iconst (v := -1) dX9_judge_18 rfl ?_
    exact xr_iret dX9_judge_19 rfl rfl (⟨_, rfl, rfl, rfl, Ke.rf, ⟨⟨⟨nh, by omega, e_cn⟩, ⟨cm, by omega, e_cm⟩, ⟨L, by omega, e_L⟩, (fun kk hkk => by rw [show M 3 kk = M 3 kk from rfl]; exact hv kk hkk), hD, ⟨n, by omega, e_n⟩, ⟨un, wn, by omega, by omega, e_un, e_wn⟩, ⟨b, by omega, e_b⟩, (fun j hj => by obtain ⟨q, hq, eq⟩ := hkd j hj; exact ⟨q, hq, (show M 47 j = M 47 j from rfl).trans eq⟩), ⟨ra, by omega, e_ra⟩, (fun j hj => by obtain ⟨s, hs, es⟩ := hsl j hj; exact ⟨s, hs, (show M (50 + 2 * j) 3 = M (50 + 2 * j) 3 from rfl).trans es⟩), (fun j hj => by obtain ⟨q, hq, eq⟩ := hS j hj; exact ⟨q, hq, (show M 36 j = M 36 j from rfl).trans eq⟩)⟩, (jdR_n (fun z => c1 (lt_le6.mpr z.1)))⟩⟩)
  · obtain ⟨s_, hs_, rfl⟩ := x_nat (N := 6) (by decide) rfl c1
    refine xr_aload_n dX9_judge_7 0 rfl ?_
    refine xr_getR flX9_28 dX9_judge_8 s_0 rfl ?_
    refine xr_iload_n dX9_judge_11 2 rfl ?_
    refine xb_cV (As := [.int (h)]) (rest := []) mlX9_118 (c_X5_has h (by omega) e_cn) dX9_judge_12 s_13 rfl rfl (Nat.le_of_ble_eq_true rfl) (by decide) (by decide) ?_
    refine xb_bne (tgt := 20) dX9_judge_15 rfl (fun c2 => ?_) (fun c2 => ?_)
    · obtain ⟨h_, hh_, rfl⟩ := x_nat (N := nh) (by omega) rfl c2
      refine xr_aload_n dX9_judge_20 0 rfl ?_
      refine xr_getR flX9_67 dX9_judge_21 s_0 rfl ?_
      refine xr_iload_n dX9_judge_24 1 rfl ?_
      refine xb_aald (j := s_) (q := 50 + 2 * s_) (by decide) dX9_judge_25 s_49 hs_ (by decide) (if_pos hs_) ?_
      refine xb_cV (As := []) (rest := []) mlX9_244 (gw_X6_bytesRefusal (s_shelf hs_) (s_elem hs_)) dX9_judge_26 (s_shelf hs_) rfl rfl (Nat.le_of_ble_eq_true rfl) (by decide) (by decide) ?_
      obtain ⟨hLL, e_s, hE, hkd⟩ := hSh s_ hs_
      rcases hkd with ⟨hkk, h0⟩ | ⟨hkk, h0, h2⟩ | ⟨hkk, h0, h2⟩
      · refine xb_top (y := (-11)) (if_pos h0) ?_
        refine xr_istore_n (ls2 := [(3, .int ((-11))), (0, .ref (0)), (1, .int (nI (s_))), (2, .int (nI (h_)))]) dX9_judge_29 (by decide) rfl ?_
        refine xr_iload_n dX9_judge_30 0 rfl ?_
        refine xr_if_eq (tgt := 36) dX9_judge_31 rfl (fun c => absurd c (by decide)) (fun _ => ?_)
        refine xr_iload_n dX9_judge_34 0 rfl ?_
        exact xr_iret dX9_judge_35 rfl rfl (⟨_, rfl, rfl, rfl, Ke.rf, ⟨⟨⟨nh, by omega, e_cn⟩, ⟨cm, by omega, e_cm⟩, ⟨L, by omega, e_L⟩, (fun kk hkk => by rw [show M 3 kk = M 3 kk from rfl]; exact hv kk hkk), hD, ⟨n, by omega, e_n⟩, ⟨un, wn, by omega, by omega, e_un, e_wn⟩, ⟨b, by omega, e_b⟩, (fun j hj => by obtain ⟨q, hq, eq⟩ := hkd j hj; exact ⟨q, hq, (show M 47 j = M 47 j from rfl).trans eq⟩), ⟨ra, by omega, e_ra⟩, (fun j hj => by obtain ⟨s, hs, es⟩ := hsl j hj; exact ⟨s, hs, (show M (50 + 2 * j) 3 = M (50 + 2 * j) 3 from rfl).trans es⟩), (fun j hj => by obtain ⟨q, hq, eq⟩ := hS j hj; exact ⟨q, hq, (show M 36 j = M 36 j from rfl).trans eq⟩)⟩, ((if_pos hkk).symm.trans (jdR_y hn5 hs_ hh_))⟩⟩)
      · refine xb_top (y := 0) ((if_neg (by rw [h0]; decide)).trans (if_pos ⟨h0, h2⟩)) ?_
        refine xr_istore_n (ls2 := [(3, .int (0)), (0, .ref (0)), (1, .int (nI (s_))), (2, .int (nI (h_)))]) dX9_judge_29 (by decide) rfl ?_
        refine xr_iload_n dX9_judge_30 0 rfl ?_
        refine xr_if_eq (tgt := 36) dX9_judge_31 rfl (fun _ => ?_) (fun c => absurd (by decide) c)
        refine xr_aload_n dX9_judge_36 1 rfl ?_
        refine xr_getR flX9_40 dX9_judge_37 s_0 rfl ?_
        refine xr_callV (As := []) (rest := []) mlX9_192 (gw_X7_begin (D := D) (t := t) (cn := nh) hn5 e_cn e_nw e_rub e_bt e_ph e_st (LCt_k rfl (fun kl => rfl) (fun kl => rfl) hL) (AbC_k hA (fun i hi j => rfl)) hW) dX9_judge_40 s_27 rfl rfl (Nat.le_of_ble_eq_true rfl) (by decide) ⟨by decide, by decide⟩ (fun v s2 M4 J2 hq => ?_)
        obtain ⟨rfl, rfl, rfl, k5, hT3⟩ := hq
        try dsimp only [Option.toList, List.cons_append, List.nil_append]
        refine xr_aload_n dX9_judge_43 1 rfl ?_
        refine xr_getR flX9_40 dX9_judge_44 s_0 rfl ?_
        refine xr_aload_n dX9_judge_47 1 rfl ?_
        refine xr_getR flX9_67 dX9_judge_48 s_0 rfl ?_
        refine xr_iload_n dX9_judge_51 2 rfl ?_
        refine xb_aald (j := s_) (q := 50 + 2 * s_) (by decide) dX9_judge_52 s_49 hs_ (by decide) (if_pos hs_) ?_
        refine xr_iload_n dX9_judge_53 3 rfl ?_
        refine xr_callV (As := [.ref (50 + 2 * s_), .int (nI (h_))]) (rest := []) mlX9_251 (gw_X7_firstUnlike (P := (PS nh t S)) (L := (G9 s_).2.1) (E := (G9 s_).2.2) (h := h_) hP hh_ (s_shelf hs_) (s_elem hs_) (by omega) hLL hT3 ((Eq.trans (k5 (50 + 2 * s_) 3 (by unfold WTB; omega)) rfl).trans e_s) hE) dX9_judge_54 s_27 rfl rfl (Nat.le_of_ble_eq_true rfl) (by decide) ⟨by decide, by decide⟩ (fun v s2 M7 J2 hq => ?_)
        obtain ⟨r9, rfl, rfl, rfl, k8, hx6⟩ := hq
        try dsimp only [Option.toList, List.cons_append, List.nil_append]
        exact xr_iret dX9_judge_57 rfl rfl (⟨_, rfl, rfl, rfl, (Ke.tr (fun pp kk => (fun hh => Or.elim hh (fun h => (Or.inl h)) (fun hh => Or.elim hh (fun h => (Or.inr (Or.inl h))) (fun hh => Or.elim hh (fun h => (Or.inr (Or.inr (Or.inl (by omega))))) (fun hh => Or.elim hh (fun h => (Or.inr (Or.inr (Or.inl (by omega))))) (fun h => (Or.inr (Or.inr (Or.inr h))))))))) (Ke.tr (fun pp kk => (fun hh => Or.elim hh (fun h => (Or.inr (Or.inr (Or.inl h)))) (fun h => (Or.inr (Or.inr (Or.inr h)))))) Ke.rf k5) k8), ⟨⟨⟨nh, by omega, (Eq.trans (k8 13 2 (by decide)) (Eq.trans (k5 13 2 (by decide)) e_cn))⟩, ⟨cm, by omega, (Eq.trans (k8 20 2 (by decide)) (Eq.trans (k5 20 2 (by decide)) e_cm))⟩, ⟨L, by omega, (Eq.trans (k8 1 4 (by decide)) (Eq.trans (k5 1 4 (by decide)) e_L))⟩, (fun kk hkk => by rw [show M7 3 kk = M 3 kk from (Eq.trans (k8 3 kk (by unfold WS; omega)) (Eq.trans (k5 3 kk (by unfold WTB; omega)) rfl))]; exact hv kk hkk), (DI_ke (by intro k; unfold WS; omega) k8 (DI_ke (by intro k; unfold WTB; omega) k5 hD)), ⟨n, by omega, (Eq.trans (k8 6 2 (by decide)) (Eq.trans (k5 6 2 (by decide)) e_n))⟩, ⟨un, wn, by omega, by omega, (Eq.trans (k8 41 4 (by decide)) (Eq.trans (k5 41 4 (by decide)) e_un)), (Eq.trans (k8 41 5 (by decide)) (Eq.trans (k5 41 5 (by decide)) e_wn))⟩, ⟨b, by omega, (Eq.trans (k8 46 2 (by decide)) (Eq.trans (k5 46 2 (by decide)) e_b))⟩, (fun j hj => by obtain ⟨q, hq, eq⟩ := hkd j hj; exact ⟨q, hq, (show M7 47 j = M 47 j from (Eq.trans (k8 47 j (by unfold WS; omega)) (Eq.trans (k5 47 j (by unfold WTB; omega)) rfl))).trans eq⟩), ⟨ra, by omega, (Eq.trans (k8 46 3 (by decide)) (Eq.trans (k5 46 3 (by decide)) e_ra))⟩, (fun j hj => by obtain ⟨s, hs, es⟩ := hsl j hj; exact ⟨s, hs, (show M7 (50 + 2 * j) 3 = M (50 + 2 * j) 3 from (Eq.trans (k8 (50 + 2 * j) 3 (by unfold WS; omega)) (Eq.trans (k5 (50 + 2 * j) 3 (by unfold WTB; omega)) rfl))).trans es⟩), (fun j hj => by obtain ⟨q, hq, eq⟩ := hS j hj; exact ⟨q, hq, (show M7 36 j = M 36 j from (Eq.trans (k8 36 j (by unfold WS; omega)) (Eq.trans (k5 36 j (by unfold WTB; omega)) rfl))).trans eq⟩)⟩, ((hx6.trans ((if_neg (by rw [hkk]; decide)).trans (if_pos hkk)).symm).trans (jdR_y hn5 hs_ hh_))⟩⟩)
      · refine xb_top (y := (-12)) ((if_neg h0).trans (if_neg h2)) ?_
        refine xr_istore_n (ls2 := [(3, .int ((-12))), (0, .ref (0)), (1, .int (nI (s_))), (2, .int (nI (h_)))]) dX9_judge_29 (by decide) rfl ?_
        refine xr_iload_n dX9_judge_30 0 rfl ?_
        refine xr_if_eq (tgt := 36) dX9_judge_31 rfl (fun c => absurd c (by decide)) (fun _ => ?_)
        refine xr_iload_n dX9_judge_34 0 rfl ?_
        exact xr_iret dX9_judge_35 rfl rfl (⟨_, rfl, rfl, rfl, Ke.rf, ⟨⟨⟨nh, by omega, e_cn⟩, ⟨cm, by omega, e_cm⟩, ⟨L, by omega, e_L⟩, (fun kk hkk => by rw [show M 3 kk = M 3 kk from rfl]; exact hv kk hkk), hD, ⟨n, by omega, e_n⟩, ⟨un, wn, by omega, by omega, e_un, e_wn⟩, ⟨b, by omega, e_b⟩, (fun j hj => by obtain ⟨q, hq, eq⟩ := hkd j hj; exact ⟨q, hq, (show M 47 j = M 47 j from rfl).trans eq⟩), ⟨ra, by omega, e_ra⟩, (fun j hj => by obtain ⟨s, hs, es⟩ := hsl j hj; exact ⟨s, hs, (show M (50 + 2 * j) 3 = M (50 + 2 * j) 3 from rfl).trans es⟩), (fun j hj => by obtain ⟨q, hq, eq⟩ := hS j hj; exact ⟨q, hq, (show M 36 j = M 36 j from rfl).trans eq⟩)⟩, (((if_neg (by rw [hkk]; decide)).trans (if_neg (by rw [hkk]; decide))).symm.trans (jdR_y hn5 hs_ hh_))⟩⟩)
    · refine xr_iconst (v := -1) dX9_judge_18 rfl ?_
      exact xr_iret dX9_judge_19 rfl rfl (⟨_, rfl, rfl, rfl, Ke.rf, ⟨⟨⟨nh, by omega, e_cn⟩, ⟨cm, by omega, e_cm⟩, ⟨L, by omega, e_L⟩, (fun kk hkk => by rw [show M 3 kk = M 3 kk from rfl]; exact hv kk hkk), hD, ⟨n, by omega, e_n⟩, ⟨un, wn, by omega, by omega, e_un, e_wn⟩, ⟨b, by omega, e_b⟩, (fun j hj => by obtain ⟨q, hq, eq⟩ := hkd j hj; exact ⟨q, hq, (show M 47 j = M 47 j from rfl).trans eq⟩), ⟨ra, by omega, e_ra⟩, (fun j hj => by obtain ⟨s, hs, es⟩ := hsl j hj; exact ⟨s, hs, (show M (50 + 2 * j) 3 = M (50 + 2 * j) 3 from rfl).trans es⟩), (fun j hj => by obtain ⟨q, hq, eq⟩ := hS j hj; exact ⟨q, hq, (show M 36 j = M 36 j from rfl).trans eq⟩)⟩, (jdR_n (fun z => c2 z.2))⟩⟩)