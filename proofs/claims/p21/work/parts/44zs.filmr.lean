def rwI (v : Int32) : Int32 := if v < 0 then -11 else if v = 50 then 1 else -12
set_option maxRecDepth 100000 in
set_option maxHeartbeats 4000000 in
theorem gw_X10_rowIs {q : Nat} (hq : q < 6) {l : Launch} {G : xG} {M : xM} {J : xJ} : x_M l G fX10_rowIs 2 0 0 [.ref 62, .int (nI (q))] x_SH M J (qE (some (.int (rwI (M 83 q)))) x_SH M J) := by
  refine xb_of pX10 (Nat.le_of_ble_eq_true rfl) rfl ?_
  refine xr_iload_n dX10_rowIs_0 1 rfl ?_
  refine xb_cS (As := [.int (nI (q))]) (rest := []) mlX10_125 (c_X10_isShelf (nI (q))) dX10_rowIs_1 rfl rfl (Nat.le_of_ble_eq_true rfl) (by decide) (by decide) ?_
  refine xb_bne (tgt := 11) dX10_rowIs_4 rfl (fun _ => ?_) (fun c => absurd ⟨nI_pos' (by omega), nI_le (a := q) (b := 5) (by omega) (by decide)⟩ c)
  refine xr_aload_n dX10_rowIs_11 0 rfl ?_
  refine xr_getR flX10_75 dX10_rowIs_12 s_62 rfl ?_
  refine xr_iload_n dX10_rowIs_15 1 rfl ?_
  refine xb_iald (j := q) (v := M 83 q) dX10_rowIs_16 s_83 hq (by decide) rfl ?_
  refine xr_if_ge (tgt := 25) dX10_rowIs_17 rfl (fun c2 => ?_) (fun c2 => ?_)
  · refine xr_aload_n dX10_rowIs_25 0 rfl ?_
    refine xr_getR flX10_75 dX10_rowIs_26 s_62 rfl ?_
    refine xr_iload_n dX10_rowIs_29 1 rfl ?_
    refine xb_iald (j := q) (v := M 83 q) dX10_rowIs_30 s_83 hq (by decide) rfl ?_
    refine xr_bipush (v := 50) dX10_rowIs_31 rfl ?_
    refine xr_icmp_ne (tgt := 40) dX10_rowIs_33 rfl (fun c3 => ?_) (fun c3 => ?_)
    · refine xr_bipush (v := -12) dX10_rowIs_40 rfl ?_
      exact xr_iret dX10_rowIs_42 rfl rfl (⟨congrArg (fun z => some (Value.int z)) ((if_neg (by grind)).trans (if_neg c3)).symm, rfl, rfl, rfl⟩)
    · refine xr_iconst (v := 1) dX10_rowIs_36 rfl ?_
      refine xr_goto (tgt := 42) dX10_rowIs_37 rfl ?_
      exact xr_iret dX10_rowIs_42 rfl rfl (⟨congrArg (fun z => some (Value.int z)) ((if_neg (by grind)).trans (if_pos c3)).symm, rfl, rfl, rfl⟩)
  · refine xr_bipush (v := -11) dX10_rowIs_20 rfl ?_
    refine xr_goto (tgt := 42) dX10_rowIs_22 rfl ?_
    exact xr_iret dX10_rowIs_42 rfl rfl (⟨congrArg (fun z => some (Value.int z)) (if_pos (Int32.not_le.mp c2)).symm, rfl, rfl, rfl⟩)
set_option maxRecDepth 100000 in
set_option maxHeartbeats 4000000 in
theorem gw_X10_rowIs_n {d : Int32} (hd : ¬ (0 ≤ d ∧ d ≤ 5)) {l : Launch} {G : xG} {M : xM} {J : xJ} : x_M l G fX10_rowIs 2 0 0 [.ref 62, .int (d)] x_SH M J (qE (some (.int (-1))) x_SH M J) := by
  refine xb_of pX10 (Nat.le_of_ble_eq_true rfl) rfl ?_
  refine xr_iload_n dX10_rowIs_0 1 rfl ?_
  refine xb_cS (As := [.int (d)]) (rest := []) mlX10_125 (c_X10_isShelf d) dX10_rowIs_1 rfl rfl (Nat.le_of_ble_eq_true rfl) (by decide) (by decide) ?_
  refine xb_bne (tgt := 11) dX10_rowIs_4 rfl (fun c => absurd c hd) (fun _ => ?_)
  refine xr_iconst (v := -1) dX10_rowIs_7 rfl ?_
  refine xr_goto (tgt := 42) dX10_rowIs_8 rfl ?_
  exact xr_iret dX10_rowIs_42 rfl rfl (⟨rfl, rfl, rfl, rfl⟩)
set_option maxRecDepth 100000 in
set_option maxHeartbeats 4000000 in
theorem rfux {P : xP} {nw : Int32} (hP : WP P) {h q L : Nat} {E : Nat → Int64} (hq : q < 6) (hLL : L ≤ 60) (hh : h < P.1) (h5 : P.1 ≤ 5) (T : Int32) {l : Launch} {G : xG} {M : xM} {J : xJ} {Q : xQ} (e_nw : M 62 9 = nw) (e_s : M 84 q = nI L) (hE : ∀ j, j < 60 → J 85 (60 * q + j) = E j) (hR : ∀ (r : Int32) (M2 : xM), Ke WR1 M M2 → r = T → Q (some (.int r)) x_SH M2 J) (hC : ∀ (M2 : xM), Ke WR1 M M2 → (-2 = T) → x_X l G fX10_firstFalse 62 0 0 Q 67 [(0, .ref (62))] [] x_SH M2 J 0 0) : ∀ (m k : Nat) (M1 : xM), k + m = L → Ke WR1 M M1 → (∃ D1, TR M1 P D1 ∧ fuF P h E (L - k) k (nw + nI (k)) D1 = T) → x_X l G fX10_firstFalse 62 0 0 Q 10 [(3, .int (nI (k))), (2, .int (nI (h))), (1, .int (nI (q))), (0, .ref (62))] [] x_SH M1 J 0 0 := by
  intro m
  induction m with
  | zero =>
    intro k M1 hk hM hI
    obtain ⟨D1, hT1, hR1⟩ := hI
    refine xr_iload_n dX10_firstFalse_10 0 rfl ?_
    refine xr_aload_n dX10_firstFalse_11 3 rfl ?_
    refine xr_getR flX10_78 dX10_firstFalse_12 s_62 rfl ?_
    refine xr_iload_n dX10_firstFalse_15 2 rfl ?_
    refine xb_iald (j := q) (v := nI (L)) dX10_firstFalse_16 s_84 hq (by decide) (Eq.trans (hM 84 q (by unfold WR1; omega)) e_s) ?_
    refine xr_icmp_ge (tgt := 67) dX10_firstFalse_17 rfl (fun _ => ?_) (fun c => absurd (nI_le (a := L) (b := k) (by omega) (by omega)) c)
    refine xb_ls (ls2 := [(0, .ref (62))]) [3] rfl ?_
    exact hC _ hM (by obtain rfl : k = L := (by omega); rw [Nat.sub_self] at hR1; exact hR1)
  | succ m ih =>
    intro k M1 hk hM hI
    have hkN : k < L := by omega
    obtain ⟨D1, hT1, hR1⟩ := hI
    refine xr_iload_n dX10_firstFalse_10 0 rfl ?_
    refine xr_aload_n dX10_firstFalse_11 3 rfl ?_
    refine xr_getR flX10_78 dX10_firstFalse_12 s_62 rfl ?_
    refine xr_iload_n dX10_firstFalse_15 2 rfl ?_
    refine xb_iald (j := q) (v := nI (L)) dX10_firstFalse_16 s_84 hq (by decide) (Eq.trans (hM 84 q (by unfold WR1; omega)) e_s) ?_
    refine xr_icmp_ge (tgt := 67) dX10_firstFalse_17 rfl (fun c => absurd c (nI_ge (a := k) (b := L) (by omega) (by omega))) (fun _ => ?_)
    refine xr_iload_n dX10_firstFalse_20 0 rfl ?_
    refine xr_sipush (v := 200) dX10_firstFalse_21 rfl ?_
    refine xr_icmp_ge (tgt := 67) dX10_firstFalse_24 rfl (fun c => absurd c (nI_ge (a := k) (b := 200) (by omega) (by omega))) (fun _ => ?_)
    refine xr_aload_n dX10_firstFalse_27 3 rfl ?_
    refine xr_aload_n dX10_firstFalse_28 3 rfl ?_
    refine xb_get (v := nw) flX10_151 dX10_firstFalse_29 s_62 rfl (Eq.trans (hM 62 9 (by decide)) e_nw) ?_
    refine xr_iload_n dX10_firstFalse_32 0 rfl ?_
    refine xr_iadd dX10_firstFalse_33 ?_
    refine xr_callV (As := [.int ((nw + (nI (k))))]) (rest := []) mlX10_255 (gw_X10_tickGoes (nw + (nI (k))) (pd := M1 62 23) (hn := P.1) (t := P.2.1) hP.2.2 hP.1 hT1.1.1 hT1.2.1 hT1.2.2.1 hT1.2.2.2.1 hT1.2.2.2.2 rfl hT1.1.2.2.2 hT1.1.2.1 hT1.1.2.2.1) dX10_firstFalse_34 s_62 rfl rfl (Nat.le_of_ble_eq_true rfl) (by decide) ⟨by decide, by decide⟩ (fun v s2 M2 J2 hq => ?_)
    obtain ⟨rfl, rfl, rfl, k3, hx1⟩ := hq
    try dsimp only [Option.toList, List.cons_append, List.nil_append]
    have hT4 : TR M2 P (tiF P (nw + (nI (k))) D1) := TR_w hT1 hx1.1 (WF_tiF (P := P) hT1.1.2.2.1) (k3 62 6 (by decide)) (k3 62 13 (by decide)) (fun kl => k3 63 kl (by unfold WTG; omega)) (fun kl => k3 70 kl (by unfold WTG; omega))
    refine xr_aload_n dX10_firstFalse_37 3 rfl ?_
    refine xr_getR flX10_81 dX10_firstFalse_38 s_62 rfl ?_
    refine xr_bipush (v := 60) dX10_firstFalse_41 rfl ?_
    refine xr_iload_n dX10_firstFalse_43 2 rfl ?_
    refine xr_imul dX10_firstFalse_44 ?_
    refine xb_top (y := nI (60 * q)) (nI_mulc 60 q) ?_
    refine xr_iload_n dX10_firstFalse_45 0 rfl ?_
    refine xr_iadd dX10_firstFalse_46 ?_
    refine xb_top (y := nI (60 * q + k)) (nI_add (60 * q) (k)) ?_
    refine xb_lald (j := 60 * q + k) (v := J 85 (60 * q + k)) dX10_firstFalse_47 s_85 (by omega) (by decide) rfl ?_
    refine xr_aload_n dX10_firstFalse_48 3 rfl ?_
    refine xr_getR flX10_37 dX10_firstFalse_49 s_62 rfl ?_
    refine xr_iload_n dX10_firstFalse_52 1 rfl ?_
    refine xb_iald (j := h) (v := (tiF P (nw + nI (k)) D1 h 2)) dX10_firstFalse_53 s_72 (by omega) (by decide) (hT4.1.2.1 h hh).2.2.1 ?_
    refine xr_i2l dX10_firstFalse_54 ?_
    refine xr_lcmp dX10_firstFalse_55 ?_
    refine xl_eq (tgt := 61) dX10_firstFalse_56 rfl (fun c5 => ?_) (fun c5 => ?_)
    · refine xr_iinc (v := nI (k + 1)) (ls2 := [(3, .int (nI (k + 1))), (2, .int (nI (h))), (1, .int (nI (q))), (0, .ref (62))]) dX10_firstFalse_61 0 rfl (nI_1 _) (by decide) rfl ?_
      refine xr_goto (tgt := 10) dX10_firstFalse_64 rfl ?_
      refine xb_ls (ls2 := [(3, .int (nI (k + 1))), (2, .int (nI (h))), (1, .int (nI (q))), (0, .ref (62))]) [0, 1, 2, 3] rfl ?_
      exact ih (k + 1) M2 (by omega) (Ke.tr (fun pp kk => (fun hh => Or.elim hh (fun h => (Or.inl h)) (fun hh => Or.elim hh (fun h => (Or.inr (Or.inl h))) (fun hh => Or.elim hh (fun h => (Or.inr (Or.inr (Or.inl h)))) (fun hh => Or.elim hh (fun h => (Or.inr (Or.inr (Or.inr (Or.inl h))))) (fun hh => Or.elim hh (fun h => (Or.inr (Or.inr (Or.inr (Or.inr (Or.inl h)))))) (fun hh => Or.elim hh (fun h => (Or.inr (Or.inr (Or.inr (Or.inr (Or.inr (Or.inl h))))))) (fun h => (Or.inr (Or.inr (Or.inr (Or.inr (Or.inr (Or.inr (Or.inr h))))))))))))))) hM k3) ⟨_, hT4, by rw [← now_s]; exact (fuF_y hkN (((hE k (by omega)).symm.trans c5).symm)).trans hR1⟩
    · refine xr_iload_n dX10_firstFalse_59 0 rfl ?_
      exact xr_iret dX10_firstFalse_60 rfl rfl ((hR _ _ (Ke.tr (fun pp kk => (fun hh => Or.elim hh (fun h => (Or.inl h)) (fun hh => Or.elim hh (fun h => (Or.inr (Or.inl h))) (fun hh => Or.elim hh (fun h => (Or.inr (Or.inr (Or.inl h)))) (fun hh => Or.elim hh (fun h => (Or.inr (Or.inr (Or.inr (Or.inl h))))) (fun hh => Or.elim hh (fun h => (Or.inr (Or.inr (Or.inr (Or.inr (Or.inl h)))))) (fun hh => Or.elim hh (fun h => (Or.inr (Or.inr (Or.inr (Or.inr (Or.inr (Or.inl h))))))) (fun h => (Or.inr (Or.inr (Or.inr (Or.inr (Or.inr (Or.inr (Or.inr h))))))))))))))) hM k3) ((fuF_n hkN (fun z => c5 ((hE k (by omega)).trans z.symm))).symm.trans hR1)))
set_option maxRecDepth 100000 in
set_option maxHeartbeats 4000000 in
theorem gy_X10_firstFalse {P : xP} {nw : Int32} {D : xM} (hP : WP P) {h q L : Nat} {E : Nat → Int64} (hq : q < 6) (hLL : L ≤ 60) (hh : h < P.1) {l : Launch} {G : xG} {M : xM} {J : xJ} (hT : TS M P nw D) (e_s : M 84 q = nI L) (hE : ∀ j, j < 60 → J 85 (60 * q + j) = E j) : x_M l G fX10_firstFalse 62 0 0 [.ref (62), .int (nI (q)), .int (nI (h))] x_SH M J (qKI WR1 M J (fun r M2 => r = fuV P h L E nw D)) := by
  refine xb_of pX10 (Nat.le_of_ble_eq_true rfl) rfl ?_
  refine xr_aload_n dX10_firstFalse_0 0 rfl ?_
  refine xr_aload_n dX10_firstFalse_1 0 rfl ?_
  refine xr_callV (As := []) (rest := [.ref (62)]) mlX10_246 (gw_X10_upNow (D := D) (hn := P.1) hP.1 hT.1.1 hT.1.2.1 hT.1.2.2.1) dX10_firstFalse_2 s_62 rfl rfl (Nat.le_of_ble_eq_true rfl) (by decide) ⟨by decide, by decide⟩ (fun v s2 M9 J2 hq => ?_)
  obtain ⟨r2, rfl, rfl, rfl, rfl, hx1⟩ := hq
  try dsimp only [Option.toList, List.cons_append, List.nil_append]
  subst hx1
  refine xr_callV (As := [.int ((upS P.1 D))]) (rest := []) mlX10_249 (gw_X10_begins1 (upS P.1 D) (D := D) (hn := P.1) hP.1 hT.1.1 hT.1.2.1) dX10_firstFalse_5 s_62 rfl rfl (Nat.le_of_ble_eq_true rfl) (by decide) ⟨by decide, by decide⟩ (fun v s2 M4 J2 hq => ?_)
  obtain ⟨rfl, rfl, rfl, k5, hx3⟩ := hq
  try dsimp only [Option.toList, List.cons_append, List.nil_append]
  have hT6 : TR M4 P D := TS_R hT (AbR_eq hx3 (msk_up hP.1 hT.1.2.2.1)) hT.1.2.2.1 (k5 62 6 (by decide)) (k5 62 13 (by decide)) (fun kl => k5 63 kl (by unfold WBG; omega)) (fun kl => k5 70 kl (by unfold WBG; omega))
  refine xr_iconst (v := 0) dX10_firstFalse_8 rfl ?_
  refine xr_istore_n (ls2 := [(3, .int (0)), (0, .ref (62)), (1, .int (nI (q))), (2, .int (nI (h)))]) dX10_firstFalse_9 (by decide) rfl ?_
  refine xb_ls (ls2 := [(3, .int (nI (0))), (2, .int (nI (h))), (1, .int (nI (q))), (0, .ref (62))]) [0, 3, 2, 1] rfl ?_
  refine rfux hP hq hLL hh hP.1 (fuV P h L E nw D) (Eq.trans (k5 62 9 (by decide)) hT.2.2) (Eq.trans (k5 84 q (by unfold WBG; omega)) e_s) hE (fun r M2 hk hr => ⟨_, rfl, rfl, rfl, Ke.tr (fun _ _ h => h) (Ke.tr (fun pp kk h => (Or.inr (Or.inr (Or.inr (Or.inr (Or.inr (Or.inr (Or.inr (by omega))))))))) Ke.rf k5) hk, hr⟩) (fun M7 k8 hI => ?_) (L - 0) 0 M4 (by omega) Ke.rf ⟨D, hT6, by rw [← now_0]; rfl⟩
  refine xr_bipush (v := -2) dX10_firstFalse_67 rfl ?_
  exact xr_iret dX10_firstFalse_69 rfl rfl (⟨_, rfl, rfl, rfl, (Ke.tr (fun _ _ h => h) (Ke.tr (fun pp kk h => (Or.inr (Or.inr (Or.inr (Or.inr (Or.inr (Or.inr (Or.inr (by omega))))))))) Ke.rf k5) k8), hI⟩)
set_option maxRecDepth 100000 in
set_option maxHeartbeats 4000000 in
theorem gxzq_X10_judge {nh : Nat} {D : xM} {t : Option zL} {S : Nat → Int32} {G9 : xQs} {q : Nat} (h : Int32) {l : Launch} {G : xG} {M : xM} {J : xJ} (hI : InvR M) (hWG : WG nh D S) (hG : RG M nh D t S) (hSh : RSh M J G9) (hWS : WSh G9) (hq : q < 6) : x_M l G fX10_judge 63 0 0 [.ref (62), .int (nI (q)), .int (h)] x_SH M J (qKI WR1 M J (fun r M2 => InvR M2 ∧ (r = jdR nh D t S G9 (nI (q)) h))) := by
  refine xb_of pX10 (Nat.le_of_ble_eq_true rfl) rfl ?_
  obtain ⟨⟨hn, h_hn, e_hn, hw⟩, hbt, ⟨un, wn, h_uw, h_wn, e_un, e_wn⟩, hch, ⟨n, h_n, e_n⟩, htx, ⟨b, h_b, e_b⟩, hkd, ⟨ra, h_ra, e_ra⟩, hsl, ⟨ic, h_ic, e_ic⟩, hS⟩ := hI
  obtain ⟨hn5, hW, hrub, hbeat⟩ := hWG
  obtain ⟨hGn, hA, hL, e_nw, e_rub, e_bt, e_ph, e_st, e_kn, e_pu, e_lf⟩ := hG
  obtain rfl : nh = hn := (nI_eq (by omega) (by omega)).mp (hGn.symm.trans e_hn)
  have hbt2 : ¬ S 2 = 0 := ne2_0 hbeat.1
  have hP : WP (PS nh t S) := ⟨hn5, hrub, hbt2⟩
  refine xr_aload_n dX10_judge_0 0 rfl ?_
  refine xr_iload_n dX10_judge_1 1 rfl ?_
  refine xb_cV (As := [.int (nI (q))]) (rest := []) mlX10_285 (gw_X10_rowIs hq) dX10_judge_2 s_62 rfl rfl (Nat.le_of_ble_eq_true rfl) (by decide) (by decide) ?_
  obtain ⟨hLL, e_s, hE, hkd⟩ := hSh q hq
  rcases hkd with ⟨hkk, h0⟩ | ⟨hkk, h0⟩ | ⟨hkk, h0, h2⟩
  · refine xb_top (y := (-11)) (if_pos h0) ?_
    refine xr_iconst (v := -1) dX10_judge_5 rfl ?_
    refine xr_icmp_eq (tgt := 17) dX10_judge_6 rfl (fun c => absurd c (by decide)) (fun _ => ?_)
    refine xr_aload_n dX10_judge_9 0 rfl ?_
    refine xr_iload_n dX10_judge_10 2 rfl ?_
    refine xb_cV (As := [.int (h)]) (rest := []) mlX10_133 (c_X10_isHoop h (by omega) e_hn) dX10_judge_11 s_62 rfl rfl (Nat.le_of_ble_eq_true rfl) (by decide) (by decide) ?_
    refine xb_bne (tgt := 19) dX10_judge_14 rfl (fun c1 => ?_) (fun c1 => ?_)
    · obtain ⟨h_, hh_, rfl⟩ := x_nat (N := nh) (by omega) rfl c1
      refine xr_aload_n dX10_judge_19 0 rfl ?_
      refine xr_iload_n dX10_judge_20 1 rfl ?_
      refine xb_cV (As := [.int (nI (q))]) (rest := []) mlX10_285 (gw_X10_rowIs hq) dX10_judge_21 s_62 rfl rfl (Nat.le_of_ble_eq_true rfl) (by decide) (by decide) ?_
      refine xb_top (y := (-11)) (if_pos h0) ?_
      refine xr_if_ge (tgt := 35) dX10_judge_24 rfl (fun c => absurd c (by decide)) (fun _ => ?_)
      refine xr_aload_n dX10_judge_27 0 rfl ?_
      refine xr_iload_n dX10_judge_28 1 rfl ?_
      refine xb_cV (As := [.int (nI (q))]) (rest := []) mlX10_285 (gw_X10_rowIs hq) dX10_judge_29 s_62 rfl rfl (Nat.le_of_ble_eq_true rfl) (by decide) (by decide) ?_
      refine xb_top (y := (-11)) (if_pos h0) ?_
      refine xr_goto (tgt := 41) dX10_judge_32 rfl ?_
      exact xr_iret dX10_judge_41 rfl rfl (⟨_, rfl, rfl, rfl, Ke.rf, ⟨⟨⟨nh, by omega, e_hn, (fun kw hkw => by rw [show M 63 (5 + kw) = M 63 (5 + kw) from rfl]; exact hw kw hkw)⟩, (by rw [show M 63 16 = M 63 16 from rfl]; exact hbt), ⟨un, wn, by omega, by omega, e_un, e_wn⟩, (fun kk hkk => by rw [show M 64 kk = M 64 kk from rfl, show M 65 kk = M 65 kk from rfl, show M 66 kk = M 66 kk from rfl]; exact hch kk hkk), ⟨n, by omega, e_n⟩, (by rw [show M 62 13 = M 62 13 from rfl]; exact htx), ⟨b, by omega, e_b⟩, (fun j hj => by obtain ⟨q, hq, eq⟩ := hkd j hj; exact ⟨q, hq, (show M 81 j = M 81 j from rfl).trans eq⟩), ⟨ra, by omega, e_ra⟩, (fun j hj => by rw [show M 83 j = M 83 j from rfl, show M 84 j = M 84 j from rfl]; exact hsl j hj), ⟨ic, by omega, e_ic⟩, (fun j hj => by obtain ⟨q, hq, eq⟩ := hS j hj; exact ⟨q, hq, (show M 75 j = M 75 j from rfl).trans eq⟩)⟩, ((if_pos hkk).symm.trans (jdR_y hn5 hq hh_))⟩⟩)
    · refine xr_iconst (v := -1) dX10_judge_17 rfl ?_
      exact xr_iret dX10_judge_18 rfl rfl (⟨_, rfl, rfl, rfl, Ke.rf, ⟨⟨⟨nh, by omega, e_hn, (fun kw hkw => by rw [show M 63 (5 + kw) = M 63 (5 + kw) from rfl]; exact hw kw hkw)⟩, (by rw [show M 63 16 = M 63 16 from rfl]; exact hbt), ⟨un, wn, by omega, by omega, e_un, e_wn⟩, (fun kk hkk => by rw [show M 64 kk = M 64 kk from rfl, show M 65 kk = M 65 kk from rfl, show M 66 kk = M 66 kk from rfl]; exact hch kk hkk), ⟨n, by omega, e_n⟩, (by rw [show M 62 13 = M 62 13 from rfl]; exact htx), ⟨b, by omega, e_b⟩, (fun j hj => by obtain ⟨q, hq, eq⟩ := hkd j hj; exact ⟨q, hq, (show M 81 j = M 81 j from rfl).trans eq⟩), ⟨ra, by omega, e_ra⟩, (fun j hj => by rw [show M 83 j = M 83 j from rfl, show M 84 j = M 84 j from rfl]; exact hsl j hj), ⟨ic, by omega, e_ic⟩, (fun j hj => by obtain ⟨q, hq, eq⟩ := hS j hj; exact ⟨q, hq, (show M 75 j = M 75 j from rfl).trans eq⟩)⟩, (jdR_n (fun z => c1 z.2))⟩⟩)
  · refine xb_top (y := 1) ((if_neg (by rw [h0]; decide)).trans (if_pos h0)) ?_
    refine xr_iconst (v := -1) dX10_judge_5 rfl ?_
    refine xr_icmp_eq (tgt := 17) dX10_judge_6 rfl (fun c => absurd c (by decide)) (fun _ => ?_)
    refine xr_aload_n dX10_judge_9 0 rfl ?_
    refine xr_iload_n dX10_judge_10 2 rfl ?_
    refine xb_cV (As := [.int (h)]) (rest := []) mlX10_133 (c_X10_isHoop h (by omega) e_hn) dX10_judge_11 s_62 rfl rfl (Nat.le_of_ble_eq_true rfl) (by decide) (by decide) ?_
    refine xb_bne (tgt := 19) dX10_judge_14 rfl (fun c2 => ?_) (fun c2 => ?_)
    · obtain ⟨h_, hh_, rfl⟩ := x_nat (N := nh) (by omega) rfl c2
      refine xr_aload_n dX10_judge_19 0 rfl ?_
      refine xr_iload_n dX10_judge_20 1 rfl ?_
      refine xb_cV (As := [.int (nI (q))]) (rest := []) mlX10_285 (gw_X10_rowIs hq) dX10_judge_21 s_62 rfl rfl (Nat.le_of_ble_eq_true rfl) (by decide) (by decide) ?_
      refine xb_top (y := 1) ((if_neg (by rw [h0]; decide)).trans (if_pos h0)) ?_
      refine xr_if_ge (tgt := 35) dX10_judge_24 rfl (fun _ => ?_) (fun c => absurd (by decide) c)
      refine xr_aload_n dX10_judge_35 0 rfl ?_
      refine xr_iload_n dX10_judge_36 1 rfl ?_
      refine xr_iload_n dX10_judge_37 2 rfl ?_
      refine xr_callV (As := [.int (nI (q)), .int (nI (h_))]) (rest := []) mlX10_290 (gy_X10_firstFalse (P := (PS nh t S)) (nw := S 0) (D := D) (L := (G9 q).2.1) (E := (G9 q).2.2) (h := h_) hP hq hLL hh_ ⟨⟨e_hn, (AbS_k hA (fun kl hkl => rfl) (fun kl => rfl) (fun kl => rfl) hn5), hW, (LRt_k rfl rfl hL)⟩, ⟨e_rub, e_bt, e_ph, e_st⟩, e_nw⟩ e_s hE) dX10_judge_38 s_62 rfl rfl (Nat.le_of_ble_eq_true rfl) (by decide) ⟨by decide, by decide⟩ (fun v s2 M4 J2 hq => ?_)
      obtain ⟨r6, rfl, rfl, rfl, k5, hx3⟩ := hq
      try dsimp only [Option.toList, List.cons_append, List.nil_append]
      exact xr_iret dX10_judge_41 rfl rfl (⟨_, rfl, rfl, rfl, (Ke.tr (fun _ _ h => h) Ke.rf k5), ⟨⟨⟨nh, by omega, (Eq.trans (k5 62 6 (by decide)) e_hn), (fun kw hkw => by rw [show M4 63 (5 + kw) = M 63 (5 + kw) from (Eq.trans (k5 63 (5 + kw) (by unfold WR1; omega)) rfl)]; exact hw kw hkw)⟩, (by rw [show M4 63 16 = M 63 16 from (Eq.trans (k5 63 16 (by unfold WR1; omega)) rfl)]; exact hbt), ⟨un, wn, by omega, by omega, (Eq.trans (k5 62 5 (by decide)) e_un), (Eq.trans (k5 62 4 (by decide)) e_wn)⟩, (fun kk hkk => by rw [show M4 64 kk = M 64 kk from (Eq.trans (k5 64 kk (by unfold WR1; omega)) rfl), show M4 65 kk = M 65 kk from (Eq.trans (k5 65 kk (by unfold WR1; omega)) rfl), show M4 66 kk = M 66 kk from (Eq.trans (k5 66 kk (by unfold WR1; omega)) rfl)]; exact hch kk hkk), ⟨n, by omega, (Eq.trans (k5 62 11 (by decide)) e_n)⟩, (by rw [show M4 62 13 = M 62 13 from (Eq.trans (k5 62 13 (by unfold WR1; omega)) rfl)]; exact htx), ⟨b, by omega, (Eq.trans (k5 62 36 (by decide)) e_b)⟩, (fun j hj => by obtain ⟨q, hq, eq⟩ := hkd j hj; exact ⟨q, hq, (show M4 81 j = M 81 j from (Eq.trans (k5 81 j (by unfold WR1; omega)) rfl)).trans eq⟩), ⟨ra, by omega, (Eq.trans (k5 62 39 (by decide)) e_ra)⟩, (fun j hj => by rw [show M4 83 j = M 83 j from (Eq.trans (k5 83 j (by unfold WR1; omega)) rfl), show M4 84 j = M 84 j from (Eq.trans (k5 84 j (by unfold WR1; omega)) rfl)]; exact hsl j hj), ⟨ic, by omega, (Eq.trans (k5 62 34 (by decide)) e_ic)⟩, (fun j hj => by obtain ⟨q, hq, eq⟩ := hS j hj; exact ⟨q, hq, (show M4 75 j = M 75 j from (Eq.trans (k5 75 j (by unfold WR1; omega)) rfl)).trans eq⟩)⟩, ((hx3.trans ((if_neg (by rw [hkk]; decide)).trans (if_pos hkk)).symm).trans (jdR_y hn5 hq hh_))⟩⟩)
    · refine xr_iconst (v := -1) dX10_judge_17 rfl ?_
      exact xr_iret dX10_judge_18 rfl rfl (⟨_, rfl, rfl, rfl, Ke.rf, ⟨⟨⟨nh, by omega, e_hn, (fun kw hkw => by rw [show M 63 (5 + kw) = M 63 (5 + kw) from rfl]; exact hw kw hkw)⟩, (by rw [show M 63 16 = M 63 16 from rfl]; exact hbt), ⟨un, wn, by omega, by omega, e_un, e_wn⟩, (fun kk hkk => by rw [show M 64 kk = M 64 kk from rfl, show M 65 kk = M 65 kk from rfl, show M 66 kk = M 66 kk from rfl]; exact hch kk hkk), ⟨n, by omega, e_n⟩, (by rw [show M 62 13 = M 62 13 from rfl]; exact htx), ⟨b, by omega, e_b⟩, (fun j hj => by obtain ⟨q, hq, eq⟩ := hkd j hj; exact ⟨q, hq, (show M 81 j = M 81 j from rfl).trans eq⟩), ⟨ra, by omega, e_ra⟩, (fun j hj => by rw [show M 83 j = M 83 j from rfl, show M 84 j = M 84 j from rfl]; exact hsl j hj), ⟨ic, by omega, e_ic⟩, (fun j hj => by obtain ⟨q, hq, eq⟩ := hS j hj; exact ⟨q, hq, (show M 75 j = M 75 j from rfl).trans eq⟩)⟩, (jdR_n (fun z => c2 z.2))⟩⟩)
  · refine xb_top (y := (-12)) ((if_neg h0).trans (if_neg h2)) ?_
    refine xr_iconst (v := -1) dX10_judge_5 rfl ?_
    refine xr_icmp_eq (tgt := 17) dX10_judge_6 rfl (fun c => absurd c (by decide)) (fun _ => ?_)
    refine xr_aload_n dX10_judge_9 0 rfl ?_
    refine xr_iload_n dX10_judge_10 2 rfl ?_
    refine xb_cV (As := [.int (h)]) (rest := []) mlX10_133 (c_X10_isHoop h (by omega) e_hn) dX10_judge_11 s_62 rfl rfl (Nat.le_of_ble_eq_true rfl) (by decide) (by decide) ?_
    refine xb_bne (tgt := 19) dX10_judge_14 rfl (fun c7 => ?_) (fun c7 => ?_)
    · obtain ⟨h_, hh_, rfl⟩ := x_nat (N := nh) (by omega) rfl c7
      refine xr_aload_n dX10_judge_19 0 rfl ?_
      refine xr_iload_n dX10_judge_20 1 rfl ?_
      refine xb_cV (As := [.int (nI (q))]) (rest := []) mlX10_285 (gw_X10_rowIs hq) dX10_judge_21 s_62 rfl rfl (Nat.le_of_ble_eq_true rfl) (by decide) (by decide) ?_
      refine xb_top (y := (-12)) ((if_neg h0).trans (if_neg h2)) ?_
      refine xr_if_ge (tgt := 35) dX10_judge_24 rfl (fun c => absurd c (by decide)) (fun _ => ?_)
      refine xr_aload_n dX10_judge_27 0 rfl ?_
      refine xr_iload_n dX10_judge_28 1 rfl ?_
      refine xb_cV (As := [.int (nI (q))]) (rest := []) mlX10_285 (gw_X10_rowIs hq) dX10_judge_29 s_62 rfl rfl (Nat.le_of_ble_eq_true rfl) (by decide) (by decide) ?_
      refine xb_top (y := (-12)) ((if_neg h0).trans (if_neg h2)) ?_
      refine xr_goto (tgt := 41) dX10_judge_32 rfl ?_
      exact xr_iret dX10_judge_41 rfl rfl (⟨_, rfl, rfl, rfl, Ke.rf, ⟨⟨⟨nh, by omega, e_hn, (fun kw hkw => by rw [show M 63 (5 + kw) = M 63 (5 + kw) from rfl]; exact hw kw hkw)⟩, (by rw [show M 63 16 = M 63 16 from rfl]; exact hbt), ⟨un, wn, by omega, by omega, e_un, e_wn⟩, (fun kk hkk => by rw [show M 64 kk = M 64 kk from rfl, show M 65 kk = M 65 kk from rfl, show M 66 kk = M 66 kk from rfl]; exact hch kk hkk), ⟨n, by omega, e_n⟩, (by rw [show M 62 13 = M 62 13 from rfl]; exact htx), ⟨b, by omega, e_b⟩, (fun j hj => by obtain ⟨q, hq, eq⟩ := hkd j hj; exact ⟨q, hq, (show M 81 j = M 81 j from rfl).trans eq⟩), ⟨ra, by omega, e_ra⟩, (fun j hj => by rw [show M 83 j = M 83 j from rfl, show M 84 j = M 84 j from rfl]; exact hsl j hj), ⟨ic, by omega, e_ic⟩, (fun j hj => by obtain ⟨q, hq, eq⟩ := hS j hj; exact ⟨q, hq, (show M 75 j = M 75 j from rfl).trans eq⟩)⟩, (((if_neg (by rw [hkk]; decide)).trans (if_neg (by rw [hkk]; decide))).symm.trans (jdR_y hn5 hq hh_))⟩⟩)
    · refine xr_iconst (v := -1) dX10_judge_17 rfl ?_
      exact xr_iret dX10_judge_18 rfl rfl (⟨_, rfl, rfl, rfl, Ke.rf, ⟨⟨⟨nh, by omega, e_hn, (fun kw hkw => by rw [show M 63 (5 + kw) = M 63 (5 + kw) from rfl]; exact hw kw hkw)⟩, (by rw [show M 63 16 = M 63 16 from rfl]; exact hbt), ⟨un, wn, by omega, by omega, e_un, e_wn⟩, (fun kk hkk => by rw [show M 64 kk = M 64 kk from rfl, show M 65 kk = M 65 kk from rfl, show M 66 kk = M 66 kk from rfl]; exact hch kk hkk), ⟨n, by omega, e_n⟩, (by rw [show M 62 13 = M 62 13 from rfl]; exact htx), ⟨b, by omega, e_b⟩, (fun j hj => by obtain ⟨q, hq, eq⟩ := hkd j hj; exact ⟨q, hq, (show M 81 j = M 81 j from rfl).trans eq⟩), ⟨ra, by omega, e_ra⟩, (fun j hj => by rw [show M 83 j = M 83 j from rfl, show M 84 j = M 84 j from rfl]; exact hsl j hj), ⟨ic, by omega, e_ic⟩, (fun j hj => by obtain ⟨q, hq, eq⟩ := hS j hj; exact ⟨q, hq, (show M 75 j = M 75 j from rfl).trans eq⟩)⟩, (jdR_n (fun z => c7 z.2))⟩⟩)
set_option maxRecDepth 100000 in
set_option maxHeartbeats 4000000 in
theorem gxzn_X10_judge {nh : Nat} {D : xM} {t : Option zL} {S : Nat → Int32} {G9 : xQs} (d h : Int32) {l : Launch} {G : xG} {M : xM} {J : xJ} (hI : InvR M) (hWG : WG nh D S) (hG : RG M nh D t S) (hSh : RSh M J G9) (hWS : WSh G9) (hd : ¬ (0 ≤ d ∧ d ≤ 5)) : x_M l G fX10_judge 63 0 0 [.ref (62), .int (d), .int (h)] x_SH M J (qKI WR1 M J (fun r M2 => InvR M2 ∧ (r = jdR nh D t S G9 d h))) := by
  refine xb_of pX10 (Nat.le_of_ble_eq_true rfl) rfl ?_
  obtain ⟨⟨hn, h_hn, e_hn, hw⟩, hbt, ⟨un, wn, h_uw, h_wn, e_un, e_wn⟩, hch, ⟨n, h_n, e_n⟩, htx, ⟨b, h_b, e_b⟩, hkd, ⟨ra, h_ra, e_ra⟩, hsl, ⟨ic, h_ic, e_ic⟩, hS⟩ := hI
  obtain ⟨hn5, hW, hrub, hbeat⟩ := hWG
  obtain ⟨hGn, hA, hL, e_nw, e_rub, e_bt, e_ph, e_st, e_kn, e_pu, e_lf⟩ := hG
  obtain rfl : nh = hn := (nI_eq (by omega) (by omega)).mp (hGn.symm.trans e_hn)
  have hbt2 : ¬ S 2 = 0 := ne2_0 hbeat.1
  refine xr_aload_n dX10_judge_0 0 rfl ?_
  refine xr_iload_n dX10_judge_1 1 rfl ?_
  refine xb_cV (As := [.int (d)]) (rest := []) mlX10_285 (gw_X10_rowIs_n hd) dX10_judge_2 s_62 rfl rfl (Nat.le_of_ble_eq_true rfl) (by decide) (by decide) ?_
  refine xr_iconst (v := -1) dX10_judge_5 rfl ?_
  refine xr_icmp_eq (tgt := 17) dX10_judge_6 rfl (fun _ => ?_) (fun c => absurd (by decide) c)
  refine xr_iconst (v := -1) dX10_judge_17 rfl ?_
  exact xr_iret dX10_judge_18 rfl rfl (⟨_, rfl, rfl, rfl, Ke.rf, ⟨⟨⟨nh, by omega, e_hn, (fun kw hkw => by rw [show M 63 (5 + kw) = M 63 (5 + kw) from rfl]; exact hw kw hkw)⟩, (by rw [show M 63 16 = M 63 16 from rfl]; exact hbt), ⟨un, wn, by omega, by omega, e_un, e_wn⟩, (fun kk hkk => by rw [show M 64 kk = M 64 kk from rfl, show M 65 kk = M 65 kk from rfl, show M 66 kk = M 66 kk from rfl]; exact hch kk hkk), ⟨n, by omega, e_n⟩, (by rw [show M 62 13 = M 62 13 from rfl]; exact htx), ⟨b, by omega, e_b⟩, (fun j hj => by obtain ⟨q, hq, eq⟩ := hkd j hj; exact ⟨q, hq, (show M 81 j = M 81 j from rfl).trans eq⟩), ⟨ra, by omega, e_ra⟩, (fun j hj => by rw [show M 83 j = M 83 j from rfl, show M 84 j = M 84 j from rfl]; exact hsl j hj), ⟨ic, by omega, e_ic⟩, (fun j hj => by obtain ⟨q, hq, eq⟩ := hS j hj; exact ⟨q, hq, (show M 75 j = M 75 j from rfl).trans eq⟩)⟩, (jdR_n (fun z => hd z.1))⟩⟩)
theorem gx_X10_judge (d h : Int32) {nh : Nat} {D : xM} {t : Option zL} {S : Nat → Int32} {G9 : xQs} {l : Launch} {G : xG} {M : xM} {J : xJ} (hI : InvR M) (hWG : WG nh D S) (hG : RG M nh D t S) (hSh : RSh M J G9) (hWS : WSh G9) : x_M l G fX10_judge 63 0 0 [.ref (62), .int (d), .int (h)] x_SH M J (qKI WR1 M J (fun r M2 => InvR M2 ∧ (r = jdR nh D t S G9 d h))) := by
  by_cases hd : 0 ≤ d ∧ d ≤ 5
  · obtain ⟨q, hq, rfl⟩ := x_natle (v := d) (N := 5) (K := 5) (by decide) (by decide) hd
    exact gxzq_X10_judge h hI hWG hG hSh hWS (by omega)
  · exact gxzn_X10_judge d h hI hWG hG hSh hWS hd
set_option maxRecDepth 100000 in
set_option maxHeartbeats 4000000 in
theorem rbgx {hpc w : Int32} {h q : Nat} (hq : q < 6) {G9 : xQs} {nh : Nat} {D : xM} {t : Option zL} {S : Nat → Int32} (hh : h < nh) (hup : ¬ D h 4 = 0) (hLL : (G9 q).2.1 ≤ 60) (hn5 : nh ≤ 5) (hrub : 0 ≤ S 1 ∧ S 1 ≤ 3) (hbt2 : ¬ S 2 = 0) (T : Int32 × Int32) {l : Launch} {G : xG} {M : xM} {J : xJ} {Q : xQ} (e_hn : M 62 6 = nI nh) (e_nw : M 62 9 = S 0) (e_rub : M 63 15 = S 1) (e_bt : M 63 16 = S 2) (e_ph : M 63 17 = S 3) (e_st : M 63 18 = S 4) (hL : LRt M t) (hA : AbS nh M D) (hW : WF nh D) (e_s : M 84 q = nI (G9 q).2.1) (hE : ∀ j, j < 60 → J 85 (60 * q + j) = (G9 q).2.2 j) (hC : ∀ (fi : Int32) (ft : Int32) (M2 : xM), Ke WRS M M2 → ((fi, ft) = T ∧ ∀ j, j ≠ 10 + h → M2 63 j = M 63 j) → x_X l G fX10_begun 63 0 0 Q 121 [(7, .int (fi)), (6, .int (ft)), (4, .int (hpc)), (3, .int (w)), (2, .int (nI (h))), (0, .ref (62))] [] x_SH M2 J 0 0) : ∀ (m k : Nat) (fi : Int32) (ft : Int32) (M1 : xM), k + m = 19 → Ke WRS M M1 → (bgL nh D t S G9 q h (19 - k) k (fi, ft) = T ∧ ∀ j, j ≠ 10 + h → M1 63 j = M 63 j) → x_X l G fX10_begun 63 0 0 Q 69 [(8, .int (pv k)), (7, .int (fi)), (6, .int (ft)), (5, .int (9)), (4, .int (hpc)), (3, .int (w)), (2, .int (nI (h))), (1, .int (nI (q))), (0, .ref (62))] [] x_SH M1 J 0 0 := by
  intro m
  induction m with
  | zero =>
    intro k fi ft M1 hk hM hI
    have hP : WP (PS nh t S) := ⟨hn5, hrub, hbt2⟩
    refine xr_iload dX10_begun_69 0 rfl ?_
    refine xr_iload dX10_begun_71 3 rfl ?_
    refine xr_icmp_gt (tgt := 121) dX10_begun_73 rfl (fun _ => ?_) (fun c => absurd (pv_gt (k := k) (by omega)) c)
    refine xb_ls (ls2 := [(7, .int (fi)), (6, .int (ft)), (4, .int (hpc)), (3, .int (w)), (2, .int (nI (h))), (0, .ref (62))]) [1, 2, 4, 5, 6, 8] rfl ?_
    exact hC fi ft _ hM (by obtain rfl : k = 19 := (by omega); exact hI)
  | succ m ih =>
    intro k fi ft M1 hk hM hI
    have hkN : k < 19 := by omega
    have hP : WP (PS nh t S) := ⟨hn5, hrub, hbt2⟩
    refine xr_iload dX10_begun_69 0 rfl ?_
    refine xr_iload dX10_begun_71 3 rfl ?_
    refine xr_icmp_gt (tgt := 121) dX10_begun_73 rfl (fun c => absurd c (pv_le (k := k) (by omega))) (fun _ => ?_)
    refine xr_aload_n dX10_begun_76 8 rfl ?_
    refine xr_getR flX10_9 dX10_begun_77 s_62 rfl ?_
    refine xr_bipush (v := 10) dX10_begun_80 rfl ?_
    refine xr_iload_n dX10_begun_82 6 rfl ?_
    refine xr_iadd dX10_begun_83 ?_
    refine xb_top (y := nI (10 + h)) (nI_add (10) (h)) ?_
    refine xr_iload dX10_begun_84 0 rfl ?_
    refine xb_iast (j := 10 + h) dX10_begun_86 s_63 (by omega) (by decide) ?_
    refine xr_aload_n dX10_begun_87 8 rfl ?_
    refine xr_iload_n dX10_begun_88 7 rfl ?_
    refine xr_iload_n dX10_begun_89 6 rfl ?_
    refine xr_callV (As := [.int (nI (q)), .int (nI (h))]) (rest := []) mlX10_290 (gy_X10_firstFalse (P := (PS nh t S)) (nw := S 0) (D := (x_up D h 3 (pv k))) (L := (G9 q).2.1) (E := (G9 q).2.2) (h := h) hP hq hLL hh ⟨⟨(Eq.trans (congrFun (x_up_n _ _ _ (by decide)) _) (Eq.trans (hM 62 6 (by decide)) e_hn)), (AbS_m (q := 10 + h) hn5 (by omega) hA (Or.inr (Or.inr ⟨rfl, rfl⟩)) (fun kl => (Eq.trans (congrFun (x_up_n _ _ _ (by decide)) _) (Eq.trans (hM 67 kl (by unfold WRS; omega)) rfl))) (fun kl => (Eq.trans (congrFun (x_up_n _ _ _ (by decide)) _) (Eq.trans (hM 68 kl (by unfold WRS; omega)) rfl))) up_s (fun j hj => (up_k hj).trans (hI.2 j hj))), WF_3 hW (pv_b (by omega)) (fun z => absurd z hup), (LRt_k (Eq.trans (congrFun (x_up_n _ _ _ (by decide)) _) (Eq.trans (hM 62 13 (by unfold WRS; omega)) rfl)) (Eq.trans (x_up_n _ _ _ (by decide)) (Eq.trans (funext fun kk => hM 70 kk (by unfold WRS; omega)) rfl)) hL)⟩, ⟨((up_k (by omega)).trans ((hI.2 15 (by omega)).trans e_rub)), ((up_k (by omega)).trans ((hI.2 16 (by omega)).trans e_bt)), ((up_k (by omega)).trans ((hI.2 17 (by omega)).trans e_ph)), ((up_k (by omega)).trans ((hI.2 18 (by omega)).trans e_st))⟩, (Eq.trans (congrFun (x_up_n _ _ _ (by decide)) _) (Eq.trans (hM 62 9 (by decide)) e_nw))⟩ (Eq.trans (congrFun (x_up_n _ _ _ (by decide)) _) (Eq.trans (hM 84 q (by unfold WRS; omega)) e_s)) hE) dX10_begun_90 s_62 rfl rfl (Nat.le_of_ble_eq_true rfl) (by decide) ⟨by decide, by decide⟩ (fun v s2 M2 J2 hq => ?_)
    obtain ⟨r4, rfl, rfl, rfl, k3, hx1⟩ := hq
    try dsimp only [Option.toList, List.cons_append, List.nil_append]
    subst hx1
    refine xb_top (y := bgV nh D t S G9 q h k) rfl ?_
    refine xr_bipush (v := -2) dX10_begun_93 rfl ?_
    refine xr_icmp_ne (tgt := 115) dX10_begun_95 rfl (fun c5 => ?_) (fun c5 => ?_)
    · refine xr_iinc (v := pv (k + 1)) (ls2 := [(8, .int (pv (k + 1))), (7, .int (fi)), (6, .int (ft)), (5, .int (9)), (4, .int (hpc)), (3, .int (w)), (2, .int (nI (h))), (1, .int (nI (q))), (0, .ref (62))]) dX10_begun_115 0 rfl (pv_s1 (by omega)) (by decide) rfl ?_
      refine xr_goto (tgt := 69) dX10_begun_118 rfl ?_
      refine xb_ls (ls2 := [(8, .int (pv (k + 1))), (7, .int (fi)), (6, .int (ft)), (5, .int (9)), (4, .int (hpc)), (3, .int (w)), (2, .int (nI (h))), (1, .int (nI (q))), (0, .ref (62))]) [0, 1, 2, 3, 4, 5, 6, 7, 8] rfl ?_
      exact ih (k + 1) fi ft M2 (by omega) (Ke.tr (fun pp kk => (fun hh => Or.elim hh (fun h => (Or.inl h)) (fun hh => Or.elim hh (fun h => (Or.inr (Or.inl h))) (fun hh => Or.elim hh (fun h => (Or.inr (Or.inr (Or.inl h)))) (fun hh => Or.elim hh (fun h => (Or.inr (Or.inr (Or.inr (Or.inl h))))) (fun hh => Or.elim hh (fun h => (Or.inr (Or.inr (Or.inr (Or.inr (Or.inl h)))))) (fun hh => Or.elim hh (fun h => (Or.inr (Or.inr (Or.inr (Or.inr (Or.inr (Or.inl h))))))) (fun hh => Or.elim hh (fun h => (Or.inr (Or.inr (Or.inr (Or.inr (Or.inr (Or.inr (Or.inl h)))))))) (fun h => (Or.inr (Or.inr (Or.inr (Or.inr (Or.inr (Or.inr (Or.inr (Or.inl h))))))))))))))))) (Ke.up (Or.inr (Or.inr (Or.inr (Or.inr (Or.inr (Or.inr (Or.inr (Or.inr (by omega))))))))) hM) k3) ⟨(bgL_e hkN (bg1_n (n := nh) (D := D) (t := t) (S := S) (f := fi) (c := ft) c5)).trans hI.1, fun j hj => (k3 63 j (by unfold WR1; omega)).trans ((up_k hj).trans (hI.2 j hj))⟩
    · refine xr_iload dX10_begun_98 2 rfl ?_
      refine xr_if_ne (tgt := 108) dX10_begun_100 rfl (fun c6 => ?_) (fun c6 => ?_)
      · refine xr_iload dX10_begun_108 1 rfl ?_
        refine xr_istore (ls2 := [(7, .int (fi)), (8, .int (pv k)), (6, .int (ft)), (5, .int (9)), (4, .int (hpc)), (3, .int (w)), (2, .int (nI (h))), (1, .int (nI (q))), (0, .ref (62))]) dX10_begun_110 (by decide) rfl ?_
        refine xr_iinc (v := ft + 1) (ls2 := [(6, .int (ft + 1)), (7, .int (fi)), (8, .int (pv k)), (5, .int (9)), (4, .int (hpc)), (3, .int (w)), (2, .int (nI (h))), (1, .int (nI (q))), (0, .ref (62))]) dX10_begun_112 2 rfl rfl (by decide) rfl ?_
        refine xr_iinc (v := pv (k + 1)) (ls2 := [(8, .int (pv (k + 1))), (6, .int (ft + 1)), (7, .int (fi)), (5, .int (9)), (4, .int (hpc)), (3, .int (w)), (2, .int (nI (h))), (1, .int (nI (q))), (0, .ref (62))]) dX10_begun_115 2 rfl (pv_s1 (by omega)) (by decide) rfl ?_
        refine xr_goto (tgt := 69) dX10_begun_118 rfl ?_
        refine xb_ls (ls2 := [(8, .int (pv (k + 1))), (7, .int (fi)), (6, .int (ft + 1)), (5, .int (9)), (4, .int (hpc)), (3, .int (w)), (2, .int (nI (h))), (1, .int (nI (q))), (0, .ref (62))]) [0, 2, 1, 3, 4, 5, 6, 7, 8] rfl ?_
        exact ih (k + 1) fi (ft + 1) M2 (by omega) (Ke.tr (fun pp kk => (fun hh => Or.elim hh (fun h => (Or.inl h)) (fun hh => Or.elim hh (fun h => (Or.inr (Or.inl h))) (fun hh => Or.elim hh (fun h => (Or.inr (Or.inr (Or.inl h)))) (fun hh => Or.elim hh (fun h => (Or.inr (Or.inr (Or.inr (Or.inl h))))) (fun hh => Or.elim hh (fun h => (Or.inr (Or.inr (Or.inr (Or.inr (Or.inl h)))))) (fun hh => Or.elim hh (fun h => (Or.inr (Or.inr (Or.inr (Or.inr (Or.inr (Or.inl h))))))) (fun hh => Or.elim hh (fun h => (Or.inr (Or.inr (Or.inr (Or.inr (Or.inr (Or.inr (Or.inl h)))))))) (fun h => (Or.inr (Or.inr (Or.inr (Or.inr (Or.inr (Or.inr (Or.inr (Or.inl h))))))))))))))))) (Ke.up (Or.inr (Or.inr (Or.inr (Or.inr (Or.inr (Or.inr (Or.inr (Or.inr (by omega))))))))) hM) k3) ⟨(bgL_e hkN ((bg1_y (n := nh) (D := D) (t := t) (S := S) (f := fi) (c := ft) c5).trans (congrArg (fun z => (z, ft + 1)) (if_neg c6)))).trans hI.1, fun j hj => (k3 63 j (by unfold WR1; omega)).trans ((up_k hj).trans (hI.2 j hj))⟩
      · refine xr_iload dX10_begun_103 0 rfl ?_
        refine xr_goto (tgt := 110) dX10_begun_105 rfl ?_
        refine xr_istore (ls2 := [(7, .int (pv k)), (8, .int (pv k)), (6, .int (ft)), (5, .int (9)), (4, .int (hpc)), (3, .int (w)), (2, .int (nI (h))), (1, .int (nI (q))), (0, .ref (62))]) dX10_begun_110 (by decide) rfl ?_
        refine xr_iinc (v := ft + 1) (ls2 := [(6, .int (ft + 1)), (7, .int (pv k)), (8, .int (pv k)), (5, .int (9)), (4, .int (hpc)), (3, .int (w)), (2, .int (nI (h))), (1, .int (nI (q))), (0, .ref (62))]) dX10_begun_112 2 rfl rfl (by decide) rfl ?_
        refine xr_iinc (v := pv (k + 1)) (ls2 := [(8, .int (pv (k + 1))), (6, .int (ft + 1)), (7, .int (pv k)), (5, .int (9)), (4, .int (hpc)), (3, .int (w)), (2, .int (nI (h))), (1, .int (nI (q))), (0, .ref (62))]) dX10_begun_115 2 rfl (pv_s1 (by omega)) (by decide) rfl ?_
        refine xr_goto (tgt := 69) dX10_begun_118 rfl ?_
        refine xb_ls (ls2 := [(8, .int (pv (k + 1))), (7, .int (pv k)), (6, .int (ft + 1)), (5, .int (9)), (4, .int (hpc)), (3, .int (w)), (2, .int (nI (h))), (1, .int (nI (q))), (0, .ref (62))]) [0, 2, 1, 3, 4, 5, 6, 7, 8] rfl ?_
        exact ih (k + 1) (pv k) (ft + 1) M2 (by omega) (Ke.tr (fun pp kk => (fun hh => Or.elim hh (fun h => (Or.inl h)) (fun hh => Or.elim hh (fun h => (Or.inr (Or.inl h))) (fun hh => Or.elim hh (fun h => (Or.inr (Or.inr (Or.inl h)))) (fun hh => Or.elim hh (fun h => (Or.inr (Or.inr (Or.inr (Or.inl h))))) (fun hh => Or.elim hh (fun h => (Or.inr (Or.inr (Or.inr (Or.inr (Or.inl h)))))) (fun hh => Or.elim hh (fun h => (Or.inr (Or.inr (Or.inr (Or.inr (Or.inr (Or.inl h))))))) (fun hh => Or.elim hh (fun h => (Or.inr (Or.inr (Or.inr (Or.inr (Or.inr (Or.inr (Or.inl h)))))))) (fun h => (Or.inr (Or.inr (Or.inr (Or.inr (Or.inr (Or.inr (Or.inr (Or.inl h))))))))))))))))) (Ke.up (Or.inr (Or.inr (Or.inr (Or.inr (Or.inr (Or.inr (Or.inr (Or.inr (by omega))))))))) hM) k3) ⟨(bgL_e hkN ((bg1_y (n := nh) (D := D) (t := t) (S := S) (f := fi) (c := ft) c5).trans (congrArg (fun z => (z, ft + 1)) (if_pos c6)))).trans hI.1, fun j hj => (k3 63 j (by unfold WR1; omega)).trans ((up_k hj).trans (hI.2 j hj))⟩
set_option maxRecDepth 100000 in
set_option maxHeartbeats 4000000 in
theorem gxzq_X10_begun {nh : Nat} {D : xM} {t : Option zL} {S : Nat → Int32} {G9 : xQs} {q : Nat} (h w : Int32) {l : Launch} {G : xG} {M : xM} {J : xJ} (hI : InvR M) (hWG : WG nh D S) (hG : RG M nh D t S) (hSh : RSh M J G9) (hWS : WSh G9) (hq : q < 6) : x_M l G fX10_begun 63 0 0 [.ref (62), .int (nI (q)), .int (h), .int (w)] x_SH M J (qKI WRS M J (fun r M2 => InvR M2 ∧ (r = bgR nh D t S G9 (nI (q)) h w ∧ RG M2 nh D t S))) := by
  refine xb_of pX10 (Nat.le_of_ble_eq_true rfl) rfl ?_
  obtain ⟨⟨hn, h_hn, e_hn, hw⟩, hbt, ⟨un, wn, h_uw, h_wn, e_un, e_wn⟩, hch, ⟨n, h_n, e_n⟩, htx, ⟨b, h_b, e_b⟩, hkd, ⟨ra, h_ra, e_ra⟩, hsl, ⟨ic, h_ic, e_ic⟩, hS⟩ := hI
  have hG0 := hG
  obtain ⟨hn5, hW, hrub, hbeat⟩ := hWG
  obtain ⟨hGn, hA, hL, e_nw, e_rub, e_bt, e_ph, e_st, e_kn, e_pu, e_lf⟩ := hG
  obtain rfl : nh = hn := (nI_eq (by omega) (by omega)).mp (hGn.symm.trans e_hn)
  have hbt2 : ¬ S 2 = 0 := ne2_0 hbeat.1
  have hP : WP (PS nh t S) := ⟨hn5, hrub, hbt2⟩
  refine xr_aload_n dX10_begun_0 0 rfl ?_
  refine xr_iload_n dX10_begun_1 1 rfl ?_
  refine xb_cV (As := [.int (nI (q))]) (rest := []) mlX10_285 (gw_X10_rowIs hq) dX10_begun_2 s_62 rfl rfl (Nat.le_of_ble_eq_true rfl) (by decide) (by decide) ?_
  obtain ⟨hLL, e_s, hE, hkd⟩ := hSh q hq
  rcases hkd with ⟨hkk, h0⟩ | ⟨hkk, h0⟩ | ⟨hkk, h0, h2⟩
  · refine xb_top (y := (-11)) (if_pos h0) ?_
    refine xr_if_lt (tgt := 26) dX10_begun_5 rfl (fun _ => ?_) (fun c => absurd (by decide) c)
    refine xr_ldc coX10_140 dX10_begun_26 ?_
    exact xr_iret dX10_begun_28 rfl rfl (⟨_, rfl, rfl, rfl, Ke.rf, ⟨⟨⟨nh, by omega, e_hn, (fun kw hkw => by rw [show M 63 (5 + kw) = M 63 (5 + kw) from rfl]; exact hw kw hkw)⟩, (by rw [show M 63 16 = M 63 16 from rfl]; exact hbt), ⟨un, wn, by omega, by omega, e_un, e_wn⟩, (fun kk hkk => by rw [show M 64 kk = M 64 kk from rfl, show M 65 kk = M 65 kk from rfl, show M 66 kk = M 66 kk from rfl]; exact hch kk hkk), ⟨n, by omega, e_n⟩, (by rw [show M 62 13 = M 62 13 from rfl]; exact htx), ⟨b, by omega, e_b⟩, (fun j hj => by obtain ⟨q, hq, eq⟩ := hkd j hj; exact ⟨q, hq, (show M 81 j = M 81 j from rfl).trans eq⟩), ⟨ra, by omega, e_ra⟩, (fun j hj => by rw [show M 83 j = M 83 j from rfl, show M 84 j = M 84 j from rfl]; exact hsl j hj), ⟨ic, by omega, e_ic⟩, (fun j hj => by obtain ⟨q, hq, eq⟩ := hS j hj; exact ⟨q, hq, (show M 75 j = M 75 j from rfl).trans eq⟩)⟩, ⟨bgR_n (fun z => by have z2 := z.2.2; rw [w_ix_n (by omega), hkk] at z2; exact absurd z2 (by decide)), hG0⟩⟩⟩)
  · refine xb_top (y := 1) ((if_neg (by rw [h0]; decide)).trans (if_pos h0)) ?_
    refine xr_if_lt (tgt := 26) dX10_begun_5 rfl (fun c => absurd c (by decide)) (fun _ => ?_)
    refine xr_aload_n dX10_begun_8 0 rfl ?_
    refine xr_iload_n dX10_begun_9 2 rfl ?_
    refine xb_cV (As := [.int (h)]) (rest := []) mlX10_133 (c_X10_isHoop h (by omega) e_hn) dX10_begun_10 s_62 rfl rfl (Nat.le_of_ble_eq_true rfl) (by decide) (by decide) ?_
    refine xb_beq (tgt := 26) dX10_begun_13 rfl (fun c1 => ?_) (fun c1 => ?_)
    · refine xr_ldc coX10_140 dX10_begun_26 ?_
      exact xr_iret dX10_begun_28 rfl rfl (⟨_, rfl, rfl, rfl, Ke.rf, ⟨⟨⟨nh, by omega, e_hn, (fun kw hkw => by rw [show M 63 (5 + kw) = M 63 (5 + kw) from rfl]; exact hw kw hkw)⟩, (by rw [show M 63 16 = M 63 16 from rfl]; exact hbt), ⟨un, wn, by omega, by omega, e_un, e_wn⟩, (fun kk hkk => by rw [show M 64 kk = M 64 kk from rfl, show M 65 kk = M 65 kk from rfl, show M 66 kk = M 66 kk from rfl]; exact hch kk hkk), ⟨n, by omega, e_n⟩, (by rw [show M 62 13 = M 62 13 from rfl]; exact htx), ⟨b, by omega, e_b⟩, (fun j hj => by obtain ⟨q, hq, eq⟩ := hkd j hj; exact ⟨q, hq, (show M 81 j = M 81 j from rfl).trans eq⟩), ⟨ra, by omega, e_ra⟩, (fun j hj => by rw [show M 83 j = M 83 j from rfl, show M 84 j = M 84 j from rfl]; exact hsl j hj), ⟨ic, by omega, e_ic⟩, (fun j hj => by obtain ⟨q, hq, eq⟩ := hS j hj; exact ⟨q, hq, (show M 75 j = M 75 j from rfl).trans eq⟩)⟩, ⟨bgR_n (fun z => c1 z.1.2), hG0⟩⟩⟩)
    · obtain ⟨h_, hh_, rfl⟩ := x_nat (N := nh) (by omega) rfl c1
      refine xr_iload_n dX10_begun_16 3 rfl ?_
      refine xr_i2l dX10_begun_17 ?_
      refine xr_lconst (v := 0) dX10_begun_18 rfl ?_
      refine xr_lconst (v := 1) dX10_begun_19 rfl ?_
      refine xb_cS (As := [.long ((w).toInt64), .long (0), .long (1)]) (rest := []) mlX10_101 (c_within32 (w) (0) (1) (by decide) (by decide)) dX10_begun_20 rfl rfl (Nat.le_of_ble_eq_true rfl) (by decide) (by decide) ?_
      refine xb_bne (tgt := 29) dX10_begun_23 rfl (fun c2 => ?_) (fun c2 => ?_)
      · refine xr_aload_n dX10_begun_29 0 rfl ?_
        refine xr_getR flX10_9 dX10_begun_30 s_62 rfl ?_
        refine xr_bipush (v := 10) dX10_begun_33 rfl ?_
        refine xr_iload_n dX10_begun_35 2 rfl ?_
        refine xr_iadd dX10_begun_36 ?_
        refine xb_top (y := nI (10 + h_)) (nI_add (10) (h_)) ?_
        refine xb_iald (j := 10 + h_) (v := (D h_ 3)) dX10_begun_37 s_63 (by omega) (by decide) (hA h_ hh_).2.2.2.1 ?_
        refine xr_istore (ls2 := [(4, .int ((D h_ 3))), (0, .ref (62)), (1, .int (nI (q))), (2, .int (nI (h_))), (3, .int (w))]) dX10_begun_38 (by decide) rfl ?_
        refine xr_aload_n dX10_begun_40 1 rfl ?_
        refine xr_getR flX10_25 dX10_begun_41 s_62 rfl ?_
        refine xr_iload_n dX10_begun_44 3 rfl ?_
        refine xb_iald (j := h_) (v := M 68 h_) dX10_begun_45 s_68 (by omega) (by decide) rfl ?_
        refine xr_if_le (tgt := 54) dX10_begun_46 rfl (fun c3 => ?_) (fun c3 => ?_)
        · refine xr_iconst (v := 0) dX10_begun_54 rfl ?_
          refine xr_istore (ls2 := [(5, .int (0)), (4, .int ((D h_ 3))), (0, .ref (62)), (1, .int (nI (q))), (2, .int (nI (h_))), (3, .int (w))]) dX10_begun_55 (by decide) rfl ?_
          refine xr_iconst (v := 0) dX10_begun_57 rfl ?_
          refine xr_istore (ls2 := [(6, .int (0)), (5, .int (0)), (4, .int ((D h_ 3))), (0, .ref (62)), (1, .int (nI (q))), (2, .int (nI (h_))), (3, .int (w))]) dX10_begun_58 (by decide) rfl ?_
          refine xr_bipush (v := -2) dX10_begun_60 rfl ?_
          refine xr_istore (ls2 := [(7, .int ((-2))), (6, .int (0)), (5, .int (0)), (4, .int ((D h_ 3))), (0, .ref (62)), (1, .int (nI (q))), (2, .int (nI (h_))), (3, .int (w))]) dX10_begun_62 (by decide) rfl ?_
          refine xr_iload dX10_begun_64 2 rfl ?_
          refine xr_ineg dX10_begun_66 ?_
          refine xb_top (y := 0) (by decide) ?_
          refine xr_istore (ls2 := [(8, .int (0)), (7, .int ((-2))), (6, .int (0)), (5, .int (0)), (4, .int ((D h_ 3))), (0, .ref (62)), (1, .int (nI (q))), (2, .int (nI (h_))), (3, .int (w))]) dX10_begun_67 (by decide) rfl ?_
          refine xr_iload dX10_begun_69 0 rfl ?_
          refine xr_iload dX10_begun_71 3 rfl ?_
          refine xr_icmp_gt (tgt := 121) dX10_begun_73 rfl (fun c => absurd c (by decide)) (fun _ => ?_)
          refine xr_aload_n dX10_begun_76 5 rfl ?_
          refine xr_getR flX10_9 dX10_begun_77 s_62 rfl ?_
          refine xr_bipush (v := 10) dX10_begun_80 rfl ?_
          refine xr_iload_n dX10_begun_82 7 rfl ?_
          refine xr_iadd dX10_begun_83 ?_
          refine xb_top (y := nI (10 + h_)) (nI_add (10) (h_)) ?_
          refine xr_iload dX10_begun_84 0 rfl ?_
          refine xb_iast (j := 10 + h_) dX10_begun_86 s_63 (by omega) (by decide) ?_
          refine xr_aload_n dX10_begun_87 5 rfl ?_
          refine xr_iload_n dX10_begun_88 6 rfl ?_
          refine xr_iload_n dX10_begun_89 7 rfl ?_
          refine xr_callV (As := [.int (nI (q)), .int (nI (h_))]) (rest := []) mlX10_290 (gy_X10_firstFalse (P := (PS nh t S)) (nw := S 0) (D := (x_up D h_ 3 0)) (L := (G9 q).2.1) (E := (G9 q).2.2) (h := h_) hP hq hLL hh_ ⟨⟨(Eq.trans (congrFun (x_up_n _ _ _ (by decide)) _) e_hn), (AbS_m (q := 10 + h_) hn5 (by omega) hA (Or.inr (Or.inr ⟨rfl, rfl⟩)) (fun kl => (Eq.trans (congrFun (x_up_n _ _ _ (by decide)) _) rfl)) (fun kl => (Eq.trans (congrFun (x_up_n _ _ _ (by decide)) _) rfl)) up_s (fun j hj => up_k hj)), WF_3 hW (by decide) (fun _ => rfl), (LRt_k (Eq.trans (congrFun (x_up_n _ _ _ (by decide)) _) rfl) (Eq.trans (x_up_n _ _ _ (by decide)) rfl) hL)⟩, ⟨((up_k (by omega)).trans e_rub), ((up_k (by omega)).trans e_bt), ((up_k (by omega)).trans e_ph), ((up_k (by omega)).trans e_st)⟩, (Eq.trans (congrFun (x_up_n _ _ _ (by decide)) _) e_nw)⟩ (Eq.trans (congrFun (x_up_n _ _ _ (by decide)) _) e_s) hE) dX10_begun_90 s_62 rfl rfl (Nat.le_of_ble_eq_true rfl) (by decide) ⟨by decide, by decide⟩ (fun v s2 M5 J2 hq => ?_)
          obtain ⟨r7, rfl, rfl, rfl, k6, hx4⟩ := hq
          try dsimp only [Option.toList, List.cons_append, List.nil_append]
          subst hx4
          refine xb_top (y := bgV nh D t S G9 q h_ 9) rfl ?_
          refine xr_bipush (v := -2) dX10_begun_93 rfl ?_
          refine xr_icmp_ne (tgt := 115) dX10_begun_95 rfl (fun c8 => ?_) (fun c8 => ?_)
          · refine xr_iinc (v := 1) (ls2 := [(8, .int (1)), (7, .int ((-2))), (6, .int (0)), (5, .int (0)), (4, .int ((D h_ 3))), (0, .ref (62)), (1, .int (nI (q))), (2, .int (nI (h_))), (3, .int (w))]) dX10_begun_115 0 rfl rfl (by decide) rfl ?_
            refine xr_goto (tgt := 69) dX10_begun_118 rfl ?_
            refine xr_iload dX10_begun_69 0 rfl ?_
            refine xr_iload dX10_begun_71 3 rfl ?_
            refine xr_icmp_gt (tgt := 121) dX10_begun_73 rfl (fun _ => ?_) (fun c => absurd (by decide) c)
            refine xr_aload_n dX10_begun_121 5 rfl ?_
            refine xr_getR flX10_9 dX10_begun_122 s_62 rfl ?_
            refine xr_bipush (v := 10) dX10_begun_125 rfl ?_
            refine xr_iload_n dX10_begun_127 7 rfl ?_
            refine xr_iadd dX10_begun_128 ?_
            refine xb_top (y := nI (10 + h_)) (nI_add (10) (h_)) ?_
            refine xr_iload dX10_begun_129 4 rfl ?_
            refine xb_iast (j := 10 + h_) dX10_begun_131 s_63 (by omega) (by decide) ?_
            refine xr_iload_n dX10_begun_132 8 rfl ?_
            refine xr_if_ne (tgt := 141) dX10_begun_133 rfl (fun c9 => ?_) (fun c9 => ?_)
            · refine xr_iload dX10_begun_141 1 rfl ?_
              exact xr_iret dX10_begun_143 rfl rfl (⟨_, rfl, rfl, rfl, (Ke.up (Or.inr (Or.inr (Or.inr (Or.inr (Or.inr (Or.inr (Or.inr (Or.inr (by omega))))))))) (Ke.tr (fun pp kk => (fun hh => Or.elim hh (fun h => (Or.inl h)) (fun hh => Or.elim hh (fun h => (Or.inr (Or.inl h))) (fun hh => Or.elim hh (fun h => (Or.inr (Or.inr (Or.inl h)))) (fun hh => Or.elim hh (fun h => (Or.inr (Or.inr (Or.inr (Or.inl h))))) (fun hh => Or.elim hh (fun h => (Or.inr (Or.inr (Or.inr (Or.inr (Or.inl h)))))) (fun hh => Or.elim hh (fun h => (Or.inr (Or.inr (Or.inr (Or.inr (Or.inr (Or.inl h))))))) (fun hh => Or.elim hh (fun h => (Or.inr (Or.inr (Or.inr (Or.inr (Or.inr (Or.inr (Or.inl h)))))))) (fun h => (Or.inr (Or.inr (Or.inr (Or.inr (Or.inr (Or.inr (Or.inr (Or.inl h))))))))))))))))) (Ke.up (Or.inr (Or.inr (Or.inr (Or.inr (Or.inr (Or.inr (Or.inr (Or.inr (by omega))))))))) Ke.rf) k6)), ⟨⟨⟨nh, by omega, (Eq.trans (congrFun (x_up_n _ _ _ (by decide)) _) (Eq.trans (k6 62 6 (by decide)) (Eq.trans (congrFun (x_up_n _ _ _ (by decide)) _) e_hn))), (fun kw hkw => by rw [show (x_up M5 63 (10 + h_) (D h_ 3)) 63 (5 + kw) = M 63 (5 + kw) from (Eq.trans (x_up_k _ _ _ (by omega)) (Eq.trans (k6 63 (5 + kw) (by unfold WR1; omega)) (Eq.trans (x_up_k _ _ _ (by omega)) rfl)))]; exact hw kw hkw)⟩, (by rw [show (x_up M5 63 (10 + h_) (D h_ 3)) 63 16 = M 63 16 from (Eq.trans (x_up_k _ _ _ (by omega)) (Eq.trans (k6 63 16 (by unfold WR1; omega)) (Eq.trans (x_up_k _ _ _ (by omega)) rfl)))]; exact hbt), ⟨un, wn, by omega, by omega, (Eq.trans (congrFun (x_up_n _ _ _ (by decide)) _) (Eq.trans (k6 62 5 (by decide)) (Eq.trans (congrFun (x_up_n _ _ _ (by decide)) _) e_un))), (Eq.trans (congrFun (x_up_n _ _ _ (by decide)) _) (Eq.trans (k6 62 4 (by decide)) (Eq.trans (congrFun (x_up_n _ _ _ (by decide)) _) e_wn)))⟩, (fun kk hkk => by rw [show (x_up M5 63 (10 + h_) (D h_ 3)) 64 kk = M 64 kk from (Eq.trans (congrFun (x_up_n _ _ _ (by omega)) _) (Eq.trans (k6 64 kk (by unfold WR1; omega)) (Eq.trans (congrFun (x_up_n _ _ _ (by omega)) _) rfl))), show (x_up M5 63 (10 + h_) (D h_ 3)) 65 kk = M 65 kk from (Eq.trans (congrFun (x_up_n _ _ _ (by omega)) _) (Eq.trans (k6 65 kk (by unfold WR1; omega)) (Eq.trans (congrFun (x_up_n _ _ _ (by omega)) _) rfl))), show (x_up M5 63 (10 + h_) (D h_ 3)) 66 kk = M 66 kk from (Eq.trans (congrFun (x_up_n _ _ _ (by omega)) _) (Eq.trans (k6 66 kk (by unfold WR1; omega)) (Eq.trans (congrFun (x_up_n _ _ _ (by omega)) _) rfl)))]; exact hch kk hkk), ⟨n, by omega, (Eq.trans (congrFun (x_up_n _ _ _ (by decide)) _) (Eq.trans (k6 62 11 (by decide)) (Eq.trans (congrFun (x_up_n _ _ _ (by decide)) _) e_n)))⟩, (by rw [show (x_up M5 63 (10 + h_) (D h_ 3)) 62 13 = M 62 13 from (Eq.trans (congrFun (x_up_n _ _ _ (by omega)) _) (Eq.trans (k6 62 13 (by unfold WR1; omega)) (Eq.trans (congrFun (x_up_n _ _ _ (by omega)) _) rfl)))]; exact htx), ⟨b, by omega, (Eq.trans (congrFun (x_up_n _ _ _ (by decide)) _) (Eq.trans (k6 62 36 (by decide)) (Eq.trans (congrFun (x_up_n _ _ _ (by decide)) _) e_b)))⟩, (fun j hj => by obtain ⟨q, hq, eq⟩ := hkd j hj; exact ⟨q, hq, (show (x_up M5 63 (10 + h_) (D h_ 3)) 81 j = M 81 j from (Eq.trans (congrFun (x_up_n _ _ _ (by omega)) _) (Eq.trans (k6 81 j (by unfold WR1; omega)) (Eq.trans (congrFun (x_up_n _ _ _ (by omega)) _) rfl)))).trans eq⟩), ⟨ra, by omega, (Eq.trans (congrFun (x_up_n _ _ _ (by decide)) _) (Eq.trans (k6 62 39 (by decide)) (Eq.trans (congrFun (x_up_n _ _ _ (by decide)) _) e_ra)))⟩, (fun j hj => by rw [show (x_up M5 63 (10 + h_) (D h_ 3)) 83 j = M 83 j from (Eq.trans (congrFun (x_up_n _ _ _ (by omega)) _) (Eq.trans (k6 83 j (by unfold WR1; omega)) (Eq.trans (congrFun (x_up_n _ _ _ (by omega)) _) rfl))), show (x_up M5 63 (10 + h_) (D h_ 3)) 84 j = M 84 j from (Eq.trans (congrFun (x_up_n _ _ _ (by omega)) _) (Eq.trans (k6 84 j (by unfold WR1; omega)) (Eq.trans (congrFun (x_up_n _ _ _ (by omega)) _) rfl)))]; exact hsl j hj), ⟨ic, by omega, (Eq.trans (congrFun (x_up_n _ _ _ (by decide)) _) (Eq.trans (k6 62 34 (by decide)) (Eq.trans (congrFun (x_up_n _ _ _ (by decide)) _) e_ic)))⟩, (fun j hj => by obtain ⟨q, hq, eq⟩ := hS j hj; exact ⟨q, hq, (show (x_up M5 63 (10 + h_) (D h_ 3)) 75 j = M 75 j from (Eq.trans (congrFun (x_up_n _ _ _ (by omega)) _) (Eq.trans (k6 75 j (by unfold WR1; omega)) (Eq.trans (congrFun (x_up_n _ _ _ (by omega)) _) rfl)))).trans eq⟩)⟩, ⟨((congrArg Prod.fst (bgF_l ((le0_eq hW hh_ (hA h_ hh_).2.2.2.2).mp c3) (bg1_n (n := nh) (D := D) (t := t) (S := S) (f := -2) (c := 0) c8).symm)).trans (if_neg c9).symm).trans (bgR_y hn5 hq hh_ c2 hkk), ⟨(Eq.trans (congrFun (x_up_n _ _ _ (by decide)) _) (Eq.trans (k6 62 6 (by decide)) (Eq.trans (congrFun (x_up_n _ _ _ (by decide)) _) e_hn))), (AbS_k hA (fun kl hkl => by
                by_cases q9 : kl = 10 + h_
                · subst q9; exact up_s.trans (hA h_ hh_).2.2.2.1.symm
                · exact (up_k q9).trans ((k6 63 kl (by unfold WR1; omega)).trans (up_k q9))) (fun kl => (Eq.trans (congrFun (x_up_n _ _ _ (by decide)) _) (Eq.trans (k6 67 kl (by unfold WR1; omega)) (Eq.trans (congrFun (x_up_n _ _ _ (by decide)) _) rfl)))) (fun kl => (Eq.trans (congrFun (x_up_n _ _ _ (by decide)) _) (Eq.trans (k6 68 kl (by unfold WR1; omega)) (Eq.trans (congrFun (x_up_n _ _ _ (by decide)) _) rfl)))) hn5), (LRt_k (Eq.trans (congrFun (x_up_n _ _ _ (by decide)) _) (Eq.trans (k6 62 13 (by unfold WR1; omega)) (Eq.trans (congrFun (x_up_n _ _ _ (by decide)) _) rfl))) (Eq.trans (x_up_n _ _ _ (by decide)) (Eq.trans (funext fun kk => k6 70 kk (by unfold WR1; omega)) (Eq.trans (x_up_n _ _ _ (by decide)) rfl))) hL), (Eq.trans (congrFun (x_up_n _ _ _ (by decide)) _) (Eq.trans (k6 62 9 (by decide)) (Eq.trans (congrFun (x_up_n _ _ _ (by decide)) _) e_nw))), ((up_k (by omega)).trans ((k6 63 15 (by unfold WR1; omega)).trans ((up_k (by omega)).trans e_rub))), ((up_k (by omega)).trans ((k6 63 16 (by unfold WR1; omega)).trans ((up_k (by omega)).trans e_bt))), ((up_k (by omega)).trans ((k6 63 17 (by unfold WR1; omega)).trans ((up_k (by omega)).trans e_ph))), ((up_k (by omega)).trans ((k6 63 18 (by unfold WR1; omega)).trans ((up_k (by omega)).trans e_st))), ((up_k (by omega)).trans ((k6 63 19 (by unfold WR1; omega)).trans ((up_k (by omega)).trans e_kn))), (Eq.trans (congrFun (x_up_n _ _ _ (by decide)) _) (Eq.trans (k6 62 24 (by decide)) (Eq.trans (congrFun (x_up_n _ _ _ (by decide)) _) e_pu))), (Eq.trans (congrFun (x_up_n _ _ _ (by decide)) _) (Eq.trans (k6 62 25 (by decide)) (Eq.trans (congrFun (x_up_n _ _ _ (by decide)) _) e_lf)))⟩⟩⟩⟩)
            · refine xr_iload dX10_begun_136 2 rfl ?_
              refine xr_goto (tgt := 143) dX10_begun_138 rfl ?_
              exact xr_iret dX10_begun_143 rfl rfl (⟨_, rfl, rfl, rfl, (Ke.up (Or.inr (Or.inr (Or.inr (Or.inr (Or.inr (Or.inr (Or.inr (Or.inr (by omega))))))))) (Ke.tr (fun pp kk => (fun hh => Or.elim hh (fun h => (Or.inl h)) (fun hh => Or.elim hh (fun h => (Or.inr (Or.inl h))) (fun hh => Or.elim hh (fun h => (Or.inr (Or.inr (Or.inl h)))) (fun hh => Or.elim hh (fun h => (Or.inr (Or.inr (Or.inr (Or.inl h))))) (fun hh => Or.elim hh (fun h => (Or.inr (Or.inr (Or.inr (Or.inr (Or.inl h)))))) (fun hh => Or.elim hh (fun h => (Or.inr (Or.inr (Or.inr (Or.inr (Or.inr (Or.inl h))))))) (fun hh => Or.elim hh (fun h => (Or.inr (Or.inr (Or.inr (Or.inr (Or.inr (Or.inr (Or.inl h)))))))) (fun h => (Or.inr (Or.inr (Or.inr (Or.inr (Or.inr (Or.inr (Or.inr (Or.inl h))))))))))))))))) (Ke.up (Or.inr (Or.inr (Or.inr (Or.inr (Or.inr (Or.inr (Or.inr (Or.inr (by omega))))))))) Ke.rf) k6)), ⟨⟨⟨nh, by omega, (Eq.trans (congrFun (x_up_n _ _ _ (by decide)) _) (Eq.trans (k6 62 6 (by decide)) (Eq.trans (congrFun (x_up_n _ _ _ (by decide)) _) e_hn))), (fun kw hkw => by rw [show (x_up M5 63 (10 + h_) (D h_ 3)) 63 (5 + kw) = M 63 (5 + kw) from (Eq.trans (x_up_k _ _ _ (by omega)) (Eq.trans (k6 63 (5 + kw) (by unfold WR1; omega)) (Eq.trans (x_up_k _ _ _ (by omega)) rfl)))]; exact hw kw hkw)⟩, (by rw [show (x_up M5 63 (10 + h_) (D h_ 3)) 63 16 = M 63 16 from (Eq.trans (x_up_k _ _ _ (by omega)) (Eq.trans (k6 63 16 (by unfold WR1; omega)) (Eq.trans (x_up_k _ _ _ (by omega)) rfl)))]; exact hbt), ⟨un, wn, by omega, by omega, (Eq.trans (congrFun (x_up_n _ _ _ (by decide)) _) (Eq.trans (k6 62 5 (by decide)) (Eq.trans (congrFun (x_up_n _ _ _ (by decide)) _) e_un))), (Eq.trans (congrFun (x_up_n _ _ _ (by decide)) _) (Eq.trans (k6 62 4 (by decide)) (Eq.trans (congrFun (x_up_n _ _ _ (by decide)) _) e_wn)))⟩, (fun kk hkk => by rw [show (x_up M5 63 (10 + h_) (D h_ 3)) 64 kk = M 64 kk from (Eq.trans (congrFun (x_up_n _ _ _ (by omega)) _) (Eq.trans (k6 64 kk (by unfold WR1; omega)) (Eq.trans (congrFun (x_up_n _ _ _ (by omega)) _) rfl))), show (x_up M5 63 (10 + h_) (D h_ 3)) 65 kk = M 65 kk from (Eq.trans (congrFun (x_up_n _ _ _ (by omega)) _) (Eq.trans (k6 65 kk (by unfold WR1; omega)) (Eq.trans (congrFun (x_up_n _ _ _ (by omega)) _) rfl))), show (x_up M5 63 (10 + h_) (D h_ 3)) 66 kk = M 66 kk from (Eq.trans (congrFun (x_up_n _ _ _ (by omega)) _) (Eq.trans (k6 66 kk (by unfold WR1; omega)) (Eq.trans (congrFun (x_up_n _ _ _ (by omega)) _) rfl)))]; exact hch kk hkk), ⟨n, by omega, (Eq.trans (congrFun (x_up_n _ _ _ (by decide)) _) (Eq.trans (k6 62 11 (by decide)) (Eq.trans (congrFun (x_up_n _ _ _ (by decide)) _) e_n)))⟩, (by rw [show (x_up M5 63 (10 + h_) (D h_ 3)) 62 13 = M 62 13 from (Eq.trans (congrFun (x_up_n _ _ _ (by omega)) _) (Eq.trans (k6 62 13 (by unfold WR1; omega)) (Eq.trans (congrFun (x_up_n _ _ _ (by omega)) _) rfl)))]; exact htx), ⟨b, by omega, (Eq.trans (congrFun (x_up_n _ _ _ (by decide)) _) (Eq.trans (k6 62 36 (by decide)) (Eq.trans (congrFun (x_up_n _ _ _ (by decide)) _) e_b)))⟩, (fun j hj => by obtain ⟨q, hq, eq⟩ := hkd j hj; exact ⟨q, hq, (show (x_up M5 63 (10 + h_) (D h_ 3)) 81 j = M 81 j from (Eq.trans (congrFun (x_up_n _ _ _ (by omega)) _) (Eq.trans (k6 81 j (by unfold WR1; omega)) (Eq.trans (congrFun (x_up_n _ _ _ (by omega)) _) rfl)))).trans eq⟩), ⟨ra, by omega, (Eq.trans (congrFun (x_up_n _ _ _ (by decide)) _) (Eq.trans (k6 62 39 (by decide)) (Eq.trans (congrFun (x_up_n _ _ _ (by decide)) _) e_ra)))⟩, (fun j hj => by rw [show (x_up M5 63 (10 + h_) (D h_ 3)) 83 j = M 83 j from (Eq.trans (congrFun (x_up_n _ _ _ (by omega)) _) (Eq.trans (k6 83 j (by unfold WR1; omega)) (Eq.trans (congrFun (x_up_n _ _ _ (by omega)) _) rfl))), show (x_up M5 63 (10 + h_) (D h_ 3)) 84 j = M 84 j from (Eq.trans (congrFun (x_up_n _ _ _ (by omega)) _) (Eq.trans (k6 84 j (by unfold WR1; omega)) (Eq.trans (congrFun (x_up_n _ _ _ (by omega)) _) rfl)))]; exact hsl j hj), ⟨ic, by omega, (Eq.trans (congrFun (x_up_n _ _ _ (by decide)) _) (Eq.trans (k6 62 34 (by decide)) (Eq.trans (congrFun (x_up_n _ _ _ (by decide)) _) e_ic)))⟩, (fun j hj => by obtain ⟨q, hq, eq⟩ := hS j hj; exact ⟨q, hq, (show (x_up M5 63 (10 + h_) (D h_ 3)) 75 j = M 75 j from (Eq.trans (congrFun (x_up_n _ _ _ (by omega)) _) (Eq.trans (k6 75 j (by unfold WR1; omega)) (Eq.trans (congrFun (x_up_n _ _ _ (by omega)) _) rfl)))).trans eq⟩)⟩, ⟨((congrArg Prod.snd (bgF_l ((le0_eq hW hh_ (hA h_ hh_).2.2.2.2).mp c3) (bg1_n (n := nh) (D := D) (t := t) (S := S) (f := -2) (c := 0) c8).symm)).trans (if_pos c9).symm).trans (bgR_y hn5 hq hh_ c2 hkk), ⟨(Eq.trans (congrFun (x_up_n _ _ _ (by decide)) _) (Eq.trans (k6 62 6 (by decide)) (Eq.trans (congrFun (x_up_n _ _ _ (by decide)) _) e_hn))), (AbS_k hA (fun kl hkl => by
                by_cases q9 : kl = 10 + h_
                · subst q9; exact up_s.trans (hA h_ hh_).2.2.2.1.symm
                · exact (up_k q9).trans ((k6 63 kl (by unfold WR1; omega)).trans (up_k q9))) (fun kl => (Eq.trans (congrFun (x_up_n _ _ _ (by decide)) _) (Eq.trans (k6 67 kl (by unfold WR1; omega)) (Eq.trans (congrFun (x_up_n _ _ _ (by decide)) _) rfl)))) (fun kl => (Eq.trans (congrFun (x_up_n _ _ _ (by decide)) _) (Eq.trans (k6 68 kl (by unfold WR1; omega)) (Eq.trans (congrFun (x_up_n _ _ _ (by decide)) _) rfl)))) hn5), (LRt_k (Eq.trans (congrFun (x_up_n _ _ _ (by decide)) _) (Eq.trans (k6 62 13 (by unfold WR1; omega)) (Eq.trans (congrFun (x_up_n _ _ _ (by decide)) _) rfl))) (Eq.trans (x_up_n _ _ _ (by decide)) (Eq.trans (funext fun kk => k6 70 kk (by unfold WR1; omega)) (Eq.trans (x_up_n _ _ _ (by decide)) rfl))) hL), (Eq.trans (congrFun (x_up_n _ _ _ (by decide)) _) (Eq.trans (k6 62 9 (by decide)) (Eq.trans (congrFun (x_up_n _ _ _ (by decide)) _) e_nw))), ((up_k (by omega)).trans ((k6 63 15 (by unfold WR1; omega)).trans ((up_k (by omega)).trans e_rub))), ((up_k (by omega)).trans ((k6 63 16 (by unfold WR1; omega)).trans ((up_k (by omega)).trans e_bt))), ((up_k (by omega)).trans ((k6 63 17 (by unfold WR1; omega)).trans ((up_k (by omega)).trans e_ph))), ((up_k (by omega)).trans ((k6 63 18 (by unfold WR1; omega)).trans ((up_k (by omega)).trans e_st))), ((up_k (by omega)).trans ((k6 63 19 (by unfold WR1; omega)).trans ((up_k (by omega)).trans e_kn))), (Eq.trans (congrFun (x_up_n _ _ _ (by decide)) _) (Eq.trans (k6 62 24 (by decide)) (Eq.trans (congrFun (x_up_n _ _ _ (by decide)) _) e_pu))), (Eq.trans (congrFun (x_up_n _ _ _ (by decide)) _) (Eq.trans (k6 62 25 (by decide)) (Eq.trans (congrFun (x_up_n _ _ _ (by decide)) _) e_lf)))⟩⟩⟩⟩)
          · refine xr_iload dX10_begun_98 2 rfl ?_
            refine xr_if_ne (tgt := 108) dX10_begun_100 rfl (fun c => absurd (by decide) c) (fun _ => ?_)
            refine xr_iload dX10_begun_103 0 rfl ?_
            refine xr_goto (tgt := 110) dX10_begun_105 rfl ?_
            refine xr_istore (ls2 := [(7, .int (0)), (8, .int (0)), (6, .int (0)), (5, .int (0)), (4, .int ((D h_ 3))), (0, .ref (62)), (1, .int (nI (q))), (2, .int (nI (h_))), (3, .int (w))]) dX10_begun_110 (by decide) rfl ?_
            refine xr_iinc (v := 1) (ls2 := [(6, .int (1)), (7, .int (0)), (8, .int (0)), (5, .int (0)), (4, .int ((D h_ 3))), (0, .ref (62)), (1, .int (nI (q))), (2, .int (nI (h_))), (3, .int (w))]) dX10_begun_112 2 rfl rfl (by decide) rfl ?_
            refine xr_iinc (v := 1) (ls2 := [(8, .int (1)), (6, .int (1)), (7, .int (0)), (5, .int (0)), (4, .int ((D h_ 3))), (0, .ref (62)), (1, .int (nI (q))), (2, .int (nI (h_))), (3, .int (w))]) dX10_begun_115 2 rfl rfl (by decide) rfl ?_
            refine xr_goto (tgt := 69) dX10_begun_118 rfl ?_
            refine xr_iload dX10_begun_69 0 rfl ?_
            refine xr_iload dX10_begun_71 3 rfl ?_
            refine xr_icmp_gt (tgt := 121) dX10_begun_73 rfl (fun _ => ?_) (fun c => absurd (by decide) c)
            refine xr_aload_n dX10_begun_121 5 rfl ?_
            refine xr_getR flX10_9 dX10_begun_122 s_62 rfl ?_
            refine xr_bipush (v := 10) dX10_begun_125 rfl ?_
            refine xr_iload_n dX10_begun_127 7 rfl ?_
            refine xr_iadd dX10_begun_128 ?_
            refine xb_top (y := nI (10 + h_)) (nI_add (10) (h_)) ?_
            refine xr_iload dX10_begun_129 4 rfl ?_
            refine xb_iast (j := 10 + h_) dX10_begun_131 s_63 (by omega) (by decide) ?_
            refine xr_iload_n dX10_begun_132 8 rfl ?_
            refine xr_if_ne (tgt := 141) dX10_begun_133 rfl (fun c10 => ?_) (fun c10 => ?_)
            · refine xr_iload dX10_begun_141 2 rfl ?_
              exact xr_iret dX10_begun_143 rfl rfl (⟨_, rfl, rfl, rfl, (Ke.up (Or.inr (Or.inr (Or.inr (Or.inr (Or.inr (Or.inr (Or.inr (Or.inr (by omega))))))))) (Ke.tr (fun pp kk => (fun hh => Or.elim hh (fun h => (Or.inl h)) (fun hh => Or.elim hh (fun h => (Or.inr (Or.inl h))) (fun hh => Or.elim hh (fun h => (Or.inr (Or.inr (Or.inl h)))) (fun hh => Or.elim hh (fun h => (Or.inr (Or.inr (Or.inr (Or.inl h))))) (fun hh => Or.elim hh (fun h => (Or.inr (Or.inr (Or.inr (Or.inr (Or.inl h)))))) (fun hh => Or.elim hh (fun h => (Or.inr (Or.inr (Or.inr (Or.inr (Or.inr (Or.inl h))))))) (fun hh => Or.elim hh (fun h => (Or.inr (Or.inr (Or.inr (Or.inr (Or.inr (Or.inr (Or.inl h)))))))) (fun h => (Or.inr (Or.inr (Or.inr (Or.inr (Or.inr (Or.inr (Or.inr (Or.inl h))))))))))))))))) (Ke.up (Or.inr (Or.inr (Or.inr (Or.inr (Or.inr (Or.inr (Or.inr (Or.inr (by omega))))))))) Ke.rf) k6)), ⟨⟨⟨nh, by omega, (Eq.trans (congrFun (x_up_n _ _ _ (by decide)) _) (Eq.trans (k6 62 6 (by decide)) (Eq.trans (congrFun (x_up_n _ _ _ (by decide)) _) e_hn))), (fun kw hkw => by rw [show (x_up M5 63 (10 + h_) (D h_ 3)) 63 (5 + kw) = M 63 (5 + kw) from (Eq.trans (x_up_k _ _ _ (by omega)) (Eq.trans (k6 63 (5 + kw) (by unfold WR1; omega)) (Eq.trans (x_up_k _ _ _ (by omega)) rfl)))]; exact hw kw hkw)⟩, (by rw [show (x_up M5 63 (10 + h_) (D h_ 3)) 63 16 = M 63 16 from (Eq.trans (x_up_k _ _ _ (by omega)) (Eq.trans (k6 63 16 (by unfold WR1; omega)) (Eq.trans (x_up_k _ _ _ (by omega)) rfl)))]; exact hbt), ⟨un, wn, by omega, by omega, (Eq.trans (congrFun (x_up_n _ _ _ (by decide)) _) (Eq.trans (k6 62 5 (by decide)) (Eq.trans (congrFun (x_up_n _ _ _ (by decide)) _) e_un))), (Eq.trans (congrFun (x_up_n _ _ _ (by decide)) _) (Eq.trans (k6 62 4 (by decide)) (Eq.trans (congrFun (x_up_n _ _ _ (by decide)) _) e_wn)))⟩, (fun kk hkk => by rw [show (x_up M5 63 (10 + h_) (D h_ 3)) 64 kk = M 64 kk from (Eq.trans (congrFun (x_up_n _ _ _ (by omega)) _) (Eq.trans (k6 64 kk (by unfold WR1; omega)) (Eq.trans (congrFun (x_up_n _ _ _ (by omega)) _) rfl))), show (x_up M5 63 (10 + h_) (D h_ 3)) 65 kk = M 65 kk from (Eq.trans (congrFun (x_up_n _ _ _ (by omega)) _) (Eq.trans (k6 65 kk (by unfold WR1; omega)) (Eq.trans (congrFun (x_up_n _ _ _ (by omega)) _) rfl))), show (x_up M5 63 (10 + h_) (D h_ 3)) 66 kk = M 66 kk from (Eq.trans (congrFun (x_up_n _ _ _ (by omega)) _) (Eq.trans (k6 66 kk (by unfold WR1; omega)) (Eq.trans (congrFun (x_up_n _ _ _ (by omega)) _) rfl)))]; exact hch kk hkk), ⟨n, by omega, (Eq.trans (congrFun (x_up_n _ _ _ (by decide)) _) (Eq.trans (k6 62 11 (by decide)) (Eq.trans (congrFun (x_up_n _ _ _ (by decide)) _) e_n)))⟩, (by rw [show (x_up M5 63 (10 + h_) (D h_ 3)) 62 13 = M 62 13 from (Eq.trans (congrFun (x_up_n _ _ _ (by omega)) _) (Eq.trans (k6 62 13 (by unfold WR1; omega)) (Eq.trans (congrFun (x_up_n _ _ _ (by omega)) _) rfl)))]; exact htx), ⟨b, by omega, (Eq.trans (congrFun (x_up_n _ _ _ (by decide)) _) (Eq.trans (k6 62 36 (by decide)) (Eq.trans (congrFun (x_up_n _ _ _ (by decide)) _) e_b)))⟩, (fun j hj => by obtain ⟨q, hq, eq⟩ := hkd j hj; exact ⟨q, hq, (show (x_up M5 63 (10 + h_) (D h_ 3)) 81 j = M 81 j from (Eq.trans (congrFun (x_up_n _ _ _ (by omega)) _) (Eq.trans (k6 81 j (by unfold WR1; omega)) (Eq.trans (congrFun (x_up_n _ _ _ (by omega)) _) rfl)))).trans eq⟩), ⟨ra, by omega, (Eq.trans (congrFun (x_up_n _ _ _ (by decide)) _) (Eq.trans (k6 62 39 (by decide)) (Eq.trans (congrFun (x_up_n _ _ _ (by decide)) _) e_ra)))⟩, (fun j hj => by rw [show (x_up M5 63 (10 + h_) (D h_ 3)) 83 j = M 83 j from (Eq.trans (congrFun (x_up_n _ _ _ (by omega)) _) (Eq.trans (k6 83 j (by unfold WR1; omega)) (Eq.trans (congrFun (x_up_n _ _ _ (by omega)) _) rfl))), show (x_up M5 63 (10 + h_) (D h_ 3)) 84 j = M 84 j from (Eq.trans (congrFun (x_up_n _ _ _ (by omega)) _) (Eq.trans (k6 84 j (by unfold WR1; omega)) (Eq.trans (congrFun (x_up_n _ _ _ (by omega)) _) rfl)))]; exact hsl j hj), ⟨ic, by omega, (Eq.trans (congrFun (x_up_n _ _ _ (by decide)) _) (Eq.trans (k6 62 34 (by decide)) (Eq.trans (congrFun (x_up_n _ _ _ (by decide)) _) e_ic)))⟩, (fun j hj => by obtain ⟨q, hq, eq⟩ := hS j hj; exact ⟨q, hq, (show (x_up M5 63 (10 + h_) (D h_ 3)) 75 j = M 75 j from (Eq.trans (congrFun (x_up_n _ _ _ (by omega)) _) (Eq.trans (k6 75 j (by unfold WR1; omega)) (Eq.trans (congrFun (x_up_n _ _ _ (by omega)) _) rfl)))).trans eq⟩)⟩, ⟨((congrArg Prod.fst (bgF_l ((le0_eq hW hh_ (hA h_ hh_).2.2.2.2).mp c3) ((bg1_y (n := nh) (D := D) (t := t) (S := S) (f := -2) (c := 0) c8).trans (show ((if (0 : Int32) = 0 then pv 9 else (-2 : Int32)), (0 : Int32) + 1) = ((0 : Int32), (1 : Int32)) by decide)).symm)).trans (if_neg c10).symm).trans (bgR_y hn5 hq hh_ c2 hkk), ⟨(Eq.trans (congrFun (x_up_n _ _ _ (by decide)) _) (Eq.trans (k6 62 6 (by decide)) (Eq.trans (congrFun (x_up_n _ _ _ (by decide)) _) e_hn))), (AbS_k hA (fun kl hkl => by
                by_cases q9 : kl = 10 + h_
                · subst q9; exact up_s.trans (hA h_ hh_).2.2.2.1.symm
                · exact (up_k q9).trans ((k6 63 kl (by unfold WR1; omega)).trans (up_k q9))) (fun kl => (Eq.trans (congrFun (x_up_n _ _ _ (by decide)) _) (Eq.trans (k6 67 kl (by unfold WR1; omega)) (Eq.trans (congrFun (x_up_n _ _ _ (by decide)) _) rfl)))) (fun kl => (Eq.trans (congrFun (x_up_n _ _ _ (by decide)) _) (Eq.trans (k6 68 kl (by unfold WR1; omega)) (Eq.trans (congrFun (x_up_n _ _ _ (by decide)) _) rfl)))) hn5), (LRt_k (Eq.trans (congrFun (x_up_n _ _ _ (by decide)) _) (Eq.trans (k6 62 13 (by unfold WR1; omega)) (Eq.trans (congrFun (x_up_n _ _ _ (by decide)) _) rfl))) (Eq.trans (x_up_n _ _ _ (by decide)) (Eq.trans (funext fun kk => k6 70 kk (by unfold WR1; omega)) (Eq.trans (x_up_n _ _ _ (by decide)) rfl))) hL), (Eq.trans (congrFun (x_up_n _ _ _ (by decide)) _) (Eq.trans (k6 62 9 (by decide)) (Eq.trans (congrFun (x_up_n _ _ _ (by decide)) _) e_nw))), ((up_k (by omega)).trans ((k6 63 15 (by unfold WR1; omega)).trans ((up_k (by omega)).trans e_rub))), ((up_k (by omega)).trans ((k6 63 16 (by unfold WR1; omega)).trans ((up_k (by omega)).trans e_bt))), ((up_k (by omega)).trans ((k6 63 17 (by unfold WR1; omega)).trans ((up_k (by omega)).trans e_ph))), ((up_k (by omega)).trans ((k6 63 18 (by unfold WR1; omega)).trans ((up_k (by omega)).trans e_st))), ((up_k (by omega)).trans ((k6 63 19 (by unfold WR1; omega)).trans ((up_k (by omega)).trans e_kn))), (Eq.trans (congrFun (x_up_n _ _ _ (by decide)) _) (Eq.trans (k6 62 24 (by decide)) (Eq.trans (congrFun (x_up_n _ _ _ (by decide)) _) e_pu))), (Eq.trans (congrFun (x_up_n _ _ _ (by decide)) _) (Eq.trans (k6 62 25 (by decide)) (Eq.trans (congrFun (x_up_n _ _ _ (by decide)) _) e_lf)))⟩⟩⟩⟩)
            · refine xr_iload dX10_begun_136 1 rfl ?_
              refine xr_goto (tgt := 143) dX10_begun_138 rfl ?_
              exact xr_iret dX10_begun_143 rfl rfl (⟨_, rfl, rfl, rfl, (Ke.up (Or.inr (Or.inr (Or.inr (Or.inr (Or.inr (Or.inr (Or.inr (Or.inr (by omega))))))))) (Ke.tr (fun pp kk => (fun hh => Or.elim hh (fun h => (Or.inl h)) (fun hh => Or.elim hh (fun h => (Or.inr (Or.inl h))) (fun hh => Or.elim hh (fun h => (Or.inr (Or.inr (Or.inl h)))) (fun hh => Or.elim hh (fun h => (Or.inr (Or.inr (Or.inr (Or.inl h))))) (fun hh => Or.elim hh (fun h => (Or.inr (Or.inr (Or.inr (Or.inr (Or.inl h)))))) (fun hh => Or.elim hh (fun h => (Or.inr (Or.inr (Or.inr (Or.inr (Or.inr (Or.inl h))))))) (fun hh => Or.elim hh (fun h => (Or.inr (Or.inr (Or.inr (Or.inr (Or.inr (Or.inr (Or.inl h)))))))) (fun h => (Or.inr (Or.inr (Or.inr (Or.inr (Or.inr (Or.inr (Or.inr (Or.inl h))))))))))))))))) (Ke.up (Or.inr (Or.inr (Or.inr (Or.inr (Or.inr (Or.inr (Or.inr (Or.inr (by omega))))))))) Ke.rf) k6)), ⟨⟨⟨nh, by omega, (Eq.trans (congrFun (x_up_n _ _ _ (by decide)) _) (Eq.trans (k6 62 6 (by decide)) (Eq.trans (congrFun (x_up_n _ _ _ (by decide)) _) e_hn))), (fun kw hkw => by rw [show (x_up M5 63 (10 + h_) (D h_ 3)) 63 (5 + kw) = M 63 (5 + kw) from (Eq.trans (x_up_k _ _ _ (by omega)) (Eq.trans (k6 63 (5 + kw) (by unfold WR1; omega)) (Eq.trans (x_up_k _ _ _ (by omega)) rfl)))]; exact hw kw hkw)⟩, (by rw [show (x_up M5 63 (10 + h_) (D h_ 3)) 63 16 = M 63 16 from (Eq.trans (x_up_k _ _ _ (by omega)) (Eq.trans (k6 63 16 (by unfold WR1; omega)) (Eq.trans (x_up_k _ _ _ (by omega)) rfl)))]; exact hbt), ⟨un, wn, by omega, by omega, (Eq.trans (congrFun (x_up_n _ _ _ (by decide)) _) (Eq.trans (k6 62 5 (by decide)) (Eq.trans (congrFun (x_up_n _ _ _ (by decide)) _) e_un))), (Eq.trans (congrFun (x_up_n _ _ _ (by decide)) _) (Eq.trans (k6 62 4 (by decide)) (Eq.trans (congrFun (x_up_n _ _ _ (by decide)) _) e_wn)))⟩, (fun kk hkk => by rw [show (x_up M5 63 (10 + h_) (D h_ 3)) 64 kk = M 64 kk from (Eq.trans (congrFun (x_up_n _ _ _ (by omega)) _) (Eq.trans (k6 64 kk (by unfold WR1; omega)) (Eq.trans (congrFun (x_up_n _ _ _ (by omega)) _) rfl))), show (x_up M5 63 (10 + h_) (D h_ 3)) 65 kk = M 65 kk from (Eq.trans (congrFun (x_up_n _ _ _ (by omega)) _) (Eq.trans (k6 65 kk (by unfold WR1; omega)) (Eq.trans (congrFun (x_up_n _ _ _ (by omega)) _) rfl))), show (x_up M5 63 (10 + h_) (D h_ 3)) 66 kk = M 66 kk from (Eq.trans (congrFun (x_up_n _ _ _ (by omega)) _) (Eq.trans (k6 66 kk (by unfold WR1; omega)) (Eq.trans (congrFun (x_up_n _ _ _ (by omega)) _) rfl)))]; exact hch kk hkk), ⟨n, by omega, (Eq.trans (congrFun (x_up_n _ _ _ (by decide)) _) (Eq.trans (k6 62 11 (by decide)) (Eq.trans (congrFun (x_up_n _ _ _ (by decide)) _) e_n)))⟩, (by rw [show (x_up M5 63 (10 + h_) (D h_ 3)) 62 13 = M 62 13 from (Eq.trans (congrFun (x_up_n _ _ _ (by omega)) _) (Eq.trans (k6 62 13 (by unfold WR1; omega)) (Eq.trans (congrFun (x_up_n _ _ _ (by omega)) _) rfl)))]; exact htx), ⟨b, by omega, (Eq.trans (congrFun (x_up_n _ _ _ (by decide)) _) (Eq.trans (k6 62 36 (by decide)) (Eq.trans (congrFun (x_up_n _ _ _ (by decide)) _) e_b)))⟩, (fun j hj => by obtain ⟨q, hq, eq⟩ := hkd j hj; exact ⟨q, hq, (show (x_up M5 63 (10 + h_) (D h_ 3)) 81 j = M 81 j from (Eq.trans (congrFun (x_up_n _ _ _ (by omega)) _) (Eq.trans (k6 81 j (by unfold WR1; omega)) (Eq.trans (congrFun (x_up_n _ _ _ (by omega)) _) rfl)))).trans eq⟩), ⟨ra, by omega, (Eq.trans (congrFun (x_up_n _ _ _ (by decide)) _) (Eq.trans (k6 62 39 (by decide)) (Eq.trans (congrFun (x_up_n _ _ _ (by decide)) _) e_ra)))⟩, (fun j hj => by rw [show (x_up M5 63 (10 + h_) (D h_ 3)) 83 j = M 83 j from (Eq.trans (congrFun (x_up_n _ _ _ (by omega)) _) (Eq.trans (k6 83 j (by unfold WR1; omega)) (Eq.trans (congrFun (x_up_n _ _ _ (by omega)) _) rfl))), show (x_up M5 63 (10 + h_) (D h_ 3)) 84 j = M 84 j from (Eq.trans (congrFun (x_up_n _ _ _ (by omega)) _) (Eq.trans (k6 84 j (by unfold WR1; omega)) (Eq.trans (congrFun (x_up_n _ _ _ (by omega)) _) rfl)))]; exact hsl j hj), ⟨ic, by omega, (Eq.trans (congrFun (x_up_n _ _ _ (by decide)) _) (Eq.trans (k6 62 34 (by decide)) (Eq.trans (congrFun (x_up_n _ _ _ (by decide)) _) e_ic)))⟩, (fun j hj => by obtain ⟨q, hq, eq⟩ := hS j hj; exact ⟨q, hq, (show (x_up M5 63 (10 + h_) (D h_ 3)) 75 j = M 75 j from (Eq.trans (congrFun (x_up_n _ _ _ (by omega)) _) (Eq.trans (k6 75 j (by unfold WR1; omega)) (Eq.trans (congrFun (x_up_n _ _ _ (by omega)) _) rfl)))).trans eq⟩)⟩, ⟨((congrArg Prod.snd (bgF_l ((le0_eq hW hh_ (hA h_ hh_).2.2.2.2).mp c3) ((bg1_y (n := nh) (D := D) (t := t) (S := S) (f := -2) (c := 0) c8).trans (show ((if (0 : Int32) = 0 then pv 9 else (-2 : Int32)), (0 : Int32) + 1) = ((0 : Int32), (1 : Int32)) by decide)).symm)).trans (if_pos c10).symm).trans (bgR_y hn5 hq hh_ c2 hkk), ⟨(Eq.trans (congrFun (x_up_n _ _ _ (by decide)) _) (Eq.trans (k6 62 6 (by decide)) (Eq.trans (congrFun (x_up_n _ _ _ (by decide)) _) e_hn))), (AbS_k hA (fun kl hkl => by
                by_cases q9 : kl = 10 + h_
                · subst q9; exact up_s.trans (hA h_ hh_).2.2.2.1.symm
                · exact (up_k q9).trans ((k6 63 kl (by unfold WR1; omega)).trans (up_k q9))) (fun kl => (Eq.trans (congrFun (x_up_n _ _ _ (by decide)) _) (Eq.trans (k6 67 kl (by unfold WR1; omega)) (Eq.trans (congrFun (x_up_n _ _ _ (by decide)) _) rfl)))) (fun kl => (Eq.trans (congrFun (x_up_n _ _ _ (by decide)) _) (Eq.trans (k6 68 kl (by unfold WR1; omega)) (Eq.trans (congrFun (x_up_n _ _ _ (by decide)) _) rfl)))) hn5), (LRt_k (Eq.trans (congrFun (x_up_n _ _ _ (by decide)) _) (Eq.trans (k6 62 13 (by unfold WR1; omega)) (Eq.trans (congrFun (x_up_n _ _ _ (by decide)) _) rfl))) (Eq.trans (x_up_n _ _ _ (by decide)) (Eq.trans (funext fun kk => k6 70 kk (by unfold WR1; omega)) (Eq.trans (x_up_n _ _ _ (by decide)) rfl))) hL), (Eq.trans (congrFun (x_up_n _ _ _ (by decide)) _) (Eq.trans (k6 62 9 (by decide)) (Eq.trans (congrFun (x_up_n _ _ _ (by decide)) _) e_nw))), ((up_k (by omega)).trans ((k6 63 15 (by unfold WR1; omega)).trans ((up_k (by omega)).trans e_rub))), ((up_k (by omega)).trans ((k6 63 16 (by unfold WR1; omega)).trans ((up_k (by omega)).trans e_bt))), ((up_k (by omega)).trans ((k6 63 17 (by unfold WR1; omega)).trans ((up_k (by omega)).trans e_ph))), ((up_k (by omega)).trans ((k6 63 18 (by unfold WR1; omega)).trans ((up_k (by omega)).trans e_st))), ((up_k (by omega)).trans ((k6 63 19 (by unfold WR1; omega)).trans ((up_k (by omega)).trans e_kn))), (Eq.trans (congrFun (x_up_n _ _ _ (by decide)) _) (Eq.trans (k6 62 24 (by decide)) (Eq.trans (congrFun (x_up_n _ _ _ (by decide)) _) e_pu))), (Eq.trans (congrFun (x_up_n _ _ _ (by decide)) _) (Eq.trans (k6 62 25 (by decide)) (Eq.trans (congrFun (x_up_n _ _ _ (by decide)) _) e_lf)))⟩⟩⟩⟩)
        · refine xr_bipush (v := 9) dX10_begun_49 rfl ?_
          refine xr_goto (tgt := 55) dX10_begun_51 rfl ?_
          refine xr_istore (ls2 := [(5, .int (9)), (4, .int ((D h_ 3))), (0, .ref (62)), (1, .int (nI (q))), (2, .int (nI (h_))), (3, .int (w))]) dX10_begun_55 (by decide) rfl ?_
          refine xr_iconst (v := 0) dX10_begun_57 rfl ?_
          refine xr_istore (ls2 := [(6, .int (0)), (5, .int (9)), (4, .int ((D h_ 3))), (0, .ref (62)), (1, .int (nI (q))), (2, .int (nI (h_))), (3, .int (w))]) dX10_begun_58 (by decide) rfl ?_
          refine xr_bipush (v := -2) dX10_begun_60 rfl ?_
          refine xr_istore (ls2 := [(7, .int ((-2))), (6, .int (0)), (5, .int (9)), (4, .int ((D h_ 3))), (0, .ref (62)), (1, .int (nI (q))), (2, .int (nI (h_))), (3, .int (w))]) dX10_begun_62 (by decide) rfl ?_
          refine xr_iload dX10_begun_64 2 rfl ?_
          refine xr_ineg dX10_begun_66 ?_
          refine xb_top (y := (-9)) (by decide) ?_
          refine xr_istore (ls2 := [(8, .int ((-9))), (7, .int ((-2))), (6, .int (0)), (5, .int (9)), (4, .int ((D h_ 3))), (0, .ref (62)), (1, .int (nI (q))), (2, .int (nI (h_))), (3, .int (w))]) dX10_begun_67 (by decide) rfl ?_
          refine xb_ls (ls2 := [(8, .int ((-9))), (7, .int ((-2))), (6, .int (0)), (5, .int (9)), (4, .int ((D h_ 3))), (3, .int (w)), (2, .int (nI (h_))), (1, .int (nI (q))), (0, .ref (62))]) [0, 1, 2, 3, 4, 8, 7, 6, 5] rfl ?_
          refine rbgx hq hh_ (fun z => absurd ((le0_eq hW hh_ (hA h_ hh_).2.2.2.2).mpr z) c3) hLL hn5 hrub hbt2 (bgL nh D t S G9 q h_ 19 0 (-2, 0)) e_hn e_nw e_rub e_bt e_ph e_st (LRt_k rfl rfl hL) (AbS_k hA (fun kl hkl => rfl) (fun kl => rfl) (fun kl => rfl) hn5) hW e_s hE (fun q11 q12 M13 k14 hEE => ?_) (19 - 0) 0 (-2) 0 M (by omega) Ke.rf ⟨rfl, fun _ _ => rfl⟩
          refine xr_aload_n dX10_begun_121 5 rfl ?_
          refine xr_getR flX10_9 dX10_begun_122 s_62 rfl ?_
          refine xr_bipush (v := 10) dX10_begun_125 rfl ?_
          refine xr_iload_n dX10_begun_127 4 rfl ?_
          refine xr_iadd dX10_begun_128 ?_
          refine xb_top (y := nI (10 + h_)) (nI_add (10) (h_)) ?_
          refine xr_iload dX10_begun_129 2 rfl ?_
          refine xb_iast (j := 10 + h_) dX10_begun_131 s_63 (by omega) (by decide) ?_
          refine xr_iload_n dX10_begun_132 3 rfl ?_
          refine xr_if_ne (tgt := 141) dX10_begun_133 rfl (fun c15 => ?_) (fun c15 => ?_)
          · refine xr_iload dX10_begun_141 0 rfl ?_
            exact xr_iret dX10_begun_143 rfl rfl (⟨_, rfl, rfl, rfl, (Ke.up (Or.inr (Or.inr (Or.inr (Or.inr (Or.inr (Or.inr (Or.inr (Or.inr (by omega))))))))) (Ke.tr (fun _ _ h => h) Ke.rf k14)), ⟨⟨⟨nh, by omega, (Eq.trans (congrFun (x_up_n _ _ _ (by decide)) _) (Eq.trans (k14 62 6 (by decide)) e_hn)), (fun kw hkw => by rw [show (x_up M13 63 (10 + h_) (D h_ 3)) 63 (5 + kw) = M 63 (5 + kw) from (Eq.trans (x_up_k _ _ _ (by omega)) (Eq.trans (k14 63 (5 + kw) (by unfold WRS; omega)) rfl))]; exact hw kw hkw)⟩, (by rw [show (x_up M13 63 (10 + h_) (D h_ 3)) 63 16 = M 63 16 from (Eq.trans (x_up_k _ _ _ (by omega)) (Eq.trans (k14 63 16 (by unfold WRS; omega)) rfl))]; exact hbt), ⟨un, wn, by omega, by omega, (Eq.trans (congrFun (x_up_n _ _ _ (by decide)) _) (Eq.trans (k14 62 5 (by decide)) e_un)), (Eq.trans (congrFun (x_up_n _ _ _ (by decide)) _) (Eq.trans (k14 62 4 (by decide)) e_wn))⟩, (fun kk hkk => by rw [show (x_up M13 63 (10 + h_) (D h_ 3)) 64 kk = M 64 kk from (Eq.trans (congrFun (x_up_n _ _ _ (by omega)) _) (Eq.trans (k14 64 kk (by unfold WRS; omega)) rfl)), show (x_up M13 63 (10 + h_) (D h_ 3)) 65 kk = M 65 kk from (Eq.trans (congrFun (x_up_n _ _ _ (by omega)) _) (Eq.trans (k14 65 kk (by unfold WRS; omega)) rfl)), show (x_up M13 63 (10 + h_) (D h_ 3)) 66 kk = M 66 kk from (Eq.trans (congrFun (x_up_n _ _ _ (by omega)) _) (Eq.trans (k14 66 kk (by unfold WRS; omega)) rfl))]; exact hch kk hkk), ⟨n, by omega, (Eq.trans (congrFun (x_up_n _ _ _ (by decide)) _) (Eq.trans (k14 62 11 (by decide)) e_n))⟩, (by rw [show (x_up M13 63 (10 + h_) (D h_ 3)) 62 13 = M 62 13 from (Eq.trans (congrFun (x_up_n _ _ _ (by omega)) _) (Eq.trans (k14 62 13 (by unfold WRS; omega)) rfl))]; exact htx), ⟨b, by omega, (Eq.trans (congrFun (x_up_n _ _ _ (by decide)) _) (Eq.trans (k14 62 36 (by decide)) e_b))⟩, (fun j hj => by obtain ⟨q, hq, eq⟩ := hkd j hj; exact ⟨q, hq, (show (x_up M13 63 (10 + h_) (D h_ 3)) 81 j = M 81 j from (Eq.trans (congrFun (x_up_n _ _ _ (by omega)) _) (Eq.trans (k14 81 j (by unfold WRS; omega)) rfl))).trans eq⟩), ⟨ra, by omega, (Eq.trans (congrFun (x_up_n _ _ _ (by decide)) _) (Eq.trans (k14 62 39 (by decide)) e_ra))⟩, (fun j hj => by rw [show (x_up M13 63 (10 + h_) (D h_ 3)) 83 j = M 83 j from (Eq.trans (congrFun (x_up_n _ _ _ (by omega)) _) (Eq.trans (k14 83 j (by unfold WRS; omega)) rfl)), show (x_up M13 63 (10 + h_) (D h_ 3)) 84 j = M 84 j from (Eq.trans (congrFun (x_up_n _ _ _ (by omega)) _) (Eq.trans (k14 84 j (by unfold WRS; omega)) rfl))]; exact hsl j hj), ⟨ic, by omega, (Eq.trans (congrFun (x_up_n _ _ _ (by decide)) _) (Eq.trans (k14 62 34 (by decide)) e_ic))⟩, (fun j hj => by obtain ⟨q, hq, eq⟩ := hS j hj; exact ⟨q, hq, (show (x_up M13 63 (10 + h_) (D h_ 3)) 75 j = M 75 j from (Eq.trans (congrFun (x_up_n _ _ _ (by omega)) _) (Eq.trans (k14 75 j (by unfold WRS; omega)) rfl))).trans eq⟩)⟩, ⟨((congrArg Prod.fst (bgF_u (fun z => absurd ((le0_eq hW hh_ (hA h_ hh_).2.2.2.2).mpr z) c3) hEE.1)).trans (if_neg c15).symm).trans (bgR_y hn5 hq hh_ c2 hkk), ⟨(Eq.trans (congrFun (x_up_n _ _ _ (by decide)) _) (Eq.trans (k14 62 6 (by decide)) e_hn)), (AbS_k hA (fun kl hkl => by
              by_cases q9 : kl = 10 + h_
              · subst q9; exact up_s.trans (hA h_ hh_).2.2.2.1.symm
              · exact (up_k q9).trans (hEE.2 kl q9)) (fun kl => (Eq.trans (congrFun (x_up_n _ _ _ (by decide)) _) (Eq.trans (k14 67 kl (by unfold WRS; omega)) rfl))) (fun kl => (Eq.trans (congrFun (x_up_n _ _ _ (by decide)) _) (Eq.trans (k14 68 kl (by unfold WRS; omega)) rfl))) hn5), (LRt_k (Eq.trans (congrFun (x_up_n _ _ _ (by decide)) _) (Eq.trans (k14 62 13 (by unfold WRS; omega)) rfl)) (Eq.trans (x_up_n _ _ _ (by decide)) (Eq.trans (funext fun kk => k14 70 kk (by unfold WRS; omega)) rfl)) hL), (Eq.trans (congrFun (x_up_n _ _ _ (by decide)) _) (Eq.trans (k14 62 9 (by decide)) e_nw)), ((up_k (by omega)).trans ((hEE.2 15 (by omega)).trans e_rub)), ((up_k (by omega)).trans ((hEE.2 16 (by omega)).trans e_bt)), ((up_k (by omega)).trans ((hEE.2 17 (by omega)).trans e_ph)), ((up_k (by omega)).trans ((hEE.2 18 (by omega)).trans e_st)), ((up_k (by omega)).trans ((hEE.2 19 (by omega)).trans e_kn)), (Eq.trans (congrFun (x_up_n _ _ _ (by decide)) _) (Eq.trans (k14 62 24 (by decide)) e_pu)), (Eq.trans (congrFun (x_up_n _ _ _ (by decide)) _) (Eq.trans (k14 62 25 (by decide)) e_lf))⟩⟩⟩⟩)
          · refine xr_iload dX10_begun_136 1 rfl ?_
            refine xr_goto (tgt := 143) dX10_begun_138 rfl ?_
            exact xr_iret dX10_begun_143 rfl rfl (⟨_, rfl, rfl, rfl, (Ke.up (Or.inr (Or.inr (Or.inr (Or.inr (Or.inr (Or.inr (Or.inr (Or.inr (by omega))))))))) (Ke.tr (fun _ _ h => h) Ke.rf k14)), ⟨⟨⟨nh, by omega, (Eq.trans (congrFun (x_up_n _ _ _ (by decide)) _) (Eq.trans (k14 62 6 (by decide)) e_hn)), (fun kw hkw => by rw [show (x_up M13 63 (10 + h_) (D h_ 3)) 63 (5 + kw) = M 63 (5 + kw) from (Eq.trans (x_up_k _ _ _ (by omega)) (Eq.trans (k14 63 (5 + kw) (by unfold WRS; omega)) rfl))]; exact hw kw hkw)⟩, (by rw [show (x_up M13 63 (10 + h_) (D h_ 3)) 63 16 = M 63 16 from (Eq.trans (x_up_k _ _ _ (by omega)) (Eq.trans (k14 63 16 (by unfold WRS; omega)) rfl))]; exact hbt), ⟨un, wn, by omega, by omega, (Eq.trans (congrFun (x_up_n _ _ _ (by decide)) _) (Eq.trans (k14 62 5 (by decide)) e_un)), (Eq.trans (congrFun (x_up_n _ _ _ (by decide)) _) (Eq.trans (k14 62 4 (by decide)) e_wn))⟩, (fun kk hkk => by rw [show (x_up M13 63 (10 + h_) (D h_ 3)) 64 kk = M 64 kk from (Eq.trans (congrFun (x_up_n _ _ _ (by omega)) _) (Eq.trans (k14 64 kk (by unfold WRS; omega)) rfl)), show (x_up M13 63 (10 + h_) (D h_ 3)) 65 kk = M 65 kk from (Eq.trans (congrFun (x_up_n _ _ _ (by omega)) _) (Eq.trans (k14 65 kk (by unfold WRS; omega)) rfl)), show (x_up M13 63 (10 + h_) (D h_ 3)) 66 kk = M 66 kk from (Eq.trans (congrFun (x_up_n _ _ _ (by omega)) _) (Eq.trans (k14 66 kk (by unfold WRS; omega)) rfl))]; exact hch kk hkk), ⟨n, by omega, (Eq.trans (congrFun (x_up_n _ _ _ (by decide)) _) (Eq.trans (k14 62 11 (by decide)) e_n))⟩, (by rw [show (x_up M13 63 (10 + h_) (D h_ 3)) 62 13 = M 62 13 from (Eq.trans (congrFun (x_up_n _ _ _ (by omega)) _) (Eq.trans (k14 62 13 (by unfold WRS; omega)) rfl))]; exact htx), ⟨b, by omega, (Eq.trans (congrFun (x_up_n _ _ _ (by decide)) _) (Eq.trans (k14 62 36 (by decide)) e_b))⟩, (fun j hj => by obtain ⟨q, hq, eq⟩ := hkd j hj; exact ⟨q, hq, (show (x_up M13 63 (10 + h_) (D h_ 3)) 81 j = M 81 j from (Eq.trans (congrFun (x_up_n _ _ _ (by omega)) _) (Eq.trans (k14 81 j (by unfold WRS; omega)) rfl))).trans eq⟩), ⟨ra, by omega, (Eq.trans (congrFun (x_up_n _ _ _ (by decide)) _) (Eq.trans (k14 62 39 (by decide)) e_ra))⟩, (fun j hj => by rw [show (x_up M13 63 (10 + h_) (D h_ 3)) 83 j = M 83 j from (Eq.trans (congrFun (x_up_n _ _ _ (by omega)) _) (Eq.trans (k14 83 j (by unfold WRS; omega)) rfl)), show (x_up M13 63 (10 + h_) (D h_ 3)) 84 j = M 84 j from (Eq.trans (congrFun (x_up_n _ _ _ (by omega)) _) (Eq.trans (k14 84 j (by unfold WRS; omega)) rfl))]; exact hsl j hj), ⟨ic, by omega, (Eq.trans (congrFun (x_up_n _ _ _ (by decide)) _) (Eq.trans (k14 62 34 (by decide)) e_ic))⟩, (fun j hj => by obtain ⟨q, hq, eq⟩ := hS j hj; exact ⟨q, hq, (show (x_up M13 63 (10 + h_) (D h_ 3)) 75 j = M 75 j from (Eq.trans (congrFun (x_up_n _ _ _ (by omega)) _) (Eq.trans (k14 75 j (by unfold WRS; omega)) rfl))).trans eq⟩)⟩, ⟨((congrArg Prod.snd (bgF_u (fun z => absurd ((le0_eq hW hh_ (hA h_ hh_).2.2.2.2).mpr z) c3) hEE.1)).trans (if_pos c15).symm).trans (bgR_y hn5 hq hh_ c2 hkk), ⟨(Eq.trans (congrFun (x_up_n _ _ _ (by decide)) _) (Eq.trans (k14 62 6 (by decide)) e_hn)), (AbS_k hA (fun kl hkl => by
              by_cases q9 : kl = 10 + h_
              · subst q9; exact up_s.trans (hA h_ hh_).2.2.2.1.symm
              · exact (up_k q9).trans (hEE.2 kl q9)) (fun kl => (Eq.trans (congrFun (x_up_n _ _ _ (by decide)) _) (Eq.trans (k14 67 kl (by unfold WRS; omega)) rfl))) (fun kl => (Eq.trans (congrFun (x_up_n _ _ _ (by decide)) _) (Eq.trans (k14 68 kl (by unfold WRS; omega)) rfl))) hn5), (LRt_k (Eq.trans (congrFun (x_up_n _ _ _ (by decide)) _) (Eq.trans (k14 62 13 (by unfold WRS; omega)) rfl)) (Eq.trans (x_up_n _ _ _ (by decide)) (Eq.trans (funext fun kk => k14 70 kk (by unfold WRS; omega)) rfl)) hL), (Eq.trans (congrFun (x_up_n _ _ _ (by decide)) _) (Eq.trans (k14 62 9 (by decide)) e_nw)), ((up_k (by omega)).trans ((hEE.2 15 (by omega)).trans e_rub)), ((up_k (by omega)).trans ((hEE.2 16 (by omega)).trans e_bt)), ((up_k (by omega)).trans ((hEE.2 17 (by omega)).trans e_ph)), ((up_k (by omega)).trans ((hEE.2 18 (by omega)).trans e_st)), ((up_k (by omega)).trans ((hEE.2 19 (by omega)).trans e_kn)), (Eq.trans (congrFun (x_up_n _ _ _ (by decide)) _) (Eq.trans (k14 62 24 (by decide)) e_pu)), (Eq.trans (congrFun (x_up_n _ _ _ (by decide)) _) (Eq.trans (k14 62 25 (by decide)) e_lf))⟩⟩⟩⟩)
      · refine xr_ldc coX10_140 dX10_begun_26 ?_
        exact xr_iret dX10_begun_28 rfl rfl (⟨_, rfl, rfl, rfl, Ke.rf, ⟨⟨⟨nh, by omega, e_hn, (fun kw hkw => by rw [show M 63 (5 + kw) = M 63 (5 + kw) from rfl]; exact hw kw hkw)⟩, (by rw [show M 63 16 = M 63 16 from rfl]; exact hbt), ⟨un, wn, by omega, by omega, e_un, e_wn⟩, (fun kk hkk => by rw [show M 64 kk = M 64 kk from rfl, show M 65 kk = M 65 kk from rfl, show M 66 kk = M 66 kk from rfl]; exact hch kk hkk), ⟨n, by omega, e_n⟩, (by rw [show M 62 13 = M 62 13 from rfl]; exact htx), ⟨b, by omega, e_b⟩, (fun j hj => by obtain ⟨q, hq, eq⟩ := hkd j hj; exact ⟨q, hq, (show M 81 j = M 81 j from rfl).trans eq⟩), ⟨ra, by omega, e_ra⟩, (fun j hj => by rw [show M 83 j = M 83 j from rfl, show M 84 j = M 84 j from rfl]; exact hsl j hj), ⟨ic, by omega, e_ic⟩, (fun j hj => by obtain ⟨q, hq, eq⟩ := hS j hj; exact ⟨q, hq, (show M 75 j = M 75 j from rfl).trans eq⟩)⟩, ⟨bgR_n (fun z => c2 z.2.1), hG0⟩⟩⟩)
  · refine xb_top (y := (-12)) ((if_neg h0).trans (if_neg h2)) ?_
    refine xr_if_lt (tgt := 26) dX10_begun_5 rfl (fun _ => ?_) (fun c => absurd (by decide) c)
    refine xr_ldc coX10_140 dX10_begun_26 ?_
    exact xr_iret dX10_begun_28 rfl rfl (⟨_, rfl, rfl, rfl, Ke.rf, ⟨⟨⟨nh, by omega, e_hn, (fun kw hkw => by rw [show M 63 (5 + kw) = M 63 (5 + kw) from rfl]; exact hw kw hkw)⟩, (by rw [show M 63 16 = M 63 16 from rfl]; exact hbt), ⟨un, wn, by omega, by omega, e_un, e_wn⟩, (fun kk hkk => by rw [show M 64 kk = M 64 kk from rfl, show M 65 kk = M 65 kk from rfl, show M 66 kk = M 66 kk from rfl]; exact hch kk hkk), ⟨n, by omega, e_n⟩, (by rw [show M 62 13 = M 62 13 from rfl]; exact htx), ⟨b, by omega, e_b⟩, (fun j hj => by obtain ⟨q, hq, eq⟩ := hkd j hj; exact ⟨q, hq, (show M 81 j = M 81 j from rfl).trans eq⟩), ⟨ra, by omega, e_ra⟩, (fun j hj => by rw [show M 83 j = M 83 j from rfl, show M 84 j = M 84 j from rfl]; exact hsl j hj), ⟨ic, by omega, e_ic⟩, (fun j hj => by obtain ⟨q, hq, eq⟩ := hS j hj; exact ⟨q, hq, (show M 75 j = M 75 j from rfl).trans eq⟩)⟩, ⟨bgR_n (fun z => by have z2 := z.2.2; rw [w_ix_n (by omega), hkk] at z2; exact absurd z2 (by decide)), hG0⟩⟩⟩)
set_option maxRecDepth 100000 in
set_option maxHeartbeats 4000000 in
theorem gxzn_X10_begun {nh : Nat} {D : xM} {t : Option zL} {S : Nat → Int32} {G9 : xQs} (d h w : Int32) {l : Launch} {G : xG} {M : xM} {J : xJ} (hI : InvR M) (hWG : WG nh D S) (hG : RG M nh D t S) (hSh : RSh M J G9) (hWS : WSh G9) (hd : ¬ (0 ≤ d ∧ d ≤ 5)) : x_M l G fX10_begun 63 0 0 [.ref (62), .int (d), .int (h), .int (w)] x_SH M J (qKI WRS M J (fun r M2 => InvR M2 ∧ (r = bgR nh D t S G9 d h w ∧ RG M2 nh D t S))) := by
  refine xb_of pX10 (Nat.le_of_ble_eq_true rfl) rfl ?_
  obtain ⟨⟨hn, h_hn, e_hn, hw⟩, hbt, ⟨un, wn, h_uw, h_wn, e_un, e_wn⟩, hch, ⟨n, h_n, e_n⟩, htx, ⟨b, h_b, e_b⟩, hkd, ⟨ra, h_ra, e_ra⟩, hsl, ⟨ic, h_ic, e_ic⟩, hS⟩ := hI
  have hG0 := hG
  obtain ⟨hn5, hW, hrub, hbeat⟩ := hWG
  obtain ⟨hGn, hA, hL, e_nw, e_rub, e_bt, e_ph, e_st, e_kn, e_pu, e_lf⟩ := hG
  obtain rfl : nh = hn := (nI_eq (by omega) (by omega)).mp (hGn.symm.trans e_hn)
  have hbt2 : ¬ S 2 = 0 := ne2_0 hbeat.1
  refine xr_aload_n dX10_begun_0 0 rfl ?_
  refine xr_iload_n dX10_begun_1 1 rfl ?_
  refine xb_cV (As := [.int (d)]) (rest := []) mlX10_285 (gw_X10_rowIs_n hd) dX10_begun_2 s_62 rfl rfl (Nat.le_of_ble_eq_true rfl) (by decide) (by decide) ?_
  refine xr_if_lt (tgt := 26) dX10_begun_5 rfl (fun _ => ?_) (fun c => absurd (by decide) c)
  refine xr_ldc coX10_140 dX10_begun_26 ?_
  exact xr_iret dX10_begun_28 rfl rfl (⟨_, rfl, rfl, rfl, Ke.rf, ⟨⟨⟨nh, by omega, e_hn, (fun kw hkw => by rw [show M 63 (5 + kw) = M 63 (5 + kw) from rfl]; exact hw kw hkw)⟩, (by rw [show M 63 16 = M 63 16 from rfl]; exact hbt), ⟨un, wn, by omega, by omega, e_un, e_wn⟩, (fun kk hkk => by rw [show M 64 kk = M 64 kk from rfl, show M 65 kk = M 65 kk from rfl, show M 66 kk = M 66 kk from rfl]; exact hch kk hkk), ⟨n, by omega, e_n⟩, (by rw [show M 62 13 = M 62 13 from rfl]; exact htx), ⟨b, by omega, e_b⟩, (fun j hj => by obtain ⟨q, hq, eq⟩ := hkd j hj; exact ⟨q, hq, (show M 81 j = M 81 j from rfl).trans eq⟩), ⟨ra, by omega, e_ra⟩, (fun j hj => by rw [show M 83 j = M 83 j from rfl, show M 84 j = M 84 j from rfl]; exact hsl j hj), ⟨ic, by omega, e_ic⟩, (fun j hj => by obtain ⟨q, hq, eq⟩ := hS j hj; exact ⟨q, hq, (show M 75 j = M 75 j from rfl).trans eq⟩)⟩, ⟨bgR_n (fun z => hd z.1.1), hG0⟩⟩⟩)
theorem gx_X10_begun (d h w : Int32) {nh : Nat} {D : xM} {t : Option zL} {S : Nat → Int32} {G9 : xQs} {l : Launch} {G : xG} {M : xM} {J : xJ} (hI : InvR M) (hWG : WG nh D S) (hG : RG M nh D t S) (hSh : RSh M J G9) (hWS : WSh G9) : x_M l G fX10_begun 63 0 0 [.ref (62), .int (d), .int (h), .int (w)] x_SH M J (qKI WRS M J (fun r M2 => InvR M2 ∧ (r = bgR nh D t S G9 d h w ∧ RG M2 nh D t S))) := by
  by_cases hd : 0 ≤ d ∧ d ≤ 5
  · obtain ⟨q, hq, rfl⟩ := x_natle (v := d) (N := 5) (K := 5) (by decide) (by decide) hd
    exact gxzq_X10_begun h w hI hWG hG hSh hWS (by omega)
  · exact gxzn_X10_begun d h w hI hWG hG hSh hWS hd