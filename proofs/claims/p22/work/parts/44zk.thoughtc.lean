set_option maxRecDepth 100000 in
set_option maxHeartbeats 4000000 in
theorem gw_X7_begin {t : Option zL} {rub bt ph st nw : Int32} {D : xM} {cn : Nat} (h_cn : cn ≤ 5) {l : Launch} {G : xG} {M : xM} {J : xJ} (e_cn : M 13 2 = nI cn) (e_nw : M 13 3 = nw) (e_rub : M 13 4 = rub) (e_bt : M 13 5 = bt) (e_ph : M 13 6 = ph) (e_st : M 13 7 = st) (hL : LCt M t) (hA : AbC 15 cn M D) (hW : WF cn D) : x_M l G fX7_begin 3 0 0 [.ref (27)] x_SH M J (qKV WTB M J (fun M2 => TC M2 (cn, t, rub, bt, ph, st) nw D 0 (-1) (M 27 6) (M 27 7))) := by
  refine xb_of pX7 (Nat.le_of_ble_eq_true rfl) rfl ?_
  refine xr_aload_n dX7_begin_0 0 rfl ?_
  refine xr_getR flX7_15 dX7_begin_1 s_27 rfl ?_
  refine xr_aload_n dX7_begin_4 0 rfl ?_
  refine xr_getR flX7_9 dX7_begin_5 s_27 rfl ?_
  refine xr_callV (As := [.ref (13)]) (rest := []) mlX7_18 (gw_X5_copy_28 (D := D) (cn := cn) h_cn e_cn hA) dX7_begin_8 s_28 rfl rfl (Nat.le_of_ble_eq_true rfl) (by decide) ⟨by decide, by decide⟩ (fun v s2 M2 J2 hq => ?_)
  obtain ⟨rfl, rfl, rfl, k3, hx1⟩ := hq
  try dsimp only [Option.toList, List.cons_append, List.nil_append]
  refine xr_aload_n dX7_begin_11 0 rfl ?_
  refine xr_iconst (v := 0) dX7_begin_12 rfl ?_
  refine xr_putI fpX7_24 dX7_begin_13 s_27 rfl rfl rfl ?_
  refine xr_aload_n dX7_begin_16 0 rfl ?_
  refine xr_iconst (v := 0) dX7_begin_17 rfl ?_
  refine xr_putI fpX7_28 dX7_begin_18 s_27 rfl rfl rfl ?_
  refine xr_aload_n dX7_begin_21 0 rfl ?_
  refine xr_iconst (v := -1) dX7_begin_22 rfl ?_
  refine xr_putI fpX7_31 dX7_begin_23 s_27 rfl rfl rfl ?_
  refine xr_aload_n dX7_begin_26 0 rfl ?_
  refine xr_iconst (v := -1) dX7_begin_27 rfl ?_
  refine xr_putI fpX7_34 dX7_begin_28 s_27 rfl rfl rfl ?_
  exact xr_vret dX7_begin_31 rfl (⟨rfl, rfl, rfl, (Ke.up (Or.inl (by omega)) (Ke.up (Or.inl (by omega)) (Ke.up (Or.inl (by omega)) (Ke.up (Or.inl (by omega)) (Ke.tr (fun pp kk => (fun hh => Or.elim hh (fun h => (Or.inl (by omega))) (fun h => (Or.inr h)))) Ke.rf k3))))), ⟨⟨(Eq.trans (congrFun (x_up_n _ _ _ (by decide)) _) (Eq.trans (congrFun (x_up_n _ _ _ (by decide)) _) (Eq.trans (congrFun (x_up_n _ _ _ (by decide)) _) (Eq.trans (congrFun (x_up_n _ _ _ (by decide)) _) hx1.1)))), (AbC_n (AbC_n (AbC_n (AbC_n hx1.2.1 (Or.inl (by decide))) (Or.inl (by decide))) (Or.inl (by decide))) (Or.inl (by decide))), hW, (LCt_k (Eq.trans (congrFun (x_up_n _ _ _ (by omega)) _) (Eq.trans (congrFun (x_up_n _ _ _ (by omega)) _) (Eq.trans (congrFun (x_up_n _ _ _ (by omega)) _) (Eq.trans (congrFun (x_up_n _ _ _ (by omega)) _) (Eq.trans (k3 1 4 (by unfold W28c; omega)) rfl))))) (fun kl => (Eq.trans (congrFun (x_up_n _ _ _ (by omega)) _) (Eq.trans (congrFun (x_up_n _ _ _ (by omega)) _) (Eq.trans (congrFun (x_up_n _ _ _ (by omega)) _) (Eq.trans (congrFun (x_up_n _ _ _ (by omega)) _) (Eq.trans (k3 2 kl (by unfold W28c; omega)) rfl)))))) (fun kl => (Eq.trans (congrFun (x_up_n _ _ _ (by omega)) _) (Eq.trans (congrFun (x_up_n _ _ _ (by omega)) _) (Eq.trans (congrFun (x_up_n _ _ _ (by omega)) _) (Eq.trans (congrFun (x_up_n _ _ _ (by omega)) _) (Eq.trans (k3 3 kl (by unfold W28c; omega)) rfl)))))) hL)⟩, ⟨(Eq.trans (congrFun (x_up_n _ _ _ (by decide)) _) (Eq.trans (congrFun (x_up_n _ _ _ (by decide)) _) (Eq.trans (congrFun (x_up_n _ _ _ (by decide)) _) (Eq.trans (congrFun (x_up_n _ _ _ (by decide)) _) (hx1.2.2.1.trans e_nw))))), (Eq.trans (congrFun (x_up_n _ _ _ (by decide)) _) (Eq.trans (congrFun (x_up_n _ _ _ (by decide)) _) (Eq.trans (congrFun (x_up_n _ _ _ (by decide)) _) (Eq.trans (congrFun (x_up_n _ _ _ (by decide)) _) (hx1.2.2.2.1.trans e_rub))))), (Eq.trans (congrFun (x_up_n _ _ _ (by decide)) _) (Eq.trans (congrFun (x_up_n _ _ _ (by decide)) _) (Eq.trans (congrFun (x_up_n _ _ _ (by decide)) _) (Eq.trans (congrFun (x_up_n _ _ _ (by decide)) _) (hx1.2.2.2.2.1.trans e_bt))))), (Eq.trans (congrFun (x_up_n _ _ _ (by decide)) _) (Eq.trans (congrFun (x_up_n _ _ _ (by decide)) _) (Eq.trans (congrFun (x_up_n _ _ _ (by decide)) _) (Eq.trans (congrFun (x_up_n _ _ _ (by decide)) _) (hx1.2.2.2.2.2.1.trans e_ph))))), (Eq.trans (congrFun (x_up_n _ _ _ (by decide)) _) (Eq.trans (congrFun (x_up_n _ _ _ (by decide)) _) (Eq.trans (congrFun (x_up_n _ _ _ (by decide)) _) (Eq.trans (congrFun (x_up_n _ _ _ (by decide)) _) (hx1.2.2.2.2.2.2.1.trans e_st)))))⟩, (Eq.trans (x_up_k _ _ _ (by decide)) (Eq.trans (x_up_k _ _ _ (by decide)) (Eq.trans (x_up_k _ _ _ (by decide)) (x_up_s _ _ _ _)))), ⟨0, Nat.le_refl _, (Eq.trans (x_up_k _ _ _ (by decide)) (Eq.trans (x_up_k _ _ _ (by decide)) (x_up_s _ _ _ _)))⟩, (Eq.trans (x_up_k _ _ _ (by decide)) (x_up_s _ _ _ _)), (x_up_s _ _ _ _), (Eq.trans (x_up_k _ _ _ (by decide)) (Eq.trans (x_up_k _ _ _ (by decide)) (Eq.trans (x_up_k _ _ _ (by decide)) (Eq.trans (x_up_k _ _ _ (by decide)) (Eq.trans (k3 27 6 (by decide)) rfl))))), (Eq.trans (x_up_k _ _ _ (by decide)) (Eq.trans (x_up_k _ _ _ (by decide)) (Eq.trans (x_up_k _ _ _ (by decide)) (Eq.trans (x_up_k _ _ _ (by decide)) (Eq.trans (k3 27 7 (by decide)) rfl)))))⟩⟩)
set_option maxRecDepth 100000 in
set_option maxHeartbeats 4000000 in
theorem gw_X7_step {P : xP} {nw mt mf mg : Int32} {D : xM} {k : Nat} (hP : WP P) (hk : k < 2000) (hmg : mt = -1 ∨ 0 ≤ mg ∧ mg < 24) {l : Launch} {G : xG} {M : xM} {J : xJ} (hT : TC M P nw D k mt mf mg) : x_M l G fX7_step 5 0 0 [.ref (27)] x_SH M J (qKV WS M J (fun M2 => TC M2 P (nw + 1) (tiM P mt mf mg k nw D) (k + 1) mt mf mg)) := by
  refine xb_of pX7 (Nat.le_of_ble_eq_true rfl) rfl ?_
  obtain ⟨cn, t, rub, bt, ph, st⟩ := P
  have h_cn : cn ≤ 5 := hP.1
  have hrub : 0 ≤ rub ∧ rub ≤ 3 := hP.2.1
  have hbt : ¬ bt = 0 := hP.2.2
  obtain ⟨⟨e_cn, hA, hW, hL⟩, ⟨e_nw, e_rub, e_bt, e_ph, e_st⟩, e_tk, ⟨q, hq, e_q⟩, e_lo, e_mt, e_mf, e_mg⟩ := hT
  replace e_cn : M 28 2 = nI cn := e_cn
  replace hA : AbC 30 cn M D := hA
  replace hW : WF cn D := hW
  replace hL : LCt M t := hL
  replace e_rub : M 28 4 = rub := e_rub
  replace e_bt : M 28 5 = bt := e_bt
  replace e_ph : M 28 6 = ph := e_ph
  replace e_st : M 28 7 = st := e_st
  refine xr_aload_n dX7_step_0 0 rfl ?_
  refine xr_getR flX7_15 dX7_step_1 s_27 rfl ?_
  refine xb_cV (As := []) (rest := []) mlX7_43 (c_X5_isPushDue_28 hbt e_nw e_bt e_ph) dX7_step_4 s_28 rfl rfl (Nat.le_of_ble_eq_true rfl) (by decide) (by decide) ?_
  refine xb_beq (tgt := 52) dX7_step_7 rfl (fun c1 => ?_) (fun c1 => ?_)
  · refine xr_aload_n dX7_step_52 0 rfl ?_
    refine xb_get (v := nI (k)) flX7_24 dX7_step_53 s_27 rfl e_tk ?_
    refine xr_aload_n dX7_step_56 0 rfl ?_
    refine xb_get (v := mt) flX7_34 dX7_step_57 s_27 rfl e_mt ?_
    refine xr_icmp_ne (tgt := 78) dX7_step_60 rfl (fun c2 => ?_) (fun c2 => ?_)
    · refine xr_aload_n dX7_step_78 0 rfl ?_
      refine xr_getR flX7_15 dX7_step_79 s_27 rfl ?_
      refine xr_callV (As := []) (rest := []) mlX7_58 (gw_X5_settle_28 hrub h_cn e_cn e_nw e_rub rfl (show AbC 30 cn _ (tkm (cn, t, rub, bt, ph, st) mt mf mg k nw D) by unfold tkm; rw [if_neg c2]; exact (show AbC 30 cn _ (tkp (cn, t, rub, bt, ph, st) nw D) by rw [tkp_n c1]; exact hA)) (WF_tkm (P := (cn, t, rub, bt, ph, st)) hW)) dX7_step_82 s_28 rfl rfl (Nat.le_of_ble_eq_true rfl) (by decide) ⟨by decide, by decide⟩ (fun v s2 M4 J2 hq => ?_)
      obtain ⟨rfl, rfl, rfl, k5, hx3⟩ := hq
      try dsimp only [Option.toList, List.cons_append, List.nil_append]
      refine xr_aload_n dX7_step_85 0 rfl ?_
      refine xr_dup dX7_step_86 rfl ?_
      refine xb_get (v := nI (k)) flX7_24 dX7_step_87 s_27 rfl (Eq.trans (k5 27 2 (by decide)) e_tk) ?_
      refine xr_iconst (v := 1) dX7_step_90 rfl ?_
      refine xr_iadd dX7_step_91 ?_
      refine xb_top (y := nI (k + 1)) (nI_add (k) (1)) ?_
      refine xr_putI fpX7_24 dX7_step_92 s_27 rfl rfl rfl ?_
      exact xr_vret dX7_step_95 rfl (⟨rfl, rfl, rfl, (Ke.up (Or.inr (Or.inr (Or.inl (by omega)))) (Ke.tr (fun pp kk => (fun hh => Or.elim hh (fun h => (Or.inr (Or.inr (Or.inr (Or.inl (by omega)))))) (fun hh => Or.elim hh (fun h => (Or.inr (Or.inr (Or.inr (Or.inl (by omega)))))) (fun h => (Or.inr (Or.inr (Or.inr (Or.inr h)))))))) Ke.rf k5)), ⟨⟨(Eq.trans (congrFun (x_up_n _ _ _ (by decide)) _) (Eq.trans (k5 28 2 (by decide)) e_cn)), (AbC_n hx3.1 (Or.inl (by decide))), (WF_tiM (P := (cn, t, rub, bt, ph, st)) hW), (LCt_k (Eq.trans (congrFun (x_up_n _ _ _ (by omega)) _) (Eq.trans (k5 1 4 (by unfold W28s; omega)) rfl)) (fun kl => (Eq.trans (congrFun (x_up_n _ _ _ (by omega)) _) (Eq.trans (k5 2 kl (by unfold W28s; omega)) rfl))) (fun kl => (Eq.trans (congrFun (x_up_n _ _ _ (by omega)) _) (Eq.trans (k5 3 kl (by unfold W28s; omega)) rfl))) hL)⟩, ⟨(Eq.trans (congrFun (x_up_n _ _ _ (by decide)) _) hx3.2.1), (Eq.trans (congrFun (x_up_n _ _ _ (by decide)) _) (Eq.trans (k5 28 4 (by decide)) e_rub)), (Eq.trans (congrFun (x_up_n _ _ _ (by decide)) _) (Eq.trans (k5 28 5 (by decide)) e_bt)), (Eq.trans (congrFun (x_up_n _ _ _ (by decide)) _) (Eq.trans (k5 28 6 (by decide)) e_ph)), (Eq.trans (congrFun (x_up_n _ _ _ (by decide)) _) (Eq.trans (k5 28 7 (by decide)) e_st))⟩, (x_up_s _ _ _ _), ⟨q, by omega, (Eq.trans (x_up_k _ _ _ (by decide)) (Eq.trans (k5 27 3 (by decide)) e_q))⟩, (Eq.trans (x_up_k _ _ _ (by decide)) (Eq.trans (k5 27 4 (by decide)) e_lo)), (Eq.trans (x_up_k _ _ _ (by decide)) (Eq.trans (k5 27 5 (by decide)) e_mt)), (Eq.trans (x_up_k _ _ _ (by decide)) (Eq.trans (k5 27 6 (by decide)) e_mf)), (Eq.trans (x_up_k _ _ _ (by decide)) (Eq.trans (k5 27 7 (by decide)) e_mg))⟩⟩)
    · refine xr_aload_n dX7_step_63 0 rfl ?_
      refine xr_getR flX7_15 dX7_step_64 s_27 rfl ?_
      refine xr_aload_n dX7_step_67 0 rfl ?_
      refine xb_get (v := mf) flX7_37 dX7_step_68 s_27 rfl e_mf ?_
      refine xr_aload_n dX7_step_71 0 rfl ?_
      refine xb_get (v := mg) flX7_40 dX7_step_72 s_27 rfl e_mg ?_
      refine xr_callV (As := [.int (mf), .int (mg)]) (rest := []) mlX7_54 (gw_X5_push_28 mf mg h_cn e_cn (LCt_k rfl (fun kl => rfl) (fun kl => rfl) hL) (hmg.resolve_left (fun z => m1_ne (k := k) (by omega) (c2.trans z))) (show AbC 30 cn _ (tkp (cn, t, rub, bt, ph, st) nw D) by rw [tkp_n c1]; exact hA) (WF_tkp (P := (cn, t, rub, bt, ph, st)) hW)) dX7_step_75 s_28 rfl rfl (Nat.le_of_ble_eq_true rfl) (by decide) ⟨by decide, by decide⟩ (fun v s2 M7 J2 hq => ?_)
      obtain ⟨rfl, rfl, rfl, k8, hx6⟩ := hq
      try dsimp only [Option.toList, List.cons_append, List.nil_append]
      refine xr_aload_n dX7_step_78 0 rfl ?_
      refine xr_getR flX7_15 dX7_step_79 s_27 rfl ?_
      refine xr_callV (As := []) (rest := []) mlX7_58 (gw_X5_settle_28 hrub h_cn (Eq.trans (k8 28 2 (by decide)) e_cn) (Eq.trans (k8 28 3 (by decide)) e_nw) (Eq.trans (k8 28 4 (by decide)) e_rub) (Eq.trans (k8 28 9 (by decide)) rfl) (show AbC 30 cn _ (tkm (cn, t, rub, bt, ph, st) mt mf mg k nw D) by unfold tkm; rw [if_pos c2]; exact hx6) (WF_tkm (P := (cn, t, rub, bt, ph, st)) hW)) dX7_step_82 s_28 rfl rfl (Nat.le_of_ble_eq_true rfl) (by decide) ⟨by decide, by decide⟩ (fun v s2 M10 J2 hq => ?_)
      obtain ⟨rfl, rfl, rfl, k11, hx9⟩ := hq
      try dsimp only [Option.toList, List.cons_append, List.nil_append]
      refine xr_aload_n dX7_step_85 0 rfl ?_
      refine xr_dup dX7_step_86 rfl ?_
      refine xb_get (v := nI (k)) flX7_24 dX7_step_87 s_27 rfl (Eq.trans (k11 27 2 (by decide)) (Eq.trans (k8 27 2 (by decide)) e_tk)) ?_
      refine xr_iconst (v := 1) dX7_step_90 rfl ?_
      refine xr_iadd dX7_step_91 ?_
      refine xb_top (y := nI (k + 1)) (nI_add (k) (1)) ?_
      refine xr_putI fpX7_24 dX7_step_92 s_27 rfl rfl rfl ?_
      exact xr_vret dX7_step_95 rfl (⟨rfl, rfl, rfl, (Ke.up (Or.inr (Or.inr (Or.inl (by omega)))) (Ke.tr (fun pp kk => (fun hh => Or.elim hh (fun h => (Or.inr (Or.inr (Or.inr (Or.inl (by omega)))))) (fun hh => Or.elim hh (fun h => (Or.inr (Or.inr (Or.inr (Or.inl (by omega)))))) (fun h => (Or.inr (Or.inr (Or.inr (Or.inr h)))))))) (Ke.tr (fun pp kk => (fun hh => Or.elim hh (fun h => (Or.inl h)) (fun hh => Or.elim hh (fun h => (Or.inr (Or.inl h))) (fun h => (Or.inr (Or.inr (Or.inr (Or.inr h)))))))) Ke.rf k8) k11)), ⟨⟨(Eq.trans (congrFun (x_up_n _ _ _ (by decide)) _) (Eq.trans (k11 28 2 (by decide)) (Eq.trans (k8 28 2 (by decide)) e_cn))), (AbC_n hx9.1 (Or.inl (by decide))), (WF_tiM (P := (cn, t, rub, bt, ph, st)) hW), (LCt_k (Eq.trans (congrFun (x_up_n _ _ _ (by omega)) _) (Eq.trans (k11 1 4 (by unfold W28s; omega)) (Eq.trans (k8 1 4 (by unfold W28p; omega)) rfl))) (fun kl => (Eq.trans (congrFun (x_up_n _ _ _ (by omega)) _) (Eq.trans (k11 2 kl (by unfold W28s; omega)) (Eq.trans (k8 2 kl (by unfold W28p; omega)) rfl)))) (fun kl => (Eq.trans (congrFun (x_up_n _ _ _ (by omega)) _) (Eq.trans (k11 3 kl (by unfold W28s; omega)) (Eq.trans (k8 3 kl (by unfold W28p; omega)) rfl)))) hL)⟩, ⟨(Eq.trans (congrFun (x_up_n _ _ _ (by decide)) _) hx9.2.1), (Eq.trans (congrFun (x_up_n _ _ _ (by decide)) _) (Eq.trans (k11 28 4 (by decide)) (Eq.trans (k8 28 4 (by decide)) e_rub))), (Eq.trans (congrFun (x_up_n _ _ _ (by decide)) _) (Eq.trans (k11 28 5 (by decide)) (Eq.trans (k8 28 5 (by decide)) e_bt))), (Eq.trans (congrFun (x_up_n _ _ _ (by decide)) _) (Eq.trans (k11 28 6 (by decide)) (Eq.trans (k8 28 6 (by decide)) e_ph))), (Eq.trans (congrFun (x_up_n _ _ _ (by decide)) _) (Eq.trans (k11 28 7 (by decide)) (Eq.trans (k8 28 7 (by decide)) e_st)))⟩, (x_up_s _ _ _ _), ⟨q, by omega, (Eq.trans (x_up_k _ _ _ (by decide)) (Eq.trans (k11 27 3 (by decide)) (Eq.trans (k8 27 3 (by decide)) e_q)))⟩, (Eq.trans (x_up_k _ _ _ (by decide)) (Eq.trans (k11 27 4 (by decide)) (Eq.trans (k8 27 4 (by decide)) e_lo))), (Eq.trans (x_up_k _ _ _ (by decide)) (Eq.trans (k11 27 5 (by decide)) (Eq.trans (k8 27 5 (by decide)) e_mt))), (Eq.trans (x_up_k _ _ _ (by decide)) (Eq.trans (k11 27 6 (by decide)) (Eq.trans (k8 27 6 (by decide)) e_mf))), (Eq.trans (x_up_k _ _ _ (by decide)) (Eq.trans (k11 27 7 (by decide)) (Eq.trans (k8 27 7 (by decide)) e_mg)))⟩⟩)
  · refine xr_aload_n dX7_step_10 0 rfl ?_
    refine xb_get (v := nI (q)) flX7_28 dX7_step_11 s_27 rfl e_q ?_
    refine xr_aload_n dX7_step_14 0 rfl ?_
    refine xb_get (v := (-1)) flX7_31 dX7_step_15 s_27 rfl e_lo ?_
    refine xr_icmp_eq (tgt := 42) dX7_step_18 rfl (fun c => absurd c (m1_ne (k := q) (by omega))) (fun _ => ?_)
    refine xr_aload_n dX7_step_21 0 rfl ?_
    refine xr_getR flX7_15 dX7_step_22 s_27 rfl ?_
    refine xr_aload_n dX7_step_25 0 rfl ?_
    refine xr_getR flX7_15 dX7_step_26 s_27 rfl ?_
    refine xb_get (v := st) flX7_47 dX7_step_29 s_28 rfl e_st ?_
    refine xr_aload_n dX7_step_32 0 rfl ?_
    refine xr_getR flX7_15 dX7_step_33 s_27 rfl ?_
    refine xb_cV (As := []) (rest := [.int (st), .ref (28)]) mlX7_50 (c_X5_goalInTurn_28 hbt e_nw e_bt) dX7_step_36 s_28 rfl rfl (Nat.le_of_ble_eq_true rfl) (by decide) (by decide) ?_
    refine xr_callV (As := [.int (st), .int ((w_go bt nw))]) (rest := []) mlX7_54 (gw_X5_push_28 st (w_go bt nw) h_cn e_cn (LCt_k rfl (fun kl => rfl) (fun kl => rfl) hL) (w_go_b _ _) hA hW) dX7_step_39 s_28 rfl rfl (Nat.le_of_ble_eq_true rfl) (by decide) ⟨by decide, by decide⟩ (fun v s2 M13 J2 hq => ?_)
    obtain ⟨rfl, rfl, rfl, k14, hx12⟩ := hq
    try dsimp only [Option.toList, List.cons_append, List.nil_append]
    refine xr_aload_n dX7_step_42 0 rfl ?_
    refine xr_dup dX7_step_43 rfl ?_
    refine xb_get (v := nI (q)) flX7_28 dX7_step_44 s_27 rfl (Eq.trans (k14 27 3 (by decide)) e_q) ?_
    refine xr_iconst (v := 1) dX7_step_47 rfl ?_
    refine xr_iadd dX7_step_48 ?_
    refine xb_top (y := nI (q + 1)) (nI_add (q) (1)) ?_
    refine xr_putI fpX7_28 dX7_step_49 s_27 rfl rfl rfl ?_
    refine xr_aload_n dX7_step_52 0 rfl ?_
    refine xb_get (v := nI (k)) flX7_24 dX7_step_53 s_27 rfl (Eq.trans (x_up_k _ _ _ (by decide)) (Eq.trans (k14 27 2 (by decide)) e_tk)) ?_
    refine xr_aload_n dX7_step_56 0 rfl ?_
    refine xb_get (v := mt) flX7_34 dX7_step_57 s_27 rfl (Eq.trans (x_up_k _ _ _ (by decide)) (Eq.trans (k14 27 5 (by decide)) e_mt)) ?_
    refine xr_icmp_ne (tgt := 78) dX7_step_60 rfl (fun c15 => ?_) (fun c15 => ?_)
    · refine xr_aload_n dX7_step_78 0 rfl ?_
      refine xr_getR flX7_15 dX7_step_79 s_27 rfl ?_
      refine xr_callV (As := []) (rest := []) mlX7_58 (gw_X5_settle_28 hrub h_cn (Eq.trans (congrFun (x_up_n _ _ _ (by decide)) _) (Eq.trans (k14 28 2 (by decide)) e_cn)) (Eq.trans (congrFun (x_up_n _ _ _ (by decide)) _) (Eq.trans (k14 28 3 (by decide)) e_nw)) (Eq.trans (congrFun (x_up_n _ _ _ (by decide)) _) (Eq.trans (k14 28 4 (by decide)) e_rub)) (Eq.trans (congrFun (x_up_n _ _ _ (by decide)) _) (Eq.trans (k14 28 9 (by decide)) rfl)) (show AbC 30 cn _ (tkm (cn, t, rub, bt, ph, st) mt mf mg k nw D) by unfold tkm; rw [if_neg c15]; exact (show AbC 30 cn _ (tkp (cn, t, rub, bt, ph, st) nw D) by rw [tkp_p c1]; exact AbC_n hx12 (Or.inl (by decide)))) (WF_tkm (P := (cn, t, rub, bt, ph, st)) hW)) dX7_step_82 s_28 rfl rfl (Nat.le_of_ble_eq_true rfl) (by decide) ⟨by decide, by decide⟩ (fun v s2 M17 J2 hq => ?_)
      obtain ⟨rfl, rfl, rfl, k18, hx16⟩ := hq
      try dsimp only [Option.toList, List.cons_append, List.nil_append]
      refine xr_aload_n dX7_step_85 0 rfl ?_
      refine xr_dup dX7_step_86 rfl ?_
      refine xb_get (v := nI (k)) flX7_24 dX7_step_87 s_27 rfl (Eq.trans (k18 27 2 (by decide)) (Eq.trans (x_up_k _ _ _ (by decide)) (Eq.trans (k14 27 2 (by decide)) e_tk))) ?_
      refine xr_iconst (v := 1) dX7_step_90 rfl ?_
      refine xr_iadd dX7_step_91 ?_
      refine xb_top (y := nI (k + 1)) (nI_add (k) (1)) ?_
      refine xr_putI fpX7_24 dX7_step_92 s_27 rfl rfl rfl ?_
      exact xr_vret dX7_step_95 rfl (⟨rfl, rfl, rfl, (Ke.up (Or.inr (Or.inr (Or.inl (by omega)))) (Ke.tr (fun pp kk => (fun hh => Or.elim hh (fun h => (Or.inr (Or.inr (Or.inr (Or.inl (by omega)))))) (fun hh => Or.elim hh (fun h => (Or.inr (Or.inr (Or.inr (Or.inl (by omega)))))) (fun h => (Or.inr (Or.inr (Or.inr (Or.inr h)))))))) (Ke.up (Or.inr (Or.inr (Or.inl (by omega)))) (Ke.tr (fun pp kk => (fun hh => Or.elim hh (fun h => (Or.inl h)) (fun hh => Or.elim hh (fun h => (Or.inr (Or.inl h))) (fun h => (Or.inr (Or.inr (Or.inr (Or.inr h)))))))) Ke.rf k14)) k18)), ⟨⟨(Eq.trans (congrFun (x_up_n _ _ _ (by decide)) _) (Eq.trans (k18 28 2 (by decide)) (Eq.trans (congrFun (x_up_n _ _ _ (by decide)) _) (Eq.trans (k14 28 2 (by decide)) e_cn)))), (AbC_n hx16.1 (Or.inl (by decide))), (WF_tiM (P := (cn, t, rub, bt, ph, st)) hW), (LCt_k (Eq.trans (congrFun (x_up_n _ _ _ (by omega)) _) (Eq.trans (k18 1 4 (by unfold W28s; omega)) (Eq.trans (congrFun (x_up_n _ _ _ (by omega)) _) (Eq.trans (k14 1 4 (by unfold W28p; omega)) rfl)))) (fun kl => (Eq.trans (congrFun (x_up_n _ _ _ (by omega)) _) (Eq.trans (k18 2 kl (by unfold W28s; omega)) (Eq.trans (congrFun (x_up_n _ _ _ (by omega)) _) (Eq.trans (k14 2 kl (by unfold W28p; omega)) rfl))))) (fun kl => (Eq.trans (congrFun (x_up_n _ _ _ (by omega)) _) (Eq.trans (k18 3 kl (by unfold W28s; omega)) (Eq.trans (congrFun (x_up_n _ _ _ (by omega)) _) (Eq.trans (k14 3 kl (by unfold W28p; omega)) rfl))))) hL)⟩, ⟨(Eq.trans (congrFun (x_up_n _ _ _ (by decide)) _) hx16.2.1), (Eq.trans (congrFun (x_up_n _ _ _ (by decide)) _) (Eq.trans (k18 28 4 (by decide)) (Eq.trans (congrFun (x_up_n _ _ _ (by decide)) _) (Eq.trans (k14 28 4 (by decide)) e_rub)))), (Eq.trans (congrFun (x_up_n _ _ _ (by decide)) _) (Eq.trans (k18 28 5 (by decide)) (Eq.trans (congrFun (x_up_n _ _ _ (by decide)) _) (Eq.trans (k14 28 5 (by decide)) e_bt)))), (Eq.trans (congrFun (x_up_n _ _ _ (by decide)) _) (Eq.trans (k18 28 6 (by decide)) (Eq.trans (congrFun (x_up_n _ _ _ (by decide)) _) (Eq.trans (k14 28 6 (by decide)) e_ph)))), (Eq.trans (congrFun (x_up_n _ _ _ (by decide)) _) (Eq.trans (k18 28 7 (by decide)) (Eq.trans (congrFun (x_up_n _ _ _ (by decide)) _) (Eq.trans (k14 28 7 (by decide)) e_st))))⟩, (x_up_s _ _ _ _), ⟨q + 1, by omega, (Eq.trans (x_up_k _ _ _ (by decide)) (Eq.trans (k18 27 3 (by decide)) (x_up_s _ _ _ _)))⟩, (Eq.trans (x_up_k _ _ _ (by decide)) (Eq.trans (k18 27 4 (by decide)) (Eq.trans (x_up_k _ _ _ (by decide)) (Eq.trans (k14 27 4 (by decide)) e_lo)))), (Eq.trans (x_up_k _ _ _ (by decide)) (Eq.trans (k18 27 5 (by decide)) (Eq.trans (x_up_k _ _ _ (by decide)) (Eq.trans (k14 27 5 (by decide)) e_mt)))), (Eq.trans (x_up_k _ _ _ (by decide)) (Eq.trans (k18 27 6 (by decide)) (Eq.trans (x_up_k _ _ _ (by decide)) (Eq.trans (k14 27 6 (by decide)) e_mf)))), (Eq.trans (x_up_k _ _ _ (by decide)) (Eq.trans (k18 27 7 (by decide)) (Eq.trans (x_up_k _ _ _ (by decide)) (Eq.trans (k14 27 7 (by decide)) e_mg))))⟩⟩)
    · refine xr_aload_n dX7_step_63 0 rfl ?_
      refine xr_getR flX7_15 dX7_step_64 s_27 rfl ?_
      refine xr_aload_n dX7_step_67 0 rfl ?_
      refine xb_get (v := mf) flX7_37 dX7_step_68 s_27 rfl (Eq.trans (x_up_k _ _ _ (by decide)) (Eq.trans (k14 27 6 (by decide)) e_mf)) ?_
      refine xr_aload_n dX7_step_71 0 rfl ?_
      refine xb_get (v := mg) flX7_40 dX7_step_72 s_27 rfl (Eq.trans (x_up_k _ _ _ (by decide)) (Eq.trans (k14 27 7 (by decide)) e_mg)) ?_
      refine xr_callV (As := [.int (mf), .int (mg)]) (rest := []) mlX7_54 (gw_X5_push_28 mf mg h_cn (Eq.trans (congrFun (x_up_n _ _ _ (by decide)) _) (Eq.trans (k14 28 2 (by decide)) e_cn)) (LCt_k (Eq.trans (congrFun (x_up_n _ _ _ (by omega)) _) (Eq.trans (k14 1 4 (by unfold W28p; omega)) rfl)) (fun kl => (Eq.trans (congrFun (x_up_n _ _ _ (by omega)) _) (Eq.trans (k14 2 kl (by unfold W28p; omega)) rfl))) (fun kl => (Eq.trans (congrFun (x_up_n _ _ _ (by omega)) _) (Eq.trans (k14 3 kl (by unfold W28p; omega)) rfl))) hL) (hmg.resolve_left (fun z => m1_ne (k := k) (by omega) (c15.trans z))) (show AbC 30 cn _ (tkp (cn, t, rub, bt, ph, st) nw D) by rw [tkp_p c1]; exact AbC_n hx12 (Or.inl (by decide))) (WF_tkp (P := (cn, t, rub, bt, ph, st)) hW)) dX7_step_75 s_28 rfl rfl (Nat.le_of_ble_eq_true rfl) (by decide) ⟨by decide, by decide⟩ (fun v s2 M20 J2 hq => ?_)
      obtain ⟨rfl, rfl, rfl, k21, hx19⟩ := hq
      try dsimp only [Option.toList, List.cons_append, List.nil_append]
      refine xr_aload_n dX7_step_78 0 rfl ?_
      refine xr_getR flX7_15 dX7_step_79 s_27 rfl ?_
      refine xr_callV (As := []) (rest := []) mlX7_58 (gw_X5_settle_28 hrub h_cn (Eq.trans (k21 28 2 (by decide)) (Eq.trans (congrFun (x_up_n _ _ _ (by decide)) _) (Eq.trans (k14 28 2 (by decide)) e_cn))) (Eq.trans (k21 28 3 (by decide)) (Eq.trans (congrFun (x_up_n _ _ _ (by decide)) _) (Eq.trans (k14 28 3 (by decide)) e_nw))) (Eq.trans (k21 28 4 (by decide)) (Eq.trans (congrFun (x_up_n _ _ _ (by decide)) _) (Eq.trans (k14 28 4 (by decide)) e_rub))) (Eq.trans (k21 28 9 (by decide)) (Eq.trans (congrFun (x_up_n _ _ _ (by decide)) _) (Eq.trans (k14 28 9 (by decide)) rfl))) (show AbC 30 cn _ (tkm (cn, t, rub, bt, ph, st) mt mf mg k nw D) by unfold tkm; rw [if_pos c15]; exact hx19) (WF_tkm (P := (cn, t, rub, bt, ph, st)) hW)) dX7_step_82 s_28 rfl rfl (Nat.le_of_ble_eq_true rfl) (by decide) ⟨by decide, by decide⟩ (fun v s2 M23 J2 hq => ?_)
      obtain ⟨rfl, rfl, rfl, k24, hx22⟩ := hq
      try dsimp only [Option.toList, List.cons_append, List.nil_append]
      refine xr_aload_n dX7_step_85 0 rfl ?_
      refine xr_dup dX7_step_86 rfl ?_
      refine xb_get (v := nI (k)) flX7_24 dX7_step_87 s_27 rfl (Eq.trans (k24 27 2 (by decide)) (Eq.trans (k21 27 2 (by decide)) (Eq.trans (x_up_k _ _ _ (by decide)) (Eq.trans (k14 27 2 (by decide)) e_tk)))) ?_
      refine xr_iconst (v := 1) dX7_step_90 rfl ?_
      refine xr_iadd dX7_step_91 ?_
      refine xb_top (y := nI (k + 1)) (nI_add (k) (1)) ?_
      refine xr_putI fpX7_24 dX7_step_92 s_27 rfl rfl rfl ?_
      exact xr_vret dX7_step_95 rfl (⟨rfl, rfl, rfl, (Ke.up (Or.inr (Or.inr (Or.inl (by omega)))) (Ke.tr (fun pp kk => (fun hh => Or.elim hh (fun h => (Or.inr (Or.inr (Or.inr (Or.inl (by omega)))))) (fun hh => Or.elim hh (fun h => (Or.inr (Or.inr (Or.inr (Or.inl (by omega)))))) (fun h => (Or.inr (Or.inr (Or.inr (Or.inr h)))))))) (Ke.tr (fun pp kk => (fun hh => Or.elim hh (fun h => (Or.inl h)) (fun hh => Or.elim hh (fun h => (Or.inr (Or.inl h))) (fun h => (Or.inr (Or.inr (Or.inr (Or.inr h)))))))) (Ke.up (Or.inr (Or.inr (Or.inl (by omega)))) (Ke.tr (fun pp kk => (fun hh => Or.elim hh (fun h => (Or.inl h)) (fun hh => Or.elim hh (fun h => (Or.inr (Or.inl h))) (fun h => (Or.inr (Or.inr (Or.inr (Or.inr h)))))))) Ke.rf k14)) k21) k24)), ⟨⟨(Eq.trans (congrFun (x_up_n _ _ _ (by decide)) _) (Eq.trans (k24 28 2 (by decide)) (Eq.trans (k21 28 2 (by decide)) (Eq.trans (congrFun (x_up_n _ _ _ (by decide)) _) (Eq.trans (k14 28 2 (by decide)) e_cn))))), (AbC_n hx22.1 (Or.inl (by decide))), (WF_tiM (P := (cn, t, rub, bt, ph, st)) hW), (LCt_k (Eq.trans (congrFun (x_up_n _ _ _ (by omega)) _) (Eq.trans (k24 1 4 (by unfold W28s; omega)) (Eq.trans (k21 1 4 (by unfold W28p; omega)) (Eq.trans (congrFun (x_up_n _ _ _ (by omega)) _) (Eq.trans (k14 1 4 (by unfold W28p; omega)) rfl))))) (fun kl => (Eq.trans (congrFun (x_up_n _ _ _ (by omega)) _) (Eq.trans (k24 2 kl (by unfold W28s; omega)) (Eq.trans (k21 2 kl (by unfold W28p; omega)) (Eq.trans (congrFun (x_up_n _ _ _ (by omega)) _) (Eq.trans (k14 2 kl (by unfold W28p; omega)) rfl)))))) (fun kl => (Eq.trans (congrFun (x_up_n _ _ _ (by omega)) _) (Eq.trans (k24 3 kl (by unfold W28s; omega)) (Eq.trans (k21 3 kl (by unfold W28p; omega)) (Eq.trans (congrFun (x_up_n _ _ _ (by omega)) _) (Eq.trans (k14 3 kl (by unfold W28p; omega)) rfl)))))) hL)⟩, ⟨(Eq.trans (congrFun (x_up_n _ _ _ (by decide)) _) hx22.2.1), (Eq.trans (congrFun (x_up_n _ _ _ (by decide)) _) (Eq.trans (k24 28 4 (by decide)) (Eq.trans (k21 28 4 (by decide)) (Eq.trans (congrFun (x_up_n _ _ _ (by decide)) _) (Eq.trans (k14 28 4 (by decide)) e_rub))))), (Eq.trans (congrFun (x_up_n _ _ _ (by decide)) _) (Eq.trans (k24 28 5 (by decide)) (Eq.trans (k21 28 5 (by decide)) (Eq.trans (congrFun (x_up_n _ _ _ (by decide)) _) (Eq.trans (k14 28 5 (by decide)) e_bt))))), (Eq.trans (congrFun (x_up_n _ _ _ (by decide)) _) (Eq.trans (k24 28 6 (by decide)) (Eq.trans (k21 28 6 (by decide)) (Eq.trans (congrFun (x_up_n _ _ _ (by decide)) _) (Eq.trans (k14 28 6 (by decide)) e_ph))))), (Eq.trans (congrFun (x_up_n _ _ _ (by decide)) _) (Eq.trans (k24 28 7 (by decide)) (Eq.trans (k21 28 7 (by decide)) (Eq.trans (congrFun (x_up_n _ _ _ (by decide)) _) (Eq.trans (k14 28 7 (by decide)) e_st)))))⟩, (x_up_s _ _ _ _), ⟨q + 1, by omega, (Eq.trans (x_up_k _ _ _ (by decide)) (Eq.trans (k24 27 3 (by decide)) (Eq.trans (k21 27 3 (by decide)) (x_up_s _ _ _ _))))⟩, (Eq.trans (x_up_k _ _ _ (by decide)) (Eq.trans (k24 27 4 (by decide)) (Eq.trans (k21 27 4 (by decide)) (Eq.trans (x_up_k _ _ _ (by decide)) (Eq.trans (k14 27 4 (by decide)) e_lo))))), (Eq.trans (x_up_k _ _ _ (by decide)) (Eq.trans (k24 27 5 (by decide)) (Eq.trans (k21 27 5 (by decide)) (Eq.trans (x_up_k _ _ _ (by decide)) (Eq.trans (k14 27 5 (by decide)) e_mt))))), (Eq.trans (x_up_k _ _ _ (by decide)) (Eq.trans (k24 27 6 (by decide)) (Eq.trans (k21 27 6 (by decide)) (Eq.trans (x_up_k _ _ _ (by decide)) (Eq.trans (k14 27 6 (by decide)) e_mf))))), (Eq.trans (x_up_k _ _ _ (by decide)) (Eq.trans (k24 27 7 (by decide)) (Eq.trans (k21 27 7 (by decide)) (Eq.trans (x_up_k _ _ _ (by decide)) (Eq.trans (k14 27 7 (by decide)) e_mg)))))⟩⟩)