set_option maxRecDepth 100000 in
set_option maxHeartbeats 4000000 in
theorem gs_X9_skill (g v : Int32) {l : Launch} {G : xG} {M : xM} {J : xJ} (hI : InvC M) : x_M l G fX9_skill 1 0 0 [.ref (0), .int (g), .int (v)] x_SH M J (qKI WSK M J (fun r M2 => InvC M2 ∧ (ESkill ((0 ≤ g ∧ g < 25) ∧ (0 ≤ v ∧ v ≤ 12)) (M 36) (M 37) (M2 36) (M2 37) g v r))) := by
  refine xb_of pX9 (Nat.le_of_ble_eq_true rfl) rfl ?_
  obtain ⟨⟨cn, h_cn, e_cn⟩, ⟨cm, h_cm, e_cm⟩, ⟨L, h_L, e_L⟩, hv, hD, ⟨n, h_n, e_n⟩, ⟨un, wn, h_uw, h_wn, e_un, e_wn⟩, ⟨b, h_b, e_b⟩, hkd, ⟨ra, h_ra, e_ra⟩, hsl, hS⟩ := hI
  refine xr_iload_n dX9_skill_0 1 rfl ?_
  refine xb_cS (As := [.int (g)]) (rest := []) mlX9_134 (c_X9_isGirl g) dX9_skill_1 rfl rfl (Nat.le_of_ble_eq_true rfl) (by decide) (by decide) ?_
  refine xb_beq (tgt := 14) dX9_skill_4 rfl (fun c1 => ?_) (fun c1 => ?_)
  · refine xr_iconst (v := -1) dX9_skill_14 rfl ?_
    exact xr_iret dX9_skill_15 rfl rfl (⟨_, rfl, rfl, rfl, Ke.rf, ⟨⟨⟨cn, by omega, e_cn⟩, ⟨cm, by omega, e_cm⟩, ⟨L, by omega, e_L⟩, (fun kk hkk => by rw [show M 3 kk = M 3 kk from rfl]; exact hv kk hkk), hD, ⟨n, by omega, e_n⟩, ⟨un, wn, by omega, by omega, e_un, e_wn⟩, ⟨b, by omega, e_b⟩, (fun j hj => by obtain ⟨q, hq, eq⟩ := hkd j hj; exact ⟨q, hq, (show M 47 j = M 47 j from rfl).trans eq⟩), ⟨ra, by omega, e_ra⟩, (fun j hj => by obtain ⟨s, hs, es⟩ := hsl j hj; exact ⟨s, hs, (show M (50 + 2 * j) 3 = M (50 + 2 * j) 3 from rfl).trans es⟩), (fun j hj => by obtain ⟨q, hq, eq⟩ := hS j hj; exact ⟨q, hq, (show M 36 j = M 36 j from rfl).trans eq⟩)⟩, (Or.inl ⟨(fun q => c1 q.1), rfl, rfl, rfl⟩)⟩⟩)
  · obtain ⟨g_, hg_, rfl⟩ := x_nat (N := 25) (by decide) rfl c1
    refine xr_iload_n dX9_skill_7 2 rfl ?_
    refine xb_cS (As := [.int (v)]) (rest := []) mlX9_255 (c_X9_isSkill v) dX9_skill_8 rfl rfl (Nat.le_of_ble_eq_true rfl) (by decide) (by decide) ?_
    refine xb_bne (tgt := 16) dX9_skill_11 rfl (fun c2 => ?_) (fun c2 => ?_)
    · obtain ⟨v_, hv_, rfl⟩ := x_natle (N := 12) (by decide) rfl c2
      replace hv_ := Nat.lt_succ_of_le hv_
      refine xr_aload_n dX9_skill_16 0 rfl ?_
      refine xr_getR flX9_47 dX9_skill_17 s_0 rfl ?_
      refine xr_getR flX9_137 dX9_skill_20 s_35 rfl ?_
      refine xr_iload_n dX9_skill_23 1 rfl ?_
      refine xb_iald (j := g_) (v := M 36 g_) dX9_skill_24 s_36 hg_ (by decide) rfl ?_
      refine xr_istore_n (ls2 := [(3, .int (M 36 g_)), (0, .ref (0)), (1, .int (nI (g_))), (2, .int (nI (v_)))]) dX9_skill_25 (by decide) rfl ?_
      refine xr_aload_n dX9_skill_26 1 rfl ?_
      refine xr_getR flX9_47 dX9_skill_27 s_0 rfl ?_
      refine xr_iload_n dX9_skill_30 2 rfl ?_
      refine xr_iload_n dX9_skill_31 3 rfl ?_
      refine xb_cV (As := [.int (nI (g_)), .int (nI (v_))]) (rest := []) mlX9_258 (c_X1_becomes (g := g_) hg_ (w := v_)) dX9_skill_32 s_35 rfl rfl (Nat.le_of_ble_eq_true rfl) (by decide) (by decide) ?_
      refine xr_iload_n dX9_skill_35 0 rfl ?_
      exact xr_iret dX9_skill_36 rfl rfl (⟨_, rfl, rfl, rfl, (Ke.up (by omega) (Ke.up (by omega) Ke.rf)), ⟨⟨⟨cn, by omega, (Eq.trans (congrFun (x_up_n _ _ _ (by decide)) _) (Eq.trans (congrFun (x_up_n _ _ _ (by decide)) _) e_cn))⟩, ⟨cm, by omega, (Eq.trans (congrFun (x_up_n _ _ _ (by decide)) _) (Eq.trans (congrFun (x_up_n _ _ _ (by decide)) _) e_cm))⟩, ⟨L, by omega, (Eq.trans (congrFun (x_up_n _ _ _ (by decide)) _) (Eq.trans (congrFun (x_up_n _ _ _ (by decide)) _) e_L))⟩, (fun kk hkk => by rw [show (x_up (x_up M 36 g_ (nI (v_))) 37 g_ 0) 3 kk = M 3 kk from (Eq.trans (congrFun (x_up_n _ _ _ (by omega)) _) (Eq.trans (congrFun (x_up_n _ _ _ (by omega)) _) rfl))]; exact hv kk hkk), (DI_up (by decide) (DI_up (by decide) hD)), ⟨n, by omega, (Eq.trans (congrFun (x_up_n _ _ _ (by decide)) _) (Eq.trans (congrFun (x_up_n _ _ _ (by decide)) _) e_n))⟩, ⟨un, wn, by omega, by omega, (Eq.trans (congrFun (x_up_n _ _ _ (by decide)) _) (Eq.trans (congrFun (x_up_n _ _ _ (by decide)) _) e_un)), (Eq.trans (congrFun (x_up_n _ _ _ (by decide)) _) (Eq.trans (congrFun (x_up_n _ _ _ (by decide)) _) e_wn))⟩, ⟨b, by omega, (Eq.trans (congrFun (x_up_n _ _ _ (by decide)) _) (Eq.trans (congrFun (x_up_n _ _ _ (by decide)) _) e_b))⟩, (fun j hj => by obtain ⟨q, hq, eq⟩ := hkd j hj; exact ⟨q, hq, (show (x_up (x_up M 36 g_ (nI (v_))) 37 g_ 0) 47 j = M 47 j from (Eq.trans (congrFun (x_up_n _ _ _ (by omega)) _) (Eq.trans (congrFun (x_up_n _ _ _ (by omega)) _) rfl))).trans eq⟩), ⟨ra, by omega, (Eq.trans (congrFun (x_up_n _ _ _ (by decide)) _) (Eq.trans (congrFun (x_up_n _ _ _ (by decide)) _) e_ra))⟩, (fun j hj => by obtain ⟨s, hs, es⟩ := hsl j hj; exact ⟨s, hs, (show (x_up (x_up M 36 g_ (nI (v_))) 37 g_ 0) (50 + 2 * j) 3 = M (50 + 2 * j) 3 from (Eq.trans (congrFun (x_up_n _ _ _ (by omega)) _) (Eq.trans (congrFun (x_up_n _ _ _ (by omega)) _) rfl))).trans es⟩), (SK_n (by decide) (SK_w (by omega) hS))⟩, (Or.inr ⟨⟨c1, c2⟩, g_, v_, hg_, by omega, rfl, rfl, rfl, (Eq.trans (congrFun (x_up_n _ _ _ (by decide)) _) (x_up_s _ _ _ _)), (x_up_s _ _ _ _), fun i hi => ⟨(Eq.trans (congrFun (x_up_n _ _ _ (by decide)) _) (Eq.trans (x_up_k _ _ _ (by omega)) rfl)), (Eq.trans (x_up_k _ _ _ (by omega)) (Eq.trans (congrFun (x_up_n _ _ _ (by decide)) _) rfl))⟩⟩)⟩⟩)
    · refine xr_iconst (v := -1) dX9_skill_14 rfl ?_
      exact xr_iret dX9_skill_15 rfl rfl (⟨_, rfl, rfl, rfl, Ke.rf, ⟨⟨⟨cn, by omega, e_cn⟩, ⟨cm, by omega, e_cm⟩, ⟨L, by omega, e_L⟩, (fun kk hkk => by rw [show M 3 kk = M 3 kk from rfl]; exact hv kk hkk), hD, ⟨n, by omega, e_n⟩, ⟨un, wn, by omega, by omega, e_un, e_wn⟩, ⟨b, by omega, e_b⟩, (fun j hj => by obtain ⟨q, hq, eq⟩ := hkd j hj; exact ⟨q, hq, (show M 47 j = M 47 j from rfl).trans eq⟩), ⟨ra, by omega, e_ra⟩, (fun j hj => by obtain ⟨s, hs, es⟩ := hsl j hj; exact ⟨s, hs, (show M (50 + 2 * j) 3 = M (50 + 2 * j) 3 from rfl).trans es⟩), (fun j hj => by obtain ⟨q, hq, eq⟩ := hS j hj; exact ⟨q, hq, (show M 36 j = M 36 j from rfl).trans eq⟩)⟩, (Or.inl ⟨(fun q => c2 q.2), rfl, rfl, rfl⟩)⟩⟩)
set_option maxRecDepth 100000 in
set_option maxHeartbeats 4000000 in
theorem gs_X10_skill (g v : Int32) {l : Launch} {G : xG} {M : xM} {J : xJ} (hI : InvR M) : x_M l G fX10_skill 2 0 0 [.ref (62), .int (g), .int (v)] x_SH M J (qKI WRK M J (fun r M2 => InvR M2 ∧ (ESkill ((0 ≤ g ∧ g ≤ 24) ∧ (0 ≤ v ∧ v ≤ 12)) (M 75) (M 76) (M2 75) (M2 76) g v r))) := by
  refine xb_of pX10 (Nat.le_of_ble_eq_true rfl) rfl ?_
  obtain ⟨⟨hn, h_hn, e_hn, hw⟩, hbt, ⟨un, wn, h_uw, h_wn, e_un, e_wn⟩, hch, ⟨n, h_n, e_n⟩, htx, ⟨b, h_b, e_b⟩, hkd, ⟨ra, h_ra, e_ra⟩, hsl, ⟨ic, h_ic, e_ic⟩, hS⟩ := hI
  refine xr_iload_n dX10_skill_0 1 rfl ?_
  refine xb_cS (As := [.int (g)]) (rest := []) mlX10_293 (c_X10_isGirl g) dX10_skill_1 rfl rfl (Nat.le_of_ble_eq_true rfl) (by decide) (by decide) ?_
  refine xb_beq (tgt := 19) dX10_skill_4 rfl (fun c1 => ?_) (fun c1 => ?_)
  · refine xr_iconst (v := -1) dX10_skill_19 rfl ?_
    exact xr_iret dX10_skill_20 rfl rfl (⟨_, rfl, rfl, rfl, Ke.rf, ⟨⟨⟨hn, by omega, e_hn, (fun kw hkw => by rw [show M 63 (5 + kw) = M 63 (5 + kw) from rfl]; exact hw kw hkw)⟩, (by rw [show M 63 16 = M 63 16 from rfl]; exact hbt), ⟨un, wn, by omega, by omega, e_un, e_wn⟩, (fun kk hkk => by rw [show M 64 kk = M 64 kk from rfl, show M 65 kk = M 65 kk from rfl, show M 66 kk = M 66 kk from rfl]; exact hch kk hkk), ⟨n, by omega, e_n⟩, (by rw [show M 62 13 = M 62 13 from rfl]; exact htx), ⟨b, by omega, e_b⟩, (fun j hj => by obtain ⟨q, hq, eq⟩ := hkd j hj; exact ⟨q, hq, (show M 81 j = M 81 j from rfl).trans eq⟩), ⟨ra, by omega, e_ra⟩, (fun j hj => by rw [show M 83 j = M 83 j from rfl, show M 84 j = M 84 j from rfl]; exact hsl j hj), ⟨ic, by omega, e_ic⟩, (fun j hj => by obtain ⟨q, hq, eq⟩ := hS j hj; exact ⟨q, hq, (show M 75 j = M 75 j from rfl).trans eq⟩)⟩, (Or.inl ⟨(fun q => c1 q.1), rfl, rfl, rfl⟩)⟩⟩)
  · obtain ⟨g_, hg_, rfl⟩ := x_natle (N := 24) (by decide) rfl c1
    replace hg_ := Nat.lt_succ_of_le hg_
    refine xr_iload_n dX10_skill_7 2 rfl ?_
    refine xr_i2l dX10_skill_8 ?_
    refine xr_lconst (v := 0) dX10_skill_9 rfl ?_
    refine xr_ldc2 coX10_296 dX10_skill_10 ?_
    refine xb_cS (As := [.long ((v).toInt64), .long (0), .long (12)]) (rest := []) mlX10_101 (c_within32 (v) (0) (12) (by decide) (by decide)) dX10_skill_13 rfl rfl (Nat.le_of_ble_eq_true rfl) (by decide) (by decide) ?_
    refine xb_bne (tgt := 21) dX10_skill_16 rfl (fun c2 => ?_) (fun c2 => ?_)
    · obtain ⟨v_, hv_, rfl⟩ := x_natle (N := 12) (by decide) rfl c2
      replace hv_ := Nat.lt_succ_of_le hv_
      refine xr_aload_n dX10_skill_21 0 rfl ?_
      refine xr_getR flX10_50 dX10_skill_22 s_62 rfl ?_
      refine xr_iload_n dX10_skill_25 1 rfl ?_
      refine xb_iald (j := g_) (v := M 75 g_) dX10_skill_26 s_75 hg_ (by decide) rfl ?_
      refine xr_istore_n (ls2 := [(3, .int (M 75 g_)), (0, .ref (62)), (1, .int (nI (g_))), (2, .int (nI (v_)))]) dX10_skill_27 (by decide) rfl ?_
      refine xr_aload_n dX10_skill_28 1 rfl ?_
      refine xr_getR flX10_50 dX10_skill_29 s_62 rfl ?_
      refine xr_iload_n dX10_skill_32 2 rfl ?_
      refine xr_iload_n dX10_skill_33 3 rfl ?_
      refine xb_iast (j := g_) dX10_skill_34 s_75 hg_ (by decide) ?_
      refine xr_aload_n dX10_skill_35 1 rfl ?_
      refine xr_getR flX10_53 dX10_skill_36 s_62 rfl ?_
      refine xr_iload_n dX10_skill_39 2 rfl ?_
      refine xr_iconst (v := 0) dX10_skill_40 rfl ?_
      refine xb_iast (j := g_) dX10_skill_41 s_76 hg_ (by decide) ?_
      refine xr_iload_n dX10_skill_42 0 rfl ?_
      exact xr_iret dX10_skill_43 rfl rfl (⟨_, rfl, rfl, rfl, (Ke.up (by omega) (Ke.up (by omega) Ke.rf)), ⟨⟨⟨hn, by omega, (Eq.trans (congrFun (x_up_n _ _ _ (by decide)) _) (Eq.trans (congrFun (x_up_n _ _ _ (by decide)) _) e_hn)), (fun kw hkw => by rw [show (x_up (x_up M 75 g_ (nI (v_))) 76 g_ 0) 63 (5 + kw) = M 63 (5 + kw) from (Eq.trans (congrFun (x_up_n _ _ _ (by omega)) _) (Eq.trans (congrFun (x_up_n _ _ _ (by omega)) _) rfl))]; exact hw kw hkw)⟩, (by rw [show (x_up (x_up M 75 g_ (nI (v_))) 76 g_ 0) 63 16 = M 63 16 from (Eq.trans (congrFun (x_up_n _ _ _ (by omega)) _) (Eq.trans (congrFun (x_up_n _ _ _ (by omega)) _) rfl))]; exact hbt), ⟨un, wn, by omega, by omega, (Eq.trans (congrFun (x_up_n _ _ _ (by decide)) _) (Eq.trans (congrFun (x_up_n _ _ _ (by decide)) _) e_un)), (Eq.trans (congrFun (x_up_n _ _ _ (by decide)) _) (Eq.trans (congrFun (x_up_n _ _ _ (by decide)) _) e_wn))⟩, (fun kk hkk => by rw [show (x_up (x_up M 75 g_ (nI (v_))) 76 g_ 0) 64 kk = M 64 kk from (Eq.trans (congrFun (x_up_n _ _ _ (by omega)) _) (Eq.trans (congrFun (x_up_n _ _ _ (by omega)) _) rfl)), show (x_up (x_up M 75 g_ (nI (v_))) 76 g_ 0) 65 kk = M 65 kk from (Eq.trans (congrFun (x_up_n _ _ _ (by omega)) _) (Eq.trans (congrFun (x_up_n _ _ _ (by omega)) _) rfl)), show (x_up (x_up M 75 g_ (nI (v_))) 76 g_ 0) 66 kk = M 66 kk from (Eq.trans (congrFun (x_up_n _ _ _ (by omega)) _) (Eq.trans (congrFun (x_up_n _ _ _ (by omega)) _) rfl))]; exact hch kk hkk), ⟨n, by omega, (Eq.trans (congrFun (x_up_n _ _ _ (by decide)) _) (Eq.trans (congrFun (x_up_n _ _ _ (by decide)) _) e_n))⟩, (by rw [show (x_up (x_up M 75 g_ (nI (v_))) 76 g_ 0) 62 13 = M 62 13 from (Eq.trans (congrFun (x_up_n _ _ _ (by omega)) _) (Eq.trans (congrFun (x_up_n _ _ _ (by omega)) _) rfl))]; exact htx), ⟨b, by omega, (Eq.trans (congrFun (x_up_n _ _ _ (by decide)) _) (Eq.trans (congrFun (x_up_n _ _ _ (by decide)) _) e_b))⟩, (fun j hj => by obtain ⟨q, hq, eq⟩ := hkd j hj; exact ⟨q, hq, (show (x_up (x_up M 75 g_ (nI (v_))) 76 g_ 0) 81 j = M 81 j from (Eq.trans (congrFun (x_up_n _ _ _ (by omega)) _) (Eq.trans (congrFun (x_up_n _ _ _ (by omega)) _) rfl))).trans eq⟩), ⟨ra, by omega, (Eq.trans (congrFun (x_up_n _ _ _ (by decide)) _) (Eq.trans (congrFun (x_up_n _ _ _ (by decide)) _) e_ra))⟩, (fun j hj => by rw [show (x_up (x_up M 75 g_ (nI (v_))) 76 g_ 0) 83 j = M 83 j from (Eq.trans (congrFun (x_up_n _ _ _ (by omega)) _) (Eq.trans (congrFun (x_up_n _ _ _ (by omega)) _) rfl)), show (x_up (x_up M 75 g_ (nI (v_))) 76 g_ 0) 84 j = M 84 j from (Eq.trans (congrFun (x_up_n _ _ _ (by omega)) _) (Eq.trans (congrFun (x_up_n _ _ _ (by omega)) _) rfl))]; exact hsl j hj), ⟨ic, by omega, (Eq.trans (congrFun (x_up_n _ _ _ (by decide)) _) (Eq.trans (congrFun (x_up_n _ _ _ (by decide)) _) e_ic))⟩, (SKR_n (by decide) (SKR_w (by omega) hS))⟩, (Or.inr ⟨⟨c1, c2⟩, g_, v_, hg_, by omega, rfl, rfl, rfl, (Eq.trans (congrFun (x_up_n _ _ _ (by decide)) _) (x_up_s _ _ _ _)), (x_up_s _ _ _ _), fun i hi => ⟨(Eq.trans (congrFun (x_up_n _ _ _ (by decide)) _) (Eq.trans (x_up_k _ _ _ (by omega)) rfl)), (Eq.trans (x_up_k _ _ _ (by omega)) (Eq.trans (congrFun (x_up_n _ _ _ (by decide)) _) rfl))⟩⟩)⟩⟩)
    · refine xr_iconst (v := -1) dX10_skill_19 rfl ?_
      exact xr_iret dX10_skill_20 rfl rfl (⟨_, rfl, rfl, rfl, Ke.rf, ⟨⟨⟨hn, by omega, e_hn, (fun kw hkw => by rw [show M 63 (5 + kw) = M 63 (5 + kw) from rfl]; exact hw kw hkw)⟩, (by rw [show M 63 16 = M 63 16 from rfl]; exact hbt), ⟨un, wn, by omega, by omega, e_un, e_wn⟩, (fun kk hkk => by rw [show M 64 kk = M 64 kk from rfl, show M 65 kk = M 65 kk from rfl, show M 66 kk = M 66 kk from rfl]; exact hch kk hkk), ⟨n, by omega, e_n⟩, (by rw [show M 62 13 = M 62 13 from rfl]; exact htx), ⟨b, by omega, e_b⟩, (fun j hj => by obtain ⟨q, hq, eq⟩ := hkd j hj; exact ⟨q, hq, (show M 81 j = M 81 j from rfl).trans eq⟩), ⟨ra, by omega, e_ra⟩, (fun j hj => by rw [show M 83 j = M 83 j from rfl, show M 84 j = M 84 j from rfl]; exact hsl j hj), ⟨ic, by omega, e_ic⟩, (fun j hj => by obtain ⟨q, hq, eq⟩ := hS j hj; exact ⟨q, hq, (show M 75 j = M 75 j from rfl).trans eq⟩)⟩, (Or.inl ⟨(fun q => c2 q.2), rfl, rfl, rfl⟩)⟩⟩)
set_option maxRecDepth 100000 in
set_option maxHeartbeats 4000000 in
theorem gs_X9_learn (g nn : Int32) {l : Launch} {G : xG} {M : xM} {J : xJ} (hI : InvC M) (hLM : LM (M 36) (M 37)) : x_M l G fX9_learn 3 0 0 [.ref (0), .int (g), .int (nn)] x_SH M J (qKI WSK M J (fun r M2 => InvC M2 ∧ (ELearn ((0 ≤ g ∧ g < 25) ∧ (1 ≤ nn ∧ nn ≤ 99)) (M 36) (M 37) (M2 36) (M2 37) g nn r))) := by
  refine xb_of pX9 (Nat.le_of_ble_eq_true rfl) rfl ?_
  obtain ⟨⟨cn, h_cn, e_cn⟩, ⟨cm, h_cm, e_cm⟩, ⟨L, h_L, e_L⟩, hv, hD, ⟨n, h_n, e_n⟩, ⟨un, wn, h_uw, h_wn, e_un, e_wn⟩, ⟨b, h_b, e_b⟩, hkd, ⟨ra, h_ra, e_ra⟩, hsl, hS⟩ := hI
  refine xr_iload_n dX9_learn_0 1 rfl ?_
  refine xb_cS (As := [.int (g)]) (rest := []) mlX9_134 (c_X9_isGirl g) dX9_learn_1 rfl rfl (Nat.le_of_ble_eq_true rfl) (by decide) (by decide) ?_
  refine xb_beq (tgt := 18) dX9_learn_4 rfl (fun c1 => ?_) (fun c1 => ?_)
  · refine xr_iconst (v := -1) dX9_learn_18 rfl ?_
    exact xr_iret dX9_learn_19 rfl rfl (⟨_, rfl, rfl, rfl, Ke.rf, ⟨⟨⟨cn, by omega, e_cn⟩, ⟨cm, by omega, e_cm⟩, ⟨L, by omega, e_L⟩, (fun kk hkk => by rw [show M 3 kk = M 3 kk from rfl]; exact hv kk hkk), hD, ⟨n, by omega, e_n⟩, ⟨un, wn, by omega, by omega, e_un, e_wn⟩, ⟨b, by omega, e_b⟩, (fun j hj => by obtain ⟨q, hq, eq⟩ := hkd j hj; exact ⟨q, hq, (show M 47 j = M 47 j from rfl).trans eq⟩), ⟨ra, by omega, e_ra⟩, (fun j hj => by obtain ⟨s, hs, es⟩ := hsl j hj; exact ⟨s, hs, (show M (50 + 2 * j) 3 = M (50 + 2 * j) 3 from rfl).trans es⟩), (fun j hj => by obtain ⟨q, hq, eq⟩ := hS j hj; exact ⟨q, hq, (show M 36 j = M 36 j from rfl).trans eq⟩)⟩, (Or.inl ⟨(fun q => c1 q.1), rfl, rfl, rfl⟩)⟩⟩)
  · obtain ⟨g_, hg_, rfl⟩ := x_nat (N := 25) (by decide) rfl c1
    refine xr_iload_n dX9_learn_7 2 rfl ?_
    refine xr_iconst (v := 1) dX9_learn_8 rfl ?_
    refine xr_icmp_lt (tgt := 18) dX9_learn_9 rfl (fun c2 => ?_) (fun c2 => ?_)
    · refine xr_iconst (v := -1) dX9_learn_18 rfl ?_
      exact xr_iret dX9_learn_19 rfl rfl (⟨_, rfl, rfl, rfl, Ke.rf, ⟨⟨⟨cn, by omega, e_cn⟩, ⟨cm, by omega, e_cm⟩, ⟨L, by omega, e_L⟩, (fun kk hkk => by rw [show M 3 kk = M 3 kk from rfl]; exact hv kk hkk), hD, ⟨n, by omega, e_n⟩, ⟨un, wn, by omega, by omega, e_un, e_wn⟩, ⟨b, by omega, e_b⟩, (fun j hj => by obtain ⟨q, hq, eq⟩ := hkd j hj; exact ⟨q, hq, (show M 47 j = M 47 j from rfl).trans eq⟩), ⟨ra, by omega, e_ra⟩, (fun j hj => by obtain ⟨s, hs, es⟩ := hsl j hj; exact ⟨s, hs, (show M (50 + 2 * j) 3 = M (50 + 2 * j) 3 from rfl).trans es⟩), (fun j hj => by obtain ⟨q, hq, eq⟩ := hS j hj; exact ⟨q, hq, (show M 36 j = M 36 j from rfl).trans eq⟩)⟩, (Or.inl ⟨(fun q => absurd q.2.1 (by grind)), rfl, rfl, rfl⟩)⟩⟩)
    · refine xr_iload_n dX9_learn_12 2 rfl ?_
      refine xr_bipush (v := 99) dX9_learn_13 rfl ?_
      refine xr_icmp_le (tgt := 20) dX9_learn_15 rfl (fun c3 => ?_) (fun c3 => ?_)
      · refine xr_iconst (v := 0) dX9_learn_20 rfl ?_
        refine xr_istore_n (ls2 := [(3, .int (0)), (0, .ref (0)), (1, .int (nI (g_))), (2, .int (nn))]) dX9_learn_21 (by decide) rfl ?_
        obtain ⟨N, hN, rfl⟩ := x_natle (v := nn) (N := 99) (K := 99) (by decide) (by decide) ⟨by grind, by grind⟩
        obtain ⟨q, mi, hq, hm, e_q, e_m⟩ := hLM g_ hg_
        refine xb_ls (ls2 := [(3, .int (nI (0))), (2, .int (nI (N))), (1, .int (nI (g_))), (0, .ref (0))]) [0, 3, 2, 1] rfl ?_
        refine lex_l hg_ hN hq hm (fun M4 k5 hLI => ?_) N 0 M (by omega) Ke.rf (LI_0 e_q e_m)
        refine xr_aload_n dX9_learn_41 1 rfl ?_
        refine xr_getR flX9_47 dX9_learn_42 s_0 rfl ?_
        refine xr_getR flX9_137 dX9_learn_45 s_35 rfl ?_
        refine xr_iload_n dX9_learn_48 0 rfl ?_
        refine xb_iald (j := g_) (v := (nI (LrN N q mi).1)) dX9_learn_49 s_36 hg_ (by decide) hLI.1 ?_
        exact xr_iret dX9_learn_50 rfl rfl (⟨_, rfl, rfl, rfl, (Ke.tr (fun _ _ h => h) Ke.rf k5), ⟨⟨⟨cn, by omega, (Eq.trans (k5 13 2 (by decide)) e_cn)⟩, ⟨cm, by omega, (Eq.trans (k5 20 2 (by decide)) e_cm)⟩, ⟨L, by omega, (Eq.trans (k5 1 4 (by decide)) e_L)⟩, (fun kk hkk => by rw [show M4 3 kk = M 3 kk from (Eq.trans (k5 3 kk (by unfold WSK; omega)) rfl)]; exact hv kk hkk), (DI_ke (by intro k; unfold WSK; omega) k5 hD), ⟨n, by omega, (Eq.trans (k5 6 2 (by decide)) e_n)⟩, ⟨un, wn, by omega, by omega, (Eq.trans (k5 41 4 (by decide)) e_un), (Eq.trans (k5 41 5 (by decide)) e_wn)⟩, ⟨b, by omega, (Eq.trans (k5 46 2 (by decide)) e_b)⟩, (fun j hj => by obtain ⟨q, hq, eq⟩ := hkd j hj; exact ⟨q, hq, (show M4 47 j = M 47 j from (Eq.trans (k5 47 j (by unfold WSK; omega)) rfl)).trans eq⟩), ⟨ra, by omega, (Eq.trans (k5 46 3 (by decide)) e_ra)⟩, (fun j hj => by obtain ⟨s, hs, es⟩ := hsl j hj; exact ⟨s, hs, (show M4 (50 + 2 * j) 3 = M (50 + 2 * j) 3 from (Eq.trans (k5 (50 + 2 * j) 3 (by unfold WSK; omega)) rfl)).trans es⟩), (LI_SK hg_ (LrN_b hq hm N).1 hLI hS)⟩, (Or.inr ⟨⟨c1, by grind, by grind⟩, g_, N, q, mi, hg_, hq, hm, hN, rfl, rfl, e_q, e_m, rfl, hLI.1, hLI.2.1, hLI.2.2⟩)⟩⟩)
      · refine xr_iconst (v := -1) dX9_learn_18 rfl ?_
        exact xr_iret dX9_learn_19 rfl rfl (⟨_, rfl, rfl, rfl, Ke.rf, ⟨⟨⟨cn, by omega, e_cn⟩, ⟨cm, by omega, e_cm⟩, ⟨L, by omega, e_L⟩, (fun kk hkk => by rw [show M 3 kk = M 3 kk from rfl]; exact hv kk hkk), hD, ⟨n, by omega, e_n⟩, ⟨un, wn, by omega, by omega, e_un, e_wn⟩, ⟨b, by omega, e_b⟩, (fun j hj => by obtain ⟨q, hq, eq⟩ := hkd j hj; exact ⟨q, hq, (show M 47 j = M 47 j from rfl).trans eq⟩), ⟨ra, by omega, e_ra⟩, (fun j hj => by obtain ⟨s, hs, es⟩ := hsl j hj; exact ⟨s, hs, (show M (50 + 2 * j) 3 = M (50 + 2 * j) 3 from rfl).trans es⟩), (fun j hj => by obtain ⟨q, hq, eq⟩ := hS j hj; exact ⟨q, hq, (show M 36 j = M 36 j from rfl).trans eq⟩)⟩, (Or.inl ⟨(fun q => absurd q.2.2 (by grind)), rfl, rfl, rfl⟩)⟩⟩)
set_option maxRecDepth 100000 in
set_option maxHeartbeats 4000000 in
theorem gs_X10_learn (g nn : Int32) {l : Launch} {G : xG} {M : xM} {J : xJ} (hI : InvR M) (hLM : LM (M 75) (M 76)) : x_M l G fX10_learn 2 0 0 [.ref (62), .int (g), .int (nn)] x_SH M J (qKI WRK M J (fun r M2 => InvR M2 ∧ (ELearn ((0 ≤ g ∧ g ≤ 24) ∧ (1 ≤ nn ∧ nn ≤ 99)) (M 75) (M 76) (M2 75) (M2 76) g nn r))) := by
  refine xb_of pX10 (Nat.le_of_ble_eq_true rfl) rfl ?_
  obtain ⟨⟨hn, h_hn, e_hn, hw⟩, hbt, ⟨un, wn, h_uw, h_wn, e_un, e_wn⟩, hch, ⟨n, h_n, e_n⟩, htx, ⟨b, h_b, e_b⟩, hkd, ⟨ra, h_ra, e_ra⟩, hsl, ⟨ic, h_ic, e_ic⟩, hS⟩ := hI
  refine xr_iload_n dX10_learn_0 1 rfl ?_
  refine xb_cS (As := [.int (g)]) (rest := []) mlX10_293 (c_X10_isGirl g) dX10_learn_1 rfl rfl (Nat.le_of_ble_eq_true rfl) (by decide) (by decide) ?_
  refine xb_beq (tgt := 19) dX10_learn_4 rfl (fun c1 => ?_) (fun c1 => ?_)
  · refine xr_iconst (v := -1) dX10_learn_19 rfl ?_
    exact xr_iret dX10_learn_20 rfl rfl (⟨_, rfl, rfl, rfl, Ke.rf, ⟨⟨⟨hn, by omega, e_hn, (fun kw hkw => by rw [show M 63 (5 + kw) = M 63 (5 + kw) from rfl]; exact hw kw hkw)⟩, (by rw [show M 63 16 = M 63 16 from rfl]; exact hbt), ⟨un, wn, by omega, by omega, e_un, e_wn⟩, (fun kk hkk => by rw [show M 64 kk = M 64 kk from rfl, show M 65 kk = M 65 kk from rfl, show M 66 kk = M 66 kk from rfl]; exact hch kk hkk), ⟨n, by omega, e_n⟩, (by rw [show M 62 13 = M 62 13 from rfl]; exact htx), ⟨b, by omega, e_b⟩, (fun j hj => by obtain ⟨q, hq, eq⟩ := hkd j hj; exact ⟨q, hq, (show M 81 j = M 81 j from rfl).trans eq⟩), ⟨ra, by omega, e_ra⟩, (fun j hj => by rw [show M 83 j = M 83 j from rfl, show M 84 j = M 84 j from rfl]; exact hsl j hj), ⟨ic, by omega, e_ic⟩, (fun j hj => by obtain ⟨q, hq, eq⟩ := hS j hj; exact ⟨q, hq, (show M 75 j = M 75 j from rfl).trans eq⟩)⟩, (Or.inl ⟨(fun q => c1 q.1), rfl, rfl, rfl⟩)⟩⟩)
  · obtain ⟨g_, hg_, rfl⟩ := x_natle (N := 24) (by decide) rfl c1
    replace hg_ := Nat.lt_succ_of_le hg_
    refine xr_iload_n dX10_learn_7 2 rfl ?_
    refine xr_i2l dX10_learn_8 ?_
    refine xr_lconst (v := 1) dX10_learn_9 rfl ?_
    refine xr_ldc2 coX10_322 dX10_learn_10 ?_
    refine xb_cS (As := [.long ((nn).toInt64), .long (1), .long (99)]) (rest := []) mlX10_101 (c_within32 (nn) (1) (99) (by decide) (by decide)) dX10_learn_13 rfl rfl (Nat.le_of_ble_eq_true rfl) (by decide) (by decide) ?_
    refine xb_bne (tgt := 21) dX10_learn_16 rfl (fun c2 => ?_) (fun c2 => ?_)
    · refine xr_iconst (v := 0) dX10_learn_21 rfl ?_
      refine xr_istore_n (ls2 := [(3, .int (0)), (0, .ref (62)), (1, .int (nI (g_))), (2, .int (nn))]) dX10_learn_22 (by decide) rfl ?_
      obtain ⟨N, hN, rfl⟩ := x_natle (v := nn) (N := 99) (K := 99) (by decide) (by decide) ⟨by grind, c2.2⟩
      obtain ⟨q, mi, hq, hm, e_q, e_m⟩ := hLM g_ hg_
      refine xb_ls (ls2 := [(3, .int (nI (0))), (2, .int (nI (N))), (1, .int (nI (g_))), (0, .ref (62))]) [0, 3, 2, 1] rfl ?_
      refine rlex_l hg_ hN hq hm (fun M3 k4 hLI => ?_) N 0 M (by omega) Ke.rf (LI_0 e_q e_m)
      refine xr_aload_n dX10_learn_90 1 rfl ?_
      refine xr_getR flX10_50 dX10_learn_91 s_62 rfl ?_
      refine xr_iload_n dX10_learn_94 0 rfl ?_
      refine xb_iald (j := g_) (v := (nI (LrN N q mi).1)) dX10_learn_95 s_75 hg_ (by decide) hLI.1 ?_
      exact xr_iret dX10_learn_96 rfl rfl (⟨_, rfl, rfl, rfl, (Ke.tr (fun _ _ h => h) Ke.rf k4), ⟨⟨⟨hn, by omega, (Eq.trans (k4 62 6 (by decide)) e_hn), (fun kw hkw => by rw [show M3 63 (5 + kw) = M 63 (5 + kw) from (Eq.trans (k4 63 (5 + kw) (by unfold WRK; omega)) rfl)]; exact hw kw hkw)⟩, (by rw [show M3 63 16 = M 63 16 from (Eq.trans (k4 63 16 (by unfold WRK; omega)) rfl)]; exact hbt), ⟨un, wn, by omega, by omega, (Eq.trans (k4 62 5 (by decide)) e_un), (Eq.trans (k4 62 4 (by decide)) e_wn)⟩, (fun kk hkk => by rw [show M3 64 kk = M 64 kk from (Eq.trans (k4 64 kk (by unfold WRK; omega)) rfl), show M3 65 kk = M 65 kk from (Eq.trans (k4 65 kk (by unfold WRK; omega)) rfl), show M3 66 kk = M 66 kk from (Eq.trans (k4 66 kk (by unfold WRK; omega)) rfl)]; exact hch kk hkk), ⟨n, by omega, (Eq.trans (k4 62 11 (by decide)) e_n)⟩, (by rw [show M3 62 13 = M 62 13 from (Eq.trans (k4 62 13 (by unfold WRK; omega)) rfl)]; exact htx), ⟨b, by omega, (Eq.trans (k4 62 36 (by decide)) e_b)⟩, (fun j hj => by obtain ⟨q, hq, eq⟩ := hkd j hj; exact ⟨q, hq, (show M3 81 j = M 81 j from (Eq.trans (k4 81 j (by unfold WRK; omega)) rfl)).trans eq⟩), ⟨ra, by omega, (Eq.trans (k4 62 39 (by decide)) e_ra)⟩, (fun j hj => by rw [show M3 83 j = M 83 j from (Eq.trans (k4 83 j (by unfold WRK; omega)) rfl), show M3 84 j = M 84 j from (Eq.trans (k4 84 j (by unfold WRK; omega)) rfl)]; exact hsl j hj), ⟨ic, by omega, (Eq.trans (k4 62 34 (by decide)) e_ic)⟩, (LI_SKR hg_ (LrN_b hq hm N).1 hLI hS)⟩, (Or.inr ⟨⟨c1, c2⟩, g_, N, q, mi, hg_, hq, hm, hN, rfl, rfl, e_q, e_m, rfl, hLI.1, hLI.2.1, hLI.2.2⟩)⟩⟩)
    · refine xr_iconst (v := -1) dX10_learn_19 rfl ?_
      exact xr_iret dX10_learn_20 rfl rfl (⟨_, rfl, rfl, rfl, Ke.rf, ⟨⟨⟨hn, by omega, e_hn, (fun kw hkw => by rw [show M 63 (5 + kw) = M 63 (5 + kw) from rfl]; exact hw kw hkw)⟩, (by rw [show M 63 16 = M 63 16 from rfl]; exact hbt), ⟨un, wn, by omega, by omega, e_un, e_wn⟩, (fun kk hkk => by rw [show M 64 kk = M 64 kk from rfl, show M 65 kk = M 65 kk from rfl, show M 66 kk = M 66 kk from rfl]; exact hch kk hkk), ⟨n, by omega, e_n⟩, (by rw [show M 62 13 = M 62 13 from rfl]; exact htx), ⟨b, by omega, e_b⟩, (fun j hj => by obtain ⟨q, hq, eq⟩ := hkd j hj; exact ⟨q, hq, (show M 81 j = M 81 j from rfl).trans eq⟩), ⟨ra, by omega, e_ra⟩, (fun j hj => by rw [show M 83 j = M 83 j from rfl, show M 84 j = M 84 j from rfl]; exact hsl j hj), ⟨ic, by omega, e_ic⟩, (fun j hj => by obtain ⟨q, hq, eq⟩ := hS j hj; exact ⟨q, hq, (show M 75 j = M 75 j from rfl).trans eq⟩)⟩, (Or.inl ⟨(fun q => c2 q.2), rfl, rfl, rfl⟩)⟩⟩)
set_option maxRecDepth 100000 in
set_option maxHeartbeats 4000000 in
theorem gs_X9_till (g v : Int32) {l : Launch} {G : xG} {M : xM} {J : xJ} (hI : InvC M) (hLM : LM (M 36) (M 37)) : x_M l G fX9_till 2 0 0 [.ref (0), .int (g), .int (v)] x_SH M J (qPI M J (fun r => ETill ((0 ≤ g ∧ g < 25) ∧ (0 ≤ v ∧ v ≤ 12)) (M 36) (M 37) g v r)) := by
  refine xb_of pX9 (Nat.le_of_ble_eq_true rfl) rfl ?_
  obtain ⟨⟨cn, h_cn, e_cn⟩, ⟨cm, h_cm, e_cm⟩, ⟨L, h_L, e_L⟩, hv, hD, ⟨n, h_n, e_n⟩, ⟨un, wn, h_uw, h_wn, e_un, e_wn⟩, ⟨b, h_b, e_b⟩, hkd, ⟨ra, h_ra, e_ra⟩, hsl, hS⟩ := hI
  refine xr_iload_n dX9_till_0 1 rfl ?_
  refine xb_cS (As := [.int (g)]) (rest := []) mlX9_134 (c_X9_isGirl g) dX9_till_1 rfl rfl (Nat.le_of_ble_eq_true rfl) (by decide) (by decide) ?_
  refine xb_beq (tgt := 14) dX9_till_4 rfl (fun c1 => ?_) (fun c1 => ?_)
  · refine xr_iconst (v := -1) dX9_till_14 rfl ?_
    exact xr_iret dX9_till_15 rfl rfl (⟨_, rfl, rfl, rfl, rfl, (Or.inl ⟨(fun q => c1 q.1), rfl⟩)⟩)
  · obtain ⟨g_, hg_, rfl⟩ := x_nat (N := 25) (by decide) rfl c1
    refine xr_iload_n dX9_till_7 2 rfl ?_
    refine xb_cS (As := [.int (v)]) (rest := []) mlX9_255 (c_X9_isSkill v) dX9_till_8 rfl rfl (Nat.le_of_ble_eq_true rfl) (by decide) (by decide) ?_
    refine xb_bne (tgt := 16) dX9_till_11 rfl (fun c2 => ?_) (fun c2 => ?_)
    · obtain ⟨v_, hv_, rfl⟩ := x_natle (N := 12) (by decide) rfl c2
      replace hv_ := Nat.lt_succ_of_le hv_
      obtain ⟨sk, mi, hq, hm, e_q, e_m⟩ := hLM g_ hg_
      refine xr_aload_n dX9_till_16 0 rfl ?_
      refine xr_getR flX9_47 dX9_till_17 s_0 rfl ?_
      refine xr_getR flX9_137 dX9_till_20 s_35 rfl ?_
      refine xr_iload_n dX9_till_23 1 rfl ?_
      refine xb_iald (j := g_) (v := nI (sk)) dX9_till_24 s_36 hg_ (by decide) e_q ?_
      refine xr_iload_n dX9_till_25 2 rfl ?_
      refine xr_icmp_lt (tgt := 31) dX9_till_26 rfl (fun c3 => ?_) (fun c3 => ?_)
      · have nc3 : sk < v_ := (nI_ltI (a := sk) (b := v_) (by omega) (by omega)).mp c3
        refine xr_aload_n dX9_till_31 0 rfl ?_
        refine xr_getR flX9_47 dX9_till_32 s_0 rfl ?_
        refine xr_getR flX9_141 dX9_till_35 s_35 rfl ?_
        refine xr_iload_n dX9_till_38 1 rfl ?_
        refine xb_iald (j := g_) (v := nI (mi)) dX9_till_39 s_37 hg_ (by decide) e_m ?_
        refine xr_ineg dX9_till_40 ?_
        refine xr_istore_n (ls2 := [(3, .int ((-(nI (mi))))), (0, .ref (0)), (1, .int (nI (g_))), (2, .int (nI (v_)))]) dX9_till_41 (by decide) rfl ?_
        refine xr_aload_n dX9_till_42 1 rfl ?_
        refine xr_getR flX9_47 dX9_till_43 s_0 rfl ?_
        refine xr_getR flX9_137 dX9_till_46 s_35 rfl ?_
        refine xr_iload_n dX9_till_49 2 rfl ?_
        refine xb_iald (j := g_) (v := nI (sk)) dX9_till_50 s_36 hg_ (by decide) e_q ?_
        refine xr_istore (ls2 := [(4, .int (nI (sk))), (3, .int ((-(nI (mi))))), (0, .ref (0)), (1, .int (nI (g_))), (2, .int (nI (v_)))]) dX9_till_51 (by decide) rfl ?_
        refine xb_ls (ls2 := [(4, .int (nI (sk))), (3, .int ((-(nI (mi))))), (2, .int (nI (v_))), (0, .ref (0))]) [0, 1, 4, 2] rfl ?_
        refine xb_ls (ls2 := [(4, .int (nI (sk))), (3, .int ((-nI mi + nI (tS sk (sk - sk))))), (2, .int (nI (v_))), (0, .ref (0))]) [0, 1, 2, 3] (by show _ = _; rw [← tS_0 (m := mi) (a := sk)]; rfl) ?_
        refine tix_l (m0 := mi) (q := sk) (by omega) ?_ (v_ - sk) sk (by omega) (Nat.le_refl _)
        refine xr_iload_n dX9_till_73 0 rfl ?_
        exact xr_iret dX9_till_74 rfl rfl (⟨_, rfl, rfl, rfl, rfl, (Or.inr ⟨⟨c1, c2⟩, g_, v_, sk, mi, hg_, rfl, rfl, e_q, e_m, by omega, by omega, by omega, Or.inr ⟨by omega, rfl⟩⟩)⟩)
      · have nc3 : ¬ (sk < v_) := fun q => c3 ((nI_ltI (a := sk) (b := v_) (by omega) (by omega)).mpr q)
        refine xr_iconst (v := 0) dX9_till_29 rfl ?_
        exact xr_iret dX9_till_30 rfl rfl (⟨_, rfl, rfl, rfl, rfl, (Or.inr ⟨⟨c1, c2⟩, g_, v_, sk, mi, hg_, rfl, rfl, e_q, e_m, by omega, by omega, by omega, Or.inl ⟨by omega, rfl⟩⟩)⟩)
    · refine xr_iconst (v := -1) dX9_till_14 rfl ?_
      exact xr_iret dX9_till_15 rfl rfl (⟨_, rfl, rfl, rfl, rfl, (Or.inl ⟨(fun q => c2 q.2), rfl⟩)⟩)
set_option maxRecDepth 100000 in
set_option maxHeartbeats 4000000 in
theorem gs_X10_till (g v : Int32) {l : Launch} {G : xG} {M : xM} {J : xJ} (hI : InvR M) (hLM : LM (M 75) (M 76)) : x_M l G fX10_till 2 0 0 [.ref (62), .int (g), .int (v)] x_SH M J (qPI M J (fun r => ETill ((0 ≤ g ∧ g ≤ 24) ∧ (0 ≤ v ∧ v ≤ 12)) (M 75) (M 76) g v r)) := by
  refine xb_of pX10 (Nat.le_of_ble_eq_true rfl) rfl ?_
  obtain ⟨⟨hn, h_hn, e_hn, hw⟩, hbt, ⟨un, wn, h_uw, h_wn, e_un, e_wn⟩, hch, ⟨n, h_n, e_n⟩, htx, ⟨b, h_b, e_b⟩, hkd, ⟨ra, h_ra, e_ra⟩, hsl, ⟨ic, h_ic, e_ic⟩, hS⟩ := hI
  refine xr_iload_n dX10_till_0 1 rfl ?_
  refine xb_cS (As := [.int (g)]) (rest := []) mlX10_293 (c_X10_isGirl g) dX10_till_1 rfl rfl (Nat.le_of_ble_eq_true rfl) (by decide) (by decide) ?_
  refine xb_beq (tgt := 19) dX10_till_4 rfl (fun c1 => ?_) (fun c1 => ?_)
  · refine xr_iconst (v := -1) dX10_till_19 rfl ?_
    exact xr_iret dX10_till_20 rfl rfl (⟨_, rfl, rfl, rfl, rfl, (Or.inl ⟨(fun q => c1 q.1), rfl⟩)⟩)
  · obtain ⟨g_, hg_, rfl⟩ := x_natle (N := 24) (by decide) rfl c1
    replace hg_ := Nat.lt_succ_of_le hg_
    refine xr_iload_n dX10_till_7 2 rfl ?_
    refine xr_i2l dX10_till_8 ?_
    refine xr_lconst (v := 0) dX10_till_9 rfl ?_
    refine xr_ldc2 coX10_296 dX10_till_10 ?_
    refine xb_cS (As := [.long ((v).toInt64), .long (0), .long (12)]) (rest := []) mlX10_101 (c_within32 (v) (0) (12) (by decide) (by decide)) dX10_till_13 rfl rfl (Nat.le_of_ble_eq_true rfl) (by decide) (by decide) ?_
    refine xb_bne (tgt := 21) dX10_till_16 rfl (fun c2 => ?_) (fun c2 => ?_)
    · obtain ⟨v_, hv_, rfl⟩ := x_natle (N := 12) (by decide) rfl c2
      replace hv_ := Nat.lt_succ_of_le hv_
      obtain ⟨sk, mi, hq, hm, e_q, e_m⟩ := hLM g_ hg_
      refine xr_aload_n dX10_till_21 0 rfl ?_
      refine xr_getR flX10_50 dX10_till_22 s_62 rfl ?_
      refine xr_iload_n dX10_till_25 1 rfl ?_
      refine xb_iald (j := g_) (v := nI (sk)) dX10_till_26 s_75 hg_ (by decide) e_q ?_
      refine xr_iload_n dX10_till_27 2 rfl ?_
      refine xr_icmp_ge (tgt := 41) dX10_till_28 rfl (fun c3 => ?_) (fun c3 => ?_)
      · have nc3 : v_ ≤ sk := (nI_leI (a := v_) (b := sk) (by omega) (by omega)).mp c3
        refine xr_iconst (v := 0) dX10_till_41 rfl ?_
        refine xr_istore_n (ls2 := [(3, .int (0)), (0, .ref (62)), (1, .int (nI (g_))), (2, .int (nI (v_)))]) dX10_till_42 (by decide) rfl ?_
        refine xr_aload_n dX10_till_43 1 rfl ?_
        refine xr_getR flX10_50 dX10_till_44 s_62 rfl ?_
        refine xr_iload_n dX10_till_47 2 rfl ?_
        refine xb_iald (j := g_) (v := nI (sk)) dX10_till_48 s_75 hg_ (by decide) e_q ?_
        refine xr_istore (ls2 := [(4, .int (nI (sk))), (3, .int (0)), (0, .ref (62)), (1, .int (nI (g_))), (2, .int (nI (v_)))]) dX10_till_49 (by decide) rfl ?_
        refine xr_iload dX10_till_51 0 rfl ?_
        refine xr_iload_n dX10_till_53 4 rfl ?_
        refine xr_icmp_ge (tgt := 71) dX10_till_54 rfl (fun _ => ?_) (fun c => absurd (nI_le (a := v_) (b := sk) (by omega) (by omega)) c)
        refine xr_iload_n dX10_till_71 1 rfl ?_
        exact xr_iret dX10_till_72 rfl rfl (⟨_, rfl, rfl, rfl, rfl, (Or.inr ⟨⟨c1, c2⟩, g_, v_, sk, mi, hg_, rfl, rfl, e_q, e_m, by omega, by omega, by omega, Or.inl ⟨by omega, rfl⟩⟩)⟩)
      · have nc3 : ¬ (v_ ≤ sk) := fun q => c3 ((nI_leI (a := v_) (b := sk) (by omega) (by omega)).mpr q)
        refine xr_aload_n dX10_till_31 0 rfl ?_
        refine xr_getR flX10_53 dX10_till_32 s_62 rfl ?_
        refine xr_iload_n dX10_till_35 1 rfl ?_
        refine xb_iald (j := g_) (v := nI (mi)) dX10_till_36 s_76 hg_ (by decide) e_m ?_
        refine xr_ineg dX10_till_37 ?_
        refine xr_goto (tgt := 42) dX10_till_38 rfl ?_
        refine xr_istore_n (ls2 := [(3, .int ((-(nI (mi))))), (0, .ref (62)), (1, .int (nI (g_))), (2, .int (nI (v_)))]) dX10_till_42 (by decide) rfl ?_
        refine xr_aload_n dX10_till_43 1 rfl ?_
        refine xr_getR flX10_50 dX10_till_44 s_62 rfl ?_
        refine xr_iload_n dX10_till_47 2 rfl ?_
        refine xb_iald (j := g_) (v := nI (sk)) dX10_till_48 s_75 hg_ (by decide) e_q ?_
        refine xr_istore (ls2 := [(4, .int (nI (sk))), (3, .int ((-(nI (mi))))), (0, .ref (62)), (1, .int (nI (g_))), (2, .int (nI (v_)))]) dX10_till_49 (by decide) rfl ?_
        refine xb_ls (ls2 := [(4, .int (nI (sk))), (3, .int ((-(nI (mi))))), (2, .int (nI (v_))), (0, .ref (62))]) [0, 1, 4, 2] rfl ?_
        refine xb_ls (ls2 := [(4, .int (nI (sk))), (3, .int ((-nI mi + nI (tS sk (sk - sk))))), (2, .int (nI (v_))), (0, .ref (62))]) [0, 1, 2, 3] (by show _ = _; rw [← tS_0 (m := mi) (a := sk)]; rfl) ?_
        refine rtix_l (m0 := mi) (q := sk) (by omega) ?_ (v_ - sk) sk (by omega) (Nat.le_refl _)
        refine xr_iload_n dX10_till_71 0 rfl ?_
        exact xr_iret dX10_till_72 rfl rfl (⟨_, rfl, rfl, rfl, rfl, (Or.inr ⟨⟨c1, c2⟩, g_, v_, sk, mi, hg_, rfl, rfl, e_q, e_m, by omega, by omega, by omega, Or.inr ⟨by omega, rfl⟩⟩)⟩)
    · refine xr_iconst (v := -1) dX10_till_19 rfl ?_
      exact xr_iret dX10_till_20 rfl rfl (⟨_, rfl, rfl, rfl, rfl, (Or.inl ⟨(fun q => c2 q.2), rfl⟩)⟩)
