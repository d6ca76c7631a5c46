set_option maxRecDepth 100000 in
set_option maxHeartbeats 4000000 in
theorem gs_X10_body (k : Int32) {l : Launch} {G : xG} {M : xM} {J : xJ} (hI : InvR M) : x_M l G fX10_body 1 0 0 [.ref (62), .int (k)] x_SH M J (qKI WRY M J (fun r M2 => InvR M2 ∧ (EBody (0 ≤ k ∧ k ≤ 7) (M 62 36) (M2 62 36) (M 81) (M2 81) k r))) := by
  refine xb_of pX10 (Nat.le_of_ble_eq_true rfl) rfl ?_
  obtain ⟨⟨hn, h_hn, e_hn, hw⟩, hbt, ⟨un, wn, h_uw, h_wn, e_un, e_wn⟩, hch, ⟨n, h_n, e_n⟩, htx, ⟨b, h_b, e_b⟩, hkd, ⟨ra, h_ra, e_ra⟩, hsl, ⟨ic, h_ic, e_ic⟩, hS⟩ := hI
  refine xr_iload_n dX10_body_0 1 rfl ?_
  refine xr_i2l dX10_body_1 ?_
  refine xr_lconst (v := 0) dX10_body_2 rfl ?_
  refine xr_ldc2 coX10_143 dX10_body_3 ?_
  refine xb_cS (As := [.long ((k).toInt64), .long (0), .long (7)]) (rest := []) mlX10_101 (c_within32 (k) (0) (7) (by decide) (by decide)) dX10_body_6 rfl rfl (Nat.le_of_ble_eq_true rfl) (by decide) (by decide) ?_
  refine xb_bne (tgt := 14) dX10_body_9 rfl (fun c1 => ?_) (fun c1 => ?_)
  · obtain ⟨q_, hq_, rfl⟩ := x_natle (N := 7) (by decide) rfl c1
    replace hq_ := Nat.lt_succ_of_le hq_
    refine xr_aload_n dX10_body_14 0 rfl ?_
    refine xb_get (v := nI (b)) flX10_334 dX10_body_15 s_62 rfl e_b ?_
    refine xr_bipush (v := 50) dX10_body_18 rfl ?_
    refine xr_icmp_ne (tgt := 26) dX10_body_20 rfl (fun c2 => ?_) (fun c2 => ?_)
    · have nc2 : ¬ (b = 50) := fun q => c2 ((nI_eq (a := b) (b := 50) (by omega) (by omega)).mpr q)
      have hb50 : b < 50 := by
        have h6 : b ≠ 50 := fun q => c2 (by rw [q]; rfl)
        omega
      refine xr_aload_n dX10_body_26 0 rfl ?_
      refine xr_getR flX10_69 dX10_body_27 s_62 rfl ?_
      refine xr_aload_n dX10_body_30 0 rfl ?_
      refine xb_get (v := nI (b)) flX10_334 dX10_body_31 s_62 rfl e_b ?_
      refine xr_iload_n dX10_body_34 1 rfl ?_
      refine xb_iast (j := b) dX10_body_35 s_81 (by omega) (by decide) ?_
      refine xr_aload_n dX10_body_36 0 rfl ?_
      refine xr_dup dX10_body_37 rfl ?_
      refine xb_get (v := nI (b)) flX10_334 dX10_body_38 s_62 rfl (Eq.trans (congrFun (x_up_n _ _ _ (by decide)) _) e_b) ?_
      refine xr_iconst (v := 1) dX10_body_41 rfl ?_
      refine xr_iadd dX10_body_42 ?_
      refine xb_top (y := nI (b + 1)) (nI_add (b) (1)) ?_
      refine xr_putI fpX10_334 dX10_body_43 s_62 rfl rfl rfl ?_
      refine xr_aload_n dX10_body_46 0 rfl ?_
      refine xb_get (v := nI (b + 1)) flX10_334 dX10_body_47 s_62 rfl (x_up_s _ _ _ _) ?_
      refine xr_iconst (v := 1) dX10_body_50 rfl ?_
      refine xr_isub dX10_body_51 ?_
      refine xb_top (y := nI b) (nI_pred b) ?_
      exact xr_iret dX10_body_52 rfl rfl (⟨_, rfl, rfl, rfl, (Ke.up (Or.inl (by omega)) (Ke.up (Or.inr (by omega)) Ke.rf)), ⟨⟨⟨hn, by omega, (Eq.trans (x_up_k _ _ _ (by decide)) (Eq.trans (congrFun (x_up_n _ _ _ (by decide)) _) e_hn)), (fun kw hkw => by rw [show (x_up (x_up M 81 b (nI (q_))) 62 36 (nI (b + 1))) 63 (5 + kw) = M 63 (5 + kw) from (Eq.trans (congrFun (x_up_n _ _ _ (by omega)) _) (Eq.trans (congrFun (x_up_n _ _ _ (by omega)) _) rfl))]; exact hw kw hkw)⟩, (by rw [show (x_up (x_up M 81 b (nI (q_))) 62 36 (nI (b + 1))) 63 16 = M 63 16 from (Eq.trans (congrFun (x_up_n _ _ _ (by omega)) _) (Eq.trans (congrFun (x_up_n _ _ _ (by omega)) _) rfl))]; exact hbt), ⟨un, wn, by omega, by omega, (Eq.trans (x_up_k _ _ _ (by decide)) (Eq.trans (congrFun (x_up_n _ _ _ (by decide)) _) e_un)), (Eq.trans (x_up_k _ _ _ (by decide)) (Eq.trans (congrFun (x_up_n _ _ _ (by decide)) _) e_wn))⟩, (fun kk hkk => by rw [show (x_up (x_up M 81 b (nI (q_))) 62 36 (nI (b + 1))) 64 kk = M 64 kk from (Eq.trans (congrFun (x_up_n _ _ _ (by omega)) _) (Eq.trans (congrFun (x_up_n _ _ _ (by omega)) _) rfl)), show (x_up (x_up M 81 b (nI (q_))) 62 36 (nI (b + 1))) 65 kk = M 65 kk from (Eq.trans (congrFun (x_up_n _ _ _ (by omega)) _) (Eq.trans (congrFun (x_up_n _ _ _ (by omega)) _) rfl)), show (x_up (x_up M 81 b (nI (q_))) 62 36 (nI (b + 1))) 66 kk = M 66 kk from (Eq.trans (congrFun (x_up_n _ _ _ (by omega)) _) (Eq.trans (congrFun (x_up_n _ _ _ (by omega)) _) rfl))]; exact hch kk hkk), ⟨n, by omega, (Eq.trans (x_up_k _ _ _ (by decide)) (Eq.trans (congrFun (x_up_n _ _ _ (by decide)) _) e_n))⟩, (by rw [show (x_up (x_up M 81 b (nI (q_))) 62 36 (nI (b + 1))) 62 13 = M 62 13 from (Eq.trans (x_up_k _ _ _ (by omega)) (Eq.trans (congrFun (x_up_n _ _ _ (by omega)) _) rfl))]; exact htx), ⟨b + 1, by omega, (x_up_s _ _ _ _)⟩, (fun j hj => by
          by_cases q : j = b
          · subst q; exact ⟨q_, hq_, (Eq.trans (congrFun (x_up_n _ _ _ (by decide)) _) (x_up_s _ _ _ _))⟩
          · obtain ⟨z, hz, ez⟩ := hkd j hj; exact ⟨z, hz, (show (x_up (x_up M 81 b (nI (q_))) 62 36 (nI (b + 1))) 81 j = M 81 j from (Eq.trans (congrFun (x_up_n _ _ _ (by omega)) _) (Eq.trans (x_up_k _ _ _ (by omega)) rfl))).trans ez⟩), ⟨ra, by omega, (Eq.trans (x_up_k _ _ _ (by decide)) (Eq.trans (congrFun (x_up_n _ _ _ (by decide)) _) e_ra))⟩, (fun j hj => by rw [show (x_up (x_up M 81 b (nI (q_))) 62 36 (nI (b + 1))) 83 j = M 83 j from (Eq.trans (congrFun (x_up_n _ _ _ (by omega)) _) (Eq.trans (congrFun (x_up_n _ _ _ (by omega)) _) rfl)), show (x_up (x_up M 81 b (nI (q_))) 62 36 (nI (b + 1))) 84 j = M 84 j from (Eq.trans (congrFun (x_up_n _ _ _ (by omega)) _) (Eq.trans (congrFun (x_up_n _ _ _ (by omega)) _) rfl))]; exact hsl j hj), ⟨ic, by omega, (Eq.trans (x_up_k _ _ _ (by decide)) (Eq.trans (congrFun (x_up_n _ _ _ (by decide)) _) e_ic))⟩, (fun j hj => by obtain ⟨q, hq, eq⟩ := hS j hj; exact ⟨q, hq, (show (x_up (x_up M 81 b (nI (q_))) 62 36 (nI (b + 1))) 75 j = M 75 j from (Eq.trans (congrFun (x_up_n _ _ _ (by omega)) _) (Eq.trans (congrFun (x_up_n _ _ _ (by omega)) _) rfl))).trans eq⟩)⟩, (Or.inr ⟨b, h_b, e_b, c1, Or.inr ⟨hb50, rfl, (x_up_s _ _ _ _), (Eq.trans (congrFun (x_up_n _ _ _ (by decide)) _) (x_up_s _ _ _ _)), fun j hj => (Eq.trans (congrFun (x_up_n _ _ _ (by omega)) _) (Eq.trans (x_up_k _ _ _ (by omega)) rfl))⟩⟩)⟩⟩)
    · have nc2 : b = 50 := (nI_eq (a := b) (b := 50) (by omega) (by omega)).mp c2
      refine xr_bipush (v := -3) dX10_body_23 rfl ?_
      exact xr_iret dX10_body_25 rfl rfl (⟨_, rfl, rfl, rfl, Ke.rf, ⟨⟨⟨hn, by omega, e_hn, (fun kw hkw => by rw [show M 63 (5 + kw) = M 63 (5 + kw) from rfl]; exact hw kw hkw)⟩, (by rw [show M 63 16 = M 63 16 from rfl]; exact hbt), ⟨un, wn, by omega, by omega, e_un, e_wn⟩, (fun kk hkk => by rw [show M 64 kk = M 64 kk from rfl, show M 65 kk = M 65 kk from rfl, show M 66 kk = M 66 kk from rfl]; exact hch kk hkk), ⟨n, by omega, e_n⟩, (by rw [show M 62 13 = M 62 13 from rfl]; exact htx), ⟨b, by omega, e_b⟩, (fun j hj => by obtain ⟨q, hq, eq⟩ := hkd j hj; exact ⟨q, hq, (show M 81 j = M 81 j from rfl).trans eq⟩), ⟨ra, by omega, e_ra⟩, (fun j hj => by rw [show M 83 j = M 83 j from rfl, show M 84 j = M 84 j from rfl]; exact hsl j hj), ⟨ic, by omega, e_ic⟩, (fun j hj => by obtain ⟨q, hq, eq⟩ := hS j hj; exact ⟨q, hq, (show M 75 j = M 75 j from rfl).trans eq⟩)⟩, (Or.inr ⟨b, h_b, e_b, c1, Or.inl ⟨nc2, rfl, rfl, rfl⟩⟩)⟩⟩)
  · refine xr_iconst (v := -1) dX10_body_12 rfl ?_
    exact xr_iret dX10_body_13 rfl rfl (⟨_, rfl, rfl, rfl, Ke.rf, ⟨⟨⟨hn, by omega, e_hn, (fun kw hkw => by rw [show M 63 (5 + kw) = M 63 (5 + kw) from rfl]; exact hw kw hkw)⟩, (by rw [show M 63 16 = M 63 16 from rfl]; exact hbt), ⟨un, wn, by omega, by omega, e_un, e_wn⟩, (fun kk hkk => by rw [show M 64 kk = M 64 kk from rfl, show M 65 kk = M 65 kk from rfl, show M 66 kk = M 66 kk from rfl]; exact hch kk hkk), ⟨n, by omega, e_n⟩, (by rw [show M 62 13 = M 62 13 from rfl]; exact htx), ⟨b, by omega, e_b⟩, (fun j hj => by obtain ⟨q, hq, eq⟩ := hkd j hj; exact ⟨q, hq, (show M 81 j = M 81 j from rfl).trans eq⟩), ⟨ra, by omega, e_ra⟩, (fun j hj => by rw [show M 83 j = M 83 j from rfl, show M 84 j = M 84 j from rfl]; exact hsl j hj), ⟨ic, by omega, e_ic⟩, (fun j hj => by obtain ⟨q, hq, eq⟩ := hS j hj; exact ⟨q, hq, (show M 75 j = M 75 j from rfl).trans eq⟩)⟩, (Or.inl ⟨c1, rfl, rfl, rfl⟩)⟩⟩)
set_option maxRecDepth 100000 in
set_option maxHeartbeats 4000000 in
theorem gs_X10_keep (d w : Int32) {l : Launch} {G : xG} {M : xM} {J : xJ} (hI : InvR M) : x_M l G fX10_keep 2 0 0 [.ref (62), .int (d), .int (w)] x_SH M J (qKI WRH M J (fun r M2 => InvR M2 ∧ (EKeep10 M M2 d w r))) := by
  refine xb_of pX10 (Nat.le_of_ble_eq_true rfl) rfl ?_
  obtain ⟨⟨hn, h_hn, e_hn, hw⟩, hbt, ⟨un, wn, h_uw, h_wn, e_un, e_wn⟩, hch, ⟨n, h_n, e_n⟩, htx, ⟨b, h_b, e_b⟩, hkd, ⟨ra, h_ra, e_ra⟩, hsl, ⟨ic, h_ic, e_ic⟩, hS⟩ := hI
  refine xr_iload_n dX10_keep_0 1 rfl ?_
  refine xb_cS (As := [.int (d)]) (rest := []) mlX10_125 (c_X10_isShelf d) dX10_keep_1 rfl rfl (Nat.le_of_ble_eq_true rfl) (by decide) (by decide) ?_
  refine xb_beq (tgt := 20) dX10_keep_4 rfl (fun c1 => ?_) (fun c1 => ?_)
  · refine xr_iconst (v := -1) dX10_keep_20 rfl ?_
    exact xr_iret dX10_keep_21 rfl rfl (⟨_, rfl, rfl, rfl, Ke.rf, ⟨⟨⟨hn, by omega, e_hn, (fun kw hkw => by rw [show M 63 (5 + kw) = M 63 (5 + kw) from rfl]; exact hw kw hkw)⟩, (by rw [show M 63 16 = M 63 16 from rfl]; exact hbt), ⟨un, wn, by omega, by omega, e_un, e_wn⟩, (fun kk hkk => by rw [show M 64 kk = M 64 kk from rfl, show M 65 kk = M 65 kk from rfl, show M 66 kk = M 66 kk from rfl]; exact hch kk hkk), ⟨n, by omega, e_n⟩, (by rw [show M 62 13 = M 62 13 from rfl]; exact htx), ⟨b, by omega, e_b⟩, (fun j hj => by obtain ⟨q, hq, eq⟩ := hkd j hj; exact ⟨q, hq, (show M 81 j = M 81 j from rfl).trans eq⟩), ⟨ra, by omega, e_ra⟩, (fun j hj => by rw [show M 83 j = M 83 j from rfl, show M 84 j = M 84 j from rfl]; exact hsl j hj), ⟨ic, by omega, e_ic⟩, (fun j hj => by obtain ⟨q, hq, eq⟩ := hS j hj; exact ⟨q, hq, (show M 75 j = M 75 j from rfl).trans eq⟩)⟩, (Or.inl ⟨Or.inl c1, rfl, rfl⟩)⟩⟩)
  · obtain ⟨d_, hd_, rfl⟩ := x_natle (N := 5) (by decide) rfl c1
    replace hd_ := Nat.lt_succ_of_le hd_
    refine xr_iload_n dX10_keep_7 2 rfl ?_
    refine xr_iconst (v := -1) dX10_keep_8 rfl ?_
    refine xr_icmp_eq (tgt := 22) dX10_keep_9 rfl (fun c2 => ?_) (fun c2 => ?_)
    · subst c2
      refine xr_aload_n dX10_keep_22 0 rfl ?_
      refine xr_getR flX10_75 dX10_keep_23 s_62 rfl ?_
      refine xr_iload_n dX10_keep_26 1 rfl ?_
      refine xr_iload_n dX10_keep_27 2 rfl ?_
      refine xb_iast (j := d_) dX10_keep_28 s_83 hd_ (by decide) ?_
      refine xr_aload_n dX10_keep_29 0 rfl ?_
      refine xr_getR flX10_78 dX10_keep_30 s_62 rfl ?_
      refine xr_iload_n dX10_keep_33 1 rfl ?_
      refine xr_iconst (v := 0) dX10_keep_34 rfl ?_
      refine xb_iast (j := d_) dX10_keep_35 s_84 hd_ (by decide) ?_
      refine xr_iconst (v := 1) dX10_keep_36 rfl ?_
      exact xr_iret dX10_keep_37 rfl rfl (⟨_, rfl, rfl, rfl, (Ke.up (by omega) (Ke.up (by omega) Ke.rf)), ⟨⟨⟨hn, by omega, (Eq.trans (congrFun (x_up_n _ _ _ (by decide)) _) (Eq.trans (congrFun (x_up_n _ _ _ (by decide)) _) e_hn)), (fun kw hkw => by rw [show (x_up (x_up M 83 d_ (-1)) 84 d_ 0) 63 (5 + kw) = M 63 (5 + kw) from (Eq.trans (congrFun (x_up_n _ _ _ (by omega)) _) (Eq.trans (congrFun (x_up_n _ _ _ (by omega)) _) rfl))]; exact hw kw hkw)⟩, (by rw [show (x_up (x_up M 83 d_ (-1)) 84 d_ 0) 63 16 = M 63 16 from (Eq.trans (congrFun (x_up_n _ _ _ (by omega)) _) (Eq.trans (congrFun (x_up_n _ _ _ (by omega)) _) rfl))]; exact hbt), ⟨un, wn, by omega, by omega, (Eq.trans (congrFun (x_up_n _ _ _ (by decide)) _) (Eq.trans (congrFun (x_up_n _ _ _ (by decide)) _) e_un)), (Eq.trans (congrFun (x_up_n _ _ _ (by decide)) _) (Eq.trans (congrFun (x_up_n _ _ _ (by decide)) _) e_wn))⟩, (fun kk hkk => by rw [show (x_up (x_up M 83 d_ (-1)) 84 d_ 0) 64 kk = M 64 kk from (Eq.trans (congrFun (x_up_n _ _ _ (by omega)) _) (Eq.trans (congrFun (x_up_n _ _ _ (by omega)) _) rfl)), show (x_up (x_up M 83 d_ (-1)) 84 d_ 0) 65 kk = M 65 kk from (Eq.trans (congrFun (x_up_n _ _ _ (by omega)) _) (Eq.trans (congrFun (x_up_n _ _ _ (by omega)) _) rfl)), show (x_up (x_up M 83 d_ (-1)) 84 d_ 0) 66 kk = M 66 kk from (Eq.trans (congrFun (x_up_n _ _ _ (by omega)) _) (Eq.trans (congrFun (x_up_n _ _ _ (by omega)) _) rfl))]; exact hch kk hkk), ⟨n, by omega, (Eq.trans (congrFun (x_up_n _ _ _ (by decide)) _) (Eq.trans (congrFun (x_up_n _ _ _ (by decide)) _) e_n))⟩, (by rw [show (x_up (x_up M 83 d_ (-1)) 84 d_ 0) 62 13 = M 62 13 from (Eq.trans (congrFun (x_up_n _ _ _ (by omega)) _) (Eq.trans (congrFun (x_up_n _ _ _ (by omega)) _) rfl))]; exact htx), ⟨b, by omega, (Eq.trans (congrFun (x_up_n _ _ _ (by decide)) _) (Eq.trans (congrFun (x_up_n _ _ _ (by decide)) _) e_b))⟩, (fun j hj => by obtain ⟨q, hq, eq⟩ := hkd j hj; exact ⟨q, hq, (show (x_up (x_up M 83 d_ (-1)) 84 d_ 0) 81 j = M 81 j from (Eq.trans (congrFun (x_up_n _ _ _ (by omega)) _) (Eq.trans (congrFun (x_up_n _ _ _ (by omega)) _) rfl))).trans eq⟩), ⟨ra, by omega, (Eq.trans (congrFun (x_up_n _ _ _ (by decide)) _) (Eq.trans (congrFun (x_up_n _ _ _ (by decide)) _) e_ra))⟩, (fun j hj => by
          by_cases q : j = d_
          · subst q; exact ⟨Or.inl (Eq.trans (congrFun (x_up_n _ _ _ (by decide)) _) (x_up_s _ _ _ _)), ⟨0, by omega, (x_up_s _ _ _ _)⟩⟩
          · rw [show (x_up (x_up M 83 d_ (-1)) 84 d_ 0) 83 j = M 83 j from (Eq.trans (congrFun (x_up_n _ _ _ (by omega)) _) (Eq.trans (x_up_k _ _ _ (by omega)) rfl)), show (x_up (x_up M 83 d_ (-1)) 84 d_ 0) 84 j = M 84 j from (Eq.trans (x_up_k _ _ _ (by omega)) (Eq.trans (congrFun (x_up_n _ _ _ (by omega)) _) rfl))]; exact hsl j hj), ⟨ic, by omega, (Eq.trans (congrFun (x_up_n _ _ _ (by decide)) _) (Eq.trans (congrFun (x_up_n _ _ _ (by decide)) _) e_ic))⟩, (fun j hj => by obtain ⟨q, hq, eq⟩ := hS j hj; exact ⟨q, hq, (show (x_up (x_up M 83 d_ (-1)) 84 d_ 0) 75 j = M 75 j from (Eq.trans (congrFun (x_up_n _ _ _ (by omega)) _) (Eq.trans (congrFun (x_up_n _ _ _ (by omega)) _) rfl))).trans eq⟩)⟩, (Or.inr ⟨d_, hd_, rfl, rfl, Or.inl rfl, rfl⟩)⟩⟩)
    · refine xr_aload_n dX10_keep_12 0 rfl ?_
      refine xr_iload_n dX10_keep_13 2 rfl ?_
      refine xb_cV (As := [.int (w)]) (rest := []) mlX10_361 (c_X10_isBody w (by omega) e_b) dX10_keep_14 s_62 rfl rfl (Nat.le_of_ble_eq_true rfl) (by decide) (by decide) ?_
      refine xb_bne (tgt := 22) dX10_keep_17 rfl (fun c3 => ?_) (fun c3 => ?_)
      · obtain ⟨w_, hw_, rfl⟩ := x_nat (N := b) (by omega) rfl c3
        refine xr_aload_n dX10_keep_22 0 rfl ?_
        refine xr_getR flX10_75 dX10_keep_23 s_62 rfl ?_
        refine xr_iload_n dX10_keep_26 1 rfl ?_
        refine xr_iload_n dX10_keep_27 2 rfl ?_
        refine xb_iast (j := d_) dX10_keep_28 s_83 hd_ (by decide) ?_
        refine xr_aload_n dX10_keep_29 0 rfl ?_
        refine xr_getR flX10_78 dX10_keep_30 s_62 rfl ?_
        refine xr_iload_n dX10_keep_33 1 rfl ?_
        refine xr_iconst (v := 0) dX10_keep_34 rfl ?_
        refine xb_iast (j := d_) dX10_keep_35 s_84 hd_ (by decide) ?_
        refine xr_iconst (v := 1) dX10_keep_36 rfl ?_
        exact xr_iret dX10_keep_37 rfl rfl (⟨_, rfl, rfl, rfl, (Ke.up (by omega) (Ke.up (by omega) Ke.rf)), ⟨⟨⟨hn, by omega, (Eq.trans (congrFun (x_up_n _ _ _ (by decide)) _) (Eq.trans (congrFun (x_up_n _ _ _ (by decide)) _) e_hn)), (fun kw hkw => by rw [show (x_up (x_up M 83 d_ (nI (w_))) 84 d_ 0) 63 (5 + kw) = M 63 (5 + kw) from (Eq.trans (congrFun (x_up_n _ _ _ (by omega)) _) (Eq.trans (congrFun (x_up_n _ _ _ (by omega)) _) rfl))]; exact hw kw hkw)⟩, (by rw [show (x_up (x_up M 83 d_ (nI (w_))) 84 d_ 0) 63 16 = M 63 16 from (Eq.trans (congrFun (x_up_n _ _ _ (by omega)) _) (Eq.trans (congrFun (x_up_n _ _ _ (by omega)) _) rfl))]; exact hbt), ⟨un, wn, by omega, by omega, (Eq.trans (congrFun (x_up_n _ _ _ (by decide)) _) (Eq.trans (congrFun (x_up_n _ _ _ (by decide)) _) e_un)), (Eq.trans (congrFun (x_up_n _ _ _ (by decide)) _) (Eq.trans (congrFun (x_up_n _ _ _ (by decide)) _) e_wn))⟩, (fun kk hkk => by rw [show (x_up (x_up M 83 d_ (nI (w_))) 84 d_ 0) 64 kk = M 64 kk from (Eq.trans (congrFun (x_up_n _ _ _ (by omega)) _) (Eq.trans (congrFun (x_up_n _ _ _ (by omega)) _) rfl)), show (x_up (x_up M 83 d_ (nI (w_))) 84 d_ 0) 65 kk = M 65 kk from (Eq.trans (congrFun (x_up_n _ _ _ (by omega)) _) (Eq.trans (congrFun (x_up_n _ _ _ (by omega)) _) rfl)), show (x_up (x_up M 83 d_ (nI (w_))) 84 d_ 0) 66 kk = M 66 kk from (Eq.trans (congrFun (x_up_n _ _ _ (by omega)) _) (Eq.trans (congrFun (x_up_n _ _ _ (by omega)) _) rfl))]; exact hch kk hkk), ⟨n, by omega, (Eq.trans (congrFun (x_up_n _ _ _ (by decide)) _) (Eq.trans (congrFun (x_up_n _ _ _ (by decide)) _) e_n))⟩, (by rw [show (x_up (x_up M 83 d_ (nI (w_))) 84 d_ 0) 62 13 = M 62 13 from (Eq.trans (congrFun (x_up_n _ _ _ (by omega)) _) (Eq.trans (congrFun (x_up_n _ _ _ (by omega)) _) rfl))]; exact htx), ⟨b, by omega, (Eq.trans (congrFun (x_up_n _ _ _ (by decide)) _) (Eq.trans (congrFun (x_up_n _ _ _ (by decide)) _) e_b))⟩, (fun j hj => by obtain ⟨q, hq, eq⟩ := hkd j hj; exact ⟨q, hq, (show (x_up (x_up M 83 d_ (nI (w_))) 84 d_ 0) 81 j = M 81 j from (Eq.trans (congrFun (x_up_n _ _ _ (by omega)) _) (Eq.trans (congrFun (x_up_n _ _ _ (by omega)) _) rfl))).trans eq⟩), ⟨ra, by omega, (Eq.trans (congrFun (x_up_n _ _ _ (by decide)) _) (Eq.trans (congrFun (x_up_n _ _ _ (by decide)) _) e_ra))⟩, (fun j hj => by
            by_cases q : j = d_
            · subst q; exact ⟨Or.inr ⟨w_, by omega, (Eq.trans (congrFun (x_up_n _ _ _ (by decide)) _) (x_up_s _ _ _ _))⟩, ⟨0, by omega, (x_up_s _ _ _ _)⟩⟩
            · rw [show (x_up (x_up M 83 d_ (nI (w_))) 84 d_ 0) 83 j = M 83 j from (Eq.trans (congrFun (x_up_n _ _ _ (by omega)) _) (Eq.trans (x_up_k _ _ _ (by omega)) rfl)), show (x_up (x_up M 83 d_ (nI (w_))) 84 d_ 0) 84 j = M 84 j from (Eq.trans (x_up_k _ _ _ (by omega)) (Eq.trans (congrFun (x_up_n _ _ _ (by omega)) _) rfl))]; exact hsl j hj), ⟨ic, by omega, (Eq.trans (congrFun (x_up_n _ _ _ (by decide)) _) (Eq.trans (congrFun (x_up_n _ _ _ (by decide)) _) e_ic))⟩, (fun j hj => by obtain ⟨q, hq, eq⟩ := hS j hj; exact ⟨q, hq, (show (x_up (x_up M 83 d_ (nI (w_))) 84 d_ 0) 75 j = M 75 j from (Eq.trans (congrFun (x_up_n _ _ _ (by omega)) _) (Eq.trans (congrFun (x_up_n _ _ _ (by omega)) _) rfl))).trans eq⟩)⟩, (Or.inr ⟨d_, hd_, rfl, rfl, Or.inr ⟨c2, by rw [e_b]; exact c3⟩, rfl⟩)⟩⟩)
      · refine xr_iconst (v := -1) dX10_keep_20 rfl ?_
        exact xr_iret dX10_keep_21 rfl rfl (⟨_, rfl, rfl, rfl, Ke.rf, ⟨⟨⟨hn, by omega, e_hn, (fun kw hkw => by rw [show M 63 (5 + kw) = M 63 (5 + kw) from rfl]; exact hw kw hkw)⟩, (by rw [show M 63 16 = M 63 16 from rfl]; exact hbt), ⟨un, wn, by omega, by omega, e_un, e_wn⟩, (fun kk hkk => by rw [show M 64 kk = M 64 kk from rfl, show M 65 kk = M 65 kk from rfl, show M 66 kk = M 66 kk from rfl]; exact hch kk hkk), ⟨n, by omega, e_n⟩, (by rw [show M 62 13 = M 62 13 from rfl]; exact htx), ⟨b, by omega, e_b⟩, (fun j hj => by obtain ⟨q, hq, eq⟩ := hkd j hj; exact ⟨q, hq, (show M 81 j = M 81 j from rfl).trans eq⟩), ⟨ra, by omega, e_ra⟩, (fun j hj => by rw [show M 83 j = M 83 j from rfl, show M 84 j = M 84 j from rfl]; exact hsl j hj), ⟨ic, by omega, e_ic⟩, (fun j hj => by obtain ⟨q, hq, eq⟩ := hS j hj; exact ⟨q, hq, (show M 75 j = M 75 j from rfl).trans eq⟩)⟩, (Or.inl ⟨Or.inr ⟨c1, c2, by rw [e_b]; exact c3⟩, rfl, rfl⟩)⟩⟩)
set_option maxRecDepth 100000 in
set_option maxHeartbeats 4000000 in
theorem gs_X10_row (d so nn : Int32) {l : Launch} {G : xG} {M : xM} {J : xJ} (hI : InvR M) : x_M l G fX10_row 2 0 0 [.ref (62), .int (d), .int (so), .int (nn)] x_SH M J (qJE WRH (fun p => p = 85 ∨ p = 86) M J (fun r M2 J2 => InvR M2 ∧ ERow10 M M2 J J2 d so nn r)) := by
  refine xb_of pX10 (Nat.le_of_ble_eq_true rfl) rfl ?_
  obtain ⟨⟨hn, h_hn, e_hn, hw⟩, hbt, ⟨un, wn, h_uw, h_wn, e_un, e_wn⟩, hch, ⟨n, h_n, e_n⟩, htx, ⟨b, h_b, e_b⟩, hkd, ⟨ra, h_ra, e_ra⟩, hsl, ⟨ic, h_ic, e_ic⟩, hS⟩ := hI
  refine xr_iload_n dX10_row_0 1 rfl ?_
  refine xb_cS (As := [.int (d)]) (rest := []) mlX10_125 (c_X10_isShelf d) dX10_row_1 rfl rfl (Nat.le_of_ble_eq_true rfl) (by decide) (by decide) ?_
  refine xb_beq (tgt := 25) dX10_row_4 rfl (fun c1 => ?_) (fun c1 => ?_)
  · refine xr_iconst (v := -1) dX10_row_25 rfl ?_
    exact xr_iret dX10_row_26 rfl rfl (⟨_, rfl, rfl, (fun _ _ => rfl), Ke.rf, ⟨⟨hn, by omega, e_hn, (fun kw hkw => by rw [show M 63 (5 + kw) = M 63 (5 + kw) from rfl]; exact hw kw hkw)⟩, (by rw [show M 63 16 = M 63 16 from rfl]; exact hbt), ⟨un, wn, by omega, by omega, e_un, e_wn⟩, (fun kk hkk => by rw [show M 64 kk = M 64 kk from rfl, show M 65 kk = M 65 kk from rfl, show M 66 kk = M 66 kk from rfl]; exact hch kk hkk), ⟨n, by omega, e_n⟩, (by rw [show M 62 13 = M 62 13 from rfl]; exact htx), ⟨b, by omega, e_b⟩, (fun j hj => by obtain ⟨q, hq, eq⟩ := hkd j hj; exact ⟨q, hq, (show M 81 j = M 81 j from rfl).trans eq⟩), ⟨ra, by omega, e_ra⟩, (fun j hj => by rw [show M 83 j = M 83 j from rfl, show M 84 j = M 84 j from rfl]; exact hsl j hj), ⟨ic, by omega, e_ic⟩, (fun j hj => by obtain ⟨q, hq, eq⟩ := hS j hj; exact ⟨q, hq, (show M 75 j = M 75 j from rfl).trans eq⟩)⟩, ⟨(by unfold RW; grind), Or.inl ⟨by decide, rfl, rfl⟩⟩⟩)
  · obtain ⟨d_, hd_, rfl⟩ := x_natle (N := 5) (by decide) rfl c1
    replace hd_ := Nat.lt_succ_of_le hd_
    refine xr_iload_n dX10_row_7 2 rfl ?_
    refine xr_i2l dX10_row_8 ?_
    refine xr_lconst (v := 0) dX10_row_9 rfl ?_
    refine xr_ldc2 coX10_116 dX10_row_10 ?_
    refine xb_cS (As := [.long ((so).toInt64), .long (0), .long (4)]) (rest := []) mlX10_101 (c_within32 (so) (0) (4) (by decide) (by decide)) dX10_row_13 rfl rfl (Nat.le_of_ble_eq_true rfl) (by decide) (by decide) ?_
    refine xb_beq (tgt := 25) dX10_row_16 rfl (fun c2 => ?_) (fun c2 => ?_)
    · refine xr_iconst (v := -1) dX10_row_25 rfl ?_
      exact xr_iret dX10_row_26 rfl rfl (⟨_, rfl, rfl, (fun _ _ => rfl), Ke.rf, ⟨⟨hn, by omega, e_hn, (fun kw hkw => by rw [show M 63 (5 + kw) = M 63 (5 + kw) from rfl]; exact hw kw hkw)⟩, (by rw [show M 63 16 = M 63 16 from rfl]; exact hbt), ⟨un, wn, by omega, by omega, e_un, e_wn⟩, (fun kk hkk => by rw [show M 64 kk = M 64 kk from rfl, show M 65 kk = M 65 kk from rfl, show M 66 kk = M 66 kk from rfl]; exact hch kk hkk), ⟨n, by omega, e_n⟩, (by rw [show M 62 13 = M 62 13 from rfl]; exact htx), ⟨b, by omega, e_b⟩, (fun j hj => by obtain ⟨q, hq, eq⟩ := hkd j hj; exact ⟨q, hq, (show M 81 j = M 81 j from rfl).trans eq⟩), ⟨ra, by omega, e_ra⟩, (fun j hj => by rw [show M 83 j = M 83 j from rfl, show M 84 j = M 84 j from rfl]; exact hsl j hj), ⟨ic, by omega, e_ic⟩, (fun j hj => by obtain ⟨q, hq, eq⟩ := hS j hj; exact ⟨q, hq, (show M 75 j = M 75 j from rfl).trans eq⟩)⟩, ⟨(by unfold RW; grind), Or.inl ⟨by decide, rfl, rfl⟩⟩⟩)
    · obtain ⟨so_, hso_, rfl⟩ := x_natle (N := 4) (by decide) rfl c2
      replace hso_ := Nat.lt_succ_of_le hso_
      refine xr_iload_n dX10_row_19 3 rfl ?_
      refine xr_bipush (v := 60) dX10_row_20 rfl ?_
      refine xr_icmp_le (tgt := 27) dX10_row_22 rfl (fun c3 => ?_) (fun c3 => ?_)
      · refine xr_iload_n dX10_row_27 3 rfl ?_
        refine xr_if_ge (tgt := 34) dX10_row_28 rfl (fun c4 => ?_) (fun c4 => ?_)
        · obtain ⟨N, hN, rfl⟩ := x_natle (v := nn) (N := 60) (K := 60) (by decide) (by decide) ⟨by grind, by grind⟩
          refine xr_aload_n dX10_row_34 0 rfl ?_
          refine xr_getR flX10_75 dX10_row_35 s_62 rfl ?_
          refine xr_iload_n dX10_row_38 1 rfl ?_
          refine xr_bipush (v := 50) dX10_row_39 rfl ?_
          refine xr_iload_n dX10_row_41 2 rfl ?_
          refine xr_iadd dX10_row_42 ?_
          refine xb_top (y := nI (50 + so_)) (nI_add (50) (so_)) ?_
          refine xb_iast (j := d_) dX10_row_43 s_83 hd_ (by decide) ?_
          refine xr_aload_n dX10_row_44 0 rfl ?_
          refine xr_getR flX10_78 dX10_row_45 s_62 rfl ?_
          refine xr_iload_n dX10_row_48 1 rfl ?_
          refine xr_iload_n dX10_row_49 3 rfl ?_
          refine xb_iast (j := d_) dX10_row_50 s_84 hd_ (by decide) ?_
          refine xr_bipush (v := 60) dX10_row_51 rfl ?_
          refine xr_iload_n dX10_row_53 1 rfl ?_
          refine xr_imul dX10_row_54 ?_
          refine xb_top (y := nI (60 * d_)) (nI_mulc 60 d_) ?_
          refine xr_istore (ls2 := [(4, .int (nI (60 * d_))), (0, .ref (62)), (1, .int (nI (d_))), (2, .int (nI (so_))), (3, .int (nI (N)))]) dX10_row_55 (by decide) rfl ?_
          refine xb_ls (ls2 := [(4, .int (nI (60 * d_))), (3, .int (nI (N))), (2, .int (nI (so_))), (1, .int (nI (d_))), (0, .ref (62))]) [0, 4, 3, 2, 1] rfl ?_
          refine rrw_l hd_ (fun J9 hJ9 hZ9 => ?_) 60 (60 * d_) J (by omega) (Nat.le_refl _) (fun _ _ => rfl) (fun j => by rw [if_neg (by omega)])
          refine xr_iconst (v := 1) dX10_row_83 rfl ?_
          exact xr_iret dX10_row_84 rfl rfl (⟨_, rfl, rfl, (fun p hp => hJ9 p (fun q => hp (Or.inl q))), (Ke.up (by omega) (Ke.up (by omega) Ke.rf)), ⟨⟨hn, by omega, (Eq.trans (congrFun (x_up_n _ _ _ (by decide)) _) (Eq.trans (congrFun (x_up_n _ _ _ (by decide)) _) e_hn)), (fun kw hkw => by rw [show (x_up (x_up M 83 d_ (nI (50 + so_))) 84 d_ (nI (N))) 63 (5 + kw) = M 63 (5 + kw) from (Eq.trans (congrFun (x_up_n _ _ _ (by omega)) _) (Eq.trans (congrFun (x_up_n _ _ _ (by omega)) _) rfl))]; exact hw kw hkw)⟩, (by rw [show (x_up (x_up M 83 d_ (nI (50 + so_))) 84 d_ (nI (N))) 63 16 = M 63 16 from (Eq.trans (congrFun (x_up_n _ _ _ (by omega)) _) (Eq.trans (congrFun (x_up_n _ _ _ (by omega)) _) rfl))]; exact hbt), ⟨un, wn, by omega, by omega, (Eq.trans (congrFun (x_up_n _ _ _ (by decide)) _) (Eq.trans (congrFun (x_up_n _ _ _ (by decide)) _) e_un)), (Eq.trans (congrFun (x_up_n _ _ _ (by decide)) _) (Eq.trans (congrFun (x_up_n _ _ _ (by decide)) _) e_wn))⟩, (fun kk hkk => by rw [show (x_up (x_up M 83 d_ (nI (50 + so_))) 84 d_ (nI (N))) 64 kk = M 64 kk from (Eq.trans (congrFun (x_up_n _ _ _ (by omega)) _) (Eq.trans (congrFun (x_up_n _ _ _ (by omega)) _) rfl)), show (x_up (x_up M 83 d_ (nI (50 + so_))) 84 d_ (nI (N))) 65 kk = M 65 kk from (Eq.trans (congrFun (x_up_n _ _ _ (by omega)) _) (Eq.trans (congrFun (x_up_n _ _ _ (by omega)) _) rfl)), show (x_up (x_up M 83 d_ (nI (50 + so_))) 84 d_ (nI (N))) 66 kk = M 66 kk from (Eq.trans (congrFun (x_up_n _ _ _ (by omega)) _) (Eq.trans (congrFun (x_up_n _ _ _ (by omega)) _) rfl))]; exact hch kk hkk), ⟨n, by omega, (Eq.trans (congrFun (x_up_n _ _ _ (by decide)) _) (Eq.trans (congrFun (x_up_n _ _ _ (by decide)) _) e_n))⟩, (by rw [show (x_up (x_up M 83 d_ (nI (50 + so_))) 84 d_ (nI (N))) 62 13 = M 62 13 from (Eq.trans (congrFun (x_up_n _ _ _ (by omega)) _) (Eq.trans (congrFun (x_up_n _ _ _ (by omega)) _) rfl))]; exact htx), ⟨b, by omega, (Eq.trans (congrFun (x_up_n _ _ _ (by decide)) _) (Eq.trans (congrFun (x_up_n _ _ _ (by decide)) _) e_b))⟩, (fun j hj => by obtain ⟨q, hq, eq⟩ := hkd j hj; exact ⟨q, hq, (show (x_up (x_up M 83 d_ (nI (50 + so_))) 84 d_ (nI (N))) 81 j = M 81 j from (Eq.trans (congrFun (x_up_n _ _ _ (by omega)) _) (Eq.trans (congrFun (x_up_n _ _ _ (by omega)) _) rfl))).trans eq⟩), ⟨ra, by omega, (Eq.trans (congrFun (x_up_n _ _ _ (by decide)) _) (Eq.trans (congrFun (x_up_n _ _ _ (by decide)) _) e_ra))⟩, (fun j hj => by
              by_cases q : j = d_
              · subst q; exact ⟨Or.inr ⟨50 + so_, by omega, (Eq.trans (congrFun (x_up_n _ _ _ (by decide)) _) (x_up_s _ _ _ _))⟩, ⟨N, by omega, (x_up_s _ _ _ _)⟩⟩
              · rw [show (x_up (x_up M 83 d_ (nI (50 + so_))) 84 d_ (nI (N))) 83 j = M 83 j from (Eq.trans (congrFun (x_up_n _ _ _ (by omega)) _) (Eq.trans (x_up_k _ _ _ (by omega)) rfl)), show (x_up (x_up M 83 d_ (nI (50 + so_))) 84 d_ (nI (N))) 84 j = M 84 j from (Eq.trans (x_up_k _ _ _ (by omega)) (Eq.trans (congrFun (x_up_n _ _ _ (by omega)) _) rfl))]; exact hsl j hj), ⟨ic, by omega, (Eq.trans (congrFun (x_up_n _ _ _ (by decide)) _) (Eq.trans (congrFun (x_up_n _ _ _ (by decide)) _) e_ic))⟩, (fun j hj => by obtain ⟨q, hq, eq⟩ := hS j hj; exact ⟨q, hq, (show (x_up (x_up M 83 d_ (nI (50 + so_))) 84 d_ (nI (N))) 75 j = M 75 j from (Eq.trans (congrFun (x_up_n _ _ _ (by omega)) _) (Eq.trans (congrFun (x_up_n _ _ _ (by omega)) _) rfl))).trans eq⟩)⟩, ⟨(by unfold RW; grind), Or.inr ⟨rfl, d_, hd_, rfl, by rw [nI_a50], hZ9⟩⟩⟩)
        · refine xr_bipush (v := -14) dX10_row_31 rfl ?_
          exact xr_iret dX10_row_33 rfl rfl (⟨_, rfl, rfl, (fun _ _ => rfl), Ke.rf, ⟨⟨hn, by omega, e_hn, (fun kw hkw => by rw [show M 63 (5 + kw) = M 63 (5 + kw) from rfl]; exact hw kw hkw)⟩, (by rw [show M 63 16 = M 63 16 from rfl]; exact hbt), ⟨un, wn, by omega, by omega, e_un, e_wn⟩, (fun kk hkk => by rw [show M 64 kk = M 64 kk from rfl, show M 65 kk = M 65 kk from rfl, show M 66 kk = M 66 kk from rfl]; exact hch kk hkk), ⟨n, by omega, e_n⟩, (by rw [show M 62 13 = M 62 13 from rfl]; exact htx), ⟨b, by omega, e_b⟩, (fun j hj => by obtain ⟨q, hq, eq⟩ := hkd j hj; exact ⟨q, hq, (show M 81 j = M 81 j from rfl).trans eq⟩), ⟨ra, by omega, e_ra⟩, (fun j hj => by rw [show M 83 j = M 83 j from rfl, show M 84 j = M 84 j from rfl]; exact hsl j hj), ⟨ic, by omega, e_ic⟩, (fun j hj => by obtain ⟨q, hq, eq⟩ := hS j hj; exact ⟨q, hq, (show M 75 j = M 75 j from rfl).trans eq⟩)⟩, ⟨(by unfold RW; grind), Or.inl ⟨by decide, rfl, rfl⟩⟩⟩)
      · refine xr_iconst (v := -1) dX10_row_25 rfl ?_
        exact xr_iret dX10_row_26 rfl rfl (⟨_, rfl, rfl, (fun _ _ => rfl), Ke.rf, ⟨⟨hn, by omega, e_hn, (fun kw hkw => by rw [show M 63 (5 + kw) = M 63 (5 + kw) from rfl]; exact hw kw hkw)⟩, (by rw [show M 63 16 = M 63 16 from rfl]; exact hbt), ⟨un, wn, by omega, by omega, e_un, e_wn⟩, (fun kk hkk => by rw [show M 64 kk = M 64 kk from rfl, show M 65 kk = M 65 kk from rfl, show M 66 kk = M 66 kk from rfl]; exact hch kk hkk), ⟨n, by omega, e_n⟩, (by rw [show M 62 13 = M 62 13 from rfl]; exact htx), ⟨b, by omega, e_b⟩, (fun j hj => by obtain ⟨q, hq, eq⟩ := hkd j hj; exact ⟨q, hq, (show M 81 j = M 81 j from rfl).trans eq⟩), ⟨ra, by omega, e_ra⟩, (fun j hj => by rw [show M 83 j = M 83 j from rfl, show M 84 j = M 84 j from rfl]; exact hsl j hj), ⟨ic, by omega, e_ic⟩, (fun j hj => by obtain ⟨q, hq, eq⟩ := hS j hj; exact ⟨q, hq, (show M 75 j = M 75 j from rfl).trans eq⟩)⟩, ⟨(by unfold RW; grind), Or.inl ⟨by decide, rfl, rfl⟩⟩⟩)
set_option maxRecDepth 100000 in
set_option maxHeartbeats 4000000 in
theorem gs_X10_put (d i : Int32) (v : Int64) {l : Launch} {G : xG} {M : xM} {J : xJ} (hI : InvR M) : x_M l G fX10_put 3 0 0 [.ref (62), .int (d), .int (i), .long (v)] x_SH M J (qJE WRH (fun p => p = 85 ∨ p = 86) M J (fun r M2 J2 => InvR M2 ∧ EPut10 M M2 J J2 d i v r)) := by
  refine xb_of pX10 (Nat.le_of_ble_eq_true rfl) rfl ?_
  obtain ⟨⟨hn, h_hn, e_hn, hw⟩, hbt, ⟨un, wn, h_uw, h_wn, e_un, e_wn⟩, hch, ⟨n, h_n, e_n⟩, htx, ⟨b, h_b, e_b⟩, hkd, ⟨ra, h_ra, e_ra⟩, hsl, ⟨ic, h_ic, e_ic⟩, hS⟩ := hI
  refine xr_aload_n dX10_put_0 0 rfl ?_
  refine xr_iload_n dX10_put_1 1 rfl ?_
  refine xr_iload_n dX10_put_2 2 rfl ?_
  refine xr_callV (As := [.int (d), .int (i)]) (rest := []) mlX10_364 (gs_X10_refusal d i hsl) dX10_put_3 s_62 rfl rfl (Nat.le_of_ble_eq_true rfl) (by decide) ⟨by decide, by decide⟩ (fun v s2 M9 J2 hq => ?_)
  obtain ⟨r2, rfl, rfl, rfl, rfl, hx1⟩ := hq
  try dsimp only [Option.toList, List.cons_append, List.nil_append]
  refine xr_istore (ls2 := [(5, .int (r2)), (0, .ref (62)), (1, .int (d)), (2, .int (i)), (3, .long (v))]) dX10_put_6 (by decide) rfl ?_
  refine xr_iload dX10_put_8 0 rfl ?_
  refine xr_if_ne (tgt := 37) dX10_put_10 rfl (fun c3 => ?_) (fun c3 => ?_)
  · refine xr_iload dX10_put_37 0 rfl ?_
    refine xr_if_ne (tgt := 46) dX10_put_39 rfl (fun _ => ?_) (fun c => absurd c c3)
    refine xr_iload dX10_put_46 0 rfl ?_
    exact xr_iret dX10_put_48 rfl rfl (⟨_, rfl, rfl, (fun _ _ => rfl), Ke.rf, ⟨⟨hn, by omega, e_hn, (fun kw hkw => by rw [show M 63 (5 + kw) = M 63 (5 + kw) from rfl]; exact hw kw hkw)⟩, (by rw [show M 63 16 = M 63 16 from rfl]; exact hbt), ⟨un, wn, by omega, by omega, e_un, e_wn⟩, (fun kk hkk => by rw [show M 64 kk = M 64 kk from rfl, show M 65 kk = M 65 kk from rfl, show M 66 kk = M 66 kk from rfl]; exact hch kk hkk), ⟨n, by omega, e_n⟩, (by rw [show M 62 13 = M 62 13 from rfl]; exact htx), ⟨b, by omega, e_b⟩, (fun j hj => by obtain ⟨q, hq, eq⟩ := hkd j hj; exact ⟨q, hq, (show M 81 j = M 81 j from rfl).trans eq⟩), ⟨ra, by omega, e_ra⟩, (fun j hj => by rw [show M 83 j = M 83 j from rfl, show M 84 j = M 84 j from rfl]; exact hsl j hj), ⟨ic, by omega, e_ic⟩, (fun j hj => by obtain ⟨q, hq, eq⟩ := hS j hj; exact ⟨q, hq, (show M 75 j = M 75 j from rfl).trans eq⟩)⟩, ⟨rfl, put_no (ref_no hx1 c3)⟩⟩)
  · obtain ⟨d_, i_, hd_, hi9, rfl, rfl, hrr⟩ := ref_ok hx1 c3
    refine xr_aload_n dX10_put_13 1 rfl ?_
    refine xr_getR flX10_81 dX10_put_14 s_62 rfl ?_
    refine xr_bipush (v := 60) dX10_put_17 rfl ?_
    refine xr_iload_n dX10_put_19 2 rfl ?_
    refine xr_imul dX10_put_20 ?_
    refine xb_top (y := nI (60 * d_)) (nI_mulc 60 d_) ?_
    refine xr_iload_n dX10_put_21 3 rfl ?_
    refine xr_iadd dX10_put_22 ?_
    refine xb_top (y := nI (60 * d_ + i_)) (nI_add (60 * d_) (i_)) ?_
    refine xr_aload_n dX10_put_23 1 rfl ?_
    refine xr_getR flX10_75 dX10_put_24 s_62 rfl ?_
    refine xr_iload_n dX10_put_27 2 rfl ?_
    refine xb_iald (j := d_) (v := M 83 d_) dX10_put_28 s_83 hd_ (by decide) rfl ?_
    refine xr_bipush (v := 50) dX10_put_29 rfl ?_
    refine xr_isub dX10_put_31 ?_
    refine xr_lload_n dX10_put_32 4 rfl ?_
    refine xr_callS (As := [.int (((M 83 d_) - 50)), .long (v)]) (rest := [.int (nI (60 * d_ + i_)), .ref (85)]) mlX10_367 (gs_X10_asSort ((M 83 d_) - 50) v) dX10_put_33 rfl rfl (Nat.le_of_ble_eq_true rfl) (by decide) ⟨by decide, by decide⟩ (fun v s2 M9 J2 hq => ?_)
    obtain ⟨r5, rfl, rfl, rfl, rfl, hx4⟩ := hq
    try dsimp only [Option.toList, List.cons_append, List.nil_append]
    subst hx4
    refine xb_last (j := 60 * d_ + i_) dX10_put_36 s_85 (by omega) (by decide) ?_
    refine xr_iload dX10_put_37 0 rfl ?_
    refine xr_if_ne (tgt := 46) dX10_put_39 rfl (fun c => absurd c3 c) (fun _ => ?_)
    refine xr_iconst (v := 1) dX10_put_42 rfl ?_
    refine xr_goto (tgt := 48) dX10_put_43 rfl ?_
    exact xr_iret dX10_put_48 rfl rfl (⟨_, rfl, rfl, (fun p hp => x_upJ_n _ _ _ (fun q => hp (Or.inl q))), Ke.rf, ⟨⟨hn, by omega, e_hn, (fun kw hkw => by rw [show M 63 (5 + kw) = M 63 (5 + kw) from rfl]; exact hw kw hkw)⟩, (by rw [show M 63 16 = M 63 16 from rfl]; exact hbt), ⟨un, wn, by omega, by omega, e_un, e_wn⟩, (fun kk hkk => by rw [show M 64 kk = M 64 kk from rfl, show M 65 kk = M 65 kk from rfl, show M 66 kk = M 66 kk from rfl]; exact hch kk hkk), ⟨n, by omega, e_n⟩, (by rw [show M 62 13 = M 62 13 from rfl]; exact htx), ⟨b, by omega, e_b⟩, (fun j hj => by obtain ⟨q, hq, eq⟩ := hkd j hj; exact ⟨q, hq, (show M 81 j = M 81 j from rfl).trans eq⟩), ⟨ra, by omega, e_ra⟩, (fun j hj => by rw [show M 83 j = M 83 j from rfl, show M 84 j = M 84 j from rfl]; exact hsl j hj), ⟨ic, by omega, e_ic⟩, (fun j hj => by obtain ⟨q, hq, eq⟩ := hS j hj; exact ⟨q, hq, (show M 75 j = M 75 j from rfl).trans eq⟩)⟩, ⟨rfl, Or.inr ⟨d_, hd_, rfl, Or.inr ⟨hrr, rfl, i_, hi9, rfl, rfl⟩⟩⟩⟩)
set_option maxRecDepth 100000 in
set_option maxHeartbeats 4000000 in
theorem gs_X10_element (d i : Int32) {l : Launch} {G : xG} {M : xM} {J : xJ} (hI : InvR M) : x_M l G fX10_element 3 0 0 [.ref (62), .int (d), .int (i)] x_SH M J (qPL M J (fun r => EEl10 M J d i r)) := by
  refine xb_of pX10 (Nat.le_of_ble_eq_true rfl) rfl ?_
  obtain ⟨⟨hn, h_hn, e_hn, hw⟩, hbt, ⟨un, wn, h_uw, h_wn, e_un, e_wn⟩, hch, ⟨n, h_n, e_n⟩, htx, ⟨b, h_b, e_b⟩, hkd, ⟨ra, h_ra, e_ra⟩, hsl, ⟨ic, h_ic, e_ic⟩, hS⟩ := hI
  refine xr_aload_n dX10_element_0 0 rfl ?_
  refine xr_iload_n dX10_element_1 1 rfl ?_
  refine xr_iload_n dX10_element_2 2 rfl ?_
  refine xr_callV (As := [.int (d), .int (i)]) (rest := []) mlX10_364 (gs_X10_refusal d i hsl) dX10_element_3 s_62 rfl rfl (Nat.le_of_ble_eq_true rfl) (by decide) ⟨by decide, by decide⟩ (fun v s2 M9 J2 hq => ?_)
  obtain ⟨r2, rfl, rfl, rfl, rfl, hx1⟩ := hq
  try dsimp only [Option.toList, List.cons_append, List.nil_append]
  refine xr_if_eq (tgt := 15) dX10_element_6 rfl (fun c3 => ?_) (fun c3 => ?_)
  · obtain ⟨d_, i_, hd_, hi9, rfl, rfl, hrr⟩ := ref_ok hx1 c3
    refine xr_aload_n dX10_element_15 0 rfl ?_
    refine xr_getR flX10_81 dX10_element_16 s_62 rfl ?_
    refine xr_bipush (v := 60) dX10_element_19 rfl ?_
    refine xr_iload_n dX10_element_21 1 rfl ?_
    refine xr_imul dX10_element_22 ?_
    refine xb_top (y := nI (60 * d_)) (nI_mulc 60 d_) ?_
    refine xr_iload_n dX10_element_23 2 rfl ?_
    refine xr_iadd dX10_element_24 ?_
    refine xb_top (y := nI (60 * d_ + i_)) (nI_add (60 * d_) (i_)) ?_
    refine xb_lald (j := 60 * d_ + i_) (v := J 85 (60 * d_ + i_)) dX10_element_25 s_85 (by omega) (by decide) rfl ?_
    exact xr_lret dX10_element_26 rfl (⟨_, rfl, rfl, rfl, rfl, (Or.inr ⟨d_, hd_, rfl, Or.inr ⟨hrr, i_, hi9, rfl, rfl⟩⟩)⟩)
  · refine xr_ldc2 coX10_320 dX10_element_9 ?_
    refine xr_goto (tgt := 26) dX10_element_12 rfl ?_
    exact xr_lret dX10_element_26 rfl (⟨_, rfl, rfl, rfl, rfl, (el_no (ref_no hx1 c3) (by decide))⟩)