set_option maxRecDepth 100000 in
set_option maxHeartbeats 4000000 in
theorem gs_X9_body (k : Int32) {l : Launch} {G : xG} {M : xM} {J : xJ} (hI : InvC M) : x_M l G fX9_body 2 0 0 [.ref (0), .int (k)] x_SH M J (qKI WBD M J (fun r M2 => InvC M2 ∧ (EBody (0 ≤ k ∧ k < 8) (M 46 2) (M2 46 2) (M 47) (M2 47) k r))) := by
  refine xb_of pX9 (Nat.le_of_ble_eq_true rfl) rfl ?_
  obtain ⟨⟨cn, h_cn, e_cn⟩, ⟨cm, h_cm, e_cm⟩, ⟨L, h_L, e_L⟩, hv, hD, ⟨n, h_n, e_n⟩, ⟨un, wn, h_uw, h_wn, e_un, e_wn⟩, ⟨b, h_b, e_b⟩, hkd, ⟨ra, h_ra, e_ra⟩, hsl, hS⟩ := hI
  refine xr_iload_n dX9_body_0 1 rfl ?_
  refine xb_cS (As := [.int (k)]) (rest := []) mlX9_327 (c_X9_isKind k) dX9_body_1 rfl rfl (Nat.le_of_ble_eq_true rfl) (by decide) (by decide) ?_
  refine xb_bne (tgt := 9) dX9_body_4 rfl (fun c1 => ?_) (fun c1 => ?_)
  · obtain ⟨q_, hq_, rfl⟩ := x_nat (N := 8) (by decide) rfl c1
    refine xr_aload_n dX9_body_9 0 rfl ?_
    refine xr_getR flX9_61 dX9_body_10 s_0 rfl ?_
    refine xb_cV (As := []) (rest := []) mlX9_330 (c_X8_isFull (by omega) e_b) dX9_body_13 s_46 rfl rfl (Nat.le_of_ble_eq_true rfl) (by decide) (by decide) ?_
    refine xb_beq (tgt := 24) dX9_body_16 rfl (fun c2 => ?_) (fun c2 => ?_)
    · refine xr_aload_n dX9_body_24 0 rfl ?_
      refine xr_getR flX9_61 dX9_body_25 s_0 rfl ?_
      refine xr_iload_n dX9_body_28 1 rfl ?_
      refine xr_callV (As := [.int (nI (q_))]) (rest := []) mlX9_331 (g_X8_addBody (nI (q_)) (by omega) e_b) dX9_body_29 s_46 rfl rfl (Nat.le_of_ble_eq_true rfl) (by decide) ⟨by decide, by decide⟩ (fun v s2 M4 J2 hq => ?_)
      obtain ⟨r6, rfl, rfl, rfl, k5, hx3⟩ := hq
      try dsimp only [Option.toList, List.cons_append, List.nil_append]
      obtain ⟨hr1, hb1, hb2, hb3, hb4⟩ := Or.resolve_left hx3 (fun q => c2 q.2.1)
      exact xr_iret dX9_body_32 rfl rfl (⟨_, rfl, rfl, rfl, (Ke.tr (fun _ _ h => h) Ke.rf k5), ⟨⟨⟨cn, by omega, (Eq.trans (k5 13 2 (by decide)) e_cn)⟩, ⟨cm, by omega, (Eq.trans (k5 20 2 (by decide)) e_cm)⟩, ⟨L, by omega, (Eq.trans (k5 1 4 (by decide)) e_L)⟩, (fun kk hkk => by rw [show M4 3 kk = M 3 kk from (Eq.trans (k5 3 kk (by unfold WBD; omega)) rfl)]; exact hv kk hkk), (DI_ke (by intro k; unfold WBD; omega) k5 hD), ⟨n, by omega, (Eq.trans (k5 6 2 (by decide)) e_n)⟩, ⟨un, wn, by omega, by omega, (Eq.trans (k5 41 4 (by decide)) e_un), (Eq.trans (k5 41 5 (by decide)) e_wn)⟩, ⟨b + 1, by omega, hb2⟩, (fun j hj => by
          by_cases q : j = b
          · subst q; exact ⟨q_, hq_, hb3⟩
          · obtain ⟨z, hz, ez⟩ := hkd j hj; exact ⟨z, hz, (hb4 j q).trans ez⟩), ⟨ra, by omega, (Eq.trans (k5 46 3 (by decide)) e_ra)⟩, (fun j hj => by obtain ⟨s, hs, es⟩ := hsl j hj; exact ⟨s, hs, (show M4 (50 + 2 * j) 3 = M (50 + 2 * j) 3 from (Eq.trans (k5 (50 + 2 * j) 3 (by unfold WBD; omega)) rfl)).trans es⟩), (fun j hj => by obtain ⟨q, hq, eq⟩ := hS j hj; exact ⟨q, hq, (show M4 36 j = M 36 j from (Eq.trans (k5 36 j (by unfold WBD; omega)) rfl)).trans eq⟩)⟩, (Or.inr ⟨b, h_b, e_b, c1, Or.inr ⟨hb1, hr1, hb2, hb3, hb4⟩⟩)⟩⟩)
    · refine xr_bipush (v := -3) dX9_body_19 rfl ?_
      refine xr_goto (tgt := 32) dX9_body_21 rfl ?_
      exact xr_iret dX9_body_32 rfl rfl (⟨_, rfl, rfl, rfl, Ke.rf, ⟨⟨⟨cn, by omega, e_cn⟩, ⟨cm, by omega, e_cm⟩, ⟨L, by omega, e_L⟩, (fun kk hkk => by rw [show M 3 kk = M 3 kk from rfl]; exact hv kk hkk), hD, ⟨n, by omega, e_n⟩, ⟨un, wn, by omega, by omega, e_un, e_wn⟩, ⟨b, by omega, e_b⟩, (fun j hj => by obtain ⟨q, hq, eq⟩ := hkd j hj; exact ⟨q, hq, (show M 47 j = M 47 j from rfl).trans eq⟩), ⟨ra, by omega, e_ra⟩, (fun j hj => by obtain ⟨s, hs, es⟩ := hsl j hj; exact ⟨s, hs, (show M (50 + 2 * j) 3 = M (50 + 2 * j) 3 from rfl).trans es⟩), (fun j hj => by obtain ⟨q, hq, eq⟩ := hS j hj; exact ⟨q, hq, (show M 36 j = M 36 j from rfl).trans eq⟩)⟩, (Or.inr ⟨b, h_b, e_b, c1, Or.inl ⟨by omega, rfl, rfl, rfl⟩⟩)⟩⟩)
  · refine xr_iconst (v := -1) dX9_body_7 rfl ?_
    exact xr_iret dX9_body_8 rfl rfl (⟨_, rfl, rfl, rfl, Ke.rf, ⟨⟨⟨cn, by omega, e_cn⟩, ⟨cm, by omega, e_cm⟩, ⟨L, by omega, e_L⟩, (fun kk hkk => by rw [show M 3 kk = M 3 kk from rfl]; exact hv kk hkk), hD, ⟨n, by omega, e_n⟩, ⟨un, wn, by omega, by omega, e_un, e_wn⟩, ⟨b, by omega, e_b⟩, (fun j hj => by obtain ⟨q, hq, eq⟩ := hkd j hj; exact ⟨q, hq, (show M 47 j = M 47 j from rfl).trans eq⟩), ⟨ra, by omega, e_ra⟩, (fun j hj => by obtain ⟨s, hs, es⟩ := hsl j hj; exact ⟨s, hs, (show M (50 + 2 * j) 3 = M (50 + 2 * j) 3 from rfl).trans es⟩), (fun j hj => by obtain ⟨q, hq, eq⟩ := hS j hj; exact ⟨q, hq, (show M 36 j = M 36 j from rfl).trans eq⟩)⟩, (Or.inl ⟨c1, rfl, rfl, rfl⟩)⟩⟩)
set_option maxRecDepth 100000 in
set_option maxHeartbeats 4000000 in
theorem gs_X9_keep (sh bo : Int32) {l : Launch} {G : xG} {M : xM} {J : xJ} (hI : InvC M) : x_M l G fX9_keep 1 0 0 [.ref (0), .int (sh), .int (bo)] x_SH M J (qKI WKP M J (fun r M2 => InvC M2 ∧ (EKeep9 M M2 sh bo r))) := by
  refine xb_of pX9 (Nat.le_of_ble_eq_true rfl) rfl ?_
  obtain ⟨⟨cn, h_cn, e_cn⟩, ⟨cm, h_cm, e_cm⟩, ⟨L, h_L, e_L⟩, hv, hD, ⟨n, h_n, e_n⟩, ⟨un, wn, h_uw, h_wn, e_un, e_wn⟩, ⟨b, h_b, e_b⟩, hkd, ⟨ra, h_ra, e_ra⟩, hsl, hS⟩ := hI
  refine xr_iload_n dX9_keep_0 1 rfl ?_
  refine xb_cS (As := [.int (sh)]) (rest := []) mlX9_88 (c_X9_isShelf sh) dX9_keep_1 rfl rfl (Nat.le_of_ble_eq_true rfl) (by decide) (by decide) ?_
  refine xb_beq (tgt := 23) dX9_keep_4 rfl (fun c1 => ?_) (fun c1 => ?_)
  · refine xr_iconst (v := -1) dX9_keep_23 rfl ?_
    exact xr_iret dX9_keep_24 rfl rfl (⟨_, rfl, rfl, rfl, Ke.rf, ⟨⟨⟨cn, by omega, e_cn⟩, ⟨cm, by omega, e_cm⟩, ⟨L, by omega, e_L⟩, (fun kk hkk => by rw [show M 3 kk = M 3 kk from rfl]; exact hv kk hkk), hD, ⟨n, by omega, e_n⟩, ⟨un, wn, by omega, by omega, e_un, e_wn⟩, ⟨b, by omega, e_b⟩, (fun j hj => by obtain ⟨q, hq, eq⟩ := hkd j hj; exact ⟨q, hq, (show M 47 j = M 47 j from rfl).trans eq⟩), ⟨ra, by omega, e_ra⟩, (fun j hj => by obtain ⟨s, hs, es⟩ := hsl j hj; exact ⟨s, hs, (show M (50 + 2 * j) 3 = M (50 + 2 * j) 3 from rfl).trans es⟩), (fun j hj => by obtain ⟨q, hq, eq⟩ := hS j hj; exact ⟨q, hq, (show M 36 j = M 36 j from rfl).trans eq⟩)⟩, (Or.inl ⟨Or.inl c1, rfl, rfl⟩)⟩⟩)
  · obtain ⟨s_, hs_, rfl⟩ := x_nat (N := 6) (by decide) rfl c1
    refine xr_iload_n dX9_keep_7 2 rfl ?_
    refine xr_iconst (v := -1) dX9_keep_8 rfl ?_
    refine xr_icmp_eq (tgt := 25) dX9_keep_9 rfl (fun c2 => ?_) (fun c2 => ?_)
    · refine xr_iload_n dX9_keep_25 2 rfl ?_
      refine xr_iconst (v := -1) dX9_keep_26 rfl ?_
      refine xr_icmp_ne (tgt := 42) dX9_keep_27 rfl (fun c => absurd c2 c) (fun _ => ?_)
      refine xr_aload_n dX9_keep_30 0 rfl ?_
      refine xr_getR flX9_67 dX9_keep_31 s_0 rfl ?_
      refine xr_iload_n dX9_keep_34 1 rfl ?_
      refine xb_aald (j := s_) (q := 50 + 2 * s_) (by decide) dX9_keep_35 s_49 hs_ (by decide) (if_pos hs_) ?_
      refine xb_cV (As := []) (rest := []) mlX9_344 (c_X6_holdNothing (s_shelf hs_) (s_elem hs_)) dX9_keep_36 (s_shelf hs_) rfl rfl (Nat.le_of_ble_eq_true rfl) (by decide) (by decide) ?_
      refine xr_goto (tgt := 52) dX9_keep_39 rfl ?_
      refine xr_iconst (v := 1) dX9_keep_52 rfl ?_
      exact xr_iret dX9_keep_53 rfl rfl (⟨_, rfl, rfl, rfl, (Ke.up (by omega) (Ke.up (by omega) Ke.rf)), ⟨⟨⟨cn, by omega, (Eq.trans (congrFun (x_up_n _ _ _ (by omega)) _) (Eq.trans (congrFun (x_up_n _ _ _ (by omega)) _) e_cn))⟩, ⟨cm, by omega, (Eq.trans (congrFun (x_up_n _ _ _ (by omega)) _) (Eq.trans (congrFun (x_up_n _ _ _ (by omega)) _) e_cm))⟩, ⟨L, by omega, (Eq.trans (congrFun (x_up_n _ _ _ (by omega)) _) (Eq.trans (congrFun (x_up_n _ _ _ (by omega)) _) e_L))⟩, (fun kk hkk => by rw [show (x_up (x_up M (50 + 2 * s_) 0 0) (50 + 2 * s_) 3 0) 3 kk = M 3 kk from (Eq.trans (congrFun (x_up_n _ _ _ (by omega)) _) (Eq.trans (congrFun (x_up_n _ _ _ (by omega)) _) rfl))]; exact hv kk hkk), (DI_up (by omega) (DI_up (by omega) hD)), ⟨n, by omega, (Eq.trans (congrFun (x_up_n _ _ _ (by omega)) _) (Eq.trans (congrFun (x_up_n _ _ _ (by omega)) _) e_n))⟩, ⟨un, wn, by omega, by omega, (Eq.trans (congrFun (x_up_n _ _ _ (by omega)) _) (Eq.trans (congrFun (x_up_n _ _ _ (by omega)) _) e_un)), (Eq.trans (congrFun (x_up_n _ _ _ (by omega)) _) (Eq.trans (congrFun (x_up_n _ _ _ (by omega)) _) e_wn))⟩, ⟨b, by omega, (Eq.trans (congrFun (x_up_n _ _ _ (by omega)) _) (Eq.trans (congrFun (x_up_n _ _ _ (by omega)) _) e_b))⟩, (fun j hj => by obtain ⟨q, hq, eq⟩ := hkd j hj; exact ⟨q, hq, (show (x_up (x_up M (50 + 2 * s_) 0 0) (50 + 2 * s_) 3 0) 47 j = M 47 j from (Eq.trans (congrFun (x_up_n _ _ _ (by omega)) _) (Eq.trans (congrFun (x_up_n _ _ _ (by omega)) _) rfl))).trans eq⟩), ⟨ra, by omega, (Eq.trans (congrFun (x_up_n _ _ _ (by omega)) _) (Eq.trans (congrFun (x_up_n _ _ _ (by omega)) _) e_ra))⟩, (fun j hj => by
          by_cases q : j = s_
          · subst q; exact ⟨0, by omega, (x_up_s _ _ _ _)⟩
          · obtain ⟨z, hz, ez⟩ := hsl j hj; exact ⟨z, hz, (show (x_up (x_up M (50 + 2 * s_) 0 0) (50 + 2 * s_) 3 0) (50 + 2 * j) 3 = M (50 + 2 * j) 3 from (Eq.trans (congrFun (x_up_n _ _ _ (by omega)) _) (Eq.trans (congrFun (x_up_n _ _ _ (by omega)) _) rfl))).trans ez⟩), (fun j hj => by obtain ⟨q, hq, eq⟩ := hS j hj; exact ⟨q, hq, (show (x_up (x_up M (50 + 2 * s_) 0 0) (50 + 2 * s_) 3 0) 36 j = M 36 j from (Eq.trans (congrFun (x_up_n _ _ _ (by omega)) _) (Eq.trans (congrFun (x_up_n _ _ _ (by omega)) _) rfl))).trans eq⟩)⟩, (Or.inr ⟨s_, hs_, rfl, rfl, Or.inl ⟨c2, rfl⟩⟩)⟩⟩)
    · refine xr_aload_n dX9_keep_12 0 rfl ?_
      refine xr_getR flX9_61 dX9_keep_13 s_0 rfl ?_
      refine xr_iload_n dX9_keep_16 2 rfl ?_
      refine xb_cV (As := [.int (bo)]) (rest := []) mlX9_337 (c_X8_has bo (by omega) e_b) dX9_keep_17 s_46 rfl rfl (Nat.le_of_ble_eq_true rfl) (by decide) (by decide) ?_
      refine xb_bne (tgt := 25) dX9_keep_20 rfl (fun c3 => ?_) (fun c3 => ?_)
      · refine xr_iload_n dX9_keep_25 2 rfl ?_
        refine xr_iconst (v := -1) dX9_keep_26 rfl ?_
        refine xr_icmp_ne (tgt := 42) dX9_keep_27 rfl (fun _ => ?_) (fun c => absurd c c2)
        refine xr_aload_n dX9_keep_42 0 rfl ?_
        refine xr_getR flX9_67 dX9_keep_43 s_0 rfl ?_
        refine xr_iload_n dX9_keep_46 1 rfl ?_
        refine xb_aald (j := s_) (q := 50 + 2 * s_) (by decide) dX9_keep_47 s_49 hs_ (by decide) (if_pos hs_) ?_
        refine xr_iload_n dX9_keep_48 2 rfl ?_
        refine xb_cV (As := [.int (bo)]) (rest := []) mlX9_347 (c_X6_holdTurn bo (s_shelf hs_) (s_elem hs_)) dX9_keep_49 (s_shelf hs_) rfl rfl (Nat.le_of_ble_eq_true rfl) (by decide) (by decide) ?_
        refine xr_iconst (v := 1) dX9_keep_52 rfl ?_
        exact xr_iret dX9_keep_53 rfl rfl (⟨_, rfl, rfl, rfl, (Ke.up (by omega) (Ke.up (by omega) (Ke.up (by omega) Ke.rf))), ⟨⟨⟨cn, by omega, (Eq.trans (congrFun (x_up_n _ _ _ (by omega)) _) (Eq.trans (congrFun (x_up_n _ _ _ (by omega)) _) (Eq.trans (congrFun (x_up_n _ _ _ (by omega)) _) e_cn)))⟩, ⟨cm, by omega, (Eq.trans (congrFun (x_up_n _ _ _ (by omega)) _) (Eq.trans (congrFun (x_up_n _ _ _ (by omega)) _) (Eq.trans (congrFun (x_up_n _ _ _ (by omega)) _) e_cm)))⟩, ⟨L, by omega, (Eq.trans (congrFun (x_up_n _ _ _ (by omega)) _) (Eq.trans (congrFun (x_up_n _ _ _ (by omega)) _) (Eq.trans (congrFun (x_up_n _ _ _ (by omega)) _) e_L)))⟩, (fun kk hkk => by rw [show (x_up (x_up (x_up M (50 + 2 * s_) 0 1) (50 + 2 * s_) 1 bo) (50 + 2 * s_) 3 0) 3 kk = M 3 kk from (Eq.trans (congrFun (x_up_n _ _ _ (by omega)) _) (Eq.trans (congrFun (x_up_n _ _ _ (by omega)) _) (Eq.trans (congrFun (x_up_n _ _ _ (by omega)) _) rfl)))]; exact hv kk hkk), (DI_up (by omega) (DI_up (by omega) (DI_up (by omega) hD))), ⟨n, by omega, (Eq.trans (congrFun (x_up_n _ _ _ (by omega)) _) (Eq.trans (congrFun (x_up_n _ _ _ (by omega)) _) (Eq.trans (congrFun (x_up_n _ _ _ (by omega)) _) e_n)))⟩, ⟨un, wn, by omega, by omega, (Eq.trans (congrFun (x_up_n _ _ _ (by omega)) _) (Eq.trans (congrFun (x_up_n _ _ _ (by omega)) _) (Eq.trans (congrFun (x_up_n _ _ _ (by omega)) _) e_un))), (Eq.trans (congrFun (x_up_n _ _ _ (by omega)) _) (Eq.trans (congrFun (x_up_n _ _ _ (by omega)) _) (Eq.trans (congrFun (x_up_n _ _ _ (by omega)) _) e_wn)))⟩, ⟨b, by omega, (Eq.trans (congrFun (x_up_n _ _ _ (by omega)) _) (Eq.trans (congrFun (x_up_n _ _ _ (by omega)) _) (Eq.trans (congrFun (x_up_n _ _ _ (by omega)) _) e_b)))⟩, (fun j hj => by obtain ⟨q, hq, eq⟩ := hkd j hj; exact ⟨q, hq, (show (x_up (x_up (x_up M (50 + 2 * s_) 0 1) (50 + 2 * s_) 1 bo) (50 + 2 * s_) 3 0) 47 j = M 47 j from (Eq.trans (congrFun (x_up_n _ _ _ (by omega)) _) (Eq.trans (congrFun (x_up_n _ _ _ (by omega)) _) (Eq.trans (congrFun (x_up_n _ _ _ (by omega)) _) rfl)))).trans eq⟩), ⟨ra, by omega, (Eq.trans (congrFun (x_up_n _ _ _ (by omega)) _) (Eq.trans (congrFun (x_up_n _ _ _ (by omega)) _) (Eq.trans (congrFun (x_up_n _ _ _ (by omega)) _) e_ra)))⟩, (fun j hj => by
            by_cases q : j = s_
            · subst q; exact ⟨0, by omega, (x_up_s _ _ _ _)⟩
            · obtain ⟨z, hz, ez⟩ := hsl j hj; exact ⟨z, hz, (show (x_up (x_up (x_up M (50 + 2 * s_) 0 1) (50 + 2 * s_) 1 bo) (50 + 2 * s_) 3 0) (50 + 2 * j) 3 = M (50 + 2 * j) 3 from (Eq.trans (congrFun (x_up_n _ _ _ (by omega)) _) (Eq.trans (congrFun (x_up_n _ _ _ (by omega)) _) (Eq.trans (congrFun (x_up_n _ _ _ (by omega)) _) rfl)))).trans ez⟩), (fun j hj => by obtain ⟨q, hq, eq⟩ := hS j hj; exact ⟨q, hq, (show (x_up (x_up (x_up M (50 + 2 * s_) 0 1) (50 + 2 * s_) 1 bo) (50 + 2 * s_) 3 0) 36 j = M 36 j from (Eq.trans (congrFun (x_up_n _ _ _ (by omega)) _) (Eq.trans (congrFun (x_up_n _ _ _ (by omega)) _) (Eq.trans (congrFun (x_up_n _ _ _ (by omega)) _) rfl)))).trans eq⟩)⟩, (Or.inr ⟨s_, hs_, rfl, rfl, Or.inr ⟨c2, by rw [e_b]; exact c3, rfl⟩⟩)⟩⟩)
      · refine xr_iconst (v := -1) dX9_keep_23 rfl ?_
        exact xr_iret dX9_keep_24 rfl rfl (⟨_, rfl, rfl, rfl, Ke.rf, ⟨⟨⟨cn, by omega, e_cn⟩, ⟨cm, by omega, e_cm⟩, ⟨L, by omega, e_L⟩, (fun kk hkk => by rw [show M 3 kk = M 3 kk from rfl]; exact hv kk hkk), hD, ⟨n, by omega, e_n⟩, ⟨un, wn, by omega, by omega, e_un, e_wn⟩, ⟨b, by omega, e_b⟩, (fun j hj => by obtain ⟨q, hq, eq⟩ := hkd j hj; exact ⟨q, hq, (show M 47 j = M 47 j from rfl).trans eq⟩), ⟨ra, by omega, e_ra⟩, (fun j hj => by obtain ⟨s, hs, es⟩ := hsl j hj; exact ⟨s, hs, (show M (50 + 2 * j) 3 = M (50 + 2 * j) 3 from rfl).trans es⟩), (fun j hj => by obtain ⟨q, hq, eq⟩ := hS j hj; exact ⟨q, hq, (show M 36 j = M 36 j from rfl).trans eq⟩)⟩, (Or.inl ⟨Or.inr ⟨c1, c2, by rw [e_b]; exact c3⟩, rfl, rfl⟩)⟩⟩)
set_option maxRecDepth 100000 in
set_option maxHeartbeats 4000000 in
theorem gs_X9_row (sh so nn : Int32) {l : Launch} {G : xG} {M : xM} {J : xJ} (hI : InvC M) : x_M l G fX9_row 1 0 0 [.ref (0), .int (sh), .int (so), .int (nn)] x_SH M J (qJE WKP (fun p => 50 ≤ p ∧ p ≤ 61) M J (fun r M2 J2 => InvC M2 ∧ ERow9 M M2 J J2 sh so nn r)) := by
  refine xb_of pX9 (Nat.le_of_ble_eq_true rfl) rfl ?_
  obtain ⟨⟨cn, h_cn, e_cn⟩, ⟨cm, h_cm, e_cm⟩, ⟨L, h_L, e_L⟩, hv, hD, ⟨n, h_n, e_n⟩, ⟨un, wn, h_uw, h_wn, e_un, e_wn⟩, ⟨b, h_b, e_b⟩, hkd, ⟨ra, h_ra, e_ra⟩, hsl, hS⟩ := hI
  refine xr_iload_n dX9_row_0 1 rfl ?_
  refine xb_cS (As := [.int (sh)]) (rest := []) mlX9_88 (c_X9_isShelf sh) dX9_row_1 rfl rfl (Nat.le_of_ble_eq_true rfl) (by decide) (by decide) ?_
  refine xb_beq (tgt := 20) dX9_row_4 rfl (fun c1 => ?_) (fun c1 => ?_)
  · refine xr_iconst (v := -1) dX9_row_20 rfl ?_
    exact xr_iret dX9_row_21 rfl rfl (⟨_, rfl, rfl, (fun _ _ => rfl), Ke.rf, ⟨⟨cn, by omega, e_cn⟩, ⟨cm, by omega, e_cm⟩, ⟨L, by omega, e_L⟩, (fun kk hkk => by rw [show M 3 kk = M 3 kk from rfl]; exact hv kk hkk), hD, ⟨n, by omega, e_n⟩, ⟨un, wn, by omega, by omega, e_un, e_wn⟩, ⟨b, by omega, e_b⟩, (fun j hj => by obtain ⟨q, hq, eq⟩ := hkd j hj; exact ⟨q, hq, (show M 47 j = M 47 j from rfl).trans eq⟩), ⟨ra, by omega, e_ra⟩, (fun j hj => by obtain ⟨s, hs, es⟩ := hsl j hj; exact ⟨s, hs, (show M (50 + 2 * j) 3 = M (50 + 2 * j) 3 from rfl).trans es⟩), (fun j hj => by obtain ⟨q, hq, eq⟩ := hS j hj; exact ⟨q, hq, (show M 36 j = M 36 j from rfl).trans eq⟩)⟩, ⟨(by unfold RW; grind), Or.inl ⟨by decide, rfl, rfl⟩⟩⟩)
  · obtain ⟨s_, hs_, rfl⟩ := x_nat (N := 6) (by decide) rfl c1
    refine xr_iload_n dX9_row_7 2 rfl ?_
    refine xb_cS (As := [.int (so)]) (rest := []) mlX9_350 (c_X6_isSort so) dX9_row_8 rfl rfl (Nat.le_of_ble_eq_true rfl) (by decide) (by decide) ?_
    refine xb_beq (tgt := 20) dX9_row_11 rfl (fun c2 => ?_) (fun c2 => ?_)
    · refine xr_iconst (v := -1) dX9_row_20 rfl ?_
      exact xr_iret dX9_row_21 rfl rfl (⟨_, rfl, rfl, (fun _ _ => rfl), Ke.rf, ⟨⟨cn, by omega, e_cn⟩, ⟨cm, by omega, e_cm⟩, ⟨L, by omega, e_L⟩, (fun kk hkk => by rw [show M 3 kk = M 3 kk from rfl]; exact hv kk hkk), hD, ⟨n, by omega, e_n⟩, ⟨un, wn, by omega, by omega, e_un, e_wn⟩, ⟨b, by omega, e_b⟩, (fun j hj => by obtain ⟨q, hq, eq⟩ := hkd j hj; exact ⟨q, hq, (show M 47 j = M 47 j from rfl).trans eq⟩), ⟨ra, by omega, e_ra⟩, (fun j hj => by obtain ⟨s, hs, es⟩ := hsl j hj; exact ⟨s, hs, (show M (50 + 2 * j) 3 = M (50 + 2 * j) 3 from rfl).trans es⟩), (fun j hj => by obtain ⟨q, hq, eq⟩ := hS j hj; exact ⟨q, hq, (show M 36 j = M 36 j from rfl).trans eq⟩)⟩, ⟨(by unfold RW; grind), Or.inl ⟨by decide, rfl, rfl⟩⟩⟩)
    · refine xr_iload_n dX9_row_14 3 rfl ?_
      refine xr_bipush (v := 60) dX9_row_15 rfl ?_
      refine xr_icmp_le (tgt := 22) dX9_row_17 rfl (fun c3 => ?_) (fun c3 => ?_)
      · refine xr_iload_n dX9_row_22 3 rfl ?_
        refine xr_if_ge (tgt := 29) dX9_row_23 rfl (fun c4 => ?_) (fun c4 => ?_)
        · obtain ⟨N, hN, rfl⟩ := x_natle (v := nn) (N := 60) (K := 60) (by decide) (by decide) ⟨by grind, by grind⟩
          refine xr_aload_n dX9_row_29 0 rfl ?_
          refine xr_getR flX9_67 dX9_row_30 s_0 rfl ?_
          refine xr_iload_n dX9_row_33 1 rfl ?_
          refine xb_aald (j := s_) (q := 50 + 2 * s_) (by decide) dX9_row_34 s_49 hs_ (by decide) (if_pos hs_) ?_
          refine xr_iload_n dX9_row_35 2 rfl ?_
          refine xr_iload_n dX9_row_36 3 rfl ?_
          refine xr_callV (As := [.int (so), .int (nI (N))]) (rest := []) mlX9_353 (g_X6_holdRow so (nI (N)) (s_shelf hs_) (s_elem hs_)) dX9_row_37 (s_shelf hs_) rfl rfl (Nat.le_of_ble_eq_true rfl) (by decide) ⟨by decide, by decide⟩ (fun v s2 M9 J5 hq => ?_)
          obtain ⟨rfl, rfl, rfl, hJ, hJ0⟩ := hq
          try dsimp only [Option.toList, List.cons_append, List.nil_append]
          refine xr_iconst (v := 1) dX9_row_40 rfl ?_
          exact xr_iret dX9_row_41 rfl rfl (⟨_, rfl, rfl, (fun p hp => hJ p (fun q => hp (by omega))), (Ke.up (by omega) (Ke.up (by omega) (Ke.up (by omega) Ke.rf))), ⟨⟨cn, by omega, (Eq.trans (congrFun (x_up_n _ _ _ (by omega)) _) (Eq.trans (congrFun (x_up_n _ _ _ (by omega)) _) (Eq.trans (congrFun (x_up_n _ _ _ (by omega)) _) e_cn)))⟩, ⟨cm, by omega, (Eq.trans (congrFun (x_up_n _ _ _ (by omega)) _) (Eq.trans (congrFun (x_up_n _ _ _ (by omega)) _) (Eq.trans (congrFun (x_up_n _ _ _ (by omega)) _) e_cm)))⟩, ⟨L, by omega, (Eq.trans (congrFun (x_up_n _ _ _ (by omega)) _) (Eq.trans (congrFun (x_up_n _ _ _ (by omega)) _) (Eq.trans (congrFun (x_up_n _ _ _ (by omega)) _) e_L)))⟩, (fun kk hkk => by rw [show (x_up (x_up (x_up M (50 + 2 * s_) 0 2) (50 + 2 * s_) 2 so) (50 + 2 * s_) 3 (nI (N))) 3 kk = M 3 kk from (Eq.trans (congrFun (x_up_n _ _ _ (by omega)) _) (Eq.trans (congrFun (x_up_n _ _ _ (by omega)) _) (Eq.trans (congrFun (x_up_n _ _ _ (by omega)) _) rfl)))]; exact hv kk hkk), (DI_up (by omega) (DI_up (by omega) (DI_up (by omega) hD))), ⟨n, by omega, (Eq.trans (congrFun (x_up_n _ _ _ (by omega)) _) (Eq.trans (congrFun (x_up_n _ _ _ (by omega)) _) (Eq.trans (congrFun (x_up_n _ _ _ (by omega)) _) e_n)))⟩, ⟨un, wn, by omega, by omega, (Eq.trans (congrFun (x_up_n _ _ _ (by omega)) _) (Eq.trans (congrFun (x_up_n _ _ _ (by omega)) _) (Eq.trans (congrFun (x_up_n _ _ _ (by omega)) _) e_un))), (Eq.trans (congrFun (x_up_n _ _ _ (by omega)) _) (Eq.trans (congrFun (x_up_n _ _ _ (by omega)) _) (Eq.trans (congrFun (x_up_n _ _ _ (by omega)) _) e_wn)))⟩, ⟨b, by omega, (Eq.trans (congrFun (x_up_n _ _ _ (by omega)) _) (Eq.trans (congrFun (x_up_n _ _ _ (by omega)) _) (Eq.trans (congrFun (x_up_n _ _ _ (by omega)) _) e_b)))⟩, (fun j hj => by obtain ⟨q, hq, eq⟩ := hkd j hj; exact ⟨q, hq, (show (x_up (x_up (x_up M (50 + 2 * s_) 0 2) (50 + 2 * s_) 2 so) (50 + 2 * s_) 3 (nI (N))) 47 j = M 47 j from (Eq.trans (congrFun (x_up_n _ _ _ (by omega)) _) (Eq.trans (congrFun (x_up_n _ _ _ (by omega)) _) (Eq.trans (congrFun (x_up_n _ _ _ (by omega)) _) rfl)))).trans eq⟩), ⟨ra, by omega, (Eq.trans (congrFun (x_up_n _ _ _ (by omega)) _) (Eq.trans (congrFun (x_up_n _ _ _ (by omega)) _) (Eq.trans (congrFun (x_up_n _ _ _ (by omega)) _) e_ra)))⟩, (fun j hj => by
              by_cases q : j = s_
              · subst q; exact ⟨N, by omega, (x_up_s _ _ _ _)⟩
              · obtain ⟨z, hz, ez⟩ := hsl j hj; exact ⟨z, hz, (show (x_up (x_up (x_up M (50 + 2 * s_) 0 2) (50 + 2 * s_) 2 so) (50 + 2 * s_) 3 (nI (N))) (50 + 2 * j) 3 = M (50 + 2 * j) 3 from (Eq.trans (congrFun (x_up_n _ _ _ (by omega)) _) (Eq.trans (congrFun (x_up_n _ _ _ (by omega)) _) (Eq.trans (congrFun (x_up_n _ _ _ (by omega)) _) rfl)))).trans ez⟩), (fun j hj => by obtain ⟨q, hq, eq⟩ := hS j hj; exact ⟨q, hq, (show (x_up (x_up (x_up M (50 + 2 * s_) 0 2) (50 + 2 * s_) 2 so) (50 + 2 * s_) 3 (nI (N))) 36 j = M 36 j from (Eq.trans (congrFun (x_up_n _ _ _ (by omega)) _) (Eq.trans (congrFun (x_up_n _ _ _ (by omega)) _) (Eq.trans (congrFun (x_up_n _ _ _ (by omega)) _) rfl)))).trans eq⟩)⟩, ⟨(by unfold RW; grind), Or.inr ⟨rfl, s_, hs_, rfl, rfl, hJ, hJ0⟩⟩⟩)
        · refine xr_bipush (v := -14) dX9_row_26 rfl ?_
          exact xr_iret dX9_row_28 rfl rfl (⟨_, rfl, rfl, (fun _ _ => rfl), Ke.rf, ⟨⟨cn, by omega, e_cn⟩, ⟨cm, by omega, e_cm⟩, ⟨L, by omega, e_L⟩, (fun kk hkk => by rw [show M 3 kk = M 3 kk from rfl]; exact hv kk hkk), hD, ⟨n, by omega, e_n⟩, ⟨un, wn, by omega, by omega, e_un, e_wn⟩, ⟨b, by omega, e_b⟩, (fun j hj => by obtain ⟨q, hq, eq⟩ := hkd j hj; exact ⟨q, hq, (show M 47 j = M 47 j from rfl).trans eq⟩), ⟨ra, by omega, e_ra⟩, (fun j hj => by obtain ⟨s, hs, es⟩ := hsl j hj; exact ⟨s, hs, (show M (50 + 2 * j) 3 = M (50 + 2 * j) 3 from rfl).trans es⟩), (fun j hj => by obtain ⟨q, hq, eq⟩ := hS j hj; exact ⟨q, hq, (show M 36 j = M 36 j from rfl).trans eq⟩)⟩, ⟨(by unfold RW; grind), Or.inl ⟨by decide, rfl, rfl⟩⟩⟩)
      · refine xr_iconst (v := -1) dX9_row_20 rfl ?_
        exact xr_iret dX9_row_21 rfl rfl (⟨_, rfl, rfl, (fun _ _ => rfl), Ke.rf, ⟨⟨cn, by omega, e_cn⟩, ⟨cm, by omega, e_cm⟩, ⟨L, by omega, e_L⟩, (fun kk hkk => by rw [show M 3 kk = M 3 kk from rfl]; exact hv kk hkk), hD, ⟨n, by omega, e_n⟩, ⟨un, wn, by omega, by omega, e_un, e_wn⟩, ⟨b, by omega, e_b⟩, (fun j hj => by obtain ⟨q, hq, eq⟩ := hkd j hj; exact ⟨q, hq, (show M 47 j = M 47 j from rfl).trans eq⟩), ⟨ra, by omega, e_ra⟩, (fun j hj => by obtain ⟨s, hs, es⟩ := hsl j hj; exact ⟨s, hs, (show M (50 + 2 * j) 3 = M (50 + 2 * j) 3 from rfl).trans es⟩), (fun j hj => by obtain ⟨q, hq, eq⟩ := hS j hj; exact ⟨q, hq, (show M 36 j = M 36 j from rfl).trans eq⟩)⟩, ⟨(by unfold RW; grind), Or.inl ⟨by decide, rfl, rfl⟩⟩⟩)
set_option maxRecDepth 100000 in
set_option maxHeartbeats 4000000 in
theorem gs_X9_put (sh i : Int32) (v : Int64) {l : Launch} {G : xG} {M : xM} {J : xJ} (hI : InvC M) : x_M l G fX9_put 2 0 0 [.ref (0), .int (sh), .int (i), .long (v)] x_SH M J (qJE WKP (fun p => 50 ≤ p ∧ p ≤ 61) M J (fun r M2 J2 => InvC M2 ∧ EPut9 M M2 J J2 sh i v r)) := by
  refine xb_of pX9 (Nat.le_of_ble_eq_true rfl) rfl ?_
  obtain ⟨⟨cn, h_cn, e_cn⟩, ⟨cm, h_cm, e_cm⟩, ⟨L, h_L, e_L⟩, hv, hD, ⟨n, h_n, e_n⟩, ⟨un, wn, h_uw, h_wn, e_un, e_wn⟩, ⟨b, h_b, e_b⟩, hkd, ⟨ra, h_ra, e_ra⟩, hsl, hS⟩ := hI
  refine xr_iload_n dX9_put_0 1 rfl ?_
  refine xb_cS (As := [.int (sh)]) (rest := []) mlX9_88 (c_X9_isShelf sh) dX9_put_1 rfl rfl (Nat.le_of_ble_eq_true rfl) (by decide) (by decide) ?_
  refine xb_bne (tgt := 9) dX9_put_4 rfl (fun c1 => ?_) (fun c1 => ?_)
  · obtain ⟨s_, hs_, rfl⟩ := x_nat (N := 6) (by decide) rfl c1
    refine xr_aload_n dX9_put_9 0 rfl ?_
    refine xr_getR flX9_67 dX9_put_10 s_0 rfl ?_
    refine xr_iload_n dX9_put_13 1 rfl ?_
    refine xb_aald (j := s_) (q := 50 + 2 * s_) (by decide) dX9_put_14 s_49 hs_ (by decide) (if_pos hs_) ?_
    refine xr_iload_n dX9_put_15 2 rfl ?_
    refine xb_cV (As := [.int (i)]) (rest := []) mlX9_356 (c_X6_placeRefusal i (s_shelf hs_) (s_elem hs_)) dX9_put_16 (s_shelf hs_) rfl rfl (Nat.le_of_ble_eq_true rfl) (by decide) (by decide) ?_
    refine xr_istore (ls2 := [(5, .int ((if M (50 + 2 * s_) 0 = 0 then -11 else if M (50 + 2 * s_) 0 = 2 then (if 0 ≤ i ∧ i < M (50 + 2 * s_) 3 then 0 else -13) else -12))), (0, .ref (0)), (1, .int (nI (s_))), (2, .int (i)), (3, .long (v))]) dX9_put_19 (by decide) rfl ?_
    refine xr_iload dX9_put_21 0 rfl ?_
    refine xr_if_eq (tgt := 29) dX9_put_23 rfl (fun c2 => ?_) (fun c2 => ?_)
    · obtain ⟨sl, hsl1, esl⟩ := hsl s_ hs_
      obtain ⟨i_, hi_, rfl⟩ := pr_in hsl1 esl c2
      refine xr_aload_n dX9_put_29 1 rfl ?_
      refine xr_getR flX9_67 dX9_put_30 s_0 rfl ?_
      refine xr_iload_n dX9_put_33 2 rfl ?_
      refine xb_aald (j := s_) (q := 50 + 2 * s_) (by decide) dX9_put_34 s_49 hs_ (by decide) (if_pos hs_) ?_
      refine xr_iload_n dX9_put_35 3 rfl ?_
      refine xr_lload_n dX9_put_36 4 rfl ?_
      refine xr_callV (As := [.int (nI (i_)), .long (v)]) (rest := []) mlX9_359 (gs_X6_lay v (j := i_) (by omega) (s_shelf hs_) (s_elem hs_)) dX9_put_37 (s_shelf hs_) rfl rfl (Nat.le_of_ble_eq_true rfl) (by decide) ⟨by decide, by decide⟩ (fun v s2 M9 J3 hq => ?_)
      obtain ⟨rfl, rfl, rfl, hJ⟩ := hq
      try dsimp only [Option.toList, List.cons_append, List.nil_append]
      refine xr_iconst (v := 1) dX9_put_40 rfl ?_
      exact xr_iret dX9_put_41 rfl rfl (⟨_, rfl, rfl, (fun p hp => by rw [hJ]; exact x_upJ_n _ _ _ (fun q => hp (by omega))), Ke.rf, ⟨⟨cn, by omega, e_cn⟩, ⟨cm, by omega, e_cm⟩, ⟨L, by omega, e_L⟩, (fun kk hkk => by rw [show M 3 kk = M 3 kk from rfl]; exact hv kk hkk), hD, ⟨n, by omega, e_n⟩, ⟨un, wn, by omega, by omega, e_un, e_wn⟩, ⟨b, by omega, e_b⟩, (fun j hj => by obtain ⟨q, hq, eq⟩ := hkd j hj; exact ⟨q, hq, (show M 47 j = M 47 j from rfl).trans eq⟩), ⟨ra, by omega, e_ra⟩, (fun j hj => by obtain ⟨s, hs, es⟩ := hsl j hj; exact ⟨s, hs, (show M (50 + 2 * j) 3 = M (50 + 2 * j) 3 from rfl).trans es⟩), (fun j hj => by obtain ⟨q, hq, eq⟩ := hS j hj; exact ⟨q, hq, (show M 36 j = M 36 j from rfl).trans eq⟩)⟩, ⟨rfl, Or.inr ⟨s_, hs_, rfl, Or.inr ⟨c2, rfl, i_, by omega, rfl, hJ⟩⟩⟩⟩)
    · refine xr_iload dX9_put_26 0 rfl ?_
      exact xr_iret dX9_put_28 rfl rfl (⟨_, rfl, rfl, (fun _ _ => rfl), Ke.rf, ⟨⟨cn, by omega, e_cn⟩, ⟨cm, by omega, e_cm⟩, ⟨L, by omega, e_L⟩, (fun kk hkk => by rw [show M 3 kk = M 3 kk from rfl]; exact hv kk hkk), hD, ⟨n, by omega, e_n⟩, ⟨un, wn, by omega, by omega, e_un, e_wn⟩, ⟨b, by omega, e_b⟩, (fun j hj => by obtain ⟨q, hq, eq⟩ := hkd j hj; exact ⟨q, hq, (show M 47 j = M 47 j from rfl).trans eq⟩), ⟨ra, by omega, e_ra⟩, (fun j hj => by obtain ⟨s, hs, es⟩ := hsl j hj; exact ⟨s, hs, (show M (50 + 2 * j) 3 = M (50 + 2 * j) 3 from rfl).trans es⟩), (fun j hj => by obtain ⟨q, hq, eq⟩ := hS j hj; exact ⟨q, hq, (show M 36 j = M 36 j from rfl).trans eq⟩)⟩, ⟨rfl, Or.inr ⟨s_, hs_, rfl, Or.inl ⟨c2, rfl, rfl⟩⟩⟩⟩)
  · refine xr_iconst (v := -1) dX9_put_7 rfl ?_
    exact xr_iret dX9_put_8 rfl rfl (⟨_, rfl, rfl, (fun _ _ => rfl), Ke.rf, ⟨⟨cn, by omega, e_cn⟩, ⟨cm, by omega, e_cm⟩, ⟨L, by omega, e_L⟩, (fun kk hkk => by rw [show M 3 kk = M 3 kk from rfl]; exact hv kk hkk), hD, ⟨n, by omega, e_n⟩, ⟨un, wn, by omega, by omega, e_un, e_wn⟩, ⟨b, by omega, e_b⟩, (fun j hj => by obtain ⟨q, hq, eq⟩ := hkd j hj; exact ⟨q, hq, (show M 47 j = M 47 j from rfl).trans eq⟩), ⟨ra, by omega, e_ra⟩, (fun j hj => by obtain ⟨s, hs, es⟩ := hsl j hj; exact ⟨s, hs, (show M (50 + 2 * j) 3 = M (50 + 2 * j) 3 from rfl).trans es⟩), (fun j hj => by obtain ⟨q, hq, eq⟩ := hS j hj; exact ⟨q, hq, (show M 36 j = M 36 j from rfl).trans eq⟩)⟩, ⟨rfl, Or.inl ⟨c1, rfl, rfl⟩⟩⟩)
set_option maxRecDepth 100000 in
set_option maxHeartbeats 4000000 in
theorem gs_X9_element (sh i : Int32) {l : Launch} {G : xG} {M : xM} {J : xJ} (hI : InvC M) : x_M l G fX9_element 2 0 0 [.ref (0), .int (sh), .int (i)] x_SH M J (qPL M J (fun r => EEl9 M J sh i r)) := by
  refine xb_of pX9 (Nat.le_of_ble_eq_true rfl) rfl ?_
  obtain ⟨⟨cn, h_cn, e_cn⟩, ⟨cm, h_cm, e_cm⟩, ⟨L, h_L, e_L⟩, hv, hD, ⟨n, h_n, e_n⟩, ⟨un, wn, h_uw, h_wn, e_un, e_wn⟩, ⟨b, h_b, e_b⟩, hkd, ⟨ra, h_ra, e_ra⟩, hsl, hS⟩ := hI
  refine xr_iload_n dX9_element_0 1 rfl ?_
  refine xb_cS (As := [.int (sh)]) (rest := []) mlX9_88 (c_X9_isShelf sh) dX9_element_1 rfl rfl (Nat.le_of_ble_eq_true rfl) (by decide) (by decide) ?_
  refine xb_beq (tgt := 20) dX9_element_4 rfl (fun c1 => ?_) (fun c1 => ?_)
  · refine xr_ldc2 coX9_286 dX9_element_20 ?_
    exact xr_lret dX9_element_23 rfl (⟨_, rfl, rfl, rfl, rfl, (Or.inl ⟨c1, by decide⟩)⟩)
  · obtain ⟨s_, hs_, rfl⟩ := x_nat (N := 6) (by decide) rfl c1
    refine xr_aload_n dX9_element_7 0 rfl ?_
    refine xr_getR flX9_67 dX9_element_8 s_0 rfl ?_
    refine xr_iload_n dX9_element_11 1 rfl ?_
    refine xb_aald (j := s_) (q := 50 + 2 * s_) (by decide) dX9_element_12 s_49 hs_ (by decide) (if_pos hs_) ?_
    refine xr_iload_n dX9_element_13 2 rfl ?_
    refine xb_cV (As := [.int (i)]) (rest := []) mlX9_356 (c_X6_placeRefusal i (s_shelf hs_) (s_elem hs_)) dX9_element_14 (s_shelf hs_) rfl rfl (Nat.le_of_ble_eq_true rfl) (by decide) (by decide) ?_
    refine xr_if_eq (tgt := 24) dX9_element_17 rfl (fun c2 => ?_) (fun c2 => ?_)
    · obtain ⟨sl, hsl1, esl⟩ := hsl s_ hs_
      obtain ⟨i_, hi_, rfl⟩ := pr_in hsl1 esl c2
      refine xr_aload_n dX9_element_24 0 rfl ?_
      refine xr_getR flX9_67 dX9_element_25 s_0 rfl ?_
      refine xr_iload_n dX9_element_28 1 rfl ?_
      refine xb_aald (j := s_) (q := 50 + 2 * s_) (by decide) dX9_element_29 s_49 hs_ (by decide) (if_pos hs_) ?_
      refine xr_getR flX9_362 dX9_element_30 (s_shelf hs_) rfl ?_
      refine xr_iload_n dX9_element_33 2 rfl ?_
      refine xb_lald (j := i_) (v := J (51 + 2 * s_) i_) dX9_element_34 (s_elem hs_) (by omega) (by decide) rfl ?_
      exact xr_lret dX9_element_35 rfl (⟨_, rfl, rfl, rfl, rfl, (Or.inr ⟨s_, hs_, rfl, Or.inr ⟨c2, i_, by omega, rfl, rfl⟩⟩)⟩)
    · refine xr_ldc2 coX9_286 dX9_element_20 ?_
      exact xr_lret dX9_element_23 rfl (⟨_, rfl, rfl, rfl, rfl, (Or.inr ⟨s_, hs_, rfl, Or.inl ⟨c2, by decide⟩⟩)⟩)