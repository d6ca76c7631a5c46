/-- the reference's calls keep what holds of the class's object, and the other way round -/
theorem InvR_ke {M M2 : xM} (h : ∀ p k, 62 ≤ p → M2 p k = M p k) (hI : InvR M) : InvR M2 := by
  obtain ⟨⟨hn, h_hn, e_hn, hw⟩, hbt, ⟨un, wn, h_uw, h_wn, e_un, e_wn⟩, hch, ⟨n, h_n, e_n⟩, htx, ⟨b, h_b, e_b⟩, hkd, ⟨ra, h_ra, e_ra⟩, hsl, ⟨ic, h_ic, e_ic⟩, hS⟩ := hI
  refine ⟨⟨hn, h_hn, (h 62 6 (by decide)).trans e_hn, fun k hk => by rw [h 63 (5 + k) (by decide)]; exact hw k hk⟩, by rw [h 63 16 (by decide)]; exact hbt, ⟨un, wn, h_uw, h_wn, (h 62 5 (by decide)).trans e_un, (h 62 4 (by decide)).trans e_wn⟩, fun k hk => by rw [h 64 k (by decide), h 65 k (by decide), h 66 k (by decide)]; exact hch k hk, ⟨n, h_n, (h 62 11 (by decide)).trans e_n⟩, by rw [h 62 13 (by decide)]; exact htx, ⟨b, h_b, (h 62 36 (by decide)).trans e_b⟩, fun j hj => by obtain ⟨q, hq, eq⟩ := hkd j hj; exact ⟨q, hq, (h 81 j (by decide)).trans eq⟩, ⟨ra, h_ra, (h 62 39 (by decide)).trans e_ra⟩, fun j hj => by rw [h 83 j (by decide), h 84 j (by decide)]; exact hsl j hj, ⟨ic, h_ic, (h 62 34 (by decide)).trans e_ic⟩, fun j hj => by obtain ⟨q, hq, eq⟩ := hS j hj; exact ⟨q, hq, (h 75 j (by decide)).trans eq⟩⟩
theorem InvC_ke {M M2 : xM} (h : ∀ p k, p < 62 → M2 p k = M p k) (hI : InvC M) : InvC M2 := by
  obtain ⟨⟨cn, h_cn, e_cn⟩, ⟨cm, h_cm, e_cm⟩, ⟨L, h_L, e_L⟩, hv, hD, ⟨n, h_n, e_n⟩, ⟨un, wn, h_uw, h_wn, e_un, e_wn⟩, ⟨b, h_b, e_b⟩, hkd, ⟨ra, h_ra, e_ra⟩, hsl, hS⟩ := hI
  refine ⟨⟨cn, h_cn, (h 13 2 (by decide)).trans e_cn⟩, ⟨cm, h_cm, (h 20 2 (by decide)).trans e_cm⟩, ⟨L, h_L, (h 1 4 (by decide)).trans e_L⟩, fun k hk => by rw [h 3 k (by decide)]; exact hv k hk, ?_, ⟨n, h_n, (h 6 2 (by decide)).trans e_n⟩, ⟨un, wn, h_uw, h_wn, (h 41 4 (by decide)).trans e_un, (h 41 5 (by decide)).trans e_wn⟩, ⟨b, h_b, (h 46 2 (by decide)).trans e_b⟩, fun j hj => by obtain ⟨q, hq, eq⟩ := hkd j hj; exact ⟨q, hq, (h 47 j (by decide)).trans eq⟩, ⟨ra, h_ra, (h 46 3 (by decide)).trans e_ra⟩, fun j hj => by obtain ⟨s, hs, es⟩ := hsl j hj; exact ⟨s, hs, (h _ 3 (by omega)).trans es⟩, fun j hj => by obtain ⟨q, hq, eq⟩ := hS j hj; exact ⟨q, hq, (h 36 j (by decide)).trans eq⟩⟩
  obtain ⟨⟨dn, hdn, edn⟩, hdv⟩ := hD
  exact ⟨⟨dn, hdn, (h 8 4 (by decide)).trans edn⟩, fun k hk => by rw [h 10 k (by decide)]; exact hdv k hk⟩
/-- what row answers -/
def RW (d s n : Int32) : Int32 := if (0 ≤ d ∧ d ≤ 5) ∧ (0 ≤ s ∧ s ≤ 4) ∧ n ≤ 60 then (if n < 0 then -14 else 1) else -1
set_option maxRecDepth 100000 in
set_option maxHeartbeats 4000000 in
theorem gr_X9_row (sh so nn : Int32) {l : Launch} {G : xG} {M : xM} {J : xJ} (hI : InvC M) : x_M l G fX9_row 1 0 0 [.ref (0), .int (sh), .int (so), .int (nn)] x_SH M J (qJI WKP (fun p => 50 ≤ p ∧ p ≤ 61) M J (fun r M2 => InvC M2 ∧ r = RW sh so nn)) := by
  refine xb_of pX9 (Nat.le_of_ble_eq_true rfl) rfl ?_
  obtain ⟨⟨cn, h_cn, e_cn⟩, ⟨cm, h_cm, e_cm⟩, ⟨L, h_L, e_L⟩, hv, hD, ⟨n, h_n, e_n⟩, ⟨un, wn, h_uw, h_wn, e_un, e_wn⟩, ⟨b, h_b, e_b⟩, hkd, ⟨ra, h_ra, e_ra⟩, hsl, hS⟩ := hI
  refine xr_iload_n dX9_row_0 1 rfl ?_
  refine xb_cS (As := [.int (sh)]) (rest := []) mlX9_88 (c_X9_isShelf sh) dX9_row_1 rfl rfl (Nat.le_of_ble_eq_true rfl) (by decide) (by decide) ?_
  refine xb_beq (tgt := 20) dX9_row_4 rfl (fun c1 => ?_) (fun c1 => ?_)
  · refine xr_iconst (v := -1) dX9_row_20 rfl ?_
    exact xr_iret dX9_row_21 rfl rfl (⟨_, rfl, rfl, (fun _ _ => rfl), Ke.rf, ⟨⟨cn, by omega, e_cn⟩, ⟨cm, by omega, e_cm⟩, ⟨L, by omega, e_L⟩, (fun kk hkk => by rw [show M 3 kk = M 3 kk from rfl]; exact hv kk hkk), hD, ⟨n, by omega, e_n⟩, ⟨un, wn, by omega, by omega, e_un, e_wn⟩, ⟨b, by omega, e_b⟩, (fun j hj => by obtain ⟨q, hq, eq⟩ := hkd j hj; exact ⟨q, hq, (show M 47 j = M 47 j from rfl).trans eq⟩), ⟨ra, by omega, e_ra⟩, (fun j hj => by obtain ⟨s, hs, es⟩ := hsl j hj; exact ⟨s, hs, (show M (50 + 2 * j) 3 = M (50 + 2 * j) 3 from rfl).trans es⟩), (fun j hj => by obtain ⟨q, hq, eq⟩ := hS j hj; exact ⟨q, hq, (show M 36 j = M 36 j from rfl).trans eq⟩)⟩, (by unfold RW; grind)⟩)
  · obtain ⟨s_, hs_, rfl⟩ := x_nat (N := 6) (by decide) rfl c1
    refine xr_iload_n dX9_row_7 2 rfl ?_
    refine xb_cS (As := [.int (so)]) (rest := []) mlX9_350 (c_X6_isSort so) dX9_row_8 rfl rfl (Nat.le_of_ble_eq_true rfl) (by decide) (by decide) ?_
    refine xb_beq (tgt := 20) dX9_row_11 rfl (fun c2 => ?_) (fun c2 => ?_)
    · refine xr_iconst (v := -1) dX9_row_20 rfl ?_
      exact xr_iret dX9_row_21 rfl rfl (⟨_, rfl, rfl, (fun _ _ => rfl), Ke.rf, ⟨⟨cn, by omega, e_cn⟩, ⟨cm, by omega, e_cm⟩, ⟨L, by omega, e_L⟩, (fun kk hkk => by rw [show M 3 kk = M 3 kk from rfl]; exact hv kk hkk), hD, ⟨n, by omega, e_n⟩, ⟨un, wn, by omega, by omega, e_un, e_wn⟩, ⟨b, by omega, e_b⟩, (fun j hj => by obtain ⟨q, hq, eq⟩ := hkd j hj; exact ⟨q, hq, (show M 47 j = M 47 j from rfl).trans eq⟩), ⟨ra, by omega, e_ra⟩, (fun j hj => by obtain ⟨s, hs, es⟩ := hsl j hj; exact ⟨s, hs, (show M (50 + 2 * j) 3 = M (50 + 2 * j) 3 from rfl).trans es⟩), (fun j hj => by obtain ⟨q, hq, eq⟩ := hS j hj; exact ⟨q, hq, (show M 36 j = M 36 j from rfl).trans eq⟩)⟩, (by unfold RW; grind)⟩)
    · refine xr_iload_n dX9_row_14 3 rfl ?_
      refine xr_bipush (v := 60) dX9_row_15 rfl ?_
      refine xr_icmp_le (tgt := 22) dX9_row_17 rfl (fun c3 => ?_) (fun c3 => ?_)
      · refine xr_iload_n dX9_row_22 3 rfl ?_
        refine xr_if_ge (tgt := 29) dX9_row_23 rfl (fun c4 => ?_) (fun c4 => ?_)
        · obtain ⟨N, hN, rfl⟩ := x_natle (v := nn) (N := 60) (K := 60) (by decide) (by decide) ⟨by grind, by grind⟩
          refine xr_aload_n dX9_row_29 0 rfl ?_
          refine xr_getR flX9_67 dX9_row_30 s_0 rfl ?_
          refine xr_iload_n dX9_row_33 1 rfl ?_
          refine xb_aald (j := s_) (q := 50 + 2 * s_) (by decide) dX9_row_34 s_49 hs_ (by decide) (if_pos hs_) ?_
          refine xr_iload_n dX9_row_35 2 rfl ?_
          refine xr_iload_n dX9_row_36 3 rfl ?_
          refine xr_callV (As := [.int (so), .int (nI (N))]) (rest := []) mlX9_353 (g_X6_holdRow so (nI (N)) (s_shelf hs_) (s_elem hs_)) dX9_row_37 (s_shelf hs_) rfl rfl (Nat.le_of_ble_eq_true rfl) (by decide) ⟨by decide, by decide⟩ (fun v s2 M9 J5 hq => ?_)
          obtain ⟨rfl, rfl, rfl, hJ, hJ0⟩ := hq
          try dsimp only [Option.toList, List.cons_append, List.nil_append]
          refine xr_iconst (v := 1) dX9_row_40 rfl ?_
          exact xr_iret dX9_row_41 rfl rfl (⟨_, rfl, rfl, (fun p hp => hJ p (fun q => hp (by omega))), (Ke.up (by omega) (Ke.up (by omega) (Ke.up (by omega) Ke.rf))), ⟨⟨cn, by omega, (Eq.trans (congrFun (x_up_n _ _ _ (by omega)) _) (Eq.trans (congrFun (x_up_n _ _ _ (by omega)) _) (Eq.trans (congrFun (x_up_n _ _ _ (by omega)) _) e_cn)))⟩, ⟨cm, by omega, (Eq.trans (congrFun (x_up_n _ _ _ (by omega)) _) (Eq.trans (congrFun (x_up_n _ _ _ (by omega)) _) (Eq.trans (congrFun (x_up_n _ _ _ (by omega)) _) e_cm)))⟩, ⟨L, by omega, (Eq.trans (congrFun (x_up_n _ _ _ (by omega)) _) (Eq.trans (congrFun (x_up_n _ _ _ (by omega)) _) (Eq.trans (congrFun (x_up_n _ _ _ (by omega)) _) e_L)))⟩, (fun kk hkk => by rw [show (x_up (x_up (x_up M (50 + 2 * s_) 0 2) (50 + 2 * s_) 2 so) (50 + 2 * s_) 3 (nI (N))) 3 kk = M 3 kk from (Eq.trans (congrFun (x_up_n _ _ _ (by omega)) _) (Eq.trans (congrFun (x_up_n _ _ _ (by omega)) _) (Eq.trans (congrFun (x_up_n _ _ _ (by omega)) _) rfl)))]; exact hv kk hkk), (DI_up (by omega) (DI_up (by omega) (DI_up (by omega) hD))), ⟨n, by omega, (Eq.trans (congrFun (x_up_n _ _ _ (by omega)) _) (Eq.trans (congrFun (x_up_n _ _ _ (by omega)) _) (Eq.trans (congrFun (x_up_n _ _ _ (by omega)) _) e_n)))⟩, ⟨un, wn, by omega, by omega, (Eq.trans (congrFun (x_up_n _ _ _ (by omega)) _) (Eq.trans (congrFun (x_up_n _ _ _ (by omega)) _) (Eq.trans (congrFun (x_up_n _ _ _ (by omega)) _) e_un))), (Eq.trans (congrFun (x_up_n _ _ _ (by omega)) _) (Eq.trans (congrFun (x_up_n _ _ _ (by omega)) _) (Eq.trans (congrFun (x_up_n _ _ _ (by omega)) _) e_wn)))⟩, ⟨b, by omega, (Eq.trans (congrFun (x_up_n _ _ _ (by omega)) _) (Eq.trans (congrFun (x_up_n _ _ _ (by omega)) _) (Eq.trans (congrFun (x_up_n _ _ _ (by omega)) _) e_b)))⟩, (fun j hj => by obtain ⟨q, hq, eq⟩ := hkd j hj; exact ⟨q, hq, (show (x_up (x_up (x_up M (50 + 2 * s_) 0 2) (50 + 2 * s_) 2 so) (50 + 2 * s_) 3 (nI (N))) 47 j = M 47 j from (Eq.trans (congrFun (x_up_n _ _ _ (by omega)) _) (Eq.trans (congrFun (x_up_n _ _ _ (by omega)) _) (Eq.trans (congrFun (x_up_n _ _ _ (by omega)) _) rfl)))).trans eq⟩), ⟨ra, by omega, (Eq.trans (congrFun (x_up_n _ _ _ (by omega)) _) (Eq.trans (congrFun (x_up_n _ _ _ (by omega)) _) (Eq.trans (congrFun (x_up_n _ _ _ (by omega)) _) e_ra)))⟩, (fun j hj => by
              by_cases q : j = s_
              · subst q; exact ⟨N, by omega, (x_up_s _ _ _ _)⟩
              · obtain ⟨z, hz, ez⟩ := hsl j hj; exact ⟨z, hz, (show (x_up (x_up (x_up M (50 + 2 * s_) 0 2) (50 + 2 * s_) 2 so) (50 + 2 * s_) 3 (nI (N))) (50 + 2 * j) 3 = M (50 + 2 * j) 3 from (Eq.trans (congrFun (x_up_n _ _ _ (by omega)) _) (Eq.trans (congrFun (x_up_n _ _ _ (by omega)) _) (Eq.trans (congrFun (x_up_n _ _ _ (by omega)) _) rfl)))).trans ez⟩), (fun j hj => by obtain ⟨q, hq, eq⟩ := hS j hj; exact ⟨q, hq, (show (x_up (x_up (x_up M (50 + 2 * s_) 0 2) (50 + 2 * s_) 2 so) (50 + 2 * s_) 3 (nI (N))) 36 j = M 36 j from (Eq.trans (congrFun (x_up_n _ _ _ (by omega)) _) (Eq.trans (congrFun (x_up_n _ _ _ (by omega)) _) (Eq.trans (congrFun (x_up_n _ _ _ (by omega)) _) rfl)))).trans eq⟩)⟩, (by unfold RW; grind)⟩)
        · refine xr_bipush (v := -14) dX9_row_26 rfl ?_
          exact xr_iret dX9_row_28 rfl rfl (⟨_, rfl, rfl, (fun _ _ => rfl), Ke.rf, ⟨⟨cn, by omega, e_cn⟩, ⟨cm, by omega, e_cm⟩, ⟨L, by omega, e_L⟩, (fun kk hkk => by rw [show M 3 kk = M 3 kk from rfl]; exact hv kk hkk), hD, ⟨n, by omega, e_n⟩, ⟨un, wn, by omega, by omega, e_un, e_wn⟩, ⟨b, by omega, e_b⟩, (fun j hj => by obtain ⟨q, hq, eq⟩ := hkd j hj; exact ⟨q, hq, (show M 47 j = M 47 j from rfl).trans eq⟩), ⟨ra, by omega, e_ra⟩, (fun j hj => by obtain ⟨s, hs, es⟩ := hsl j hj; exact ⟨s, hs, (show M (50 + 2 * j) 3 = M (50 + 2 * j) 3 from rfl).trans es⟩), (fun j hj => by obtain ⟨q, hq, eq⟩ := hS j hj; exact ⟨q, hq, (show M 36 j = M 36 j from rfl).trans eq⟩)⟩, (by unfold RW; grind)⟩)
      · refine xr_iconst (v := -1) dX9_row_20 rfl ?_
        exact xr_iret dX9_row_21 rfl rfl (⟨_, rfl, rfl, (fun _ _ => rfl), Ke.rf, ⟨⟨cn, by omega, e_cn⟩, ⟨cm, by omega, e_cm⟩, ⟨L, by omega, e_L⟩, (fun kk hkk => by rw [show M 3 kk = M 3 kk from rfl]; exact hv kk hkk), hD, ⟨n, by omega, e_n⟩, ⟨un, wn, by omega, by omega, e_un, e_wn⟩, ⟨b, by omega, e_b⟩, (fun j hj => by obtain ⟨q, hq, eq⟩ := hkd j hj; exact ⟨q, hq, (show M 47 j = M 47 j from rfl).trans eq⟩), ⟨ra, by omega, e_ra⟩, (fun j hj => by obtain ⟨s, hs, es⟩ := hsl j hj; exact ⟨s, hs, (show M (50 + 2 * j) 3 = M (50 + 2 * j) 3 from rfl).trans es⟩), (fun j hj => by obtain ⟨q, hq, eq⟩ := hS j hj; exact ⟨q, hq, (show M 36 j = M 36 j from rfl).trans eq⟩)⟩, (by unfold RW; grind)⟩)
set_option maxRecDepth 100000 in
set_option maxHeartbeats 4000000 in
theorem gr_X10_row (d so nn : Int32) {l : Launch} {G : xG} {M : xM} {J : xJ} (hI : InvR M) : x_M l G fX10_row 2 0 0 [.ref (62), .int (d), .int (so), .int (nn)] x_SH M J (qJE WRH (fun p => p = 85 ∨ p = 86) M J (fun r M2 J2 => InvR M2 ∧ r = RW d so nn)) := by
  refine xb_of pX10 (Nat.le_of_ble_eq_true rfl) rfl ?_
  obtain ⟨⟨hn, h_hn, e_hn, hw⟩, hbt, ⟨un, wn, h_uw, h_wn, e_un, e_wn⟩, hch, ⟨n, h_n, e_n⟩, htx, ⟨b, h_b, e_b⟩, hkd, ⟨ra, h_ra, e_ra⟩, hsl, ⟨ic, h_ic, e_ic⟩, hS⟩ := hI
  refine xr_iload_n dX10_row_0 1 rfl ?_
  refine xb_cS (As := [.int (d)]) (rest := []) mlX10_125 (c_X10_isShelf d) dX10_row_1 rfl rfl (Nat.le_of_ble_eq_true rfl) (by decide) (by decide) ?_
  refine xb_beq (tgt := 25) dX10_row_4 rfl (fun c1 => ?_) (fun c1 => ?_)
  · refine xr_iconst (v := -1) dX10_row_25 rfl ?_
    exact xr_iret dX10_row_26 rfl rfl (⟨_, rfl, rfl, (fun _ _ => rfl), Ke.rf, ⟨⟨hn, by omega, e_hn, (fun kw hkw => by rw [show M 63 (5 + kw) = M 63 (5 + kw) from rfl]; exact hw kw hkw)⟩, (by rw [show M 63 16 = M 63 16 from rfl]; exact hbt), ⟨un, wn, by omega, by omega, e_un, e_wn⟩, (fun kk hkk => by rw [show M 64 kk = M 64 kk from rfl, show M 65 kk = M 65 kk from rfl, show M 66 kk = M 66 kk from rfl]; exact hch kk hkk), ⟨n, by omega, e_n⟩, (by rw [show M 62 13 = M 62 13 from rfl]; exact htx), ⟨b, by omega, e_b⟩, (fun j hj => by obtain ⟨q, hq, eq⟩ := hkd j hj; exact ⟨q, hq, (show M 81 j = M 81 j from rfl).trans eq⟩), ⟨ra, by omega, e_ra⟩, (fun j hj => by rw [show M 83 j = M 83 j from rfl, show M 84 j = M 84 j from rfl]; exact hsl j hj), ⟨ic, by omega, e_ic⟩, (fun j hj => by obtain ⟨q, hq, eq⟩ := hS j hj; exact ⟨q, hq, (show M 75 j = M 75 j from rfl).trans eq⟩)⟩, (by unfold RW; grind)⟩)
  · obtain ⟨d_, hd_, rfl⟩ := x_natle (N := 5) (by decide) rfl c1
    replace hd_ := Nat.lt_succ_of_le hd_
    refine xr_iload_n dX10_row_7 2 rfl ?_
    refine xr_i2l dX10_row_8 ?_
    refine xr_lconst (v := 0) dX10_row_9 rfl ?_
    refine xr_ldc2 coX10_116 dX10_row_10 ?_
    refine xb_cS (As := [.long ((so).toInt64), .long (0), .long (4)]) (rest := []) mlX10_101 (c_within32 (so) (0) (4) (by decide) (by decide)) dX10_row_13 rfl rfl (Nat.le_of_ble_eq_true rfl) (by decide) (by decide) ?_
    refine xb_beq (tgt := 25) dX10_row_16 rfl (fun c2 => ?_) (fun c2 => ?_)
    · refine xr_iconst (v := -1) dX10_row_25 rfl ?_
      exact xr_iret dX10_row_26 rfl rfl (⟨_, rfl, rfl, (fun _ _ => rfl), Ke.rf, ⟨⟨hn, by omega, e_hn, (fun kw hkw => by rw [show M 63 (5 + kw) = M 63 (5 + kw) from rfl]; exact hw kw hkw)⟩, (by rw [show M 63 16 = M 63 16 from rfl]; exact hbt), ⟨un, wn, by omega, by omega, e_un, e_wn⟩, (fun kk hkk => by rw [show M 64 kk = M 64 kk from rfl, show M 65 kk = M 65 kk from rfl, show M 66 kk = M 66 kk from rfl]; exact hch kk hkk), ⟨n, by omega, e_n⟩, (by rw [show M 62 13 = M 62 13 from rfl]; exact htx), ⟨b, by omega, e_b⟩, (fun j hj => by obtain ⟨q, hq, eq⟩ := hkd j hj; exact ⟨q, hq, (show M 81 j = M 81 j from rfl).trans eq⟩), ⟨ra, by omega, e_ra⟩, (fun j hj => by rw [show M 83 j = M 83 j from rfl, show M 84 j = M 84 j from rfl]; exact hsl j hj), ⟨ic, by omega, e_ic⟩, (fun j hj => by obtain ⟨q, hq, eq⟩ := hS j hj; exact ⟨q, hq, (show M 75 j = M 75 j from rfl).trans eq⟩)⟩, (by unfold RW; grind)⟩)
    · obtain ⟨so_, hso_, rfl⟩ := x_natle (N := 4) (by decide) rfl c2
      replace hso_ := Nat.lt_succ_of_le hso_
      refine xr_iload_n dX10_row_19 3 rfl ?_
      refine xr_bipush (v := 60) dX10_row_20 rfl ?_
      refine xr_icmp_le (tgt := 27) dX10_row_22 rfl (fun c3 => ?_) (fun c3 => ?_)
      · refine xr_iload_n dX10_row_27 3 rfl ?_
        refine xr_if_ge (tgt := 34) dX10_row_28 rfl (fun c4 => ?_) (fun c4 => ?_)
        · obtain ⟨N, hN, rfl⟩ := x_natle (v := nn) (N := 60) (K := 60) (by decide) (by decide) ⟨by grind, by grind⟩
          refine xr_aload_n dX10_row_34 0 rfl ?_
          refine xr_getR flX10_75 dX10_row_35 s_62 rfl ?_
          refine xr_iload_n dX10_row_38 1 rfl ?_
          refine xr_bipush (v := 50) dX10_row_39 rfl ?_
          refine xr_iload_n dX10_row_41 2 rfl ?_
          refine xr_iadd dX10_row_42 ?_
          refine xb_top (y := nI (50 + so_)) (nI_add (50) (so_)) ?_
          refine xb_iast (j := d_) dX10_row_43 s_83 hd_ (by decide) ?_
          refine xr_aload_n dX10_row_44 0 rfl ?_
          refine xr_getR flX10_78 dX10_row_45 s_62 rfl ?_
          refine xr_iload_n dX10_row_48 1 rfl ?_
          refine xr_iload_n dX10_row_49 3 rfl ?_
          refine xb_iast (j := d_) dX10_row_50 s_84 hd_ (by decide) ?_
          refine xr_bipush (v := 60) dX10_row_51 rfl ?_
          refine xr_iload_n dX10_row_53 1 rfl ?_
          refine xr_imul dX10_row_54 ?_
          refine xb_top (y := nI (60 * d_)) (nI_mulc 60 d_) ?_
          refine xr_istore (ls2 := [(4, .int (nI (60 * d_))), (0, .ref (62)), (1, .int (nI (d_))), (2, .int (nI (so_))), (3, .int (nI (N)))]) dX10_row_55 (by decide) rfl ?_
          refine xb_ls (ls2 := [(4, .int (nI (60 * d_))), (3, .int (nI (N))), (2, .int (nI (so_))), (1, .int (nI (d_))), (0, .ref (62))]) [0, 4, 3, 2, 1] rfl ?_
          refine rrw_l hd_ (fun J9 hJ9 hZ9 => ?_) 60 (60 * d_) J (by omega) (Nat.le_refl _) (fun _ _ => rfl) (fun j => by rw [if_neg (by omega)])
          refine xr_iconst (v := 1) dX10_row_83 rfl ?_
          exact xr_iret dX10_row_84 rfl rfl (⟨_, rfl, rfl, (fun p hp => hJ9 p (fun q => hp (Or.inl q))), (Ke.up (by omega) (Ke.up (by omega) Ke.rf)), ⟨⟨hn, by omega, (Eq.trans (congrFun (x_up_n _ _ _ (by decide)) _) (Eq.trans (congrFun (x_up_n _ _ _ (by decide)) _) e_hn)), (fun kw hkw => by rw [show (x_up (x_up M 83 d_ (nI (50 + so_))) 84 d_ (nI (N))) 63 (5 + kw) = M 63 (5 + kw) from (Eq.trans (congrFun (x_up_n _ _ _ (by omega)) _) (Eq.trans (congrFun (x_up_n _ _ _ (by omega)) _) rfl))]; exact hw kw hkw)⟩, (by rw [show (x_up (x_up M 83 d_ (nI (50 + so_))) 84 d_ (nI (N))) 63 16 = M 63 16 from (Eq.trans (congrFun (x_up_n _ _ _ (by omega)) _) (Eq.trans (congrFun (x_up_n _ _ _ (by omega)) _) rfl))]; exact hbt), ⟨un, wn, by omega, by omega, (Eq.trans (congrFun (x_up_n _ _ _ (by decide)) _) (Eq.trans (congrFun (x_up_n _ _ _ (by decide)) _) e_un)), (Eq.trans (congrFun (x_up_n _ _ _ (by decide)) _) (Eq.trans (congrFun (x_up_n _ _ _ (by decide)) _) e_wn))⟩, (fun kk hkk => by rw [show (x_up (x_up M 83 d_ (nI (50 + so_))) 84 d_ (nI (N))) 64 kk = M 64 kk from (Eq.trans (congrFun (x_up_n _ _ _ (by omega)) _) (Eq.trans (congrFun (x_up_n _ _ _ (by omega)) _) rfl)), show (x_up (x_up M 83 d_ (nI (50 + so_))) 84 d_ (nI (N))) 65 kk = M 65 kk from (Eq.trans (congrFun (x_up_n _ _ _ (by omega)) _) (Eq.trans (congrFun (x_up_n _ _ _ (by omega)) _) rfl)), show (x_up (x_up M 83 d_ (nI (50 + so_))) 84 d_ (nI (N))) 66 kk = M 66 kk from (Eq.trans (congrFun (x_up_n _ _ _ (by omega)) _) (Eq.trans (congrFun (x_up_n _ _ _ (by omega)) _) rfl))]; exact hch kk hkk), ⟨n, by omega, (Eq.trans (congrFun (x_up_n _ _ _ (by decide)) _) (Eq.trans (congrFun (x_up_n _ _ _ (by decide)) _) e_n))⟩, (by rw [show (x_up (x_up M 83 d_ (nI (50 + so_))) 84 d_ (nI (N))) 62 13 = M 62 13 from (Eq.trans (congrFun (x_up_n _ _ _ (by omega)) _) (Eq.trans (congrFun (x_up_n _ _ _ (by omega)) _) rfl))]; exact htx), ⟨b, by omega, (Eq.trans (congrFun (x_up_n _ _ _ (by decide)) _) (Eq.trans (congrFun (x_up_n _ _ _ (by decide)) _) e_b))⟩, (fun j hj => by obtain ⟨q, hq, eq⟩ := hkd j hj; exact ⟨q, hq, (show (x_up (x_up M 83 d_ (nI (50 + so_))) 84 d_ (nI (N))) 81 j = M 81 j from (Eq.trans (congrFun (x_up_n _ _ _ (by omega)) _) (Eq.trans (congrFun (x_up_n _ _ _ (by omega)) _) rfl))).trans eq⟩), ⟨ra, by omega, (Eq.trans (congrFun (x_up_n _ _ _ (by decide)) _) (Eq.trans (congrFun (x_up_n _ _ _ (by decide)) _) e_ra))⟩, (fun j hj => by
              by_cases q : j = d_
              · subst q; exact ⟨Or.inr ⟨50 + so_, by omega, (Eq.trans (congrFun (x_up_n _ _ _ (by decide)) _) (x_up_s _ _ _ _))⟩, ⟨N, by omega, (x_up_s _ _ _ _)⟩⟩
              · rw [show (x_up (x_up M 83 d_ (nI (50 + so_))) 84 d_ (nI (N))) 83 j = M 83 j from (Eq.trans (congrFun (x_up_n _ _ _ (by omega)) _) (Eq.trans (x_up_k _ _ _ (by omega)) rfl)), show (x_up (x_up M 83 d_ (nI (50 + so_))) 84 d_ (nI (N))) 84 j = M 84 j from (Eq.trans (x_up_k _ _ _ (by omega)) (Eq.trans (congrFun (x_up_n _ _ _ (by omega)) _) rfl))]; exact hsl j hj), ⟨ic, by omega, (Eq.trans (congrFun (x_up_n _ _ _ (by decide)) _) (Eq.trans (congrFun (x_up_n _ _ _ (by decide)) _) e_ic))⟩, (fun j hj => by obtain ⟨q, hq, eq⟩ := hS j hj; exact ⟨q, hq, (show (x_up (x_up M 83 d_ (nI (50 + so_))) 84 d_ (nI (N))) 75 j = M 75 j from (Eq.trans (congrFun (x_up_n _ _ _ (by omega)) _) (Eq.trans (congrFun (x_up_n _ _ _ (by omega)) _) rfl))).trans eq⟩)⟩, (by unfold RW; grind)⟩)
        · refine xr_bipush (v := -14) dX10_row_31 rfl ?_
          exact xr_iret dX10_row_33 rfl rfl (⟨_, rfl, rfl, (fun _ _ => rfl), Ke.rf, ⟨⟨hn, by omega, e_hn, (fun kw hkw => by rw [show M 63 (5 + kw) = M 63 (5 + kw) from rfl]; exact hw kw hkw)⟩, (by rw [show M 63 16 = M 63 16 from rfl]; exact hbt), ⟨un, wn, by omega, by omega, e_un, e_wn⟩, (fun kk hkk => by rw [show M 64 kk = M 64 kk from rfl, show M 65 kk = M 65 kk from rfl, show M 66 kk = M 66 kk from rfl]; exact hch kk hkk), ⟨n, by omega, e_n⟩, (by rw [show M 62 13 = M 62 13 from rfl]; exact htx), ⟨b, by omega, e_b⟩, (fun j hj => by obtain ⟨q, hq, eq⟩ := hkd j hj; exact ⟨q, hq, (show M 81 j = M 81 j from rfl).trans eq⟩), ⟨ra, by omega, e_ra⟩, (fun j hj => by rw [show M 83 j = M 83 j from rfl, show M 84 j = M 84 j from rfl]; exact hsl j hj), ⟨ic, by omega, e_ic⟩, (fun j hj => by obtain ⟨q, hq, eq⟩ := hS j hj; exact ⟨q, hq, (show M 75 j = M 75 j from rfl).trans eq⟩)⟩, (by unfold RW; grind)⟩)
      · refine xr_iconst (v := -1) dX10_row_25 rfl ?_
        exact xr_iret dX10_row_26 rfl rfl (⟨_, rfl, rfl, (fun _ _ => rfl), Ke.rf, ⟨⟨hn, by omega, e_hn, (fun kw hkw => by rw [show M 63 (5 + kw) = M 63 (5 + kw) from rfl]; exact hw kw hkw)⟩, (by rw [show M 63 16 = M 63 16 from rfl]; exact hbt), ⟨un, wn, by omega, by omega, e_un, e_wn⟩, (fun kk hkk => by rw [show M 64 kk = M 64 kk from rfl, show M 65 kk = M 65 kk from rfl, show M 66 kk = M 66 kk from rfl]; exact hch kk hkk), ⟨n, by omega, e_n⟩, (by rw [show M 62 13 = M 62 13 from rfl]; exact htx), ⟨b, by omega, e_b⟩, (fun j hj => by obtain ⟨q, hq, eq⟩ := hkd j hj; exact ⟨q, hq, (show M 81 j = M 81 j from rfl).trans eq⟩), ⟨ra, by omega, e_ra⟩, (fun j hj => by rw [show M 83 j = M 83 j from rfl, show M 84 j = M 84 j from rfl]; exact hsl j hj), ⟨ic, by omega, e_ic⟩, (fun j hj => by obtain ⟨q, hq, eq⟩ := hS j hj; exact ⟨q, hq, (show M 75 j = M 75 j from rfl).trans eq⟩)⟩, (by unfold RW; grind)⟩)
