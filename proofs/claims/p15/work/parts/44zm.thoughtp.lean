set_option maxRecDepth 100000 in
set_option maxHeartbeats 4000000 in
theorem lpx {nn : Int32} {nh : Nat} {D : xM} {t : Option zL} {S : Nat → Int32} (hn5 : nh ≤ 5) (hrub : 0 ≤ S 1 ∧ S 1 ≤ 3) (hbt : ¬ S 2 = 0) (T : Int32) {l : Launch} {G : xG} {M : xM} {J : xJ} {Q : xQ} (e_cn : M 13 2 = nI nh) (e_nw : M 13 3 = S 0) (e_rub : M 13 4 = S 1) (e_bt : M 13 5 = S 2) (e_ph : M 13 6 = S 3) (e_st : M 13 7 = S 4) (hL : LCt M t) (hA : AbC 15 nh M D) (hW : WF nh D) (hR : ∀ (r : Int32) (M2 : xM), Ke WTH M M2 → r = T → Q (some (.int r)) x_SH M2 J) (hC : ∀ (M2 : xM), Ke WTH M M2 → (lpA nh D t S nn (6 - 6) 6 = T) → x_X l G fX9_leastPush 7 0 0 Q 58 [(0, .ref (0))] [] x_SH M2 J 0 0) : ∀ (m k : Nat) (M1 : xM), k + m = 6 → Ke WTH M M1 → (lpA nh D t S nn (6 - k) k = T) → x_X l G fX9_leastPush 7 0 0 Q 16 [(2, .int (nI (k))), (1, .int (nn)), (0, .ref (0))] [] x_SH M1 J 0 0 := by
  intro m
  induction m with
  | zero =>
    intro k M1 hk hM hI
    refine xr_iload_n dX9_leastPush_16 0 rfl ?_
    refine xr_iconst (v := 5) dX9_leastPush_17 rfl ?_
    refine xr_icmp_gt (tgt := 58) dX9_leastPush_18 rfl (fun _ => ?_) (fun c => absurd (nI_lt (a := 5) (b := k) (by omega) (by omega)) c)
    refine xb_ls (ls2 := [(0, .ref (0))]) [2] rfl ?_
    exact hC _ hM (by obtain rfl : k = 6 := (by omega); exact hI)
  | succ m ih =>
    intro k M1 hk hM hI
    have hkN : k < 6 := by omega
    refine xr_iload_n dX9_leastPush_16 0 rfl ?_
    refine xr_iconst (v := 5) dX9_leastPush_17 rfl ?_
    refine xr_icmp_gt (tgt := 58) dX9_leastPush_18 rfl (fun c => absurd c (nI_nlt (a := 5) (b := k) (by omega) (by omega))) (fun _ => ?_)
    refine xr_aload_n dX9_leastPush_21 2 rfl ?_
    refine xr_getR flX9_40 dX9_leastPush_22 s_0 rfl ?_
    refine xr_callV (As := []) (rest := []) mlX9_192 (gw_X7_begin (D := D) (t := t) (cn := nh) hn5 (Eq.trans (hM 13 2 (by decide)) e_cn) (Eq.trans (hM 13 3 (by decide)) e_nw) (Eq.trans (hM 13 4 (by decide)) e_rub) (Eq.trans (hM 13 5 (by decide)) e_bt) (Eq.trans (hM 13 6 (by decide)) e_ph) (Eq.trans (hM 13 7 (by decide)) e_st) (LCt_k (Eq.trans (hM 1 4 (by unfold WTH; omega)) rfl) (fun kl => (Eq.trans (hM 2 kl (by unfold WTH; omega)) rfl)) (fun kl => (Eq.trans (hM 3 kl (by unfold WTH; omega)) rfl)) hL) (AbC_k hA (fun i hi j => (Eq.trans (hM (15 + i) j (by unfold WTH; omega)) rfl))) hW) dX9_leastPush_25 s_27 rfl rfl (Nat.le_of_ble_eq_true rfl) (by decide) ⟨by decide, by decide⟩ (fun v s2 M2 J2 hq => ?_)
    obtain ⟨rfl, rfl, rfl, k3, hT1⟩ := hq
    try dsimp only [Option.toList, List.cons_append, List.nil_append]
    refine xr_aload_n dX9_leastPush_28 2 rfl ?_
    refine xr_getR flX9_40 dX9_leastPush_29 s_0 rfl ?_
    refine xr_getR flX9_201 dX9_leastPush_32 s_27 rfl ?_
    refine xr_iload_n dX9_leastPush_35 0 rfl ?_
    refine xr_putI fpX9_208 dX9_leastPush_36 s_28 rfl rfl rfl ?_
    refine xr_aload_n dX9_leastPush_39 2 rfl ?_
    refine xr_getR flX9_40 dX9_leastPush_40 s_0 rfl ?_
    refine xr_callV (As := []) (rest := []) mlX9_198 (gw_X7_lasting (P := (nh, t, S 1, S 2, S 3, nI k)) ⟨hn5, hrub, hbt⟩ (TC_st hT1 (nI k))) dX9_leastPush_43 s_27 rfl rfl (Nat.le_of_ble_eq_true rfl) (by decide) ⟨by decide, by decide⟩ (fun v s2 M5 J2 hq => ?_)
    obtain ⟨r7, rfl, rfl, rfl, k6, hx4⟩ := hq
    try dsimp only [Option.toList, List.cons_append, List.nil_append]
    subst hx4
    refine xb_top (y := nI (lpV nh D t S k)) rfl ?_
    refine xr_iload_n dX9_leastPush_46 1 rfl ?_
    refine xr_icmp_lt (tgt := 52) dX9_leastPush_47 rfl (fun c8 => ?_) (fun c8 => ?_)
    · refine xr_iinc (v := nI (k + 1)) (ls2 := [(2, .int (nI (k + 1))), (1, .int (nn)), (0, .ref (0))]) dX9_leastPush_52 0 rfl (nI_1 _) (by decide) rfl ?_
      refine xr_goto (tgt := 16) dX9_leastPush_55 rfl ?_
      refine xb_ls (ls2 := [(2, .int (nI (k + 1))), (1, .int (nn)), (0, .ref (0))]) [0, 1, 2] rfl ?_
      exact ih (k + 1) M5 (by omega) (Ke.tr (fun pp kk => (fun hh => Or.elim hh (fun h => (Or.inl h)) (fun hh => Or.elim hh (fun h => (Or.inr (Or.inl h))) (fun hh => Or.elim hh (fun h => (Or.inr (Or.inr (Or.inl (by omega))))) (fun hh => Or.elim hh (fun h => (Or.inr (Or.inr (Or.inl (by omega))))) (fun h => (Or.inr (Or.inr (Or.inr h))))))))) (Ke.up (Or.inr (Or.inr (Or.inl (by omega)))) (Ke.tr (fun pp kk => (fun hh => Or.elim hh (fun h => (Or.inr (Or.inr (Or.inl h)))) (fun h => (Or.inr (Or.inr (Or.inr h)))))) hM k3)) k6) ((lpA_n hkN (Int32.not_le.mpr c8)).trans hI)
    · refine xr_iload_n dX9_leastPush_50 0 rfl ?_
      exact xr_iret dX9_leastPush_51 rfl rfl ((hR _ _ (Ke.tr (fun pp kk => (fun hh => Or.elim hh (fun h => (Or.inl h)) (fun hh => Or.elim hh (fun h => (Or.inr (Or.inl h))) (fun hh => Or.elim hh (fun h => (Or.inr (Or.inr (Or.inl (by omega))))) (fun hh => Or.elim hh (fun h => (Or.inr (Or.inr (Or.inl (by omega))))) (fun h => (Or.inr (Or.inr (Or.inr h))))))))) (Ke.up (Or.inr (Or.inr (Or.inl (by omega)))) (Ke.tr (fun pp kk => (fun hh => Or.elim hh (fun h => (Or.inr (Or.inr (Or.inl h)))) (fun h => (Or.inr (Or.inr (Or.inr h)))))) hM k3)) k6) ((lpA_y hkN (Int32.not_lt.mp c8)).symm.trans hI)))
set_option maxRecDepth 100000 in
set_option maxHeartbeats 4000000 in
theorem gx_X9_leastPush {nh : Nat} {D : xM} {t : Option zL} {S : Nat → Int32} (nn : Int32) {l : Launch} {G : xG} {M : xM} {J : xJ} (hI : InvC M) (hWG : WG nh D S) (hG : CG M nh D t S) : x_M l G fX9_leastPush 7 0 0 [.ref (0), .int (nn)] x_SH M J (qKI WTH M J (fun r M2 => InvC M2 ∧ (r = lpR nh D t S nn))) := by
  refine xb_of pX9 (Nat.le_of_ble_eq_true rfl) rfl ?_
  obtain ⟨⟨cn, h_cn, e_cn⟩, ⟨cm, h_cm, e_cm⟩, ⟨L, h_L, e_L⟩, hv, hD, ⟨n, h_n, e_n⟩, ⟨un, wn, h_uw, h_wn, e_un, e_wn⟩, ⟨b, h_b, e_b⟩, hkd, ⟨ra, h_ra, e_ra⟩, hsl, hS⟩ := hI
  obtain ⟨hn5, hW, hrub, hbeat⟩ := hWG
  obtain ⟨hGn, hA, hL, e_nw, e_rub, e_bt, e_ph, e_st, e_kn, e_pu, e_lf⟩ := hG
  obtain rfl : nh = cn := (nI_eq (by omega) (by omega)).mp (hGn.symm.trans e_cn)
  have hbt : ¬ S 2 = 0 := ne2_0 hbeat.1
  refine xr_iload_n dX9_leastPush_0 1 rfl ?_
  refine xr_iconst (v := 1) dX9_leastPush_1 rfl ?_
  refine xr_icmp_lt (tgt := 12) dX9_leastPush_2 rfl (fun c1 => ?_) (fun c1 => ?_)
  · refine xr_iconst (v := -1) dX9_leastPush_12 rfl ?_
    exact xr_iret dX9_leastPush_13 rfl rfl (⟨_, rfl, rfl, rfl, Ke.rf, ⟨⟨⟨nh, by omega, e_cn⟩, ⟨cm, by omega, e_cm⟩, ⟨L, by omega, e_L⟩, (fun kk hkk => by rw [show M 3 kk = M 3 kk from rfl]; exact hv kk hkk), hD, ⟨n, by omega, e_n⟩, ⟨un, wn, by omega, by omega, e_un, e_wn⟩, ⟨b, by omega, e_b⟩, (fun j hj => by obtain ⟨q, hq, eq⟩ := hkd j hj; exact ⟨q, hq, (show M 47 j = M 47 j from rfl).trans eq⟩), ⟨ra, by omega, e_ra⟩, (fun j hj => by obtain ⟨s, hs, es⟩ := hsl j hj; exact ⟨s, hs, (show M (50 + 2 * j) 3 = M (50 + 2 * j) 3 from rfl).trans es⟩), (fun j hj => by obtain ⟨q, hq, eq⟩ := hS j hj; exact ⟨q, hq, (show M 36 j = M 36 j from rfl).trans eq⟩)⟩, (by unfold lpR; rw [if_neg (fun z => absurd z.1 (by grind))])⟩⟩)
  · refine xr_iload_n dX9_leastPush_5 1 rfl ?_
    refine xr_sipush (v := 200) dX9_leastPush_6 rfl ?_
    refine xr_icmp_le (tgt := 14) dX9_leastPush_9 rfl (fun c2 => ?_) (fun c2 => ?_)
    · refine xr_iconst (v := 0) dX9_leastPush_14 rfl ?_
      refine xr_istore_n (ls2 := [(2, .int (0)), (0, .ref (0)), (1, .int (nn))]) dX9_leastPush_15 (by decide) rfl ?_
      refine xb_ls (ls2 := [(2, .int (nI (0))), (1, .int (nn)), (0, .ref (0))]) [0, 2, 1] rfl ?_
      refine lpx hn5 hrub hbt (lpA nh D t S nn 6 0) e_cn e_nw e_rub e_bt e_ph e_st (LCt_k rfl (fun kl => rfl) (fun kl => rfl) hL) (AbC_k hA (fun i hi j => rfl)) hW (fun r M2 hk hr => ⟨_, rfl, rfl, rfl, hk, ⟨⟨nh, by omega, (Eq.trans (hk 13 2 (by decide)) e_cn)⟩, ⟨cm, by omega, (Eq.trans (hk 20 2 (by decide)) e_cm)⟩, ⟨L, by omega, (Eq.trans (hk 1 4 (by decide)) e_L)⟩, (fun kk hkk => by rw [show M2 3 kk = M 3 kk from (Eq.trans (hk 3 kk (by unfold WTH; omega)) rfl)]; exact hv kk hkk), (DI_ke (by intro k; unfold WTH; omega) hk hD), ⟨n, by omega, (Eq.trans (hk 6 2 (by decide)) e_n)⟩, ⟨un, wn, by omega, by omega, (Eq.trans (hk 41 4 (by decide)) e_un), (Eq.trans (hk 41 5 (by decide)) e_wn)⟩, ⟨b, by omega, (Eq.trans (hk 46 2 (by decide)) e_b)⟩, (fun j hj => by obtain ⟨q, hq, eq⟩ := hkd j hj; exact ⟨q, hq, (show M2 47 j = M 47 j from (Eq.trans (hk 47 j (by unfold WTH; omega)) rfl)).trans eq⟩), ⟨ra, by omega, (Eq.trans (hk 46 3 (by decide)) e_ra)⟩, (fun j hj => by obtain ⟨s, hs, es⟩ := hsl j hj; exact ⟨s, hs, (show M2 (50 + 2 * j) 3 = M (50 + 2 * j) 3 from (Eq.trans (hk (50 + 2 * j) 3 (by unfold WTH; omega)) rfl)).trans es⟩), (fun j hj => by obtain ⟨q, hq, eq⟩ := hS j hj; exact ⟨q, hq, (show M2 36 j = M 36 j from (Eq.trans (hk 36 j (by unfold WTH; omega)) rfl)).trans eq⟩)⟩, (by unfold lpR; rw [if_pos ⟨by grind, by grind⟩]; exact hr)⟩) (fun M3 k4 hE => ?_) (6 - 0) 0 M (by omega) Ke.rf rfl
      refine xr_bipush (v := -2) dX9_leastPush_58 rfl ?_
      exact xr_iret dX9_leastPush_60 rfl rfl (⟨_, rfl, rfl, rfl, (Ke.tr (fun _ _ h => h) Ke.rf k4), ⟨⟨⟨nh, by omega, (Eq.trans (k4 13 2 (by decide)) e_cn)⟩, ⟨cm, by omega, (Eq.trans (k4 20 2 (by decide)) e_cm)⟩, ⟨L, by omega, (Eq.trans (k4 1 4 (by decide)) e_L)⟩, (fun kk hkk => by rw [show M3 3 kk = M 3 kk from (Eq.trans (k4 3 kk (by unfold WTH; omega)) rfl)]; exact hv kk hkk), (DI_ke (by intro k; unfold WTH; omega) k4 hD), ⟨n, by omega, (Eq.trans (k4 6 2 (by decide)) e_n)⟩, ⟨un, wn, by omega, by omega, (Eq.trans (k4 41 4 (by decide)) e_un), (Eq.trans (k4 41 5 (by decide)) e_wn)⟩, ⟨b, by omega, (Eq.trans (k4 46 2 (by decide)) e_b)⟩, (fun j hj => by obtain ⟨q, hq, eq⟩ := hkd j hj; exact ⟨q, hq, (show M3 47 j = M 47 j from (Eq.trans (k4 47 j (by unfold WTH; omega)) rfl)).trans eq⟩), ⟨ra, by omega, (Eq.trans (k4 46 3 (by decide)) e_ra)⟩, (fun j hj => by obtain ⟨s, hs, es⟩ := hsl j hj; exact ⟨s, hs, (show M3 (50 + 2 * j) 3 = M (50 + 2 * j) 3 from (Eq.trans (k4 (50 + 2 * j) 3 (by unfold WTH; omega)) rfl)).trans es⟩), (fun j hj => by obtain ⟨q, hq, eq⟩ := hS j hj; exact ⟨q, hq, (show M3 36 j = M 36 j from (Eq.trans (k4 36 j (by unfold WTH; omega)) rfl)).trans eq⟩)⟩, (by unfold lpR; rw [if_pos ⟨by grind, by grind⟩]; exact hE)⟩⟩)
    · refine xr_iconst (v := -1) dX9_leastPush_12 rfl ?_
      exact xr_iret dX9_leastPush_13 rfl rfl (⟨_, rfl, rfl, rfl, Ke.rf, ⟨⟨⟨nh, by omega, e_cn⟩, ⟨cm, by omega, e_cm⟩, ⟨L, by omega, e_L⟩, (fun kk hkk => by rw [show M 3 kk = M 3 kk from rfl]; exact hv kk hkk), hD, ⟨n, by omega, e_n⟩, ⟨un, wn, by omega, by omega, e_un, e_wn⟩, ⟨b, by omega, e_b⟩, (fun j hj => by obtain ⟨q, hq, eq⟩ := hkd j hj; exact ⟨q, hq, (show M 47 j = M 47 j from rfl).trans eq⟩), ⟨ra, by omega, e_ra⟩, (fun j hj => by obtain ⟨s, hs, es⟩ := hsl j hj; exact ⟨s, hs, (show M (50 + 2 * j) 3 = M (50 + 2 * j) 3 from rfl).trans es⟩), (fun j hj => by obtain ⟨q, hq, eq⟩ := hS j hj; exact ⟨q, hq, (show M 36 j = M 36 j from rfl).trans eq⟩)⟩, (by unfold lpR; rw [if_neg (fun z => absurd z.2 (by grind))])⟩⟩)