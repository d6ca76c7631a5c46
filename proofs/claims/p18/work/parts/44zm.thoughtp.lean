set_option maxRecDepth 100000 in
set_option maxHeartbeats 4000000 in
theorem gw_X7_addPush (a1 a2 a3 : Int32) {P : xP} {nw mt mf mg : Int32} {D : xM} {l : Launch} {G : xG} {M : xM} {J : xJ} (hT : TC M P nw D 0 mt mf mg) : x_M l G fX7_addPush 0 0 0 [.ref (27), .int (a1), .int (a2), .int (a3)] x_SH M J (qKV W27 M J (fun M2 => TC M2 P nw D 0 a1 a2 a3)) := by
  refine xb_of pX7 (Nat.le_of_ble_eq_true rfl) rfl ?_
  obtain ⟨⟨a_, hb_, c_, d_⟩, ⟨e1, e2, e3, e4, e5⟩, f1, ⟨q, hq, f2⟩, f3, f4, f5, f6⟩ := hT
  refine xr_aload_n dX7_addPush_0 0 rfl ?_
  refine xr_iload_n dX7_addPush_1 1 rfl ?_
  refine xr_putI fpX7_34 dX7_addPush_2 s_27 rfl rfl rfl ?_
  refine xr_aload_n dX7_addPush_5 0 rfl ?_
  refine xr_iload_n dX7_addPush_6 2 rfl ?_
  refine xr_putI fpX7_37 dX7_addPush_7 s_27 rfl rfl rfl ?_
  refine xr_aload_n dX7_addPush_10 0 rfl ?_
  refine xr_iload_n dX7_addPush_11 3 rfl ?_
  refine xr_putI fpX7_40 dX7_addPush_12 s_27 rfl rfl rfl ?_
  exact xr_vret dX7_addPush_15 rfl (⟨rfl, rfl, rfl, (Ke.up (by omega) (Ke.up (by omega) (Ke.up (by omega) Ke.rf))), ⟨⟨((up_n (by decide)).trans ((up_n (by decide)).trans ((up_n (by decide)).trans a_))), AbC_n (AbC_n (AbC_n hb_ (Or.inl (by decide))) (Or.inl (by decide))) (Or.inl (by decide)), c_, LCt_k ((up_n (by decide)).trans ((up_n (by decide)).trans ((up_n (by decide)).trans rfl))) (fun k => ((up_n (by decide)).trans ((up_n (by decide)).trans ((up_n (by decide)).trans rfl)))) (fun k => ((up_n (by decide)).trans ((up_n (by decide)).trans ((up_n (by decide)).trans rfl)))) d_⟩, ⟨((up_n (by decide)).trans ((up_n (by decide)).trans ((up_n (by decide)).trans e1))), ((up_n (by decide)).trans ((up_n (by decide)).trans ((up_n (by decide)).trans e2))), ((up_n (by decide)).trans ((up_n (by decide)).trans ((up_n (by decide)).trans e3))), ((up_n (by decide)).trans ((up_n (by decide)).trans ((up_n (by decide)).trans e4))), ((up_n (by decide)).trans ((up_n (by decide)).trans ((up_n (by decide)).trans e5)))⟩, ((up_k (by decide)).trans ((up_k (by decide)).trans ((up_k (by decide)).trans f1))), ⟨q, hq, ((up_k (by decide)).trans ((up_k (by decide)).trans ((up_k (by decide)).trans f2)))⟩, ((up_k (by decide)).trans ((up_k (by decide)).trans ((up_k (by decide)).trans f3))), (Eq.trans (x_up_k _ _ _ (by decide)) (Eq.trans (x_up_k _ _ _ (by decide)) (x_up_s _ _ _ _))), (Eq.trans (x_up_k _ _ _ (by decide)) (x_up_s _ _ _ _)), (x_up_s _ _ _ _)⟩⟩)
set_option maxRecDepth 100000 in
set_option maxHeartbeats 4000000 in
theorem rsx9 {go st : Int32} {h K K2 : Nat} {nh : Nat} {D : xM} {t : Option zL} {S : Nat → Int32} (hh : h < nh) (hK : K ≤ 200) (hK2 : K2 ≤ 100) (hgo : 0 ≤ go ∧ go < 24) (hn5 : nh ≤ 5) (hrub : 0 ≤ S 1 ∧ S 1 ≤ 3) (hbt : ¬ S 2 = 0) (T : Int32) {l : Launch} {G : xG} {M : xM} {J : xJ} {Q : xQ} (e_cn : M 13 2 = nI nh) (e_nw : M 13 3 = S 0) (e_rub : M 13 4 = S 1) (e_bt : M 13 5 = S 2) (e_ph : M 13 6 = S 3) (e_st : M 13 7 = S 4) (hL : LCt M t) (hA : AbC 15 nh M D) (hW : WF nh D) (hR : ∀ (r : Int32) (M2 : xM), Ke WTH M M2 → r = T → Q (some (.int r)) x_SH M2 J) (hC : ∀ (M2 : xM), Ke WTH M M2 → (rsL nh D t S h st go K (100 - K2) K2 = T) → x_X l G fX9_rescue 7 0 0 Q 138 [(0, .ref (0))] [] x_SH M2 J 0 0) : ∀ (m k : Nat) (M1 : xM), k + m = K2 → Ke WTH M M1 → (rsL nh D t S h st go K (100 - k) k = T) → x_X l G fX9_rescue 7 0 0 Q 90 [(7, .int (nI (k))), (6, .int (nI (K2))), (5, .int (nI (K))), (4, .int (go)), (3, .int (st)), (1, .int (nI (h))), (0, .ref (0))] [] x_SH M1 J 0 0 := by
  intro m
  induction m with
  | zero =>
    intro k M1 hk hM hI
    have hP : WP (PS nh t S) := ⟨hn5, hrub, hbt⟩
    refine xr_iload dX9_rescue_90 0 rfl ?_
    refine xr_iload dX9_rescue_92 1 rfl ?_
    refine xr_icmp_ge (tgt := 138) dX9_rescue_94 rfl (fun _ => ?_) (fun c => absurd (nI_le (a := K2) (b := k) (by omega) (by omega)) c)
    refine xb_ls (ls2 := [(0, .ref (0))]) [6] rfl ?_
    exact hC _ hM (by obtain rfl : k = K2 := (by omega); exact hI)
  | succ m ih =>
    intro k M1 hk hM hI
    have hkN : k < K2 := by omega
    have hP : WP (PS nh t S) := ⟨hn5, hrub, hbt⟩
    refine xr_iload dX9_rescue_90 0 rfl ?_
    refine xr_iload dX9_rescue_92 1 rfl ?_
    refine xr_icmp_ge (tgt := 138) dX9_rescue_94 rfl (fun c => absurd c (nI_ge (a := k) (b := K2) (by omega) (by omega))) (fun _ => ?_)
    refine xr_aload_n dX9_rescue_97 6 rfl ?_
    refine xr_getR flX9_40 dX9_rescue_98 s_0 rfl ?_
    refine xr_callV (As := []) (rest := []) mlX9_192 (gw_X7_begin (D := D) (t := t) (cn := nh) hn5 (Eq.trans (hM 13 2 (by decide)) e_cn) (Eq.trans (hM 13 3 (by decide)) e_nw) (Eq.trans (hM 13 4 (by decide)) e_rub) (Eq.trans (hM 13 5 (by decide)) e_bt) (Eq.trans (hM 13 6 (by decide)) e_ph) (Eq.trans (hM 13 7 (by decide)) e_st) (LCt_k (Eq.trans (hM 1 4 (by unfold WTH; omega)) rfl) (fun kl => (Eq.trans (hM 2 kl (by unfold WTH; omega)) rfl)) (fun kl => (Eq.trans (hM 3 kl (by unfold WTH; omega)) rfl)) hL) (AbC_k hA (fun i hi j => (Eq.trans (hM (15 + i) j (by unfold WTH; omega)) rfl))) hW) dX9_rescue_101 s_27 rfl rfl (Nat.le_of_ble_eq_true rfl) (by decide) ⟨by decide, by decide⟩ (fun v s2 M2 J2 hq => ?_)
    obtain ⟨rfl, rfl, rfl, k3, hT1⟩ := hq
    try dsimp only [Option.toList, List.cons_append, List.nil_append]
    refine xr_aload_n dX9_rescue_104 6 rfl ?_
    refine xr_getR flX9_40 dX9_rescue_105 s_0 rfl ?_
    refine xr_iload dX9_rescue_108 0 rfl ?_
    refine xr_iload_n dX9_rescue_110 4 rfl ?_
    refine xr_iload dX9_rescue_111 3 rfl ?_
    refine xr_callV (As := [.int (nI (k)), .int (st), .int (go)]) (rest := []) mlX9_237 (gw_X7_addPush (nI (k)) st go (P := (PS nh t S)) hT1) dX9_rescue_113 s_27 rfl rfl (Nat.le_of_ble_eq_true rfl) (by decide) ⟨by decide, by decide⟩ (fun v s2 M5 J2 hq => ?_)
    obtain ⟨rfl, rfl, rfl, k6, hT4⟩ := hq
    try dsimp only [Option.toList, List.cons_append, List.nil_append]
    refine xr_aload_n dX9_rescue_116 6 rfl ?_
    refine xr_getR flX9_40 dX9_rescue_117 s_0 rfl ?_
    refine xr_iload_n dX9_rescue_120 5 rfl ?_
    refine xr_iload dX9_rescue_121 2 rfl ?_
    refine xr_callV (As := [.int (nI (h)), .int (nI (K))]) (rest := []) mlX9_240 (gw_X7_isUpBehind (P := (PS nh t S)) (h := h) (K := K) hP (Or.inr hgo) hh hK hT4) dX9_rescue_123 s_27 rfl rfl (Nat.le_of_ble_eq_true rfl) (by decide) ⟨by decide, by decide⟩ (fun v s2 M8 J2 hq => ?_)
    obtain ⟨r10, rfl, rfl, rfl, k9, hx7⟩ := hq
    try dsimp only [Option.toList, List.cons_append, List.nil_append]
    subst hx7
    refine xb_top (y := bI (K < rsV nh D t S h st go k)) rfl ?_
    refine xb_beq (tgt := 132) dX9_rescue_126 rfl (fun c11 => ?_) (fun c11 => ?_)
    · refine xr_iinc (v := nI (k + 1)) (ls2 := [(7, .int (nI (k + 1))), (6, .int (nI (K2))), (5, .int (nI (K))), (4, .int (go)), (3, .int (st)), (1, .int (nI (h))), (0, .ref (0))]) dX9_rescue_132 0 rfl (nI_1 _) (by decide) rfl ?_
      refine xr_goto (tgt := 90) dX9_rescue_135 rfl ?_
      refine xb_ls (ls2 := [(7, .int (nI (k + 1))), (6, .int (nI (K2))), (5, .int (nI (K))), (4, .int (go)), (3, .int (st)), (1, .int (nI (h))), (0, .ref (0))]) [0, 1, 2, 3, 4, 5, 6] rfl ?_
      exact ih (k + 1) M8 (by omega) (Ke.tr (fun pp kk => (fun hh => Or.elim hh (fun h => (Or.inl h)) (fun hh => Or.elim hh (fun h => (Or.inr (Or.inl h))) (fun hh => Or.elim hh (fun h => (Or.inr (Or.inr (Or.inl (by omega))))) (fun hh => Or.elim hh (fun h => (Or.inr (Or.inr (Or.inl (by omega))))) (fun h => (Or.inr (Or.inr (Or.inr h))))))))) (Ke.tr (fun pp kk h => (Or.inr (Or.inr (Or.inl (by omega))))) (Ke.tr (fun pp kk => (fun hh => Or.elim hh (fun h => (Or.inr (Or.inr (Or.inl h)))) (fun h => (Or.inr (Or.inr (Or.inr h)))))) hM k3) k6) k9) ((rsL_n (N := 100) (by omega) c11).trans hI)
    · refine xr_iload dX9_rescue_129 0 rfl ?_
      exact xr_iret dX9_rescue_131 rfl rfl ((hR _ _ (Ke.tr (fun pp kk => (fun hh => Or.elim hh (fun h => (Or.inl h)) (fun hh => Or.elim hh (fun h => (Or.inr (Or.inl h))) (fun hh => Or.elim hh (fun h => (Or.inr (Or.inr (Or.inl (by omega))))) (fun hh => Or.elim hh (fun h => (Or.inr (Or.inr (Or.inl (by omega))))) (fun h => (Or.inr (Or.inr (Or.inr h))))))))) (Ke.tr (fun pp kk h => (Or.inr (Or.inr (Or.inl (by omega))))) (Ke.tr (fun pp kk => (fun hh => Or.elim hh (fun h => (Or.inr (Or.inr (Or.inl h)))) (fun h => (Or.inr (Or.inr (Or.inr h)))))) hM k3) k6) k9) ((rsL_y (N := 100) (by omega) c11).symm.trans hI)))
set_option maxRecDepth 100000 in
set_option maxHeartbeats 4000000 in
theorem gx_X9_rescue {nh : Nat} {D : xM} {t : Option zL} {S : Nat → Int32} (h fp : Int32) {l : Launch} {G : xG} {M : xM} {J : xJ} (hI : InvC M) (hWG : WG nh D S) (hG : CG M nh D t S) : x_M l G fX9_rescue 7 0 0 [.ref (0), .int (h), .int (fp)] x_SH M J (qKI WTH M J (fun r M2 => InvC M2 ∧ (r = rsR nh D t S h fp))) := by
  refine xb_of pX9 (Nat.le_of_ble_eq_true rfl) rfl ?_
  obtain ⟨⟨cn, h_cn, e_cn⟩, ⟨cm, h_cm, e_cm⟩, ⟨L, h_L, e_L⟩, hv, hD, ⟨n, h_n, e_n⟩, ⟨un, wn, h_uw, h_wn, e_un, e_wn⟩, ⟨b, h_b, e_b⟩, hkd, ⟨ra, h_ra, e_ra⟩, hsl, hS⟩ := hI
  obtain ⟨hn5, hW, hrub, hbeat⟩ := hWG
  obtain ⟨hGn, hA, hL, e_nw, e_rub, e_bt, e_ph, e_st, e_kn, e_pu, e_lf⟩ := hG
  obtain rfl : nh = cn := (nI_eq (by omega) (by omega)).mp (hGn.symm.trans e_cn)
  have hbt : ¬ S 2 = 0 := ne2_0 hbeat.1
  have hP : WP (PS nh t S) := ⟨hn5, hrub, hbt⟩
  refine xr_iload_n dX9_rescue_0 2 rfl ?_
  refine xr_bipush (v := 100) dX9_rescue_1 rfl ?_
  refine xr_idiv dX9_rescue_3 (by decide) ?_
  refine xr_istore_n (ls2 := [(3, .int ((fp / 100))), (0, .ref (0)), (1, .int (h)), (2, .int (fp))]) dX9_rescue_4 (by decide) rfl ?_
  refine xr_iload_n dX9_rescue_5 3 rfl ?_
  refine xr_bipush (v := 100) dX9_rescue_6 rfl ?_
  refine xr_irem dX9_rescue_8 (by decide) ?_
  refine xr_istore (ls2 := [(4, .int ((fp - fp / 100 * 100))), (3, .int ((fp / 100))), (0, .ref (0)), (1, .int (h)), (2, .int (fp))]) dX9_rescue_9 (by decide) rfl ?_
  refine xr_aload_n dX9_rescue_11 2 rfl ?_
  refine xr_getR flX9_28 dX9_rescue_12 s_0 rfl ?_
  refine xr_iload_n dX9_rescue_15 3 rfl ?_
  refine xb_cV (As := [.int (h)]) (rest := []) mlX9_118 (c_X5_has h (by omega) e_cn) dX9_rescue_16 s_13 rfl rfl (Nat.le_of_ble_eq_true rfl) (by decide) (by decide) ?_
  refine xb_beq (tgt := 44) dX9_rescue_19 rfl (fun c1 => ?_) (fun c1 => ?_)
  · refine xr_iconst (v := -1) dX9_rescue_44 rfl ?_
    exact xr_iret dX9_rescue_45 rfl rfl (⟨_, rfl, rfl, rfl, Ke.rf, ⟨⟨⟨nh, by omega, e_cn⟩, ⟨cm, by omega, e_cm⟩, ⟨L, by omega, e_L⟩, (fun kk hkk => by rw [show M 3 kk = M 3 kk from rfl]; exact hv kk hkk), hD, ⟨n, by omega, e_n⟩, ⟨un, wn, by omega, by omega, e_un, e_wn⟩, ⟨b, by omega, e_b⟩, (fun j hj => by obtain ⟨q, hq, eq⟩ := hkd j hj; exact ⟨q, hq, (show M 47 j = M 47 j from rfl).trans eq⟩), ⟨ra, by omega, e_ra⟩, (fun j hj => by obtain ⟨s, hs, es⟩ := hsl j hj; exact ⟨s, hs, (show M (50 + 2 * j) 3 = M (50 + 2 * j) 3 from rfl).trans es⟩), (fun j hj => by obtain ⟨q, hq, eq⟩ := hS j hj; exact ⟨q, hq, (show M 36 j = M 36 j from rfl).trans eq⟩)⟩, (rsR_n (fun z => c1 z.1))⟩⟩)
  · obtain ⟨h_, hh_, rfl⟩ := x_nat (N := nh) (by omega) rfl c1
    refine xr_iload_n dX9_rescue_22 1 rfl ?_
    refine xr_iconst (v := 1) dX9_rescue_23 rfl ?_
    refine xr_icmp_lt (tgt := 44) dX9_rescue_24 rfl (fun c2 => ?_) (fun c2 => ?_)
    · refine xr_iconst (v := -1) dX9_rescue_44 rfl ?_
      exact xr_iret dX9_rescue_45 rfl rfl (⟨_, rfl, rfl, rfl, Ke.rf, ⟨⟨⟨nh, by omega, e_cn⟩, ⟨cm, by omega, e_cm⟩, ⟨L, by omega, e_L⟩, (fun kk hkk => by rw [show M 3 kk = M 3 kk from rfl]; exact hv kk hkk), hD, ⟨n, by omega, e_n⟩, ⟨un, wn, by omega, by omega, e_un, e_wn⟩, ⟨b, by omega, e_b⟩, (fun j hj => by obtain ⟨q, hq, eq⟩ := hkd j hj; exact ⟨q, hq, (show M 47 j = M 47 j from rfl).trans eq⟩), ⟨ra, by omega, e_ra⟩, (fun j hj => by obtain ⟨s, hs, es⟩ := hsl j hj; exact ⟨s, hs, (show M (50 + 2 * j) 3 = M (50 + 2 * j) 3 from rfl).trans es⟩), (fun j hj => by obtain ⟨q, hq, eq⟩ := hS j hj; exact ⟨q, hq, (show M 36 j = M 36 j from rfl).trans eq⟩)⟩, (rsR_n (fun z => absurd z.2.1.1 (by grind)))⟩⟩)
    · refine xr_iload_n dX9_rescue_27 1 rfl ?_
      refine xr_iconst (v := 5) dX9_rescue_28 rfl ?_
      refine xr_icmp_gt (tgt := 44) dX9_rescue_29 rfl (fun c3 => ?_) (fun c3 => ?_)
      · refine xr_iconst (v := -1) dX9_rescue_44 rfl ?_
        exact xr_iret dX9_rescue_45 rfl rfl (⟨_, rfl, rfl, rfl, Ke.rf, ⟨⟨⟨nh, by omega, e_cn⟩, ⟨cm, by omega, e_cm⟩, ⟨L, by omega, e_L⟩, (fun kk hkk => by rw [show M 3 kk = M 3 kk from rfl]; exact hv kk hkk), hD, ⟨n, by omega, e_n⟩, ⟨un, wn, by omega, by omega, e_un, e_wn⟩, ⟨b, by omega, e_b⟩, (fun j hj => by obtain ⟨q, hq, eq⟩ := hkd j hj; exact ⟨q, hq, (show M 47 j = M 47 j from rfl).trans eq⟩), ⟨ra, by omega, e_ra⟩, (fun j hj => by obtain ⟨s, hs, es⟩ := hsl j hj; exact ⟨s, hs, (show M (50 + 2 * j) 3 = M (50 + 2 * j) 3 from rfl).trans es⟩), (fun j hj => by obtain ⟨q, hq, eq⟩ := hS j hj; exact ⟨q, hq, (show M 36 j = M 36 j from rfl).trans eq⟩)⟩, (rsR_n (fun z => absurd z.2.1.2 (by grind)))⟩⟩)
      · refine xr_iload dX9_rescue_32 0 rfl ?_
        refine xr_if_lt (tgt := 44) dX9_rescue_34 rfl (fun c4 => ?_) (fun c4 => ?_)
        · refine xr_iconst (v := -1) dX9_rescue_44 rfl ?_
          exact xr_iret dX9_rescue_45 rfl rfl (⟨_, rfl, rfl, rfl, Ke.rf, ⟨⟨⟨nh, by omega, e_cn⟩, ⟨cm, by omega, e_cm⟩, ⟨L, by omega, e_L⟩, (fun kk hkk => by rw [show M 3 kk = M 3 kk from rfl]; exact hv kk hkk), hD, ⟨n, by omega, e_n⟩, ⟨un, wn, by omega, by omega, e_un, e_wn⟩, ⟨b, by omega, e_b⟩, (fun j hj => by obtain ⟨q, hq, eq⟩ := hkd j hj; exact ⟨q, hq, (show M 47 j = M 47 j from rfl).trans eq⟩), ⟨ra, by omega, e_ra⟩, (fun j hj => by obtain ⟨s, hs, es⟩ := hsl j hj; exact ⟨s, hs, (show M (50 + 2 * j) 3 = M (50 + 2 * j) 3 from rfl).trans es⟩), (fun j hj => by obtain ⟨q, hq, eq⟩ := hS j hj; exact ⟨q, hq, (show M 36 j = M 36 j from rfl).trans eq⟩)⟩, (rsR_n (fun z => absurd z.2.2.1 (by grind)))⟩⟩)
        · refine xr_iload dX9_rescue_37 0 rfl ?_
          refine xr_bipush (v := 24) dX9_rescue_39 rfl ?_
          refine xr_icmp_lt (tgt := 46) dX9_rescue_41 rfl (fun c5 => ?_) (fun c5 => ?_)
          · refine xr_aload_n dX9_rescue_46 2 rfl ?_
            refine xr_getR flX9_40 dX9_rescue_47 s_0 rfl ?_
            refine xr_callV (As := []) (rest := []) mlX9_192 (gw_X7_begin (D := D) (t := t) (cn := nh) hn5 e_cn e_nw e_rub e_bt e_ph e_st (LCt_k rfl (fun kl => rfl) (fun kl => rfl) hL) (AbC_k hA (fun i hi j => rfl)) hW) dX9_rescue_50 s_27 rfl rfl (Nat.le_of_ble_eq_true rfl) (by decide) ⟨by decide, by decide⟩ (fun v s2 M7 J2 hq => ?_)
            obtain ⟨rfl, rfl, rfl, k8, hT6⟩ := hq
            try dsimp only [Option.toList, List.cons_append, List.nil_append]
            refine xr_aload_n dX9_rescue_53 2 rfl ?_
            refine xr_getR flX9_40 dX9_rescue_54 s_0 rfl ?_
            refine xr_iload_n dX9_rescue_57 3 rfl ?_
            refine xr_callV (As := [.int (nI (h_))]) (rest := []) mlX9_195 (gw_X7_fallOf (P := (PS nh t S)) (h := h_) hP hh_ hT6) dX9_rescue_58 s_27 rfl rfl (Nat.le_of_ble_eq_true rfl) (by decide) ⟨by decide, by decide⟩ (fun v s2 M10 J2 hq => ?_)
            obtain ⟨r12, rfl, rfl, rfl, k11, hx9⟩ := hq
            try dsimp only [Option.toList, List.cons_append, List.nil_append]
            refine xr_istore (ls2 := [(5, .int (r12)), (4, .int ((fp - fp / 100 * 100))), (3, .int ((fp / 100))), (0, .ref (0)), (1, .int (nI (h_))), (2, .int (fp))]) dX9_rescue_61 (by decide) rfl ?_
            refine xr_iload dX9_rescue_63 0 rfl ?_
            refine xr_if_eq (tgt := 75) dX9_rescue_65 rfl (fun c13 => ?_) (fun c13 => ?_)
            · refine xr_bipush (v := -5) dX9_rescue_75 rfl ?_
              exact xr_iret dX9_rescue_77 rfl rfl (⟨_, rfl, rfl, rfl, (Ke.tr (fun pp kk => (fun hh => Or.elim hh (fun h => (Or.inl h)) (fun hh => Or.elim hh (fun h => (Or.inr (Or.inl h))) (fun hh => Or.elim hh (fun h => (Or.inr (Or.inr (Or.inl (by omega))))) (fun hh => Or.elim hh (fun h => (Or.inr (Or.inr (Or.inl (by omega))))) (fun h => (Or.inr (Or.inr (Or.inr h))))))))) (Ke.tr (fun pp kk => (fun hh => Or.elim hh (fun h => (Or.inr (Or.inr (Or.inl h)))) (fun h => (Or.inr (Or.inr (Or.inr h)))))) Ke.rf k8) k11), ⟨⟨⟨nh, by omega, (Eq.trans (k11 13 2 (by decide)) (Eq.trans (k8 13 2 (by decide)) e_cn))⟩, ⟨cm, by omega, (Eq.trans (k11 20 2 (by decide)) (Eq.trans (k8 20 2 (by decide)) e_cm))⟩, ⟨L, by omega, (Eq.trans (k11 1 4 (by decide)) (Eq.trans (k8 1 4 (by decide)) e_L))⟩, (fun kk hkk => by rw [show M10 3 kk = M 3 kk from (Eq.trans (k11 3 kk (by unfold WS; omega)) (Eq.trans (k8 3 kk (by unfold WTB; omega)) rfl))]; exact hv kk hkk), (DI_ke (by intro k; unfold WS; omega) k11 (DI_ke (by intro k; unfold WTB; omega) k8 hD)), ⟨n, by omega, (Eq.trans (k11 6 2 (by decide)) (Eq.trans (k8 6 2 (by decide)) e_n))⟩, ⟨un, wn, by omega, by omega, (Eq.trans (k11 41 4 (by decide)) (Eq.trans (k8 41 4 (by decide)) e_un)), (Eq.trans (k11 41 5 (by decide)) (Eq.trans (k8 41 5 (by decide)) e_wn))⟩, ⟨b, by omega, (Eq.trans (k11 46 2 (by decide)) (Eq.trans (k8 46 2 (by decide)) e_b))⟩, (fun j hj => by obtain ⟨q, hq, eq⟩ := hkd j hj; exact ⟨q, hq, (show M10 47 j = M 47 j from (Eq.trans (k11 47 j (by unfold WS; omega)) (Eq.trans (k8 47 j (by unfold WTB; omega)) rfl))).trans eq⟩), ⟨ra, by omega, (Eq.trans (k11 46 3 (by decide)) (Eq.trans (k8 46 3 (by decide)) e_ra))⟩, (fun j hj => by obtain ⟨s, hs, es⟩ := hsl j hj; exact ⟨s, hs, (show M10 (50 + 2 * j) 3 = M (50 + 2 * j) 3 from (Eq.trans (k11 (50 + 2 * j) 3 (by unfold WS; omega)) (Eq.trans (k8 (50 + 2 * j) 3 (by unfold WTB; omega)) rfl))).trans es⟩), (fun j hj => by obtain ⟨q, hq, eq⟩ := hS j hj; exact ⟨q, hq, (show M10 36 j = M 36 j from (Eq.trans (k11 36 j (by unfold WS; omega)) (Eq.trans (k8 36 j (by unfold WTB; omega)) rfl))).trans eq⟩)⟩, ((if_pos (Or.inl (faR_0 faV_le (hx9.symm.trans c13)))).symm.trans (rsR_y hn5 ⟨c1, ⟨by grind, by grind⟩, ⟨by grind, by grind⟩⟩ hh_))⟩⟩)
            · refine xr_iload dX9_rescue_68 0 rfl ?_
              refine xr_bipush (v := -2) dX9_rescue_70 rfl ?_
              refine xr_icmp_ne (tgt := 78) dX9_rescue_72 rfl (fun c14 => ?_) (fun c14 => ?_)
              · obtain ⟨K, hK, hKV, rfl⟩ := faR_3 faV_le hx9 c14
                refine xr_bipush (v := 100) dX9_rescue_78 rfl ?_
                refine xr_iload dX9_rescue_80 0 rfl ?_
                refine xr_min mmX9_232 uj_min uj_mi uj_minc dX9_rescue_82 (Nat.le_of_ble_eq_true rfl) (by decide) ?_
                have hmn := rs_min hK
                refine xb_top (y := nI (min 100 K)) hmn.2.2 ?_
                refine xr_istore (ls2 := [(6, .int (nI (min 100 K))), (5, .int (nI (K))), (4, .int ((fp - fp / 100 * 100))), (3, .int ((fp / 100))), (0, .ref (0)), (1, .int (nI (h_))), (2, .int (fp))]) dX9_rescue_85 (by decide) rfl ?_
                refine xr_iconst (v := 0) dX9_rescue_87 rfl ?_
                refine xr_istore (ls2 := [(7, .int (0)), (6, .int (nI (min 100 K))), (5, .int (nI (K))), (4, .int ((fp - fp / 100 * 100))), (3, .int ((fp / 100))), (0, .ref (0)), (1, .int (nI (h_))), (2, .int (fp))]) dX9_rescue_88 (by decide) rfl ?_
                have hrc : rsC nh (nI h_) fp := ⟨c1, ⟨by grind, by grind⟩, ⟨by grind, by grind⟩⟩
                have hnz : ¬ (faV (PS nh t S) h_ (S 0) D = 0 ∨ faV (PS nh t S) h_ (S 0) D = 201) := fun z => z.elim (fun z => c13 (by rw [hKV, z]; rfl)) (fun z => by omega)
                have hRs : rsL nh D t S h_ (fp / 100) (fp - fp / 100 * 100) K 100 0 = rsR nh D t S (nI h_) fp := by rw [← rsR_y hn5 hrc hh_]; unfold rsF; rw [if_neg hnz, ← hKV]
                refine xb_ls (ls2 := [(7, .int (nI (0))), (6, .int (nI (min 100 K))), (5, .int (nI (K))), (4, .int ((fp - fp / 100 * 100))), (3, .int ((fp / 100))), (1, .int (nI (h_))), (0, .ref (0))]) [0, 1, 2, 3, 4, 6, 5] rfl ?_
                refine rsx9 hh_ hK (Nat.min_le_left _ _) hrc.2.2 hn5 hrub hbt (rsL nh D t S h_ (fp / 100) (fp - fp / 100 * 100) K 100 0) (Eq.trans (k11 13 2 (by decide)) (Eq.trans (k8 13 2 (by decide)) e_cn)) (Eq.trans (k11 13 3 (by decide)) (Eq.trans (k8 13 3 (by decide)) e_nw)) (Eq.trans (k11 13 4 (by decide)) (Eq.trans (k8 13 4 (by decide)) e_rub)) (Eq.trans (k11 13 5 (by decide)) (Eq.trans (k8 13 5 (by decide)) e_bt)) (Eq.trans (k11 13 6 (by decide)) (Eq.trans (k8 13 6 (by decide)) e_ph)) (Eq.trans (k11 13 7 (by decide)) (Eq.trans (k8 13 7 (by decide)) e_st)) (LCt_k (Eq.trans (k11 1 4 (by unfold WS; omega)) (Eq.trans (k8 1 4 (by unfold WTB; omega)) rfl)) (fun kl => (Eq.trans (k11 2 kl (by unfold WS; omega)) (Eq.trans (k8 2 kl (by unfold WTB; omega)) rfl))) (fun kl => (Eq.trans (k11 3 kl (by unfold WS; omega)) (Eq.trans (k8 3 kl (by unfold WTB; omega)) rfl))) hL) (AbC_k hA (fun i hi j => (Eq.trans (k11 (15 + i) j (by unfold WS; omega)) (Eq.trans (k8 (15 + i) j (by unfold WTB; omega)) rfl)))) hW (fun r M2 hk hr => ⟨_, rfl, rfl, rfl, Ke.tr (fun _ _ h => h) (Ke.tr (fun pp kk => (fun hh => Or.elim hh (fun h => (Or.inl h)) (fun hh => Or.elim hh (fun h => (Or.inr (Or.inl h))) (fun hh => Or.elim hh (fun h => (Or.inr (Or.inr (Or.inl (by omega))))) (fun hh => Or.elim hh (fun h => (Or.inr (Or.inr (Or.inl (by omega))))) (fun h => (Or.inr (Or.inr (Or.inr h))))))))) (Ke.tr (fun pp kk => (fun hh => Or.elim hh (fun h => (Or.inr (Or.inr (Or.inl h)))) (fun h => (Or.inr (Or.inr (Or.inr h)))))) Ke.rf k8) k11) hk, ⟨⟨nh, by omega, (Eq.trans (hk 13 2 (by decide)) (Eq.trans (k11 13 2 (by decide)) (Eq.trans (k8 13 2 (by decide)) e_cn)))⟩, ⟨cm, by omega, (Eq.trans (hk 20 2 (by decide)) (Eq.trans (k11 20 2 (by decide)) (Eq.trans (k8 20 2 (by decide)) e_cm)))⟩, ⟨L, by omega, (Eq.trans (hk 1 4 (by decide)) (Eq.trans (k11 1 4 (by decide)) (Eq.trans (k8 1 4 (by decide)) e_L)))⟩, (fun kk hkk => by rw [show M2 3 kk = M 3 kk from (Eq.trans (hk 3 kk (by unfold WTH; omega)) (Eq.trans (k11 3 kk (by unfold WS; omega)) (Eq.trans (k8 3 kk (by unfold WTB; omega)) rfl)))]; exact hv kk hkk), (DI_ke (by intro k; unfold WTH; omega) hk (DI_ke (by intro k; unfold WS; omega) k11 (DI_ke (by intro k; unfold WTB; omega) k8 hD))), ⟨n, by omega, (Eq.trans (hk 6 2 (by decide)) (Eq.trans (k11 6 2 (by decide)) (Eq.trans (k8 6 2 (by decide)) e_n)))⟩, ⟨un, wn, by omega, by omega, (Eq.trans (hk 41 4 (by decide)) (Eq.trans (k11 41 4 (by decide)) (Eq.trans (k8 41 4 (by decide)) e_un))), (Eq.trans (hk 41 5 (by decide)) (Eq.trans (k11 41 5 (by decide)) (Eq.trans (k8 41 5 (by decide)) e_wn)))⟩, ⟨b, by omega, (Eq.trans (hk 46 2 (by decide)) (Eq.trans (k11 46 2 (by decide)) (Eq.trans (k8 46 2 (by decide)) e_b)))⟩, (fun j hj => by obtain ⟨q, hq, eq⟩ := hkd j hj; exact ⟨q, hq, (show M2 47 j = M 47 j from (Eq.trans (hk 47 j (by unfold WTH; omega)) (Eq.trans (k11 47 j (by unfold WS; omega)) (Eq.trans (k8 47 j (by unfold WTB; omega)) rfl)))).trans eq⟩), ⟨ra, by omega, (Eq.trans (hk 46 3 (by decide)) (Eq.trans (k11 46 3 (by decide)) (Eq.trans (k8 46 3 (by decide)) e_ra)))⟩, (fun j hj => by obtain ⟨s, hs, es⟩ := hsl j hj; exact ⟨s, hs, (show M2 (50 + 2 * j) 3 = M (50 + 2 * j) 3 from (Eq.trans (hk (50 + 2 * j) 3 (by unfold WTH; omega)) (Eq.trans (k11 (50 + 2 * j) 3 (by unfold WS; omega)) (Eq.trans (k8 (50 + 2 * j) 3 (by unfold WTB; omega)) rfl)))).trans es⟩), (fun j hj => by obtain ⟨q, hq, eq⟩ := hS j hj; exact ⟨q, hq, (show M2 36 j = M 36 j from (Eq.trans (hk 36 j (by unfold WTH; omega)) (Eq.trans (k11 36 j (by unfold WS; omega)) (Eq.trans (k8 36 j (by unfold WTB; omega)) rfl)))).trans eq⟩)⟩, hr.trans hRs⟩) (fun M15 k16 hE => ?_) ((min 100 K) - 0) 0 M10 (by omega) Ke.rf rfl
                refine xr_bipush (v := -2) dX9_rescue_138 rfl ?_
                exact xr_iret dX9_rescue_140 rfl rfl (⟨_, rfl, rfl, rfl, (Ke.tr (fun _ _ h => h) (Ke.tr (fun pp kk => (fun hh => Or.elim hh (fun h => (Or.inl h)) (fun hh => Or.elim hh (fun h => (Or.inr (Or.inl h))) (fun hh => Or.elim hh (fun h => (Or.inr (Or.inr (Or.inl (by omega))))) (fun hh => Or.elim hh (fun h => (Or.inr (Or.inr (Or.inl (by omega))))) (fun h => (Or.inr (Or.inr (Or.inr h))))))))) (Ke.tr (fun pp kk => (fun hh => Or.elim hh (fun h => (Or.inr (Or.inr (Or.inl h)))) (fun h => (Or.inr (Or.inr (Or.inr h)))))) Ke.rf k8) k11) k16), ⟨⟨⟨nh, by omega, (Eq.trans (k16 13 2 (by decide)) (Eq.trans (k11 13 2 (by decide)) (Eq.trans (k8 13 2 (by decide)) e_cn)))⟩, ⟨cm, by omega, (Eq.trans (k16 20 2 (by decide)) (Eq.trans (k11 20 2 (by decide)) (Eq.trans (k8 20 2 (by decide)) e_cm)))⟩, ⟨L, by omega, (Eq.trans (k16 1 4 (by decide)) (Eq.trans (k11 1 4 (by decide)) (Eq.trans (k8 1 4 (by decide)) e_L)))⟩, (fun kk hkk => by rw [show M15 3 kk = M 3 kk from (Eq.trans (k16 3 kk (by unfold WTH; omega)) (Eq.trans (k11 3 kk (by unfold WS; omega)) (Eq.trans (k8 3 kk (by unfold WTB; omega)) rfl)))]; exact hv kk hkk), (DI_ke (by intro k; unfold WTH; omega) k16 (DI_ke (by intro k; unfold WS; omega) k11 (DI_ke (by intro k; unfold WTB; omega) k8 hD))), ⟨n, by omega, (Eq.trans (k16 6 2 (by decide)) (Eq.trans (k11 6 2 (by decide)) (Eq.trans (k8 6 2 (by decide)) e_n)))⟩, ⟨un, wn, by omega, by omega, (Eq.trans (k16 41 4 (by decide)) (Eq.trans (k11 41 4 (by decide)) (Eq.trans (k8 41 4 (by decide)) e_un))), (Eq.trans (k16 41 5 (by decide)) (Eq.trans (k11 41 5 (by decide)) (Eq.trans (k8 41 5 (by decide)) e_wn)))⟩, ⟨b, by omega, (Eq.trans (k16 46 2 (by decide)) (Eq.trans (k11 46 2 (by decide)) (Eq.trans (k8 46 2 (by decide)) e_b)))⟩, (fun j hj => by obtain ⟨q, hq, eq⟩ := hkd j hj; exact ⟨q, hq, (show M15 47 j = M 47 j from (Eq.trans (k16 47 j (by unfold WTH; omega)) (Eq.trans (k11 47 j (by unfold WS; omega)) (Eq.trans (k8 47 j (by unfold WTB; omega)) rfl)))).trans eq⟩), ⟨ra, by omega, (Eq.trans (k16 46 3 (by decide)) (Eq.trans (k11 46 3 (by decide)) (Eq.trans (k8 46 3 (by decide)) e_ra)))⟩, (fun j hj => by obtain ⟨s, hs, es⟩ := hsl j hj; exact ⟨s, hs, (show M15 (50 + 2 * j) 3 = M (50 + 2 * j) 3 from (Eq.trans (k16 (50 + 2 * j) 3 (by unfold WTH; omega)) (Eq.trans (k11 (50 + 2 * j) 3 (by unfold WS; omega)) (Eq.trans (k8 (50 + 2 * j) 3 (by unfold WTB; omega)) rfl)))).trans es⟩), (fun j hj => by obtain ⟨q, hq, eq⟩ := hS j hj; exact ⟨q, hq, (show M15 36 j = M 36 j from (Eq.trans (k16 36 j (by unfold WTH; omega)) (Eq.trans (k11 36 j (by unfold WS; omega)) (Eq.trans (k8 36 j (by unfold WTB; omega)) rfl)))).trans eq⟩)⟩, (((rs_end hK hKV).symm.trans hE).trans hRs)⟩⟩)
              · refine xr_bipush (v := -5) dX9_rescue_75 rfl ?_
                exact xr_iret dX9_rescue_77 rfl rfl (⟨_, rfl, rfl, rfl, (Ke.tr (fun pp kk => (fun hh => Or.elim hh (fun h => (Or.inl h)) (fun hh => Or.elim hh (fun h => (Or.inr (Or.inl h))) (fun hh => Or.elim hh (fun h => (Or.inr (Or.inr (Or.inl (by omega))))) (fun hh => Or.elim hh (fun h => (Or.inr (Or.inr (Or.inl (by omega))))) (fun h => (Or.inr (Or.inr (Or.inr h))))))))) (Ke.tr (fun pp kk => (fun hh => Or.elim hh (fun h => (Or.inr (Or.inr (Or.inl h)))) (fun h => (Or.inr (Or.inr (Or.inr h)))))) Ke.rf k8) k11), ⟨⟨⟨nh, by omega, (Eq.trans (k11 13 2 (by decide)) (Eq.trans (k8 13 2 (by decide)) e_cn))⟩, ⟨cm, by omega, (Eq.trans (k11 20 2 (by decide)) (Eq.trans (k8 20 2 (by decide)) e_cm))⟩, ⟨L, by omega, (Eq.trans (k11 1 4 (by decide)) (Eq.trans (k8 1 4 (by decide)) e_L))⟩, (fun kk hkk => by rw [show M10 3 kk = M 3 kk from (Eq.trans (k11 3 kk (by unfold WS; omega)) (Eq.trans (k8 3 kk (by unfold WTB; omega)) rfl))]; exact hv kk hkk), (DI_ke (by intro k; unfold WS; omega) k11 (DI_ke (by intro k; unfold WTB; omega) k8 hD)), ⟨n, by omega, (Eq.trans (k11 6 2 (by decide)) (Eq.trans (k8 6 2 (by decide)) e_n))⟩, ⟨un, wn, by omega, by omega, (Eq.trans (k11 41 4 (by decide)) (Eq.trans (k8 41 4 (by decide)) e_un)), (Eq.trans (k11 41 5 (by decide)) (Eq.trans (k8 41 5 (by decide)) e_wn))⟩, ⟨b, by omega, (Eq.trans (k11 46 2 (by decide)) (Eq.trans (k8 46 2 (by decide)) e_b))⟩, (fun j hj => by obtain ⟨q, hq, eq⟩ := hkd j hj; exact ⟨q, hq, (show M10 47 j = M 47 j from (Eq.trans (k11 47 j (by unfold WS; omega)) (Eq.trans (k8 47 j (by unfold WTB; omega)) rfl))).trans eq⟩), ⟨ra, by omega, (Eq.trans (k11 46 3 (by decide)) (Eq.trans (k8 46 3 (by decide)) e_ra))⟩, (fun j hj => by obtain ⟨s, hs, es⟩ := hsl j hj; exact ⟨s, hs, (show M10 (50 + 2 * j) 3 = M (50 + 2 * j) 3 from (Eq.trans (k11 (50 + 2 * j) 3 (by unfold WS; omega)) (Eq.trans (k8 (50 + 2 * j) 3 (by unfold WTB; omega)) rfl))).trans es⟩), (fun j hj => by obtain ⟨q, hq, eq⟩ := hS j hj; exact ⟨q, hq, (show M10 36 j = M 36 j from (Eq.trans (k11 36 j (by unfold WS; omega)) (Eq.trans (k8 36 j (by unfold WTB; omega)) rfl))).trans eq⟩)⟩, ((if_pos (Or.inr (faR_m faV_le (hx9.symm.trans c14)))).symm.trans (rsR_y hn5 ⟨c1, ⟨by grind, by grind⟩, ⟨by grind, by grind⟩⟩ hh_))⟩⟩)
          · refine xr_iconst (v := -1) dX9_rescue_44 rfl ?_
            exact xr_iret dX9_rescue_45 rfl rfl (⟨_, rfl, rfl, rfl, Ke.rf, ⟨⟨⟨nh, by omega, e_cn⟩, ⟨cm, by omega, e_cm⟩, ⟨L, by omega, e_L⟩, (fun kk hkk => by rw [show M 3 kk = M 3 kk from rfl]; exact hv kk hkk), hD, ⟨n, by omega, e_n⟩, ⟨un, wn, by omega, by omega, e_un, e_wn⟩, ⟨b, by omega, e_b⟩, (fun j hj => by obtain ⟨q, hq, eq⟩ := hkd j hj; exact ⟨q, hq, (show M 47 j = M 47 j from rfl).trans eq⟩), ⟨ra, by omega, e_ra⟩, (fun j hj => by obtain ⟨s, hs, es⟩ := hsl j hj; exact ⟨s, hs, (show M (50 + 2 * j) 3 = M (50 + 2 * j) 3 from rfl).trans es⟩), (fun j hj => by obtain ⟨q, hq, eq⟩ := hS j hj; exact ⟨q, hq, (show M 36 j = M 36 j from rfl).trans eq⟩)⟩, (rsR_n (fun z => absurd z.2.2.2 (by grind)))⟩⟩)
