set_option maxRecDepth 100000 in
set_option maxHeartbeats 4000000 in
theorem stx {h : Nat} {nh : Nat} {D : xM} {t : Option zL} {S : Nat → Int32} (hh : h < nh) (hup : ¬ D h 4 = 0) (hn5 : nh ≤ 5) (hrub : 0 ≤ S 1 ∧ S 1 ≤ 3) (hbt : ¬ S 2 = 0) (T : Int32 × Int32) {l : Launch} {G : xG} {M : xM} {J : xJ} {Q : xQ} (e_cn : M 13 2 = nI nh) (e_nw : M 13 3 = S 0) (e_rub : M 13 4 = S 1) (e_bt : M 13 5 = S 2) (e_ph : M 13 6 = S 3) (e_st : M 13 7 = S 4) (hL : LCt M t) (hA : AbC 15 nh M D) (hW : WF nh D) (hC : ∀ (la : Int32) (be : Int32) (M2 : xM), Ke WTH M M2 → (be = T.1) → x_X l G fX9_start 7 0 0 Q 117 [(2, .int (be)), (0, .ref (0))] [] x_SH M2 J 0 0) : ∀ (m k : Nat) (la : Int32) (be : Int32) (M1 : xM), k + m = 19 → Ke WTH M M1 → (stL nh D t S h (19 - k) k (be, la) = T) → x_X l G fX9_start 7 0 0 Q 41 [(4, .int (pv k)), (3, .int (la)), (2, .int (be)), (1, .int (nI (h))), (0, .ref (0))] [] x_SH M1 J 0 0 := by
  intro m
  induction m with
  | zero =>
    intro k la be M1 hk hM hI
    have hP : WP (PS nh t S) := ⟨hn5, hrub, hbt⟩
    refine xr_iload dX9_start_41 0 rfl ?_
    refine xr_bipush (v := 9) dX9_start_43 rfl ?_
    refine xr_icmp_gt (tgt := 117) dX9_start_45 rfl (fun _ => ?_) (fun c => absurd (pv_gt (k := k) (by omega)) c)
    refine xb_ls (ls2 := [(2, .int (be)), (0, .ref (0))]) [2, 4] rfl ?_
    exact hC la be _ hM (by obtain rfl : k = 19 := (by omega); exact congrArg Prod.fst hI)
  | succ m ih =>
    intro k la be M1 hk hM hI
    have hkN : k < 19 := by omega
    have hP : WP (PS nh t S) := ⟨hn5, hrub, hbt⟩
    refine xr_iload dX9_start_41 0 rfl ?_
    refine xr_bipush (v := 9) dX9_start_43 rfl ?_
    refine xr_icmp_gt (tgt := 117) dX9_start_45 rfl (fun c => absurd c (pv_le (k := k) (by omega))) (fun _ => ?_)
    refine xr_aload_n dX9_start_48 4 rfl ?_
    refine xr_getR flX9_40 dX9_start_49 s_0 rfl ?_
    refine xr_callV (As := []) (rest := []) mlX9_192 (gw_X7_begin (D := D) (t := t) (cn := nh) hn5 (Eq.trans (hM 13 2 (by decide)) e_cn) (Eq.trans (hM 13 3 (by decide)) e_nw) (Eq.trans (hM 13 4 (by decide)) e_rub) (Eq.trans (hM 13 5 (by decide)) e_bt) (Eq.trans (hM 13 6 (by decide)) e_ph) (Eq.trans (hM 13 7 (by decide)) e_st) (LCt_k (Eq.trans (hM 1 4 (by unfold WTH; omega)) rfl) (fun kl => (Eq.trans (hM 2 kl (by unfold WTH; omega)) rfl)) (fun kl => (Eq.trans (hM 3 kl (by unfold WTH; omega)) rfl)) hL) (AbC_k hA (fun i hi j => (Eq.trans (hM (15 + i) j (by unfold WTH; omega)) rfl))) hW) dX9_start_52 s_27 rfl rfl (Nat.le_of_ble_eq_true rfl) (by decide) ⟨by decide, by decide⟩ (fun v s2 M2 J2 hq => ?_)
    obtain ⟨rfl, rfl, rfl, k3, hT1⟩ := hq
    try dsimp only [Option.toList, List.cons_append, List.nil_append]
    refine xr_aload_n dX9_start_55 4 rfl ?_
    refine xr_getR flX9_40 dX9_start_56 s_0 rfl ?_
    refine xr_getR flX9_201 dX9_start_59 s_27 rfl ?_
    refine xr_getR flX9_121 dX9_start_62 s_28 rfl ?_
    refine xr_iload_n dX9_start_65 3 rfl ?_
    refine xb_aald (j := h) (q := 30 + h) (by decide) dX9_start_66 s_29 (by omega) (by decide) (if_pos (by omega)) ?_
    refine xr_iload dX9_start_67 0 rfl ?_
    refine xr_putI fpX9_186 dX9_start_69 (s_hp30 (by omega)) rfl rfl rfl ?_
    refine xr_aload_n dX9_start_72 4 rfl ?_
    refine xr_getR flX9_40 dX9_start_73 s_0 rfl ?_
    refine xr_iload_n dX9_start_76 3 rfl ?_
    refine xr_callV (As := [.int (nI (h))]) (rest := []) mlX9_195 (gw_X7_fallOf (P := (PS nh t S)) (h := h) hP hh (TC_p (h := h) hT1 (pv_b (by omega)) (fun z => absurd z hup))) dX9_start_77 s_27 rfl rfl (Nat.le_of_ble_eq_true rfl) (by decide) ⟨by decide, by decide⟩ (fun v s2 M5 J2 hq => ?_)
    obtain ⟨r7, rfl, rfl, rfl, k6, hx4⟩ := hq
    try dsimp only [Option.toList, List.cons_append, List.nil_append]
    subst hx4
    refine xb_top (y := faR (stV nh D t S h k)) rfl ?_
    have hv9 : stV nh D t S h k ≤ 201 := faV_le
    refine xr_istore (ls2 := [(5, .int ((faR (stV nh D t S h k)))), (4, .int (pv k)), (3, .int (la)), (2, .int (be)), (1, .int (nI (h))), (0, .ref (0))]) dX9_start_80 (by decide) rfl ?_
    refine xr_iload dX9_start_82 0 rfl ?_
    refine xr_bipush (v := -2) dX9_start_84 rfl ?_
    refine xr_icmp_ne (tgt := 95) dX9_start_86 rfl (fun c8 => ?_) (fun c8 => ?_)
    · refine xr_iload dX9_start_95 0 rfl ?_
      refine xb_top (y := nI (stV nh D t S h k)) (faR_2 c8) ?_
      refine xr_istore (ls2 := [(6, .int (nI (stV nh D t S h k))), (5, .int ((faR (stV nh D t S h k)))), (4, .int (pv k)), (3, .int (la)), (2, .int (be)), (1, .int (nI (h))), (0, .ref (0))]) dX9_start_97 (by decide) rfl ?_
      refine xr_iload dX9_start_99 0 rfl ?_
      refine xr_iload_n dX9_start_101 3 rfl ?_
      refine xr_icmp_le (tgt := 111) dX9_start_102 rfl (fun c9 => ?_) (fun c9 => ?_)
      · refine xr_iinc (v := pv (k + 1)) (ls2 := [(4, .int (pv (k + 1))), (6, .int (nI (stV nh D t S h k))), (5, .int ((faR (stV nh D t S h k)))), (3, .int (la)), (2, .int (be)), (1, .int (nI (h))), (0, .ref (0))]) dX9_start_111 2 rfl (pv_s (by omega)) (by decide) rfl ?_
        refine xr_goto (tgt := 41) dX9_start_114 rfl ?_
        refine xb_ls (ls2 := [(4, .int (pv (k + 1))), (3, .int (la)), (2, .int (be)), (1, .int (nI (h))), (0, .ref (0))]) [0, 3, 4, 5, 6] rfl ?_
        exact ih (k + 1) la be M5 (by omega) (Ke.tr (fun pp kk => (fun hh => Or.elim hh (fun h => (Or.inl h)) (fun hh => Or.elim hh (fun h => (Or.inr (Or.inl h))) (fun hh => Or.elim hh (fun h => (Or.inr (Or.inr (Or.inl (by omega))))) (fun hh => Or.elim hh (fun h => (Or.inr (Or.inr (Or.inl (by omega))))) (fun h => (Or.inr (Or.inr (Or.inr h))))))))) (Ke.up (Or.inr (Or.inr (Or.inr (by omega)))) (Ke.tr (fun pp kk => (fun hh => Or.elim hh (fun h => (Or.inr (Or.inr (Or.inl h)))) (fun h => (Or.inr (Or.inr (Or.inr h)))))) hM k3)) k6) ((stL_e hkN (st1_n (n := nh) (D := D) (t := t) (S := S) (be := be) (la := la) (Int32.not_lt.mpr c9))).trans hI)
      · refine xr_iload dX9_start_105 0 rfl ?_
        refine xr_istore_n (ls2 := [(3, .int (nI (stV nh D t S h k))), (6, .int (nI (stV nh D t S h k))), (5, .int ((faR (stV nh D t S h k)))), (4, .int (pv k)), (2, .int (be)), (1, .int (nI (h))), (0, .ref (0))]) dX9_start_107 (by decide) rfl ?_
        refine xr_iload dX9_start_108 3 rfl ?_
        refine xr_istore_n (ls2 := [(2, .int (pv k)), (3, .int (nI (stV nh D t S h k))), (6, .int (nI (stV nh D t S h k))), (5, .int ((faR (stV nh D t S h k)))), (4, .int (pv k)), (1, .int (nI (h))), (0, .ref (0))]) dX9_start_110 (by decide) rfl ?_
        refine xr_iinc (v := pv (k + 1)) (ls2 := [(4, .int (pv (k + 1))), (2, .int (pv k)), (3, .int (nI (stV nh D t S h k))), (6, .int (nI (stV nh D t S h k))), (5, .int ((faR (stV nh D t S h k)))), (1, .int (nI (h))), (0, .ref (0))]) dX9_start_111 4 rfl (pv_s (by omega)) (by decide) rfl ?_
        refine xr_goto (tgt := 41) dX9_start_114 rfl ?_
        refine xb_ls (ls2 := [(4, .int (pv (k + 1))), (3, .int (nI (stV nh D t S h k))), (2, .int (pv k)), (1, .int (nI (h))), (0, .ref (0))]) [0, 2, 1, 5, 6] rfl ?_
        exact ih (k + 1) (nI (stV nh D t S h k)) (pv k) M5 (by omega) (Ke.tr (fun pp kk => (fun hh => Or.elim hh (fun h => (Or.inl h)) (fun hh => Or.elim hh (fun h => (Or.inr (Or.inl h))) (fun hh => Or.elim hh (fun h => (Or.inr (Or.inr (Or.inl (by omega))))) (fun hh => Or.elim hh (fun h => (Or.inr (Or.inr (Or.inl (by omega))))) (fun h => (Or.inr (Or.inr (Or.inr h))))))))) (Ke.up (Or.inr (Or.inr (Or.inr (by omega)))) (Ke.tr (fun pp kk => (fun hh => Or.elim hh (fun h => (Or.inr (Or.inr (Or.inl h)))) (fun h => (Or.inr (Or.inr (Or.inr h)))))) hM k3)) k6) ((stL_e hkN (st1_y (n := nh) (D := D) (t := t) (S := S) (be := be) (la := la) (Int32.not_le.mp c9))).trans hI)
    · refine xr_sipush (v := 201) dX9_start_89 rfl ?_
      refine xr_goto (tgt := 97) dX9_start_92 rfl ?_
      refine xb_top (y := nI (stV nh D t S h k)) (faR_1 hv9 c8) ?_
      refine xr_istore (ls2 := [(6, .int (nI (stV nh D t S h k))), (5, .int ((faR (stV nh D t S h k)))), (4, .int (pv k)), (3, .int (la)), (2, .int (be)), (1, .int (nI (h))), (0, .ref (0))]) dX9_start_97 (by decide) rfl ?_
      refine xr_iload dX9_start_99 0 rfl ?_
      refine xr_iload_n dX9_start_101 3 rfl ?_
      refine xr_icmp_le (tgt := 111) dX9_start_102 rfl (fun c10 => ?_) (fun c10 => ?_)
      · refine xr_iinc (v := pv (k + 1)) (ls2 := [(4, .int (pv (k + 1))), (6, .int (nI (stV nh D t S h k))), (5, .int ((faR (stV nh D t S h k)))), (3, .int (la)), (2, .int (be)), (1, .int (nI (h))), (0, .ref (0))]) dX9_start_111 2 rfl (pv_s (by omega)) (by decide) rfl ?_
        refine xr_goto (tgt := 41) dX9_start_114 rfl ?_
        refine xb_ls (ls2 := [(4, .int (pv (k + 1))), (3, .int (la)), (2, .int (be)), (1, .int (nI (h))), (0, .ref (0))]) [0, 3, 4, 5, 6] rfl ?_
        exact ih (k + 1) la be M5 (by omega) (Ke.tr (fun pp kk => (fun hh => Or.elim hh (fun h => (Or.inl h)) (fun hh => Or.elim hh (fun h => (Or.inr (Or.inl h))) (fun hh => Or.elim hh (fun h => (Or.inr (Or.inr (Or.inl (by omega))))) (fun hh => Or.elim hh (fun h => (Or.inr (Or.inr (Or.inl (by omega))))) (fun h => (Or.inr (Or.inr (Or.inr h))))))))) (Ke.up (Or.inr (Or.inr (Or.inr (by omega)))) (Ke.tr (fun pp kk => (fun hh => Or.elim hh (fun h => (Or.inr (Or.inr (Or.inl h)))) (fun h => (Or.inr (Or.inr (Or.inr h)))))) hM k3)) k6) ((stL_e hkN (st1_n (n := nh) (D := D) (t := t) (S := S) (be := be) (la := la) (Int32.not_lt.mpr c10))).trans hI)
      · refine xr_iload dX9_start_105 0 rfl ?_
        refine xr_istore_n (ls2 := [(3, .int (nI (stV nh D t S h k))), (6, .int (nI (stV nh D t S h k))), (5, .int ((faR (stV nh D t S h k)))), (4, .int (pv k)), (2, .int (be)), (1, .int (nI (h))), (0, .ref (0))]) dX9_start_107 (by decide) rfl ?_
        refine xr_iload dX9_start_108 3 rfl ?_
        refine xr_istore_n (ls2 := [(2, .int (pv k)), (3, .int (nI (stV nh D t S h k))), (6, .int (nI (stV nh D t S h k))), (5, .int ((faR (stV nh D t S h k)))), (4, .int (pv k)), (1, .int (nI (h))), (0, .ref (0))]) dX9_start_110 (by decide) rfl ?_
        refine xr_iinc (v := pv (k + 1)) (ls2 := [(4, .int (pv (k + 1))), (2, .int (pv k)), (3, .int (nI (stV nh D t S h k))), (6, .int (nI (stV nh D t S h k))), (5, .int ((faR (stV nh D t S h k)))), (1, .int (nI (h))), (0, .ref (0))]) dX9_start_111 4 rfl (pv_s (by omega)) (by decide) rfl ?_
        refine xr_goto (tgt := 41) dX9_start_114 rfl ?_
        refine xb_ls (ls2 := [(4, .int (pv (k + 1))), (3, .int (nI (stV nh D t S h k))), (2, .int (pv k)), (1, .int (nI (h))), (0, .ref (0))]) [0, 2, 1, 5, 6] rfl ?_
        exact ih (k + 1) (nI (stV nh D t S h k)) (pv k) M5 (by omega) (Ke.tr (fun pp kk => (fun hh => Or.elim hh (fun h => (Or.inl h)) (fun hh => Or.elim hh (fun h => (Or.inr (Or.inl h))) (fun hh => Or.elim hh (fun h => (Or.inr (Or.inr (Or.inl (by omega))))) (fun hh => Or.elim hh (fun h => (Or.inr (Or.inr (Or.inl (by omega))))) (fun h => (Or.inr (Or.inr (Or.inr h))))))))) (Ke.up (Or.inr (Or.inr (Or.inr (by omega)))) (Ke.tr (fun pp kk => (fun hh => Or.elim hh (fun h => (Or.inr (Or.inr (Or.inl h)))) (fun h => (Or.inr (Or.inr (Or.inr h)))))) hM k3)) k6) ((stL_e hkN (st1_y (n := nh) (D := D) (t := t) (S := S) (be := be) (la := la) (Int32.not_le.mp c10))).trans hI)
set_option maxRecDepth 100000 in
set_option maxHeartbeats 4000000 in
theorem gx_X9_start {nh : Nat} {D : xM} {t : Option zL} {S : Nat → Int32} (h : Int32) {l : Launch} {G : xG} {M : xM} {J : xJ} (hI : InvC M) (hWG : WG nh D S) (hG : CG M nh D t S) : x_M l G fX9_start 7 0 0 [.ref (0), .int (h)] x_SH M J (qKI WTH M J (fun r M2 => InvC M2 ∧ (r = stR nh D t S h))) := by
  refine xb_of pX9 (Nat.le_of_ble_eq_true rfl) rfl ?_
  obtain ⟨⟨cn, h_cn, e_cn⟩, ⟨cm, h_cm, e_cm⟩, ⟨L, h_L, e_L⟩, hv, hD, ⟨n, h_n, e_n⟩, ⟨un, wn, h_uw, h_wn, e_un, e_wn⟩, ⟨b, h_b, e_b⟩, hkd, ⟨ra, h_ra, e_ra⟩, hsl, hS⟩ := hI
  obtain ⟨hn5, hW, hrub, hbeat⟩ := hWG
  obtain ⟨hGn, hA, hL, e_nw, e_rub, e_bt, e_ph, e_st, e_kn, e_pu, e_lf⟩ := hG
  obtain rfl : nh = cn := (nI_eq (by omega) (by omega)).mp (hGn.symm.trans e_cn)
  have hbt : ¬ S 2 = 0 := ne2_0 hbeat.1
  refine xr_aload_n dX9_start_0 0 rfl ?_
  refine xr_getR flX9_28 dX9_start_1 s_0 rfl ?_
  refine xr_iload_n dX9_start_4 1 rfl ?_
  refine xb_cV (As := [.int (h)]) (rest := []) mlX9_118 (c_X5_has h (by omega) e_cn) dX9_start_5 s_13 rfl rfl (Nat.le_of_ble_eq_true rfl) (by decide) (by decide) ?_
  refine xb_bne (tgt := 14) dX9_start_8 rfl (fun c1 => ?_) (fun c1 => ?_)
  · obtain ⟨h_, hh_, rfl⟩ := x_nat (N := nh) (by omega) rfl c1
    refine xr_aload_n dX9_start_14 0 rfl ?_
    refine xr_getR flX9_28 dX9_start_15 s_0 rfl ?_
    refine xr_getR flX9_121 dX9_start_18 s_13 rfl ?_
    refine xr_iload_n dX9_start_21 1 rfl ?_
    refine xb_aald (j := h_) (q := 15 + h_) (by decide) dX9_start_22 s_14 (by omega) (by decide) (if_pos (by omega)) ?_
    refine xb_cV (As := []) (rest := []) mlX9_167 (c_X2_lies (s_hp15 (by omega))) dX9_start_23 (s_hp15 (by omega)) rfl rfl (Nat.le_of_ble_eq_true rfl) (by decide) (by decide) ?_
    refine xb_beq (tgt := 32) dX9_start_26 rfl (fun c2 => ?_) (fun c2 => ?_)
    · refine xr_bipush (v := -9) dX9_start_32 rfl ?_
      refine xr_istore_n (ls2 := [(2, .int ((-9))), (0, .ref (0)), (1, .int (nI (h_)))]) dX9_start_34 (by decide) rfl ?_
      refine xr_iconst (v := -1) dX9_start_35 rfl ?_
      refine xr_istore_n (ls2 := [(3, .int ((-1))), (2, .int ((-9))), (0, .ref (0)), (1, .int (nI (h_)))]) dX9_start_36 (by decide) rfl ?_
      refine xr_bipush (v := -9) dX9_start_37 rfl ?_
      refine xr_istore (ls2 := [(4, .int ((-9))), (3, .int ((-1))), (2, .int ((-9))), (0, .ref (0)), (1, .int (nI (h_)))]) dX9_start_39 (by decide) rfl ?_
      refine xb_ls (ls2 := [(4, .int ((-9))), (3, .int ((-1))), (2, .int ((-9))), (1, .int (nI (h_))), (0, .ref (0))]) [0, 1, 2, 4, 3] rfl ?_
      refine stx hh_ (fun z => c2 ((hA h_ hh_ 4 (by decide)).trans z)) hn5 hrub hbt (stL nh D t S h_ 19 0 (-9, -1)) e_cn e_nw e_rub e_bt e_ph e_st (LCt_k rfl (fun kl => rfl) (fun kl => rfl) hL) (AbC_k hA (fun i hi j => rfl)) hW (fun q3 q4 M5 k6 hE => ?_) (19 - 0) 0 (-1) (-9) M (by omega) Ke.rf rfl
      refine xr_iload_n dX9_start_117 0 rfl ?_
      exact xr_iret dX9_start_118 rfl rfl (⟨_, rfl, rfl, rfl, (Ke.tr (fun _ _ h => h) Ke.rf k6), ⟨⟨⟨nh, by omega, (Eq.trans (k6 13 2 (by decide)) e_cn)⟩, ⟨cm, by omega, (Eq.trans (k6 20 2 (by decide)) e_cm)⟩, ⟨L, by omega, (Eq.trans (k6 1 4 (by decide)) e_L)⟩, (fun kk hkk => by rw [show M5 3 kk = M 3 kk from (Eq.trans (k6 3 kk (by unfold WTH; omega)) rfl)]; exact hv kk hkk), (DI_ke (by intro k; unfold WTH; omega) k6 hD), ⟨n, by omega, (Eq.trans (k6 6 2 (by decide)) e_n)⟩, ⟨un, wn, by omega, by omega, (Eq.trans (k6 41 4 (by decide)) e_un), (Eq.trans (k6 41 5 (by decide)) e_wn)⟩, ⟨b, by omega, (Eq.trans (k6 46 2 (by decide)) e_b)⟩, (fun j hj => by obtain ⟨q, hq, eq⟩ := hkd j hj; exact ⟨q, hq, (show M5 47 j = M 47 j from (Eq.trans (k6 47 j (by unfold WTH; omega)) rfl)).trans eq⟩), ⟨ra, by omega, (Eq.trans (k6 46 3 (by decide)) e_ra)⟩, (fun j hj => by obtain ⟨s, hs, es⟩ := hsl j hj; exact ⟨s, hs, (show M5 (50 + 2 * j) 3 = M (50 + 2 * j) 3 from (Eq.trans (k6 (50 + 2 * j) 3 (by unfold WTH; omega)) rfl)).trans es⟩), (fun j hj => by obtain ⟨q, hq, eq⟩ := hS j hj; exact ⟨q, hq, (show M5 36 j = M 36 j from (Eq.trans (k6 36 j (by unfold WTH; omega)) rfl)).trans eq⟩)⟩, ((hE.trans (if_neg (fun z => c2 ((hA h_ hh_ 4 (by decide)).trans z))).symm).trans (stR_y hn5 hh_))⟩⟩)
    · refine xr_bipush (v := -5) dX9_start_29 rfl ?_
      exact xr_iret dX9_start_31 rfl rfl (⟨_, rfl, rfl, rfl, Ke.rf, ⟨⟨⟨nh, by omega, e_cn⟩, ⟨cm, by omega, e_cm⟩, ⟨L, by omega, e_L⟩, (fun kk hkk => by rw [show M 3 kk = M 3 kk from rfl]; exact hv kk hkk), hD, ⟨n, by omega, e_n⟩, ⟨un, wn, by omega, by omega, e_un, e_wn⟩, ⟨b, by omega, e_b⟩, (fun j hj => by obtain ⟨q, hq, eq⟩ := hkd j hj; exact ⟨q, hq, (show M 47 j = M 47 j from rfl).trans eq⟩), ⟨ra, by omega, e_ra⟩, (fun j hj => by obtain ⟨s, hs, es⟩ := hsl j hj; exact ⟨s, hs, (show M (50 + 2 * j) 3 = M (50 + 2 * j) 3 from rfl).trans es⟩), (fun j hj => by obtain ⟨q, hq, eq⟩ := hS j hj; exact ⟨q, hq, (show M 36 j = M 36 j from rfl).trans eq⟩)⟩, ((if_pos ((hA h_ hh_ 4 (by decide)).symm.trans c2)).symm.trans (stR_y hn5 hh_))⟩⟩)
  · refine xr_ldc coX9_105 dX9_start_11 ?_
    exact xr_iret dX9_start_13 rfl rfl (⟨_, rfl, rfl, rfl, Ke.rf, ⟨⟨⟨nh, by omega, e_cn⟩, ⟨cm, by omega, e_cm⟩, ⟨L, by omega, e_L⟩, (fun kk hkk => by rw [show M 3 kk = M 3 kk from rfl]; exact hv kk hkk), hD, ⟨n, by omega, e_n⟩, ⟨un, wn, by omega, by omega, e_un, e_wn⟩, ⟨b, by omega, e_b⟩, (fun j hj => by obtain ⟨q, hq, eq⟩ := hkd j hj; exact ⟨q, hq, (show M 47 j = M 47 j from rfl).trans eq⟩), ⟨ra, by omega, e_ra⟩, (fun j hj => by obtain ⟨s, hs, es⟩ := hsl j hj; exact ⟨s, hs, (show M (50 + 2 * j) 3 = M (50 + 2 * j) 3 from rfl).trans es⟩), (fun j hj => by obtain ⟨q, hq, eq⟩ := hS j hj; exact ⟨q, hq, (show M 36 j = M 36 j from rfl).trans eq⟩)⟩, (stR_n c1)⟩⟩)