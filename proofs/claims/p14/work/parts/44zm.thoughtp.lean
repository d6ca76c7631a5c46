set_option maxRecDepth 100000 in
set_option maxHeartbeats 4000000 in
theorem bfx_i {w : Int32} {b : Nat} (hb2 : 2 ≤ b) (hb : b ≤ 24) {nh : Nat} {D : xM} {t : Option zL} {S : Nat → Int32} (hn5 : nh ≤ 5) (hrub : 0 ≤ S 1 ∧ S 1 ≤ 3) (hbt : ¬ S 2 = 0) (T : Int32 × Int32) {l : Launch} {G : xG} {M : xM} {J : xJ} {Q : xQ} (e_cn : M 13 2 = nI nh) (e_nw : M 13 3 = S 0) (e_rub : M 13 4 = S 1) (e_bt : M 13 5 = S 2) (e_ph : M 13 6 = S 3) (e_st : M 13 7 = S 4) (hL : LCt M t) (hA : AbC 15 nh M D) (hW : WF nh D) (hC : ∀ (wh : Int32) (be : Int32) (M2 : xM), Ke WTH M M2 → ((be, wh) = T) → x_X l G fX9_beatFor 7 0 0 Q 113 [(4, .int (nI (b))), (3, .int (wh)), (2, .int (be)), (1, .int (w)), (0, .ref (0))] [] x_SH M2 J 0 0) : ∀ (m k : Nat) (wh : Int32) (be : Int32) (M1 : xM), k + m = b → Ke WTH M M1 → (bfJ nh D t S b (b - k) k (be, wh) = T) → x_X l G fX9_beatFor 7 0 0 Q 35 [(5, .int (nI (k))), (4, .int (nI (b))), (3, .int (wh)), (2, .int (be)), (1, .int (w)), (0, .ref (0))] [] x_SH M1 J 0 0 := by
  intro m
  induction m with
  | zero =>
    intro k wh be M1 hk hM hI
    refine xr_iload dX9_beatFor_35 0 rfl ?_
    refine xr_iload dX9_beatFor_37 1 rfl ?_
    refine xr_icmp_ge (tgt := 113) dX9_beatFor_39 rfl (fun _ => ?_) (fun c => absurd (nI_le (a := b) (b := k) (by omega) (by omega)) c)
    refine xb_ls (ls2 := [(4, .int (nI (b))), (3, .int (wh)), (2, .int (be)), (1, .int (w)), (0, .ref (0))]) [1, 2, 3, 4, 5] rfl ?_
    exact hC wh be _ hM (by obtain rfl : k = b := (by omega); rw [Nat.sub_self] at hI; exact hI)
  | succ m ih =>
    intro k wh be M1 hk hM hI
    have hkN : k < b := by omega
    refine xr_iload dX9_beatFor_35 0 rfl ?_
    refine xr_iload dX9_beatFor_37 1 rfl ?_
    refine xr_icmp_ge (tgt := 113) dX9_beatFor_39 rfl (fun c => absurd c (nI_ge (a := k) (b := b) (by omega) (by omega))) (fun _ => ?_)
    refine xr_iload_n dX9_beatFor_42 3 rfl ?_
    refine xr_sipush (v := 200) dX9_beatFor_43 rfl ?_
    refine xr_icmp_ge (tgt := 113) dX9_beatFor_46 rfl (fun c1 => ?_) (fun c1 => ?_)
    · refine xb_ls (ls2 := [(4, .int (nI (b))), (3, .int (wh)), (2, .int (be)), (1, .int (w)), (0, .ref (0))]) [1, 2, 3, 4, 5] rfl ?_
      exact hC wh be _ hM ((bfJ_f _ _ (be, wh) (Int32.not_lt.mpr c1)).symm.trans hI)
    · refine xr_aload_n dX9_beatFor_49 5 rfl ?_
      refine xr_getR flX9_40 dX9_beatFor_50 s_0 rfl ?_
      refine xr_callV (As := []) (rest := []) mlX9_192 (gw_X7_begin (D := D) (t := t) (cn := nh) hn5 (Eq.trans (hM 13 2 (by decide)) e_cn) (Eq.trans (hM 13 3 (by decide)) e_nw) (Eq.trans (hM 13 4 (by decide)) e_rub) (Eq.trans (hM 13 5 (by decide)) e_bt) (Eq.trans (hM 13 6 (by decide)) e_ph) (Eq.trans (hM 13 7 (by decide)) e_st) (LCt_k (Eq.trans (hM 1 4 (by unfold WTH; omega)) rfl) (fun kl => (Eq.trans (hM 2 kl (by unfold WTH; omega)) rfl)) (fun kl => (Eq.trans (hM 3 kl (by unfold WTH; omega)) rfl)) hL) (AbC_k hA (fun i hi j => (Eq.trans (hM (15 + i) j (by unfold WTH; omega)) rfl))) hW) dX9_beatFor_53 s_27 rfl rfl (Nat.le_of_ble_eq_true rfl) (by decide) ⟨by decide, by decide⟩ (fun v s2 M3 J2 hq => ?_)
      obtain ⟨rfl, rfl, rfl, k4, hT2⟩ := hq
      try dsimp only [Option.toList, List.cons_append, List.nil_append]
      refine xr_aload_n dX9_beatFor_56 5 rfl ?_
      refine xr_getR flX9_40 dX9_beatFor_57 s_0 rfl ?_
      refine xr_getR flX9_201 dX9_beatFor_60 s_27 rfl ?_
      refine xr_iload dX9_beatFor_63 1 rfl ?_
      refine xr_putI fpX9_202 dX9_beatFor_65 s_28 rfl rfl rfl ?_
      refine xr_aload_n dX9_beatFor_68 5 rfl ?_
      refine xr_getR flX9_40 dX9_beatFor_69 s_0 rfl ?_
      refine xr_getR flX9_201 dX9_beatFor_72 s_27 rfl ?_
      refine xr_iload dX9_beatFor_75 0 rfl ?_
      refine xr_putI fpX9_205 dX9_beatFor_77 s_28 rfl rfl rfl ?_
      refine xr_aload_n dX9_beatFor_80 5 rfl ?_
      refine xr_getR flX9_40 dX9_beatFor_81 s_0 rfl ?_
      refine xr_callV (As := []) (rest := []) mlX9_198 (gw_X7_lasting (P := (nh, t, S 1, nI b, nI k, S 4)) ⟨hn5, hrub, nb0 hb2 hb⟩ (TC_b hT2 (nI b) (nI k))) dX9_beatFor_84 s_27 rfl rfl (Nat.le_of_ble_eq_true rfl) (by decide) ⟨by decide, by decide⟩ (fun v s2 M6 J2 hq => ?_)
      obtain ⟨r8, rfl, rfl, rfl, k7, hx5⟩ := hq
      try dsimp only [Option.toList, List.cons_append, List.nil_append]
      subst hx5
      refine xb_top (y := nI (bfV nh D t S (nI b) (nI k))) rfl ?_
      refine xr_istore (ls2 := [(6, .int (nI (bfV nh D t S (nI b) (nI k)))), (5, .int (nI (k))), (4, .int (nI (b))), (3, .int (wh)), (2, .int (be)), (1, .int (w)), (0, .ref (0))]) dX9_beatFor_87 (by decide) rfl ?_
      refine xr_iload dX9_beatFor_89 0 rfl ?_
      refine xr_iload_n dX9_beatFor_91 4 rfl ?_
      refine xr_icmp_le (tgt := 107) dX9_beatFor_92 rfl (fun c9 => ?_) (fun c9 => ?_)
      · refine xr_iinc (v := nI (k + 1)) (ls2 := [(5, .int (nI (k + 1))), (6, .int (nI (bfV nh D t S (nI b) (nI k)))), (4, .int (nI (b))), (3, .int (wh)), (2, .int (be)), (1, .int (w)), (0, .ref (0))]) dX9_beatFor_107 1 rfl (nI_1 _) (by decide) rfl ?_
        refine xr_goto (tgt := 35) dX9_beatFor_110 rfl ?_
        refine xb_ls (ls2 := [(5, .int (nI (k + 1))), (4, .int (nI (b))), (3, .int (wh)), (2, .int (be)), (1, .int (w)), (0, .ref (0))]) [0, 2, 3, 4, 5, 6] rfl ?_
        exact ih (k + 1) wh be M6 (by omega) (Ke.tr (fun pp kk => (fun hh => Or.elim hh (fun h => (Or.inl h)) (fun hh => Or.elim hh (fun h => (Or.inr (Or.inl h))) (fun hh => Or.elim hh (fun h => (Or.inr (Or.inr (Or.inl (by omega))))) (fun hh => Or.elim hh (fun h => (Or.inr (Or.inr (Or.inl (by omega))))) (fun h => (Or.inr (Or.inr (Or.inr h))))))))) (Ke.up (Or.inr (Or.inr (Or.inl (by omega)))) (Ke.up (Or.inr (Or.inr (Or.inl (by omega)))) (Ke.tr (fun pp kk => (fun hh => Or.elim hh (fun h => (Or.inr (Or.inr (Or.inl h)))) (fun h => (Or.inr (Or.inr (Or.inr h)))))) hM k4))) k7) ((bfJ_e hkN (bf1_n (n := nh) (D := D) (t := t) (S := S) (be := be) (wh := wh) (Int32.not_lt.mpr c9))).trans hI)
      · refine xr_iload dX9_beatFor_95 0 rfl ?_
        refine xr_istore_n (ls2 := [(2, .int (nI (bfV nh D t S (nI b) (nI k)))), (6, .int (nI (bfV nh D t S (nI b) (nI k)))), (5, .int (nI (k))), (4, .int (nI (b))), (3, .int (wh)), (1, .int (w)), (0, .ref (0))]) dX9_beatFor_97 (by decide) rfl ?_
        refine xr_bipush (v := 100) dX9_beatFor_98 rfl ?_
        refine xr_iload dX9_beatFor_100 3 rfl ?_
        refine xr_imul dX9_beatFor_102 ?_
        refine xb_top (y := nI (100 * b)) (nI_mulc 100 b) ?_
        refine xr_iload dX9_beatFor_103 2 rfl ?_
        refine xr_iadd dX9_beatFor_105 ?_
        refine xb_top (y := nI (100 * b + k)) (nI_add (100 * b) (k)) ?_
        refine xr_istore_n (ls2 := [(3, .int (nI (100 * b + k))), (2, .int (nI (bfV nh D t S (nI b) (nI k)))), (6, .int (nI (bfV nh D t S (nI b) (nI k)))), (5, .int (nI (k))), (4, .int (nI (b))), (1, .int (w)), (0, .ref (0))]) dX9_beatFor_106 (by decide) rfl ?_
        refine xr_iinc (v := nI (k + 1)) (ls2 := [(5, .int (nI (k + 1))), (3, .int (nI (100 * b + k))), (2, .int (nI (bfV nh D t S (nI b) (nI k)))), (6, .int (nI (bfV nh D t S (nI b) (nI k)))), (4, .int (nI (b))), (1, .int (w)), (0, .ref (0))]) dX9_beatFor_107 3 rfl (nI_1 _) (by decide) rfl ?_
        refine xr_goto (tgt := 35) dX9_beatFor_110 rfl ?_
        refine xb_ls (ls2 := [(5, .int (nI (k + 1))), (4, .int (nI (b))), (3, .int (nI (100 * b + k))), (2, .int (nI (bfV nh D t S (nI b) (nI k)))), (1, .int (w)), (0, .ref (0))]) [0, 4, 1, 2, 5, 6] rfl ?_
        exact ih (k + 1) (nI (100 * b + k)) (nI (bfV nh D t S (nI b) (nI k))) M6 (by omega) (Ke.tr (fun pp kk => (fun hh => Or.elim hh (fun h => (Or.inl h)) (fun hh => Or.elim hh (fun h => (Or.inr (Or.inl h))) (fun hh => Or.elim hh (fun h => (Or.inr (Or.inr (Or.inl (by omega))))) (fun hh => Or.elim hh (fun h => (Or.inr (Or.inr (Or.inl (by omega))))) (fun h => (Or.inr (Or.inr (Or.inr h))))))))) (Ke.up (Or.inr (Or.inr (Or.inl (by omega)))) (Ke.up (Or.inr (Or.inr (Or.inl (by omega)))) (Ke.tr (fun pp kk => (fun hh => Or.elim hh (fun h => (Or.inr (Or.inr (Or.inl h)))) (fun h => (Or.inr (Or.inr (Or.inr h)))))) hM k4))) k7) ((bfJ_e hkN (bf1_y (n := nh) (D := D) (t := t) (S := S) (be := be) (wh := wh) (Int32.not_le.mp c9))).trans hI)
set_option maxRecDepth 100000 in
set_option maxHeartbeats 4000000 in
theorem bfx_o {w : Int32} {nh : Nat} {D : xM} {t : Option zL} {S : Nat → Int32} (hn5 : nh ≤ 5) (hrub : 0 ≤ S 1 ∧ S 1 ≤ 3) (hbt : ¬ S 2 = 0) (T : Int32 × Int32) {l : Launch} {G : xG} {M : xM} {J : xJ} {Q : xQ} (e_cn : M 13 2 = nI nh) (e_nw : M 13 3 = S 0) (e_rub : M 13 4 = S 1) (e_bt : M 13 5 = S 2) (e_ph : M 13 6 = S 3) (e_st : M 13 7 = S 4) (hL : LCt M t) (hA : AbC 15 nh M D) (hW : WF nh D) (hC : ∀ (wh : Int32) (be : Int32) (M2 : xM), Ke WTH M M2 → ((be, wh) = T) → x_X l G fX9_beatFor 7 0 0 Q 119 [(3, .int (wh)), (2, .int (be)), (1, .int (w)), (0, .ref (0))] [] x_SH M2 J 0 0) : ∀ (m k : Nat) (wh : Int32) (be : Int32) (M1 : xM), k + m = 25 → Ke WTH M M1 → (bfI nh D t S (25 - k) k (be, wh) = T ∧ 2 ≤ k) → x_X l G fX9_beatFor 7 0 0 Q 18 [(4, .int (nI (k))), (3, .int (wh)), (2, .int (be)), (1, .int (w)), (0, .ref (0))] [] x_SH M1 J 0 0 := by
  intro m
  induction m with
  | zero =>
    intro k wh be M1 hk hM hI
    refine xr_iload dX9_beatFor_18 0 rfl ?_
    refine xr_bipush (v := 24) dX9_beatFor_20 rfl ?_
    refine xr_icmp_gt (tgt := 119) dX9_beatFor_22 rfl (fun _ => ?_) (fun c => absurd (nI_lt (a := 24) (b := k) (by omega) (by omega)) c)
    refine xb_ls (ls2 := [(3, .int (wh)), (2, .int (be)), (1, .int (w)), (0, .ref (0))]) [1, 2, 3, 4] rfl ?_
    exact hC wh be _ hM (by obtain rfl : k = 25 := (by omega); exact hI.1)
  | succ m ih =>
    intro k wh be M1 hk hM hI
    have hkN : k < 25 := by omega
    have hk2 := hI.2
    refine xr_iload dX9_beatFor_18 0 rfl ?_
    refine xr_bipush (v := 24) dX9_beatFor_20 rfl ?_
    refine xr_icmp_gt (tgt := 119) dX9_beatFor_22 rfl (fun c => absurd c (nI_nlt (a := 24) (b := k) (by omega) (by omega))) (fun _ => ?_)
    refine xr_iload_n dX9_beatFor_25 2 rfl ?_
    refine xr_sipush (v := 200) dX9_beatFor_26 rfl ?_
    refine xr_icmp_ge (tgt := 119) dX9_beatFor_29 rfl (fun c1 => ?_) (fun c1 => ?_)
    · refine xb_ls (ls2 := [(3, .int (wh)), (2, .int (be)), (1, .int (w)), (0, .ref (0))]) [1, 2, 3, 4] rfl ?_
      exact hC wh be _ hM ((bfI_f _ _ (be, wh) (Int32.not_lt.mpr c1)).symm.trans hI.1)
    · refine xr_iconst (v := 0) dX9_beatFor_32 rfl ?_
      refine xr_istore (ls2 := [(5, .int (0)), (4, .int (nI (k))), (3, .int (wh)), (2, .int (be)), (1, .int (w)), (0, .ref (0))]) dX9_beatFor_33 (by decide) rfl ?_
      refine xb_ls (ls2 := [(5, .int (nI (0))), (4, .int (nI (k))), (3, .int (wh)), (2, .int (be)), (1, .int (w)), (0, .ref (0))]) [0, 1, 2, 3, 4, 5] rfl ?_
      refine bfx_i (b := k) (by omega) (by omega) hn5 hrub hbt (bfJ nh D t S k k 0 (be, wh)) (Eq.trans (hM 13 2 (by decide)) e_cn) (Eq.trans (hM 13 3 (by decide)) e_nw) (Eq.trans (hM 13 4 (by decide)) e_rub) (Eq.trans (hM 13 5 (by decide)) e_bt) (Eq.trans (hM 13 6 (by decide)) e_ph) (Eq.trans (hM 13 7 (by decide)) e_st) (LCt_k (Eq.trans (hM 1 4 (by unfold WTH; omega)) rfl) (fun kl => (Eq.trans (hM 2 kl (by unfold WTH; omega)) rfl)) (fun kl => (Eq.trans (hM 3 kl (by unfold WTH; omega)) rfl)) hL) (AbC_k hA (fun i hi j => (Eq.trans (hM (15 + i) j (by unfold WTH; omega)) rfl))) hW (fun q2 q3 M4 k5 hJ => ?_) (k - 0) 0 wh be M1 (by omega) Ke.rf rfl
      refine xr_iinc (v := nI (k + 1)) (ls2 := [(4, .int (nI (k + 1))), (3, .int (q2)), (2, .int (q3)), (1, .int (w)), (0, .ref (0))]) dX9_beatFor_113 0 rfl (nI_1 _) (by decide) rfl ?_
      refine xr_goto (tgt := 18) dX9_beatFor_116 rfl ?_
      refine xb_ls (ls2 := [(4, .int (nI (k + 1))), (3, .int (q2)), (2, .int (q3)), (1, .int (w)), (0, .ref (0))]) [0, 1, 2, 3, 4] rfl ?_
      exact ih (k + 1) q2 q3 M4 (by omega) (Ke.tr (fun _ _ h => h) hM k5) ⟨by rw [hJ]; exact (bfI_e hkN).trans hI.1, by omega⟩
set_option maxRecDepth 100000 in
set_option maxHeartbeats 4000000 in
theorem gx_X9_beatFor {nh : Nat} {D : xM} {t : Option zL} {S : Nat → Int32} (w : Int32) {l : Launch} {G : xG} {M : xM} {J : xJ} (hI : InvC M) (hWG : WG nh D S) (hG : CG M nh D t S) : x_M l G fX9_beatFor 7 0 0 [.ref (0), .int (w)] x_SH M J (qKI WTH M J (fun r M2 => InvC M2 ∧ (r = bfR nh D t S w))) := by
  refine xb_of pX9 (Nat.le_of_ble_eq_true rfl) rfl ?_
  obtain ⟨⟨cn, h_cn, e_cn⟩, ⟨cm, h_cm, e_cm⟩, ⟨L, h_L, e_L⟩, hv, hD, ⟨n, h_n, e_n⟩, ⟨un, wn, h_uw, h_wn, e_un, e_wn⟩, ⟨b, h_b, e_b⟩, hkd, ⟨ra, h_ra, e_ra⟩, hsl, hS⟩ := hI
  obtain ⟨hn5, hW, hrub, hbeat⟩ := hWG
  obtain ⟨hGn, hA, hL, e_nw, e_rub, e_bt, e_ph, e_st, e_kn, e_pu, e_lf⟩ := hG
  obtain rfl : nh = cn := (nI_eq (by omega) (by omega)).mp (hGn.symm.trans e_cn)
  have hbt : ¬ S 2 = 0 := ne2_0 hbeat.1
  refine xr_iload_n dX9_beatFor_0 1 rfl ?_
  refine xr_if_lt (tgt := 9) dX9_beatFor_1 rfl (fun c1 => ?_) (fun c1 => ?_)
  · refine xr_iconst (v := -1) dX9_beatFor_9 rfl ?_
    exact xr_iret dX9_beatFor_10 rfl rfl (⟨_, rfl, rfl, rfl, Ke.rf, ⟨⟨⟨nh, by omega, e_cn⟩, ⟨cm, by omega, e_cm⟩, ⟨L, by omega, e_L⟩, (fun kk hkk => by rw [show M 3 kk = M 3 kk from rfl]; exact hv kk hkk), hD, ⟨n, by omega, e_n⟩, ⟨un, wn, by omega, by omega, e_un, e_wn⟩, ⟨b, by omega, e_b⟩, (fun j hj => by obtain ⟨q, hq, eq⟩ := hkd j hj; exact ⟨q, hq, (show M 47 j = M 47 j from rfl).trans eq⟩), ⟨ra, by omega, e_ra⟩, (fun j hj => by obtain ⟨s, hs, es⟩ := hsl j hj; exact ⟨s, hs, (show M (50 + 2 * j) 3 = M (50 + 2 * j) 3 from rfl).trans es⟩), (fun j hj => by obtain ⟨q, hq, eq⟩ := hS j hj; exact ⟨q, hq, (show M 36 j = M 36 j from rfl).trans eq⟩)⟩, (by unfold bfR; rw [if_neg (fun z => absurd z.1 (by grind))])⟩⟩)
  · refine xr_iload_n dX9_beatFor_4 1 rfl ?_
    refine xr_iconst (v := 1) dX9_beatFor_5 rfl ?_
    refine xr_icmp_le (tgt := 11) dX9_beatFor_6 rfl (fun c2 => ?_) (fun c2 => ?_)
    · refine xr_iconst (v := -1) dX9_beatFor_11 rfl ?_
      refine xr_istore_n (ls2 := [(2, .int ((-1))), (0, .ref (0)), (1, .int (w))]) dX9_beatFor_12 (by decide) rfl ?_
      refine xr_iconst (v := 0) dX9_beatFor_13 rfl ?_
      refine xr_istore_n (ls2 := [(3, .int (0)), (2, .int ((-1))), (0, .ref (0)), (1, .int (w))]) dX9_beatFor_14 (by decide) rfl ?_
      refine xr_iconst (v := 2) dX9_beatFor_15 rfl ?_
      refine xr_istore (ls2 := [(4, .int (2)), (3, .int (0)), (2, .int ((-1))), (0, .ref (0)), (1, .int (w))]) dX9_beatFor_16 (by decide) rfl ?_
      refine xb_ls (ls2 := [(4, .int (nI (2))), (3, .int (0)), (2, .int ((-1))), (1, .int (w)), (0, .ref (0))]) [0, 1, 2, 4, 3] rfl ?_
      refine bfx_o hn5 hrub hbt (bfI nh D t S 23 2 (-1, 0)) e_cn e_nw e_rub e_bt e_ph e_st (LCt_k rfl (fun kl => rfl) (fun kl => rfl) hL) (AbC_k hA (fun i hi j => rfl)) hW (fun q3 q4 M5 k6 hE => ?_) (25 - 2) 2 0 (-1) M (by omega) Ke.rf ⟨rfl, Nat.le_refl _⟩
      refine xr_iload_n dX9_beatFor_119 2 rfl ?_
      refine xr_if_ne (tgt := 127) dX9_beatFor_120 rfl (fun c7 => ?_) (fun c7 => ?_)
      · refine xr_iload_n dX9_beatFor_127 1 rfl ?_
        exact xr_iret dX9_beatFor_128 rfl rfl (⟨_, rfl, rfl, rfl, (Ke.tr (fun _ _ h => h) Ke.rf k6), ⟨⟨⟨nh, by omega, (Eq.trans (k6 13 2 (by decide)) e_cn)⟩, ⟨cm, by omega, (Eq.trans (k6 20 2 (by decide)) e_cm)⟩, ⟨L, by omega, (Eq.trans (k6 1 4 (by decide)) e_L)⟩, (fun kk hkk => by rw [show M5 3 kk = M 3 kk from (Eq.trans (k6 3 kk (by unfold WTH; omega)) rfl)]; exact hv kk hkk), (DI_ke (by intro k; unfold WTH; omega) k6 hD), ⟨n, by omega, (Eq.trans (k6 6 2 (by decide)) e_n)⟩, ⟨un, wn, by omega, by omega, (Eq.trans (k6 41 4 (by decide)) e_un), (Eq.trans (k6 41 5 (by decide)) e_wn)⟩, ⟨b, by omega, (Eq.trans (k6 46 2 (by decide)) e_b)⟩, (fun j hj => by obtain ⟨q, hq, eq⟩ := hkd j hj; exact ⟨q, hq, (show M5 47 j = M 47 j from (Eq.trans (k6 47 j (by unfold WTH; omega)) rfl)).trans eq⟩), ⟨ra, by omega, (Eq.trans (k6 46 3 (by decide)) e_ra)⟩, (fun j hj => by obtain ⟨s, hs, es⟩ := hsl j hj; exact ⟨s, hs, (show M5 (50 + 2 * j) 3 = M (50 + 2 * j) 3 from (Eq.trans (k6 (50 + 2 * j) 3 (by unfold WTH; omega)) rfl)).trans es⟩), (fun j hj => by obtain ⟨q, hq, eq⟩ := hS j hj; exact ⟨q, hq, (show M5 36 j = M 36 j from (Eq.trans (k6 36 j (by unfold WTH; omega)) rfl)).trans eq⟩)⟩, (by unfold bfR; rw [if_pos ⟨by grind, by grind⟩, if_neg c7, ← hE])⟩⟩)
      · refine xr_iload_n dX9_beatFor_123 0 rfl ?_
        refine xr_goto (tgt := 128) dX9_beatFor_124 rfl ?_
        exact xr_iret dX9_beatFor_128 rfl rfl (⟨_, rfl, rfl, rfl, (Ke.tr (fun _ _ h => h) Ke.rf k6), ⟨⟨⟨nh, by omega, (Eq.trans (k6 13 2 (by decide)) e_cn)⟩, ⟨cm, by omega, (Eq.trans (k6 20 2 (by decide)) e_cm)⟩, ⟨L, by omega, (Eq.trans (k6 1 4 (by decide)) e_L)⟩, (fun kk hkk => by rw [show M5 3 kk = M 3 kk from (Eq.trans (k6 3 kk (by unfold WTH; omega)) rfl)]; exact hv kk hkk), (DI_ke (by intro k; unfold WTH; omega) k6 hD), ⟨n, by omega, (Eq.trans (k6 6 2 (by decide)) e_n)⟩, ⟨un, wn, by omega, by omega, (Eq.trans (k6 41 4 (by decide)) e_un), (Eq.trans (k6 41 5 (by decide)) e_wn)⟩, ⟨b, by omega, (Eq.trans (k6 46 2 (by decide)) e_b)⟩, (fun j hj => by obtain ⟨q, hq, eq⟩ := hkd j hj; exact ⟨q, hq, (show M5 47 j = M 47 j from (Eq.trans (k6 47 j (by unfold WTH; omega)) rfl)).trans eq⟩), ⟨ra, by omega, (Eq.trans (k6 46 3 (by decide)) e_ra)⟩, (fun j hj => by obtain ⟨s, hs, es⟩ := hsl j hj; exact ⟨s, hs, (show M5 (50 + 2 * j) 3 = M (50 + 2 * j) 3 from (Eq.trans (k6 (50 + 2 * j) 3 (by unfold WTH; omega)) rfl)).trans es⟩), (fun j hj => by obtain ⟨q, hq, eq⟩ := hS j hj; exact ⟨q, hq, (show M5 36 j = M 36 j from (Eq.trans (k6 36 j (by unfold WTH; omega)) rfl)).trans eq⟩)⟩, (by unfold bfR; rw [if_pos ⟨by grind, by grind⟩, if_pos c7, ← hE])⟩⟩)
    · refine xr_iconst (v := -1) dX9_beatFor_9 rfl ?_
      exact xr_iret dX9_beatFor_10 rfl rfl (⟨_, rfl, rfl, rfl, Ke.rf, ⟨⟨⟨nh, by omega, e_cn⟩, ⟨cm, by omega, e_cm⟩, ⟨L, by omega, e_L⟩, (fun kk hkk => by rw [show M 3 kk = M 3 kk from rfl]; exact hv kk hkk), hD, ⟨n, by omega, e_n⟩, ⟨un, wn, by omega, by omega, e_un, e_wn⟩, ⟨b, by omega, e_b⟩, (fun j hj => by obtain ⟨q, hq, eq⟩ := hkd j hj; exact ⟨q, hq, (show M 47 j = M 47 j from rfl).trans eq⟩), ⟨ra, by omega, e_ra⟩, (fun j hj => by obtain ⟨s, hs, es⟩ := hsl j hj; exact ⟨s, hs, (show M (50 + 2 * j) 3 = M (50 + 2 * j) 3 from rfl).trans es⟩), (fun j hj => by obtain ⟨q, hq, eq⟩ := hS j hj; exact ⟨q, hq, (show M 36 j = M 36 j from rfl).trans eq⟩)⟩, (by unfold bfR; rw [if_neg (fun z => absurd z.2 (by grind))])⟩⟩)