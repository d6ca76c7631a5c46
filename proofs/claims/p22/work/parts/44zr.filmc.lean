set_option maxRecDepth 100000 in
set_option maxHeartbeats 4000000 in
theorem fux {P : xP} {mf mg : Int32} (hP : WP P) {h : Nat} (hh : h < P.1) (h5 : P.1 ≤ 5) {sq el : Nat} (hs : x_SH[sq]? = some (.inl (6, [none, none, none, none, some (some el)]))) (hel : x_SH[el]? = some (.inr (2, 60, fun _ => none))) (h50 : 50 ≤ sq ∧ sq ≤ 61) {L : Nat} {E : Nat → Int64} (hLL : L ≤ 60) (T : Int32) {l : Launch} {G : xG} {M : xM} {J : xJ} {Q : xQ} (e_s : M sq 3 = nI L) (hE : ∀ j, j < 60 → J el j = E j) (hR : ∀ (r : Int32) (M2 : xM), Ke WS M M2 → r = T → Q (some (.int r)) x_SH M2 J) (hC : ∀ (M2 : xM), Ke WS M M2 → (-2 = T) → x_X l G fX7_firstUnlike 6 0 0 Q 51 [(0, .ref (27))] [] x_SH M2 J 0 0) : ∀ (m k : Nat) (M1 : xM), k + m = L → Ke WS M M1 → (∃ D1 nw1, TC M1 P nw1 D1 k (-1) mf mg ∧ fuF P h E (L - k) k nw1 D1 = T) → x_X l G fX7_firstUnlike 6 0 0 Q 2 [(3, .int (nI (k))), (2, .int (nI (h))), (1, .ref (sq)), (0, .ref (27))] [] x_SH M1 J 0 0 := by
  intro m
  induction m with
  | zero =>
    intro k M1 hk hM hI
    obtain ⟨D1, nw1, hT1, hR1⟩ := hI
    refine xr_iload_n dX7_firstUnlike_2 0 rfl ?_
    refine xr_aload_n dX7_firstUnlike_3 2 rfl ?_
    refine xb_get (v := nI (L)) flX7_91 dX7_firstUnlike_4 hs rfl (Eq.trans (hM sq 3 (by unfold WS; omega)) e_s) ?_
    refine xr_icmp_ge (tgt := 51) dX7_firstUnlike_7 rfl (fun _ => ?_) (fun c => absurd (nI_le (a := L) (b := k) (by omega) (by omega)) c)
    refine xb_ls (ls2 := [(0, .ref (27))]) [3] rfl ?_
    exact hC _ hM (by obtain rfl : k = L := (by omega); rw [Nat.sub_self] at hR1; exact hR1)
  | succ m ih =>
    intro k M1 hk hM hI
    have hkN : k < L := by omega
    obtain ⟨D1, nw1, hT1, hR1⟩ := hI
    refine xr_iload_n dX7_firstUnlike_2 0 rfl ?_
    refine xr_aload_n dX7_firstUnlike_3 2 rfl ?_
    refine xb_get (v := nI (L)) flX7_91 dX7_firstUnlike_4 hs rfl (Eq.trans (hM sq 3 (by unfold WS; omega)) e_s) ?_
    refine xr_icmp_ge (tgt := 51) dX7_firstUnlike_7 rfl (fun c => absurd c (nI_ge (a := k) (b := L) (by omega) (by omega))) (fun _ => ?_)
    refine xr_iload_n dX7_firstUnlike_10 0 rfl ?_
    refine xr_bipush (v := 60) dX7_firstUnlike_11 rfl ?_
    refine xr_icmp_ge (tgt := 51) dX7_firstUnlike_13 rfl (fun c => absurd c (nI_ge (a := k) (b := 60) (by omega) (by omega))) (fun _ => ?_)
    refine xr_aload_n dX7_firstUnlike_16 3 rfl ?_
    refine xr_callV (As := []) (rest := []) mlX7_64 (gw_X7_step hP (by omega) (Or.inl rfl) hT1) dX7_firstUnlike_17 s_27 rfl rfl (Nat.le_of_ble_eq_true rfl) (by decide) ⟨by decide, by decide⟩ (fun v s2 M2 J2 hq => ?_)
    obtain ⟨rfl, rfl, rfl, k3, hT1⟩ := hq
    try dsimp only [Option.toList, List.cons_append, List.nil_append]
    have hT3 : TC M2 P (nw1 + 1) (tiF P nw1 D1) (k + 1) (-1) mf mg := tiM_0 (k := k) (by omega) ▸ hT1
    refine xr_aload_n dX7_firstUnlike_20 3 rfl ?_
    refine xr_getR flX7_15 dX7_firstUnlike_21 s_27 rfl ?_
    refine xr_getR flX7_67 dX7_firstUnlike_24 s_28 rfl ?_
    refine xr_iload_n dX7_firstUnlike_27 1 rfl ?_
    refine xb_aald (j := h) (q := 30 + h) (by decide) dX7_firstUnlike_28 s_29 (by omega) (by decide) (if_pos (by omega)) ?_
    refine xb_get (v := (tiF P nw1 D1 h 2)) flX7_94 dX7_firstUnlike_29 (s_hp30 (by omega)) rfl (hT3.1.2.1 h hh 2 (by decide)) ?_
    refine xr_i2l dX7_firstUnlike_32 ?_
    refine xr_aload_n dX7_firstUnlike_33 2 rfl ?_
    refine xr_getR flX7_97 dX7_firstUnlike_34 hs rfl ?_
    refine xr_iload_n dX7_firstUnlike_37 0 rfl ?_
    refine xb_lald (j := k) (v := J el k) dX7_firstUnlike_38 hel (by omega) (by decide) rfl ?_
    refine xr_lcmp dX7_firstUnlike_39 ?_
    refine xl_eq (tgt := 45) dX7_firstUnlike_40 rfl (fun c4 => ?_) (fun c4 => ?_)
    · refine xr_iinc (v := nI (k + 1)) (ls2 := [(3, .int (nI (k + 1))), (2, .int (nI (h))), (1, .ref (sq)), (0, .ref (27))]) dX7_firstUnlike_45 0 rfl (nI_1 _) (by decide) rfl ?_
      refine xr_goto (tgt := 2) dX7_firstUnlike_48 rfl ?_
      refine xb_ls (ls2 := [(3, .int (nI (k + 1))), (2, .int (nI (h))), (1, .ref (sq)), (0, .ref (27))]) [0, 1, 2, 3] rfl ?_
      exact ih (k + 1) M2 (by omega) (Ke.tr (fun _ _ h => h) hM k3) ⟨_, _, hT3, (fuF_y hkN (c4.trans (hE k (by omega)))).trans hR1⟩
    · refine xr_iload_n dX7_firstUnlike_43 0 rfl ?_
      exact xr_iret dX7_firstUnlike_44 rfl rfl ((hR _ _ (Ke.tr (fun _ _ h => h) hM k3) ((fuF_n hkN (fun z => c4 (z.trans (hE k (by omega)).symm))).symm.trans hR1)))
set_option maxRecDepth 100000 in
set_option maxHeartbeats 4000000 in
theorem gw_X7_firstUnlike {P : xP} {mf mg : Int32} (hP : WP P) {nw : Int32} {D : xM} {h : Nat} (hh : h < P.1) {sq el : Nat} (hs : x_SH[sq]? = some (.inl (6, [none, none, none, none, some (some el)]))) (hel : x_SH[el]? = some (.inr (2, 60, fun _ => none))) (h50 : 50 ≤ sq ∧ sq ≤ 61) {L : Nat} {E : Nat → Int64} (hLL : L ≤ 60) {l : Launch} {G : xG} {M : xM} {J : xJ} (hT : TC M P nw D 0 (-1) mf mg) (e_s : M sq 3 = nI L) (hE : ∀ j, j < 60 → J el j = E j) : x_M l G fX7_firstUnlike 6 0 0 [.ref (27), .ref (sq), .int (nI (h))] x_SH M J (qKI WS M J (fun r M2 => r = fuV P h L E nw D)) := by
  refine xb_of pX7 (Nat.le_of_ble_eq_true rfl) rfl ?_
  have h5 : P.1 ≤ 5 := hP.1
  refine xr_iconst (v := 0) dX7_firstUnlike_0 rfl ?_
  refine xr_istore_n (ls2 := [(3, .int (0)), (0, .ref (27)), (1, .ref (sq)), (2, .int (nI (h)))]) dX7_firstUnlike_1 (by decide) rfl ?_
  refine xb_ls (ls2 := [(3, .int (nI (0))), (2, .int (nI (h))), (1, .ref (sq)), (0, .ref (27))]) [0, 3, 2, 1] rfl ?_
  refine fux hP hh h5 hs hel h50 hLL (fuV P h L E nw D) e_s hE (fun r M2 hk hr => ⟨_, rfl, rfl, rfl, hk, hr⟩) (fun M1 k2 hI => ?_) (L - 0) 0 M (by omega) Ke.rf ⟨D, nw, hT, rfl⟩
  refine xr_bipush (v := -2) dX7_firstUnlike_51 rfl ?_
  exact xr_iret dX7_firstUnlike_53 rfl rfl (⟨_, rfl, rfl, rfl, (Ke.tr (fun _ _ h => h) Ke.rf k2), hI⟩)
set_option maxRecDepth 100000 in
set_option maxHeartbeats 4000000 in
theorem bgx9 {w : Int32} {h s_ : Nat} (hs_ : s_ < 6) {G9 : xQs} {nh : Nat} {D : xM} {t : Option zL} {S : Nat → Int32} (hh : h < nh) (hup : ¬ D h 4 = 0) (hLL : (G9 s_).2.1 ≤ 60) (hn5 : nh ≤ 5) (hrub : 0 ≤ S 1 ∧ S 1 ≤ 3) (hbt : ¬ S 2 = 0) (T : Int32 × Int32) {l : Launch} {G : xG} {M : xM} {J : xJ} {Q : xQ} (e_cn : M 13 2 = nI nh) (e_nw : M 13 3 = S 0) (e_rub : M 13 4 = S 1) (e_bt : M 13 5 = S 2) (e_ph : M 13 6 = S 3) (e_st : M 13 7 = S 4) (hL : LCt M t) (hA : AbC 15 nh M D) (hW : WF nh D) (e_s : M (50 + 2 * s_) 3 = nI (G9 s_).2.1) (hE : ∀ j, j < 60 → J (51 + 2 * s_) j = (G9 s_).2.2 j) (hC : ∀ (fi : Int32) (ft : Int32) (M2 : xM), Ke WTH M M2 → ((fi, ft) = T) → x_X l G fX9_begun 7 0 0 Q 150 [(6, .int (fi)), (5, .int (ft)), (3, .int (w)), (0, .ref (0))] [] x_SH M2 J 0 0) : ∀ (m k : Nat) (fi : Int32) (ft : Int32) (M1 : xM), k + m = 19 → Ke WTH M M1 → (bgL nh D t S G9 s_ h (19 - k) k (fi, ft) = T) → x_X l G fX9_begun 7 0 0 Q 77 [(7, .int (pv k)), (6, .int (fi)), (5, .int (ft)), (4, .int (9)), (3, .int (w)), (2, .int (nI (h))), (1, .int (nI (s_))), (0, .ref (0))] [] x_SH M1 J 0 0 := by
  intro m
  induction m with
  | zero =>
    intro k fi ft M1 hk hM hI
    have hP : WP (PS nh t S) := ⟨hn5, hrub, hbt⟩
    refine xr_iload dX9_begun_77 0 rfl ?_
    refine xr_iload dX9_begun_79 3 rfl ?_
    refine xr_icmp_gt (tgt := 150) dX9_begun_81 rfl (fun _ => ?_) (fun c => absurd (pv_gt (k := k) (by omega)) c)
    refine xb_ls (ls2 := [(6, .int (fi)), (5, .int (ft)), (3, .int (w)), (0, .ref (0))]) [1, 2, 4, 7] rfl ?_
    exact hC fi ft _ hM (by obtain rfl : k = 19 := (by omega); exact hI)
  | succ m ih =>
    intro k fi ft M1 hk hM hI
    have hkN : k < 19 := by omega
    have hP : WP (PS nh t S) := ⟨hn5, hrub, hbt⟩
    refine xr_iload dX9_begun_77 0 rfl ?_
    refine xr_iload dX9_begun_79 3 rfl ?_
    refine xr_icmp_gt (tgt := 150) dX9_begun_81 rfl (fun c => absurd c (pv_le (k := k) (by omega))) (fun _ => ?_)
    refine xr_aload_n dX9_begun_84 7 rfl ?_
    refine xr_getR flX9_40 dX9_begun_85 s_0 rfl ?_
    refine xr_callV (As := []) (rest := []) mlX9_192 (gw_X7_begin (D := D) (t := t) (cn := nh) hn5 (Eq.trans (hM 13 2 (by decide)) e_cn) (Eq.trans (hM 13 3 (by decide)) e_nw) (Eq.trans (hM 13 4 (by decide)) e_rub) (Eq.trans (hM 13 5 (by decide)) e_bt) (Eq.trans (hM 13 6 (by decide)) e_ph) (Eq.trans (hM 13 7 (by decide)) e_st) (LCt_k (Eq.trans (hM 1 4 (by unfold WTH; omega)) rfl) (fun kl => (Eq.trans (hM 2 kl (by unfold WTH; omega)) rfl)) (fun kl => (Eq.trans (hM 3 kl (by unfold WTH; omega)) rfl)) hL) (AbC_k hA (fun i hi j => (Eq.trans (hM (15 + i) j (by unfold WTH; omega)) rfl))) hW) dX9_begun_88 s_27 rfl rfl (Nat.le_of_ble_eq_true rfl) (by decide) ⟨by decide, by decide⟩ (fun v s2 M2 J2 hq => ?_)
    obtain ⟨rfl, rfl, rfl, k3, hT1⟩ := hq
    try dsimp only [Option.toList, List.cons_append, List.nil_append]
    refine xr_aload_n dX9_begun_91 7 rfl ?_
    refine xr_getR flX9_40 dX9_begun_92 s_0 rfl ?_
    refine xr_getR flX9_201 dX9_begun_95 s_27 rfl ?_
    refine xr_getR flX9_121 dX9_begun_98 s_28 rfl ?_
    refine xr_iload_n dX9_begun_101 5 rfl ?_
    refine xb_aald (j := h) (q := 30 + h) (by decide) dX9_begun_102 s_29 (by omega) (by decide) (if_pos (by omega)) ?_
    refine xr_iload dX9_begun_103 0 rfl ?_
    refine xr_putI fpX9_186 dX9_begun_105 (s_hp30 (by omega)) rfl rfl rfl ?_
    refine xr_aload_n dX9_begun_108 7 rfl ?_
    refine xr_getR flX9_40 dX9_begun_109 s_0 rfl ?_
    refine xr_aload_n dX9_begun_112 7 rfl ?_
    refine xr_getR flX9_67 dX9_begun_113 s_0 rfl ?_
    refine xr_iload_n dX9_begun_116 6 rfl ?_
    refine xb_aald (j := s_) (q := 50 + 2 * s_) (by decide) dX9_begun_117 s_49 hs_ (by decide) (if_pos hs_) ?_
    refine xr_iload_n dX9_begun_118 5 rfl ?_
    refine xr_callV (As := [.ref (50 + 2 * s_), .int (nI (h))]) (rest := []) mlX9_251 (gw_X7_firstUnlike (P := (PS nh t S)) (L := (G9 s_).2.1) (E := (G9 s_).2.2) (h := h) hP hh (s_shelf hs_) (s_elem hs_) (by omega) hLL (TC_p (h := h) hT1 (pv_b (by omega)) (fun z => absurd z hup)) ((Eq.trans (congrFun (x_up_n _ _ _ (by omega)) _) (Eq.trans (k3 (50 + 2 * s_) 3 (by unfold WTB; omega)) (Eq.trans (hM (50 + 2 * s_) 3 (by unfold WTH; omega)) rfl))).trans e_s) hE) dX9_begun_119 s_27 rfl rfl (Nat.le_of_ble_eq_true rfl) (by decide) ⟨by decide, by decide⟩ (fun v s2 M5 J2 hq => ?_)
    obtain ⟨r7, rfl, rfl, rfl, k6, hx4⟩ := hq
    try dsimp only [Option.toList, List.cons_append, List.nil_append]
    subst hx4
    refine xb_top (y := bgV nh D t S G9 s_ h k) rfl ?_
    refine xr_bipush (v := -2) dX9_begun_122 rfl ?_
    refine xr_icmp_ne (tgt := 144) dX9_begun_124 rfl (fun c8 => ?_) (fun c8 => ?_)
    · refine xr_iinc (v := pv (k + 1)) (ls2 := [(7, .int (pv (k + 1))), (6, .int (fi)), (5, .int (ft)), (4, .int (9)), (3, .int (w)), (2, .int (nI (h))), (1, .int (nI (s_))), (0, .ref (0))]) dX9_begun_144 0 rfl (pv_s (by omega)) (by decide) rfl ?_
      refine xr_goto (tgt := 77) dX9_begun_147 rfl ?_
      refine xb_ls (ls2 := [(7, .int (pv (k + 1))), (6, .int (fi)), (5, .int (ft)), (4, .int (9)), (3, .int (w)), (2, .int (nI (h))), (1, .int (nI (s_))), (0, .ref (0))]) [0, 1, 2, 3, 4, 5, 6, 7] rfl ?_
      exact ih (k + 1) fi ft M5 (by omega) (Ke.tr (fun pp kk => (fun hh => Or.elim hh (fun h => (Or.inl h)) (fun hh => Or.elim hh (fun h => (Or.inr (Or.inl h))) (fun hh => Or.elim hh (fun h => (Or.inr (Or.inr (Or.inl (by omega))))) (fun hh => Or.elim hh (fun h => (Or.inr (Or.inr (Or.inl (by omega))))) (fun h => (Or.inr (Or.inr (Or.inr h))))))))) (Ke.up (Or.inr (Or.inr (Or.inr (by omega)))) (Ke.tr (fun pp kk => (fun hh => Or.elim hh (fun h => (Or.inr (Or.inr (Or.inl h)))) (fun h => (Or.inr (Or.inr (Or.inr h)))))) hM k3)) k6) ((bgL_e hkN (bg1_n (n := nh) (D := D) (t := t) (S := S) (f := fi) (c := ft) c8)).trans hI)
    · refine xr_iload dX9_begun_127 2 rfl ?_
      refine xr_if_ne (tgt := 137) dX9_begun_129 rfl (fun c9 => ?_) (fun c9 => ?_)
      · refine xr_iload dX9_begun_137 1 rfl ?_
        refine xr_istore (ls2 := [(6, .int (fi)), (7, .int (pv k)), (5, .int (ft)), (4, .int (9)), (3, .int (w)), (2, .int (nI (h))), (1, .int (nI (s_))), (0, .ref (0))]) dX9_begun_139 (by decide) rfl ?_
        refine xr_iinc (v := ft + 1) (ls2 := [(5, .int (ft + 1)), (6, .int (fi)), (7, .int (pv k)), (4, .int (9)), (3, .int (w)), (2, .int (nI (h))), (1, .int (nI (s_))), (0, .ref (0))]) dX9_begun_141 2 rfl rfl (by decide) rfl ?_
        refine xr_iinc (v := pv (k + 1)) (ls2 := [(7, .int (pv (k + 1))), (5, .int (ft + 1)), (6, .int (fi)), (4, .int (9)), (3, .int (w)), (2, .int (nI (h))), (1, .int (nI (s_))), (0, .ref (0))]) dX9_begun_144 2 rfl (pv_s (by omega)) (by decide) rfl ?_
        refine xr_goto (tgt := 77) dX9_begun_147 rfl ?_
        refine xb_ls (ls2 := [(7, .int (pv (k + 1))), (6, .int (fi)), (5, .int (ft + 1)), (4, .int (9)), (3, .int (w)), (2, .int (nI (h))), (1, .int (nI (s_))), (0, .ref (0))]) [0, 2, 1, 3, 4, 5, 6, 7] rfl ?_
        exact ih (k + 1) fi (ft + 1) M5 (by omega) (Ke.tr (fun pp kk => (fun hh => Or.elim hh (fun h => (Or.inl h)) (fun hh => Or.elim hh (fun h => (Or.inr (Or.inl h))) (fun hh => Or.elim hh (fun h => (Or.inr (Or.inr (Or.inl (by omega))))) (fun hh => Or.elim hh (fun h => (Or.inr (Or.inr (Or.inl (by omega))))) (fun h => (Or.inr (Or.inr (Or.inr h))))))))) (Ke.up (Or.inr (Or.inr (Or.inr (by omega)))) (Ke.tr (fun pp kk => (fun hh => Or.elim hh (fun h => (Or.inr (Or.inr (Or.inl h)))) (fun h => (Or.inr (Or.inr (Or.inr h)))))) hM k3)) k6) ((bgL_e hkN ((bg1_y (n := nh) (D := D) (t := t) (S := S) (f := fi) (c := ft) c8).trans (congrArg (fun z => (z, ft + 1)) (if_neg c9)))).trans hI)
      · refine xr_iload dX9_begun_132 0 rfl ?_
        refine xr_goto (tgt := 139) dX9_begun_134 rfl ?_
        refine xr_istore (ls2 := [(6, .int (pv k)), (7, .int (pv k)), (5, .int (ft)), (4, .int (9)), (3, .int (w)), (2, .int (nI (h))), (1, .int (nI (s_))), (0, .ref (0))]) dX9_begun_139 (by decide) rfl ?_
        refine xr_iinc (v := ft + 1) (ls2 := [(5, .int (ft + 1)), (6, .int (pv k)), (7, .int (pv k)), (4, .int (9)), (3, .int (w)), (2, .int (nI (h))), (1, .int (nI (s_))), (0, .ref (0))]) dX9_begun_141 2 rfl rfl (by decide) rfl ?_
        refine xr_iinc (v := pv (k + 1)) (ls2 := [(7, .int (pv (k + 1))), (5, .int (ft + 1)), (6, .int (pv k)), (4, .int (9)), (3, .int (w)), (2, .int (nI (h))), (1, .int (nI (s_))), (0, .ref (0))]) dX9_begun_144 2 rfl (pv_s (by omega)) (by decide) rfl ?_
        refine xr_goto (tgt := 77) dX9_begun_147 rfl ?_
        refine xb_ls (ls2 := [(7, .int (pv (k + 1))), (6, .int (pv k)), (5, .int (ft + 1)), (4, .int (9)), (3, .int (w)), (2, .int (nI (h))), (1, .int (nI (s_))), (0, .ref (0))]) [0, 2, 1, 3, 4, 5, 6, 7] rfl ?_
        exact ih (k + 1) (pv k) (ft + 1) M5 (by omega) (Ke.tr (fun pp kk => (fun hh => Or.elim hh (fun h => (Or.inl h)) (fun hh => Or.elim hh (fun h => (Or.inr (Or.inl h))) (fun hh => Or.elim hh (fun h => (Or.inr (Or.inr (Or.inl (by omega))))) (fun hh => Or.elim hh (fun h => (Or.inr (Or.inr (Or.inl (by omega))))) (fun h => (Or.inr (Or.inr (Or.inr h))))))))) (Ke.up (Or.inr (Or.inr (Or.inr (by omega)))) (Ke.tr (fun pp kk => (fun hh => Or.elim hh (fun h => (Or.inr (Or.inr (Or.inl h)))) (fun h => (Or.inr (Or.inr (Or.inr h)))))) hM k3)) k6) ((bgL_e hkN ((bg1_y (n := nh) (D := D) (t := t) (S := S) (f := fi) (c := ft) c8).trans (congrArg (fun z => (z, ft + 1)) (if_pos c9)))).trans hI)
set_option maxRecDepth 100000 in
set_option maxHeartbeats 4000000 in
theorem gx_X9_begun {nh : Nat} {D : xM} {t : Option zL} {S : Nat → Int32} {G9 : xQs} (sh h w : Int32) {l : Launch} {G : xG} {M : xM} {J : xJ} (hI : InvC M) (hWG : WG nh D S) (hG : CG M nh D t S) (hSh : CSh M J G9) (hWS : WSh G9) : x_M l G fX9_begun 7 0 0 [.ref (0), .int (sh), .int (h), .int (w)] x_SH M J (qKI WTH M J (fun r M2 => InvC M2 ∧ (r = bgR nh D t S G9 sh h w))) := by
  refine xb_of pX9 (Nat.le_of_ble_eq_true rfl) rfl ?_
  obtain ⟨⟨cn, h_cn, e_cn⟩, ⟨cm, h_cm, e_cm⟩, ⟨L, h_L, e_L⟩, hv, hD, ⟨n, h_n, e_n⟩, ⟨un, wn, h_uw, h_wn, e_un, e_wn⟩, ⟨b, h_b, e_b⟩, hkd, ⟨ra, h_ra, e_ra⟩, hsl, hS⟩ := hI
  obtain ⟨hn5, hW, hrub, hbeat⟩ := hWG
  obtain ⟨hGn, hA, hL, e_nw, e_rub, e_bt, e_ph, e_st, e_kn, e_pu, e_lf⟩ := hG
  obtain rfl : nh = cn := (nI_eq (by omega) (by omega)).mp (hGn.symm.trans e_cn)
  have hbt : ¬ S 2 = 0 := ne2_0 hbeat.1
  have hP : WP (PS nh t S) := ⟨hn5, hrub, hbt⟩
  refine xr_iload_n dX9_begun_0 1 rfl ?_
  refine xb_cS (As := [.int (sh)]) (rest := []) mlX9_88 (c_X9_isShelf sh) dX9_begun_1 rfl rfl (Nat.le_of_ble_eq_true rfl) (by decide) (by decide) ?_
  refine xb_beq (tgt := 39) dX9_begun_4 rfl (fun c1 => ?_) (fun c1 => ?_)
  · refine xr_ldc coX9_105 dX9_begun_39 ?_
    exact xr_iret dX9_begun_41 rfl rfl (⟨_, rfl, rfl, rfl, Ke.rf, ⟨⟨⟨nh, by omega, e_cn⟩, ⟨cm, by omega, e_cm⟩, ⟨L, by omega, e_L⟩, (fun kk hkk => by rw [show M 3 kk = M 3 kk from rfl]; exact hv kk hkk), hD, ⟨n, by omega, e_n⟩, ⟨un, wn, by omega, by omega, e_un, e_wn⟩, ⟨b, by omega, e_b⟩, (fun j hj => by obtain ⟨q, hq, eq⟩ := hkd j hj; exact ⟨q, hq, (show M 47 j = M 47 j from rfl).trans eq⟩), ⟨ra, by omega, e_ra⟩, (fun j hj => by obtain ⟨s, hs, es⟩ := hsl j hj; exact ⟨s, hs, (show M (50 + 2 * j) 3 = M (50 + 2 * j) 3 from rfl).trans es⟩), (fun j hj => by obtain ⟨q, hq, eq⟩ := hS j hj; exact ⟨q, hq, (show M 36 j = M 36 j from rfl).trans eq⟩)⟩, (bgR_n (fun z => c1 (lt_le6.mpr z.1.1)))⟩⟩)
  · obtain ⟨s_, hs_, rfl⟩ := x_nat (N := 6) (by decide) rfl c1
    refine xr_aload_n dX9_begun_7 0 rfl ?_
    refine xr_getR flX9_28 dX9_begun_8 s_0 rfl ?_
    refine xr_iload_n dX9_begun_11 2 rfl ?_
    refine xb_cV (As := [.int (h)]) (rest := []) mlX9_118 (c_X5_has h (by omega) e_cn) dX9_begun_12 s_13 rfl rfl (Nat.le_of_ble_eq_true rfl) (by decide) (by decide) ?_
    refine xb_beq (tgt := 39) dX9_begun_15 rfl (fun c2 => ?_) (fun c2 => ?_)
    · refine xr_ldc coX9_105 dX9_begun_39 ?_
      exact xr_iret dX9_begun_41 rfl rfl (⟨_, rfl, rfl, rfl, Ke.rf, ⟨⟨⟨nh, by omega, e_cn⟩, ⟨cm, by omega, e_cm⟩, ⟨L, by omega, e_L⟩, (fun kk hkk => by rw [show M 3 kk = M 3 kk from rfl]; exact hv kk hkk), hD, ⟨n, by omega, e_n⟩, ⟨un, wn, by omega, by omega, e_un, e_wn⟩, ⟨b, by omega, e_b⟩, (fun j hj => by obtain ⟨q, hq, eq⟩ := hkd j hj; exact ⟨q, hq, (show M 47 j = M 47 j from rfl).trans eq⟩), ⟨ra, by omega, e_ra⟩, (fun j hj => by obtain ⟨s, hs, es⟩ := hsl j hj; exact ⟨s, hs, (show M (50 + 2 * j) 3 = M (50 + 2 * j) 3 from rfl).trans es⟩), (fun j hj => by obtain ⟨q, hq, eq⟩ := hS j hj; exact ⟨q, hq, (show M 36 j = M 36 j from rfl).trans eq⟩)⟩, (bgR_n (fun z => c2 z.1.2))⟩⟩)
    · obtain ⟨h_, hh_, rfl⟩ := x_nat (N := nh) (by omega) rfl c2
      refine xr_iload_n dX9_begun_18 3 rfl ?_
      refine xr_if_lt (tgt := 39) dX9_begun_19 rfl (fun c3 => ?_) (fun c3 => ?_)
      · refine xr_ldc coX9_105 dX9_begun_39 ?_
        exact xr_iret dX9_begun_41 rfl rfl (⟨_, rfl, rfl, rfl, Ke.rf, ⟨⟨⟨nh, by omega, e_cn⟩, ⟨cm, by omega, e_cm⟩, ⟨L, by omega, e_L⟩, (fun kk hkk => by rw [show M 3 kk = M 3 kk from rfl]; exact hv kk hkk), hD, ⟨n, by omega, e_n⟩, ⟨un, wn, by omega, by omega, e_un, e_wn⟩, ⟨b, by omega, e_b⟩, (fun j hj => by obtain ⟨q, hq, eq⟩ := hkd j hj; exact ⟨q, hq, (show M 47 j = M 47 j from rfl).trans eq⟩), ⟨ra, by omega, e_ra⟩, (fun j hj => by obtain ⟨s, hs, es⟩ := hsl j hj; exact ⟨s, hs, (show M (50 + 2 * j) 3 = M (50 + 2 * j) 3 from rfl).trans es⟩), (fun j hj => by obtain ⟨q, hq, eq⟩ := hS j hj; exact ⟨q, hq, (show M 36 j = M 36 j from rfl).trans eq⟩)⟩, (bgR_n (fun z => absurd z.2.1.1 (by grind)))⟩⟩)
      · refine xr_iload_n dX9_begun_22 3 rfl ?_
        refine xr_iconst (v := 1) dX9_begun_23 rfl ?_
        refine xr_icmp_gt (tgt := 39) dX9_begun_24 rfl (fun c4 => ?_) (fun c4 => ?_)
        · refine xr_ldc coX9_105 dX9_begun_39 ?_
          exact xr_iret dX9_begun_41 rfl rfl (⟨_, rfl, rfl, rfl, Ke.rf, ⟨⟨⟨nh, by omega, e_cn⟩, ⟨cm, by omega, e_cm⟩, ⟨L, by omega, e_L⟩, (fun kk hkk => by rw [show M 3 kk = M 3 kk from rfl]; exact hv kk hkk), hD, ⟨n, by omega, e_n⟩, ⟨un, wn, by omega, by omega, e_un, e_wn⟩, ⟨b, by omega, e_b⟩, (fun j hj => by obtain ⟨q, hq, eq⟩ := hkd j hj; exact ⟨q, hq, (show M 47 j = M 47 j from rfl).trans eq⟩), ⟨ra, by omega, e_ra⟩, (fun j hj => by obtain ⟨s, hs, es⟩ := hsl j hj; exact ⟨s, hs, (show M (50 + 2 * j) 3 = M (50 + 2 * j) 3 from rfl).trans es⟩), (fun j hj => by obtain ⟨q, hq, eq⟩ := hS j hj; exact ⟨q, hq, (show M 36 j = M 36 j from rfl).trans eq⟩)⟩, (bgR_n (fun z => absurd z.2.1.2 (by grind)))⟩⟩)
        · refine xr_aload_n dX9_begun_27 0 rfl ?_
          obtain ⟨hLL, e_s, hE, hkd⟩ := hSh s_ hs_
          rcases hkd with ⟨hkk, h0⟩ | ⟨hkk, h0, h2⟩ | ⟨hkk, h0, h2⟩
          · refine xr_getR flX9_67 dX9_begun_28 s_0 rfl ?_
            refine xr_iload_n dX9_begun_31 1 rfl ?_
            refine xb_aald (j := s_) (q := 50 + 2 * s_) (by decide) dX9_begun_32 s_49 hs_ (by decide) (if_pos hs_) ?_
            refine xb_cV (As := []) (rest := []) mlX9_94 (c_X6_hasBytes (s_shelf hs_) (s_elem hs_)) dX9_begun_33 (s_shelf hs_) rfl rfl (Nat.le_of_ble_eq_true rfl) (by decide) (by decide) ?_
            refine xb_bne (tgt := 42) dX9_begun_36 rfl (fun c => absurd c (fun z => absurd (h0.symm.trans z.1) (by decide))) (fun _ => ?_)
            refine xr_ldc coX9_105 dX9_begun_39 ?_
            exact xr_iret dX9_begun_41 rfl rfl (⟨_, rfl, rfl, rfl, Ke.rf, ⟨⟨⟨nh, by omega, e_cn⟩, ⟨cm, by omega, e_cm⟩, ⟨L, by omega, e_L⟩, (fun kk hkk => by rw [show M 3 kk = M 3 kk from rfl]; exact hv kk hkk), hD, ⟨n, by omega, e_n⟩, ⟨un, wn, by omega, by omega, e_un, e_wn⟩, ⟨b, by omega, e_b⟩, (fun j hj => by obtain ⟨q, hq, eq⟩ := hkd j hj; exact ⟨q, hq, (show M 47 j = M 47 j from rfl).trans eq⟩), ⟨ra, by omega, e_ra⟩, (fun j hj => by obtain ⟨s, hs, es⟩ := hsl j hj; exact ⟨s, hs, (show M (50 + 2 * j) 3 = M (50 + 2 * j) 3 from rfl).trans es⟩), (fun j hj => by obtain ⟨q, hq, eq⟩ := hS j hj; exact ⟨q, hq, (show M 36 j = M 36 j from rfl).trans eq⟩)⟩, (bgR_n (fun z => by have z2 := z.2.2; rw [w_ix_n (by omega), hkk] at z2; exact absurd z2 (by decide)))⟩⟩)
          · refine xr_getR flX9_67 dX9_begun_28 s_0 rfl ?_
            refine xr_iload_n dX9_begun_31 1 rfl ?_
            refine xb_aald (j := s_) (q := 50 + 2 * s_) (by decide) dX9_begun_32 s_49 hs_ (by decide) (if_pos hs_) ?_
            refine xb_cV (As := []) (rest := []) mlX9_94 (c_X6_hasBytes (s_shelf hs_) (s_elem hs_)) dX9_begun_33 (s_shelf hs_) rfl rfl (Nat.le_of_ble_eq_true rfl) (by decide) (by decide) ?_
            refine xb_bne (tgt := 42) dX9_begun_36 rfl (fun _ => ?_) (fun c => absurd ⟨h0, h2⟩ c)
            refine xr_aload_n dX9_begun_42 0 rfl ?_
            refine xr_getR flX9_28 dX9_begun_43 s_0 rfl ?_
            refine xr_getR flX9_121 dX9_begun_46 s_13 rfl ?_
            refine xr_iload_n dX9_begun_49 2 rfl ?_
            refine xb_aald (j := h_) (q := 15 + h_) (by decide) dX9_begun_50 s_14 (by omega) (by decide) (if_pos (by omega)) ?_
            refine xb_cV (As := []) (rest := []) mlX9_167 (c_X2_lies (s_hp15 (by omega))) dX9_begun_51 (s_hp15 (by omega)) rfl rfl (Nat.le_of_ble_eq_true rfl) (by decide) (by decide) ?_
            refine xb_beq (tgt := 61) dX9_begun_54 rfl (fun c7 => ?_) (fun c7 => ?_)
            · refine xr_bipush (v := 9) dX9_begun_61 rfl ?_
              refine xr_istore (ls2 := [(4, .int (9)), (0, .ref (0)), (1, .int (nI (s_))), (2, .int (nI (h_))), (3, .int (w))]) dX9_begun_63 (by decide) rfl ?_
              refine xr_iconst (v := 0) dX9_begun_65 rfl ?_
              refine xr_istore (ls2 := [(5, .int (0)), (4, .int (9)), (0, .ref (0)), (1, .int (nI (s_))), (2, .int (nI (h_))), (3, .int (w))]) dX9_begun_66 (by decide) rfl ?_
              refine xr_bipush (v := -2) dX9_begun_68 rfl ?_
              refine xr_istore (ls2 := [(6, .int ((-2))), (5, .int (0)), (4, .int (9)), (0, .ref (0)), (1, .int (nI (s_))), (2, .int (nI (h_))), (3, .int (w))]) dX9_begun_70 (by decide) rfl ?_
              refine xr_iload dX9_begun_72 2 rfl ?_
              refine xr_ineg dX9_begun_74 ?_
              refine xb_top (y := (-9)) (by decide) ?_
              refine xr_istore (ls2 := [(7, .int ((-9))), (6, .int ((-2))), (5, .int (0)), (4, .int (9)), (0, .ref (0)), (1, .int (nI (s_))), (2, .int (nI (h_))), (3, .int (w))]) dX9_begun_75 (by decide) rfl ?_
              refine xb_ls (ls2 := [(7, .int ((-9))), (6, .int ((-2))), (5, .int (0)), (4, .int (9)), (3, .int (w)), (2, .int (nI (h_))), (1, .int (nI (s_))), (0, .ref (0))]) [0, 1, 2, 3, 7, 6, 5, 4] rfl ?_
              refine bgx9 hs_ hh_ (fun z => c7 ((hA h_ hh_ 4 (by decide)).trans z)) hLL hn5 hrub hbt (bgL nh D t S G9 s_ h_ 19 0 (-2, 0)) e_cn e_nw e_rub e_bt e_ph e_st (LCt_k rfl (fun kl => rfl) (fun kl => rfl) hL) (AbC_k hA (fun i hi j => rfl)) hW (rfl.trans e_s) hE (fun q8 q9 M10 k11 hEE => ?_) (19 - 0) 0 (-2) 0 M (by omega) Ke.rf rfl
              refine xr_iload_n dX9_begun_150 2 rfl ?_
              refine xr_if_ne (tgt := 159) dX9_begun_151 rfl (fun c12 => ?_) (fun c12 => ?_)
              · refine xr_iload dX9_begun_159 0 rfl ?_
                exact xr_iret dX9_begun_161 rfl rfl (⟨_, rfl, rfl, rfl, (Ke.tr (fun _ _ h => h) Ke.rf k11), ⟨⟨⟨nh, by omega, (Eq.trans (k11 13 2 (by decide)) e_cn)⟩, ⟨cm, by omega, (Eq.trans (k11 20 2 (by decide)) e_cm)⟩, ⟨L, by omega, (Eq.trans (k11 1 4 (by decide)) e_L)⟩, (fun kk hkk => by rw [show M10 3 kk = M 3 kk from (Eq.trans (k11 3 kk (by unfold WTH; omega)) rfl)]; exact hv kk hkk), (DI_ke (by intro k; unfold WTH; omega) k11 hD), ⟨n, by omega, (Eq.trans (k11 6 2 (by decide)) e_n)⟩, ⟨un, wn, by omega, by omega, (Eq.trans (k11 41 4 (by decide)) e_un), (Eq.trans (k11 41 5 (by decide)) e_wn)⟩, ⟨b, by omega, (Eq.trans (k11 46 2 (by decide)) e_b)⟩, (fun j hj => by obtain ⟨q, hq, eq⟩ := hkd j hj; exact ⟨q, hq, (show M10 47 j = M 47 j from (Eq.trans (k11 47 j (by unfold WTH; omega)) rfl)).trans eq⟩), ⟨ra, by omega, (Eq.trans (k11 46 3 (by decide)) e_ra)⟩, (fun j hj => by obtain ⟨s, hs, es⟩ := hsl j hj; exact ⟨s, hs, (show M10 (50 + 2 * j) 3 = M (50 + 2 * j) 3 from (Eq.trans (k11 (50 + 2 * j) 3 (by unfold WTH; omega)) rfl)).trans es⟩), (fun j hj => by obtain ⟨q, hq, eq⟩ := hS j hj; exact ⟨q, hq, (show M10 36 j = M 36 j from (Eq.trans (k11 36 j (by unfold WTH; omega)) rfl)).trans eq⟩)⟩, (((congrArg Prod.fst (bgF_u (fun z => c7 ((hA h_ hh_ 4 (by decide)).trans z)) hEE)).trans (if_neg c12).symm).trans (bgR_y hn5 hs_ hh_ ⟨by grind, by grind⟩ hkk))⟩⟩)
              · refine xr_iload dX9_begun_154 1 rfl ?_
                refine xr_goto (tgt := 161) dX9_begun_156 rfl ?_
                exact xr_iret dX9_begun_161 rfl rfl (⟨_, rfl, rfl, rfl, (Ke.tr (fun _ _ h => h) Ke.rf k11), ⟨⟨⟨nh, by omega, (Eq.trans (k11 13 2 (by decide)) e_cn)⟩, ⟨cm, by omega, (Eq.trans (k11 20 2 (by decide)) e_cm)⟩, ⟨L, by omega, (Eq.trans (k11 1 4 (by decide)) e_L)⟩, (fun kk hkk => by rw [show M10 3 kk = M 3 kk from (Eq.trans (k11 3 kk (by unfold WTH; omega)) rfl)]; exact hv kk hkk), (DI_ke (by intro k; unfold WTH; omega) k11 hD), ⟨n, by omega, (Eq.trans (k11 6 2 (by decide)) e_n)⟩, ⟨un, wn, by omega, by omega, (Eq.trans (k11 41 4 (by decide)) e_un), (Eq.trans (k11 41 5 (by decide)) e_wn)⟩, ⟨b, by omega, (Eq.trans (k11 46 2 (by decide)) e_b)⟩, (fun j hj => by obtain ⟨q, hq, eq⟩ := hkd j hj; exact ⟨q, hq, (show M10 47 j = M 47 j from (Eq.trans (k11 47 j (by unfold WTH; omega)) rfl)).trans eq⟩), ⟨ra, by omega, (Eq.trans (k11 46 3 (by decide)) e_ra)⟩, (fun j hj => by obtain ⟨s, hs, es⟩ := hsl j hj; exact ⟨s, hs, (show M10 (50 + 2 * j) 3 = M (50 + 2 * j) 3 from (Eq.trans (k11 (50 + 2 * j) 3 (by unfold WTH; omega)) rfl)).trans es⟩), (fun j hj => by obtain ⟨q, hq, eq⟩ := hS j hj; exact ⟨q, hq, (show M10 36 j = M 36 j from (Eq.trans (k11 36 j (by unfold WTH; omega)) rfl)).trans eq⟩)⟩, (((congrArg Prod.snd (bgF_u (fun z => c7 ((hA h_ hh_ 4 (by decide)).trans z)) hEE)).trans (if_pos c12).symm).trans (bgR_y hn5 hs_ hh_ ⟨by grind, by grind⟩ hkk))⟩⟩)
            · refine xr_iconst (v := 0) dX9_begun_57 rfl ?_
              refine xr_goto (tgt := 63) dX9_begun_58 rfl ?_
              refine xr_istore (ls2 := [(4, .int (0)), (0, .ref (0)), (1, .int (nI (s_))), (2, .int (nI (h_))), (3, .int (w))]) dX9_begun_63 (by decide) rfl ?_
              refine xr_iconst (v := 0) dX9_begun_65 rfl ?_
              refine xr_istore (ls2 := [(5, .int (0)), (4, .int (0)), (0, .ref (0)), (1, .int (nI (s_))), (2, .int (nI (h_))), (3, .int (w))]) dX9_begun_66 (by decide) rfl ?_
              refine xr_bipush (v := -2) dX9_begun_68 rfl ?_
              refine xr_istore (ls2 := [(6, .int ((-2))), (5, .int (0)), (4, .int (0)), (0, .ref (0)), (1, .int (nI (s_))), (2, .int (nI (h_))), (3, .int (w))]) dX9_begun_70 (by decide) rfl ?_
              refine xr_iload dX9_begun_72 2 rfl ?_
              refine xr_ineg dX9_begun_74 ?_
              refine xb_top (y := 0) (by decide) ?_
              refine xr_istore (ls2 := [(7, .int (0)), (6, .int ((-2))), (5, .int (0)), (4, .int (0)), (0, .ref (0)), (1, .int (nI (s_))), (2, .int (nI (h_))), (3, .int (w))]) dX9_begun_75 (by decide) rfl ?_
              refine xr_iload dX9_begun_77 0 rfl ?_
              refine xr_iload dX9_begun_79 3 rfl ?_
              refine xr_icmp_gt (tgt := 150) dX9_begun_81 rfl (fun c => absurd c (by decide)) (fun _ => ?_)
              refine xr_aload_n dX9_begun_84 4 rfl ?_
              refine xr_getR flX9_40 dX9_begun_85 s_0 rfl ?_
              refine xr_callV (As := []) (rest := []) mlX9_192 (gw_X7_begin (D := D) (t := t) (cn := nh) hn5 e_cn e_nw e_rub e_bt e_ph e_st (LCt_k rfl (fun kl => rfl) (fun kl => rfl) hL) (AbC_k hA (fun i hi j => rfl)) hW) dX9_begun_88 s_27 rfl rfl (Nat.le_of_ble_eq_true rfl) (by decide) ⟨by decide, by decide⟩ (fun v s2 M14 J2 hq => ?_)
              obtain ⟨rfl, rfl, rfl, k15, hT13⟩ := hq
              try dsimp only [Option.toList, List.cons_append, List.nil_append]
              refine xr_aload_n dX9_begun_91 4 rfl ?_
              refine xr_getR flX9_40 dX9_begun_92 s_0 rfl ?_
              refine xr_getR flX9_201 dX9_begun_95 s_27 rfl ?_
              refine xr_getR flX9_121 dX9_begun_98 s_28 rfl ?_
              refine xr_iload_n dX9_begun_101 6 rfl ?_
              refine xb_aald (j := h_) (q := 30 + h_) (by decide) dX9_begun_102 s_29 (by omega) (by decide) (if_pos (by omega)) ?_
              refine xr_iload dX9_begun_103 0 rfl ?_
              refine xr_putI fpX9_186 dX9_begun_105 (s_hp30 (by omega)) rfl rfl rfl ?_
              refine xr_aload_n dX9_begun_108 4 rfl ?_
              refine xr_getR flX9_40 dX9_begun_109 s_0 rfl ?_
              refine xr_aload_n dX9_begun_112 4 rfl ?_
              refine xr_getR flX9_67 dX9_begun_113 s_0 rfl ?_
              refine xr_iload_n dX9_begun_116 5 rfl ?_
              refine xb_aald (j := s_) (q := 50 + 2 * s_) (by decide) dX9_begun_117 s_49 hs_ (by decide) (if_pos hs_) ?_
              refine xr_iload_n dX9_begun_118 6 rfl ?_
              refine xr_callV (As := [.ref (50 + 2 * s_), .int (nI (h_))]) (rest := []) mlX9_251 (gw_X7_firstUnlike (P := (PS nh t S)) (L := (G9 s_).2.1) (E := (G9 s_).2.2) (h := h_) hP hh_ (s_shelf hs_) (s_elem hs_) (by omega) hLL (TC_p (h := h_) (v := 0) hT13 (by decide) (fun _ => rfl)) ((Eq.trans (congrFun (x_up_n _ _ _ (by omega)) _) (Eq.trans (k15 (50 + 2 * s_) 3 (by unfold WTB; omega)) rfl)).trans e_s) hE) dX9_begun_119 s_27 rfl rfl (Nat.le_of_ble_eq_true rfl) (by decide) ⟨by decide, by decide⟩ (fun v s2 M17 J2 hq => ?_)
              obtain ⟨r19, rfl, rfl, rfl, k18, hx16⟩ := hq
              try dsimp only [Option.toList, List.cons_append, List.nil_append]
              subst hx16
              refine xb_top (y := bgV nh D t S G9 s_ h_ 9) rfl ?_
              refine xr_bipush (v := -2) dX9_begun_122 rfl ?_
              refine xr_icmp_ne (tgt := 144) dX9_begun_124 rfl (fun c20 => ?_) (fun c20 => ?_)
              · refine xr_iinc (v := 1) (ls2 := [(7, .int (1)), (6, .int ((-2))), (5, .int (0)), (4, .int (0)), (0, .ref (0)), (1, .int (nI (s_))), (2, .int (nI (h_))), (3, .int (w))]) dX9_begun_144 0 rfl rfl (by decide) rfl ?_
                refine xr_goto (tgt := 77) dX9_begun_147 rfl ?_
                refine xr_iload dX9_begun_77 0 rfl ?_
                refine xr_iload dX9_begun_79 3 rfl ?_
                refine xr_icmp_gt (tgt := 150) dX9_begun_81 rfl (fun _ => ?_) (fun c => absurd (by decide) c)
                refine xr_iload_n dX9_begun_150 7 rfl ?_
                refine xr_if_ne (tgt := 159) dX9_begun_151 rfl (fun c21 => ?_) (fun c21 => ?_)
                · refine xr_iload dX9_begun_159 1 rfl ?_
                  exact xr_iret dX9_begun_161 rfl rfl (⟨_, rfl, rfl, rfl, (Ke.tr (fun pp kk => (fun hh => Or.elim hh (fun h => (Or.inl h)) (fun hh => Or.elim hh (fun h => (Or.inr (Or.inl h))) (fun hh => Or.elim hh (fun h => (Or.inr (Or.inr (Or.inl (by omega))))) (fun hh => Or.elim hh (fun h => (Or.inr (Or.inr (Or.inl (by omega))))) (fun h => (Or.inr (Or.inr (Or.inr h))))))))) (Ke.up (Or.inr (Or.inr (Or.inr (by omega)))) (Ke.tr (fun pp kk => (fun hh => Or.elim hh (fun h => (Or.inr (Or.inr (Or.inl h)))) (fun h => (Or.inr (Or.inr (Or.inr h)))))) Ke.rf k15)) k18), ⟨⟨⟨nh, by omega, (Eq.trans (k18 13 2 (by decide)) (Eq.trans (congrFun (x_up_n _ _ _ (by omega)) _) (Eq.trans (k15 13 2 (by decide)) e_cn)))⟩, ⟨cm, by omega, (Eq.trans (k18 20 2 (by decide)) (Eq.trans (congrFun (x_up_n _ _ _ (by omega)) _) (Eq.trans (k15 20 2 (by decide)) e_cm)))⟩, ⟨L, by omega, (Eq.trans (k18 1 4 (by decide)) (Eq.trans (congrFun (x_up_n _ _ _ (by omega)) _) (Eq.trans (k15 1 4 (by decide)) e_L)))⟩, (fun kk hkk => by rw [show M17 3 kk = M 3 kk from (Eq.trans (k18 3 kk (by unfold WS; omega)) (Eq.trans (congrFun (x_up_n _ _ _ (by omega)) _) (Eq.trans (k15 3 kk (by unfold WTB; omega)) rfl)))]; exact hv kk hkk), (DI_ke (by intro k; unfold WS; omega) k18 (DI_up (by omega) (DI_ke (by intro k; unfold WTB; omega) k15 hD))), ⟨n, by omega, (Eq.trans (k18 6 2 (by decide)) (Eq.trans (congrFun (x_up_n _ _ _ (by omega)) _) (Eq.trans (k15 6 2 (by decide)) e_n)))⟩, ⟨un, wn, by omega, by omega, (Eq.trans (k18 41 4 (by decide)) (Eq.trans (congrFun (x_up_n _ _ _ (by omega)) _) (Eq.trans (k15 41 4 (by decide)) e_un))), (Eq.trans (k18 41 5 (by decide)) (Eq.trans (congrFun (x_up_n _ _ _ (by omega)) _) (Eq.trans (k15 41 5 (by decide)) e_wn)))⟩, ⟨b, by omega, (Eq.trans (k18 46 2 (by decide)) (Eq.trans (congrFun (x_up_n _ _ _ (by omega)) _) (Eq.trans (k15 46 2 (by decide)) e_b)))⟩, (fun j hj => by obtain ⟨q, hq, eq⟩ := hkd j hj; exact ⟨q, hq, (show M17 47 j = M 47 j from (Eq.trans (k18 47 j (by unfold WS; omega)) (Eq.trans (congrFun (x_up_n _ _ _ (by omega)) _) (Eq.trans (k15 47 j (by unfold WTB; omega)) rfl)))).trans eq⟩), ⟨ra, by omega, (Eq.trans (k18 46 3 (by decide)) (Eq.trans (congrFun (x_up_n _ _ _ (by omega)) _) (Eq.trans (k15 46 3 (by decide)) e_ra)))⟩, (fun j hj => by obtain ⟨s, hs, es⟩ := hsl j hj; exact ⟨s, hs, (show M17 (50 + 2 * j) 3 = M (50 + 2 * j) 3 from (Eq.trans (k18 (50 + 2 * j) 3 (by unfold WS; omega)) (Eq.trans (congrFun (x_up_n _ _ _ (by omega)) _) (Eq.trans (k15 (50 + 2 * j) 3 (by unfold WTB; omega)) rfl)))).trans es⟩), (fun j hj => by obtain ⟨q, hq, eq⟩ := hS j hj; exact ⟨q, hq, (show M17 36 j = M 36 j from (Eq.trans (k18 36 j (by unfold WS; omega)) (Eq.trans (congrFun (x_up_n _ _ _ (by omega)) _) (Eq.trans (k15 36 j (by unfold WTB; omega)) rfl)))).trans eq⟩)⟩, (((congrArg Prod.fst (bgF_l ((hA h_ hh_ 4 (by decide)).symm.trans c7) (bg1_n (n := nh) (D := D) (t := t) (S := S) (f := -2) (c := 0) c20).symm)).trans (if_neg c21).symm).trans (bgR_y hn5 hs_ hh_ ⟨by grind, by grind⟩ hkk))⟩⟩)
                · refine xr_iload dX9_begun_154 2 rfl ?_
                  refine xr_goto (tgt := 161) dX9_begun_156 rfl ?_
                  exact xr_iret dX9_begun_161 rfl rfl (⟨_, rfl, rfl, rfl, (Ke.tr (fun pp kk => (fun hh => Or.elim hh (fun h => (Or.inl h)) (fun hh => Or.elim hh (fun h => (Or.inr (Or.inl h))) (fun hh => Or.elim hh (fun h => (Or.inr (Or.inr (Or.inl (by omega))))) (fun hh => Or.elim hh (fun h => (Or.inr (Or.inr (Or.inl (by omega))))) (fun h => (Or.inr (Or.inr (Or.inr h))))))))) (Ke.up (Or.inr (Or.inr (Or.inr (by omega)))) (Ke.tr (fun pp kk => (fun hh => Or.elim hh (fun h => (Or.inr (Or.inr (Or.inl h)))) (fun h => (Or.inr (Or.inr (Or.inr h)))))) Ke.rf k15)) k18), ⟨⟨⟨nh, by omega, (Eq.trans (k18 13 2 (by decide)) (Eq.trans (congrFun (x_up_n _ _ _ (by omega)) _) (Eq.trans (k15 13 2 (by decide)) e_cn)))⟩, ⟨cm, by omega, (Eq.trans (k18 20 2 (by decide)) (Eq.trans (congrFun (x_up_n _ _ _ (by omega)) _) (Eq.trans (k15 20 2 (by decide)) e_cm)))⟩, ⟨L, by omega, (Eq.trans (k18 1 4 (by decide)) (Eq.trans (congrFun (x_up_n _ _ _ (by omega)) _) (Eq.trans (k15 1 4 (by decide)) e_L)))⟩, (fun kk hkk => by rw [show M17 3 kk = M 3 kk from (Eq.trans (k18 3 kk (by unfold WS; omega)) (Eq.trans (congrFun (x_up_n _ _ _ (by omega)) _) (Eq.trans (k15 3 kk (by unfold WTB; omega)) rfl)))]; exact hv kk hkk), (DI_ke (by intro k; unfold WS; omega) k18 (DI_up (by omega) (DI_ke (by intro k; unfold WTB; omega) k15 hD))), ⟨n, by omega, (Eq.trans (k18 6 2 (by decide)) (Eq.trans (congrFun (x_up_n _ _ _ (by omega)) _) (Eq.trans (k15 6 2 (by decide)) e_n)))⟩, ⟨un, wn, by omega, by omega, (Eq.trans (k18 41 4 (by decide)) (Eq.trans (congrFun (x_up_n _ _ _ (by omega)) _) (Eq.trans (k15 41 4 (by decide)) e_un))), (Eq.trans (k18 41 5 (by decide)) (Eq.trans (congrFun (x_up_n _ _ _ (by omega)) _) (Eq.trans (k15 41 5 (by decide)) e_wn)))⟩, ⟨b, by omega, (Eq.trans (k18 46 2 (by decide)) (Eq.trans (congrFun (x_up_n _ _ _ (by omega)) _) (Eq.trans (k15 46 2 (by decide)) e_b)))⟩, (fun j hj => by obtain ⟨q, hq, eq⟩ := hkd j hj; exact ⟨q, hq, (show M17 47 j = M 47 j from (Eq.trans (k18 47 j (by unfold WS; omega)) (Eq.trans (congrFun (x_up_n _ _ _ (by omega)) _) (Eq.trans (k15 47 j (by unfold WTB; omega)) rfl)))).trans eq⟩), ⟨ra, by omega, (Eq.trans (k18 46 3 (by decide)) (Eq.trans (congrFun (x_up_n _ _ _ (by omega)) _) (Eq.trans (k15 46 3 (by decide)) e_ra)))⟩, (fun j hj => by obtain ⟨s, hs, es⟩ := hsl j hj; exact ⟨s, hs, (show M17 (50 + 2 * j) 3 = M (50 + 2 * j) 3 from (Eq.trans (k18 (50 + 2 * j) 3 (by unfold WS; omega)) (Eq.trans (congrFun (x_up_n _ _ _ (by omega)) _) (Eq.trans (k15 (50 + 2 * j) 3 (by unfold WTB; omega)) rfl)))).trans es⟩), (fun j hj => by obtain ⟨q, hq, eq⟩ := hS j hj; exact ⟨q, hq, (show M17 36 j = M 36 j from (Eq.trans (k18 36 j (by unfold WS; omega)) (Eq.trans (congrFun (x_up_n _ _ _ (by omega)) _) (Eq.trans (k15 36 j (by unfold WTB; omega)) rfl)))).trans eq⟩)⟩, (((congrArg Prod.snd (bgF_l ((hA h_ hh_ 4 (by decide)).symm.trans c7) (bg1_n (n := nh) (D := D) (t := t) (S := S) (f := -2) (c := 0) c20).symm)).trans (if_pos c21).symm).trans (bgR_y hn5 hs_ hh_ ⟨by grind, by grind⟩ hkk))⟩⟩)
              · refine xr_iload dX9_begun_127 2 rfl ?_
                refine xr_if_ne (tgt := 137) dX9_begun_129 rfl (fun c => absurd (by decide) c) (fun _ => ?_)
                refine xr_iload dX9_begun_132 0 rfl ?_
                refine xr_goto (tgt := 139) dX9_begun_134 rfl ?_
                refine xr_istore (ls2 := [(6, .int (0)), (7, .int (0)), (5, .int (0)), (4, .int (0)), (0, .ref (0)), (1, .int (nI (s_))), (2, .int (nI (h_))), (3, .int (w))]) dX9_begun_139 (by decide) rfl ?_
                refine xr_iinc (v := 1) (ls2 := [(5, .int (1)), (6, .int (0)), (7, .int (0)), (4, .int (0)), (0, .ref (0)), (1, .int (nI (s_))), (2, .int (nI (h_))), (3, .int (w))]) dX9_begun_141 2 rfl rfl (by decide) rfl ?_
                refine xr_iinc (v := 1) (ls2 := [(7, .int (1)), (5, .int (1)), (6, .int (0)), (4, .int (0)), (0, .ref (0)), (1, .int (nI (s_))), (2, .int (nI (h_))), (3, .int (w))]) dX9_begun_144 2 rfl rfl (by decide) rfl ?_
                refine xr_goto (tgt := 77) dX9_begun_147 rfl ?_
                refine xr_iload dX9_begun_77 0 rfl ?_
                refine xr_iload dX9_begun_79 3 rfl ?_
                refine xr_icmp_gt (tgt := 150) dX9_begun_81 rfl (fun _ => ?_) (fun c => absurd (by decide) c)
                refine xr_iload_n dX9_begun_150 7 rfl ?_
                refine xr_if_ne (tgt := 159) dX9_begun_151 rfl (fun c22 => ?_) (fun c22 => ?_)
                · refine xr_iload dX9_begun_159 2 rfl ?_
                  exact xr_iret dX9_begun_161 rfl rfl (⟨_, rfl, rfl, rfl, (Ke.tr (fun pp kk => (fun hh => Or.elim hh (fun h => (Or.inl h)) (fun hh => Or.elim hh (fun h => (Or.inr (Or.inl h))) (fun hh => Or.elim hh (fun h => (Or.inr (Or.inr (Or.inl (by omega))))) (fun hh => Or.elim hh (fun h => (Or.inr (Or.inr (Or.inl (by omega))))) (fun h => (Or.inr (Or.inr (Or.inr h))))))))) (Ke.up (Or.inr (Or.inr (Or.inr (by omega)))) (Ke.tr (fun pp kk => (fun hh => Or.elim hh (fun h => (Or.inr (Or.inr (Or.inl h)))) (fun h => (Or.inr (Or.inr (Or.inr h)))))) Ke.rf k15)) k18), ⟨⟨⟨nh, by omega, (Eq.trans (k18 13 2 (by decide)) (Eq.trans (congrFun (x_up_n _ _ _ (by omega)) _) (Eq.trans (k15 13 2 (by decide)) e_cn)))⟩, ⟨cm, by omega, (Eq.trans (k18 20 2 (by decide)) (Eq.trans (congrFun (x_up_n _ _ _ (by omega)) _) (Eq.trans (k15 20 2 (by decide)) e_cm)))⟩, ⟨L, by omega, (Eq.trans (k18 1 4 (by decide)) (Eq.trans (congrFun (x_up_n _ _ _ (by omega)) _) (Eq.trans (k15 1 4 (by decide)) e_L)))⟩, (fun kk hkk => by rw [show M17 3 kk = M 3 kk from (Eq.trans (k18 3 kk (by unfold WS; omega)) (Eq.trans (congrFun (x_up_n _ _ _ (by omega)) _) (Eq.trans (k15 3 kk (by unfold WTB; omega)) rfl)))]; exact hv kk hkk), (DI_ke (by intro k; unfold WS; omega) k18 (DI_up (by omega) (DI_ke (by intro k; unfold WTB; omega) k15 hD))), ⟨n, by omega, (Eq.trans (k18 6 2 (by decide)) (Eq.trans (congrFun (x_up_n _ _ _ (by omega)) _) (Eq.trans (k15 6 2 (by decide)) e_n)))⟩, ⟨un, wn, by omega, by omega, (Eq.trans (k18 41 4 (by decide)) (Eq.trans (congrFun (x_up_n _ _ _ (by omega)) _) (Eq.trans (k15 41 4 (by decide)) e_un))), (Eq.trans (k18 41 5 (by decide)) (Eq.trans (congrFun (x_up_n _ _ _ (by omega)) _) (Eq.trans (k15 41 5 (by decide)) e_wn)))⟩, ⟨b, by omega, (Eq.trans (k18 46 2 (by decide)) (Eq.trans (congrFun (x_up_n _ _ _ (by omega)) _) (Eq.trans (k15 46 2 (by decide)) e_b)))⟩, (fun j hj => by obtain ⟨q, hq, eq⟩ := hkd j hj; exact ⟨q, hq, (show M17 47 j = M 47 j from (Eq.trans (k18 47 j (by unfold WS; omega)) (Eq.trans (congrFun (x_up_n _ _ _ (by omega)) _) (Eq.trans (k15 47 j (by unfold WTB; omega)) rfl)))).trans eq⟩), ⟨ra, by omega, (Eq.trans (k18 46 3 (by decide)) (Eq.trans (congrFun (x_up_n _ _ _ (by omega)) _) (Eq.trans (k15 46 3 (by decide)) e_ra)))⟩, (fun j hj => by obtain ⟨s, hs, es⟩ := hsl j hj; exact ⟨s, hs, (show M17 (50 + 2 * j) 3 = M (50 + 2 * j) 3 from (Eq.trans (k18 (50 + 2 * j) 3 (by unfold WS; omega)) (Eq.trans (congrFun (x_up_n _ _ _ (by omega)) _) (Eq.trans (k15 (50 + 2 * j) 3 (by unfold WTB; omega)) rfl)))).trans es⟩), (fun j hj => by obtain ⟨q, hq, eq⟩ := hS j hj; exact ⟨q, hq, (show M17 36 j = M 36 j from (Eq.trans (k18 36 j (by unfold WS; omega)) (Eq.trans (congrFun (x_up_n _ _ _ (by omega)) _) (Eq.trans (k15 36 j (by unfold WTB; omega)) rfl)))).trans eq⟩)⟩, (((congrArg Prod.fst (bgF_l ((hA h_ hh_ 4 (by decide)).symm.trans c7) ((bg1_y (n := nh) (D := D) (t := t) (S := S) (f := -2) (c := 0) c20).trans (show ((if (0 : Int32) = 0 then pv 9 else (-2 : Int32)), (0 : Int32) + 1) = ((0 : Int32), (1 : Int32)) by decide)).symm)).trans (if_neg c22).symm).trans (bgR_y hn5 hs_ hh_ ⟨by grind, by grind⟩ hkk))⟩⟩)
                · refine xr_iload dX9_begun_154 1 rfl ?_
                  refine xr_goto (tgt := 161) dX9_begun_156 rfl ?_
                  exact xr_iret dX9_begun_161 rfl rfl (⟨_, rfl, rfl, rfl, (Ke.tr (fun pp kk => (fun hh => Or.elim hh (fun h => (Or.inl h)) (fun hh => Or.elim hh (fun h => (Or.inr (Or.inl h))) (fun hh => Or.elim hh (fun h => (Or.inr (Or.inr (Or.inl (by omega))))) (fun hh => Or.elim hh (fun h => (Or.inr (Or.inr (Or.inl (by omega))))) (fun h => (Or.inr (Or.inr (Or.inr h))))))))) (Ke.up (Or.inr (Or.inr (Or.inr (by omega)))) (Ke.tr (fun pp kk => (fun hh => Or.elim hh (fun h => (Or.inr (Or.inr (Or.inl h)))) (fun h => (Or.inr (Or.inr (Or.inr h)))))) Ke.rf k15)) k18), ⟨⟨⟨nh, by omega, (Eq.trans (k18 13 2 (by decide)) (Eq.trans (congrFun (x_up_n _ _ _ (by omega)) _) (Eq.trans (k15 13 2 (by decide)) e_cn)))⟩, ⟨cm, by omega, (Eq.trans (k18 20 2 (by decide)) (Eq.trans (congrFun (x_up_n _ _ _ (by omega)) _) (Eq.trans (k15 20 2 (by decide)) e_cm)))⟩, ⟨L, by omega, (Eq.trans (k18 1 4 (by decide)) (Eq.trans (congrFun (x_up_n _ _ _ (by omega)) _) (Eq.trans (k15 1 4 (by decide)) e_L)))⟩, (fun kk hkk => by rw [show M17 3 kk = M 3 kk from (Eq.trans (k18 3 kk (by unfold WS; omega)) (Eq.trans (congrFun (x_up_n _ _ _ (by omega)) _) (Eq.trans (k15 3 kk (by unfold WTB; omega)) rfl)))]; exact hv kk hkk), (DI_ke (by intro k; unfold WS; omega) k18 (DI_up (by omega) (DI_ke (by intro k; unfold WTB; omega) k15 hD))), ⟨n, by omega, (Eq.trans (k18 6 2 (by decide)) (Eq.trans (congrFun (x_up_n _ _ _ (by omega)) _) (Eq.trans (k15 6 2 (by decide)) e_n)))⟩, ⟨un, wn, by omega, by omega, (Eq.trans (k18 41 4 (by decide)) (Eq.trans (congrFun (x_up_n _ _ _ (by omega)) _) (Eq.trans (k15 41 4 (by decide)) e_un))), (Eq.trans (k18 41 5 (by decide)) (Eq.trans (congrFun (x_up_n _ _ _ (by omega)) _) (Eq.trans (k15 41 5 (by decide)) e_wn)))⟩, ⟨b, by omega, (Eq.trans (k18 46 2 (by decide)) (Eq.trans (congrFun (x_up_n _ _ _ (by omega)) _) (Eq.trans (k15 46 2 (by decide)) e_b)))⟩, (fun j hj => by obtain ⟨q, hq, eq⟩ := hkd j hj; exact ⟨q, hq, (show M17 47 j = M 47 j from (Eq.trans (k18 47 j (by unfold WS; omega)) (Eq.trans (congrFun (x_up_n _ _ _ (by omega)) _) (Eq.trans (k15 47 j (by unfold WTB; omega)) rfl)))).trans eq⟩), ⟨ra, by omega, (Eq.trans (k18 46 3 (by decide)) (Eq.trans (congrFun (x_up_n _ _ _ (by omega)) _) (Eq.trans (k15 46 3 (by decide)) e_ra)))⟩, (fun j hj => by obtain ⟨s, hs, es⟩ := hsl j hj; exact ⟨s, hs, (show M17 (50 + 2 * j) 3 = M (50 + 2 * j) 3 from (Eq.trans (k18 (50 + 2 * j) 3 (by unfold WS; omega)) (Eq.trans (congrFun (x_up_n _ _ _ (by omega)) _) (Eq.trans (k15 (50 + 2 * j) 3 (by unfold WTB; omega)) rfl)))).trans es⟩), (fun j hj => by obtain ⟨q, hq, eq⟩ := hS j hj; exact ⟨q, hq, (show M17 36 j = M 36 j from (Eq.trans (k18 36 j (by unfold WS; omega)) (Eq.trans (congrFun (x_up_n _ _ _ (by omega)) _) (Eq.trans (k15 36 j (by unfold WTB; omega)) rfl)))).trans eq⟩)⟩, (((congrArg Prod.snd (bgF_l ((hA h_ hh_ 4 (by decide)).symm.trans c7) ((bg1_y (n := nh) (D := D) (t := t) (S := S) (f := -2) (c := 0) c20).trans (show ((if (0 : Int32) = 0 then pv 9 else (-2 : Int32)), (0 : Int32) + 1) = ((0 : Int32), (1 : Int32)) by decide)).symm)).trans (if_pos c22).symm).trans (bgR_y hn5 hs_ hh_ ⟨by grind, by grind⟩ hkk))⟩⟩)
          · refine xr_getR flX9_67 dX9_begun_28 s_0 rfl ?_
            refine xr_iload_n dX9_begun_31 1 rfl ?_
            refine xb_aald (j := s_) (q := 50 + 2 * s_) (by decide) dX9_begun_32 s_49 hs_ (by decide) (if_pos hs_) ?_
            refine xb_cV (As := []) (rest := []) mlX9_94 (c_X6_hasBytes (s_shelf hs_) (s_elem hs_)) dX9_begun_33 (s_shelf hs_) rfl rfl (Nat.le_of_ble_eq_true rfl) (by decide) (by decide) ?_
            refine xb_bne (tgt := 42) dX9_begun_36 rfl (fun c => absurd c h2) (fun _ => ?_)
            refine xr_ldc coX9_105 dX9_begun_39 ?_
            exact xr_iret dX9_begun_41 rfl rfl (⟨_, rfl, rfl, rfl, Ke.rf, ⟨⟨⟨nh, by omega, e_cn⟩, ⟨cm, by omega, e_cm⟩, ⟨L, by omega, e_L⟩, (fun kk hkk => by rw [show M 3 kk = M 3 kk from rfl]; exact hv kk hkk), hD, ⟨n, by omega, e_n⟩, ⟨un, wn, by omega, by omega, e_un, e_wn⟩, ⟨b, by omega, e_b⟩, (fun j hj => by obtain ⟨q, hq, eq⟩ := hkd j hj; exact ⟨q, hq, (show M 47 j = M 47 j from rfl).trans eq⟩), ⟨ra, by omega, e_ra⟩, (fun j hj => by obtain ⟨s, hs, es⟩ := hsl j hj; exact ⟨s, hs, (show M (50 + 2 * j) 3 = M (50 + 2 * j) 3 from rfl).trans es⟩), (fun j hj => by obtain ⟨q, hq, eq⟩ := hS j hj; exact ⟨q, hq, (show M 36 j = M 36 j from rfl).trans eq⟩)⟩, (bgR_n (fun z => by have z2 := z.2.2; rw [w_ix_n (by omega), hkk] at z2; exact absurd z2 (by decide)))⟩⟩)
