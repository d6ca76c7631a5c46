def rwI (v : Int32) : Int32 := if v < 0 then -11 else if v = 50 then 1 else -12
theorem dJ_g {g : Nat} (h : ¬ g = 0) (hg : g < 2 ^ 31) : nJ g = dJ (duN 0 g) := by unfold dJ duN; rw [if_neg h, if_neg (by omega), Nat.zero_add]
theorem dJ_k {k : Nat} (h : k < 1000) : dJ k = nJ k := by unfold dJ; rw [if_neg (by omega)]
theorem ly_n2 {n : Nat} {se : Int32} {D0 D1 : xM} (h5 : n ≤ 5) (hs : ∀ k, k < n → (w_in se k ↔ ¬ D0 k 4 = 0)) (hm : mo D0 D1) (c : nI (lyn se n D1) ≤ 0) : ¬ upn n D1 < upn n D0 := by
  have e := lyn_up hm n hs
  have hb := lyn_b (S := se) (D := D1) n
  have z := (nI_leI (a := lyn se n D1) (b := 0) (by omega) (by decide)).mp c
  omega
theorem ly_y2 {n : Nat} {se : Int32} {D0 D1 : xM} (h5 : n ≤ 5) (hs : ∀ k, k < n → (w_in se k ↔ ¬ D0 k 4 = 0)) (hm : mo D0 D1) (c : ¬ nI (lyn se n D1) ≤ 0) : upn n D1 < upn n D0 := by
  have e := lyn_up hm n hs
  have hb := lyn_b (S := se) (D := D1) n
  have z : ¬ lyn se n D1 ≤ 0 := fun q => c ((nI_leI (a := lyn se n D1) (b := 0) (by omega) (by decide)).mpr q)
  omega
set_option maxRecDepth 100000 in
set_option maxHeartbeats 4000000 in
theorem gw_X10_rowIs {q : Nat} (hq : q < 6) {l : Launch} {G : xG} {M : xM} {J : xJ} : x_M l G fX10_rowIs 2 0 0 [.ref 62, .int (nI (q))] x_SH M J (qE (some (.int (rwI (M 83 q)))) x_SH M J) := by
  refine xb_of pX10 (Nat.le_of_ble_eq_true rfl) rfl ?_
  refine xr_iload_n dX10_rowIs_0 1 rfl ?_
  refine xb_cS (As := [.int (nI (q))]) (rest := []) mlX10_125 (c_X10_isShelf (nI (q))) dX10_rowIs_1 rfl rfl (Nat.le_of_ble_eq_true rfl) (by decide) (by decide) ?_
  refine xb_bne (tgt := 11) dX10_rowIs_4 rfl (fun _ => ?_) (fun c => absurd ⟨nI_pos' (by omega), nI_le (a := q) (b := 5) (by omega) (by decide)⟩ c)
  refine xr_aload_n dX10_rowIs_11 0 rfl ?_
  refine xr_getR flX10_75 dX10_rowIs_12 s_62 rfl ?_
  refine xr_iload_n dX10_rowIs_15 1 rfl ?_
  refine xb_iald (j := q) (v := M 83 q) dX10_rowIs_16 s_83 hq (by decide) rfl ?_
  refine xr_if_ge (tgt := 25) dX10_rowIs_17 rfl (fun c2 => ?_) (fun c2 => ?_)
  · refine xr_aload_n dX10_rowIs_25 0 rfl ?_
    refine xr_getR flX10_75 dX10_rowIs_26 s_62 rfl ?_
    refine xr_iload_n dX10_rowIs_29 1 rfl ?_
    refine xb_iald (j := q) (v := M 83 q) dX10_rowIs_30 s_83 hq (by decide) rfl ?_
    refine xr_bipush (v := 50) dX10_rowIs_31 rfl ?_
    refine xr_icmp_ne (tgt := 40) dX10_rowIs_33 rfl (fun c3 => ?_) (fun c3 => ?_)
    · refine xr_bipush (v := -12) dX10_rowIs_40 rfl ?_
      exact xr_iret dX10_rowIs_42 rfl rfl (⟨congrArg (fun z => some (Value.int z)) ((if_neg (by grind)).trans (if_neg c3)).symm, rfl, rfl, rfl⟩)
    · refine xr_iconst (v := 1) dX10_rowIs_36 rfl ?_
      refine xr_goto (tgt := 42) dX10_rowIs_37 rfl ?_
      exact xr_iret dX10_rowIs_42 rfl rfl (⟨congrArg (fun z => some (Value.int z)) ((if_neg (by grind)).trans (if_pos c3)).symm, rfl, rfl, rfl⟩)
  · refine xr_bipush (v := -11) dX10_rowIs_20 rfl ?_
    refine xr_goto (tgt := 42) dX10_rowIs_22 rfl ?_
    exact xr_iret dX10_rowIs_42 rfl rfl (⟨congrArg (fun z => some (Value.int z)) (if_pos (Int32.not_le.mp c2)).symm, rfl, rfl, rfl⟩)
set_option maxRecDepth 100000 in
set_option maxHeartbeats 4000000 in
theorem gw_X10_rowIs_n {d : Int32} (hd : ¬ (0 ≤ d ∧ d ≤ 5)) {l : Launch} {G : xG} {M : xM} {J : xJ} : x_M l G fX10_rowIs 2 0 0 [.ref 62, .int (d)] x_SH M J (qE (some (.int (-1))) x_SH M J) := by
  refine xb_of pX10 (Nat.le_of_ble_eq_true rfl) rfl ?_
  refine xr_iload_n dX10_rowIs_0 1 rfl ?_
  refine xb_cS (As := [.int (d)]) (rest := []) mlX10_125 (c_X10_isShelf d) dX10_rowIs_1 rfl rfl (Nat.le_of_ble_eq_true rfl) (by decide) (by decide) ?_
  refine xb_bne (tgt := 11) dX10_rowIs_4 rfl (fun c => absurd c hd) (fun _ => ?_)
  refine xr_iconst (v := -1) dX10_rowIs_7 rfl ?_
  refine xr_goto (tgt := 42) dX10_rowIs_8 rfl ?_
  exact xr_iret dX10_rowIs_42 rfl rfl (⟨rfl, rfl, rfl, rfl⟩)
set_option maxRecDepth 100000 in
set_option maxHeartbeats 4000000 in
theorem rfux {P : xP} {nw : Int32} (hP : WP P) {h q L : Nat} {E : Nat → Int64} (hq : q < 6) (hLL : L ≤ 60) (hh : h < P.1) (h5 : P.1 ≤ 5) (T : Int32) {l : Launch} {G : xG} {M : xM} {J : xJ} {Q : xQ} (e_nw : M 62 9 = nw) (e_s : M 84 q = nI L) (hE : ∀ j, j < 60 → J 85 (60 * q + j) = E j) (hR : ∀ (r : Int32) (M2 : xM), Ke WR1 M M2 → r = T → Q (some (.int r)) x_SH M2 J) (hC : ∀ (M2 : xM), Ke WR1 M M2 → (-2 = T) → x_X l G fX10_firstFalse 62 0 0 Q 67 [(0, .ref (62))] [] x_SH M2 J 0 0) : ∀ (m k : Nat) (M1 : xM), k + m = L → Ke WR1 M M1 → (∃ D1, TR M1 P D1 ∧ fuF P h E (L - k) k (nw + nI (k)) D1 = T) → x_X l G fX10_firstFalse 62 0 0 Q 10 [(3, .int (nI (k))), (2, .int (nI (h))), (1, .int (nI (q))), (0, .ref (62))] [] x_SH M1 J 0 0 := by
  intro m
  induction m with
  | zero =>
    intro k M1 hk hM hI
    obtain ⟨D1, hT1, hR1⟩ := hI
    refine xr_iload_n dX10_firstFalse_10 0 rfl ?_
    refine xr_aload_n dX10_firstFalse_11 3 rfl ?_
    refine xr_getR flX10_78 dX10_firstFalse_12 s_62 rfl ?_
    refine xr_iload_n dX10_firstFalse_15 2 rfl ?_
    refine xb_iald (j := q) (v := nI (L)) dX10_firstFalse_16 s_84 hq (by decide) (Eq.trans (hM 84 q (by unfold WR1; omega)) e_s) ?_
    refine xr_icmp_ge (tgt := 67) dX10_firstFalse_17 rfl (fun _ => ?_) (fun c => absurd (nI_le (a := L) (b := k) (by omega) (by omega)) c)
    refine xb_ls (ls2 := [(0, .ref (62))]) [3] rfl ?_
    exact hC _ hM (by obtain rfl : k = L := (by omega); rw [Nat.sub_self] at hR1; exact hR1)
  | succ m ih =>
    intro k M1 hk hM hI
    have hkN : k < L := by omega
    obtain ⟨D1, hT1, hR1⟩ := hI
    refine xr_iload_n dX10_firstFalse_10 0 rfl ?_
    refine xr_aload_n dX10_firstFalse_11 3 rfl ?_
    refine xr_getR flX10_78 dX10_firstFalse_12 s_62 rfl ?_
    refine xr_iload_n dX10_firstFalse_15 2 rfl ?_
    refine xb_iald (j := q) (v := nI (L)) dX10_firstFalse_16 s_84 hq (by decide) (Eq.trans (hM 84 q (by unfold WR1; omega)) e_s) ?_
    refine xr_icmp_ge (tgt := 67) dX10_firstFalse_17 rfl (fun c => absurd c (nI_ge (a := k) (b := L) (by omega) (by omega))) (fun _ => ?_)
    refine xr_iload_n dX10_firstFalse_20 0 rfl ?_
    refine xr_sipush (v := 200) dX10_firstFalse_21 rfl ?_
    refine xr_icmp_ge (tgt := 67) dX10_firstFalse_24 rfl (fun c => absurd c (nI_ge (a := k) (b := 200) (by omega) (by omega))) (fun _ => ?_)
    refine xr_aload_n dX10_firstFalse_27 3 rfl ?_
    refine xr_aload_n dX10_firstFalse_28 3 rfl ?_
    refine xb_get (v := nw) flX10_151 dX10_firstFalse_29 s_62 rfl (Eq.trans (hM 62 9 (by decide)) e_nw) ?_
    refine xr_iload_n dX10_firstFalse_32 0 rfl ?_
    refine xr_iadd dX10_firstFalse_33 ?_
    refine xr_callV (As := [.int ((nw + (nI (k))))]) (rest := []) mlX10_255 (gw_X10_tickGoes (nw + (nI (k))) (pd := M1 62 23) (hn := P.1) (t := P.2.1) hP.2.2 hP.1 hT1.1.1 hT1.2.1 hT1.2.2.1 hT1.2.2.2.1 hT1.2.2.2.2 rfl hT1.1.2.2.2 hT1.1.2.1 hT1.1.2.2.1) dX10_firstFalse_34 s_62 rfl rfl (Nat.le_of_ble_eq_true rfl) (by decide) ⟨by decide, by decide⟩ (fun v s2 M2 J2 hq => ?_)
    obtain ⟨rfl, rfl, rfl, k3, hx1⟩ := hq
    try dsimp only [Option.toList, List.cons_append, List.nil_append]
    have hT4 : TR M2 P (tiF P (nw + (nI (k))) D1) := TR_w hT1 hx1.1 (WF_tiF (P := P) hT1.1.2.2.1) (k3 62 6 (by decide)) (k3 62 13 (by decide)) (fun kl => k3 63 kl (by unfold WTG; omega)) (fun kl => k3 70 kl (by unfold WTG; omega))
    refine xr_aload_n dX10_firstFalse_37 3 rfl ?_
    refine xr_getR flX10_81 dX10_firstFalse_38 s_62 rfl ?_
    refine xr_bipush (v := 60) dX10_firstFalse_41 rfl ?_
    refine xr_iload_n dX10_firstFalse_43 2 rfl ?_
    refine xr_imul dX10_firstFalse_44 ?_
    refine xb_top (y := nI (60 * q)) (nI_mulc 60 q) ?_
    refine xr_iload_n dX10_firstFalse_45 0 rfl ?_
    refine xr_iadd dX10_firstFalse_46 ?_
    refine xb_top (y := nI (60 * q + k)) (nI_add (60 * q) (k)) ?_
    refine xb_lald (j := 60 * q + k) (v := J 85 (60 * q + k)) dX10_firstFalse_47 s_85 (by omega) (by decide) rfl ?_
    refine xr_aload_n dX10_firstFalse_48 3 rfl ?_
    refine xr_getR flX10_37 dX10_firstFalse_49 s_62 rfl ?_
    refine xr_iload_n dX10_firstFalse_52 1 rfl ?_
    refine xb_iald (j := h) (v := (tiF P (nw + nI (k)) D1 h 2)) dX10_firstFalse_53 s_72 (by omega) (by decide) (hT4.1.2.1 h hh).2.2.1 ?_
    refine xr_i2l dX10_firstFalse_54 ?_
    refine xr_lcmp dX10_firstFalse_55 ?_
    refine xl_eq (tgt := 61) dX10_firstFalse_56 rfl (fun c5 => ?_) (fun c5 => ?_)
    · refine xr_iinc (v := nI (k + 1)) (ls2 := [(3, .int (nI (k + 1))), (2, .int (nI (h))), (1, .int (nI (q))), (0, .ref (62))]) dX10_firstFalse_61 0 rfl (nI_1 _) (by decide) rfl ?_
      refine xr_goto (tgt := 10) dX10_firstFalse_64 rfl ?_
      refine xb_ls (ls2 := [(3, .int (nI (k + 1))), (2, .int (nI (h))), (1, .int (nI (q))), (0, .ref (62))]) [0, 1, 2, 3] rfl ?_
      exact ih (k + 1) M2 (by omega) (Ke.tr (fun pp kk => (fun hh => Or.elim hh (fun h => (Or.inl h)) (fun hh => Or.elim hh (fun h => (Or.inr (Or.inl h))) (fun hh => Or.elim hh (fun h => (Or.inr (Or.inr (Or.inl h)))) (fun hh => Or.elim hh (fun h => (Or.inr (Or.inr (Or.inr (Or.inl h))))) (fun hh => Or.elim hh (fun h => (Or.inr (Or.inr (Or.inr (Or.inr (Or.inl h)))))) (fun hh => Or.elim hh (fun h => (Or.inr (Or.inr (Or.inr (Or.inr (Or.inr (Or.inl h))))))) (fun h => (Or.inr (Or.inr (Or.inr (Or.inr (Or.inr (Or.inr (Or.inr h))))))))))))))) hM k3) ⟨_, hT4, by rw [← now_s]; exact (fuF_y hkN (((hE k (by omega)).symm.trans c5).symm)).trans hR1⟩
    · refine xr_iload_n dX10_firstFalse_59 0 rfl ?_
      exact xr_iret dX10_firstFalse_60 rfl rfl ((hR _ _ (Ke.tr (fun pp kk => (fun hh => Or.elim hh (fun h => (Or.inl h)) (fun hh => Or.elim hh (fun h => (Or.inr (Or.inl h))) (fun hh => Or.elim hh (fun h => (Or.inr (Or.inr (Or.inl h)))) (fun hh => Or.elim hh (fun h => (Or.inr (Or.inr (Or.inr (Or.inl h))))) (fun hh => Or.elim hh (fun h => (Or.inr (Or.inr (Or.inr (Or.inr (Or.inl h)))))) (fun hh => Or.elim hh (fun h => (Or.inr (Or.inr (Or.inr (Or.inr (Or.inr (Or.inl h))))))) (fun h => (Or.inr (Or.inr (Or.inr (Or.inr (Or.inr (Or.inr (Or.inr h))))))))))))))) hM k3) ((fuF_n hkN (fun z => c5 ((hE k (by omega)).trans z.symm))).symm.trans hR1)))
set_option maxRecDepth 100000 in
set_option maxHeartbeats 4000000 in
theorem gy_X10_firstFalse {P : xP} {nw : Int32} {D : xM} (hP : WP P) {h q L : Nat} {E : Nat → Int64} (hq : q < 6) (hLL : L ≤ 60) (hh : h < P.1) {l : Launch} {G : xG} {M : xM} {J : xJ} (hT : TS M P nw D) (e_s : M 84 q = nI L) (hE : ∀ j, j < 60 → J 85 (60 * q + j) = E j) : x_M l G fX10_firstFalse 62 0 0 [.ref (62), .int (nI (q)), .int (nI (h))] x_SH M J (qKI WR1 M J (fun r M2 => r = fuV P h L E nw D)) := by
  refine xb_of pX10 (Nat.le_of_ble_eq_true rfl) rfl ?_
  refine xr_aload_n dX10_firstFalse_0 0 rfl ?_
  refine xr_aload_n dX10_firstFalse_1 0 rfl ?_
  refine xr_callV (As := []) (rest := [.ref (62)]) mlX10_246 (gw_X10_upNow (D := D) (hn := P.1) hP.1 hT.1.1 hT.1.2.1 hT.1.2.2.1) dX10_firstFalse_2 s_62 rfl rfl (Nat.le_of_ble_eq_true rfl) (by decide) ⟨by decide, by decide⟩ (fun v s2 M9 J2 hq => ?_)
  obtain ⟨r2, rfl, rfl, rfl, rfl, hx1⟩ := hq
  try dsimp only [Option.toList, List.cons_append, List.nil_append]
  subst hx1
  refine xr_callV (As := [.int ((upS P.1 D))]) (rest := []) mlX10_249 (gw_X10_begins1 (upS P.1 D) (D := D) (hn := P.1) hP.1 hT.1.1 hT.1.2.1) dX10_firstFalse_5 s_62 rfl rfl (Nat.le_of_ble_eq_true rfl) (by decide) ⟨by decide, by decide⟩ (fun v s2 M4 J2 hq => ?_)
  obtain ⟨rfl, rfl, rfl, k5, hx3⟩ := hq
  try dsimp only [Option.toList, List.cons_append, List.nil_append]
  have hT6 : TR M4 P D := TS_R hT (AbR_eq hx3 (msk_up hP.1 hT.1.2.2.1)) hT.1.2.2.1 (k5 62 6 (by decide)) (k5 62 13 (by decide)) (fun kl => k5 63 kl (by unfold WBG; omega)) (fun kl => k5 70 kl (by unfold WBG; omega))
  refine xr_iconst (v := 0) dX10_firstFalse_8 rfl ?_
  refine xr_istore_n (ls2 := [(3, .int (0)), (0, .ref (62)), (1, .int (nI (q))), (2, .int (nI (h)))]) dX10_firstFalse_9 (by decide) rfl ?_
  refine xb_ls (ls2 := [(3, .int (nI (0))), (2, .int (nI (h))), (1, .int (nI (q))), (0, .ref (62))]) [0, 3, 2, 1] rfl ?_
  refine rfux hP hq hLL hh hP.1 (fuV P h L E nw D) (Eq.trans (k5 62 9 (by decide)) hT.2.2) (Eq.trans (k5 84 q (by unfold WBG; omega)) e_s) hE (fun r M2 hk hr => ⟨_, rfl, rfl, rfl, Ke.tr (fun _ _ h => h) (Ke.tr (fun pp kk h => (Or.inr (Or.inr (Or.inr (Or.inr (Or.inr (Or.inr (Or.inr (by omega))))))))) Ke.rf k5) hk, hr⟩) (fun M7 k8 hI => ?_) (L - 0) 0 M4 (by omega) Ke.rf ⟨D, hT6, by rw [← now_0]; rfl⟩
  refine xr_bipush (v := -2) dX10_firstFalse_67 rfl ?_
  exact xr_iret dX10_firstFalse_69 rfl rfl (⟨_, rfl, rfl, rfl, (Ke.tr (fun _ _ h => h) (Ke.tr (fun pp kk h => (Or.inr (Or.inr (Or.inr (Or.inr (Or.inr (Or.inr (Or.inr (by omega))))))))) Ke.rf k5) k8), hI⟩)
set_option maxRecDepth 100000 in
set_option maxHeartbeats 4000000 in
theorem rbgx {hpc w : Int32} {h q : Nat} (hq : q < 6) {G9 : xQs} {nh : Nat} {D : xM} {t : Option zL} {S : Nat → Int32} (hh : h < nh) (hup : ¬ D h 4 = 0) (hLL : (G9 q).2.1 ≤ 60) (hn5 : nh ≤ 5) (hrub : 0 ≤ S 1 ∧ S 1 ≤ 3) (hbt2 : ¬ S 2 = 0) (T : Int32 × Int32) {l : Launch} {G : xG} {M : xM} {J : xJ} {Q : xQ} (e_hn : M 62 6 = nI nh) (e_nw : M 62 9 = S 0) (e_rub : M 63 15 = S 1) (e_bt : M 63 16 = S 2) (e_ph : M 63 17 = S 3) (e_st : M 63 18 = S 4) (hL : LRt M t) (hA : AbS nh M D) (hW : WF nh D) (e_s : M 84 q = nI (G9 q).2.1) (hE : ∀ j, j < 60 → J 85 (60 * q + j) = (G9 q).2.2 j) (hC : ∀ (fi : Int32) (ft : Int32) (M2 : xM), Ke WRS M M2 → ((fi, ft) = T ∧ ∀ j, j ≠ 10 + h → M2 63 j = M 63 j) → x_X l G fX10_begun 63 0 0 Q 121 [(7, .int (fi)), (6, .int (ft)), (4, .int (hpc)), (3, .int (w)), (2, .int (nI (h))), (0, .ref (62))] [] x_SH M2 J 0 0) : ∀ (m k : Nat) (fi : Int32) (ft : Int32) (M1 : xM), k + m = 19 → Ke WRS M M1 → (bgL nh D t S G9 q h (19 - k) k (fi, ft) = T ∧ ∀ j, j ≠ 10 + h → M1 63 j = M 63 j) → x_X l G fX10_begun 63 0 0 Q 69 [(8, .int (pv k)), (7, .int (fi)), (6, .int (ft)), (5, .int (9)), (4, .int (hpc)), (3, .int (w)), (2, .int (nI (h))), (1, .int (nI (q))), (0, .ref (62))] [] x_SH M1 J 0 0 := by
  intro m
  induction m with
  | zero =>
    intro k fi ft M1 hk hM hI
    have hP : WP (PS nh t S) := ⟨hn5, hrub, hbt2⟩
    refine xr_iload dX10_begun_69 0 rfl ?_
    refine xr_iload dX10_begun_71 3 rfl ?_
    refine xr_icmp_gt (tgt := 121) dX10_begun_73 rfl (fun _ => ?_) (fun c => absurd (pv_gt (k := k) (by omega)) c)
    refine xb_ls (ls2 := [(7, .int (fi)), (6, .int (ft)), (4, .int (hpc)), (3, .int (w)), (2, .int (nI (h))), (0, .ref (62))]) [1, 2, 4, 5, 6, 8] rfl ?_
    exact hC fi ft _ hM (by obtain rfl : k = 19 := (by omega); exact hI)
  | succ m ih =>
    intro k fi ft M1 hk hM hI
    have hkN : k < 19 := by omega
    have hP : WP (PS nh t S) := ⟨hn5, hrub, hbt2⟩
    refine xr_iload dX10_begun_69 0 rfl ?_
    refine xr_iload dX10_begun_71 3 rfl ?_
    refine xr_icmp_gt (tgt := 121) dX10_begun_73 rfl (fun c => absurd c (pv_le (k := k) (by omega))) (fun _ => ?_)
    refine xr_aload_n dX10_begun_76 8 rfl ?_
    refine xr_getR flX10_9 dX10_begun_77 s_62 rfl ?_
    refine xr_bipush (v := 10) dX10_begun_80 rfl ?_
    refine xr_iload_n dX10_begun_82 6 rfl ?_
    refine xr_iadd dX10_begun_83 ?_
    refine xb_top (y := nI (10 + h)) (nI_add (10) (h)) ?_
    refine xr_iload dX10_begun_84 0 rfl ?_
    refine xb_iast (j := 10 + h) dX10_begun_86 s_63 (by omega) (by decide) ?_
    refine xr_aload_n dX10_begun_87 8 rfl ?_
    refine xr_iload_n dX10_begun_88 7 rfl ?_
    refine xr_iload_n dX10_begun_89 6 rfl ?_
    refine xr_callV (As := [.int (nI (q)), .int (nI (h))]) (rest := []) mlX10_290 (gy_X10_firstFalse (P := (PS nh t S)) (nw := S 0) (D := (x_up D h 3 (pv k))) (L := (G9 q).2.1) (E := (G9 q).2.2) (h := h) hP hq hLL hh ⟨⟨(Eq.trans (congrFun (x_up_n _ _ _ (by decide)) _) (Eq.trans (hM 62 6 (by decide)) e_hn)), (AbS_m (q := 10 + h) hn5 (by omega) hA (Or.inr (Or.inr ⟨rfl, rfl⟩)) (fun kl => (Eq.trans (congrFun (x_up_n _ _ _ (by decide)) _) (Eq.trans (hM 67 kl (by unfold WRS; omega)) rfl))) (fun kl => (Eq.trans (congrFun (x_up_n _ _ _ (by decide)) _) (Eq.trans (hM 68 kl (by unfold WRS; omega)) rfl))) up_s (fun j hj => (up_k hj).trans (hI.2 j hj))), WF_3 hW (pv_b (by omega)) (fun z => absurd z hup), (LRt_k (Eq.trans (congrFun (x_up_n _ _ _ (by decide)) _) (Eq.trans (hM 62 13 (by unfold WRS; omega)) rfl)) (Eq.trans (x_up_n _ _ _ (by decide)) (Eq.trans (funext fun kk => hM 70 kk (by unfold WRS; omega)) rfl)) hL)⟩, ⟨((up_k (by omega)).trans ((hI.2 15 (by omega)).trans e_rub)), ((up_k (by omega)).trans ((hI.2 16 (by omega)).trans e_bt)), ((up_k (by omega)).trans ((hI.2 17 (by omega)).trans e_ph)), ((up_k (by omega)).trans ((hI.2 18 (by omega)).trans e_st))⟩, (Eq.trans (congrFun (x_up_n _ _ _ (by decide)) _) (Eq.trans (hM 62 9 (by decide)) e_nw))⟩ (Eq.trans (congrFun (x_up_n _ _ _ (by decide)) _) (Eq.trans (hM 84 q (by unfold WRS; omega)) e_s)) hE) dX10_begun_90 s_62 rfl rfl (Nat.le_of_ble_eq_true rfl) (by decide) ⟨by decide, by decide⟩ (fun v s2 M2 J2 hq => ?_)
    obtain ⟨r4, rfl, rfl, rfl, k3, hx1⟩ := hq
    try dsimp only [Option.toList, List.cons_append, List.nil_append]
    subst hx1
    refine xb_top (y := bgV nh D t S G9 q h k) rfl ?_
    refine xr_bipush (v := -2) dX10_begun_93 rfl ?_
    refine xr_icmp_ne (tgt := 115) dX10_begun_95 rfl (fun c5 => ?_) (fun c5 => ?_)
    · refine xr_iinc (v := pv (k + 1)) (ls2 := [(8, .int (pv (k + 1))), (7, .int (fi)), (6, .int (ft)), (5, .int (9)), (4, .int (hpc)), (3, .int (w)), (2, .int (nI (h))), (1, .int (nI (q))), (0, .ref (62))]) dX10_begun_115 0 rfl (pv_s1 (by omega)) (by decide) rfl ?_
      refine xr_goto (tgt := 69) dX10_begun_118 rfl ?_
      refine xb_ls (ls2 := [(8, .int (pv (k + 1))), (7, .int (fi)), (6, .int (ft)), (5, .int (9)), (4, .int (hpc)), (3, .int (w)), (2, .int (nI (h))), (1, .int (nI (q))), (0, .ref (62))]) [0, 1, 2, 3, 4, 5, 6, 7, 8] rfl ?_
      exact ih (k + 1) fi ft M2 (by omega) (Ke.tr (fun pp kk => (fun hh => Or.elim hh (fun h => (Or.inl h)) (fun hh => Or.elim hh (fun h => (Or.inr (Or.inl h))) (fun hh => Or.elim hh (fun h => (Or.inr (Or.inr (Or.inl h)))) (fun hh => Or.elim hh (fun h => (Or.inr (Or.inr (Or.inr (Or.inl h))))) (fun hh => Or.elim hh (fun h => (Or.inr (Or.inr (Or.inr (Or.inr (Or.inl h)))))) (fun hh => Or.elim hh (fun h => (Or.inr (Or.inr (Or.inr (Or.inr (Or.inr (Or.inl h))))))) (fun hh => Or.elim hh (fun h => (Or.inr (Or.inr (Or.inr (Or.inr (Or.inr (Or.inr (Or.inl h)))))))) (fun h => (Or.inr (Or.inr (Or.inr (Or.inr (Or.inr (Or.inr (Or.inr (Or.inl h))))))))))))))))) (Ke.up (Or.inr (Or.inr (Or.inr (Or.inr (Or.inr (Or.inr (Or.inr (Or.inr (by omega))))))))) hM) k3) ⟨(bgL_e hkN (bg1_n (n := nh) (D := D) (t := t) (S := S) (f := fi) (c := ft) c5)).trans hI.1, fun j hj => (k3 63 j (by unfold WR1; omega)).trans ((up_k hj).trans (hI.2 j hj))⟩
    · refine xr_iload dX10_begun_98 2 rfl ?_
      refine xr_if_ne (tgt := 108) dX10_begun_100 rfl (fun c6 => ?_) (fun c6 => ?_)
      · refine xr_iload dX10_begun_108 1 rfl ?_
        refine xr_istore (ls2 := [(7, .int (fi)), (8, .int (pv k)), (6, .int (ft)), (5, .int (9)), (4, .int (hpc)), (3, .int (w)), (2, .int (nI (h))), (1, .int (nI (q))), (0, .ref (62))]) dX10_begun_110 (by decide) rfl ?_
        refine xr_iinc (v := ft + 1) (ls2 := [(6, .int (ft + 1)), (7, .int (fi)), (8, .int (pv k)), (5, .int (9)), (4, .int (hpc)), (3, .int (w)), (2, .int (nI (h))), (1, .int (nI (q))), (0, .ref (62))]) dX10_begun_112 2 rfl rfl (by decide) rfl ?_
        refine xr_iinc (v := pv (k + 1)) (ls2 := [(8, .int (pv (k + 1))), (6, .int (ft + 1)), (7, .int (fi)), (5, .int (9)), (4, .int (hpc)), (3, .int (w)), (2, .int (nI (h))), (1, .int (nI (q))), (0, .ref (62))]) dX10_begun_115 2 rfl (pv_s1 (by omega)) (by decide) rfl ?_
        refine xr_goto (tgt := 69) dX10_begun_118 rfl ?_
        refine xb_ls (ls2 := [(8, .int (pv (k + 1))), (7, .int (fi)), (6, .int (ft + 1)), (5, .int (9)), (4, .int (hpc)), (3, .int (w)), (2, .int (nI (h))), (1, .int (nI (q))), (0, .ref (62))]) [0, 2, 1, 3, 4, 5, 6, 7, 8] rfl ?_
        exact ih (k + 1) fi (ft + 1) M2 (by omega) (Ke.tr (fun pp kk => (fun hh => Or.elim hh (fun h => (Or.inl h)) (fun hh => Or.elim hh (fun h => (Or.inr (Or.inl h))) (fun hh => Or.elim hh (fun h => (Or.inr (Or.inr (Or.inl h)))) (fun hh => Or.elim hh (fun h => (Or.inr (Or.inr (Or.inr (Or.inl h))))) (fun hh => Or.elim hh (fun h => (Or.inr (Or.inr (Or.inr (Or.inr (Or.inl h)))))) (fun hh => Or.elim hh (fun h => (Or.inr (Or.inr (Or.inr (Or.inr (Or.inr (Or.inl h))))))) (fun hh => Or.elim hh (fun h => (Or.inr (Or.inr (Or.inr (Or.inr (Or.inr (Or.inr (Or.inl h)))))))) (fun h => (Or.inr (Or.inr (Or.inr (Or.inr (Or.inr (Or.inr (Or.inr (Or.inl h))))))))))))))))) (Ke.up (Or.inr (Or.inr (Or.inr (Or.inr (Or.inr (Or.inr (Or.inr (Or.inr (by omega))))))))) hM) k3) ⟨(bgL_e hkN ((bg1_y (n := nh) (D := D) (t := t) (S := S) (f := fi) (c := ft) c5).trans (congrArg (fun z => (z, ft + 1)) (if_neg c6)))).trans hI.1, fun j hj => (k3 63 j (by unfold WR1; omega)).trans ((up_k hj).trans (hI.2 j hj))⟩
      · refine xr_iload dX10_begun_103 0 rfl ?_
        refine xr_goto (tgt := 110) dX10_begun_105 rfl ?_
        refine xr_istore (ls2 := [(7, .int (pv k)), (8, .int (pv k)), (6, .int (ft)), (5, .int (9)), (4, .int (hpc)), (3, .int (w)), (2, .int (nI (h))), (1, .int (nI (q))), (0, .ref (62))]) dX10_begun_110 (by decide) rfl ?_
        refine xr_iinc (v := ft + 1) (ls2 := [(6, .int (ft + 1)), (7, .int (pv k)), (8, .int (pv k)), (5, .int (9)), (4, .int (hpc)), (3, .int (w)), (2, .int (nI (h))), (1, .int (nI (q))), (0, .ref (62))]) dX10_begun_112 2 rfl rfl (by decide) rfl ?_
        refine xr_iinc (v := pv (k + 1)) (ls2 := [(8, .int (pv (k + 1))), (6, .int (ft + 1)), (7, .int (pv k)), (5, .int (9)), (4, .int (hpc)), (3, .int (w)), (2, .int (nI (h))), (1, .int (nI (q))), (0, .ref (62))]) dX10_begun_115 2 rfl (pv_s1 (by omega)) (by decide) rfl ?_
        refine xr_goto (tgt := 69) dX10_begun_118 rfl ?_
        refine xb_ls (ls2 := [(8, .int (pv (k + 1))), (7, .int (pv k)), (6, .int (ft + 1)), (5, .int (9)), (4, .int (hpc)), (3, .int (w)), (2, .int (nI (h))), (1, .int (nI (q))), (0, .ref (62))]) [0, 2, 1, 3, 4, 5, 6, 7, 8] rfl ?_
        exact ih (k + 1) (pv k) (ft + 1) M2 (by omega) (Ke.tr (fun pp kk => (fun hh => Or.elim hh (fun h => (Or.inl h)) (fun hh => Or.elim hh (fun h => (Or.inr (Or.inl h))) (fun hh => Or.elim hh (fun h => (Or.inr (Or.inr (Or.inl h)))) (fun hh => Or.elim hh (fun h => (Or.inr (Or.inr (Or.inr (Or.inl h))))) (fun hh => Or.elim hh (fun h => (Or.inr (Or.inr (Or.inr (Or.inr (Or.inl h)))))) (fun hh => Or.elim hh (fun h => (Or.inr (Or.inr (Or.inr (Or.inr (Or.inr (Or.inl h))))))) (fun hh => Or.elim hh (fun h => (Or.inr (Or.inr (Or.inr (Or.inr (Or.inr (Or.inr (Or.inl h)))))))) (fun h => (Or.inr (Or.inr (Or.inr (Or.inr (Or.inr (Or.inr (Or.inr (Or.inl h))))))))))))))))) (Ke.up (Or.inr (Or.inr (Or.inr (Or.inr (Or.inr (Or.inr (Or.inr (Or.inr (by omega))))))))) hM) k3) ⟨(bgL_e hkN ((bg1_y (n := nh) (D := D) (t := t) (S := S) (f := fi) (c := ft) c5).trans (congrArg (fun z => (z, ft + 1)) (if_pos c6)))).trans hI.1, fun j hj => (k3 63 j (by unfold WR1; omega)).trans ((up_k hj).trans (hI.2 j hj))⟩
set_option maxRecDepth 100000 in
set_option maxHeartbeats 4000000 in
theorem gxzq_X10_begun {nh : Nat} {D : xM} {t : Option zL} {S : Nat → Int32} {G9 : xQs} {q : Nat} (h w : Int32) {l : Launch} {G : xG} {M : xM} {J : xJ} (hI : InvR M) (hWG : WG nh D S) (hG : RG M nh D t S) (hSh : RSh M J G9) (hWS : WSh G9) (hq : q < 6) : x_M l G fX10_begun 63 0 0 [.ref (62), .int (nI (q)), .int (h), .int (w)] x_SH M J (qKI WRS M J (fun r M2 => InvR M2 ∧ (r = bgR nh D t S G9 (nI (q)) h w ∧ RG M2 nh D t S))) := by
  refine xb_of pX10 (Nat.le_of_ble_eq_true rfl) rfl ?_
  obtain ⟨⟨hn, h_hn, e_hn, hw⟩, hbt, ⟨un, wn, h_uw, h_wn, e_un, e_wn⟩, hch, ⟨n, h_n, e_n⟩, htx, ⟨b, h_b, e_b⟩, hkd, ⟨ra, h_ra, e_ra⟩, hsl, ⟨ic, h_ic, e_ic⟩, hS⟩ := hI
  have hG0 := hG
  obtain ⟨hn5, hW, hrub, hbeat⟩ := hWG
  obtain ⟨hGn, hA, hL, e_nw, e_rub, e_bt, e_ph, e_st, e_kn, e_pu, e_lf⟩ := hG
  obtain rfl : nh = hn := (nI_eq (by omega) (by omega)).mp (hGn.symm.trans e_hn)
  have hbt2 : ¬ S 2 = 0 := ne2_0 hbeat.1
  have hP : WP (PS nh t S) := ⟨hn5, hrub, hbt2⟩
  refine xr_aload_n dX10_begun_0 0 rfl ?_
  refine xr_iload_n dX10_begun_1 1 rfl ?_
  refine xb_cV (As := [.int (nI (q))]) (rest := []) mlX10_285 (gw_X10_rowIs hq) dX10_begun_2 s_62 rfl rfl (Nat.le_of_ble_eq_true rfl) (by decide) (by decide) ?_
  obtain ⟨hLL, e_s, hE, hkd⟩ := hSh q hq
  rcases hkd with ⟨hkk, h0⟩ | ⟨hkk, h0⟩ | ⟨hkk, h0, h2⟩
  · refine xb_top (y := (-11)) (if_pos h0) ?_
    refine xr_if_lt (tgt := 26) dX10_begun_5 rfl (fun _ => ?_) (fun c => absurd (by decide) c)
    refine xr_ldc coX10_140 dX10_begun_26 ?_
    exact xr_iret dX10_begun_28 rfl rfl (⟨_, rfl, rfl, rfl, Ke.rf, ⟨⟨⟨nh, by omega, e_hn, (fun kw hkw => by rw [show M 63 (5 + kw) = M 63 (5 + kw) from rfl]; exact hw kw hkw)⟩, (by rw [show M 63 16 = M 63 16 from rfl]; exact hbt), ⟨un, wn, by omega, by omega, e_un, e_wn⟩, (fun kk hkk => by rw [show M 64 kk = M 64 kk from rfl, show M 65 kk = M 65 kk from rfl, show M 66 kk = M 66 kk from rfl]; exact hch kk hkk), ⟨n, by omega, e_n⟩, (by rw [show M 62 13 = M 62 13 from rfl]; exact htx), ⟨b, by omega, e_b⟩, (fun j hj => by obtain ⟨q, hq, eq⟩ := hkd j hj; exact ⟨q, hq, (show M 81 j = M 81 j from rfl).trans eq⟩), ⟨ra, by omega, e_ra⟩, (fun j hj => by rw [show M 83 j = M 83 j from rfl, show M 84 j = M 84 j from rfl]; exact hsl j hj), ⟨ic, by omega, e_ic⟩, (fun j hj => by obtain ⟨q, hq, eq⟩ := hS j hj; exact ⟨q, hq, (show M 75 j = M 75 j from rfl).trans eq⟩)⟩, ⟨bgR_n (fun z => by have z2 := z.2.2; rw [w_ix_n (by omega), hkk] at z2; exact absurd z2 (by decide)), hG0⟩⟩⟩)
  · refine xb_top (y := 1) ((if_neg (by rw [h0]; decide)).trans (if_pos h0)) ?_
    refine xr_if_lt (tgt := 26) dX10_begun_5 rfl (fun c => absurd c (by decide)) (fun _ => ?_)
    refine xr_aload_n dX10_begun_8 0 rfl ?_
    refine xr_iload_n dX10_begun_9 2 rfl ?_
    refine xb_cV (As := [.int (h)]) (rest := []) mlX10_133 (c_X10_isHoop h (by omega) e_hn) dX10_begun_10 s_62 rfl rfl (Nat.le_of_ble_eq_true rfl) (by decide) (by decide) ?_
    refine xb_beq (tgt := 26) dX10_begun_13 rfl (fun c1 => ?_) (fun c1 => ?_)
    · refine xr_ldc coX10_140 dX10_begun_26 ?_
      exact xr_iret dX10_begun_28 rfl rfl (⟨_, rfl, rfl, rfl, Ke.rf, ⟨⟨⟨nh, by omega, e_hn, (fun kw hkw => by rw [show M 63 (5 + kw) = M 63 (5 + kw) from rfl]; exact hw kw hkw)⟩, (by rw [show M 63 16 = M 63 16 from rfl]; exact hbt), ⟨un, wn, by omega, by omega, e_un, e_wn⟩, (fun kk hkk => by rw [show M 64 kk = M 64 kk from rfl, show M 65 kk = M 65 kk from rfl, show M 66 kk = M 66 kk from rfl]; exact hch kk hkk), ⟨n, by omega, e_n⟩, (by rw [show M 62 13 = M 62 13 from rfl]; exact htx), ⟨b, by omega, e_b⟩, (fun j hj => by obtain ⟨q, hq, eq⟩ := hkd j hj; exact ⟨q, hq, (show M 81 j = M 81 j from rfl).trans eq⟩), ⟨ra, by omega, e_ra⟩, (fun j hj => by rw [show M 83 j = M 83 j from rfl, show M 84 j = M 84 j from rfl]; exact hsl j hj), ⟨ic, by omega, e_ic⟩, (fun j hj => by obtain ⟨q, hq, eq⟩ := hS j hj; exact ⟨q, hq, (show M 75 j = M 75 j from rfl).trans eq⟩)⟩, ⟨bgR_n (fun z => c1 z.1.2), hG0⟩⟩⟩)
    · obtain ⟨h_, hh_, rfl⟩ := x_nat (N := nh) (by omega) rfl c1
      refine xr_iload_n dX10_begun_16 3 rfl ?_
      refine xr_i2l dX10_begun_17 ?_
      refine xr_lconst (v := 0) dX10_begun_18 rfl ?_
      refine xr_lconst (v := 1) dX10_begun_19 rfl ?_
      refine xb_cS (As := [.long ((w).toInt64), .long (0), .long (1)]) (rest := []) mlX10_101 (c_within32 (w) (0) (1) (by decide) (by decide)) dX10_begun_20 rfl rfl (Nat.le_of_ble_eq_true rfl) (by decide) (by decide) ?_
      refine xb_bne (tgt := 29) dX10_begun_23 rfl (fun c2 => ?_) (fun c2 => ?_)
      · refine xr_aload_n dX10_begun_29 0 rfl ?_
        refine xr_getR flX10_9 dX10_begun_30 s_62 rfl ?_
        refine xr_bipush (v := 10) dX10_begun_33 rfl ?_
        refine xr_iload_n dX10_begun_35 2 rfl ?_
        refine xr_iadd dX10_begun_36 ?_
        refine xb_top (y := nI (10 + h_)) (nI_add (10) (h_)) ?_
        refine xb_iald (j := 10 + h_) (v := (D h_ 3)) dX10_begun_37 s_63 (by omega) (by decide) (hA h_ hh_).2.2.2.1 ?_
        refine xr_istore (ls2 := [(4, .int ((D h_ 3))), (0, .ref (62)), (1, .int (nI (q))), (2, .int (nI (h_))), (3, .int (w))]) dX10_begun_38 (by decide) rfl ?_
        refine xr_aload_n dX10_begun_40 1 rfl ?_
        refine xr_getR flX10_25 dX10_begun_41 s_62 rfl ?_
        refine xr_iload_n dX10_begun_44 3 rfl ?_
        refine xb_iald (j := h_) (v := M 68 h_) dX10_begun_45 s_68 (by omega) (by decide) rfl ?_
        refine xr_if_le (tgt := 54) dX10_begun_46 rfl (fun c3 => ?_) (fun c3 => ?_)
        · refine xr_iconst (v := 0) dX10_begun_54 rfl ?_
          refine xr_istore (ls2 := [(5, .int (0)), (4, .int ((D h_ 3))), (0, .ref (62)), (1, .int (nI (q))), (2, .int (nI (h_))), (3, .int (w))]) dX10_begun_55 (by decide) rfl ?_
          refine xr_iconst (v := 0) dX10_begun_57 rfl ?_
          refine xr_istore (ls2 := [(6, .int (0)), (5, .int (0)), (4, .int ((D h_ 3))), (0, .ref (62)), (1, .int (nI (q))), (2, .int (nI (h_))), (3, .int (w))]) dX10_begun_58 (by decide) rfl ?_
          refine xr_bipush (v := -2) dX10_begun_60 rfl ?_
          refine xr_istore (ls2 := [(7, .int ((-2))), (6, .int (0)), (5, .int (0)), (4, .int ((D h_ 3))), (0, .ref (62)), (1, .int (nI (q))), (2, .int (nI (h_))), (3, .int (w))]) dX10_begun_62 (by decide) rfl ?_
          refine xr_iload dX10_begun_64 2 rfl ?_
          refine xr_ineg dX10_begun_66 ?_
          refine xb_top (y := 0) (by decide) ?_
          refine xr_istore (ls2 := [(8, .int (0)), (7, .int ((-2))), (6, .int (0)), (5, .int (0)), (4, .int ((D h_ 3))), (0, .ref (62)), (1, .int (nI (q))), (2, .int (nI (h_))), (3, .int (w))]) dX10_begun_67 (by decide) rfl ?_
          refine xr_iload dX10_begun_69 0 rfl ?_
          refine xr_iload dX10_begun_71 3 rfl ?_
          refine xr_icmp_gt (tgt := 121) dX10_begun_73 rfl (fun c => absurd c (by decide)) (fun _ => ?_)
          refine xr_aload_n dX10_begun_76 5 rfl ?_
          refine xr_getR flX10_9 dX10_begun_77 s_62 rfl ?_
          refine xr_bipush (v := 10) dX10_begun_80 rfl ?_
          refine xr_iload_n dX10_begun_82 7 rfl ?_
          refine xr_iadd dX10_begun_83 ?_
          refine xb_top (y := nI (10 + h_)) (nI_add (10) (h_)) ?_
          refine xr_iload dX10_begun_84 0 rfl ?_
          refine xb_iast (j := 10 + h_) dX10_begun_86 s_63 (by omega) (by decide) ?_
          refine xr_aload_n dX10_begun_87 5 rfl ?_
          refine xr_iload_n dX10_begun_88 6 rfl ?_
          refine xr_iload_n dX10_begun_89 7 rfl ?_
          refine xr_callV (As := [.int (nI (q)), .int (nI (h_))]) (rest := []) mlX10_290 (gy_X10_firstFalse (P := (PS nh t S)) (nw := S 0) (D := (x_up D h_ 3 0)) (L := (G9 q).2.1) (E := (G9 q).2.2) (h := h_) hP hq hLL hh_ ⟨⟨(Eq.trans (congrFun (x_up_n _ _ _ (by decide)) _) e_hn), (AbS_m (q := 10 + h_) hn5 (by omega) hA (Or.inr (Or.inr ⟨rfl, rfl⟩)) (fun kl => (Eq.trans (congrFun (x_up_n _ _ _ (by decide)) _) rfl)) (fun kl => (Eq.trans (congrFun (x_up_n _ _ _ (by decide)) _) rfl)) up_s (fun j hj => up_k hj)), WF_3 hW (by decide) (fun _ => rfl), (LRt_k (Eq.trans (congrFun (x_up_n _ _ _ (by decide)) _) rfl) (Eq.trans (x_up_n _ _ _ (by decide)) rfl) hL)⟩, ⟨((up_k (by omega)).trans e_rub), ((up_k (by omega)).trans e_bt), ((up_k (by omega)).trans e_ph), ((up_k (by omega)).trans e_st)⟩, (Eq.trans (congrFun (x_up_n _ _ _ (by decide)) _) e_nw)⟩ (Eq.trans (congrFun (x_up_n _ _ _ (by decide)) _) e_s) hE) dX10_begun_90 s_62 rfl rfl (Nat.le_of_ble_eq_true rfl) (by decide) ⟨by decide, by decide⟩ (fun v s2 M5 J2 hq => ?_)
          obtain ⟨r7, rfl, rfl, rfl, k6, hx4⟩ := hq
          try dsimp only [Option.toList, List.cons_append, List.nil_append]
          subst hx4
          refine xb_top (y := bgV nh D t S G9 q h_ 9) rfl ?_
          refine xr_bipush (v := -2) dX10_begun_93 rfl ?_
          refine xr_icmp_ne (tgt := 115) dX10_begun_95 rfl (fun c8 => ?_) (fun c8 => ?_)
          · refine xr_iinc (v := 1) (ls2 := [(8, .int (1)), (7, .int ((-2))), (6, .int (0)), (5, .int (0)), (4, .int ((D h_ 3))), (0, .ref (62)), (1, .int (nI (q))), (2, .int (nI (h_))), (3, .int (w))]) dX10_begun_115 0 rfl rfl (by decide) rfl ?_
            refine xr_goto (tgt := 69) dX10_begun_118 rfl ?_
            refine xr_iload dX10_begun_69 0 rfl ?_
            refine xr_iload dX10_begun_71 3 rfl ?_
            refine xr_icmp_gt (tgt := 121) dX10_begun_73 rfl (fun _ => ?_) (fun c => absurd (by decide) c)
            refine xr_aload_n dX10_begun_121 5 rfl ?_
            refine xr_getR flX10_9 dX10_begun_122 s_62 rfl ?_
            refine xr_bipush (v := 10) dX10_begun_125 rfl ?_
            refine xr_iload_n dX10_begun_127 7 rfl ?_
            refine xr_iadd dX10_begun_128 ?_
            refine xb_top (y := nI (10 + h_)) (nI_add (10) (h_)) ?_
            refine xr_iload dX10_begun_129 4 rfl ?_
            refine xb_iast (j := 10 + h_) dX10_begun_131 s_63 (by omega) (by decide) ?_
            refine xr_iload_n dX10_begun_132 8 rfl ?_
            refine xr_if_ne (tgt := 141) dX10_begun_133 rfl (fun c9 => ?_) (fun c9 => ?_)
            · refine xr_iload dX10_begun_141 1 rfl ?_
              exact xr_iret dX10_begun_143 rfl rfl (⟨_, rfl, rfl, rfl, (Ke.up (Or.inr (Or.inr (Or.inr (Or.inr (Or.inr (Or.inr (Or.inr (Or.inr (by omega))))))))) (Ke.tr (fun pp kk => (fun hh => Or.elim hh (fun h => (Or.inl h)) (fun hh => Or.elim hh (fun h => (Or.inr (Or.inl h))) (fun hh => Or.elim hh (fun h => (Or.inr (Or.inr (Or.inl h)))) (fun hh => Or.elim hh (fun h => (Or.inr (Or.inr (Or.inr (Or.inl h))))) (fun hh => Or.elim hh (fun h => (Or.inr (Or.inr (Or.inr (Or.inr (Or.inl h)))))) (fun hh => Or.elim hh (fun h => (Or.inr (Or.inr (Or.inr (Or.inr (Or.inr (Or.inl h))))))) (fun hh => Or.elim hh (fun h => (Or.inr (Or.inr (Or.inr (Or.inr (Or.inr (Or.inr (Or.inl h)))))))) (fun h => (Or.inr (Or.inr (Or.inr (Or.inr (Or.inr (Or.inr (Or.inr (Or.inl h))))))))))))))))) (Ke.up (Or.inr (Or.inr (Or.inr (Or.inr (Or.inr (Or.inr (Or.inr (Or.inr (by omega))))))))) Ke.rf) k6)), ⟨⟨⟨nh, by omega, (Eq.trans (congrFun (x_up_n _ _ _ (by decide)) _) (Eq.trans (k6 62 6 (by decide)) (Eq.trans (congrFun (x_up_n _ _ _ (by decide)) _) e_hn))), (fun kw hkw => by rw [show (x_up M5 63 (10 + h_) (D h_ 3)) 63 (5 + kw) = M 63 (5 + kw) from (Eq.trans (x_up_k _ _ _ (by omega)) (Eq.trans (k6 63 (5 + kw) (by unfold WR1; omega)) (Eq.trans (x_up_k _ _ _ (by omega)) rfl)))]; exact hw kw hkw)⟩, (by rw [show (x_up M5 63 (10 + h_) (D h_ 3)) 63 16 = M 63 16 from (Eq.trans (x_up_k _ _ _ (by omega)) (Eq.trans (k6 63 16 (by unfold WR1; omega)) (Eq.trans (x_up_k _ _ _ (by omega)) rfl)))]; exact hbt), ⟨un, wn, by omega, by omega, (Eq.trans (congrFun (x_up_n _ _ _ (by decide)) _) (Eq.trans (k6 62 5 (by decide)) (Eq.trans (congrFun (x_up_n _ _ _ (by decide)) _) e_un))), (Eq.trans (congrFun (x_up_n _ _ _ (by decide)) _) (Eq.trans (k6 62 4 (by decide)) (Eq.trans (congrFun (x_up_n _ _ _ (by decide)) _) e_wn)))⟩, (fun kk hkk => by rw [show (x_up M5 63 (10 + h_) (D h_ 3)) 64 kk = M 64 kk from (Eq.trans (congrFun (x_up_n _ _ _ (by omega)) _) (Eq.trans (k6 64 kk (by unfold WR1; omega)) (Eq.trans (congrFun (x_up_n _ _ _ (by omega)) _) rfl))), show (x_up M5 63 (10 + h_) (D h_ 3)) 65 kk = M 65 kk from (Eq.trans (congrFun (x_up_n _ _ _ (by omega)) _) (Eq.trans (k6 65 kk (by unfold WR1; omega)) (Eq.trans (congrFun (x_up_n _ _ _ (by omega)) _) rfl))), show (x_up M5 63 (10 + h_) (D h_ 3)) 66 kk = M 66 kk from (Eq.trans (congrFun (x_up_n _ _ _ (by omega)) _) (Eq.trans (k6 66 kk (by unfold WR1; omega)) (Eq.trans (congrFun (x_up_n _ _ _ (by omega)) _) rfl)))]; exact hch kk hkk), ⟨n, by omega, (Eq.trans (congrFun (x_up_n _ _ _ (by decide)) _) (Eq.trans (k6 62 11 (by decide)) (Eq.trans (congrFun (x_up_n _ _ _ (by decide)) _) e_n)))⟩, (by rw [show (x_up M5 63 (10 + h_) (D h_ 3)) 62 13 = M 62 13 from (Eq.trans (congrFun (x_up_n _ _ _ (by omega)) _) (Eq.trans (k6 62 13 (by unfold WR1; omega)) (Eq.trans (congrFun (x_up_n _ _ _ (by omega)) _) rfl)))]; exact htx), ⟨b, by omega, (Eq.trans (congrFun (x_up_n _ _ _ (by decide)) _) (Eq.trans (k6 62 36 (by decide)) (Eq.trans (congrFun (x_up_n _ _ _ (by decide)) _) e_b)))⟩, (fun j hj => by obtain ⟨q, hq, eq⟩ := hkd j hj; exact ⟨q, hq, (show (x_up M5 63 (10 + h_) (D h_ 3)) 81 j = M 81 j from (Eq.trans (congrFun (x_up_n _ _ _ (by omega)) _) (Eq.trans (k6 81 j (by unfold WR1; omega)) (Eq.trans (congrFun (x_up_n _ _ _ (by omega)) _) rfl)))).trans eq⟩), ⟨ra, by omega, (Eq.trans (congrFun (x_up_n _ _ _ (by decide)) _) (Eq.trans (k6 62 39 (by decide)) (Eq.trans (congrFun (x_up_n _ _ _ (by decide)) _) e_ra)))⟩, (fun j hj => by rw [show (x_up M5 63 (10 + h_) (D h_ 3)) 83 j = M 83 j from (Eq.trans (congrFun (x_up_n _ _ _ (by omega)) _) (Eq.trans (k6 83 j (by unfold WR1; omega)) (Eq.trans (congrFun (x_up_n _ _ _ (by omega)) _) rfl))), show (x_up M5 63 (10 + h_) (D h_ 3)) 84 j = M 84 j from (Eq.trans (congrFun (x_up_n _ _ _ (by omega)) _) (Eq.trans (k6 84 j (by unfold WR1; omega)) (Eq.trans (congrFun (x_up_n _ _ _ (by omega)) _) rfl)))]; exact hsl j hj), ⟨ic, by omega, (Eq.trans (congrFun (x_up_n _ _ _ (by decide)) _) (Eq.trans (k6 62 34 (by decide)) (Eq.trans (congrFun (x_up_n _ _ _ (by decide)) _) e_ic)))⟩, (fun j hj => by obtain ⟨q, hq, eq⟩ := hS j hj; exact ⟨q, hq, (show (x_up M5 63 (10 + h_) (D h_ 3)) 75 j = M 75 j from (Eq.trans (congrFun (x_up_n _ _ _ (by omega)) _) (Eq.trans (k6 75 j (by unfold WR1; omega)) (Eq.trans (congrFun (x_up_n _ _ _ (by omega)) _) rfl)))).trans eq⟩)⟩, ⟨((congrArg Prod.fst (bgF_l ((le0_eq hW hh_ (hA h_ hh_).2.2.2.2).mp c3) (bg1_n (n := nh) (D := D) (t := t) (S := S) (f := -2) (c := 0) c8).symm)).trans (if_neg c9).symm).trans (bgR_y hn5 hq hh_ c2 hkk), ⟨(Eq.trans (congrFun (x_up_n _ _ _ (by decide)) _) (Eq.trans (k6 62 6 (by decide)) (Eq.trans (congrFun (x_up_n _ _ _ (by decide)) _) e_hn))), (AbS_k hA (fun kl hkl => by
                by_cases q9 : kl = 10 + h_
                · subst q9; exact up_s.trans (hA h_ hh_).2.2.2.1.symm
                · exact (up_k q9).trans ((k6 63 kl (by unfold WR1; omega)).trans (up_k q9))) (fun kl => (Eq.trans (congrFun (x_up_n _ _ _ (by decide)) _) (Eq.trans (k6 67 kl (by unfold WR1; omega)) (Eq.trans (congrFun (x_up_n _ _ _ (by decide)) _) rfl)))) (fun kl => (Eq.trans (congrFun (x_up_n _ _ _ (by decide)) _) (Eq.trans (k6 68 kl (by unfold WR1; omega)) (Eq.trans (congrFun (x_up_n _ _ _ (by decide)) _) rfl)))) hn5), (LRt_k (Eq.trans (congrFun (x_up_n _ _ _ (by decide)) _) (Eq.trans (k6 62 13 (by unfold WR1; omega)) (Eq.trans (congrFun (x_up_n _ _ _ (by decide)) _) rfl))) (Eq.trans (x_up_n _ _ _ (by decide)) (Eq.trans (funext fun kk => k6 70 kk (by unfold WR1; omega)) (Eq.trans (x_up_n _ _ _ (by decide)) rfl))) hL), (Eq.trans (congrFun (x_up_n _ _ _ (by decide)) _) (Eq.trans (k6 62 9 (by decide)) (Eq.trans (congrFun (x_up_n _ _ _ (by decide)) _) e_nw))), ((up_k (by omega)).trans ((k6 63 15 (by unfold WR1; omega)).trans ((up_k (by omega)).trans e_rub))), ((up_k (by omega)).trans ((k6 63 16 (by unfold WR1; omega)).trans ((up_k (by omega)).trans e_bt))), ((up_k (by omega)).trans ((k6 63 17 (by unfold WR1; omega)).trans ((up_k (by omega)).trans e_ph))), ((up_k (by omega)).trans ((k6 63 18 (by unfold WR1; omega)).trans ((up_k (by omega)).trans e_st))), ((up_k (by omega)).trans ((k6 63 19 (by unfold WR1; omega)).trans ((up_k (by omega)).trans e_kn))), (Eq.trans (congrFun (x_up_n _ _ _ (by decide)) _) (Eq.trans (k6 62 24 (by decide)) (Eq.trans (congrFun (x_up_n _ _ _ (by decide)) _) e_pu))), (Eq.trans (congrFun (x_up_n _ _ _ (by decide)) _) (Eq.trans (k6 62 25 (by decide)) (Eq.trans (congrFun (x_up_n _ _ _ (by decide)) _) e_lf)))⟩⟩⟩⟩)
            · refine xr_iload dX10_begun_136 2 rfl ?_
              refine xr_goto (tgt := 143) dX10_begun_138 rfl ?_
              exact xr_iret dX10_begun_143 rfl rfl (⟨_, rfl, rfl, rfl, (Ke.up (Or.inr (Or.inr (Or.inr (Or.inr (Or.inr (Or.inr (Or.inr (Or.inr (by omega))))))))) (Ke.tr (fun pp kk => (fun hh => Or.elim hh (fun h => (Or.inl h)) (fun hh => Or.elim hh (fun h => (Or.inr (Or.inl h))) (fun hh => Or.elim hh (fun h => (Or.inr (Or.inr (Or.inl h)))) (fun hh => Or.elim hh (fun h => (Or.inr (Or.inr (Or.inr (Or.inl h))))) (fun hh => Or.elim hh (fun h => (Or.inr (Or.inr (Or.inr (Or.inr (Or.inl h)))))) (fun hh => Or.elim hh (fun h => (Or.inr (Or.inr (Or.inr (Or.inr (Or.inr (Or.inl h))))))) (fun hh => Or.elim hh (fun h => (Or.inr (Or.inr (Or.inr (Or.inr (Or.inr (Or.inr (Or.inl h)))))))) (fun h => (Or.inr (Or.inr (Or.inr (Or.inr (Or.inr (Or.inr (Or.inr (Or.inl h))))))))))))))))) (Ke.up (Or.inr (Or.inr (Or.inr (Or.inr (Or.inr (Or.inr (Or.inr (Or.inr (by omega))))))))) Ke.rf) k6)), ⟨⟨⟨nh, by omega, (Eq.trans (congrFun (x_up_n _ _ _ (by decide)) _) (Eq.trans (k6 62 6 (by decide)) (Eq.trans (congrFun (x_up_n _ _ _ (by decide)) _) e_hn))), (fun kw hkw => by rw [show (x_up M5 63 (10 + h_) (D h_ 3)) 63 (5 + kw) = M 63 (5 + kw) from (Eq.trans (x_up_k _ _ _ (by omega)) (Eq.trans (k6 63 (5 + kw) (by unfold WR1; omega)) (Eq.trans (x_up_k _ _ _ (by omega)) rfl)))]; exact hw kw hkw)⟩, (by rw [show (x_up M5 63 (10 + h_) (D h_ 3)) 63 16 = M 63 16 from (Eq.trans (x_up_k _ _ _ (by omega)) (Eq.trans (k6 63 16 (by unfold WR1; omega)) (Eq.trans (x_up_k _ _ _ (by omega)) rfl)))]; exact hbt), ⟨un, wn, by omega, by omega, (Eq.trans (congrFun (x_up_n _ _ _ (by decide)) _) (Eq.trans (k6 62 5 (by decide)) (Eq.trans (congrFun (x_up_n _ _ _ (by decide)) _) e_un))), (Eq.trans (congrFun (x_up_n _ _ _ (by decide)) _) (Eq.trans (k6 62 4 (by decide)) (Eq.trans (congrFun (x_up_n _ _ _ (by decide)) _) e_wn)))⟩, (fun kk hkk => by rw [show (x_up M5 63 (10 + h_) (D h_ 3)) 64 kk = M 64 kk from (Eq.trans (congrFun (x_up_n _ _ _ (by omega)) _) (Eq.trans (k6 64 kk (by unfold WR1; omega)) (Eq.trans (congrFun (x_up_n _ _ _ (by omega)) _) rfl))), show (x_up M5 63 (10 + h_) (D h_ 3)) 65 kk = M 65 kk from (Eq.trans (congrFun (x_up_n _ _ _ (by omega)) _) (Eq.trans (k6 65 kk (by unfold WR1; omega)) (Eq.trans (congrFun (x_up_n _ _ _ (by omega)) _) rfl))), show (x_up M5 63 (10 + h_) (D h_ 3)) 66 kk = M 66 kk from (Eq.trans (congrFun (x_up_n _ _ _ (by omega)) _) (Eq.trans (k6 66 kk (by unfold WR1; omega)) (Eq.trans (congrFun (x_up_n _ _ _ (by omega)) _) rfl)))]; exact hch kk hkk), ⟨n, by omega, (Eq.trans (congrFun (x_up_n _ _ _ (by decide)) _) (Eq.trans (k6 62 11 (by decide)) (Eq.trans (congrFun (x_up_n _ _ _ (by decide)) _) e_n)))⟩, (by rw [show (x_up M5 63 (10 + h_) (D h_ 3)) 62 13 = M 62 13 from (Eq.trans (congrFun (x_up_n _ _ _ (by omega)) _) (Eq.trans (k6 62 13 (by unfold WR1; omega)) (Eq.trans (congrFun (x_up_n _ _ _ (by omega)) _) rfl)))]; exact htx), ⟨b, by omega, (Eq.trans (congrFun (x_up_n _ _ _ (by decide)) _) (Eq.trans (k6 62 36 (by decide)) (Eq.trans (congrFun (x_up_n _ _ _ (by decide)) _) e_b)))⟩, (fun j hj => by obtain ⟨q, hq, eq⟩ := hkd j hj; exact ⟨q, hq, (show (x_up M5 63 (10 + h_) (D h_ 3)) 81 j = M 81 j from (Eq.trans (congrFun (x_up_n _ _ _ (by omega)) _) (Eq.trans (k6 81 j (by unfold WR1; omega)) (Eq.trans (congrFun (x_up_n _ _ _ (by omega)) _) rfl)))).trans eq⟩), ⟨ra, by omega, (Eq.trans (congrFun (x_up_n _ _ _ (by decide)) _) (Eq.trans (k6 62 39 (by decide)) (Eq.trans (congrFun (x_up_n _ _ _ (by decide)) _) e_ra)))⟩, (fun j hj => by rw [show (x_up M5 63 (10 + h_) (D h_ 3)) 83 j = M 83 j from (Eq.trans (congrFun (x_up_n _ _ _ (by omega)) _) (Eq.trans (k6 83 j (by unfold WR1; omega)) (Eq.trans (congrFun (x_up_n _ _ _ (by omega)) _) rfl))), show (x_up M5 63 (10 + h_) (D h_ 3)) 84 j = M 84 j from (Eq.trans (congrFun (x_up_n _ _ _ (by omega)) _) (Eq.trans (k6 84 j (by unfold WR1; omega)) (Eq.trans (congrFun (x_up_n _ _ _ (by omega)) _) rfl)))]; exact hsl j hj), ⟨ic, by omega, (Eq.trans (congrFun (x_up_n _ _ _ (by decide)) _) (Eq.trans (k6 62 34 (by decide)) (Eq.trans (congrFun (x_up_n _ _ _ (by decide)) _) e_ic)))⟩, (fun j hj => by obtain ⟨q, hq, eq⟩ := hS j hj; exact ⟨q, hq, (show (x_up M5 63 (10 + h_) (D h_ 3)) 75 j = M 75 j from (Eq.trans (congrFun (x_up_n _ _ _ (by omega)) _) (Eq.trans (k6 75 j (by unfold WR1; omega)) (Eq.trans (congrFun (x_up_n _ _ _ (by omega)) _) rfl)))).trans eq⟩)⟩, ⟨((congrArg Prod.snd (bgF_l ((le0_eq hW hh_ (hA h_ hh_).2.2.2.2).mp c3) (bg1_n (n := nh) (D := D) (t := t) (S := S) (f := -2) (c := 0) c8).symm)).trans (if_pos c9).symm).trans (bgR_y hn5 hq hh_ c2 hkk), ⟨(Eq.trans (congrFun (x_up_n _ _ _ (by decide)) _) (Eq.trans (k6 62 6 (by decide)) (Eq.trans (congrFun (x_up_n _ _ _ (by decide)) _) e_hn))), (AbS_k hA (fun kl hkl => by
                by_cases q9 : kl = 10 + h_
                · subst q9; exact up_s.trans (hA h_ hh_).2.2.2.1.symm
                · exact (up_k q9).trans ((k6 63 kl (by unfold WR1; omega)).trans (up_k q9))) (fun kl => (Eq.trans (congrFun (x_up_n _ _ _ (by decide)) _) (Eq.trans (k6 67 kl (by unfold WR1; omega)) (Eq.trans (congrFun (x_up_n _ _ _ (by decide)) _) rfl)))) (fun kl => (Eq.trans (congrFun (x_up_n _ _ _ (by decide)) _) (Eq.trans (k6 68 kl (by unfold WR1; omega)) (Eq.trans (congrFun (x_up_n _ _ _ (by decide)) _) rfl)))) hn5), (LRt_k (Eq.trans (congrFun (x_up_n _ _ _ (by decide)) _) (Eq.trans (k6 62 13 (by unfold WR1; omega)) (Eq.trans (congrFun (x_up_n _ _ _ (by decide)) _) rfl))) (Eq.trans (x_up_n _ _ _ (by decide)) (Eq.trans (funext fun kk => k6 70 kk (by unfold WR1; omega)) (Eq.trans (x_up_n _ _ _ (by decide)) rfl))) hL), (Eq.trans (congrFun (x_up_n _ _ _ (by decide)) _) (Eq.trans (k6 62 9 (by decide)) (Eq.trans (congrFun (x_up_n _ _ _ (by decide)) _) e_nw))), ((up_k (by omega)).trans ((k6 63 15 (by unfold WR1; omega)).trans ((up_k (by omega)).trans e_rub))), ((up_k (by omega)).trans ((k6 63 16 (by unfold WR1; omega)).trans ((up_k (by omega)).trans e_bt))), ((up_k (by omega)).trans ((k6 63 17 (by unfold WR1; omega)).trans ((up_k (by omega)).trans e_ph))), ((up_k (by omega)).trans ((k6 63 18 (by unfold WR1; omega)).trans ((up_k (by omega)).trans e_st))), ((up_k (by omega)).trans ((k6 63 19 (by unfold WR1; omega)).trans ((up_k (by omega)).trans e_kn))), (Eq.trans (congrFun (x_up_n _ _ _ (by decide)) _) (Eq.trans (k6 62 24 (by decide)) (Eq.trans (congrFun (x_up_n _ _ _ (by decide)) _) e_pu))), (Eq.trans (congrFun (x_up_n _ _ _ (by decide)) _) (Eq.trans (k6 62 25 (by decide)) (Eq.trans (congrFun (x_up_n _ _ _ (by decide)) _) e_lf)))⟩⟩⟩⟩)
          · refine xr_iload dX10_begun_98 2 rfl ?_
            refine xr_if_ne (tgt := 108) dX10_begun_100 rfl (fun c => absurd (by decide) c) (fun _ => ?_)
            refine xr_iload dX10_begun_103 0 rfl ?_
            refine xr_goto (tgt := 110) dX10_begun_105 rfl ?_
            refine xr_istore (ls2 := [(7, .int (0)), (8, .int (0)), (6, .int (0)), (5, .int (0)), (4, .int ((D h_ 3))), (0, .ref (62)), (1, .int (nI (q))), (2, .int (nI (h_))), (3, .int (w))]) dX10_begun_110 (by decide) rfl ?_
            refine xr_iinc (v := 1) (ls2 := [(6, .int (1)), (7, .int (0)), (8, .int (0)), (5, .int (0)), (4, .int ((D h_ 3))), (0, .ref (62)), (1, .int (nI (q))), (2, .int (nI (h_))), (3, .int (w))]) dX10_begun_112 2 rfl rfl (by decide) rfl ?_
            refine xr_iinc (v := 1) (ls2 := [(8, .int (1)), (6, .int (1)), (7, .int (0)), (5, .int (0)), (4, .int ((D h_ 3))), (0, .ref (62)), (1, .int (nI (q))), (2, .int (nI (h_))), (3, .int (w))]) dX10_begun_115 2 rfl rfl (by decide) rfl ?_
            refine xr_goto (tgt := 69) dX10_begun_118 rfl ?_
            refine xr_iload dX10_begun_69 0 rfl ?_
            refine xr_iload dX10_begun_71 3 rfl ?_
            refine xr_icmp_gt (tgt := 121) dX10_begun_73 rfl (fun _ => ?_) (fun c => absurd (by decide) c)
            refine xr_aload_n dX10_begun_121 5 rfl ?_
            refine xr_getR flX10_9 dX10_begun_122 s_62 rfl ?_
            refine xr_bipush (v := 10) dX10_begun_125 rfl ?_
            refine xr_iload_n dX10_begun_127 7 rfl ?_
            refine xr_iadd dX10_begun_128 ?_
            refine xb_top (y := nI (10 + h_)) (nI_add (10) (h_)) ?_
            refine xr_iload dX10_begun_129 4 rfl ?_
            refine xb_iast (j := 10 + h_) dX10_begun_131 s_63 (by omega) (by decide) ?_
            refine xr_iload_n dX10_begun_132 8 rfl ?_
            refine xr_if_ne (tgt := 141) dX10_begun_133 rfl (fun c10 => ?_) (fun c10 => ?_)
            · refine xr_iload dX10_begun_141 2 rfl ?_
              exact xr_iret dX10_begun_143 rfl rfl (⟨_, rfl, rfl, rfl, (Ke.up (Or.inr (Or.inr (Or.inr (Or.inr (Or.inr (Or.inr (Or.inr (Or.inr (by omega))))))))) (Ke.tr (fun pp kk => (fun hh => Or.elim hh (fun h => (Or.inl h)) (fun hh => Or.elim hh (fun h => (Or.inr (Or.inl h))) (fun hh => Or.elim hh (fun h => (Or.inr (Or.inr (Or.inl h)))) (fun hh => Or.elim hh (fun h => (Or.inr (Or.inr (Or.inr (Or.inl h))))) (fun hh => Or.elim hh (fun h => (Or.inr (Or.inr (Or.inr (Or.inr (Or.inl h)))))) (fun hh => Or.elim hh (fun h => (Or.inr (Or.inr (Or.inr (Or.inr (Or.inr (Or.inl h))))))) (fun hh => Or.elim hh (fun h => (Or.inr (Or.inr (Or.inr (Or.inr (Or.inr (Or.inr (Or.inl h)))))))) (fun h => (Or.inr (Or.inr (Or.inr (Or.inr (Or.inr (Or.inr (Or.inr (Or.inl h))))))))))))))))) (Ke.up (Or.inr (Or.inr (Or.inr (Or.inr (Or.inr (Or.inr (Or.inr (Or.inr (by omega))))))))) Ke.rf) k6)), ⟨⟨⟨nh, by omega, (Eq.trans (congrFun (x_up_n _ _ _ (by decide)) _) (Eq.trans (k6 62 6 (by decide)) (Eq.trans (congrFun (x_up_n _ _ _ (by decide)) _) e_hn))), (fun kw hkw => by rw [show (x_up M5 63 (10 + h_) (D h_ 3)) 63 (5 + kw) = M 63 (5 + kw) from (Eq.trans (x_up_k _ _ _ (by omega)) (Eq.trans (k6 63 (5 + kw) (by unfold WR1; omega)) (Eq.trans (x_up_k _ _ _ (by omega)) rfl)))]; exact hw kw hkw)⟩, (by rw [show (x_up M5 63 (10 + h_) (D h_ 3)) 63 16 = M 63 16 from (Eq.trans (x_up_k _ _ _ (by omega)) (Eq.trans (k6 63 16 (by unfold WR1; omega)) (Eq.trans (x_up_k _ _ _ (by omega)) rfl)))]; exact hbt), ⟨un, wn, by omega, by omega, (Eq.trans (congrFun (x_up_n _ _ _ (by decide)) _) (Eq.trans (k6 62 5 (by decide)) (Eq.trans (congrFun (x_up_n _ _ _ (by decide)) _) e_un))), (Eq.trans (congrFun (x_up_n _ _ _ (by decide)) _) (Eq.trans (k6 62 4 (by decide)) (Eq.trans (congrFun (x_up_n _ _ _ (by decide)) _) e_wn)))⟩, (fun kk hkk => by rw [show (x_up M5 63 (10 + h_) (D h_ 3)) 64 kk = M 64 kk from (Eq.trans (congrFun (x_up_n _ _ _ (by omega)) _) (Eq.trans (k6 64 kk (by unfold WR1; omega)) (Eq.trans (congrFun (x_up_n _ _ _ (by omega)) _) rfl))), show (x_up M5 63 (10 + h_) (D h_ 3)) 65 kk = M 65 kk from (Eq.trans (congrFun (x_up_n _ _ _ (by omega)) _) (Eq.trans (k6 65 kk (by unfold WR1; omega)) (Eq.trans (congrFun (x_up_n _ _ _ (by omega)) _) rfl))), show (x_up M5 63 (10 + h_) (D h_ 3)) 66 kk = M 66 kk from (Eq.trans (congrFun (x_up_n _ _ _ (by omega)) _) (Eq.trans (k6 66 kk (by unfold WR1; omega)) (Eq.trans (congrFun (x_up_n _ _ _ (by omega)) _) rfl)))]; exact hch kk hkk), ⟨n, by omega, (Eq.trans (congrFun (x_up_n _ _ _ (by decide)) _) (Eq.trans (k6 62 11 (by decide)) (Eq.trans (congrFun (x_up_n _ _ _ (by decide)) _) e_n)))⟩, (by rw [show (x_up M5 63 (10 + h_) (D h_ 3)) 62 13 = M 62 13 from (Eq.trans (congrFun (x_up_n _ _ _ (by omega)) _) (Eq.trans (k6 62 13 (by unfold WR1; omega)) (Eq.trans (congrFun (x_up_n _ _ _ (by omega)) _) rfl)))]; exact htx), ⟨b, by omega, (Eq.trans (congrFun (x_up_n _ _ _ (by decide)) _) (Eq.trans (k6 62 36 (by decide)) (Eq.trans (congrFun (x_up_n _ _ _ (by decide)) _) e_b)))⟩, (fun j hj => by obtain ⟨q, hq, eq⟩ := hkd j hj; exact ⟨q, hq, (show (x_up M5 63 (10 + h_) (D h_ 3)) 81 j = M 81 j from (Eq.trans (congrFun (x_up_n _ _ _ (by omega)) _) (Eq.trans (k6 81 j (by unfold WR1; omega)) (Eq.trans (congrFun (x_up_n _ _ _ (by omega)) _) rfl)))).trans eq⟩), ⟨ra, by omega, (Eq.trans (congrFun (x_up_n _ _ _ (by decide)) _) (Eq.trans (k6 62 39 (by decide)) (Eq.trans (congrFun (x_up_n _ _ _ (by decide)) _) e_ra)))⟩, (fun j hj => by rw [show (x_up M5 63 (10 + h_) (D h_ 3)) 83 j = M 83 j from (Eq.trans (congrFun (x_up_n _ _ _ (by omega)) _) (Eq.trans (k6 83 j (by unfold WR1; omega)) (Eq.trans (congrFun (x_up_n _ _ _ (by omega)) _) rfl))), show (x_up M5 63 (10 + h_) (D h_ 3)) 84 j = M 84 j from (Eq.trans (congrFun (x_up_n _ _ _ (by omega)) _) (Eq.trans (k6 84 j (by unfold WR1; omega)) (Eq.trans (congrFun (x_up_n _ _ _ (by omega)) _) rfl)))]; exact hsl j hj), ⟨ic, by omega, (Eq.trans (congrFun (x_up_n _ _ _ (by decide)) _) (Eq.trans (k6 62 34 (by decide)) (Eq.trans (congrFun (x_up_n _ _ _ (by decide)) _) e_ic)))⟩, (fun j hj => by obtain ⟨q, hq, eq⟩ := hS j hj; exact ⟨q, hq, (show (x_up M5 63 (10 + h_) (D h_ 3)) 75 j = M 75 j from (Eq.trans (congrFun (x_up_n _ _ _ (by omega)) _) (Eq.trans (k6 75 j (by unfold WR1; omega)) (Eq.trans (congrFun (x_up_n _ _ _ (by omega)) _) rfl)))).trans eq⟩)⟩, ⟨((congrArg Prod.fst (bgF_l ((le0_eq hW hh_ (hA h_ hh_).2.2.2.2).mp c3) ((bg1_y (n := nh) (D := D) (t := t) (S := S) (f := -2) (c := 0) c8).trans (show ((if (0 : Int32) = 0 then pv 9 else (-2 : Int32)), (0 : Int32) + 1) = ((0 : Int32), (1 : Int32)) by decide)).symm)).trans (if_neg c10).symm).trans (bgR_y hn5 hq hh_ c2 hkk), ⟨(Eq.trans (congrFun (x_up_n _ _ _ (by decide)) _) (Eq.trans (k6 62 6 (by decide)) (Eq.trans (congrFun (x_up_n _ _ _ (by decide)) _) e_hn))), (AbS_k hA (fun kl hkl => by
                by_cases q9 : kl = 10 + h_
                · subst q9; exact up_s.trans (hA h_ hh_).2.2.2.1.symm
                · exact (up_k q9).trans ((k6 63 kl (by unfold WR1; omega)).trans (up_k q9))) (fun kl => (Eq.trans (congrFun (x_up_n _ _ _ (by decide)) _) (Eq.trans (k6 67 kl (by unfold WR1; omega)) (Eq.trans (congrFun (x_up_n _ _ _ (by decide)) _) rfl)))) (fun kl => (Eq.trans (congrFun (x_up_n _ _ _ (by decide)) _) (Eq.trans (k6 68 kl (by unfold WR1; omega)) (Eq.trans (congrFun (x_up_n _ _ _ (by decide)) _) rfl)))) hn5), (LRt_k (Eq.trans (congrFun (x_up_n _ _ _ (by decide)) _) (Eq.trans (k6 62 13 (by unfold WR1; omega)) (Eq.trans (congrFun (x_up_n _ _ _ (by decide)) _) rfl))) (Eq.trans (x_up_n _ _ _ (by decide)) (Eq.trans (funext fun kk => k6 70 kk (by unfold WR1; omega)) (Eq.trans (x_up_n _ _ _ (by decide)) rfl))) hL), (Eq.trans (congrFun (x_up_n _ _ _ (by decide)) _) (Eq.trans (k6 62 9 (by decide)) (Eq.trans (congrFun (x_up_n _ _ _ (by decide)) _) e_nw))), ((up_k (by omega)).trans ((k6 63 15 (by unfold WR1; omega)).trans ((up_k (by omega)).trans e_rub))), ((up_k (by omega)).trans ((k6 63 16 (by unfold WR1; omega)).trans ((up_k (by omega)).trans e_bt))), ((up_k (by omega)).trans ((k6 63 17 (by unfold WR1; omega)).trans ((up_k (by omega)).trans e_ph))), ((up_k (by omega)).trans ((k6 63 18 (by unfold WR1; omega)).trans ((up_k (by omega)).trans e_st))), ((up_k (by omega)).trans ((k6 63 19 (by unfold WR1; omega)).trans ((up_k (by omega)).trans e_kn))), (Eq.trans (congrFun (x_up_n _ _ _ (by decide)) _) (Eq.trans (k6 62 24 (by decide)) (Eq.trans (congrFun (x_up_n _ _ _ (by decide)) _) e_pu))), (Eq.trans (congrFun (x_up_n _ _ _ (by decide)) _) (Eq.trans (k6 62 25 (by decide)) (Eq.trans (congrFun (x_up_n _ _ _ (by decide)) _) e_lf)))⟩⟩⟩⟩)
            · refine xr_iload dX10_begun_136 1 rfl ?_
              refine xr_goto (tgt := 143) dX10_begun_138 rfl ?_
              exact xr_iret dX10_begun_143 rfl rfl (⟨_, rfl, rfl, rfl, (Ke.up (Or.inr (Or.inr (Or.inr (Or.inr (Or.inr (Or.inr (Or.inr (Or.inr (by omega))))))))) (Ke.tr (fun pp kk => (fun hh => Or.elim hh (fun h => (Or.inl h)) (fun hh => Or.elim hh (fun h => (Or.inr (Or.inl h))) (fun hh => Or.elim hh (fun h => (Or.inr (Or.inr (Or.inl h)))) (fun hh => Or.elim hh (fun h => (Or.inr (Or.inr (Or.inr (Or.inl h))))) (fun hh => Or.elim hh (fun h => (Or.inr (Or.inr (Or.inr (Or.inr (Or.inl h)))))) (fun hh => Or.elim hh (fun h => (Or.inr (Or.inr (Or.inr (Or.inr (Or.inr (Or.inl h))))))) (fun hh => Or.elim hh (fun h => (Or.inr (Or.inr (Or.inr (Or.inr (Or.inr (Or.inr (Or.inl h)))))))) (fun h => (Or.inr (Or.inr (Or.inr (Or.inr (Or.inr (Or.inr (Or.inr (Or.inl h))))))))))))))))) (Ke.up (Or.inr (Or.inr (Or.inr (Or.inr (Or.inr (Or.inr (Or.inr (Or.inr (by omega))))))))) Ke.rf) k6)), ⟨⟨⟨nh, by omega, (Eq.trans (congrFun (x_up_n _ _ _ (by decide)) _) (Eq.trans (k6 62 6 (by decide)) (Eq.trans (congrFun (x_up_n _ _ _ (by decide)) _) e_hn))), (fun kw hkw => by rw [show (x_up M5 63 (10 + h_) (D h_ 3)) 63 (5 + kw) = M 63 (5 + kw) from (Eq.trans (x_up_k _ _ _ (by omega)) (Eq.trans (k6 63 (5 + kw) (by unfold WR1; omega)) (Eq.trans (x_up_k _ _ _ (by omega)) rfl)))]; exact hw kw hkw)⟩, (by rw [show (x_up M5 63 (10 + h_) (D h_ 3)) 63 16 = M 63 16 from (Eq.trans (x_up_k _ _ _ (by omega)) (Eq.trans (k6 63 16 (by unfold WR1; omega)) (Eq.trans (x_up_k _ _ _ (by omega)) rfl)))]; exact hbt), ⟨un, wn, by omega, by omega, (Eq.trans (congrFun (x_up_n _ _ _ (by decide)) _) (Eq.trans (k6 62 5 (by decide)) (Eq.trans (congrFun (x_up_n _ _ _ (by decide)) _) e_un))), (Eq.trans (congrFun (x_up_n _ _ _ (by decide)) _) (Eq.trans (k6 62 4 (by decide)) (Eq.trans (congrFun (x_up_n _ _ _ (by decide)) _) e_wn)))⟩, (fun kk hkk => by rw [show (x_up M5 63 (10 + h_) (D h_ 3)) 64 kk = M 64 kk from (Eq.trans (congrFun (x_up_n _ _ _ (by omega)) _) (Eq.trans (k6 64 kk (by unfold WR1; omega)) (Eq.trans (congrFun (x_up_n _ _ _ (by omega)) _) rfl))), show (x_up M5 63 (10 + h_) (D h_ 3)) 65 kk = M 65 kk from (Eq.trans (congrFun (x_up_n _ _ _ (by omega)) _) (Eq.trans (k6 65 kk (by unfold WR1; omega)) (Eq.trans (congrFun (x_up_n _ _ _ (by omega)) _) rfl))), show (x_up M5 63 (10 + h_) (D h_ 3)) 66 kk = M 66 kk from (Eq.trans (congrFun (x_up_n _ _ _ (by omega)) _) (Eq.trans (k6 66 kk (by unfold WR1; omega)) (Eq.trans (congrFun (x_up_n _ _ _ (by omega)) _) rfl)))]; exact hch kk hkk), ⟨n, by omega, (Eq.trans (congrFun (x_up_n _ _ _ (by decide)) _) (Eq.trans (k6 62 11 (by decide)) (Eq.trans (congrFun (x_up_n _ _ _ (by decide)) _) e_n)))⟩, (by rw [show (x_up M5 63 (10 + h_) (D h_ 3)) 62 13 = M 62 13 from (Eq.trans (congrFun (x_up_n _ _ _ (by omega)) _) (Eq.trans (k6 62 13 (by unfold WR1; omega)) (Eq.trans (congrFun (x_up_n _ _ _ (by omega)) _) rfl)))]; exact htx), ⟨b, by omega, (Eq.trans (congrFun (x_up_n _ _ _ (by decide)) _) (Eq.trans (k6 62 36 (by decide)) (Eq.trans (congrFun (x_up_n _ _ _ (by decide)) _) e_b)))⟩, (fun j hj => by obtain ⟨q, hq, eq⟩ := hkd j hj; exact ⟨q, hq, (show (x_up M5 63 (10 + h_) (D h_ 3)) 81 j = M 81 j from (Eq.trans (congrFun (x_up_n _ _ _ (by omega)) _) (Eq.trans (k6 81 j (by unfold WR1; omega)) (Eq.trans (congrFun (x_up_n _ _ _ (by omega)) _) rfl)))).trans eq⟩), ⟨ra, by omega, (Eq.trans (congrFun (x_up_n _ _ _ (by decide)) _) (Eq.trans (k6 62 39 (by decide)) (Eq.trans (congrFun (x_up_n _ _ _ (by decide)) _) e_ra)))⟩, (fun j hj => by rw [show (x_up M5 63 (10 + h_) (D h_ 3)) 83 j = M 83 j from (Eq.trans (congrFun (x_up_n _ _ _ (by omega)) _) (Eq.trans (k6 83 j (by unfold WR1; omega)) (Eq.trans (congrFun (x_up_n _ _ _ (by omega)) _) rfl))), show (x_up M5 63 (10 + h_) (D h_ 3)) 84 j = M 84 j from (Eq.trans (congrFun (x_up_n _ _ _ (by omega)) _) (Eq.trans (k6 84 j (by unfold WR1; omega)) (Eq.trans (congrFun (x_up_n _ _ _ (by omega)) _) rfl)))]; exact hsl j hj), ⟨ic, by omega, (Eq.trans (congrFun (x_up_n _ _ _ (by decide)) _) (Eq.trans (k6 62 34 (by decide)) (Eq.trans (congrFun (x_up_n _ _ _ (by decide)) _) e_ic)))⟩, (fun j hj => by obtain ⟨q, hq, eq⟩ := hS j hj; exact ⟨q, hq, (show (x_up M5 63 (10 + h_) (D h_ 3)) 75 j = M 75 j from (Eq.trans (congrFun (x_up_n _ _ _ (by omega)) _) (Eq.trans (k6 75 j (by unfold WR1; omega)) (Eq.trans (congrFun (x_up_n _ _ _ (by omega)) _) rfl)))).trans eq⟩)⟩, ⟨((congrArg Prod.snd (bgF_l ((le0_eq hW hh_ (hA h_ hh_).2.2.2.2).mp c3) ((bg1_y (n := nh) (D := D) (t := t) (S := S) (f := -2) (c := 0) c8).trans (show ((if (0 : Int32) = 0 then pv 9 else (-2 : Int32)), (0 : Int32) + 1) = ((0 : Int32), (1 : Int32)) by decide)).symm)).trans (if_pos c10).symm).trans (bgR_y hn5 hq hh_ c2 hkk), ⟨(Eq.trans (congrFun (x_up_n _ _ _ (by decide)) _) (Eq.trans (k6 62 6 (by decide)) (Eq.trans (congrFun (x_up_n _ _ _ (by decide)) _) e_hn))), (AbS_k hA (fun kl hkl => by
                by_cases q9 : kl = 10 + h_
                · subst q9; exact up_s.trans (hA h_ hh_).2.2.2.1.symm
                · exact (up_k q9).trans ((k6 63 kl (by unfold WR1; omega)).trans (up_k q9))) (fun kl => (Eq.trans (congrFun (x_up_n _ _ _ (by decide)) _) (Eq.trans (k6 67 kl (by unfold WR1; omega)) (Eq.trans (congrFun (x_up_n _ _ _ (by decide)) _) rfl)))) (fun kl => (Eq.trans (congrFun (x_up_n _ _ _ (by decide)) _) (Eq.trans (k6 68 kl (by unfold WR1; omega)) (Eq.trans (congrFun (x_up_n _ _ _ (by decide)) _) rfl)))) hn5), (LRt_k (Eq.trans (congrFun (x_up_n _ _ _ (by decide)) _) (Eq.trans (k6 62 13 (by unfold WR1; omega)) (Eq.trans (congrFun (x_up_n _ _ _ (by decide)) _) rfl))) (Eq.trans (x_up_n _ _ _ (by decide)) (Eq.trans (funext fun kk => k6 70 kk (by unfold WR1; omega)) (Eq.trans (x_up_n _ _ _ (by decide)) rfl))) hL), (Eq.trans (congrFun (x_up_n _ _ _ (by decide)) _) (Eq.trans (k6 62 9 (by decide)) (Eq.trans (congrFun (x_up_n _ _ _ (by decide)) _) e_nw))), ((up_k (by omega)).trans ((k6 63 15 (by unfold WR1; omega)).trans ((up_k (by omega)).trans e_rub))), ((up_k (by omega)).trans ((k6 63 16 (by unfold WR1; omega)).trans ((up_k (by omega)).trans e_bt))), ((up_k (by omega)).trans ((k6 63 17 (by unfold WR1; omega)).trans ((up_k (by omega)).trans e_ph))), ((up_k (by omega)).trans ((k6 63 18 (by unfold WR1; omega)).trans ((up_k (by omega)).trans e_st))), ((up_k (by omega)).trans ((k6 63 19 (by unfold WR1; omega)).trans ((up_k (by omega)).trans e_kn))), (Eq.trans (congrFun (x_up_n _ _ _ (by decide)) _) (Eq.trans (k6 62 24 (by decide)) (Eq.trans (congrFun (x_up_n _ _ _ (by decide)) _) e_pu))), (Eq.trans (congrFun (x_up_n _ _ _ (by decide)) _) (Eq.trans (k6 62 25 (by decide)) (Eq.trans (congrFun (x_up_n _ _ _ (by decide)) _) e_lf)))⟩⟩⟩⟩)
        · refine xr_bipush (v := 9) dX10_begun_49 rfl ?_
          refine xr_goto (tgt := 55) dX10_begun_51 rfl ?_
          refine xr_istore (ls2 := [(5, .int (9)), (4, .int ((D h_ 3))), (0, .ref (62)), (1, .int (nI (q))), (2, .int (nI (h_))), (3, .int (w))]) dX10_begun_55 (by decide) rfl ?_
          refine xr_iconst (v := 0) dX10_begun_57 rfl ?_
          refine xr_istore (ls2 := [(6, .int (0)), (5, .int (9)), (4, .int ((D h_ 3))), (0, .ref (62)), (1, .int (nI (q))), (2, .int (nI (h_))), (3, .int (w))]) dX10_begun_58 (by decide) rfl ?_
          refine xr_bipush (v := -2) dX10_begun_60 rfl ?_
          refine xr_istore (ls2 := [(7, .int ((-2))), (6, .int (0)), (5, .int (9)), (4, .int ((D h_ 3))), (0, .ref (62)), (1, .int (nI (q))), (2, .int (nI (h_))), (3, .int (w))]) dX10_begun_62 (by decide) rfl ?_
          refine xr_iload dX10_begun_64 2 rfl ?_
          refine xr_ineg dX10_begun_66 ?_
          refine xb_top (y := (-9)) (by decide) ?_
          refine xr_istore (ls2 := [(8, .int ((-9))), (7, .int ((-2))), (6, .int (0)), (5, .int (9)), (4, .int ((D h_ 3))), (0, .ref (62)), (1, .int (nI (q))), (2, .int (nI (h_))), (3, .int (w))]) dX10_begun_67 (by decide) rfl ?_
          refine xb_ls (ls2 := [(8, .int ((-9))), (7, .int ((-2))), (6, .int (0)), (5, .int (9)), (4, .int ((D h_ 3))), (3, .int (w)), (2, .int (nI (h_))), (1, .int (nI (q))), (0, .ref (62))]) [0, 1, 2, 3, 4, 8, 7, 6, 5] rfl ?_
          refine rbgx hq hh_ (fun z => absurd ((le0_eq hW hh_ (hA h_ hh_).2.2.2.2).mpr z) c3) hLL hn5 hrub hbt2 (bgL nh D t S G9 q h_ 19 0 (-2, 0)) e_hn e_nw e_rub e_bt e_ph e_st (LRt_k rfl rfl hL) (AbS_k hA (fun kl hkl => rfl) (fun kl => rfl) (fun kl => rfl) hn5) hW e_s hE (fun q11 q12 M13 k14 hEE => ?_) (19 - 0) 0 (-2) 0 M (by omega) Ke.rf ⟨rfl, fun _ _ => rfl⟩
          refine xr_aload_n dX10_begun_121 5 rfl ?_
          refine xr_getR flX10_9 dX10_begun_122 s_62 rfl ?_
          refine xr_bipush (v := 10) dX10_begun_125 rfl ?_
          refine xr_iload_n dX10_begun_127 4 rfl ?_
          refine xr_iadd dX10_begun_128 ?_
          refine xb_top (y := nI (10 + h_)) (nI_add (10) (h_)) ?_
          refine xr_iload dX10_begun_129 2 rfl ?_
          refine xb_iast (j := 10 + h_) dX10_begun_131 s_63 (by omega) (by decide) ?_
          refine xr_iload_n dX10_begun_132 3 rfl ?_
          refine xr_if_ne (tgt := 141) dX10_begun_133 rfl (fun c15 => ?_) (fun c15 => ?_)
          · refine xr_iload dX10_begun_141 0 rfl ?_
            exact xr_iret dX10_begun_143 rfl rfl (⟨_, rfl, rfl, rfl, (Ke.up (Or.inr (Or.inr (Or.inr (Or.inr (Or.inr (Or.inr (Or.inr (Or.inr (by omega))))))))) (Ke.tr (fun _ _ h => h) Ke.rf k14)), ⟨⟨⟨nh, by omega, (Eq.trans (congrFun (x_up_n _ _ _ (by decide)) _) (Eq.trans (k14 62 6 (by decide)) e_hn)), (fun kw hkw => by rw [show (x_up M13 63 (10 + h_) (D h_ 3)) 63 (5 + kw) = M 63 (5 + kw) from (Eq.trans (x_up_k _ _ _ (by omega)) (Eq.trans (k14 63 (5 + kw) (by unfold WRS; omega)) rfl))]; exact hw kw hkw)⟩, (by rw [show (x_up M13 63 (10 + h_) (D h_ 3)) 63 16 = M 63 16 from (Eq.trans (x_up_k _ _ _ (by omega)) (Eq.trans (k14 63 16 (by unfold WRS; omega)) rfl))]; exact hbt), ⟨un, wn, by omega, by omega, (Eq.trans (congrFun (x_up_n _ _ _ (by decide)) _) (Eq.trans (k14 62 5 (by decide)) e_un)), (Eq.trans (congrFun (x_up_n _ _ _ (by decide)) _) (Eq.trans (k14 62 4 (by decide)) e_wn))⟩, (fun kk hkk => by rw [show (x_up M13 63 (10 + h_) (D h_ 3)) 64 kk = M 64 kk from (Eq.trans (congrFun (x_up_n _ _ _ (by omega)) _) (Eq.trans (k14 64 kk (by unfold WRS; omega)) rfl)), show (x_up M13 63 (10 + h_) (D h_ 3)) 65 kk = M 65 kk from (Eq.trans (congrFun (x_up_n _ _ _ (by omega)) _) (Eq.trans (k14 65 kk (by unfold WRS; omega)) rfl)), show (x_up M13 63 (10 + h_) (D h_ 3)) 66 kk = M 66 kk from (Eq.trans (congrFun (x_up_n _ _ _ (by omega)) _) (Eq.trans (k14 66 kk (by unfold WRS; omega)) rfl))]; exact hch kk hkk), ⟨n, by omega, (Eq.trans (congrFun (x_up_n _ _ _ (by decide)) _) (Eq.trans (k14 62 11 (by decide)) e_n))⟩, (by rw [show (x_up M13 63 (10 + h_) (D h_ 3)) 62 13 = M 62 13 from (Eq.trans (congrFun (x_up_n _ _ _ (by omega)) _) (Eq.trans (k14 62 13 (by unfold WRS; omega)) rfl))]; exact htx), ⟨b, by omega, (Eq.trans (congrFun (x_up_n _ _ _ (by decide)) _) (Eq.trans (k14 62 36 (by decide)) e_b))⟩, (fun j hj => by obtain ⟨q, hq, eq⟩ := hkd j hj; exact ⟨q, hq, (show (x_up M13 63 (10 + h_) (D h_ 3)) 81 j = M 81 j from (Eq.trans (congrFun (x_up_n _ _ _ (by omega)) _) (Eq.trans (k14 81 j (by unfold WRS; omega)) rfl))).trans eq⟩), ⟨ra, by omega, (Eq.trans (congrFun (x_up_n _ _ _ (by decide)) _) (Eq.trans (k14 62 39 (by decide)) e_ra))⟩, (fun j hj => by rw [show (x_up M13 63 (10 + h_) (D h_ 3)) 83 j = M 83 j from (Eq.trans (congrFun (x_up_n _ _ _ (by omega)) _) (Eq.trans (k14 83 j (by unfold WRS; omega)) rfl)), show (x_up M13 63 (10 + h_) (D h_ 3)) 84 j = M 84 j from (Eq.trans (congrFun (x_up_n _ _ _ (by omega)) _) (Eq.trans (k14 84 j (by unfold WRS; omega)) rfl))]; exact hsl j hj), ⟨ic, by omega, (Eq.trans (congrFun (x_up_n _ _ _ (by decide)) _) (Eq.trans (k14 62 34 (by decide)) e_ic))⟩, (fun j hj => by obtain ⟨q, hq, eq⟩ := hS j hj; exact ⟨q, hq, (show (x_up M13 63 (10 + h_) (D h_ 3)) 75 j = M 75 j from (Eq.trans (congrFun (x_up_n _ _ _ (by omega)) _) (Eq.trans (k14 75 j (by unfold WRS; omega)) rfl))).trans eq⟩)⟩, ⟨((congrArg Prod.fst (bgF_u (fun z => absurd ((le0_eq hW hh_ (hA h_ hh_).2.2.2.2).mpr z) c3) hEE.1)).trans (if_neg c15).symm).trans (bgR_y hn5 hq hh_ c2 hkk), ⟨(Eq.trans (congrFun (x_up_n _ _ _ (by decide)) _) (Eq.trans (k14 62 6 (by decide)) e_hn)), (AbS_k hA (fun kl hkl => by
              by_cases q9 : kl = 10 + h_
              · subst q9; exact up_s.trans (hA h_ hh_).2.2.2.1.symm
              · exact (up_k q9).trans (hEE.2 kl q9)) (fun kl => (Eq.trans (congrFun (x_up_n _ _ _ (by decide)) _) (Eq.trans (k14 67 kl (by unfold WRS; omega)) rfl))) (fun kl => (Eq.trans (congrFun (x_up_n _ _ _ (by decide)) _) (Eq.trans (k14 68 kl (by unfold WRS; omega)) rfl))) hn5), (LRt_k (Eq.trans (congrFun (x_up_n _ _ _ (by decide)) _) (Eq.trans (k14 62 13 (by unfold WRS; omega)) rfl)) (Eq.trans (x_up_n _ _ _ (by decide)) (Eq.trans (funext fun kk => k14 70 kk (by unfold WRS; omega)) rfl)) hL), (Eq.trans (congrFun (x_up_n _ _ _ (by decide)) _) (Eq.trans (k14 62 9 (by decide)) e_nw)), ((up_k (by omega)).trans ((hEE.2 15 (by omega)).trans e_rub)), ((up_k (by omega)).trans ((hEE.2 16 (by omega)).trans e_bt)), ((up_k (by omega)).trans ((hEE.2 17 (by omega)).trans e_ph)), ((up_k (by omega)).trans ((hEE.2 18 (by omega)).trans e_st)), ((up_k (by omega)).trans ((hEE.2 19 (by omega)).trans e_kn)), (Eq.trans (congrFun (x_up_n _ _ _ (by decide)) _) (Eq.trans (k14 62 24 (by decide)) e_pu)), (Eq.trans (congrFun (x_up_n _ _ _ (by decide)) _) (Eq.trans (k14 62 25 (by decide)) e_lf))⟩⟩⟩⟩)
          · refine xr_iload dX10_begun_136 1 rfl ?_
            refine xr_goto (tgt := 143) dX10_begun_138 rfl ?_
            exact xr_iret dX10_begun_143 rfl rfl (⟨_, rfl, rfl, rfl, (Ke.up (Or.inr (Or.inr (Or.inr (Or.inr (Or.inr (Or.inr (Or.inr (Or.inr (by omega))))))))) (Ke.tr (fun _ _ h => h) Ke.rf k14)), ⟨⟨⟨nh, by omega, (Eq.trans (congrFun (x_up_n _ _ _ (by decide)) _) (Eq.trans (k14 62 6 (by decide)) e_hn)), (fun kw hkw => by rw [show (x_up M13 63 (10 + h_) (D h_ 3)) 63 (5 + kw) = M 63 (5 + kw) from (Eq.trans (x_up_k _ _ _ (by omega)) (Eq.trans (k14 63 (5 + kw) (by unfold WRS; omega)) rfl))]; exact hw kw hkw)⟩, (by rw [show (x_up M13 63 (10 + h_) (D h_ 3)) 63 16 = M 63 16 from (Eq.trans (x_up_k _ _ _ (by omega)) (Eq.trans (k14 63 16 (by unfold WRS; omega)) rfl))]; exact hbt), ⟨un, wn, by omega, by omega, (Eq.trans (congrFun (x_up_n _ _ _ (by decide)) _) (Eq.trans (k14 62 5 (by decide)) e_un)), (Eq.trans (congrFun (x_up_n _ _ _ (by decide)) _) (Eq.trans (k14 62 4 (by decide)) e_wn))⟩, (fun kk hkk => by rw [show (x_up M13 63 (10 + h_) (D h_ 3)) 64 kk = M 64 kk from (Eq.trans (congrFun (x_up_n _ _ _ (by omega)) _) (Eq.trans (k14 64 kk (by unfold WRS; omega)) rfl)), show (x_up M13 63 (10 + h_) (D h_ 3)) 65 kk = M 65 kk from (Eq.trans (congrFun (x_up_n _ _ _ (by omega)) _) (Eq.trans (k14 65 kk (by unfold WRS; omega)) rfl)), show (x_up M13 63 (10 + h_) (D h_ 3)) 66 kk = M 66 kk from (Eq.trans (congrFun (x_up_n _ _ _ (by omega)) _) (Eq.trans (k14 66 kk (by unfold WRS; omega)) rfl))]; exact hch kk hkk), ⟨n, by omega, (Eq.trans (congrFun (x_up_n _ _ _ (by decide)) _) (Eq.trans (k14 62 11 (by decide)) e_n))⟩, (by rw [show (x_up M13 63 (10 + h_) (D h_ 3)) 62 13 = M 62 13 from (Eq.trans (congrFun (x_up_n _ _ _ (by omega)) _) (Eq.trans (k14 62 13 (by unfold WRS; omega)) rfl))]; exact htx), ⟨b, by omega, (Eq.trans (congrFun (x_up_n _ _ _ (by decide)) _) (Eq.trans (k14 62 36 (by decide)) e_b))⟩, (fun j hj => by obtain ⟨q, hq, eq⟩ := hkd j hj; exact ⟨q, hq, (show (x_up M13 63 (10 + h_) (D h_ 3)) 81 j = M 81 j from (Eq.trans (congrFun (x_up_n _ _ _ (by omega)) _) (Eq.trans (k14 81 j (by unfold WRS; omega)) rfl))).trans eq⟩), ⟨ra, by omega, (Eq.trans (congrFun (x_up_n _ _ _ (by decide)) _) (Eq.trans (k14 62 39 (by decide)) e_ra))⟩, (fun j hj => by rw [show (x_up M13 63 (10 + h_) (D h_ 3)) 83 j = M 83 j from (Eq.trans (congrFun (x_up_n _ _ _ (by omega)) _) (Eq.trans (k14 83 j (by unfold WRS; omega)) rfl)), show (x_up M13 63 (10 + h_) (D h_ 3)) 84 j = M 84 j from (Eq.trans (congrFun (x_up_n _ _ _ (by omega)) _) (Eq.trans (k14 84 j (by unfold WRS; omega)) rfl))]; exact hsl j hj), ⟨ic, by omega, (Eq.trans (congrFun (x_up_n _ _ _ (by decide)) _) (Eq.trans (k14 62 34 (by decide)) e_ic))⟩, (fun j hj => by obtain ⟨q, hq, eq⟩ := hS j hj; exact ⟨q, hq, (show (x_up M13 63 (10 + h_) (D h_ 3)) 75 j = M 75 j from (Eq.trans (congrFun (x_up_n _ _ _ (by omega)) _) (Eq.trans (k14 75 j (by unfold WRS; omega)) rfl))).trans eq⟩)⟩, ⟨((congrArg Prod.snd (bgF_u (fun z => absurd ((le0_eq hW hh_ (hA h_ hh_).2.2.2.2).mpr z) c3) hEE.1)).trans (if_pos c15).symm).trans (bgR_y hn5 hq hh_ c2 hkk), ⟨(Eq.trans (congrFun (x_up_n _ _ _ (by decide)) _) (Eq.trans (k14 62 6 (by decide)) e_hn)), (AbS_k hA (fun kl hkl => by
              by_cases q9 : kl = 10 + h_
              · subst q9; exact up_s.trans (hA h_ hh_).2.2.2.1.symm
              · exact (up_k q9).trans (hEE.2 kl q9)) (fun kl => (Eq.trans (congrFun (x_up_n _ _ _ (by decide)) _) (Eq.trans (k14 67 kl (by unfold WRS; omega)) rfl))) (fun kl => (Eq.trans (congrFun (x_up_n _ _ _ (by decide)) _) (Eq.trans (k14 68 kl (by unfold WRS; omega)) rfl))) hn5), (LRt_k (Eq.trans (congrFun (x_up_n _ _ _ (by decide)) _) (Eq.trans (k14 62 13 (by unfold WRS; omega)) rfl)) (Eq.trans (x_up_n _ _ _ (by decide)) (Eq.trans (funext fun kk => k14 70 kk (by unfold WRS; omega)) rfl)) hL), (Eq.trans (congrFun (x_up_n _ _ _ (by decide)) _) (Eq.trans (k14 62 9 (by decide)) e_nw)), ((up_k (by omega)).trans ((hEE.2 15 (by omega)).trans e_rub)), ((up_k (by omega)).trans ((hEE.2 16 (by omega)).trans e_bt)), ((up_k (by omega)).trans ((hEE.2 17 (by omega)).trans e_ph)), ((up_k (by omega)).trans ((hEE.2 18 (by omega)).trans e_st)), ((up_k (by omega)).trans ((hEE.2 19 (by omega)).trans e_kn)), (Eq.trans (congrFun (x_up_n _ _ _ (by decide)) _) (Eq.trans (k14 62 24 (by decide)) e_pu)), (Eq.trans (congrFun (x_up_n _ _ _ (by decide)) _) (Eq.trans (k14 62 25 (by decide)) e_lf))⟩⟩⟩⟩)
      · refine xr_ldc coX10_140 dX10_begun_26 ?_
        exact xr_iret dX10_begun_28 rfl rfl (⟨_, rfl, rfl, rfl, Ke.rf, ⟨⟨⟨nh, by omega, e_hn, (fun kw hkw => by rw [show M 63 (5 + kw) = M 63 (5 + kw) from rfl]; exact hw kw hkw)⟩, (by rw [show M 63 16 = M 63 16 from rfl]; exact hbt), ⟨un, wn, by omega, by omega, e_un, e_wn⟩, (fun kk hkk => by rw [show M 64 kk = M 64 kk from rfl, show M 65 kk = M 65 kk from rfl, show M 66 kk = M 66 kk from rfl]; exact hch kk hkk), ⟨n, by omega, e_n⟩, (by rw [show M 62 13 = M 62 13 from rfl]; exact htx), ⟨b, by omega, e_b⟩, (fun j hj => by obtain ⟨q, hq, eq⟩ := hkd j hj; exact ⟨q, hq, (show M 81 j = M 81 j from rfl).trans eq⟩), ⟨ra, by omega, e_ra⟩, (fun j hj => by rw [show M 83 j = M 83 j from rfl, show M 84 j = M 84 j from rfl]; exact hsl j hj), ⟨ic, by omega, e_ic⟩, (fun j hj => by obtain ⟨q, hq, eq⟩ := hS j hj; exact ⟨q, hq, (show M 75 j = M 75 j from rfl).trans eq⟩)⟩, ⟨bgR_n (fun z => c2 z.2.1), hG0⟩⟩⟩)
  · refine xb_top (y := (-12)) ((if_neg h0).trans (if_neg h2)) ?_
    refine xr_if_lt (tgt := 26) dX10_begun_5 rfl (fun _ => ?_) (fun c => absurd (by decide) c)
    refine xr_ldc coX10_140 dX10_begun_26 ?_
    exact xr_iret dX10_begun_28 rfl rfl (⟨_, rfl, rfl, rfl, Ke.rf, ⟨⟨⟨nh, by omega, e_hn, (fun kw hkw => by rw [show M 63 (5 + kw) = M 63 (5 + kw) from rfl]; exact hw kw hkw)⟩, (by rw [show M 63 16 = M 63 16 from rfl]; exact hbt), ⟨un, wn, by omega, by omega, e_un, e_wn⟩, (fun kk hkk => by rw [show M 64 kk = M 64 kk from rfl, show M 65 kk = M 65 kk from rfl, show M 66 kk = M 66 kk from rfl]; exact hch kk hkk), ⟨n, by omega, e_n⟩, (by rw [show M 62 13 = M 62 13 from rfl]; exact htx), ⟨b, by omega, e_b⟩, (fun j hj => by obtain ⟨q, hq, eq⟩ := hkd j hj; exact ⟨q, hq, (show M 81 j = M 81 j from rfl).trans eq⟩), ⟨ra, by omega, e_ra⟩, (fun j hj => by rw [show M 83 j = M 83 j from rfl, show M 84 j = M 84 j from rfl]; exact hsl j hj), ⟨ic, by omega, e_ic⟩, (fun j hj => by obtain ⟨q, hq, eq⟩ := hS j hj; exact ⟨q, hq, (show M 75 j = M 75 j from rfl).trans eq⟩)⟩, ⟨bgR_n (fun z => by have z2 := z.2.2; rw [w_ix_n (by omega), hkk] at z2; exact absurd z2 (by decide)), hG0⟩⟩⟩)
set_option maxRecDepth 100000 in
set_option maxHeartbeats 4000000 in
theorem gxzn_X10_begun {nh : Nat} {D : xM} {t : Option zL} {S : Nat → Int32} {G9 : xQs} (d h w : Int32) {l : Launch} {G : xG} {M : xM} {J : xJ} (hI : InvR M) (hWG : WG nh D S) (hG : RG M nh D t S) (hSh : RSh M J G9) (hWS : WSh G9) (hd : ¬ (0 ≤ d ∧ d ≤ 5)) : x_M l G fX10_begun 63 0 0 [.ref (62), .int (d), .int (h), .int (w)] x_SH M J (qKI WRS M J (fun r M2 => InvR M2 ∧ (r = bgR nh D t S G9 d h w ∧ RG M2 nh D t S))) := by
  refine xb_of pX10 (Nat.le_of_ble_eq_true rfl) rfl ?_
  obtain ⟨⟨hn, h_hn, e_hn, hw⟩, hbt, ⟨un, wn, h_uw, h_wn, e_un, e_wn⟩, hch, ⟨n, h_n, e_n⟩, htx, ⟨b, h_b, e_b⟩, hkd, ⟨ra, h_ra, e_ra⟩, hsl, ⟨ic, h_ic, e_ic⟩, hS⟩ := hI
  have hG0 := hG
  obtain ⟨hn5, hW, hrub, hbeat⟩ := hWG
  obtain ⟨hGn, hA, hL, e_nw, e_rub, e_bt, e_ph, e_st, e_kn, e_pu, e_lf⟩ := hG
  obtain rfl : nh = hn := (nI_eq (by omega) (by omega)).mp (hGn.symm.trans e_hn)
  have hbt2 : ¬ S 2 = 0 := ne2_0 hbeat.1
  refine xr_aload_n dX10_begun_0 0 rfl ?_
  refine xr_iload_n dX10_begun_1 1 rfl ?_
  refine xb_cV (As := [.int (d)]) (rest := []) mlX10_285 (gw_X10_rowIs_n hd) dX10_begun_2 s_62 rfl rfl (Nat.le_of_ble_eq_true rfl) (by decide) (by decide) ?_
  refine xr_if_lt (tgt := 26) dX10_begun_5 rfl (fun _ => ?_) (fun c => absurd (by decide) c)
  refine xr_ldc coX10_140 dX10_begun_26 ?_
  exact xr_iret dX10_begun_28 rfl rfl (⟨_, rfl, rfl, rfl, Ke.rf, ⟨⟨⟨nh, by omega, e_hn, (fun kw hkw => by rw [show M 63 (5 + kw) = M 63 (5 + kw) from rfl]; exact hw kw hkw)⟩, (by rw [show M 63 16 = M 63 16 from rfl]; exact hbt), ⟨un, wn, by omega, by omega, e_un, e_wn⟩, (fun kk hkk => by rw [show M 64 kk = M 64 kk from rfl, show M 65 kk = M 65 kk from rfl, show M 66 kk = M 66 kk from rfl]; exact hch kk hkk), ⟨n, by omega, e_n⟩, (by rw [show M 62 13 = M 62 13 from rfl]; exact htx), ⟨b, by omega, e_b⟩, (fun j hj => by obtain ⟨q, hq, eq⟩ := hkd j hj; exact ⟨q, hq, (show M 81 j = M 81 j from rfl).trans eq⟩), ⟨ra, by omega, e_ra⟩, (fun j hj => by rw [show M 83 j = M 83 j from rfl, show M 84 j = M 84 j from rfl]; exact hsl j hj), ⟨ic, by omega, e_ic⟩, (fun j hj => by obtain ⟨q, hq, eq⟩ := hS j hj; exact ⟨q, hq, (show M 75 j = M 75 j from rfl).trans eq⟩)⟩, ⟨bgR_n (fun z => hd z.1.1), hG0⟩⟩⟩)
theorem gx_X10_begun (d h w : Int32) {nh : Nat} {D : xM} {t : Option zL} {S : Nat → Int32} {G9 : xQs} {l : Launch} {G : xG} {M : xM} {J : xJ} (hI : InvR M) (hWG : WG nh D S) (hG : RG M nh D t S) (hSh : RSh M J G9) (hWS : WSh G9) : x_M l G fX10_begun 63 0 0 [.ref (62), .int (d), .int (h), .int (w)] x_SH M J (qKI WRS M J (fun r M2 => InvR M2 ∧ (r = bgR nh D t S G9 d h w ∧ RG M2 nh D t S))) := by
  by_cases hd : 0 ≤ d ∧ d ≤ 5
  · obtain ⟨q, hq, rfl⟩ := x_natle (v := d) (N := 5) (K := 5) (by decide) (by decide) hd
    exact gxzq_X10_begun h w hI hWG hG hSh hWS (by omega)
  · exact gxzn_X10_begun d h w hI hWG hG hSh hWS hd
set_option maxRecDepth 100000 in
set_option maxHeartbeats 4000000 in
theorem rmux {P : xP} {nw : Int32} (hP : WP P) {se : Int32} {D : xM} (hs : ∀ k, k < P.1 → (w_in se k ↔ ¬ D k 4 = 0)) {q L : Nat} {E : Nat → Int64} (hq : q < 6) (hLL : L ≤ 60) (hw : ∀ j, j < 60 → ∃ w : Int32, E j = w.toInt64) (T : Nat) {l : Launch} {G : xG} {M : xM} {J : xJ} {Q : xQ} (e_nw : M 62 9 = nw) (e_s : M 84 q = nI L) (hE : ∀ j, j < 60 → J 85 (60 * q + j) = E j) (hR : ∀ (r : Int32) (M2 : xM), Ke WR1 M M2 → r = nI T → Q (some (.int r)) x_SH M2 J) (hC : ∀ (du : Int64) (nx : Int32) (M2 : xM), Ke WR1 M M2 → (200 = T) → x_X l G fX10_music 61 0 0 Q 187 [(0, .ref (62))] [] x_SH M2 J 0 0) : ∀ (m k : Nat) (du : Int64) (nx : Int32) (M1 : xM), k + m = 200 → Ke WR1 M M1 → (∃ D1 d x, du = dJ d ∧ nx = nI x ∧ x ≤ k ∧ d < 2 ^ 32 ∧ TR M1 P D1 ∧ mo D D1 ∧ muF P (upn P.1 D) (gpN L E) (200 - k) k d x (nw + nI (k)) D1 = T) → x_X l G fX10_music 61 0 0 Q 69 [(6, .int (nI (k))), (4, .long (du)), (3, .int (nx)), (2, .int (se)), (1, .int (nI (q))), (0, .ref (62))] [] x_SH M1 J 0 0 := by
  intro m
  induction m with
  | zero =>
    intro k du nx M1 hk hM hI
    obtain ⟨D1, d, x, rfl, rfl, hxk, hdd, hT1, hm1, hR1⟩ := hI
    refine xr_iload dX10_music_69 0 rfl ?_
    refine xr_sipush (v := 200) dX10_music_71 rfl ?_
    refine xr_icmp_ge (tgt := 187) dX10_music_74 rfl (fun _ => ?_) (fun c => absurd (nI_le (a := 200) (b := k) (by omega) (by omega)) c)
    refine xb_ls (ls2 := [(0, .ref (62))]) [5] rfl ?_
    exact hC (dJ d) (nI (x)) _ hM (by obtain rfl : k = 200 := (by omega); exact hR1)
  | succ m ih =>
    intro k du nx M1 hk hM hI
    have hkN : k < 200 := by omega
    obtain ⟨D1, d, x, rfl, rfl, hxk, hdd, hT1, hm1, hR1⟩ := hI
    refine xr_iload dX10_music_69 0 rfl ?_
    refine xr_sipush (v := 200) dX10_music_71 rfl ?_
    refine xr_icmp_ge (tgt := 187) dX10_music_74 rfl (fun c => absurd c (nI_ge (a := k) (b := 200) (by omega) (by omega))) (fun _ => ?_)
    refine xr_iload dX10_music_77 0 rfl ?_
    refine xr_i2l dX10_music_79 ?_
    refine xr_lload dX10_music_80 1 rfl ?_
    refine xr_lcmp dX10_music_82 ?_
    refine xl_ne (tgt := 159) dX10_music_83 rfl (fun c1 => ?_) (fun c1 => ?_)
    · have hkd : ¬ k = d := fun z => c1 ((dJ_eq (by omega) hdd).mpr z)
      have hTa : TR M1 P (muD P k d x D1) := TR_e hT1 (by unfold muD; rw [if_neg hkd])
      refine xr_aload_n dX10_music_159 5 rfl ?_
      refine xr_aload_n dX10_music_160 5 rfl ?_
      refine xb_get (v := nw) flX10_151 dX10_music_161 s_62 rfl (Eq.trans (hM 62 9 (by decide)) e_nw) ?_
      refine xr_iload dX10_music_164 0 rfl ?_
      refine xr_iadd dX10_music_166 ?_
      refine xr_callV (As := [.int ((nw + (nI (k))))]) (rest := []) mlX10_240 (gw_X10_turns (nw + (nI (k))) hP.1 hTa.1.1 hTa.2.1 hTa.1.2.1 hTa.1.2.2.1) dX10_music_167 s_62 rfl rfl (Nat.le_of_ble_eq_true rfl) (by decide) ⟨by decide, by decide⟩ (fun v s2 M3 J2 hq => ?_)
      obtain ⟨rfl, rfl, rfl, k4, hx2⟩ := hq
      try dsimp only [Option.toList, List.cons_append, List.nil_append]
      have hT5 : TR M3 P (seT P.1 P.2.2.1 (nw + (nI (k))) (muD P k d x D1)) := TR_w hTa hx2 (WF_seT hTa.1.2.2.1) (k4 62 6 (by decide)) (k4 62 13 (by decide)) (fun kl => k4 63 kl (by unfold WTU; omega)) (fun kl => k4 70 kl (by unfold WTU; omega))
      refine xr_aload_n dX10_music_170 5 rfl ?_
      refine xr_iload_n dX10_music_171 3 rfl ?_
      refine xr_callV (As := [.int (se)]) (rest := []) mlX10_252 (gw_X10_lyingOf se (D := muT P k d x (nw + nI k) D1) (hn := P.1) hP.1 hT5.1.1 hT5.1.2.1) dX10_music_172 s_62 rfl rfl (Nat.le_of_ble_eq_true rfl) (by decide) ⟨by decide, by decide⟩ (fun v s2 M9 J2 hq => ?_)
      obtain ⟨r7, rfl, rfl, rfl, rfl, hx6⟩ := hq
      try dsimp only [Option.toList, List.cons_append, List.nil_append]
      subst hx6
      refine xr_if_le (tgt := 181) dX10_music_175 rfl (fun c8 => ?_) (fun c8 => ?_)
      · refine xr_iinc (v := nI (k + 1)) (ls2 := [(6, .int (nI (k + 1))), (4, .long ((dJ d))), (3, .int (nI (x))), (2, .int (se)), (1, .int (nI (q))), (0, .ref (62))]) dX10_music_181 0 rfl (nI_1 _) (by decide) rfl ?_
        refine xr_goto (tgt := 69) dX10_music_184 rfl ?_
        refine xb_ls (ls2 := [(6, .int (nI (k + 1))), (4, .long ((dJ d))), (3, .int (nI (x))), (2, .int (se)), (1, .int (nI (q))), (0, .ref (62))]) [0, 1, 2, 3, 4, 5] rfl ?_
        exact ih (k + 1) (dJ d) (nI (x)) M3 (by omega) (Ke.tr (fun pp kk h => (Or.inr (Or.inr (Or.inr (Or.inr (Or.inr (Or.inr (Or.inr (by omega))))))))) hM k4) ⟨muT P k d x (nw + nI k) D1, _, _, rfl, rfl, by omega, by omega, hT5, mo_tr hm1 muT_m, by have z := (muF_n hkN (ly_n2 hP.1 hs (mo_tr hm1 muT_m) c8)).trans hR1; rw [show muG (gpN L E) k d x = _ from if_neg hkd, show muX k d x = _ from if_neg hkd, now_s] at z; exact z⟩
      · refine xr_iload dX10_music_178 0 rfl ?_
        exact xr_iret dX10_music_180 rfl rfl ((hR _ _ (Ke.tr (fun pp kk h => (Or.inr (Or.inr (Or.inr (Or.inr (Or.inr (Or.inr (Or.inr (by omega))))))))) hM k4) (by rw [← (muF_y hkN (ly_y2 hP.1 hs (mo_tr hm1 muT_m) c8)).symm.trans hR1])))
    · refine xr_aload_n dX10_music_86 5 rfl ?_
      refine xr_iload_n dX10_music_87 2 rfl ?_
      refine xr_iconst (v := 2) dX10_music_88 rfl ?_
      refine xr_irem dX10_music_89 (by decide) ?_
      refine xr_if_ne (tgt := 97) dX10_music_90 rfl (fun c9 => ?_) (fun c9 => ?_)
      · refine xr_bipush (v := 12) dX10_music_97 rfl ?_
        refine xb_top (y := w_g2 x) ((if_neg c9).symm.trans (w_g2_c (by omega))) ?_
        refine xr_aload_n dX10_music_99 5 rfl ?_
        refine xr_getR flX10_9 dX10_music_100 s_62 rfl ?_
        refine xr_bipush (v := 18) dX10_music_103 rfl ?_
        refine xb_iald (j := 18) (v := M1 63 18) dX10_music_105 s_63 (by decide) (by decide) rfl ?_
        refine xb_top (y := P.2.2.2.2.2) hT1.2.2.2.2 ?_
        refine xr_callV (As := [.int ((w_g2 x)), .int (P.2.2.2.2.2)]) (rest := []) mlX10_234 (gw_X10_pushes (w_g2 x) P.2.2.2.2.2 hP.1 hT1.1.1 hT1.1.2.2.2 hT1.1.2.1 hT1.1.2.2.1) dX10_music_106 s_62 rfl rfl (Nat.le_of_ble_eq_true rfl) (by decide) ⟨by decide, by decide⟩ (fun v s2 M11 J2 hq => ?_)
        obtain ⟨rfl, rfl, rfl, k12, hx10⟩ := hq
        try dsimp only [Option.toList, List.cons_append, List.nil_append]
        have hT13 : TR M11 P (puL P.2.1 P.2.2.2.2.2 (w_g2 x) P.1 0 D1) := TR_w hT1 hx10 (WF_puL _ _ _ hT1.1.2.2.1) (k12 62 6 (by decide)) (k12 62 13 (by decide)) (fun kl => k12 63 kl (by unfold WRP; omega)) (fun kl => k12 70 kl (by unfold WRP; omega))
        refine xr_iinc (v := nI (x + 1)) (ls2 := [(3, .int (nI (x + 1))), (6, .int (nI (k))), (4, .long ((dJ d))), (2, .int (se)), (1, .int (nI (q))), (0, .ref (62))]) dX10_music_109 2 rfl (nI_1 _) (by decide) rfl ?_
        refine xr_iload_n dX10_music_112 0 rfl ?_
        refine xr_aload_n dX10_music_113 5 rfl ?_
        refine xr_getR flX10_78 dX10_music_114 s_62 rfl ?_
        refine xr_iload_n dX10_music_117 4 rfl ?_
        refine xb_iald (j := q) (v := nI (L)) dX10_music_118 s_84 hq (by decide) (Eq.trans (k12 84 q (by unfold WRP; omega)) (Eq.trans (hM 84 q (by unfold WR1; omega)) e_s)) ?_
        refine xr_icmp_ge (tgt := 136) dX10_music_119 rfl (fun c14 => ?_) (fun c14 => ?_)
        · have nc14 : L ≤ x + 1 := (nI_leI (a := L) (b := x + 1) (by omega) (by omega)).mp c14
          refine xr_lconst (v := 0) dX10_music_136 rfl ?_
          refine xr_lstore (ls2 := [(7, .long (0)), (3, .int (nI (x + 1))), (6, .int (nI (k))), (4, .long ((dJ d))), (2, .int (se)), (1, .int (nI (q))), (0, .ref (62))]) dX10_music_137 (by decide) rfl ?_
          refine xr_lload dX10_music_139 0 rfl ?_
          refine xr_lconst (v := 1) dX10_music_141 rfl ?_
          refine xr_lcmp dX10_music_142 ?_
          refine xl_lt (tgt := 154) dX10_music_143 rfl (fun _ => ?_) (fun c => absurd (by decide) c)
          refine xr_ldc2 coX10_288 dX10_music_154 ?_
          have hkd9 : k = d := (dJ_eq (by omega) hdd).mp c1
          have hg9 := gpN_b (j := x + 1) hLL hw
          refine xb_topJ (y := dJ (duN k (gpN L E (x + 1)))) (dJ_0 (gpN_n (fun z => absurd z.1 (by omega)))) ?_
          have hdb := du_b (k := k) (by omega) hg9
          refine xr_lstore (ls2 := [(4, .long ((dJ (duN k (gpN L E (x + 1)))))), (7, .long (0)), (3, .int (nI (x + 1))), (6, .int (nI (k))), (2, .int (se)), (1, .int (nI (q))), (0, .ref (62))]) dX10_music_157 (by decide) rfl ?_
          have hkd : k = d := (dJ_eq (by omega) hdd).mp c1
          have hTa : TR M11 P (muD P k d x D1) := TR_e hT13 (by unfold muD; rw [if_pos hkd]; rfl)
          refine xr_aload_n dX10_music_159 6 rfl ?_
          refine xr_aload_n dX10_music_160 6 rfl ?_
          refine xb_get (v := nw) flX10_151 dX10_music_161 s_62 rfl (Eq.trans (k12 62 9 (by decide)) (Eq.trans (hM 62 9 (by decide)) e_nw)) ?_
          refine xr_iload dX10_music_164 3 rfl ?_
          refine xr_iadd dX10_music_166 ?_
          refine xr_callV (As := [.int ((nw + (nI (k))))]) (rest := []) mlX10_240 (gw_X10_turns (nw + (nI (k))) hP.1 hTa.1.1 hTa.2.1 hTa.1.2.1 hTa.1.2.2.1) dX10_music_167 s_62 rfl rfl (Nat.le_of_ble_eq_true rfl) (by decide) ⟨by decide, by decide⟩ (fun v s2 M16 J2 hq => ?_)
          obtain ⟨rfl, rfl, rfl, k17, hx15⟩ := hq
          try dsimp only [Option.toList, List.cons_append, List.nil_append]
          have hT18 : TR M16 P (seT P.1 P.2.2.1 (nw + (nI (k))) (muD P k d x D1)) := TR_w hTa hx15 (WF_seT hTa.1.2.2.1) (k17 62 6 (by decide)) (k17 62 13 (by decide)) (fun kl => k17 63 kl (by unfold WTU; omega)) (fun kl => k17 70 kl (by unfold WTU; omega))
          refine xr_aload_n dX10_music_170 6 rfl ?_
          refine xr_iload_n dX10_music_171 4 rfl ?_
          refine xr_callV (As := [.int (se)]) (rest := []) mlX10_252 (gw_X10_lyingOf se (D := muT P k d x (nw + nI k) D1) (hn := P.1) hP.1 hT18.1.1 hT18.1.2.1) dX10_music_172 s_62 rfl rfl (Nat.le_of_ble_eq_true rfl) (by decide) ⟨by decide, by decide⟩ (fun v s2 M9 J2 hq => ?_)
          obtain ⟨r20, rfl, rfl, rfl, rfl, hx19⟩ := hq
          try dsimp only [Option.toList, List.cons_append, List.nil_append]
          subst hx19
          refine xr_if_le (tgt := 181) dX10_music_175 rfl (fun c21 => ?_) (fun c21 => ?_)
          · refine xr_iinc (v := nI (k + 1)) (ls2 := [(6, .int (nI (k + 1))), (4, .long ((dJ (duN k (gpN L E (x + 1)))))), (7, .long (0)), (3, .int (nI (x + 1))), (2, .int (se)), (1, .int (nI (q))), (0, .ref (62))]) dX10_music_181 3 rfl (nI_1 _) (by decide) rfl ?_
            refine xr_goto (tgt := 69) dX10_music_184 rfl ?_
            refine xb_ls (ls2 := [(6, .int (nI (k + 1))), (4, .long ((dJ (duN k (gpN L E (x + 1)))))), (3, .int (nI (x + 1))), (2, .int (se)), (1, .int (nI (q))), (0, .ref (62))]) [0, 1, 3, 4, 5, 6] rfl ?_
            exact ih (k + 1) (dJ (duN k (gpN L E (x + 1)))) (nI (x + 1)) M16 (by omega) (Ke.tr (fun pp kk h => (Or.inr (Or.inr (Or.inr (Or.inr (Or.inr (Or.inr (Or.inr (by omega))))))))) (Ke.tr (fun pp kk => (fun hh => Or.elim hh (fun h => (Or.inl h)) (fun hh => Or.elim hh (fun h => (Or.inr (Or.inl h))) (fun hh => Or.elim hh (fun h => (Or.inr (Or.inr (Or.inl h)))) (fun hh => Or.elim hh (fun h => (Or.inr (Or.inr (Or.inr (Or.inl h))))) (fun hh => Or.elim hh (fun h => (Or.inr (Or.inr (Or.inr (Or.inr (Or.inl h)))))) (fun hh => Or.elim hh (fun h => (Or.inr (Or.inr (Or.inr (Or.inr (Or.inr (Or.inr (Or.inr (by omega))))))))) (fun h => (Or.inr (Or.inr (Or.inr (Or.inr (Or.inr (Or.inr (Or.inr (by omega)))))))))))))))) hM k12) k17) ⟨muT P k d x (nw + nI k) D1, _, _, rfl, rfl, by omega, by omega, hT18, mo_tr hm1 muT_m, by have z := (muF_n hkN (ly_n2 hP.1 hs (mo_tr hm1 muT_m) c21)).trans hR1; rw [show muG (gpN L E) k d x = _ from if_pos hkd, show muX k d x = _ from if_pos hkd, now_s] at z; exact z⟩
          · refine xr_iload dX10_music_178 3 rfl ?_
            exact xr_iret dX10_music_180 rfl rfl ((hR _ _ (Ke.tr (fun pp kk h => (Or.inr (Or.inr (Or.inr (Or.inr (Or.inr (Or.inr (Or.inr (by omega))))))))) (Ke.tr (fun pp kk => (fun hh => Or.elim hh (fun h => (Or.inl h)) (fun hh => Or.elim hh (fun h => (Or.inr (Or.inl h))) (fun hh => Or.elim hh (fun h => (Or.inr (Or.inr (Or.inl h)))) (fun hh => Or.elim hh (fun h => (Or.inr (Or.inr (Or.inr (Or.inl h))))) (fun hh => Or.elim hh (fun h => (Or.inr (Or.inr (Or.inr (Or.inr (Or.inl h)))))) (fun hh => Or.elim hh (fun h => (Or.inr (Or.inr (Or.inr (Or.inr (Or.inr (Or.inr (Or.inr (by omega))))))))) (fun h => (Or.inr (Or.inr (Or.inr (Or.inr (Or.inr (Or.inr (Or.inr (by omega)))))))))))))))) hM k12) k17) (by rw [← (muF_y hkN (ly_y2 hP.1 hs (mo_tr hm1 muT_m) c21)).symm.trans hR1])))
        · have nc14 : ¬ (L ≤ x + 1) := fun q => c14 ((nI_leI (a := L) (b := x + 1) (by omega) (by omega)).mpr q)
          refine xr_aload_n dX10_music_122 5 rfl ?_
          refine xr_getR flX10_81 dX10_music_123 s_62 rfl ?_
          refine xr_bipush (v := 60) dX10_music_126 rfl ?_
          refine xr_iload_n dX10_music_128 4 rfl ?_
          refine xr_imul dX10_music_129 ?_
          refine xb_top (y := nI (60 * q)) (nI_mulc 60 q) ?_
          refine xr_iload_n dX10_music_130 0 rfl ?_
          refine xr_iadd dX10_music_131 ?_
          refine xb_top (y := nI (60 * q + x + 1)) (nI_add (60 * q) (x + 1)) ?_
          refine xb_lald (j := 60 * q + x + 1) (v := J 85 (60 * q + x + 1)) dX10_music_132 s_85 (by omega) (by decide) rfl ?_
          refine xr_goto (tgt := 137) dX10_music_133 rfl ?_
          refine xr_lstore (ls2 := [(7, .long (J 85 (60 * q + x + 1))), (3, .int (nI (x + 1))), (6, .int (nI (k))), (4, .long ((dJ d))), (2, .int (se)), (1, .int (nI (q))), (0, .ref (62))]) dX10_music_137 (by decide) rfl ?_
          refine xr_lload dX10_music_139 0 rfl ?_
          refine xr_lconst (v := 1) dX10_music_141 rfl ?_
          refine xr_lcmp dX10_music_142 ?_
          refine xl_lt (tgt := 154) dX10_music_143 rfl (fun c22 => ?_) (fun c22 => ?_)
          · refine xr_ldc2 coX10_288 dX10_music_154 ?_
            have hkd9 : k = d := (dJ_eq (by omega) hdd).mp c1
            have hg9 := gpN_b (j := x + 1) hLL hw
            refine xb_topJ (y := dJ (duN k (gpN L E (x + 1)))) (dJ_0 (gpN_n (fun z => absurd ((show J 85 (60 * q + x + 1) = E (x + 1) from hE (x + 1) (by omega)) ▸ c22) (Int64.not_lt.mpr z.2)))) ?_
            have hdb := du_b (k := k) (by omega) hg9
            refine xr_lstore (ls2 := [(4, .long ((dJ (duN k (gpN L E (x + 1)))))), (7, .long (J 85 (60 * q + x + 1))), (3, .int (nI (x + 1))), (6, .int (nI (k))), (2, .int (se)), (1, .int (nI (q))), (0, .ref (62))]) dX10_music_157 (by decide) rfl ?_
            have hkd : k = d := (dJ_eq (by omega) hdd).mp c1
            have hTa : TR M11 P (muD P k d x D1) := TR_e hT13 (by unfold muD; rw [if_pos hkd]; rfl)
            refine xr_aload_n dX10_music_159 6 rfl ?_
            refine xr_aload_n dX10_music_160 6 rfl ?_
            refine xb_get (v := nw) flX10_151 dX10_music_161 s_62 rfl (Eq.trans (k12 62 9 (by decide)) (Eq.trans (hM 62 9 (by decide)) e_nw)) ?_
            refine xr_iload dX10_music_164 3 rfl ?_
            refine xr_iadd dX10_music_166 ?_
            refine xr_callV (As := [.int ((nw + (nI (k))))]) (rest := []) mlX10_240 (gw_X10_turns (nw + (nI (k))) hP.1 hTa.1.1 hTa.2.1 hTa.1.2.1 hTa.1.2.2.1) dX10_music_167 s_62 rfl rfl (Nat.le_of_ble_eq_true rfl) (by decide) ⟨by decide, by decide⟩ (fun v s2 M24 J2 hq => ?_)
            obtain ⟨rfl, rfl, rfl, k25, hx23⟩ := hq
            try dsimp only [Option.toList, List.cons_append, List.nil_append]
            have hT26 : TR M24 P (seT P.1 P.2.2.1 (nw + (nI (k))) (muD P k d x D1)) := TR_w hTa hx23 (WF_seT hTa.1.2.2.1) (k25 62 6 (by decide)) (k25 62 13 (by decide)) (fun kl => k25 63 kl (by unfold WTU; omega)) (fun kl => k25 70 kl (by unfold WTU; omega))
            refine xr_aload_n dX10_music_170 6 rfl ?_
            refine xr_iload_n dX10_music_171 4 rfl ?_
            refine xr_callV (As := [.int (se)]) (rest := []) mlX10_252 (gw_X10_lyingOf se (D := muT P k d x (nw + nI k) D1) (hn := P.1) hP.1 hT26.1.1 hT26.1.2.1) dX10_music_172 s_62 rfl rfl (Nat.le_of_ble_eq_true rfl) (by decide) ⟨by decide, by decide⟩ (fun v s2 M9 J2 hq => ?_)
            obtain ⟨r28, rfl, rfl, rfl, rfl, hx27⟩ := hq
            try dsimp only [Option.toList, List.cons_append, List.nil_append]
            subst hx27
            refine xr_if_le (tgt := 181) dX10_music_175 rfl (fun c29 => ?_) (fun c29 => ?_)
            · refine xr_iinc (v := nI (k + 1)) (ls2 := [(6, .int (nI (k + 1))), (4, .long ((dJ (duN k (gpN L E (x + 1)))))), (7, .long (J 85 (60 * q + x + 1))), (3, .int (nI (x + 1))), (2, .int (se)), (1, .int (nI (q))), (0, .ref (62))]) dX10_music_181 3 rfl (nI_1 _) (by decide) rfl ?_
              refine xr_goto (tgt := 69) dX10_music_184 rfl ?_
              refine xb_ls (ls2 := [(6, .int (nI (k + 1))), (4, .long ((dJ (duN k (gpN L E (x + 1)))))), (3, .int (nI (x + 1))), (2, .int (se)), (1, .int (nI (q))), (0, .ref (62))]) [0, 1, 3, 4, 5, 6] rfl ?_
              exact ih (k + 1) (dJ (duN k (gpN L E (x + 1)))) (nI (x + 1)) M24 (by omega) (Ke.tr (fun pp kk h => (Or.inr (Or.inr (Or.inr (Or.inr (Or.inr (Or.inr (Or.inr (by omega))))))))) (Ke.tr (fun pp kk => (fun hh => Or.elim hh (fun h => (Or.inl h)) (fun hh => Or.elim hh (fun h => (Or.inr (Or.inl h))) (fun hh => Or.elim hh (fun h => (Or.inr (Or.inr (Or.inl h)))) (fun hh => Or.elim hh (fun h => (Or.inr (Or.inr (Or.inr (Or.inl h))))) (fun hh => Or.elim hh (fun h => (Or.inr (Or.inr (Or.inr (Or.inr (Or.inl h)))))) (fun hh => Or.elim hh (fun h => (Or.inr (Or.inr (Or.inr (Or.inr (Or.inr (Or.inr (Or.inr (by omega))))))))) (fun h => (Or.inr (Or.inr (Or.inr (Or.inr (Or.inr (Or.inr (Or.inr (by omega)))))))))))))))) hM k12) k25) ⟨muT P k d x (nw + nI k) D1, _, _, rfl, rfl, by omega, by omega, hT26, mo_tr hm1 muT_m, by have z := (muF_n hkN (ly_n2 hP.1 hs (mo_tr hm1 muT_m) c29)).trans hR1; rw [show muG (gpN L E) k d x = _ from if_pos hkd, show muX k d x = _ from if_pos hkd, now_s] at z; exact z⟩
            · refine xr_iload dX10_music_178 3 rfl ?_
              exact xr_iret dX10_music_180 rfl rfl ((hR _ _ (Ke.tr (fun pp kk h => (Or.inr (Or.inr (Or.inr (Or.inr (Or.inr (Or.inr (Or.inr (by omega))))))))) (Ke.tr (fun pp kk => (fun hh => Or.elim hh (fun h => (Or.inl h)) (fun hh => Or.elim hh (fun h => (Or.inr (Or.inl h))) (fun hh => Or.elim hh (fun h => (Or.inr (Or.inr (Or.inl h)))) (fun hh => Or.elim hh (fun h => (Or.inr (Or.inr (Or.inr (Or.inl h))))) (fun hh => Or.elim hh (fun h => (Or.inr (Or.inr (Or.inr (Or.inr (Or.inl h)))))) (fun hh => Or.elim hh (fun h => (Or.inr (Or.inr (Or.inr (Or.inr (Or.inr (Or.inr (Or.inr (by omega))))))))) (fun h => (Or.inr (Or.inr (Or.inr (Or.inr (Or.inr (Or.inr (Or.inr (by omega)))))))))))))))) hM k12) k25) (by rw [← (muF_y hkN (ly_y2 hP.1 hs (mo_tr hm1 muT_m) c29)).symm.trans hR1])))
          · refine xr_lload dX10_music_146 3 rfl ?_
            refine xr_lload dX10_music_148 0 rfl ?_
            refine xr_ladd dX10_music_150 ?_
            refine xr_goto (tgt := 157) dX10_music_151 rfl ?_
            have hkd9 : k = d := (dJ_eq (by omega) hdd).mp c1
            have hg9 := gpN_b (j := x + 1) hLL hw
            have hx9 : x + 1 < L := by omega
            have hy9 := gpN_y hx9 (by rw [← (show J 85 (60 * q + x + 1) = E (x + 1) from hE (x + 1) (by omega))]; exact Int64.not_lt.mp c22) (hw (x + 1) (by omega))
            refine xb_topJ (y := dJ (duN k (gpN L E (x + 1)))) (by rw [← hkd9, dJ_k (by omega), (show J 85 (60 * q + x + 1) = E (x + 1) from hE (x + 1) (by omega)), hy9.2.2]; exact dJ_1 (by omega) hg9 hy9.2.1) ?_
            have hdb := du_b (k := k) (by omega) hg9
            refine xr_lstore (ls2 := [(4, .long ((dJ (duN k (gpN L E (x + 1)))))), (7, .long (J 85 (60 * q + x + 1))), (3, .int (nI (x + 1))), (6, .int (nI (k))), (2, .int (se)), (1, .int (nI (q))), (0, .ref (62))]) dX10_music_157 (by decide) rfl ?_
            have hkd : k = d := (dJ_eq (by omega) hdd).mp c1
            have hTa : TR M11 P (muD P k d x D1) := TR_e hT13 (by unfold muD; rw [if_pos hkd]; rfl)
            refine xr_aload_n dX10_music_159 6 rfl ?_
            refine xr_aload_n dX10_music_160 6 rfl ?_
            refine xb_get (v := nw) flX10_151 dX10_music_161 s_62 rfl (Eq.trans (k12 62 9 (by decide)) (Eq.trans (hM 62 9 (by decide)) e_nw)) ?_
            refine xr_iload dX10_music_164 3 rfl ?_
            refine xr_iadd dX10_music_166 ?_
            refine xr_callV (As := [.int ((nw + (nI (k))))]) (rest := []) mlX10_240 (gw_X10_turns (nw + (nI (k))) hP.1 hTa.1.1 hTa.2.1 hTa.1.2.1 hTa.1.2.2.1) dX10_music_167 s_62 rfl rfl (Nat.le_of_ble_eq_true rfl) (by decide) ⟨by decide, by decide⟩ (fun v s2 M31 J2 hq => ?_)
            obtain ⟨rfl, rfl, rfl, k32, hx30⟩ := hq
            try dsimp only [Option.toList, List.cons_append, List.nil_append]
            have hT33 : TR M31 P (seT P.1 P.2.2.1 (nw + (nI (k))) (muD P k d x D1)) := TR_w hTa hx30 (WF_seT hTa.1.2.2.1) (k32 62 6 (by decide)) (k32 62 13 (by decide)) (fun kl => k32 63 kl (by unfold WTU; omega)) (fun kl => k32 70 kl (by unfold WTU; omega))
            refine xr_aload_n dX10_music_170 6 rfl ?_
            refine xr_iload_n dX10_music_171 4 rfl ?_
            refine xr_callV (As := [.int (se)]) (rest := []) mlX10_252 (gw_X10_lyingOf se (D := muT P k d x (nw + nI k) D1) (hn := P.1) hP.1 hT33.1.1 hT33.1.2.1) dX10_music_172 s_62 rfl rfl (Nat.le_of_ble_eq_true rfl) (by decide) ⟨by decide, by decide⟩ (fun v s2 M9 J2 hq => ?_)
            obtain ⟨r35, rfl, rfl, rfl, rfl, hx34⟩ := hq
            try dsimp only [Option.toList, List.cons_append, List.nil_append]
            subst hx34
            refine xr_if_le (tgt := 181) dX10_music_175 rfl (fun c36 => ?_) (fun c36 => ?_)
            · refine xr_iinc (v := nI (k + 1)) (ls2 := [(6, .int (nI (k + 1))), (4, .long ((dJ (duN k (gpN L E (x + 1)))))), (7, .long (J 85 (60 * q + x + 1))), (3, .int (nI (x + 1))), (2, .int (se)), (1, .int (nI (q))), (0, .ref (62))]) dX10_music_181 3 rfl (nI_1 _) (by decide) rfl ?_
              refine xr_goto (tgt := 69) dX10_music_184 rfl ?_
              refine xb_ls (ls2 := [(6, .int (nI (k + 1))), (4, .long ((dJ (duN k (gpN L E (x + 1)))))), (3, .int (nI (x + 1))), (2, .int (se)), (1, .int (nI (q))), (0, .ref (62))]) [0, 1, 3, 4, 5, 6] rfl ?_
              exact ih (k + 1) (dJ (duN k (gpN L E (x + 1)))) (nI (x + 1)) M31 (by omega) (Ke.tr (fun pp kk h => (Or.inr (Or.inr (Or.inr (Or.inr (Or.inr (Or.inr (Or.inr (by omega))))))))) (Ke.tr (fun pp kk => (fun hh => Or.elim hh (fun h => (Or.inl h)) (fun hh => Or.elim hh (fun h => (Or.inr (Or.inl h))) (fun hh => Or.elim hh (fun h => (Or.inr (Or.inr (Or.inl h)))) (fun hh => Or.elim hh (fun h => (Or.inr (Or.inr (Or.inr (Or.inl h))))) (fun hh => Or.elim hh (fun h => (Or.inr (Or.inr (Or.inr (Or.inr (Or.inl h)))))) (fun hh => Or.elim hh (fun h => (Or.inr (Or.inr (Or.inr (Or.inr (Or.inr (Or.inr (Or.inr (by omega))))))))) (fun h => (Or.inr (Or.inr (Or.inr (Or.inr (Or.inr (Or.inr (Or.inr (by omega)))))))))))))))) hM k12) k32) ⟨muT P k d x (nw + nI k) D1, _, _, rfl, rfl, by omega, by omega, hT33, mo_tr hm1 muT_m, by have z := (muF_n hkN (ly_n2 hP.1 hs (mo_tr hm1 muT_m) c36)).trans hR1; rw [show muG (gpN L E) k d x = _ from if_pos hkd, show muX k d x = _ from if_pos hkd, now_s] at z; exact z⟩
            · refine xr_iload dX10_music_178 3 rfl ?_
              exact xr_iret dX10_music_180 rfl rfl ((hR _ _ (Ke.tr (fun pp kk h => (Or.inr (Or.inr (Or.inr (Or.inr (Or.inr (Or.inr (Or.inr (by omega))))))))) (Ke.tr (fun pp kk => (fun hh => Or.elim hh (fun h => (Or.inl h)) (fun hh => Or.elim hh (fun h => (Or.inr (Or.inl h))) (fun hh => Or.elim hh (fun h => (Or.inr (Or.inr (Or.inl h)))) (fun hh => Or.elim hh (fun h => (Or.inr (Or.inr (Or.inr (Or.inl h))))) (fun hh => Or.elim hh (fun h => (Or.inr (Or.inr (Or.inr (Or.inr (Or.inl h)))))) (fun hh => Or.elim hh (fun h => (Or.inr (Or.inr (Or.inr (Or.inr (Or.inr (Or.inr (Or.inr (by omega))))))))) (fun h => (Or.inr (Or.inr (Or.inr (Or.inr (Or.inr (Or.inr (Or.inr (by omega)))))))))))))))) hM k12) k32) (by rw [← (muF_y hkN (ly_y2 hP.1 hs (mo_tr hm1 muT_m) c36)).symm.trans hR1])))
      · refine xr_iconst (v := 0) dX10_music_93 rfl ?_
        refine xr_goto (tgt := 99) dX10_music_94 rfl ?_
        refine xb_top (y := w_g2 x) ((if_pos c9).symm.trans (w_g2_c (by omega))) ?_
        refine xr_aload_n dX10_music_99 5 rfl ?_
        refine xr_getR flX10_9 dX10_music_100 s_62 rfl ?_
        refine xr_bipush (v := 18) dX10_music_103 rfl ?_
        refine xb_iald (j := 18) (v := M1 63 18) dX10_music_105 s_63 (by decide) (by decide) rfl ?_
        refine xb_top (y := P.2.2.2.2.2) hT1.2.2.2.2 ?_
        refine xr_callV (As := [.int ((w_g2 x)), .int (P.2.2.2.2.2)]) (rest := []) mlX10_234 (gw_X10_pushes (w_g2 x) P.2.2.2.2.2 hP.1 hT1.1.1 hT1.1.2.2.2 hT1.1.2.1 hT1.1.2.2.1) dX10_music_106 s_62 rfl rfl (Nat.le_of_ble_eq_true rfl) (by decide) ⟨by decide, by decide⟩ (fun v s2 M38 J2 hq => ?_)
        obtain ⟨rfl, rfl, rfl, k39, hx37⟩ := hq
        try dsimp only [Option.toList, List.cons_append, List.nil_append]
        have hT40 : TR M38 P (puL P.2.1 P.2.2.2.2.2 (w_g2 x) P.1 0 D1) := TR_w hT1 hx37 (WF_puL _ _ _ hT1.1.2.2.1) (k39 62 6 (by decide)) (k39 62 13 (by decide)) (fun kl => k39 63 kl (by unfold WRP; omega)) (fun kl => k39 70 kl (by unfold WRP; omega))
        refine xr_iinc (v := nI (x + 1)) (ls2 := [(3, .int (nI (x + 1))), (6, .int (nI (k))), (4, .long ((dJ d))), (2, .int (se)), (1, .int (nI (q))), (0, .ref (62))]) dX10_music_109 2 rfl (nI_1 _) (by decide) rfl ?_
        refine xr_iload_n dX10_music_112 0 rfl ?_
        refine xr_aload_n dX10_music_113 5 rfl ?_
        refine xr_getR flX10_78 dX10_music_114 s_62 rfl ?_
        refine xr_iload_n dX10_music_117 4 rfl ?_
        refine xb_iald (j := q) (v := nI (L)) dX10_music_118 s_84 hq (by decide) (Eq.trans (k39 84 q (by unfold WRP; omega)) (Eq.trans (hM 84 q (by unfold WR1; omega)) e_s)) ?_
        refine xr_icmp_ge (tgt := 136) dX10_music_119 rfl (fun c41 => ?_) (fun c41 => ?_)
        · have nc41 : L ≤ x + 1 := (nI_leI (a := L) (b := x + 1) (by omega) (by omega)).mp c41
          refine xr_lconst (v := 0) dX10_music_136 rfl ?_
          refine xr_lstore (ls2 := [(7, .long (0)), (3, .int (nI (x + 1))), (6, .int (nI (k))), (4, .long ((dJ d))), (2, .int (se)), (1, .int (nI (q))), (0, .ref (62))]) dX10_music_137 (by decide) rfl ?_
          refine xr_lload dX10_music_139 0 rfl ?_
          refine xr_lconst (v := 1) dX10_music_141 rfl ?_
          refine xr_lcmp dX10_music_142 ?_
          refine xl_lt (tgt := 154) dX10_music_143 rfl (fun _ => ?_) (fun c => absurd (by decide) c)
          refine xr_ldc2 coX10_288 dX10_music_154 ?_
          have hkd9 : k = d := (dJ_eq (by omega) hdd).mp c1
          have hg9 := gpN_b (j := x + 1) hLL hw
          refine xb_topJ (y := dJ (duN k (gpN L E (x + 1)))) (dJ_0 (gpN_n (fun z => absurd z.1 (by omega)))) ?_
          have hdb := du_b (k := k) (by omega) hg9
          refine xr_lstore (ls2 := [(4, .long ((dJ (duN k (gpN L E (x + 1)))))), (7, .long (0)), (3, .int (nI (x + 1))), (6, .int (nI (k))), (2, .int (se)), (1, .int (nI (q))), (0, .ref (62))]) dX10_music_157 (by decide) rfl ?_
          have hkd : k = d := (dJ_eq (by omega) hdd).mp c1
          have hTa : TR M38 P (muD P k d x D1) := TR_e hT40 (by unfold muD; rw [if_pos hkd]; rfl)
          refine xr_aload_n dX10_music_159 6 rfl ?_
          refine xr_aload_n dX10_music_160 6 rfl ?_
          refine xb_get (v := nw) flX10_151 dX10_music_161 s_62 rfl (Eq.trans (k39 62 9 (by decide)) (Eq.trans (hM 62 9 (by decide)) e_nw)) ?_
          refine xr_iload dX10_music_164 3 rfl ?_
          refine xr_iadd dX10_music_166 ?_
          refine xr_callV (As := [.int ((nw + (nI (k))))]) (rest := []) mlX10_240 (gw_X10_turns (nw + (nI (k))) hP.1 hTa.1.1 hTa.2.1 hTa.1.2.1 hTa.1.2.2.1) dX10_music_167 s_62 rfl rfl (Nat.le_of_ble_eq_true rfl) (by decide) ⟨by decide, by decide⟩ (fun v s2 M43 J2 hq => ?_)
          obtain ⟨rfl, rfl, rfl, k44, hx42⟩ := hq
          try dsimp only [Option.toList, List.cons_append, List.nil_append]
          have hT45 : TR M43 P (seT P.1 P.2.2.1 (nw + (nI (k))) (muD P k d x D1)) := TR_w hTa hx42 (WF_seT hTa.1.2.2.1) (k44 62 6 (by decide)) (k44 62 13 (by decide)) (fun kl => k44 63 kl (by unfold WTU; omega)) (fun kl => k44 70 kl (by unfold WTU; omega))
          refine xr_aload_n dX10_music_170 6 rfl ?_
          refine xr_iload_n dX10_music_171 4 rfl ?_
          refine xr_callV (As := [.int (se)]) (rest := []) mlX10_252 (gw_X10_lyingOf se (D := muT P k d x (nw + nI k) D1) (hn := P.1) hP.1 hT45.1.1 hT45.1.2.1) dX10_music_172 s_62 rfl rfl (Nat.le_of_ble_eq_true rfl) (by decide) ⟨by decide, by decide⟩ (fun v s2 M9 J2 hq => ?_)
          obtain ⟨r47, rfl, rfl, rfl, rfl, hx46⟩ := hq
          try dsimp only [Option.toList, List.cons_append, List.nil_append]
          subst hx46
          refine xr_if_le (tgt := 181) dX10_music_175 rfl (fun c48 => ?_) (fun c48 => ?_)
          · refine xr_iinc (v := nI (k + 1)) (ls2 := [(6, .int (nI (k + 1))), (4, .long ((dJ (duN k (gpN L E (x + 1)))))), (7, .long (0)), (3, .int (nI (x + 1))), (2, .int (se)), (1, .int (nI (q))), (0, .ref (62))]) dX10_music_181 3 rfl (nI_1 _) (by decide) rfl ?_
            refine xr_goto (tgt := 69) dX10_music_184 rfl ?_
            refine xb_ls (ls2 := [(6, .int (nI (k + 1))), (4, .long ((dJ (duN k (gpN L E (x + 1)))))), (3, .int (nI (x + 1))), (2, .int (se)), (1, .int (nI (q))), (0, .ref (62))]) [0, 1, 3, 4, 5, 6] rfl ?_
            exact ih (k + 1) (dJ (duN k (gpN L E (x + 1)))) (nI (x + 1)) M43 (by omega) (Ke.tr (fun pp kk h => (Or.inr (Or.inr (Or.inr (Or.inr (Or.inr (Or.inr (Or.inr (by omega))))))))) (Ke.tr (fun pp kk => (fun hh => Or.elim hh (fun h => (Or.inl h)) (fun hh => Or.elim hh (fun h => (Or.inr (Or.inl h))) (fun hh => Or.elim hh (fun h => (Or.inr (Or.inr (Or.inl h)))) (fun hh => Or.elim hh (fun h => (Or.inr (Or.inr (Or.inr (Or.inl h))))) (fun hh => Or.elim hh (fun h => (Or.inr (Or.inr (Or.inr (Or.inr (Or.inl h)))))) (fun hh => Or.elim hh (fun h => (Or.inr (Or.inr (Or.inr (Or.inr (Or.inr (Or.inr (Or.inr (by omega))))))))) (fun h => (Or.inr (Or.inr (Or.inr (Or.inr (Or.inr (Or.inr (Or.inr (by omega)))))))))))))))) hM k39) k44) ⟨muT P k d x (nw + nI k) D1, _, _, rfl, rfl, by omega, by omega, hT45, mo_tr hm1 muT_m, by have z := (muF_n hkN (ly_n2 hP.1 hs (mo_tr hm1 muT_m) c48)).trans hR1; rw [show muG (gpN L E) k d x = _ from if_pos hkd, show muX k d x = _ from if_pos hkd, now_s] at z; exact z⟩
          · refine xr_iload dX10_music_178 3 rfl ?_
            exact xr_iret dX10_music_180 rfl rfl ((hR _ _ (Ke.tr (fun pp kk h => (Or.inr (Or.inr (Or.inr (Or.inr (Or.inr (Or.inr (Or.inr (by omega))))))))) (Ke.tr (fun pp kk => (fun hh => Or.elim hh (fun h => (Or.inl h)) (fun hh => Or.elim hh (fun h => (Or.inr (Or.inl h))) (fun hh => Or.elim hh (fun h => (Or.inr (Or.inr (Or.inl h)))) (fun hh => Or.elim hh (fun h => (Or.inr (Or.inr (Or.inr (Or.inl h))))) (fun hh => Or.elim hh (fun h => (Or.inr (Or.inr (Or.inr (Or.inr (Or.inl h)))))) (fun hh => Or.elim hh (fun h => (Or.inr (Or.inr (Or.inr (Or.inr (Or.inr (Or.inr (Or.inr (by omega))))))))) (fun h => (Or.inr (Or.inr (Or.inr (Or.inr (Or.inr (Or.inr (Or.inr (by omega)))))))))))))))) hM k39) k44) (by rw [← (muF_y hkN (ly_y2 hP.1 hs (mo_tr hm1 muT_m) c48)).symm.trans hR1])))
        · have nc41 : ¬ (L ≤ x + 1) := fun q => c41 ((nI_leI (a := L) (b := x + 1) (by omega) (by omega)).mpr q)
          refine xr_aload_n dX10_music_122 5 rfl ?_
          refine xr_getR flX10_81 dX10_music_123 s_62 rfl ?_
          refine xr_bipush (v := 60) dX10_music_126 rfl ?_
          refine xr_iload_n dX10_music_128 4 rfl ?_
          refine xr_imul dX10_music_129 ?_
          refine xb_top (y := nI (60 * q)) (nI_mulc 60 q) ?_
          refine xr_iload_n dX10_music_130 0 rfl ?_
          refine xr_iadd dX10_music_131 ?_
          refine xb_top (y := nI (60 * q + x + 1)) (nI_add (60 * q) (x + 1)) ?_
          refine xb_lald (j := 60 * q + x + 1) (v := J 85 (60 * q + x + 1)) dX10_music_132 s_85 (by omega) (by decide) rfl ?_
          refine xr_goto (tgt := 137) dX10_music_133 rfl ?_
          refine xr_lstore (ls2 := [(7, .long (J 85 (60 * q + x + 1))), (3, .int (nI (x + 1))), (6, .int (nI (k))), (4, .long ((dJ d))), (2, .int (se)), (1, .int (nI (q))), (0, .ref (62))]) dX10_music_137 (by decide) rfl ?_
          refine xr_lload dX10_music_139 0 rfl ?_
          refine xr_lconst (v := 1) dX10_music_141 rfl ?_
          refine xr_lcmp dX10_music_142 ?_
          refine xl_lt (tgt := 154) dX10_music_143 rfl (fun c49 => ?_) (fun c49 => ?_)
          · refine xr_ldc2 coX10_288 dX10_music_154 ?_
            have hkd9 : k = d := (dJ_eq (by omega) hdd).mp c1
            have hg9 := gpN_b (j := x + 1) hLL hw
            refine xb_topJ (y := dJ (duN k (gpN L E (x + 1)))) (dJ_0 (gpN_n (fun z => absurd ((show J 85 (60 * q + x + 1) = E (x + 1) from hE (x + 1) (by omega)) ▸ c49) (Int64.not_lt.mpr z.2)))) ?_
            have hdb := du_b (k := k) (by omega) hg9
            refine xr_lstore (ls2 := [(4, .long ((dJ (duN k (gpN L E (x + 1)))))), (7, .long (J 85 (60 * q + x + 1))), (3, .int (nI (x + 1))), (6, .int (nI (k))), (2, .int (se)), (1, .int (nI (q))), (0, .ref (62))]) dX10_music_157 (by decide) rfl ?_
            have hkd : k = d := (dJ_eq (by omega) hdd).mp c1
            have hTa : TR M38 P (muD P k d x D1) := TR_e hT40 (by unfold muD; rw [if_pos hkd]; rfl)
            refine xr_aload_n dX10_music_159 6 rfl ?_
            refine xr_aload_n dX10_music_160 6 rfl ?_
            refine xb_get (v := nw) flX10_151 dX10_music_161 s_62 rfl (Eq.trans (k39 62 9 (by decide)) (Eq.trans (hM 62 9 (by decide)) e_nw)) ?_
            refine xr_iload dX10_music_164 3 rfl ?_
            refine xr_iadd dX10_music_166 ?_
            refine xr_callV (As := [.int ((nw + (nI (k))))]) (rest := []) mlX10_240 (gw_X10_turns (nw + (nI (k))) hP.1 hTa.1.1 hTa.2.1 hTa.1.2.1 hTa.1.2.2.1) dX10_music_167 s_62 rfl rfl (Nat.le_of_ble_eq_true rfl) (by decide) ⟨by decide, by decide⟩ (fun v s2 M51 J2 hq => ?_)
            obtain ⟨rfl, rfl, rfl, k52, hx50⟩ := hq
            try dsimp only [Option.toList, List.cons_append, List.nil_append]
            have hT53 : TR M51 P (seT P.1 P.2.2.1 (nw + (nI (k))) (muD P k d x D1)) := TR_w hTa hx50 (WF_seT hTa.1.2.2.1) (k52 62 6 (by decide)) (k52 62 13 (by decide)) (fun kl => k52 63 kl (by unfold WTU; omega)) (fun kl => k52 70 kl (by unfold WTU; omega))
            refine xr_aload_n dX10_music_170 6 rfl ?_
            refine xr_iload_n dX10_music_171 4 rfl ?_
            refine xr_callV (As := [.int (se)]) (rest := []) mlX10_252 (gw_X10_lyingOf se (D := muT P k d x (nw + nI k) D1) (hn := P.1) hP.1 hT53.1.1 hT53.1.2.1) dX10_music_172 s_62 rfl rfl (Nat.le_of_ble_eq_true rfl) (by decide) ⟨by decide, by decide⟩ (fun v s2 M9 J2 hq => ?_)
            obtain ⟨r55, rfl, rfl, rfl, rfl, hx54⟩ := hq
            try dsimp only [Option.toList, List.cons_append, List.nil_append]
            subst hx54
            refine xr_if_le (tgt := 181) dX10_music_175 rfl (fun c56 => ?_) (fun c56 => ?_)
            · refine xr_iinc (v := nI (k + 1)) (ls2 := [(6, .int (nI (k + 1))), (4, .long ((dJ (duN k (gpN L E (x + 1)))))), (7, .long (J 85 (60 * q + x + 1))), (3, .int (nI (x + 1))), (2, .int (se)), (1, .int (nI (q))), (0, .ref (62))]) dX10_music_181 3 rfl (nI_1 _) (by decide) rfl ?_
              refine xr_goto (tgt := 69) dX10_music_184 rfl ?_
              refine xb_ls (ls2 := [(6, .int (nI (k + 1))), (4, .long ((dJ (duN k (gpN L E (x + 1)))))), (3, .int (nI (x + 1))), (2, .int (se)), (1, .int (nI (q))), (0, .ref (62))]) [0, 1, 3, 4, 5, 6] rfl ?_
              exact ih (k + 1) (dJ (duN k (gpN L E (x + 1)))) (nI (x + 1)) M51 (by omega) (Ke.tr (fun pp kk h => (Or.inr (Or.inr (Or.inr (Or.inr (Or.inr (Or.inr (Or.inr (by omega))))))))) (Ke.tr (fun pp kk => (fun hh => Or.elim hh (fun h => (Or.inl h)) (fun hh => Or.elim hh (fun h => (Or.inr (Or.inl h))) (fun hh => Or.elim hh (fun h => (Or.inr (Or.inr (Or.inl h)))) (fun hh => Or.elim hh (fun h => (Or.inr (Or.inr (Or.inr (Or.inl h))))) (fun hh => Or.elim hh (fun h => (Or.inr (Or.inr (Or.inr (Or.inr (Or.inl h)))))) (fun hh => Or.elim hh (fun h => (Or.inr (Or.inr (Or.inr (Or.inr (Or.inr (Or.inr (Or.inr (by omega))))))))) (fun h => (Or.inr (Or.inr (Or.inr (Or.inr (Or.inr (Or.inr (Or.inr (by omega)))))))))))))))) hM k39) k52) ⟨muT P k d x (nw + nI k) D1, _, _, rfl, rfl, by omega, by omega, hT53, mo_tr hm1 muT_m, by have z := (muF_n hkN (ly_n2 hP.1 hs (mo_tr hm1 muT_m) c56)).trans hR1; rw [show muG (gpN L E) k d x = _ from if_pos hkd, show muX k d x = _ from if_pos hkd, now_s] at z; exact z⟩
            · refine xr_iload dX10_music_178 3 rfl ?_
              exact xr_iret dX10_music_180 rfl rfl ((hR _ _ (Ke.tr (fun pp kk h => (Or.inr (Or.inr (Or.inr (Or.inr (Or.inr (Or.inr (Or.inr (by omega))))))))) (Ke.tr (fun pp kk => (fun hh => Or.elim hh (fun h => (Or.inl h)) (fun hh => Or.elim hh (fun h => (Or.inr (Or.inl h))) (fun hh => Or.elim hh (fun h => (Or.inr (Or.inr (Or.inl h)))) (fun hh => Or.elim hh (fun h => (Or.inr (Or.inr (Or.inr (Or.inl h))))) (fun hh => Or.elim hh (fun h => (Or.inr (Or.inr (Or.inr (Or.inr (Or.inl h)))))) (fun hh => Or.elim hh (fun h => (Or.inr (Or.inr (Or.inr (Or.inr (Or.inr (Or.inr (Or.inr (by omega))))))))) (fun h => (Or.inr (Or.inr (Or.inr (Or.inr (Or.inr (Or.inr (Or.inr (by omega)))))))))))))))) hM k39) k52) (by rw [← (muF_y hkN (ly_y2 hP.1 hs (mo_tr hm1 muT_m) c56)).symm.trans hR1])))
          · refine xr_lload dX10_music_146 3 rfl ?_
            refine xr_lload dX10_music_148 0 rfl ?_
            refine xr_ladd dX10_music_150 ?_
            refine xr_goto (tgt := 157) dX10_music_151 rfl ?_
            have hkd9 : k = d := (dJ_eq (by omega) hdd).mp c1
            have hg9 := gpN_b (j := x + 1) hLL hw
            have hx9 : x + 1 < L := by omega
            have hy9 := gpN_y hx9 (by rw [← (show J 85 (60 * q + x + 1) = E (x + 1) from hE (x + 1) (by omega))]; exact Int64.not_lt.mp c49) (hw (x + 1) (by omega))
            refine xb_topJ (y := dJ (duN k (gpN L E (x + 1)))) (by rw [← hkd9, dJ_k (by omega), (show J 85 (60 * q + x + 1) = E (x + 1) from hE (x + 1) (by omega)), hy9.2.2]; exact dJ_1 (by omega) hg9 hy9.2.1) ?_
            have hdb := du_b (k := k) (by omega) hg9
            refine xr_lstore (ls2 := [(4, .long ((dJ (duN k (gpN L E (x + 1)))))), (7, .long (J 85 (60 * q + x + 1))), (3, .int (nI (x + 1))), (6, .int (nI (k))), (2, .int (se)), (1, .int (nI (q))), (0, .ref (62))]) dX10_music_157 (by decide) rfl ?_
            have hkd : k = d := (dJ_eq (by omega) hdd).mp c1
            have hTa : TR M38 P (muD P k d x D1) := TR_e hT40 (by unfold muD; rw [if_pos hkd]; rfl)
            refine xr_aload_n dX10_music_159 6 rfl ?_
            refine xr_aload_n dX10_music_160 6 rfl ?_
            refine xb_get (v := nw) flX10_151 dX10_music_161 s_62 rfl (Eq.trans (k39 62 9 (by decide)) (Eq.trans (hM 62 9 (by decide)) e_nw)) ?_
            refine xr_iload dX10_music_164 3 rfl ?_
            refine xr_iadd dX10_music_166 ?_
            refine xr_callV (As := [.int ((nw + (nI (k))))]) (rest := []) mlX10_240 (gw_X10_turns (nw + (nI (k))) hP.1 hTa.1.1 hTa.2.1 hTa.1.2.1 hTa.1.2.2.1) dX10_music_167 s_62 rfl rfl (Nat.le_of_ble_eq_true rfl) (by decide) ⟨by decide, by decide⟩ (fun v s2 M58 J2 hq => ?_)
            obtain ⟨rfl, rfl, rfl, k59, hx57⟩ := hq
            try dsimp only [Option.toList, List.cons_append, List.nil_append]
            have hT60 : TR M58 P (seT P.1 P.2.2.1 (nw + (nI (k))) (muD P k d x D1)) := TR_w hTa hx57 (WF_seT hTa.1.2.2.1) (k59 62 6 (by decide)) (k59 62 13 (by decide)) (fun kl => k59 63 kl (by unfold WTU; omega)) (fun kl => k59 70 kl (by unfold WTU; omega))
            refine xr_aload_n dX10_music_170 6 rfl ?_
            refine xr_iload_n dX10_music_171 4 rfl ?_
            refine xr_callV (As := [.int (se)]) (rest := []) mlX10_252 (gw_X10_lyingOf se (D := muT P k d x (nw + nI k) D1) (hn := P.1) hP.1 hT60.1.1 hT60.1.2.1) dX10_music_172 s_62 rfl rfl (Nat.le_of_ble_eq_true rfl) (by decide) ⟨by decide, by decide⟩ (fun v s2 M9 J2 hq => ?_)
            obtain ⟨r62, rfl, rfl, rfl, rfl, hx61⟩ := hq
            try dsimp only [Option.toList, List.cons_append, List.nil_append]
            subst hx61
            refine xr_if_le (tgt := 181) dX10_music_175 rfl (fun c63 => ?_) (fun c63 => ?_)
            · refine xr_iinc (v := nI (k + 1)) (ls2 := [(6, .int (nI (k + 1))), (4, .long ((dJ (duN k (gpN L E (x + 1)))))), (7, .long (J 85 (60 * q + x + 1))), (3, .int (nI (x + 1))), (2, .int (se)), (1, .int (nI (q))), (0, .ref (62))]) dX10_music_181 3 rfl (nI_1 _) (by decide) rfl ?_
              refine xr_goto (tgt := 69) dX10_music_184 rfl ?_
              refine xb_ls (ls2 := [(6, .int (nI (k + 1))), (4, .long ((dJ (duN k (gpN L E (x + 1)))))), (3, .int (nI (x + 1))), (2, .int (se)), (1, .int (nI (q))), (0, .ref (62))]) [0, 1, 3, 4, 5, 6] rfl ?_
              exact ih (k + 1) (dJ (duN k (gpN L E (x + 1)))) (nI (x + 1)) M58 (by omega) (Ke.tr (fun pp kk h => (Or.inr (Or.inr (Or.inr (Or.inr (Or.inr (Or.inr (Or.inr (by omega))))))))) (Ke.tr (fun pp kk => (fun hh => Or.elim hh (fun h => (Or.inl h)) (fun hh => Or.elim hh (fun h => (Or.inr (Or.inl h))) (fun hh => Or.elim hh (fun h => (Or.inr (Or.inr (Or.inl h)))) (fun hh => Or.elim hh (fun h => (Or.inr (Or.inr (Or.inr (Or.inl h))))) (fun hh => Or.elim hh (fun h => (Or.inr (Or.inr (Or.inr (Or.inr (Or.inl h)))))) (fun hh => Or.elim hh (fun h => (Or.inr (Or.inr (Or.inr (Or.inr (Or.inr (Or.inr (Or.inr (by omega))))))))) (fun h => (Or.inr (Or.inr (Or.inr (Or.inr (Or.inr (Or.inr (Or.inr (by omega)))))))))))))))) hM k39) k59) ⟨muT P k d x (nw + nI k) D1, _, _, rfl, rfl, by omega, by omega, hT60, mo_tr hm1 muT_m, by have z := (muF_n hkN (ly_n2 hP.1 hs (mo_tr hm1 muT_m) c63)).trans hR1; rw [show muG (gpN L E) k d x = _ from if_pos hkd, show muX k d x = _ from if_pos hkd, now_s] at z; exact z⟩
            · refine xr_iload dX10_music_178 3 rfl ?_
              exact xr_iret dX10_music_180 rfl rfl ((hR _ _ (Ke.tr (fun pp kk h => (Or.inr (Or.inr (Or.inr (Or.inr (Or.inr (Or.inr (Or.inr (by omega))))))))) (Ke.tr (fun pp kk => (fun hh => Or.elim hh (fun h => (Or.inl h)) (fun hh => Or.elim hh (fun h => (Or.inr (Or.inl h))) (fun hh => Or.elim hh (fun h => (Or.inr (Or.inr (Or.inl h)))) (fun hh => Or.elim hh (fun h => (Or.inr (Or.inr (Or.inr (Or.inl h))))) (fun hh => Or.elim hh (fun h => (Or.inr (Or.inr (Or.inr (Or.inr (Or.inl h)))))) (fun hh => Or.elim hh (fun h => (Or.inr (Or.inr (Or.inr (Or.inr (Or.inr (Or.inr (Or.inr (by omega))))))))) (fun h => (Or.inr (Or.inr (Or.inr (Or.inr (Or.inr (Or.inr (Or.inr (by omega)))))))))))))))) hM k39) k59) (by rw [← (muF_y hkN (ly_y2 hP.1 hs (mo_tr hm1 muT_m) c63)).symm.trans hR1])))
set_option maxRecDepth 100000 in
set_option maxHeartbeats 4000000 in
theorem gxzq_X10_music {nh : Nat} {D : xM} {t : Option zL} {S : Nat → Int32} {G9 : xQs} {q : Nat} {l : Launch} {G : xG} {M : xM} {J : xJ} (hI : InvR M) (hWG : WG nh D S) (hG : RG M nh D t S) (hSh : RSh M J G9) (hWS : WSh G9) (hq : q < 6) : x_M l G fX10_music 61 0 0 [.ref (62), .int (nI (q))] x_SH M J (qKI WR1 M J (fun r M2 => InvR M2 ∧ (r = muR nh D t S G9 (nI (q))))) := by
  refine xb_of pX10 (Nat.le_of_ble_eq_true rfl) rfl ?_
  obtain ⟨⟨hn, h_hn, e_hn, hw⟩, hbt, ⟨un, wn, h_uw, h_wn, e_un, e_wn⟩, hch, ⟨n, h_n, e_n⟩, htx, ⟨b, h_b, e_b⟩, hkd, ⟨ra, h_ra, e_ra⟩, hsl, ⟨ic, h_ic, e_ic⟩, hS⟩ := hI
  obtain ⟨hn5, hW, hrub, hbeat⟩ := hWG
  obtain ⟨hGn, hA, hL, e_nw, e_rub, e_bt, e_ph, e_st, e_kn, e_pu, e_lf⟩ := hG
  obtain rfl : nh = hn := (nI_eq (by omega) (by omega)).mp (hGn.symm.trans e_hn)
  have hbt2 : ¬ S 2 = 0 := ne2_0 hbeat.1
  have hP : WP (PS nh t S) := ⟨hn5, hrub, hbt2⟩
  refine xr_aload_n dX10_music_0 0 rfl ?_
  refine xr_iload_n dX10_music_1 1 rfl ?_
  refine xb_cV (As := [.int (nI (q))]) (rest := []) mlX10_285 (gw_X10_rowIs hq) dX10_music_2 s_62 rfl rfl (Nat.le_of_ble_eq_true rfl) (by decide) (by decide) ?_
  obtain ⟨hLL, e_s, hE, hkd⟩ := hSh q hq
  rcases hkd with ⟨hkk, h0⟩ | ⟨hkk, h0⟩ | ⟨hkk, h0, h2⟩
  · refine xb_top (y := (-11)) (if_pos h0) ?_
    refine xr_if_ge (tgt := 14) dX10_music_5 rfl (fun c => absurd c (by decide)) (fun _ => ?_)
    refine xr_aload_n dX10_music_8 0 rfl ?_
    refine xr_iload_n dX10_music_9 1 rfl ?_
    refine xb_cV (As := [.int (nI (q))]) (rest := []) mlX10_285 (gw_X10_rowIs hq) dX10_music_10 s_62 rfl rfl (Nat.le_of_ble_eq_true rfl) (by decide) (by decide) ?_
    refine xb_top (y := (-11)) (if_pos h0) ?_
    exact xr_iret dX10_music_13 rfl rfl (⟨_, rfl, rfl, rfl, Ke.rf, ⟨⟨⟨nh, by omega, e_hn, (fun kw hkw => by rw [show M 63 (5 + kw) = M 63 (5 + kw) from rfl]; exact hw kw hkw)⟩, (by rw [show M 63 16 = M 63 16 from rfl]; exact hbt), ⟨un, wn, by omega, by omega, e_un, e_wn⟩, (fun kk hkk => by rw [show M 64 kk = M 64 kk from rfl, show M 65 kk = M 65 kk from rfl, show M 66 kk = M 66 kk from rfl]; exact hch kk hkk), ⟨n, by omega, e_n⟩, (by rw [show M 62 13 = M 62 13 from rfl]; exact htx), ⟨b, by omega, e_b⟩, (fun j hj => by obtain ⟨q, hq, eq⟩ := hkd j hj; exact ⟨q, hq, (show M 81 j = M 81 j from rfl).trans eq⟩), ⟨ra, by omega, e_ra⟩, (fun j hj => by rw [show M 83 j = M 83 j from rfl, show M 84 j = M 84 j from rfl]; exact hsl j hj), ⟨ic, by omega, e_ic⟩, (fun j hj => by obtain ⟨q, hq, eq⟩ := hS j hj; exact ⟨q, hq, (show M 75 j = M 75 j from rfl).trans eq⟩)⟩, ((if_pos hkk).symm.trans (muR_y hq))⟩⟩)
  · refine xb_top (y := 1) ((if_neg (by rw [h0]; decide)).trans (if_pos h0)) ?_
    refine xr_if_ge (tgt := 14) dX10_music_5 rfl (fun _ => ?_) (fun c => absurd (by decide) c)
    refine xr_aload_n dX10_music_14 0 rfl ?_
    refine xr_callV (As := []) (rest := []) mlX10_246 (gw_X10_upNow (D := D) (hn := nh) hn5 e_hn (AbS_k hA (fun kl hkl => rfl) (fun kl => rfl) (fun kl => rfl) hn5) hW) dX10_music_15 s_62 rfl rfl (Nat.le_of_ble_eq_true rfl) (by decide) ⟨by decide, by decide⟩ (fun v s2 M9 J2 hq => ?_)
    obtain ⟨r2, rfl, rfl, rfl, rfl, hx1⟩ := hq
    try dsimp only [Option.toList, List.cons_append, List.nil_append]
    subst hx1
    refine xr_istore_n (ls2 := [(2, .int ((upS nh D))), (0, .ref (62)), (1, .int (nI (q)))]) dX10_music_18 (by decide) rfl ?_
    refine xr_aload_n dX10_music_19 1 rfl ?_
    refine xr_iload_n dX10_music_20 0 rfl ?_
    have hTS : TS M (PS nh t S) (S 0) D := ⟨⟨e_hn, (AbS_k hA (fun kl hkl => rfl) (fun kl => rfl) (fun kl => rfl) hn5), hW, (LRt_k rfl rfl hL)⟩, ⟨e_rub, e_bt, e_ph, e_st⟩, e_nw⟩
    refine xr_callV (As := [.int ((upS nh D))]) (rest := []) mlX10_249 (gw_X10_begins1 (upS nh D) (D := D) (hn := nh) hn5 hTS.1.1 hTS.1.2.1) dX10_music_21 s_62 rfl rfl (Nat.le_of_ble_eq_true rfl) (by decide) ⟨by decide, by decide⟩ (fun v s2 M4 J2 hq => ?_)
    obtain ⟨rfl, rfl, rfl, k5, hx3⟩ := hq
    try dsimp only [Option.toList, List.cons_append, List.nil_append]
    have hTR : TR M4 (PS nh t S) D := TS_R hTS (AbR_eq hx3 (msk_up hn5 hW)) hW (k5 62 6 (by decide)) (k5 62 13 (by decide)) (fun kl => k5 63 kl (by unfold WBG; omega)) (fun kl => k5 70 kl (by unfold WBG; omega))
    refine xr_iconst (v := 0) dX10_music_24 rfl ?_
    refine xr_istore_n (ls2 := [(3, .int (0)), (2, .int ((upS nh D))), (0, .ref (62)), (1, .int (nI (q)))]) dX10_music_25 (by decide) rfl ?_
    refine xr_aload_n dX10_music_26 2 rfl ?_
    refine xr_getR flX10_78 dX10_music_27 s_62 rfl ?_
    refine xr_iload_n dX10_music_30 3 rfl ?_
    refine xb_iald (j := q) (v := nI ((G9 q).2.1)) dX10_music_31 s_84 hq (by decide) (Eq.trans (k5 84 q (by unfold WBG; omega)) e_s) ?_
    refine xr_if_le (tgt := 61) dX10_music_32 rfl (fun c6 => ?_) (fun c6 => ?_)
    · refine xr_ldc2 coX10_288 dX10_music_61 ?_
      have hwS := (hWS q hq).1 hkk
      have hg9 := gpN_b (j := 0) hLL hwS
      refine xb_topJ (y := dJ (duN 0 (gpN (G9 q).2.1 (G9 q).2.2 0))) (dJ_0 (gpN_n (fun z => absurd ((nI_leI (a := (G9 q).2.1) (b := 0) (by omega) (by decide)).mp c6) (by omega)))) ?_
      have hdb := du_b (k := 0) (by decide) hg9
      refine xr_lstore (ls2 := [(4, .long ((dJ (duN 0 (gpN (G9 q).2.1 (G9 q).2.2 0))))), (3, .int (0)), (2, .int ((upS nh D))), (0, .ref (62)), (1, .int (nI (q)))]) dX10_music_64 (by decide) rfl ?_
      refine xr_iconst (v := 0) dX10_music_66 rfl ?_
      refine xr_istore (ls2 := [(6, .int (0)), (4, .long ((dJ (duN 0 (gpN (G9 q).2.1 (G9 q).2.2 0))))), (3, .int (0)), (2, .int ((upS nh D))), (0, .ref (62)), (1, .int (nI (q)))]) dX10_music_67 (by decide) rfl ?_
      refine xb_ls (ls2 := [(6, .int (nI (0))), (4, .long ((dJ (duN 0 (gpN (G9 q).2.1 (G9 q).2.2 0))))), (3, .int (0)), (2, .int ((upS nh D))), (1, .int (nI (q))), (0, .ref (62))]) [0, 1, 2, 3, 5, 4] rfl ?_
      refine rmux (P := (PS nh t S)) (nw := S 0) hP (fun k hk => upS_in hn5 hk) hq hLL hwS (muV (PS nh t S) (G9 q).2.1 (G9 q).2.2 (S 0) D) (Eq.trans (k5 62 9 (by decide)) e_nw) (Eq.trans (k5 84 q (by unfold WBG; omega)) e_s) hE (fun r M2 hk hr => ⟨_, rfl, rfl, rfl, Ke.tr (fun _ _ h => h) (Ke.tr (fun pp kk h => (Or.inr (Or.inr (Or.inr (Or.inr (Or.inr (Or.inr (Or.inr (by omega))))))))) Ke.rf k5) hk, ⟨⟨nh, by omega, (Eq.trans (hk 62 6 (by decide)) (Eq.trans (k5 62 6 (by decide)) e_hn)), (fun kw hkw => by rw [show M2 63 (5 + kw) = M 63 (5 + kw) from (Eq.trans (hk 63 (5 + kw) (by unfold WR1; omega)) (Eq.trans (k5 63 (5 + kw) (by unfold WBG; omega)) rfl))]; exact hw kw hkw)⟩, (by rw [show M2 63 16 = M 63 16 from (Eq.trans (hk 63 16 (by unfold WR1; omega)) (Eq.trans (k5 63 16 (by unfold WBG; omega)) rfl))]; exact hbt), ⟨un, wn, by omega, by omega, (Eq.trans (hk 62 5 (by decide)) (Eq.trans (k5 62 5 (by decide)) e_un)), (Eq.trans (hk 62 4 (by decide)) (Eq.trans (k5 62 4 (by decide)) e_wn))⟩, (fun kk hkk => by rw [show M2 64 kk = M 64 kk from (Eq.trans (hk 64 kk (by unfold WR1; omega)) (Eq.trans (k5 64 kk (by unfold WBG; omega)) rfl)), show M2 65 kk = M 65 kk from (Eq.trans (hk 65 kk (by unfold WR1; omega)) (Eq.trans (k5 65 kk (by unfold WBG; omega)) rfl)), show M2 66 kk = M 66 kk from (Eq.trans (hk 66 kk (by unfold WR1; omega)) (Eq.trans (k5 66 kk (by unfold WBG; omega)) rfl))]; exact hch kk hkk), ⟨n, by omega, (Eq.trans (hk 62 11 (by decide)) (Eq.trans (k5 62 11 (by decide)) e_n))⟩, (by rw [show M2 62 13 = M 62 13 from (Eq.trans (hk 62 13 (by unfold WR1; omega)) (Eq.trans (k5 62 13 (by unfold WBG; omega)) rfl))]; exact htx), ⟨b, by omega, (Eq.trans (hk 62 36 (by decide)) (Eq.trans (k5 62 36 (by decide)) e_b))⟩, (fun j hj => by obtain ⟨q, hq, eq⟩ := hkd j hj; exact ⟨q, hq, (show M2 81 j = M 81 j from (Eq.trans (hk 81 j (by unfold WR1; omega)) (Eq.trans (k5 81 j (by unfold WBG; omega)) rfl))).trans eq⟩), ⟨ra, by omega, (Eq.trans (hk 62 39 (by decide)) (Eq.trans (k5 62 39 (by decide)) e_ra))⟩, (fun j hj => by rw [show M2 83 j = M 83 j from (Eq.trans (hk 83 j (by unfold WR1; omega)) (Eq.trans (k5 83 j (by unfold WBG; omega)) rfl)), show M2 84 j = M 84 j from (Eq.trans (hk 84 j (by unfold WR1; omega)) (Eq.trans (k5 84 j (by unfold WBG; omega)) rfl))]; exact hsl j hj), ⟨ic, by omega, (Eq.trans (hk 62 34 (by decide)) (Eq.trans (k5 62 34 (by decide)) e_ic))⟩, (fun j hj => by obtain ⟨q, hq, eq⟩ := hS j hj; exact ⟨q, hq, (show M2 75 j = M 75 j from (Eq.trans (hk 75 j (by unfold WR1; omega)) (Eq.trans (k5 75 j (by unfold WBG; omega)) rfl))).trans eq⟩)⟩, (hr.trans ((if_neg (by rw [hkk]; decide)).trans (if_pos hkk)).symm).trans (muR_y hq)⟩) (fun q7 q8 M9 k10 hEE => ?_) (200 - 0) 0 (dJ (duN 0 (gpN (G9 q).2.1 (G9 q).2.2 0))) 0 M4 (by omega) Ke.rf ⟨D, _, 0, rfl, rfl, Nat.le_refl _, hdb, hTR, mo_rf, by rw [← now_0]; rfl⟩
      refine xr_sipush (v := 200) dX10_music_187 rfl ?_
      exact xr_iret dX10_music_190 rfl rfl (⟨_, rfl, rfl, rfl, (Ke.tr (fun _ _ h => h) (Ke.tr (fun pp kk h => (Or.inr (Or.inr (Or.inr (Or.inr (Or.inr (Or.inr (Or.inr (by omega))))))))) Ke.rf k5) k10), ⟨⟨⟨nh, by omega, (Eq.trans (k10 62 6 (by decide)) (Eq.trans (k5 62 6 (by decide)) e_hn)), (fun kw hkw => by rw [show M9 63 (5 + kw) = M 63 (5 + kw) from (Eq.trans (k10 63 (5 + kw) (by unfold WR1; omega)) (Eq.trans (k5 63 (5 + kw) (by unfold WBG; omega)) rfl))]; exact hw kw hkw)⟩, (by rw [show M9 63 16 = M 63 16 from (Eq.trans (k10 63 16 (by unfold WR1; omega)) (Eq.trans (k5 63 16 (by unfold WBG; omega)) rfl))]; exact hbt), ⟨un, wn, by omega, by omega, (Eq.trans (k10 62 5 (by decide)) (Eq.trans (k5 62 5 (by decide)) e_un)), (Eq.trans (k10 62 4 (by decide)) (Eq.trans (k5 62 4 (by decide)) e_wn))⟩, (fun kk hkk => by rw [show M9 64 kk = M 64 kk from (Eq.trans (k10 64 kk (by unfold WR1; omega)) (Eq.trans (k5 64 kk (by unfold WBG; omega)) rfl)), show M9 65 kk = M 65 kk from (Eq.trans (k10 65 kk (by unfold WR1; omega)) (Eq.trans (k5 65 kk (by unfold WBG; omega)) rfl)), show M9 66 kk = M 66 kk from (Eq.trans (k10 66 kk (by unfold WR1; omega)) (Eq.trans (k5 66 kk (by unfold WBG; omega)) rfl))]; exact hch kk hkk), ⟨n, by omega, (Eq.trans (k10 62 11 (by decide)) (Eq.trans (k5 62 11 (by decide)) e_n))⟩, (by rw [show M9 62 13 = M 62 13 from (Eq.trans (k10 62 13 (by unfold WR1; omega)) (Eq.trans (k5 62 13 (by unfold WBG; omega)) rfl))]; exact htx), ⟨b, by omega, (Eq.trans (k10 62 36 (by decide)) (Eq.trans (k5 62 36 (by decide)) e_b))⟩, (fun j hj => by obtain ⟨q, hq, eq⟩ := hkd j hj; exact ⟨q, hq, (show M9 81 j = M 81 j from (Eq.trans (k10 81 j (by unfold WR1; omega)) (Eq.trans (k5 81 j (by unfold WBG; omega)) rfl))).trans eq⟩), ⟨ra, by omega, (Eq.trans (k10 62 39 (by decide)) (Eq.trans (k5 62 39 (by decide)) e_ra))⟩, (fun j hj => by rw [show M9 83 j = M 83 j from (Eq.trans (k10 83 j (by unfold WR1; omega)) (Eq.trans (k5 83 j (by unfold WBG; omega)) rfl)), show M9 84 j = M 84 j from (Eq.trans (k10 84 j (by unfold WR1; omega)) (Eq.trans (k5 84 j (by unfold WBG; omega)) rfl))]; exact hsl j hj), ⟨ic, by omega, (Eq.trans (k10 62 34 (by decide)) (Eq.trans (k5 62 34 (by decide)) e_ic))⟩, (fun j hj => by obtain ⟨q, hq, eq⟩ := hS j hj; exact ⟨q, hq, (show M9 75 j = M 75 j from (Eq.trans (k10 75 j (by unfold WR1; omega)) (Eq.trans (k5 75 j (by unfold WBG; omega)) rfl))).trans eq⟩)⟩, (((congrArg nI hEE).trans ((if_neg (by rw [hkk]; decide)).trans (if_pos hkk)).symm).trans (muR_y hq))⟩⟩)
    · refine xr_aload_n dX10_music_35 2 rfl ?_
      refine xr_getR flX10_81 dX10_music_36 s_62 rfl ?_
      refine xr_bipush (v := 60) dX10_music_39 rfl ?_
      refine xr_iload_n dX10_music_41 3 rfl ?_
      refine xr_imul dX10_music_42 ?_
      refine xb_top (y := nI (60 * q)) (nI_mulc 60 q) ?_
      refine xb_lald (j := 60 * q) (v := J 85 (60 * q)) dX10_music_43 s_85 (by omega) (by decide) rfl ?_
      refine xr_lconst (v := 1) dX10_music_44 rfl ?_
      refine xr_lcmp dX10_music_45 ?_
      refine xl_lt (tgt := 61) dX10_music_46 rfl (fun c11 => ?_) (fun c11 => ?_)
      · refine xr_ldc2 coX10_288 dX10_music_61 ?_
        have hwS := (hWS q hq).1 hkk
        have hg9 := gpN_b (j := 0) hLL hwS
        refine xb_topJ (y := dJ (duN 0 (gpN (G9 q).2.1 (G9 q).2.2 0))) (dJ_0 (gpN_n (fun z => absurd (hE 0 (by decide) ▸ c11) (Int64.not_lt.mpr z.2)))) ?_
        have hdb := du_b (k := 0) (by decide) hg9
        refine xr_lstore (ls2 := [(4, .long ((dJ (duN 0 (gpN (G9 q).2.1 (G9 q).2.2 0))))), (3, .int (0)), (2, .int ((upS nh D))), (0, .ref (62)), (1, .int (nI (q)))]) dX10_music_64 (by decide) rfl ?_
        refine xr_iconst (v := 0) dX10_music_66 rfl ?_
        refine xr_istore (ls2 := [(6, .int (0)), (4, .long ((dJ (duN 0 (gpN (G9 q).2.1 (G9 q).2.2 0))))), (3, .int (0)), (2, .int ((upS nh D))), (0, .ref (62)), (1, .int (nI (q)))]) dX10_music_67 (by decide) rfl ?_
        refine xb_ls (ls2 := [(6, .int (nI (0))), (4, .long ((dJ (duN 0 (gpN (G9 q).2.1 (G9 q).2.2 0))))), (3, .int (0)), (2, .int ((upS nh D))), (1, .int (nI (q))), (0, .ref (62))]) [0, 1, 2, 3, 5, 4] rfl ?_
        refine rmux (P := (PS nh t S)) (nw := S 0) hP (fun k hk => upS_in hn5 hk) hq hLL hwS (muV (PS nh t S) (G9 q).2.1 (G9 q).2.2 (S 0) D) (Eq.trans (k5 62 9 (by decide)) e_nw) (Eq.trans (k5 84 q (by unfold WBG; omega)) e_s) hE (fun r M2 hk hr => ⟨_, rfl, rfl, rfl, Ke.tr (fun _ _ h => h) (Ke.tr (fun pp kk h => (Or.inr (Or.inr (Or.inr (Or.inr (Or.inr (Or.inr (Or.inr (by omega))))))))) Ke.rf k5) hk, ⟨⟨nh, by omega, (Eq.trans (hk 62 6 (by decide)) (Eq.trans (k5 62 6 (by decide)) e_hn)), (fun kw hkw => by rw [show M2 63 (5 + kw) = M 63 (5 + kw) from (Eq.trans (hk 63 (5 + kw) (by unfold WR1; omega)) (Eq.trans (k5 63 (5 + kw) (by unfold WBG; omega)) rfl))]; exact hw kw hkw)⟩, (by rw [show M2 63 16 = M 63 16 from (Eq.trans (hk 63 16 (by unfold WR1; omega)) (Eq.trans (k5 63 16 (by unfold WBG; omega)) rfl))]; exact hbt), ⟨un, wn, by omega, by omega, (Eq.trans (hk 62 5 (by decide)) (Eq.trans (k5 62 5 (by decide)) e_un)), (Eq.trans (hk 62 4 (by decide)) (Eq.trans (k5 62 4 (by decide)) e_wn))⟩, (fun kk hkk => by rw [show M2 64 kk = M 64 kk from (Eq.trans (hk 64 kk (by unfold WR1; omega)) (Eq.trans (k5 64 kk (by unfold WBG; omega)) rfl)), show M2 65 kk = M 65 kk from (Eq.trans (hk 65 kk (by unfold WR1; omega)) (Eq.trans (k5 65 kk (by unfold WBG; omega)) rfl)), show M2 66 kk = M 66 kk from (Eq.trans (hk 66 kk (by unfold WR1; omega)) (Eq.trans (k5 66 kk (by unfold WBG; omega)) rfl))]; exact hch kk hkk), ⟨n, by omega, (Eq.trans (hk 62 11 (by decide)) (Eq.trans (k5 62 11 (by decide)) e_n))⟩, (by rw [show M2 62 13 = M 62 13 from (Eq.trans (hk 62 13 (by unfold WR1; omega)) (Eq.trans (k5 62 13 (by unfold WBG; omega)) rfl))]; exact htx), ⟨b, by omega, (Eq.trans (hk 62 36 (by decide)) (Eq.trans (k5 62 36 (by decide)) e_b))⟩, (fun j hj => by obtain ⟨q, hq, eq⟩ := hkd j hj; exact ⟨q, hq, (show M2 81 j = M 81 j from (Eq.trans (hk 81 j (by unfold WR1; omega)) (Eq.trans (k5 81 j (by unfold WBG; omega)) rfl))).trans eq⟩), ⟨ra, by omega, (Eq.trans (hk 62 39 (by decide)) (Eq.trans (k5 62 39 (by decide)) e_ra))⟩, (fun j hj => by rw [show M2 83 j = M 83 j from (Eq.trans (hk 83 j (by unfold WR1; omega)) (Eq.trans (k5 83 j (by unfold WBG; omega)) rfl)), show M2 84 j = M 84 j from (Eq.trans (hk 84 j (by unfold WR1; omega)) (Eq.trans (k5 84 j (by unfold WBG; omega)) rfl))]; exact hsl j hj), ⟨ic, by omega, (Eq.trans (hk 62 34 (by decide)) (Eq.trans (k5 62 34 (by decide)) e_ic))⟩, (fun j hj => by obtain ⟨q, hq, eq⟩ := hS j hj; exact ⟨q, hq, (show M2 75 j = M 75 j from (Eq.trans (hk 75 j (by unfold WR1; omega)) (Eq.trans (k5 75 j (by unfold WBG; omega)) rfl))).trans eq⟩)⟩, (hr.trans ((if_neg (by rw [hkk]; decide)).trans (if_pos hkk)).symm).trans (muR_y hq)⟩) (fun q12 q13 M14 k15 hEE => ?_) (200 - 0) 0 (dJ (duN 0 (gpN (G9 q).2.1 (G9 q).2.2 0))) 0 M4 (by omega) Ke.rf ⟨D, _, 0, rfl, rfl, Nat.le_refl _, hdb, hTR, mo_rf, by rw [← now_0]; rfl⟩
        refine xr_sipush (v := 200) dX10_music_187 rfl ?_
        exact xr_iret dX10_music_190 rfl rfl (⟨_, rfl, rfl, rfl, (Ke.tr (fun _ _ h => h) (Ke.tr (fun pp kk h => (Or.inr (Or.inr (Or.inr (Or.inr (Or.inr (Or.inr (Or.inr (by omega))))))))) Ke.rf k5) k15), ⟨⟨⟨nh, by omega, (Eq.trans (k15 62 6 (by decide)) (Eq.trans (k5 62 6 (by decide)) e_hn)), (fun kw hkw => by rw [show M14 63 (5 + kw) = M 63 (5 + kw) from (Eq.trans (k15 63 (5 + kw) (by unfold WR1; omega)) (Eq.trans (k5 63 (5 + kw) (by unfold WBG; omega)) rfl))]; exact hw kw hkw)⟩, (by rw [show M14 63 16 = M 63 16 from (Eq.trans (k15 63 16 (by unfold WR1; omega)) (Eq.trans (k5 63 16 (by unfold WBG; omega)) rfl))]; exact hbt), ⟨un, wn, by omega, by omega, (Eq.trans (k15 62 5 (by decide)) (Eq.trans (k5 62 5 (by decide)) e_un)), (Eq.trans (k15 62 4 (by decide)) (Eq.trans (k5 62 4 (by decide)) e_wn))⟩, (fun kk hkk => by rw [show M14 64 kk = M 64 kk from (Eq.trans (k15 64 kk (by unfold WR1; omega)) (Eq.trans (k5 64 kk (by unfold WBG; omega)) rfl)), show M14 65 kk = M 65 kk from (Eq.trans (k15 65 kk (by unfold WR1; omega)) (Eq.trans (k5 65 kk (by unfold WBG; omega)) rfl)), show M14 66 kk = M 66 kk from (Eq.trans (k15 66 kk (by unfold WR1; omega)) (Eq.trans (k5 66 kk (by unfold WBG; omega)) rfl))]; exact hch kk hkk), ⟨n, by omega, (Eq.trans (k15 62 11 (by decide)) (Eq.trans (k5 62 11 (by decide)) e_n))⟩, (by rw [show M14 62 13 = M 62 13 from (Eq.trans (k15 62 13 (by unfold WR1; omega)) (Eq.trans (k5 62 13 (by unfold WBG; omega)) rfl))]; exact htx), ⟨b, by omega, (Eq.trans (k15 62 36 (by decide)) (Eq.trans (k5 62 36 (by decide)) e_b))⟩, (fun j hj => by obtain ⟨q, hq, eq⟩ := hkd j hj; exact ⟨q, hq, (show M14 81 j = M 81 j from (Eq.trans (k15 81 j (by unfold WR1; omega)) (Eq.trans (k5 81 j (by unfold WBG; omega)) rfl))).trans eq⟩), ⟨ra, by omega, (Eq.trans (k15 62 39 (by decide)) (Eq.trans (k5 62 39 (by decide)) e_ra))⟩, (fun j hj => by rw [show M14 83 j = M 83 j from (Eq.trans (k15 83 j (by unfold WR1; omega)) (Eq.trans (k5 83 j (by unfold WBG; omega)) rfl)), show M14 84 j = M 84 j from (Eq.trans (k15 84 j (by unfold WR1; omega)) (Eq.trans (k5 84 j (by unfold WBG; omega)) rfl))]; exact hsl j hj), ⟨ic, by omega, (Eq.trans (k15 62 34 (by decide)) (Eq.trans (k5 62 34 (by decide)) e_ic))⟩, (fun j hj => by obtain ⟨q, hq, eq⟩ := hS j hj; exact ⟨q, hq, (show M14 75 j = M 75 j from (Eq.trans (k15 75 j (by unfold WR1; omega)) (Eq.trans (k5 75 j (by unfold WBG; omega)) rfl))).trans eq⟩)⟩, (((congrArg nI hEE).trans ((if_neg (by rw [hkk]; decide)).trans (if_pos hkk)).symm).trans (muR_y hq))⟩⟩)
      · refine xr_aload_n dX10_music_49 2 rfl ?_
        refine xr_getR flX10_81 dX10_music_50 s_62 rfl ?_
        refine xr_bipush (v := 60) dX10_music_53 rfl ?_
        refine xr_iload_n dX10_music_55 3 rfl ?_
        refine xr_imul dX10_music_56 ?_
        refine xb_top (y := nI (60 * q)) (nI_mulc 60 q) ?_
        refine xb_lald (j := 60 * q) (v := J 85 (60 * q)) dX10_music_57 s_85 (by omega) (by decide) rfl ?_
        refine xr_goto (tgt := 64) dX10_music_58 rfl ?_
        have hwS := (hWS q hq).1 hkk
        have hg9 := gpN_b (j := 0) hLL hwS
        have hy9 := gpN_y (j := 0) (L := (G9 q).2.1) (el := (G9 q).2.2) (by have z9 : ¬ (G9 q).2.1 ≤ 0 := fun y => c6 ((nI_leI (a := (G9 q).2.1) (b := 0) (by omega) (by decide)).mpr y); omega) (by rw [← hE 0 (by decide)]; exact Int64.not_lt.mp c11) (hwS 0 (by decide))
        refine xb_topJ (y := dJ (duN 0 (gpN (G9 q).2.1 (G9 q).2.2 0))) (((hE 0 (by decide)).trans hy9.2.2).trans (dJ_g hy9.2.1 hg9)) ?_
        have hdb := du_b (k := 0) (by decide) hg9
        refine xr_lstore (ls2 := [(4, .long ((dJ (duN 0 (gpN (G9 q).2.1 (G9 q).2.2 0))))), (3, .int (0)), (2, .int ((upS nh D))), (0, .ref (62)), (1, .int (nI (q)))]) dX10_music_64 (by decide) rfl ?_
        refine xr_iconst (v := 0) dX10_music_66 rfl ?_
        refine xr_istore (ls2 := [(6, .int (0)), (4, .long ((dJ (duN 0 (gpN (G9 q).2.1 (G9 q).2.2 0))))), (3, .int (0)), (2, .int ((upS nh D))), (0, .ref (62)), (1, .int (nI (q)))]) dX10_music_67 (by decide) rfl ?_
        refine xb_ls (ls2 := [(6, .int (nI (0))), (4, .long ((dJ (duN 0 (gpN (G9 q).2.1 (G9 q).2.2 0))))), (3, .int (0)), (2, .int ((upS nh D))), (1, .int (nI (q))), (0, .ref (62))]) [0, 1, 2, 3, 5, 4] rfl ?_
        refine rmux (P := (PS nh t S)) (nw := S 0) hP (fun k hk => upS_in hn5 hk) hq hLL hwS (muV (PS nh t S) (G9 q).2.1 (G9 q).2.2 (S 0) D) (Eq.trans (k5 62 9 (by decide)) e_nw) (Eq.trans (k5 84 q (by unfold WBG; omega)) e_s) hE (fun r M2 hk hr => ⟨_, rfl, rfl, rfl, Ke.tr (fun _ _ h => h) (Ke.tr (fun pp kk h => (Or.inr (Or.inr (Or.inr (Or.inr (Or.inr (Or.inr (Or.inr (by omega))))))))) Ke.rf k5) hk, ⟨⟨nh, by omega, (Eq.trans (hk 62 6 (by decide)) (Eq.trans (k5 62 6 (by decide)) e_hn)), (fun kw hkw => by rw [show M2 63 (5 + kw) = M 63 (5 + kw) from (Eq.trans (hk 63 (5 + kw) (by unfold WR1; omega)) (Eq.trans (k5 63 (5 + kw) (by unfold WBG; omega)) rfl))]; exact hw kw hkw)⟩, (by rw [show M2 63 16 = M 63 16 from (Eq.trans (hk 63 16 (by unfold WR1; omega)) (Eq.trans (k5 63 16 (by unfold WBG; omega)) rfl))]; exact hbt), ⟨un, wn, by omega, by omega, (Eq.trans (hk 62 5 (by decide)) (Eq.trans (k5 62 5 (by decide)) e_un)), (Eq.trans (hk 62 4 (by decide)) (Eq.trans (k5 62 4 (by decide)) e_wn))⟩, (fun kk hkk => by rw [show M2 64 kk = M 64 kk from (Eq.trans (hk 64 kk (by unfold WR1; omega)) (Eq.trans (k5 64 kk (by unfold WBG; omega)) rfl)), show M2 65 kk = M 65 kk from (Eq.trans (hk 65 kk (by unfold WR1; omega)) (Eq.trans (k5 65 kk (by unfold WBG; omega)) rfl)), show M2 66 kk = M 66 kk from (Eq.trans (hk 66 kk (by unfold WR1; omega)) (Eq.trans (k5 66 kk (by unfold WBG; omega)) rfl))]; exact hch kk hkk), ⟨n, by omega, (Eq.trans (hk 62 11 (by decide)) (Eq.trans (k5 62 11 (by decide)) e_n))⟩, (by rw [show M2 62 13 = M 62 13 from (Eq.trans (hk 62 13 (by unfold WR1; omega)) (Eq.trans (k5 62 13 (by unfold WBG; omega)) rfl))]; exact htx), ⟨b, by omega, (Eq.trans (hk 62 36 (by decide)) (Eq.trans (k5 62 36 (by decide)) e_b))⟩, (fun j hj => by obtain ⟨q, hq, eq⟩ := hkd j hj; exact ⟨q, hq, (show M2 81 j = M 81 j from (Eq.trans (hk 81 j (by unfold WR1; omega)) (Eq.trans (k5 81 j (by unfold WBG; omega)) rfl))).trans eq⟩), ⟨ra, by omega, (Eq.trans (hk 62 39 (by decide)) (Eq.trans (k5 62 39 (by decide)) e_ra))⟩, (fun j hj => by rw [show M2 83 j = M 83 j from (Eq.trans (hk 83 j (by unfold WR1; omega)) (Eq.trans (k5 83 j (by unfold WBG; omega)) rfl)), show M2 84 j = M 84 j from (Eq.trans (hk 84 j (by unfold WR1; omega)) (Eq.trans (k5 84 j (by unfold WBG; omega)) rfl))]; exact hsl j hj), ⟨ic, by omega, (Eq.trans (hk 62 34 (by decide)) (Eq.trans (k5 62 34 (by decide)) e_ic))⟩, (fun j hj => by obtain ⟨q, hq, eq⟩ := hS j hj; exact ⟨q, hq, (show M2 75 j = M 75 j from (Eq.trans (hk 75 j (by unfold WR1; omega)) (Eq.trans (k5 75 j (by unfold WBG; omega)) rfl))).trans eq⟩)⟩, (hr.trans ((if_neg (by rw [hkk]; decide)).trans (if_pos hkk)).symm).trans (muR_y hq)⟩) (fun q16 q17 M18 k19 hEE => ?_) (200 - 0) 0 (dJ (duN 0 (gpN (G9 q).2.1 (G9 q).2.2 0))) 0 M4 (by omega) Ke.rf ⟨D, _, 0, rfl, rfl, Nat.le_refl _, hdb, hTR, mo_rf, by rw [← now_0]; rfl⟩
        refine xr_sipush (v := 200) dX10_music_187 rfl ?_
        exact xr_iret dX10_music_190 rfl rfl (⟨_, rfl, rfl, rfl, (Ke.tr (fun _ _ h => h) (Ke.tr (fun pp kk h => (Or.inr (Or.inr (Or.inr (Or.inr (Or.inr (Or.inr (Or.inr (by omega))))))))) Ke.rf k5) k19), ⟨⟨⟨nh, by omega, (Eq.trans (k19 62 6 (by decide)) (Eq.trans (k5 62 6 (by decide)) e_hn)), (fun kw hkw => by rw [show M18 63 (5 + kw) = M 63 (5 + kw) from (Eq.trans (k19 63 (5 + kw) (by unfold WR1; omega)) (Eq.trans (k5 63 (5 + kw) (by unfold WBG; omega)) rfl))]; exact hw kw hkw)⟩, (by rw [show M18 63 16 = M 63 16 from (Eq.trans (k19 63 16 (by unfold WR1; omega)) (Eq.trans (k5 63 16 (by unfold WBG; omega)) rfl))]; exact hbt), ⟨un, wn, by omega, by omega, (Eq.trans (k19 62 5 (by decide)) (Eq.trans (k5 62 5 (by decide)) e_un)), (Eq.trans (k19 62 4 (by decide)) (Eq.trans (k5 62 4 (by decide)) e_wn))⟩, (fun kk hkk => by rw [show M18 64 kk = M 64 kk from (Eq.trans (k19 64 kk (by unfold WR1; omega)) (Eq.trans (k5 64 kk (by unfold WBG; omega)) rfl)), show M18 65 kk = M 65 kk from (Eq.trans (k19 65 kk (by unfold WR1; omega)) (Eq.trans (k5 65 kk (by unfold WBG; omega)) rfl)), show M18 66 kk = M 66 kk from (Eq.trans (k19 66 kk (by unfold WR1; omega)) (Eq.trans (k5 66 kk (by unfold WBG; omega)) rfl))]; exact hch kk hkk), ⟨n, by omega, (Eq.trans (k19 62 11 (by decide)) (Eq.trans (k5 62 11 (by decide)) e_n))⟩, (by rw [show M18 62 13 = M 62 13 from (Eq.trans (k19 62 13 (by unfold WR1; omega)) (Eq.trans (k5 62 13 (by unfold WBG; omega)) rfl))]; exact htx), ⟨b, by omega, (Eq.trans (k19 62 36 (by decide)) (Eq.trans (k5 62 36 (by decide)) e_b))⟩, (fun j hj => by obtain ⟨q, hq, eq⟩ := hkd j hj; exact ⟨q, hq, (show M18 81 j = M 81 j from (Eq.trans (k19 81 j (by unfold WR1; omega)) (Eq.trans (k5 81 j (by unfold WBG; omega)) rfl))).trans eq⟩), ⟨ra, by omega, (Eq.trans (k19 62 39 (by decide)) (Eq.trans (k5 62 39 (by decide)) e_ra))⟩, (fun j hj => by rw [show M18 83 j = M 83 j from (Eq.trans (k19 83 j (by unfold WR1; omega)) (Eq.trans (k5 83 j (by unfold WBG; omega)) rfl)), show M18 84 j = M 84 j from (Eq.trans (k19 84 j (by unfold WR1; omega)) (Eq.trans (k5 84 j (by unfold WBG; omega)) rfl))]; exact hsl j hj), ⟨ic, by omega, (Eq.trans (k19 62 34 (by decide)) (Eq.trans (k5 62 34 (by decide)) e_ic))⟩, (fun j hj => by obtain ⟨q, hq, eq⟩ := hS j hj; exact ⟨q, hq, (show M18 75 j = M 75 j from (Eq.trans (k19 75 j (by unfold WR1; omega)) (Eq.trans (k5 75 j (by unfold WBG; omega)) rfl))).trans eq⟩)⟩, (((congrArg nI hEE).trans ((if_neg (by rw [hkk]; decide)).trans (if_pos hkk)).symm).trans (muR_y hq))⟩⟩)
  · refine xb_top (y := (-12)) ((if_neg h0).trans (if_neg h2)) ?_
    refine xr_if_ge (tgt := 14) dX10_music_5 rfl (fun c => absurd c (by decide)) (fun _ => ?_)
    refine xr_aload_n dX10_music_8 0 rfl ?_
    refine xr_iload_n dX10_music_9 1 rfl ?_
    refine xb_cV (As := [.int (nI (q))]) (rest := []) mlX10_285 (gw_X10_rowIs hq) dX10_music_10 s_62 rfl rfl (Nat.le_of_ble_eq_true rfl) (by decide) (by decide) ?_
    refine xb_top (y := (-12)) ((if_neg h0).trans (if_neg h2)) ?_
    exact xr_iret dX10_music_13 rfl rfl (⟨_, rfl, rfl, rfl, Ke.rf, ⟨⟨⟨nh, by omega, e_hn, (fun kw hkw => by rw [show M 63 (5 + kw) = M 63 (5 + kw) from rfl]; exact hw kw hkw)⟩, (by rw [show M 63 16 = M 63 16 from rfl]; exact hbt), ⟨un, wn, by omega, by omega, e_un, e_wn⟩, (fun kk hkk => by rw [show M 64 kk = M 64 kk from rfl, show M 65 kk = M 65 kk from rfl, show M 66 kk = M 66 kk from rfl]; exact hch kk hkk), ⟨n, by omega, e_n⟩, (by rw [show M 62 13 = M 62 13 from rfl]; exact htx), ⟨b, by omega, e_b⟩, (fun j hj => by obtain ⟨q, hq, eq⟩ := hkd j hj; exact ⟨q, hq, (show M 81 j = M 81 j from rfl).trans eq⟩), ⟨ra, by omega, e_ra⟩, (fun j hj => by rw [show M 83 j = M 83 j from rfl, show M 84 j = M 84 j from rfl]; exact hsl j hj), ⟨ic, by omega, e_ic⟩, (fun j hj => by obtain ⟨q, hq, eq⟩ := hS j hj; exact ⟨q, hq, (show M 75 j = M 75 j from rfl).trans eq⟩)⟩, (((if_neg (by rw [hkk]; decide)).trans (if_neg (by rw [hkk]; decide))).symm.trans (muR_y hq))⟩⟩)
set_option maxRecDepth 100000 in
set_option maxHeartbeats 4000000 in
theorem gxzn_X10_music {nh : Nat} {D : xM} {t : Option zL} {S : Nat → Int32} {G9 : xQs} (d : Int32) {l : Launch} {G : xG} {M : xM} {J : xJ} (hI : InvR M) (hWG : WG nh D S) (hG : RG M nh D t S) (hSh : RSh M J G9) (hWS : WSh G9) (hd : ¬ (0 ≤ d ∧ d ≤ 5)) : x_M l G fX10_music 61 0 0 [.ref (62), .int (d)] x_SH M J (qKI WR1 M J (fun r M2 => InvR M2 ∧ (r = muR nh D t S G9 d))) := by
  refine xb_of pX10 (Nat.le_of_ble_eq_true rfl) rfl ?_
  obtain ⟨⟨hn, h_hn, e_hn, hw⟩, hbt, ⟨un, wn, h_uw, h_wn, e_un, e_wn⟩, hch, ⟨n, h_n, e_n⟩, htx, ⟨b, h_b, e_b⟩, hkd, ⟨ra, h_ra, e_ra⟩, hsl, ⟨ic, h_ic, e_ic⟩, hS⟩ := hI
  obtain ⟨hn5, hW, hrub, hbeat⟩ := hWG
  obtain ⟨hGn, hA, hL, e_nw, e_rub, e_bt, e_ph, e_st, e_kn, e_pu, e_lf⟩ := hG
  obtain rfl : nh = hn := (nI_eq (by omega) (by omega)).mp (hGn.symm.trans e_hn)
  have hbt2 : ¬ S 2 = 0 := ne2_0 hbeat.1
  refine xr_aload_n dX10_music_0 0 rfl ?_
  refine xr_iload_n dX10_music_1 1 rfl ?_
  refine xb_cV (As := [.int (d)]) (rest := []) mlX10_285 (gw_X10_rowIs_n hd) dX10_music_2 s_62 rfl rfl (Nat.le_of_ble_eq_true rfl) (by decide) (by decide) ?_
  refine xr_if_ge (tgt := 14) dX10_music_5 rfl (fun c => absurd c (by decide)) (fun _ => ?_)
  refine xr_aload_n dX10_music_8 0 rfl ?_
  refine xr_iload_n dX10_music_9 1 rfl ?_
  refine xb_cV (As := [.int (d)]) (rest := []) mlX10_285 (gw_X10_rowIs_n hd) dX10_music_10 s_62 rfl rfl (Nat.le_of_ble_eq_true rfl) (by decide) (by decide) ?_
  exact xr_iret dX10_music_13 rfl rfl (⟨_, rfl, rfl, rfl, Ke.rf, ⟨⟨⟨nh, by omega, e_hn, (fun kw hkw => by rw [show M 63 (5 + kw) = M 63 (5 + kw) from rfl]; exact hw kw hkw)⟩, (by rw [show M 63 16 = M 63 16 from rfl]; exact hbt), ⟨un, wn, by omega, by omega, e_un, e_wn⟩, (fun kk hkk => by rw [show M 64 kk = M 64 kk from rfl, show M 65 kk = M 65 kk from rfl, show M 66 kk = M 66 kk from rfl]; exact hch kk hkk), ⟨n, by omega, e_n⟩, (by rw [show M 62 13 = M 62 13 from rfl]; exact htx), ⟨b, by omega, e_b⟩, (fun j hj => by obtain ⟨q, hq, eq⟩ := hkd j hj; exact ⟨q, hq, (show M 81 j = M 81 j from rfl).trans eq⟩), ⟨ra, by omega, e_ra⟩, (fun j hj => by rw [show M 83 j = M 83 j from rfl, show M 84 j = M 84 j from rfl]; exact hsl j hj), ⟨ic, by omega, e_ic⟩, (fun j hj => by obtain ⟨q, hq, eq⟩ := hS j hj; exact ⟨q, hq, (show M 75 j = M 75 j from rfl).trans eq⟩)⟩, (muR_n hd)⟩⟩)
theorem gx_X10_music (d : Int32) {nh : Nat} {D : xM} {t : Option zL} {S : Nat → Int32} {G9 : xQs} {l : Launch} {G : xG} {M : xM} {J : xJ} (hI : InvR M) (hWG : WG nh D S) (hG : RG M nh D t S) (hSh : RSh M J G9) (hWS : WSh G9) : x_M l G fX10_music 61 0 0 [.ref (62), .int (d)] x_SH M J (qKI WR1 M J (fun r M2 => InvR M2 ∧ (r = muR nh D t S G9 d))) := by
  by_cases hd : 0 ≤ d ∧ d ≤ 5
  · obtain ⟨q, hq, rfl⟩ := x_natle (v := d) (N := 5) (K := 5) (by decide) (by decide) hd
    exact gxzq_X10_music  hI hWG hG hSh hWS (by omega)
  · exact gxzn_X10_music d hI hWG hG hSh hWS hd
