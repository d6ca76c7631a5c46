def brF (a b : Int32) : Int32 := if a = 0 then -11 else if a = 2 ∧ b = 0 then 0 else -12
set_option maxRecDepth 100000 in
set_option maxHeartbeats 4000000 in
theorem gw_X6_bytesRefusal {sq el : Nat} (hs : x_SH[sq]? = some (.inl (6, [none, none, none, none, some (some el)]))) (hel : x_SH[el]? = some (.inr (2, 60, fun _ => none))) {l : Launch} {G : xG} {M : xM} {J : xJ} : x_M l G fX6_bytesRefusal 2 0 0 [.ref sq] x_SH M J (qE (some (.int (brF (M sq 0) (M sq 2)))) x_SH M J) := by
  refine xb_of pX6 (Nat.le_of_ble_eq_true rfl) rfl ?_
  refine xr_aload_n dX6_bytesRefusal_0 0 rfl ?_
  refine xb_cV (As := []) (rest := []) mlX6_32 (c_X6_isEmpty hs hel) dX6_bytesRefusal_1 hs rfl rfl (Nat.le_of_ble_eq_true rfl) (by decide) (by decide) ?_
  refine xb_beq (tgt := 10) dX6_bytesRefusal_4 rfl (fun c1 => ?_) (fun c1 => ?_)
  · refine xr_aload_n dX6_bytesRefusal_10 0 rfl ?_
    refine xb_cV (As := []) (rest := []) mlX6_35 (c_X6_hasBytes hs hel) dX6_bytesRefusal_11 hs rfl rfl (Nat.le_of_ble_eq_true rfl) (by decide) (by decide) ?_
    refine xb_beq (tgt := 21) dX6_bytesRefusal_14 rfl (fun c2 => ?_) (fun c2 => ?_)
    · refine xr_bipush (v := -12) dX6_bytesRefusal_21 rfl ?_
      exact xr_iret dX6_bytesRefusal_23 rfl rfl (⟨congrArg (fun z => some (Value.int z)) ((if_neg c1).trans (if_neg c2)).symm, rfl, rfl, rfl⟩)
    · refine xr_iconst (v := 0) dX6_bytesRefusal_17 rfl ?_
      refine xr_goto (tgt := 23) dX6_bytesRefusal_18 rfl ?_
      exact xr_iret dX6_bytesRefusal_23 rfl rfl (⟨congrArg (fun z => some (Value.int z)) ((if_neg c1).trans (if_pos c2)).symm, rfl, rfl, rfl⟩)
  · refine xr_bipush (v := -11) dX6_bytesRefusal_7 rfl ?_
    exact xr_iret dX6_bytesRefusal_9 rfl rfl (⟨congrArg (fun z => some (Value.int z)) (if_pos c1).symm, rfl, rfl, rfl⟩)
set_option maxRecDepth 100000 in
set_option maxHeartbeats 4000000 in
theorem gw_X6_gapAt {j : Nat} (hj : j < 300) {sq el : Nat} (hs : x_SH[sq]? = some (.inl (6, [none, none, none, none, some (some el)]))) (hel : x_SH[el]? = some (.inr (2, 60, fun _ => none))) {L : Nat} {E : Nat → Int64} (hL : L ≤ 60) (hw : ∀ j, j < 60 → ∃ w : Int32, E j = w.toInt64) {l : Launch} {G : xG} {M : xM} {J : xJ} (e_s : M sq 3 = nI L) (hE : ∀ j, j < 60 → J el j = E j) : x_M l G fX6_gapAt 0 0 0 [.ref (sq), .int (nI (j))] x_SH M J (qPI M J (fun r => r = gI (gpN L E j))) := by
  refine xb_of pX6 (Nat.le_of_ble_eq_true rfl) rfl ?_
  refine xr_iload_n dX6_gapAt_0 1 rfl ?_
  refine xr_if_lt (tgt := 29) dX6_gapAt_1 rfl (fun c => absurd c (nI_nlt (a := j) (b := 0) (by omega) (by omega))) (fun _ => ?_)
  refine xr_iload_n dX6_gapAt_4 1 rfl ?_
  refine xr_aload_n dX6_gapAt_5 0 rfl ?_
  refine xb_get (v := nI (L)) flX6_26 dX6_gapAt_6 hs rfl e_s ?_
  refine xr_icmp_ge (tgt := 29) dX6_gapAt_9 rfl (fun c1 => ?_) (fun c1 => ?_)
  · have nc1 : L ≤ j := (nI_leI (a := L) (b := j) (by omega) (by omega)).mp c1
    refine xr_iconst (v := -1) dX6_gapAt_29 rfl ?_
    exact xr_iret dX6_gapAt_30 rfl rfl (⟨_, rfl, rfl, rfl, rfl, (by rw [gpN_n (fun z => absurd z.1 (by omega))]; rfl)⟩)
  · have nc1 : ¬ (L ≤ j) := fun q => c1 ((nI_leI (a := L) (b := j) (by omega) (by omega)).mpr q)
    refine xr_iload_n dX6_gapAt_12 1 rfl ?_
    refine xr_bipush (v := 60) dX6_gapAt_13 rfl ?_
    refine xr_icmp_ge (tgt := 29) dX6_gapAt_15 rfl (fun c2 => ?_) (fun c2 => ?_)
    · have nc2 : 60 ≤ j := (nI_leI (a := 60) (b := j) (by omega) (by omega)).mp c2
      refine xr_iconst (v := -1) dX6_gapAt_29 rfl ?_
      exact xr_iret dX6_gapAt_30 rfl rfl (⟨_, rfl, rfl, rfl, rfl, (by rw [gpN_n (fun z => absurd z.1 (by omega))]; rfl)⟩)
    · have nc2 : ¬ (60 ≤ j) := fun q => c2 ((nI_leI (a := 60) (b := j) (by omega) (by omega)).mpr q)
      refine xr_aload_n dX6_gapAt_18 0 rfl ?_
      refine xr_getR flX6_9 dX6_gapAt_19 hs rfl ?_
      refine xr_iload_n dX6_gapAt_22 1 rfl ?_
      refine xb_lald (j := j) (v := J el j) dX6_gapAt_23 hel (by omega) (by decide) rfl ?_
      refine xr_lconst (v := 1) dX6_gapAt_24 rfl ?_
      refine xr_lcmp dX6_gapAt_25 ?_
      refine xl_ge (tgt := 31) dX6_gapAt_26 rfl (fun c3 => ?_) (fun c3 => ?_)
      · refine xr_aload_n dX6_gapAt_31 0 rfl ?_
        refine xr_getR flX6_9 dX6_gapAt_32 hs rfl ?_
        refine xr_iload_n dX6_gapAt_35 1 rfl ?_
        refine xb_lald (j := j) (v := J el j) dX6_gapAt_36 hel (by omega) (by decide) rfl ?_
        refine xr_l2i dX6_gapAt_37 ?_
        exact xr_iret dX6_gapAt_38 rfl rfl (⟨_, rfl, rfl, rfl, rfl, ((congrArg Int64.toInt32 (hE j (by omega))).trans (gpN_y (by omega) (by rw [← hE j (by omega)]; exact Int64.not_lt.mp c3) (hw j (by omega))).1)⟩)
      · refine xr_iconst (v := -1) dX6_gapAt_29 rfl ?_
        exact xr_iret dX6_gapAt_30 rfl rfl (⟨_, rfl, rfl, rfl, rfl, (by rw [gpN_n (fun z => absurd z.2 (fun y => absurd (hE j (by omega) ▸ c3) (Int64.not_lt.mpr y)))]; rfl)⟩)
set_option maxRecDepth 100000 in
set_option maxHeartbeats 4000000 in
theorem cw_X9_goalOf {x : Nat} (hx : x ≤ 300) {l : Launch} {G : xG} {sh : List xS} {M : xM} {J : xJ} : x_M l G fX9_goalOf 0 0 0 [.int (nI (x))] sh M J (qE (some (.int (w_g2 x))) sh M J) := by
  refine xb_of pX9 (Nat.le_of_ble_eq_true rfl) rfl ?_
  refine xr_iload_n dX9_goalOf_0 0 rfl ?_
  refine xr_iconst (v := 2) dX9_goalOf_1 rfl ?_
  refine xr_irem dX9_goalOf_2 (by decide) ?_
  refine xr_if_ne (tgt := 10) dX9_goalOf_3 rfl (fun c1 => ?_) (fun c1 => ?_)
  · refine xr_bipush (v := 12) dX9_goalOf_10 rfl ?_
    exact xr_iret dX9_goalOf_12 rfl rfl (⟨congrArg (fun z => some (Value.int z)) ((if_neg c1).symm.trans (w_g2_c hx)), rfl, rfl, rfl⟩)
  · refine xr_iconst (v := 0) dX9_goalOf_6 rfl ?_
    refine xr_goto (tgt := 12) dX9_goalOf_7 rfl ?_
    exact xr_iret dX9_goalOf_12 rfl rfl (⟨congrArg (fun z => some (Value.int z)) ((if_pos c1).symm.trans (w_g2_c hx)), rfl, rfl, rfl⟩)
set_option maxRecDepth 100000 in
set_option maxHeartbeats 4000000 in
theorem mux {P : xP} {mf mg : Int32} (hP : WP P) {u : Nat} (hu : u ≤ 5) {sq el : Nat} (hs : x_SH[sq]? = some (.inl (6, [none, none, none, none, some (some el)]))) (hel : x_SH[el]? = some (.inr (2, 60, fun _ => none))) (h50 : 50 ≤ sq ∧ sq ≤ 61) {L : Nat} {E : Nat → Int64} (hLL : L ≤ 60) (hw : ∀ j, j < 60 → ∃ w : Int32, E j = w.toInt64) (T : Nat) {l : Launch} {G : xG} {M : xM} {J : xJ} {Q : xQ} (hL : LCt M P.2.1) (e_s : M sq 3 = nI L) (hE : ∀ j, j < 60 → J el j = E j) (hR : ∀ (r : Int32) (M2 : xM), Ke WS M M2 → r = nI T → Q (some (.int r)) x_SH M2 J) (hC : ∀ (du : Int32) (nx : Int32) (M2 : xM), Ke WS M M2 → (200 = T) → x_X l G fX7_lastingBy 5 0 0 Q 105 [(0, .ref (27))] [] x_SH M2 J 0 0) : ∀ (m k : Nat) (du : Int32) (nx : Int32) (M1 : xM), k + m = 200 → Ke WS M M1 → (∃ D1 nw1 d x, du = nI d ∧ nx = nI x ∧ x ≤ k ∧ d < 2 ^ 32 ∧ TC M1 P nw1 D1 0 (-1) mf mg ∧ muF P u (gpN L E) (200 - k) k d x nw1 D1 = T) → x_X l G fX7_lastingBy 5 0 0 Q 20 [(5, .int (nI (k))), (4, .int (du)), (3, .int (nx)), (2, .int (nI (u))), (1, .ref (sq)), (0, .ref (27))] [] x_SH M1 J 0 0 := by
  intro m
  induction m with
  | zero =>
    intro k du nx M1 hk hM hI
    obtain ⟨D1, nw1, d, x, rfl, rfl, hxk, hd, hT1, hR1⟩ := hI
    obtain ⟨⟨e_cn, hA, hW, hL1⟩, ⟨e_nw, e_rub, e_bt, e_ph, e_st⟩, e_tk, ⟨q, hq, e_q⟩, e_lo, e_mt, e_mf, e_mg⟩ := hT1
    have h_cn : P.1 ≤ 5 := hP.1
    have hrub : 0 ≤ P.2.2.1 ∧ P.2.2.1 ≤ 3 := hP.2.1
    refine xr_iload dX7_lastingBy_20 0 rfl ?_
    refine xr_sipush (v := 200) dX7_lastingBy_22 rfl ?_
    refine xr_icmp_ge (tgt := 105) dX7_lastingBy_25 rfl (fun _ => ?_) (fun c => absurd (nI_le (a := 200) (b := k) (by omega) (by omega)) c)
    refine xb_ls (ls2 := [(0, .ref (27))]) [5] rfl ?_
    exact hC (nI (d)) (nI (x)) _ hM (by obtain rfl : k = 200 := (by omega); exact hR1)
  | succ m ih =>
    intro k du nx M1 hk hM hI
    have hkN : k < 200 := by omega
    obtain ⟨D1, nw1, d, x, rfl, rfl, hxk, hd, hT1, hR1⟩ := hI
    obtain ⟨⟨e_cn, hA, hW, hL1⟩, ⟨e_nw, e_rub, e_bt, e_ph, e_st⟩, e_tk, ⟨q, hq, e_q⟩, e_lo, e_mt, e_mf, e_mg⟩ := hT1
    have h_cn : P.1 ≤ 5 := hP.1
    have hrub : 0 ≤ P.2.2.1 ∧ P.2.2.1 ≤ 3 := hP.2.1
    refine xr_iload dX7_lastingBy_20 0 rfl ?_
    refine xr_sipush (v := 200) dX7_lastingBy_22 rfl ?_
    refine xr_icmp_ge (tgt := 105) dX7_lastingBy_25 rfl (fun c => absurd c (nI_ge (a := k) (b := 200) (by omega) (by omega))) (fun _ => ?_)
    refine xr_iload dX7_lastingBy_28 0 rfl ?_
    refine xr_iload dX7_lastingBy_30 1 rfl ?_
    refine xr_icmp_ne (tgt := 78) dX7_lastingBy_32 rfl (fun c1 => ?_) (fun c1 => ?_)
    · have hkd : ¬ k = d := fun z => c1 (congrArg nI z)
      refine xr_aload_n dX7_lastingBy_78 5 rfl ?_
      refine xr_getR flX7_15 dX7_lastingBy_79 s_27 rfl ?_
      refine xr_callV (As := []) (rest := []) mlX7_58 (gw_X5_settle_28 hrub h_cn e_cn e_nw e_rub rfl (show AbC 30 P.1 _ (muD P k d x D1) by unfold muD; rw [if_neg hkd]; exact hA) (WF_muD hW)) dX7_lastingBy_82 s_28 rfl rfl (Nat.le_of_ble_eq_true rfl) (by decide) ⟨by decide, by decide⟩ (fun v s2 M3 J2 hq => ?_)
      obtain ⟨rfl, rfl, rfl, k4, hx2⟩ := hq
      try dsimp only [Option.toList, List.cons_append, List.nil_append]
      refine xr_aload_n dX7_lastingBy_85 5 rfl ?_
      refine xr_getR flX7_15 dX7_lastingBy_86 s_27 rfl ?_
      refine xr_callV (As := []) (rest := []) mlX7_76 (gw_X5_upright_28 (cn := P.1) hP.1 (Eq.trans (k4 28 2 (by decide)) e_cn) hx2.1) dX7_lastingBy_89 s_28 rfl rfl (Nat.le_of_ble_eq_true rfl) (by decide) ⟨by decide, by decide⟩ (fun v s2 M9 J2 hq => ?_)
      obtain ⟨r6, rfl, rfl, rfl, rfl, hx5⟩ := hq
      try dsimp only [Option.toList, List.cons_append, List.nil_append]
      subst hx5
      refine xb_top (y := nI (upn P.1 (muT P k d x nw1 D1))) rfl ?_
      refine xr_iload_n dX7_lastingBy_92 3 rfl ?_
      refine xr_icmp_ge (tgt := 99) dX7_lastingBy_93 rfl (fun c7 => ?_) (fun c7 => ?_)
      · refine xr_iinc (v := nI (k + 1)) (ls2 := [(5, .int (nI (k + 1))), (4, .int (nI (d))), (3, .int (nI (x))), (2, .int (nI (u))), (1, .ref (sq)), (0, .ref (27))]) dX7_lastingBy_99 0 rfl (nI_1 _) (by decide) rfl ?_
        refine xr_goto (tgt := 20) dX7_lastingBy_102 rfl ?_
        refine xb_ls (ls2 := [(5, .int (nI (k + 1))), (4, .int (nI (d))), (3, .int (nI (x))), (2, .int (nI (u))), (1, .ref (sq)), (0, .ref (27))]) [0, 1, 2, 3, 4, 5] rfl ?_
        exact ih (k + 1) (nI (d)) (nI (x)) M3 (by omega) (Ke.tr (fun pp kk => (fun hh => Or.elim hh (fun h => (Or.inr (Or.inr (Or.inr (Or.inl (by omega)))))) (fun hh => Or.elim hh (fun h => (Or.inr (Or.inr (Or.inr (Or.inl (by omega)))))) (fun h => (Or.inr (Or.inr (Or.inr (Or.inr h)))))))) hM k4) ⟨muT P k d x nw1 D1, nw1 + 1, _, _, rfl, rfl, by omega, by omega, ⟨⟨(Eq.trans (k4 28 2 (by decide)) e_cn), hx2.1, (WF_seT (WF_muD hW)), (LCt_k (Eq.trans (k4 1 4 (by unfold W28s; omega)) (Eq.trans (hM 1 4 (by unfold WS; omega)) rfl)) (fun kl => (Eq.trans (k4 2 kl (by unfold W28s; omega)) (Eq.trans (hM 2 kl (by unfold WS; omega)) rfl))) (fun kl => (Eq.trans (k4 3 kl (by unfold W28s; omega)) (Eq.trans (hM 3 kl (by unfold WS; omega)) rfl))) hL)⟩, ⟨hx2.2.1, (Eq.trans (k4 28 4 (by decide)) e_rub), (Eq.trans (k4 28 5 (by decide)) e_bt), (Eq.trans (k4 28 6 (by decide)) e_ph), (Eq.trans (k4 28 7 (by decide)) e_st)⟩, (Eq.trans (k4 27 2 (by decide)) e_tk), ⟨q, hq, (Eq.trans (k4 27 3 (by decide)) e_q)⟩, (Eq.trans (k4 27 4 (by decide)) e_lo), (Eq.trans (k4 27 5 (by decide)) e_mt), (Eq.trans (k4 27 6 (by decide)) e_mf), (Eq.trans (k4 27 7 (by decide)) e_mg)⟩, by have z := (muF_n hkN (fun z => absurd (nI_lt (a := upn P.1 (muT P k d x nw1 D1)) (b := u) z (by omega)) (Int32.not_lt.mpr c7))).trans hR1; rw [show muG (gpN L E) k d x = _ from if_neg hkd, show muX k d x = _ from if_neg hkd] at z; exact z⟩
      · refine xr_iload dX7_lastingBy_96 0 rfl ?_
        exact xr_iret dX7_lastingBy_98 rfl rfl ((hR _ _ (Ke.tr (fun pp kk => (fun hh => Or.elim hh (fun h => (Or.inr (Or.inr (Or.inr (Or.inl (by omega)))))) (fun hh => Or.elim hh (fun h => (Or.inr (Or.inr (Or.inr (Or.inl (by omega)))))) (fun h => (Or.inr (Or.inr (Or.inr (Or.inr h)))))))) hM k4) (by rw [← (muF_y hkN (show upn P.1 (muT P k d x nw1 D1) < u from Nat.lt_of_not_le (fun z => c7 (nI_le z (by have := upn_b (D := muT P k d x nw1 D1) P.1; omega))))).symm.trans hR1])))
    · refine xr_aload_n dX7_lastingBy_35 5 rfl ?_
      refine xr_getR flX7_15 dX7_lastingBy_36 s_27 rfl ?_
      refine xr_aload_n dX7_lastingBy_39 5 rfl ?_
      refine xr_getR flX7_15 dX7_lastingBy_40 s_27 rfl ?_
      refine xb_get (v := P.2.2.2.2.2) flX7_47 dX7_lastingBy_43 s_28 rfl e_st ?_
      refine xr_iload_n dX7_lastingBy_46 2 rfl ?_
      refine xb_cN (As := [.int (nI (x))]) (rest := [.int (P.2.2.2.2.2), .ref (28)]) mlX7_88 (cw_X9_goalOf (x := x) (by omega)) dX7_lastingBy_47 rfl rfl (Nat.le_of_ble_eq_true rfl) (by decide) (by decide) ?_
      refine xr_callV (As := [.int (P.2.2.2.2.2), .int ((w_g2 x))]) (rest := []) mlX7_54 (gw_X5_push_28 P.2.2.2.2.2 (w_g2 x) h_cn e_cn (LCt_k (Eq.trans (hM 1 4 (by unfold WS; omega)) rfl) (fun kl => (Eq.trans (hM 2 kl (by unfold WS; omega)) rfl)) (fun kl => (Eq.trans (hM 3 kl (by unfold WS; omega)) rfl)) hL) (w_g2_b x) hA hW) dX7_lastingBy_50 s_28 rfl rfl (Nat.le_of_ble_eq_true rfl) (by decide) ⟨by decide, by decide⟩ (fun v s2 M9 J2 hq => ?_)
      obtain ⟨rfl, rfl, rfl, k10, hx8⟩ := hq
      try dsimp only [Option.toList, List.cons_append, List.nil_append]
      refine xr_iinc (v := nI (x + 1)) (ls2 := [(3, .int (nI (x + 1))), (5, .int (nI (k))), (4, .int (nI (d))), (2, .int (nI (u))), (1, .ref (sq)), (0, .ref (27))]) dX7_lastingBy_53 2 rfl (nI_1 _) (by decide) rfl ?_
      refine xr_aload_n dX7_lastingBy_56 4 rfl ?_
      refine xr_iload_n dX7_lastingBy_57 0 rfl ?_
      refine xr_callV (As := [.int (nI (x + 1))]) (rest := []) mlX7_82 (gw_X6_gapAt (j := x + 1) (by omega) hs hel hLL hw ((Eq.trans (k10 sq 3 (by unfold W28p; omega)) (Eq.trans (hM sq 3 (by unfold WS; omega)) rfl)).trans e_s) hE) dX7_lastingBy_58 hs rfl rfl (Nat.le_of_ble_eq_true rfl) (by decide) ⟨by decide, by decide⟩ (fun v s2 M9 J2 hq => ?_)
      obtain ⟨r12, rfl, rfl, rfl, rfl, hx11⟩ := hq
      try dsimp only [Option.toList, List.cons_append, List.nil_append]
      subst hx11
      have hg9 := gpN_b (j := x + 1) hLL hw
      refine xr_if_ge (tgt := 68) dX7_lastingBy_61 rfl (fun c13 => ?_) (fun c13 => ?_)
      · refine xr_iload dX7_lastingBy_68 1 rfl ?_
        refine xr_aload_n dX7_lastingBy_70 4 rfl ?_
        refine xr_iload_n dX7_lastingBy_71 0 rfl ?_
        refine xr_callV (As := [.int (nI (x + 1))]) (rest := [.int (nI (k))]) mlX7_82 (gw_X6_gapAt (j := x + 1) (by omega) hs hel hLL hw ((Eq.trans (k10 sq 3 (by unfold W28p; omega)) (Eq.trans (hM sq 3 (by unfold WS; omega)) rfl)).trans e_s) hE) dX7_lastingBy_72 hs rfl rfl (Nat.le_of_ble_eq_true rfl) (by decide) ⟨by decide, by decide⟩ (fun v s2 M9 J2 hq => ?_)
        obtain ⟨r15, rfl, rfl, rfl, rfl, hx14⟩ := hq
        try dsimp only [Option.toList, List.cons_append, List.nil_append]
        subst hx14
        have hg9 := gpN_b (j := x + 1) hLL hw
        refine xr_iadd dX7_lastingBy_75 ?_
        refine xb_top (y := nI (duN k (gpN L E (x + 1)))) (du_1 (fun z => absurd ((gI_lt hg9).mpr z) (Int32.not_lt.mpr c13))) ?_
        have hdb := du_b (k := k) (by omega) hg9
        refine xr_istore (ls2 := [(4, .int (nI (duN k (gpN L E (x + 1))))), (3, .int (nI (x + 1))), (5, .int (nI (k))), (2, .int (nI (u))), (1, .ref (sq)), (0, .ref (27))]) dX7_lastingBy_76 (by decide) rfl ?_
        have hkd : k = d := (nI_eqw (by omega) hd).mp c1
        refine xr_aload_n dX7_lastingBy_78 5 rfl ?_
        refine xr_getR flX7_15 dX7_lastingBy_79 s_27 rfl ?_
        refine xr_callV (As := []) (rest := []) mlX7_58 (gw_X5_settle_28 hrub h_cn (Eq.trans (k10 28 2 (by decide)) e_cn) (Eq.trans (k10 28 3 (by decide)) e_nw) (Eq.trans (k10 28 4 (by decide)) e_rub) (Eq.trans (k10 28 9 (by decide)) rfl) (show AbC 30 P.1 _ (muD P k d x D1) by unfold muD; rw [if_pos hkd]; exact hx8) (WF_muD hW)) dX7_lastingBy_82 s_28 rfl rfl (Nat.le_of_ble_eq_true rfl) (by decide) ⟨by decide, by decide⟩ (fun v s2 M17 J2 hq => ?_)
        obtain ⟨rfl, rfl, rfl, k18, hx16⟩ := hq
        try dsimp only [Option.toList, List.cons_append, List.nil_append]
        refine xr_aload_n dX7_lastingBy_85 5 rfl ?_
        refine xr_getR flX7_15 dX7_lastingBy_86 s_27 rfl ?_
        refine xr_callV (As := []) (rest := []) mlX7_76 (gw_X5_upright_28 (cn := P.1) hP.1 (Eq.trans (k18 28 2 (by decide)) (Eq.trans (k10 28 2 (by decide)) e_cn)) hx16.1) dX7_lastingBy_89 s_28 rfl rfl (Nat.le_of_ble_eq_true rfl) (by decide) ⟨by decide, by decide⟩ (fun v s2 M9 J2 hq => ?_)
        obtain ⟨r20, rfl, rfl, rfl, rfl, hx19⟩ := hq
        try dsimp only [Option.toList, List.cons_append, List.nil_append]
        subst hx19
        refine xb_top (y := nI (upn P.1 (muT P k d x nw1 D1))) rfl ?_
        refine xr_iload_n dX7_lastingBy_92 3 rfl ?_
        refine xr_icmp_ge (tgt := 99) dX7_lastingBy_93 rfl (fun c21 => ?_) (fun c21 => ?_)
        · refine xr_iinc (v := nI (k + 1)) (ls2 := [(5, .int (nI (k + 1))), (4, .int (nI (duN k (gpN L E (x + 1))))), (3, .int (nI (x + 1))), (2, .int (nI (u))), (1, .ref (sq)), (0, .ref (27))]) dX7_lastingBy_99 2 rfl (nI_1 _) (by decide) rfl ?_
          refine xr_goto (tgt := 20) dX7_lastingBy_102 rfl ?_
          refine xb_ls (ls2 := [(5, .int (nI (k + 1))), (4, .int (nI (duN k (gpN L E (x + 1))))), (3, .int (nI (x + 1))), (2, .int (nI (u))), (1, .ref (sq)), (0, .ref (27))]) [0, 1, 2, 3, 4, 5] rfl ?_
          exact ih (k + 1) (nI (duN k (gpN L E (x + 1)))) (nI (x + 1)) M17 (by omega) (Ke.tr (fun pp kk => (fun hh => Or.elim hh (fun h => (Or.inr (Or.inr (Or.inr (Or.inl (by omega)))))) (fun hh => Or.elim hh (fun h => (Or.inr (Or.inr (Or.inr (Or.inl (by omega)))))) (fun h => (Or.inr (Or.inr (Or.inr (Or.inr h)))))))) (Ke.tr (fun pp kk => (fun hh => Or.elim hh (fun h => (Or.inl h)) (fun hh => Or.elim hh (fun h => (Or.inr (Or.inl h))) (fun h => (Or.inr (Or.inr (Or.inr (Or.inr h)))))))) hM k10) k18) ⟨muT P k d x nw1 D1, nw1 + 1, _, _, rfl, rfl, by omega, by omega, ⟨⟨(Eq.trans (k18 28 2 (by decide)) (Eq.trans (k10 28 2 (by decide)) e_cn)), hx16.1, (WF_seT (WF_muD hW)), (LCt_k (Eq.trans (k18 1 4 (by unfold W28s; omega)) (Eq.trans (k10 1 4 (by unfold W28p; omega)) (Eq.trans (hM 1 4 (by unfold WS; omega)) rfl))) (fun kl => (Eq.trans (k18 2 kl (by unfold W28s; omega)) (Eq.trans (k10 2 kl (by unfold W28p; omega)) (Eq.trans (hM 2 kl (by unfold WS; omega)) rfl)))) (fun kl => (Eq.trans (k18 3 kl (by unfold W28s; omega)) (Eq.trans (k10 3 kl (by unfold W28p; omega)) (Eq.trans (hM 3 kl (by unfold WS; omega)) rfl)))) hL)⟩, ⟨hx16.2.1, (Eq.trans (k18 28 4 (by decide)) (Eq.trans (k10 28 4 (by decide)) e_rub)), (Eq.trans (k18 28 5 (by decide)) (Eq.trans (k10 28 5 (by decide)) e_bt)), (Eq.trans (k18 28 6 (by decide)) (Eq.trans (k10 28 6 (by decide)) e_ph)), (Eq.trans (k18 28 7 (by decide)) (Eq.trans (k10 28 7 (by decide)) e_st))⟩, (Eq.trans (k18 27 2 (by decide)) (Eq.trans (k10 27 2 (by decide)) e_tk)), ⟨q, hq, (Eq.trans (k18 27 3 (by decide)) (Eq.trans (k10 27 3 (by decide)) e_q))⟩, (Eq.trans (k18 27 4 (by decide)) (Eq.trans (k10 27 4 (by decide)) e_lo)), (Eq.trans (k18 27 5 (by decide)) (Eq.trans (k10 27 5 (by decide)) e_mt)), (Eq.trans (k18 27 6 (by decide)) (Eq.trans (k10 27 6 (by decide)) e_mf)), (Eq.trans (k18 27 7 (by decide)) (Eq.trans (k10 27 7 (by decide)) e_mg))⟩, by have z := (muF_n hkN (fun z => absurd (nI_lt (a := upn P.1 (muT P k d x nw1 D1)) (b := u) z (by omega)) (Int32.not_lt.mpr c21))).trans hR1; rw [show muG (gpN L E) k d x = _ from if_pos hkd, show muX k d x = _ from if_pos hkd] at z; exact z⟩
        · refine xr_iload dX7_lastingBy_96 2 rfl ?_
          exact xr_iret dX7_lastingBy_98 rfl rfl ((hR _ _ (Ke.tr (fun pp kk => (fun hh => Or.elim hh (fun h => (Or.inr (Or.inr (Or.inr (Or.inl (by omega)))))) (fun hh => Or.elim hh (fun h => (Or.inr (Or.inr (Or.inr (Or.inl (by omega)))))) (fun h => (Or.inr (Or.inr (Or.inr (Or.inr h)))))))) (Ke.tr (fun pp kk => (fun hh => Or.elim hh (fun h => (Or.inl h)) (fun hh => Or.elim hh (fun h => (Or.inr (Or.inl h))) (fun h => (Or.inr (Or.inr (Or.inr (Or.inr h)))))))) hM k10) k18) (by rw [← (muF_y hkN (show upn P.1 (muT P k d x nw1 D1) < u from Nat.lt_of_not_le (fun z => c21 (nI_le z (by have := upn_b (D := muT P k d x nw1 D1) P.1; omega))))).symm.trans hR1])))
      · refine xr_iconst (v := -1) dX7_lastingBy_64 rfl ?_
        refine xr_goto (tgt := 76) dX7_lastingBy_65 rfl ?_
        refine xb_top (y := nI (duN k (gpN L E (x + 1)))) (du_0 ((gI_lt hg9).mp (Int32.not_le.mp c13))) ?_
        have hdb := du_b (k := k) (by omega) hg9
        refine xr_istore (ls2 := [(4, .int (nI (duN k (gpN L E (x + 1))))), (3, .int (nI (x + 1))), (5, .int (nI (k))), (2, .int (nI (u))), (1, .ref (sq)), (0, .ref (27))]) dX7_lastingBy_76 (by decide) rfl ?_
        have hkd : k = d := (nI_eqw (by omega) hd).mp c1
        refine xr_aload_n dX7_lastingBy_78 5 rfl ?_
        refine xr_getR flX7_15 dX7_lastingBy_79 s_27 rfl ?_
        refine xr_callV (As := []) (rest := []) mlX7_58 (gw_X5_settle_28 hrub h_cn (Eq.trans (k10 28 2 (by decide)) e_cn) (Eq.trans (k10 28 3 (by decide)) e_nw) (Eq.trans (k10 28 4 (by decide)) e_rub) (Eq.trans (k10 28 9 (by decide)) rfl) (show AbC 30 P.1 _ (muD P k d x D1) by unfold muD; rw [if_pos hkd]; exact hx8) (WF_muD hW)) dX7_lastingBy_82 s_28 rfl rfl (Nat.le_of_ble_eq_true rfl) (by decide) ⟨by decide, by decide⟩ (fun v s2 M23 J2 hq => ?_)
        obtain ⟨rfl, rfl, rfl, k24, hx22⟩ := hq
        try dsimp only [Option.toList, List.cons_append, List.nil_append]
        refine xr_aload_n dX7_lastingBy_85 5 rfl ?_
        refine xr_getR flX7_15 dX7_lastingBy_86 s_27 rfl ?_
        refine xr_callV (As := []) (rest := []) mlX7_76 (gw_X5_upright_28 (cn := P.1) hP.1 (Eq.trans (k24 28 2 (by decide)) (Eq.trans (k10 28 2 (by decide)) e_cn)) hx22.1) dX7_lastingBy_89 s_28 rfl rfl (Nat.le_of_ble_eq_true rfl) (by decide) ⟨by decide, by decide⟩ (fun v s2 M9 J2 hq => ?_)
        obtain ⟨r26, rfl, rfl, rfl, rfl, hx25⟩ := hq
        try dsimp only [Option.toList, List.cons_append, List.nil_append]
        subst hx25
        refine xb_top (y := nI (upn P.1 (muT P k d x nw1 D1))) rfl ?_
        refine xr_iload_n dX7_lastingBy_92 3 rfl ?_
        refine xr_icmp_ge (tgt := 99) dX7_lastingBy_93 rfl (fun c27 => ?_) (fun c27 => ?_)
        · refine xr_iinc (v := nI (k + 1)) (ls2 := [(5, .int (nI (k + 1))), (4, .int (nI (duN k (gpN L E (x + 1))))), (3, .int (nI (x + 1))), (2, .int (nI (u))), (1, .ref (sq)), (0, .ref (27))]) dX7_lastingBy_99 2 rfl (nI_1 _) (by decide) rfl ?_
          refine xr_goto (tgt := 20) dX7_lastingBy_102 rfl ?_
          refine xb_ls (ls2 := [(5, .int (nI (k + 1))), (4, .int (nI (duN k (gpN L E (x + 1))))), (3, .int (nI (x + 1))), (2, .int (nI (u))), (1, .ref (sq)), (0, .ref (27))]) [0, 1, 2, 3, 4, 5] rfl ?_
          exact ih (k + 1) (nI (duN k (gpN L E (x + 1)))) (nI (x + 1)) M23 (by omega) (Ke.tr (fun pp kk => (fun hh => Or.elim hh (fun h => (Or.inr (Or.inr (Or.inr (Or.inl (by omega)))))) (fun hh => Or.elim hh (fun h => (Or.inr (Or.inr (Or.inr (Or.inl (by omega)))))) (fun h => (Or.inr (Or.inr (Or.inr (Or.inr h)))))))) (Ke.tr (fun pp kk => (fun hh => Or.elim hh (fun h => (Or.inl h)) (fun hh => Or.elim hh (fun h => (Or.inr (Or.inl h))) (fun h => (Or.inr (Or.inr (Or.inr (Or.inr h)))))))) hM k10) k24) ⟨muT P k d x nw1 D1, nw1 + 1, _, _, rfl, rfl, by omega, by omega, ⟨⟨(Eq.trans (k24 28 2 (by decide)) (Eq.trans (k10 28 2 (by decide)) e_cn)), hx22.1, (WF_seT (WF_muD hW)), (LCt_k (Eq.trans (k24 1 4 (by unfold W28s; omega)) (Eq.trans (k10 1 4 (by unfold W28p; omega)) (Eq.trans (hM 1 4 (by unfold WS; omega)) rfl))) (fun kl => (Eq.trans (k24 2 kl (by unfold W28s; omega)) (Eq.trans (k10 2 kl (by unfold W28p; omega)) (Eq.trans (hM 2 kl (by unfold WS; omega)) rfl)))) (fun kl => (Eq.trans (k24 3 kl (by unfold W28s; omega)) (Eq.trans (k10 3 kl (by unfold W28p; omega)) (Eq.trans (hM 3 kl (by unfold WS; omega)) rfl)))) hL)⟩, ⟨hx22.2.1, (Eq.trans (k24 28 4 (by decide)) (Eq.trans (k10 28 4 (by decide)) e_rub)), (Eq.trans (k24 28 5 (by decide)) (Eq.trans (k10 28 5 (by decide)) e_bt)), (Eq.trans (k24 28 6 (by decide)) (Eq.trans (k10 28 6 (by decide)) e_ph)), (Eq.trans (k24 28 7 (by decide)) (Eq.trans (k10 28 7 (by decide)) e_st))⟩, (Eq.trans (k24 27 2 (by decide)) (Eq.trans (k10 27 2 (by decide)) e_tk)), ⟨q, hq, (Eq.trans (k24 27 3 (by decide)) (Eq.trans (k10 27 3 (by decide)) e_q))⟩, (Eq.trans (k24 27 4 (by decide)) (Eq.trans (k10 27 4 (by decide)) e_lo)), (Eq.trans (k24 27 5 (by decide)) (Eq.trans (k10 27 5 (by decide)) e_mt)), (Eq.trans (k24 27 6 (by decide)) (Eq.trans (k10 27 6 (by decide)) e_mf)), (Eq.trans (k24 27 7 (by decide)) (Eq.trans (k10 27 7 (by decide)) e_mg))⟩, by have z := (muF_n hkN (fun z => absurd (nI_lt (a := upn P.1 (muT P k d x nw1 D1)) (b := u) z (by omega)) (Int32.not_lt.mpr c27))).trans hR1; rw [show muG (gpN L E) k d x = _ from if_pos hkd, show muX k d x = _ from if_pos hkd] at z; exact z⟩
        · refine xr_iload dX7_lastingBy_96 2 rfl ?_
          exact xr_iret dX7_lastingBy_98 rfl rfl ((hR _ _ (Ke.tr (fun pp kk => (fun hh => Or.elim hh (fun h => (Or.inr (Or.inr (Or.inr (Or.inl (by omega)))))) (fun hh => Or.elim hh (fun h => (Or.inr (Or.inr (Or.inr (Or.inl (by omega)))))) (fun h => (Or.inr (Or.inr (Or.inr (Or.inr h)))))))) (Ke.tr (fun pp kk => (fun hh => Or.elim hh (fun h => (Or.inl h)) (fun hh => Or.elim hh (fun h => (Or.inr (Or.inl h))) (fun h => (Or.inr (Or.inr (Or.inr (Or.inr h)))))))) hM k10) k24) (by rw [← (muF_y hkN (show upn P.1 (muT P k d x nw1 D1) < u from Nat.lt_of_not_le (fun z => c27 (nI_le z (by have := upn_b (D := muT P k d x nw1 D1) P.1; omega))))).symm.trans hR1])))
set_option maxRecDepth 100000 in
set_option maxHeartbeats 4000000 in
theorem gw_X7_lastingBy {P : xP} {mf mg : Int32} (hP : WP P) {nw : Int32} {D : xM} {sq el : Nat} (hs : x_SH[sq]? = some (.inl (6, [none, none, none, none, some (some el)]))) (hel : x_SH[el]? = some (.inr (2, 60, fun _ => none))) (h50 : 50 ≤ sq ∧ sq ≤ 61) {L : Nat} {E : Nat → Int64} (hLL : L ≤ 60) (hw : ∀ j, j < 60 → ∃ w : Int32, E j = w.toInt64) {l : Launch} {G : xG} {M : xM} {J : xJ} (hT : TC M P nw D 0 (-1) mf mg) (e_s : M sq 3 = nI L) (hE : ∀ j, j < 60 → J el j = E j) : x_M l G fX7_lastingBy 5 0 0 [.ref (27), .ref (sq)] x_SH M J (qKI WS M J (fun r M2 => r = nI (muV P L E nw D))) := by
  refine xb_of pX7 (Nat.le_of_ble_eq_true rfl) rfl ?_
  refine xr_aload_n dX7_lastingBy_0 0 rfl ?_
  refine xr_getR flX7_15 dX7_lastingBy_1 s_27 rfl ?_
  refine xr_callV (As := []) (rest := []) mlX7_76 (gw_X5_upright_28 (cn := P.1) hP.1 hT.1.1 hT.1.2.1) dX7_lastingBy_4 s_28 rfl rfl (Nat.le_of_ble_eq_true rfl) (by decide) ⟨by decide, by decide⟩ (fun v s2 M9 J2 hq => ?_)
  obtain ⟨r2, rfl, rfl, rfl, rfl, hx1⟩ := hq
  try dsimp only [Option.toList, List.cons_append, List.nil_append]
  subst hx1
  refine xr_istore_n (ls2 := [(2, .int (nI (upn P.1 D))), (0, .ref (27)), (1, .ref (sq))]) dX7_lastingBy_7 (by decide) rfl ?_
  refine xr_iconst (v := 0) dX7_lastingBy_8 rfl ?_
  refine xr_istore_n (ls2 := [(3, .int (0)), (2, .int (nI (upn P.1 D))), (0, .ref (27)), (1, .ref (sq))]) dX7_lastingBy_9 (by decide) rfl ?_
  refine xr_aload_n dX7_lastingBy_10 3 rfl ?_
  refine xr_iconst (v := 0) dX7_lastingBy_11 rfl ?_
  refine xr_callV (As := [.int (0)]) (rest := []) mlX7_82 (gw_X6_gapAt (j := 0) (by omega) hs hel hLL hw (rfl.trans e_s) hE) dX7_lastingBy_12 hs rfl rfl (Nat.le_of_ble_eq_true rfl) (by decide) ⟨by decide, by decide⟩ (fun v s2 M9 J2 hq => ?_)
  obtain ⟨r4, rfl, rfl, rfl, rfl, hx3⟩ := hq
  try dsimp only [Option.toList, List.cons_append, List.nil_append]
  subst hx3
  have hg9 := gpN_b (j := 0) hLL hw
  refine xb_top (y := nI (duN 0 (gpN L E 0))) du_g ?_
  have hdb := du_b (k := 0) (by decide) hg9
  refine xr_istore (ls2 := [(4, .int (nI (duN 0 (gpN L E 0)))), (3, .int (0)), (2, .int (nI (upn P.1 D))), (0, .ref (27)), (1, .ref (sq))]) dX7_lastingBy_15 (by decide) rfl ?_
  refine xr_iconst (v := 0) dX7_lastingBy_17 rfl ?_
  refine xr_istore (ls2 := [(5, .int (0)), (4, .int (nI (duN 0 (gpN L E 0)))), (3, .int (0)), (2, .int (nI (upn P.1 D))), (0, .ref (27)), (1, .ref (sq))]) dX7_lastingBy_18 (by decide) rfl ?_
  refine xb_ls (ls2 := [(5, .int (nI (0))), (4, .int (nI (duN 0 (gpN L E 0)))), (3, .int (0)), (2, .int (nI (upn P.1 D))), (1, .ref (sq)), (0, .ref (27))]) [0, 1, 2, 3, 5, 4] rfl ?_
  refine mux hP (Nat.le_trans (upn_b P.1) hP.1) hs hel h50 hLL hw (muV P L E nw D) hT.1.2.2.2 e_s hE (fun r M2 hk hr => ⟨_, rfl, rfl, rfl, hk, hr⟩) (fun q5 q6 M7 k8 hI => ?_) (200 - 0) 0 (nI (duN 0 (gpN L E 0))) 0 M (by omega) Ke.rf ⟨D, nw, _, 0, rfl, rfl, Nat.le_refl _, hdb, hT, rfl⟩
  refine xr_sipush (v := 200) dX7_lastingBy_105 rfl ?_
  exact xr_iret dX7_lastingBy_108 rfl rfl (⟨_, rfl, rfl, rfl, (Ke.tr (fun _ _ h => h) Ke.rf k8), (by rw [← hI]; rfl)⟩)
set_option maxRecDepth 100000 in
set_option maxHeartbeats 4000000 in
theorem gx_X9_music {nh : Nat} {D : xM} {t : Option zL} {S : Nat → Int32} {G9 : xQs} (sh : Int32) {l : Launch} {G : xG} {M : xM} {J : xJ} (hI : InvC M) (hWG : WG nh D S) (hG : CG M nh D t S) (hSh : CSh M J G9) (hWS : WSh G9) : x_M l G fX9_music 6 0 0 [.ref (0), .int (sh)] x_SH M J (qKI WTH M J (fun r M2 => InvC M2 ∧ (r = muR nh D t S G9 sh))) := by
  refine xb_of pX9 (Nat.le_of_ble_eq_true rfl) rfl ?_
  obtain ⟨⟨cn, h_cn, e_cn⟩, ⟨cm, h_cm, e_cm⟩, ⟨L, h_L, e_L⟩, hv, hD, ⟨n, h_n, e_n⟩, ⟨un, wn, h_uw, h_wn, e_un, e_wn⟩, ⟨b, h_b, e_b⟩, hkd, ⟨ra, h_ra, e_ra⟩, hsl, hS⟩ := hI
  obtain ⟨hn5, hW, hrub, hbeat⟩ := hWG
  obtain ⟨hGn, hA, hL, e_nw, e_rub, e_bt, e_ph, e_st, e_kn, e_pu, e_lf⟩ := hG
  obtain rfl : nh = cn := (nI_eq (by omega) (by omega)).mp (hGn.symm.trans e_cn)
  have hbt : ¬ S 2 = 0 := ne2_0 hbeat.1
  have hP : WP (PS nh t S) := ⟨hn5, hrub, hbt⟩
  refine xr_iload_n dX9_music_0 1 rfl ?_
  refine xb_cS (As := [.int (sh)]) (rest := []) mlX9_88 (c_X9_isShelf sh) dX9_music_1 rfl rfl (Nat.le_of_ble_eq_true rfl) (by decide) (by decide) ?_
  refine xb_bne (tgt := 9) dX9_music_4 rfl (fun c1 => ?_) (fun c1 => ?_)
  · obtain ⟨s_, hs_, rfl⟩ := x_nat (N := 6) (by decide) rfl c1
    refine xr_aload_n dX9_music_9 0 rfl ?_
    refine xr_getR flX9_67 dX9_music_10 s_0 rfl ?_
    refine xr_iload_n dX9_music_13 1 rfl ?_
    refine xb_aald (j := s_) (q := 50 + 2 * s_) (by decide) dX9_music_14 s_49 hs_ (by decide) (if_pos hs_) ?_
    refine xb_cV (As := []) (rest := []) mlX9_244 (gw_X6_bytesRefusal (s_shelf hs_) (s_elem hs_)) dX9_music_15 (s_shelf hs_) rfl rfl (Nat.le_of_ble_eq_true rfl) (by decide) (by decide) ?_
    obtain ⟨hLL, e_s, hE, hkd⟩ := hSh s_ hs_
    rcases hkd with ⟨hkk, h0⟩ | ⟨hkk, h0, h2⟩ | ⟨hkk, h0, h2⟩
    · refine xb_top (y := (-11)) (if_pos h0) ?_
      refine xr_istore_n (ls2 := [(2, .int ((-11))), (0, .ref (0)), (1, .int (nI (s_)))]) dX9_music_18 (by decide) rfl ?_
      refine xr_iload_n dX9_music_19 0 rfl ?_
      refine xr_if_eq (tgt := 25) dX9_music_20 rfl (fun c => absurd c (by decide)) (fun _ => ?_)
      refine xr_iload_n dX9_music_23 0 rfl ?_
      exact xr_iret dX9_music_24 rfl rfl (⟨_, rfl, rfl, rfl, Ke.rf, ⟨⟨⟨nh, by omega, e_cn⟩, ⟨cm, by omega, e_cm⟩, ⟨L, by omega, e_L⟩, (fun kk hkk => by rw [show M 3 kk = M 3 kk from rfl]; exact hv kk hkk), hD, ⟨n, by omega, e_n⟩, ⟨un, wn, by omega, by omega, e_un, e_wn⟩, ⟨b, by omega, e_b⟩, (fun j hj => by obtain ⟨q, hq, eq⟩ := hkd j hj; exact ⟨q, hq, (show M 47 j = M 47 j from rfl).trans eq⟩), ⟨ra, by omega, e_ra⟩, (fun j hj => by obtain ⟨s, hs, es⟩ := hsl j hj; exact ⟨s, hs, (show M (50 + 2 * j) 3 = M (50 + 2 * j) 3 from rfl).trans es⟩), (fun j hj => by obtain ⟨q, hq, eq⟩ := hS j hj; exact ⟨q, hq, (show M 36 j = M 36 j from rfl).trans eq⟩)⟩, ((if_pos hkk).symm.trans (muR_y hs_))⟩⟩)
    · refine xb_top (y := 0) ((if_neg (by rw [h0]; decide)).trans (if_pos ⟨h0, h2⟩)) ?_
      refine xr_istore_n (ls2 := [(2, .int (0)), (0, .ref (0)), (1, .int (nI (s_)))]) dX9_music_18 (by decide) rfl ?_
      refine xr_iload_n dX9_music_19 0 rfl ?_
      refine xr_if_eq (tgt := 25) dX9_music_20 rfl (fun _ => ?_) (fun c => absurd (by decide) c)
      refine xr_aload_n dX9_music_25 1 rfl ?_
      refine xr_getR flX9_40 dX9_music_26 s_0 rfl ?_
      refine xr_callV (As := []) (rest := []) mlX9_192 (gw_X7_begin (D := D) (t := t) (cn := nh) hn5 e_cn e_nw e_rub e_bt e_ph e_st (LCt_k rfl (fun kl => rfl) (fun kl => rfl) hL) (AbC_k hA (fun i hi j => rfl)) hW) dX9_music_29 s_27 rfl rfl (Nat.le_of_ble_eq_true rfl) (by decide) ⟨by decide, by decide⟩ (fun v s2 M3 J2 hq => ?_)
      obtain ⟨rfl, rfl, rfl, k4, hT2⟩ := hq
      try dsimp only [Option.toList, List.cons_append, List.nil_append]
      refine xr_aload_n dX9_music_32 1 rfl ?_
      refine xr_getR flX9_40 dX9_music_33 s_0 rfl ?_
      refine xr_aload_n dX9_music_36 1 rfl ?_
      refine xr_getR flX9_67 dX9_music_37 s_0 rfl ?_
      refine xr_iload_n dX9_music_40 2 rfl ?_
      refine xb_aald (j := s_) (q := 50 + 2 * s_) (by decide) dX9_music_41 s_49 hs_ (by decide) (if_pos hs_) ?_
      refine xr_callV (As := [.ref (50 + 2 * s_)]) (rest := []) mlX9_247 (gw_X7_lastingBy (P := (PS nh t S)) (L := (G9 s_).2.1) (E := (G9 s_).2.2) hP (s_shelf hs_) (s_elem hs_) (by omega) hLL ((hWS s_ hs_).1 hkk) hT2 ((Eq.trans (k4 (50 + 2 * s_) 3 (by unfold WTB; omega)) rfl).trans e_s) hE) dX9_music_42 s_27 rfl rfl (Nat.le_of_ble_eq_true rfl) (by decide) ⟨by decide, by decide⟩ (fun v s2 M6 J2 hq => ?_)
      obtain ⟨r8, rfl, rfl, rfl, k7, hx5⟩ := hq
      try dsimp only [Option.toList, List.cons_append, List.nil_append]
      exact xr_iret dX9_music_45 rfl rfl (⟨_, rfl, rfl, rfl, (Ke.tr (fun pp kk => (fun hh => Or.elim hh (fun h => (Or.inl h)) (fun hh => Or.elim hh (fun h => (Or.inr (Or.inl h))) (fun hh => Or.elim hh (fun h => (Or.inr (Or.inr (Or.inl (by omega))))) (fun hh => Or.elim hh (fun h => (Or.inr (Or.inr (Or.inl (by omega))))) (fun h => (Or.inr (Or.inr (Or.inr h))))))))) (Ke.tr (fun pp kk => (fun hh => Or.elim hh (fun h => (Or.inr (Or.inr (Or.inl h)))) (fun h => (Or.inr (Or.inr (Or.inr h)))))) Ke.rf k4) k7), ⟨⟨⟨nh, by omega, (Eq.trans (k7 13 2 (by decide)) (Eq.trans (k4 13 2 (by decide)) e_cn))⟩, ⟨cm, by omega, (Eq.trans (k7 20 2 (by decide)) (Eq.trans (k4 20 2 (by decide)) e_cm))⟩, ⟨L, by omega, (Eq.trans (k7 1 4 (by decide)) (Eq.trans (k4 1 4 (by decide)) e_L))⟩, (fun kk hkk => by rw [show M6 3 kk = M 3 kk from (Eq.trans (k7 3 kk (by unfold WS; omega)) (Eq.trans (k4 3 kk (by unfold WTB; omega)) rfl))]; exact hv kk hkk), (DI_ke (by intro k; unfold WS; omega) k7 (DI_ke (by intro k; unfold WTB; omega) k4 hD)), ⟨n, by omega, (Eq.trans (k7 6 2 (by decide)) (Eq.trans (k4 6 2 (by decide)) e_n))⟩, ⟨un, wn, by omega, by omega, (Eq.trans (k7 41 4 (by decide)) (Eq.trans (k4 41 4 (by decide)) e_un)), (Eq.trans (k7 41 5 (by decide)) (Eq.trans (k4 41 5 (by decide)) e_wn))⟩, ⟨b, by omega, (Eq.trans (k7 46 2 (by decide)) (Eq.trans (k4 46 2 (by decide)) e_b))⟩, (fun j hj => by obtain ⟨q, hq, eq⟩ := hkd j hj; exact ⟨q, hq, (show M6 47 j = M 47 j from (Eq.trans (k7 47 j (by unfold WS; omega)) (Eq.trans (k4 47 j (by unfold WTB; omega)) rfl))).trans eq⟩), ⟨ra, by omega, (Eq.trans (k7 46 3 (by decide)) (Eq.trans (k4 46 3 (by decide)) e_ra))⟩, (fun j hj => by obtain ⟨s, hs, es⟩ := hsl j hj; exact ⟨s, hs, (show M6 (50 + 2 * j) 3 = M (50 + 2 * j) 3 from (Eq.trans (k7 (50 + 2 * j) 3 (by unfold WS; omega)) (Eq.trans (k4 (50 + 2 * j) 3 (by unfold WTB; omega)) rfl))).trans es⟩), (fun j hj => by obtain ⟨q, hq, eq⟩ := hS j hj; exact ⟨q, hq, (show M6 36 j = M 36 j from (Eq.trans (k7 36 j (by unfold WS; omega)) (Eq.trans (k4 36 j (by unfold WTB; omega)) rfl))).trans eq⟩)⟩, ((hx5.trans ((if_neg (by rw [hkk]; decide)).trans (if_pos hkk)).symm).trans (muR_y hs_))⟩⟩)
    · refine xb_top (y := (-12)) ((if_neg h0).trans (if_neg h2)) ?_
      refine xr_istore_n (ls2 := [(2, .int ((-12))), (0, .ref (0)), (1, .int (nI (s_)))]) dX9_music_18 (by decide) rfl ?_
      refine xr_iload_n dX9_music_19 0 rfl ?_
      refine xr_if_eq (tgt := 25) dX9_music_20 rfl (fun c => absurd c (by decide)) (fun _ => ?_)
      refine xr_iload_n dX9_music_23 0 rfl ?_
      exact xr_iret dX9_music_24 rfl rfl (⟨_, rfl, rfl, rfl, Ke.rf, ⟨⟨⟨nh, by omega, e_cn⟩, ⟨cm, by omega, e_cm⟩, ⟨L, by omega, e_L⟩, (fun kk hkk => by rw [show M 3 kk = M 3 kk from rfl]; exact hv kk hkk), hD, ⟨n, by omega, e_n⟩, ⟨un, wn, by omega, by omega, e_un, e_wn⟩, ⟨b, by omega, e_b⟩, (fun j hj => by obtain ⟨q, hq, eq⟩ := hkd j hj; exact ⟨q, hq, (show M 47 j = M 47 j from rfl).trans eq⟩), ⟨ra, by omega, e_ra⟩, (fun j hj => by obtain ⟨s, hs, es⟩ := hsl j hj; exact ⟨s, hs, (show M (50 + 2 * j) 3 = M (50 + 2 * j) 3 from rfl).trans es⟩), (fun j hj => by obtain ⟨q, hq, eq⟩ := hS j hj; exact ⟨q, hq, (show M 36 j = M 36 j from rfl).trans eq⟩)⟩, (((if_neg (by rw [hkk]; decide)).trans (if_neg (by rw [hkk]; decide))).symm.trans (muR_y hs_))⟩⟩)
  · refine xr_iconst (v := -1) dX9_music_7 rfl ?_
    exact xr_iret dX9_music_8 rfl rfl (⟨_, rfl, rfl, rfl, Ke.rf, ⟨⟨⟨nh, by omega, e_cn⟩, ⟨cm, by omega, e_cm⟩, ⟨L, by omega, e_L⟩, (fun kk hkk => by rw [show M 3 kk = M 3 kk from rfl]; exact hv kk hkk), hD, ⟨n, by omega, e_n⟩, ⟨un, wn, by omega, by omega, e_un, e_wn⟩, ⟨b, by omega, e_b⟩, (fun j hj => by obtain ⟨q, hq, eq⟩ := hkd j hj; exact ⟨q, hq, (show M 47 j = M 47 j from rfl).trans eq⟩), ⟨ra, by omega, e_ra⟩, (fun j hj => by obtain ⟨s, hs, es⟩ := hsl j hj; exact ⟨s, hs, (show M (50 + 2 * j) 3 = M (50 + 2 * j) 3 from rfl).trans es⟩), (fun j hj => by obtain ⟨q, hq, eq⟩ := hS j hj; exact ⟨q, hq, (show M 36 j = M 36 j from rfl).trans eq⟩)⟩, (muR_n (fun z => c1 (lt_le6.mpr z)))⟩⟩)