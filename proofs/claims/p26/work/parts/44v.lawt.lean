/-- a byte more, row and all -/
def EFd (cc : Prop) (c c2 : Int32) (f f2 : Nat → Int32) (le r : Int32) : Prop := EFeed cc c c2 r ∧ (r < 0 ∧ f2 = f ∨ ∃ n : Nat, n < 120 ∧ c = nI n ∧ r = nI (n + 1) ∧ f2 n = le ∧ ∀ j, j ≠ n → f2 j = f j)
theorem fdT {c c2 d d2 : Int32} {f f2 g g2 : Nat → Int32} {le r r2 : Int32} {cc cc2 : Prop} (h : EFd cc c c2 f f2 le r) (h2 : EFd cc2 d d2 g g2 le r2) (hr : r = r2) (hc : c = d) (hf : f = g) : f2 = g2 := by
  subst hr; subst hc; subst hf
  rcases h.2 with ⟨a1, a2⟩ | ⟨n, a1, a2, a3, a4, a5⟩ <;> rcases h2.2 with ⟨b1, b2⟩ | ⟨m, b1, b2, b3, b4, b5⟩
  · exact a2.trans b2.symm
  · exact absurd a1 (by rw [b3]; exact nI_nlt (a := m + 1) (b := 0) (by omega) (by omega))
  · exact absurd b1 (by rw [a3]; exact nI_nlt (a := n + 1) (b := 0) (by omega) (by omega))
  · obtain rfl : n = m := (nI_eq (by omega) (by omega)).mp (a2.symm.trans b2)
    funext j
    by_cases e : j = n
    · subst e; exact a4.trans b4.symm
    · exact (a5 j e).trans (b5 j e).symm
theorem ti_T {r : Int32} {A B : Prop} (h : r = 0 ∧ A ∨ r = 1 ∧ B) (h1 : ¬ r = 0) : B := (Or.resolve_left h (fun q => h1 q.1)).2
theorem ti_T0 {r : Int32} {A B : Prop} (h : r = 0 ∧ A ∨ r = 1 ∧ B) (h1 : r = 0) : A := (Or.resolve_right h (fun q => absurd (h1.symm.trans q.1) (by decide))).2
def RT (M : xM) : Prop := M 7 = M 69
theorem jT_feed {M M1 M2 : xM} {k r r2 : Int32} (h9 : EFd (0 ≤ k ∧ k ≤ 255) (M 6 2) (M1 6 2) (M 7) (M1 7) k r) (h10 : EFd (0 ≤ k ∧ k ≤ 255) (M1 62 11) (M2 62 11) (M1 69) (M2 69) k r2) (k9 : ∀ p k, 62 ≤ p → M1 p k = M p k) (k10 : ∀ p k, p < 62 → M2 p k = M1 p k) (hP : RP M) (hT : RT M) : RT M2 :=
  (funext fun j => k10 7 j (by decide)).trans (fdT h9 h10 (jP_feed h9.1 h10.1 k9 k10 hP).1 (hP.trans (k9 62 11 (by decide)).symm) (hT.trans (funext fun j => (k9 69 j (by decide)).symm)))
set_option maxRecDepth 100000 in
set_option maxHeartbeats 4000000 in
theorem gt_X4_takeIn (le : Int32) {l : Launch} {G : xG} {M : xM} {J : xJ} {n : Nat} (h_n : n ≤ 120) (e_n : M 6 2 = nI n) : x_M l G fX4_takeIn 0 0 0 [.ref (6), .int (le)] x_SH M J (qKI WTK M J (fun r M2 => r = 0 ∧ (120 ≤ n ∧ M2 6 2 = nI n ∧ M2 7 = M 7) ∨ r = 1 ∧ (n < 120 ∧ M2 6 2 = nI (n + 1) ∧ M2 7 n = le ∧ ∀ j, j ≠ n → M2 7 j = M 7 j))) := by
  refine xb_of pX4 (Nat.le_of_ble_eq_true rfl) rfl ?_
  refine xr_aload_n dX4_takeIn_0 0 rfl ?_
  refine xb_get (v := nI (n)) flX4_20 dX4_takeIn_1 s_6 rfl e_n ?_
  refine xr_bipush (v := 120) dX4_takeIn_4 rfl ?_
  refine xr_icmp_lt (tgt := 11) dX4_takeIn_6 rfl (fun c1 => ?_) (fun c1 => ?_)
  · have nc1 : n < 120 := (nI_ltI (a := n) (b := 120) (by omega) (by omega)).mp c1
    have hn8 : n < 120 := by omega
    refine xr_aload_n dX4_takeIn_11 0 rfl ?_
    refine xr_getR flX4_9 dX4_takeIn_12 s_6 rfl ?_
    refine xr_aload_n dX4_takeIn_15 0 rfl ?_
    refine xb_get (v := nI (n)) flX4_20 dX4_takeIn_16 s_6 rfl e_n ?_
    refine xr_iload_n dX4_takeIn_19 1 rfl ?_
    refine xb_iast (j := n) dX4_takeIn_20 s_7 (by omega) (by decide) ?_
    refine xr_aload_n dX4_takeIn_21 0 rfl ?_
    refine xr_dup dX4_takeIn_22 rfl ?_
    refine xb_get (v := nI (n)) flX4_20 dX4_takeIn_23 s_6 rfl (Eq.trans (congrFun (x_up_n _ _ _ (by decide)) _) e_n) ?_
    refine xr_iconst (v := 1) dX4_takeIn_26 rfl ?_
    refine xr_iadd dX4_takeIn_27 ?_
    refine xb_top (y := nI (n + 1)) (nI_add (n) (1)) ?_
    refine xr_putI fpX4_20 dX4_takeIn_28 s_6 rfl rfl rfl ?_
    refine xr_iconst (v := 1) dX4_takeIn_31 rfl ?_
    exact xr_iret dX4_takeIn_32 rfl rfl (⟨_, rfl, rfl, rfl, (Ke.up (Or.inl (by omega)) (Ke.up (Or.inr (by omega)) Ke.rf)), (Or.inr ⟨rfl, hn8, (x_up_s _ _ _ _), (up_n (by decide)).trans up_s, fun j hj => (up_n (by decide)).trans (up_k hj)⟩)⟩)
  · have nc1 : ¬ (n < 120) := fun q => c1 ((nI_ltI (a := n) (b := 120) (by omega) (by omega)).mpr q)
    refine xr_iconst (v := 0) dX4_takeIn_9 rfl ?_
    exact xr_iret dX4_takeIn_10 rfl rfl (⟨_, rfl, rfl, rfl, Ke.rf, (Or.inl ⟨rfl, by omega, e_n, rfl⟩)⟩)
set_option maxRecDepth 100000 in
set_option maxHeartbeats 4000000 in
theorem gv_X9_feed (le : Int32) {l : Launch} {G : xG} {M : xM} {J : xJ} (hI : InvC M) : x_M l G fX9_feed 1 0 0 [.ref (0), .int (le)] x_SH M J (qKI WTK M J (fun r M2 => InvC M2 ∧ (EFd (0 ≤ le ∧ le ≤ 255) (M 6 2) (M2 6 2) (M 7) (M2 7) le r))) := by
  refine xb_of pX9 (Nat.le_of_ble_eq_true rfl) rfl ?_
  obtain ⟨⟨cn, h_cn, e_cn⟩, ⟨cm, h_cm, e_cm⟩, ⟨L, h_L, e_L⟩, hv, hD, ⟨n, h_n, e_n⟩, ⟨un, wn, h_uw, h_wn, e_un, e_wn⟩, ⟨b, h_b, e_b⟩, hkd, ⟨ra, h_ra, e_ra⟩, hsl, hS⟩ := hI
  refine xr_iload_n dX9_feed_0 1 rfl ?_
  refine xr_if_lt (tgt := 11) dX9_feed_1 rfl (fun c1 => ?_) (fun c1 => ?_)
  · refine xr_iconst (v := -1) dX9_feed_11 rfl ?_
    exact xr_iret dX9_feed_12 rfl rfl (⟨_, rfl, rfl, rfl, Ke.rf, ⟨⟨⟨cn, by omega, e_cn⟩, ⟨cm, by omega, e_cm⟩, ⟨L, by omega, e_L⟩, (fun kk hkk => by rw [show M 3 kk = M 3 kk from rfl]; exact hv kk hkk), hD, ⟨n, by omega, e_n⟩, ⟨un, wn, by omega, by omega, e_un, e_wn⟩, ⟨b, by omega, e_b⟩, (fun j hj => by obtain ⟨q, hq, eq⟩ := hkd j hj; exact ⟨q, hq, (show M 47 j = M 47 j from rfl).trans eq⟩), ⟨ra, by omega, e_ra⟩, (fun j hj => by obtain ⟨s, hs, es⟩ := hsl j hj; exact ⟨s, hs, (show M (50 + 2 * j) 3 = M (50 + 2 * j) 3 from rfl).trans es⟩), (fun j hj => by obtain ⟨q, hq, eq⟩ := hS j hj; exact ⟨q, hq, (show M 36 j = M 36 j from rfl).trans eq⟩)⟩, ⟨Or.inl ⟨(fun q => absurd q.1 (by grind)), rfl, rfl⟩, Or.inl ⟨by decide, rfl⟩⟩⟩⟩)
  · refine xr_iload_n dX9_feed_4 1 rfl ?_
    refine xr_sipush (v := 255) dX9_feed_5 rfl ?_
    refine xr_icmp_le (tgt := 13) dX9_feed_8 rfl (fun c2 => ?_) (fun c2 => ?_)
    · refine xr_aload_n dX9_feed_13 0 rfl ?_
      refine xr_getR flX9_19 dX9_feed_14 s_0 rfl ?_
      refine xr_iload_n dX9_feed_17 1 rfl ?_
      refine xr_callV (As := [.int (le)]) (rest := []) mlX9_144 (gt_X4_takeIn le (by omega) e_n) dX9_feed_18 s_6 rfl rfl (Nat.le_of_ble_eq_true rfl) (by decide) ⟨by decide, by decide⟩ (fun v s2 M4 J2 hq => ?_)
      obtain ⟨r6, rfl, rfl, rfl, k5, hx3⟩ := hq
      try dsimp only [Option.toList, List.cons_append, List.nil_append]
      refine xr_if_eq (tgt := 34) dX9_feed_21 rfl (fun c7 => ?_) (fun c7 => ?_)
      · obtain ⟨hn12, e_n2, hr1⟩ := ti_T0 hx3 c7
        refine xr_bipush (v := -3) dX9_feed_34 rfl ?_
        exact xr_iret dX9_feed_36 rfl rfl (⟨_, rfl, rfl, rfl, (Ke.tr (fun _ _ h => h) Ke.rf k5), ⟨⟨⟨cn, by omega, (Eq.trans (k5 13 2 (by decide)) e_cn)⟩, ⟨cm, by omega, (Eq.trans (k5 20 2 (by decide)) e_cm)⟩, ⟨L, by omega, (Eq.trans (k5 1 4 (by decide)) e_L)⟩, (fun kk hkk => by rw [show M4 3 kk = M 3 kk from (Eq.trans (k5 3 kk (by unfold WTK; omega)) rfl)]; exact hv kk hkk), (DI_ke (by intro k; unfold WTK; omega) k5 hD), ⟨n, by omega, e_n2⟩, ⟨un, wn, by omega, by omega, (Eq.trans (k5 41 4 (by decide)) e_un), (Eq.trans (k5 41 5 (by decide)) e_wn)⟩, ⟨b, by omega, (Eq.trans (k5 46 2 (by decide)) e_b)⟩, (fun j hj => by obtain ⟨q, hq, eq⟩ := hkd j hj; exact ⟨q, hq, (show M4 47 j = M 47 j from (Eq.trans (k5 47 j (by unfold WTK; omega)) rfl)).trans eq⟩), ⟨ra, by omega, (Eq.trans (k5 46 3 (by decide)) e_ra)⟩, (fun j hj => by obtain ⟨s, hs, es⟩ := hsl j hj; exact ⟨s, hs, (show M4 (50 + 2 * j) 3 = M (50 + 2 * j) 3 from (Eq.trans (k5 (50 + 2 * j) 3 (by unfold WTK; omega)) rfl)).trans es⟩), (fun j hj => by obtain ⟨q, hq, eq⟩ := hS j hj; exact ⟨q, hq, (show M4 36 j = M 36 j from (Eq.trans (k5 36 j (by unfold WTK; omega)) rfl)).trans eq⟩)⟩, ⟨Or.inr ⟨n, h_n, e_n, ⟨by grind, by grind⟩, Or.inl ⟨by omega, rfl, e_n2.trans e_n.symm⟩⟩, Or.inl ⟨by decide, hr1⟩⟩⟩⟩)
      · obtain ⟨hn12, e_n2, hr1, hr2⟩ := ti_T hx3 c7
        refine xr_aload_n dX9_feed_24 0 rfl ?_
        refine xr_getR flX9_19 dX9_feed_25 s_0 rfl ?_
        refine xb_get (v := nI (n + 1)) flX9_147 dX9_feed_28 s_6 rfl e_n2 ?_
        refine xr_goto (tgt := 36) dX9_feed_31 rfl ?_
        exact xr_iret dX9_feed_36 rfl rfl (⟨_, rfl, rfl, rfl, (Ke.tr (fun _ _ h => h) Ke.rf k5), ⟨⟨⟨cn, by omega, (Eq.trans (k5 13 2 (by decide)) e_cn)⟩, ⟨cm, by omega, (Eq.trans (k5 20 2 (by decide)) e_cm)⟩, ⟨L, by omega, (Eq.trans (k5 1 4 (by decide)) e_L)⟩, (fun kk hkk => by rw [show M4 3 kk = M 3 kk from (Eq.trans (k5 3 kk (by unfold WTK; omega)) rfl)]; exact hv kk hkk), (DI_ke (by intro k; unfold WTK; omega) k5 hD), ⟨n + 1, by omega, e_n2⟩, ⟨un, wn, by omega, by omega, (Eq.trans (k5 41 4 (by decide)) e_un), (Eq.trans (k5 41 5 (by decide)) e_wn)⟩, ⟨b, by omega, (Eq.trans (k5 46 2 (by decide)) e_b)⟩, (fun j hj => by obtain ⟨q, hq, eq⟩ := hkd j hj; exact ⟨q, hq, (show M4 47 j = M 47 j from (Eq.trans (k5 47 j (by unfold WTK; omega)) rfl)).trans eq⟩), ⟨ra, by omega, (Eq.trans (k5 46 3 (by decide)) e_ra)⟩, (fun j hj => by obtain ⟨s, hs, es⟩ := hsl j hj; exact ⟨s, hs, (show M4 (50 + 2 * j) 3 = M (50 + 2 * j) 3 from (Eq.trans (k5 (50 + 2 * j) 3 (by unfold WTK; omega)) rfl)).trans es⟩), (fun j hj => by obtain ⟨q, hq, eq⟩ := hS j hj; exact ⟨q, hq, (show M4 36 j = M 36 j from (Eq.trans (k5 36 j (by unfold WTK; omega)) rfl)).trans eq⟩)⟩, ⟨Or.inr ⟨n, h_n, e_n, ⟨by grind, by grind⟩, Or.inr ⟨hn12, rfl, e_n2⟩⟩, Or.inr ⟨n, hn12, e_n, rfl, hr1, hr2⟩⟩⟩⟩)
    · refine xr_iconst (v := -1) dX9_feed_11 rfl ?_
      exact xr_iret dX9_feed_12 rfl rfl (⟨_, rfl, rfl, rfl, Ke.rf, ⟨⟨⟨cn, by omega, e_cn⟩, ⟨cm, by omega, e_cm⟩, ⟨L, by omega, e_L⟩, (fun kk hkk => by rw [show M 3 kk = M 3 kk from rfl]; exact hv kk hkk), hD, ⟨n, by omega, e_n⟩, ⟨un, wn, by omega, by omega, e_un, e_wn⟩, ⟨b, by omega, e_b⟩, (fun j hj => by obtain ⟨q, hq, eq⟩ := hkd j hj; exact ⟨q, hq, (show M 47 j = M 47 j from rfl).trans eq⟩), ⟨ra, by omega, e_ra⟩, (fun j hj => by obtain ⟨s, hs, es⟩ := hsl j hj; exact ⟨s, hs, (show M (50 + 2 * j) 3 = M (50 + 2 * j) 3 from rfl).trans es⟩), (fun j hj => by obtain ⟨q, hq, eq⟩ := hS j hj; exact ⟨q, hq, (show M 36 j = M 36 j from rfl).trans eq⟩)⟩, ⟨Or.inl ⟨(fun q => absurd q.2 (by grind)), rfl, rfl⟩, Or.inl ⟨by decide, rfl⟩⟩⟩⟩)
set_option maxRecDepth 100000 in
set_option maxHeartbeats 4000000 in
theorem gv_X10_feed (le : Int32) {l : Launch} {G : xG} {M : xM} {J : xJ} (hI : InvR M) : x_M l G fX10_feed 1 0 0 [.ref (62), .int (le)] x_SH M J (qKI WFES M J (fun r M2 => InvR M2 ∧ (EFd (0 ≤ le ∧ le ≤ 255) (M 62 11) (M2 62 11) (M 69) (M2 69) le r))) := by
  refine xb_of pX10 (Nat.le_of_ble_eq_true rfl) rfl ?_
  obtain ⟨⟨hn, h_hn, e_hn, hw⟩, hbt, ⟨un, wn, h_uw, h_wn, e_un, e_wn⟩, hch, ⟨n, h_n, e_n⟩, htx, ⟨b, h_b, e_b⟩, hkd, ⟨ra, h_ra, e_ra⟩, hsl, ⟨ic, h_ic, e_ic⟩, hS⟩ := hI
  refine xr_iload_n dX10_feed_0 1 rfl ?_
  refine xr_i2l dX10_feed_1 ?_
  refine xr_lconst (v := 0) dX10_feed_2 rfl ?_
  refine xr_ldc2 coX10_160 dX10_feed_3 ?_
  refine xb_cS (As := [.long ((le).toInt64), .long (0), .long (255)]) (rest := []) mlX10_101 (c_within32 (le) (0) (255) (by decide) (by decide)) dX10_feed_6 rfl rfl (Nat.le_of_ble_eq_true rfl) (by decide) (by decide) ?_
  refine xb_bne (tgt := 14) dX10_feed_9 rfl (fun c1 => ?_) (fun c1 => ?_)
  · refine xr_aload_n dX10_feed_14 0 rfl ?_
    refine xb_get (v := nI (n)) flX10_162 dX10_feed_15 s_62 rfl e_n ?_
    refine xr_bipush (v := 120) dX10_feed_18 rfl ?_
    refine xr_icmp_ne (tgt := 26) dX10_feed_20 rfl (fun c2 => ?_) (fun c2 => ?_)
    · have nc2 : ¬ (n = 120) := fun q => c2 ((nI_eq (a := n) (b := 120) (by omega) (by omega)).mpr q)
      have h12 : n < 120 := by
        have h6 : n ≠ 120 := fun q => c2 (by rw [q]; rfl)
        omega
      refine xr_aload_n dX10_feed_26 0 rfl ?_
      refine xr_getR flX10_28 dX10_feed_27 s_62 rfl ?_
      refine xr_aload_n dX10_feed_30 0 rfl ?_
      refine xb_get (v := nI (n)) flX10_162 dX10_feed_31 s_62 rfl e_n ?_
      refine xr_iload_n dX10_feed_34 1 rfl ?_
      refine xb_iast (j := n) dX10_feed_35 s_69 (by omega) (by decide) ?_
      refine xr_aload_n dX10_feed_36 0 rfl ?_
      refine xr_dup dX10_feed_37 rfl ?_
      refine xb_get (v := nI (n)) flX10_162 dX10_feed_38 s_62 rfl (Eq.trans (congrFun (x_up_n _ _ _ (by decide)) _) e_n) ?_
      refine xr_iconst (v := 1) dX10_feed_41 rfl ?_
      refine xr_iadd dX10_feed_42 ?_
      refine xb_top (y := nI (n + 1)) (nI_add (n) (1)) ?_
      refine xr_putI fpX10_162 dX10_feed_43 s_62 rfl rfl rfl ?_
      refine xr_aload_n dX10_feed_46 0 rfl ?_
      refine xb_get (v := nI (n + 1)) flX10_162 dX10_feed_47 s_62 rfl (x_up_s _ _ _ _) ?_
      exact xr_iret dX10_feed_50 rfl rfl (⟨_, rfl, rfl, rfl, (Ke.up (Or.inl (by omega)) (Ke.up (Or.inr (by omega)) Ke.rf)), ⟨⟨⟨hn, by omega, (Eq.trans (x_up_k _ _ _ (by decide)) (Eq.trans (congrFun (x_up_n _ _ _ (by decide)) _) e_hn)), (fun kw hkw => by rw [show (x_up (x_up M 69 n le) 62 11 (nI (n + 1))) 63 (5 + kw) = M 63 (5 + kw) from (Eq.trans (congrFun (x_up_n _ _ _ (by omega)) _) (Eq.trans (congrFun (x_up_n _ _ _ (by omega)) _) rfl))]; exact hw kw hkw)⟩, (by rw [show (x_up (x_up M 69 n le) 62 11 (nI (n + 1))) 63 16 = M 63 16 from (Eq.trans (congrFun (x_up_n _ _ _ (by omega)) _) (Eq.trans (congrFun (x_up_n _ _ _ (by omega)) _) rfl))]; exact hbt), ⟨un, wn, by omega, by omega, (Eq.trans (x_up_k _ _ _ (by decide)) (Eq.trans (congrFun (x_up_n _ _ _ (by decide)) _) e_un)), (Eq.trans (x_up_k _ _ _ (by decide)) (Eq.trans (congrFun (x_up_n _ _ _ (by decide)) _) e_wn))⟩, (fun kk hkk => by rw [show (x_up (x_up M 69 n le) 62 11 (nI (n + 1))) 64 kk = M 64 kk from (Eq.trans (congrFun (x_up_n _ _ _ (by omega)) _) (Eq.trans (congrFun (x_up_n _ _ _ (by omega)) _) rfl)), show (x_up (x_up M 69 n le) 62 11 (nI (n + 1))) 65 kk = M 65 kk from (Eq.trans (congrFun (x_up_n _ _ _ (by omega)) _) (Eq.trans (congrFun (x_up_n _ _ _ (by omega)) _) rfl)), show (x_up (x_up M 69 n le) 62 11 (nI (n + 1))) 66 kk = M 66 kk from (Eq.trans (congrFun (x_up_n _ _ _ (by omega)) _) (Eq.trans (congrFun (x_up_n _ _ _ (by omega)) _) rfl))]; exact hch kk hkk), ⟨n + 1, by omega, (x_up_s _ _ _ _)⟩, (by rw [show (x_up (x_up M 69 n le) 62 11 (nI (n + 1))) 62 13 = M 62 13 from (Eq.trans (x_up_k _ _ _ (by omega)) (Eq.trans (congrFun (x_up_n _ _ _ (by omega)) _) rfl))]; exact htx), ⟨b, by omega, (Eq.trans (x_up_k _ _ _ (by decide)) (Eq.trans (congrFun (x_up_n _ _ _ (by decide)) _) e_b))⟩, (fun j hj => by obtain ⟨q, hq, eq⟩ := hkd j hj; exact ⟨q, hq, (show (x_up (x_up M 69 n le) 62 11 (nI (n + 1))) 81 j = M 81 j from (Eq.trans (congrFun (x_up_n _ _ _ (by omega)) _) (Eq.trans (congrFun (x_up_n _ _ _ (by omega)) _) rfl))).trans eq⟩), ⟨ra, by omega, (Eq.trans (x_up_k _ _ _ (by decide)) (Eq.trans (congrFun (x_up_n _ _ _ (by decide)) _) e_ra))⟩, (fun j hj => by rw [show (x_up (x_up M 69 n le) 62 11 (nI (n + 1))) 83 j = M 83 j from (Eq.trans (congrFun (x_up_n _ _ _ (by omega)) _) (Eq.trans (congrFun (x_up_n _ _ _ (by omega)) _) rfl)), show (x_up (x_up M 69 n le) 62 11 (nI (n + 1))) 84 j = M 84 j from (Eq.trans (congrFun (x_up_n _ _ _ (by omega)) _) (Eq.trans (congrFun (x_up_n _ _ _ (by omega)) _) rfl))]; exact hsl j hj), ⟨ic, by omega, (Eq.trans (x_up_k _ _ _ (by decide)) (Eq.trans (congrFun (x_up_n _ _ _ (by decide)) _) e_ic))⟩, (fun j hj => by obtain ⟨q, hq, eq⟩ := hS j hj; exact ⟨q, hq, (show (x_up (x_up M 69 n le) 62 11 (nI (n + 1))) 75 j = M 75 j from (Eq.trans (congrFun (x_up_n _ _ _ (by omega)) _) (Eq.trans (congrFun (x_up_n _ _ _ (by omega)) _) rfl))).trans eq⟩)⟩, ⟨Or.inr ⟨n, h_n, e_n, c1, Or.inr ⟨h12, rfl, (x_up_s _ _ _ _)⟩⟩, Or.inr ⟨n, h12, e_n, rfl, (up_n (by decide)).trans up_s, fun j hj => (up_n (by decide)).trans (up_k hj)⟩⟩⟩⟩)
    · have nc2 : n = 120 := (nI_eq (a := n) (b := 120) (by omega) (by omega)).mp c2
      refine xr_bipush (v := -3) dX10_feed_23 rfl ?_
      exact xr_iret dX10_feed_25 rfl rfl (⟨_, rfl, rfl, rfl, Ke.rf, ⟨⟨⟨hn, by omega, e_hn, (fun kw hkw => by rw [show M 63 (5 + kw) = M 63 (5 + kw) from rfl]; exact hw kw hkw)⟩, (by rw [show M 63 16 = M 63 16 from rfl]; exact hbt), ⟨un, wn, by omega, by omega, e_un, e_wn⟩, (fun kk hkk => by rw [show M 64 kk = M 64 kk from rfl, show M 65 kk = M 65 kk from rfl, show M 66 kk = M 66 kk from rfl]; exact hch kk hkk), ⟨n, by omega, e_n⟩, (by rw [show M 62 13 = M 62 13 from rfl]; exact htx), ⟨b, by omega, e_b⟩, (fun j hj => by obtain ⟨q, hq, eq⟩ := hkd j hj; exact ⟨q, hq, (show M 81 j = M 81 j from rfl).trans eq⟩), ⟨ra, by omega, e_ra⟩, (fun j hj => by rw [show M 83 j = M 83 j from rfl, show M 84 j = M 84 j from rfl]; exact hsl j hj), ⟨ic, by omega, e_ic⟩, (fun j hj => by obtain ⟨q, hq, eq⟩ := hS j hj; exact ⟨q, hq, (show M 75 j = M 75 j from rfl).trans eq⟩)⟩, ⟨Or.inr ⟨n, h_n, e_n, c1, Or.inl ⟨nc2, rfl, rfl⟩⟩, Or.inl ⟨by decide, rfl⟩⟩⟩⟩)
  · refine xr_iconst (v := -1) dX10_feed_12 rfl ?_
    exact xr_iret dX10_feed_13 rfl rfl (⟨_, rfl, rfl, rfl, Ke.rf, ⟨⟨⟨hn, by omega, e_hn, (fun kw hkw => by rw [show M 63 (5 + kw) = M 63 (5 + kw) from rfl]; exact hw kw hkw)⟩, (by rw [show M 63 16 = M 63 16 from rfl]; exact hbt), ⟨un, wn, by omega, by omega, e_un, e_wn⟩, (fun kk hkk => by rw [show M 64 kk = M 64 kk from rfl, show M 65 kk = M 65 kk from rfl, show M 66 kk = M 66 kk from rfl]; exact hch kk hkk), ⟨n, by omega, e_n⟩, (by rw [show M 62 13 = M 62 13 from rfl]; exact htx), ⟨b, by omega, e_b⟩, (fun j hj => by obtain ⟨q, hq, eq⟩ := hkd j hj; exact ⟨q, hq, (show M 81 j = M 81 j from rfl).trans eq⟩), ⟨ra, by omega, e_ra⟩, (fun j hj => by rw [show M 83 j = M 83 j from rfl, show M 84 j = M 84 j from rfl]; exact hsl j hj), ⟨ic, by omega, e_ic⟩, (fun j hj => by obtain ⟨q, hq, eq⟩ := hS j hj; exact ⟨q, hq, (show M 75 j = M 75 j from rfl).trans eq⟩)⟩, ⟨Or.inl ⟨c1, rfl, rfl⟩, Or.inl ⟨by decide, rfl⟩⟩⟩⟩)