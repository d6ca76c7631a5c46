/-- a byte more, row and all -/
def EFd (cc : Prop) (c c2 : Int32) (f f2 : Nat → Int32) (le r : Int32) : Prop := EFeed cc c c2 r ∧ (r < 0 ∧ f2 = f ∨ ∃ n : Nat, n < 120 ∧ c = nI n ∧ r = nI (n + 1) ∧ f2 n = le ∧ ∀ j, j ≠ n → f2 j = f j)
theorem fdT {c c2 d d2 : Int32} {f f2 g g2 : Nat → Int32} {le r r2 : Int32} {cc cc2 : Prop} (h : EFd cc c c2 f f2 le r) (h2 : EFd cc2 d d2 g g2 le r2) (hr : r = r2) (hc : c = d) (hf : f = g) : f2 = g2 := by
  subst hr; subst hc; subst hf
  rcases h.2 with ⟨a1, a2⟩ | ⟨n, a1, a2, a3, a4, a5⟩ <;> rcases h2.2 with ⟨b1, b2⟩ | ⟨m, b1, b2, b3, b4, b5⟩
  · exact a2.trans b2.symm
  · exact absurd a1 (by rw [b3]; exact nI_nlt (a := m + 1) (b := 0) (by omega) (by omega))
  · exact absurd b1 (by rw [a3]; exact nI_nlt (a := n + 1) (b := 0) (by omega) (by omega))
  · obtain rfl : n = m := (nI_eq (by omega) (by omega)).mp (a2.symm.trans b2)
    funext j
    by_cases e : j = n
    · subst e; exact a4.trans b4.symm
    · exact (a5 j e).trans (b5 j e).symm
theorem ti_T {r : Int32} {A B : Prop} (h : r = 0 ∧ A ∨ r = 1 ∧ B) (h1 : ¬ r = 0) : B := (Or.resolve_left h (fun q => h1 q.1)).2
theorem ti_T0 {r : Int32} {A B : Prop} (h : r = 0 ∧ A ∨ r = 1 ∧ B) (h1 : r = 0) : A := (Or.resolve_right h (fun q => absurd (h1.symm.trans q.1) (by decide))).2
/-- the law's answer, by the text -/
def LwA (T : Nat → Int32) (c r : Int32) : Prop := ∃ (E f g a2 : Nat) (ok : Bool) (ls : zL), E ≤ 120 ∧ c = nI E ∧ txB T E f g 0 = some (a2, ok, ls) ∧ a2 ≤ E ∧ r = (if ftF E a2 ok < 0 then 1 else -100 - ftF E a2 ok)
theorem LwA_d {T : Nat → Int32} {c r r2 : Int32} (h : LwA T c r) (h2 : LwA T c r2) : r = r2 := by
  obtain ⟨E, f, g, a, ok, ls, a1, a2, a3, a4, a5⟩ := h
  obtain ⟨E2, f2, g2, b, ok2, ls2, b1, b2, b3, b4, b5⟩ := h2
  obtain rfl : E = E2 := (nI_eq (by omega) (by omega)).mp (a2.symm.trans b2)
  have e := txB_det a3 b3
  obtain rfl : a = b := congrArg Prod.fst e
  obtain rfl : ok = ok2 := congrArg (fun z => z.2.1) e
  exact a5.trans b5.symm
def RT (M : xM) : Prop := M 7 = M 69
theorem jT_feed {M M1 M2 : xM} {k r r2 : Int32} (h9 : EFd (0 ≤ k ∧ k ≤ 255) (M 6 2) (M1 6 2) (M 7) (M1 7) k r) (h10 : EFd (0 ≤ k ∧ k ≤ 255) (M1 62 11) (M2 62 11) (M1 69) (M2 69) k r2) (k9 : ∀ p k, 62 ≤ p → M1 p k = M p k) (k10 : ∀ p k, p < 62 → M2 p k = M1 p k) (hP : RP M) (hT : RT M) : RT M2 :=
  (funext fun j => k10 7 j (by decide)).trans (fdT h9 h10 (jP_feed h9.1 h10.1 k9 k10 hP).1 (hP.trans (k9 62 11 (by decide)).symm) (hT.trans (funext fun j => (k9 69 j (by decide)).symm)))
theorem jA_law {M M1 : xM} {r r2 : Int32} (h9 : LwA (M 7) (M 6 2) r) (h10 : LwA (M1 69) (M1 62 11) r2) (k9 : ∀ p k, 62 ≤ p → M1 p k = M p k) (hP : RP M) (hT : RT M) : r = r2 := by
  rw [show M1 69 = M 69 from funext fun j => k9 69 j (by decide), k9 62 11 (by decide), ← hT, ← hP] at h10
  exact LwA_d h9 h10
set_option maxRecDepth 100000 in
set_option maxHeartbeats 4000000 in
theorem gt_X4_takeIn (le : Int32) {l : Launch} {G : xG} {M : xM} {J : xJ} {n : Nat} (h_n : n ≤ 120) (e_n : M 6 2 = nI n) : x_M l G fX4_takeIn 0 0 0 [.ref (6), .int (le)] x_SH M J (qKI WTK M J (fun r M2 => r = 0 ∧ (120 ≤ n ∧ M2 6 2 = nI n ∧ M2 7 = M 7) ∨ r = 1 ∧ (n < 120 ∧ M2 6 2 = nI (n + 1) ∧ M2 7 n = le ∧ ∀ j, j ≠ n → M2 7 j = M 7 j))) := by
  refine xb_of pX4 (Nat.le_of_ble_eq_true rfl) rfl ?_
  refine xr_aload_n dX4_takeIn_0 0 rfl ?_
  refine xb_get (v := nI (n)) flX4_20 dX4_takeIn_1 s_6 rfl e_n ?_
  refine xr_bipush (v := 120) dX4_takeIn_4 rfl ?_
  refine xr_icmp_lt (tgt := 11) dX4_takeIn_6 rfl (fun c1 => ?_) (fun c1 => ?_)
  · have nc1 : n < 120 := (nI_ltI (a := n) (b := 120) (by omega) (by omega)).mp c1
    have hn8 : n < 120 := by omega
    refine xr_aload_n dX4_takeIn_11 0 rfl ?_
    refine xr_getR flX4_9 dX4_takeIn_12 s_6 rfl ?_
    refine xr_aload_n dX4_takeIn_15 0 rfl ?_
    refine xb_get (v := nI (n)) flX4_20 dX4_takeIn_16 s_6 rfl e_n ?_
    refine xr_iload_n dX4_takeIn_19 1 rfl ?_
    refine xb_iast (j := n) dX4_takeIn_20 s_7 (by omega) (by decide) ?_
    refine xr_aload_n dX4_takeIn_21 0 rfl ?_
    refine xr_dup dX4_takeIn_22 rfl ?_
    refine xb_get (v := nI (n)) flX4_20 dX4_takeIn_23 s_6 rfl (Eq.trans (congrFun (x_up_n _ _ _ (by decide)) _) e_n) ?_
    refine xr_iconst (v := 1) dX4_takeIn_26 rfl ?_
    refine xr_iadd dX4_takeIn_27 ?_
    refine xb_top (y := nI (n + 1)) (nI_add (n) (1)) ?_
    refine xr_putI fpX4_20 dX4_takeIn_28 s_6 rfl rfl rfl ?_
    refine xr_iconst (v := 1) dX4_takeIn_31 rfl ?_
    exact xr_iret dX4_takeIn_32 rfl rfl (⟨_, rfl, rfl, rfl, (Ke.up (Or.inl (by omega)) (Ke.up (Or.inr (by omega)) Ke.rf)), (Or.inr ⟨rfl, hn8, (x_up_s _ _ _ _), (up_n (by decide)).trans up_s, fun j hj => (up_n (by decide)).trans (up_k hj)⟩)⟩)
  · have nc1 : ¬ (n < 120) := fun q => c1 ((nI_ltI (a := n) (b := 120) (by omega) (by omega)).mpr q)
    refine xr_iconst (v := 0) dX4_takeIn_9 rfl ?_
    exact xr_iret dX4_takeIn_10 rfl rfl (⟨_, rfl, rfl, rfl, Ke.rf, (Or.inl ⟨rfl, by omega, e_n, rfl⟩)⟩)
set_option maxRecDepth 100000 in
set_option maxHeartbeats 4000000 in
theorem gv_X9_feed (le : Int32) {l : Launch} {G : xG} {M : xM} {J : xJ} (hI : InvC M) : x_M l G fX9_feed 1 0 0 [.ref (0), .int (le)] x_SH M J (qKI WTK M J (fun r M2 => InvC M2 ∧ (EFd (0 ≤ le ∧ le ≤ 255) (M 6 2) (M2 6 2) (M 7) (M2 7) le r))) := by
  refine xb_of pX9 (Nat.le_of_ble_eq_true rfl) rfl ?_
  obtain ⟨⟨cn, h_cn, e_cn⟩, ⟨cm, h_cm, e_cm⟩, ⟨L, h_L, e_L⟩, hv, hD, ⟨n, h_n, e_n⟩, ⟨un, wn, h_uw, h_wn, e_un, e_wn⟩, ⟨b, h_b, e_b⟩, hkd, ⟨ra, h_ra, e_ra⟩, hsl, hS⟩ := hI
  refine xr_iload_n dX9_feed_0 1 rfl ?_
  refine xr_if_lt (tgt := 11) dX9_feed_1 rfl (fun c1 => ?_) (fun c1 => ?_)
  · refine xr_iconst (v := -1) dX9_feed_11 rfl ?_
    exact xr_iret dX9_feed_12 rfl rfl (⟨_, rfl, rfl, rfl, Ke.rf, ⟨⟨⟨cn, by omega, e_cn⟩, ⟨cm, by omega, e_cm⟩, ⟨L, by omega, e_L⟩, (fun kk hkk => by rw [show M 3 kk = M 3 kk from rfl]; exact hv kk hkk), hD, ⟨n, by omega, e_n⟩, ⟨un, wn, by omega, by omega, e_un, e_wn⟩, ⟨b, by omega, e_b⟩, (fun j hj => by obtain ⟨q, hq, eq⟩ := hkd j hj; exact ⟨q, hq, (show M 47 j = M 47 j from rfl).trans eq⟩), ⟨ra, by omega, e_ra⟩, (fun j hj => by obtain ⟨s, hs, es⟩ := hsl j hj; exact ⟨s, hs, (show M (50 + 2 * j) 3 = M (50 + 2 * j) 3 from rfl).trans es⟩), (fun j hj => by obtain ⟨q, hq, eq⟩ := hS j hj; exact ⟨q, hq, (show M 36 j = M 36 j from rfl).trans eq⟩)⟩, ⟨Or.inl ⟨(fun q => absurd q.1 (by grind)), rfl, rfl⟩, Or.inl ⟨by decide, rfl⟩⟩⟩⟩)
  · refine xr_iload_n dX9_feed_4 1 rfl ?_
    refine xr_sipush (v := 255) dX9_feed_5 rfl ?_
    refine xr_icmp_le (tgt := 13) dX9_feed_8 rfl (fun c2 => ?_) (fun c2 => ?_)
    · refine xr_aload_n dX9_feed_13 0 rfl ?_
      refine xr_getR flX9_19 dX9_feed_14 s_0 rfl ?_
      refine xr_iload_n dX9_feed_17 1 rfl ?_
      refine xr_callV (As := [.int (le)]) (rest := []) mlX9_144 (gt_X4_takeIn le (by omega) e_n) dX9_feed_18 s_6 rfl rfl (Nat.le_of_ble_eq_true rfl) (by decide) ⟨by decide, by decide⟩ (fun v s2 M4 J2 hq => ?_)
      obtain ⟨r6, rfl, rfl, rfl, k5, hx3⟩ := hq
      try dsimp only [Option.toList, List.cons_append, List.nil_append]
      refine xr_if_eq (tgt := 34) dX9_feed_21 rfl (fun c7 => ?_) (fun c7 => ?_)
      · obtain ⟨hn12, e_n2, hr1⟩ := ti_T0 hx3 c7
        refine xr_bipush (v := -3) dX9_feed_34 rfl ?_
        exact xr_iret dX9_feed_36 rfl rfl (⟨_, rfl, rfl, rfl, (Ke.tr (fun _ _ h => h) Ke.rf k5), ⟨⟨⟨cn, by omega, (Eq.trans (k5 13 2 (by decide)) e_cn)⟩, ⟨cm, by omega, (Eq.trans (k5 20 2 (by decide)) e_cm)⟩, ⟨L, by omega, (Eq.trans (k5 1 4 (by decide)) e_L)⟩, (fun kk hkk => by rw [show M4 3 kk = M 3 kk from (Eq.trans (k5 3 kk (by unfold WTK; omega)) rfl)]; exact hv kk hkk), (DI_ke (by intro k; unfold WTK; omega) k5 hD), ⟨n, by omega, e_n2⟩, ⟨un, wn, by omega, by omega, (Eq.trans (k5 41 4 (by decide)) e_un), (Eq.trans (k5 41 5 (by decide)) e_wn)⟩, ⟨b, by omega, (Eq.trans (k5 46 2 (by decide)) e_b)⟩, (fun j hj => by obtain ⟨q, hq, eq⟩ := hkd j hj; exact ⟨q, hq, (show M4 47 j = M 47 j from (Eq.trans (k5 47 j (by unfold WTK; omega)) rfl)).trans eq⟩), ⟨ra, by omega, (Eq.trans (k5 46 3 (by decide)) e_ra)⟩, (fun j hj => by obtain ⟨s, hs, es⟩ := hsl j hj; exact ⟨s, hs, (show M4 (50 + 2 * j) 3 = M (50 + 2 * j) 3 from (Eq.trans (k5 (50 + 2 * j) 3 (by unfold WTK; omega)) rfl)).trans es⟩), (fun j hj => by obtain ⟨q, hq, eq⟩ := hS j hj; exact ⟨q, hq, (show M4 36 j = M 36 j from (Eq.trans (k5 36 j (by unfold WTK; omega)) rfl)).trans eq⟩)⟩, ⟨Or.inr ⟨n, h_n, e_n, ⟨by grind, by grind⟩, Or.inl ⟨by omega, rfl, e_n2.trans e_n.symm⟩⟩, Or.inl ⟨by decide, hr1⟩⟩⟩⟩)
      · obtain ⟨hn12, e_n2, hr1, hr2⟩ := ti_T hx3 c7
        refine xr_aload_n dX9_feed_24 0 rfl ?_
        refine xr_getR flX9_19 dX9_feed_25 s_0 rfl ?_
        refine xb_get (v := nI (n + 1)) flX9_147 dX9_feed_28 s_6 rfl e_n2 ?_
        refine xr_goto (tgt := 36) dX9_feed_31 rfl ?_
        exact xr_iret dX9_feed_36 rfl rfl (⟨_, rfl, rfl, rfl, (Ke.tr (fun _ _ h => h) Ke.rf k5), ⟨⟨⟨cn, by omega, (Eq.trans (k5 13 2 (by decide)) e_cn)⟩, ⟨cm, by omega, (Eq.trans (k5 20 2 (by decide)) e_cm)⟩, ⟨L, by omega, (Eq.trans (k5 1 4 (by decide)) e_L)⟩, (fun kk hkk => by rw [show M4 3 kk = M 3 kk from (Eq.trans (k5 3 kk (by unfold WTK; omega)) rfl)]; exact hv kk hkk), (DI_ke (by intro k; unfold WTK; omega) k5 hD), ⟨n + 1, by omega, e_n2⟩, ⟨un, wn, by omega, by omega, (Eq.trans (k5 41 4 (by decide)) e_un), (Eq.trans (k5 41 5 (by decide)) e_wn)⟩, ⟨b, by omega, (Eq.trans (k5 46 2 (by decide)) e_b)⟩, (fun j hj => by obtain ⟨q, hq, eq⟩ := hkd j hj; exact ⟨q, hq, (show M4 47 j = M 47 j from (Eq.trans (k5 47 j (by unfold WTK; omega)) rfl)).trans eq⟩), ⟨ra, by omega, (Eq.trans (k5 46 3 (by decide)) e_ra)⟩, (fun j hj => by obtain ⟨s, hs, es⟩ := hsl j hj; exact ⟨s, hs, (show M4 (50 + 2 * j) 3 = M (50 + 2 * j) 3 from (Eq.trans (k5 (50 + 2 * j) 3 (by unfold WTK; omega)) rfl)).trans es⟩), (fun j hj => by obtain ⟨q, hq, eq⟩ := hS j hj; exact ⟨q, hq, (show M4 36 j = M 36 j from (Eq.trans (k5 36 j (by unfold WTK; omega)) rfl)).trans eq⟩)⟩, ⟨Or.inr ⟨n, h_n, e_n, ⟨by grind, by grind⟩, Or.inr ⟨hn12, rfl, e_n2⟩⟩, Or.inr ⟨n, hn12, e_n, rfl, hr1, hr2⟩⟩⟩⟩)
    · refine xr_iconst (v := -1) dX9_feed_11 rfl ?_
      exact xr_iret dX9_feed_12 rfl rfl (⟨_, rfl, rfl, rfl, Ke.rf, ⟨⟨⟨cn, by omega, e_cn⟩, ⟨cm, by omega, e_cm⟩, ⟨L, by omega, e_L⟩, (fun kk hkk => by rw [show M 3 kk = M 3 kk from rfl]; exact hv kk hkk), hD, ⟨n, by omega, e_n⟩, ⟨un, wn, by omega, by omega, e_un, e_wn⟩, ⟨b, by omega, e_b⟩, (fun j hj => by obtain ⟨q, hq, eq⟩ := hkd j hj; exact ⟨q, hq, (show M 47 j = M 47 j from rfl).trans eq⟩), ⟨ra, by omega, e_ra⟩, (fun j hj => by obtain ⟨s, hs, es⟩ := hsl j hj; exact ⟨s, hs, (show M (50 + 2 * j) 3 = M (50 + 2 * j) 3 from rfl).trans es⟩), (fun j hj => by obtain ⟨q, hq, eq⟩ := hS j hj; exact ⟨q, hq, (show M 36 j = M 36 j from rfl).trans eq⟩)⟩, ⟨Or.inl ⟨(fun q => absurd q.2 (by grind)), rfl, rfl⟩, Or.inl ⟨by decide, rfl⟩⟩⟩⟩)
set_option maxRecDepth 100000 in
set_option maxHeartbeats 4000000 in
theorem gv_X10_feed (le : Int32) {l : Launch} {G : xG} {M : xM} {J : xJ} (hI : InvR M) : x_M l G fX10_feed 1 0 0 [.ref (62), .int (le)] x_SH M J (qKI WFES M J (fun r M2 => InvR M2 ∧ (EFd (0 ≤ le ∧ le ≤ 255) (M 62 11) (M2 62 11) (M 69) (M2 69) le r))) := by
  refine xb_of pX10 (Nat.le_of_ble_eq_true rfl) rfl ?_
  obtain ⟨⟨hn, h_hn, e_hn, hw⟩, hbt, ⟨un, wn, h_uw, h_wn, e_un, e_wn⟩, hch, ⟨n, h_n, e_n⟩, htx, ⟨b, h_b, e_b⟩, hkd, ⟨ra, h_ra, e_ra⟩, hsl, ⟨ic, h_ic, e_ic⟩, hS⟩ := hI
  refine xr_iload_n dX10_feed_0 1 rfl ?_
  refine xr_i2l dX10_feed_1 ?_
  refine xr_lconst (v := 0) dX10_feed_2 rfl ?_
  refine xr_ldc2 coX10_160 dX10_feed_3 ?_
  refine xb_cS (As := [.long ((le).toInt64), .long (0), .long (255)]) (rest := []) mlX10_101 (c_within32 (le) (0) (255) (by decide) (by decide)) dX10_feed_6 rfl rfl (Nat.le_of_ble_eq_true rfl) (by decide) (by decide) ?_
  refine xb_bne (tgt := 14) dX10_feed_9 rfl (fun c1 => ?_) (fun c1 => ?_)
  · refine xr_aload_n dX10_feed_14 0 rfl ?_
    refine xb_get (v := nI (n)) flX10_162 dX10_feed_15 s_62 rfl e_n ?_
    refine xr_bipush (v := 120) dX10_feed_18 rfl ?_
    refine xr_icmp_ne (tgt := 26) dX10_feed_20 rfl (fun c2 => ?_) (fun c2 => ?_)
    · have nc2 : ¬ (n = 120) := fun q => c2 ((nI_eq (a := n) (b := 120) (by omega) (by omega)).mpr q)
      have h12 : n < 120 := by
        have h6 : n ≠ 120 := fun q => c2 (by rw [q]; rfl)
        omega
      refine xr_aload_n dX10_feed_26 0 rfl ?_
      refine xr_getR flX10_28 dX10_feed_27 s_62 rfl ?_
      refine xr_aload_n dX10_feed_30 0 rfl ?_
      refine xb_get (v := nI (n)) flX10_162 dX10_feed_31 s_62 rfl e_n ?_
      refine xr_iload_n dX10_feed_34 1 rfl ?_
      refine xb_iast (j := n) dX10_feed_35 s_69 (by omega) (by decide) ?_
      refine xr_aload_n dX10_feed_36 0 rfl ?_
      refine xr_dup dX10_feed_37 rfl ?_
      refine xb_get (v := nI (n)) flX10_162 dX10_feed_38 s_62 rfl (Eq.trans (congrFun (x_up_n _ _ _ (by decide)) _) e_n) ?_
      refine xr_iconst (v := 1) dX10_feed_41 rfl ?_
      refine xr_iadd dX10_feed_42 ?_
      refine xb_top (y := nI (n + 1)) (nI_add (n) (1)) ?_
      refine xr_putI fpX10_162 dX10_feed_43 s_62 rfl rfl rfl ?_
      refine xr_aload_n dX10_feed_46 0 rfl ?_
      refine xb_get (v := nI (n + 1)) flX10_162 dX10_feed_47 s_62 rfl (x_up_s _ _ _ _) ?_
      exact xr_iret dX10_feed_50 rfl rfl (⟨_, rfl, rfl, rfl, (Ke.up (Or.inl (by omega)) (Ke.up (Or.inr (by omega)) Ke.rf)), ⟨⟨⟨hn, by omega, (Eq.trans (x_up_k _ _ _ (by decide)) (Eq.trans (congrFun (x_up_n _ _ _ (by decide)) _) e_hn)), (fun kw hkw => by rw [show (x_up (x_up M 69 n le) 62 11 (nI (n + 1))) 63 (5 + kw) = M 63 (5 + kw) from (Eq.trans (congrFun (x_up_n _ _ _ (by omega)) _) (Eq.trans (congrFun (x_up_n _ _ _ (by omega)) _) rfl))]; exact hw kw hkw)⟩, (by rw [show (x_up (x_up M 69 n le) 62 11 (nI (n + 1))) 63 16 = M 63 16 from (Eq.trans (congrFun (x_up_n _ _ _ (by omega)) _) (Eq.trans (congrFun (x_up_n _ _ _ (by omega)) _) rfl))]; exact hbt), ⟨un, wn, by omega, by omega, (Eq.trans (x_up_k _ _ _ (by decide)) (Eq.trans (congrFun (x_up_n _ _ _ (by decide)) _) e_un)), (Eq.trans (x_up_k _ _ _ (by decide)) (Eq.trans (congrFun (x_up_n _ _ _ (by decide)) _) e_wn))⟩, (fun kk hkk => by rw [show (x_up (x_up M 69 n le) 62 11 (nI (n + 1))) 64 kk = M 64 kk from (Eq.trans (congrFun (x_up_n _ _ _ (by omega)) _) (Eq.trans (congrFun (x_up_n _ _ _ (by omega)) _) rfl)), show (x_up (x_up M 69 n le) 62 11 (nI (n + 1))) 65 kk = M 65 kk from (Eq.trans (congrFun (x_up_n _ _ _ (by omega)) _) (Eq.trans (congrFun (x_up_n _ _ _ (by omega)) _) rfl)), show (x_up (x_up M 69 n le) 62 11 (nI (n + 1))) 66 kk = M 66 kk from (Eq.trans (congrFun (x_up_n _ _ _ (by omega)) _) (Eq.trans (congrFun (x_up_n _ _ _ (by omega)) _) rfl))]; exact hch kk hkk), ⟨n + 1, by omega, (x_up_s _ _ _ _)⟩, (by rw [show (x_up (x_up M 69 n le) 62 11 (nI (n + 1))) 62 13 = M 62 13 from (Eq.trans (x_up_k _ _ _ (by omega)) (Eq.trans (congrFun (x_up_n _ _ _ (by omega)) _) rfl))]; exact htx), ⟨b, by omega, (Eq.trans (x_up_k _ _ _ (by decide)) (Eq.trans (congrFun (x_up_n _ _ _ (by decide)) _) e_b))⟩, (fun j hj => by obtain ⟨q, hq, eq⟩ := hkd j hj; exact ⟨q, hq, (show (x_up (x_up M 69 n le) 62 11 (nI (n + 1))) 81 j = M 81 j from (Eq.trans (congrFun (x_up_n _ _ _ (by omega)) _) (Eq.trans (congrFun (x_up_n _ _ _ (by omega)) _) rfl))).trans eq⟩), ⟨ra, by omega, (Eq.trans (x_up_k _ _ _ (by decide)) (Eq.trans (congrFun (x_up_n _ _ _ (by decide)) _) e_ra))⟩, (fun j hj => by rw [show (x_up (x_up M 69 n le) 62 11 (nI (n + 1))) 83 j = M 83 j from (Eq.trans (congrFun (x_up_n _ _ _ (by omega)) _) (Eq.trans (congrFun (x_up_n _ _ _ (by omega)) _) rfl)), show (x_up (x_up M 69 n le) 62 11 (nI (n + 1))) 84 j = M 84 j from (Eq.trans (congrFun (x_up_n _ _ _ (by omega)) _) (Eq.trans (congrFun (x_up_n _ _ _ (by omega)) _) rfl))]; exact hsl j hj), ⟨ic, by omega, (Eq.trans (x_up_k _ _ _ (by decide)) (Eq.trans (congrFun (x_up_n _ _ _ (by decide)) _) e_ic))⟩, (fun j hj => by obtain ⟨q, hq, eq⟩ := hS j hj; exact ⟨q, hq, (show (x_up (x_up M 69 n le) 62 11 (nI (n + 1))) 75 j = M 75 j from (Eq.trans (congrFun (x_up_n _ _ _ (by omega)) _) (Eq.trans (congrFun (x_up_n _ _ _ (by omega)) _) rfl))).trans eq⟩)⟩, ⟨Or.inr ⟨n, h_n, e_n, c1, Or.inr ⟨h12, rfl, (x_up_s _ _ _ _)⟩⟩, Or.inr ⟨n, h12, e_n, rfl, (up_n (by decide)).trans up_s, fun j hj => (up_n (by decide)).trans (up_k hj)⟩⟩⟩⟩)
    · have nc2 : n = 120 := (nI_eq (a := n) (b := 120) (by omega) (by omega)).mp c2
      refine xr_bipush (v := -3) dX10_feed_23 rfl ?_
      exact xr_iret dX10_feed_25 rfl rfl (⟨_, rfl, rfl, rfl, Ke.rf, ⟨⟨⟨hn, by omega, e_hn, (fun kw hkw => by rw [show M 63 (5 + kw) = M 63 (5 + kw) from rfl]; exact hw kw hkw)⟩, (by rw [show M 63 16 = M 63 16 from rfl]; exact hbt), ⟨un, wn, by omega, by omega, e_un, e_wn⟩, (fun kk hkk => by rw [show M 64 kk = M 64 kk from rfl, show M 65 kk = M 65 kk from rfl, show M 66 kk = M 66 kk from rfl]; exact hch kk hkk), ⟨n, by omega, e_n⟩, (by rw [show M 62 13 = M 62 13 from rfl]; exact htx), ⟨b, by omega, e_b⟩, (fun j hj => by obtain ⟨q, hq, eq⟩ := hkd j hj; exact ⟨q, hq, (show M 81 j = M 81 j from rfl).trans eq⟩), ⟨ra, by omega, e_ra⟩, (fun j hj => by rw [show M 83 j = M 83 j from rfl, show M 84 j = M 84 j from rfl]; exact hsl j hj), ⟨ic, by omega, e_ic⟩, (fun j hj => by obtain ⟨q, hq, eq⟩ := hS j hj; exact ⟨q, hq, (show M 75 j = M 75 j from rfl).trans eq⟩)⟩, ⟨Or.inr ⟨n, h_n, e_n, c1, Or.inl ⟨nc2, rfl, rfl⟩⟩, Or.inl ⟨by decide, rfl⟩⟩⟩⟩)
  · refine xr_iconst (v := -1) dX10_feed_12 rfl ?_
    exact xr_iret dX10_feed_13 rfl rfl (⟨_, rfl, rfl, rfl, Ke.rf, ⟨⟨⟨hn, by omega, e_hn, (fun kw hkw => by rw [show M 63 (5 + kw) = M 63 (5 + kw) from rfl]; exact hw kw hkw)⟩, (by rw [show M 63 16 = M 63 16 from rfl]; exact hbt), ⟨un, wn, by omega, by omega, e_un, e_wn⟩, (fun kk hkk => by rw [show M 64 kk = M 64 kk from rfl, show M 65 kk = M 65 kk from rfl, show M 66 kk = M 66 kk from rfl]; exact hch kk hkk), ⟨n, by omega, e_n⟩, (by rw [show M 62 13 = M 62 13 from rfl]; exact htx), ⟨b, by omega, e_b⟩, (fun j hj => by obtain ⟨q, hq, eq⟩ := hkd j hj; exact ⟨q, hq, (show M 81 j = M 81 j from rfl).trans eq⟩), ⟨ra, by omega, e_ra⟩, (fun j hj => by rw [show M 83 j = M 83 j from rfl, show M 84 j = M 84 j from rfl]; exact hsl j hj), ⟨ic, by omega, e_ic⟩, (fun j hj => by obtain ⟨q, hq, eq⟩ := hS j hj; exact ⟨q, hq, (show M 75 j = M 75 j from rfl).trans eq⟩)⟩, ⟨Or.inl ⟨c1, rfl, rfl⟩, Or.inl ⟨by decide, rfl⟩⟩⟩⟩)
set_option maxRecDepth 100000 in
set_option maxHeartbeats 4000000 in
theorem gv_X9_law {l : Launch} {G : xG} {M : xM} {J : xJ} (hI : InvC M) : x_M l G fX9_law 141 0 0 [.ref (0)] x_SH M J (qKI WLAW M J (fun r M2 => InvC M2 ∧ (M2 6 2 = nI 0 ∧ LwA (M 7) (M 6 2) r))) := by
  refine xb_of pX9 (Nat.le_of_ble_eq_true rfl) rfl ?_
  obtain ⟨⟨cn, h_cn, e_cn⟩, ⟨cm, h_cm, e_cm⟩, ⟨L, h_L, e_L⟩, hv, hD, ⟨n, h_n, e_n⟩, ⟨un, wn, h_uw, h_wn, e_un, e_wn⟩, ⟨b, h_b, e_b⟩, hkd, ⟨ra, h_ra, e_ra⟩, hsl, hS⟩ := hI
  refine xr_aload_n dX9_law_0 0 rfl ?_
  refine xr_getR flX9_19 dX9_law_1 s_0 rfl ?_
  refine xr_callV (As := []) (rest := []) mlX9_151 (gs_X4_readText (E := n) (by omega) hD e_n) dX9_law_4 s_6 rfl rfl (Nat.le_of_ble_eq_true rfl) (by decide) ⟨by decide, by decide⟩ (fun v s2 M3 J2 hq => ?_)
  obtain ⟨r5, rfl, rfl, rfl, k4, ⟨hd1, htx2⟩⟩ := hq
  try dsimp only [Option.toList, List.cons_append, List.nil_append]
  refine xr_istore_n (ls2 := [(1, .int (r5)), (0, .ref (0))]) dX9_law_7 (by decide) rfl ?_
  refine xr_aload_n dX9_law_8 1 rfl ?_
  refine xr_getR flX9_19 dX9_law_9 s_0 rfl ?_
  refine xr_iconst (v := 0) dX9_law_12 rfl ?_
  refine xr_putI fpX9_147 dX9_law_13 s_6 rfl rfl rfl ?_
  refine xr_iload_n dX9_law_16 0 rfl ?_
  refine xr_if_lt (tgt := 25) dX9_law_17 rfl (fun c6 => ?_) (fun c6 => ?_)
  · refine xr_aload_n dX9_law_25 1 rfl ?_
    refine xr_getR flX9_10 dX9_law_26 s_0 rfl ?_
    refine xr_aload_n dX9_law_29 1 rfl ?_
    refine xr_getR flX9_19 dX9_law_30 s_0 rfl ?_
    refine xr_getR flX9_155 dX9_law_33 s_6 rfl ?_
    refine xr_callV (As := [.ref (8)]) (rest := []) mlX9_158 (g_X3_copy (DI_up (by decide) hd1)) dX9_law_36 s_1 rfl rfl (Nat.le_of_ble_eq_true rfl) (by decide) ⟨by decide, by decide⟩ (fun v s2 M9 J2 hq => ?_)
    obtain ⟨rfl, rfl, rfl, k10, ⟨⟨L_7, h_L_7, e_L_7⟩, hv8⟩⟩ := hq
    try dsimp only [Option.toList, List.cons_append, List.nil_append]
    refine xr_iconst (v := 1) dX9_law_39 rfl ?_
    exact xr_iret dX9_law_40 rfl rfl (⟨_, rfl, rfl, rfl, (Ke.tr (fun pp kk => (fun hh => Or.elim hh (fun h => (Or.inl h)) (fun h => (Or.inr (Or.inl h))))) (Ke.up (Or.inr (Or.inr (Or.inl (by omega)))) (Ke.tr (fun pp kk => (fun hh => Or.elim hh (fun h => (Or.inr (Or.inr (Or.inl (by omega))))) (fun hh => Or.elim hh (fun h => (Or.inr (Or.inr (Or.inl (by omega))))) (fun h => (Or.inr (Or.inr (Or.inr h))))))) Ke.rf k4)) k10), ⟨⟨⟨cn, by omega, (Eq.trans (k10 13 2 (by decide)) (Eq.trans (congrFun (x_up_n _ _ _ (by decide)) _) (Eq.trans (k4 13 2 (by decide)) e_cn)))⟩, ⟨cm, by omega, (Eq.trans (k10 20 2 (by decide)) (Eq.trans (congrFun (x_up_n _ _ _ (by decide)) _) (Eq.trans (k4 20 2 (by decide)) e_cm)))⟩, ⟨L_7, by omega, e_L_7⟩, hv8, (DI_ke (by intro k; unfold WLW; omega) k10 (DI_up (by decide) hd1)), ⟨0, by omega, (Eq.trans (k10 6 2 (by decide)) (x_up_s _ _ _ _))⟩, ⟨un, wn, by omega, by omega, (Eq.trans (k10 41 4 (by decide)) (Eq.trans (congrFun (x_up_n _ _ _ (by decide)) _) (Eq.trans (k4 41 4 (by decide)) e_un))), (Eq.trans (k10 41 5 (by decide)) (Eq.trans (congrFun (x_up_n _ _ _ (by decide)) _) (Eq.trans (k4 41 5 (by decide)) e_wn)))⟩, ⟨b, by omega, (Eq.trans (k10 46 2 (by decide)) (Eq.trans (congrFun (x_up_n _ _ _ (by decide)) _) (Eq.trans (k4 46 2 (by decide)) e_b)))⟩, (fun j hj => by obtain ⟨q, hq, eq⟩ := hkd j hj; exact ⟨q, hq, (show M9 47 j = M 47 j from (Eq.trans (k10 47 j (by unfold WLW; omega)) (Eq.trans (congrFun (x_up_n _ _ _ (by omega)) _) (Eq.trans (k4 47 j (by unfold WRD; omega)) rfl)))).trans eq⟩), ⟨ra, by omega, (Eq.trans (k10 46 3 (by decide)) (Eq.trans (congrFun (x_up_n _ _ _ (by decide)) _) (Eq.trans (k4 46 3 (by decide)) e_ra)))⟩, (fun j hj => by obtain ⟨s, hs, es⟩ := hsl j hj; exact ⟨s, hs, (show M9 (50 + 2 * j) 3 = M (50 + 2 * j) 3 from (Eq.trans (k10 (50 + 2 * j) 3 (by unfold WLW; omega)) (Eq.trans (congrFun (x_up_n _ _ _ (by omega)) _) (Eq.trans (k4 (50 + 2 * j) 3 (by unfold WRD; omega)) rfl)))).trans es⟩), (fun j hj => by obtain ⟨q, hq, eq⟩ := hS j hj; exact ⟨q, hq, (show M9 36 j = M 36 j from (Eq.trans (k10 36 j (by unfold WLW; omega)) (Eq.trans (congrFun (x_up_n _ _ _ (by omega)) _) (Eq.trans (k4 36 j (by unfold WRD; omega)) rfl)))).trans eq⟩)⟩, ⟨(Eq.trans (k10 6 2 (by decide)) (x_up_s _ _ _ _)), (by obtain ⟨f, g, a2, ok, ls, h1, h2, h3, -⟩ := htx2; exact ⟨n, f, g, a2, ok, ls, h_n, e_n, h1, h2, (by rw [← h3]; grind)⟩)⟩⟩⟩)
  · refine xr_bipush (v := -100) dX9_law_20 rfl ?_
    refine xr_iload_n dX9_law_22 0 rfl ?_
    refine xr_isub dX9_law_23 ?_
    exact xr_iret dX9_law_24 rfl rfl (⟨_, rfl, rfl, rfl, (Ke.up (Or.inr (Or.inr (Or.inl (by omega)))) (Ke.tr (fun pp kk => (fun hh => Or.elim hh (fun h => (Or.inr (Or.inr (Or.inl (by omega))))) (fun hh => Or.elim hh (fun h => (Or.inr (Or.inr (Or.inl (by omega))))) (fun h => (Or.inr (Or.inr (Or.inr h))))))) Ke.rf k4)), ⟨⟨⟨cn, by omega, (Eq.trans (congrFun (x_up_n _ _ _ (by decide)) _) (Eq.trans (k4 13 2 (by decide)) e_cn))⟩, ⟨cm, by omega, (Eq.trans (congrFun (x_up_n _ _ _ (by decide)) _) (Eq.trans (k4 20 2 (by decide)) e_cm))⟩, ⟨L, by omega, (Eq.trans (congrFun (x_up_n _ _ _ (by decide)) _) (Eq.trans (k4 1 4 (by decide)) e_L))⟩, (fun kk hkk => by rw [show (x_up M3 6 2 0) 3 kk = M 3 kk from (Eq.trans (congrFun (x_up_n _ _ _ (by omega)) _) (Eq.trans (k4 3 kk (by unfold WRD; omega)) rfl))]; exact hv kk hkk), (DI_up (by decide) hd1), ⟨0, by omega, (x_up_s _ _ _ _)⟩, ⟨un, wn, by omega, by omega, (Eq.trans (congrFun (x_up_n _ _ _ (by decide)) _) (Eq.trans (k4 41 4 (by decide)) e_un)), (Eq.trans (congrFun (x_up_n _ _ _ (by decide)) _) (Eq.trans (k4 41 5 (by decide)) e_wn))⟩, ⟨b, by omega, (Eq.trans (congrFun (x_up_n _ _ _ (by decide)) _) (Eq.trans (k4 46 2 (by decide)) e_b))⟩, (fun j hj => by obtain ⟨q, hq, eq⟩ := hkd j hj; exact ⟨q, hq, (show (x_up M3 6 2 0) 47 j = M 47 j from (Eq.trans (congrFun (x_up_n _ _ _ (by omega)) _) (Eq.trans (k4 47 j (by unfold WRD; omega)) rfl))).trans eq⟩), ⟨ra, by omega, (Eq.trans (congrFun (x_up_n _ _ _ (by decide)) _) (Eq.trans (k4 46 3 (by decide)) e_ra))⟩, (fun j hj => by obtain ⟨s, hs, es⟩ := hsl j hj; exact ⟨s, hs, (show (x_up M3 6 2 0) (50 + 2 * j) 3 = M (50 + 2 * j) 3 from (Eq.trans (congrFun (x_up_n _ _ _ (by omega)) _) (Eq.trans (k4 (50 + 2 * j) 3 (by unfold WRD; omega)) rfl))).trans es⟩), (fun j hj => by obtain ⟨q, hq, eq⟩ := hS j hj; exact ⟨q, hq, (show (x_up M3 6 2 0) 36 j = M 36 j from (Eq.trans (congrFun (x_up_n _ _ _ (by omega)) _) (Eq.trans (k4 36 j (by unfold WRD; omega)) rfl))).trans eq⟩)⟩, ⟨(x_up_s _ _ _ _), (by obtain ⟨f, g, a2, ok, ls, h1, h2, h3, -⟩ := htx2; exact ⟨n, f, g, a2, ok, ls, h_n, e_n, h1, h2, (by rw [← h3]; grind)⟩)⟩⟩⟩)
set_option maxRecDepth 100000 in
set_option maxHeartbeats 4000000 in
theorem gv_X10_law {l : Launch} {G : xG} {M : xM} {J : xJ} (hI : InvR M) : x_M l G fX10_law 59 0 0 [.ref (62)] x_SH M J (qKI WLT M J (fun r M2 => InvR M2 ∧ (M2 62 11 = nI 0 ∧ LwA (M 69) (M 62 11) r))) := by
  refine xb_of pX10 (Nat.le_of_ble_eq_true rfl) rfl ?_
  obtain ⟨⟨hn, h_hn, e_hn, hw⟩, hbt, ⟨un, wn, h_uw, h_wn, e_un, e_wn⟩, hch, ⟨n, h_n, e_n⟩, htx, ⟨b, h_b, e_b⟩, hkd, ⟨ra, h_ra, e_ra⟩, hsl, ⟨ic, h_ic, e_ic⟩, hS⟩ := hI
  refine xr_aload_n dX10_law_0 0 rfl ?_
  refine xr_iconst (v := -1) dX10_law_1 rfl ?_
  refine xr_aload_n dX10_law_2 0 rfl ?_
  refine xb_get (v := nI (n)) flX10_162 dX10_law_3 s_62 rfl e_n ?_
  refine xr_callV (As := [.int ((-1)), .int (nI (n))]) (rest := []) mlX10_211 (gs_X10_workOut (E := n) (by omega) (T := M 69) (N := M 71) (Or.inl ⟨rfl, rfl⟩) rfl) dX10_law_6 s_62 rfl rfl (Nat.le_of_ble_eq_true rfl) (by decide) ⟨by decide, by decide⟩ (fun v s2 M10 J2 hq => ?_)
  obtain ⟨r12, rfl, rfl, rfl, k11, ⟨f1, g2, a2_3, ok4, ls5, h6, h7, h8, h9⟩⟩ := hq
  try dsimp only [Option.toList, List.cons_append, List.nil_append]
  refine xr_istore_n (ls2 := [(1, .int (r12)), (0, .ref (62))]) dX10_law_9 (by decide) rfl ?_
  refine xr_aload_n dX10_law_10 1 rfl ?_
  refine xb_get (v := nI (n)) flX10_162 dX10_law_11 s_62 rfl (Eq.trans (k11 62 11 (by decide)) e_n) ?_
  refine xr_istore_n (ls2 := [(2, .int (nI (n))), (1, .int (r12)), (0, .ref (62))]) dX10_law_14 (by decide) rfl ?_
  refine xr_aload_n dX10_law_15 2 rfl ?_
  refine xr_iconst (v := 0) dX10_law_16 rfl ?_
  refine xr_putI fpX10_162 dX10_law_17 s_62 rfl rfl rfl ?_
  refine xr_aload_n dX10_law_20 2 rfl ?_
  refine xb_get (v := (ftF n a2_3 ok4)) flX10_174 dX10_law_21 s_62 rfl (Eq.trans (x_up_k _ _ _ (by decide)) h8) ?_
  refine xr_if_lt (tgt := 35) dX10_law_24 rfl (fun c13 => ?_) (fun c13 => ?_)
  · refine xr_iconst (v := 0) dX10_law_35 rfl ?_
    refine xr_istore_n (ls2 := [(3, .int (0)), (2, .int (nI (n))), (1, .int (r12)), (0, .ref (62))]) dX10_law_36 (by decide) rfl ?_
    refine xb_ls (ls2 := [(3, .int (nI (0))), (2, .int (nI (n))), (1, .int (r12)), (0, .ref (62))]) [0, 1, 2, 3] rfl ?_
    refine rlw_l (by omega) (fun M14 k15 => ?_) (n - 0) 0 (x_up M10 62 11 0) (by omega) Ke.rf
    refine xr_aload_n dX10_law_60 1 rfl ?_
    refine xr_iload_n dX10_law_61 0 rfl ?_
    refine xr_putI fpX10_88 dX10_law_62 s_62 rfl rfl rfl ?_
    refine xr_iconst (v := 1) dX10_law_65 rfl ?_
    exact xr_iret dX10_law_66 rfl rfl (⟨_, rfl, rfl, rfl, (Ke.up (Or.inr (Or.inl (by omega))) (Ke.tr (fun pp kk h => (Or.inr (Or.inr (Or.inr (Or.inr (Or.inr (Or.inr (Or.inr h)))))))) (Ke.up (Or.inl (by omega)) (Ke.tr (fun pp kk => (fun hh => Or.elim hh (fun h => (Or.inr (Or.inr (Or.inl h)))) (fun hh => Or.elim hh (fun h => (Or.inr (Or.inr (Or.inr (Or.inl h))))) (fun hh => Or.elim hh (fun h => (Or.inr (Or.inr (Or.inr (Or.inr (Or.inl h)))))) (fun hh => Or.elim hh (fun h => (Or.inr (Or.inr (Or.inr (Or.inr (Or.inr (Or.inl h))))))) (fun h => (Or.inr (Or.inr (Or.inr (Or.inr (Or.inr (Or.inr (Or.inl h))))))))))))) Ke.rf k11)) k15)), ⟨⟨⟨hn, by omega, (Eq.trans (x_up_k _ _ _ (by decide)) (Eq.trans (k15 62 6 (by decide)) (Eq.trans (x_up_k _ _ _ (by decide)) (Eq.trans (k11 62 6 (by decide)) e_hn)))), (fun kw hkw => by rw [show (x_up M14 62 13 (nI (n))) 63 (5 + kw) = M 63 (5 + kw) from (Eq.trans (congrFun (x_up_n _ _ _ (by omega)) _) (Eq.trans (k15 63 (5 + kw) (by unfold W70; omega)) (Eq.trans (congrFun (x_up_n _ _ _ (by omega)) _) (Eq.trans (k11 63 (5 + kw) (by unfold WPW; omega)) rfl))))]; exact hw kw hkw)⟩, (by rw [show (x_up M14 62 13 (nI (n))) 63 16 = M 63 16 from (Eq.trans (congrFun (x_up_n _ _ _ (by omega)) _) (Eq.trans (k15 63 16 (by unfold W70; omega)) (Eq.trans (congrFun (x_up_n _ _ _ (by omega)) _) (Eq.trans (k11 63 16 (by unfold WPW; omega)) rfl))))]; exact hbt), ⟨un, wn, by omega, by omega, (Eq.trans (x_up_k _ _ _ (by decide)) (Eq.trans (k15 62 5 (by decide)) (Eq.trans (x_up_k _ _ _ (by decide)) (Eq.trans (k11 62 5 (by decide)) e_un)))), (Eq.trans (x_up_k _ _ _ (by decide)) (Eq.trans (k15 62 4 (by decide)) (Eq.trans (x_up_k _ _ _ (by decide)) (Eq.trans (k11 62 4 (by decide)) e_wn))))⟩, (fun kk hkk => by rw [show (x_up M14 62 13 (nI (n))) 64 kk = M 64 kk from (Eq.trans (congrFun (x_up_n _ _ _ (by omega)) _) (Eq.trans (k15 64 kk (by unfold W70; omega)) (Eq.trans (congrFun (x_up_n _ _ _ (by omega)) _) (Eq.trans (k11 64 kk (by unfold WPW; omega)) rfl)))), show (x_up M14 62 13 (nI (n))) 65 kk = M 65 kk from (Eq.trans (congrFun (x_up_n _ _ _ (by omega)) _) (Eq.trans (k15 65 kk (by unfold W70; omega)) (Eq.trans (congrFun (x_up_n _ _ _ (by omega)) _) (Eq.trans (k11 65 kk (by unfold WPW; omega)) rfl)))), show (x_up M14 62 13 (nI (n))) 66 kk = M 66 kk from (Eq.trans (congrFun (x_up_n _ _ _ (by omega)) _) (Eq.trans (k15 66 kk (by unfold W70; omega)) (Eq.trans (congrFun (x_up_n _ _ _ (by omega)) _) (Eq.trans (k11 66 kk (by unfold WPW; omega)) rfl))))]; exact hch kk hkk), ⟨0, by omega, (Eq.trans (x_up_k _ _ _ (by decide)) (Eq.trans (k15 62 11 (by decide)) (x_up_s _ _ _ _)))⟩, (Or.inr ⟨n, h_n, (x_up_s _ _ _ _)⟩), ⟨b, by omega, (Eq.trans (x_up_k _ _ _ (by decide)) (Eq.trans (k15 62 36 (by decide)) (Eq.trans (x_up_k _ _ _ (by decide)) (Eq.trans (k11 62 36 (by decide)) e_b))))⟩, (fun j hj => by obtain ⟨q, hq, eq⟩ := hkd j hj; exact ⟨q, hq, (show (x_up M14 62 13 (nI (n))) 81 j = M 81 j from (Eq.trans (congrFun (x_up_n _ _ _ (by omega)) _) (Eq.trans (k15 81 j (by unfold W70; omega)) (Eq.trans (congrFun (x_up_n _ _ _ (by omega)) _) (Eq.trans (k11 81 j (by unfold WPW; omega)) rfl))))).trans eq⟩), ⟨ra, by omega, (Eq.trans (x_up_k _ _ _ (by decide)) (Eq.trans (k15 62 39 (by decide)) (Eq.trans (x_up_k _ _ _ (by decide)) (Eq.trans (k11 62 39 (by decide)) e_ra))))⟩, (fun j hj => by rw [show (x_up M14 62 13 (nI (n))) 83 j = M 83 j from (Eq.trans (congrFun (x_up_n _ _ _ (by omega)) _) (Eq.trans (k15 83 j (by unfold W70; omega)) (Eq.trans (congrFun (x_up_n _ _ _ (by omega)) _) (Eq.trans (k11 83 j (by unfold WPW; omega)) rfl)))), show (x_up M14 62 13 (nI (n))) 84 j = M 84 j from (Eq.trans (congrFun (x_up_n _ _ _ (by omega)) _) (Eq.trans (k15 84 j (by unfold W70; omega)) (Eq.trans (congrFun (x_up_n _ _ _ (by omega)) _) (Eq.trans (k11 84 j (by unfold WPW; omega)) rfl))))]; exact hsl j hj), ⟨ic, by omega, (Eq.trans (x_up_k _ _ _ (by decide)) (Eq.trans (k15 62 34 (by decide)) (Eq.trans (x_up_k _ _ _ (by decide)) (Eq.trans (k11 62 34 (by decide)) e_ic))))⟩, (fun j hj => by obtain ⟨q, hq, eq⟩ := hS j hj; exact ⟨q, hq, (show (x_up M14 62 13 (nI (n))) 75 j = M 75 j from (Eq.trans (congrFun (x_up_n _ _ _ (by omega)) _) (Eq.trans (k15 75 j (by unfold W70; omega)) (Eq.trans (congrFun (x_up_n _ _ _ (by omega)) _) (Eq.trans (k11 75 j (by unfold WPW; omega)) rfl))))).trans eq⟩)⟩, ⟨(Eq.trans (x_up_k _ _ _ (by decide)) (Eq.trans (k15 62 11 (by decide)) (x_up_s _ _ _ _))), ⟨n, f1, g2, a2_3, ok4, ls5, h_n, e_n, h6, h7, (by grind)⟩⟩⟩⟩)
  · refine xr_bipush (v := -100) dX10_law_27 rfl ?_
    refine xr_aload_n dX10_law_29 2 rfl ?_
    refine xb_get (v := (ftF n a2_3 ok4)) flX10_174 dX10_law_30 s_62 rfl (Eq.trans (x_up_k _ _ _ (by decide)) h8) ?_
    refine xr_isub dX10_law_33 ?_
    exact xr_iret dX10_law_34 rfl rfl (⟨_, rfl, rfl, rfl, (Ke.up (Or.inl (by omega)) (Ke.tr (fun pp kk => (fun hh => Or.elim hh (fun h => (Or.inr (Or.inr (Or.inl h)))) (fun hh => Or.elim hh (fun h => (Or.inr (Or.inr (Or.inr (Or.inl h))))) (fun hh => Or.elim hh (fun h => (Or.inr (Or.inr (Or.inr (Or.inr (Or.inl h)))))) (fun hh => Or.elim hh (fun h => (Or.inr (Or.inr (Or.inr (Or.inr (Or.inr (Or.inl h))))))) (fun h => (Or.inr (Or.inr (Or.inr (Or.inr (Or.inr (Or.inr (Or.inl h))))))))))))) Ke.rf k11)), ⟨⟨⟨hn, by omega, (Eq.trans (x_up_k _ _ _ (by decide)) (Eq.trans (k11 62 6 (by decide)) e_hn)), (fun kw hkw => by rw [show (x_up M10 62 11 0) 63 (5 + kw) = M 63 (5 + kw) from (Eq.trans (congrFun (x_up_n _ _ _ (by omega)) _) (Eq.trans (k11 63 (5 + kw) (by unfold WPW; omega)) rfl))]; exact hw kw hkw)⟩, (by rw [show (x_up M10 62 11 0) 63 16 = M 63 16 from (Eq.trans (congrFun (x_up_n _ _ _ (by omega)) _) (Eq.trans (k11 63 16 (by unfold WPW; omega)) rfl))]; exact hbt), ⟨un, wn, by omega, by omega, (Eq.trans (x_up_k _ _ _ (by decide)) (Eq.trans (k11 62 5 (by decide)) e_un)), (Eq.trans (x_up_k _ _ _ (by decide)) (Eq.trans (k11 62 4 (by decide)) e_wn))⟩, (fun kk hkk => by rw [show (x_up M10 62 11 0) 64 kk = M 64 kk from (Eq.trans (congrFun (x_up_n _ _ _ (by omega)) _) (Eq.trans (k11 64 kk (by unfold WPW; omega)) rfl)), show (x_up M10 62 11 0) 65 kk = M 65 kk from (Eq.trans (congrFun (x_up_n _ _ _ (by omega)) _) (Eq.trans (k11 65 kk (by unfold WPW; omega)) rfl)), show (x_up M10 62 11 0) 66 kk = M 66 kk from (Eq.trans (congrFun (x_up_n _ _ _ (by omega)) _) (Eq.trans (k11 66 kk (by unfold WPW; omega)) rfl))]; exact hch kk hkk), ⟨0, by omega, (x_up_s _ _ _ _)⟩, (by rw [show (x_up M10 62 11 0) 62 13 = M 62 13 from (Eq.trans (x_up_k _ _ _ (by omega)) (Eq.trans (k11 62 13 (by unfold WPW; omega)) rfl))]; exact htx), ⟨b, by omega, (Eq.trans (x_up_k _ _ _ (by decide)) (Eq.trans (k11 62 36 (by decide)) e_b))⟩, (fun j hj => by obtain ⟨q, hq, eq⟩ := hkd j hj; exact ⟨q, hq, (show (x_up M10 62 11 0) 81 j = M 81 j from (Eq.trans (congrFun (x_up_n _ _ _ (by omega)) _) (Eq.trans (k11 81 j (by unfold WPW; omega)) rfl))).trans eq⟩), ⟨ra, by omega, (Eq.trans (x_up_k _ _ _ (by decide)) (Eq.trans (k11 62 39 (by decide)) e_ra))⟩, (fun j hj => by rw [show (x_up M10 62 11 0) 83 j = M 83 j from (Eq.trans (congrFun (x_up_n _ _ _ (by omega)) _) (Eq.trans (k11 83 j (by unfold WPW; omega)) rfl)), show (x_up M10 62 11 0) 84 j = M 84 j from (Eq.trans (congrFun (x_up_n _ _ _ (by omega)) _) (Eq.trans (k11 84 j (by unfold WPW; omega)) rfl))]; exact hsl j hj), ⟨ic, by omega, (Eq.trans (x_up_k _ _ _ (by decide)) (Eq.trans (k11 62 34 (by decide)) e_ic))⟩, (fun j hj => by obtain ⟨q, hq, eq⟩ := hS j hj; exact ⟨q, hq, (show (x_up M10 62 11 0) 75 j = M 75 j from (Eq.trans (congrFun (x_up_n _ _ _ (by omega)) _) (Eq.trans (k11 75 j (by unfold WPW; omega)) rfl))).trans eq⟩)⟩, ⟨(x_up_s _ _ _ _), ⟨n, f1, g2, a2_3, ok4, ls5, h_n, e_n, h6, h7, (by grind)⟩⟩⟩⟩)
