/-- lifted, come anew -/
def lfD (D : xM) (i : Nat) : xM := x_up (x_up (x_up D i 2 0) i 3 4) i 4 20
def adD (D : xM) (i : Nat) (s h p : Int32) : xM := x_up (x_up (x_up (x_up (x_up D i 0 s) i 1 h) i 2 0) i 3 p) i 4 20
theorem lfD_i {D : xM} {i : Nat} : lfD D i i 0 = D i 0 ∧ lfD D i i 1 = D i 1 ∧ lfD D i i 2 = 0 ∧ lfD D i i 3 = 4 ∧ lfD D i i 4 = 20 := by
  unfold lfD
  refine ⟨?_, ?_, ?_, ?_, ?_⟩
  · rw [up_k (by decide), up_k (by decide), up_k (by decide)]
  · rw [up_k (by decide), up_k (by decide), up_k (by decide)]
  · rw [up_k (by decide), up_k (by decide), up_s]
  · rw [up_k (by decide), up_s]
  · rw [up_s]
theorem lfD_n {D : xM} {i j : Nat} (h : j ≠ i) : ∀ k, lfD D i j k = D j k := fun k => by unfold lfD; rw [up_n h, up_n h, up_n h]
theorem adD_i {D : xM} {i : Nat} {s h p : Int32} : adD D i s h p i 0 = s ∧ adD D i s h p i 1 = h ∧ adD D i s h p i 2 = 0 ∧ adD D i s h p i 3 = p ∧ adD D i s h p i 4 = 20 := by
  unfold adD
  refine ⟨?_, ?_, ?_, ?_, ?_⟩
  · rw [up_k (by decide), up_k (by decide), up_k (by decide), up_k (by decide), up_s]
  · rw [up_k (by decide), up_k (by decide), up_k (by decide), up_s]
  · rw [up_k (by decide), up_k (by decide), up_s]
  · rw [up_k (by decide), up_s]
  · rw [up_s]
theorem adD_n {D : xM} {i j : Nat} {s h p : Int32} (e : j ≠ i) : ∀ k, adD D i s h p j k = D j k := fun k => by unfold adD; rw [up_n e, up_n e, up_n e, up_n e, up_n e]
theorem WF_lf {n i : Nat} {D : xM} (h : WF n D) : WF n (lfD D i) := fun j hj => by
  by_cases e : j = i
  · subst e
    obtain ⟨a, b, c, d, f⟩ := @lfD_i D j
    rw [a, b, c, d, f]
    exact ⟨(h j hj).1, (h j hj).2.1, by decide, by decide, by decide, fun q => absurd q (by decide)⟩
  · rw [lfD_n e, lfD_n e, lfD_n e, lfD_n e, lfD_n e]; exact h j hj
theorem WF_ad {n : Nat} {D : xM} {s v p : Int32} (h : WF n D) (hs : 1 ≤ s ∧ s ≤ 9) (hv : 1 ≤ v ∧ v ≤ 9) (hp : -9 ≤ p ∧ p ≤ 9) : WF (n + 1) (adD D n s v p) := fun j hj => by
  by_cases e : j = n
  · subst e
    obtain ⟨a, b, c, d, f⟩ := @adD_i D j s v p
    rw [a, b, c, d, f]
    exact ⟨hs, hv, by decide, hp, by decide, fun q => absurd q (by decide)⟩
  · rw [adD_n e, adD_n e, adD_n e, adD_n e, adD_n e]; exact h j (by omega)
theorem AbC_5 {b n i : Nat} {M M2 D D2 : xM} (h : AbC b n M D) (ho : ∀ j, j < n → j ≠ i → ∀ k, M2 (b + j) k = M (b + j) k) (hD : ∀ j, j ≠ i → ∀ k, D2 j k = D j k) (h0 : M2 (b + i) 0 = D2 i 0) (h1 : M2 (b + i) 1 = D2 i 1) (h2 : M2 (b + i) 2 = D2 i 2) (h3 : M2 (b + i) 3 = D2 i 3) (h4 : M2 (b + i) 4 = D2 i 4) (m : Nat) (hm : ∀ j, j < m → j < n ∨ j = i) : AbC b m M2 D2 := fun j hj k hk => by
  by_cases e : j = i
  · subst e
    match k, hk with
    | 0, _ => exact h0
    | 1, _ => exact h1
    | 2, _ => exact h2
    | 3, _ => exact h3
    | 4, _ => exact h4
  · have hn : j < n := (hm j hj).resolve_right e
    rw [ho j hn e, hD j e]; exact h j hn k hk
theorem AbS_5 {n i m : Nat} {M M2 D D2 : xM} (h : AbS n M D) (hi : i < 5) (h63 : ∀ k, k ≠ i → k ≠ 5 + i → k ≠ 10 + i → M2 63 k = M 63 k) (h67 : ∀ k, k ≠ i → M2 67 k = M 67 k) (h68 : ∀ k, k ≠ i → M2 68 k = M 68 k) (hD : ∀ j, j ≠ i → ∀ k, D2 j k = D j k)
    (h0 : M2 63 i = D2 i 0) (h1 : M2 63 (5 + i) = D2 i 1) (h2 : M2 67 i = D2 i 2) (h3 : M2 63 (10 + i) = D2 i 3) (h4 : M2 68 i = D2 i 4) (hm : ∀ j, j < m → j < n ∨ j = i) (hm5 : m ≤ 5) : AbS m M2 D2 := fun j hj => by
  by_cases e : j = i
  · subst e; exact ⟨h0, h1, h2, h3, h4⟩
  · have hn : j < n := (hm j hj).resolve_right e
    rw [h63 j (by omega) (by omega) (by omega), h63 (5 + j) (by omega) (by omega) (by omega), h63 (10 + j) (by omega) (by omega) (by omega), h67 j e, h68 j e, hD j e, hD j e, hD j e, hD j e, hD j e]; exact h j hn
def ELf (G : xM → Nat → xM → Option zL → (Nat → Int32) → Prop) (n : Nat) (D : xM) (t : Option zL) (S : Nat → Int32) (M2 : xM) (h r : Int32) : Prop := ¬ (0 ≤ h ∧ h < nI n) ∧ r = -1 ∧ G M2 n D t S ∨ ∃ i, i < n ∧ h = nI i ∧ (¬ D i 4 = 0 ∧ r = -5 ∧ G M2 n D t S ∨ D i 4 = 0 ∧ r = nI i ∧ G M2 n (lfD D i) t S)
def EHp (G : xM → Nat → xM → Option zL → (Nat → Int32) → Prop) (n : Nat) (D : xM) (t : Option zL) (S : Nat → Int32) (M2 : xM) (sh r : Int32) : Prop := ¬ hpOk sh ∧ r = -1 ∧ G M2 n D t S ∨ hpOk sh ∧ (n = 5 ∧ r = -3 ∧ G M2 n D t S ∨ n < 5 ∧ r = nI n ∧ G M2 (n + 1) (adD D n (sh / 10) (sh - sh / 10 * 10) 4) t S)
set_option maxRecDepth 100000 in
set_option maxHeartbeats 4000000 in
theorem gx_X9_lift {nh : Nat} {D : xM} {t : Option zL} {S : Nat → Int32} (h : Int32) {l : Launch} {G : xG} {M : xM} {J : xJ} (hI : InvC M) (hWG : WG nh D S) (hG : CG M nh D t S) : x_M l G fX9_lift 1 0 0 [.ref (0), .int (h)] x_SH M J (qKI W15 M J (fun r M2 => InvC M2 ∧ (ELf CG nh D t S M2 h r))) := by
  refine xb_of pX9 (Nat.le_of_ble_eq_true rfl) rfl ?_
  obtain ⟨⟨cn, h_cn, e_cn⟩, ⟨cm, h_cm, e_cm⟩, ⟨L, h_L, e_L⟩, hv, hD, ⟨n, h_n, e_n⟩, ⟨un, wn, h_uw, h_wn, e_un, e_wn⟩, ⟨b, h_b, e_b⟩, hkd, ⟨ra, h_ra, e_ra⟩, hsl, hS⟩ := hI
  have hG0 := hG
  obtain ⟨hn5, hW, hrub, hbeat⟩ := hWG
  obtain ⟨hGn, hA, hL, e_nw, e_rub, e_bt, e_ph, e_st, e_kn, e_pu, e_lf⟩ := hG
  obtain rfl : nh = cn := (nI_eq (by omega) (by omega)).mp (hGn.symm.trans e_cn)
  have hbt : ¬ S 2 = 0 := ne2_0 hbeat.1
  refine xr_aload_n dX9_lift_0 0 rfl ?_
  refine xr_getR flX9_28 dX9_lift_1 s_0 rfl ?_
  refine xr_iload_n dX9_lift_4 1 rfl ?_
  refine xb_cV (As := [.int (h)]) (rest := []) mlX9_118 (c_X5_has h (by omega) e_cn) dX9_lift_5 s_13 rfl rfl (Nat.le_of_ble_eq_true rfl) (by decide) (by decide) ?_
  refine xb_bne (tgt := 13) dX9_lift_8 rfl (fun c1 => ?_) (fun c1 => ?_)
  · obtain ⟨h_, hh_, rfl⟩ := x_nat (N := nh) (by omega) rfl c1
    refine xr_aload_n dX9_lift_13 0 rfl ?_
    refine xr_getR flX9_28 dX9_lift_14 s_0 rfl ?_
    refine xr_getR flX9_121 dX9_lift_17 s_13 rfl ?_
    refine xr_iload_n dX9_lift_20 1 rfl ?_
    refine xb_aald (j := h_) (q := 15 + h_) (by decide) dX9_lift_21 s_14 (by omega) (by decide) (if_pos (by omega)) ?_
    refine xb_cV (As := []) (rest := []) mlX9_167 (c_X2_lies (s_hp15 (by omega))) dX9_lift_22 (s_hp15 (by omega)) rfl rfl (Nat.le_of_ble_eq_true rfl) (by decide) (by decide) ?_
    refine xb_bne (tgt := 31) dX9_lift_25 rfl (fun c2 => ?_) (fun c2 => ?_)
    · refine xr_aload_n dX9_lift_31 0 rfl ?_
      refine xr_getR flX9_28 dX9_lift_32 s_0 rfl ?_
      refine xr_getR flX9_121 dX9_lift_35 s_13 rfl ?_
      refine xr_iload_n dX9_lift_38 1 rfl ?_
      refine xb_aald (j := h_) (q := 15 + h_) (by decide) dX9_lift_39 s_14 (by omega) (by decide) (if_pos (by omega)) ?_
      refine xr_callV (As := []) (rest := []) mlX9_170 (gw_X2_raise (s_hp15 (by omega))) dX9_lift_40 (s_hp15 (by omega)) rfl rfl (Nat.le_of_ble_eq_true rfl) (by decide) ⟨by decide, by decide⟩ (fun v s2 M4 J2 hq => ?_)
      obtain ⟨rfl, rfl, rfl, k5, hx3⟩ := hq
      try dsimp only [Option.toList, List.cons_append, List.nil_append]
      refine xr_iload_n dX9_lift_43 1 rfl ?_
      exact xr_iret dX9_lift_44 rfl rfl (⟨_, rfl, rfl, rfl, (Ke.tr (fun pp kk hh => by have h2 : pp = 15 + h_ := hh; unfold W15; omega) Ke.rf k5), ⟨⟨⟨nh, by omega, (Eq.trans (k5 13 2 (by omega)) e_cn)⟩, ⟨cm, by omega, (Eq.trans (k5 20 2 (by omega)) e_cm)⟩, ⟨L, by omega, (Eq.trans (k5 1 4 (by omega)) e_L)⟩, (fun kk hkk => by rw [show M4 3 kk = M 3 kk from (Eq.trans (k5 3 kk (by show ¬ _ = _; omega)) rfl)]; exact hv kk hkk), (DI_ke (by intro k; omega) k5 hD), ⟨n, by omega, (Eq.trans (k5 6 2 (by omega)) e_n)⟩, ⟨un, wn, by omega, by omega, (Eq.trans (k5 41 4 (by omega)) e_un), (Eq.trans (k5 41 5 (by omega)) e_wn)⟩, ⟨b, by omega, (Eq.trans (k5 46 2 (by omega)) e_b)⟩, (fun j hj => by obtain ⟨q, hq, eq⟩ := hkd j hj; exact ⟨q, hq, (show M4 47 j = M 47 j from (Eq.trans (k5 47 j (by show ¬ _ = _; omega)) rfl)).trans eq⟩), ⟨ra, by omega, (Eq.trans (k5 46 3 (by omega)) e_ra)⟩, (fun j hj => by obtain ⟨s, hs, es⟩ := hsl j hj; exact ⟨s, hs, (show M4 (50 + 2 * j) 3 = M (50 + 2 * j) 3 from (Eq.trans (k5 (50 + 2 * j) 3 (by show ¬ _ = _; omega)) rfl)).trans es⟩), (fun j hj => by obtain ⟨q, hq, eq⟩ := hS j hj; exact ⟨q, hq, (show M4 36 j = M 36 j from (Eq.trans (k5 36 j (by show ¬ _ = _; omega)) rfl)).trans eq⟩)⟩, (Or.inr ⟨h_, hh_, rfl, Or.inr ⟨(by rw [← hA h_ hh_ 4 (by decide)]; exact c2), rfl, ⟨(Eq.trans (k5 13 2 (by omega)) e_cn), (AbC_5 hA (fun j hj he k => (Eq.trans (k5 (15 + j) k (by show ¬ _ = _; omega)) rfl)) (fun j he => lfD_n he) (((hx3.1.trans rfl)).trans ((hA h_ hh_ 0 (by decide)).trans lfD_i.1.symm)) (((hx3.2.1.trans rfl)).trans ((hA h_ hh_ 1 (by decide)).trans lfD_i.2.1.symm)) ((hx3.2.2.1).trans lfD_i.2.2.1.symm) ((hx3.2.2.2.1).trans lfD_i.2.2.2.1.symm) ((hx3.2.2.2.2).trans lfD_i.2.2.2.2.symm) nh (fun j hj => Or.inl hj)), (LCt_k (Eq.trans (k5 1 4 (by show ¬ _ = _; omega)) rfl) (fun kl => (Eq.trans (k5 2 kl (by show ¬ _ = _; omega)) rfl)) (fun kl => (Eq.trans (k5 3 kl (by show ¬ _ = _; omega)) rfl)) hL), (Eq.trans (k5 13 3 (by omega)) e_nw), (Eq.trans (k5 13 4 (by omega)) e_rub), (Eq.trans (k5 13 5 (by omega)) e_bt), (Eq.trans (k5 13 6 (by omega)) e_ph), (Eq.trans (k5 13 7 (by omega)) e_st), (Eq.trans (k5 35 5 (by omega)) e_kn), (Eq.trans (k5 13 8 (by omega)) e_pu), (Eq.trans (k5 13 9 (by omega)) e_lf)⟩⟩⟩)⟩⟩)
    · refine xr_bipush (v := -5) dX9_lift_28 rfl ?_
      exact xr_iret dX9_lift_30 rfl rfl (⟨_, rfl, rfl, rfl, Ke.rf, ⟨⟨⟨nh, by omega, e_cn⟩, ⟨cm, by omega, e_cm⟩, ⟨L, by omega, e_L⟩, (fun kk hkk => by rw [show M 3 kk = M 3 kk from rfl]; exact hv kk hkk), hD, ⟨n, by omega, e_n⟩, ⟨un, wn, by omega, by omega, e_un, e_wn⟩, ⟨b, by omega, e_b⟩, (fun j hj => by obtain ⟨q, hq, eq⟩ := hkd j hj; exact ⟨q, hq, (show M 47 j = M 47 j from rfl).trans eq⟩), ⟨ra, by omega, e_ra⟩, (fun j hj => by obtain ⟨s, hs, es⟩ := hsl j hj; exact ⟨s, hs, (show M (50 + 2 * j) 3 = M (50 + 2 * j) 3 from rfl).trans es⟩), (fun j hj => by obtain ⟨q, hq, eq⟩ := hS j hj; exact ⟨q, hq, (show M 36 j = M 36 j from rfl).trans eq⟩)⟩, (Or.inr ⟨h_, hh_, rfl, Or.inl ⟨(by rw [← hA h_ hh_ 4 (by decide)]; exact c2), rfl, hG0⟩⟩)⟩⟩)
  · refine xr_iconst (v := -1) dX9_lift_11 rfl ?_
    exact xr_iret dX9_lift_12 rfl rfl (⟨_, rfl, rfl, rfl, Ke.rf, ⟨⟨⟨nh, by omega, e_cn⟩, ⟨cm, by omega, e_cm⟩, ⟨L, by omega, e_L⟩, (fun kk hkk => by rw [show M 3 kk = M 3 kk from rfl]; exact hv kk hkk), hD, ⟨n, by omega, e_n⟩, ⟨un, wn, by omega, by omega, e_un, e_wn⟩, ⟨b, by omega, e_b⟩, (fun j hj => by obtain ⟨q, hq, eq⟩ := hkd j hj; exact ⟨q, hq, (show M 47 j = M 47 j from rfl).trans eq⟩), ⟨ra, by omega, e_ra⟩, (fun j hj => by obtain ⟨s, hs, es⟩ := hsl j hj; exact ⟨s, hs, (show M (50 + 2 * j) 3 = M (50 + 2 * j) 3 from rfl).trans es⟩), (fun j hj => by obtain ⟨q, hq, eq⟩ := hS j hj; exact ⟨q, hq, (show M 36 j = M 36 j from rfl).trans eq⟩)⟩, (Or.inl ⟨c1, rfl, hG0⟩)⟩⟩)
set_option maxRecDepth 100000 in
set_option maxHeartbeats 4000000 in
theorem gx_X10_lift {nh : Nat} {D : xM} {t : Option zL} {S : Nat → Int32} (h : Int32) {l : Launch} {G : xG} {M : xM} {J : xJ} (hI : InvR M) (hWG : WG nh D S) (hG : RG M nh D t S) : x_M l G fX10_lift 2 0 0 [.ref (62), .int (h)] x_SH M J (qKI WLI M J (fun r M2 => InvR M2 ∧ (ELf RG nh D t S M2 h r))) := by
  refine xb_of pX10 (Nat.le_of_ble_eq_true rfl) rfl ?_
  obtain ⟨⟨hn, h_hn, e_hn, hw⟩, hbt, ⟨un, wn, h_uw, h_wn, e_un, e_wn⟩, hch, ⟨n, h_n, e_n⟩, htx, ⟨b, h_b, e_b⟩, hkd, ⟨ra, h_ra, e_ra⟩, hsl, ⟨ic, h_ic, e_ic⟩, hS⟩ := hI
  have hG0 := hG
  obtain ⟨hn5, hW, hrub, hbeat⟩ := hWG
  obtain ⟨hGn, hA, hL, e_nw, e_rub, e_bt, e_ph, e_st, e_kn, e_pu, e_lf⟩ := hG
  obtain rfl : nh = hn := (nI_eq (by omega) (by omega)).mp (hGn.symm.trans e_hn)
  have hbt2 : ¬ S 2 = 0 := ne2_0 hbeat.1
  refine xr_aload_n dX10_lift_0 0 rfl ?_
  refine xr_iload_n dX10_lift_1 1 rfl ?_
  refine xb_cV (As := [.int (h)]) (rest := []) mlX10_133 (c_X10_isHoop h (by omega) e_hn) dX10_lift_2 s_62 rfl rfl (Nat.le_of_ble_eq_true rfl) (by decide) (by decide) ?_
  refine xb_bne (tgt := 10) dX10_lift_5 rfl (fun c1 => ?_) (fun c1 => ?_)
  · obtain ⟨h_, hh_, rfl⟩ := x_nat (N := nh) (by omega) rfl c1
    refine xr_aload_n dX10_lift_10 0 rfl ?_
    refine xr_getR flX10_25 dX10_lift_11 s_62 rfl ?_
    refine xr_iload_n dX10_lift_14 1 rfl ?_
    refine xb_iald (j := h_) (v := M 68 h_) dX10_lift_15 s_68 (by omega) (by decide) rfl ?_
    refine xr_if_le (tgt := 22) dX10_lift_16 rfl (fun c2 => ?_) (fun c2 => ?_)
    · refine xr_aload_n dX10_lift_22 0 rfl ?_
      refine xr_getR flX10_25 dX10_lift_23 s_62 rfl ?_
      refine xr_iload_n dX10_lift_26 1 rfl ?_
      refine xr_bipush (v := 20) dX10_lift_27 rfl ?_
      refine xb_iast (j := h_) dX10_lift_29 s_68 (by omega) (by decide) ?_
      refine xr_aload_n dX10_lift_30 0 rfl ?_
      refine xr_getR flX10_22 dX10_lift_31 s_62 rfl ?_
      refine xr_iload_n dX10_lift_34 1 rfl ?_
      refine xr_iconst (v := 0) dX10_lift_35 rfl ?_
      refine xb_iast (j := h_) dX10_lift_36 s_67 (by omega) (by decide) ?_
      refine xr_aload_n dX10_lift_37 0 rfl ?_
      refine xr_getR flX10_9 dX10_lift_38 s_62 rfl ?_
      refine xr_bipush (v := 10) dX10_lift_41 rfl ?_
      refine xr_iload_n dX10_lift_43 1 rfl ?_
      refine xr_iadd dX10_lift_44 ?_
      refine xb_top (y := nI (10 + h_)) (nI_add (10) (h_)) ?_
      refine xr_iconst (v := 4) dX10_lift_45 rfl ?_
      refine xb_iast (j := 10 + h_) dX10_lift_46 s_63 (by omega) (by decide) ?_
      refine xr_iload_n dX10_lift_47 1 rfl ?_
      exact xr_iret dX10_lift_48 rfl rfl (⟨_, rfl, rfl, rfl, (Ke.up (Or.inl (by omega)) (Ke.up (Or.inr (by omega)) (Ke.up (Or.inr (by omega)) Ke.rf))), ⟨⟨⟨nh, by omega, (Eq.trans (congrFun (x_up_n _ _ _ (by decide)) _) (Eq.trans (congrFun (x_up_n _ _ _ (by decide)) _) (Eq.trans (congrFun (x_up_n _ _ _ (by decide)) _) e_hn))), (fun kw hkw => by rw [show (x_up (x_up (x_up M 68 h_ 20) 67 h_ 0) 63 (10 + h_) 4) 63 (5 + kw) = M 63 (5 + kw) from (Eq.trans (x_up_k _ _ _ (by omega)) (Eq.trans (congrFun (x_up_n _ _ _ (by omega)) _) (Eq.trans (congrFun (x_up_n _ _ _ (by omega)) _) rfl)))]; exact hw kw hkw)⟩, (by rw [show (x_up (x_up (x_up M 68 h_ 20) 67 h_ 0) 63 (10 + h_) 4) 63 16 = M 63 16 from (Eq.trans (x_up_k _ _ _ (by omega)) (Eq.trans (congrFun (x_up_n _ _ _ (by omega)) _) (Eq.trans (congrFun (x_up_n _ _ _ (by omega)) _) rfl)))]; exact hbt), ⟨un, wn, by omega, by omega, (Eq.trans (congrFun (x_up_n _ _ _ (by decide)) _) (Eq.trans (congrFun (x_up_n _ _ _ (by decide)) _) (Eq.trans (congrFun (x_up_n _ _ _ (by decide)) _) e_un))), (Eq.trans (congrFun (x_up_n _ _ _ (by decide)) _) (Eq.trans (congrFun (x_up_n _ _ _ (by decide)) _) (Eq.trans (congrFun (x_up_n _ _ _ (by decide)) _) e_wn)))⟩, (fun kk hkk => by rw [show (x_up (x_up (x_up M 68 h_ 20) 67 h_ 0) 63 (10 + h_) 4) 64 kk = M 64 kk from (Eq.trans (congrFun (x_up_n _ _ _ (by omega)) _) (Eq.trans (congrFun (x_up_n _ _ _ (by omega)) _) (Eq.trans (congrFun (x_up_n _ _ _ (by omega)) _) rfl))), show (x_up (x_up (x_up M 68 h_ 20) 67 h_ 0) 63 (10 + h_) 4) 65 kk = M 65 kk from (Eq.trans (congrFun (x_up_n _ _ _ (by omega)) _) (Eq.trans (congrFun (x_up_n _ _ _ (by omega)) _) (Eq.trans (congrFun (x_up_n _ _ _ (by omega)) _) rfl))), show (x_up (x_up (x_up M 68 h_ 20) 67 h_ 0) 63 (10 + h_) 4) 66 kk = M 66 kk from (Eq.trans (congrFun (x_up_n _ _ _ (by omega)) _) (Eq.trans (congrFun (x_up_n _ _ _ (by omega)) _) (Eq.trans (congrFun (x_up_n _ _ _ (by omega)) _) rfl)))]; exact hch kk hkk), ⟨n, by omega, (Eq.trans (congrFun (x_up_n _ _ _ (by decide)) _) (Eq.trans (congrFun (x_up_n _ _ _ (by decide)) _) (Eq.trans (congrFun (x_up_n _ _ _ (by decide)) _) e_n)))⟩, (by rw [show (x_up (x_up (x_up M 68 h_ 20) 67 h_ 0) 63 (10 + h_) 4) 62 13 = M 62 13 from (Eq.trans (congrFun (x_up_n _ _ _ (by omega)) _) (Eq.trans (congrFun (x_up_n _ _ _ (by omega)) _) (Eq.trans (congrFun (x_up_n _ _ _ (by omega)) _) rfl)))]; exact htx), ⟨b, by omega, (Eq.trans (congrFun (x_up_n _ _ _ (by decide)) _) (Eq.trans (congrFun (x_up_n _ _ _ (by decide)) _) (Eq.trans (congrFun (x_up_n _ _ _ (by decide)) _) e_b)))⟩, (fun j hj => by obtain ⟨q, hq, eq⟩ := hkd j hj; exact ⟨q, hq, (show (x_up (x_up (x_up M 68 h_ 20) 67 h_ 0) 63 (10 + h_) 4) 81 j = M 81 j from (Eq.trans (congrFun (x_up_n _ _ _ (by omega)) _) (Eq.trans (congrFun (x_up_n _ _ _ (by omega)) _) (Eq.trans (congrFun (x_up_n _ _ _ (by omega)) _) rfl)))).trans eq⟩), ⟨ra, by omega, (Eq.trans (congrFun (x_up_n _ _ _ (by decide)) _) (Eq.trans (congrFun (x_up_n _ _ _ (by decide)) _) (Eq.trans (congrFun (x_up_n _ _ _ (by decide)) _) e_ra)))⟩, (fun j hj => by rw [show (x_up (x_up (x_up M 68 h_ 20) 67 h_ 0) 63 (10 + h_) 4) 83 j = M 83 j from (Eq.trans (congrFun (x_up_n _ _ _ (by omega)) _) (Eq.trans (congrFun (x_up_n _ _ _ (by omega)) _) (Eq.trans (congrFun (x_up_n _ _ _ (by omega)) _) rfl))), show (x_up (x_up (x_up M 68 h_ 20) 67 h_ 0) 63 (10 + h_) 4) 84 j = M 84 j from (Eq.trans (congrFun (x_up_n _ _ _ (by omega)) _) (Eq.trans (congrFun (x_up_n _ _ _ (by omega)) _) (Eq.trans (congrFun (x_up_n _ _ _ (by omega)) _) rfl)))]; exact hsl j hj), ⟨ic, by omega, (Eq.trans (congrFun (x_up_n _ _ _ (by decide)) _) (Eq.trans (congrFun (x_up_n _ _ _ (by decide)) _) (Eq.trans (congrFun (x_up_n _ _ _ (by decide)) _) e_ic)))⟩, (fun j hj => by obtain ⟨q, hq, eq⟩ := hS j hj; exact ⟨q, hq, (show (x_up (x_up (x_up M 68 h_ 20) 67 h_ 0) 63 (10 + h_) 4) 75 j = M 75 j from (Eq.trans (congrFun (x_up_n _ _ _ (by omega)) _) (Eq.trans (congrFun (x_up_n _ _ _ (by omega)) _) (Eq.trans (congrFun (x_up_n _ _ _ (by omega)) _) rfl)))).trans eq⟩)⟩, (Or.inr ⟨h_, hh_, rfl, Or.inr ⟨(le0_eq hW hh_ (hA h_ hh_).2.2.2.2).mp c2, rfl, ⟨(Eq.trans (congrFun (x_up_n _ _ _ (by decide)) _) (Eq.trans (congrFun (x_up_n _ _ _ (by decide)) _) (Eq.trans (congrFun (x_up_n _ _ _ (by decide)) _) e_hn))), (AbS_5 hA (by omega) (fun k h1 h2 h3 => (up_k h3).trans ((up_n (by decide)).trans (up_n (by decide)))) (fun k he => (up_n (by decide)).trans ((up_k he).trans (up_n (by decide)))) (fun k he => (up_n (by decide)).trans ((up_n (by decide)).trans (up_k he))) (fun j he => lfD_n he) ((up_k (by omega)).trans ((up_n (by decide)).trans ((up_n (by decide)).trans ((hA h_ hh_).1.trans lfD_i.1.symm)))) ((up_k (by omega)).trans ((up_n (by decide)).trans ((up_n (by decide)).trans ((hA h_ hh_).2.1.trans lfD_i.2.1.symm)))) ((up_n (by decide)).trans (up_s.trans lfD_i.2.2.1.symm)) (up_s.trans lfD_i.2.2.2.1.symm) ((up_n (by decide)).trans ((up_n (by decide)).trans (up_s.trans lfD_i.2.2.2.2.symm))) (fun j hj => Or.inl hj) hn5), (LRt_k (Eq.trans (congrFun (x_up_n _ _ _ (by decide)) _) (Eq.trans (congrFun (x_up_n _ _ _ (by decide)) _) (Eq.trans (congrFun (x_up_n _ _ _ (by decide)) _) rfl))) (Eq.trans (x_up_n _ _ _ (by decide)) (Eq.trans (x_up_n _ _ _ (by decide)) (Eq.trans (x_up_n _ _ _ (by decide)) rfl))) hL), (Eq.trans (congrFun (x_up_n _ _ _ (by decide)) _) (Eq.trans (congrFun (x_up_n _ _ _ (by decide)) _) (Eq.trans (congrFun (x_up_n _ _ _ (by decide)) _) e_nw))), (((Eq.trans (x_up_k _ _ _ (by omega)) (Eq.trans (congrFun (x_up_n _ _ _ (by decide)) _) (Eq.trans (congrFun (x_up_n _ _ _ (by decide)) _) rfl)))).trans e_rub), (((Eq.trans (x_up_k _ _ _ (by omega)) (Eq.trans (congrFun (x_up_n _ _ _ (by decide)) _) (Eq.trans (congrFun (x_up_n _ _ _ (by decide)) _) rfl)))).trans e_bt), (((Eq.trans (x_up_k _ _ _ (by omega)) (Eq.trans (congrFun (x_up_n _ _ _ (by decide)) _) (Eq.trans (congrFun (x_up_n _ _ _ (by decide)) _) rfl)))).trans e_ph), (((Eq.trans (x_up_k _ _ _ (by omega)) (Eq.trans (congrFun (x_up_n _ _ _ (by decide)) _) (Eq.trans (congrFun (x_up_n _ _ _ (by decide)) _) rfl)))).trans e_st), (((Eq.trans (x_up_k _ _ _ (by omega)) (Eq.trans (congrFun (x_up_n _ _ _ (by decide)) _) (Eq.trans (congrFun (x_up_n _ _ _ (by decide)) _) rfl)))).trans e_kn), (Eq.trans (congrFun (x_up_n _ _ _ (by decide)) _) (Eq.trans (congrFun (x_up_n _ _ _ (by decide)) _) (Eq.trans (congrFun (x_up_n _ _ _ (by decide)) _) e_pu))), (Eq.trans (congrFun (x_up_n _ _ _ (by decide)) _) (Eq.trans (congrFun (x_up_n _ _ _ (by decide)) _) (Eq.trans (congrFun (x_up_n _ _ _ (by decide)) _) e_lf)))⟩⟩⟩)⟩⟩)
    · refine xr_bipush (v := -5) dX10_lift_19 rfl ?_
      exact xr_iret dX10_lift_21 rfl rfl (⟨_, rfl, rfl, rfl, Ke.rf, ⟨⟨⟨nh, by omega, e_hn, (fun kw hkw => by rw [show M 63 (5 + kw) = M 63 (5 + kw) from rfl]; exact hw kw hkw)⟩, (by rw [show M 63 16 = M 63 16 from rfl]; exact hbt), ⟨un, wn, by omega, by omega, e_un, e_wn⟩, (fun kk hkk => by rw [show M 64 kk = M 64 kk from rfl, show M 65 kk = M 65 kk from rfl, show M 66 kk = M 66 kk from rfl]; exact hch kk hkk), ⟨n, by omega, e_n⟩, (by rw [show M 62 13 = M 62 13 from rfl]; exact htx), ⟨b, by omega, e_b⟩, (fun j hj => by obtain ⟨q, hq, eq⟩ := hkd j hj; exact ⟨q, hq, (show M 81 j = M 81 j from rfl).trans eq⟩), ⟨ra, by omega, e_ra⟩, (fun j hj => by rw [show M 83 j = M 83 j from rfl, show M 84 j = M 84 j from rfl]; exact hsl j hj), ⟨ic, by omega, e_ic⟩, (fun j hj => by obtain ⟨q, hq, eq⟩ := hS j hj; exact ⟨q, hq, (show M 75 j = M 75 j from rfl).trans eq⟩)⟩, (Or.inr ⟨h_, hh_, rfl, Or.inl ⟨fun q => absurd ((le0_eq hW hh_ (hA h_ hh_).2.2.2.2).mpr q) c2, rfl, hG0⟩⟩)⟩⟩)
  · refine xr_iconst (v := -1) dX10_lift_8 rfl ?_
    exact xr_iret dX10_lift_9 rfl rfl (⟨_, rfl, rfl, rfl, Ke.rf, ⟨⟨⟨nh, by omega, e_hn, (fun kw hkw => by rw [show M 63 (5 + kw) = M 63 (5 + kw) from rfl]; exact hw kw hkw)⟩, (by rw [show M 63 16 = M 63 16 from rfl]; exact hbt), ⟨un, wn, by omega, by omega, e_un, e_wn⟩, (fun kk hkk => by rw [show M 64 kk = M 64 kk from rfl, show M 65 kk = M 65 kk from rfl, show M 66 kk = M 66 kk from rfl]; exact hch kk hkk), ⟨n, by omega, e_n⟩, (by rw [show M 62 13 = M 62 13 from rfl]; exact htx), ⟨b, by omega, e_b⟩, (fun j hj => by obtain ⟨q, hq, eq⟩ := hkd j hj; exact ⟨q, hq, (show M 81 j = M 81 j from rfl).trans eq⟩), ⟨ra, by omega, e_ra⟩, (fun j hj => by rw [show M 83 j = M 83 j from rfl, show M 84 j = M 84 j from rfl]; exact hsl j hj), ⟨ic, by omega, e_ic⟩, (fun j hj => by obtain ⟨q, hq, eq⟩ := hS j hj; exact ⟨q, hq, (show M 75 j = M 75 j from rfl).trans eq⟩)⟩, (Or.inl ⟨c1, rfl, hG0⟩)⟩⟩)
set_option maxRecDepth 100000 in
set_option maxHeartbeats 4000000 in
theorem gw_X5_addHoop (si he pa : Int32) {D : xM} {cn : Nat} (h_cn : cn < 5) {l : Launch} {G : xG} {M : xM} {J : xJ} (e_cn : M 13 2 = nI cn) (hA : AbC 15 cn M D) : x_M l G fX5_addHoop 1 0 0 [.ref (13), .int (si), .int (he), .int (pa)] x_SH M J (qKI WAH M J (fun r M2 => r = nI cn ∧ M2 13 2 = nI (cn + 1) ∧ AbC 15 (cn + 1) M2 (adD D cn si he pa))) := by
  refine xb_of pX5 (Nat.le_of_ble_eq_true rfl) rfl ?_
  refine xr_aload_n dX5_addHoop_0 0 rfl ?_
  refine xb_cV (As := []) (rest := []) mlX5_54 (c_X5_isFull (by omega) e_cn) dX5_addHoop_1 s_13 rfl rfl (Nat.le_of_ble_eq_true rfl) (by decide) (by decide) ?_
  refine xb_beq (tgt := 10) dX5_addHoop_4 rfl (fun c1 => ?_) (fun c1 => ?_)
  · refine xr_aload_n dX5_addHoop_10 0 rfl ?_
    refine xr_getR flX5_17 dX5_addHoop_11 s_13 rfl ?_
    refine xr_aload_n dX5_addHoop_14 0 rfl ?_
    refine xb_get (v := nI (cn)) flX5_35 dX5_addHoop_15 s_13 rfl e_cn ?_
    refine xb_aald (j := cn) (q := 15 + cn) (by decide) dX5_addHoop_18 s_14 h_cn (by decide) (if_pos (by omega)) ?_
    refine xr_astore (ls2 := [(4, .ref (15 + cn)), (0, .ref (13)), (1, .int (si)), (2, .int (he)), (3, .int (pa))]) dX5_addHoop_19 (by decide) rfl ?_
    refine xr_aload dX5_addHoop_21 0 rfl ?_
    refine xr_iload_n dX5_addHoop_23 2 rfl ?_
    refine xr_putI fpX5_58 dX5_addHoop_24 (s_hp15 (by omega)) rfl rfl rfl ?_
    refine xr_aload dX5_addHoop_27 0 rfl ?_
    refine xr_iload_n dX5_addHoop_29 3 rfl ?_
    refine xr_putI fpX5_61 dX5_addHoop_30 (s_hp15 (by omega)) rfl rfl rfl ?_
    refine xr_aload dX5_addHoop_33 0 rfl ?_
    refine xr_callV (As := []) (rest := []) mlX5_64 (gw_X2_raise (s_hp15 (by omega))) dX5_addHoop_35 (s_hp15 (by omega)) rfl rfl (Nat.le_of_ble_eq_true rfl) (by decide) ⟨by decide, by decide⟩ (fun v s2 M3 J2 hq => ?_)
    obtain ⟨rfl, rfl, rfl, k4, hx2⟩ := hq
    try dsimp only [Option.toList, List.cons_append, List.nil_append]
    refine xr_aload dX5_addHoop_38 0 rfl ?_
    refine xr_iload_n dX5_addHoop_40 4 rfl ?_
    refine xr_putI fpX5_67 dX5_addHoop_41 (s_hp15 (by omega)) rfl rfl rfl ?_
    refine xr_aload_n dX5_addHoop_44 1 rfl ?_
    refine xr_dup dX5_addHoop_45 rfl ?_
    refine xb_get (v := nI (cn)) flX5_35 dX5_addHoop_46 s_13 rfl (Eq.trans (congrFun (x_up_n _ _ _ (by omega)) _) (Eq.trans (k4 13 2 (by omega)) (Eq.trans (congrFun (x_up_n _ _ _ (by omega)) _) (Eq.trans (congrFun (x_up_n _ _ _ (by omega)) _) e_cn)))) ?_
    refine xr_iconst (v := 1) dX5_addHoop_49 rfl ?_
    refine xr_iadd dX5_addHoop_50 ?_
    refine xb_top (y := nI (cn + 1)) (nI_add (cn) (1)) ?_
    refine xr_putI fpX5_35 dX5_addHoop_51 s_13 rfl rfl rfl ?_
    refine xr_aload_n dX5_addHoop_54 1 rfl ?_
    refine xb_get (v := nI (cn + 1)) flX5_35 dX5_addHoop_55 s_13 rfl (x_up_s _ _ _ _) ?_
    refine xr_iconst (v := 1) dX5_addHoop_58 rfl ?_
    refine xr_isub dX5_addHoop_59 ?_
    refine xb_top (y := nI cn) (nI_pred cn) ?_
    exact xr_iret dX5_addHoop_60 rfl rfl (⟨_, rfl, rfl, rfl, (Ke.up (Or.inl (by omega)) (Ke.up (Or.inr (by omega)) (Ke.tr (fun pp kk hh => by have h2 : pp = 15 + cn := hh; unfold WAH; omega) (Ke.up (Or.inr (by omega)) (Ke.up (Or.inr (by omega)) Ke.rf)) k4))), ⟨rfl, (x_up_s _ _ _ _), AbC_5 hA (fun j hj he k => (Eq.trans (congrFun (x_up_n _ _ _ (by omega)) _) (Eq.trans (congrFun (x_up_n _ _ _ (by omega)) _) (Eq.trans (k4 (15 + j) k (by show ¬ _ = _; omega)) (Eq.trans (congrFun (x_up_n _ _ _ (by omega)) _) (Eq.trans (congrFun (x_up_n _ _ _ (by omega)) _) rfl)))))) (fun j he => adD_n he) (((Eq.trans (congrFun (x_up_n _ _ _ (by omega)) _) (Eq.trans (x_up_k _ _ _ (by decide)) (hx2.1.trans (Eq.trans (x_up_k _ _ _ (by decide)) (x_up_s _ _ _ _)))))).trans adD_i.1.symm) (((Eq.trans (congrFun (x_up_n _ _ _ (by omega)) _) (Eq.trans (x_up_k _ _ _ (by decide)) (hx2.2.1.trans (x_up_s _ _ _ _))))).trans adD_i.2.1.symm) (((Eq.trans (congrFun (x_up_n _ _ _ (by omega)) _) (Eq.trans (x_up_k _ _ _ (by decide)) hx2.2.2.1))).trans adD_i.2.2.1.symm) (((Eq.trans (congrFun (x_up_n _ _ _ (by omega)) _) (x_up_s _ _ _ _))).trans adD_i.2.2.2.1.symm) (((Eq.trans (congrFun (x_up_n _ _ _ (by omega)) _) (Eq.trans (x_up_k _ _ _ (by decide)) hx2.2.2.2.2))).trans adD_i.2.2.2.2.symm) (cn + 1) (fun j hj => by omega)⟩⟩)
  · exact absurd h_cn (by omega)
set_option maxRecDepth 100000 in
set_option maxHeartbeats 4000000 in
theorem gx_X9_hoop {nh : Nat} {D : xM} {t : Option zL} {S : Nat → Int32} (sh : Int32) {l : Launch} {G : xG} {M : xM} {J : xJ} (hI : InvC M) (hWG : WG nh D S) (hG : CG M nh D t S) : x_M l G fX9_hoop 2 0 0 [.ref (0), .int (sh)] x_SH M J (qKI WAH M J (fun r M2 => InvC M2 ∧ (EHp CG nh D t S M2 sh r))) := by
  refine xb_of pX9 (Nat.le_of_ble_eq_true rfl) rfl ?_
  obtain ⟨⟨cn, h_cn, e_cn⟩, ⟨cm, h_cm, e_cm⟩, ⟨L, h_L, e_L⟩, hv, hD, ⟨n, h_n, e_n⟩, ⟨un, wn, h_uw, h_wn, e_un, e_wn⟩, ⟨b, h_b, e_b⟩, hkd, ⟨ra, h_ra, e_ra⟩, hsl, hS⟩ := hI
  have hG0 := hG
  obtain ⟨hn5, hW, hrub, hbeat⟩ := hWG
  obtain ⟨hGn, hA, hL, e_nw, e_rub, e_bt, e_ph, e_st, e_kn, e_pu, e_lf⟩ := hG
  obtain rfl : nh = cn := (nI_eq (by omega) (by omega)).mp (hGn.symm.trans e_cn)
  have hbt : ¬ S 2 = 0 := ne2_0 hbeat.1
  refine xr_iload_n dX9_hoop_0 1 rfl ?_
  refine xr_if_lt (tgt := 24) dX9_hoop_1 rfl (fun c1 => ?_) (fun c1 => ?_)
  · refine xr_iconst (v := -1) dX9_hoop_24 rfl ?_
    exact xr_iret dX9_hoop_25 rfl rfl (⟨_, rfl, rfl, rfl, Ke.rf, ⟨⟨⟨nh, by omega, e_cn⟩, ⟨cm, by omega, e_cm⟩, ⟨L, by omega, e_L⟩, (fun kk hkk => by rw [show M 3 kk = M 3 kk from rfl]; exact hv kk hkk), hD, ⟨n, by omega, e_n⟩, ⟨un, wn, by omega, by omega, e_un, e_wn⟩, ⟨b, by omega, e_b⟩, (fun j hj => by obtain ⟨q, hq, eq⟩ := hkd j hj; exact ⟨q, hq, (show M 47 j = M 47 j from rfl).trans eq⟩), ⟨ra, by omega, e_ra⟩, (fun j hj => by obtain ⟨s, hs, es⟩ := hsl j hj; exact ⟨s, hs, (show M (50 + 2 * j) 3 = M (50 + 2 * j) 3 from rfl).trans es⟩), (fun j hj => by obtain ⟨q, hq, eq⟩ := hS j hj; exact ⟨q, hq, (show M 36 j = M 36 j from rfl).trans eq⟩)⟩, (Or.inl ⟨(fun q => absurd q.1 (by grind)), rfl, hG0⟩)⟩⟩)
  · refine xr_iload_n dX9_hoop_4 1 rfl ?_
    refine xr_bipush (v := 10) dX9_hoop_5 rfl ?_
    refine xr_idiv dX9_hoop_7 (by decide) ?_
    refine xb_cS (As := [.int ((sh / 10))]) (rest := []) mlX9_76 (c_X9_isWeight (sh / 10)) dX9_hoop_8 rfl rfl (Nat.le_of_ble_eq_true rfl) (by decide) (by decide) ?_
    refine xb_beq (tgt := 24) dX9_hoop_11 rfl (fun c2 => ?_) (fun c2 => ?_)
    · refine xr_iconst (v := -1) dX9_hoop_24 rfl ?_
      exact xr_iret dX9_hoop_25 rfl rfl (⟨_, rfl, rfl, rfl, Ke.rf, ⟨⟨⟨nh, by omega, e_cn⟩, ⟨cm, by omega, e_cm⟩, ⟨L, by omega, e_L⟩, (fun kk hkk => by rw [show M 3 kk = M 3 kk from rfl]; exact hv kk hkk), hD, ⟨n, by omega, e_n⟩, ⟨un, wn, by omega, by omega, e_un, e_wn⟩, ⟨b, by omega, e_b⟩, (fun j hj => by obtain ⟨q, hq, eq⟩ := hkd j hj; exact ⟨q, hq, (show M 47 j = M 47 j from rfl).trans eq⟩), ⟨ra, by omega, e_ra⟩, (fun j hj => by obtain ⟨s, hs, es⟩ := hsl j hj; exact ⟨s, hs, (show M (50 + 2 * j) 3 = M (50 + 2 * j) 3 from rfl).trans es⟩), (fun j hj => by obtain ⟨q, hq, eq⟩ := hS j hj; exact ⟨q, hq, (show M 36 j = M 36 j from rfl).trans eq⟩)⟩, (Or.inl ⟨(fun q => c2 q.2.1), rfl, hG0⟩)⟩⟩)
    · refine xr_iload_n dX9_hoop_14 1 rfl ?_
      refine xr_bipush (v := 10) dX9_hoop_15 rfl ?_
      refine xr_irem dX9_hoop_17 (by decide) ?_
      refine xb_cS (As := [.int ((sh - sh / 10 * 10))]) (rest := []) mlX9_76 (c_X9_isWeight (sh - sh / 10 * 10)) dX9_hoop_18 rfl rfl (Nat.le_of_ble_eq_true rfl) (by decide) (by decide) ?_
      refine xb_bne (tgt := 26) dX9_hoop_21 rfl (fun c3 => ?_) (fun c3 => ?_)
      · refine xr_aload_n dX9_hoop_26 0 rfl ?_
        refine xr_getR flX9_28 dX9_hoop_27 s_0 rfl ?_
        refine xb_cV (As := []) (rest := []) mlX9_80 (c_X5_isFull (by omega) e_cn) dX9_hoop_30 s_13 rfl rfl (Nat.le_of_ble_eq_true rfl) (by decide) (by decide) ?_
        refine xb_beq (tgt := 39) dX9_hoop_33 rfl (fun c4 => ?_) (fun c4 => ?_)
        · refine xr_aload_n dX9_hoop_39 0 rfl ?_
          refine xr_getR flX9_28 dX9_hoop_40 s_0 rfl ?_
          refine xr_iload_n dX9_hoop_43 1 rfl ?_
          refine xr_bipush (v := 10) dX9_hoop_44 rfl ?_
          refine xr_idiv dX9_hoop_46 (by decide) ?_
          refine xr_iload_n dX9_hoop_47 1 rfl ?_
          refine xr_bipush (v := 10) dX9_hoop_48 rfl ?_
          refine xr_irem dX9_hoop_50 (by decide) ?_
          refine xr_iconst (v := 4) dX9_hoop_51 rfl ?_
          have hc5 : nh < 5 := by omega
          refine xr_callV (As := [.int ((sh / 10)), .int ((sh - sh / 10 * 10)), .int (4)]) (rest := []) mlX9_84 (gw_X5_addHoop (sh / 10) (sh - sh / 10 * 10) 4 (D := D) hc5 e_cn hA) dX9_hoop_52 s_13 rfl rfl (Nat.le_of_ble_eq_true rfl) (by decide) ⟨by decide, by decide⟩ (fun v s2 M6 J2 hq => ?_)
          obtain ⟨r8, rfl, rfl, rfl, k7, hx5⟩ := hq
          try dsimp only [Option.toList, List.cons_append, List.nil_append]
          obtain ⟨rfl, hc2, hA2⟩ := hx5
          exact xr_iret dX9_hoop_55 rfl rfl (⟨_, rfl, rfl, rfl, (Ke.tr (fun _ _ h => h) Ke.rf k7), ⟨⟨⟨nh + 1, by omega, hc2⟩, ⟨cm, by omega, (Eq.trans (k7 20 2 (by decide)) e_cm)⟩, ⟨L, by omega, (Eq.trans (k7 1 4 (by decide)) e_L)⟩, (fun kk hkk => by rw [show M6 3 kk = M 3 kk from (Eq.trans (k7 3 kk (by unfold WAH; omega)) rfl)]; exact hv kk hkk), (DI_ke (by intro k; unfold WAH; omega) k7 hD), ⟨n, by omega, (Eq.trans (k7 6 2 (by decide)) e_n)⟩, ⟨un, wn, by omega, by omega, (Eq.trans (k7 41 4 (by decide)) e_un), (Eq.trans (k7 41 5 (by decide)) e_wn)⟩, ⟨b, by omega, (Eq.trans (k7 46 2 (by decide)) e_b)⟩, (fun j hj => by obtain ⟨q, hq, eq⟩ := hkd j hj; exact ⟨q, hq, (show M6 47 j = M 47 j from (Eq.trans (k7 47 j (by unfold WAH; omega)) rfl)).trans eq⟩), ⟨ra, by omega, (Eq.trans (k7 46 3 (by decide)) e_ra)⟩, (fun j hj => by obtain ⟨s, hs, es⟩ := hsl j hj; exact ⟨s, hs, (show M6 (50 + 2 * j) 3 = M (50 + 2 * j) 3 from (Eq.trans (k7 (50 + 2 * j) 3 (by unfold WAH; omega)) rfl)).trans es⟩), (fun j hj => by obtain ⟨q, hq, eq⟩ := hS j hj; exact ⟨q, hq, (show M6 36 j = M 36 j from (Eq.trans (k7 36 j (by unfold WAH; omega)) rfl)).trans eq⟩)⟩, (Or.inr ⟨⟨by grind, c2, c3⟩, Or.inr ⟨hc5, rfl, ⟨hc2, hA2, (LCt_k (Eq.trans (k7 1 4 (by unfold WAH; omega)) rfl) (fun kl => (Eq.trans (k7 2 kl (by unfold WAH; omega)) rfl)) (fun kl => (Eq.trans (k7 3 kl (by unfold WAH; omega)) rfl)) hL), (Eq.trans (k7 13 3 (by decide)) e_nw), (Eq.trans (k7 13 4 (by decide)) e_rub), (Eq.trans (k7 13 5 (by decide)) e_bt), (Eq.trans (k7 13 6 (by decide)) e_ph), (Eq.trans (k7 13 7 (by decide)) e_st), (Eq.trans (k7 35 5 (by decide)) e_kn), (Eq.trans (k7 13 8 (by decide)) e_pu), (Eq.trans (k7 13 9 (by decide)) e_lf)⟩⟩⟩)⟩⟩)
        · refine xr_bipush (v := -3) dX9_hoop_36 rfl ?_
          exact xr_iret dX9_hoop_38 rfl rfl (⟨_, rfl, rfl, rfl, Ke.rf, ⟨⟨⟨nh, by omega, e_cn⟩, ⟨cm, by omega, e_cm⟩, ⟨L, by omega, e_L⟩, (fun kk hkk => by rw [show M 3 kk = M 3 kk from rfl]; exact hv kk hkk), hD, ⟨n, by omega, e_n⟩, ⟨un, wn, by omega, by omega, e_un, e_wn⟩, ⟨b, by omega, e_b⟩, (fun j hj => by obtain ⟨q, hq, eq⟩ := hkd j hj; exact ⟨q, hq, (show M 47 j = M 47 j from rfl).trans eq⟩), ⟨ra, by omega, e_ra⟩, (fun j hj => by obtain ⟨s, hs, es⟩ := hsl j hj; exact ⟨s, hs, (show M (50 + 2 * j) 3 = M (50 + 2 * j) 3 from rfl).trans es⟩), (fun j hj => by obtain ⟨q, hq, eq⟩ := hS j hj; exact ⟨q, hq, (show M 36 j = M 36 j from rfl).trans eq⟩)⟩, (Or.inr ⟨⟨by grind, c2, c3⟩, Or.inl ⟨by omega, rfl, hG0⟩⟩)⟩⟩)
      · refine xr_iconst (v := -1) dX9_hoop_24 rfl ?_
        exact xr_iret dX9_hoop_25 rfl rfl (⟨_, rfl, rfl, rfl, Ke.rf, ⟨⟨⟨nh, by omega, e_cn⟩, ⟨cm, by omega, e_cm⟩, ⟨L, by omega, e_L⟩, (fun kk hkk => by rw [show M 3 kk = M 3 kk from rfl]; exact hv kk hkk), hD, ⟨n, by omega, e_n⟩, ⟨un, wn, by omega, by omega, e_un, e_wn⟩, ⟨b, by omega, e_b⟩, (fun j hj => by obtain ⟨q, hq, eq⟩ := hkd j hj; exact ⟨q, hq, (show M 47 j = M 47 j from rfl).trans eq⟩), ⟨ra, by omega, e_ra⟩, (fun j hj => by obtain ⟨s, hs, es⟩ := hsl j hj; exact ⟨s, hs, (show M (50 + 2 * j) 3 = M (50 + 2 * j) 3 from rfl).trans es⟩), (fun j hj => by obtain ⟨q, hq, eq⟩ := hS j hj; exact ⟨q, hq, (show M 36 j = M 36 j from rfl).trans eq⟩)⟩, (Or.inl ⟨(fun q => c3 q.2.2), rfl, hG0⟩)⟩⟩)
theorem AbS_ad {n : Nat} {M D : xM} {s h p z : Int32} (hn : n < 5) (hA : AbS n M D) : AbS (n + 1) (x_up (x_up (x_up (x_up (x_up (x_up M 63 n s) 63 (5 + n) h) 63 (10 + n) p) 67 n 0) 68 n 20) 62 6 z) (adD D n s h p) := by
  refine AbS_5 hA hn (fun k h1 h2 h3 => ?_) (fun k he => ?_) (fun k he => ?_) (fun j he => adD_n he) ?_ ?_ ?_ ?_ ?_ (fun j hj => by omega) (by omega)
  · rw [up_n (by decide), up_n (by decide), up_n (by decide), up_k h3, up_k h2, up_k h1]
  · rw [up_n (by decide), up_n (by decide), up_k he, up_n (by decide), up_n (by decide), up_n (by decide)]
  · rw [up_n (by decide), up_k he, up_n (by decide), up_n (by decide), up_n (by decide), up_n (by decide)]
  · rw [up_n (by decide), up_n (by decide), up_n (by decide), up_k (by omega), up_k (by omega), up_s]; exact adD_i.1.symm
  · rw [up_n (by decide), up_n (by decide), up_n (by decide), up_k (by omega), up_s]; exact adD_i.2.1.symm
  · rw [up_n (by decide), up_n (by decide), up_s]; exact adD_i.2.2.1.symm
  · rw [up_n (by decide), up_n (by decide), up_n (by decide), up_s]; exact adD_i.2.2.2.1.symm
  · rw [up_n (by decide), up_s]; exact adD_i.2.2.2.2.symm
set_option maxRecDepth 100000 in
set_option maxHeartbeats 4000000 in
theorem gw_X10_adds (si he pa : Int32) {D : xM} {l : Launch} {G : xG} {M : xM} {J : xJ} {hn : Nat} (h_hn : hn < 5) (e_hn : M 62 6 = nI hn) (hv0 : he ≠ 0) (hw : ∀ k, k < hn → M 63 (5 + k) ≠ 0) (hbt : M 63 16 ≠ 0) (hA : AbS hn M D) : x_M l G fX10_adds 0 0 0 [.ref (62), .int (si), .int (he), .int (pa)] x_SH M J (qKV WAD M J (fun M2 => M2 62 6 = nI (hn + 1) ∧ (∀ k, k < hn + 1 → M2 63 (5 + k) ≠ 0) ∧ M2 63 16 ≠ 0 ∧ AbS (hn + 1) M2 (adD D hn si he pa) ∧ ∀ k, 15 ≤ k → M2 63 k = M 63 k)) := by
  refine xb_of pX10 (Nat.le_of_ble_eq_true rfl) rfl ?_
  refine xr_aload_n dX10_adds_0 0 rfl ?_
  refine xr_getR flX10_9 dX10_adds_1 s_62 rfl ?_
  refine xr_aload_n dX10_adds_4 0 rfl ?_
  refine xb_get (v := nI (hn)) flX10_109 dX10_adds_5 s_62 rfl e_hn ?_
  refine xr_iload_n dX10_adds_8 1 rfl ?_
  refine xb_iast (j := hn) dX10_adds_9 s_63 (by omega) (by decide) ?_
  refine xr_aload_n dX10_adds_10 0 rfl ?_
  refine xr_getR flX10_9 dX10_adds_11 s_62 rfl ?_
  refine xr_iconst (v := 5) dX10_adds_14 rfl ?_
  refine xr_aload_n dX10_adds_15 0 rfl ?_
  refine xb_get (v := nI (hn)) flX10_109 dX10_adds_16 s_62 rfl (Eq.trans (congrFun (x_up_n _ _ _ (by decide)) _) e_hn) ?_
  refine xr_iadd dX10_adds_19 ?_
  refine xb_top (y := nI (5 + hn)) (nI_add (5) (hn)) ?_
  refine xr_iload_n dX10_adds_20 2 rfl ?_
  refine xb_iast (j := 5 + hn) dX10_adds_21 s_63 (by omega) (by decide) ?_
  refine xr_aload_n dX10_adds_22 0 rfl ?_
  refine xr_getR flX10_9 dX10_adds_23 s_62 rfl ?_
  refine xr_bipush (v := 10) dX10_adds_26 rfl ?_
  refine xr_aload_n dX10_adds_28 0 rfl ?_
  refine xb_get (v := nI (hn)) flX10_109 dX10_adds_29 s_62 rfl (Eq.trans (congrFun (x_up_n _ _ _ (by decide)) _) (Eq.trans (congrFun (x_up_n _ _ _ (by decide)) _) e_hn)) ?_
  refine xr_iadd dX10_adds_32 ?_
  refine xb_top (y := nI (10 + hn)) (nI_add (10) (hn)) ?_
  refine xr_iload_n dX10_adds_33 3 rfl ?_
  refine xb_iast (j := 10 + hn) dX10_adds_34 s_63 (by omega) (by decide) ?_
  refine xr_aload_n dX10_adds_35 0 rfl ?_
  refine xr_getR flX10_22 dX10_adds_36 s_62 rfl ?_
  refine xr_aload_n dX10_adds_39 0 rfl ?_
  refine xb_get (v := nI (hn)) flX10_109 dX10_adds_40 s_62 rfl (Eq.trans (congrFun (x_up_n _ _ _ (by decide)) _) (Eq.trans (congrFun (x_up_n _ _ _ (by decide)) _) (Eq.trans (congrFun (x_up_n _ _ _ (by decide)) _) e_hn))) ?_
  refine xr_iconst (v := 0) dX10_adds_43 rfl ?_
  refine xb_iast (j := hn) dX10_adds_44 s_67 (by omega) (by decide) ?_
  refine xr_aload_n dX10_adds_45 0 rfl ?_
  refine xr_getR flX10_25 dX10_adds_46 s_62 rfl ?_
  refine xr_aload_n dX10_adds_49 0 rfl ?_
  refine xb_get (v := nI (hn)) flX10_109 dX10_adds_50 s_62 rfl (Eq.trans (congrFun (x_up_n _ _ _ (by decide)) _) (Eq.trans (congrFun (x_up_n _ _ _ (by decide)) _) (Eq.trans (congrFun (x_up_n _ _ _ (by decide)) _) (Eq.trans (congrFun (x_up_n _ _ _ (by decide)) _) e_hn)))) ?_
  refine xr_bipush (v := 20) dX10_adds_53 rfl ?_
  refine xb_iast (j := hn) dX10_adds_55 s_68 (by omega) (by decide) ?_
  refine xr_aload_n dX10_adds_56 0 rfl ?_
  refine xr_dup dX10_adds_57 rfl ?_
  refine xb_get (v := nI (hn)) flX10_109 dX10_adds_58 s_62 rfl (Eq.trans (congrFun (x_up_n _ _ _ (by decide)) _) (Eq.trans (congrFun (x_up_n _ _ _ (by decide)) _) (Eq.trans (congrFun (x_up_n _ _ _ (by decide)) _) (Eq.trans (congrFun (x_up_n _ _ _ (by decide)) _) (Eq.trans (congrFun (x_up_n _ _ _ (by decide)) _) e_hn))))) ?_
  refine xr_iconst (v := 1) dX10_adds_61 rfl ?_
  refine xr_iadd dX10_adds_62 ?_
  refine xb_top (y := nI (hn + 1)) (nI_add (hn) (1)) ?_
  refine xr_putI fpX10_109 dX10_adds_63 s_62 rfl rfl rfl ?_
  exact xr_vret dX10_adds_66 rfl (⟨rfl, rfl, rfl, (Ke.up (Or.inl (by omega)) (Ke.up (Or.inr (Or.inr (by omega))) (Ke.up (Or.inr (Or.inr (by omega))) (Ke.up (Or.inr (Or.inl (by omega))) (Ke.up (Or.inr (Or.inl (by omega))) (Ke.up (Or.inr (Or.inl (by omega))) Ke.rf)))))), ⟨(x_up_s _ _ _ _), ad_w h_hn hv0 hw, ad_b h_hn hbt, AbS_ad h_hn hA, fun k hk => (up_n (by decide)).trans ((up_n (by decide)).trans ((up_n (by decide)).trans ((up_k (by omega)).trans ((up_k (by omega)).trans (up_k (by omega))))))⟩⟩)
set_option maxRecDepth 100000 in
set_option maxHeartbeats 4000000 in
theorem gx_X10_hoop {nh : Nat} {D : xM} {t : Option zL} {S : Nat → Int32} (sh : Int32) {l : Launch} {G : xG} {M : xM} {J : xJ} (hI : InvR M) (hWG : WG nh D S) (hG : RG M nh D t S) : x_M l G fX10_hoop 2 0 0 [.ref (62), .int (sh)] x_SH M J (qKI WAD M J (fun r M2 => InvR M2 ∧ (EHp RG nh D t S M2 sh r))) := by
  refine xb_of pX10 (Nat.le_of_ble_eq_true rfl) rfl ?_
  obtain ⟨⟨hn, h_hn, e_hn, hw⟩, hbt, ⟨un, wn, h_uw, h_wn, e_un, e_wn⟩, hch, ⟨n, h_n, e_n⟩, htx, ⟨b, h_b, e_b⟩, hkd, ⟨ra, h_ra, e_ra⟩, hsl, ⟨ic, h_ic, e_ic⟩, hS⟩ := hI
  have hG0 := hG
  obtain ⟨hn5, hW, hrub, hbeat⟩ := hWG
  obtain ⟨hGn, hA, hL, e_nw, e_rub, e_bt, e_ph, e_st, e_kn, e_pu, e_lf⟩ := hG
  obtain rfl : nh = hn := (nI_eq (by omega) (by omega)).mp (hGn.symm.trans e_hn)
  have hbt2 : ¬ S 2 = 0 := ne2_0 hbeat.1
  refine xr_iload_n dX10_hoop_0 1 rfl ?_
  refine xr_if_lt (tgt := 23) dX10_hoop_1 rfl (fun c1 => ?_) (fun c1 => ?_)
  · refine xr_iconst (v := -1) dX10_hoop_23 rfl ?_
    exact xr_iret dX10_hoop_24 rfl rfl (⟨_, rfl, rfl, rfl, Ke.rf, ⟨⟨⟨nh, by omega, e_hn, (fun kw hkw => by rw [show M 63 (5 + kw) = M 63 (5 + kw) from rfl]; exact hw kw hkw)⟩, (by rw [show M 63 16 = M 63 16 from rfl]; exact hbt), ⟨un, wn, by omega, by omega, e_un, e_wn⟩, (fun kk hkk => by rw [show M 64 kk = M 64 kk from rfl, show M 65 kk = M 65 kk from rfl, show M 66 kk = M 66 kk from rfl]; exact hch kk hkk), ⟨n, by omega, e_n⟩, (by rw [show M 62 13 = M 62 13 from rfl]; exact htx), ⟨b, by omega, e_b⟩, (fun j hj => by obtain ⟨q, hq, eq⟩ := hkd j hj; exact ⟨q, hq, (show M 81 j = M 81 j from rfl).trans eq⟩), ⟨ra, by omega, e_ra⟩, (fun j hj => by rw [show M 83 j = M 83 j from rfl, show M 84 j = M 84 j from rfl]; exact hsl j hj), ⟨ic, by omega, e_ic⟩, (fun j hj => by obtain ⟨q, hq, eq⟩ := hS j hj; exact ⟨q, hq, (show M 75 j = M 75 j from rfl).trans eq⟩)⟩, (Or.inl ⟨fun q => absurd q.1 (by grind), rfl, hG0⟩)⟩⟩)
  · refine xr_iload_n dX10_hoop_4 1 rfl ?_
    refine xr_bipush (v := 10) dX10_hoop_5 rfl ?_
    refine xr_idiv dX10_hoop_7 (by decide) ?_
    refine xr_i2l dX10_hoop_8 ?_
    refine xr_iload_n dX10_hoop_9 1 rfl ?_
    refine xr_bipush (v := 10) dX10_hoop_10 rfl ?_
    refine xr_irem dX10_hoop_12 (by decide) ?_
    refine xr_i2l dX10_hoop_13 ?_
    refine xr_ldc2 coX10_116 dX10_hoop_14 ?_
    refine xr_callS (As := [.long (((sh / 10)).toInt64), .long (((sh - sh / 10 * 10)).toInt64), .long (4)]) (rest := []) mlX10_118 (gs_X10_isOne (((sh / 10)).toInt64) (((sh - sh / 10 * 10)).toInt64) 4) dX10_hoop_17 rfl rfl (Nat.le_of_ble_eq_true rfl) (by decide) ⟨by decide, by decide⟩ (fun v s2 M9 J2 hq => ?_)
    obtain ⟨r3, rfl, rfl, rfl, rfl, hx2⟩ := hq
    try dsimp only [Option.toList, List.cons_append, List.nil_append]
    refine xr_if_ne (tgt := 25) dX10_hoop_20 rfl (fun c4 => ?_) (fun c4 => ?_)
    · refine xr_aload_n dX10_hoop_25 0 rfl ?_
      refine xb_get (v := nI (nh)) flX10_109 dX10_hoop_26 s_62 rfl e_hn ?_
      refine xr_iconst (v := 5) dX10_hoop_29 rfl ?_
      refine xr_icmp_ne (tgt := 36) dX10_hoop_30 rfl (fun c5 => ?_) (fun c5 => ?_)
      · have nc5 : ¬ (nh = 5) := fun q => c5 ((nI_eq (a := nh) (b := 5) (by omega) (by omega)).mpr q)
        have h5 : nh < 5 := by
          have h6 : nh ≠ 5 := fun q => c5 (by rw [q]; rfl)
          omega
        refine xr_aload_n dX10_hoop_36 0 rfl ?_
        refine xr_iload_n dX10_hoop_37 1 rfl ?_
        refine xr_bipush (v := 10) dX10_hoop_38 rfl ?_
        refine xr_idiv dX10_hoop_40 (by decide) ?_
        refine xr_iload_n dX10_hoop_41 1 rfl ?_
        refine xr_bipush (v := 10) dX10_hoop_42 rfl ?_
        refine xr_irem dX10_hoop_44 (by decide) ?_
        refine xr_iconst (v := 4) dX10_hoop_45 rfl ?_
        refine xr_callV (As := [.int ((sh / 10)), .int ((sh - sh / 10 * 10)), .int (4)]) (rest := []) mlX10_121 (gw_X10_adds (sh / 10) (sh - sh / 10 * 10) 4 (D := D) (by omega) e_hn (sx_n0 (one_y hx2 c4).2.1) (fun kw hkw => by rw [show M 63 (5 + kw) = M 63 (5 + kw) from rfl]; exact hw kw hkw) (by rw [show M 63 16 = M 63 16 from rfl]; exact hbt) hA) dX10_hoop_46 s_62 rfl rfl (Nat.le_of_ble_eq_true rfl) (by decide) ⟨by decide, by decide⟩ (fun v s2 M7 J2 hq => ?_)
        obtain ⟨rfl, rfl, rfl, k8, hx6⟩ := hq
        try dsimp only [Option.toList, List.cons_append, List.nil_append]
        refine xr_aload_n dX10_hoop_49 0 rfl ?_
        refine xb_get (v := nI (nh + 1)) flX10_109 dX10_hoop_50 s_62 rfl hx6.1 ?_
        refine xr_iconst (v := 1) dX10_hoop_53 rfl ?_
        refine xr_isub dX10_hoop_54 ?_
        refine xb_top (y := nI nh) (nI_pred nh) ?_
        exact xr_iret dX10_hoop_55 rfl rfl (⟨_, rfl, rfl, rfl, (Ke.tr (fun _ _ h => h) Ke.rf k8), ⟨⟨⟨nh + 1, by omega, hx6.1, hx6.2.1⟩, hx6.2.2.1, ⟨un, wn, by omega, by omega, (Eq.trans (k8 62 5 (by decide)) e_un), (Eq.trans (k8 62 4 (by decide)) e_wn)⟩, (fun kk hkk => by rw [show M7 64 kk = M 64 kk from (Eq.trans (k8 64 kk (by unfold WAD; omega)) rfl), show M7 65 kk = M 65 kk from (Eq.trans (k8 65 kk (by unfold WAD; omega)) rfl), show M7 66 kk = M 66 kk from (Eq.trans (k8 66 kk (by unfold WAD; omega)) rfl)]; exact hch kk hkk), ⟨n, by omega, (Eq.trans (k8 62 11 (by decide)) e_n)⟩, (by rw [show M7 62 13 = M 62 13 from (Eq.trans (k8 62 13 (by unfold WAD; omega)) rfl)]; exact htx), ⟨b, by omega, (Eq.trans (k8 62 36 (by decide)) e_b)⟩, (fun j hj => by obtain ⟨q, hq, eq⟩ := hkd j hj; exact ⟨q, hq, (show M7 81 j = M 81 j from (Eq.trans (k8 81 j (by unfold WAD; omega)) rfl)).trans eq⟩), ⟨ra, by omega, (Eq.trans (k8 62 39 (by decide)) e_ra)⟩, (fun j hj => by rw [show M7 83 j = M 83 j from (Eq.trans (k8 83 j (by unfold WAD; omega)) rfl), show M7 84 j = M 84 j from (Eq.trans (k8 84 j (by unfold WAD; omega)) rfl)]; exact hsl j hj), ⟨ic, by omega, (Eq.trans (k8 62 34 (by decide)) e_ic)⟩, (fun j hj => by obtain ⟨q, hq, eq⟩ := hS j hj; exact ⟨q, hq, (show M7 75 j = M 75 j from (Eq.trans (k8 75 j (by unfold WAD; omega)) rfl)).trans eq⟩)⟩, (Or.inr ⟨(hp_y c1 (one_y hx2 c4)), Or.inr ⟨h5, rfl, ⟨hx6.1, hx6.2.2.2.1, (LRt_k (Eq.trans (k8 62 13 (by unfold WAD; omega)) rfl) (Eq.trans (funext fun kk => k8 70 kk (by unfold WAD; omega)) rfl) hL), (Eq.trans (k8 62 9 (by decide)) e_nw), ((hx6.2.2.2.2 15 (by decide)).trans e_rub), ((hx6.2.2.2.2 16 (by decide)).trans e_bt), ((hx6.2.2.2.2 17 (by decide)).trans e_ph), ((hx6.2.2.2.2 18 (by decide)).trans e_st), ((hx6.2.2.2.2 19 (by decide)).trans e_kn), (Eq.trans (k8 62 24 (by decide)) e_pu), (Eq.trans (k8 62 25 (by decide)) e_lf)⟩⟩⟩)⟩⟩)
      · have nc5 : nh = 5 := (nI_eq (a := nh) (b := 5) (by omega) (by omega)).mp c5
        refine xr_bipush (v := -3) dX10_hoop_33 rfl ?_
        exact xr_iret dX10_hoop_35 rfl rfl (⟨_, rfl, rfl, rfl, Ke.rf, ⟨⟨⟨nh, by omega, e_hn, (fun kw hkw => by rw [show M 63 (5 + kw) = M 63 (5 + kw) from rfl]; exact hw kw hkw)⟩, (by rw [show M 63 16 = M 63 16 from rfl]; exact hbt), ⟨un, wn, by omega, by omega, e_un, e_wn⟩, (fun kk hkk => by rw [show M 64 kk = M 64 kk from rfl, show M 65 kk = M 65 kk from rfl, show M 66 kk = M 66 kk from rfl]; exact hch kk hkk), ⟨n, by omega, e_n⟩, (by rw [show M 62 13 = M 62 13 from rfl]; exact htx), ⟨b, by omega, e_b⟩, (fun j hj => by obtain ⟨q, hq, eq⟩ := hkd j hj; exact ⟨q, hq, (show M 81 j = M 81 j from rfl).trans eq⟩), ⟨ra, by omega, e_ra⟩, (fun j hj => by rw [show M 83 j = M 83 j from rfl, show M 84 j = M 84 j from rfl]; exact hsl j hj), ⟨ic, by omega, e_ic⟩, (fun j hj => by obtain ⟨q, hq, eq⟩ := hS j hj; exact ⟨q, hq, (show M 75 j = M 75 j from rfl).trans eq⟩)⟩, (Or.inr ⟨(hp_y c1 (one_y hx2 c4)), Or.inl ⟨nc5, rfl, hG0⟩⟩)⟩⟩)
    · refine xr_iconst (v := -1) dX10_hoop_23 rfl ?_
      exact xr_iret dX10_hoop_24 rfl rfl (⟨_, rfl, rfl, rfl, Ke.rf, ⟨⟨⟨nh, by omega, e_hn, (fun kw hkw => by rw [show M 63 (5 + kw) = M 63 (5 + kw) from rfl]; exact hw kw hkw)⟩, (by rw [show M 63 16 = M 63 16 from rfl]; exact hbt), ⟨un, wn, by omega, by omega, e_un, e_wn⟩, (fun kk hkk => by rw [show M 64 kk = M 64 kk from rfl, show M 65 kk = M 65 kk from rfl, show M 66 kk = M 66 kk from rfl]; exact hch kk hkk), ⟨n, by omega, e_n⟩, (by rw [show M 62 13 = M 62 13 from rfl]; exact htx), ⟨b, by omega, e_b⟩, (fun j hj => by obtain ⟨q, hq, eq⟩ := hkd j hj; exact ⟨q, hq, (show M 81 j = M 81 j from rfl).trans eq⟩), ⟨ra, by omega, e_ra⟩, (fun j hj => by rw [show M 83 j = M 83 j from rfl, show M 84 j = M 84 j from rfl]; exact hsl j hj), ⟨ic, by omega, e_ic⟩, (fun j hj => by obtain ⟨q, hq, eq⟩ := hS j hj; exact ⟨q, hq, (show M 75 j = M 75 j from rfl).trans eq⟩)⟩, (Or.inl ⟨hp_n (one_n hx2 c4), rfl, hG0⟩)⟩⟩)
