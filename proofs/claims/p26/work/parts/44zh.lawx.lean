theorem nb_cg {T T2 : Nat → Int32} {E : Nat} (h : ∀ k, k < E → T k = T2 k) : nb T E = nb T2 E := funext fun a => by
  unfold nb
  by_cases c : a < E
  · rw [if_pos c, if_pos c]; exact h a c
  · rw [if_neg c, if_neg c]
theorem numF_cg {T T2 : Nat → Int32} {E : Nat} (h : nb T E = nb T2 E) : ∀ (k a : Nat) (w : Int32), numF T E k a w = numF T2 E k a w := by
  intro k
  induction k with
  | zero => exact fun a w => rfl
  | succ k ih =>
    intro a w
    show (if 48 ≤ nb T E a ∧ nb T E a ≤ 57 then numF T E k (a + 1) (10 * w + nb T E a - 48) else (a, w)) = (if 48 ≤ nb T2 E a ∧ nb T2 E a ≤ 57 then numF T2 E k (a + 1) (10 * w + nb T2 E a - 48) else (a, w))
    rw [ih, h]
theorem pz_cg {T T2 : Nat → Int32} {E : Nat} (h : nb T E = nb T2 E) : ∀ (f : Nat) (md : Bool) (lv op a : Nat) (ok : Bool) (cd : zC), pz T E f md lv op a ok cd = pz T2 E f md lv op a ok cd := by
  intro f
  induction f with
  | zero => intro md lv op a ok cd; rfl
  | succ f ih =>
    intro md lv op a ok cd
    cases md with
    | false => rw [pz_s, pz_s]; simp only [ih, h, numF_cg h]
    | true => rw [pz_l, pz_l]; simp only [ih, h]
theorem lnB_cg {T T2 : Nat → Int32} {E : Nat} (h : nb T E = nb T2 E) (f a : Nat) : lnB T E f a = lnB T2 E f a := by
  unfold lnB; simp only [pz_cg h, h]
theorem txB_cg {T T2 : Nat → Int32} {E : Nat} (h : nb T E = nb T2 E) (f : Nat) : ∀ g a, txB T E f g a = txB T2 E f g a := by
  intro g
  induction g with
  | zero => exact fun a => rfl
  | succ g ih => intro a; rw [txB_s, txB_s]; simp only [lnB_cg h, ih, h]
theorem txB_ne {T : Nat → Int32} {E f : Nat} : ∀ (g a : Nat) (r : Nat × Bool × zL), txB T E f g a = some r → r.2.2 ≠ [] := by
  intro g
  cases g with
  | zero => intro a r h; exact absurd (show (none : Option (Nat × Bool × zL)) = some r from h) (by simp)
  | succ g =>
    intro a r h
    rw [txB_s] at h
    obtain ⟨r1, h1, h2⟩ := Option.bind_eq_some_iff.mp h
    by_cases c : r1.2.1 = true ∧ nb T E r1.1 = 59
    · rw [if_pos c] at h2
      obtain ⟨q, h3, h4⟩ := Option.bind_eq_some_iff.mp h2
      rw [← Option.some.inj h4]; simp
    · rw [if_neg c] at h2
      rw [← Option.some.inj h2]; simp
theorem tcode_pos {n : Nat} : ∀ (ls : zL), ls ≠ [] → 0 < (tcode n ls).length := fun ls h => by
  cases ls with
  | nil => exact absurd rfl h
  | cons e t =>
    show 0 < (lcode n e.1 e.2 ++ tcode (n + (lcode n e.1 e.2).length) t).length
    rw [List.length_append]
    have : 0 < (lcode n e.1 e.2).length := by
      obtain ⟨c, o⟩ := e
      cases o with
      | none => simp [lcode]
      | some c2 => simp [lcode]; omega
    omega
theorem ftF_neg {E a : Nat} {ok : Bool} (h : ftF E a ok < 0) (ha : a ≤ E) (hE : E ≤ 120) : ok = true ∧ ftF E a true = -1 := by
  unfold ftF at h
  by_cases c : ok = true ∧ ¬ a < E
  · exact ⟨c.1, if_pos ⟨rfl, c.2⟩⟩
  · rw [if_neg c] at h; exact absurd h (nI_nlt (a := a) (b := 0) (by omega) (by omega))
def ELw (G : xM → Nat → xM → Option zL → (Nat → Int32) → Prop) (n : Nat) (D : xM) (t : Option zL) (S : Nat → Int32) (T : Nat → Int32) (c : Int32) (M2 : xM) (r : Int32) : Prop := ∃ (E f g a2 : Nat) (ok : Bool) (ls : zL), E ≤ 120 ∧ c = nI E ∧ txB T E f g 0 = some (a2, ok, ls) ∧ a2 ≤ E ∧ r = (if ftF E a2 ok < 0 then 1 else -100 - ftF E a2 ok) ∧ G M2 n D (if ftF E a2 ok < 0 then some ls else t) S
theorem LCt_cp {M0 M1 M2 : xM} {T : Nat → Int32} {E f g a2 : Nat} {ls : zL} (h : M2 1 4 = M1 8 4 ∧ ∀ k, k < 128 → M2 2 k = M1 9 k ∧ M2 3 k = M1 10 k) (e8 : M1 8 4 = M0 8 4) (e9 : ∀ k, M1 9 k = M0 9 k) (e10 : ∀ k, M1 10 k = M0 10 k) (h1 : txB T E f g 0 = some (a2, true, ls)) (h4 : M0 8 4 = nI (tcode 0 ls).length) (hl : (tcode 0 ls).length ≤ 121) (hc : CAt M0 0 (tcode 0 ls)) : LCt M2 (some ls) :=
  ⟨(tcode 0 ls).length, tcode_pos ls (txB_ne _ _ _ h1), by omega, h.1.trans (e8.trans h4), rfl, fun j hj => ⟨(h.2 (0 + j) (by omega)).1.trans ((e9 _).trans (hc j hj).1), (h.2 (0 + j) (by omega)).2.trans ((e10 _).trans (hc j hj).2)⟩, fun nm => txB_cv nm _ _ _ h1 rfl⟩
theorem LRt_cp {M2 : xM} {T : Nat → Int32} {E f g a2 : Nat} {ls : zL} (hE : E ≤ 120) (h : M2 62 13 = nI E) (h70 : ∀ j, j < E → M2 70 j = T j) (h1 : txB T E f g 0 = some (a2, true, ls)) (hf : ftF E a2 true = -1) : LRt M2 (some ls) :=
  ⟨E, f, g, a2, Nat.zero_le _, hE, h, (txB_cg (nb_cg h70) _ _ _).trans h1, hf, fun nm => txB_cv nm _ _ _ h1 rfl⟩
theorem R70_s {M1 : xM} {T : Nat → Int32} {k : Nat} {v : Int32} (h : ∀ j, j < k → M1 70 j = T j) (hv : v = T k) : ∀ j, j < k + 1 → x_up M1 70 k v 70 j = T j := fun j hj => by
  by_cases e : j = k
  · subst e; exact up_s.trans hv
  · exact (up_k e).trans (h j (by omega))
theorem cpy_e {M : xM} {a b : Nat} : ∀ k, k < 128 → va_cpy (M a) (M b) (Int32.toNatClampNeg 0) (Int32.toNatClampNeg 0) (Int32.toNatClampNeg 128) k = M a k := fun k hk => by
  show (if 0 ≤ k ∧ k < 0 + 128 then M a (0 + (k - 0)) else M b k) = M a k
  rw [if_pos ⟨by omega, by omega⟩, show 0 + (k - 0) = k by omega]
set_option maxRecDepth 100000 in
set_option maxHeartbeats 4000000 in
theorem gw_X3_copy {l : Launch} {G : xG} {M : xM} {J : xJ} (hD : DI M) : x_M l G fX3_copy 2 0 0 [.ref (1), .ref (8)] x_SH M J (qKV WLW M J (fun M2 => ((∃ n : Nat, n ≤ 128 ∧ M2 1 4 = nI n) ∧ ∀ k, k < 128 → M2 3 k ≤ 100000) ∧ M2 1 4 = M 8 4 ∧ ∀ k, k < 128 → M2 2 k = M 9 k ∧ M2 3 k = M 10 k)) := by
  refine xb_of pX3 (Nat.le_of_ble_eq_true rfl) rfl ?_
  obtain ⟨⟨n, hn, en⟩, hvs⟩ := hD
  refine xr_aload_n dX3_copy_0 0 rfl ?_
  refine xr_aload_n dX3_copy_1 1 rfl ?_
  refine xb_get (v := nI (n)) flX3_24 dX3_copy_2 s_8 rfl en ?_
  refine xr_putI fpX3_24 dX3_copy_5 s_1 rfl rfl rfl ?_
  refine xr_aload_n dX3_copy_8 1 rfl ?_
  refine xr_getR flX3_11 dX3_copy_9 s_8 rfl ?_
  refine xr_iconst (v := 0) dX3_copy_12 rfl ?_
  refine xr_aload_n dX3_copy_13 0 rfl ?_
  refine xr_getR flX3_11 dX3_copy_14 s_1 rfl ?_
  refine xr_iconst (v := 0) dX3_copy_17 rfl ?_
  refine xr_sipush (v := 128) dX3_copy_18 rfl ?_
  refine xr_copyI acX3_28 uj_an uj_as uj_ai s_len s_9 s_2 (by decide) (by decide) (by decide) (by decide) (by decide) dX3_copy_21 (Nat.le_of_ble_eq_true rfl) (by decide) ?_
  refine xr_aload_n dX3_copy_24 1 rfl ?_
  refine xr_getR flX3_15 dX3_copy_25 s_8 rfl ?_
  refine xr_iconst (v := 0) dX3_copy_28 rfl ?_
  refine xr_aload_n dX3_copy_29 0 rfl ?_
  refine xr_getR flX3_15 dX3_copy_30 s_1 rfl ?_
  refine xr_iconst (v := 0) dX3_copy_33 rfl ?_
  refine xr_sipush (v := 128) dX3_copy_34 rfl ?_
  refine xr_copyI acX3_28 uj_an uj_as uj_ai s_len s_10 s_3 (by decide) (by decide) (by decide) (by decide) (by decide) dX3_copy_37 (Nat.le_of_ble_eq_true rfl) (by decide) ?_
  exact xr_vret dX3_copy_40 rfl (⟨rfl, rfl, rfl, (Ke.row (by intro k; unfold WLW; omega) (Ke.row (by intro k; unfold WLW; omega) (Ke.up (Or.inl (by omega)) Ke.rf))), ⟨⟨⟨n, hn, (Eq.trans (congrFun (x_row_n _ _ (by decide)) _) (Eq.trans (congrFun (x_row_n _ _ (by decide)) _) (x_up_s _ _ _ _)))⟩, fun k hk => lc_v hvs k hk⟩, (Eq.trans (congrFun (x_row_n _ _ (by decide)) _) (Eq.trans (congrFun (x_row_n _ _ (by decide)) _) (x_up_s _ _ _ _))).trans en.symm, fun k hk => ⟨cpy_e k hk, cpy_e k hk⟩⟩⟩)
set_option maxRecDepth 100000 in
set_option maxHeartbeats 4000000 in
theorem gx_X9_law {nh : Nat} {D : xM} {t : Option zL} {S : Nat → Int32} {l : Launch} {G : xG} {M : xM} {J : xJ} (hI : InvC M) (hWG : WG nh D S) (hG : CG M nh D t S) : x_M l G fX9_law 141 0 0 [.ref (0)] x_SH M J (qKI WLAW M J (fun r M2 => InvC M2 ∧ (M2 6 2 = nI 0 ∧ ELw CG nh D t S (M 7) (M 6 2) M2 r))) := by
  refine xb_of pX9 (Nat.le_of_ble_eq_true rfl) rfl ?_
  obtain ⟨⟨cn, h_cn, e_cn⟩, ⟨cm, h_cm, e_cm⟩, ⟨L, h_L, e_L⟩, hv, hD, ⟨n, h_n, e_n⟩, ⟨un, wn, h_uw, h_wn, e_un, e_wn⟩, ⟨b, h_b, e_b⟩, hkd, ⟨ra, h_ra, e_ra⟩, hsl, hS⟩ := hI
  obtain ⟨hn5, hW, hrub, hbeat⟩ := hWG
  obtain ⟨hGn, hA, hL, e_nw, e_rub, e_bt, e_ph, e_st, e_kn, e_pu, e_lf⟩ := hG
  obtain rfl : nh = cn := (nI_eq (by omega) (by omega)).mp (hGn.symm.trans e_cn)
  have hbt : ¬ S 2 = 0 := ne2_0 hbeat.1
  refine xr_aload_n dX9_law_0 0 rfl ?_
  refine xr_getR flX9_19 dX9_law_1 s_0 rfl ?_
  refine xr_callV (As := []) (rest := []) mlX9_151 (gs_X4_readText (E := n) (by omega) hD e_n) dX9_law_4 s_6 rfl rfl (Nat.le_of_ble_eq_true rfl) (by decide) ⟨by decide, by decide⟩ (fun v s2 M3 J2 hq => ?_)
  obtain ⟨r5, rfl, rfl, rfl, k4, ⟨hd1, htx2⟩⟩ := hq
  try dsimp only [Option.toList, List.cons_append, List.nil_append]
  obtain ⟨f_, g_, a2_, ok_, ls_, ht1, ht2, ht3, ht4, ht5, ht6⟩ := htx2
  refine xr_istore_n (ls2 := [(1, .int (r5)), (0, .ref (0))]) dX9_law_7 (by decide) rfl ?_
  refine xr_aload_n dX9_law_8 1 rfl ?_
  refine xr_getR flX9_19 dX9_law_9 s_0 rfl ?_
  refine xr_iconst (v := 0) dX9_law_12 rfl ?_
  refine xr_putI fpX9_147 dX9_law_13 s_6 rfl rfl rfl ?_
  refine xr_iload_n dX9_law_16 0 rfl ?_
  refine xr_if_lt (tgt := 25) dX9_law_17 rfl (fun c6 => ?_) (fun c6 => ?_)
  · refine xr_aload_n dX9_law_25 1 rfl ?_
    refine xr_getR flX9_10 dX9_law_26 s_0 rfl ?_
    refine xr_aload_n dX9_law_29 1 rfl ?_
    refine xr_getR flX9_19 dX9_law_30 s_0 rfl ?_
    refine xr_getR flX9_155 dX9_law_33 s_6 rfl ?_
    refine xr_callV (As := [.ref (8)]) (rest := []) mlX9_158 (gw_X3_copy (DI_up (by decide) hd1)) dX9_law_36 s_1 rfl rfl (Nat.le_of_ble_eq_true rfl) (by decide) ⟨by decide, by decide⟩ (fun v s2 M10 J2 hq => ?_)
    obtain ⟨rfl, rfl, rfl, k11, ⟨⟨⟨L_7, h_L_7, e_L_7⟩, hv8⟩, hc9⟩⟩ := hq
    try dsimp only [Option.toList, List.cons_append, List.nil_append]
    refine xr_iconst (v := 1) dX9_law_39 rfl ?_
    obtain ⟨rfl, hf9⟩ := ftF_neg (by rw [← ht3]; exact c6) ht2 (by omega)
    exact xr_iret dX9_law_40 rfl rfl (⟨_, rfl, rfl, rfl, (Ke.tr (fun pp kk => (fun hh => Or.elim hh (fun h => (Or.inl h)) (fun h => (Or.inr (Or.inl h))))) (Ke.up (Or.inr (Or.inr (Or.inl (by omega)))) (Ke.tr (fun pp kk => (fun hh => Or.elim hh (fun h => (Or.inr (Or.inr (Or.inl (by omega))))) (fun hh => Or.elim hh (fun h => (Or.inr (Or.inr (Or.inl (by omega))))) (fun h => (Or.inr (Or.inr (Or.inr h))))))) Ke.rf k4)) k11), ⟨⟨⟨nh, by omega, (Eq.trans (k11 13 2 (by decide)) (Eq.trans (congrFun (x_up_n _ _ _ (by decide)) _) (Eq.trans (k4 13 2 (by decide)) e_cn)))⟩, ⟨cm, by omega, (Eq.trans (k11 20 2 (by decide)) (Eq.trans (congrFun (x_up_n _ _ _ (by decide)) _) (Eq.trans (k4 20 2 (by decide)) e_cm)))⟩, ⟨L_7, by omega, e_L_7⟩, hv8, (DI_ke (by intro k; unfold WLW; omega) k11 (DI_up (by decide) hd1)), ⟨0, by omega, (Eq.trans (k11 6 2 (by decide)) (x_up_s _ _ _ _))⟩, ⟨un, wn, by omega, by omega, (Eq.trans (k11 41 4 (by decide)) (Eq.trans (congrFun (x_up_n _ _ _ (by decide)) _) (Eq.trans (k4 41 4 (by decide)) e_un))), (Eq.trans (k11 41 5 (by decide)) (Eq.trans (congrFun (x_up_n _ _ _ (by decide)) _) (Eq.trans (k4 41 5 (by decide)) e_wn)))⟩, ⟨b, by omega, (Eq.trans (k11 46 2 (by decide)) (Eq.trans (congrFun (x_up_n _ _ _ (by decide)) _) (Eq.trans (k4 46 2 (by decide)) e_b)))⟩, (fun j hj => by obtain ⟨q, hq, eq⟩ := hkd j hj; exact ⟨q, hq, (show M10 47 j = M 47 j from (Eq.trans (k11 47 j (by unfold WLW; omega)) (Eq.trans (congrFun (x_up_n _ _ _ (by omega)) _) (Eq.trans (k4 47 j (by unfold WRD; omega)) rfl)))).trans eq⟩), ⟨ra, by omega, (Eq.trans (k11 46 3 (by decide)) (Eq.trans (congrFun (x_up_n _ _ _ (by decide)) _) (Eq.trans (k4 46 3 (by decide)) e_ra)))⟩, (fun j hj => by obtain ⟨s, hs, es⟩ := hsl j hj; exact ⟨s, hs, (show M10 (50 + 2 * j) 3 = M (50 + 2 * j) 3 from (Eq.trans (k11 (50 + 2 * j) 3 (by unfold WLW; omega)) (Eq.trans (congrFun (x_up_n _ _ _ (by omega)) _) (Eq.trans (k4 (50 + 2 * j) 3 (by unfold WRD; omega)) rfl)))).trans es⟩), (fun j hj => by obtain ⟨q, hq, eq⟩ := hS j hj; exact ⟨q, hq, (show M10 36 j = M 36 j from (Eq.trans (k11 36 j (by unfold WLW; omega)) (Eq.trans (congrFun (x_up_n _ _ _ (by omega)) _) (Eq.trans (k4 36 j (by unfold WRD; omega)) rfl)))).trans eq⟩)⟩, ⟨(Eq.trans (k11 6 2 (by decide)) (x_up_s _ _ _ _)), n, f_, g_, a2_, true, ls_, h_n, e_n, ht1, ht2, (by rw [if_pos (by rw [← ht3]; exact c6)]), (by rw [if_pos (by rw [← ht3]; exact c6)]; exact ⟨(Eq.trans (k11 13 2 (by decide)) (Eq.trans (congrFun (x_up_n _ _ _ (by decide)) _) (Eq.trans (k4 13 2 (by decide)) e_cn))), (AbC_k hA (fun i hi j => (Eq.trans (k11 (15 + i) j (by unfold WLW; omega)) (Eq.trans (congrFun (x_up_n _ _ _ (by omega)) _) (Eq.trans (k4 (15 + i) j (by unfold WRD; omega)) rfl))))), (LCt_cp (M0 := M3) (M1 := (x_up M3 6 2 0)) hc9 (up_n (by decide)) (fun kl => (up_n (by decide))) (fun kl => (up_n (by decide))) ht1 ht4 ht5 ht6), (Eq.trans (k11 13 3 (by decide)) (Eq.trans (congrFun (x_up_n _ _ _ (by decide)) _) (Eq.trans (k4 13 3 (by decide)) e_nw))), (Eq.trans (k11 13 4 (by decide)) (Eq.trans (congrFun (x_up_n _ _ _ (by decide)) _) (Eq.trans (k4 13 4 (by decide)) e_rub))), (Eq.trans (k11 13 5 (by decide)) (Eq.trans (congrFun (x_up_n _ _ _ (by decide)) _) (Eq.trans (k4 13 5 (by decide)) e_bt))), (Eq.trans (k11 13 6 (by decide)) (Eq.trans (congrFun (x_up_n _ _ _ (by decide)) _) (Eq.trans (k4 13 6 (by decide)) e_ph))), (Eq.trans (k11 13 7 (by decide)) (Eq.trans (congrFun (x_up_n _ _ _ (by decide)) _) (Eq.trans (k4 13 7 (by decide)) e_st))), (Eq.trans (k11 35 5 (by decide)) (Eq.trans (congrFun (x_up_n _ _ _ (by decide)) _) (Eq.trans (k4 35 5 (by decide)) e_kn))), (Eq.trans (k11 13 8 (by decide)) (Eq.trans (congrFun (x_up_n _ _ _ (by decide)) _) (Eq.trans (k4 13 8 (by decide)) e_pu))), (Eq.trans (k11 13 9 (by decide)) (Eq.trans (congrFun (x_up_n _ _ _ (by decide)) _) (Eq.trans (k4 13 9 (by decide)) e_lf)))⟩)⟩⟩⟩)
  · refine xr_bipush (v := -100) dX9_law_20 rfl ?_
    refine xr_iload_n dX9_law_22 0 rfl ?_
    refine xr_isub dX9_law_23 ?_
    exact xr_iret dX9_law_24 rfl rfl (⟨_, rfl, rfl, rfl, (Ke.up (Or.inr (Or.inr (Or.inl (by omega)))) (Ke.tr (fun pp kk => (fun hh => Or.elim hh (fun h => (Or.inr (Or.inr (Or.inl (by omega))))) (fun hh => Or.elim hh (fun h => (Or.inr (Or.inr (Or.inl (by omega))))) (fun h => (Or.inr (Or.inr (Or.inr h))))))) Ke.rf k4)), ⟨⟨⟨nh, by omega, (Eq.trans (congrFun (x_up_n _ _ _ (by decide)) _) (Eq.trans (k4 13 2 (by decide)) e_cn))⟩, ⟨cm, by omega, (Eq.trans (congrFun (x_up_n _ _ _ (by decide)) _) (Eq.trans (k4 20 2 (by decide)) e_cm))⟩, ⟨L, by omega, (Eq.trans (congrFun (x_up_n _ _ _ (by decide)) _) (Eq.trans (k4 1 4 (by decide)) e_L))⟩, (fun kk hkk => by rw [show (x_up M3 6 2 0) 3 kk = M 3 kk from (Eq.trans (congrFun (x_up_n _ _ _ (by omega)) _) (Eq.trans (k4 3 kk (by unfold WRD; omega)) rfl))]; exact hv kk hkk), (DI_up (by decide) hd1), ⟨0, by omega, (x_up_s _ _ _ _)⟩, ⟨un, wn, by omega, by omega, (Eq.trans (congrFun (x_up_n _ _ _ (by decide)) _) (Eq.trans (k4 41 4 (by decide)) e_un)), (Eq.trans (congrFun (x_up_n _ _ _ (by decide)) _) (Eq.trans (k4 41 5 (by decide)) e_wn))⟩, ⟨b, by omega, (Eq.trans (congrFun (x_up_n _ _ _ (by decide)) _) (Eq.trans (k4 46 2 (by decide)) e_b))⟩, (fun j hj => by obtain ⟨q, hq, eq⟩ := hkd j hj; exact ⟨q, hq, (show (x_up M3 6 2 0) 47 j = M 47 j from (Eq.trans (congrFun (x_up_n _ _ _ (by omega)) _) (Eq.trans (k4 47 j (by unfold WRD; omega)) rfl))).trans eq⟩), ⟨ra, by omega, (Eq.trans (congrFun (x_up_n _ _ _ (by decide)) _) (Eq.trans (k4 46 3 (by decide)) e_ra))⟩, (fun j hj => by obtain ⟨s, hs, es⟩ := hsl j hj; exact ⟨s, hs, (show (x_up M3 6 2 0) (50 + 2 * j) 3 = M (50 + 2 * j) 3 from (Eq.trans (congrFun (x_up_n _ _ _ (by omega)) _) (Eq.trans (k4 (50 + 2 * j) 3 (by unfold WRD; omega)) rfl))).trans es⟩), (fun j hj => by obtain ⟨q, hq, eq⟩ := hS j hj; exact ⟨q, hq, (show (x_up M3 6 2 0) 36 j = M 36 j from (Eq.trans (congrFun (x_up_n _ _ _ (by omega)) _) (Eq.trans (k4 36 j (by unfold WRD; omega)) rfl))).trans eq⟩)⟩, ⟨(x_up_s _ _ _ _), n, f_, g_, a2_, ok_, ls_, h_n, e_n, ht1, ht2, (by rw [if_neg (by rw [← ht3]; exact c6), ← ht3]), (by rw [if_neg (by rw [← ht3]; exact c6)]; exact ⟨(Eq.trans (congrFun (x_up_n _ _ _ (by decide)) _) (Eq.trans (k4 13 2 (by decide)) e_cn)), (AbC_k hA (fun i hi j => (Eq.trans (congrFun (x_up_n _ _ _ (by omega)) _) (Eq.trans (k4 (15 + i) j (by unfold WRD; omega)) rfl)))), (LCt_k (Eq.trans (congrFun (x_up_n _ _ _ (by omega)) _) (Eq.trans (k4 1 4 (by unfold WRD; omega)) rfl)) (fun kl => (Eq.trans (congrFun (x_up_n _ _ _ (by omega)) _) (Eq.trans (k4 2 kl (by unfold WRD; omega)) rfl))) (fun kl => (Eq.trans (congrFun (x_up_n _ _ _ (by omega)) _) (Eq.trans (k4 3 kl (by unfold WRD; omega)) rfl))) hL), (Eq.trans (congrFun (x_up_n _ _ _ (by decide)) _) (Eq.trans (k4 13 3 (by decide)) e_nw)), (Eq.trans (congrFun (x_up_n _ _ _ (by decide)) _) (Eq.trans (k4 13 4 (by decide)) e_rub)), (Eq.trans (congrFun (x_up_n _ _ _ (by decide)) _) (Eq.trans (k4 13 5 (by decide)) e_bt)), (Eq.trans (congrFun (x_up_n _ _ _ (by decide)) _) (Eq.trans (k4 13 6 (by decide)) e_ph)), (Eq.trans (congrFun (x_up_n _ _ _ (by decide)) _) (Eq.trans (k4 13 7 (by decide)) e_st)), (Eq.trans (congrFun (x_up_n _ _ _ (by decide)) _) (Eq.trans (k4 35 5 (by decide)) e_kn)), (Eq.trans (congrFun (x_up_n _ _ _ (by decide)) _) (Eq.trans (k4 13 8 (by decide)) e_pu)), (Eq.trans (congrFun (x_up_n _ _ _ (by decide)) _) (Eq.trans (k4 13 9 (by decide)) e_lf))⟩)⟩⟩⟩)
set_option maxRecDepth 100000 in
set_option maxHeartbeats 4000000 in
theorem rlx {v : Int32} {N : Nat} (hN : N ≤ 120) {l : Launch} {G : xG} {M : xM} {J : xJ} {Q : xQ} (hC : ∀ (M2 : xM), Ke W70 M M2 → (∀ j, j < N → M2 70 j = M 69 j) → x_X l G fX10_law 59 0 0 Q 60 [(2, .int (nI (N))), (0, .ref (62))] [] x_SH M2 J 0 0) : ∀ (m k : Nat) (M1 : xM), k + m = N → Ke W70 M M1 → (∀ j, j < k → M1 70 j = M 69 j) → x_X l G fX10_law 59 0 0 Q 37 [(3, .int (nI (k))), (2, .int (nI (N))), (1, .int (v)), (0, .ref (62))] [] x_SH M1 J 0 0 := by
  intro m
  induction m with
  | zero =>
    intro k M1 hk hM hI
    refine xr_iload_n dX10_law_37 0 rfl ?_
    refine xr_iload_n dX10_law_38 1 rfl ?_
    refine xr_icmp_ge (tgt := 60) dX10_law_39 rfl (fun _ => ?_) (fun c => absurd (nI_le (a := N) (b := k) (by omega) (by omega)) c)
    refine xb_ls (ls2 := [(2, .int (nI (N))), (0, .ref (62))]) [1, 3] rfl ?_
    exact hC _ hM (by obtain rfl : k = N := (by omega); exact hI)
  | succ m ih =>
    intro k M1 hk hM hI
    have hkN : k < N := by omega
    refine xr_iload_n dX10_law_37 0 rfl ?_
    refine xr_iload_n dX10_law_38 1 rfl ?_
    refine xr_icmp_ge (tgt := 60) dX10_law_39 rfl (fun c => absurd c (nI_ge (a := k) (b := N) (by omega) (by omega))) (fun _ => ?_)
    refine xr_aload_n dX10_law_42 3 rfl ?_
    refine xr_getR flX10_31 dX10_law_43 s_62 rfl ?_
    refine xr_iload_n dX10_law_46 0 rfl ?_
    refine xr_aload_n dX10_law_47 3 rfl ?_
    refine xr_getR flX10_28 dX10_law_48 s_62 rfl ?_
    refine xr_iload_n dX10_law_51 0 rfl ?_
    refine xb_iald (j := k) (v := (M 69 k)) dX10_law_52 s_69 (by omega) (by decide) (Eq.trans (hM 69 k (by unfold W70; omega)) rfl) ?_
    refine xb_iast (j := k) dX10_law_53 s_70 (by omega) (by decide) ?_
    refine xr_iinc (v := nI (k + 1)) (ls2 := [(3, .int (nI (k + 1))), (2, .int (nI (N))), (1, .int (v)), (0, .ref (62))]) dX10_law_54 0 rfl (nI_1 _) (by decide) rfl ?_
    refine xr_goto (tgt := 37) dX10_law_57 rfl ?_
    refine xb_ls (ls2 := [(3, .int (nI (k + 1))), (2, .int (nI (N))), (1, .int (v)), (0, .ref (62))]) [0, 1, 2, 3] rfl ?_
    exact ih (k + 1) (x_up M1 70 k (M 69 k)) (by omega) (Ke.up (by omega) hM) (R70_s (T := M 69) hI rfl)
set_option maxRecDepth 100000 in
set_option maxHeartbeats 4000000 in
theorem gx_X10_law {nh : Nat} {D : xM} {t : Option zL} {S : Nat → Int32} {l : Launch} {G : xG} {M : xM} {J : xJ} (hI : InvR M) (hWG : WG nh D S) (hG : RG M nh D t S) : x_M l G fX10_law 59 0 0 [.ref (62)] x_SH M J (qKI WLT M J (fun r M2 => InvR M2 ∧ (M2 62 11 = nI 0 ∧ ELw RG nh D t S (M 69) (M 62 11) M2 r))) := by
  refine xb_of pX10 (Nat.le_of_ble_eq_true rfl) rfl ?_
  obtain ⟨⟨hn, h_hn, e_hn, hw⟩, hbt, ⟨un, wn, h_uw, h_wn, e_un, e_wn⟩, hch, ⟨n, h_n, e_n⟩, htx, ⟨b, h_b, e_b⟩, hkd, ⟨ra, h_ra, e_ra⟩, hsl, ⟨ic, h_ic, e_ic⟩, hS⟩ := hI
  obtain ⟨hn5, hW, hrub, hbeat⟩ := hWG
  obtain ⟨hGn, hA, hL, e_nw, e_rub, e_bt, e_ph, e_st, e_kn, e_pu, e_lf⟩ := hG
  obtain rfl : nh = hn := (nI_eq (by omega) (by omega)).mp (hGn.symm.trans e_hn)
  have hbt2 : ¬ S 2 = 0 := ne2_0 hbeat.1
  refine xr_aload_n dX10_law_0 0 rfl ?_
  refine xr_iconst (v := -1) dX10_law_1 rfl ?_
  refine xr_aload_n dX10_law_2 0 rfl ?_
  refine xb_get (v := nI (n)) flX10_162 dX10_law_3 s_62 rfl e_n ?_
  refine xr_callV (As := [.int ((-1)), .int (nI (n))]) (rest := []) mlX10_211 (gs_X10_workOut (E := n) (by omega) (T := M 69) (N := M 71) (Or.inl ⟨rfl, rfl⟩) rfl) dX10_law_6 s_62 rfl rfl (Nat.le_of_ble_eq_true rfl) (by decide) ⟨by decide, by decide⟩ (fun v s2 M10 J2 hq => ?_)
  obtain ⟨r12, rfl, rfl, rfl, k11, ⟨f1, g2, a2_3, ok4, ls5, h6, h7, h8, h9⟩⟩ := hq
  try dsimp only [Option.toList, List.cons_append, List.nil_append]
  refine xr_istore_n (ls2 := [(1, .int (r12)), (0, .ref (62))]) dX10_law_9 (by decide) rfl ?_
  refine xr_aload_n dX10_law_10 1 rfl ?_
  refine xb_get (v := nI (n)) flX10_162 dX10_law_11 s_62 rfl (Eq.trans (k11 62 11 (by decide)) e_n) ?_
  refine xr_istore_n (ls2 := [(2, .int (nI (n))), (1, .int (r12)), (0, .ref (62))]) dX10_law_14 (by decide) rfl ?_
  refine xr_aload_n dX10_law_15 2 rfl ?_
  refine xr_iconst (v := 0) dX10_law_16 rfl ?_
  refine xr_putI fpX10_162 dX10_law_17 s_62 rfl rfl rfl ?_
  refine xr_aload_n dX10_law_20 2 rfl ?_
  refine xb_get (v := (ftF n a2_3 ok4)) flX10_174 dX10_law_21 s_62 rfl (Eq.trans (x_up_k _ _ _ (by decide)) h8) ?_
  refine xr_if_lt (tgt := 35) dX10_law_24 rfl (fun c13 => ?_) (fun c13 => ?_)
  · refine xr_iconst (v := 0) dX10_law_35 rfl ?_
    refine xr_istore_n (ls2 := [(3, .int (0)), (2, .int (nI (n))), (1, .int (r12)), (0, .ref (62))]) dX10_law_36 (by decide) rfl ?_
    refine xb_ls (ls2 := [(3, .int (nI (0))), (2, .int (nI (n))), (1, .int (r12)), (0, .ref (62))]) [0, 1, 2, 3] rfl ?_
    refine rlx (N := n) (by omega) (fun M14 k15 h70 => ?_) (n - 0) 0 (x_up M10 62 11 0) (by omega) Ke.rf (fun j hj => absurd hj (Nat.not_lt_zero j))
    refine xr_aload_n dX10_law_60 1 rfl ?_
    refine xr_iload_n dX10_law_61 0 rfl ?_
    refine xr_putI fpX10_88 dX10_law_62 s_62 rfl rfl rfl ?_
    refine xr_iconst (v := 1) dX10_law_65 rfl ?_
    obtain ⟨rfl, hf9⟩ := ftF_neg c13 h7 (by omega)
    exact xr_iret dX10_law_66 rfl rfl (⟨_, rfl, rfl, rfl, (Ke.up (Or.inr (Or.inl (by omega))) (Ke.tr (fun pp kk h => (Or.inr (Or.inr (Or.inr (Or.inr (Or.inr (Or.inr (Or.inr h)))))))) (Ke.up (Or.inl (by omega)) (Ke.tr (fun pp kk => (fun hh => Or.elim hh (fun h => (Or.inr (Or.inr (Or.inl h)))) (fun hh => Or.elim hh (fun h => (Or.inr (Or.inr (Or.inr (Or.inl h))))) (fun hh => Or.elim hh (fun h => (Or.inr (Or.inr (Or.inr (Or.inr (Or.inl h)))))) (fun hh => Or.elim hh (fun h => (Or.inr (Or.inr (Or.inr (Or.inr (Or.inr (Or.inl h))))))) (fun h => (Or.inr (Or.inr (Or.inr (Or.inr (Or.inr (Or.inr (Or.inl h))))))))))))) Ke.rf k11)) k15)), ⟨⟨⟨nh, by omega, (Eq.trans (x_up_k _ _ _ (by decide)) (Eq.trans (k15 62 6 (by decide)) (Eq.trans (x_up_k _ _ _ (by decide)) (Eq.trans (k11 62 6 (by decide)) e_hn)))), (fun kw hkw => by rw [show (x_up M14 62 13 (nI (n))) 63 (5 + kw) = M 63 (5 + kw) from (Eq.trans (congrFun (x_up_n _ _ _ (by omega)) _) (Eq.trans (k15 63 (5 + kw) (by unfold W70; omega)) (Eq.trans (congrFun (x_up_n _ _ _ (by omega)) _) (Eq.trans (k11 63 (5 + kw) (by unfold WPW; omega)) rfl))))]; exact hw kw hkw)⟩, (by rw [show (x_up M14 62 13 (nI (n))) 63 16 = M 63 16 from (Eq.trans (congrFun (x_up_n _ _ _ (by omega)) _) (Eq.trans (k15 63 16 (by unfold W70; omega)) (Eq.trans (congrFun (x_up_n _ _ _ (by omega)) _) (Eq.trans (k11 63 16 (by unfold WPW; omega)) rfl))))]; exact hbt), ⟨un, wn, by omega, by omega, (Eq.trans (x_up_k _ _ _ (by decide)) (Eq.trans (k15 62 5 (by decide)) (Eq.trans (x_up_k _ _ _ (by decide)) (Eq.trans (k11 62 5 (by decide)) e_un)))), (Eq.trans (x_up_k _ _ _ (by decide)) (Eq.trans (k15 62 4 (by decide)) (Eq.trans (x_up_k _ _ _ (by decide)) (Eq.trans (k11 62 4 (by decide)) e_wn))))⟩, (fun kk hkk => by rw [show (x_up M14 62 13 (nI (n))) 64 kk = M 64 kk from (Eq.trans (congrFun (x_up_n _ _ _ (by omega)) _) (Eq.trans (k15 64 kk (by unfold W70; omega)) (Eq.trans (congrFun (x_up_n _ _ _ (by omega)) _) (Eq.trans (k11 64 kk (by unfold WPW; omega)) rfl)))), show (x_up M14 62 13 (nI (n))) 65 kk = M 65 kk from (Eq.trans (congrFun (x_up_n _ _ _ (by omega)) _) (Eq.trans (k15 65 kk (by unfold W70; omega)) (Eq.trans (congrFun (x_up_n _ _ _ (by omega)) _) (Eq.trans (k11 65 kk (by unfold WPW; omega)) rfl)))), show (x_up M14 62 13 (nI (n))) 66 kk = M 66 kk from (Eq.trans (congrFun (x_up_n _ _ _ (by omega)) _) (Eq.trans (k15 66 kk (by unfold W70; omega)) (Eq.trans (congrFun (x_up_n _ _ _ (by omega)) _) (Eq.trans (k11 66 kk (by unfold WPW; omega)) rfl))))]; exact hch kk hkk), ⟨0, by omega, (Eq.trans (x_up_k _ _ _ (by decide)) (Eq.trans (k15 62 11 (by decide)) (x_up_s _ _ _ _)))⟩, (Or.inr ⟨n, h_n, (x_up_s _ _ _ _)⟩), ⟨b, by omega, (Eq.trans (x_up_k _ _ _ (by decide)) (Eq.trans (k15 62 36 (by decide)) (Eq.trans (x_up_k _ _ _ (by decide)) (Eq.trans (k11 62 36 (by decide)) e_b))))⟩, (fun j hj => by obtain ⟨q, hq, eq⟩ := hkd j hj; exact ⟨q, hq, (show (x_up M14 62 13 (nI (n))) 81 j = M 81 j from (Eq.trans (congrFun (x_up_n _ _ _ (by omega)) _) (Eq.trans (k15 81 j (by unfold W70; omega)) (Eq.trans (congrFun (x_up_n _ _ _ (by omega)) _) (Eq.trans (k11 81 j (by unfold WPW; omega)) rfl))))).trans eq⟩), ⟨ra, by omega, (Eq.trans (x_up_k _ _ _ (by decide)) (Eq.trans (k15 62 39 (by decide)) (Eq.trans (x_up_k _ _ _ (by decide)) (Eq.trans (k11 62 39 (by decide)) e_ra))))⟩, (fun j hj => by rw [show (x_up M14 62 13 (nI (n))) 83 j = M 83 j from (Eq.trans (congrFun (x_up_n _ _ _ (by omega)) _) (Eq.trans (k15 83 j (by unfold W70; omega)) (Eq.trans (congrFun (x_up_n _ _ _ (by omega)) _) (Eq.trans (k11 83 j (by unfold WPW; omega)) rfl)))), show (x_up M14 62 13 (nI (n))) 84 j = M 84 j from (Eq.trans (congrFun (x_up_n _ _ _ (by omega)) _) (Eq.trans (k15 84 j (by unfold W70; omega)) (Eq.trans (congrFun (x_up_n _ _ _ (by omega)) _) (Eq.trans (k11 84 j (by unfold WPW; omega)) rfl))))]; exact hsl j hj), ⟨ic, by omega, (Eq.trans (x_up_k _ _ _ (by decide)) (Eq.trans (k15 62 34 (by decide)) (Eq.trans (x_up_k _ _ _ (by decide)) (Eq.trans (k11 62 34 (by decide)) e_ic))))⟩, (fun j hj => by obtain ⟨q, hq, eq⟩ := hS j hj; exact ⟨q, hq, (show (x_up M14 62 13 (nI (n))) 75 j = M 75 j from (Eq.trans (congrFun (x_up_n _ _ _ (by omega)) _) (Eq.trans (k15 75 j (by unfold W70; omega)) (Eq.trans (congrFun (x_up_n _ _ _ (by omega)) _) (Eq.trans (k11 75 j (by unfold WPW; omega)) rfl))))).trans eq⟩)⟩, ⟨(Eq.trans (x_up_k _ _ _ (by decide)) (Eq.trans (k15 62 11 (by decide)) (x_up_s _ _ _ _))), n, f1, g2, a2_3, true, ls5, h_n, e_n, h6, h7, (if_pos c13).symm, (by rw [if_pos c13]; exact ⟨(Eq.trans (x_up_k _ _ _ (by decide)) (Eq.trans (k15 62 6 (by decide)) (Eq.trans (x_up_k _ _ _ (by decide)) (Eq.trans (k11 62 6 (by decide)) e_hn)))), (AbS_k hA (fun kl hkl => (Eq.trans (congrFun (x_up_n _ _ _ (by decide)) _) (Eq.trans (k15 63 kl (by unfold W70; omega)) (Eq.trans (congrFun (x_up_n _ _ _ (by decide)) _) (Eq.trans (k11 63 kl (by unfold WPW; omega)) rfl))))) (fun kl => (Eq.trans (congrFun (x_up_n _ _ _ (by decide)) _) (Eq.trans (k15 67 kl (by unfold W70; omega)) (Eq.trans (congrFun (x_up_n _ _ _ (by decide)) _) (Eq.trans (k11 67 kl (by unfold WPW; omega)) rfl))))) (fun kl => (Eq.trans (congrFun (x_up_n _ _ _ (by decide)) _) (Eq.trans (k15 68 kl (by unfold W70; omega)) (Eq.trans (congrFun (x_up_n _ _ _ (by decide)) _) (Eq.trans (k11 68 kl (by unfold WPW; omega)) rfl))))) hn5), (LRt_cp (T := M 69) h_n (x_up_s _ _ _ _) (fun j hj => ((up_n (by decide)).trans ((h70 j hj).trans (congrFun (Eq.trans (x_up_n _ _ _ (by decide)) (Eq.trans (funext fun kk => k11 69 kk (by unfold WPW; omega)) rfl)) j)))) h6 hf9), (Eq.trans (x_up_k _ _ _ (by decide)) (Eq.trans (k15 62 9 (by decide)) (Eq.trans (x_up_k _ _ _ (by decide)) (Eq.trans (k11 62 9 (by decide)) e_nw)))), (Eq.trans (congrFun (x_up_n _ _ _ (by decide)) _) (Eq.trans (k15 63 15 (by decide)) (Eq.trans (congrFun (x_up_n _ _ _ (by decide)) _) (Eq.trans (k11 63 15 (by decide)) e_rub)))), (Eq.trans (congrFun (x_up_n _ _ _ (by decide)) _) (Eq.trans (k15 63 16 (by decide)) (Eq.trans (congrFun (x_up_n _ _ _ (by decide)) _) (Eq.trans (k11 63 16 (by decide)) e_bt)))), (Eq.trans (congrFun (x_up_n _ _ _ (by decide)) _) (Eq.trans (k15 63 17 (by decide)) (Eq.trans (congrFun (x_up_n _ _ _ (by decide)) _) (Eq.trans (k11 63 17 (by decide)) e_ph)))), (Eq.trans (congrFun (x_up_n _ _ _ (by decide)) _) (Eq.trans (k15 63 18 (by decide)) (Eq.trans (congrFun (x_up_n _ _ _ (by decide)) _) (Eq.trans (k11 63 18 (by decide)) e_st)))), (Eq.trans (congrFun (x_up_n _ _ _ (by decide)) _) (Eq.trans (k15 63 19 (by decide)) (Eq.trans (congrFun (x_up_n _ _ _ (by decide)) _) (Eq.trans (k11 63 19 (by decide)) e_kn)))), (Eq.trans (x_up_k _ _ _ (by decide)) (Eq.trans (k15 62 24 (by decide)) (Eq.trans (x_up_k _ _ _ (by decide)) (Eq.trans (k11 62 24 (by decide)) e_pu)))), (Eq.trans (x_up_k _ _ _ (by decide)) (Eq.trans (k15 62 25 (by decide)) (Eq.trans (x_up_k _ _ _ (by decide)) (Eq.trans (k11 62 25 (by decide)) e_lf))))⟩)⟩⟩⟩)
  · refine xr_bipush (v := -100) dX10_law_27 rfl ?_
    refine xr_aload_n dX10_law_29 2 rfl ?_
    refine xb_get (v := (ftF n a2_3 ok4)) flX10_174 dX10_law_30 s_62 rfl (Eq.trans (x_up_k _ _ _ (by decide)) h8) ?_
    refine xr_isub dX10_law_33 ?_
    exact xr_iret dX10_law_34 rfl rfl (⟨_, rfl, rfl, rfl, (Ke.up (Or.inl (by omega)) (Ke.tr (fun pp kk => (fun hh => Or.elim hh (fun h => (Or.inr (Or.inr (Or.inl h)))) (fun hh => Or.elim hh (fun h => (Or.inr (Or.inr (Or.inr (Or.inl h))))) (fun hh => Or.elim hh (fun h => (Or.inr (Or.inr (Or.inr (Or.inr (Or.inl h)))))) (fun hh => Or.elim hh (fun h => (Or.inr (Or.inr (Or.inr (Or.inr (Or.inr (Or.inl h))))))) (fun h => (Or.inr (Or.inr (Or.inr (Or.inr (Or.inr (Or.inr (Or.inl h))))))))))))) Ke.rf k11)), ⟨⟨⟨nh, by omega, (Eq.trans (x_up_k _ _ _ (by decide)) (Eq.trans (k11 62 6 (by decide)) e_hn)), (fun kw hkw => by rw [show (x_up M10 62 11 0) 63 (5 + kw) = M 63 (5 + kw) from (Eq.trans (congrFun (x_up_n _ _ _ (by omega)) _) (Eq.trans (k11 63 (5 + kw) (by unfold WPW; omega)) rfl))]; exact hw kw hkw)⟩, (by rw [show (x_up M10 62 11 0) 63 16 = M 63 16 from (Eq.trans (congrFun (x_up_n _ _ _ (by omega)) _) (Eq.trans (k11 63 16 (by unfold WPW; omega)) rfl))]; exact hbt), ⟨un, wn, by omega, by omega, (Eq.trans (x_up_k _ _ _ (by decide)) (Eq.trans (k11 62 5 (by decide)) e_un)), (Eq.trans (x_up_k _ _ _ (by decide)) (Eq.trans (k11 62 4 (by decide)) e_wn))⟩, (fun kk hkk => by rw [show (x_up M10 62 11 0) 64 kk = M 64 kk from (Eq.trans (congrFun (x_up_n _ _ _ (by omega)) _) (Eq.trans (k11 64 kk (by unfold WPW; omega)) rfl)), show (x_up M10 62 11 0) 65 kk = M 65 kk from (Eq.trans (congrFun (x_up_n _ _ _ (by omega)) _) (Eq.trans (k11 65 kk (by unfold WPW; omega)) rfl)), show (x_up M10 62 11 0) 66 kk = M 66 kk from (Eq.trans (congrFun (x_up_n _ _ _ (by omega)) _) (Eq.trans (k11 66 kk (by unfold WPW; omega)) rfl))]; exact hch kk hkk), ⟨0, by omega, (x_up_s _ _ _ _)⟩, (by rw [show (x_up M10 62 11 0) 62 13 = M 62 13 from (Eq.trans (x_up_k _ _ _ (by omega)) (Eq.trans (k11 62 13 (by unfold WPW; omega)) rfl))]; exact htx), ⟨b, by omega, (Eq.trans (x_up_k _ _ _ (by decide)) (Eq.trans (k11 62 36 (by decide)) e_b))⟩, (fun j hj => by obtain ⟨q, hq, eq⟩ := hkd j hj; exact ⟨q, hq, (show (x_up M10 62 11 0) 81 j = M 81 j from (Eq.trans (congrFun (x_up_n _ _ _ (by omega)) _) (Eq.trans (k11 81 j (by unfold WPW; omega)) rfl))).trans eq⟩), ⟨ra, by omega, (Eq.trans (x_up_k _ _ _ (by decide)) (Eq.trans (k11 62 39 (by decide)) e_ra))⟩, (fun j hj => by rw [show (x_up M10 62 11 0) 83 j = M 83 j from (Eq.trans (congrFun (x_up_n _ _ _ (by omega)) _) (Eq.trans (k11 83 j (by unfold WPW; omega)) rfl)), show (x_up M10 62 11 0) 84 j = M 84 j from (Eq.trans (congrFun (x_up_n _ _ _ (by omega)) _) (Eq.trans (k11 84 j (by unfold WPW; omega)) rfl))]; exact hsl j hj), ⟨ic, by omega, (Eq.trans (x_up_k _ _ _ (by decide)) (Eq.trans (k11 62 34 (by decide)) e_ic))⟩, (fun j hj => by obtain ⟨q, hq, eq⟩ := hS j hj; exact ⟨q, hq, (show (x_up M10 62 11 0) 75 j = M 75 j from (Eq.trans (congrFun (x_up_n _ _ _ (by omega)) _) (Eq.trans (k11 75 j (by unfold WPW; omega)) rfl))).trans eq⟩)⟩, ⟨(x_up_s _ _ _ _), n, f1, g2, a2_3, ok4, ls5, h_n, e_n, h6, h7, (if_neg c13).symm, (by rw [if_neg c13]; exact ⟨(Eq.trans (x_up_k _ _ _ (by decide)) (Eq.trans (k11 62 6 (by decide)) e_hn)), (AbS_k hA (fun kl hkl => (Eq.trans (congrFun (x_up_n _ _ _ (by decide)) _) (Eq.trans (k11 63 kl (by unfold WPW; omega)) rfl))) (fun kl => (Eq.trans (congrFun (x_up_n _ _ _ (by decide)) _) (Eq.trans (k11 67 kl (by unfold WPW; omega)) rfl))) (fun kl => (Eq.trans (congrFun (x_up_n _ _ _ (by decide)) _) (Eq.trans (k11 68 kl (by unfold WPW; omega)) rfl))) hn5), (LRt_k (Eq.trans (x_up_k _ _ _ (by decide)) (Eq.trans (k11 62 13 (by unfold WPW; omega)) rfl)) (Eq.trans (x_up_n _ _ _ (by decide)) (Eq.trans (funext fun kk => k11 70 kk (by unfold WPW; omega)) rfl)) hL), (Eq.trans (x_up_k _ _ _ (by decide)) (Eq.trans (k11 62 9 (by decide)) e_nw)), (Eq.trans (congrFun (x_up_n _ _ _ (by decide)) _) (Eq.trans (k11 63 15 (by decide)) e_rub)), (Eq.trans (congrFun (x_up_n _ _ _ (by decide)) _) (Eq.trans (k11 63 16 (by decide)) e_bt)), (Eq.trans (congrFun (x_up_n _ _ _ (by decide)) _) (Eq.trans (k11 63 17 (by decide)) e_ph)), (Eq.trans (congrFun (x_up_n _ _ _ (by decide)) _) (Eq.trans (k11 63 18 (by decide)) e_st)), (Eq.trans (congrFun (x_up_n _ _ _ (by decide)) _) (Eq.trans (k11 63 19 (by decide)) e_kn)), (Eq.trans (x_up_k _ _ _ (by decide)) (Eq.trans (k11 62 24 (by decide)) e_pu)), (Eq.trans (x_up_k _ _ _ (by decide)) (Eq.trans (k11 62 25 (by decide)) e_lf))⟩)⟩⟩⟩)
