/-- the law as the class has it -/
def LCt (M : xM) (t : Option zL) : Prop := match t with
  | none => M 1 4 = 0
  | some ls => ∃ L : Nat, 0 < L ∧ L ≤ 128 ∧ M 1 4 = nI L ∧ (tcode 0 ls).length = L ∧ CL M 0 (tcode 0 ls) ∧ ∀ nm, CVL nm ls
theorem LCt_k {M M2 : xM} {t : Option zL} (h14 : M2 1 4 = M 1 4) (h2 : ∀ k, M2 2 k = M 2 k) (h3 : ∀ k, M2 3 k = M 3 k) (h : LCt M t) : LCt M2 t := by
  cases t with
  | none => exact h14.trans h
  | some ls =>
    obtain ⟨L, a, b, c, d, e, f⟩ := h
    exact ⟨L, a, b, h14.trans c, d, fun j hj => ⟨(h2 _).trans (e j hj).1, (h3 _).trans (e j hj).2⟩, f⟩
theorem CL_k {M M2 : xM} {n : Nat} {cd : zC} (h2 : ∀ k, M2 2 k = M 2 k) (h3 : ∀ k, M2 3 k = M 3 k) (h : CL M n cd) : CL M2 n cd := fun j hj => ⟨(h2 _).trans (h j hj).1, (h3 _).trans (h j hj).2⟩
theorem w_c9_c (v : Int32) : (if -9 < (if v < 9 then v else 9) then (if v < 9 then v else 9) else -9) = w_c9 v := by
  unfold w_c9
  by_cases h : v < 9
  · rw [if_pos h, if_neg (show ¬ 9 < v from fun q => absurd (Int32.lt_trans h q) Int32.lt_irrefl)]
    by_cases h2 : v < -9
    · rw [if_neg (fun q => absurd (Int32.lt_trans h2 q) Int32.lt_irrefl), if_pos h2]
    · rw [if_neg h2]
      by_cases h3 : -9 < v
      · rw [if_pos h3]
      · rw [if_neg h3]; exact Int32.le_antisymm (Int32.not_lt.mp h2) (Int32.not_lt.mp h3)
  · have h4 := Int32.not_lt.mp h
    rw [if_neg h, if_pos (by decide), if_neg (show ¬ v < -9 from fun q => absurd (Int32.lt_of_le_of_lt h4 q) (by decide))]
    by_cases h2 : 9 < v
    · rw [if_pos h2]
    · rw [if_neg h2]; exact Int32.le_antisymm h4 (Int32.not_lt.mp h2)
theorem nm6_c {M : xM} {a b c d e f : Int32} : ∀ j, j < 6 → (x_up (x_up (x_up (x_up (x_up (x_up M 5 0 a) 5 1 b) 5 2 c) 5 3 d) 5 4 e) 5 5 f) 5 j = nm6 a b c d e f j := fun j hj => by
  match j, hj with
  | 0, _ => rfl
  | 1, _ => rfl
  | 2, _ => rfl
  | 3, _ => rfl
  | 4, _ => rfl
  | 5, _ => rfl
set_option maxRecDepth 100000 in
set_option maxHeartbeats 4000000 in
theorem c_X3_withoutText (a b : Int32) {l : Launch} {G : xG} {sh : List xS} {M : xM} {J : xJ} : x_M l G fX3_withoutText 0 0 0 [.int (a), .int (b)] sh M J (qE (some (.int (if a ≤ 2 then b else if 10 ≤ a then -1 else 0))) sh M J) := by
  refine xb_of pX3 (Nat.le_of_ble_eq_true rfl) rfl ?_
  refine xr_iload_n dX3_withoutText_0 0 rfl ?_
  refine xr_iconst (v := 2) dX3_withoutText_1 rfl ?_
  refine xr_icmp_gt (tgt := 7) dX3_withoutText_2 rfl (fun c1 => ?_) (fun c1 => ?_)
  · refine xr_iload_n dX3_withoutText_7 0 rfl ?_
    refine xr_bipush (v := 10) dX3_withoutText_8 rfl ?_
    refine xr_icmp_lt (tgt := 17) dX3_withoutText_10 rfl (fun c2 => ?_) (fun c2 => ?_)
    · refine xr_iconst (v := 0) dX3_withoutText_17 rfl ?_
      exact xr_iret dX3_withoutText_18 rfl rfl (⟨congrArg (fun z => some (Value.int z)) (by grind), rfl, rfl, rfl⟩)
    · refine xr_iconst (v := -1) dX3_withoutText_13 rfl ?_
      refine xr_goto (tgt := 18) dX3_withoutText_14 rfl ?_
      exact xr_iret dX3_withoutText_18 rfl rfl (⟨congrArg (fun z => some (Value.int z)) (by grind), rfl, rfl, rfl⟩)
  · refine xr_iload_n dX3_withoutText_5 1 rfl ?_
    exact xr_iret dX3_withoutText_6 rfl rfl (⟨congrArg (fun z => some (Value.int z)) (by grind), rfl, rfl, rfl⟩)
set_option maxRecDepth 100000 in
set_option maxHeartbeats 4000000 in
theorem gs_X3_more_n (go fo : Int32) {q : Nat} (hq : x_SH[q]? = some (.inl (2, [none, none, none, none, none]))) {l : Launch} {G : xG} {M : xM} {J : xJ} (hq5 : q ≠ 5) (hL : LCt M none) : x_M l G fX3_more 3 0 0 [.ref (1), .ref (q), .int (go), .int (fo)] x_SH M J (qKI WL M J (fun r M2 => r = w_more none (w_ff (M q 2 - go)) (w_ab (M q 3)) (M q 0) (M q 1) fo (M q 4))) := by
  refine xb_of pX3 (Nat.le_of_ble_eq_true rfl) rfl ?_
  refine xr_aload_n dX3_more_0 1 rfl ?_
  refine xr_iload_n dX3_more_1 2 rfl ?_
  refine xb_cV (As := [.int (go)]) (rest := []) mlX3_34 (gw_X2_farFrom go hq) dX3_more_2 hq rfl rfl (Nat.le_of_ble_eq_true rfl) (by decide) (by decide) ?_
  refine xr_istore (ls2 := [(4, .int ((w_ff (M q 2 - go)))), (0, .ref (1)), (1, .ref (q)), (2, .int (go)), (3, .int (fo))]) dX3_more_5 (by decide) rfl ?_
  refine xr_aload_n dX3_more_7 1 rfl ?_
  refine xb_get (v := 0) flX3_24 dX3_more_8 s_1 rfl hL ?_
  refine xr_if_ne (tgt := 21) dX3_more_11 rfl (fun c => absurd (by decide) c) (fun _ => ?_)
  refine xr_iload dX3_more_14 0 rfl ?_
  refine xr_iload_n dX3_more_16 4 rfl ?_
  refine xb_cS (As := [.int ((w_ff (M q 2 - go))), .int (fo)]) (rest := []) mlX3_40 (c_X3_withoutText (w_ff (M q 2 - go)) fo) dX3_more_17 rfl rfl (Nat.le_of_ble_eq_true rfl) (by decide) (by decide) ?_
  exact xr_iret dX3_more_20 rfl rfl (⟨_, rfl, rfl, rfl, Ke.rf, rfl⟩)
set_option maxRecDepth 100000 in
set_option maxHeartbeats 4000000 in
theorem gs_X3_more_s (go fo : Int32) {ls : zL} {q : Nat} (hq : x_SH[q]? = some (.inl (2, [none, none, none, none, none]))) {l : Launch} {G : xG} {M : xM} {J : xJ} (hq5 : q ≠ 5) (hL : LCt M (some ls)) : x_M l G fX3_more 3 0 0 [.ref (1), .ref (q), .int (go), .int (fo)] x_SH M J (qKI WL M J (fun r M2 => r = w_more (some ls) (w_ff (M q 2 - go)) (w_ab (M q 3)) (M q 0) (M q 1) fo (M q 4))) := by
  refine xb_of pX3 (Nat.le_of_ble_eq_true rfl) rfl ?_
  obtain ⟨L, hL1, hL2, hL3, hL4, hL5, hL6⟩ := hL
  refine xr_aload_n dX3_more_0 1 rfl ?_
  refine xr_iload_n dX3_more_1 2 rfl ?_
  refine xb_cV (As := [.int (go)]) (rest := []) mlX3_34 (gw_X2_farFrom go hq) dX3_more_2 hq rfl rfl (Nat.le_of_ble_eq_true rfl) (by decide) (by decide) ?_
  refine xr_istore (ls2 := [(4, .int ((w_ff (M q 2 - go)))), (0, .ref (1)), (1, .ref (q)), (2, .int (go)), (3, .int (fo))]) dX3_more_5 (by decide) rfl ?_
  refine xr_aload_n dX3_more_7 1 rfl ?_
  refine xb_get (v := nI (L)) flX3_24 dX3_more_8 s_1 rfl hL3 ?_
  refine xr_if_ne (tgt := 21) dX3_more_11 rfl (fun _ => ?_) (fun c => absurd c (fun q => absurd ((nI_eq (a := L) (b := 0) (by omega) (by decide)).mp q) (by omega)))
  refine xr_aload_n dX3_more_21 1 rfl ?_
  refine xr_getR flX3_21 dX3_more_22 s_1 rfl ?_
  refine xr_iconst (v := 0) dX3_more_25 rfl ?_
  refine xr_iload dX3_more_26 0 rfl ?_
  refine xb_iast (j := 0) dX3_more_28 s_5 (by decide) (by decide) ?_
  refine xr_aload_n dX3_more_29 1 rfl ?_
  refine xr_getR flX3_21 dX3_more_30 s_1 rfl ?_
  refine xr_iconst (v := 1) dX3_more_33 rfl ?_
  refine xr_aload_n dX3_more_34 2 rfl ?_
  refine xb_cV (As := []) (rest := [.int (1), .ref (5)]) mlX3_44 (c_X2_speed hq) dX3_more_35 hq rfl rfl (Nat.le_of_ble_eq_true rfl) (by decide) (by decide) ?_
  refine xb_top (y := w_ab (M q 3)) ((w_ab_c _).trans (congrArg w_ab (Eq.trans (congrFun (x_up_n _ _ _ hq5) _) rfl))) ?_
  refine xb_iast (j := 1) dX3_more_38 s_5 (by decide) (by decide) ?_
  refine xr_aload_n dX3_more_39 1 rfl ?_
  refine xr_getR flX3_21 dX3_more_40 s_1 rfl ?_
  refine xr_iconst (v := 2) dX3_more_43 rfl ?_
  refine xr_aload_n dX3_more_44 2 rfl ?_
  refine xb_get (v := (M q 0)) flX3_48 dX3_more_45 hq rfl (Eq.trans (congrFun (x_up_n _ _ _ hq5) _) (Eq.trans (congrFun (x_up_n _ _ _ hq5) _) rfl)) ?_
  refine xb_iast (j := 2) dX3_more_48 s_5 (by decide) (by decide) ?_
  refine xr_aload_n dX3_more_49 1 rfl ?_
  refine xr_getR flX3_21 dX3_more_50 s_1 rfl ?_
  refine xr_iconst (v := 3) dX3_more_53 rfl ?_
  refine xr_aload_n dX3_more_54 2 rfl ?_
  refine xb_get (v := (M q 1)) flX3_51 dX3_more_55 hq rfl (Eq.trans (congrFun (x_up_n _ _ _ hq5) _) (Eq.trans (congrFun (x_up_n _ _ _ hq5) _) (Eq.trans (congrFun (x_up_n _ _ _ hq5) _) rfl))) ?_
  refine xb_iast (j := 3) dX3_more_58 s_5 (by decide) (by decide) ?_
  refine xr_aload_n dX3_more_59 1 rfl ?_
  refine xr_getR flX3_21 dX3_more_60 s_1 rfl ?_
  refine xr_iconst (v := 4) dX3_more_63 rfl ?_
  refine xr_iload_n dX3_more_64 4 rfl ?_
  refine xb_iast (j := 4) dX3_more_65 s_5 (by decide) (by decide) ?_
  refine xr_aload_n dX3_more_66 1 rfl ?_
  refine xr_getR flX3_21 dX3_more_67 s_1 rfl ?_
  refine xr_iconst (v := 5) dX3_more_70 rfl ?_
  refine xr_aload_n dX3_more_71 2 rfl ?_
  refine xb_get (v := (M q 4)) flX3_54 dX3_more_72 hq rfl (Eq.trans (congrFun (x_up_n _ _ _ hq5) _) (Eq.trans (congrFun (x_up_n _ _ _ hq5) _) (Eq.trans (congrFun (x_up_n _ _ _ hq5) _) (Eq.trans (congrFun (x_up_n _ _ _ hq5) _) (Eq.trans (congrFun (x_up_n _ _ _ hq5) _) rfl))))) ?_
  refine xb_iast (j := 5) dX3_more_75 s_5 (by decide) (by decide) ?_
  refine xr_aload_n dX3_more_76 1 rfl ?_
  refine xr_callV (As := []) (rest := []) mlX3_57 (gs_X3_worth (ls := ls) hL2 (Eq.trans (congrFun (x_up_n _ _ _ (by decide)) _) (Eq.trans (congrFun (x_up_n _ _ _ (by decide)) _) (Eq.trans (congrFun (x_up_n _ _ _ (by decide)) _) (Eq.trans (congrFun (x_up_n _ _ _ (by decide)) _) (Eq.trans (congrFun (x_up_n _ _ _ (by decide)) _) (Eq.trans (congrFun (x_up_n _ _ _ (by decide)) _) hL3)))))) (hL6 _) (CL_k (fun kl => (Eq.trans (congrFun (x_up_n _ _ _ (by omega)) _) (Eq.trans (congrFun (x_up_n _ _ _ (by omega)) _) (Eq.trans (congrFun (x_up_n _ _ _ (by omega)) _) (Eq.trans (congrFun (x_up_n _ _ _ (by omega)) _) (Eq.trans (congrFun (x_up_n _ _ _ (by omega)) _) (Eq.trans (congrFun (x_up_n _ _ _ (by omega)) _) rfl))))))) (fun kl => (Eq.trans (congrFun (x_up_n _ _ _ (by omega)) _) (Eq.trans (congrFun (x_up_n _ _ _ (by omega)) _) (Eq.trans (congrFun (x_up_n _ _ _ (by omega)) _) (Eq.trans (congrFun (x_up_n _ _ _ (by omega)) _) (Eq.trans (congrFun (x_up_n _ _ _ (by omega)) _) (Eq.trans (congrFun (x_up_n _ _ _ (by omega)) _) rfl))))))) hL5) hL4) dX3_more_77 s_1 rfl rfl (Nat.le_of_ble_eq_true rfl) (by decide) ⟨by decide, by decide⟩ (fun v s2 M2 J2 hq => ?_)
  obtain ⟨r4, rfl, rfl, rfl, k3, hr1⟩ := hq
  try dsimp only [Option.toList, List.cons_append, List.nil_append]
  refine xr_bipush (v := -9) dX3_more_80 rfl ?_
  refine xr_bipush (v := 9) dX3_more_82 rfl ?_
  refine xb_cN (As := [.int (r4), .int ((-9)), .int (9)]) (rest := []) mlX3_60 (c_X9_within r4 (-9) 9) dX3_more_84 rfl rfl (Nat.le_of_ble_eq_true rfl) (by decide) (by decide) ?_
  exact xr_iret dX3_more_87 rfl rfl (⟨_, rfl, rfl, rfl, (Ke.tr (fun pp kk => (fun hh => Or.elim hh (fun h => (Or.inl (by omega))) (fun h => (Or.inr h)))) (Ke.up (Or.inl (by omega)) (Ke.up (Or.inl (by omega)) (Ke.up (Or.inl (by omega)) (Ke.up (Or.inl (by omega)) (Ke.up (Or.inl (by omega)) (Ke.up (Or.inl (by omega)) Ke.rf)))))) k3), (by rw [hr1]; exact (w_c9_c _).trans (congrArg w_c9 (evT_c nm6_c ls (hL6 _))))⟩)
theorem gs_X3_more (go fo : Int32) {t : Option zL} {q : Nat} (hq : x_SH[q]? = some (.inl (2, [none, none, none, none, none]))) {l : Launch} {G : xG} {M : xM} {J : xJ} (hq5 : q ≠ 5) (hL : LCt M t) : x_M l G fX3_more 3 0 0 [.ref 1, .ref (q), .int (go), .int (fo)] x_SH M J (qKI WL M J (fun r M2 => r = w_more t (w_ff (M q 2 - go)) (w_ab (M q 3)) (M q 0) (M q 1) fo (M q 4))) := by
  cases t with
  | none => exact gs_X3_more_n go fo hq hq5 hL
  | some ls => exact gs_X3_more_s go fo hq hq5 hL
set_option maxRecDepth 100000 in
set_option maxHeartbeats 4000000 in
theorem c_X5_areCrossed {q : Nat} (hq : x_SH[q]? = some (.inl (2, [none, none, none, none, none]))) {o : Nat} (ho : x_SH[o]? = some (.inl (2, [none, none, none, none, none]))) {l : Launch} {G : xG} {M : xM} {J : xJ} : x_M l G fX5_areCrossed 1 0 0 [.ref q, .ref o] x_SH M J (qE (some (.int (bI (¬ M q 4 = 0 ∧ ¬ M o 4 = 0 ∧ M q 2 = M o 2)))) x_SH M J) := by
  refine xb_of pX5 (Nat.le_of_ble_eq_true rfl) rfl ?_
  refine xr_aload_n dX5_areCrossed_0 0 rfl ?_
  refine xb_cV (As := []) (rest := []) mlX5_70 (c_X2_lies hq) dX5_areCrossed_1 hq rfl rfl (Nat.le_of_ble_eq_true rfl) (by decide) (by decide) ?_
  refine xb_bne (tgt := 29) dX5_areCrossed_4 rfl (fun c1 => ?_) (fun c1 => ?_)
  · refine xr_iconst (v := 0) dX5_areCrossed_29 rfl ?_
    exact xr_iret dX5_areCrossed_30 rfl rfl (⟨congrArg (fun z => some (Value.int z)) (bI_f (fun z => z.1 c1)).symm, rfl, rfl, rfl⟩)
  · refine xr_aload_n dX5_areCrossed_7 1 rfl ?_
    refine xb_cV (As := []) (rest := []) mlX5_70 (c_X2_lies ho) dX5_areCrossed_8 ho rfl rfl (Nat.le_of_ble_eq_true rfl) (by decide) (by decide) ?_
    refine xb_bne (tgt := 29) dX5_areCrossed_11 rfl (fun c2 => ?_) (fun c2 => ?_)
    · refine xr_iconst (v := 0) dX5_areCrossed_29 rfl ?_
      exact xr_iret dX5_areCrossed_30 rfl rfl (⟨congrArg (fun z => some (Value.int z)) (bI_f (fun z => z.2.1 c2)).symm, rfl, rfl, rfl⟩)
    · refine xr_aload_n dX5_areCrossed_14 0 rfl ?_
      refine xb_get (v := M q 2) flX5_124 dX5_areCrossed_15 hq rfl rfl ?_
      refine xr_aload_n dX5_areCrossed_18 1 rfl ?_
      refine xb_get (v := M o 2) flX5_124 dX5_areCrossed_19 ho rfl rfl ?_
      refine xr_icmp_ne (tgt := 29) dX5_areCrossed_22 rfl (fun c3 => ?_) (fun c3 => ?_)
      · refine xr_iconst (v := 0) dX5_areCrossed_29 rfl ?_
        exact xr_iret dX5_areCrossed_30 rfl rfl (⟨congrArg (fun z => some (Value.int z)) (bI_f (fun z => c3 z.2.2)).symm, rfl, rfl, rfl⟩)
      · refine xr_iconst (v := 1) dX5_areCrossed_25 rfl ?_
        refine xr_goto (tgt := 30) dX5_areCrossed_26 rfl ?_
        exact xr_iret dX5_areCrossed_30 rfl rfl (⟨congrArg (fun z => some (Value.int z)) (bI_t ⟨c1, c2, c3⟩).symm, rfl, rfl, rfl⟩)
abbrev W13u (p k : Nat) : Prop := (4 ≤ p ∧ p ≤ 5) ∨ (p = 1 ∧ k = 5) ∨ (p = 13 ∧ k = 3) ∨ (p = 13 ∧ k = 8) ∨ (p = 13 ∧ k = 9) ∨ (15 ≤ p ∧ p ≤ 19)
theorem upn_z {D : xM} {k : Nat} {u : Int32} (h : u = nI (upn k D)) (c : D k 4 = 0) : u = nI (upn (k + 1) D) := by
  rw [h, show upn (k + 1) D = upn k D from by show upn k D + (if D k 4 = 0 then 0 else 1) = _; rw [if_pos c]; rfl]
theorem upn_o {D : xM} {k : Nat} {u : Int32} (h : u = nI (upn k D)) (c : ¬ D k 4 = 0) : u + 1 = nI (upn (k + 1) D) := by
  rw [h, show upn (k + 1) D = upn k D + 1 from by show upn k D + (if D k 4 = 0 then 0 else 1) = _; rw [if_neg c], nI_1]
theorem tkp_p {n : Nat} {t : Option zL} {rub bt ph st nw : Int32} {D : xM} (c : w_due bt ph nw) : tkp (n, t, rub, bt, ph, st) nw D = puL t st (w_go bt nw) n 0 D := if_pos c
theorem tkp_n {n : Nat} {t : Option zL} {rub bt ph st nw : Int32} {D : xM} (c : ¬ w_due bt ph nw) : tkp (n, t, rub, bt, ph, st) nw D = D := if_neg c
theorem tk_9 {P : xP} {nw lf v : Int32} {D : xM} (h : v = if upn P.1 (seT P.1 P.2.2.1 nw (tkp P nw D)) < upn P.1 (tkp P nw D) then nw else lf) : v = if upn P.1 (tiF P nw D) < upn P.1 D then nw else lf := by rw [upn_4 tkp_s.1] at h; exact h
set_option maxRecDepth 100000 in
set_option maxHeartbeats 4000000 in
theorem c_X5_isPushDue_13 {nw bt ph : Int32} (hbt : ¬ bt = 0) {l : Launch} {G : xG} {M : xM} {J : xJ} (e_nw : M 13 3 = nw) (e_bt : M 13 5 = bt) (e_ph : M 13 6 = ph) : x_M l G fX5_isPushDue 1 0 0 [.ref 13] x_SH M J (qE (some (.int (bI (w_due bt ph nw)))) x_SH M J) := by
  refine xb_of pX5 (Nat.le_of_ble_eq_true rfl) rfl ?_
  refine xr_aload_n dX5_isPushDue_0 0 rfl ?_
  refine xb_get (v := nw) flX5_42 dX5_isPushDue_1 s_13 rfl e_nw ?_
  refine xr_aload_n dX5_isPushDue_4 0 rfl ?_
  refine xb_get (v := bt) flX5_26 dX5_isPushDue_5 s_13 rfl e_bt ?_
  refine xb_cN (As := [.int (nw), .int (bt)]) (rest := []) mlX5_79 (c_X9_rest nw bt) dX5_isPushDue_8 rfl rfl (Nat.le_of_ble_eq_true rfl) (by decide) (by decide) ?_
  refine xr_aload_n dX5_isPushDue_11 0 rfl ?_
  refine xb_get (v := ph) flX5_45 dX5_isPushDue_12 s_13 rfl e_ph ?_
  refine xr_aload_n dX5_isPushDue_15 0 rfl ?_
  refine xb_get (v := bt) flX5_26 dX5_isPushDue_16 s_13 rfl e_bt ?_
  refine xb_cN (As := [.int (ph), .int (bt)]) (rest := [.int ((if bt = 0 then 0 else nw - nw / bt * bt))]) mlX5_79 (c_X9_rest ph bt) dX5_isPushDue_19 rfl rfl (Nat.le_of_ble_eq_true rfl) (by decide) (by decide) ?_
  refine xr_icmp_ne (tgt := 29) dX5_isPushDue_22 rfl (fun c1 => ?_) (fun c1 => ?_)
  · refine xr_iconst (v := 0) dX5_isPushDue_29 rfl ?_
    exact xr_iret dX5_isPushDue_30 rfl rfl (⟨congrArg (fun z => some (Value.int z)) (bI_f (fun z => c1 (by rw [if_neg hbt, if_neg hbt]; exact z))).symm, rfl, rfl, rfl⟩)
  · refine xr_iconst (v := 1) dX5_isPushDue_25 rfl ?_
    refine xr_goto (tgt := 30) dX5_isPushDue_26 rfl ?_
    exact xr_iret dX5_isPushDue_30 rfl rfl (⟨congrArg (fun z => some (Value.int z)) (bI_t (by have z := c1; rw [if_neg hbt, if_neg hbt] at z; exact z)).symm, rfl, rfl, rfl⟩)
set_option maxRecDepth 100000 in
set_option maxHeartbeats 4000000 in
theorem c_X5_goalInTurn_13 {nw bt : Int32} (hbt : ¬ bt = 0) {l : Launch} {G : xG} {M : xM} {J : xJ} (e_nw : M 13 3 = nw) (e_bt : M 13 5 = bt) : x_M l G fX5_goalInTurn 1 0 0 [.ref 13] x_SH M J (qE (some (.int (w_go bt nw))) x_SH M J) := by
  refine xb_of pX5 (Nat.le_of_ble_eq_true rfl) rfl ?_
  refine xr_aload_n dX5_goalInTurn_0 0 rfl ?_
  refine xb_get (v := bt) flX5_26 dX5_goalInTurn_1 s_13 rfl e_bt ?_
  refine xr_if_ne (tgt := 11) dX5_goalInTurn_4 rfl (fun _ => ?_) (fun c => absurd c hbt)
  refine xr_aload_n dX5_goalInTurn_11 0 rfl ?_
  refine xb_get (v := nw) flX5_42 dX5_goalInTurn_12 s_13 rfl e_nw ?_
  refine xr_aload_n dX5_goalInTurn_15 0 rfl ?_
  refine xb_get (v := bt) flX5_26 dX5_goalInTurn_16 s_13 rfl e_bt ?_
  refine xr_idiv dX5_goalInTurn_19 hbt ?_
  refine xb_cN (As := [.int ((nw / bt))]) (rest := []) mlX5_83 (c_X9_goalOf (nw / bt)) dX5_goalInTurn_20 rfl rfl (Nat.le_of_ble_eq_true rfl) (by decide) (by decide) ?_
  exact xr_iret dX5_goalInTurn_23 rfl rfl (⟨rfl, rfl, rfl, rfl⟩)
set_option maxRecDepth 100000 in
set_option maxHeartbeats 4000000 in
theorem upx_13 {D : xM} {cn : Nat} (h_cn : cn ≤ 5) {l : Launch} {G : xG} {M : xM} {J : xJ} {Q : xQ} (e_cn : M 13 2 = nI cn) (hA : AbC 15 cn M D) (hC : ∀ (up : Int32), (up = nI (upn cn D)) → x_X l G fX5_upright 1 0 0 Q 33 [(1, .int (up)), (0, .ref (13))] [] x_SH M J 0 0) : ∀ (m k : Nat) (up : Int32), k + m = cn → (up = nI (upn k D)) → x_X l G fX5_upright 1 0 0 Q 4 [(2, .int (nI (k))), (1, .int (up)), (0, .ref (13))] [] x_SH M J 0 0 := by
  intro m
  induction m with
  | zero =>
    intro k up hk hI
    refine xr_iload_n dX5_upright_4 0 rfl ?_
    refine xr_aload_n dX5_upright_5 2 rfl ?_
    refine xb_get (v := nI (cn)) flX5_35 dX5_upright_6 s_13 rfl e_cn ?_
    refine xr_icmp_ge (tgt := 33) dX5_upright_9 rfl (fun _ => ?_) (fun c => absurd (nI_le (a := cn) (b := k) (by omega) (by omega)) c)
    refine xb_ls (ls2 := [(1, .int (up)), (0, .ref (13))]) [1, 2] rfl ?_
    exact hC up (by obtain rfl : k = cn := (by omega); exact hI)
  | succ m ih =>
    intro k up hk hI
    have hkN : k < cn := by omega
    refine xr_iload_n dX5_upright_4 0 rfl ?_
    refine xr_aload_n dX5_upright_5 2 rfl ?_
    refine xb_get (v := nI (cn)) flX5_35 dX5_upright_6 s_13 rfl e_cn ?_
    refine xr_icmp_ge (tgt := 33) dX5_upright_9 rfl (fun c => absurd c (nI_ge (a := k) (b := cn) (by omega) (by omega))) (fun _ => ?_)
    refine xr_aload_n dX5_upright_12 2 rfl ?_
    refine xr_getR flX5_17 dX5_upright_13 s_13 rfl ?_
    refine xr_iload_n dX5_upright_16 0 rfl ?_
    refine xb_aald (j := k) (q := 15 + k) (by decide) dX5_upright_17 s_14 (by omega) (by decide) (if_pos (by omega)) ?_
    refine xb_cV (As := []) (rest := []) mlX5_70 (c_X2_lies (s_hp15 (by omega))) dX5_upright_18 (s_hp15 (by omega)) rfl rfl (Nat.le_of_ble_eq_true rfl) (by decide) (by decide) ?_
    refine xb_bne (tgt := 27) dX5_upright_21 rfl (fun c1 => ?_) (fun c1 => ?_)
    · refine xr_iinc (v := nI (k + 1)) (ls2 := [(2, .int (nI (k + 1))), (1, .int (up)), (0, .ref (13))]) dX5_upright_27 0 rfl (nI_1 _) (by decide) rfl ?_
      refine xr_goto (tgt := 4) dX5_upright_30 rfl ?_
      refine xb_ls (ls2 := [(2, .int (nI (k + 1))), (1, .int (up)), (0, .ref (13))]) [0, 1, 2] rfl ?_
      exact ih (k + 1) up (by omega) (upn_z hI (by rw [← hA k (by omega) 4 (by decide)]; exact c1))
    · refine xr_iinc (v := up + 1) (ls2 := [(1, .int (up + 1)), (2, .int (nI (k))), (0, .ref (13))]) dX5_upright_24 1 rfl rfl (by decide) rfl ?_
      refine xr_iinc (v := nI (k + 1)) (ls2 := [(2, .int (nI (k + 1))), (1, .int (up + 1)), (0, .ref (13))]) dX5_upright_27 1 rfl (nI_1 _) (by decide) rfl ?_
      refine xr_goto (tgt := 4) dX5_upright_30 rfl ?_
      refine xb_ls (ls2 := [(2, .int (nI (k + 1))), (1, .int (up + 1)), (0, .ref (13))]) [0, 1, 2] rfl ?_
      exact ih (k + 1) (up + 1) (by omega) (upn_o hI (by rw [← hA k (by omega) 4 (by decide)]; exact c1))
set_option maxRecDepth 100000 in
set_option maxHeartbeats 4000000 in
theorem gw_X5_upright_13 {D : xM} {cn : Nat} (h_cn : cn ≤ 5) {l : Launch} {G : xG} {M : xM} {J : xJ} (e_cn : M 13 2 = nI cn) (hA : AbC 15 cn M D) : x_M l G fX5_upright 1 0 0 [.ref (13)] x_SH M J (qPI M J (fun r => r = nI (upn cn D))) := by
  refine xb_of pX5 (Nat.le_of_ble_eq_true rfl) rfl ?_
  refine xr_iconst (v := 0) dX5_upright_0 rfl ?_
  refine xr_istore_n (ls2 := [(1, .int (0)), (0, .ref (13))]) dX5_upright_1 (by decide) rfl ?_
  refine xr_iconst (v := 0) dX5_upright_2 rfl ?_
  refine xr_istore_n (ls2 := [(2, .int (0)), (1, .int (0)), (0, .ref (13))]) dX5_upright_3 (by decide) rfl ?_
  refine xb_ls (ls2 := [(2, .int (nI (0))), (1, .int (0)), (0, .ref (13))]) [0, 1, 2] rfl ?_
  refine upx_13 h_cn e_cn hA (fun q1 hI => ?_) (cn - 0) 0 0 (by omega) rfl
  refine xr_iload_n dX5_upright_33 0 rfl ?_
  exact xr_iret dX5_upright_34 rfl rfl (⟨_, rfl, rfl, rfl, rfl, hI⟩)
set_option maxRecDepth 100000 in
set_option maxHeartbeats 4000000 in
theorem pux_13 {fo go : Int32} {t : Option zL} {cn : Nat} (h_cn : cn ≤ 5) (T : xM) {l : Launch} {G : xG} {M : xM} {J : xJ} {Q : xQ} (e_cn : M 13 2 = nI cn) (hL : LCt M t) (hgo : 0 ≤ go ∧ go < 24) (hC : ∀ (M2 : xM), Ke W13p M M2 → (PUi 15 cn t fo go T M2 cn) → x_X l G fX5_push 4 0 0 Q 52 [(2, .int (go)), (1, .int (fo)), (0, .ref (13))] [] x_SH M2 J 0 0) : ∀ (m k : Nat) (M1 : xM), k + m = cn → Ke W13p M M1 → (PUi 15 cn t fo go T M1 k) → x_X l G fX5_push 4 0 0 Q 2 [(3, .int (nI (k))), (2, .int (go)), (1, .int (fo)), (0, .ref (13))] [] x_SH M1 J 0 0 := by
  intro m
  induction m with
  | zero =>
    intro k M1 hk hM hI
    refine xr_iload_n dX5_push_2 0 rfl ?_
    refine xr_aload_n dX5_push_3 3 rfl ?_
    refine xb_get (v := nI (cn)) flX5_35 dX5_push_4 s_13 rfl (Eq.trans (hM 13 2 (by decide)) e_cn) ?_
    refine xr_icmp_ge (tgt := 52) dX5_push_7 rfl (fun _ => ?_) (fun c => absurd (nI_le (a := cn) (b := k) (by omega) (by omega)) c)
    refine xb_ls (ls2 := [(2, .int (go)), (1, .int (fo)), (0, .ref (13))]) [1, 2, 3] rfl ?_
    exact hC _ hM (by obtain rfl : k = cn := (by omega); exact hI)
  | succ m ih =>
    intro k M1 hk hM hI
    have hkN : k < cn := by omega
    refine xr_iload_n dX5_push_2 0 rfl ?_
    refine xr_aload_n dX5_push_3 3 rfl ?_
    refine xb_get (v := nI (cn)) flX5_35 dX5_push_4 s_13 rfl (Eq.trans (hM 13 2 (by decide)) e_cn) ?_
    refine xr_icmp_ge (tgt := 52) dX5_push_7 rfl (fun c => absurd c (nI_ge (a := k) (b := cn) (by omega) (by omega))) (fun _ => ?_)
    refine xr_aload_n dX5_push_10 3 rfl ?_
    refine xr_getR flX5_17 dX5_push_11 s_13 rfl ?_
    refine xr_iload_n dX5_push_14 0 rfl ?_
    refine xb_aald (j := k) (q := 15 + k) (by decide) dX5_push_15 s_14 (by omega) (by decide) (if_pos (by omega)) ?_
    refine xb_cV (As := []) (rest := []) mlX5_70 (c_X2_lies (s_hp15 (by omega))) dX5_push_16 (s_hp15 (by omega)) rfl rfl (Nat.le_of_ble_eq_true rfl) (by decide) (by decide) ?_
    refine xb_bne (tgt := 46) dX5_push_19 rfl (fun c1 => ?_) (fun c1 => ?_)
    · refine xr_iinc (v := nI (k + 1)) (ls2 := [(3, .int (nI (k + 1))), (2, .int (go)), (1, .int (fo)), (0, .ref (13))]) dX5_push_46 0 rfl (nI_1 _) (by decide) rfl ?_
      refine xr_goto (tgt := 2) dX5_push_49 rfl ?_
      refine xb_ls (ls2 := [(3, .int (nI (k + 1))), (2, .int (go)), (1, .int (fo)), (0, .ref (13))]) [0, 1, 2, 3] rfl ?_
      exact ih (k + 1) M1 (by omega) hM (PUi_z hI (by omega) c1)
    · refine xr_aload_n dX5_push_22 3 rfl ?_
      refine xr_getR flX5_17 dX5_push_23 s_13 rfl ?_
      refine xr_iload_n dX5_push_26 0 rfl ?_
      refine xb_aald (j := k) (q := 15 + k) (by decide) dX5_push_27 s_14 (by omega) (by decide) (if_pos (by omega)) ?_
      refine xr_aload_n dX5_push_28 3 rfl ?_
      refine xr_getR flX5_9 dX5_push_29 s_13 rfl ?_
      refine xr_aload_n dX5_push_32 3 rfl ?_
      refine xr_getR flX5_17 dX5_push_33 s_13 rfl ?_
      refine xr_iload_n dX5_push_36 0 rfl ?_
      refine xb_aald (j := k) (q := 15 + k) (by decide) dX5_push_37 s_14 (by omega) (by decide) (if_pos (by omega)) ?_
      refine xr_iload_n dX5_push_38 1 rfl ?_
      refine xr_iload_n dX5_push_39 2 rfl ?_
      refine xr_callV (As := [.ref (15 + k), .int (go), .int (fo)]) (rest := [.ref (15 + k)]) mlX5_101 (gs_X3_more go fo (s_hp15 (by omega)) (by omega) (LCt_k (Eq.trans (hM 1 4 (by unfold W13p; omega)) rfl) (fun kl => (Eq.trans (hM 2 kl (by unfold W13p; omega)) rfl)) (fun kl => (Eq.trans (hM 3 kl (by unfold W13p; omega)) rfl)) hL)) dX5_push_40 s_1 rfl rfl (Nat.le_of_ble_eq_true rfl) (by decide) ⟨by decide, by decide⟩ (fun v s2 M3 J2 hq => ?_)
      obtain ⟨r5, rfl, rfl, rfl, k4, hr2⟩ := hq
      try dsimp only [Option.toList, List.cons_append, List.nil_append]
      refine xb_cV (As := [.int (r5)]) (rest := []) mlX5_107 (gw_X2_quicken r5 (s_hp15 (by omega))) dX5_push_43 (s_hp15 (by omega)) rfl rfl (Nat.le_of_ble_eq_true rfl) (by decide) (by decide) ?_
      refine xr_iinc (v := nI (k + 1)) (ls2 := [(3, .int (nI (k + 1))), (2, .int (go)), (1, .int (fo)), (0, .ref (13))]) dX5_push_46 0 rfl (nI_1 _) (by decide) rfl ?_
      refine xr_goto (tgt := 2) dX5_push_49 rfl ?_
      refine xb_ls (ls2 := [(3, .int (nI (k + 1))), (2, .int (go)), (1, .int (fo)), (0, .ref (13))]) [0, 1, 2, 3] rfl ?_
      exact ih (k + 1) (x_up M3 (15 + k) 3 (w_qk (M3 (15 + k) 3) (w_ab (M3 (15 + k) 3) + r5))) (by omega) (Ke.up (Or.inr (Or.inr (by omega))) (Ke.tr (fun pp kk => (fun hh => Or.elim hh (fun h => (Or.inl h)) (fun h => (Or.inr (Or.inl h))))) hM k4)) (PUi_s hgo hI (by omega) c1 (fun i hi j => k4 (15 + i) j (by unfold WL; omega)) hr2)
set_option maxRecDepth 100000 in
set_option maxHeartbeats 4000000 in
theorem gw_X5_push_13 (fo go : Int32) {t : Option zL} {D : xM} {cn : Nat} (h_cn : cn ≤ 5) {l : Launch} {G : xG} {M : xM} {J : xJ} (e_cn : M 13 2 = nI cn) (hL : LCt M t) (hgo : 0 ≤ go ∧ go < 24) (hA : AbC 15 cn M D) (hW : WF cn D) : x_M l G fX5_push 4 0 0 [.ref (13), .int (fo), .int (go)] x_SH M J (qKV W13p M J (fun M2 => AbC 15 cn M2 (puL t fo go cn 0 D))) := by
  refine xb_of pX5 (Nat.le_of_ble_eq_true rfl) rfl ?_
  refine xr_iconst (v := 0) dX5_push_0 rfl ?_
  refine xr_istore_n (ls2 := [(3, .int (0)), (0, .ref (13)), (1, .int (fo)), (2, .int (go))]) dX5_push_1 (by decide) rfl ?_
  refine xb_ls (ls2 := [(3, .int (nI (0))), (2, .int (go)), (1, .int (fo)), (0, .ref (13))]) [0, 3, 2, 1] rfl ?_
  refine pux_13 h_cn (puL t fo go cn 0 D) e_cn hL hgo (fun M1 k2 hI => ?_) (cn - 0) 0 M (by omega) Ke.rf ⟨D, hA, hW, rfl⟩
  exact xr_vret dX5_push_52 rfl (⟨rfl, rfl, rfl, (Ke.tr (fun _ _ h => h) Ke.rf k2), (PUi_T hI)⟩)
set_option maxRecDepth 100000 in
set_option maxHeartbeats 4000000 in
theorem cjx_13 {a : Nat} (ha : a < 5) {cn : Nat} (h_cn : cn ≤ 5) (T : xM) {l : Launch} {G : xG} {M : xM} {J : xJ} {Q : xQ} (e_cn : M 13 2 = nI cn) (hC : ∀ (M2 : xM), Ke W13h M M2 → (CJi 15 cn a T M2 cn ∧ a < cn) → x_X l G fX5_cross 3 0 0 Q 66 [(1, .int (nI (a))), (0, .ref (13))] [] x_SH M2 J 0 0) : ∀ (m k : Nat) (M1 : xM), k + m = cn → Ke W13h M M1 → (CJi 15 cn a T M1 k ∧ a < k) → x_X l G fX5_cross 3 0 0 Q 14 [(2, .int (nI (k))), (1, .int (nI (a))), (0, .ref (13))] [] x_SH M1 J 0 0 := by
  intro m
  induction m with
  | zero =>
    intro k M1 hk hM hI
    have hlt := hI.2
    refine xr_iload_n dX5_cross_14 0 rfl ?_
    refine xr_aload_n dX5_cross_15 2 rfl ?_
    refine xb_get (v := nI (cn)) flX5_35 dX5_cross_16 s_13 rfl (Eq.trans (hM 13 2 (by decide)) e_cn) ?_
    refine xr_icmp_ge (tgt := 66) dX5_cross_19 rfl (fun _ => ?_) (fun c => absurd (nI_le (a := cn) (b := k) (by omega) (by omega)) c)
    refine xb_ls (ls2 := [(1, .int (nI (a))), (0, .ref (13))]) [1, 2] rfl ?_
    exact hC _ hM (by obtain rfl : k = cn := (by omega); exact hI)
  | succ m ih =>
    intro k M1 hk hM hI
    have hkN : k < cn := by omega
    have hlt := hI.2
    refine xr_iload_n dX5_cross_14 0 rfl ?_
    refine xr_aload_n dX5_cross_15 2 rfl ?_
    refine xb_get (v := nI (cn)) flX5_35 dX5_cross_16 s_13 rfl (Eq.trans (hM 13 2 (by decide)) e_cn) ?_
    refine xr_icmp_ge (tgt := 66) dX5_cross_19 rfl (fun c => absurd c (nI_ge (a := k) (b := cn) (by omega) (by omega))) (fun _ => ?_)
    refine xr_aload_n dX5_cross_22 2 rfl ?_
    refine xr_getR flX5_17 dX5_cross_23 s_13 rfl ?_
    refine xr_iload_n dX5_cross_26 1 rfl ?_
    refine xb_aald (j := a) (q := 15 + a) (by decide) dX5_cross_27 s_14 (by omega) (by decide) (if_pos (by omega)) ?_
    refine xr_aload_n dX5_cross_28 2 rfl ?_
    refine xr_getR flX5_17 dX5_cross_29 s_13 rfl ?_
    refine xr_iload_n dX5_cross_32 0 rfl ?_
    refine xb_aald (j := k) (q := 15 + k) (by decide) dX5_cross_33 s_14 (by omega) (by decide) (if_pos (by omega)) ?_
    refine xb_cS (As := [.ref (15 + a), .ref (15 + k)]) (rest := []) mlX5_120 (c_X5_areCrossed (s_hp15 (by omega)) (s_hp15 (by omega))) dX5_cross_34 rfl rfl (Nat.le_of_ble_eq_true rfl) (by decide) (by decide) ?_
    refine xb_beq (tgt := 60) dX5_cross_37 rfl (fun c1 => ?_) (fun c1 => ?_)
    · refine xr_iinc (v := nI (k + 1)) (ls2 := [(2, .int (nI (k + 1))), (1, .int (nI (a))), (0, .ref (13))]) dX5_cross_60 0 rfl (nI_1 _) (by decide) rfl ?_
      refine xr_goto (tgt := 14) dX5_cross_63 rfl ?_
      refine xb_ls (ls2 := [(2, .int (nI (k + 1))), (1, .int (nI (a))), (0, .ref (13))]) [0, 1, 2] rfl ?_
      exact ih (k + 1) M1 (by omega) hM ⟨(CJi_n hI.2 hI.1 (by omega) c1), by omega⟩
    · refine xr_aload_n dX5_cross_40 2 rfl ?_
      refine xr_getR flX5_17 dX5_cross_41 s_13 rfl ?_
      refine xr_iload_n dX5_cross_44 1 rfl ?_
      refine xb_aald (j := a) (q := 15 + a) (by decide) dX5_cross_45 s_14 (by omega) (by decide) (if_pos (by omega)) ?_
      refine xr_iconst (v := -1) dX5_cross_46 rfl ?_
      refine xb_cV (As := [.int ((-1))]) (rest := []) mlX5_107 (gw_X2_quicken (-1) (s_hp15 (by omega))) dX5_cross_47 (s_hp15 (by omega)) rfl rfl (Nat.le_of_ble_eq_true rfl) (by decide) (by decide) ?_
      refine xr_aload_n dX5_cross_50 2 rfl ?_
      refine xr_getR flX5_17 dX5_cross_51 s_13 rfl ?_
      refine xr_iload_n dX5_cross_54 0 rfl ?_
      refine xb_aald (j := k) (q := 15 + k) (by decide) dX5_cross_55 s_14 (by omega) (by decide) (if_pos (by omega)) ?_
      refine xr_iconst (v := -1) dX5_cross_56 rfl ?_
      refine xb_cV (As := [.int ((-1))]) (rest := []) mlX5_107 (gw_X2_quicken (-1) (s_hp15 (by omega))) dX5_cross_57 (s_hp15 (by omega)) rfl rfl (Nat.le_of_ble_eq_true rfl) (by decide) (by decide) ?_
      refine xr_iinc (v := nI (k + 1)) (ls2 := [(2, .int (nI (k + 1))), (1, .int (nI (a))), (0, .ref (13))]) dX5_cross_60 0 rfl (nI_1 _) (by decide) rfl ?_
      refine xr_goto (tgt := 14) dX5_cross_63 rfl ?_
      refine xb_ls (ls2 := [(2, .int (nI (k + 1))), (1, .int (nI (a))), (0, .ref (13))]) [0, 1, 2] rfl ?_
      exact ih (k + 1) (x_up (x_up M1 (15 + a) 3 (w_qk (M1 (15 + a) 3) (w_ab (M1 (15 + a) 3) + (-1)))) (15 + k) 3 (w_qk ((x_up M1 (15 + a) 3 (w_qk (M1 (15 + a) 3) (w_ab (M1 (15 + a) 3) + (-1)))) (15 + k) 3) (w_ab ((x_up M1 (15 + a) 3 (w_qk (M1 (15 + a) 3) (w_ab (M1 (15 + a) 3) + (-1)))) (15 + k) 3) + (-1)))) (by omega) (Ke.up (by omega) (Ke.up (by omega) hM)) ⟨(CJi_y hI.2 hI.1 (by omega) c1), by omega⟩
set_option maxRecDepth 100000 in
set_option maxHeartbeats 4000000 in
theorem cix_13 {cn : Nat} (h_cn : cn ≤ 5) (T : xM) {l : Launch} {G : xG} {M : xM} {J : xJ} {Q : xQ} (e_cn : M 13 2 = nI cn) (hC : ∀ (M2 : xM), Ke W13h M M2 → (CIi 15 cn T M2 cn) → x_X l G fX5_cross 3 0 0 Q 72 [(0, .ref (13))] [] x_SH M2 J 0 0) : ∀ (m k : Nat) (M1 : xM), k + m = cn → Ke W13h M M1 → (CIi 15 cn T M1 k) → x_X l G fX5_cross 3 0 0 Q 2 [(1, .int (nI (k))), (0, .ref (13))] [] x_SH M1 J 0 0 := by
  intro m
  induction m with
  | zero =>
    intro k M1 hk hM hI
    refine xr_iload_n dX5_cross_2 0 rfl ?_
    refine xr_aload_n dX5_cross_3 1 rfl ?_
    refine xb_get (v := nI (cn)) flX5_35 dX5_cross_4 s_13 rfl (Eq.trans (hM 13 2 (by decide)) e_cn) ?_
    refine xr_icmp_ge (tgt := 72) dX5_cross_7 rfl (fun _ => ?_) (fun c => absurd (nI_le (a := cn) (b := k) (by omega) (by omega)) c)
    refine xb_ls (ls2 := [(0, .ref (13))]) [1] rfl ?_
    exact hC _ hM (by obtain rfl : k = cn := (by omega); exact hI)
  | succ m ih =>
    intro k M1 hk hM hI
    have hkN : k < cn := by omega
    refine xr_iload_n dX5_cross_2 0 rfl ?_
    refine xr_aload_n dX5_cross_3 1 rfl ?_
    refine xb_get (v := nI (cn)) flX5_35 dX5_cross_4 s_13 rfl (Eq.trans (hM 13 2 (by decide)) e_cn) ?_
    refine xr_icmp_ge (tgt := 72) dX5_cross_7 rfl (fun c => absurd c (nI_ge (a := k) (b := cn) (by omega) (by omega))) (fun _ => ?_)
    refine xr_iload_n dX5_cross_10 0 rfl ?_
    refine xr_iconst (v := 1) dX5_cross_11 rfl ?_
    refine xr_iadd dX5_cross_12 ?_
    refine xb_top (y := nI (k + 1)) (nI_add (k) (1)) ?_
    refine xr_istore_n (ls2 := [(2, .int (nI (k + 1))), (1, .int (nI (k))), (0, .ref (13))]) dX5_cross_13 (by decide) rfl ?_
    obtain ⟨D1, hA1, hW1, hT1⟩ := hI
    refine xb_ls (ls2 := [(2, .int (nI (k + 1))), (1, .int (nI (k))), (0, .ref (13))]) [0, 1, 2] rfl ?_
    refine cjx_13 (a := k) (by omega) h_cn (crJ k (cn - (k + 1)) (k + 1) D1) (Eq.trans (hM 13 2 (by decide)) e_cn) (fun M1 k2 hE => ?_) (cn - (k + 1)) (k + 1) M1 (by omega) Ke.rf ⟨⟨D1, hA1, hW1, rfl⟩, by omega⟩
    refine xr_iinc (v := nI (k + 1)) (ls2 := [(1, .int (nI (k + 1))), (0, .ref (13))]) dX5_cross_66 0 rfl (nI_1 _) (by decide) rfl ?_
    refine xr_goto (tgt := 2) dX5_cross_69 rfl ?_
    refine xb_ls (ls2 := [(1, .int (nI (k + 1))), (0, .ref (13))]) [0, 1] rfl ?_
    exact ih (k + 1) M1 (by omega) (Ke.tr (fun _ _ h => h) hM k2) (CIi_s (by omega) hT1 hE.1)
set_option maxRecDepth 100000 in
set_option maxHeartbeats 4000000 in
theorem gw_X5_cross_13 {D : xM} {cn : Nat} (h_cn : cn ≤ 5) {l : Launch} {G : xG} {M : xM} {J : xJ} (e_cn : M 13 2 = nI cn) (hA : AbC 15 cn M D) (hW : WF cn D) : x_M l G fX5_cross 3 0 0 [.ref (13)] x_SH M J (qKV W13h M J (fun M2 => AbC 15 cn M2 (crI cn cn 0 D) ∧ WF cn (crI cn cn 0 D))) := by
  refine xb_of pX5 (Nat.le_of_ble_eq_true rfl) rfl ?_
  refine xr_iconst (v := 0) dX5_cross_0 rfl ?_
  refine xr_istore_n (ls2 := [(1, .int (0)), (0, .ref (13))]) dX5_cross_1 (by decide) rfl ?_
  refine xb_ls (ls2 := [(1, .int (nI (0))), (0, .ref (13))]) [0, 1] rfl ?_
  refine cix_13 h_cn (crI cn cn 0 D) e_cn (fun M1 k2 hI => ?_) (cn - 0) 0 M (by omega) Ke.rf ⟨D, hA, hW, rfl⟩
  exact xr_vret dX5_cross_72 rfl (⟨rfl, rfl, rfl, (Ke.tr (fun _ _ h => h) Ke.rf k2), (CIi_T hI)⟩)
set_option maxRecDepth 100000 in
set_option maxHeartbeats 4000000 in
theorem s1x_13 {rub nw : Int32} (hrub : 0 ≤ rub ∧ rub ≤ 3) {cn : Nat} (h_cn : cn ≤ 5) (T : xM) {l : Launch} {G : xG} {M : xM} {J : xJ} {Q : xQ} (e_cn : M 13 2 = nI cn) (e_nw : M 13 3 = nw) (e_rub : M 13 4 = rub) (hC : ∀ (M2 : xM), Ke W13h M M2 → (S1i 15 cn rub nw T M2 cn) → x_X l G fX5_settle 4 0 0 Q 60 [(0, .ref (13))] [] x_SH M2 J 0 0) : ∀ (m k : Nat) (M1 : xM), k + m = cn → Ke W13h M M1 → (S1i 15 cn rub nw T M1 k) → x_X l G fX5_settle 4 0 0 Q 2 [(1, .int (nI (k))), (0, .ref (13))] [] x_SH M1 J 0 0 := by
  intro m
  induction m with
  | zero =>
    intro k M1 hk hM hI
    refine xr_iload_n dX5_settle_2 0 rfl ?_
    refine xr_aload_n dX5_settle_3 1 rfl ?_
    refine xb_get (v := nI (cn)) flX5_35 dX5_settle_4 s_13 rfl (Eq.trans (hM 13 2 (by decide)) e_cn) ?_
    refine xr_icmp_ge (tgt := 60) dX5_settle_7 rfl (fun _ => ?_) (fun c => absurd (nI_le (a := cn) (b := k) (by omega) (by omega)) c)
    refine xb_ls (ls2 := [(0, .ref (13))]) [1] rfl ?_
    exact hC _ hM (by obtain rfl : k = cn := (by omega); exact hI)
  | succ m ih =>
    intro k M1 hk hM hI
    have hkN : k < cn := by omega
    refine xr_iload_n dX5_settle_2 0 rfl ?_
    refine xr_aload_n dX5_settle_3 1 rfl ?_
    refine xb_get (v := nI (cn)) flX5_35 dX5_settle_4 s_13 rfl (Eq.trans (hM 13 2 (by decide)) e_cn) ?_
    refine xr_icmp_ge (tgt := 60) dX5_settle_7 rfl (fun c => absurd c (nI_ge (a := k) (b := cn) (by omega) (by omega))) (fun _ => ?_)
    refine xr_aload_n dX5_settle_10 1 rfl ?_
    refine xb_get (v := nw) flX5_42 dX5_settle_11 s_13 rfl (Eq.trans (hM 13 3 (by decide)) e_nw) ?_
    refine xr_iconst (v := 1) dX5_settle_14 rfl ?_
    refine xr_iadd dX5_settle_15 ?_
    refine xr_aload_n dX5_settle_16 1 rfl ?_
    refine xr_getR flX5_17 dX5_settle_17 s_13 rfl ?_
    refine xr_iload_n dX5_settle_20 0 rfl ?_
    refine xb_aald (j := k) (q := 15 + k) (by decide) dX5_settle_21 s_14 (by omega) (by decide) (if_pos (by omega)) ?_
    refine xb_get (v := M1 (15 + k) 1) flX5_61 dX5_settle_22 (s_hp15 (by omega)) rfl rfl ?_
    refine xb_cN (As := [.int ((nw + 1)), .int (M1 (15 + k) 1)]) (rest := []) mlX5_79 (c_X9_rest (nw + 1) (M1 (15 + k) 1)) dX5_settle_25 rfl rfl (Nat.le_of_ble_eq_true rfl) (by decide) (by decide) ?_
    refine xr_if_ne (tgt := 45) dX5_settle_28 rfl (fun c1 => ?_) (fun c1 => ?_)
    · refine xr_aload_n dX5_settle_45 1 rfl ?_
      refine xr_getR flX5_17 dX5_settle_46 s_13 rfl ?_
      refine xr_iload_n dX5_settle_49 0 rfl ?_
      refine xb_aald (j := k) (q := 15 + k) (by decide) dX5_settle_50 s_14 (by omega) (by decide) (if_pos (by omega)) ?_
      refine xb_cV (As := []) (rest := []) mlX5_111 (gw_X2_move (s_hp15 (by omega))) dX5_settle_51 (s_hp15 (by omega)) rfl rfl (Nat.le_of_ble_eq_true rfl) (by decide) (by decide) ?_
      refine xr_iinc (v := nI (k + 1)) (ls2 := [(1, .int (nI (k + 1))), (0, .ref (13))]) dX5_settle_54 0 rfl (nI_1 _) (by decide) rfl ?_
      refine xr_goto (tgt := 2) dX5_settle_57 rfl ?_
      refine xb_ls (ls2 := [(1, .int (nI (k + 1))), (0, .ref (13))]) [0, 1] rfl ?_
      exact ih (k + 1) (x_up M1 (15 + k) 2 (fm24 (M1 (15 + k) 2 + M1 (15 + k) 3))) (by omega) (Ke.up (by omega) hM) (S1i_a hI (by omega) c1)
    · refine xr_aload_n dX5_settle_31 1 rfl ?_
      refine xr_getR flX5_17 dX5_settle_32 s_13 rfl ?_
      refine xr_iload_n dX5_settle_35 0 rfl ?_
      refine xb_aald (j := k) (q := 15 + k) (by decide) dX5_settle_36 s_14 (by omega) (by decide) (if_pos (by omega)) ?_
      refine xr_aload_n dX5_settle_37 1 rfl ?_
      refine xb_get (v := rub) flX5_22 dX5_settle_38 s_13 rfl (Eq.trans (hM 13 4 (by decide)) e_rub) ?_
      refine xr_ineg dX5_settle_41 ?_
      refine xb_cV (As := [.int ((-rub))]) (rest := []) mlX5_107 (gw_X2_quicken (-rub) (s_hp15 (by omega))) dX5_settle_42 (s_hp15 (by omega)) rfl rfl (Nat.le_of_ble_eq_true rfl) (by decide) (by decide) ?_
      refine xr_aload_n dX5_settle_45 1 rfl ?_
      refine xr_getR flX5_17 dX5_settle_46 s_13 rfl ?_
      refine xr_iload_n dX5_settle_49 0 rfl ?_
      refine xb_aald (j := k) (q := 15 + k) (by decide) dX5_settle_50 s_14 (by omega) (by decide) (if_pos (by omega)) ?_
      refine xb_cV (As := []) (rest := []) mlX5_111 (gw_X2_move (s_hp15 (by omega))) dX5_settle_51 (s_hp15 (by omega)) rfl rfl (Nat.le_of_ble_eq_true rfl) (by decide) (by decide) ?_
      refine xr_iinc (v := nI (k + 1)) (ls2 := [(1, .int (nI (k + 1))), (0, .ref (13))]) dX5_settle_54 0 rfl (nI_1 _) (by decide) rfl ?_
      refine xr_goto (tgt := 2) dX5_settle_57 rfl ?_
      refine xb_ls (ls2 := [(1, .int (nI (k + 1))), (0, .ref (13))]) [0, 1] rfl ?_
      exact ih (k + 1) (x_up (x_up M1 (15 + k) 3 (w_qk (M1 (15 + k) 3) (w_ab (M1 (15 + k) 3) + (-rub)))) (15 + k) 2 (fm24 ((x_up M1 (15 + k) 3 (w_qk (M1 (15 + k) 3) (w_ab (M1 (15 + k) 3) + (-rub)))) (15 + k) 2 + (x_up M1 (15 + k) 3 (w_qk (M1 (15 + k) 3) (w_ab (M1 (15 + k) 3) + (-rub)))) (15 + k) 3))) (by omega) (Ke.up (by omega) (Ke.up (by omega) hM)) (S1i_b hrub hI (by omega) c1)
set_option maxRecDepth 100000 in
set_option maxHeartbeats 4000000 in
theorem skx_13 {nw lf : Int32} {cn : Nat} (h_cn : cn ≤ 5) (D0 T : xM) {l : Launch} {G : xG} {M : xM} {J : xJ} {Q : xQ} (e_cn : M 13 2 = nI cn) (e_nw : M 13 3 = nw) (hC : ∀ (M2 : xM), Ke W13f M M2 → (SKi 13 15 cn nw lf D0 T M2 cn) → x_X l G fX5_settle 4 0 0 Q 100 [(0, .ref (13))] [] x_SH M2 J 0 0) : ∀ (m k : Nat) (M1 : xM), k + m = cn → Ke W13f M M1 → (SKi 13 15 cn nw lf D0 T M1 k) → x_X l G fX5_settle 4 0 0 Q 66 [(1, .int (nI (k))), (0, .ref (13))] [] x_SH M1 J 0 0 := by
  intro m
  induction m with
  | zero =>
    intro k M1 hk hM hI
    refine xr_iload_n dX5_settle_66 0 rfl ?_
    refine xr_aload_n dX5_settle_67 1 rfl ?_
    refine xb_get (v := nI (cn)) flX5_35 dX5_settle_68 s_13 rfl (Eq.trans (hM 13 2 (by decide)) e_cn) ?_
    refine xr_icmp_ge (tgt := 100) dX5_settle_71 rfl (fun _ => ?_) (fun c => absurd (nI_le (a := cn) (b := k) (by omega) (by omega)) c)
    refine xb_ls (ls2 := [(0, .ref (13))]) [1] rfl ?_
    exact hC _ hM (by obtain rfl : k = cn := (by omega); exact hI)
  | succ m ih =>
    intro k M1 hk hM hI
    have hkN : k < cn := by omega
    refine xr_iload_n dX5_settle_66 0 rfl ?_
    refine xr_aload_n dX5_settle_67 1 rfl ?_
    refine xb_get (v := nI (cn)) flX5_35 dX5_settle_68 s_13 rfl (Eq.trans (hM 13 2 (by decide)) e_cn) ?_
    refine xr_icmp_ge (tgt := 100) dX5_settle_71 rfl (fun c => absurd c (nI_ge (a := k) (b := cn) (by omega) (by omega))) (fun _ => ?_)
    refine xr_aload_n dX5_settle_74 1 rfl ?_
    refine xr_getR flX5_17 dX5_settle_75 s_13 rfl ?_
    refine xr_iload_n dX5_settle_78 0 rfl ?_
    refine xb_aald (j := k) (q := 15 + k) (by decide) dX5_settle_79 s_14 (by omega) (by decide) (if_pos (by omega)) ?_
    refine xr_callV (As := []) (rest := []) mlX5_117 (gw_X2_sankToLie (s_hp15 (by omega))) dX5_settle_80 (s_hp15 (by omega)) rfl rfl (Nat.le_of_ble_eq_true rfl) (by decide) ⟨by decide, by decide⟩ (fun v s2 M5 J2 hq => ?_)
    obtain ⟨r7, rfl, rfl, rfl, k6, ⟨h01, h32, h43, hr4⟩⟩ := hq
    try dsimp only [Option.toList, List.cons_append, List.nil_append]
    subst hr4
    refine xb_beq (tgt := 94) dX5_settle_83 rfl (fun c8 => ?_) (fun c8 => ?_)
    · refine xr_iinc (v := nI (k + 1)) (ls2 := [(1, .int (nI (k + 1))), (0, .ref (13))]) dX5_settle_94 0 rfl (nI_1 _) (by decide) rfl ?_
      refine xr_goto (tgt := 66) dX5_settle_97 rfl ?_
      refine xb_ls (ls2 := [(1, .int (nI (k + 1))), (0, .ref (13))]) [0, 1] rfl ?_
      exact ih (k + 1) M5 (by omega) (Ke.tr (fun pp kk hh => by have h2 : pp = 15 + k := hh; unfold W13f; omega) hM k6) (SKi_n (by omega) hI (by omega) k6 h01 h32 h43 c8)
    · refine xr_aload_n dX5_settle_86 1 rfl ?_
      refine xr_aload_n dX5_settle_87 1 rfl ?_
      refine xb_get (v := nw) flX5_42 dX5_settle_88 s_13 rfl (Eq.trans (k6 13 3 (by omega)) (Eq.trans (hM 13 3 (by decide)) e_nw)) ?_
      refine xr_putI fpX5_32 dX5_settle_91 s_13 rfl rfl rfl ?_
      refine xr_iinc (v := nI (k + 1)) (ls2 := [(1, .int (nI (k + 1))), (0, .ref (13))]) dX5_settle_94 0 rfl (nI_1 _) (by decide) rfl ?_
      refine xr_goto (tgt := 66) dX5_settle_97 rfl ?_
      refine xb_ls (ls2 := [(1, .int (nI (k + 1))), (0, .ref (13))]) [0, 1] rfl ?_
      exact ih (k + 1) (x_up M5 13 9 nw) (by omega) (Ke.up (Or.inl (by omega)) (Ke.tr (fun pp kk hh => by have h2 : pp = 15 + k := hh; unfold W13f; omega) hM k6)) (SKi_f (by omega) hI (by omega) k6 h01 h32 h43 c8)
set_option maxRecDepth 100000 in
set_option maxHeartbeats 4000000 in
theorem gw_X5_settle_13 {rub nw lf : Int32} (hrub : 0 ≤ rub ∧ rub ≤ 3) {D : xM} {cn : Nat} (h_cn : cn ≤ 5) {l : Launch} {G : xG} {M : xM} {J : xJ} (e_cn : M 13 2 = nI cn) (e_nw : M 13 3 = nw) (e_rub : M 13 4 = rub) (e_lf : M 13 9 = lf) (hA : AbC 15 cn M D) (hW : WF cn D) : x_M l G fX5_settle 4 0 0 [.ref (13)] x_SH M J (qKV W13s M J (fun M2 => AbC 15 cn M2 (seT cn rub nw D) ∧ M2 13 3 = nw + 1 ∧ M2 13 9 = (if upn cn (seT cn rub nw D) < upn cn D then nw else lf))) := by
  refine xb_of pX5 (Nat.le_of_ble_eq_true rfl) rfl ?_
  refine xr_iconst (v := 0) dX5_settle_0 rfl ?_
  refine xr_istore_n (ls2 := [(1, .int (0)), (0, .ref (13))]) dX5_settle_1 (by decide) rfl ?_
  refine xb_ls (ls2 := [(1, .int (nI (0))), (0, .ref (13))]) [0, 1] rfl ?_
  refine s1x_13 hrub h_cn (s1L rub nw cn 0 D) e_cn e_nw e_rub (fun M1 k2 hI => ?_) (cn - 0) 0 M (by omega) Ke.rf ⟨D, hA, hW, rfl⟩
  refine xr_aload_n dX5_settle_60 0 rfl ?_
  refine xr_callV (As := []) (rest := []) mlX5_114 (gw_X5_cross_13 (D := s1L rub nw cn 0 D) h_cn (Eq.trans (k2 13 2 (by decide)) e_cn) (S1i_T hI).1 (S1i_T hI).2) dX5_settle_61 s_13 rfl rfl (Nat.le_of_ble_eq_true rfl) (by decide) ⟨by decide, by decide⟩ (fun v s2 M4 J2 hq => ?_)
  obtain ⟨rfl, rfl, rfl, k5, hc3⟩ := hq
  try dsimp only [Option.toList, List.cons_append, List.nil_append]
  refine xr_iconst (v := 0) dX5_settle_64 rfl ?_
  refine xr_istore_n (ls2 := [(1, .int (0)), (0, .ref (13))]) dX5_settle_65 (by decide) rfl ?_
  refine xb_ls (ls2 := [(1, .int (nI (0))), (0, .ref (13))]) [0, 1] rfl ?_
  refine skx_13 (lf := lf) h_cn (crI cn cn 0 (s1L rub nw cn 0 D)) (seT cn rub nw D) (Eq.trans (k5 13 2 (by decide)) (Eq.trans (k2 13 2 (by decide)) e_cn)) (Eq.trans (k5 13 3 (by decide)) (Eq.trans (k2 13 3 (by decide)) e_nw)) (fun M6 k7 hS => ?_) (cn - 0) 0 M4 (by omega) Ke.rf ⟨_, hc3.1, hc3.2, rfl, mo_rf, (Eq.trans (k5 13 9 (by decide)) (Eq.trans (k2 13 9 (by decide)) e_lf)).trans (if_neg (Nat.lt_irrefl _)).symm⟩
  refine xr_aload_n dX5_settle_100 0 rfl ?_
  refine xr_dup dX5_settle_101 rfl ?_
  refine xb_get (v := nw) flX5_42 dX5_settle_102 s_13 rfl (Eq.trans (k7 13 3 (by decide)) (Eq.trans (k5 13 3 (by decide)) (Eq.trans (k2 13 3 (by decide)) e_nw))) ?_
  refine xr_iconst (v := 1) dX5_settle_105 rfl ?_
  refine xr_iadd dX5_settle_106 ?_
  refine xr_putI fpX5_42 dX5_settle_107 s_13 rfl rfl rfl ?_
  exact xr_vret dX5_settle_110 rfl (⟨rfl, rfl, rfl, (Ke.up (Or.inl (by omega)) (Ke.tr (fun pp kk => (fun hh => Or.elim hh (fun h => (Or.inr (Or.inl h))) (fun h => (Or.inr (Or.inr h))))) (Ke.tr (fun pp kk h => (Or.inr (Or.inr h))) (Ke.tr (fun pp kk h => (Or.inr (Or.inr h))) Ke.rf k2) k5) k7)), ⟨AbC_n (SKi_T hS).1 (Or.inl (by decide)), (x_up_s _ _ _ _), (up_k (by decide)).trans ((SKi_T hS).2.trans (by rw [upn_4 s1c_s.1]))⟩⟩)
set_option maxRecDepth 100000 in
set_option maxHeartbeats 4000000 in
theorem gw_X5_tick_13 {pu lf : Int32} {t : Option zL} {rub bt ph st nw : Int32} (hrub : 0 ≤ rub ∧ rub ≤ 3) (hbt : ¬ bt = 0) {D : xM} {cn : Nat} (h_cn : cn ≤ 5) {l : Launch} {G : xG} {M : xM} {J : xJ} (e_cn : M 13 2 = nI cn) (e_nw : M 13 3 = nw) (e_rub : M 13 4 = rub) (e_bt : M 13 5 = bt) (e_ph : M 13 6 = ph) (e_st : M 13 7 = st) (e_pu : M 13 8 = pu) (e_lf : M 13 9 = lf) (hL : LCt M t) (hA : AbC 15 cn M D) (hW : WF cn D) : x_M l G fX5_tick 5 0 0 [.ref (13)] x_SH M J (qKV W13u M J (fun M2 => AbC 15 cn M2 (tiF (cn, t, rub, bt, ph, st) nw D) ∧ M2 13 3 = nw + 1 ∧ M2 13 8 = (if w_due bt ph nw then pu + 1 else pu) ∧ M2 13 9 = (if upn cn (tiF (cn, t, rub, bt, ph, st) nw D) < upn cn D then nw else lf))) := by
  refine xb_of pX5 (Nat.le_of_ble_eq_true rfl) rfl ?_
  refine xr_aload_n dX5_tick_0 0 rfl ?_
  refine xb_cV (As := []) (rest := []) mlX5_87 (c_X5_isPushDue_13 hbt e_nw e_bt e_ph) dX5_tick_1 s_13 rfl rfl (Nat.le_of_ble_eq_true rfl) (by decide) (by decide) ?_
  refine xb_beq (tgt := 29) dX5_tick_4 rfl (fun c1 => ?_) (fun c1 => ?_)
  · refine xr_aload_n dX5_tick_29 0 rfl ?_
    refine xr_callV (As := []) (rest := []) mlX5_98 (gw_X5_settle_13 hrub h_cn e_cn e_nw e_rub e_lf (show AbC 15 cn _ (tkp (cn, t, rub, bt, ph, st) nw D) by rw [tkp_n c1]; exact hA) (WF_tkp (P := (cn, t, rub, bt, ph, st)) hW)) dX5_tick_30 s_13 rfl rfl (Nat.le_of_ble_eq_true rfl) (by decide) ⟨by decide, by decide⟩ (fun v s2 M3 J2 hq => ?_)
    obtain ⟨rfl, rfl, rfl, k4, hx2⟩ := hq
    try dsimp only [Option.toList, List.cons_append, List.nil_append]
    exact xr_vret dX5_tick_33 rfl (⟨rfl, rfl, rfl, (Ke.tr (fun pp kk => (fun hh => Or.elim hh (fun h => (Or.inr (Or.inr (Or.inl h)))) (fun hh => Or.elim hh (fun h => (Or.inr (Or.inr (Or.inr (Or.inr (Or.inl h)))))) (fun h => (Or.inr (Or.inr (Or.inr (Or.inr (Or.inr h))))))))) Ke.rf k4), ⟨hx2.1, hx2.2.1, ((Eq.trans (k4 13 8 (by decide)) e_pu)).trans (if_neg c1).symm, tk_9 (P := (cn, t, rub, bt, ph, st)) hx2.2.2⟩⟩)
  · refine xr_aload_n dX5_tick_7 0 rfl ?_
    refine xr_aload_n dX5_tick_8 0 rfl ?_
    refine xb_get (v := st) flX5_29 dX5_tick_9 s_13 rfl e_st ?_
    refine xr_aload_n dX5_tick_12 0 rfl ?_
    refine xb_cV (As := []) (rest := [.int (st), .ref (13)]) mlX5_90 (c_X5_goalInTurn_13 hbt e_nw e_bt) dX5_tick_13 s_13 rfl rfl (Nat.le_of_ble_eq_true rfl) (by decide) (by decide) ?_
    refine xr_callV (As := [.int (st), .int ((w_go bt nw))]) (rest := []) mlX5_94 (gw_X5_push_13 st (w_go bt nw) h_cn e_cn (LCt_k rfl (fun kl => rfl) (fun kl => rfl) hL) (w_go_b _ _) hA hW) dX5_tick_16 s_13 rfl rfl (Nat.le_of_ble_eq_true rfl) (by decide) ⟨by decide, by decide⟩ (fun v s2 M6 J2 hq => ?_)
    obtain ⟨rfl, rfl, rfl, k7, hx5⟩ := hq
    try dsimp only [Option.toList, List.cons_append, List.nil_append]
    refine xr_aload_n dX5_tick_19 0 rfl ?_
    refine xr_dup dX5_tick_20 rfl ?_
    refine xb_get (v := pu) flX5_48 dX5_tick_21 s_13 rfl (Eq.trans (k7 13 8 (by decide)) e_pu) ?_
    refine xr_iconst (v := 1) dX5_tick_24 rfl ?_
    refine xr_iadd dX5_tick_25 ?_
    refine xr_putI fpX5_48 dX5_tick_26 s_13 rfl rfl rfl ?_
    refine xr_aload_n dX5_tick_29 0 rfl ?_
    refine xr_callV (As := []) (rest := []) mlX5_98 (gw_X5_settle_13 hrub h_cn (Eq.trans (x_up_k _ _ _ (by decide)) (Eq.trans (k7 13 2 (by decide)) e_cn)) (Eq.trans (x_up_k _ _ _ (by decide)) (Eq.trans (k7 13 3 (by decide)) e_nw)) (Eq.trans (x_up_k _ _ _ (by decide)) (Eq.trans (k7 13 4 (by decide)) e_rub)) (Eq.trans (x_up_k _ _ _ (by decide)) (Eq.trans (k7 13 9 (by decide)) e_lf)) (show AbC 15 cn _ (tkp (cn, t, rub, bt, ph, st) nw D) by rw [tkp_p c1]; exact AbC_n hx5 (Or.inl (by decide))) (WF_tkp (P := (cn, t, rub, bt, ph, st)) hW)) dX5_tick_30 s_13 rfl rfl (Nat.le_of_ble_eq_true rfl) (by decide) ⟨by decide, by decide⟩ (fun v s2 M9 J2 hq => ?_)
    obtain ⟨rfl, rfl, rfl, k10, hx8⟩ := hq
    try dsimp only [Option.toList, List.cons_append, List.nil_append]
    exact xr_vret dX5_tick_33 rfl (⟨rfl, rfl, rfl, (Ke.tr (fun pp kk => (fun hh => Or.elim hh (fun h => (Or.inr (Or.inr (Or.inl h)))) (fun hh => Or.elim hh (fun h => (Or.inr (Or.inr (Or.inr (Or.inr (Or.inl h)))))) (fun h => (Or.inr (Or.inr (Or.inr (Or.inr (Or.inr h))))))))) (Ke.up (Or.inr (Or.inr (Or.inr (Or.inl (by omega))))) (Ke.tr (fun pp kk => (fun hh => Or.elim hh (fun h => (Or.inl h)) (fun hh => Or.elim hh (fun h => (Or.inr (Or.inl h))) (fun h => (Or.inr (Or.inr (Or.inr (Or.inr (Or.inr h))))))))) Ke.rf k7)) k10), ⟨hx8.1, hx8.2.1, ((Eq.trans (k10 13 8 (by decide)) (x_up_s _ _ _ _))).trans (if_pos c1).symm, tk_9 (P := (cn, t, rub, bt, ph, st)) hx8.2.2⟩⟩)
