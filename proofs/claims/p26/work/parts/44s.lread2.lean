theorem okI {ok : Bool} {v : Int32} (h : v = (if ok = true then 0 else 1)) (h0 : v = 0) : ok = true := by
  cases ok
  · rw [h0] at h; exact absurd h (by decide)
  · rfl
theorem okN {ok : Bool} {v : Int32} (h : v = (if ok = true then 0 else 1)) (h0 : ok = true) : v = 0 := by rw [h, if_pos h0]
theorem len1 {n : Nat} {cd : zC} {e : Int32 × Int32} : n + cd.length + 1 = n + (cd ++ [e]).length := by rw [List.length_append]; rfl
theorem CAt_2 {M M2 : xM} {n : Nat} {cd : zC} {g v : Int32} (h : CAt M n cd) (hM : M2 = uA M (n + cd.length) g v) : CAt M2 n (cd ++ [(g, v)]) := by
  subst hM
  exact CAt_app (CAt_be h uA_be (Nat.le_refl _)) uA_1
theorem opB_paren {T : Nat → Int32} {E f o a a2 : Nat} {ok : Bool} {cd : zC} (h : pz T E f false 0 o a true [] = some (a2, ok, cd)) : opB T E f 40 o a = if ok = true ∧ nb T E a2 = 41 then some (a2 + 1, true, cd) else some (a2, false, cd) := by
  unfold opB; rw [if_pos rfl, h]; rfl
theorem opB_sign {T : Nat → Int32} {E f o a a2 : Nat} {c g : Int32} {ok : Bool} {cd : zC} (hc : ¬ c = 40) (hg : (if c = 33 then 4 else 5) = g) (h : pz T E f false 5 o a true [] = some (a2, ok, cd)) : opB T E f c o a = some (a2, ok, cd ++ [(g, 0)]) := by
  unfold opB; rw [if_neg hc, h, hg]; rfl
theorem pz_num {T : Nat → Int32} {E o a : Nat} (h : 48 ≤ nb T E a ∧ nb T E a ≤ 57) : pz T E 1 false 5 o a true [] = some ((numF T E 4 a 0).1, true, [(0, (numF T E 4 a 0).2)]) := by rw [pz_s, if_neg (by decide), if_pos h]
theorem pz_name {T : Nat → Int32} {E o a : Nat} (h : ¬ (48 ≤ nb T E a ∧ nb T E a ≤ 57)) (h2 : 0 ≤ nameK (nb T E a)) : pz T E 1 false 5 o a true [] = some (a + 1, true, [(1, nameK (nb T E a))]) := by rw [pz_s, if_neg (by decide), if_neg h, if_pos h2]
theorem pz_open {T : Nat → Int32} {E f o a : Nat} {r : Nat × Bool × zC} (h : ¬ (48 ≤ nb T E a ∧ nb T E a ≤ 57)) (h2 : ¬ 0 ≤ nameK (nb T E a)) (ho : o < 6) (hc : nb T E a = 40 ∨ nb T E a = 33 ∨ nb T E a = 45) (hr : opB T E f (nb T E a) (o + 1) (a + 1) = some r) : pz T E (f + 1) false 5 o a true [] = some r := by
  rw [pz_s, if_neg (by decide), if_neg h, if_neg h2]
  unfold opB at hr
  by_cases c : nb T E a = 40
  · rw [if_pos c] at hr; rw [if_pos ⟨ho, c⟩]; exact hr
  · rw [if_neg c] at hr; rw [if_neg (fun q => c q.2), if_pos ⟨ho, Or.resolve_left hc c⟩]; exact hr
theorem pz_stuck {T : Nat → Int32} {E o a : Nat} (h : ¬ (48 ≤ nb T E a ∧ nb T E a ≤ 57)) (h2 : ¬ 0 ≤ nameK (nb T E a)) (hc : ¬ (o < 6 ∧ (nb T E a = 40 ∨ nb T E a = 33 ∨ nb T E a = 45))) : pz T E 1 false 5 o a true [] = some (a, false, []) := by
  rw [pz_s, if_neg (by decide), if_neg h, if_neg h2, if_neg (fun q => hc ⟨q.1, Or.inl q.2⟩), if_neg (fun q => hc ⟨q.1, Or.inr q.2⟩)]
theorem nameK5 {c : Int32} : nameK c ≤ 5 := by unfold nameK; grind
set_option maxRecDepth 100000 in
set_option maxHeartbeats 4000000 in
theorem rs_opened {l : Launch} {G : xG} {M : xM} {J : xJ} {u o : Nat} (si : Int32) (h0 : RDS u) (h1 : RCS 0 u) (ho : o + u = 6) {a E n : Nat} (hE : E ≤ 120) (ha : a ≤ E) (hn : n ≤ a) (hD : DI M) (e_a : M 6 3 = nI a) (e_E : M 6 2 = nI E) (e_0 : M 6 4 = 0) (e_n : M 8 4 = nI n) : x_M l G fX4_readOpened (20 * u + 19) 0 0 [.ref (6), .int (si), .int (nI (o))] x_SH M J (qKV WRD M J (fun M2 => DI M2 ∧ OPC M M2 E si o a n)) := by
  refine xb_of pX4 (Nat.le_of_ble_eq_true rfl) rfl ?_
  refine xr_iload_n dX4_readOpened_0 1 rfl ?_
  refine xr_bipush (v := 40) dX4_readOpened_1 rfl ?_
  refine xr_icmp_ne (tgt := 29) dX4_readOpened_3 rfl (fun c1 => ?_) (fun c1 => ?_)
  · refine xr_aload_n dX4_readOpened_29 0 rfl ?_
    refine xr_iload_n dX4_readOpened_30 2 rfl ?_
    refine xr_callV (As := [.int (nI (o))]) (rest := []) mlX4_50 (h0 l G M J o a E n (by omega) hE (by omega) (by omega) hD e_a e_E e_0 e_n) dX4_readOpened_31 s_6 rfl rfl (Nat.le_of_ble_eq_true rfl) (by omega) ⟨by decide, by decide⟩ (fun v s2 M13 J2 hq => ?_)
    obtain ⟨rfl, rfl, rfl, k14, ⟨hd2, f3, a2_4, ok5, cd6, hp7, ea8, es9, en10, hc11, hb12⟩⟩ := hq
    try dsimp only [Option.toList, List.cons_append, List.nil_append]
    skip
    have hp7b := pz_b _ _ _ _ _ _ _ _ hp7 (by omega)
    rw [if_neg (show ¬ false = true by decide)] at hp7b
    obtain ⟨hp7x, hp7y, hp7z⟩ := hp7b
    replace hp7x : a ≤ a2_4 := hp7x
    replace hp7y : a2_4 ≤ E := hp7y
    replace hp7z : cd6.length + a ≤ a2_4 := hp7z
    refine xr_aload_n dX4_readOpened_34 0 rfl ?_
    refine xr_getR flX4_16 dX4_readOpened_35 s_6 rfl ?_
    refine xr_iload_n dX4_readOpened_38 1 rfl ?_
    refine xr_bipush (v := 33) dX4_readOpened_39 rfl ?_
    refine xr_icmp_ne (tgt := 48) dX4_readOpened_41 rfl (fun c15 => ?_) (fun c15 => ?_)
    · refine xr_iconst (v := 5) dX4_readOpened_48 rfl ?_
      refine xr_iconst (v := 0) dX4_readOpened_49 rfl ?_
      refine xb_cV (As := [.int (5), .int (0)]) (rest := []) mlX4_43 (c_X3_add 5 0 (n := n + cd6.length) (by omega) en10) dX4_readOpened_50 s_8 rfl rfl (Nat.le_of_ble_eq_true rfl) (by omega) (by decide) ?_
      refine xr_pop dX4_readOpened_53 rfl ?_
      exact xr_vret dX4_readOpened_54 rfl (⟨rfl, rfl, rfl, (Ke.up (Or.inr (Or.inr (by omega))) (Ke.up (Or.inr (Or.inr (by omega))) (Ke.up (Or.inr (Or.inr (by omega))) (Ke.tr (fun _ _ h => h) Ke.rf k14)))), ⟨(DI_uA (by omega) (by decide) hd2), f3, a2_4, ok5, cd6 ++ [(5, 0)], opB_sign c1 (if_neg c15) hp7, (Eq.trans (congrFun (x_up_n _ _ _ (by decide)) _) (Eq.trans (congrFun (x_up_n _ _ _ (by decide)) _) (Eq.trans (congrFun (x_up_n _ _ _ (by decide)) _) ea8))), (Eq.trans (congrFun (x_up_n _ _ _ (by decide)) _) (Eq.trans (congrFun (x_up_n _ _ _ (by decide)) _) (Eq.trans (congrFun (x_up_n _ _ _ (by decide)) _) es9))), (by rw [← len1]; exact (x_up_s _ _ _ _)), CAt_2 hc11 rfl, CBe.tr hb12 uA_be (by omega)⟩⟩)
    · refine xr_iconst (v := 4) dX4_readOpened_44 rfl ?_
      refine xr_goto (tgt := 49) dX4_readOpened_45 rfl ?_
      refine xr_iconst (v := 0) dX4_readOpened_49 rfl ?_
      refine xb_cV (As := [.int (4), .int (0)]) (rest := []) mlX4_43 (c_X3_add 4 0 (n := n + cd6.length) (by omega) en10) dX4_readOpened_50 s_8 rfl rfl (Nat.le_of_ble_eq_true rfl) (by omega) (by decide) ?_
      refine xr_pop dX4_readOpened_53 rfl ?_
      exact xr_vret dX4_readOpened_54 rfl (⟨rfl, rfl, rfl, (Ke.up (Or.inr (Or.inr (by omega))) (Ke.up (Or.inr (Or.inr (by omega))) (Ke.up (Or.inr (Or.inr (by omega))) (Ke.tr (fun _ _ h => h) Ke.rf k14)))), ⟨(DI_uA (by omega) (by decide) hd2), f3, a2_4, ok5, cd6 ++ [(4, 0)], opB_sign c1 (if_pos c15) hp7, (Eq.trans (congrFun (x_up_n _ _ _ (by decide)) _) (Eq.trans (congrFun (x_up_n _ _ _ (by decide)) _) (Eq.trans (congrFun (x_up_n _ _ _ (by decide)) _) ea8))), (Eq.trans (congrFun (x_up_n _ _ _ (by decide)) _) (Eq.trans (congrFun (x_up_n _ _ _ (by decide)) _) (Eq.trans (congrFun (x_up_n _ _ _ (by decide)) _) es9))), (by rw [← len1]; exact (x_up_s _ _ _ _)), CAt_2 hc11 rfl, CBe.tr hb12 uA_be (by omega)⟩⟩)
  · refine xr_aload_n dX4_readOpened_6 0 rfl ?_
    refine xr_iconst (v := 0) dX4_readOpened_7 rfl ?_
    refine xr_iload_n dX4_readOpened_8 2 rfl ?_
    refine xr_callV (As := [.int (0), .int (nI (o))]) (rest := []) mlX4_39 (h1 l G M J o a E n (by omega) hE (by omega) (by omega) hD e_a e_E e_0 e_n) dX4_readOpened_9 s_6 rfl rfl (Nat.le_of_ble_eq_true rfl) (by omega) ⟨by decide, by decide⟩ (fun v s2 M27 J2 hq => ?_)
    obtain ⟨rfl, rfl, rfl, k28, ⟨hd16, f17, a2_18, ok19, cd20, hp21, ea22, es23, en24, hc25, hb26⟩⟩ := hq
    try dsimp only [Option.toList, List.cons_append, List.nil_append]
    skip
    have hp21b := pz_b _ _ _ _ _ _ _ _ hp21 (by omega)
    rw [if_neg (show ¬ false = true by decide)] at hp21b
    obtain ⟨hp21x, hp21y, hp21z⟩ := hp21b
    replace hp21x : a ≤ a2_18 := hp21x
    replace hp21y : a2_18 ≤ E := hp21y
    replace hp21z : cd20.length + a ≤ a2_18 := hp21z
    refine xr_aload_n dX4_readOpened_12 0 rfl ?_
    refine xr_bipush (v := 41) dX4_readOpened_13 rfl ?_
    refine xr_callV (As := [.int (41)]) (rest := []) mlX4_35 (gs_X4_takes (M := M27) 41 (a := a2_18) hE (by omega) ea22 (Eq.trans (k28 6 2 (by decide)) e_E)) dX4_readOpened_15 s_6 rfl rfl (Nat.le_of_ble_eq_true rfl) (by omega) ⟨by decide, by decide⟩ (fun v s2 M30 J2 hq => ?_)
    obtain ⟨r32, rfl, rfl, rfl, k31, hx29⟩ := hq
    try dsimp only [Option.toList, List.cons_append, List.nil_append]
    rcases hx29 with ⟨rfl, ⟨h0_34, h41_33⟩, ea35⟩ | ⟨rfl, hno36, ea35⟩
    · rw [show M27 7 = M 7 from (Eq.trans (funext fun kk => k28 7 kk (by unfold WRD; omega)) rfl)] at h41_33
      refine xr_if_ne (tgt := 54) dX4_readOpened_18 rfl (fun _ => ?_) (fun c => absurd c (by decide))
      exact xr_vret dX4_readOpened_54 rfl (⟨rfl, rfl, rfl, (Ke.tr (fun pp kk h => (Or.inl h)) (Ke.tr (fun _ _ h => h) Ke.rf k28) k31), ⟨(DI_ke (by intro k; unfold WAT; omega) k31 hd16), f17, a2_18 + 1, true, cd20, (by rw [c1, opB_paren hp21, if_pos ⟨okI es23 h0_34, h41_33⟩]), ea35, (((Eq.trans (k31 6 4 (by decide)) es23)).trans (if_pos (okI es23 h0_34))), (Eq.trans (k31 8 4 (by decide)) en24), CAt_be hc25 (fun _ _ => ⟨(Eq.trans (k31 9 _ (by unfold WAT; omega)) rfl), (Eq.trans (k31 10 _ (by unfold WAT; omega)) rfl)⟩) (Nat.le_refl _), CBe.tr hb26 (fun _ _ => ⟨(Eq.trans (k31 9 _ (by unfold WAT; omega)) rfl), (Eq.trans (k31 10 _ (by unfold WAT; omega)) rfl)⟩) (Nat.le_refl _)⟩⟩)
    · rw [show M27 7 = M 7 from (Eq.trans (funext fun kk => k28 7 kk (by unfold WRD; omega)) rfl)] at hno36
      refine xr_if_ne (tgt := 54) dX4_readOpened_18 rfl (fun c => absurd (by decide) c) (fun _ => ?_)
      refine xr_aload_n dX4_readOpened_21 0 rfl ?_
      refine xr_iconst (v := 1) dX4_readOpened_22 rfl ?_
      refine xr_putI fpX4_27 dX4_readOpened_23 s_6 rfl rfl rfl ?_
      refine xr_goto (tgt := 54) dX4_readOpened_26 rfl ?_
      exact xr_vret dX4_readOpened_54 rfl (⟨rfl, rfl, rfl, (Ke.up (Or.inr (Or.inl (by omega))) (Ke.tr (fun pp kk h => (Or.inl h)) (Ke.tr (fun _ _ h => h) Ke.rf k28) k31)), ⟨(DI_up (by decide) (DI_ke (by intro k; unfold WAT; omega) k31 hd16)), f17, a2_18, false, cd20, (by rw [c1, opB_paren hp21, if_neg (fun z => hno36 ⟨okN es23 z.1, z.2⟩)]), (Eq.trans (x_up_k _ _ _ (by decide)) ea35), (x_up_s _ _ _ _), (Eq.trans (congrFun (x_up_n _ _ _ (by decide)) _) (Eq.trans (k31 8 4 (by decide)) en24)), CAt_be hc25 (fun _ _ => ⟨(Eq.trans (congrFun (x_up_n _ _ _ (by decide)) _) (Eq.trans (k31 9 _ (by unfold WAT; omega)) rfl)), (Eq.trans (congrFun (x_up_n _ _ _ (by decide)) _) (Eq.trans (k31 10 _ (by unfold WAT; omega)) rfl))⟩) (Nat.le_refl _), CBe.tr hb26 (fun _ _ => ⟨(Eq.trans (congrFun (x_up_n _ _ _ (by decide)) _) (Eq.trans (k31 9 _ (by unfold WAT; omega)) rfl)), (Eq.trans (congrFun (x_up_n _ _ _ (by decide)) _) (Eq.trans (k31 10 _ (by unfold WAT; omega)) rfl))⟩) (Nat.le_refl _)⟩⟩)
set_option maxRecDepth 100000 in
set_option maxHeartbeats 4000000 in
theorem rs_op0 {l : Launch} {G : xG} {M : xM} {J : xJ} {o : Nat} (ho : o = 6) {a E n : Nat} (hE : E ≤ 120) (ha : a ≤ E) (hn : n ≤ a) (hD : DI M) (e_a : M 6 3 = nI a) (e_E : M 6 2 = nI E) (e_0 : M 6 4 = 0) (e_n : M 8 4 = nI n) : x_M l G fX4_readOperand (10) 0 0 [.ref (6), .int (nI (o))] x_SH M J (qKV WRD M J (fun M2 => DI M2 ∧ PZC M M2 E 5 o a n)) := by
  refine xb_of pX4 (Nat.le_of_ble_eq_true rfl) rfl ?_
  refine xr_aload_n dX4_readOperand_0 0 rfl ?_
  refine xb_cV (As := []) (rest := []) mlX4_57 (c_X4_next) dX4_readOperand_1 s_6 rfl rfl (Nat.le_of_ble_eq_true rfl) (by omega) (by decide) ?_
  refine xb_top (y := nb (M 7) E a) (nx_nb rfl e_a e_E hE (by omega)) ?_
  refine xr_istore_n (ls2 := [(2, .int ((nb (M 7) E a))), (0, .ref (6)), (1, .int (nI (o)))]) dX4_readOperand_4 (by decide) rfl ?_
  refine xr_iload_n dX4_readOperand_5 0 rfl ?_
  refine xb_cS (As := [.int ((nb (M 7) E a))]) (rest := []) mlX4_61 (c_X4_isDigit (nb (M 7) E a)) dX4_readOperand_6 rfl rfl (Nat.le_of_ble_eq_true rfl) (by omega) (by decide) ?_
  refine xb_beq (tgt := 19) dX4_readOperand_9 rfl (fun c1 => ?_) (fun c1 => ?_)
  · refine xr_iload_n dX4_readOperand_19 0 rfl ?_
    refine xb_cS (As := [.int ((nb (M 7) E a))]) (rest := []) mlX4_67 (c_X4_nameOf (nb (M 7) E a)) dX4_readOperand_20 rfl rfl (Nat.le_of_ble_eq_true rfl) (by omega) (by decide) ?_
    refine xr_if_lt (tgt := 52) dX4_readOperand_23 rfl (fun c2 => ?_) (fun c2 => ?_)
    · refine xr_iload_n dX4_readOperand_52 2 rfl ?_
      refine xr_bipush (v := 6) dX4_readOperand_53 rfl ?_
      refine xr_icmp_ge (tgt := 97) dX4_readOperand_55 rfl (fun _ => ?_) (fun c => absurd (nI_le (a := 6) (b := o) (by omega) (by omega)) c)
      refine xr_aload_n dX4_readOperand_97 1 rfl ?_
      refine xr_iconst (v := 1) dX4_readOperand_98 rfl ?_
      refine xr_putI fpX4_27 dX4_readOperand_99 s_6 rfl rfl rfl ?_
      exact xr_vret dX4_readOperand_102 rfl (⟨rfl, rfl, rfl, (Ke.up (Or.inr (Or.inl (by omega))) Ke.rf), ⟨(DI_up (by decide) hD), 1, a, false, [], pz_stuck (fun z => c1 z) (fun z => absurd c2 (by grind)) (fun z => absurd z.1 (by omega)), (Eq.trans (x_up_k _ _ _ (by decide)) e_a), (x_up_s _ _ _ _), (Eq.trans (congrFun (x_up_n _ _ _ (by decide)) _) e_n), CAt_nil, fun j hj => ⟨up_n (by decide), up_n (by decide)⟩⟩⟩)
    · refine xr_aload_n dX4_readOperand_26 1 rfl ?_
      refine xr_getR flX4_16 dX4_readOperand_27 s_6 rfl ?_
      refine xr_iconst (v := 1) dX4_readOperand_30 rfl ?_
      refine xr_iload_n dX4_readOperand_31 0 rfl ?_
      refine xb_cS (As := [.int ((nb (M 7) E a))]) (rest := [.int (1), .ref (8)]) mlX4_67 (c_X4_nameOf (nb (M 7) E a)) dX4_readOperand_32 rfl rfl (Nat.le_of_ble_eq_true rfl) (by omega) (by decide) ?_
      refine xb_cV (As := [.int (1), .int ((nameK (nb (M 7) E a)))]) (rest := []) mlX4_43 (c_X3_add 1 (nameK (nb (M 7) E a)) (n := n) (by omega) e_n) dX4_readOperand_35 s_8 rfl rfl (Nat.le_of_ble_eq_true rfl) (by omega) (by decide) ?_
      refine xr_pop dX4_readOperand_38 rfl ?_
      refine xr_aload_n dX4_readOperand_39 1 rfl ?_
      refine xr_dup dX4_readOperand_40 rfl ?_
      refine xb_get (v := nI (a)) flX4_24 dX4_readOperand_41 s_6 rfl (Eq.trans (congrFun (x_up_n _ _ _ (by decide)) _) (Eq.trans (congrFun (x_up_n _ _ _ (by decide)) _) (Eq.trans (congrFun (x_up_n _ _ _ (by decide)) _) e_a))) ?_
      refine xr_iconst (v := 1) dX4_readOperand_44 rfl ?_
      refine xr_iadd dX4_readOperand_45 ?_
      refine xb_top (y := nI (a + 1)) (nI_add (a) (1)) ?_
      refine xr_putI fpX4_24 dX4_readOperand_46 s_6 rfl rfl rfl ?_
      refine xr_goto (tgt := 102) dX4_readOperand_49 rfl ?_
      exact xr_vret dX4_readOperand_102 rfl (⟨rfl, rfl, rfl, (Ke.up (Or.inl (by omega)) (Ke.up (Or.inr (Or.inr (by omega))) (Ke.up (Or.inr (Or.inr (by omega))) (Ke.up (Or.inr (Or.inr (by omega))) Ke.rf)))), ⟨(DI_up (by decide) (DI_uA (by omega) (Int32.le_trans nameK5 (by decide)) hD)), 1, a + 1, true, _, pz_name (fun z => c1 z) (by have z := c2; grind), (x_up_s _ _ _ _), (Eq.trans (x_up_k _ _ _ (by decide)) (Eq.trans (congrFun (x_up_n _ _ _ (by decide)) _) (Eq.trans (congrFun (x_up_n _ _ _ (by decide)) _) (Eq.trans (congrFun (x_up_n _ _ _ (by decide)) _) e_0)))), (Eq.trans (congrFun (x_up_n _ _ _ (by decide)) _) (x_up_s _ _ _ _)), (fun j hj => ⟨(up_n (by decide)).trans ((uA_1 j hj).1), (up_n (by decide)).trans ((uA_1 j hj).2)⟩), (fun j hj => ⟨(up_n (by decide)).trans (uA_be j hj).1, (up_n (by decide)).trans (uA_be j hj).2⟩)⟩⟩)
  · refine xr_aload_n dX4_readOperand_12 1 rfl ?_
    refine xr_callV (As := []) (rest := []) mlX4_64 (gs_X4_readNumber (a := a) (E := E) (n := n) hE ha hn hD e_a e_E e_0 e_n) dX4_readOperand_13 s_6 rfl rfl (Nat.le_of_ble_eq_true rfl) (by omega) ⟨by decide, by decide⟩ (fun v s2 M4 J2 hq => ?_)
    obtain ⟨rfl, rfl, rfl, k5, hx3⟩ := hq
    try dsimp only [Option.toList, List.cons_append, List.nil_append]
    refine xr_goto (tgt := 102) dX4_readOperand_16 rfl ?_
    exact xr_vret dX4_readOperand_102 rfl (⟨rfl, rfl, rfl, (Ke.tr (fun _ _ h => h) Ke.rf k5), ⟨hx3.1, 1, _, true, _, pz_num c1, hx3.2.1, hx3.2.2.1, hx3.2.2.2.1, hx3.2.2.2.2.1, hx3.2.2.2.2.2⟩⟩)
set_option maxRecDepth 100000 in
set_option maxHeartbeats 4000000 in
theorem rs_opS {l : Launch} {G : xG} {M : xM} {J : xJ} {u o : Nat} (h0 : RDS u) (h1 : RCS 0 u) (ho : o + (u + 1) = 6) {a E n : Nat} (hE : E ≤ 120) (ha : a ≤ E) (hn : n ≤ a) (hD : DI M) (e_a : M 6 3 = nI a) (e_E : M 6 2 = nI E) (e_0 : M 6 4 = 0) (e_n : M 8 4 = nI n) : x_M l G fX4_readOperand (20 * (u + 1) + 10) 0 0 [.ref (6), .int (nI (o))] x_SH M J (qKV WRD M J (fun M2 => DI M2 ∧ PZC M M2 E 5 o a n)) := by
  refine xb_of pX4 (Nat.le_of_ble_eq_true rfl) rfl ?_
  refine xr_aload_n dX4_readOperand_0 0 rfl ?_
  refine xb_cV (As := []) (rest := []) mlX4_57 (c_X4_next) dX4_readOperand_1 s_6 rfl rfl (Nat.le_of_ble_eq_true rfl) (by omega) (by decide) ?_
  refine xb_top (y := nb (M 7) E a) (nx_nb rfl e_a e_E hE (by omega)) ?_
  refine xr_istore_n (ls2 := [(2, .int ((nb (M 7) E a))), (0, .ref (6)), (1, .int (nI (o)))]) dX4_readOperand_4 (by decide) rfl ?_
  refine xr_iload_n dX4_readOperand_5 0 rfl ?_
  refine xb_cS (As := [.int ((nb (M 7) E a))]) (rest := []) mlX4_61 (c_X4_isDigit (nb (M 7) E a)) dX4_readOperand_6 rfl rfl (Nat.le_of_ble_eq_true rfl) (by omega) (by decide) ?_
  refine xb_beq (tgt := 19) dX4_readOperand_9 rfl (fun c1 => ?_) (fun c1 => ?_)
  · refine xr_iload_n dX4_readOperand_19 0 rfl ?_
    refine xb_cS (As := [.int ((nb (M 7) E a))]) (rest := []) mlX4_67 (c_X4_nameOf (nb (M 7) E a)) dX4_readOperand_20 rfl rfl (Nat.le_of_ble_eq_true rfl) (by omega) (by decide) ?_
    refine xr_if_lt (tgt := 52) dX4_readOperand_23 rfl (fun c2 => ?_) (fun c2 => ?_)
    · refine xr_iload_n dX4_readOperand_52 2 rfl ?_
      refine xr_bipush (v := 6) dX4_readOperand_53 rfl ?_
      refine xr_icmp_ge (tgt := 97) dX4_readOperand_55 rfl (fun c => absurd c (nI_ge (a := o) (b := 6) (by omega) (by omega))) (fun _ => ?_)
      refine xr_iload_n dX4_readOperand_58 0 rfl ?_
      refine xr_bipush (v := 40) dX4_readOperand_59 rfl ?_
      refine xr_icmp_eq (tgt := 76) dX4_readOperand_61 rfl (fun c3 => ?_) (fun c3 => ?_)
      · refine xr_aload_n dX4_readOperand_76 1 rfl ?_
        refine xr_dup dX4_readOperand_77 rfl ?_
        refine xb_get (v := nI (a)) flX4_24 dX4_readOperand_78 s_6 rfl e_a ?_
        refine xr_iconst (v := 1) dX4_readOperand_81 rfl ?_
        refine xr_iadd dX4_readOperand_82 ?_
        refine xb_top (y := nI (a + 1)) (nI_add (a) (1)) ?_
        refine xr_putI fpX4_24 dX4_readOperand_83 s_6 rfl rfl rfl ?_
        refine xr_aload_n dX4_readOperand_86 1 rfl ?_
        refine xr_iload_n dX4_readOperand_87 0 rfl ?_
        refine xr_iload_n dX4_readOperand_88 2 rfl ?_
        refine xr_iconst (v := 1) dX4_readOperand_89 rfl ?_
        refine xr_iadd dX4_readOperand_90 ?_
        refine xb_top (y := nI (o + 1)) (nI_add (o) (1)) ?_
        have hl : a < E := nb_lt (T := M 7) (fun q => by first | exact absurd (c3.symm.trans q) (by decide) | exact absurd (c3.symm.trans q) (by decide))
        refine xr_callV (As := [.int ((nb (M 7) E a)), .int (nI (o + 1))]) (rest := []) mlX4_71 (rs_opened (o := o + 1) (a := a + 1) (E := E) (n := n) (nb (M 7) E a) h0 h1 (by omega) hE (by omega) (by omega) (DI_up (by decide) hD) (x_up_s _ _ _ _) (Eq.trans (x_up_k _ _ _ (by decide)) e_E) (Eq.trans (x_up_k _ _ _ (by decide)) e_0) (Eq.trans (congrFun (x_up_n _ _ _ (by decide)) _) e_n)) dX4_readOperand_91 s_6 rfl rfl (Nat.le_of_ble_eq_true rfl) (by omega) ⟨by decide, by decide⟩ (fun v s2 M6 J2 hq => ?_)
        obtain ⟨rfl, rfl, rfl, k7, ⟨hd5, hx4⟩⟩ := hq
        try dsimp only [Option.toList, List.cons_append, List.nil_append]
        refine xr_goto (tgt := 102) dX4_readOperand_94 rfl ?_
        exact xr_vret dX4_readOperand_102 rfl (⟨rfl, rfl, rfl, (Ke.tr (fun _ _ h => h) (Ke.up (Or.inl (by omega)) Ke.rf) k7), (by obtain ⟨f, a2, ok, cd, hp, h3, h4, h5, h6, h7⟩ := hx4; rw [show (x_up M 6 3 (nI (a + 1))) 7 = M 7 from (Eq.trans (x_up_n _ _ _ (by decide)) rfl)] at hp; exact ⟨hd5, f + 1, a2, ok, cd, pz_open (fun z => c1 z) (fun z => absurd c2 (by grind)) (by omega) (Or.inl c3) hp, h3, h4, h5, h6, fun j hj => ⟨(h7 j hj).1.trans (up_n (by decide)), (h7 j hj).2.trans (up_n (by decide))⟩⟩)⟩)
      · refine xr_iload_n dX4_readOperand_64 0 rfl ?_
        refine xr_bipush (v := 33) dX4_readOperand_65 rfl ?_
        refine xr_icmp_eq (tgt := 76) dX4_readOperand_67 rfl (fun c8 => ?_) (fun c8 => ?_)
        · refine xr_aload_n dX4_readOperand_76 1 rfl ?_
          refine xr_dup dX4_readOperand_77 rfl ?_
          refine xb_get (v := nI (a)) flX4_24 dX4_readOperand_78 s_6 rfl e_a ?_
          refine xr_iconst (v := 1) dX4_readOperand_81 rfl ?_
          refine xr_iadd dX4_readOperand_82 ?_
          refine xb_top (y := nI (a + 1)) (nI_add (a) (1)) ?_
          refine xr_putI fpX4_24 dX4_readOperand_83 s_6 rfl rfl rfl ?_
          refine xr_aload_n dX4_readOperand_86 1 rfl ?_
          refine xr_iload_n dX4_readOperand_87 0 rfl ?_
          refine xr_iload_n dX4_readOperand_88 2 rfl ?_
          refine xr_iconst (v := 1) dX4_readOperand_89 rfl ?_
          refine xr_iadd dX4_readOperand_90 ?_
          refine xb_top (y := nI (o + 1)) (nI_add (o) (1)) ?_
          have hl : a < E := nb_lt (T := M 7) (fun q => by first | exact absurd (c8.symm.trans q) (by decide) | exact absurd (c8.symm.trans q) (by decide))
          refine xr_callV (As := [.int ((nb (M 7) E a)), .int (nI (o + 1))]) (rest := []) mlX4_71 (rs_opened (o := o + 1) (a := a + 1) (E := E) (n := n) (nb (M 7) E a) h0 h1 (by omega) hE (by omega) (by omega) (DI_up (by decide) hD) (x_up_s _ _ _ _) (Eq.trans (x_up_k _ _ _ (by decide)) e_E) (Eq.trans (x_up_k _ _ _ (by decide)) e_0) (Eq.trans (congrFun (x_up_n _ _ _ (by decide)) _) e_n)) dX4_readOperand_91 s_6 rfl rfl (Nat.le_of_ble_eq_true rfl) (by omega) ⟨by decide, by decide⟩ (fun v s2 M11 J2 hq => ?_)
          obtain ⟨rfl, rfl, rfl, k12, ⟨hd10, hx9⟩⟩ := hq
          try dsimp only [Option.toList, List.cons_append, List.nil_append]
          refine xr_goto (tgt := 102) dX4_readOperand_94 rfl ?_
          exact xr_vret dX4_readOperand_102 rfl (⟨rfl, rfl, rfl, (Ke.tr (fun _ _ h => h) (Ke.up (Or.inl (by omega)) Ke.rf) k12), (by obtain ⟨f, a2, ok, cd, hp, h3, h4, h5, h6, h7⟩ := hx9; rw [show (x_up M 6 3 (nI (a + 1))) 7 = M 7 from (Eq.trans (x_up_n _ _ _ (by decide)) rfl)] at hp; exact ⟨hd10, f + 1, a2, ok, cd, pz_open (fun z => c1 z) (fun z => absurd c2 (by grind)) (by omega) (Or.inr (Or.inl c8)) hp, h3, h4, h5, h6, fun j hj => ⟨(h7 j hj).1.trans (up_n (by decide)), (h7 j hj).2.trans (up_n (by decide))⟩⟩)⟩)
        · refine xr_iload_n dX4_readOperand_70 0 rfl ?_
          refine xr_bipush (v := 45) dX4_readOperand_71 rfl ?_
          refine xr_icmp_ne (tgt := 97) dX4_readOperand_73 rfl (fun c13 => ?_) (fun c13 => ?_)
          · refine xr_aload_n dX4_readOperand_97 1 rfl ?_
            refine xr_iconst (v := 1) dX4_readOperand_98 rfl ?_
            refine xr_putI fpX4_27 dX4_readOperand_99 s_6 rfl rfl rfl ?_
            exact xr_vret dX4_readOperand_102 rfl (⟨rfl, rfl, rfl, (Ke.up (Or.inr (Or.inl (by omega))) Ke.rf), ⟨(DI_up (by decide) hD), 1, a, false, [], pz_stuck (fun z => c1 z) (fun z => absurd c2 (by grind)) (fun z => z.2.elim c3 (fun y => y.elim c8 c13)), (Eq.trans (x_up_k _ _ _ (by decide)) e_a), (x_up_s _ _ _ _), (Eq.trans (congrFun (x_up_n _ _ _ (by decide)) _) e_n), CAt_nil, fun j hj => ⟨up_n (by decide), up_n (by decide)⟩⟩⟩)
          · refine xr_aload_n dX4_readOperand_76 1 rfl ?_
            refine xr_dup dX4_readOperand_77 rfl ?_
            refine xb_get (v := nI (a)) flX4_24 dX4_readOperand_78 s_6 rfl e_a ?_
            refine xr_iconst (v := 1) dX4_readOperand_81 rfl ?_
            refine xr_iadd dX4_readOperand_82 ?_
            refine xb_top (y := nI (a + 1)) (nI_add (a) (1)) ?_
            refine xr_putI fpX4_24 dX4_readOperand_83 s_6 rfl rfl rfl ?_
            refine xr_aload_n dX4_readOperand_86 1 rfl ?_
            refine xr_iload_n dX4_readOperand_87 0 rfl ?_
            refine xr_iload_n dX4_readOperand_88 2 rfl ?_
            refine xr_iconst (v := 1) dX4_readOperand_89 rfl ?_
            refine xr_iadd dX4_readOperand_90 ?_
            refine xb_top (y := nI (o + 1)) (nI_add (o) (1)) ?_
            have hl : a < E := nb_lt (T := M 7) (fun q => by first | exact absurd (c13.symm.trans q) (by decide) | exact absurd (c13.symm.trans q) (by decide))
            refine xr_callV (As := [.int ((nb (M 7) E a)), .int (nI (o + 1))]) (rest := []) mlX4_71 (rs_opened (o := o + 1) (a := a + 1) (E := E) (n := n) (nb (M 7) E a) h0 h1 (by omega) hE (by omega) (by omega) (DI_up (by decide) hD) (x_up_s _ _ _ _) (Eq.trans (x_up_k _ _ _ (by decide)) e_E) (Eq.trans (x_up_k _ _ _ (by decide)) e_0) (Eq.trans (congrFun (x_up_n _ _ _ (by decide)) _) e_n)) dX4_readOperand_91 s_6 rfl rfl (Nat.le_of_ble_eq_true rfl) (by omega) ⟨by decide, by decide⟩ (fun v s2 M16 J2 hq => ?_)
            obtain ⟨rfl, rfl, rfl, k17, ⟨hd15, hx14⟩⟩ := hq
            try dsimp only [Option.toList, List.cons_append, List.nil_append]
            refine xr_goto (tgt := 102) dX4_readOperand_94 rfl ?_
            exact xr_vret dX4_readOperand_102 rfl (⟨rfl, rfl, rfl, (Ke.tr (fun _ _ h => h) (Ke.up (Or.inl (by omega)) Ke.rf) k17), (by obtain ⟨f, a2, ok, cd, hp, h3, h4, h5, h6, h7⟩ := hx14; rw [show (x_up M 6 3 (nI (a + 1))) 7 = M 7 from (Eq.trans (x_up_n _ _ _ (by decide)) rfl)] at hp; exact ⟨hd15, f + 1, a2, ok, cd, pz_open (fun z => c1 z) (fun z => absurd c2 (by grind)) (by omega) (Or.inr (Or.inr c13)) hp, h3, h4, h5, h6, fun j hj => ⟨(h7 j hj).1.trans (up_n (by decide)), (h7 j hj).2.trans (up_n (by decide))⟩⟩)⟩)
    · refine xr_aload_n dX4_readOperand_26 1 rfl ?_
      refine xr_getR flX4_16 dX4_readOperand_27 s_6 rfl ?_
      refine xr_iconst (v := 1) dX4_readOperand_30 rfl ?_
      refine xr_iload_n dX4_readOperand_31 0 rfl ?_
      refine xb_cS (As := [.int ((nb (M 7) E a))]) (rest := [.int (1), .ref (8)]) mlX4_67 (c_X4_nameOf (nb (M 7) E a)) dX4_readOperand_32 rfl rfl (Nat.le_of_ble_eq_true rfl) (by omega) (by decide) ?_
      refine xb_cV (As := [.int (1), .int ((nameK (nb (M 7) E a)))]) (rest := []) mlX4_43 (c_X3_add 1 (nameK (nb (M 7) E a)) (n := n) (by omega) e_n) dX4_readOperand_35 s_8 rfl rfl (Nat.le_of_ble_eq_true rfl) (by omega) (by decide) ?_
      refine xr_pop dX4_readOperand_38 rfl ?_
      refine xr_aload_n dX4_readOperand_39 1 rfl ?_
      refine xr_dup dX4_readOperand_40 rfl ?_
      refine xb_get (v := nI (a)) flX4_24 dX4_readOperand_41 s_6 rfl (Eq.trans (congrFun (x_up_n _ _ _ (by decide)) _) (Eq.trans (congrFun (x_up_n _ _ _ (by decide)) _) (Eq.trans (congrFun (x_up_n _ _ _ (by decide)) _) e_a))) ?_
      refine xr_iconst (v := 1) dX4_readOperand_44 rfl ?_
      refine xr_iadd dX4_readOperand_45 ?_
      refine xb_top (y := nI (a + 1)) (nI_add (a) (1)) ?_
      refine xr_putI fpX4_24 dX4_readOperand_46 s_6 rfl rfl rfl ?_
      refine xr_goto (tgt := 102) dX4_readOperand_49 rfl ?_
      exact xr_vret dX4_readOperand_102 rfl (⟨rfl, rfl, rfl, (Ke.up (Or.inl (by omega)) (Ke.up (Or.inr (Or.inr (by omega))) (Ke.up (Or.inr (Or.inr (by omega))) (Ke.up (Or.inr (Or.inr (by omega))) Ke.rf)))), ⟨(DI_up (by decide) (DI_uA (by omega) (Int32.le_trans nameK5 (by decide)) hD)), 1, a + 1, true, _, pz_name (fun z => c1 z) (by have z := c2; grind), (x_up_s _ _ _ _), (Eq.trans (x_up_k _ _ _ (by decide)) (Eq.trans (congrFun (x_up_n _ _ _ (by decide)) _) (Eq.trans (congrFun (x_up_n _ _ _ (by decide)) _) (Eq.trans (congrFun (x_up_n _ _ _ (by decide)) _) e_0)))), (Eq.trans (congrFun (x_up_n _ _ _ (by decide)) _) (x_up_s _ _ _ _)), (fun j hj => ⟨(up_n (by decide)).trans ((uA_1 j hj).1), (up_n (by decide)).trans ((uA_1 j hj).2)⟩), (fun j hj => ⟨(up_n (by decide)).trans (uA_be j hj).1, (up_n (by decide)).trans (uA_be j hj).2⟩)⟩⟩)
  · refine xr_aload_n dX4_readOperand_12 1 rfl ?_
    refine xr_callV (As := []) (rest := []) mlX4_64 (gs_X4_readNumber (a := a) (E := E) (n := n) hE ha hn hD e_a e_E e_0 e_n) dX4_readOperand_13 s_6 rfl rfl (Nat.le_of_ble_eq_true rfl) (by omega) ⟨by decide, by decide⟩ (fun v s2 M19 J2 hq => ?_)
    obtain ⟨rfl, rfl, rfl, k20, hx18⟩ := hq
    try dsimp only [Option.toList, List.cons_append, List.nil_append]
    refine xr_goto (tgt := 102) dX4_readOperand_16 rfl ?_
    exact xr_vret dX4_readOperand_102 rfl (⟨rfl, rfl, rfl, (Ke.tr (fun _ _ h => h) Ke.rf k20), ⟨hx18.1, 1, _, true, _, pz_num c1, hx18.2.1, hx18.2.2.1, hx18.2.2.2.1, hx18.2.2.2.2.1, hx18.2.2.2.2.2⟩⟩)
set_option maxRecDepth 100000 in
set_option maxHeartbeats 4000000 in
theorem rs_ch5 {l : Launch} {G : xG} {M : xM} {J : xJ} {u o : Nat} (h0 : RDS u) (ho : o + u = 6) {a E n : Nat} (hE : E ≤ 120) (ha : a ≤ E) (hn : n ≤ a) (hD : DI M) (e_a : M 6 3 = nI a) (e_E : M 6 2 = nI E) (e_0 : M 6 4 = 0) (e_n : M 8 4 = nI n) : x_M l G fX4_readChain (20 * u + 13) 0 0 [.ref (6), .int (5), .int (nI (o))] x_SH M J (qKV WRD M J (fun M2 => DI M2 ∧ PZC M M2 E 5 o a n)) := by
  refine xb_of pX4 (Nat.le_of_ble_eq_true rfl) rfl ?_
  refine xr_iload_n dX4_readChain_0 1 rfl ?_
  refine xr_iconst (v := 5) dX4_readChain_1 rfl ?_
  refine xr_icmp_lt (tgt := 11) dX4_readChain_2 rfl (fun c => absurd c (by decide)) (fun _ => ?_)
  refine xr_aload_n dX4_readChain_5 0 rfl ?_
  refine xr_iload_n dX4_readChain_6 2 rfl ?_
  refine xr_callV (As := [.int (nI (o))]) (rest := []) mlX4_50 (h0 l G M J o a E n (by omega) hE (by omega) (by omega) hD e_a e_E e_0 e_n) dX4_readChain_7 s_6 rfl rfl (Nat.le_of_ble_eq_true rfl) (by omega) ⟨by decide, by decide⟩ (fun v s2 M12 J2 hq => ?_)
  obtain ⟨rfl, rfl, rfl, k13, ⟨hd1, f2, a2_3, ok4, cd5, hp6, ea7, es8, en9, hc10, hb11⟩⟩ := hq
  try dsimp only [Option.toList, List.cons_append, List.nil_append]
  skip
  have hp6b := pz_b _ _ _ _ _ _ _ _ hp6 (by omega)
  rw [if_neg (show ¬ false = true by decide)] at hp6b
  obtain ⟨hp6x, hp6y, hp6z⟩ := hp6b
  replace hp6x : a ≤ a2_3 := hp6x
  replace hp6y : a2_3 ≤ E := hp6y
  replace hp6z : cd5.length + a ≤ a2_3 := hp6z
  exact xr_vret dX4_readChain_10 rfl (⟨rfl, rfl, rfl, (Ke.tr (fun _ _ h => h) Ke.rf k13), ⟨hd1, f2, a2_3, ok4, cd5, hp6, ea7, es8, en9, hc10, hb11⟩⟩)
/-- the rest of a chain gives the whole's end -/
def CGo (T : Nat → Int32) (E L o a a1 : Nat) (ok1 : Bool) (cd1 : zC) : Prop := ∀ (f : Nat) (r : Nat × Bool × zC), pz T E f true L o a1 ok1 cd1 = some r → ∃ f2, pz T E f2 false L o a true [] = some r
def CEnd (T : Nat → Int32) (E L o a a1 : Nat) (ok1 : Bool) (cd1 : zC) : Prop := ∃ f2, pz T E f2 false L o a true [] = some (a1, ok1, cd1)
theorem CGo_0 {T : Nat → Int32} {E L o a a1 g : Nat} {ok1 : Bool} {cd1 : zC} (hL : L < 5) (h : pz T E g false (L + 1) o a true [] = some (a1, ok1, cd1)) : CGo T E L o a a1 ok1 cd1 := fun f r hr =>
  ⟨max f g + 1, by rw [pz_s, if_pos hL, pz_mono h (Nat.le_max_right f g)]; exact pz_mono hr (Nat.le_max_left f g)⟩
theorem CGo_end {T : Nat → Int32} {E L o a a1 : Nat} {ok1 : Bool} {cd1 : zC} (h : CGo T E L o a a1 ok1 cd1) (hn : ¬ (ok1 = true ∧ isJ L (nb T E a1) = true)) : CEnd T E L o a a1 ok1 cd1 := h 1 _ (by rw [pz_l, if_neg hn])
theorem CGo_2 {T : Nat → Int32} {E o a a1 a2 g : Nat} {ok1 ok2 : Bool} {cd1 cd2 : zC} (h : CGo T E 2 o a a1 ok1 cd1) (hj : ok1 = true ∧ isJ 2 (nb T E a1) = true) (hp : pz T E g false (2 + 1) o (a1 + 1) true [] = some (a2, ok2, cd2)) : CEnd T E 2 o a a2 ok2 (cd1 ++ cd2 ++ [(nb T E a1, 0)]) := h (g + 1) _ (by rw [pz_l, if_pos hj, hp]; rfl)
theorem CGo_s {T : Nat → Int32} {E L o a a1 a2 g : Nat} {ok1 ok2 : Bool} {cd1 cd2 : zC} (hL : ¬ L = 2) (h : CGo T E L o a a1 ok1 cd1) (hj : ok1 = true ∧ isJ L (nb T E a1) = true) (hp : pz T E g false (L + 1) o (a1 + 1) true [] = some (a2, ok2, cd2)) : CGo T E L o a a2 ok2 (cd1 ++ cd2 ++ [(nb T E a1, 0)]) := fun f r hr =>
  h (max f g + 1) r (by rw [pz_l, if_pos hj, pz_mono hp (Nat.le_max_right f g)]; show (if L = 2 then _ else _) = _; rw [if_neg hL]; exact pz_mono hr (Nat.le_max_left f g))
set_option maxRecDepth 100000 in
set_option maxHeartbeats 4000000 in
theorem rcs_l {L u o a E n : Nat} (hL : L < 5) (ho : o + u = 6) (h : RCS (L + 1) u) (hE : E ≤ 120) {l : Launch} {G : xG} {M : xM} {J : xJ} : ∀ (m k : Nat) (mo : Int32) (a1 : Nat) (ok1 : Bool) (cd1 : zC) (M1 : xM), k + m = 120 → Ke WRD M M1 → DI M1 → M1 7 = M 7 → M1 6 2 = nI E → M1 6 3 = nI a1 → M1 6 4 = (if ok1 = true then 0 else 1) → M1 8 4 = nI (n + cd1.length) → CAt M1 n cd1 → CBe M M1 n → k ≤ a1 → a1 ≤ E → n + cd1.length ≤ a1 → (mo = 1 ∧ ok1 = true ∧ isJ L (nb (M 7) E a1) = true ∧ CGo (M 7) E L o a a1 ok1 cd1 ∨ mo = 0 ∧ CEnd (M 7) E L o a a1 ok1 cd1) → x_X l G fX4_readChain (20 * u + 18 - L) 0 0 (qKV WRD M J (fun M2 => DI M2 ∧ PZC M M2 E L o a n)) 28 [(4, .int (nI (k))), (3, .int (mo)), (2, .int (nI (o))), (1, .int (nI (L))), (0, .ref (6))] [] x_SH M1 J 0 0 := by
  intro m
  induction m with
  | zero =>
    intro k mo a1 ok1 cd1 M1 hk hM hD1 h7 e_E e_a e_st e_n hc hb hka haE hna hst
    rcases hst with ⟨rfl, hok, hjn, hgo⟩ | ⟨rfl, hend⟩
    · have hl : a1 < E := nb_lt (T := M 7) (isJ_ne hjn).1
      exact absurd hk (by omega)
    · refine xr_iload_n dX4_readChain_28 1 rfl ?_
      refine xr_if_eq (tgt := 99) dX4_readChain_29 rfl (fun _ => ?_) (fun c => absurd (by decide) c)
      exact xr_vret dX4_readChain_99 rfl (⟨rfl, rfl, rfl, hM, hD1, (by obtain ⟨f2, hf2⟩ := hend; exact ⟨f2, a1, ok1, cd1, hf2, e_a, e_st, e_n, hc, hb⟩)⟩)
  | succ m ih =>
    intro k mo a1 ok1 cd1 M1 hk hM hD1 h7 e_E e_a e_st e_n hc hb hka haE hna hst
    rcases hst with ⟨rfl, hok, hjn, hgo⟩ | ⟨rfl, hend⟩
    · have hl : a1 < E := nb_lt (T := M 7) (isJ_ne hjn).1
      refine xr_iload_n dX4_readChain_28 1 rfl ?_
      refine xr_if_eq (tgt := 99) dX4_readChain_29 rfl (fun c => absurd c (by decide)) (fun _ => ?_)
      refine xr_iload dX4_readChain_32 0 rfl ?_
      refine xr_bipush (v := 120) dX4_readChain_34 rfl ?_
      refine xr_icmp_ge (tgt := 99) dX4_readChain_36 rfl (fun c => absurd c (nI_ge (a := k) (b := 120) (by omega) (by omega))) (fun _ => ?_)
      refine xr_aload_n dX4_readChain_39 4 rfl ?_
      refine xb_cV (As := []) (rest := []) mlX4_57 (c_X4_next) dX4_readChain_40 s_6 rfl rfl (Nat.le_of_ble_eq_true rfl) (by omega) (by decide) ?_
      refine xb_top (y := nb (M 7) E a1) (nx_nb h7 e_a e_E hE (by omega)) ?_
      refine xr_istore (ls2 := [(5, .int ((nb (M 7) E a1))), (4, .int (nI (k))), (3, .int (1)), (2, .int (nI (o))), (1, .int (nI (L))), (0, .ref (6))]) dX4_readChain_43 (by decide) rfl ?_
      refine xr_aload_n dX4_readChain_45 5 rfl ?_
      refine xr_dup dX4_readChain_46 rfl ?_
      refine xb_get (v := nI (a1)) flX4_24 dX4_readChain_47 s_6 rfl e_a ?_
      refine xr_iconst (v := 1) dX4_readChain_50 rfl ?_
      refine xr_iadd dX4_readChain_51 ?_
      refine xb_top (y := nI (a1 + 1)) (nI_add (a1) (1)) ?_
      refine xr_putI fpX4_24 dX4_readChain_52 s_6 rfl rfl rfl ?_
      have cb0 : CBe M1 (x_up M1 6 3 (nI (a1 + 1))) (n + cd1.length) := fun j _ => ⟨up_n (by decide), up_n (by decide)⟩
      replace e_st : M1 6 4 = 0 := okN e_st hok
      refine xr_aload_n dX4_readChain_55 5 rfl ?_
      refine xr_iload_n dX4_readChain_56 4 rfl ?_
      refine xr_iconst (v := 1) dX4_readChain_57 rfl ?_
      refine xr_iadd dX4_readChain_58 ?_
      refine xb_top (y := nI (L + 1)) (nI_add (L) (1)) ?_
      refine xr_iload_n dX4_readChain_59 3 rfl ?_
      refine xr_callV (As := [.int (nI (L + 1)), .int (nI (o))]) (rest := []) mlX4_39 (h l G (x_up M1 6 3 (nI (a1 + 1))) J o (a1 + 1) E (n + cd1.length) (by omega) hE (by omega) (by omega) (DI_up (by decide) hD1) (x_up_s _ _ _ _) (Eq.trans (x_up_k _ _ _ (by decide)) e_E) (Eq.trans (x_up_k _ _ _ (by decide)) e_st) (Eq.trans (congrFun (x_up_n _ _ _ (by decide)) _) e_n)) dX4_readChain_60 s_6 rfl rfl (Nat.le_of_ble_eq_true rfl) (by omega) ⟨by decide, by decide⟩ (fun v s2 M12 J2 hq => ?_)
      obtain ⟨rfl, rfl, rfl, k13, ⟨hd1, f2, a2_3, ok4, cd5, hp6, ea7, es8, en9, hc10, hb11⟩⟩ := hq
      try dsimp only [Option.toList, List.cons_append, List.nil_append]
      rw [show (x_up M1 6 3 (nI (a1 + 1))) 7 = M 7 from (Eq.trans (x_up_n _ _ _ (by decide)) h7)] at hp6
      have hp6b := pz_b _ _ _ _ _ _ _ _ hp6 (by omega)
      rw [if_neg (show ¬ false = true by decide)] at hp6b
      obtain ⟨hp6x, hp6y, hp6z⟩ := hp6b
      replace hp6x : (a1 + 1) ≤ a2_3 := hp6x
      replace hp6y : a2_3 ≤ E := hp6y
      replace hp6z : cd5.length + (a1 + 1) ≤ a2_3 := hp6z
      refine xr_aload_n dX4_readChain_63 5 rfl ?_
      refine xr_getR flX4_16 dX4_readChain_64 s_6 rfl ?_
      refine xr_iload dX4_readChain_67 0 rfl ?_
      refine xr_iconst (v := 0) dX4_readChain_69 rfl ?_
      refine xb_cV (As := [.int ((nb (M 7) E a1)), .int (0)]) (rest := []) mlX4_43 (c_X3_add (nb (M 7) E a1) 0 (n := (n + cd1.length) + cd5.length) (by omega) en9) dX4_readChain_70 s_8 rfl rfl (Nat.le_of_ble_eq_true rfl) (by omega) (by decide) ?_
      refine xr_pop dX4_readChain_73 rfl ?_
      refine xr_iload_n dX4_readChain_74 4 rfl ?_
      refine xr_iconst (v := 2) dX4_readChain_75 rfl ?_
      refine xr_icmp_eq (tgt := 91) dX4_readChain_76 rfl (fun c14 => ?_) (fun c14 => ?_)
      · have nc14 : L = 2 := (nI_eq (a := L) (b := 2) (by omega) (by omega)).mp c14
        have nL2 : L = 2 := by omega
        refine xr_iconst (v := 0) dX4_readChain_91 rfl ?_
        refine xr_istore_n (ls2 := [(3, .int (0)), (5, .int ((nb (M 7) E a1))), (4, .int (nI (k))), (2, .int (nI (o))), (1, .int (nI (L))), (0, .ref (6))]) dX4_readChain_92 (by decide) rfl ?_
        refine xr_iinc (v := nI (k + 1)) (ls2 := [(4, .int (nI (k + 1))), (3, .int (0)), (5, .int ((nb (M 7) E a1))), (2, .int (nI (o))), (1, .int (nI (L))), (0, .ref (6))]) dX4_readChain_93 2 rfl (nI_1 _) (by decide) rfl ?_
        refine xr_goto (tgt := 28) dX4_readChain_96 rfl ?_
        refine xb_ls (ls2 := [(4, .int (nI (k + 1))), (3, .int (0)), (2, .int (nI (o))), (1, .int (nI (L))), (0, .ref (6))]) [0, 1, 3, 4, 5] rfl ?_
        have hlen : n + cd1.length + cd5.length + 1 = n + (cd1 ++ cd5 ++ [(nb (M 7) E a1, 0)]).length := by rw [List.length_append, List.length_append, List.length_singleton]; omega
        exact ih (k + 1) _ a2_3 ok4 (cd1 ++ cd5 ++ [(nb (M 7) E a1, 0)]) (x_up (x_up (x_up M12 9 ((n + cd1.length) + cd5.length) (nb (M 7) E a1)) 10 ((n + cd1.length) + cd5.length) 0) 8 4 (nI ((n + cd1.length) + cd5.length + 1))) (by omega) (Ke.up (Or.inr (Or.inr (by omega))) (Ke.up (Or.inr (Or.inr (by omega))) (Ke.up (Or.inr (Or.inr (by omega))) (Ke.tr (fun _ _ h => h) (Ke.up (Or.inl (by omega)) hM) k13)))) (DI_uA (by omega) (by decide) hd1) ((Eq.trans (x_up_n _ _ _ (by decide)) (Eq.trans (x_up_n _ _ _ (by decide)) (Eq.trans (x_up_n _ _ _ (by decide)) (Eq.trans (funext fun kk => k13 7 kk (by unfold WRD; omega)) (Eq.trans (x_up_n _ _ _ (by decide)) h7)))))) (Eq.trans (congrFun (x_up_n _ _ _ (by decide)) _) (Eq.trans (congrFun (x_up_n _ _ _ (by decide)) _) (Eq.trans (congrFun (x_up_n _ _ _ (by decide)) _) (Eq.trans (k13 6 2 (by decide)) (Eq.trans (x_up_k _ _ _ (by decide)) e_E))))) (Eq.trans (congrFun (x_up_n _ _ _ (by decide)) _) (Eq.trans (congrFun (x_up_n _ _ _ (by decide)) _) (Eq.trans (congrFun (x_up_n _ _ _ (by decide)) _) ea7))) (Eq.trans (congrFun (x_up_n _ _ _ (by decide)) _) (Eq.trans (congrFun (x_up_n _ _ _ (by decide)) _) (Eq.trans (congrFun (x_up_n _ _ _ (by decide)) _) es8))) (by rw [← hlen]; exact (x_up_s _ _ _ _)) (CAt_2 (CAt_app (CAt_be (CAt_be hc cb0 (Nat.le_refl _)) hb11 (Nat.le_refl _)) hc10) (by rw [show n + (cd1 ++ cd5).length = n + cd1.length + cd5.length by rw [List.length_append]; omega])) (CBe.tr (CBe.tr (CBe.tr hb cb0 (by omega)) hb11 (by omega)) uA_be (by omega)) (by omega) (by omega) (by rw [← hlen]; omega) (Or.inr ⟨rfl, by subst nL2; exact CGo_2 hgo ⟨hok, hjn⟩ hp6⟩)
      · have nc14 : ¬ (L = 2) := fun q => c14 ((nI_eq (a := L) (b := 2) (by omega) (by omega)).mpr q)
        have nL2 : ¬ L = 2 := by omega
        refine xr_aload_n dX4_readChain_79 5 rfl ?_
        refine xr_iload_n dX4_readChain_80 4 rfl ?_
        refine xr_callV (As := [.int (nI (L))]) (rest := []) mlX4_54 (gs_X4_isJoin (M := (x_up (x_up (x_up M12 9 ((n + cd1.length) + cd5.length) (nb (M 7) E a1)) 10 ((n + cd1.length) + cd5.length) 0) 8 4 (nI ((n + cd1.length) + cd5.length + 1)))) (L := L) hL (a := a2_3) hE (by omega) (Eq.trans (congrFun (x_up_n _ _ _ (by decide)) _) (Eq.trans (congrFun (x_up_n _ _ _ (by decide)) _) (Eq.trans (congrFun (x_up_n _ _ _ (by decide)) _) ea7))) (Eq.trans (congrFun (x_up_n _ _ _ (by decide)) _) (Eq.trans (congrFun (x_up_n _ _ _ (by decide)) _) (Eq.trans (congrFun (x_up_n _ _ _ (by decide)) _) (Eq.trans (k13 6 2 (by decide)) (Eq.trans (x_up_k _ _ _ (by decide)) e_E)))))) dX4_readChain_81 s_6 rfl rfl (Nat.le_of_ble_eq_true rfl) (by omega) ⟨by decide, by decide⟩ (fun v s2 M9 J2 hq => ?_)
        obtain ⟨r16, rfl, rfl, rfl, rfl, hx15⟩ := hq
        try dsimp only [Option.toList, List.cons_append, List.nil_append]
        rcases hx15 with ⟨rfl, hj4_17, hj_18⟩ | ⟨rfl, hj_18⟩
        · rw [show (x_up (x_up (x_up M12 9 ((n + cd1.length) + cd5.length) (nb (M 7) E a1)) 10 ((n + cd1.length) + cd5.length) 0) 8 4 (nI ((n + cd1.length) + cd5.length + 1))) 7 = M 7 from (Eq.trans (x_up_n _ _ _ (by decide)) (Eq.trans (x_up_n _ _ _ (by decide)) (Eq.trans (x_up_n _ _ _ (by decide)) (Eq.trans (funext fun kk => k13 7 kk (by unfold WRD; omega)) (Eq.trans (x_up_n _ _ _ (by decide)) h7)))))] at hj_18
          refine xr_if_eq (tgt := 91) dX4_readChain_84 rfl (fun c => absurd c (by decide)) (fun _ => ?_)
          refine xr_iconst (v := 1) dX4_readChain_87 rfl ?_
          refine xr_goto (tgt := 92) dX4_readChain_88 rfl ?_
          refine xr_istore_n (ls2 := [(3, .int (1)), (5, .int ((nb (M 7) E a1))), (4, .int (nI (k))), (2, .int (nI (o))), (1, .int (nI (L))), (0, .ref (6))]) dX4_readChain_92 (by decide) rfl ?_
          refine xr_iinc (v := nI (k + 1)) (ls2 := [(4, .int (nI (k + 1))), (3, .int (1)), (5, .int ((nb (M 7) E a1))), (2, .int (nI (o))), (1, .int (nI (L))), (0, .ref (6))]) dX4_readChain_93 2 rfl (nI_1 _) (by decide) rfl ?_
          refine xr_goto (tgt := 28) dX4_readChain_96 rfl ?_
          refine xb_ls (ls2 := [(4, .int (nI (k + 1))), (3, .int (1)), (2, .int (nI (o))), (1, .int (nI (L))), (0, .ref (6))]) [0, 1, 3, 4, 5] rfl ?_
          have hlen : n + cd1.length + cd5.length + 1 = n + (cd1 ++ cd5 ++ [(nb (M 7) E a1, 0)]).length := by rw [List.length_append, List.length_append, List.length_singleton]; omega
          exact ih (k + 1) _ a2_3 ok4 (cd1 ++ cd5 ++ [(nb (M 7) E a1, 0)]) (x_up (x_up (x_up M12 9 ((n + cd1.length) + cd5.length) (nb (M 7) E a1)) 10 ((n + cd1.length) + cd5.length) 0) 8 4 (nI ((n + cd1.length) + cd5.length + 1))) (by omega) (Ke.up (Or.inr (Or.inr (by omega))) (Ke.up (Or.inr (Or.inr (by omega))) (Ke.up (Or.inr (Or.inr (by omega))) (Ke.tr (fun _ _ h => h) (Ke.up (Or.inl (by omega)) hM) k13)))) (DI_uA (by omega) (by decide) hd1) ((Eq.trans (x_up_n _ _ _ (by decide)) (Eq.trans (x_up_n _ _ _ (by decide)) (Eq.trans (x_up_n _ _ _ (by decide)) (Eq.trans (funext fun kk => k13 7 kk (by unfold WRD; omega)) (Eq.trans (x_up_n _ _ _ (by decide)) h7)))))) (Eq.trans (congrFun (x_up_n _ _ _ (by decide)) _) (Eq.trans (congrFun (x_up_n _ _ _ (by decide)) _) (Eq.trans (congrFun (x_up_n _ _ _ (by decide)) _) (Eq.trans (k13 6 2 (by decide)) (Eq.trans (x_up_k _ _ _ (by decide)) e_E))))) (Eq.trans (congrFun (x_up_n _ _ _ (by decide)) _) (Eq.trans (congrFun (x_up_n _ _ _ (by decide)) _) (Eq.trans (congrFun (x_up_n _ _ _ (by decide)) _) ea7))) (Eq.trans (congrFun (x_up_n _ _ _ (by decide)) _) (Eq.trans (congrFun (x_up_n _ _ _ (by decide)) _) (Eq.trans (congrFun (x_up_n _ _ _ (by decide)) _) es8))) (by rw [← hlen]; exact (x_up_s _ _ _ _)) (CAt_2 (CAt_app (CAt_be (CAt_be hc cb0 (Nat.le_refl _)) hb11 (Nat.le_refl _)) hc10) (by rw [show n + (cd1 ++ cd5).length = n + cd1.length + cd5.length by rw [List.length_append]; omega])) (CBe.tr (CBe.tr (CBe.tr hb cb0 (by omega)) hb11 (by omega)) uA_be (by omega)) (by omega) (by omega) (by rw [← hlen]; omega) (Or.inl ⟨rfl, okI (Eq.trans (congrFun (x_up_n _ _ _ (by decide)) _) (Eq.trans (congrFun (x_up_n _ _ _ (by decide)) _) (Eq.trans (congrFun (x_up_n _ _ _ (by decide)) _) es8))) hj4_17, hj_18, CGo_s nL2 hgo ⟨hok, hjn⟩ hp6⟩)
        · rw [show (x_up (x_up (x_up M12 9 ((n + cd1.length) + cd5.length) (nb (M 7) E a1)) 10 ((n + cd1.length) + cd5.length) 0) 8 4 (nI ((n + cd1.length) + cd5.length + 1))) 7 = M 7 from (Eq.trans (x_up_n _ _ _ (by decide)) (Eq.trans (x_up_n _ _ _ (by decide)) (Eq.trans (x_up_n _ _ _ (by decide)) (Eq.trans (funext fun kk => k13 7 kk (by unfold WRD; omega)) (Eq.trans (x_up_n _ _ _ (by decide)) h7)))))] at hj_18
          refine xr_if_eq (tgt := 91) dX4_readChain_84 rfl (fun _ => ?_) (fun c => absurd (by decide) c)
          refine xr_iconst (v := 0) dX4_readChain_91 rfl ?_
          refine xr_istore_n (ls2 := [(3, .int (0)), (5, .int ((nb (M 7) E a1))), (4, .int (nI (k))), (2, .int (nI (o))), (1, .int (nI (L))), (0, .ref (6))]) dX4_readChain_92 (by decide) rfl ?_
          refine xr_iinc (v := nI (k + 1)) (ls2 := [(4, .int (nI (k + 1))), (3, .int (0)), (5, .int ((nb (M 7) E a1))), (2, .int (nI (o))), (1, .int (nI (L))), (0, .ref (6))]) dX4_readChain_93 2 rfl (nI_1 _) (by decide) rfl ?_
          refine xr_goto (tgt := 28) dX4_readChain_96 rfl ?_
          refine xb_ls (ls2 := [(4, .int (nI (k + 1))), (3, .int (0)), (2, .int (nI (o))), (1, .int (nI (L))), (0, .ref (6))]) [0, 1, 3, 4, 5] rfl ?_
          have hlen : n + cd1.length + cd5.length + 1 = n + (cd1 ++ cd5 ++ [(nb (M 7) E a1, 0)]).length := by rw [List.length_append, List.length_append, List.length_singleton]; omega
          exact ih (k + 1) _ a2_3 ok4 (cd1 ++ cd5 ++ [(nb (M 7) E a1, 0)]) (x_up (x_up (x_up M12 9 ((n + cd1.length) + cd5.length) (nb (M 7) E a1)) 10 ((n + cd1.length) + cd5.length) 0) 8 4 (nI ((n + cd1.length) + cd5.length + 1))) (by omega) (Ke.up (Or.inr (Or.inr (by omega))) (Ke.up (Or.inr (Or.inr (by omega))) (Ke.up (Or.inr (Or.inr (by omega))) (Ke.tr (fun _ _ h => h) (Ke.up (Or.inl (by omega)) hM) k13)))) (DI_uA (by omega) (by decide) hd1) ((Eq.trans (x_up_n _ _ _ (by decide)) (Eq.trans (x_up_n _ _ _ (by decide)) (Eq.trans (x_up_n _ _ _ (by decide)) (Eq.trans (funext fun kk => k13 7 kk (by unfold WRD; omega)) (Eq.trans (x_up_n _ _ _ (by decide)) h7)))))) (Eq.trans (congrFun (x_up_n _ _ _ (by decide)) _) (Eq.trans (congrFun (x_up_n _ _ _ (by decide)) _) (Eq.trans (congrFun (x_up_n _ _ _ (by decide)) _) (Eq.trans (k13 6 2 (by decide)) (Eq.trans (x_up_k _ _ _ (by decide)) e_E))))) (Eq.trans (congrFun (x_up_n _ _ _ (by decide)) _) (Eq.trans (congrFun (x_up_n _ _ _ (by decide)) _) (Eq.trans (congrFun (x_up_n _ _ _ (by decide)) _) ea7))) (Eq.trans (congrFun (x_up_n _ _ _ (by decide)) _) (Eq.trans (congrFun (x_up_n _ _ _ (by decide)) _) (Eq.trans (congrFun (x_up_n _ _ _ (by decide)) _) es8))) (by rw [← hlen]; exact (x_up_s _ _ _ _)) (CAt_2 (CAt_app (CAt_be (CAt_be hc cb0 (Nat.le_refl _)) hb11 (Nat.le_refl _)) hc10) (by rw [show n + (cd1 ++ cd5).length = n + cd1.length + cd5.length by rw [List.length_append]; omega])) (CBe.tr (CBe.tr (CBe.tr hb cb0 (by omega)) hb11 (by omega)) uA_be (by omega)) (by omega) (by omega) (by rw [← hlen]; omega) (Or.inr ⟨rfl, CGo_end (CGo_s nL2 hgo ⟨hok, hjn⟩ hp6) (fun z => hj_18 ⟨okN (Eq.trans (congrFun (x_up_n _ _ _ (by decide)) _) (Eq.trans (congrFun (x_up_n _ _ _ (by decide)) _) (Eq.trans (congrFun (x_up_n _ _ _ (by decide)) _) es8))) z.1, z.2⟩)⟩)
    · refine xr_iload_n dX4_readChain_28 1 rfl ?_
      refine xr_if_eq (tgt := 99) dX4_readChain_29 rfl (fun _ => ?_) (fun c => absurd (by decide) c)
      exact xr_vret dX4_readChain_99 rfl (⟨rfl, rfl, rfl, hM, hD1, (by obtain ⟨f2, hf2⟩ := hend; exact ⟨f2, a1, ok1, cd1, hf2, e_a, e_st, e_n, hc, hb⟩)⟩)
set_option maxRecDepth 100000 in
set_option maxHeartbeats 4000000 in
theorem rs_chL {l : Launch} {G : xG} {M : xM} {J : xJ} {L u o : Nat} (hL : L < 5) (ho : o + u = 6) (h : RCS (L + 1) u) {a E n : Nat} (hE : E ≤ 120) (ha : a ≤ E) (hn : n ≤ a) (hD : DI M) (e_a : M 6 3 = nI a) (e_E : M 6 2 = nI E) (e_0 : M 6 4 = 0) (e_n : M 8 4 = nI n) : x_M l G fX4_readChain (20 * u + 18 - L) 0 0 [.ref (6), .int (nI (L)), .int (nI (o))] x_SH M J (qKV WRD M J (fun M2 => DI M2 ∧ PZC M M2 E L o a n)) := by
  refine xb_of pX4 (Nat.le_of_ble_eq_true rfl) rfl ?_
  refine xr_iload_n dX4_readChain_0 1 rfl ?_
  refine xr_iconst (v := 5) dX4_readChain_1 rfl ?_
  refine xr_icmp_lt (tgt := 11) dX4_readChain_2 rfl (fun _ => ?_) (fun c => absurd (nI_lt (a := L) (b := 5) (by omega) (by omega)) c)
  refine xr_aload_n dX4_readChain_11 0 rfl ?_
  refine xr_iload_n dX4_readChain_12 1 rfl ?_
  refine xr_iconst (v := 1) dX4_readChain_13 rfl ?_
  refine xr_iadd dX4_readChain_14 ?_
  refine xb_top (y := nI (L + 1)) (nI_add (L) (1)) ?_
  refine xr_iload_n dX4_readChain_15 2 rfl ?_
  refine xr_callV (As := [.int (nI (L + 1)), .int (nI (o))]) (rest := []) mlX4_39 (h l G M J o a E n (by omega) hE (by omega) (by omega) hD e_a e_E e_0 e_n) dX4_readChain_16 s_6 rfl rfl (Nat.le_of_ble_eq_true rfl) (by omega) ⟨by decide, by decide⟩ (fun v s2 M12 J2 hq => ?_)
  obtain ⟨rfl, rfl, rfl, k13, ⟨hd1, f2, a2_3, ok4, cd5, hp6, ea7, es8, en9, hc10, hb11⟩⟩ := hq
  try dsimp only [Option.toList, List.cons_append, List.nil_append]
  skip
  have hp6b := pz_b _ _ _ _ _ _ _ _ hp6 (by omega)
  rw [if_neg (show ¬ false = true by decide)] at hp6b
  obtain ⟨hp6x, hp6y, hp6z⟩ := hp6b
  replace hp6x : a ≤ a2_3 := hp6x
  replace hp6y : a2_3 ≤ E := hp6y
  replace hp6z : cd5.length + a ≤ a2_3 := hp6z
  refine xr_aload_n dX4_readChain_19 0 rfl ?_
  refine xr_iload_n dX4_readChain_20 1 rfl ?_
  refine xr_callV (As := [.int (nI (L))]) (rest := []) mlX4_54 (gs_X4_isJoin (M := M12) (L := L) hL (a := a2_3) hE (by omega) ea7 (Eq.trans (k13 6 2 (by decide)) e_E)) dX4_readChain_21 s_6 rfl rfl (Nat.le_of_ble_eq_true rfl) (by omega) ⟨by decide, by decide⟩ (fun v s2 M9 J2 hq => ?_)
  obtain ⟨r15, rfl, rfl, rfl, rfl, hx14⟩ := hq
  try dsimp only [Option.toList, List.cons_append, List.nil_append]
  rcases hx14 with ⟨rfl, hj4_16, hj_17⟩ | ⟨rfl, hj_17⟩
  · rw [show M12 7 = M 7 from (Eq.trans (funext fun kk => k13 7 kk (by unfold WRD; omega)) rfl)] at hj_17
    refine xr_istore_n (ls2 := [(3, .int (1)), (0, .ref (6)), (1, .int (nI (L))), (2, .int (nI (o)))]) dX4_readChain_24 (by decide) rfl ?_
    refine xr_iconst (v := 0) dX4_readChain_25 rfl ?_
    refine xr_istore (ls2 := [(4, .int (0)), (3, .int (1)), (0, .ref (6)), (1, .int (nI (L))), (2, .int (nI (o)))]) dX4_readChain_26 (by decide) rfl ?_
    refine xb_ls (ls2 := [(4, .int (nI (0))), (3, .int (1)), (2, .int (nI (o))), (1, .int (nI (L))), (0, .ref (6))]) [0, 1, 4, 3, 2] rfl ?_
    exact rcs_l hL ho h hE 120 0 _ a2_3 ok4 cd5 M12 (by omega) (Ke.tr (fun _ _ h => h) Ke.rf k13) hd1 ((Eq.trans (funext fun kk => k13 7 kk (by unfold WRD; omega)) rfl)) (Eq.trans (k13 6 2 (by decide)) e_E) ea7 es8 en9 hc10 hb11 (Nat.zero_le _) (by omega) (by omega) (Or.inl ⟨rfl, okI es8 hj4_16, hj_17, CGo_0 hL hp6⟩)
  · rw [show M12 7 = M 7 from (Eq.trans (funext fun kk => k13 7 kk (by unfold WRD; omega)) rfl)] at hj_17
    refine xr_istore_n (ls2 := [(3, .int (0)), (0, .ref (6)), (1, .int (nI (L))), (2, .int (nI (o)))]) dX4_readChain_24 (by decide) rfl ?_
    refine xr_iconst (v := 0) dX4_readChain_25 rfl ?_
    refine xr_istore (ls2 := [(4, .int (0)), (3, .int (0)), (0, .ref (6)), (1, .int (nI (L))), (2, .int (nI (o)))]) dX4_readChain_26 (by decide) rfl ?_
    refine xb_ls (ls2 := [(4, .int (nI (0))), (3, .int (0)), (2, .int (nI (o))), (1, .int (nI (L))), (0, .ref (6))]) [0, 1, 4, 3, 2] rfl ?_
    exact rcs_l hL ho h hE 120 0 _ a2_3 ok4 cd5 M12 (by omega) (Ke.tr (fun _ _ h => h) Ke.rf k13) hd1 ((Eq.trans (funext fun kk => k13 7 kk (by unfold WRD; omega)) rfl)) (Eq.trans (k13 6 2 (by decide)) e_E) ea7 es8 en9 hc10 hb11 (Nat.zero_le _) (by omega) (by omega) (Or.inr ⟨rfl, CGo_end (CGo_0 hL hp6) (fun z => hj_17 ⟨okN es8 z.1, z.2⟩)⟩)
theorem rs_chain {u : Nat} (h0 : RDS u) : ∀ m L, L + m = 5 → RCS L u := by
  intro m
  induction m with
  | zero =>
    intro L hL
    obtain rfl : L = 5 := by omega
    exact fun l G M J o a E n ho hE ha hn hD h1 h2 h3 h4 => rs_ch5 h0 ho hE ha hn hD h1 h2 h3 h4
  | succ m ih =>
    intro L hL
    exact fun l G M J o a E n ho hE ha hn hD h1 h2 h3 h4 => rs_chL (by omega) ho (ih (L + 1) (by omega)) hE ha hn hD h1 h2 h3 h4
theorem rs_all : ∀ u, RDS u := by
  intro u
  induction u with
  | zero => exact fun l G M J o a E n ho hE ha hn hD h1 h2 h3 h4 => rs_op0 (by omega) hE ha hn hD h1 h2 h3 h4
  | succ u ih => exact fun l G M J o a E n ho hE ha hn hD h1 h2 h3 h4 => rs_opS ih (rs_chain ih 5 0 (by omega)) ho hE ha hn hD h1 h2 h3 h4
theorem rs_top {l : Launch} {G : xG} {M : xM} {J : xJ} {a E n : Nat} (hE : E ≤ 120) (ha : a ≤ E) (hn : n ≤ a) (hD : DI M) (h1 : M 6 3 = nI a) (h2 : M 6 2 = nI E) (h3 : M 6 4 = 0) (h4 : M 8 4 = nI n) : x_M l G fX4_readChain 138 0 0 [.ref 6, .int 0, .int 0] x_SH M J (qKV WRD M J (fun M2 => DI M2 ∧ PZC M M2 E 0 0 a n)) := rs_chain (rs_all 6) 5 0 (by omega) l G M J 0 a E n (by omega) hE ha hn hD h1 h2 h3 h4
