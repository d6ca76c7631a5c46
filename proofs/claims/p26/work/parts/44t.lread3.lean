/-- what a line's reading leaves -/
def LNC (M M2 : xM) (E a n : Nat) : Prop := ∃ (f a2 : Nat) (ok : Bool) (c1 : zC) (o : Option zC), lnB (M 7) E f a = some (a2, ok, c1, o) ∧ M2 6 3 = nI a2 ∧ M2 6 4 = (if ok = true then 0 else 1) ∧ M2 8 4 = nI (n + (lcode n c1 o).length) ∧ n + (lcode n c1 o).length ≤ a2 + 1 ∧ CAt M2 n (lcode n c1 o) ∧ CBe M M2 n
theorem lnB_1 {T : Nat → Int32} {E f a a1 : Nat} {ok : Bool} {c1 : zC} (h : pz T E f false 0 0 a true [] = some (a1, ok, c1)) (hn : ¬ (ok = true ∧ nb T E a1 = 63)) : lnB T E f a = some (a1, ok, c1, none) := by unfold lnB; rw [h]; exact if_neg hn
theorem lnB_2 {T : Nat → Int32} {E f g a a1 a2 : Nat} {ok ok2 : Bool} {c1 c2 : zC} (h : pz T E f false 0 0 a true [] = some (a1, ok, c1)) (hn : ok = true ∧ nb T E a1 = 63) (h2 : pz T E g false 0 0 (a1 + 1) true [] = some (a2, ok2, c2)) : lnB T E (max f g) a = some (a2, ok2, c1, some c2) := by
  unfold lnB
  rw [pz_mono h (Nat.le_max_left f g)]
  show (if ok = true ∧ nb T E a1 = 63 then _ else _) = _
  rw [if_pos hn, pz_mono h2 (Nat.le_max_right f g)]; rfl
theorem lcode_l1 {n : Nat} {c1 : zC} : (lcode n c1 none).length = c1.length + 1 := List.length_append
theorem lcode_l2 {n : Nat} {c1 c2 : zC} : (lcode n c1 (some c2)).length = c1.length + (c2.length + 2) := by
  show (c1 ++ ((2, nI (n + c1.length + 1 + c2.length)) :: (c2 ++ [(3, 0)]))).length = _
  rw [List.length_append, List.length_cons, List.length_append, List.length_singleton]
set_option maxRecDepth 100000 in
set_option maxHeartbeats 4000000 in
theorem gs_X4_readLine {l : Launch} {G : xG} {M : xM} {J : xJ} {a E n : Nat} (hE : E ≤ 120) (ha : a ≤ E) (hn : n ≤ a) (hD : DI M) (e_a : M 6 3 = nI a) (e_E : M 6 2 = nI E) (e_0 : M 6 4 = 0) (e_n : M 8 4 = nI n) : x_M l G fX4_readLine 139 0 0 [.ref 6] x_SH M J (qKV WRD M J (fun M2 => DI M2 ∧ LNC M M2 E a n)) := by
  refine xb_of pX4 (Nat.le_of_ble_eq_true rfl) rfl ?_
  refine xr_aload_n dX4_readLine_0 0 rfl ?_
  refine xr_iconst (v := 0) dX4_readLine_1 rfl ?_
  refine xr_iconst (v := 0) dX4_readLine_2 rfl ?_
  refine xr_callV (As := [.int (0), .int (0)]) (rest := []) mlX4_39 (rs_top (M := M) (a := a) (E := E) (n := n) hE (by omega) (by omega) hD e_a e_E e_0 e_n) dX4_readLine_3 s_6 rfl rfl (Nat.le_of_ble_eq_true rfl) (by decide) ⟨by decide, by decide⟩ (fun v s2 M12 J2 hq => ?_)
  obtain ⟨rfl, rfl, rfl, k13, ⟨hd1, f2, a2_3, ok4, cd5, hp6, ea7, es8, en9, hc10, hb11⟩⟩ := hq
  try dsimp only [Option.toList, List.cons_append, List.nil_append]
  have hp6b := pz_b _ _ _ _ _ _ _ _ hp6 (by omega)
  rw [if_neg (show ¬ false = true by decide)] at hp6b
  obtain ⟨hp6x, hp6y, hp6z⟩ := hp6b
  replace hp6x : a ≤ a2_3 := hp6x
  replace hp6y : a2_3 ≤ E := hp6y
  replace hp6z : cd5.length + a ≤ a2_3 := hp6z
  refine xr_iconst (v := -1) dX4_readLine_6 rfl ?_
  refine xr_istore_n (ls2 := [(1, .int ((-1))), (0, .ref (6))]) dX4_readLine_7 (by decide) rfl ?_
  refine xr_aload_n dX4_readLine_8 1 rfl ?_
  refine xr_bipush (v := 63) dX4_readLine_9 rfl ?_
  refine xr_callV (As := [.int (63)]) (rest := []) mlX4_35 (gs_X4_takes (M := M12) 63 (a := a2_3) hE (by omega) ea7 (Eq.trans (k13 6 2 (by decide)) e_E)) dX4_readLine_11 s_6 rfl rfl (Nat.le_of_ble_eq_true rfl) (by decide) ⟨by decide, by decide⟩ (fun v s2 M15 J2 hq => ?_)
  obtain ⟨r17, rfl, rfl, rfl, k16, hx14⟩ := hq
  try dsimp only [Option.toList, List.cons_append, List.nil_append]
  rcases hx14 with ⟨rfl, ⟨h0_19, h41_18⟩, ea20⟩ | ⟨rfl, hno21, ea20⟩
  · rw [show M12 7 = M 7 from (Eq.trans (funext fun kk => k13 7 kk (by unfold WRD; omega)) rfl)] at h41_18
    have hok1 : ok4 = true := okI es8 h0_19
    have hl1 : a2_3 < E := nb_lt (T := M 7) (fun z => absurd (h41_18.symm.trans z) (by decide))
    refine xr_if_eq (tgt := 33) dX4_readLine_14 rfl (fun c => absurd c (by decide)) (fun _ => ?_)
    refine xr_aload_n dX4_readLine_17 1 rfl ?_
    refine xr_getR flX4_16 dX4_readLine_18 s_6 rfl ?_
    refine xr_iconst (v := 2) dX4_readLine_21 rfl ?_
    refine xr_iconst (v := 0) dX4_readLine_22 rfl ?_
    refine xb_cV (As := [.int (2), .int (0)]) (rest := []) mlX4_43 (c_X3_add 2 0 (n := n + cd5.length) (by omega) (Eq.trans (k16 8 4 (by decide)) en9)) dX4_readLine_23 s_8 rfl rfl (Nat.le_of_ble_eq_true rfl) (by decide) (by decide) ?_
    refine xr_istore_n (ls2 := [(1, .int (nI (n + cd5.length))), (0, .ref (6))]) dX4_readLine_26 (by decide) rfl ?_
    refine xr_aload_n dX4_readLine_27 1 rfl ?_
    refine xr_iconst (v := 0) dX4_readLine_28 rfl ?_
    refine xr_iconst (v := 0) dX4_readLine_29 rfl ?_
    refine xr_callV (As := [.int (0), .int (0)]) (rest := []) mlX4_39 (rs_top (M := (x_up (x_up (x_up M15 9 (n + cd5.length) 2) 10 (n + cd5.length) 0) 8 4 (nI (n + cd5.length + 1)))) (a := (a2_3 + 1)) (E := E) (n := (n + cd5.length + 1)) hE (by omega) (by omega) (DI_uA (by omega) (by decide) (DI_ke (by intro k; unfold WAT; omega) k16 hd1)) (Eq.trans (congrFun (x_up_n _ _ _ (by decide)) _) (Eq.trans (congrFun (x_up_n _ _ _ (by decide)) _) (Eq.trans (congrFun (x_up_n _ _ _ (by decide)) _) ea20))) (Eq.trans (congrFun (x_up_n _ _ _ (by decide)) _) (Eq.trans (congrFun (x_up_n _ _ _ (by decide)) _) (Eq.trans (congrFun (x_up_n _ _ _ (by decide)) _) (Eq.trans (k16 6 2 (by decide)) (Eq.trans (k13 6 2 (by decide)) e_E))))) (Eq.trans (congrFun (x_up_n _ _ _ (by decide)) _) (Eq.trans (congrFun (x_up_n _ _ _ (by decide)) _) (Eq.trans (congrFun (x_up_n _ _ _ (by decide)) _) ((k16 6 4 (by unfold WAT; omega)).trans h0_19)))) (x_up_s _ _ _ _)) dX4_readLine_30 s_6 rfl rfl (Nat.le_of_ble_eq_true rfl) (by decide) ⟨by decide, by decide⟩ (fun v s2 M33 J2 hq => ?_)
    obtain ⟨rfl, rfl, rfl, k34, ⟨hd22, f23, a2_24, ok25, cd26, hp27, ea28, es29, en30, hc31, hb32⟩⟩ := hq
    try dsimp only [Option.toList, List.cons_append, List.nil_append]
    rw [show (x_up (x_up (x_up M15 9 (n + cd5.length) 2) 10 (n + cd5.length) 0) 8 4 (nI (n + cd5.length + 1))) 7 = M 7 from (Eq.trans (x_up_n _ _ _ (by decide)) (Eq.trans (x_up_n _ _ _ (by decide)) (Eq.trans (x_up_n _ _ _ (by decide)) (Eq.trans (funext fun kk => k16 7 kk (by unfold WAT; omega)) (Eq.trans (funext fun kk => k13 7 kk (by unfold WRD; omega)) rfl)))))] at hp27
    have hp27b := pz_b _ _ _ _ _ _ _ _ hp27 (by omega)
    rw [if_neg (show ¬ false = true by decide)] at hp27b
    obtain ⟨hp27x, hp27y, hp27z⟩ := hp27b
    replace hp27x : (a2_3 + 1) ≤ a2_24 := hp27x
    replace hp27y : a2_24 ≤ E := hp27y
    replace hp27z : cd26.length + (a2_3 + 1) ≤ a2_24 := hp27z
    refine xr_aload_n dX4_readLine_33 1 rfl ?_
    refine xr_getR flX4_16 dX4_readLine_34 s_6 rfl ?_
    refine xr_iconst (v := 3) dX4_readLine_37 rfl ?_
    refine xr_iconst (v := 0) dX4_readLine_38 rfl ?_
    refine xb_cV (As := [.int (3), .int (0)]) (rest := []) mlX4_43 (c_X3_add 3 0 (n := (n + cd5.length + 1) + cd26.length) (by omega) en30) dX4_readLine_39 s_8 rfl rfl (Nat.le_of_ble_eq_true rfl) (by decide) (by decide) ?_
    refine xr_istore_n (ls2 := [(2, .int (nI ((n + cd5.length + 1) + cd26.length))), (1, .int (nI (n + cd5.length))), (0, .ref (6))]) dX4_readLine_42 (by decide) rfl ?_
    refine xr_iload_n dX4_readLine_43 1 rfl ?_
    refine xr_if_lt (tgt := 57) dX4_readLine_44 rfl (fun c => absurd c (nI_nlt (a := n + cd5.length) (b := 0) (by omega) (by omega))) (fun _ => ?_)
    refine xr_aload_n dX4_readLine_47 2 rfl ?_
    refine xr_getR flX4_16 dX4_readLine_48 s_6 rfl ?_
    refine xr_getR flX4_47 dX4_readLine_51 s_8 rfl ?_
    refine xr_iload_n dX4_readLine_54 1 rfl ?_
    refine xr_iload_n dX4_readLine_55 0 rfl ?_
    refine xb_iast (j := n + cd5.length) dX4_readLine_56 s_10 (by omega) (by decide) ?_
    exact xr_vret dX4_readLine_57 rfl (⟨rfl, rfl, rfl, (Ke.up (Or.inr (Or.inr (by omega))) (Ke.up (Or.inr (Or.inr (by omega))) (Ke.up (Or.inr (Or.inr (by omega))) (Ke.up (Or.inr (Or.inr (by omega))) (Ke.tr (fun _ _ h => h) (Ke.up (Or.inr (Or.inr (by omega))) (Ke.up (Or.inr (Or.inr (by omega))) (Ke.up (Or.inr (Or.inr (by omega))) (Ke.tr (fun pp kk h => (Or.inl h)) (Ke.tr (fun _ _ h => h) Ke.rf k13) k16)))) k34))))), ⟨(DI_val (nI_le (a := (n + cd5.length + 1) + cd26.length) (b := 100000) (by omega) (by decide)) (DI_uA (by omega) (by decide) hd22)), max f2 f23, a2_24, ok25, cd5, some cd26, lnB_2 hp6 ⟨hok1, h41_18⟩ hp27, (Eq.trans (congrFun (x_up_n _ _ _ (by decide)) _) (Eq.trans (congrFun (x_up_n _ _ _ (by decide)) _) (Eq.trans (congrFun (x_up_n _ _ _ (by decide)) _) (Eq.trans (congrFun (x_up_n _ _ _ (by decide)) _) ea28)))), (Eq.trans (congrFun (x_up_n _ _ _ (by decide)) _) (Eq.trans (congrFun (x_up_n _ _ _ (by decide)) _) (Eq.trans (congrFun (x_up_n _ _ _ (by decide)) _) (Eq.trans (congrFun (x_up_n _ _ _ (by decide)) _) es29)))), (by rw [lcode_l2, show n + (cd5.length + (cd26.length + 2)) = n + cd5.length + 1 + cd26.length + 1 by omega]; exact (Eq.trans (congrFun (x_up_n _ _ _ (by decide)) _) (x_up_s _ _ _ _))), (by rw [lcode_l2]; omega), CAt_app (CAt_up10 (CAt_be (CAt_be (CAt_be (CAt_be hc10 (show CBe _ _ (n + cd5.length) from (fun j _ => ⟨k16 9 j (by unfold WAT; omega), k16 10 j (by unfold WAT; omega)⟩)) (Nat.le_refl _)) (show CBe _ _ (n + cd5.length) from uA_be) (by omega)) (CBe.tr hb32 CBe.rf (Nat.le_refl _)) (by omega)) (show CBe _ _ (n + cd5.length + 1 + cd26.length) from uA_be) (by omega)) (Or.inr (by omega))) (show CAt _ (n + cd5.length) ((2, nI (n + cd5.length + 1 + cd26.length)) :: (cd26 ++ [(3, 0)])) from CAt_app (c := [(2, nI (n + cd5.length + 1 + cd26.length))]) (CAt_1 ((up_n (by decide)).trans ((uA_be _ (show n + cd5.length < n + cd5.length + 1 + cd26.length by omega)).1.trans ((hb32 _ (show n + cd5.length < n + cd5.length + 1 by omega)).1.trans ((up_n (by decide)).trans ((up_n (by decide)).trans up_s))))) up_s) (CAt_app (c := cd26) (show CAt _ (n + cd5.length + 1) cd26 from CAt_up10 (CAt_be hc31 (show CBe _ _ (n + cd5.length + 1 + cd26.length) from uA_be) (Nat.le_refl _)) (Or.inl (by omega))) (show CAt _ (n + cd5.length + 1 + cd26.length) [(3, 0)] from CAt_up10 uA_1 (Or.inl (by omega))))), (fun j hj => ⟨(up_n (by decide)).trans ((uA_be j (show j < n + cd5.length + 1 + cd26.length by omega)).1.trans ((hb32 j (by omega)).1.trans ((uA_be j (show j < n + cd5.length by omega)).1.trans ((k16 9 j (by unfold WAT; omega)).trans (hb11 j hj).1)))), (up_k (by omega)).trans ((uA_be j (show j < n + cd5.length + 1 + cd26.length by omega)).2.trans ((hb32 j (by omega)).2.trans ((uA_be j (show j < n + cd5.length by omega)).2.trans ((k16 10 j (by unfold WAT; omega)).trans (hb11 j hj).2))))⟩)⟩⟩)
  · rw [show M12 7 = M 7 from (Eq.trans (funext fun kk => k13 7 kk (by unfold WRD; omega)) rfl)] at hno21
    refine xr_if_eq (tgt := 33) dX4_readLine_14 rfl (fun _ => ?_) (fun c => absurd (by decide) c)
    refine xr_aload_n dX4_readLine_33 1 rfl ?_
    refine xr_getR flX4_16 dX4_readLine_34 s_6 rfl ?_
    refine xr_iconst (v := 3) dX4_readLine_37 rfl ?_
    refine xr_iconst (v := 0) dX4_readLine_38 rfl ?_
    refine xb_cV (As := [.int (3), .int (0)]) (rest := []) mlX4_43 (c_X3_add 3 0 (n := n + cd5.length) (by omega) (Eq.trans (k16 8 4 (by decide)) en9)) dX4_readLine_39 s_8 rfl rfl (Nat.le_of_ble_eq_true rfl) (by decide) (by decide) ?_
    refine xr_istore_n (ls2 := [(2, .int (nI (n + cd5.length))), (1, .int ((-1))), (0, .ref (6))]) dX4_readLine_42 (by decide) rfl ?_
    refine xr_iload_n dX4_readLine_43 1 rfl ?_
    refine xr_if_lt (tgt := 57) dX4_readLine_44 rfl (fun _ => ?_) (fun c => absurd (by decide) c)
    exact xr_vret dX4_readLine_57 rfl (⟨rfl, rfl, rfl, (Ke.up (Or.inr (Or.inr (by omega))) (Ke.up (Or.inr (Or.inr (by omega))) (Ke.up (Or.inr (Or.inr (by omega))) (Ke.tr (fun pp kk h => (Or.inl h)) (Ke.tr (fun _ _ h => h) Ke.rf k13) k16)))), ⟨(DI_uA (by omega) (by decide) (DI_ke (by intro k; unfold WAT; omega) k16 hd1)), f2, a2_3, ok4, cd5, none, lnB_1 hp6 (fun z => hno21 ⟨okN es8 z.1, z.2⟩), (Eq.trans (congrFun (x_up_n _ _ _ (by decide)) _) (Eq.trans (congrFun (x_up_n _ _ _ (by decide)) _) (Eq.trans (congrFun (x_up_n _ _ _ (by decide)) _) ea20))), (Eq.trans (congrFun (x_up_n _ _ _ (by decide)) _) (Eq.trans (congrFun (x_up_n _ _ _ (by decide)) _) (Eq.trans (congrFun (x_up_n _ _ _ (by decide)) _) (Eq.trans (k16 6 4 (by decide)) es8)))), (by rw [lcode_l1]; exact (x_up_s _ _ _ _)), (by rw [lcode_l1]; omega), CAt_2 (CAt_be hc10 (show CBe _ _ (n + cd5.length) from (fun j _ => ⟨k16 9 j (by unfold WAT; omega), k16 10 j (by unfold WAT; omega)⟩)) (Nat.le_refl _)) rfl, CBe.tr (CBe.tr hb11 (show CBe _ _ (n + cd5.length) from (fun j _ => ⟨k16 9 j (by unfold WAT; omega), k16 10 j (by unfold WAT; omega)⟩)) (by omega)) uA_be (by omega)⟩⟩)
/-- what the text's reading leaves -/
def TXC (M M2 : xM) (E : Nat) (r : Int32) : Prop := ∃ (f g a2 : Nat) (ok : Bool) (ls : zL), txB (M 7) E f g 0 = some (a2, ok, ls) ∧ a2 ≤ E ∧ r = ftF E a2 ok ∧ M2 8 4 = nI (tcode 0 ls).length ∧ (tcode 0 ls).length ≤ 121 ∧ CAt M2 0 (tcode 0 ls)
theorem CAt_l {M2 : xM} {n : Nat} {l1 : zL} {e : zC × Option zC} (h : CAt M2 n (tcode n l1)) (h2 : CAt M2 (n + (tcode n l1).length) (lcode (n + (tcode n l1).length) e.1 e.2)) : CAt M2 n (tcode n (l1 ++ [e])) := by rw [tcode_app]; exact CAt_app h h2
theorem tcode_len {l1 : zL} {c1 : zC} {o : Option zC} : (tcode 0 (l1 ++ [(c1, o)])).length = (tcode 0 l1).length + (lcode (tcode 0 l1).length c1 o).length := by rw [tcode_app, List.length_append, Nat.zero_add]
set_option maxRecDepth 100000 in
set_option maxHeartbeats 4000000 in
theorem rts_l {E : Nat} (hE : E ≤ 120) {l : Launch} {G : xG} {M : xM} {J : xJ} : ∀ (m k : Nat) (mo : Int32) (a1 : Nat) (ok1 : Bool) (l1 : zL) (M1 : xM), k + m = 121 → Ke WRD M M1 → DI M1 → M1 7 = M 7 → M1 6 2 = nI E → M1 6 3 = nI a1 → M1 6 4 = (if ok1 = true then 0 else 1) → M1 8 4 = nI (tcode 0 l1).length → CAt M1 0 (tcode 0 l1) → (mo = 1 → k ≤ a1) → a1 ≤ E → (ok1 = true ∧ mo = 1 → (tcode 0 l1).length ≤ a1) → (tcode 0 l1).length ≤ a1 + 1 → (mo = 1 ∧ ok1 = true ∧ TGo (M 7) E a1 l1 ∨ mo = 0 ∧ TEnd (M 7) E a1 ok1 l1) → x_X l G fX4_readText 140 0 0 (qKI WRD M J (fun r M2 => DI M2 ∧ TXC M M2 E r)) 22 [(2, .int (nI (k))), (1, .int (mo)), (0, .ref (6))] [] x_SH M1 J 0 0 := by
  intro m
  induction m with
  | zero =>
    intro k mo a1 ok1 l1 M1 hk hM hD1 h7 e_E e_a e_st e_n hc hka haE hna hlen9 hst
    rcases hst with ⟨rfl, hok, hgo⟩ | ⟨rfl, hend⟩
    · have hk1 := hka rfl
      exact absurd hk (by omega)
    · refine xr_iload_n dX4_readText_22 1 rfl ?_
      refine xr_if_eq (tgt := 49) dX4_readText_23 rfl (fun _ => ?_) (fun c => absurd (by decide) c)
      refine xr_aload_n dX4_readText_49 2 rfl ?_
      refine xb_get (v := (if ok1 = true then 0 else 1)) flX4_27 dX4_readText_50 s_6 rfl e_st ?_
      refine xr_if_ne (tgt := 67) dX4_readText_53 rfl (fun c1 => ?_) (fun c1 => ?_)
      · refine xr_aload_n dX4_readText_67 2 rfl ?_
        refine xb_get (v := nI (a1)) flX4_24 dX4_readText_68 s_6 rfl e_a ?_
        refine xr_goto (tgt := 75) dX4_readText_71 rfl ?_
        exact xr_iret dX4_readText_75 rfl rfl (⟨_, rfl, rfl, rfl, hM, hD1, (by obtain ⟨f2, g2, hf2⟩ := hend; exact ⟨f2, g2, a1, ok1, l1, hf2, haE, (by unfold ftF; rw [if_neg (fun z => c1 (okN (ok := ok1) rfl z.1))]), e_n, (by omega), hc⟩)⟩)
      · refine xr_aload_n dX4_readText_56 2 rfl ?_
        refine xb_get (v := nI (a1)) flX4_24 dX4_readText_57 s_6 rfl e_a ?_
        refine xr_aload_n dX4_readText_60 2 rfl ?_
        refine xb_get (v := nI (E)) flX4_20 dX4_readText_61 s_6 rfl e_E ?_
        refine xr_icmp_ge (tgt := 74) dX4_readText_64 rfl (fun c2 => ?_) (fun c2 => ?_)
        · refine xr_iconst (v := -1) dX4_readText_74 rfl ?_
          exact xr_iret dX4_readText_75 rfl rfl (⟨_, rfl, rfl, rfl, hM, hD1, (by obtain ⟨f2, g2, hf2⟩ := hend; exact ⟨f2, g2, a1, ok1, l1, hf2, haE, (by unfold ftF; rw [if_pos ⟨(okI (ok := ok1) rfl c1), fun z => absurd c2 (nI_ge (a := a1) (b := E) z (by omega))⟩]), e_n, (by omega), hc⟩)⟩)
        · refine xr_aload_n dX4_readText_67 2 rfl ?_
          refine xb_get (v := nI (a1)) flX4_24 dX4_readText_68 s_6 rfl e_a ?_
          refine xr_goto (tgt := 75) dX4_readText_71 rfl ?_
          exact xr_iret dX4_readText_75 rfl rfl (⟨_, rfl, rfl, rfl, hM, hD1, (by obtain ⟨f2, g2, hf2⟩ := hend; exact ⟨f2, g2, a1, ok1, l1, hf2, haE, (by unfold ftF; rw [if_neg (fun z => z.2 (Nat.lt_of_not_le (fun q => c2 (nI_le (a := E) (b := a1) q (by omega)))))]), e_n, (by omega), hc⟩)⟩)
  | succ m ih =>
    intro k mo a1 ok1 l1 M1 hk hM hD1 h7 e_E e_a e_st e_n hc hka haE hna hlen9 hst
    rcases hst with ⟨rfl, hok, hgo⟩ | ⟨rfl, hend⟩
    · have hk1 := hka rfl
      refine xr_iload_n dX4_readText_22 1 rfl ?_
      refine xr_if_eq (tgt := 49) dX4_readText_23 rfl (fun c => absurd c (by decide)) (fun _ => ?_)
      refine xr_iload_n dX4_readText_26 0 rfl ?_
      refine xr_bipush (v := 120) dX4_readText_27 rfl ?_
      refine xr_icmp_gt (tgt := 49) dX4_readText_29 rfl (fun c => absurd c (nI_nlt (a := 120) (b := k) (by omega) (by omega))) (fun _ => ?_)
      refine xr_aload_n dX4_readText_32 2 rfl ?_
      refine xr_callV (As := []) (rest := []) mlX4_32 (gs_X4_readLine (M := M1) (a := a1) (E := E) (n := (tcode 0 l1).length) hE haE (hna ⟨hok, rfl⟩) hD1 e_a e_E (okN e_st hok) e_n) dX4_readText_33 s_6 rfl rfl (Nat.le_of_ble_eq_true rfl) (by decide) ⟨by decide, by decide⟩ (fun v s2 M14 J2 hq => ?_)
      obtain ⟨rfl, rfl, rfl, k15, ⟨hd6, f1, a2_2, ok3, c1_4, o_5, hl7, ea8, es9, en10, hle11, hc12, hb13⟩⟩ := hq
      try dsimp only [Option.toList, List.cons_append, List.nil_append]
      rw [h7] at hl7
      have hl7b := lnB_b hl7 haE
      obtain ⟨hl7x, hl7y⟩ := hl7b
      replace hl7x : a1 ≤ a2_2 := hl7x
      replace hl7y : a2_2 ≤ E := hl7y
      refine xr_aload_n dX4_readText_36 2 rfl ?_
      refine xr_bipush (v := 59) dX4_readText_37 rfl ?_
      refine xr_callV (As := [.int (59)]) (rest := []) mlX4_35 (gs_X4_takes (M := M14) 59 (a := a2_2) hE (by omega) ea8 (Eq.trans (k15 6 2 (by decide)) e_E)) dX4_readText_39 s_6 rfl rfl (Nat.le_of_ble_eq_true rfl) (by decide) ⟨by decide, by decide⟩ (fun v s2 M17 J2 hq => ?_)
      obtain ⟨r19, rfl, rfl, rfl, k18, hx16⟩ := hq
      try dsimp only [Option.toList, List.cons_append, List.nil_append]
      rcases hx16 with ⟨rfl, ⟨h0_21, h41_20⟩, ea22⟩ | ⟨rfl, hno23, ea22⟩
      · rw [show M14 7 = M 7 from (Eq.trans (funext fun kk => k15 7 kk (by unfold WRD; omega)) h7)] at h41_20
        have hl1 : a2_2 < E := nb_lt (T := M 7) (fun z => absurd (h41_20.symm.trans z) (by decide))
        refine xr_istore_n (ls2 := [(1, .int (1)), (2, .int (nI (k))), (0, .ref (6))]) dX4_readText_42 (by decide) rfl ?_
        refine xr_iinc (v := nI (k + 1)) (ls2 := [(2, .int (nI (k + 1))), (1, .int (1)), (0, .ref (6))]) dX4_readText_43 1 rfl (nI_1 _) (by decide) rfl ?_
        refine xr_goto (tgt := 22) dX4_readText_46 rfl ?_
        refine xb_ls (ls2 := [(2, .int (nI (k + 1))), (1, .int (1)), (0, .ref (6))]) [0, 1, 2] rfl ?_
        have hc2 : CAt M17 0 (tcode 0 (l1 ++ [(c1_4, o_5)])) := CAt_l (e := (c1_4, o_5)) (CAt_be (CAt_be hc hb13 (by omega)) (show CBe _ _ ((tcode 0 l1).length + (lcode (tcode 0 l1).length c1_4 o_5).length) from (fun j _ => ⟨k18 9 j (by unfold WAT; omega), k18 10 j (by unfold WAT; omega)⟩)) (by omega)) (by rw [Nat.zero_add]; exact CAt_be hc12 (show CBe _ _ ((tcode 0 l1).length + (lcode (tcode 0 l1).length c1_4 o_5).length) from (fun j _ => ⟨k18 9 j (by unfold WAT; omega), k18 10 j (by unfold WAT; omega)⟩)) (Nat.le_refl _))
        exact ih (k + 1) _ (a2_2 + 1) ok3 (l1 ++ [(c1_4, o_5)]) M17 (by omega) (Ke.tr (fun pp kk h => (Or.inl h)) (Ke.tr (fun _ _ h => h) hM k15) k18) (DI_ke (by intro k; unfold WAT; omega) k18 hd6) ((Eq.trans (funext fun kk => k18 7 kk (by unfold WAT; omega)) (Eq.trans (funext fun kk => k15 7 kk (by unfold WRD; omega)) h7))) (Eq.trans (k18 6 2 (by decide)) (Eq.trans (k15 6 2 (by decide)) e_E)) ea22 (Eq.trans (k18 6 4 (by decide)) es9) (by rw [tcode_len]; exact (Eq.trans (k18 8 4 (by decide)) en10)) hc2 (fun z => by omega) (by omega) (fun z => by rw [tcode_len]; omega) (by rw [tcode_len]; omega) (Or.inl ⟨rfl, okI es9 h0_21, TGo_s hgo hl7 ⟨okI es9 h0_21, h41_20⟩⟩)
      · rw [show M14 7 = M 7 from (Eq.trans (funext fun kk => k15 7 kk (by unfold WRD; omega)) h7)] at hno23
        refine xr_istore_n (ls2 := [(1, .int (0)), (2, .int (nI (k))), (0, .ref (6))]) dX4_readText_42 (by decide) rfl ?_
        refine xr_iinc (v := nI (k + 1)) (ls2 := [(2, .int (nI (k + 1))), (1, .int (0)), (0, .ref (6))]) dX4_readText_43 1 rfl (nI_1 _) (by decide) rfl ?_
        refine xr_goto (tgt := 22) dX4_readText_46 rfl ?_
        refine xb_ls (ls2 := [(2, .int (nI (k + 1))), (1, .int (0)), (0, .ref (6))]) [0, 1, 2] rfl ?_
        have hc2 : CAt M17 0 (tcode 0 (l1 ++ [(c1_4, o_5)])) := CAt_l (e := (c1_4, o_5)) (CAt_be (CAt_be hc hb13 (by omega)) (show CBe _ _ ((tcode 0 l1).length + (lcode (tcode 0 l1).length c1_4 o_5).length) from (fun j _ => ⟨k18 9 j (by unfold WAT; omega), k18 10 j (by unfold WAT; omega)⟩)) (by omega)) (by rw [Nat.zero_add]; exact CAt_be hc12 (show CBe _ _ ((tcode 0 l1).length + (lcode (tcode 0 l1).length c1_4 o_5).length) from (fun j _ => ⟨k18 9 j (by unfold WAT; omega), k18 10 j (by unfold WAT; omega)⟩)) (Nat.le_refl _))
        exact ih (k + 1) _ a2_2 ok3 (l1 ++ [(c1_4, o_5)]) M17 (by omega) (Ke.tr (fun pp kk h => (Or.inl h)) (Ke.tr (fun _ _ h => h) hM k15) k18) (DI_ke (by intro k; unfold WAT; omega) k18 hd6) ((Eq.trans (funext fun kk => k18 7 kk (by unfold WAT; omega)) (Eq.trans (funext fun kk => k15 7 kk (by unfold WRD; omega)) h7))) (Eq.trans (k18 6 2 (by decide)) (Eq.trans (k15 6 2 (by decide)) e_E)) ea22 (Eq.trans (k18 6 4 (by decide)) es9) (by rw [tcode_len]; exact (Eq.trans (k18 8 4 (by decide)) en10)) hc2 (fun z => by exact absurd z (by decide)) (by omega) (fun z => by exact absurd z.2 (by decide)) (by rw [tcode_len]; omega) (Or.inr ⟨rfl, TGo_end hgo hl7 (fun z => hno23 ⟨okN es9 z.1, z.2⟩)⟩)
    · refine xr_iload_n dX4_readText_22 1 rfl ?_
      refine xr_if_eq (tgt := 49) dX4_readText_23 rfl (fun _ => ?_) (fun c => absurd (by decide) c)
      refine xr_aload_n dX4_readText_49 2 rfl ?_
      refine xb_get (v := (if ok1 = true then 0 else 1)) flX4_27 dX4_readText_50 s_6 rfl e_st ?_
      refine xr_if_ne (tgt := 67) dX4_readText_53 rfl (fun c24 => ?_) (fun c24 => ?_)
      · refine xr_aload_n dX4_readText_67 2 rfl ?_
        refine xb_get (v := nI (a1)) flX4_24 dX4_readText_68 s_6 rfl e_a ?_
        refine xr_goto (tgt := 75) dX4_readText_71 rfl ?_
        exact xr_iret dX4_readText_75 rfl rfl (⟨_, rfl, rfl, rfl, hM, hD1, (by obtain ⟨f2, g2, hf2⟩ := hend; exact ⟨f2, g2, a1, ok1, l1, hf2, haE, (by unfold ftF; rw [if_neg (fun z => c24 (okN (ok := ok1) rfl z.1))]), e_n, (by omega), hc⟩)⟩)
      · refine xr_aload_n dX4_readText_56 2 rfl ?_
        refine xb_get (v := nI (a1)) flX4_24 dX4_readText_57 s_6 rfl e_a ?_
        refine xr_aload_n dX4_readText_60 2 rfl ?_
        refine xb_get (v := nI (E)) flX4_20 dX4_readText_61 s_6 rfl e_E ?_
        refine xr_icmp_ge (tgt := 74) dX4_readText_64 rfl (fun c25 => ?_) (fun c25 => ?_)
        · refine xr_iconst (v := -1) dX4_readText_74 rfl ?_
          exact xr_iret dX4_readText_75 rfl rfl (⟨_, rfl, rfl, rfl, hM, hD1, (by obtain ⟨f2, g2, hf2⟩ := hend; exact ⟨f2, g2, a1, ok1, l1, hf2, haE, (by unfold ftF; rw [if_pos ⟨(okI (ok := ok1) rfl c24), fun z => absurd c25 (nI_ge (a := a1) (b := E) z (by omega))⟩]), e_n, (by omega), hc⟩)⟩)
        · refine xr_aload_n dX4_readText_67 2 rfl ?_
          refine xb_get (v := nI (a1)) flX4_24 dX4_readText_68 s_6 rfl e_a ?_
          refine xr_goto (tgt := 75) dX4_readText_71 rfl ?_
          exact xr_iret dX4_readText_75 rfl rfl (⟨_, rfl, rfl, rfl, hM, hD1, (by obtain ⟨f2, g2, hf2⟩ := hend; exact ⟨f2, g2, a1, ok1, l1, hf2, haE, (by unfold ftF; rw [if_neg (fun z => z.2 (Nat.lt_of_not_le (fun q => c25 (nI_le (a := E) (b := a1) q (by omega)))))]), e_n, (by omega), hc⟩)⟩)
set_option maxRecDepth 100000 in
set_option maxHeartbeats 4000000 in
theorem gs_X4_readText {l : Launch} {G : xG} {M : xM} {J : xJ} {E : Nat} (hE : E ≤ 120) (hD : DI M) (e_E : M 6 2 = nI E) : x_M l G fX4_readText 140 0 0 [.ref 6] x_SH M J (qKI WRD M J (fun r M2 => DI M2 ∧ TXC M M2 E r)) := by
  refine xb_of pX4 (Nat.le_of_ble_eq_true rfl) rfl ?_
  refine xr_aload_n dX4_readText_0 0 rfl ?_
  refine xr_iconst (v := 0) dX4_readText_1 rfl ?_
  refine xr_putI fpX4_24 dX4_readText_2 s_6 rfl rfl rfl ?_
  refine xr_aload_n dX4_readText_5 0 rfl ?_
  refine xr_iconst (v := 0) dX4_readText_6 rfl ?_
  refine xr_putI fpX4_27 dX4_readText_7 s_6 rfl rfl rfl ?_
  refine xr_aload_n dX4_readText_10 0 rfl ?_
  refine xr_getR flX4_16 dX4_readText_11 s_6 rfl ?_
  refine xr_iconst (v := 0) dX4_readText_14 rfl ?_
  refine xr_putI fpX4_31 dX4_readText_15 s_8 rfl rfl rfl ?_
  refine xr_iconst (v := 1) dX4_readText_18 rfl ?_
  refine xr_istore_n (ls2 := [(1, .int (1)), (0, .ref (6))]) dX4_readText_19 (by decide) rfl ?_
  refine xr_iconst (v := 0) dX4_readText_20 rfl ?_
  refine xr_istore_n (ls2 := [(2, .int (0)), (1, .int (1)), (0, .ref (6))]) dX4_readText_21 (by decide) rfl ?_
  refine xb_ls (ls2 := [(2, .int (nI (0))), (1, .int (1)), (0, .ref (6))]) [0, 1, 2] rfl ?_
  exact rts_l hE 121 0 1 0 true [] (x_up (x_up (x_up M 6 3 0) 6 4 0) 8 4 0) (by omega) (Ke.up (Or.inr (Or.inr (by omega))) (Ke.up (Or.inr (Or.inl (by omega))) (Ke.up (Or.inl (by omega)) Ke.rf))) ⟨⟨0, by decide, (x_up_s _ _ _ _)⟩, fun j hj => hD.2 j hj⟩ ((Eq.trans (x_up_n _ _ _ (by decide)) (Eq.trans (x_up_n _ _ _ (by decide)) (Eq.trans (x_up_n _ _ _ (by decide)) rfl)))) (Eq.trans (congrFun (x_up_n _ _ _ (by decide)) _) (Eq.trans (x_up_k _ _ _ (by decide)) (Eq.trans (x_up_k _ _ _ (by decide)) e_E))) (Eq.trans (congrFun (x_up_n _ _ _ (by decide)) _) (Eq.trans (x_up_k _ _ _ (by decide)) (x_up_s _ _ _ _))) (Eq.trans (congrFun (x_up_n _ _ _ (by decide)) _) (x_up_s _ _ _ _)) (x_up_s _ _ _ _) CAt_nil (fun _ => Nat.le_refl _) (Nat.zero_le _) (fun _ => Nat.le_refl _) (Nat.zero_le _) (Or.inl ⟨rfl, rfl, TGo_0⟩)
