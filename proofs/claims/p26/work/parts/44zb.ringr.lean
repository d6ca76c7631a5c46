set_option maxRecDepth 100000 in
set_option maxHeartbeats 4000000 in
theorem cw_X10_sizeOf (v : Int32) {l : Launch} {G : xG} {sh : List xS} {M : xM} {J : xJ} : x_M l G fX10_sizeOf 0 0 0 [.int (v)] sh M J (qE (some (.int (w_ab v))) sh M J) := by
  refine xb_of pX10 (Nat.le_of_ble_eq_true rfl) rfl ?_
  refine xr_iload_n dX10_sizeOf_0 0 rfl ?_
  refine xr_if_ge (tgt := 9) dX10_sizeOf_1 rfl (fun c1 => ?_) (fun c1 => ?_)
  · refine xr_iload_n dX10_sizeOf_9 0 rfl ?_
    exact xr_iret dX10_sizeOf_10 rfl rfl (⟨congrArg (fun z => some (Value.int z)) (if_neg (Int32.not_lt.mpr c1)).symm, rfl, rfl, rfl⟩)
  · refine xr_iload_n dX10_sizeOf_4 0 rfl ?_
    refine xr_ineg dX10_sizeOf_5 ?_
    refine xr_goto (tgt := 10) dX10_sizeOf_6 rfl ?_
    exact xr_iret dX10_sizeOf_10 rfl rfl (⟨congrArg (fun z => some (Value.int z)) (if_pos (Int32.not_le.mp c1)).symm, rfl, rfl, rfl⟩)
set_option maxRecDepth 100000 in
set_option maxHeartbeats 4000000 in
theorem cw_X10_needOf {h : Nat} (hh : h < 5) {l : Launch} {G : xG} {M : xM} {J : xJ} : x_M l G fX10_needOf 0 0 0 [.ref 62, .int (nI h)] x_SH M J (qE (some (.int (w_need (M 63 h)))) x_SH M J) := by
  refine xb_of pX10 (Nat.le_of_ble_eq_true rfl) rfl ?_
  refine xr_bipush (v := 10) dX10_needOf_0 rfl ?_
  refine xr_aload_n dX10_needOf_2 0 rfl ?_
  refine xr_getR flX10_9 dX10_needOf_3 s_62 rfl ?_
  refine xr_iload_n dX10_needOf_6 1 rfl ?_
  refine xb_iald (j := h) (v := M 63 h) dX10_needOf_7 s_63 (by omega) (by decide) rfl ?_
  refine xr_isub dX10_needOf_8 ?_
  refine xr_iconst (v := 2) dX10_needOf_9 rfl ?_
  refine xr_idiv dX10_needOf_10 (by decide) ?_
  refine xr_iconst (v := 1) dX10_needOf_11 rfl ?_
  refine xr_iadd dX10_needOf_12 ?_
  exact xr_iret dX10_needOf_13 rfl rfl (⟨rfl, rfl, rfl, rfl⟩)
set_option maxRecDepth 100000 in
set_option maxHeartbeats 4000000 in
theorem cw_X10_becomesPace {h : Nat} (hh : h < 5) (si : Int32) {l : Launch} {G : xG} {M : xM} {J : xJ} : x_M l G fX10_becomesPace 0 0 0 [.ref (62), .int (nI (h)), .int (si)] x_SH M J (qE none x_SH (x_up M 73 h (w_qk (M 73 h) si)) J) := by
  refine xb_of pX10 (Nat.le_of_ble_eq_true rfl) rfl ?_
  refine xr_iload_n dX10_becomesPace_0 2 rfl ?_
  refine xr_if_ge (tgt := 8) dX10_becomesPace_1 rfl (fun c1 => ?_) (fun c1 => ?_)
  · refine xr_iload_n dX10_becomesPace_8 2 rfl ?_
    refine xr_bipush (v := 9) dX10_becomesPace_9 rfl ?_
    refine xr_icmp_le (tgt := 19) dX10_becomesPace_11 rfl (fun c2 => ?_) (fun c2 => ?_)
    · refine xr_iload_n dX10_becomesPace_19 2 rfl ?_
      refine xr_istore_n (ls2 := [(3, .int (si)), (0, .ref (62)), (1, .int (nI (h))), (2, .int (si))]) dX10_becomesPace_20 (by decide) rfl ?_
      refine xr_aload_n dX10_becomesPace_21 1 rfl ?_
      refine xr_getR flX10_40 dX10_becomesPace_22 s_62 rfl ?_
      refine xr_iload_n dX10_becomesPace_25 2 rfl ?_
      refine xr_aload_n dX10_becomesPace_26 1 rfl ?_
      refine xr_getR flX10_40 dX10_becomesPace_27 s_62 rfl ?_
      refine xr_iload_n dX10_becomesPace_30 2 rfl ?_
      refine xb_iald (j := h) (v := M 73 h) dX10_becomesPace_31 s_73 hh (by decide) rfl ?_
      refine xr_if_ge (tgt := 40) dX10_becomesPace_32 rfl (fun c3 => ?_) (fun c3 => ?_)
      · refine xr_iload_n dX10_becomesPace_40 0 rfl ?_
        refine xb_iast (j := h) dX10_becomesPace_41 s_73 hh (by decide) ?_
        exact xr_vret dX10_becomesPace_42 rfl (⟨rfl, rfl, congrArg (x_up M 73 h) (w_qk_q c3 (w_cl_3 c1 c2)), rfl⟩)
      · refine xr_iload_n dX10_becomesPace_35 0 rfl ?_
        refine xr_ineg dX10_becomesPace_36 ?_
        refine xr_goto (tgt := 41) dX10_becomesPace_37 rfl ?_
        refine xb_iast (j := h) dX10_becomesPace_41 s_73 hh (by decide) ?_
        exact xr_vret dX10_becomesPace_42 rfl (⟨rfl, rfl, congrArg (x_up M 73 h) (w_qk_m c3 (w_cl_3 c1 c2)), rfl⟩)
    · refine xr_bipush (v := 9) dX10_becomesPace_14 rfl ?_
      refine xr_goto (tgt := 20) dX10_becomesPace_16 rfl ?_
      refine xr_istore_n (ls2 := [(3, .int (9)), (0, .ref (62)), (1, .int (nI (h))), (2, .int (si))]) dX10_becomesPace_20 (by decide) rfl ?_
      refine xr_aload_n dX10_becomesPace_21 1 rfl ?_
      refine xr_getR flX10_40 dX10_becomesPace_22 s_62 rfl ?_
      refine xr_iload_n dX10_becomesPace_25 2 rfl ?_
      refine xr_aload_n dX10_becomesPace_26 1 rfl ?_
      refine xr_getR flX10_40 dX10_becomesPace_27 s_62 rfl ?_
      refine xr_iload_n dX10_becomesPace_30 2 rfl ?_
      refine xb_iald (j := h) (v := M 73 h) dX10_becomesPace_31 s_73 hh (by decide) rfl ?_
      refine xr_if_ge (tgt := 40) dX10_becomesPace_32 rfl (fun c4 => ?_) (fun c4 => ?_)
      · refine xr_iload_n dX10_becomesPace_40 0 rfl ?_
        refine xb_iast (j := h) dX10_becomesPace_41 s_73 hh (by decide) ?_
        exact xr_vret dX10_becomesPace_42 rfl (⟨rfl, rfl, congrArg (x_up M 73 h) (w_qk_q c4 (w_cl_2 c1 c2)), rfl⟩)
      · refine xr_iload_n dX10_becomesPace_35 0 rfl ?_
        refine xr_ineg dX10_becomesPace_36 ?_
        refine xb_top (y := (-9)) (by decide) ?_
        refine xr_goto (tgt := 41) dX10_becomesPace_37 rfl ?_
        refine xb_iast (j := h) dX10_becomesPace_41 s_73 hh (by decide) ?_
        exact xr_vret dX10_becomesPace_42 rfl (⟨rfl, rfl, congrArg (x_up M 73 h) (w_qk_m c4 (w_cl_2 c1 c2)), rfl⟩)
  · refine xr_iconst (v := 0) dX10_becomesPace_4 rfl ?_
    refine xr_goto (tgt := 20) dX10_becomesPace_5 rfl ?_
    refine xr_istore_n (ls2 := [(3, .int (0)), (0, .ref (62)), (1, .int (nI (h))), (2, .int (si))]) dX10_becomesPace_20 (by decide) rfl ?_
    refine xr_aload_n dX10_becomesPace_21 1 rfl ?_
    refine xr_getR flX10_40 dX10_becomesPace_22 s_62 rfl ?_
    refine xr_iload_n dX10_becomesPace_25 2 rfl ?_
    refine xr_aload_n dX10_becomesPace_26 1 rfl ?_
    refine xr_getR flX10_40 dX10_becomesPace_27 s_62 rfl ?_
    refine xr_iload_n dX10_becomesPace_30 2 rfl ?_
    refine xb_iald (j := h) (v := M 73 h) dX10_becomesPace_31 s_73 hh (by decide) rfl ?_
    refine xr_if_ge (tgt := 40) dX10_becomesPace_32 rfl (fun c5 => ?_) (fun c5 => ?_)
    · refine xr_iload_n dX10_becomesPace_40 0 rfl ?_
      refine xb_iast (j := h) dX10_becomesPace_41 s_73 hh (by decide) ?_
      exact xr_vret dX10_becomesPace_42 rfl (⟨rfl, rfl, congrArg (x_up M 73 h) (w_qk_q c5 (w_cl_1 c1)), rfl⟩)
    · refine xr_iload_n dX10_becomesPace_35 0 rfl ?_
      refine xr_ineg dX10_becomesPace_36 ?_
      refine xb_top (y := 0) (by decide) ?_
      refine xr_goto (tgt := 41) dX10_becomesPace_37 rfl ?_
      refine xb_iast (j := h) dX10_becomesPace_41 s_73 hh (by decide) ?_
      exact xr_vret dX10_becomesPace_42 rfl (⟨rfl, rfl, congrArg (x_up M 73 h) (w_neg0.trans (w_qk_m c5 (w_cl_1 c1))), rfl⟩)
abbrev WGA (p k : Nat) : Prop := (p = 62 ∧ k = 14) ∨ (p = 62 ∧ k = 15) ∨ (p = 62 ∧ k = 16) ∨ (p = 62 ∧ k = 17) ∨ (p = 62 ∧ k = 18) ∨ (p = 71)
abbrev WRP (p k : Nat) : Prop := (p = 62 ∧ k = 14) ∨ (p = 62 ∧ k = 15) ∨ (p = 62 ∧ k = 16) ∨ (p = 62 ∧ k = 17) ∨ (p = 62 ∧ k = 18) ∨ (p = 71) ∨ (p = 73)
abbrev WTU (p k : Nat) : Prop := (72 ≤ p ∧ p ≤ 74)
abbrev W72 (p k : Nat) : Prop := (72 ≤ p ∧ p ≤ 73)
abbrev W374 (p k : Nat) : Prop := (73 ≤ p ∧ p ≤ 74)
abbrev WBG (p k : Nat) : Prop := (72 ≤ p ∧ p ≤ 74)
abbrev WTG (p k : Nat) : Prop := (p = 62 ∧ k = 14) ∨ (p = 62 ∧ k = 15) ∨ (p = 62 ∧ k = 16) ∨ (p = 62 ∧ k = 17) ∨ (p = 62 ∧ k = 18) ∨ (p = 62 ∧ k = 23) ∨ (71 ≤ p ∧ p ≤ 74)
theorem ga_v {T N : Nat → Int32} {E f0 g0 a0 f g a2 : Nat} {ok : Bool} {ls ls2 : zL} {r : Int32} {nm : Nat → Int32} (h0 : txB T E f0 g0 0 = some (a0, true, ls)) (h1 : txB T E f g 0 = some (a2, ok, ls2)) (hf : ftF E a0 true = -1) (hr : ftF E a2 ok = -1 → r = evT N ls2) (hN : ∀ j, j < 6 → N j = nm j) (hcv : ∀ nm, CVL nm ls) : r = evT nm ls := by
  have e := txB_det h0 h1
  obtain rfl : a0 = a2 := congrArg Prod.fst e
  obtain rfl : true = ok := congrArg (fun z => z.2.1) e
  obtain rfl : ls = ls2 := congrArg (fun z => z.2.2) e
  exact (hr hf).trans (evT_c hN ls (hcv _))
set_option maxRecDepth 100000 in
set_option maxHeartbeats 4000000 in
theorem gs_X10_gained_n {h : Nat} (hh : h < 5) (fa st : Int32) {l : Launch} {G : xG} {M : xM} {J : xJ} (hL : LRt M none) : x_M l G fX10_gained 59 0 0 [.ref (62), .int (nI (h)), .int (fa), .int (st)] x_SH M J (qKI WGA M J (fun r M2 => r = w_more none fa (w_ab (M 73 h)) (M 63 h) (M 63 (5 + h)) st (M 74 h))) := by
  refine xb_of pX10 (Nat.le_of_ble_eq_true rfl) rfl ?_
  refine xr_aload_n dX10_gained_0 0 rfl ?_
  refine xb_get (v := (-1)) flX10_88 dX10_gained_1 s_62 rfl hL ?_
  refine xr_if_ge (tgt := 28) dX10_gained_4 rfl (fun c => absurd c (by decide)) (fun _ => ?_)
  refine xr_iload_n dX10_gained_7 2 rfl ?_
  refine xr_iconst (v := 2) dX10_gained_8 rfl ?_
  refine xr_icmp_gt (tgt := 16) dX10_gained_9 rfl (fun c1 => ?_) (fun c1 => ?_)
  · refine xr_iload_n dX10_gained_16 2 rfl ?_
    refine xr_bipush (v := 10) dX10_gained_17 rfl ?_
    refine xr_icmp_lt (tgt := 26) dX10_gained_19 rfl (fun c2 => ?_) (fun c2 => ?_)
    · refine xr_iconst (v := 0) dX10_gained_26 rfl ?_
      exact xr_iret dX10_gained_27 rfl rfl (⟨_, rfl, rfl, rfl, Ke.rf, ((if_neg (Int32.not_le.mpr c1)).trans (if_neg (Int32.not_le.mpr c2))).symm⟩)
    · refine xr_iconst (v := -1) dX10_gained_22 rfl ?_
      refine xr_goto (tgt := 27) dX10_gained_23 rfl ?_
      exact xr_iret dX10_gained_27 rfl rfl (⟨_, rfl, rfl, rfl, Ke.rf, ((if_neg (Int32.not_le.mpr c1)).trans (if_pos (Int32.not_lt.mp c2))).symm⟩)
  · refine xr_iload_n dX10_gained_12 3 rfl ?_
    refine xr_goto (tgt := 27) dX10_gained_13 rfl ?_
    exact xr_iret dX10_gained_27 rfl rfl (⟨_, rfl, rfl, rfl, Ke.rf, (if_pos (Int32.not_lt.mp c1)).symm⟩)
set_option maxRecDepth 100000 in
set_option maxHeartbeats 4000000 in
theorem gs_X10_gained_s {h : Nat} (hh : h < 5) (fa st : Int32) {ls : zL} {l : Launch} {G : xG} {M : xM} {J : xJ} (hL : LRt M (some ls)) : x_M l G fX10_gained 59 0 0 [.ref (62), .int (nI (h)), .int (fa), .int (st)] x_SH M J (qKI WGA M J (fun r M2 => r = w_more (some ls) fa (w_ab (M 73 h)) (M 63 h) (M 63 (5 + h)) st (M 74 h))) := by
  refine xb_of pX10 (Nat.le_of_ble_eq_true rfl) rfl ?_
  obtain ⟨E, f0, g0, a0, hL1, hL2, hL3, hL4, hL5, hL6⟩ := hL
  refine xr_aload_n dX10_gained_0 0 rfl ?_
  refine xb_get (v := nI (E)) flX10_88 dX10_gained_1 s_62 rfl hL3 ?_
  refine xr_if_ge (tgt := 28) dX10_gained_4 rfl (fun _ => ?_) (fun c => absurd (nI_pos' (by omega)) c)
  refine xr_aload_n dX10_gained_28 0 rfl ?_
  refine xr_getR flX10_34 dX10_gained_29 s_62 rfl ?_
  refine xr_iconst (v := 0) dX10_gained_32 rfl ?_
  refine xr_iload_n dX10_gained_33 2 rfl ?_
  refine xb_iast (j := 0) dX10_gained_34 s_71 (by decide) (by decide) ?_
  refine xr_aload_n dX10_gained_35 0 rfl ?_
  refine xr_getR flX10_34 dX10_gained_36 s_62 rfl ?_
  refine xr_iconst (v := 1) dX10_gained_39 rfl ?_
  refine xr_aload_n dX10_gained_40 0 rfl ?_
  refine xr_getR flX10_40 dX10_gained_41 s_62 rfl ?_
  refine xr_iload_n dX10_gained_44 1 rfl ?_
  refine xb_iald (j := h) (v := (M 73 h)) dX10_gained_45 s_73 hh (by decide) (Eq.trans (congrFun (x_up_n _ _ _ (by decide)) _) rfl) ?_
  refine xb_cS (As := [.int ((M 73 h))]) (rest := [.int (1), .ref (71)]) mlX10_218 (cw_X10_sizeOf (M 73 h)) dX10_gained_46 rfl rfl (Nat.le_of_ble_eq_true rfl) (by decide) (by decide) ?_
  refine xb_iast (j := 1) dX10_gained_49 s_71 (by decide) (by decide) ?_
  refine xr_aload_n dX10_gained_50 0 rfl ?_
  refine xr_getR flX10_34 dX10_gained_51 s_62 rfl ?_
  refine xr_iconst (v := 2) dX10_gained_54 rfl ?_
  refine xr_aload_n dX10_gained_55 0 rfl ?_
  refine xr_getR flX10_9 dX10_gained_56 s_62 rfl ?_
  refine xr_iload_n dX10_gained_59 1 rfl ?_
  refine xb_iald (j := h) (v := (M 63 h)) dX10_gained_60 s_63 (by omega) (by decide) (Eq.trans (congrFun (x_up_n _ _ _ (by decide)) _) (Eq.trans (congrFun (x_up_n _ _ _ (by decide)) _) rfl)) ?_
  refine xb_iast (j := 2) dX10_gained_61 s_71 (by decide) (by decide) ?_
  refine xr_aload_n dX10_gained_62 0 rfl ?_
  refine xr_getR flX10_34 dX10_gained_63 s_62 rfl ?_
  refine xr_iconst (v := 3) dX10_gained_66 rfl ?_
  refine xr_aload_n dX10_gained_67 0 rfl ?_
  refine xr_getR flX10_9 dX10_gained_68 s_62 rfl ?_
  refine xr_iconst (v := 5) dX10_gained_71 rfl ?_
  refine xr_iload_n dX10_gained_72 1 rfl ?_
  refine xr_iadd dX10_gained_73 ?_
  refine xb_top (y := nI (5 + h)) (nI_add (5) (h)) ?_
  refine xb_iald (j := 5 + h) (v := (M 63 (5 + h))) dX10_gained_74 s_63 (by omega) (by decide) (Eq.trans (congrFun (x_up_n _ _ _ (by decide)) _) (Eq.trans (congrFun (x_up_n _ _ _ (by decide)) _) (Eq.trans (congrFun (x_up_n _ _ _ (by decide)) _) rfl))) ?_
  refine xb_iast (j := 3) dX10_gained_75 s_71 (by decide) (by decide) ?_
  refine xr_aload_n dX10_gained_76 0 rfl ?_
  refine xr_getR flX10_34 dX10_gained_77 s_62 rfl ?_
  refine xr_iconst (v := 4) dX10_gained_80 rfl ?_
  refine xr_iload_n dX10_gained_81 3 rfl ?_
  refine xb_iast (j := 4) dX10_gained_82 s_71 (by decide) (by decide) ?_
  refine xr_aload_n dX10_gained_83 0 rfl ?_
  refine xr_getR flX10_34 dX10_gained_84 s_62 rfl ?_
  refine xr_iconst (v := 5) dX10_gained_87 rfl ?_
  refine xr_aload_n dX10_gained_88 0 rfl ?_
  refine xr_getR flX10_43 dX10_gained_89 s_62 rfl ?_
  refine xr_iload_n dX10_gained_92 1 rfl ?_
  refine xb_iald (j := h) (v := (M 74 h)) dX10_gained_93 s_74 hh (by decide) (Eq.trans (congrFun (x_up_n _ _ _ (by decide)) _) (Eq.trans (congrFun (x_up_n _ _ _ (by decide)) _) (Eq.trans (congrFun (x_up_n _ _ _ (by decide)) _) (Eq.trans (congrFun (x_up_n _ _ _ (by decide)) _) (Eq.trans (congrFun (x_up_n _ _ _ (by decide)) _) rfl))))) ?_
  refine xb_iast (j := 5) dX10_gained_94 s_71 (by decide) (by decide) ?_
  refine xr_aload_n dX10_gained_95 0 rfl ?_
  refine xr_iconst (v := 0) dX10_gained_96 rfl ?_
  refine xr_aload_n dX10_gained_97 0 rfl ?_
  refine xb_get (v := nI (E)) flX10_88 dX10_gained_98 s_62 rfl (Eq.trans (congrFun (x_up_n _ _ _ (by decide)) _) (Eq.trans (congrFun (x_up_n _ _ _ (by decide)) _) (Eq.trans (congrFun (x_up_n _ _ _ (by decide)) _) (Eq.trans (congrFun (x_up_n _ _ _ (by decide)) _) (Eq.trans (congrFun (x_up_n _ _ _ (by decide)) _) (Eq.trans (congrFun (x_up_n _ _ _ (by decide)) _) hL3)))))) ?_
  refine xr_callV (As := [.int (0), .int (nI (E))]) (rest := []) mlX10_211 (gs_X10_workOut (E := E) (by omega) (T := M 70) (N := (x_up (x_up (x_up (x_up (x_up (x_up M 71 0 fa) 71 1 (w_ab (M 73 h))) 71 2 (M 63 h)) 71 3 (M 63 (5 + h))) 71 4 st) 71 5 (M 74 h)) 71) (Or.inr ⟨rfl, (Eq.trans (x_up_n _ _ _ (by decide)) (Eq.trans (x_up_n _ _ _ (by decide)) (Eq.trans (x_up_n _ _ _ (by decide)) (Eq.trans (x_up_n _ _ _ (by decide)) (Eq.trans (x_up_n _ _ _ (by decide)) (Eq.trans (x_up_n _ _ _ (by decide)) rfl))))))⟩) rfl) dX10_gained_101 s_62 rfl rfl (Nat.le_of_ble_eq_true rfl) (by decide) ⟨by decide, by decide⟩ (fun v s2 M10 J2 hq => ?_)
  obtain ⟨r12, rfl, rfl, rfl, k11, ⟨f1, g2, a2_3, ok4, ls5, h6, h7, h8, h9⟩⟩ := hq
  try dsimp only [Option.toList, List.cons_append, List.nil_append]
  refine xr_istore (ls2 := [(4, .int (r12)), (0, .ref (62)), (1, .int (nI (h))), (2, .int (fa)), (3, .int (st))]) dX10_gained_104 (by decide) rfl ?_
  refine xr_iload dX10_gained_106 0 rfl ?_
  refine xr_bipush (v := -9) dX10_gained_108 rfl ?_
  refine xr_icmp_ge (tgt := 118) dX10_gained_110 rfl (fun c13 => ?_) (fun c13 => ?_)
  · refine xr_iload dX10_gained_118 0 rfl ?_
    refine xr_bipush (v := 9) dX10_gained_120 rfl ?_
    refine xr_icmp_le (tgt := 130) dX10_gained_122 rfl (fun c14 => ?_) (fun c14 => ?_)
    · refine xr_iload dX10_gained_130 0 rfl ?_
      exact xr_iret dX10_gained_132 rfl rfl (⟨_, rfl, rfl, rfl, (Ke.tr (fun pp kk => (fun hh => Or.elim hh (fun h => (Or.inl h)) (fun hh => Or.elim hh (fun h => (Or.inr (Or.inl h))) (fun hh => Or.elim hh (fun h => (Or.inr (Or.inr (Or.inl h)))) (fun hh => Or.elim hh (fun h => (Or.inr (Or.inr (Or.inr (Or.inl h))))) (fun h => (Or.inr (Or.inr (Or.inr (Or.inr (Or.inl h))))))))))) (Ke.up (Or.inr (Or.inr (Or.inr (Or.inr (Or.inr (by omega)))))) (Ke.up (Or.inr (Or.inr (Or.inr (Or.inr (Or.inr (by omega)))))) (Ke.up (Or.inr (Or.inr (Or.inr (Or.inr (Or.inr (by omega)))))) (Ke.up (Or.inr (Or.inr (Or.inr (Or.inr (Or.inr (by omega)))))) (Ke.up (Or.inr (Or.inr (Or.inr (Or.inr (Or.inr (by omega)))))) (Ke.up (Or.inr (Or.inr (Or.inr (Or.inr (Or.inr (by omega)))))) Ke.rf)))))) k11), (show _ = w_c9 _ by rw [← (ga_v hL4 h6 hL5 h9 nm6_r hL6)]; exact w_c9_3 c13 c14)⟩)
    · refine xr_bipush (v := 9) dX10_gained_125 rfl ?_
      refine xr_goto (tgt := 132) dX10_gained_127 rfl ?_
      exact xr_iret dX10_gained_132 rfl rfl (⟨_, rfl, rfl, rfl, (Ke.tr (fun pp kk => (fun hh => Or.elim hh (fun h => (Or.inl h)) (fun hh => Or.elim hh (fun h => (Or.inr (Or.inl h))) (fun hh => Or.elim hh (fun h => (Or.inr (Or.inr (Or.inl h)))) (fun hh => Or.elim hh (fun h => (Or.inr (Or.inr (Or.inr (Or.inl h))))) (fun h => (Or.inr (Or.inr (Or.inr (Or.inr (Or.inl h))))))))))) (Ke.up (Or.inr (Or.inr (Or.inr (Or.inr (Or.inr (by omega)))))) (Ke.up (Or.inr (Or.inr (Or.inr (Or.inr (Or.inr (by omega)))))) (Ke.up (Or.inr (Or.inr (Or.inr (Or.inr (Or.inr (by omega)))))) (Ke.up (Or.inr (Or.inr (Or.inr (Or.inr (Or.inr (by omega)))))) (Ke.up (Or.inr (Or.inr (Or.inr (Or.inr (Or.inr (by omega)))))) (Ke.up (Or.inr (Or.inr (Or.inr (Or.inr (Or.inr (by omega)))))) Ke.rf)))))) k11), (show _ = w_c9 _ by rw [← (ga_v hL4 h6 hL5 h9 nm6_r hL6)]; exact w_c9_2 c13 c14)⟩)
  · refine xr_bipush (v := -9) dX10_gained_113 rfl ?_
    refine xr_goto (tgt := 132) dX10_gained_115 rfl ?_
    exact xr_iret dX10_gained_132 rfl rfl (⟨_, rfl, rfl, rfl, (Ke.tr (fun pp kk => (fun hh => Or.elim hh (fun h => (Or.inl h)) (fun hh => Or.elim hh (fun h => (Or.inr (Or.inl h))) (fun hh => Or.elim hh (fun h => (Or.inr (Or.inr (Or.inl h)))) (fun hh => Or.elim hh (fun h => (Or.inr (Or.inr (Or.inr (Or.inl h))))) (fun h => (Or.inr (Or.inr (Or.inr (Or.inr (Or.inl h))))))))))) (Ke.up (Or.inr (Or.inr (Or.inr (Or.inr (Or.inr (by omega)))))) (Ke.up (Or.inr (Or.inr (Or.inr (Or.inr (Or.inr (by omega)))))) (Ke.up (Or.inr (Or.inr (Or.inr (Or.inr (Or.inr (by omega)))))) (Ke.up (Or.inr (Or.inr (Or.inr (Or.inr (Or.inr (by omega)))))) (Ke.up (Or.inr (Or.inr (Or.inr (Or.inr (Or.inr (by omega)))))) (Ke.up (Or.inr (Or.inr (Or.inr (Or.inr (Or.inr (by omega)))))) Ke.rf)))))) k11), (show _ = w_c9 _ by rw [← (ga_v hL4 h6 hL5 h9 nm6_r hL6)]; exact w_c9_1 c13)⟩)
theorem gs_X10_gained {h : Nat} (hh : h < 5) (fa st : Int32) {t : Option zL} {l : Launch} {G : xG} {M : xM} {J : xJ} (hL : LRt M t) : x_M l G fX10_gained 59 0 0 [.ref 62, .int (nI h), .int (fa), .int (st)] x_SH M J (qKI WGA M J (fun r M2 => r = w_more t fa (w_ab (M 73 h)) (M 63 h) (M 63 (5 + h)) st (M 74 h))) := by
  cases t with
  | none => exact gs_X10_gained_n hh fa st hL
  | some ls => exact gs_X10_gained_s hh fa st hL
set_option maxRecDepth 100000 in
set_option maxHeartbeats 4000000 in
theorem rpx {st to : Int32} {t : Option zL} {hn : Nat} (h_hn : hn ≤ 5) (T : xM) {l : Launch} {G : xG} {M : xM} {J : xJ} {Q : xQ} (e_hn : M 62 6 = nI hn) (hL : LRt M t) (hC : ∀ (M2 : xM), Ke WRP M M2 → (RPi hn t st to T M2 hn) → x_X l G fX10_pushes 60 0 0 Q 76 [(2, .int (st)), (1, .int (to)), (0, .ref (62))] [] x_SH M2 J 0 0) : ∀ (m k : Nat) (M1 : xM), k + m = hn → Ke WRP M M1 → (RPi hn t st to T M1 k) → x_X l G fX10_pushes 60 0 0 Q 2 [(3, .int (nI (k))), (2, .int (st)), (1, .int (to)), (0, .ref (62))] [] x_SH M1 J 0 0 := by
  intro m
  induction m with
  | zero =>
    intro k M1 hk hM hI
    refine xr_iload_n dX10_pushes_2 0 rfl ?_
    refine xr_aload_n dX10_pushes_3 3 rfl ?_
    refine xb_get (v := nI (hn)) flX10_109 dX10_pushes_4 s_62 rfl (Eq.trans (hM 62 6 (by decide)) e_hn) ?_
    refine xr_icmp_ge (tgt := 76) dX10_pushes_7 rfl (fun _ => ?_) (fun c => absurd (nI_le (a := hn) (b := k) (by omega) (by omega)) c)
    refine xb_ls (ls2 := [(2, .int (st)), (1, .int (to)), (0, .ref (62))]) [1, 2, 3] rfl ?_
    exact hC _ hM (by obtain rfl : k = hn := (by omega); exact hI)
  | succ m ih =>
    intro k M1 hk hM hI
    have hkN : k < hn := by omega
    refine xr_iload_n dX10_pushes_2 0 rfl ?_
    refine xr_aload_n dX10_pushes_3 3 rfl ?_
    refine xb_get (v := nI (hn)) flX10_109 dX10_pushes_4 s_62 rfl (Eq.trans (hM 62 6 (by decide)) e_hn) ?_
    refine xr_icmp_ge (tgt := 76) dX10_pushes_7 rfl (fun c => absurd c (nI_ge (a := k) (b := hn) (by omega) (by omega))) (fun _ => ?_)
    refine xr_aload_n dX10_pushes_10 3 rfl ?_
    refine xr_getR flX10_43 dX10_pushes_11 s_62 rfl ?_
    refine xr_iload_n dX10_pushes_14 0 rfl ?_
    refine xb_iald (j := k) (v := M1 74 k) dX10_pushes_15 s_74 (by omega) (by decide) rfl ?_
    refine xr_if_le (tgt := 70) dX10_pushes_16 rfl (fun c1 => ?_) (fun c1 => ?_)
    · refine xr_iinc (v := nI (k + 1)) (ls2 := [(3, .int (nI (k + 1))), (2, .int (st)), (1, .int (to)), (0, .ref (62))]) dX10_pushes_70 0 rfl (nI_1 _) (by decide) rfl ?_
      refine xr_goto (tgt := 2) dX10_pushes_73 rfl ?_
      refine xb_ls (ls2 := [(3, .int (nI (k + 1))), (2, .int (st)), (1, .int (to)), (0, .ref (62))]) [0, 1, 2, 3] rfl ?_
      exact ih (k + 1) M1 (by omega) hM (RPi_z hI (by omega) c1)
    · refine xr_aload_n dX10_pushes_19 3 rfl ?_
      refine xr_getR flX10_37 dX10_pushes_20 s_62 rfl ?_
      refine xr_iload_n dX10_pushes_23 0 rfl ?_
      refine xb_iald (j := k) (v := M1 72 k) dX10_pushes_24 s_72 (by omega) (by decide) rfl ?_
      refine xr_iload_n dX10_pushes_25 2 rfl ?_
      refine xr_isub dX10_pushes_26 ?_
      refine xb_cS (As := [.int (((M1 72 k) - to))]) (rest := []) mlX10_218 (cw_X10_sizeOf ((M1 72 k) - to)) dX10_pushes_27 rfl rfl (Nat.le_of_ble_eq_true rfl) (by decide) (by decide) ?_
      refine xr_istore (ls2 := [(4, .int ((w_ab ((M1 72 k) - to)))), (3, .int (nI (k))), (2, .int (st)), (1, .int (to)), (0, .ref (62))]) dX10_pushes_30 (by decide) rfl ?_
      refine xr_aload_n dX10_pushes_32 4 rfl ?_
      refine xr_iload_n dX10_pushes_33 1 rfl ?_
      refine xr_aload_n dX10_pushes_34 4 rfl ?_
      refine xr_getR flX10_40 dX10_pushes_35 s_62 rfl ?_
      refine xr_iload_n dX10_pushes_38 1 rfl ?_
      refine xb_iald (j := k) (v := M1 73 k) dX10_pushes_39 s_73 (by omega) (by decide) rfl ?_
      refine xb_cS (As := [.int (M1 73 k)]) (rest := [.int (nI (k)), .ref (62)]) mlX10_218 (cw_X10_sizeOf (M1 73 k)) dX10_pushes_40 rfl rfl (Nat.le_of_ble_eq_true rfl) (by decide) (by decide) ?_
      refine xr_aload_n dX10_pushes_43 4 rfl ?_
      refine xr_iload_n dX10_pushes_44 1 rfl ?_
      refine xr_iload dX10_pushes_45 0 rfl ?_
      refine xr_bipush (v := 12) dX10_pushes_47 rfl ?_
      refine xr_icmp_le (tgt := 60) dX10_pushes_49 rfl (fun c2 => ?_) (fun c2 => ?_)
      · refine xr_iload dX10_pushes_60 0 rfl ?_
        refine xr_iload_n dX10_pushes_62 2 rfl ?_
        refine xr_callV (As := [.int (nI (k)), .int ((w_ab ((M1 72 k) - to))), .int (st)]) (rest := [.int ((w_ab (M1 73 k))), .int (nI (k)), .ref (62)]) mlX10_221 (gs_X10_gained (h := k) (by omega) (w_ab ((M1 72 k) - to)) st (LRt_k (Eq.trans (hM 62 13 (by unfold WRP; omega)) rfl) (Eq.trans (funext fun kk => hM 70 kk (by unfold WRP; omega)) rfl) hL)) dX10_pushes_63 s_62 rfl rfl (Nat.le_of_ble_eq_true rfl) (by decide) ⟨by decide, by decide⟩ (fun v s2 M4 J2 hq => ?_)
        obtain ⟨r6, rfl, rfl, rfl, k5, hr3⟩ := hq
        try dsimp only [Option.toList, List.cons_append, List.nil_append]
        refine xr_iadd dX10_pushes_66 ?_
        refine xb_cV (As := [.int (nI (k)), .int (((w_ab (M1 73 k)) + r6))]) (rest := []) mlX10_225 (cw_X10_becomesPace (h := k) (by omega) ((w_ab (M1 73 k)) + r6)) dX10_pushes_67 s_62 rfl rfl (Nat.le_of_ble_eq_true rfl) (by decide) (by decide) ?_
        refine xr_iinc (v := nI (k + 1)) (ls2 := [(3, .int (nI (k + 1))), (4, .int ((w_ab ((M1 72 k) - to)))), (2, .int (st)), (1, .int (to)), (0, .ref (62))]) dX10_pushes_70 1 rfl (nI_1 _) (by decide) rfl ?_
        refine xr_goto (tgt := 2) dX10_pushes_73 rfl ?_
        refine xb_ls (ls2 := [(3, .int (nI (k + 1))), (2, .int (st)), (1, .int (to)), (0, .ref (62))]) [0, 2, 3, 4] rfl ?_
        exact ih (k + 1) (x_up M4 73 k (w_qk (M4 73 k) ((w_ab (M1 73 k)) + r6))) (by omega) (Ke.up (Or.inr (Or.inr (Or.inr (Or.inr (Or.inr (Or.inr (by omega))))))) (Ke.tr (fun pp kk => (fun hh => Or.elim hh (fun h => (Or.inl h)) (fun hh => Or.elim hh (fun h => (Or.inr (Or.inl h))) (fun hh => Or.elim hh (fun h => (Or.inr (Or.inr (Or.inl h)))) (fun hh => Or.elim hh (fun h => (Or.inr (Or.inr (Or.inr (Or.inl h))))) (fun hh => Or.elim hh (fun h => (Or.inr (Or.inr (Or.inr (Or.inr (Or.inl h)))))) (fun h => (Or.inr (Or.inr (Or.inr (Or.inr (Or.inr (Or.inl h))))))))))))) hM k5)) (RPi_s hI (by omega) c1 (fun _ D hD => AbR_k hD (fun kl hkl => k5 63 kl (by unfold WGA; omega)) (fun kl => k5 72 kl (by unfold WGA; omega)) (fun kl => k5 73 kl (by unfold WGA; omega)) (fun kl => k5 74 kl (by unfold WGA; omega)) h_hn) (k5 73 k (by unfold WGA; omega)) (w_far_2 c2) hr3)
      · refine xr_bipush (v := 24) dX10_pushes_52 rfl ?_
        refine xr_iload dX10_pushes_54 0 rfl ?_
        refine xr_isub dX10_pushes_56 ?_
        refine xr_goto (tgt := 62) dX10_pushes_57 rfl ?_
        refine xr_iload_n dX10_pushes_62 2 rfl ?_
        refine xr_callV (As := [.int (nI (k)), .int ((24 - (w_ab ((M1 72 k) - to)))), .int (st)]) (rest := [.int ((w_ab (M1 73 k))), .int (nI (k)), .ref (62)]) mlX10_221 (gs_X10_gained (h := k) (by omega) (24 - (w_ab ((M1 72 k) - to))) st (LRt_k (Eq.trans (hM 62 13 (by unfold WRP; omega)) rfl) (Eq.trans (funext fun kk => hM 70 kk (by unfold WRP; omega)) rfl) hL)) dX10_pushes_63 s_62 rfl rfl (Nat.le_of_ble_eq_true rfl) (by decide) ⟨by decide, by decide⟩ (fun v s2 M8 J2 hq => ?_)
        obtain ⟨r10, rfl, rfl, rfl, k9, hr7⟩ := hq
        try dsimp only [Option.toList, List.cons_append, List.nil_append]
        refine xr_iadd dX10_pushes_66 ?_
        refine xb_cV (As := [.int (nI (k)), .int (((w_ab (M1 73 k)) + r10))]) (rest := []) mlX10_225 (cw_X10_becomesPace (h := k) (by omega) ((w_ab (M1 73 k)) + r10)) dX10_pushes_67 s_62 rfl rfl (Nat.le_of_ble_eq_true rfl) (by decide) (by decide) ?_
        refine xr_iinc (v := nI (k + 1)) (ls2 := [(3, .int (nI (k + 1))), (4, .int ((w_ab ((M1 72 k) - to)))), (2, .int (st)), (1, .int (to)), (0, .ref (62))]) dX10_pushes_70 1 rfl (nI_1 _) (by decide) rfl ?_
        refine xr_goto (tgt := 2) dX10_pushes_73 rfl ?_
        refine xb_ls (ls2 := [(3, .int (nI (k + 1))), (2, .int (st)), (1, .int (to)), (0, .ref (62))]) [0, 2, 3, 4] rfl ?_
        exact ih (k + 1) (x_up M8 73 k (w_qk (M8 73 k) ((w_ab (M1 73 k)) + r10))) (by omega) (Ke.up (Or.inr (Or.inr (Or.inr (Or.inr (Or.inr (Or.inr (by omega))))))) (Ke.tr (fun pp kk => (fun hh => Or.elim hh (fun h => (Or.inl h)) (fun hh => Or.elim hh (fun h => (Or.inr (Or.inl h))) (fun hh => Or.elim hh (fun h => (Or.inr (Or.inr (Or.inl h)))) (fun hh => Or.elim hh (fun h => (Or.inr (Or.inr (Or.inr (Or.inl h))))) (fun hh => Or.elim hh (fun h => (Or.inr (Or.inr (Or.inr (Or.inr (Or.inl h)))))) (fun h => (Or.inr (Or.inr (Or.inr (Or.inr (Or.inr (Or.inl h))))))))))))) hM k9)) (RPi_s hI (by omega) c1 (fun _ D hD => AbR_k hD (fun kl hkl => k9 63 kl (by unfold WGA; omega)) (fun kl => k9 72 kl (by unfold WGA; omega)) (fun kl => k9 73 kl (by unfold WGA; omega)) (fun kl => k9 74 kl (by unfold WGA; omega)) h_hn) (k9 73 k (by unfold WGA; omega)) (w_far_1 c2) hr7)
set_option maxRecDepth 100000 in
set_option maxHeartbeats 4000000 in
theorem gw_X10_pushes (to st : Int32) {t : Option zL} {D : xM} {hn : Nat} (h_hn : hn ≤ 5) {l : Launch} {G : xG} {M : xM} {J : xJ} (e_hn : M 62 6 = nI hn) (hL : LRt M t) (hA : AbR hn M D) (hW : WF hn D) : x_M l G fX10_pushes 60 0 0 [.ref (62), .int (to), .int (st)] x_SH M J (qKV WRP M J (fun M2 => AbR hn M2 (puL t st to hn 0 D))) := by
  refine xb_of pX10 (Nat.le_of_ble_eq_true rfl) rfl ?_
  refine xr_iconst (v := 0) dX10_pushes_0 rfl ?_
  refine xr_istore_n (ls2 := [(3, .int (0)), (0, .ref (62)), (1, .int (to)), (2, .int (st))]) dX10_pushes_1 (by decide) rfl ?_
  refine xb_ls (ls2 := [(3, .int (nI (0))), (2, .int (st)), (1, .int (to)), (0, .ref (62))]) [0, 3, 2, 1] rfl ?_
  refine rpx h_hn (puL t st to hn 0 D) e_hn hL (fun M1 k2 hI => ?_) (hn - 0) 0 M (by omega) Ke.rf ⟨D, hA, hW, rfl⟩
  exact xr_vret dX10_pushes_76 rfl (⟨rfl, rfl, rfl, (Ke.tr (fun _ _ h => h) Ke.rf k2), (RPi_T hI)⟩)
set_option maxRecDepth 100000 in
set_option maxHeartbeats 4000000 in
theorem rsx {rub nw : Int32} {hn : Nat} (h_hn : hn ≤ 5) (T : xM) {l : Launch} {G : xG} {M : xM} {J : xJ} {Q : xQ} (e_hn : M 62 6 = nI hn) (e_rub : M 63 15 = rub) (hC : ∀ (M2 : xM), Ke W72 M M2 → (RSi hn rub nw T M2 hn) → x_X l G fX10_turns 1 0 0 Q 87 [(1, .int (nw)), (0, .ref (62))] [] x_SH M2 J 0 0) : ∀ (m k : Nat) (M1 : xM), k + m = hn → Ke W72 M M1 → (RSi hn rub nw T M1 k) → x_X l G fX10_turns 1 0 0 Q 2 [(2, .int (nI (k))), (1, .int (nw)), (0, .ref (62))] [] x_SH M1 J 0 0 := by
  intro m
  induction m with
  | zero =>
    intro k M1 hk hM hI
    refine xr_iload_n dX10_turns_2 0 rfl ?_
    refine xr_aload_n dX10_turns_3 2 rfl ?_
    refine xb_get (v := nI (hn)) flX10_109 dX10_turns_4 s_62 rfl (Eq.trans (hM 62 6 (by decide)) e_hn) ?_
    refine xr_icmp_ge (tgt := 87) dX10_turns_7 rfl (fun _ => ?_) (fun c => absurd (nI_le (a := hn) (b := k) (by omega) (by omega)) c)
    refine xb_ls (ls2 := [(1, .int (nw)), (0, .ref (62))]) [1, 2] rfl ?_
    exact hC _ hM (by obtain rfl : k = hn := (by omega); exact hI)
  | succ m ih =>
    intro k M1 hk hM hI
    have hkN : k < hn := by omega
    refine xr_iload_n dX10_turns_2 0 rfl ?_
    refine xr_aload_n dX10_turns_3 2 rfl ?_
    refine xb_get (v := nI (hn)) flX10_109 dX10_turns_4 s_62 rfl (Eq.trans (hM 62 6 (by decide)) e_hn) ?_
    refine xr_icmp_ge (tgt := 87) dX10_turns_7 rfl (fun c => absurd c (nI_ge (a := k) (b := hn) (by omega) (by omega))) (fun _ => ?_)
    refine xr_aload_n dX10_turns_10 2 rfl ?_
    refine xr_getR flX10_43 dX10_turns_11 s_62 rfl ?_
    refine xr_iload_n dX10_turns_14 0 rfl ?_
    refine xb_iald (j := k) (v := M1 74 k) dX10_turns_15 s_74 (by omega) (by decide) rfl ?_
    refine xr_if_le (tgt := 81) dX10_turns_16 rfl (fun c1 => ?_) (fun c1 => ?_)
    · refine xr_iinc (v := nI (k + 1)) (ls2 := [(2, .int (nI (k + 1))), (1, .int (nw)), (0, .ref (62))]) dX10_turns_81 0 rfl (nI_1 _) (by decide) rfl ?_
      refine xr_goto (tgt := 2) dX10_turns_84 rfl ?_
      refine xb_ls (ls2 := [(2, .int (nI (k + 1))), (1, .int (nw)), (0, .ref (62))]) [0, 1, 2] rfl ?_
      exact ih (k + 1) M1 (by omega) hM (RSi_z hI (by omega) c1)
    · refine xr_iload_n dX10_turns_19 1 rfl ?_
      refine xr_iconst (v := 1) dX10_turns_20 rfl ?_
      refine xr_iadd dX10_turns_21 ?_
      refine xr_aload_n dX10_turns_22 2 rfl ?_
      refine xr_getR flX10_9 dX10_turns_23 s_62 rfl ?_
      refine xr_iconst (v := 5) dX10_turns_26 rfl ?_
      refine xr_iload_n dX10_turns_27 0 rfl ?_
      refine xr_iadd dX10_turns_28 ?_
      refine xb_top (y := nI (5 + k)) (nI_add (5) (k)) ?_
      refine xb_iald (j := 5 + k) (v := M1 63 (5 + k)) dX10_turns_29 s_63 (by omega) (by decide) rfl ?_
      refine xr_irem dX10_turns_30 (RSi_nz hI (by omega)) ?_
      refine xr_if_ne (tgt := 56) dX10_turns_31 rfl (fun c2 => ?_) (fun c2 => ?_)
      · refine xr_aload_n dX10_turns_56 2 rfl ?_
        refine xr_getR flX10_37 dX10_turns_57 s_62 rfl ?_
        refine xr_iload_n dX10_turns_60 0 rfl ?_
        refine xr_aload_n dX10_turns_61 2 rfl ?_
        refine xr_getR flX10_37 dX10_turns_62 s_62 rfl ?_
        refine xr_iload_n dX10_turns_65 0 rfl ?_
        refine xb_iald (j := k) (v := M1 72 k) dX10_turns_66 s_72 (by omega) (by decide) rfl ?_
        refine xr_aload_n dX10_turns_67 2 rfl ?_
        refine xr_getR flX10_40 dX10_turns_68 s_62 rfl ?_
        refine xr_iload_n dX10_turns_71 0 rfl ?_
        refine xb_iald (j := k) (v := M1 73 k) dX10_turns_72 s_73 (by omega) (by decide) rfl ?_
        refine xr_iadd dX10_turns_73 ?_
        refine xr_bipush (v := 24) dX10_turns_74 rfl ?_
        refine xr_iadd dX10_turns_76 ?_
        refine xr_bipush (v := 24) dX10_turns_77 rfl ?_
        refine xr_irem dX10_turns_79 (by decide) ?_
        refine xb_top (y := w_mv (M1 72 k) (M1 73 k)) (by first | rfl | (unfold w_mv; rw [x_up_s])) ?_
        refine xb_iast (j := k) dX10_turns_80 s_72 (by omega) (by decide) ?_
        refine xr_iinc (v := nI (k + 1)) (ls2 := [(2, .int (nI (k + 1))), (1, .int (nw)), (0, .ref (62))]) dX10_turns_81 0 rfl (nI_1 _) (by decide) rfl ?_
        refine xr_goto (tgt := 2) dX10_turns_84 rfl ?_
        refine xb_ls (ls2 := [(2, .int (nI (k + 1))), (1, .int (nw)), (0, .ref (62))]) [0, 1, 2] rfl ?_
        exact ih (k + 1) (x_up M1 72 k (w_mv (M1 72 k) (M1 73 k))) (by omega) (Ke.up (by omega) hM) (RSi_a hI (by omega) c1 c2)
      · refine xr_aload_n dX10_turns_34 2 rfl ?_
        refine xr_iload_n dX10_turns_35 0 rfl ?_
        refine xr_aload_n dX10_turns_36 2 rfl ?_
        refine xr_getR flX10_40 dX10_turns_37 s_62 rfl ?_
        refine xr_iload_n dX10_turns_40 0 rfl ?_
        refine xb_iald (j := k) (v := M1 73 k) dX10_turns_41 s_73 (by omega) (by decide) rfl ?_
        refine xb_cS (As := [.int (M1 73 k)]) (rest := [.int (nI (k)), .ref (62)]) mlX10_218 (cw_X10_sizeOf (M1 73 k)) dX10_turns_42 rfl rfl (Nat.le_of_ble_eq_true rfl) (by decide) (by decide) ?_
        refine xr_aload_n dX10_turns_45 2 rfl ?_
        refine xr_getR flX10_9 dX10_turns_46 s_62 rfl ?_
        refine xr_bipush (v := 15) dX10_turns_49 rfl ?_
        refine xb_iald (j := 15) (v := rub) dX10_turns_51 s_63 (by decide) (by decide) (Eq.trans (hM 63 15 (by decide)) e_rub) ?_
        refine xr_isub dX10_turns_52 ?_
        refine xb_cV (As := [.int (nI (k)), .int (((w_ab (M1 73 k)) - rub))]) (rest := []) mlX10_225 (cw_X10_becomesPace (h := k) (by omega) ((w_ab (M1 73 k)) - rub)) dX10_turns_53 s_62 rfl rfl (Nat.le_of_ble_eq_true rfl) (by decide) (by decide) ?_
        refine xr_aload_n dX10_turns_56 2 rfl ?_
        refine xr_getR flX10_37 dX10_turns_57 s_62 rfl ?_
        refine xr_iload_n dX10_turns_60 0 rfl ?_
        refine xr_aload_n dX10_turns_61 2 rfl ?_
        refine xr_getR flX10_37 dX10_turns_62 s_62 rfl ?_
        refine xr_iload_n dX10_turns_65 0 rfl ?_
        refine xb_iald (j := k) (v := (x_up M1 73 k (w_qk (M1 73 k) ((w_ab (M1 73 k)) - rub))) 72 k) dX10_turns_66 s_72 (by omega) (by decide) rfl ?_
        refine xr_aload_n dX10_turns_67 2 rfl ?_
        refine xr_getR flX10_40 dX10_turns_68 s_62 rfl ?_
        refine xr_iload_n dX10_turns_71 0 rfl ?_
        refine xb_iald (j := k) (v := (w_qk (M1 73 k) ((w_ab (M1 73 k)) - rub))) dX10_turns_72 s_73 (by omega) (by decide) (x_up_s _ _ _ _) ?_
        refine xr_iadd dX10_turns_73 ?_
        refine xr_bipush (v := 24) dX10_turns_74 rfl ?_
        refine xr_iadd dX10_turns_76 ?_
        refine xr_bipush (v := 24) dX10_turns_77 rfl ?_
        refine xr_irem dX10_turns_79 (by decide) ?_
        refine xb_top (y := w_mv ((x_up M1 73 k (w_qk (M1 73 k) ((w_ab (M1 73 k)) - rub))) 72 k) ((x_up M1 73 k (w_qk (M1 73 k) ((w_ab (M1 73 k)) - rub))) 73 k)) (by first | rfl | (unfold w_mv; rw [x_up_s])) ?_
        refine xb_iast (j := k) dX10_turns_80 s_72 (by omega) (by decide) ?_
        refine xr_iinc (v := nI (k + 1)) (ls2 := [(2, .int (nI (k + 1))), (1, .int (nw)), (0, .ref (62))]) dX10_turns_81 0 rfl (nI_1 _) (by decide) rfl ?_
        refine xr_goto (tgt := 2) dX10_turns_84 rfl ?_
        refine xb_ls (ls2 := [(2, .int (nI (k + 1))), (1, .int (nw)), (0, .ref (62))]) [0, 1, 2] rfl ?_
        exact ih (k + 1) (x_up (x_up M1 73 k (w_qk (M1 73 k) ((w_ab (M1 73 k)) - rub))) 72 k (w_mv ((x_up M1 73 k (w_qk (M1 73 k) ((w_ab (M1 73 k)) - rub))) 72 k) ((x_up M1 73 k (w_qk (M1 73 k) ((w_ab (M1 73 k)) - rub))) 73 k))) (by omega) (Ke.up (by omega) (Ke.up (by omega) hM)) (RSi_b hI (by omega) c1 c2)
abbrev W73_ (p k : Nat) : Prop := (p = 73)
set_option maxRecDepth 100000 in
set_option maxHeartbeats 4000000 in
theorem rjx {nw : Int32} {a : Nat} (ha : a < 5) {hn : Nat} (h_hn : hn ≤ 5) (T : xM) {l : Launch} {G : xG} {M : xM} {J : xJ} {Q : xQ} (e_hn : M 62 6 = nI hn) (hC : ∀ (M2 : xM), Ke W73_ M M2 → (RJi hn a T M2 hn ∧ a < hn) → x_X l G fX10_turns 1 0 0 Q 180 [(2, .int (nI (a))), (1, .int (nw)), (0, .ref (62))] [] x_SH M2 J 0 0) : ∀ (m k : Nat) (M1 : xM), k + m = hn → Ke W73_ M M1 → (RJi hn a T M1 k ∧ a < k) → x_X l G fX10_turns 1 0 0 Q 101 [(3, .int (nI (k))), (2, .int (nI (a))), (1, .int (nw)), (0, .ref (62))] [] x_SH M1 J 0 0 := by
  intro m
  induction m with
  | zero =>
    intro k M1 hk hM hI
    have hlt := hI.2
    refine xr_iload_n dX10_turns_101 0 rfl ?_
    refine xr_aload_n dX10_turns_102 3 rfl ?_
    refine xb_get (v := nI (hn)) flX10_109 dX10_turns_103 s_62 rfl (Eq.trans (hM 62 6 (by decide)) e_hn) ?_
    refine xr_icmp_ge (tgt := 180) dX10_turns_106 rfl (fun _ => ?_) (fun c => absurd (nI_le (a := hn) (b := k) (by omega) (by omega)) c)
    refine xb_ls (ls2 := [(2, .int (nI (a))), (1, .int (nw)), (0, .ref (62))]) [1, 2, 3] rfl ?_
    exact hC _ hM (by obtain rfl : k = hn := (by omega); exact hI)
  | succ m ih =>
    intro k M1 hk hM hI
    have hkN : k < hn := by omega
    have hlt := hI.2
    refine xr_iload_n dX10_turns_101 0 rfl ?_
    refine xr_aload_n dX10_turns_102 3 rfl ?_
    refine xb_get (v := nI (hn)) flX10_109 dX10_turns_103 s_62 rfl (Eq.trans (hM 62 6 (by decide)) e_hn) ?_
    refine xr_icmp_ge (tgt := 180) dX10_turns_106 rfl (fun c => absurd c (nI_ge (a := k) (b := hn) (by omega) (by omega))) (fun _ => ?_)
    refine xr_aload_n dX10_turns_109 3 rfl ?_
    refine xr_getR flX10_43 dX10_turns_110 s_62 rfl ?_
    refine xr_iload_n dX10_turns_113 1 rfl ?_
    refine xb_iald (j := a) (v := M1 74 a) dX10_turns_114 s_74 ha (by decide) rfl ?_
    refine xr_if_le (tgt := 174) dX10_turns_115 rfl (fun c1 => ?_) (fun c1 => ?_)
    · refine xr_iinc (v := nI (k + 1)) (ls2 := [(3, .int (nI (k + 1))), (2, .int (nI (a))), (1, .int (nw)), (0, .ref (62))]) dX10_turns_174 0 rfl (nI_1 _) (by decide) rfl ?_
      refine xr_goto (tgt := 101) dX10_turns_177 rfl ?_
      refine xb_ls (ls2 := [(3, .int (nI (k + 1))), (2, .int (nI (a))), (1, .int (nw)), (0, .ref (62))]) [0, 1, 2, 3] rfl ?_
      exact ih (k + 1) M1 (by omega) hM ⟨RJi_n hI.2 hI.1 (by omega) (fun z => z.1 c1), by omega⟩
    · refine xr_aload_n dX10_turns_118 3 rfl ?_
      refine xr_getR flX10_43 dX10_turns_119 s_62 rfl ?_
      refine xr_iload_n dX10_turns_122 0 rfl ?_
      refine xb_iald (j := k) (v := M1 74 k) dX10_turns_123 s_74 (by omega) (by decide) rfl ?_
      refine xr_if_le (tgt := 174) dX10_turns_124 rfl (fun c2 => ?_) (fun c2 => ?_)
      · refine xr_iinc (v := nI (k + 1)) (ls2 := [(3, .int (nI (k + 1))), (2, .int (nI (a))), (1, .int (nw)), (0, .ref (62))]) dX10_turns_174 0 rfl (nI_1 _) (by decide) rfl ?_
        refine xr_goto (tgt := 101) dX10_turns_177 rfl ?_
        refine xb_ls (ls2 := [(3, .int (nI (k + 1))), (2, .int (nI (a))), (1, .int (nw)), (0, .ref (62))]) [0, 1, 2, 3] rfl ?_
        exact ih (k + 1) M1 (by omega) hM ⟨RJi_n hI.2 hI.1 (by omega) (fun z => z.2.1 c2), by omega⟩
      · refine xr_aload_n dX10_turns_127 3 rfl ?_
        refine xr_getR flX10_37 dX10_turns_128 s_62 rfl ?_
        refine xr_iload_n dX10_turns_131 1 rfl ?_
        refine xb_iald (j := a) (v := M1 72 a) dX10_turns_132 s_72 ha (by decide) rfl ?_
        refine xr_aload_n dX10_turns_133 3 rfl ?_
        refine xr_getR flX10_37 dX10_turns_134 s_62 rfl ?_
        refine xr_iload_n dX10_turns_137 0 rfl ?_
        refine xb_iald (j := k) (v := M1 72 k) dX10_turns_138 s_72 (by omega) (by decide) rfl ?_
        refine xr_icmp_ne (tgt := 174) dX10_turns_139 rfl (fun c3 => ?_) (fun c3 => ?_)
        · refine xr_iinc (v := nI (k + 1)) (ls2 := [(3, .int (nI (k + 1))), (2, .int (nI (a))), (1, .int (nw)), (0, .ref (62))]) dX10_turns_174 0 rfl (nI_1 _) (by decide) rfl ?_
          refine xr_goto (tgt := 101) dX10_turns_177 rfl ?_
          refine xb_ls (ls2 := [(3, .int (nI (k + 1))), (2, .int (nI (a))), (1, .int (nw)), (0, .ref (62))]) [0, 1, 2, 3] rfl ?_
          exact ih (k + 1) M1 (by omega) hM ⟨RJi_n hI.2 hI.1 (by omega) (fun z => c3 z.2.2), by omega⟩
        · refine xr_aload_n dX10_turns_142 3 rfl ?_
          refine xr_iload_n dX10_turns_143 1 rfl ?_
          refine xr_aload_n dX10_turns_144 3 rfl ?_
          refine xr_getR flX10_40 dX10_turns_145 s_62 rfl ?_
          refine xr_iload_n dX10_turns_148 1 rfl ?_
          refine xb_iald (j := a) (v := M1 73 a) dX10_turns_149 s_73 ha (by decide) rfl ?_
          refine xb_cS (As := [.int (M1 73 a)]) (rest := [.int (nI (a)), .ref (62)]) mlX10_218 (cw_X10_sizeOf (M1 73 a)) dX10_turns_150 rfl rfl (Nat.le_of_ble_eq_true rfl) (by decide) (by decide) ?_
          refine xr_iconst (v := 1) dX10_turns_153 rfl ?_
          refine xr_isub dX10_turns_154 ?_
          refine xb_cV (As := [.int (nI (a)), .int (((w_ab (M1 73 a)) - 1))]) (rest := []) mlX10_225 (cw_X10_becomesPace (h := a) (by omega) ((w_ab (M1 73 a)) - 1)) dX10_turns_155 s_62 rfl rfl (Nat.le_of_ble_eq_true rfl) (by decide) (by decide) ?_
          refine xr_aload_n dX10_turns_158 3 rfl ?_
          refine xr_iload_n dX10_turns_159 0 rfl ?_
          refine xr_aload_n dX10_turns_160 3 rfl ?_
          refine xr_getR flX10_40 dX10_turns_161 s_62 rfl ?_
          refine xr_iload_n dX10_turns_164 0 rfl ?_
          refine xb_iald (j := k) (v := (x_up M1 73 a (w_qk (M1 73 a) ((w_ab (M1 73 a)) - 1))) 73 k) dX10_turns_165 s_73 (by omega) (by decide) rfl ?_
          refine xb_cS (As := [.int ((x_up M1 73 a (w_qk (M1 73 a) ((w_ab (M1 73 a)) - 1))) 73 k)]) (rest := [.int (nI (k)), .ref (62)]) mlX10_218 (cw_X10_sizeOf ((x_up M1 73 a (w_qk (M1 73 a) ((w_ab (M1 73 a)) - 1))) 73 k)) dX10_turns_166 rfl rfl (Nat.le_of_ble_eq_true rfl) (by decide) (by decide) ?_
          refine xr_iconst (v := 1) dX10_turns_169 rfl ?_
          refine xr_isub dX10_turns_170 ?_
          refine xb_cV (As := [.int (nI (k)), .int (((w_ab ((x_up M1 73 a (w_qk (M1 73 a) ((w_ab (M1 73 a)) - 1))) 73 k)) - 1))]) (rest := []) mlX10_225 (cw_X10_becomesPace (h := k) (by omega) ((w_ab ((x_up M1 73 a (w_qk (M1 73 a) ((w_ab (M1 73 a)) - 1))) 73 k)) - 1)) dX10_turns_171 s_62 rfl rfl (Nat.le_of_ble_eq_true rfl) (by decide) (by decide) ?_
          refine xr_iinc (v := nI (k + 1)) (ls2 := [(3, .int (nI (k + 1))), (2, .int (nI (a))), (1, .int (nw)), (0, .ref (62))]) dX10_turns_174 0 rfl (nI_1 _) (by decide) rfl ?_
          refine xr_goto (tgt := 101) dX10_turns_177 rfl ?_
          refine xb_ls (ls2 := [(3, .int (nI (k + 1))), (2, .int (nI (a))), (1, .int (nw)), (0, .ref (62))]) [0, 1, 2, 3] rfl ?_
          exact ih (k + 1) (x_up (x_up M1 73 a (w_qk (M1 73 a) ((w_ab (M1 73 a)) - 1))) 73 k (w_qk ((x_up M1 73 a (w_qk (M1 73 a) ((w_ab (M1 73 a)) - 1))) 73 k) ((w_ab ((x_up M1 73 a (w_qk (M1 73 a) ((w_ab (M1 73 a)) - 1))) 73 k)) - 1))) (by omega) (Ke.up (by omega) (Ke.up (by omega) hM)) ⟨RJi_y hI.2 hI.1 (by omega) ⟨c1, c2, c3⟩, by omega⟩
abbrev W73b (p k : Nat) : Prop := (p = 73)
set_option maxRecDepth 100000 in
set_option maxHeartbeats 4000000 in
theorem rix {nw : Int32} {hn : Nat} (h_hn : hn ≤ 5) (T : xM) {l : Launch} {G : xG} {M : xM} {J : xJ} {Q : xQ} (e_hn : M 62 6 = nI hn) (hC : ∀ (M2 : xM), Ke W73b M M2 → (RIi hn T M2 hn) → x_X l G fX10_turns 1 0 0 Q 186 [(1, .int (nw)), (0, .ref (62))] [] x_SH M2 J 0 0) : ∀ (m k : Nat) (M1 : xM), k + m = hn → Ke W73b M M1 → (RIi hn T M1 k) → x_X l G fX10_turns 1 0 0 Q 89 [(2, .int (nI (k))), (1, .int (nw)), (0, .ref (62))] [] x_SH M1 J 0 0 := by
  intro m
  induction m with
  | zero =>
    intro k M1 hk hM hI
    refine xr_iload_n dX10_turns_89 0 rfl ?_
    refine xr_aload_n dX10_turns_90 2 rfl ?_
    refine xb_get (v := nI (hn)) flX10_109 dX10_turns_91 s_62 rfl (Eq.trans (hM 62 6 (by decide)) e_hn) ?_
    refine xr_icmp_ge (tgt := 186) dX10_turns_94 rfl (fun _ => ?_) (fun c => absurd (nI_le (a := hn) (b := k) (by omega) (by omega)) c)
    refine xb_ls (ls2 := [(1, .int (nw)), (0, .ref (62))]) [1, 2] rfl ?_
    exact hC _ hM (by obtain rfl : k = hn := (by omega); exact hI)
  | succ m ih =>
    intro k M1 hk hM hI
    have hkN : k < hn := by omega
    refine xr_iload_n dX10_turns_89 0 rfl ?_
    refine xr_aload_n dX10_turns_90 2 rfl ?_
    refine xb_get (v := nI (hn)) flX10_109 dX10_turns_91 s_62 rfl (Eq.trans (hM 62 6 (by decide)) e_hn) ?_
    refine xr_icmp_ge (tgt := 186) dX10_turns_94 rfl (fun c => absurd c (nI_ge (a := k) (b := hn) (by omega) (by omega))) (fun _ => ?_)
    refine xr_iload_n dX10_turns_97 0 rfl ?_
    refine xr_iconst (v := 1) dX10_turns_98 rfl ?_
    refine xr_iadd dX10_turns_99 ?_
    refine xb_top (y := nI (k + 1)) (nI_add (k) (1)) ?_
    refine xr_istore_n (ls2 := [(3, .int (nI (k + 1))), (2, .int (nI (k))), (1, .int (nw)), (0, .ref (62))]) dX10_turns_100 (by decide) rfl ?_
    obtain ⟨D1, hA1, hW1, hT1⟩ := hI
    refine xb_ls (ls2 := [(3, .int (nI (k + 1))), (2, .int (nI (k))), (1, .int (nw)), (0, .ref (62))]) [0, 1, 2, 3] rfl ?_
    refine rjx (a := k) (by omega) h_hn (crJ k (hn - (k + 1)) (k + 1) D1) (Eq.trans (hM 62 6 (by decide)) e_hn) (fun M1 k2 hE => ?_) (hn - (k + 1)) (k + 1) M1 (by omega) Ke.rf ⟨⟨D1, hA1, hW1, rfl⟩, by omega⟩
    refine xr_iinc (v := nI (k + 1)) (ls2 := [(2, .int (nI (k + 1))), (1, .int (nw)), (0, .ref (62))]) dX10_turns_180 0 rfl (nI_1 _) (by decide) rfl ?_
    refine xr_goto (tgt := 89) dX10_turns_183 rfl ?_
    refine xb_ls (ls2 := [(2, .int (nI (k + 1))), (1, .int (nw)), (0, .ref (62))]) [0, 1, 2] rfl ?_
    exact ih (k + 1) M1 (by omega) (Ke.tr (fun _ _ h => h) hM k2) (RIi_s (by omega) hT1 hE.1)
set_option maxRecDepth 100000 in
set_option maxHeartbeats 4000000 in
theorem rkx {nw : Int32} {hn : Nat} (h_hn : hn ≤ 5) (T : xM) {l : Launch} {G : xG} {M : xM} {J : xJ} {Q : xQ} (e_hn : M 62 6 = nI hn) (hC : ∀ (M2 : xM), Ke W374 M M2 → (RKi hn T M2 hn) → x_X l G fX10_turns 1 0 0 Q 299 [(1, .int (nw)), (0, .ref (62))] [] x_SH M2 J 0 0) : ∀ (m k : Nat) (M1 : xM), k + m = hn → Ke W374 M M1 → (RKi hn T M1 k) → x_X l G fX10_turns 1 0 0 Q 188 [(2, .int (nI (k))), (1, .int (nw)), (0, .ref (62))] [] x_SH M1 J 0 0 := by
  intro m
  induction m with
  | zero =>
    intro k M1 hk hM hI
    refine xr_iload_n dX10_turns_188 0 rfl ?_
    refine xr_aload_n dX10_turns_189 2 rfl ?_
    refine xb_get (v := nI (hn)) flX10_109 dX10_turns_190 s_62 rfl (Eq.trans (hM 62 6 (by decide)) e_hn) ?_
    refine xr_icmp_ge (tgt := 299) dX10_turns_193 rfl (fun _ => ?_) (fun c => absurd (nI_le (a := hn) (b := k) (by omega) (by omega)) c)
    refine xb_ls (ls2 := [(1, .int (nw)), (0, .ref (62))]) [1, 2] rfl ?_
    exact hC _ hM (by obtain rfl : k = hn := (by omega); exact hI)
  | succ m ih =>
    intro k M1 hk hM hI
    have hkN : k < hn := by omega
    refine xr_iload_n dX10_turns_188 0 rfl ?_
    refine xr_aload_n dX10_turns_189 2 rfl ?_
    refine xb_get (v := nI (hn)) flX10_109 dX10_turns_190 s_62 rfl (Eq.trans (hM 62 6 (by decide)) e_hn) ?_
    refine xr_icmp_ge (tgt := 299) dX10_turns_193 rfl (fun c => absurd c (nI_ge (a := k) (b := hn) (by omega) (by omega))) (fun _ => ?_)
    refine xr_aload_n dX10_turns_196 2 rfl ?_
    refine xr_getR flX10_43 dX10_turns_197 s_62 rfl ?_
    refine xr_iload_n dX10_turns_200 0 rfl ?_
    refine xb_iald (j := k) (v := M1 74 k) dX10_turns_201 s_74 (by omega) (by decide) rfl ?_
    refine xr_if_le (tgt := 293) dX10_turns_202 rfl (fun c1 => ?_) (fun c1 => ?_)
    · refine xr_iinc (v := nI (k + 1)) (ls2 := [(2, .int (nI (k + 1))), (1, .int (nw)), (0, .ref (62))]) dX10_turns_293 0 rfl (nI_1 _) (by decide) rfl ?_
      refine xr_goto (tgt := 188) dX10_turns_296 rfl ?_
      refine xb_ls (ls2 := [(2, .int (nI (k + 1))), (1, .int (nw)), (0, .ref (62))]) [0, 1, 2] rfl ?_
      exact ih (k + 1) M1 (by omega) hM (RKi_z hI (by omega) c1)
    · refine xr_aload_n dX10_turns_205 2 rfl ?_
      refine xr_getR flX10_40 dX10_turns_206 s_62 rfl ?_
      refine xr_iload_n dX10_turns_209 0 rfl ?_
      refine xb_iald (j := k) (v := M1 73 k) dX10_turns_210 s_73 (by omega) (by decide) rfl ?_
      refine xb_cS (As := [.int (M1 73 k)]) (rest := []) mlX10_218 (cw_X10_sizeOf (M1 73 k)) dX10_turns_211 rfl rfl (Nat.le_of_ble_eq_true rfl) (by decide) (by decide) ?_
      refine xr_aload_n dX10_turns_214 2 rfl ?_
      refine xr_iload_n dX10_turns_215 0 rfl ?_
      refine xb_cV (As := [.int (nI (k))]) (rest := [.int ((w_ab (M1 73 k)))]) mlX10_145 (cw_X10_needOf (h := k) (by omega)) dX10_turns_216 s_62 rfl rfl (Nat.le_of_ble_eq_true rfl) (by decide) (by decide) ?_
      refine xr_icmp_lt (tgt := 233) dX10_turns_219 rfl (fun c2 => ?_) (fun c2 => ?_)
      · refine xr_aload_n dX10_turns_233 2 rfl ?_
        refine xr_getR flX10_43 dX10_turns_234 s_62 rfl ?_
        refine xr_iload_n dX10_turns_237 0 rfl ?_
        refine xb_iald (j := k) (v := M1 74 k) dX10_turns_238 s_74 (by omega) (by decide) rfl ?_
        refine xr_iconst (v := 2) dX10_turns_239 rfl ?_
        refine xr_isub dX10_turns_240 ?_
        refine xr_istore_n (ls2 := [(3, .int (((M1 74 k) - 2))), (2, .int (nI (k))), (1, .int (nw)), (0, .ref (62))]) dX10_turns_241 (by decide) rfl ?_
        refine xr_aload_n dX10_turns_242 3 rfl ?_
        refine xr_getR flX10_43 dX10_turns_243 s_62 rfl ?_
        refine xr_iload_n dX10_turns_246 1 rfl ?_
        refine xr_iload_n dX10_turns_247 0 rfl ?_
        refine xr_bipush (v := 20) dX10_turns_248 rfl ?_
        refine xr_icmp_le (tgt := 258) dX10_turns_250 rfl (fun c3 => ?_) (fun c3 => ?_)
        · refine xr_iload_n dX10_turns_258 0 rfl ?_
          refine xr_if_ge (tgt := 266) dX10_turns_259 rfl (fun c4 => ?_) (fun c4 => ?_)
          · refine xr_iload_n dX10_turns_266 0 rfl ?_
            refine xb_iast (j := k) dX10_turns_267 s_74 (by omega) (by decide) ?_
            refine xr_aload_n dX10_turns_268 3 rfl ?_
            refine xr_getR flX10_40 dX10_turns_269 s_62 rfl ?_
            refine xr_iload_n dX10_turns_272 1 rfl ?_
            refine xr_aload_n dX10_turns_273 3 rfl ?_
            refine xr_getR flX10_43 dX10_turns_274 s_62 rfl ?_
            refine xr_iload_n dX10_turns_277 1 rfl ?_
            refine xb_iald (j := k) (v := ((M1 74 k) - 2)) dX10_turns_278 s_74 (by omega) (by decide) (x_up_s _ _ _ _) ?_
            refine xr_if_ne (tgt := 286) dX10_turns_279 rfl (fun c5 => ?_) (fun c5 => ?_)
            · refine xr_aload_n dX10_turns_286 3 rfl ?_
              refine xr_getR flX10_40 dX10_turns_287 s_62 rfl ?_
              refine xr_iload_n dX10_turns_290 1 rfl ?_
              refine xb_iald (j := k) (v := (x_up M1 74 k ((M1 74 k) - 2)) 73 k) dX10_turns_291 s_73 (by omega) (by decide) rfl ?_
              refine xb_iast (j := k) dX10_turns_292 s_73 (by omega) (by decide) ?_
              refine xr_iinc (v := nI (k + 1)) (ls2 := [(2, .int (nI (k + 1))), (3, .int (((M1 74 k) - 2))), (1, .int (nw)), (0, .ref (62))]) dX10_turns_293 1 rfl (nI_1 _) (by decide) rfl ?_
              refine xr_goto (tgt := 188) dX10_turns_296 rfl ?_
              refine xb_ls (ls2 := [(2, .int (nI (k + 1))), (1, .int (nw)), (0, .ref (62))]) [0, 2, 3] rfl ?_
              exact ih (k + 1) (x_up (x_up M1 74 k ((M1 74 k) - 2)) 73 k ((x_up M1 74 k ((M1 74 k) - 2)) 73 k)) (by omega) (Ke.up (by omega) (Ke.up (by omega) hM)) (RKi_s hI (by omega) c1 (Or.inl ⟨c2, rfl⟩) (w_cr_3 c3 c4) ((if_neg (fun q => c5 q)).symm))
            · refine xr_iconst (v := 0) dX10_turns_282 rfl ?_
              refine xr_goto (tgt := 292) dX10_turns_283 rfl ?_
              refine xb_iast (j := k) dX10_turns_292 s_73 (by omega) (by decide) ?_
              refine xr_iinc (v := nI (k + 1)) (ls2 := [(2, .int (nI (k + 1))), (3, .int (((M1 74 k) - 2))), (1, .int (nw)), (0, .ref (62))]) dX10_turns_293 1 rfl (nI_1 _) (by decide) rfl ?_
              refine xr_goto (tgt := 188) dX10_turns_296 rfl ?_
              refine xb_ls (ls2 := [(2, .int (nI (k + 1))), (1, .int (nw)), (0, .ref (62))]) [0, 2, 3] rfl ?_
              exact ih (k + 1) (x_up (x_up M1 74 k ((M1 74 k) - 2)) 73 k 0) (by omega) (Ke.up (by omega) (Ke.up (by omega) hM)) (RKi_s hI (by omega) c1 (Or.inl ⟨c2, rfl⟩) (w_cr_3 c3 c4) ((if_pos c5).symm))
          · refine xr_iconst (v := 0) dX10_turns_262 rfl ?_
            refine xr_goto (tgt := 267) dX10_turns_263 rfl ?_
            refine xb_iast (j := k) dX10_turns_267 s_74 (by omega) (by decide) ?_
            refine xr_aload_n dX10_turns_268 3 rfl ?_
            refine xr_getR flX10_40 dX10_turns_269 s_62 rfl ?_
            refine xr_iload_n dX10_turns_272 1 rfl ?_
            refine xr_aload_n dX10_turns_273 3 rfl ?_
            refine xr_getR flX10_43 dX10_turns_274 s_62 rfl ?_
            refine xr_iload_n dX10_turns_277 1 rfl ?_
            refine xb_iald (j := k) (v := 0) dX10_turns_278 s_74 (by omega) (by decide) (x_up_s _ _ _ _) ?_
            refine xr_if_ne (tgt := 286) dX10_turns_279 rfl (fun c => absurd (by decide) c) (fun _ => ?_)
            refine xr_iconst (v := 0) dX10_turns_282 rfl ?_
            refine xr_goto (tgt := 292) dX10_turns_283 rfl ?_
            refine xb_iast (j := k) dX10_turns_292 s_73 (by omega) (by decide) ?_
            refine xr_iinc (v := nI (k + 1)) (ls2 := [(2, .int (nI (k + 1))), (3, .int (((M1 74 k) - 2))), (1, .int (nw)), (0, .ref (62))]) dX10_turns_293 1 rfl (nI_1 _) (by decide) rfl ?_
            refine xr_goto (tgt := 188) dX10_turns_296 rfl ?_
            refine xb_ls (ls2 := [(2, .int (nI (k + 1))), (1, .int (nw)), (0, .ref (62))]) [0, 2, 3] rfl ?_
            exact ih (k + 1) (x_up (x_up M1 74 k 0) 73 k 0) (by omega) (Ke.up (by omega) (Ke.up (by omega) hM)) (RKi_s hI (by omega) c1 (Or.inl ⟨c2, rfl⟩) (w_cr_2 c3 c4) ((if_pos rfl).symm))
        · refine xr_bipush (v := 20) dX10_turns_253 rfl ?_
          refine xr_goto (tgt := 267) dX10_turns_255 rfl ?_
          refine xb_iast (j := k) dX10_turns_267 s_74 (by omega) (by decide) ?_
          refine xr_aload_n dX10_turns_268 3 rfl ?_
          refine xr_getR flX10_40 dX10_turns_269 s_62 rfl ?_
          refine xr_iload_n dX10_turns_272 1 rfl ?_
          refine xr_aload_n dX10_turns_273 3 rfl ?_
          refine xr_getR flX10_43 dX10_turns_274 s_62 rfl ?_
          refine xr_iload_n dX10_turns_277 1 rfl ?_
          refine xb_iald (j := k) (v := 20) dX10_turns_278 s_74 (by omega) (by decide) (x_up_s _ _ _ _) ?_
          refine xr_if_ne (tgt := 286) dX10_turns_279 rfl (fun _ => ?_) (fun c => absurd c (by decide))
          refine xr_aload_n dX10_turns_286 3 rfl ?_
          refine xr_getR flX10_40 dX10_turns_287 s_62 rfl ?_
          refine xr_iload_n dX10_turns_290 1 rfl ?_
          refine xb_iald (j := k) (v := (x_up M1 74 k 20) 73 k) dX10_turns_291 s_73 (by omega) (by decide) rfl ?_
          refine xb_iast (j := k) dX10_turns_292 s_73 (by omega) (by decide) ?_
          refine xr_iinc (v := nI (k + 1)) (ls2 := [(2, .int (nI (k + 1))), (3, .int (((M1 74 k) - 2))), (1, .int (nw)), (0, .ref (62))]) dX10_turns_293 1 rfl (nI_1 _) (by decide) rfl ?_
          refine xr_goto (tgt := 188) dX10_turns_296 rfl ?_
          refine xb_ls (ls2 := [(2, .int (nI (k + 1))), (1, .int (nw)), (0, .ref (62))]) [0, 2, 3] rfl ?_
          exact ih (k + 1) (x_up (x_up M1 74 k 20) 73 k ((x_up M1 74 k 20) 73 k)) (by omega) (Ke.up (by omega) (Ke.up (by omega) hM)) (RKi_s hI (by omega) c1 (Or.inl ⟨c2, rfl⟩) (w_cr_1 c3) ((if_neg (by decide)).symm))
      · refine xr_aload_n dX10_turns_222 2 rfl ?_
        refine xr_getR flX10_43 dX10_turns_223 s_62 rfl ?_
        refine xr_iload_n dX10_turns_226 0 rfl ?_
        refine xb_iald (j := k) (v := M1 74 k) dX10_turns_227 s_74 (by omega) (by decide) rfl ?_
        refine xr_iconst (v := 1) dX10_turns_228 rfl ?_
        refine xr_iadd dX10_turns_229 ?_
        refine xr_goto (tgt := 241) dX10_turns_230 rfl ?_
        refine xr_istore_n (ls2 := [(3, .int (((M1 74 k) + 1))), (2, .int (nI (k))), (1, .int (nw)), (0, .ref (62))]) dX10_turns_241 (by decide) rfl ?_
        refine xr_aload_n dX10_turns_242 3 rfl ?_
        refine xr_getR flX10_43 dX10_turns_243 s_62 rfl ?_
        refine xr_iload_n dX10_turns_246 1 rfl ?_
        refine xr_iload_n dX10_turns_247 0 rfl ?_
        refine xr_bipush (v := 20) dX10_turns_248 rfl ?_
        refine xr_icmp_le (tgt := 258) dX10_turns_250 rfl (fun c6 => ?_) (fun c6 => ?_)
        · refine xr_iload_n dX10_turns_258 0 rfl ?_
          refine xr_if_ge (tgt := 266) dX10_turns_259 rfl (fun c7 => ?_) (fun c7 => ?_)
          · refine xr_iload_n dX10_turns_266 0 rfl ?_
            refine xb_iast (j := k) dX10_turns_267 s_74 (by omega) (by decide) ?_
            refine xr_aload_n dX10_turns_268 3 rfl ?_
            refine xr_getR flX10_40 dX10_turns_269 s_62 rfl ?_
            refine xr_iload_n dX10_turns_272 1 rfl ?_
            refine xr_aload_n dX10_turns_273 3 rfl ?_
            refine xr_getR flX10_43 dX10_turns_274 s_62 rfl ?_
            refine xr_iload_n dX10_turns_277 1 rfl ?_
            refine xb_iald (j := k) (v := ((M1 74 k) + 1)) dX10_turns_278 s_74 (by omega) (by decide) (x_up_s _ _ _ _) ?_
            refine xr_if_ne (tgt := 286) dX10_turns_279 rfl (fun c8 => ?_) (fun c8 => ?_)
            · refine xr_aload_n dX10_turns_286 3 rfl ?_
              refine xr_getR flX10_40 dX10_turns_287 s_62 rfl ?_
              refine xr_iload_n dX10_turns_290 1 rfl ?_
              refine xb_iald (j := k) (v := (x_up M1 74 k ((M1 74 k) + 1)) 73 k) dX10_turns_291 s_73 (by omega) (by decide) rfl ?_
              refine xb_iast (j := k) dX10_turns_292 s_73 (by omega) (by decide) ?_
              refine xr_iinc (v := nI (k + 1)) (ls2 := [(2, .int (nI (k + 1))), (3, .int (((M1 74 k) + 1))), (1, .int (nw)), (0, .ref (62))]) dX10_turns_293 1 rfl (nI_1 _) (by decide) rfl ?_
              refine xr_goto (tgt := 188) dX10_turns_296 rfl ?_
              refine xb_ls (ls2 := [(2, .int (nI (k + 1))), (1, .int (nw)), (0, .ref (62))]) [0, 2, 3] rfl ?_
              exact ih (k + 1) (x_up (x_up M1 74 k ((M1 74 k) + 1)) 73 k ((x_up M1 74 k ((M1 74 k) + 1)) 73 k)) (by omega) (Ke.up (by omega) (Ke.up (by omega) hM)) (RKi_s hI (by omega) c1 (Or.inr ⟨c2, rfl⟩) (w_cr_3 c6 c7) ((if_neg (fun q => c8 q)).symm))
            · refine xr_iconst (v := 0) dX10_turns_282 rfl ?_
              refine xr_goto (tgt := 292) dX10_turns_283 rfl ?_
              refine xb_iast (j := k) dX10_turns_292 s_73 (by omega) (by decide) ?_
              refine xr_iinc (v := nI (k + 1)) (ls2 := [(2, .int (nI (k + 1))), (3, .int (((M1 74 k) + 1))), (1, .int (nw)), (0, .ref (62))]) dX10_turns_293 1 rfl (nI_1 _) (by decide) rfl ?_
              refine xr_goto (tgt := 188) dX10_turns_296 rfl ?_
              refine xb_ls (ls2 := [(2, .int (nI (k + 1))), (1, .int (nw)), (0, .ref (62))]) [0, 2, 3] rfl ?_
              exact ih (k + 1) (x_up (x_up M1 74 k ((M1 74 k) + 1)) 73 k 0) (by omega) (Ke.up (by omega) (Ke.up (by omega) hM)) (RKi_s hI (by omega) c1 (Or.inr ⟨c2, rfl⟩) (w_cr_3 c6 c7) ((if_pos c8).symm))
          · refine xr_iconst (v := 0) dX10_turns_262 rfl ?_
            refine xr_goto (tgt := 267) dX10_turns_263 rfl ?_
            refine xb_iast (j := k) dX10_turns_267 s_74 (by omega) (by decide) ?_
            refine xr_aload_n dX10_turns_268 3 rfl ?_
            refine xr_getR flX10_40 dX10_turns_269 s_62 rfl ?_
            refine xr_iload_n dX10_turns_272 1 rfl ?_
            refine xr_aload_n dX10_turns_273 3 rfl ?_
            refine xr_getR flX10_43 dX10_turns_274 s_62 rfl ?_
            refine xr_iload_n dX10_turns_277 1 rfl ?_
            refine xb_iald (j := k) (v := 0) dX10_turns_278 s_74 (by omega) (by decide) (x_up_s _ _ _ _) ?_
            refine xr_if_ne (tgt := 286) dX10_turns_279 rfl (fun c => absurd (by decide) c) (fun _ => ?_)
            refine xr_iconst (v := 0) dX10_turns_282 rfl ?_
            refine xr_goto (tgt := 292) dX10_turns_283 rfl ?_
            refine xb_iast (j := k) dX10_turns_292 s_73 (by omega) (by decide) ?_
            refine xr_iinc (v := nI (k + 1)) (ls2 := [(2, .int (nI (k + 1))), (3, .int (((M1 74 k) + 1))), (1, .int (nw)), (0, .ref (62))]) dX10_turns_293 1 rfl (nI_1 _) (by decide) rfl ?_
            refine xr_goto (tgt := 188) dX10_turns_296 rfl ?_
            refine xb_ls (ls2 := [(2, .int (nI (k + 1))), (1, .int (nw)), (0, .ref (62))]) [0, 2, 3] rfl ?_
            exact ih (k + 1) (x_up (x_up M1 74 k 0) 73 k 0) (by omega) (Ke.up (by omega) (Ke.up (by omega) hM)) (RKi_s hI (by omega) c1 (Or.inr ⟨c2, rfl⟩) (w_cr_2 c6 c7) ((if_pos rfl).symm))
        · refine xr_bipush (v := 20) dX10_turns_253 rfl ?_
          refine xr_goto (tgt := 267) dX10_turns_255 rfl ?_
          refine xb_iast (j := k) dX10_turns_267 s_74 (by omega) (by decide) ?_
          refine xr_aload_n dX10_turns_268 3 rfl ?_
          refine xr_getR flX10_40 dX10_turns_269 s_62 rfl ?_
          refine xr_iload_n dX10_turns_272 1 rfl ?_
          refine xr_aload_n dX10_turns_273 3 rfl ?_
          refine xr_getR flX10_43 dX10_turns_274 s_62 rfl ?_
          refine xr_iload_n dX10_turns_277 1 rfl ?_
          refine xb_iald (j := k) (v := 20) dX10_turns_278 s_74 (by omega) (by decide) (x_up_s _ _ _ _) ?_
          refine xr_if_ne (tgt := 286) dX10_turns_279 rfl (fun _ => ?_) (fun c => absurd c (by decide))
          refine xr_aload_n dX10_turns_286 3 rfl ?_
          refine xr_getR flX10_40 dX10_turns_287 s_62 rfl ?_
          refine xr_iload_n dX10_turns_290 1 rfl ?_
          refine xb_iald (j := k) (v := (x_up M1 74 k 20) 73 k) dX10_turns_291 s_73 (by omega) (by decide) rfl ?_
          refine xb_iast (j := k) dX10_turns_292 s_73 (by omega) (by decide) ?_
          refine xr_iinc (v := nI (k + 1)) (ls2 := [(2, .int (nI (k + 1))), (3, .int (((M1 74 k) + 1))), (1, .int (nw)), (0, .ref (62))]) dX10_turns_293 1 rfl (nI_1 _) (by decide) rfl ?_
          refine xr_goto (tgt := 188) dX10_turns_296 rfl ?_
          refine xb_ls (ls2 := [(2, .int (nI (k + 1))), (1, .int (nw)), (0, .ref (62))]) [0, 2, 3] rfl ?_
          exact ih (k + 1) (x_up (x_up M1 74 k 20) 73 k ((x_up M1 74 k 20) 73 k)) (by omega) (Ke.up (by omega) (Ke.up (by omega) hM)) (RKi_s hI (by omega) c1 (Or.inr ⟨c2, rfl⟩) (w_cr_1 c6) ((if_neg (by decide)).symm))
set_option maxRecDepth 100000 in
set_option maxHeartbeats 4000000 in
theorem gw_X10_turns (nw : Int32) {rub : Int32} {D : xM} {hn : Nat} (h_hn : hn ≤ 5) {l : Launch} {G : xG} {M : xM} {J : xJ} (e_hn : M 62 6 = nI hn) (e_rub : M 63 15 = rub) (hA : AbR hn M D) (hW : WF hn D) : x_M l G fX10_turns 1 0 0 [.ref (62), .int (nw)] x_SH M J (qKV WTU M J (fun M2 => AbR hn M2 (seT hn rub nw D))) := by
  refine xb_of pX10 (Nat.le_of_ble_eq_true rfl) rfl ?_
  refine xr_iconst (v := 0) dX10_turns_0 rfl ?_
  refine xr_istore_n (ls2 := [(2, .int (0)), (0, .ref (62)), (1, .int (nw))]) dX10_turns_1 (by decide) rfl ?_
  refine xb_ls (ls2 := [(2, .int (nI (0))), (1, .int (nw)), (0, .ref (62))]) [0, 2, 1] rfl ?_
  refine rsx (rub := rub) h_hn (s1L rub nw hn 0 D) e_hn e_rub (fun M1 k2 hI => ?_) (hn - 0) 0 M (by omega) Ke.rf ⟨D, hA, hW, rfl⟩
  refine xr_iconst (v := 0) dX10_turns_87 rfl ?_
  refine xr_istore_n (ls2 := [(2, .int (0)), (1, .int (nw)), (0, .ref (62))]) dX10_turns_88 (by decide) rfl ?_
  refine xb_ls (ls2 := [(2, .int (nI (0))), (1, .int (nw)), (0, .ref (62))]) [0, 1, 2] rfl ?_
  refine rix h_hn (crI hn hn 0 (s1L rub nw hn 0 D)) (Eq.trans (k2 62 6 (by decide)) e_hn) (fun M3 k4 hC => ?_) (hn - 0) 0 M1 (by omega) Ke.rf ⟨_, (RSi_T hI).1, (RSi_T hI).2, rfl⟩
  refine xr_iconst (v := 0) dX10_turns_186 rfl ?_
  refine xr_istore_n (ls2 := [(2, .int (0)), (1, .int (nw)), (0, .ref (62))]) dX10_turns_187 (by decide) rfl ?_
  refine xb_ls (ls2 := [(2, .int (nI (0))), (1, .int (nw)), (0, .ref (62))]) [0, 1, 2] rfl ?_
  refine rkx h_hn (seT hn rub nw D) (Eq.trans (k4 62 6 (by decide)) (Eq.trans (k2 62 6 (by decide)) e_hn)) (fun M5 k6 hK => ?_) (hn - 0) 0 M3 (by omega) Ke.rf ⟨_, (RIi_T hC).1, (RIi_T hC).2, rfl⟩
  exact xr_vret dX10_turns_299 rfl (⟨rfl, rfl, rfl, (Ke.tr (fun pp kk h => (by omega)) (Ke.tr (fun pp kk h => (by omega)) (Ke.tr (fun pp kk h => (by omega)) Ke.rf k2) k4) k6), (RKi_T hK)⟩)
set_option maxRecDepth 100000 in
set_option maxHeartbeats 4000000 in
theorem cw_X10_isPush (nw : Int32) {bt ph : Int32} (hbt : ¬ bt = 0) {l : Launch} {G : xG} {M : xM} {J : xJ} (e_bt : M 63 16 = bt) (e_ph : M 63 17 = ph) : x_M l G fX10_isPush 0 0 0 [.ref 62, .int (nw)] x_SH M J (qE (some (.int (bI (w_due bt ph nw)))) x_SH M J) := by
  refine xb_of pX10 (Nat.le_of_ble_eq_true rfl) rfl ?_
  refine xr_iload_n dX10_isPush_0 1 rfl ?_
  refine xr_aload_n dX10_isPush_1 0 rfl ?_
  refine xr_getR flX10_9 dX10_isPush_2 s_62 rfl ?_
  refine xr_bipush (v := 16) dX10_isPush_5 rfl ?_
  refine xb_iald (j := 16) (v := bt) dX10_isPush_7 s_63 (by decide) (by decide) e_bt ?_
  refine xr_irem dX10_isPush_8 hbt ?_
  refine xr_aload_n dX10_isPush_9 0 rfl ?_
  refine xr_getR flX10_9 dX10_isPush_10 s_62 rfl ?_
  refine xr_bipush (v := 17) dX10_isPush_13 rfl ?_
  refine xb_iald (j := 17) (v := ph) dX10_isPush_15 s_63 (by decide) (by decide) e_ph ?_
  refine xr_aload_n dX10_isPush_16 0 rfl ?_
  refine xr_getR flX10_9 dX10_isPush_17 s_62 rfl ?_
  refine xr_bipush (v := 16) dX10_isPush_20 rfl ?_
  refine xb_iald (j := 16) (v := bt) dX10_isPush_22 s_63 (by decide) (by decide) e_bt ?_
  refine xr_irem dX10_isPush_23 hbt ?_
  refine xr_icmp_ne (tgt := 31) dX10_isPush_24 rfl (fun c1 => ?_) (fun c1 => ?_)
  · refine xr_iconst (v := 0) dX10_isPush_31 rfl ?_
    exact xr_iret dX10_isPush_32 rfl rfl (⟨congrArg (fun z => some (Value.int z)) (bI_f c1).symm, rfl, rfl, rfl⟩)
  · refine xr_iconst (v := 1) dX10_isPush_27 rfl ?_
    refine xr_goto (tgt := 32) dX10_isPush_28 rfl ?_
    exact xr_iret dX10_isPush_32 rfl rfl (⟨congrArg (fun z => some (Value.int z)) (bI_t c1).symm, rfl, rfl, rfl⟩)
set_option maxRecDepth 100000 in
set_option maxHeartbeats 4000000 in
theorem cw_X10_toOf (nw : Int32) {bt : Int32} (hbt : ¬ bt = 0) {l : Launch} {G : xG} {M : xM} {J : xJ} (e_bt : M 63 16 = bt) : x_M l G fX10_toOf 0 0 0 [.ref 62, .int (nw)] x_SH M J (qE (some (.int (w_go bt nw))) x_SH M J) := by
  refine xb_of pX10 (Nat.le_of_ble_eq_true rfl) rfl ?_
  refine xr_iload_n dX10_toOf_0 1 rfl ?_
  refine xr_aload_n dX10_toOf_1 0 rfl ?_
  refine xr_getR flX10_9 dX10_toOf_2 s_62 rfl ?_
  refine xr_bipush (v := 16) dX10_toOf_5 rfl ?_
  refine xb_iald (j := 16) (v := bt) dX10_toOf_7 s_63 (by decide) (by decide) e_bt ?_
  refine xr_idiv dX10_toOf_8 hbt ?_
  refine xr_iconst (v := 2) dX10_toOf_9 rfl ?_
  refine xr_irem dX10_toOf_10 (by decide) ?_
  refine xr_if_ne (tgt := 18) dX10_toOf_11 rfl (fun c1 => ?_) (fun c1 => ?_)
  · refine xr_bipush (v := 12) dX10_toOf_18 rfl ?_
    exact xr_iret dX10_toOf_20 rfl rfl (⟨congrArg (fun z => some (Value.int z)) (if_neg c1).symm, rfl, rfl, rfl⟩)
  · refine xr_iconst (v := 0) dX10_toOf_14 rfl ?_
    refine xr_goto (tgt := 20) dX10_toOf_15 rfl ?_
    exact xr_iret dX10_toOf_20 rfl rfl (⟨congrArg (fun z => some (Value.int z)) (if_pos c1).symm, rfl, rfl, rfl⟩)
set_option maxRecDepth 100000 in
set_option maxHeartbeats 4000000 in
theorem gw_X10_tickGoes (nw : Int32) {pd : Int32} {t : Option zL} {rub bt ph st : Int32} (hbt : ¬ bt = 0) {D : xM} {hn : Nat} (h_hn : hn ≤ 5) {l : Launch} {G : xG} {M : xM} {J : xJ} (e_hn : M 62 6 = nI hn) (e_rub : M 63 15 = rub) (e_bt : M 63 16 = bt) (e_ph : M 63 17 = ph) (e_st : M 63 18 = st) (e_pd : M 62 23 = pd) (hL : LRt M t) (hA : AbR hn M D) (hW : WF hn D) : x_M l G fX10_tickGoes 61 0 0 [.ref (62), .int (nw)] x_SH M J (qKV WTG M J (fun M2 => AbR hn M2 (tiF (hn, t, rub, bt, ph, st) nw D) ∧ M2 62 23 = (if w_due bt ph nw then pd + 1 else pd))) := by
  refine xb_of pX10 (Nat.le_of_ble_eq_true rfl) rfl ?_
  refine xr_aload_n dX10_tickGoes_0 0 rfl ?_
  refine xr_iload_n dX10_tickGoes_1 1 rfl ?_
  refine xb_cV (As := [.int (nw)]) (rest := []) mlX10_228 (cw_X10_isPush nw hbt e_bt e_ph) dX10_tickGoes_2 s_62 rfl rfl (Nat.le_of_ble_eq_true rfl) (by decide) (by decide) ?_
  refine xb_beq (tgt := 34) dX10_tickGoes_5 rfl (fun c1 => ?_) (fun c1 => ?_)
  · refine xr_aload_n dX10_tickGoes_34 0 rfl ?_
    refine xr_iload_n dX10_tickGoes_35 1 rfl ?_
    refine xr_callV (As := [.int (nw)]) (rest := []) mlX10_240 (gw_X10_turns nw (rub := rub) h_hn e_hn e_rub (show AbR hn _ (tkp (hn, t, rub, bt, ph, st) nw D) by rw [tkp_n c1]; exact hA) (WF_tkp (P := (hn, t, rub, bt, ph, st)) hW)) dX10_tickGoes_36 s_62 rfl rfl (Nat.le_of_ble_eq_true rfl) (by decide) ⟨by decide, by decide⟩ (fun v s2 M3 J2 hq => ?_)
    obtain ⟨rfl, rfl, rfl, k4, hx2⟩ := hq
    try dsimp only [Option.toList, List.cons_append, List.nil_append]
    exact xr_vret dX10_tickGoes_39 rfl (⟨rfl, rfl, rfl, (Ke.tr (fun pp kk h => (Or.inr (Or.inr (Or.inr (Or.inr (Or.inr (Or.inr (by omega)))))))) Ke.rf k4), ⟨hx2, ((Eq.trans (k4 62 23 (by decide)) e_pd)).trans (if_neg c1).symm⟩⟩)
  · refine xr_aload_n dX10_tickGoes_8 0 rfl ?_
    refine xr_aload_n dX10_tickGoes_9 0 rfl ?_
    refine xr_iload_n dX10_tickGoes_10 1 rfl ?_
    refine xb_cV (As := [.int (nw)]) (rest := [.ref (62)]) mlX10_231 (cw_X10_toOf nw hbt e_bt) dX10_tickGoes_11 s_62 rfl rfl (Nat.le_of_ble_eq_true rfl) (by decide) (by decide) ?_
    refine xr_aload_n dX10_tickGoes_14 0 rfl ?_
    refine xr_getR flX10_9 dX10_tickGoes_15 s_62 rfl ?_
    refine xr_bipush (v := 18) dX10_tickGoes_18 rfl ?_
    refine xb_iald (j := 18) (v := st) dX10_tickGoes_20 s_63 (by decide) (by decide) e_st ?_
    refine xr_callV (As := [.int ((w_go bt nw)), .int (st)]) (rest := []) mlX10_234 (gw_X10_pushes (w_go bt nw) st h_hn e_hn (LRt_k rfl rfl hL) hA hW) dX10_tickGoes_21 s_62 rfl rfl (Nat.le_of_ble_eq_true rfl) (by decide) ⟨by decide, by decide⟩ (fun v s2 M6 J2 hq => ?_)
    obtain ⟨rfl, rfl, rfl, k7, hx5⟩ := hq
    try dsimp only [Option.toList, List.cons_append, List.nil_append]
    refine xr_aload_n dX10_tickGoes_24 0 rfl ?_
    refine xr_dup dX10_tickGoes_25 rfl ?_
    refine xb_get (v := pd) flX10_237 dX10_tickGoes_26 s_62 rfl (Eq.trans (k7 62 23 (by decide)) e_pd) ?_
    refine xr_iconst (v := 1) dX10_tickGoes_29 rfl ?_
    refine xr_iadd dX10_tickGoes_30 ?_
    refine xr_putI fpX10_237 dX10_tickGoes_31 s_62 rfl rfl rfl ?_
    refine xr_aload_n dX10_tickGoes_34 0 rfl ?_
    refine xr_iload_n dX10_tickGoes_35 1 rfl ?_
    refine xr_callV (As := [.int (nw)]) (rest := []) mlX10_240 (gw_X10_turns nw (rub := rub) h_hn (Eq.trans (x_up_k _ _ _ (by decide)) (Eq.trans (k7 62 6 (by decide)) e_hn)) (Eq.trans (congrFun (x_up_n _ _ _ (by decide)) _) (Eq.trans (k7 63 15 (by decide)) e_rub)) (show AbR hn _ (tkp (hn, t, rub, bt, ph, st) nw D) by rw [tkp_p c1]; exact AbR_n hx5 (by decide)) (WF_tkp (P := (hn, t, rub, bt, ph, st)) hW)) dX10_tickGoes_36 s_62 rfl rfl (Nat.le_of_ble_eq_true rfl) (by decide) ⟨by decide, by decide⟩ (fun v s2 M9 J2 hq => ?_)
    obtain ⟨rfl, rfl, rfl, k10, hx8⟩ := hq
    try dsimp only [Option.toList, List.cons_append, List.nil_append]
    exact xr_vret dX10_tickGoes_39 rfl (⟨rfl, rfl, rfl, (Ke.tr (fun pp kk h => (Or.inr (Or.inr (Or.inr (Or.inr (Or.inr (Or.inr (by omega)))))))) (Ke.up (Or.inr (Or.inr (Or.inr (Or.inr (Or.inr (Or.inl (by omega))))))) (Ke.tr (fun pp kk => (fun hh => Or.elim hh (fun h => (Or.inl h)) (fun hh => Or.elim hh (fun h => (Or.inr (Or.inl h))) (fun hh => Or.elim hh (fun h => (Or.inr (Or.inr (Or.inl h)))) (fun hh => Or.elim hh (fun h => (Or.inr (Or.inr (Or.inr (Or.inl h))))) (fun hh => Or.elim hh (fun h => (Or.inr (Or.inr (Or.inr (Or.inr (Or.inl h)))))) (fun hh => Or.elim hh (fun h => (Or.inr (Or.inr (Or.inr (Or.inr (Or.inr (Or.inr (by omega)))))))) (fun h => (Or.inr (Or.inr (Or.inr (Or.inr (Or.inr (Or.inr (by omega))))))))))))))) Ke.rf k7)) k10), ⟨hx8, ((Eq.trans (k10 62 23 (by decide)) (x_up_s _ _ _ _))).trans (if_pos c1).symm⟩⟩)
