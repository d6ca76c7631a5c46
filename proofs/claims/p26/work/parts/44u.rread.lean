/-- a byte as the reference has it -/
def rb (T : Nat → Int32) (E a : Nat) : Int32 := if a < E then T a else 0
theorem rb_c (T : Nat → Int32) (E a : Nat) : rb T E a = nb T E a ∨ rb T E a = 0 ∧ nb T E a = -1 := by
  unfold rb nb
  by_cases c : a < E
  · rw [if_pos c, if_pos c]; exact Or.inl rfl
  · rw [if_neg c, if_neg c]; exact Or.inr ⟨rfl, rfl⟩
theorem rb_i {T : Nat → Int32} {E a : Nat} {s : Int32} (hs : s ≠ 0) (h : rb T E a = s) : nb T E a = s := by
  rcases rb_c T E a with c | c
  · rw [← c]; exact h
  · exact absurd (h.symm.trans c.1) hs
theorem rb_n {T : Nat → Int32} {E a : Nat} {s : Int32} (hs : s ≠ -1) (h : ¬ rb T E a = s) : ¬ nb T E a = s := fun q => by
  rcases rb_c T E a with c | c
  · exact h (c.trans q)
  · exact hs (q.symm.trans c.2)
/-- the fault's cell -/
def ftv (ok : Bool) (a : Nat) : Int32 := if ok = true then -1 else nI a
theorem ftv_ok {ok : Bool} {a : Nat} (ha : a ≤ 120) (h : ftv ok a < 0) : ok = true := by
  cases ok
  · exact absurd h (by show ¬ nI a < 0; exact nI_nlt (a := a) (b := 0) (by omega) (by omega))
  · rfl
theorem ftv_1 {ok : Bool} {a : Nat} (h : ok = true) : ftv ok a = -1 := if_pos h
theorem ftv_w {ok : Bool} {a : Nat} (ha : a ≤ 120) : (if ftv ok a < 0 then nI a else ftv ok a) = nI a := by
  cases ok
  · exact if_neg (nI_nlt (a := a) (b := 0) (by omega) (by omega))
  · rfl
/-- what a level leaves -/
def PRv (M2 : xM) (T N : Nat → Int32) (E lv o a : Nat) (r : Int32) : Prop := ∃ (f a2 : Nat) (ok : Bool) (cd : zC), pz T E f false lv o a true [] = some (a2, ok, cd) ∧ M2 62 15 = nI a2 ∧ M2 62 17 = ftv ok a2 ∧ (ok = true → M2 62 18 = nI o ∧ r = valF N cd)
def LSv (f : xF) (d lv u : Nat) : Prop := ∀ (l : Launch) (G : xG) (M : xM) (J : xJ) (bs : Int32) (T N : Nat → Int32) (a E o : Nat), (bs = -1 ∧ M 69 = T ∨ bs = 0 ∧ M 70 = T) → M 71 = N → M 62 14 = bs → a ≤ E → E ≤ 120 → M 62 15 = nI a → M 62 16 = nI E → o + u = 6 → M 62 18 = nI o → M 62 17 = -1 → x_M l G f d 0 0 [.ref 62] x_SH M J (qKI WPR M J (fun r M2 => PRv M2 T N E lv o a r))
set_option maxRecDepth 100000 in
set_option maxHeartbeats 4000000 in
theorem c_X10_byteAt {bs : Int32} {T : Nat → Int32} {a E : Nat} {l : Launch} {G : xG} {M : xM} {J : xJ} (hT : bs = -1 ∧ M 69 = T ∨ bs = 0 ∧ M 70 = T) (e_bs : M 62 14 = bs) (h_a : a ≤ 120) (h_E : E ≤ 120) (e_a : M 62 15 = nI a) (e_E : M 62 16 = nI E) : x_M l G fX10_byteAt 0 0 0 [.ref 62] x_SH M J (qE (some (.int (rb T E a))) x_SH M J) := by
  have hbs := hT.imp And.left And.left
  refine xb_of pX10 (Nat.le_of_ble_eq_true rfl) rfl ?_
  refine xr_aload_n dX10_byteAt_0 0 rfl ?_
  refine xb_get (v := nI (a)) flX10_165 dX10_byteAt_1 s_62 rfl e_a ?_
  refine xr_aload_n dX10_byteAt_4 0 rfl ?_
  refine xb_get (v := nI (E)) flX10_168 dX10_byteAt_5 s_62 rfl e_E ?_
  refine xr_icmp_ge (tgt := 47) dX10_byteAt_8 rfl (fun c1 => ?_) (fun c1 => ?_)
  · have nc1 : E ≤ a := (nI_leI (a := E) (b := a) (by omega) (by omega)).mp c1
    refine xr_iconst (v := 0) dX10_byteAt_47 rfl ?_
    exact xr_iret dX10_byteAt_48 rfl rfl (⟨congrArg (fun z => some (Value.int z)) ((if_neg (by omega)).symm), rfl, rfl, rfl⟩)
  · have nc1 : ¬ (E ≤ a) := fun q => c1 ((nI_leI (a := E) (b := a) (by omega) (by omega)).mpr q)
    have haE : a < E := by omega
    refine xr_aload_n dX10_byteAt_11 0 rfl ?_
    refine xb_get (v := bs) flX10_171 dX10_byteAt_12 s_62 rfl e_bs ?_
    refine xr_if_ge (tgt := 30) dX10_byteAt_15 rfl (fun c2 => ?_) (fun c2 => ?_)
    · obtain rfl : bs = 0 := by
        rcases hbs with h | h
        · subst h; exact absurd c2 (by decide)
        · exact h
      refine xr_aload_n dX10_byteAt_30 0 rfl ?_
      refine xr_getR flX10_31 dX10_byteAt_31 s_62 rfl ?_
      refine xr_aload_n dX10_byteAt_34 0 rfl ?_
      refine xb_get (v := 0) flX10_171 dX10_byteAt_35 s_62 rfl e_bs ?_
      refine xr_aload_n dX10_byteAt_38 0 rfl ?_
      refine xb_get (v := nI (a)) flX10_165 dX10_byteAt_39 s_62 rfl e_a ?_
      refine xr_iadd dX10_byteAt_42 ?_
      refine xb_top (y := nI (0 + a)) (nI_add (0) (a)) ?_
      refine xb_top (y := nI a) (congrArg nI (Nat.zero_add a)) ?_
      refine xb_iald (j := a) (v := M 70 a) dX10_byteAt_43 s_70 (by omega) (by decide) rfl ?_
      refine xr_goto (tgt := 48) dX10_byteAt_44 rfl ?_
      exact xr_iret dX10_byteAt_48 rfl rfl (⟨congrArg (fun z => some (Value.int z)) (hT.elim (fun h => absurd h.1 (by decide)) (fun h => (congrFun h.2 a).trans (if_pos haE).symm)), rfl, rfl, rfl⟩)
    · refine xr_aload_n dX10_byteAt_18 0 rfl ?_
      refine xr_getR flX10_28 dX10_byteAt_19 s_62 rfl ?_
      refine xr_aload_n dX10_byteAt_22 0 rfl ?_
      refine xb_get (v := nI (a)) flX10_165 dX10_byteAt_23 s_62 rfl e_a ?_
      refine xb_iald (j := a) (v := M 69 a) dX10_byteAt_26 s_69 (by omega) (by decide) rfl ?_
      refine xr_goto (tgt := 48) dX10_byteAt_27 rfl ?_
      exact xr_iret dX10_byteAt_48 rfl rfl (⟨congrArg (fun z => some (Value.int z)) (hT.elim (fun h => (congrFun h.2 a).trans (if_pos haE).symm) (fun h => absurd c2 (by rw [h.1]; decide))), rfl, rfl, rfl⟩)
set_option maxRecDepth 100000 in
set_option maxHeartbeats 4000000 in
theorem gs_X10_wrong {ft : Int32} {l : Launch} {G : xG} {M : xM} {J : xJ} (e_ft : M 62 17 = ft) {a : Nat} (h_a : a ≤ 120) (e_a : M 62 15 = nI a) : x_M l G fX10_wrong 0 0 0 [.ref (62)] x_SH M J (qKI WPF M J (fun r M2 => r = 0 ∧ M2 62 17 = (if ft < 0 then nI a else ft))) := by
  refine xb_of pX10 (Nat.le_of_ble_eq_true rfl) rfl ?_
  refine xr_aload_n dX10_wrong_0 0 rfl ?_
  refine xr_aload_n dX10_wrong_1 0 rfl ?_
  refine xb_get (v := ft) flX10_174 dX10_wrong_2 s_62 rfl e_ft ?_
  refine xr_if_ge (tgt := 15) dX10_wrong_5 rfl (fun c1 => ?_) (fun c1 => ?_)
  · refine xr_aload_n dX10_wrong_15 0 rfl ?_
    refine xb_get (v := ft) flX10_174 dX10_wrong_16 s_62 rfl e_ft ?_
    refine xr_putI fpX10_174 dX10_wrong_19 s_62 rfl rfl rfl ?_
    refine xr_iconst (v := 0) dX10_wrong_22 rfl ?_
    exact xr_iret dX10_wrong_23 rfl rfl (⟨_, rfl, rfl, rfl, (Ke.up (by omega) Ke.rf), ⟨rfl, ((x_up_s _ _ _ _)).trans (show ft = (if ft < 0 then nI a else ft) by grind)⟩⟩)
  · refine xr_aload_n dX10_wrong_8 0 rfl ?_
    refine xb_get (v := nI (a)) flX10_165 dX10_wrong_9 s_62 rfl e_a ?_
    refine xr_goto (tgt := 19) dX10_wrong_12 rfl ?_
    refine xr_putI fpX10_174 dX10_wrong_19 s_62 rfl rfl rfl ?_
    refine xr_iconst (v := 0) dX10_wrong_22 rfl ?_
    exact xr_iret dX10_wrong_23 rfl rfl (⟨_, rfl, rfl, rfl, (Ke.up (by omega) Ke.rf), ⟨rfl, ((x_up_s _ _ _ _)).trans (show nI (a) = (if ft < 0 then nI a else ft) by grind)⟩⟩)
set_option maxRecDepth 100000 in
set_option maxHeartbeats 4000000 in
theorem gs_X10_takes {si : Int32} (hs0 : si ≠ 0) (hs1 : si ≠ -1) {bs ft : Int32} {T : Nat → Int32} {a E : Nat} {l : Launch} {G : xG} {M : xM} {J : xJ} (hT : bs = -1 ∧ M 69 = T ∨ bs = 0 ∧ M 70 = T) (e_bs : M 62 14 = bs) (ha : a ≤ 120) (hE : E ≤ 120) (e_a : M 62 15 = nI a) (e_E : M 62 16 = nI E) (e_ft : M 62 17 = ft) : x_M l G fX10_takes 1 0 0 [.ref (62), .int (si)] x_SH M J (qKI WPA M J (fun r M2 => r = 1 ∧ (ft < 0 ∧ nb T E a = si) ∧ M2 62 15 = nI (a + 1) ∨ r = 0 ∧ ¬ (ft < 0 ∧ nb T E a = si) ∧ M2 62 15 = nI a)) := by
  refine xb_of pX10 (Nat.le_of_ble_eq_true rfl) rfl ?_
  refine xr_aload_n dX10_takes_0 0 rfl ?_
  refine xb_get (v := ft) flX10_174 dX10_takes_1 s_62 rfl e_ft ?_
  refine xr_if_ge (tgt := 15) dX10_takes_4 rfl (fun c1 => ?_) (fun c1 => ?_)
  · refine xr_iconst (v := 0) dX10_takes_15 rfl ?_
    exact xr_iret dX10_takes_16 rfl rfl (⟨_, rfl, rfl, rfl, Ke.rf, (Or.inr ⟨rfl, fun q => by have q1 := q.1; grind, e_a⟩)⟩)
  · refine xr_aload_n dX10_takes_7 0 rfl ?_
    refine xb_cV (As := []) (rest := []) mlX10_177 (c_X10_byteAt (T := T) (a := a) (E := E) (hT.imp (fun z => ⟨z.1, (rfl).trans z.2⟩) (fun z => ⟨z.1, (rfl).trans z.2⟩)) e_bs (by omega) (by omega) e_a e_E) dX10_takes_8 s_62 rfl rfl (Nat.le_of_ble_eq_true rfl) (by decide) (by decide) ?_
    refine xr_iload_n dX10_takes_11 1 rfl ?_
    refine xr_icmp_eq (tgt := 17) dX10_takes_12 rfl (fun c2 => ?_) (fun c2 => ?_)
    · refine xr_aload_n dX10_takes_17 0 rfl ?_
      refine xr_dup dX10_takes_18 rfl ?_
      refine xb_get (v := nI (a)) flX10_165 dX10_takes_19 s_62 rfl e_a ?_
      refine xr_iconst (v := 1) dX10_takes_22 rfl ?_
      refine xr_iadd dX10_takes_23 ?_
      refine xb_top (y := nI (a + 1)) (nI_add (a) (1)) ?_
      refine xr_putI fpX10_165 dX10_takes_24 s_62 rfl rfl rfl ?_
      refine xr_iconst (v := 1) dX10_takes_27 rfl ?_
      exact xr_iret dX10_takes_28 rfl rfl (⟨_, rfl, rfl, rfl, (Ke.up (by omega) Ke.rf), (Or.inl ⟨rfl, ⟨by grind, rb_i hs0 c2⟩, (x_up_s _ _ _ _)⟩)⟩)
    · refine xr_iconst (v := 0) dX10_takes_15 rfl ?_
      exact xr_iret dX10_takes_16 rfl rfl (⟨_, rfl, rfl, rfl, Ke.rf, (Or.inr ⟨rfl, fun q => rb_n hs1 c2 q.2, e_a⟩)⟩)
set_option maxRecDepth 100000 in
set_option maxHeartbeats 4000000 in
theorem c_X10_nameOf (v : Int32) {l : Launch} {G : xG} {sh : List xS} {M : xM} {J : xJ} : x_M l G fX10_nameOf 0 0 0 [.int (v)] sh M J (qE (some (.int (nameK v))) sh M J) := by
  refine xb_of pX10 (Nat.le_of_ble_eq_true rfl) rfl ?_
  refine xr_iload_n dX10_nameOf_0 0 rfl ?_
  refine xg_eq 102 (fun w1 => ?_) (fun w1 => ?_)
  · refine xr_tableIn (tgt := 104) dX10_nameOf_1 (by decide) (by decide) rfl rfl ?_
    refine xr_iconst (v := 4) dX10_nameOf_104 rfl ?_
    exact xr_iret dX10_nameOf_105 rfl rfl (⟨congrArg (fun z => some (Value.int z)) (by unfold nameK; grind), rfl, rfl, rfl⟩)
  refine xg_eq 103 (fun w2 => ?_) (fun w2 => ?_)
  · refine xr_tableIn (tgt := 108) dX10_nameOf_1 (by decide) (by decide) rfl rfl ?_
    refine xr_iconst (v := -1) dX10_nameOf_108 rfl ?_
    exact xr_iret dX10_nameOf_109 rfl rfl (⟨congrArg (fun z => some (Value.int z)) (by unfold nameK; grind), rfl, rfl, rfl⟩)
  refine xg_eq 104 (fun w3 => ?_) (fun w3 => ?_)
  · refine xr_tableIn (tgt := 102) dX10_nameOf_1 (by decide) (by decide) rfl rfl ?_
    refine xr_iconst (v := 3) dX10_nameOf_102 rfl ?_
    exact xr_iret dX10_nameOf_103 rfl rfl (⟨congrArg (fun z => some (Value.int z)) (by unfold nameK; grind), rfl, rfl, rfl⟩)
  refine xg_eq 105 (fun w4 => ?_) (fun w4 => ?_)
  · refine xr_tableIn (tgt := 108) dX10_nameOf_1 (by decide) (by decide) rfl rfl ?_
    refine xr_iconst (v := -1) dX10_nameOf_108 rfl ?_
    exact xr_iret dX10_nameOf_109 rfl rfl (⟨congrArg (fun z => some (Value.int z)) (by unfold nameK; grind), rfl, rfl, rfl⟩)
  refine xg_eq 106 (fun w5 => ?_) (fun w5 => ?_)
  · refine xr_tableIn (tgt := 108) dX10_nameOf_1 (by decide) (by decide) rfl rfl ?_
    refine xr_iconst (v := -1) dX10_nameOf_108 rfl ?_
    exact xr_iret dX10_nameOf_109 rfl rfl (⟨congrArg (fun z => some (Value.int z)) (by unfold nameK; grind), rfl, rfl, rfl⟩)
  refine xg_eq 107 (fun w6 => ?_) (fun w6 => ?_)
  · refine xr_tableIn (tgt := 108) dX10_nameOf_1 (by decide) (by decide) rfl rfl ?_
    refine xr_iconst (v := -1) dX10_nameOf_108 rfl ?_
    exact xr_iret dX10_nameOf_109 rfl rfl (⟨congrArg (fun z => some (Value.int z)) (by unfold nameK; grind), rfl, rfl, rfl⟩)
  refine xg_eq 108 (fun w7 => ?_) (fun w7 => ?_)
  · refine xr_tableIn (tgt := 108) dX10_nameOf_1 (by decide) (by decide) rfl rfl ?_
    refine xr_iconst (v := -1) dX10_nameOf_108 rfl ?_
    exact xr_iret dX10_nameOf_109 rfl rfl (⟨congrArg (fun z => some (Value.int z)) (by unfold nameK; grind), rfl, rfl, rfl⟩)
  refine xg_eq 109 (fun w8 => ?_) (fun w8 => ?_)
  · refine xr_tableIn (tgt := 108) dX10_nameOf_1 (by decide) (by decide) rfl rfl ?_
    refine xr_iconst (v := -1) dX10_nameOf_108 rfl ?_
    exact xr_iret dX10_nameOf_109 rfl rfl (⟨congrArg (fun z => some (Value.int z)) (by unfold nameK; grind), rfl, rfl, rfl⟩)
  refine xg_eq 110 (fun w9 => ?_) (fun w9 => ?_)
  · refine xr_tableIn (tgt := 96) dX10_nameOf_1 (by decide) (by decide) rfl rfl ?_
    refine xr_iconst (v := 0) dX10_nameOf_96 rfl ?_
    exact xr_iret dX10_nameOf_97 rfl rfl (⟨congrArg (fun z => some (Value.int z)) (by unfold nameK; grind), rfl, rfl, rfl⟩)
  refine xg_eq 111 (fun w10 => ?_) (fun w10 => ?_)
  · refine xr_tableIn (tgt := 108) dX10_nameOf_1 (by decide) (by decide) rfl rfl ?_
    refine xr_iconst (v := -1) dX10_nameOf_108 rfl ?_
    exact xr_iret dX10_nameOf_109 rfl rfl (⟨congrArg (fun z => some (Value.int z)) (by unfold nameK; grind), rfl, rfl, rfl⟩)
  refine xg_eq 112 (fun w11 => ?_) (fun w11 => ?_)
  · refine xr_tableIn (tgt := 108) dX10_nameOf_1 (by decide) (by decide) rfl rfl ?_
    refine xr_iconst (v := -1) dX10_nameOf_108 rfl ?_
    exact xr_iret dX10_nameOf_109 rfl rfl (⟨congrArg (fun z => some (Value.int z)) (by unfold nameK; grind), rfl, rfl, rfl⟩)
  refine xg_eq 113 (fun w12 => ?_) (fun w12 => ?_)
  · refine xr_tableIn (tgt := 108) dX10_nameOf_1 (by decide) (by decide) rfl rfl ?_
    refine xr_iconst (v := -1) dX10_nameOf_108 rfl ?_
    exact xr_iret dX10_nameOf_109 rfl rfl (⟨congrArg (fun z => some (Value.int z)) (by unfold nameK; grind), rfl, rfl, rfl⟩)
  refine xg_eq 114 (fun w13 => ?_) (fun w13 => ?_)
  · refine xr_tableIn (tgt := 108) dX10_nameOf_1 (by decide) (by decide) rfl rfl ?_
    refine xr_iconst (v := -1) dX10_nameOf_108 rfl ?_
    exact xr_iret dX10_nameOf_109 rfl rfl (⟨congrArg (fun z => some (Value.int z)) (by unfold nameK; grind), rfl, rfl, rfl⟩)
  refine xg_eq 115 (fun w14 => ?_) (fun w14 => ?_)
  · refine xr_tableIn (tgt := 100) dX10_nameOf_1 (by decide) (by decide) rfl rfl ?_
    refine xr_iconst (v := 2) dX10_nameOf_100 rfl ?_
    exact xr_iret dX10_nameOf_101 rfl rfl (⟨congrArg (fun z => some (Value.int z)) (by unfold nameK; grind), rfl, rfl, rfl⟩)
  refine xg_eq 116 (fun w15 => ?_) (fun w15 => ?_)
  · refine xr_tableIn (tgt := 108) dX10_nameOf_1 (by decide) (by decide) rfl rfl ?_
    refine xr_iconst (v := -1) dX10_nameOf_108 rfl ?_
    exact xr_iret dX10_nameOf_109 rfl rfl (⟨congrArg (fun z => some (Value.int z)) (by unfold nameK; grind), rfl, rfl, rfl⟩)
  refine xg_eq 117 (fun w16 => ?_) (fun w16 => ?_)
  · refine xr_tableIn (tgt := 108) dX10_nameOf_1 (by decide) (by decide) rfl rfl ?_
    refine xr_iconst (v := -1) dX10_nameOf_108 rfl ?_
    exact xr_iret dX10_nameOf_109 rfl rfl (⟨congrArg (fun z => some (Value.int z)) (by unfold nameK; grind), rfl, rfl, rfl⟩)
  refine xg_eq 118 (fun w17 => ?_) (fun w17 => ?_)
  · refine xr_tableIn (tgt := 98) dX10_nameOf_1 (by decide) (by decide) rfl rfl ?_
    refine xr_iconst (v := 1) dX10_nameOf_98 rfl ?_
    exact xr_iret dX10_nameOf_99 rfl rfl (⟨congrArg (fun z => some (Value.int z)) (by unfold nameK; grind), rfl, rfl, rfl⟩)
  refine xg_eq 119 (fun w18 => ?_) (fun w18 => ?_)
  · refine xr_tableIn (tgt := 108) dX10_nameOf_1 (by decide) (by decide) rfl rfl ?_
    refine xr_iconst (v := -1) dX10_nameOf_108 rfl ?_
    exact xr_iret dX10_nameOf_109 rfl rfl (⟨congrArg (fun z => some (Value.int z)) (by unfold nameK; grind), rfl, rfl, rfl⟩)
  refine xg_eq 120 (fun w19 => ?_) (fun w19 => ?_)
  · refine xr_tableIn (tgt := 108) dX10_nameOf_1 (by decide) (by decide) rfl rfl ?_
    refine xr_iconst (v := -1) dX10_nameOf_108 rfl ?_
    exact xr_iret dX10_nameOf_109 rfl rfl (⟨congrArg (fun z => some (Value.int z)) (by unfold nameK; grind), rfl, rfl, rfl⟩)
  refine xg_eq 121 (fun w20 => ?_) (fun w20 => ?_)
  · refine xr_tableIn (tgt := 106) dX10_nameOf_1 (by decide) (by decide) rfl rfl ?_
    refine xr_iconst (v := 5) dX10_nameOf_106 rfl ?_
    exact xr_iret dX10_nameOf_107 rfl rfl (⟨congrArg (fun z => some (Value.int z)) (by unfold nameK; grind), rfl, rfl, rfl⟩)
  refine xr_tableOut (tgt := 108) dX10_nameOf_1 (xg_out (lo := 102) (hi := 121) (by decide) (fun j h1 h2 qq => by have h3 : j = 102 ∨ j = 103 ∨ j = 104 ∨ j = 105 ∨ j = 106 ∨ j = 107 ∨ j = 108 ∨ j = 109 ∨ j = 110 ∨ j = 111 ∨ j = 112 ∨ j = 113 ∨ j = 114 ∨ j = 115 ∨ j = 116 ∨ j = 117 ∨ j = 118 ∨ j = 119 ∨ j = 120 ∨ j = 121 := (by omega); rcases h3 with rfl | rfl | rfl | rfl | rfl | rfl | rfl | rfl | rfl | rfl | rfl | rfl | rfl | rfl | rfl | rfl | rfl | rfl | rfl | rfl <;> first | exact absurd qq w1 | exact absurd qq w2 | exact absurd qq w3 | exact absurd qq w4 | exact absurd qq w5 | exact absurd qq w6 | exact absurd qq w7 | exact absurd qq w8 | exact absurd qq w9 | exact absurd qq w10 | exact absurd qq w11 | exact absurd qq w12 | exact absurd qq w13 | exact absurd qq w14 | exact absurd qq w15 | exact absurd qq w16 | exact absurd qq w17 | exact absurd qq w18 | exact absurd qq w19 | exact absurd qq w20)) rfl ?_
  refine xr_iconst (v := -1) dX10_nameOf_108 rfl ?_
  exact xr_iret dX10_nameOf_109 rfl rfl (⟨congrArg (fun z => some (Value.int z)) (by unfold nameK; grind), rfl, rfl, rfl⟩)
theorem jn_42 {a b : Int32} : jn 42 a b = a * b := rfl
theorem jn_43 {a b : Int32} : jn 43 a b = a + b := rfl
theorem jn_45 {a b : Int32} : jn 45 a b = a - b := rfl
theorem jn_60 {a b : Int32} : jn 60 a b = (if a < b then 1 else 0) := rfl
theorem jn_61 {a b : Int32} : jn 61 a b = (if a = b then 1 else 0) := rfl
theorem jn_62 {a b : Int32} : jn 62 a b = (if b < a then 1 else 0) := rfl
theorem jn_38 {a b : Int32} : jn 38 a b = (if a ≠ 0 ∧ b ≠ 0 then 1 else 0) := rfl
theorem jn_124 {a b : Int32} : jn 124 a b = (if a ≠ 0 ∨ b ≠ 0 then 1 else 0) := rfl
theorem jn_0 {g a : Int32} (h : g = 47 ∨ g = 37) : jn g a 0 = 0 := by rcases h with rfl | rfl <;> rfl
theorem jn_47 {a b : Int32} (h : ¬ b = 0) : jn 47 a b = a / b := (show jn 47 a b = if b = 0 then 0 else a / b from rfl).trans (if_neg h)
theorem jn_37 {a b : Int32} (h : ¬ b = 0) : jn 37 a b = a - a / b * b := (show jn 37 a b = if b = 0 then 0 else a - a / b * b from rfl).trans (if_neg h)
set_option maxRecDepth 100000 in
set_option maxHeartbeats 4000000 in
theorem ls_product {u : Nat} (hs  : LSv fX10_one (8 * u + 3) 5 u) {l : Launch} {G : xG} {M : xM} {J : xJ} {bs : Int32} {T N : Nat → Int32} {a E o : Nat} (hT : bs = -1 ∧ M 69 = T ∨ bs = 0 ∧ M 70 = T) (hNm : M 71 = N) (e_bs : M 62 14 = bs) (haE : a ≤ E) (hE : E ≤ 120) (e_E : M 62 16 = nI E) (ho : o + u = 6) : ∀ (m a1 : Nat) (ok1 : Bool) (cd1 : zC) (v : Int32) (M1 : xM), E < a1 + m + 1 → a1 ≤ E → Ke WPR M M1 → M1 62 15 = nI a1 → M1 62 17 = ftv ok1 a1 → (ok1 = true → M1 62 18 = nI o ∧ v = valF N cd1 ∧ gv1 N cd1) → CGo T E 4 o a a1 ok1 cd1 → x_X l G fX10_product (8 * u + 4) 0 0 (qKI WPR M J (fun r M2 => PRv M2 T N E 4 o a r)) 10 [(2, .int ((rb T E a1))), (1, .int (v)), (0, .ref (62))] [] x_SH M1 J 0 0 := by
  intro m
  induction m with
  | zero =>
    intro a1 ok1 cd1 v M1 hm h2 hM e_a1 e_f1 hk hgo
    refine xr_aload_n dX10_product_10 2 rfl ?_
    refine xb_get (v := (ftv ok1 a1)) flX10_174 dX10_product_11 s_62 rfl e_f1 ?_
    refine xr_if_ge (tgt := 94) dX10_product_14 rfl (fun c1 => ?_) (fun c1 => ?_)
    · refine xr_iload_n dX10_product_94 1 rfl ?_
      exact xr_iret dX10_product_95 rfl rfl ((by obtain ⟨f2, hf2⟩ := CGo_end hgo (fun z => by have z2 := of_decide_eq_true (p := nb T E a1 = 42 ∨ nb T E a1 = 47 ∨ nb T E a1 = 37) z.2; have z1 := ftv_1 (a := a1) z.1; have rbc_ := rb_c T E a1; grind); exact ⟨_, rfl, rfl, rfl, hM, f2, a1, ok1, cd1, hf2, e_a1, e_f1, fun q => ⟨(hk q).1, (hk q).2.1⟩⟩))
    · refine xr_iload_n dX10_product_17 0 rfl ?_
      refine xr_bipush (v := 42) dX10_product_18 rfl ?_
      refine xr_icmp_eq (tgt := 35) dX10_product_20 rfl (fun c2 => ?_) (fun c2 => ?_)
      · have hok : ok1 = true := ftv_ok (a := a1) (by omega) (by grind)
        have hj : isJ 4 (nb T E a1) = true := (decide_eq_true (show nb T E a1 = 42 ∨ nb T E a1 = 47 ∨ nb T E a1 = 37 by have rbc_ := rb_c T E a1; grind))
        have hl : a1 < E := nb_lt (T := T) (isJ_ne hj).1
        exact absurd hm (by omega)
      · refine xr_iload_n dX10_product_23 0 rfl ?_
        refine xr_bipush (v := 47) dX10_product_24 rfl ?_
        refine xr_icmp_eq (tgt := 35) dX10_product_26 rfl (fun c3 => ?_) (fun c3 => ?_)
        · have hok : ok1 = true := ftv_ok (a := a1) (by omega) (by grind)
          have hj : isJ 4 (nb T E a1) = true := (decide_eq_true (show nb T E a1 = 42 ∨ nb T E a1 = 47 ∨ nb T E a1 = 37 by have rbc_ := rb_c T E a1; grind))
          have hl : a1 < E := nb_lt (T := T) (isJ_ne hj).1
          exact absurd hm (by omega)
        · refine xr_iload_n dX10_product_29 0 rfl ?_
          refine xr_bipush (v := 37) dX10_product_30 rfl ?_
          refine xr_icmp_ne (tgt := 94) dX10_product_32 rfl (fun c4 => ?_) (fun c4 => ?_)
          · refine xr_iload_n dX10_product_94 1 rfl ?_
            exact xr_iret dX10_product_95 rfl rfl ((by obtain ⟨f2, hf2⟩ := CGo_end hgo (fun z => by have z2 := of_decide_eq_true (p := nb T E a1 = 42 ∨ nb T E a1 = 47 ∨ nb T E a1 = 37) z.2; have z1 := ftv_1 (a := a1) z.1; have rbc_ := rb_c T E a1; grind); exact ⟨_, rfl, rfl, rfl, hM, f2, a1, ok1, cd1, hf2, e_a1, e_f1, fun q => ⟨(hk q).1, (hk q).2.1⟩⟩))
          · have hok : ok1 = true := ftv_ok (a := a1) (by omega) (by grind)
            have hj : isJ 4 (nb T E a1) = true := (decide_eq_true (show nb T E a1 = 42 ∨ nb T E a1 = 47 ∨ nb T E a1 = 37 by have rbc_ := rb_c T E a1; grind))
            have hl : a1 < E := nb_lt (T := T) (isJ_ne hj).1
            exact absurd hm (by omega)
  | succ m ih =>
    intro a1 ok1 cd1 v M1 hm h2 hM e_a1 e_f1 hk hgo
    refine xr_aload_n dX10_product_10 2 rfl ?_
    refine xb_get (v := (ftv ok1 a1)) flX10_174 dX10_product_11 s_62 rfl e_f1 ?_
    refine xr_if_ge (tgt := 94) dX10_product_14 rfl (fun c1 => ?_) (fun c1 => ?_)
    · refine xr_iload_n dX10_product_94 1 rfl ?_
      exact xr_iret dX10_product_95 rfl rfl ((by obtain ⟨f2, hf2⟩ := CGo_end hgo (fun z => by have z2 := of_decide_eq_true (p := nb T E a1 = 42 ∨ nb T E a1 = 47 ∨ nb T E a1 = 37) z.2; have z1 := ftv_1 (a := a1) z.1; have rbc_ := rb_c T E a1; grind); exact ⟨_, rfl, rfl, rfl, hM, f2, a1, ok1, cd1, hf2, e_a1, e_f1, fun q => ⟨(hk q).1, (hk q).2.1⟩⟩))
    · refine xr_iload_n dX10_product_17 0 rfl ?_
      refine xr_bipush (v := 42) dX10_product_18 rfl ?_
      refine xr_icmp_eq (tgt := 35) dX10_product_20 rfl (fun c2 => ?_) (fun c2 => ?_)
      · have hok : ok1 = true := ftv_ok (a := a1) (by omega) (by grind)
        have hj : isJ 4 (nb T E a1) = true := (decide_eq_true (show nb T E a1 = 42 ∨ nb T E a1 = 47 ∨ nb T E a1 = 37 by have rbc_ := rb_c T E a1; grind))
        have hl : a1 < E := nb_lt (T := T) (isJ_ne hj).1
        refine xr_aload_n dX10_product_35 2 rfl ?_
        refine xr_dup dX10_product_36 rfl ?_
        refine xb_get (v := nI (a1)) flX10_165 dX10_product_37 s_62 rfl e_a1 ?_
        refine xr_iconst (v := 1) dX10_product_40 rfl ?_
        refine xr_iadd dX10_product_41 ?_
        refine xb_top (y := nI (a1 + 1)) (nI_add (a1) (1)) ?_
        refine xr_putI fpX10_165 dX10_product_42 s_62 rfl rfl rfl ?_
        refine xr_aload_n dX10_product_45 2 rfl ?_
        refine xr_callV (As := []) (rest := []) mlX10_196 (hs l G (x_up M1 62 15 (nI (a1 + 1))) J bs T N (a1 + 1) E o (hT.imp (fun z => ⟨z.1, ((Eq.trans (x_up_n _ _ _ (by decide)) (Eq.trans (funext fun kk => hM 69 kk (by unfold WPR; omega)) rfl))).trans z.2⟩) (fun z => ⟨z.1, ((Eq.trans (x_up_n _ _ _ (by decide)) (Eq.trans (funext fun kk => hM 70 kk (by unfold WPR; omega)) rfl))).trans z.2⟩)) (((Eq.trans (x_up_n _ _ _ (by decide)) (Eq.trans (funext fun kk => hM 71 kk (by unfold WPR; omega)) rfl))).trans hNm) (Eq.trans (x_up_k _ _ _ (by decide)) (Eq.trans (hM 62 14 (by decide)) e_bs)) (by omega) hE (x_up_s _ _ _ _) (Eq.trans (x_up_k _ _ _ (by decide)) (Eq.trans (hM 62 16 (by decide)) e_E)) (by omega) (Eq.trans (x_up_k _ _ _ (by decide)) (hk hok).1) (Eq.trans (x_up_k _ _ _ (by decide)) (e_f1.trans (ftv_1 hok)))) dX10_product_46 s_62 rfl rfl (Nat.le_of_ble_eq_true rfl) (by omega) ⟨by decide, by decide⟩ (fun v s2 M11 J2 hq => ?_)
        obtain ⟨r13, rfl, rfl, rfl, k12, ⟨f3, a2_4, ok5, cd6, hp7, ea8, ef9, eo10⟩⟩ := hq
        try dsimp only [Option.toList, List.cons_append, List.nil_append]
        have hp7b := pz_b _ _ _ _ _ _ _ _ hp7 (by omega)
        obtain ⟨hp7x, hp7y, -⟩ := hp7b
        replace hp7x : (a1 + 1) ≤ a2_4 := hp7x
        replace hp7y : a2_4 ≤ E := hp7y
        refine xr_istore_n (ls2 := [(3, .int (r13)), (2, .int ((rb T E a1))), (1, .int (v)), (0, .ref (62))]) dX10_product_49 (by decide) rfl ?_
        refine xr_iload_n dX10_product_50 1 rfl ?_
        refine xr_bipush (v := 42) dX10_product_51 rfl ?_
        refine xr_icmp_ne (tgt := 62) dX10_product_53 rfl (fun c14 => ?_) (fun c14 => ?_)
        · refine xr_iload_n dX10_product_62 0 rfl ?_
          refine xr_if_ne (tgt := 70) dX10_product_63 rfl (fun c15 => ?_) (fun c15 => ?_)
          · refine xr_iload_n dX10_product_70 1 rfl ?_
            refine xr_bipush (v := 47) dX10_product_71 rfl ?_
            refine xr_icmp_ne (tgt := 82) dX10_product_73 rfl (fun c16 => ?_) (fun c16 => ?_)
            · refine xr_iload_n dX10_product_82 2 rfl ?_
              refine xr_iload_n dX10_product_83 0 rfl ?_
              refine xr_irem dX10_product_84 c15 ?_
              refine xr_istore_n (ls2 := [(1, .int ((v - v / r13 * r13))), (3, .int (r13)), (2, .int ((rb T E a1))), (0, .ref (62))]) dX10_product_85 (by decide) rfl ?_
              refine xr_aload_n dX10_product_86 3 rfl ?_
              refine xb_cV (As := []) (rest := []) mlX10_177 (c_X10_byteAt (T := T) (a := a2_4) (E := E) (hT.imp (fun z => ⟨z.1, ((Eq.trans (funext fun kk => k12 69 kk (by unfold WPR; omega)) (Eq.trans (x_up_n _ _ _ (by decide)) (Eq.trans (funext fun kk => hM 69 kk (by unfold WPR; omega)) rfl)))).trans z.2⟩) (fun z => ⟨z.1, ((Eq.trans (funext fun kk => k12 70 kk (by unfold WPR; omega)) (Eq.trans (x_up_n _ _ _ (by decide)) (Eq.trans (funext fun kk => hM 70 kk (by unfold WPR; omega)) rfl)))).trans z.2⟩)) (Eq.trans (k12 62 14 (by decide)) (Eq.trans (x_up_k _ _ _ (by decide)) (Eq.trans (hM 62 14 (by decide)) e_bs))) (by omega) (by omega) ea8 (Eq.trans (k12 62 16 (by decide)) (Eq.trans (x_up_k _ _ _ (by decide)) (Eq.trans (hM 62 16 (by decide)) e_E)))) dX10_product_87 s_62 rfl rfl (Nat.le_of_ble_eq_true rfl) (by omega) (by decide) ?_
              refine xr_istore_n (ls2 := [(2, .int ((rb T E a2_4))), (1, .int ((v - v / r13 * r13))), (3, .int (r13)), (0, .ref (62))]) dX10_product_90 (by decide) rfl ?_
              refine xr_goto (tgt := 10) dX10_product_91 rfl ?_
              refine xb_ls (ls2 := [(2, .int ((rb T E a2_4))), (1, .int ((v - v / r13 * r13))), (0, .ref (62))]) [0, 1, 3] rfl ?_
              exact ih a2_4 ok5 (cd1 ++ cd6 ++ [(nb T E a1, 0)]) (v - v / r13 * r13) M11 (by omega) (by omega) (Ke.tr (fun _ _ h => h) (Ke.up (Or.inl (by omega)) hM) k12) ea8 ef9 (fun qk => ⟨(eo10 qk).1, (by rw [(gv_join (hk hok).2.2 (pz_gv N _ _ _ _ _ _ _ _ hp7 (fun z => absurd z (by decide)) qk) ⟨(isJ_ne hj).2.1, (isJ_ne hj).2.2.1, (isJ_ne hj).2.2.2.1, (isJ_ne hj).2.2.2.2.1⟩).2, ← (hk hok).2.1, ← (eo10 qk).2, show nb T E a1 = 37 by have rbc_ := rb_c T E a1; grind]; exact (jn_37 c15).symm), (gv_join (hk hok).2.2 (pz_gv N _ _ _ _ _ _ _ _ hp7 (fun z => absurd z (by decide)) qk) ⟨(isJ_ne hj).2.1, (isJ_ne hj).2.2.1, (isJ_ne hj).2.2.2.1, (isJ_ne hj).2.2.2.2.1⟩).1⟩) (CGo_s (by decide) hgo ⟨hok, hj⟩ hp7)
            · refine xr_iload_n dX10_product_76 2 rfl ?_
              refine xr_iload_n dX10_product_77 0 rfl ?_
              refine xr_idiv dX10_product_78 c15 ?_
              refine xr_goto (tgt := 85) dX10_product_79 rfl ?_
              refine xr_istore_n (ls2 := [(1, .int ((v / r13))), (3, .int (r13)), (2, .int ((rb T E a1))), (0, .ref (62))]) dX10_product_85 (by decide) rfl ?_
              refine xr_aload_n dX10_product_86 3 rfl ?_
              refine xb_cV (As := []) (rest := []) mlX10_177 (c_X10_byteAt (T := T) (a := a2_4) (E := E) (hT.imp (fun z => ⟨z.1, ((Eq.trans (funext fun kk => k12 69 kk (by unfold WPR; omega)) (Eq.trans (x_up_n _ _ _ (by decide)) (Eq.trans (funext fun kk => hM 69 kk (by unfold WPR; omega)) rfl)))).trans z.2⟩) (fun z => ⟨z.1, ((Eq.trans (funext fun kk => k12 70 kk (by unfold WPR; omega)) (Eq.trans (x_up_n _ _ _ (by decide)) (Eq.trans (funext fun kk => hM 70 kk (by unfold WPR; omega)) rfl)))).trans z.2⟩)) (Eq.trans (k12 62 14 (by decide)) (Eq.trans (x_up_k _ _ _ (by decide)) (Eq.trans (hM 62 14 (by decide)) e_bs))) (by omega) (by omega) ea8 (Eq.trans (k12 62 16 (by decide)) (Eq.trans (x_up_k _ _ _ (by decide)) (Eq.trans (hM 62 16 (by decide)) e_E)))) dX10_product_87 s_62 rfl rfl (Nat.le_of_ble_eq_true rfl) (by omega) (by decide) ?_
              refine xr_istore_n (ls2 := [(2, .int ((rb T E a2_4))), (1, .int ((v / r13))), (3, .int (r13)), (0, .ref (62))]) dX10_product_90 (by decide) rfl ?_
              refine xr_goto (tgt := 10) dX10_product_91 rfl ?_
              refine xb_ls (ls2 := [(2, .int ((rb T E a2_4))), (1, .int ((v / r13))), (0, .ref (62))]) [0, 1, 3] rfl ?_
              exact ih a2_4 ok5 (cd1 ++ cd6 ++ [(nb T E a1, 0)]) (v / r13) M11 (by omega) (by omega) (Ke.tr (fun _ _ h => h) (Ke.up (Or.inl (by omega)) hM) k12) ea8 ef9 (fun qk => ⟨(eo10 qk).1, (by rw [(gv_join (hk hok).2.2 (pz_gv N _ _ _ _ _ _ _ _ hp7 (fun z => absurd z (by decide)) qk) ⟨(isJ_ne hj).2.1, (isJ_ne hj).2.2.1, (isJ_ne hj).2.2.2.1, (isJ_ne hj).2.2.2.2.1⟩).2, ← (hk hok).2.1, ← (eo10 qk).2, show nb T E a1 = 47 by have rbc_ := rb_c T E a1; grind]; exact (jn_47 c15).symm), (gv_join (hk hok).2.2 (pz_gv N _ _ _ _ _ _ _ _ hp7 (fun z => absurd z (by decide)) qk) ⟨(isJ_ne hj).2.1, (isJ_ne hj).2.2.1, (isJ_ne hj).2.2.2.1, (isJ_ne hj).2.2.2.2.1⟩).1⟩) (CGo_s (by decide) hgo ⟨hok, hj⟩ hp7)
          · refine xr_iconst (v := 0) dX10_product_66 rfl ?_
            refine xr_goto (tgt := 85) dX10_product_67 rfl ?_
            refine xr_istore_n (ls2 := [(1, .int (0)), (3, .int (r13)), (2, .int ((rb T E a1))), (0, .ref (62))]) dX10_product_85 (by decide) rfl ?_
            refine xr_aload_n dX10_product_86 3 rfl ?_
            refine xb_cV (As := []) (rest := []) mlX10_177 (c_X10_byteAt (T := T) (a := a2_4) (E := E) (hT.imp (fun z => ⟨z.1, ((Eq.trans (funext fun kk => k12 69 kk (by unfold WPR; omega)) (Eq.trans (x_up_n _ _ _ (by decide)) (Eq.trans (funext fun kk => hM 69 kk (by unfold WPR; omega)) rfl)))).trans z.2⟩) (fun z => ⟨z.1, ((Eq.trans (funext fun kk => k12 70 kk (by unfold WPR; omega)) (Eq.trans (x_up_n _ _ _ (by decide)) (Eq.trans (funext fun kk => hM 70 kk (by unfold WPR; omega)) rfl)))).trans z.2⟩)) (Eq.trans (k12 62 14 (by decide)) (Eq.trans (x_up_k _ _ _ (by decide)) (Eq.trans (hM 62 14 (by decide)) e_bs))) (by omega) (by omega) ea8 (Eq.trans (k12 62 16 (by decide)) (Eq.trans (x_up_k _ _ _ (by decide)) (Eq.trans (hM 62 16 (by decide)) e_E)))) dX10_product_87 s_62 rfl rfl (Nat.le_of_ble_eq_true rfl) (by omega) (by decide) ?_
            refine xr_istore_n (ls2 := [(2, .int ((rb T E a2_4))), (1, .int (0)), (3, .int (r13)), (0, .ref (62))]) dX10_product_90 (by decide) rfl ?_
            refine xr_goto (tgt := 10) dX10_product_91 rfl ?_
            refine xb_ls (ls2 := [(2, .int ((rb T E a2_4))), (1, .int (0)), (0, .ref (62))]) [0, 1, 3] rfl ?_
            exact ih a2_4 ok5 (cd1 ++ cd6 ++ [(nb T E a1, 0)]) 0 M11 (by omega) (by omega) (Ke.tr (fun _ _ h => h) (Ke.up (Or.inl (by omega)) hM) k12) ea8 ef9 (fun qk => ⟨(eo10 qk).1, (by rw [(gv_join (hk hok).2.2 (pz_gv N _ _ _ _ _ _ _ _ hp7 (fun z => absurd z (by decide)) qk) ⟨(isJ_ne hj).2.1, (isJ_ne hj).2.2.1, (isJ_ne hj).2.2.2.1, (isJ_ne hj).2.2.2.2.1⟩).2, ← (eo10 qk).2, c15]; exact (jn_0 (by have rbc_ := rb_c T E a1; grind)).symm), (gv_join (hk hok).2.2 (pz_gv N _ _ _ _ _ _ _ _ hp7 (fun z => absurd z (by decide)) qk) ⟨(isJ_ne hj).2.1, (isJ_ne hj).2.2.1, (isJ_ne hj).2.2.2.1, (isJ_ne hj).2.2.2.2.1⟩).1⟩) (CGo_s (by decide) hgo ⟨hok, hj⟩ hp7)
        · refine xr_iload_n dX10_product_56 2 rfl ?_
          refine xr_iload_n dX10_product_57 0 rfl ?_
          refine xr_imul dX10_product_58 ?_
          refine xr_goto (tgt := 85) dX10_product_59 rfl ?_
          refine xr_istore_n (ls2 := [(1, .int ((v * r13))), (3, .int (r13)), (2, .int ((rb T E a1))), (0, .ref (62))]) dX10_product_85 (by decide) rfl ?_
          refine xr_aload_n dX10_product_86 3 rfl ?_
          refine xb_cV (As := []) (rest := []) mlX10_177 (c_X10_byteAt (T := T) (a := a2_4) (E := E) (hT.imp (fun z => ⟨z.1, ((Eq.trans (funext fun kk => k12 69 kk (by unfold WPR; omega)) (Eq.trans (x_up_n _ _ _ (by decide)) (Eq.trans (funext fun kk => hM 69 kk (by unfold WPR; omega)) rfl)))).trans z.2⟩) (fun z => ⟨z.1, ((Eq.trans (funext fun kk => k12 70 kk (by unfold WPR; omega)) (Eq.trans (x_up_n _ _ _ (by decide)) (Eq.trans (funext fun kk => hM 70 kk (by unfold WPR; omega)) rfl)))).trans z.2⟩)) (Eq.trans (k12 62 14 (by decide)) (Eq.trans (x_up_k _ _ _ (by decide)) (Eq.trans (hM 62 14 (by decide)) e_bs))) (by omega) (by omega) ea8 (Eq.trans (k12 62 16 (by decide)) (Eq.trans (x_up_k _ _ _ (by decide)) (Eq.trans (hM 62 16 (by decide)) e_E)))) dX10_product_87 s_62 rfl rfl (Nat.le_of_ble_eq_true rfl) (by omega) (by decide) ?_
          refine xr_istore_n (ls2 := [(2, .int ((rb T E a2_4))), (1, .int ((v * r13))), (3, .int (r13)), (0, .ref (62))]) dX10_product_90 (by decide) rfl ?_
          refine xr_goto (tgt := 10) dX10_product_91 rfl ?_
          refine xb_ls (ls2 := [(2, .int ((rb T E a2_4))), (1, .int ((v * r13))), (0, .ref (62))]) [0, 1, 3] rfl ?_
          exact ih a2_4 ok5 (cd1 ++ cd6 ++ [(nb T E a1, 0)]) (v * r13) M11 (by omega) (by omega) (Ke.tr (fun _ _ h => h) (Ke.up (Or.inl (by omega)) hM) k12) ea8 ef9 (fun qk => ⟨(eo10 qk).1, (by rw [(gv_join (hk hok).2.2 (pz_gv N _ _ _ _ _ _ _ _ hp7 (fun z => absurd z (by decide)) qk) ⟨(isJ_ne hj).2.1, (isJ_ne hj).2.2.1, (isJ_ne hj).2.2.2.1, (isJ_ne hj).2.2.2.2.1⟩).2, ← (hk hok).2.1, ← (eo10 qk).2, show nb T E a1 = 42 by have rbc_ := rb_c T E a1; grind]; exact (jn_42).symm), (gv_join (hk hok).2.2 (pz_gv N _ _ _ _ _ _ _ _ hp7 (fun z => absurd z (by decide)) qk) ⟨(isJ_ne hj).2.1, (isJ_ne hj).2.2.1, (isJ_ne hj).2.2.2.1, (isJ_ne hj).2.2.2.2.1⟩).1⟩) (CGo_s (by decide) hgo ⟨hok, hj⟩ hp7)
      · refine xr_iload_n dX10_product_23 0 rfl ?_
        refine xr_bipush (v := 47) dX10_product_24 rfl ?_
        refine xr_icmp_eq (tgt := 35) dX10_product_26 rfl (fun c17 => ?_) (fun c17 => ?_)
        · have hok : ok1 = true := ftv_ok (a := a1) (by omega) (by grind)
          have hj : isJ 4 (nb T E a1) = true := (decide_eq_true (show nb T E a1 = 42 ∨ nb T E a1 = 47 ∨ nb T E a1 = 37 by have rbc_ := rb_c T E a1; grind))
          have hl : a1 < E := nb_lt (T := T) (isJ_ne hj).1
          refine xr_aload_n dX10_product_35 2 rfl ?_
          refine xr_dup dX10_product_36 rfl ?_
          refine xb_get (v := nI (a1)) flX10_165 dX10_product_37 s_62 rfl e_a1 ?_
          refine xr_iconst (v := 1) dX10_product_40 rfl ?_
          refine xr_iadd dX10_product_41 ?_
          refine xb_top (y := nI (a1 + 1)) (nI_add (a1) (1)) ?_
          refine xr_putI fpX10_165 dX10_product_42 s_62 rfl rfl rfl ?_
          refine xr_aload_n dX10_product_45 2 rfl ?_
          refine xr_callV (As := []) (rest := []) mlX10_196 (hs l G (x_up M1 62 15 (nI (a1 + 1))) J bs T N (a1 + 1) E o (hT.imp (fun z => ⟨z.1, ((Eq.trans (x_up_n _ _ _ (by decide)) (Eq.trans (funext fun kk => hM 69 kk (by unfold WPR; omega)) rfl))).trans z.2⟩) (fun z => ⟨z.1, ((Eq.trans (x_up_n _ _ _ (by decide)) (Eq.trans (funext fun kk => hM 70 kk (by unfold WPR; omega)) rfl))).trans z.2⟩)) (((Eq.trans (x_up_n _ _ _ (by decide)) (Eq.trans (funext fun kk => hM 71 kk (by unfold WPR; omega)) rfl))).trans hNm) (Eq.trans (x_up_k _ _ _ (by decide)) (Eq.trans (hM 62 14 (by decide)) e_bs)) (by omega) hE (x_up_s _ _ _ _) (Eq.trans (x_up_k _ _ _ (by decide)) (Eq.trans (hM 62 16 (by decide)) e_E)) (by omega) (Eq.trans (x_up_k _ _ _ (by decide)) (hk hok).1) (Eq.trans (x_up_k _ _ _ (by decide)) (e_f1.trans (ftv_1 hok)))) dX10_product_46 s_62 rfl rfl (Nat.le_of_ble_eq_true rfl) (by omega) ⟨by decide, by decide⟩ (fun v s2 M26 J2 hq => ?_)
          obtain ⟨r28, rfl, rfl, rfl, k27, ⟨f18, a2_19, ok20, cd21, hp22, ea23, ef24, eo25⟩⟩ := hq
          try dsimp only [Option.toList, List.cons_append, List.nil_append]
          have hp22b := pz_b _ _ _ _ _ _ _ _ hp22 (by omega)
          obtain ⟨hp22x, hp22y, -⟩ := hp22b
          replace hp22x : (a1 + 1) ≤ a2_19 := hp22x
          replace hp22y : a2_19 ≤ E := hp22y
          refine xr_istore_n (ls2 := [(3, .int (r28)), (2, .int ((rb T E a1))), (1, .int (v)), (0, .ref (62))]) dX10_product_49 (by decide) rfl ?_
          refine xr_iload_n dX10_product_50 1 rfl ?_
          refine xr_bipush (v := 42) dX10_product_51 rfl ?_
          refine xr_icmp_ne (tgt := 62) dX10_product_53 rfl (fun c29 => ?_) (fun c29 => ?_)
          · refine xr_iload_n dX10_product_62 0 rfl ?_
            refine xr_if_ne (tgt := 70) dX10_product_63 rfl (fun c30 => ?_) (fun c30 => ?_)
            · refine xr_iload_n dX10_product_70 1 rfl ?_
              refine xr_bipush (v := 47) dX10_product_71 rfl ?_
              refine xr_icmp_ne (tgt := 82) dX10_product_73 rfl (fun c31 => ?_) (fun c31 => ?_)
              · refine xr_iload_n dX10_product_82 2 rfl ?_
                refine xr_iload_n dX10_product_83 0 rfl ?_
                refine xr_irem dX10_product_84 c30 ?_
                refine xr_istore_n (ls2 := [(1, .int ((v - v / r28 * r28))), (3, .int (r28)), (2, .int ((rb T E a1))), (0, .ref (62))]) dX10_product_85 (by decide) rfl ?_
                refine xr_aload_n dX10_product_86 3 rfl ?_
                refine xb_cV (As := []) (rest := []) mlX10_177 (c_X10_byteAt (T := T) (a := a2_19) (E := E) (hT.imp (fun z => ⟨z.1, ((Eq.trans (funext fun kk => k27 69 kk (by unfold WPR; omega)) (Eq.trans (x_up_n _ _ _ (by decide)) (Eq.trans (funext fun kk => hM 69 kk (by unfold WPR; omega)) rfl)))).trans z.2⟩) (fun z => ⟨z.1, ((Eq.trans (funext fun kk => k27 70 kk (by unfold WPR; omega)) (Eq.trans (x_up_n _ _ _ (by decide)) (Eq.trans (funext fun kk => hM 70 kk (by unfold WPR; omega)) rfl)))).trans z.2⟩)) (Eq.trans (k27 62 14 (by decide)) (Eq.trans (x_up_k _ _ _ (by decide)) (Eq.trans (hM 62 14 (by decide)) e_bs))) (by omega) (by omega) ea23 (Eq.trans (k27 62 16 (by decide)) (Eq.trans (x_up_k _ _ _ (by decide)) (Eq.trans (hM 62 16 (by decide)) e_E)))) dX10_product_87 s_62 rfl rfl (Nat.le_of_ble_eq_true rfl) (by omega) (by decide) ?_
                refine xr_istore_n (ls2 := [(2, .int ((rb T E a2_19))), (1, .int ((v - v / r28 * r28))), (3, .int (r28)), (0, .ref (62))]) dX10_product_90 (by decide) rfl ?_
                refine xr_goto (tgt := 10) dX10_product_91 rfl ?_
                refine xb_ls (ls2 := [(2, .int ((rb T E a2_19))), (1, .int ((v - v / r28 * r28))), (0, .ref (62))]) [0, 1, 3] rfl ?_
                exact ih a2_19 ok20 (cd1 ++ cd21 ++ [(nb T E a1, 0)]) (v - v / r28 * r28) M26 (by omega) (by omega) (Ke.tr (fun _ _ h => h) (Ke.up (Or.inl (by omega)) hM) k27) ea23 ef24 (fun qk => ⟨(eo25 qk).1, (by rw [(gv_join (hk hok).2.2 (pz_gv N _ _ _ _ _ _ _ _ hp22 (fun z => absurd z (by decide)) qk) ⟨(isJ_ne hj).2.1, (isJ_ne hj).2.2.1, (isJ_ne hj).2.2.2.1, (isJ_ne hj).2.2.2.2.1⟩).2, ← (hk hok).2.1, ← (eo25 qk).2, show nb T E a1 = 37 by have rbc_ := rb_c T E a1; grind]; exact (jn_37 c30).symm), (gv_join (hk hok).2.2 (pz_gv N _ _ _ _ _ _ _ _ hp22 (fun z => absurd z (by decide)) qk) ⟨(isJ_ne hj).2.1, (isJ_ne hj).2.2.1, (isJ_ne hj).2.2.2.1, (isJ_ne hj).2.2.2.2.1⟩).1⟩) (CGo_s (by decide) hgo ⟨hok, hj⟩ hp22)
              · refine xr_iload_n dX10_product_76 2 rfl ?_
                refine xr_iload_n dX10_product_77 0 rfl ?_
                refine xr_idiv dX10_product_78 c30 ?_
                refine xr_goto (tgt := 85) dX10_product_79 rfl ?_
                refine xr_istore_n (ls2 := [(1, .int ((v / r28))), (3, .int (r28)), (2, .int ((rb T E a1))), (0, .ref (62))]) dX10_product_85 (by decide) rfl ?_
                refine xr_aload_n dX10_product_86 3 rfl ?_
                refine xb_cV (As := []) (rest := []) mlX10_177 (c_X10_byteAt (T := T) (a := a2_19) (E := E) (hT.imp (fun z => ⟨z.1, ((Eq.trans (funext fun kk => k27 69 kk (by unfold WPR; omega)) (Eq.trans (x_up_n _ _ _ (by decide)) (Eq.trans (funext fun kk => hM 69 kk (by unfold WPR; omega)) rfl)))).trans z.2⟩) (fun z => ⟨z.1, ((Eq.trans (funext fun kk => k27 70 kk (by unfold WPR; omega)) (Eq.trans (x_up_n _ _ _ (by decide)) (Eq.trans (funext fun kk => hM 70 kk (by unfold WPR; omega)) rfl)))).trans z.2⟩)) (Eq.trans (k27 62 14 (by decide)) (Eq.trans (x_up_k _ _ _ (by decide)) (Eq.trans (hM 62 14 (by decide)) e_bs))) (by omega) (by omega) ea23 (Eq.trans (k27 62 16 (by decide)) (Eq.trans (x_up_k _ _ _ (by decide)) (Eq.trans (hM 62 16 (by decide)) e_E)))) dX10_product_87 s_62 rfl rfl (Nat.le_of_ble_eq_true rfl) (by omega) (by decide) ?_
                refine xr_istore_n (ls2 := [(2, .int ((rb T E a2_19))), (1, .int ((v / r28))), (3, .int (r28)), (0, .ref (62))]) dX10_product_90 (by decide) rfl ?_
                refine xr_goto (tgt := 10) dX10_product_91 rfl ?_
                refine xb_ls (ls2 := [(2, .int ((rb T E a2_19))), (1, .int ((v / r28))), (0, .ref (62))]) [0, 1, 3] rfl ?_
                exact ih a2_19 ok20 (cd1 ++ cd21 ++ [(nb T E a1, 0)]) (v / r28) M26 (by omega) (by omega) (Ke.tr (fun _ _ h => h) (Ke.up (Or.inl (by omega)) hM) k27) ea23 ef24 (fun qk => ⟨(eo25 qk).1, (by rw [(gv_join (hk hok).2.2 (pz_gv N _ _ _ _ _ _ _ _ hp22 (fun z => absurd z (by decide)) qk) ⟨(isJ_ne hj).2.1, (isJ_ne hj).2.2.1, (isJ_ne hj).2.2.2.1, (isJ_ne hj).2.2.2.2.1⟩).2, ← (hk hok).2.1, ← (eo25 qk).2, show nb T E a1 = 47 by have rbc_ := rb_c T E a1; grind]; exact (jn_47 c30).symm), (gv_join (hk hok).2.2 (pz_gv N _ _ _ _ _ _ _ _ hp22 (fun z => absurd z (by decide)) qk) ⟨(isJ_ne hj).2.1, (isJ_ne hj).2.2.1, (isJ_ne hj).2.2.2.1, (isJ_ne hj).2.2.2.2.1⟩).1⟩) (CGo_s (by decide) hgo ⟨hok, hj⟩ hp22)
            · refine xr_iconst (v := 0) dX10_product_66 rfl ?_
              refine xr_goto (tgt := 85) dX10_product_67 rfl ?_
              refine xr_istore_n (ls2 := [(1, .int (0)), (3, .int (r28)), (2, .int ((rb T E a1))), (0, .ref (62))]) dX10_product_85 (by decide) rfl ?_
              refine xr_aload_n dX10_product_86 3 rfl ?_
              refine xb_cV (As := []) (rest := []) mlX10_177 (c_X10_byteAt (T := T) (a := a2_19) (E := E) (hT.imp (fun z => ⟨z.1, ((Eq.trans (funext fun kk => k27 69 kk (by unfold WPR; omega)) (Eq.trans (x_up_n _ _ _ (by decide)) (Eq.trans (funext fun kk => hM 69 kk (by unfold WPR; omega)) rfl)))).trans z.2⟩) (fun z => ⟨z.1, ((Eq.trans (funext fun kk => k27 70 kk (by unfold WPR; omega)) (Eq.trans (x_up_n _ _ _ (by decide)) (Eq.trans (funext fun kk => hM 70 kk (by unfold WPR; omega)) rfl)))).trans z.2⟩)) (Eq.trans (k27 62 14 (by decide)) (Eq.trans (x_up_k _ _ _ (by decide)) (Eq.trans (hM 62 14 (by decide)) e_bs))) (by omega) (by omega) ea23 (Eq.trans (k27 62 16 (by decide)) (Eq.trans (x_up_k _ _ _ (by decide)) (Eq.trans (hM 62 16 (by decide)) e_E)))) dX10_product_87 s_62 rfl rfl (Nat.le_of_ble_eq_true rfl) (by omega) (by decide) ?_
              refine xr_istore_n (ls2 := [(2, .int ((rb T E a2_19))), (1, .int (0)), (3, .int (r28)), (0, .ref (62))]) dX10_product_90 (by decide) rfl ?_
              refine xr_goto (tgt := 10) dX10_product_91 rfl ?_
              refine xb_ls (ls2 := [(2, .int ((rb T E a2_19))), (1, .int (0)), (0, .ref (62))]) [0, 1, 3] rfl ?_
              exact ih a2_19 ok20 (cd1 ++ cd21 ++ [(nb T E a1, 0)]) 0 M26 (by omega) (by omega) (Ke.tr (fun _ _ h => h) (Ke.up (Or.inl (by omega)) hM) k27) ea23 ef24 (fun qk => ⟨(eo25 qk).1, (by rw [(gv_join (hk hok).2.2 (pz_gv N _ _ _ _ _ _ _ _ hp22 (fun z => absurd z (by decide)) qk) ⟨(isJ_ne hj).2.1, (isJ_ne hj).2.2.1, (isJ_ne hj).2.2.2.1, (isJ_ne hj).2.2.2.2.1⟩).2, ← (eo25 qk).2, c30]; exact (jn_0 (by have rbc_ := rb_c T E a1; grind)).symm), (gv_join (hk hok).2.2 (pz_gv N _ _ _ _ _ _ _ _ hp22 (fun z => absurd z (by decide)) qk) ⟨(isJ_ne hj).2.1, (isJ_ne hj).2.2.1, (isJ_ne hj).2.2.2.1, (isJ_ne hj).2.2.2.2.1⟩).1⟩) (CGo_s (by decide) hgo ⟨hok, hj⟩ hp22)
          · refine xr_iload_n dX10_product_56 2 rfl ?_
            refine xr_iload_n dX10_product_57 0 rfl ?_
            refine xr_imul dX10_product_58 ?_
            refine xr_goto (tgt := 85) dX10_product_59 rfl ?_
            refine xr_istore_n (ls2 := [(1, .int ((v * r28))), (3, .int (r28)), (2, .int ((rb T E a1))), (0, .ref (62))]) dX10_product_85 (by decide) rfl ?_
            refine xr_aload_n dX10_product_86 3 rfl ?_
            refine xb_cV (As := []) (rest := []) mlX10_177 (c_X10_byteAt (T := T) (a := a2_19) (E := E) (hT.imp (fun z => ⟨z.1, ((Eq.trans (funext fun kk => k27 69 kk (by unfold WPR; omega)) (Eq.trans (x_up_n _ _ _ (by decide)) (Eq.trans (funext fun kk => hM 69 kk (by unfold WPR; omega)) rfl)))).trans z.2⟩) (fun z => ⟨z.1, ((Eq.trans (funext fun kk => k27 70 kk (by unfold WPR; omega)) (Eq.trans (x_up_n _ _ _ (by decide)) (Eq.trans (funext fun kk => hM 70 kk (by unfold WPR; omega)) rfl)))).trans z.2⟩)) (Eq.trans (k27 62 14 (by decide)) (Eq.trans (x_up_k _ _ _ (by decide)) (Eq.trans (hM 62 14 (by decide)) e_bs))) (by omega) (by omega) ea23 (Eq.trans (k27 62 16 (by decide)) (Eq.trans (x_up_k _ _ _ (by decide)) (Eq.trans (hM 62 16 (by decide)) e_E)))) dX10_product_87 s_62 rfl rfl (Nat.le_of_ble_eq_true rfl) (by omega) (by decide) ?_
            refine xr_istore_n (ls2 := [(2, .int ((rb T E a2_19))), (1, .int ((v * r28))), (3, .int (r28)), (0, .ref (62))]) dX10_product_90 (by decide) rfl ?_
            refine xr_goto (tgt := 10) dX10_product_91 rfl ?_
            refine xb_ls (ls2 := [(2, .int ((rb T E a2_19))), (1, .int ((v * r28))), (0, .ref (62))]) [0, 1, 3] rfl ?_
            exact ih a2_19 ok20 (cd1 ++ cd21 ++ [(nb T E a1, 0)]) (v * r28) M26 (by omega) (by omega) (Ke.tr (fun _ _ h => h) (Ke.up (Or.inl (by omega)) hM) k27) ea23 ef24 (fun qk => ⟨(eo25 qk).1, (by rw [(gv_join (hk hok).2.2 (pz_gv N _ _ _ _ _ _ _ _ hp22 (fun z => absurd z (by decide)) qk) ⟨(isJ_ne hj).2.1, (isJ_ne hj).2.2.1, (isJ_ne hj).2.2.2.1, (isJ_ne hj).2.2.2.2.1⟩).2, ← (hk hok).2.1, ← (eo25 qk).2, show nb T E a1 = 42 by have rbc_ := rb_c T E a1; grind]; exact (jn_42).symm), (gv_join (hk hok).2.2 (pz_gv N _ _ _ _ _ _ _ _ hp22 (fun z => absurd z (by decide)) qk) ⟨(isJ_ne hj).2.1, (isJ_ne hj).2.2.1, (isJ_ne hj).2.2.2.1, (isJ_ne hj).2.2.2.2.1⟩).1⟩) (CGo_s (by decide) hgo ⟨hok, hj⟩ hp22)
        · refine xr_iload_n dX10_product_29 0 rfl ?_
          refine xr_bipush (v := 37) dX10_product_30 rfl ?_
          refine xr_icmp_ne (tgt := 94) dX10_product_32 rfl (fun c32 => ?_) (fun c32 => ?_)
          · refine xr_iload_n dX10_product_94 1 rfl ?_
            exact xr_iret dX10_product_95 rfl rfl ((by obtain ⟨f2, hf2⟩ := CGo_end hgo (fun z => by have z2 := of_decide_eq_true (p := nb T E a1 = 42 ∨ nb T E a1 = 47 ∨ nb T E a1 = 37) z.2; have z1 := ftv_1 (a := a1) z.1; have rbc_ := rb_c T E a1; grind); exact ⟨_, rfl, rfl, rfl, hM, f2, a1, ok1, cd1, hf2, e_a1, e_f1, fun q => ⟨(hk q).1, (hk q).2.1⟩⟩))
          · have hok : ok1 = true := ftv_ok (a := a1) (by omega) (by grind)
            have hj : isJ 4 (nb T E a1) = true := (decide_eq_true (show nb T E a1 = 42 ∨ nb T E a1 = 47 ∨ nb T E a1 = 37 by have rbc_ := rb_c T E a1; grind))
            have hl : a1 < E := nb_lt (T := T) (isJ_ne hj).1
            refine xr_aload_n dX10_product_35 2 rfl ?_
            refine xr_dup dX10_product_36 rfl ?_
            refine xb_get (v := nI (a1)) flX10_165 dX10_product_37 s_62 rfl e_a1 ?_
            refine xr_iconst (v := 1) dX10_product_40 rfl ?_
            refine xr_iadd dX10_product_41 ?_
            refine xb_top (y := nI (a1 + 1)) (nI_add (a1) (1)) ?_
            refine xr_putI fpX10_165 dX10_product_42 s_62 rfl rfl rfl ?_
            refine xr_aload_n dX10_product_45 2 rfl ?_
            refine xr_callV (As := []) (rest := []) mlX10_196 (hs l G (x_up M1 62 15 (nI (a1 + 1))) J bs T N (a1 + 1) E o (hT.imp (fun z => ⟨z.1, ((Eq.trans (x_up_n _ _ _ (by decide)) (Eq.trans (funext fun kk => hM 69 kk (by unfold WPR; omega)) rfl))).trans z.2⟩) (fun z => ⟨z.1, ((Eq.trans (x_up_n _ _ _ (by decide)) (Eq.trans (funext fun kk => hM 70 kk (by unfold WPR; omega)) rfl))).trans z.2⟩)) (((Eq.trans (x_up_n _ _ _ (by decide)) (Eq.trans (funext fun kk => hM 71 kk (by unfold WPR; omega)) rfl))).trans hNm) (Eq.trans (x_up_k _ _ _ (by decide)) (Eq.trans (hM 62 14 (by decide)) e_bs)) (by omega) hE (x_up_s _ _ _ _) (Eq.trans (x_up_k _ _ _ (by decide)) (Eq.trans (hM 62 16 (by decide)) e_E)) (by omega) (Eq.trans (x_up_k _ _ _ (by decide)) (hk hok).1) (Eq.trans (x_up_k _ _ _ (by decide)) (e_f1.trans (ftv_1 hok)))) dX10_product_46 s_62 rfl rfl (Nat.le_of_ble_eq_true rfl) (by omega) ⟨by decide, by decide⟩ (fun v s2 M41 J2 hq => ?_)
            obtain ⟨r43, rfl, rfl, rfl, k42, ⟨f33, a2_34, ok35, cd36, hp37, ea38, ef39, eo40⟩⟩ := hq
            try dsimp only [Option.toList, List.cons_append, List.nil_append]
            have hp37b := pz_b _ _ _ _ _ _ _ _ hp37 (by omega)
            obtain ⟨hp37x, hp37y, -⟩ := hp37b
            replace hp37x : (a1 + 1) ≤ a2_34 := hp37x
            replace hp37y : a2_34 ≤ E := hp37y
            refine xr_istore_n (ls2 := [(3, .int (r43)), (2, .int ((rb T E a1))), (1, .int (v)), (0, .ref (62))]) dX10_product_49 (by decide) rfl ?_
            refine xr_iload_n dX10_product_50 1 rfl ?_
            refine xr_bipush (v := 42) dX10_product_51 rfl ?_
            refine xr_icmp_ne (tgt := 62) dX10_product_53 rfl (fun c44 => ?_) (fun c44 => ?_)
            · refine xr_iload_n dX10_product_62 0 rfl ?_
              refine xr_if_ne (tgt := 70) dX10_product_63 rfl (fun c45 => ?_) (fun c45 => ?_)
              · refine xr_iload_n dX10_product_70 1 rfl ?_
                refine xr_bipush (v := 47) dX10_product_71 rfl ?_
                refine xr_icmp_ne (tgt := 82) dX10_product_73 rfl (fun c46 => ?_) (fun c46 => ?_)
                · refine xr_iload_n dX10_product_82 2 rfl ?_
                  refine xr_iload_n dX10_product_83 0 rfl ?_
                  refine xr_irem dX10_product_84 c45 ?_
                  refine xr_istore_n (ls2 := [(1, .int ((v - v / r43 * r43))), (3, .int (r43)), (2, .int ((rb T E a1))), (0, .ref (62))]) dX10_product_85 (by decide) rfl ?_
                  refine xr_aload_n dX10_product_86 3 rfl ?_
                  refine xb_cV (As := []) (rest := []) mlX10_177 (c_X10_byteAt (T := T) (a := a2_34) (E := E) (hT.imp (fun z => ⟨z.1, ((Eq.trans (funext fun kk => k42 69 kk (by unfold WPR; omega)) (Eq.trans (x_up_n _ _ _ (by decide)) (Eq.trans (funext fun kk => hM 69 kk (by unfold WPR; omega)) rfl)))).trans z.2⟩) (fun z => ⟨z.1, ((Eq.trans (funext fun kk => k42 70 kk (by unfold WPR; omega)) (Eq.trans (x_up_n _ _ _ (by decide)) (Eq.trans (funext fun kk => hM 70 kk (by unfold WPR; omega)) rfl)))).trans z.2⟩)) (Eq.trans (k42 62 14 (by decide)) (Eq.trans (x_up_k _ _ _ (by decide)) (Eq.trans (hM 62 14 (by decide)) e_bs))) (by omega) (by omega) ea38 (Eq.trans (k42 62 16 (by decide)) (Eq.trans (x_up_k _ _ _ (by decide)) (Eq.trans (hM 62 16 (by decide)) e_E)))) dX10_product_87 s_62 rfl rfl (Nat.le_of_ble_eq_true rfl) (by omega) (by decide) ?_
                  refine xr_istore_n (ls2 := [(2, .int ((rb T E a2_34))), (1, .int ((v - v / r43 * r43))), (3, .int (r43)), (0, .ref (62))]) dX10_product_90 (by decide) rfl ?_
                  refine xr_goto (tgt := 10) dX10_product_91 rfl ?_
                  refine xb_ls (ls2 := [(2, .int ((rb T E a2_34))), (1, .int ((v - v / r43 * r43))), (0, .ref (62))]) [0, 1, 3] rfl ?_
                  exact ih a2_34 ok35 (cd1 ++ cd36 ++ [(nb T E a1, 0)]) (v - v / r43 * r43) M41 (by omega) (by omega) (Ke.tr (fun _ _ h => h) (Ke.up (Or.inl (by omega)) hM) k42) ea38 ef39 (fun qk => ⟨(eo40 qk).1, (by rw [(gv_join (hk hok).2.2 (pz_gv N _ _ _ _ _ _ _ _ hp37 (fun z => absurd z (by decide)) qk) ⟨(isJ_ne hj).2.1, (isJ_ne hj).2.2.1, (isJ_ne hj).2.2.2.1, (isJ_ne hj).2.2.2.2.1⟩).2, ← (hk hok).2.1, ← (eo40 qk).2, show nb T E a1 = 37 by have rbc_ := rb_c T E a1; grind]; exact (jn_37 c45).symm), (gv_join (hk hok).2.2 (pz_gv N _ _ _ _ _ _ _ _ hp37 (fun z => absurd z (by decide)) qk) ⟨(isJ_ne hj).2.1, (isJ_ne hj).2.2.1, (isJ_ne hj).2.2.2.1, (isJ_ne hj).2.2.2.2.1⟩).1⟩) (CGo_s (by decide) hgo ⟨hok, hj⟩ hp37)
                · refine xr_iload_n dX10_product_76 2 rfl ?_
                  refine xr_iload_n dX10_product_77 0 rfl ?_
                  refine xr_idiv dX10_product_78 c45 ?_
                  refine xr_goto (tgt := 85) dX10_product_79 rfl ?_
                  refine xr_istore_n (ls2 := [(1, .int ((v / r43))), (3, .int (r43)), (2, .int ((rb T E a1))), (0, .ref (62))]) dX10_product_85 (by decide) rfl ?_
                  refine xr_aload_n dX10_product_86 3 rfl ?_
                  refine xb_cV (As := []) (rest := []) mlX10_177 (c_X10_byteAt (T := T) (a := a2_34) (E := E) (hT.imp (fun z => ⟨z.1, ((Eq.trans (funext fun kk => k42 69 kk (by unfold WPR; omega)) (Eq.trans (x_up_n _ _ _ (by decide)) (Eq.trans (funext fun kk => hM 69 kk (by unfold WPR; omega)) rfl)))).trans z.2⟩) (fun z => ⟨z.1, ((Eq.trans (funext fun kk => k42 70 kk (by unfold WPR; omega)) (Eq.trans (x_up_n _ _ _ (by decide)) (Eq.trans (funext fun kk => hM 70 kk (by unfold WPR; omega)) rfl)))).trans z.2⟩)) (Eq.trans (k42 62 14 (by decide)) (Eq.trans (x_up_k _ _ _ (by decide)) (Eq.trans (hM 62 14 (by decide)) e_bs))) (by omega) (by omega) ea38 (Eq.trans (k42 62 16 (by decide)) (Eq.trans (x_up_k _ _ _ (by decide)) (Eq.trans (hM 62 16 (by decide)) e_E)))) dX10_product_87 s_62 rfl rfl (Nat.le_of_ble_eq_true rfl) (by omega) (by decide) ?_
                  refine xr_istore_n (ls2 := [(2, .int ((rb T E a2_34))), (1, .int ((v / r43))), (3, .int (r43)), (0, .ref (62))]) dX10_product_90 (by decide) rfl ?_
                  refine xr_goto (tgt := 10) dX10_product_91 rfl ?_
                  refine xb_ls (ls2 := [(2, .int ((rb T E a2_34))), (1, .int ((v / r43))), (0, .ref (62))]) [0, 1, 3] rfl ?_
                  exact ih a2_34 ok35 (cd1 ++ cd36 ++ [(nb T E a1, 0)]) (v / r43) M41 (by omega) (by omega) (Ke.tr (fun _ _ h => h) (Ke.up (Or.inl (by omega)) hM) k42) ea38 ef39 (fun qk => ⟨(eo40 qk).1, (by rw [(gv_join (hk hok).2.2 (pz_gv N _ _ _ _ _ _ _ _ hp37 (fun z => absurd z (by decide)) qk) ⟨(isJ_ne hj).2.1, (isJ_ne hj).2.2.1, (isJ_ne hj).2.2.2.1, (isJ_ne hj).2.2.2.2.1⟩).2, ← (hk hok).2.1, ← (eo40 qk).2, show nb T E a1 = 47 by have rbc_ := rb_c T E a1; grind]; exact (jn_47 c45).symm), (gv_join (hk hok).2.2 (pz_gv N _ _ _ _ _ _ _ _ hp37 (fun z => absurd z (by decide)) qk) ⟨(isJ_ne hj).2.1, (isJ_ne hj).2.2.1, (isJ_ne hj).2.2.2.1, (isJ_ne hj).2.2.2.2.1⟩).1⟩) (CGo_s (by decide) hgo ⟨hok, hj⟩ hp37)
              · refine xr_iconst (v := 0) dX10_product_66 rfl ?_
                refine xr_goto (tgt := 85) dX10_product_67 rfl ?_
                refine xr_istore_n (ls2 := [(1, .int (0)), (3, .int (r43)), (2, .int ((rb T E a1))), (0, .ref (62))]) dX10_product_85 (by decide) rfl ?_
                refine xr_aload_n dX10_product_86 3 rfl ?_
                refine xb_cV (As := []) (rest := []) mlX10_177 (c_X10_byteAt (T := T) (a := a2_34) (E := E) (hT.imp (fun z => ⟨z.1, ((Eq.trans (funext fun kk => k42 69 kk (by unfold WPR; omega)) (Eq.trans (x_up_n _ _ _ (by decide)) (Eq.trans (funext fun kk => hM 69 kk (by unfold WPR; omega)) rfl)))).trans z.2⟩) (fun z => ⟨z.1, ((Eq.trans (funext fun kk => k42 70 kk (by unfold WPR; omega)) (Eq.trans (x_up_n _ _ _ (by decide)) (Eq.trans (funext fun kk => hM 70 kk (by unfold WPR; omega)) rfl)))).trans z.2⟩)) (Eq.trans (k42 62 14 (by decide)) (Eq.trans (x_up_k _ _ _ (by decide)) (Eq.trans (hM 62 14 (by decide)) e_bs))) (by omega) (by omega) ea38 (Eq.trans (k42 62 16 (by decide)) (Eq.trans (x_up_k _ _ _ (by decide)) (Eq.trans (hM 62 16 (by decide)) e_E)))) dX10_product_87 s_62 rfl rfl (Nat.le_of_ble_eq_true rfl) (by omega) (by decide) ?_
                refine xr_istore_n (ls2 := [(2, .int ((rb T E a2_34))), (1, .int (0)), (3, .int (r43)), (0, .ref (62))]) dX10_product_90 (by decide) rfl ?_
                refine xr_goto (tgt := 10) dX10_product_91 rfl ?_
                refine xb_ls (ls2 := [(2, .int ((rb T E a2_34))), (1, .int (0)), (0, .ref (62))]) [0, 1, 3] rfl ?_
                exact ih a2_34 ok35 (cd1 ++ cd36 ++ [(nb T E a1, 0)]) 0 M41 (by omega) (by omega) (Ke.tr (fun _ _ h => h) (Ke.up (Or.inl (by omega)) hM) k42) ea38 ef39 (fun qk => ⟨(eo40 qk).1, (by rw [(gv_join (hk hok).2.2 (pz_gv N _ _ _ _ _ _ _ _ hp37 (fun z => absurd z (by decide)) qk) ⟨(isJ_ne hj).2.1, (isJ_ne hj).2.2.1, (isJ_ne hj).2.2.2.1, (isJ_ne hj).2.2.2.2.1⟩).2, ← (eo40 qk).2, c45]; exact (jn_0 (by have rbc_ := rb_c T E a1; grind)).symm), (gv_join (hk hok).2.2 (pz_gv N _ _ _ _ _ _ _ _ hp37 (fun z => absurd z (by decide)) qk) ⟨(isJ_ne hj).2.1, (isJ_ne hj).2.2.1, (isJ_ne hj).2.2.2.1, (isJ_ne hj).2.2.2.2.1⟩).1⟩) (CGo_s (by decide) hgo ⟨hok, hj⟩ hp37)
            · refine xr_iload_n dX10_product_56 2 rfl ?_
              refine xr_iload_n dX10_product_57 0 rfl ?_
              refine xr_imul dX10_product_58 ?_
              refine xr_goto (tgt := 85) dX10_product_59 rfl ?_
              refine xr_istore_n (ls2 := [(1, .int ((v * r43))), (3, .int (r43)), (2, .int ((rb T E a1))), (0, .ref (62))]) dX10_product_85 (by decide) rfl ?_
              refine xr_aload_n dX10_product_86 3 rfl ?_
              refine xb_cV (As := []) (rest := []) mlX10_177 (c_X10_byteAt (T := T) (a := a2_34) (E := E) (hT.imp (fun z => ⟨z.1, ((Eq.trans (funext fun kk => k42 69 kk (by unfold WPR; omega)) (Eq.trans (x_up_n _ _ _ (by decide)) (Eq.trans (funext fun kk => hM 69 kk (by unfold WPR; omega)) rfl)))).trans z.2⟩) (fun z => ⟨z.1, ((Eq.trans (funext fun kk => k42 70 kk (by unfold WPR; omega)) (Eq.trans (x_up_n _ _ _ (by decide)) (Eq.trans (funext fun kk => hM 70 kk (by unfold WPR; omega)) rfl)))).trans z.2⟩)) (Eq.trans (k42 62 14 (by decide)) (Eq.trans (x_up_k _ _ _ (by decide)) (Eq.trans (hM 62 14 (by decide)) e_bs))) (by omega) (by omega) ea38 (Eq.trans (k42 62 16 (by decide)) (Eq.trans (x_up_k _ _ _ (by decide)) (Eq.trans (hM 62 16 (by decide)) e_E)))) dX10_product_87 s_62 rfl rfl (Nat.le_of_ble_eq_true rfl) (by omega) (by decide) ?_
              refine xr_istore_n (ls2 := [(2, .int ((rb T E a2_34))), (1, .int ((v * r43))), (3, .int (r43)), (0, .ref (62))]) dX10_product_90 (by decide) rfl ?_
              refine xr_goto (tgt := 10) dX10_product_91 rfl ?_
              refine xb_ls (ls2 := [(2, .int ((rb T E a2_34))), (1, .int ((v * r43))), (0, .ref (62))]) [0, 1, 3] rfl ?_
              exact ih a2_34 ok35 (cd1 ++ cd36 ++ [(nb T E a1, 0)]) (v * r43) M41 (by omega) (by omega) (Ke.tr (fun _ _ h => h) (Ke.up (Or.inl (by omega)) hM) k42) ea38 ef39 (fun qk => ⟨(eo40 qk).1, (by rw [(gv_join (hk hok).2.2 (pz_gv N _ _ _ _ _ _ _ _ hp37 (fun z => absurd z (by decide)) qk) ⟨(isJ_ne hj).2.1, (isJ_ne hj).2.2.1, (isJ_ne hj).2.2.2.1, (isJ_ne hj).2.2.2.2.1⟩).2, ← (hk hok).2.1, ← (eo40 qk).2, show nb T E a1 = 42 by have rbc_ := rb_c T E a1; grind]; exact (jn_42).symm), (gv_join (hk hok).2.2 (pz_gv N _ _ _ _ _ _ _ _ hp37 (fun z => absurd z (by decide)) qk) ⟨(isJ_ne hj).2.1, (isJ_ne hj).2.2.1, (isJ_ne hj).2.2.2.1, (isJ_ne hj).2.2.2.2.1⟩).1⟩) (CGo_s (by decide) hgo ⟨hok, hj⟩ hp37)
set_option maxRecDepth 100000 in
set_option maxHeartbeats 4000000 in
theorem lt_product {u : Nat} (hs  : LSv fX10_one (8 * u + 3) 5 u) : LSv fX10_product (8 * u + 4) 4 u := by
  intro l G M J bs T N a E o hT hNm e_bs haE hE e_a e_E ho e_o e_ft
  refine xb_of pX10 (Nat.le_of_ble_eq_true rfl) rfl ?_
  refine xr_aload_n dX10_product_0 0 rfl ?_
  refine xr_callV (As := []) (rest := []) mlX10_196 (hs l G M J bs T N a E o (hT.imp (fun z => ⟨z.1, (rfl).trans z.2⟩) (fun z => ⟨z.1, (rfl).trans z.2⟩)) ((rfl).trans hNm) e_bs (by omega) hE e_a e_E (by omega) e_o e_ft) dX10_product_1 s_62 rfl rfl (Nat.le_of_ble_eq_true rfl) (by omega) ⟨by decide, by decide⟩ (fun v s2 M9 J2 hq => ?_)
  obtain ⟨r11, rfl, rfl, rfl, k10, ⟨f1, a2_2, ok3, cd4, hp5, ea6, ef7, eo8⟩⟩ := hq
  try dsimp only [Option.toList, List.cons_append, List.nil_append]
  have hp5b := pz_b _ _ _ _ _ _ _ _ hp5 (by omega)
  obtain ⟨hp5x, hp5y, -⟩ := hp5b
  replace hp5x : a ≤ a2_2 := hp5x
  replace hp5y : a2_2 ≤ E := hp5y
  refine xr_istore_n (ls2 := [(1, .int (r11)), (0, .ref (62))]) dX10_product_4 (by decide) rfl ?_
  refine xr_aload_n dX10_product_5 1 rfl ?_
  refine xb_cV (As := []) (rest := []) mlX10_177 (c_X10_byteAt (T := T) (a := a2_2) (E := E) (hT.imp (fun z => ⟨z.1, ((Eq.trans (funext fun kk => k10 69 kk (by unfold WPR; omega)) rfl)).trans z.2⟩) (fun z => ⟨z.1, ((Eq.trans (funext fun kk => k10 70 kk (by unfold WPR; omega)) rfl)).trans z.2⟩)) (Eq.trans (k10 62 14 (by decide)) e_bs) (by omega) (by omega) ea6 (Eq.trans (k10 62 16 (by decide)) e_E)) dX10_product_6 s_62 rfl rfl (Nat.le_of_ble_eq_true rfl) (by omega) (by decide) ?_
  refine xr_istore_n (ls2 := [(2, .int ((rb T E a2_2))), (1, .int (r11)), (0, .ref (62))]) dX10_product_9 (by decide) rfl ?_
  refine xb_ls (ls2 := [(2, .int ((rb T E a2_2))), (1, .int (r11)), (0, .ref (62))]) [0, 1, 2] rfl ?_
  exact ls_product hs hT hNm e_bs haE hE e_E ho E a2_2 ok3 cd4 r11 M9 (by omega) (by omega) (Ke.tr (fun _ _ h => h) Ke.rf k10) ea6 ef7 (fun qk => ⟨(eo8 qk).1, (eo8 qk).2, pz_gv N _ _ _ _ _ _ _ _ hp5 (fun z => absurd z (by decide)) qk⟩) (CGo_0 (by decide) hp5)
set_option maxRecDepth 100000 in
set_option maxHeartbeats 4000000 in
theorem ls_sums {u : Nat} (hs  : LSv fX10_product (8 * u + 4) 4 u) {l : Launch} {G : xG} {M : xM} {J : xJ} {bs : Int32} {T N : Nat → Int32} {a E o : Nat} (hT : bs = -1 ∧ M 69 = T ∨ bs = 0 ∧ M 70 = T) (hNm : M 71 = N) (e_bs : M 62 14 = bs) (haE : a ≤ E) (hE : E ≤ 120) (e_E : M 62 16 = nI E) (ho : o + u = 6) : ∀ (m a1 : Nat) (ok1 : Bool) (cd1 : zC) (v : Int32) (M1 : xM), E < a1 + m + 1 → a1 ≤ E → Ke WPR M M1 → M1 62 15 = nI a1 → M1 62 17 = ftv ok1 a1 → (ok1 = true → M1 62 18 = nI o ∧ v = valF N cd1 ∧ gv1 N cd1) → CGo T E 3 o a a1 ok1 cd1 → x_X l G fX10_sums (8 * u + 5) 0 0 (qKI WPR M J (fun r M2 => PRv M2 T N E 3 o a r)) 5 [(1, .int (v)), (0, .ref (62))] [] x_SH M1 J 0 0 := by
  intro m
  induction m with
  | zero =>
    intro a1 ok1 cd1 v M1 hm h2 hM e_a1 e_f1 hk hgo
    refine xr_aload_n dX10_sums_5 1 rfl ?_
    refine xb_get (v := (ftv ok1 a1)) flX10_174 dX10_sums_6 s_62 rfl e_f1 ?_
    refine xr_if_ge (tgt := 77) dX10_sums_9 rfl (fun c1 => ?_) (fun c1 => ?_)
    · refine xr_iload_n dX10_sums_77 0 rfl ?_
      exact xr_iret dX10_sums_78 rfl rfl ((by obtain ⟨f2, hf2⟩ := CGo_end hgo (fun z => by have z2 := of_decide_eq_true (p := nb T E a1 = 43 ∨ nb T E a1 = 45) z.2; have z1 := ftv_1 (a := a1) z.1; have rbc_ := rb_c T E a1; grind); exact ⟨_, rfl, rfl, rfl, hM, f2, a1, ok1, cd1, hf2, e_a1, e_f1, fun q => ⟨(hk q).1, (hk q).2.1⟩⟩))
    · refine xr_aload_n dX10_sums_12 1 rfl ?_
      refine xb_cV (As := []) (rest := []) mlX10_177 (c_X10_byteAt (T := T) (a := a1) (E := E) (hT.imp (fun z => ⟨z.1, ((Eq.trans (funext fun kk => hM 69 kk (by unfold WPR; omega)) rfl)).trans z.2⟩) (fun z => ⟨z.1, ((Eq.trans (funext fun kk => hM 70 kk (by unfold WPR; omega)) rfl)).trans z.2⟩)) (Eq.trans (hM 62 14 (by decide)) e_bs) (by omega) (by omega) e_a1 (Eq.trans (hM 62 16 (by decide)) e_E)) dX10_sums_13 s_62 rfl rfl (Nat.le_of_ble_eq_true rfl) (by omega) (by decide) ?_
      refine xr_bipush (v := 43) dX10_sums_16 rfl ?_
      refine xr_icmp_eq (tgt := 30) dX10_sums_18 rfl (fun c2 => ?_) (fun c2 => ?_)
      · have hok : ok1 = true := ftv_ok (a := a1) (by omega) (by grind)
        have hj : isJ 3 (nb T E a1) = true := (decide_eq_true (show nb T E a1 = 43 ∨ nb T E a1 = 45 by have rbc_ := rb_c T E a1; grind))
        have hl : a1 < E := nb_lt (T := T) (isJ_ne hj).1
        exact absurd hm (by omega)
      · refine xr_aload_n dX10_sums_21 1 rfl ?_
        refine xb_cV (As := []) (rest := []) mlX10_177 (c_X10_byteAt (T := T) (a := a1) (E := E) (hT.imp (fun z => ⟨z.1, ((Eq.trans (funext fun kk => hM 69 kk (by unfold WPR; omega)) rfl)).trans z.2⟩) (fun z => ⟨z.1, ((Eq.trans (funext fun kk => hM 70 kk (by unfold WPR; omega)) rfl)).trans z.2⟩)) (Eq.trans (hM 62 14 (by decide)) e_bs) (by omega) (by omega) e_a1 (Eq.trans (hM 62 16 (by decide)) e_E)) dX10_sums_22 s_62 rfl rfl (Nat.le_of_ble_eq_true rfl) (by omega) (by decide) ?_
        refine xr_bipush (v := 45) dX10_sums_25 rfl ?_
        refine xr_icmp_ne (tgt := 77) dX10_sums_27 rfl (fun c3 => ?_) (fun c3 => ?_)
        · refine xr_iload_n dX10_sums_77 0 rfl ?_
          exact xr_iret dX10_sums_78 rfl rfl ((by obtain ⟨f2, hf2⟩ := CGo_end hgo (fun z => by have z2 := of_decide_eq_true (p := nb T E a1 = 43 ∨ nb T E a1 = 45) z.2; have z1 := ftv_1 (a := a1) z.1; have rbc_ := rb_c T E a1; grind); exact ⟨_, rfl, rfl, rfl, hM, f2, a1, ok1, cd1, hf2, e_a1, e_f1, fun q => ⟨(hk q).1, (hk q).2.1⟩⟩))
        · have hok : ok1 = true := ftv_ok (a := a1) (by omega) (by grind)
          have hj : isJ 3 (nb T E a1) = true := (decide_eq_true (show nb T E a1 = 43 ∨ nb T E a1 = 45 by have rbc_ := rb_c T E a1; grind))
          have hl : a1 < E := nb_lt (T := T) (isJ_ne hj).1
          exact absurd hm (by omega)
  | succ m ih =>
    intro a1 ok1 cd1 v M1 hm h2 hM e_a1 e_f1 hk hgo
    refine xr_aload_n dX10_sums_5 1 rfl ?_
    refine xb_get (v := (ftv ok1 a1)) flX10_174 dX10_sums_6 s_62 rfl e_f1 ?_
    refine xr_if_ge (tgt := 77) dX10_sums_9 rfl (fun c1 => ?_) (fun c1 => ?_)
    · refine xr_iload_n dX10_sums_77 0 rfl ?_
      exact xr_iret dX10_sums_78 rfl rfl ((by obtain ⟨f2, hf2⟩ := CGo_end hgo (fun z => by have z2 := of_decide_eq_true (p := nb T E a1 = 43 ∨ nb T E a1 = 45) z.2; have z1 := ftv_1 (a := a1) z.1; have rbc_ := rb_c T E a1; grind); exact ⟨_, rfl, rfl, rfl, hM, f2, a1, ok1, cd1, hf2, e_a1, e_f1, fun q => ⟨(hk q).1, (hk q).2.1⟩⟩))
    · refine xr_aload_n dX10_sums_12 1 rfl ?_
      refine xb_cV (As := []) (rest := []) mlX10_177 (c_X10_byteAt (T := T) (a := a1) (E := E) (hT.imp (fun z => ⟨z.1, ((Eq.trans (funext fun kk => hM 69 kk (by unfold WPR; omega)) rfl)).trans z.2⟩) (fun z => ⟨z.1, ((Eq.trans (funext fun kk => hM 70 kk (by unfold WPR; omega)) rfl)).trans z.2⟩)) (Eq.trans (hM 62 14 (by decide)) e_bs) (by omega) (by omega) e_a1 (Eq.trans (hM 62 16 (by decide)) e_E)) dX10_sums_13 s_62 rfl rfl (Nat.le_of_ble_eq_true rfl) (by omega) (by decide) ?_
      refine xr_bipush (v := 43) dX10_sums_16 rfl ?_
      refine xr_icmp_eq (tgt := 30) dX10_sums_18 rfl (fun c2 => ?_) (fun c2 => ?_)
      · have hok : ok1 = true := ftv_ok (a := a1) (by omega) (by grind)
        have hj : isJ 3 (nb T E a1) = true := (decide_eq_true (show nb T E a1 = 43 ∨ nb T E a1 = 45 by have rbc_ := rb_c T E a1; grind))
        have hl : a1 < E := nb_lt (T := T) (isJ_ne hj).1
        refine xr_aload_n dX10_sums_30 1 rfl ?_
        refine xb_cV (As := []) (rest := []) mlX10_177 (c_X10_byteAt (T := T) (a := a1) (E := E) (hT.imp (fun z => ⟨z.1, ((Eq.trans (funext fun kk => hM 69 kk (by unfold WPR; omega)) rfl)).trans z.2⟩) (fun z => ⟨z.1, ((Eq.trans (funext fun kk => hM 70 kk (by unfold WPR; omega)) rfl)).trans z.2⟩)) (Eq.trans (hM 62 14 (by decide)) e_bs) (by omega) (by omega) e_a1 (Eq.trans (hM 62 16 (by decide)) e_E)) dX10_sums_31 s_62 rfl rfl (Nat.le_of_ble_eq_true rfl) (by omega) (by decide) ?_
        refine xr_bipush (v := 43) dX10_sums_34 rfl ?_
        refine xr_icmp_ne (tgt := 43) dX10_sums_36 rfl (fun c3 => ?_) (fun c3 => ?_)
        · refine xr_iconst (v := 0) dX10_sums_43 rfl ?_
          refine xr_istore_n (ls2 := [(2, .int (0)), (1, .int (v)), (0, .ref (62))]) dX10_sums_44 (by decide) rfl ?_
          refine xr_aload_n dX10_sums_45 2 rfl ?_
          refine xr_dup dX10_sums_46 rfl ?_
          refine xb_get (v := nI (a1)) flX10_165 dX10_sums_47 s_62 rfl e_a1 ?_
          refine xr_iconst (v := 1) dX10_sums_50 rfl ?_
          refine xr_iadd dX10_sums_51 ?_
          refine xb_top (y := nI (a1 + 1)) (nI_add (a1) (1)) ?_
          refine xr_putI fpX10_165 dX10_sums_52 s_62 rfl rfl rfl ?_
          refine xr_aload_n dX10_sums_55 2 rfl ?_
          refine xr_callV (As := []) (rest := []) mlX10_193 (hs l G (x_up M1 62 15 (nI (a1 + 1))) J bs T N (a1 + 1) E o (hT.imp (fun z => ⟨z.1, ((Eq.trans (x_up_n _ _ _ (by decide)) (Eq.trans (funext fun kk => hM 69 kk (by unfold WPR; omega)) rfl))).trans z.2⟩) (fun z => ⟨z.1, ((Eq.trans (x_up_n _ _ _ (by decide)) (Eq.trans (funext fun kk => hM 70 kk (by unfold WPR; omega)) rfl))).trans z.2⟩)) (((Eq.trans (x_up_n _ _ _ (by decide)) (Eq.trans (funext fun kk => hM 71 kk (by unfold WPR; omega)) rfl))).trans hNm) (Eq.trans (x_up_k _ _ _ (by decide)) (Eq.trans (hM 62 14 (by decide)) e_bs)) (by omega) hE (x_up_s _ _ _ _) (Eq.trans (x_up_k _ _ _ (by decide)) (Eq.trans (hM 62 16 (by decide)) e_E)) (by omega) (Eq.trans (x_up_k _ _ _ (by decide)) (hk hok).1) (Eq.trans (x_up_k _ _ _ (by decide)) (e_f1.trans (ftv_1 hok)))) dX10_sums_56 s_62 rfl rfl (Nat.le_of_ble_eq_true rfl) (by omega) ⟨by decide, by decide⟩ (fun v s2 M12 J2 hq => ?_)
          obtain ⟨r14, rfl, rfl, rfl, k13, ⟨f4, a2_5, ok6, cd7, hp8, ea9, ef10, eo11⟩⟩ := hq
          try dsimp only [Option.toList, List.cons_append, List.nil_append]
          have hp8b := pz_b _ _ _ _ _ _ _ _ hp8 (by omega)
          obtain ⟨hp8x, hp8y, -⟩ := hp8b
          replace hp8x : (a1 + 1) ≤ a2_5 := hp8x
          replace hp8y : a2_5 ≤ E := hp8y
          refine xr_istore_n (ls2 := [(3, .int (r14)), (2, .int (0)), (1, .int (v)), (0, .ref (62))]) dX10_sums_59 (by decide) rfl ?_
          refine xr_iload_n dX10_sums_60 1 rfl ?_
          refine xr_if_eq (tgt := 70) dX10_sums_61 rfl (fun _ => ?_) (fun c => absurd (by decide) c)
          refine xr_iload_n dX10_sums_70 2 rfl ?_
          refine xr_iload_n dX10_sums_71 0 rfl ?_
          refine xr_isub dX10_sums_72 ?_
          refine xr_istore_n (ls2 := [(1, .int ((v - r14))), (3, .int (r14)), (2, .int (0)), (0, .ref (62))]) dX10_sums_73 (by decide) rfl ?_
          refine xr_goto (tgt := 5) dX10_sums_74 rfl ?_
          refine xb_ls (ls2 := [(1, .int ((v - r14))), (0, .ref (62))]) [0, 3] rfl ?_
          exact ih a2_5 ok6 (cd1 ++ cd7 ++ [(nb T E a1, 0)]) (v - r14) M12 (by omega) (by omega) (Ke.tr (fun _ _ h => h) (Ke.up (Or.inl (by omega)) hM) k13) ea9 ef10 (fun qk => ⟨(eo11 qk).1, (by rw [(gv_join (hk hok).2.2 (pz_gv N _ _ _ _ _ _ _ _ hp8 (fun z => absurd z (by decide)) qk) ⟨(isJ_ne hj).2.1, (isJ_ne hj).2.2.1, (isJ_ne hj).2.2.2.1, (isJ_ne hj).2.2.2.2.1⟩).2, ← (hk hok).2.1, ← (eo11 qk).2, show nb T E a1 = 45 by have rbc_ := rb_c T E a1; grind]; exact (jn_45).symm), (gv_join (hk hok).2.2 (pz_gv N _ _ _ _ _ _ _ _ hp8 (fun z => absurd z (by decide)) qk) ⟨(isJ_ne hj).2.1, (isJ_ne hj).2.2.1, (isJ_ne hj).2.2.2.1, (isJ_ne hj).2.2.2.2.1⟩).1⟩) (CGo_s (by decide) hgo ⟨hok, hj⟩ hp8)
        · refine xr_iconst (v := 1) dX10_sums_39 rfl ?_
          refine xr_goto (tgt := 44) dX10_sums_40 rfl ?_
          refine xr_istore_n (ls2 := [(2, .int (1)), (1, .int (v)), (0, .ref (62))]) dX10_sums_44 (by decide) rfl ?_
          refine xr_aload_n dX10_sums_45 2 rfl ?_
          refine xr_dup dX10_sums_46 rfl ?_
          refine xb_get (v := nI (a1)) flX10_165 dX10_sums_47 s_62 rfl e_a1 ?_
          refine xr_iconst (v := 1) dX10_sums_50 rfl ?_
          refine xr_iadd dX10_sums_51 ?_
          refine xb_top (y := nI (a1 + 1)) (nI_add (a1) (1)) ?_
          refine xr_putI fpX10_165 dX10_sums_52 s_62 rfl rfl rfl ?_
          refine xr_aload_n dX10_sums_55 2 rfl ?_
          refine xr_callV (As := []) (rest := []) mlX10_193 (hs l G (x_up M1 62 15 (nI (a1 + 1))) J bs T N (a1 + 1) E o (hT.imp (fun z => ⟨z.1, ((Eq.trans (x_up_n _ _ _ (by decide)) (Eq.trans (funext fun kk => hM 69 kk (by unfold WPR; omega)) rfl))).trans z.2⟩) (fun z => ⟨z.1, ((Eq.trans (x_up_n _ _ _ (by decide)) (Eq.trans (funext fun kk => hM 70 kk (by unfold WPR; omega)) rfl))).trans z.2⟩)) (((Eq.trans (x_up_n _ _ _ (by decide)) (Eq.trans (funext fun kk => hM 71 kk (by unfold WPR; omega)) rfl))).trans hNm) (Eq.trans (x_up_k _ _ _ (by decide)) (Eq.trans (hM 62 14 (by decide)) e_bs)) (by omega) hE (x_up_s _ _ _ _) (Eq.trans (x_up_k _ _ _ (by decide)) (Eq.trans (hM 62 16 (by decide)) e_E)) (by omega) (Eq.trans (x_up_k _ _ _ (by decide)) (hk hok).1) (Eq.trans (x_up_k _ _ _ (by decide)) (e_f1.trans (ftv_1 hok)))) dX10_sums_56 s_62 rfl rfl (Nat.le_of_ble_eq_true rfl) (by omega) ⟨by decide, by decide⟩ (fun v s2 M23 J2 hq => ?_)
          obtain ⟨r25, rfl, rfl, rfl, k24, ⟨f15, a2_16, ok17, cd18, hp19, ea20, ef21, eo22⟩⟩ := hq
          try dsimp only [Option.toList, List.cons_append, List.nil_append]
          have hp19b := pz_b _ _ _ _ _ _ _ _ hp19 (by omega)
          obtain ⟨hp19x, hp19y, -⟩ := hp19b
          replace hp19x : (a1 + 1) ≤ a2_16 := hp19x
          replace hp19y : a2_16 ≤ E := hp19y
          refine xr_istore_n (ls2 := [(3, .int (r25)), (2, .int (1)), (1, .int (v)), (0, .ref (62))]) dX10_sums_59 (by decide) rfl ?_
          refine xr_iload_n dX10_sums_60 1 rfl ?_
          refine xr_if_eq (tgt := 70) dX10_sums_61 rfl (fun c => absurd c (by decide)) (fun _ => ?_)
          refine xr_iload_n dX10_sums_64 2 rfl ?_
          refine xr_iload_n dX10_sums_65 0 rfl ?_
          refine xr_iadd dX10_sums_66 ?_
          refine xr_goto (tgt := 73) dX10_sums_67 rfl ?_
          refine xr_istore_n (ls2 := [(1, .int ((v + r25))), (3, .int (r25)), (2, .int (1)), (0, .ref (62))]) dX10_sums_73 (by decide) rfl ?_
          refine xr_goto (tgt := 5) dX10_sums_74 rfl ?_
          refine xb_ls (ls2 := [(1, .int ((v + r25))), (0, .ref (62))]) [0, 3] rfl ?_
          exact ih a2_16 ok17 (cd1 ++ cd18 ++ [(nb T E a1, 0)]) (v + r25) M23 (by omega) (by omega) (Ke.tr (fun _ _ h => h) (Ke.up (Or.inl (by omega)) hM) k24) ea20 ef21 (fun qk => ⟨(eo22 qk).1, (by rw [(gv_join (hk hok).2.2 (pz_gv N _ _ _ _ _ _ _ _ hp19 (fun z => absurd z (by decide)) qk) ⟨(isJ_ne hj).2.1, (isJ_ne hj).2.2.1, (isJ_ne hj).2.2.2.1, (isJ_ne hj).2.2.2.2.1⟩).2, ← (hk hok).2.1, ← (eo22 qk).2, show nb T E a1 = 43 by have rbc_ := rb_c T E a1; grind]; exact (jn_43).symm), (gv_join (hk hok).2.2 (pz_gv N _ _ _ _ _ _ _ _ hp19 (fun z => absurd z (by decide)) qk) ⟨(isJ_ne hj).2.1, (isJ_ne hj).2.2.1, (isJ_ne hj).2.2.2.1, (isJ_ne hj).2.2.2.2.1⟩).1⟩) (CGo_s (by decide) hgo ⟨hok, hj⟩ hp19)
      · refine xr_aload_n dX10_sums_21 1 rfl ?_
        refine xb_cV (As := []) (rest := []) mlX10_177 (c_X10_byteAt (T := T) (a := a1) (E := E) (hT.imp (fun z => ⟨z.1, ((Eq.trans (funext fun kk => hM 69 kk (by unfold WPR; omega)) rfl)).trans z.2⟩) (fun z => ⟨z.1, ((Eq.trans (funext fun kk => hM 70 kk (by unfold WPR; omega)) rfl)).trans z.2⟩)) (Eq.trans (hM 62 14 (by decide)) e_bs) (by omega) (by omega) e_a1 (Eq.trans (hM 62 16 (by decide)) e_E)) dX10_sums_22 s_62 rfl rfl (Nat.le_of_ble_eq_true rfl) (by omega) (by decide) ?_
        refine xr_bipush (v := 45) dX10_sums_25 rfl ?_
        refine xr_icmp_ne (tgt := 77) dX10_sums_27 rfl (fun c26 => ?_) (fun c26 => ?_)
        · refine xr_iload_n dX10_sums_77 0 rfl ?_
          exact xr_iret dX10_sums_78 rfl rfl ((by obtain ⟨f2, hf2⟩ := CGo_end hgo (fun z => by have z2 := of_decide_eq_true (p := nb T E a1 = 43 ∨ nb T E a1 = 45) z.2; have z1 := ftv_1 (a := a1) z.1; have rbc_ := rb_c T E a1; grind); exact ⟨_, rfl, rfl, rfl, hM, f2, a1, ok1, cd1, hf2, e_a1, e_f1, fun q => ⟨(hk q).1, (hk q).2.1⟩⟩))
        · have hok : ok1 = true := ftv_ok (a := a1) (by omega) (by grind)
          have hj : isJ 3 (nb T E a1) = true := (decide_eq_true (show nb T E a1 = 43 ∨ nb T E a1 = 45 by have rbc_ := rb_c T E a1; grind))
          have hl : a1 < E := nb_lt (T := T) (isJ_ne hj).1
          refine xr_aload_n dX10_sums_30 1 rfl ?_
          refine xb_cV (As := []) (rest := []) mlX10_177 (c_X10_byteAt (T := T) (a := a1) (E := E) (hT.imp (fun z => ⟨z.1, ((Eq.trans (funext fun kk => hM 69 kk (by unfold WPR; omega)) rfl)).trans z.2⟩) (fun z => ⟨z.1, ((Eq.trans (funext fun kk => hM 70 kk (by unfold WPR; omega)) rfl)).trans z.2⟩)) (Eq.trans (hM 62 14 (by decide)) e_bs) (by omega) (by omega) e_a1 (Eq.trans (hM 62 16 (by decide)) e_E)) dX10_sums_31 s_62 rfl rfl (Nat.le_of_ble_eq_true rfl) (by omega) (by decide) ?_
          refine xr_bipush (v := 43) dX10_sums_34 rfl ?_
          refine xr_icmp_ne (tgt := 43) dX10_sums_36 rfl (fun c27 => ?_) (fun c27 => ?_)
          · refine xr_iconst (v := 0) dX10_sums_43 rfl ?_
            refine xr_istore_n (ls2 := [(2, .int (0)), (1, .int (v)), (0, .ref (62))]) dX10_sums_44 (by decide) rfl ?_
            refine xr_aload_n dX10_sums_45 2 rfl ?_
            refine xr_dup dX10_sums_46 rfl ?_
            refine xb_get (v := nI (a1)) flX10_165 dX10_sums_47 s_62 rfl e_a1 ?_
            refine xr_iconst (v := 1) dX10_sums_50 rfl ?_
            refine xr_iadd dX10_sums_51 ?_
            refine xb_top (y := nI (a1 + 1)) (nI_add (a1) (1)) ?_
            refine xr_putI fpX10_165 dX10_sums_52 s_62 rfl rfl rfl ?_
            refine xr_aload_n dX10_sums_55 2 rfl ?_
            refine xr_callV (As := []) (rest := []) mlX10_193 (hs l G (x_up M1 62 15 (nI (a1 + 1))) J bs T N (a1 + 1) E o (hT.imp (fun z => ⟨z.1, ((Eq.trans (x_up_n _ _ _ (by decide)) (Eq.trans (funext fun kk => hM 69 kk (by unfold WPR; omega)) rfl))).trans z.2⟩) (fun z => ⟨z.1, ((Eq.trans (x_up_n _ _ _ (by decide)) (Eq.trans (funext fun kk => hM 70 kk (by unfold WPR; omega)) rfl))).trans z.2⟩)) (((Eq.trans (x_up_n _ _ _ (by decide)) (Eq.trans (funext fun kk => hM 71 kk (by unfold WPR; omega)) rfl))).trans hNm) (Eq.trans (x_up_k _ _ _ (by decide)) (Eq.trans (hM 62 14 (by decide)) e_bs)) (by omega) hE (x_up_s _ _ _ _) (Eq.trans (x_up_k _ _ _ (by decide)) (Eq.trans (hM 62 16 (by decide)) e_E)) (by omega) (Eq.trans (x_up_k _ _ _ (by decide)) (hk hok).1) (Eq.trans (x_up_k _ _ _ (by decide)) (e_f1.trans (ftv_1 hok)))) dX10_sums_56 s_62 rfl rfl (Nat.le_of_ble_eq_true rfl) (by omega) ⟨by decide, by decide⟩ (fun v s2 M36 J2 hq => ?_)
            obtain ⟨r38, rfl, rfl, rfl, k37, ⟨f28, a2_29, ok30, cd31, hp32, ea33, ef34, eo35⟩⟩ := hq
            try dsimp only [Option.toList, List.cons_append, List.nil_append]
            have hp32b := pz_b _ _ _ _ _ _ _ _ hp32 (by omega)
            obtain ⟨hp32x, hp32y, -⟩ := hp32b
            replace hp32x : (a1 + 1) ≤ a2_29 := hp32x
            replace hp32y : a2_29 ≤ E := hp32y
            refine xr_istore_n (ls2 := [(3, .int (r38)), (2, .int (0)), (1, .int (v)), (0, .ref (62))]) dX10_sums_59 (by decide) rfl ?_
            refine xr_iload_n dX10_sums_60 1 rfl ?_
            refine xr_if_eq (tgt := 70) dX10_sums_61 rfl (fun _ => ?_) (fun c => absurd (by decide) c)
            refine xr_iload_n dX10_sums_70 2 rfl ?_
            refine xr_iload_n dX10_sums_71 0 rfl ?_
            refine xr_isub dX10_sums_72 ?_
            refine xr_istore_n (ls2 := [(1, .int ((v - r38))), (3, .int (r38)), (2, .int (0)), (0, .ref (62))]) dX10_sums_73 (by decide) rfl ?_
            refine xr_goto (tgt := 5) dX10_sums_74 rfl ?_
            refine xb_ls (ls2 := [(1, .int ((v - r38))), (0, .ref (62))]) [0, 3] rfl ?_
            exact ih a2_29 ok30 (cd1 ++ cd31 ++ [(nb T E a1, 0)]) (v - r38) M36 (by omega) (by omega) (Ke.tr (fun _ _ h => h) (Ke.up (Or.inl (by omega)) hM) k37) ea33 ef34 (fun qk => ⟨(eo35 qk).1, (by rw [(gv_join (hk hok).2.2 (pz_gv N _ _ _ _ _ _ _ _ hp32 (fun z => absurd z (by decide)) qk) ⟨(isJ_ne hj).2.1, (isJ_ne hj).2.2.1, (isJ_ne hj).2.2.2.1, (isJ_ne hj).2.2.2.2.1⟩).2, ← (hk hok).2.1, ← (eo35 qk).2, show nb T E a1 = 45 by have rbc_ := rb_c T E a1; grind]; exact (jn_45).symm), (gv_join (hk hok).2.2 (pz_gv N _ _ _ _ _ _ _ _ hp32 (fun z => absurd z (by decide)) qk) ⟨(isJ_ne hj).2.1, (isJ_ne hj).2.2.1, (isJ_ne hj).2.2.2.1, (isJ_ne hj).2.2.2.2.1⟩).1⟩) (CGo_s (by decide) hgo ⟨hok, hj⟩ hp32)
          · refine xr_iconst (v := 1) dX10_sums_39 rfl ?_
            refine xr_goto (tgt := 44) dX10_sums_40 rfl ?_
            refine xr_istore_n (ls2 := [(2, .int (1)), (1, .int (v)), (0, .ref (62))]) dX10_sums_44 (by decide) rfl ?_
            refine xr_aload_n dX10_sums_45 2 rfl ?_
            refine xr_dup dX10_sums_46 rfl ?_
            refine xb_get (v := nI (a1)) flX10_165 dX10_sums_47 s_62 rfl e_a1 ?_
            refine xr_iconst (v := 1) dX10_sums_50 rfl ?_
            refine xr_iadd dX10_sums_51 ?_
            refine xb_top (y := nI (a1 + 1)) (nI_add (a1) (1)) ?_
            refine xr_putI fpX10_165 dX10_sums_52 s_62 rfl rfl rfl ?_
            refine xr_aload_n dX10_sums_55 2 rfl ?_
            refine xr_callV (As := []) (rest := []) mlX10_193 (hs l G (x_up M1 62 15 (nI (a1 + 1))) J bs T N (a1 + 1) E o (hT.imp (fun z => ⟨z.1, ((Eq.trans (x_up_n _ _ _ (by decide)) (Eq.trans (funext fun kk => hM 69 kk (by unfold WPR; omega)) rfl))).trans z.2⟩) (fun z => ⟨z.1, ((Eq.trans (x_up_n _ _ _ (by decide)) (Eq.trans (funext fun kk => hM 70 kk (by unfold WPR; omega)) rfl))).trans z.2⟩)) (((Eq.trans (x_up_n _ _ _ (by decide)) (Eq.trans (funext fun kk => hM 71 kk (by unfold WPR; omega)) rfl))).trans hNm) (Eq.trans (x_up_k _ _ _ (by decide)) (Eq.trans (hM 62 14 (by decide)) e_bs)) (by omega) hE (x_up_s _ _ _ _) (Eq.trans (x_up_k _ _ _ (by decide)) (Eq.trans (hM 62 16 (by decide)) e_E)) (by omega) (Eq.trans (x_up_k _ _ _ (by decide)) (hk hok).1) (Eq.trans (x_up_k _ _ _ (by decide)) (e_f1.trans (ftv_1 hok)))) dX10_sums_56 s_62 rfl rfl (Nat.le_of_ble_eq_true rfl) (by omega) ⟨by decide, by decide⟩ (fun v s2 M47 J2 hq => ?_)
            obtain ⟨r49, rfl, rfl, rfl, k48, ⟨f39, a2_40, ok41, cd42, hp43, ea44, ef45, eo46⟩⟩ := hq
            try dsimp only [Option.toList, List.cons_append, List.nil_append]
            have hp43b := pz_b _ _ _ _ _ _ _ _ hp43 (by omega)
            obtain ⟨hp43x, hp43y, -⟩ := hp43b
            replace hp43x : (a1 + 1) ≤ a2_40 := hp43x
            replace hp43y : a2_40 ≤ E := hp43y
            refine xr_istore_n (ls2 := [(3, .int (r49)), (2, .int (1)), (1, .int (v)), (0, .ref (62))]) dX10_sums_59 (by decide) rfl ?_
            refine xr_iload_n dX10_sums_60 1 rfl ?_
            refine xr_if_eq (tgt := 70) dX10_sums_61 rfl (fun c => absurd c (by decide)) (fun _ => ?_)
            refine xr_iload_n dX10_sums_64 2 rfl ?_
            refine xr_iload_n dX10_sums_65 0 rfl ?_
            refine xr_iadd dX10_sums_66 ?_
            refine xr_goto (tgt := 73) dX10_sums_67 rfl ?_
            refine xr_istore_n (ls2 := [(1, .int ((v + r49))), (3, .int (r49)), (2, .int (1)), (0, .ref (62))]) dX10_sums_73 (by decide) rfl ?_
            refine xr_goto (tgt := 5) dX10_sums_74 rfl ?_
            refine xb_ls (ls2 := [(1, .int ((v + r49))), (0, .ref (62))]) [0, 3] rfl ?_
            exact ih a2_40 ok41 (cd1 ++ cd42 ++ [(nb T E a1, 0)]) (v + r49) M47 (by omega) (by omega) (Ke.tr (fun _ _ h => h) (Ke.up (Or.inl (by omega)) hM) k48) ea44 ef45 (fun qk => ⟨(eo46 qk).1, (by rw [(gv_join (hk hok).2.2 (pz_gv N _ _ _ _ _ _ _ _ hp43 (fun z => absurd z (by decide)) qk) ⟨(isJ_ne hj).2.1, (isJ_ne hj).2.2.1, (isJ_ne hj).2.2.2.1, (isJ_ne hj).2.2.2.2.1⟩).2, ← (hk hok).2.1, ← (eo46 qk).2, show nb T E a1 = 43 by have rbc_ := rb_c T E a1; grind]; exact (jn_43).symm), (gv_join (hk hok).2.2 (pz_gv N _ _ _ _ _ _ _ _ hp43 (fun z => absurd z (by decide)) qk) ⟨(isJ_ne hj).2.1, (isJ_ne hj).2.2.1, (isJ_ne hj).2.2.2.1, (isJ_ne hj).2.2.2.2.1⟩).1⟩) (CGo_s (by decide) hgo ⟨hok, hj⟩ hp43)
set_option maxRecDepth 100000 in
set_option maxHeartbeats 4000000 in
theorem lt_sums {u : Nat} (hs  : LSv fX10_product (8 * u + 4) 4 u) : LSv fX10_sums (8 * u + 5) 3 u := by
  intro l G M J bs T N a E o hT hNm e_bs haE hE e_a e_E ho e_o e_ft
  refine xb_of pX10 (Nat.le_of_ble_eq_true rfl) rfl ?_
  refine xr_aload_n dX10_sums_0 0 rfl ?_
  refine xr_callV (As := []) (rest := []) mlX10_193 (hs l G M J bs T N a E o (hT.imp (fun z => ⟨z.1, (rfl).trans z.2⟩) (fun z => ⟨z.1, (rfl).trans z.2⟩)) ((rfl).trans hNm) e_bs (by omega) hE e_a e_E (by omega) e_o e_ft) dX10_sums_1 s_62 rfl rfl (Nat.le_of_ble_eq_true rfl) (by omega) ⟨by decide, by decide⟩ (fun v s2 M9 J2 hq => ?_)
  obtain ⟨r11, rfl, rfl, rfl, k10, ⟨f1, a2_2, ok3, cd4, hp5, ea6, ef7, eo8⟩⟩ := hq
  try dsimp only [Option.toList, List.cons_append, List.nil_append]
  have hp5b := pz_b _ _ _ _ _ _ _ _ hp5 (by omega)
  obtain ⟨hp5x, hp5y, -⟩ := hp5b
  replace hp5x : a ≤ a2_2 := hp5x
  replace hp5y : a2_2 ≤ E := hp5y
  refine xr_istore_n (ls2 := [(1, .int (r11)), (0, .ref (62))]) dX10_sums_4 (by decide) rfl ?_
  refine xb_ls (ls2 := [(1, .int (r11)), (0, .ref (62))]) [0, 1] rfl ?_
  exact ls_sums hs hT hNm e_bs haE hE e_E ho E a2_2 ok3 cd4 r11 M9 (by omega) (by omega) (Ke.tr (fun _ _ h => h) Ke.rf k10) ea6 ef7 (fun qk => ⟨(eo8 qk).1, (eo8 qk).2, pz_gv N _ _ _ _ _ _ _ _ hp5 (fun z => absurd z (by decide)) qk⟩) (CGo_0 (by decide) hp5)
set_option maxRecDepth 100000 in
set_option maxHeartbeats 4000000 in
theorem lt_compared {u : Nat} (hs  : LSv fX10_sums (8 * u + 5) 3 u) : LSv fX10_compared (8 * u + 6) 2 u := by
  intro l G M J bs T N a E o hT hNm e_bs haE hE e_a e_E ho e_o e_ft
  refine xb_of pX10 (Nat.le_of_ble_eq_true rfl) rfl ?_
  refine xr_aload_n dX10_compared_0 0 rfl ?_
  refine xr_callV (As := []) (rest := []) mlX10_190 (hs l G M J bs T N a E o (hT.imp (fun z => ⟨z.1, (rfl).trans z.2⟩) (fun z => ⟨z.1, (rfl).trans z.2⟩)) ((rfl).trans hNm) e_bs (by omega) hE e_a e_E (by omega) e_o e_ft) dX10_compared_1 s_62 rfl rfl (Nat.le_of_ble_eq_true rfl) (by omega) ⟨by decide, by decide⟩ (fun v s2 M9 J2 hq => ?_)
  obtain ⟨r11, rfl, rfl, rfl, k10, ⟨f1, a2_2, ok3, cd4, hp5, ea6, ef7, eo8⟩⟩ := hq
  try dsimp only [Option.toList, List.cons_append, List.nil_append]
  have hp5b := pz_b _ _ _ _ _ _ _ _ hp5 (by omega)
  obtain ⟨hp5x, hp5y, -⟩ := hp5b
  replace hp5x : a ≤ a2_2 := hp5x
  replace hp5y : a2_2 ≤ E := hp5y
  refine xr_istore_n (ls2 := [(1, .int (r11)), (0, .ref (62))]) dX10_compared_4 (by decide) rfl ?_
  refine xr_aload_n dX10_compared_5 1 rfl ?_
  refine xb_cV (As := []) (rest := []) mlX10_177 (c_X10_byteAt (T := T) (a := a2_2) (E := E) (hT.imp (fun z => ⟨z.1, ((Eq.trans (funext fun kk => k10 69 kk (by unfold WPR; omega)) rfl)).trans z.2⟩) (fun z => ⟨z.1, ((Eq.trans (funext fun kk => k10 70 kk (by unfold WPR; omega)) rfl)).trans z.2⟩)) (Eq.trans (k10 62 14 (by decide)) e_bs) (by omega) (by omega) ea6 (Eq.trans (k10 62 16 (by decide)) e_E)) dX10_compared_6 s_62 rfl rfl (Nat.le_of_ble_eq_true rfl) (by omega) (by decide) ?_
  refine xr_istore_n (ls2 := [(2, .int ((rb T E a2_2))), (1, .int (r11)), (0, .ref (62))]) dX10_compared_9 (by decide) rfl ?_
  refine xr_aload_n dX10_compared_10 2 rfl ?_
  refine xb_get (v := (ftv ok3 a2_2)) flX10_174 dX10_compared_11 s_62 rfl ef7 ?_
  refine xr_if_ge (tgt := 35) dX10_compared_14 rfl (fun c12 => ?_) (fun c12 => ?_)
  · refine xr_iload_n dX10_compared_35 1 rfl ?_
    exact xr_iret dX10_compared_36 rfl rfl ((by obtain ⟨f2, hf2⟩ := CGo_end (CGo_0 (by decide) hp5) (fun z => by have z2 := of_decide_eq_true (p := nb T E a2_2 = 60 ∨ nb T E a2_2 = 61 ∨ nb T E a2_2 = 62) z.2; have z1 := ftv_1 (a := a2_2) z.1; have rbc_ := rb_c T E a2_2; grind); exact ⟨_, rfl, rfl, rfl, (Ke.tr (fun _ _ h => h) Ke.rf k10), f2, a2_2, ok3, cd4, hf2, ea6, ef7, eo8⟩))
  · refine xr_iload_n dX10_compared_17 0 rfl ?_
    refine xr_bipush (v := 60) dX10_compared_18 rfl ?_
    refine xr_icmp_eq (tgt := 37) dX10_compared_20 rfl (fun c13 => ?_) (fun c13 => ?_)
    · have hok : ok3 = true := ftv_ok (a := a2_2) (by omega) (by grind)
      have hj : isJ 2 (nb T E a2_2) = true := (decide_eq_true (show nb T E a2_2 = 60 ∨ nb T E a2_2 = 61 ∨ nb T E a2_2 = 62 by have rbc_ := rb_c T E a2_2; grind))
      have hl : a2_2 < E := nb_lt (T := T) (isJ_ne hj).1
      refine xr_aload_n dX10_compared_37 2 rfl ?_
      refine xr_dup dX10_compared_38 rfl ?_
      refine xb_get (v := nI (a2_2)) flX10_165 dX10_compared_39 s_62 rfl ea6 ?_
      refine xr_iconst (v := 1) dX10_compared_42 rfl ?_
      refine xr_iadd dX10_compared_43 ?_
      refine xb_top (y := nI (a2_2 + 1)) (nI_add (a2_2) (1)) ?_
      refine xr_putI fpX10_165 dX10_compared_44 s_62 rfl rfl rfl ?_
      refine xr_aload_n dX10_compared_47 2 rfl ?_
      refine xr_callV (As := []) (rest := []) mlX10_190 (hs l G (x_up M9 62 15 (nI (a2_2 + 1))) J bs T N (a2_2 + 1) E o (hT.imp (fun z => ⟨z.1, ((Eq.trans (x_up_n _ _ _ (by decide)) (Eq.trans (funext fun kk => k10 69 kk (by unfold WPR; omega)) rfl))).trans z.2⟩) (fun z => ⟨z.1, ((Eq.trans (x_up_n _ _ _ (by decide)) (Eq.trans (funext fun kk => k10 70 kk (by unfold WPR; omega)) rfl))).trans z.2⟩)) (((Eq.trans (x_up_n _ _ _ (by decide)) (Eq.trans (funext fun kk => k10 71 kk (by unfold WPR; omega)) rfl))).trans hNm) (Eq.trans (x_up_k _ _ _ (by decide)) (Eq.trans (k10 62 14 (by decide)) e_bs)) (by omega) hE (x_up_s _ _ _ _) (Eq.trans (x_up_k _ _ _ (by decide)) (Eq.trans (k10 62 16 (by decide)) e_E)) (by omega) (Eq.trans (x_up_k _ _ _ (by decide)) ((rfl).trans (eo8 hok).1)) (Eq.trans (x_up_k _ _ _ (by decide)) ((ef7).trans (ftv_1 hok)))) dX10_compared_48 s_62 rfl rfl (Nat.le_of_ble_eq_true rfl) (by omega) ⟨by decide, by decide⟩ (fun v s2 M22 J2 hq => ?_)
      obtain ⟨r24, rfl, rfl, rfl, k23, ⟨f14, a2_15, ok16, cd17, hp18, ea19, ef20, eo21⟩⟩ := hq
      try dsimp only [Option.toList, List.cons_append, List.nil_append]
      have hp18b := pz_b _ _ _ _ _ _ _ _ hp18 (by omega)
      obtain ⟨hp18x, hp18y, -⟩ := hp18b
      replace hp18x : (a2_2 + 1) ≤ a2_15 := hp18x
      replace hp18y : a2_15 ≤ E := hp18y
      refine xr_istore_n (ls2 := [(3, .int (r24)), (2, .int ((rb T E a2_2))), (1, .int (r11)), (0, .ref (62))]) dX10_compared_51 (by decide) rfl ?_
      refine xr_iload_n dX10_compared_52 1 rfl ?_
      refine xr_bipush (v := 60) dX10_compared_53 rfl ?_
      refine xr_icmp_ne (tgt := 66) dX10_compared_55 rfl (fun c25 => ?_) (fun c25 => ?_)
      · refine xr_iload_n dX10_compared_66 1 rfl ?_
        refine xr_bipush (v := 61) dX10_compared_67 rfl ?_
        refine xr_icmp_ne (tgt := 80) dX10_compared_69 rfl (fun c26 => ?_) (fun c26 => ?_)
        · refine xr_iload_n dX10_compared_80 2 rfl ?_
          refine xr_iload_n dX10_compared_81 0 rfl ?_
          refine xr_icmp_le (tgt := 89) dX10_compared_82 rfl (fun c27 => ?_) (fun c27 => ?_)
          · refine xr_iconst (v := 0) dX10_compared_89 rfl ?_
            exact xr_iret dX10_compared_90 rfl rfl ((by obtain ⟨f2, hf2⟩ := CGo_2 (CGo_0 (by decide) hp5) ⟨hok, hj⟩ hp18; exact ⟨_, rfl, rfl, rfl, (Ke.tr (fun _ _ h => h) (Ke.up (Or.inl (by omega)) (Ke.tr (fun _ _ h => h) Ke.rf k10)) k23), f2, a2_15, ok16, _, hf2, ea19, ef20, fun qk => ⟨(rfl).trans (eo21 qk).1, (by rw [(gv_join (pz_gv N _ _ _ _ _ _ _ _ hp5 (fun z => absurd z (by decide)) hok) (pz_gv N _ _ _ _ _ _ _ _ hp18 (fun z => absurd z (by decide)) qk) ⟨(isJ_ne hj).2.1, (isJ_ne hj).2.2.1, (isJ_ne hj).2.2.2.1, (isJ_ne hj).2.2.2.2.1⟩).2, ← (eo8 hok).2, ← (eo21 qk).2, show nb T E a2_2 = 62 by have rbc_ := rb_c T E a2_2; grind, jn_62]; grind)⟩⟩))
          · refine xr_iconst (v := 1) dX10_compared_85 rfl ?_
            refine xr_goto (tgt := 90) dX10_compared_86 rfl ?_
            exact xr_iret dX10_compared_90 rfl rfl ((by obtain ⟨f2, hf2⟩ := CGo_2 (CGo_0 (by decide) hp5) ⟨hok, hj⟩ hp18; exact ⟨_, rfl, rfl, rfl, (Ke.tr (fun _ _ h => h) (Ke.up (Or.inl (by omega)) (Ke.tr (fun _ _ h => h) Ke.rf k10)) k23), f2, a2_15, ok16, _, hf2, ea19, ef20, fun qk => ⟨(rfl).trans (eo21 qk).1, (by rw [(gv_join (pz_gv N _ _ _ _ _ _ _ _ hp5 (fun z => absurd z (by decide)) hok) (pz_gv N _ _ _ _ _ _ _ _ hp18 (fun z => absurd z (by decide)) qk) ⟨(isJ_ne hj).2.1, (isJ_ne hj).2.2.1, (isJ_ne hj).2.2.2.1, (isJ_ne hj).2.2.2.2.1⟩).2, ← (eo8 hok).2, ← (eo21 qk).2, show nb T E a2_2 = 62 by have rbc_ := rb_c T E a2_2; grind, jn_62]; grind)⟩⟩))
        · refine xr_iload_n dX10_compared_72 2 rfl ?_
          refine xr_iload_n dX10_compared_73 0 rfl ?_
          refine xr_icmp_ne (tgt := 89) dX10_compared_74 rfl (fun c28 => ?_) (fun c28 => ?_)
          · refine xr_iconst (v := 0) dX10_compared_89 rfl ?_
            exact xr_iret dX10_compared_90 rfl rfl ((by obtain ⟨f2, hf2⟩ := CGo_2 (CGo_0 (by decide) hp5) ⟨hok, hj⟩ hp18; exact ⟨_, rfl, rfl, rfl, (Ke.tr (fun _ _ h => h) (Ke.up (Or.inl (by omega)) (Ke.tr (fun _ _ h => h) Ke.rf k10)) k23), f2, a2_15, ok16, _, hf2, ea19, ef20, fun qk => ⟨(rfl).trans (eo21 qk).1, (by rw [(gv_join (pz_gv N _ _ _ _ _ _ _ _ hp5 (fun z => absurd z (by decide)) hok) (pz_gv N _ _ _ _ _ _ _ _ hp18 (fun z => absurd z (by decide)) qk) ⟨(isJ_ne hj).2.1, (isJ_ne hj).2.2.1, (isJ_ne hj).2.2.2.1, (isJ_ne hj).2.2.2.2.1⟩).2, ← (eo8 hok).2, ← (eo21 qk).2, show nb T E a2_2 = 61 by have rbc_ := rb_c T E a2_2; grind, jn_61]; grind)⟩⟩))
          · refine xr_goto (tgt := 85) dX10_compared_77 rfl ?_
            refine xr_iconst (v := 1) dX10_compared_85 rfl ?_
            refine xr_goto (tgt := 90) dX10_compared_86 rfl ?_
            exact xr_iret dX10_compared_90 rfl rfl ((by obtain ⟨f2, hf2⟩ := CGo_2 (CGo_0 (by decide) hp5) ⟨hok, hj⟩ hp18; exact ⟨_, rfl, rfl, rfl, (Ke.tr (fun _ _ h => h) (Ke.up (Or.inl (by omega)) (Ke.tr (fun _ _ h => h) Ke.rf k10)) k23), f2, a2_15, ok16, _, hf2, ea19, ef20, fun qk => ⟨(rfl).trans (eo21 qk).1, (by rw [(gv_join (pz_gv N _ _ _ _ _ _ _ _ hp5 (fun z => absurd z (by decide)) hok) (pz_gv N _ _ _ _ _ _ _ _ hp18 (fun z => absurd z (by decide)) qk) ⟨(isJ_ne hj).2.1, (isJ_ne hj).2.2.1, (isJ_ne hj).2.2.2.1, (isJ_ne hj).2.2.2.2.1⟩).2, ← (eo8 hok).2, ← (eo21 qk).2, show nb T E a2_2 = 61 by have rbc_ := rb_c T E a2_2; grind, jn_61]; grind)⟩⟩))
      · refine xr_iload_n dX10_compared_58 2 rfl ?_
        refine xr_iload_n dX10_compared_59 0 rfl ?_
        refine xr_icmp_ge (tgt := 89) dX10_compared_60 rfl (fun c29 => ?_) (fun c29 => ?_)
        · refine xr_iconst (v := 0) dX10_compared_89 rfl ?_
          exact xr_iret dX10_compared_90 rfl rfl ((by obtain ⟨f2, hf2⟩ := CGo_2 (CGo_0 (by decide) hp5) ⟨hok, hj⟩ hp18; exact ⟨_, rfl, rfl, rfl, (Ke.tr (fun _ _ h => h) (Ke.up (Or.inl (by omega)) (Ke.tr (fun _ _ h => h) Ke.rf k10)) k23), f2, a2_15, ok16, _, hf2, ea19, ef20, fun qk => ⟨(rfl).trans (eo21 qk).1, (by rw [(gv_join (pz_gv N _ _ _ _ _ _ _ _ hp5 (fun z => absurd z (by decide)) hok) (pz_gv N _ _ _ _ _ _ _ _ hp18 (fun z => absurd z (by decide)) qk) ⟨(isJ_ne hj).2.1, (isJ_ne hj).2.2.1, (isJ_ne hj).2.2.2.1, (isJ_ne hj).2.2.2.2.1⟩).2, ← (eo8 hok).2, ← (eo21 qk).2, show nb T E a2_2 = 60 by have rbc_ := rb_c T E a2_2; grind, jn_60]; grind)⟩⟩))
        · refine xr_goto (tgt := 85) dX10_compared_63 rfl ?_
          refine xr_iconst (v := 1) dX10_compared_85 rfl ?_
          refine xr_goto (tgt := 90) dX10_compared_86 rfl ?_
          exact xr_iret dX10_compared_90 rfl rfl ((by obtain ⟨f2, hf2⟩ := CGo_2 (CGo_0 (by decide) hp5) ⟨hok, hj⟩ hp18; exact ⟨_, rfl, rfl, rfl, (Ke.tr (fun _ _ h => h) (Ke.up (Or.inl (by omega)) (Ke.tr (fun _ _ h => h) Ke.rf k10)) k23), f2, a2_15, ok16, _, hf2, ea19, ef20, fun qk => ⟨(rfl).trans (eo21 qk).1, (by rw [(gv_join (pz_gv N _ _ _ _ _ _ _ _ hp5 (fun z => absurd z (by decide)) hok) (pz_gv N _ _ _ _ _ _ _ _ hp18 (fun z => absurd z (by decide)) qk) ⟨(isJ_ne hj).2.1, (isJ_ne hj).2.2.1, (isJ_ne hj).2.2.2.1, (isJ_ne hj).2.2.2.2.1⟩).2, ← (eo8 hok).2, ← (eo21 qk).2, show nb T E a2_2 = 60 by have rbc_ := rb_c T E a2_2; grind, jn_60]; grind)⟩⟩))
    · refine xr_iload_n dX10_compared_23 0 rfl ?_
      refine xr_bipush (v := 61) dX10_compared_24 rfl ?_
      refine xr_icmp_eq (tgt := 37) dX10_compared_26 rfl (fun c30 => ?_) (fun c30 => ?_)
      · have hok : ok3 = true := ftv_ok (a := a2_2) (by omega) (by grind)
        have hj : isJ 2 (nb T E a2_2) = true := (decide_eq_true (show nb T E a2_2 = 60 ∨ nb T E a2_2 = 61 ∨ nb T E a2_2 = 62 by have rbc_ := rb_c T E a2_2; grind))
        have hl : a2_2 < E := nb_lt (T := T) (isJ_ne hj).1
        refine xr_aload_n dX10_compared_37 2 rfl ?_
        refine xr_dup dX10_compared_38 rfl ?_
        refine xb_get (v := nI (a2_2)) flX10_165 dX10_compared_39 s_62 rfl ea6 ?_
        refine xr_iconst (v := 1) dX10_compared_42 rfl ?_
        refine xr_iadd dX10_compared_43 ?_
        refine xb_top (y := nI (a2_2 + 1)) (nI_add (a2_2) (1)) ?_
        refine xr_putI fpX10_165 dX10_compared_44 s_62 rfl rfl rfl ?_
        refine xr_aload_n dX10_compared_47 2 rfl ?_
        refine xr_callV (As := []) (rest := []) mlX10_190 (hs l G (x_up M9 62 15 (nI (a2_2 + 1))) J bs T N (a2_2 + 1) E o (hT.imp (fun z => ⟨z.1, ((Eq.trans (x_up_n _ _ _ (by decide)) (Eq.trans (funext fun kk => k10 69 kk (by unfold WPR; omega)) rfl))).trans z.2⟩) (fun z => ⟨z.1, ((Eq.trans (x_up_n _ _ _ (by decide)) (Eq.trans (funext fun kk => k10 70 kk (by unfold WPR; omega)) rfl))).trans z.2⟩)) (((Eq.trans (x_up_n _ _ _ (by decide)) (Eq.trans (funext fun kk => k10 71 kk (by unfold WPR; omega)) rfl))).trans hNm) (Eq.trans (x_up_k _ _ _ (by decide)) (Eq.trans (k10 62 14 (by decide)) e_bs)) (by omega) hE (x_up_s _ _ _ _) (Eq.trans (x_up_k _ _ _ (by decide)) (Eq.trans (k10 62 16 (by decide)) e_E)) (by omega) (Eq.trans (x_up_k _ _ _ (by decide)) ((rfl).trans (eo8 hok).1)) (Eq.trans (x_up_k _ _ _ (by decide)) ((ef7).trans (ftv_1 hok)))) dX10_compared_48 s_62 rfl rfl (Nat.le_of_ble_eq_true rfl) (by omega) ⟨by decide, by decide⟩ (fun v s2 M39 J2 hq => ?_)
        obtain ⟨r41, rfl, rfl, rfl, k40, ⟨f31, a2_32, ok33, cd34, hp35, ea36, ef37, eo38⟩⟩ := hq
        try dsimp only [Option.toList, List.cons_append, List.nil_append]
        have hp35b := pz_b _ _ _ _ _ _ _ _ hp35 (by omega)
        obtain ⟨hp35x, hp35y, -⟩ := hp35b
        replace hp35x : (a2_2 + 1) ≤ a2_32 := hp35x
        replace hp35y : a2_32 ≤ E := hp35y
        refine xr_istore_n (ls2 := [(3, .int (r41)), (2, .int ((rb T E a2_2))), (1, .int (r11)), (0, .ref (62))]) dX10_compared_51 (by decide) rfl ?_
        refine xr_iload_n dX10_compared_52 1 rfl ?_
        refine xr_bipush (v := 60) dX10_compared_53 rfl ?_
        refine xr_icmp_ne (tgt := 66) dX10_compared_55 rfl (fun c42 => ?_) (fun c42 => ?_)
        · refine xr_iload_n dX10_compared_66 1 rfl ?_
          refine xr_bipush (v := 61) dX10_compared_67 rfl ?_
          refine xr_icmp_ne (tgt := 80) dX10_compared_69 rfl (fun c43 => ?_) (fun c43 => ?_)
          · refine xr_iload_n dX10_compared_80 2 rfl ?_
            refine xr_iload_n dX10_compared_81 0 rfl ?_
            refine xr_icmp_le (tgt := 89) dX10_compared_82 rfl (fun c44 => ?_) (fun c44 => ?_)
            · refine xr_iconst (v := 0) dX10_compared_89 rfl ?_
              exact xr_iret dX10_compared_90 rfl rfl ((by obtain ⟨f2, hf2⟩ := CGo_2 (CGo_0 (by decide) hp5) ⟨hok, hj⟩ hp35; exact ⟨_, rfl, rfl, rfl, (Ke.tr (fun _ _ h => h) (Ke.up (Or.inl (by omega)) (Ke.tr (fun _ _ h => h) Ke.rf k10)) k40), f2, a2_32, ok33, _, hf2, ea36, ef37, fun qk => ⟨(rfl).trans (eo38 qk).1, (by rw [(gv_join (pz_gv N _ _ _ _ _ _ _ _ hp5 (fun z => absurd z (by decide)) hok) (pz_gv N _ _ _ _ _ _ _ _ hp35 (fun z => absurd z (by decide)) qk) ⟨(isJ_ne hj).2.1, (isJ_ne hj).2.2.1, (isJ_ne hj).2.2.2.1, (isJ_ne hj).2.2.2.2.1⟩).2, ← (eo8 hok).2, ← (eo38 qk).2, show nb T E a2_2 = 62 by have rbc_ := rb_c T E a2_2; grind, jn_62]; grind)⟩⟩))
            · refine xr_iconst (v := 1) dX10_compared_85 rfl ?_
              refine xr_goto (tgt := 90) dX10_compared_86 rfl ?_
              exact xr_iret dX10_compared_90 rfl rfl ((by obtain ⟨f2, hf2⟩ := CGo_2 (CGo_0 (by decide) hp5) ⟨hok, hj⟩ hp35; exact ⟨_, rfl, rfl, rfl, (Ke.tr (fun _ _ h => h) (Ke.up (Or.inl (by omega)) (Ke.tr (fun _ _ h => h) Ke.rf k10)) k40), f2, a2_32, ok33, _, hf2, ea36, ef37, fun qk => ⟨(rfl).trans (eo38 qk).1, (by rw [(gv_join (pz_gv N _ _ _ _ _ _ _ _ hp5 (fun z => absurd z (by decide)) hok) (pz_gv N _ _ _ _ _ _ _ _ hp35 (fun z => absurd z (by decide)) qk) ⟨(isJ_ne hj).2.1, (isJ_ne hj).2.2.1, (isJ_ne hj).2.2.2.1, (isJ_ne hj).2.2.2.2.1⟩).2, ← (eo8 hok).2, ← (eo38 qk).2, show nb T E a2_2 = 62 by have rbc_ := rb_c T E a2_2; grind, jn_62]; grind)⟩⟩))
          · refine xr_iload_n dX10_compared_72 2 rfl ?_
            refine xr_iload_n dX10_compared_73 0 rfl ?_
            refine xr_icmp_ne (tgt := 89) dX10_compared_74 rfl (fun c45 => ?_) (fun c45 => ?_)
            · refine xr_iconst (v := 0) dX10_compared_89 rfl ?_
              exact xr_iret dX10_compared_90 rfl rfl ((by obtain ⟨f2, hf2⟩ := CGo_2 (CGo_0 (by decide) hp5) ⟨hok, hj⟩ hp35; exact ⟨_, rfl, rfl, rfl, (Ke.tr (fun _ _ h => h) (Ke.up (Or.inl (by omega)) (Ke.tr (fun _ _ h => h) Ke.rf k10)) k40), f2, a2_32, ok33, _, hf2, ea36, ef37, fun qk => ⟨(rfl).trans (eo38 qk).1, (by rw [(gv_join (pz_gv N _ _ _ _ _ _ _ _ hp5 (fun z => absurd z (by decide)) hok) (pz_gv N _ _ _ _ _ _ _ _ hp35 (fun z => absurd z (by decide)) qk) ⟨(isJ_ne hj).2.1, (isJ_ne hj).2.2.1, (isJ_ne hj).2.2.2.1, (isJ_ne hj).2.2.2.2.1⟩).2, ← (eo8 hok).2, ← (eo38 qk).2, show nb T E a2_2 = 61 by have rbc_ := rb_c T E a2_2; grind, jn_61]; grind)⟩⟩))
            · refine xr_goto (tgt := 85) dX10_compared_77 rfl ?_
              refine xr_iconst (v := 1) dX10_compared_85 rfl ?_
              refine xr_goto (tgt := 90) dX10_compared_86 rfl ?_
              exact xr_iret dX10_compared_90 rfl rfl ((by obtain ⟨f2, hf2⟩ := CGo_2 (CGo_0 (by decide) hp5) ⟨hok, hj⟩ hp35; exact ⟨_, rfl, rfl, rfl, (Ke.tr (fun _ _ h => h) (Ke.up (Or.inl (by omega)) (Ke.tr (fun _ _ h => h) Ke.rf k10)) k40), f2, a2_32, ok33, _, hf2, ea36, ef37, fun qk => ⟨(rfl).trans (eo38 qk).1, (by rw [(gv_join (pz_gv N _ _ _ _ _ _ _ _ hp5 (fun z => absurd z (by decide)) hok) (pz_gv N _ _ _ _ _ _ _ _ hp35 (fun z => absurd z (by decide)) qk) ⟨(isJ_ne hj).2.1, (isJ_ne hj).2.2.1, (isJ_ne hj).2.2.2.1, (isJ_ne hj).2.2.2.2.1⟩).2, ← (eo8 hok).2, ← (eo38 qk).2, show nb T E a2_2 = 61 by have rbc_ := rb_c T E a2_2; grind, jn_61]; grind)⟩⟩))
        · refine xr_iload_n dX10_compared_58 2 rfl ?_
          refine xr_iload_n dX10_compared_59 0 rfl ?_
          refine xr_icmp_ge (tgt := 89) dX10_compared_60 rfl (fun c46 => ?_) (fun c46 => ?_)
          · refine xr_iconst (v := 0) dX10_compared_89 rfl ?_
            exact xr_iret dX10_compared_90 rfl rfl ((by obtain ⟨f2, hf2⟩ := CGo_2 (CGo_0 (by decide) hp5) ⟨hok, hj⟩ hp35; exact ⟨_, rfl, rfl, rfl, (Ke.tr (fun _ _ h => h) (Ke.up (Or.inl (by omega)) (Ke.tr (fun _ _ h => h) Ke.rf k10)) k40), f2, a2_32, ok33, _, hf2, ea36, ef37, fun qk => ⟨(rfl).trans (eo38 qk).1, (by rw [(gv_join (pz_gv N _ _ _ _ _ _ _ _ hp5 (fun z => absurd z (by decide)) hok) (pz_gv N _ _ _ _ _ _ _ _ hp35 (fun z => absurd z (by decide)) qk) ⟨(isJ_ne hj).2.1, (isJ_ne hj).2.2.1, (isJ_ne hj).2.2.2.1, (isJ_ne hj).2.2.2.2.1⟩).2, ← (eo8 hok).2, ← (eo38 qk).2, show nb T E a2_2 = 60 by have rbc_ := rb_c T E a2_2; grind, jn_60]; grind)⟩⟩))
          · refine xr_goto (tgt := 85) dX10_compared_63 rfl ?_
            refine xr_iconst (v := 1) dX10_compared_85 rfl ?_
            refine xr_goto (tgt := 90) dX10_compared_86 rfl ?_
            exact xr_iret dX10_compared_90 rfl rfl ((by obtain ⟨f2, hf2⟩ := CGo_2 (CGo_0 (by decide) hp5) ⟨hok, hj⟩ hp35; exact ⟨_, rfl, rfl, rfl, (Ke.tr (fun _ _ h => h) (Ke.up (Or.inl (by omega)) (Ke.tr (fun _ _ h => h) Ke.rf k10)) k40), f2, a2_32, ok33, _, hf2, ea36, ef37, fun qk => ⟨(rfl).trans (eo38 qk).1, (by rw [(gv_join (pz_gv N _ _ _ _ _ _ _ _ hp5 (fun z => absurd z (by decide)) hok) (pz_gv N _ _ _ _ _ _ _ _ hp35 (fun z => absurd z (by decide)) qk) ⟨(isJ_ne hj).2.1, (isJ_ne hj).2.2.1, (isJ_ne hj).2.2.2.1, (isJ_ne hj).2.2.2.2.1⟩).2, ← (eo8 hok).2, ← (eo38 qk).2, show nb T E a2_2 = 60 by have rbc_ := rb_c T E a2_2; grind, jn_60]; grind)⟩⟩))
      · refine xr_iload_n dX10_compared_29 0 rfl ?_
        refine xr_bipush (v := 62) dX10_compared_30 rfl ?_
        refine xr_icmp_eq (tgt := 37) dX10_compared_32 rfl (fun c47 => ?_) (fun c47 => ?_)
        · have hok : ok3 = true := ftv_ok (a := a2_2) (by omega) (by grind)
          have hj : isJ 2 (nb T E a2_2) = true := (decide_eq_true (show nb T E a2_2 = 60 ∨ nb T E a2_2 = 61 ∨ nb T E a2_2 = 62 by have rbc_ := rb_c T E a2_2; grind))
          have hl : a2_2 < E := nb_lt (T := T) (isJ_ne hj).1
          refine xr_aload_n dX10_compared_37 2 rfl ?_
          refine xr_dup dX10_compared_38 rfl ?_
          refine xb_get (v := nI (a2_2)) flX10_165 dX10_compared_39 s_62 rfl ea6 ?_
          refine xr_iconst (v := 1) dX10_compared_42 rfl ?_
          refine xr_iadd dX10_compared_43 ?_
          refine xb_top (y := nI (a2_2 + 1)) (nI_add (a2_2) (1)) ?_
          refine xr_putI fpX10_165 dX10_compared_44 s_62 rfl rfl rfl ?_
          refine xr_aload_n dX10_compared_47 2 rfl ?_
          refine xr_callV (As := []) (rest := []) mlX10_190 (hs l G (x_up M9 62 15 (nI (a2_2 + 1))) J bs T N (a2_2 + 1) E o (hT.imp (fun z => ⟨z.1, ((Eq.trans (x_up_n _ _ _ (by decide)) (Eq.trans (funext fun kk => k10 69 kk (by unfold WPR; omega)) rfl))).trans z.2⟩) (fun z => ⟨z.1, ((Eq.trans (x_up_n _ _ _ (by decide)) (Eq.trans (funext fun kk => k10 70 kk (by unfold WPR; omega)) rfl))).trans z.2⟩)) (((Eq.trans (x_up_n _ _ _ (by decide)) (Eq.trans (funext fun kk => k10 71 kk (by unfold WPR; omega)) rfl))).trans hNm) (Eq.trans (x_up_k _ _ _ (by decide)) (Eq.trans (k10 62 14 (by decide)) e_bs)) (by omega) hE (x_up_s _ _ _ _) (Eq.trans (x_up_k _ _ _ (by decide)) (Eq.trans (k10 62 16 (by decide)) e_E)) (by omega) (Eq.trans (x_up_k _ _ _ (by decide)) ((rfl).trans (eo8 hok).1)) (Eq.trans (x_up_k _ _ _ (by decide)) ((ef7).trans (ftv_1 hok)))) dX10_compared_48 s_62 rfl rfl (Nat.le_of_ble_eq_true rfl) (by omega) ⟨by decide, by decide⟩ (fun v s2 M56 J2 hq => ?_)
          obtain ⟨r58, rfl, rfl, rfl, k57, ⟨f48, a2_49, ok50, cd51, hp52, ea53, ef54, eo55⟩⟩ := hq
          try dsimp only [Option.toList, List.cons_append, List.nil_append]
          have hp52b := pz_b _ _ _ _ _ _ _ _ hp52 (by omega)
          obtain ⟨hp52x, hp52y, -⟩ := hp52b
          replace hp52x : (a2_2 + 1) ≤ a2_49 := hp52x
          replace hp52y : a2_49 ≤ E := hp52y
          refine xr_istore_n (ls2 := [(3, .int (r58)), (2, .int ((rb T E a2_2))), (1, .int (r11)), (0, .ref (62))]) dX10_compared_51 (by decide) rfl ?_
          refine xr_iload_n dX10_compared_52 1 rfl ?_
          refine xr_bipush (v := 60) dX10_compared_53 rfl ?_
          refine xr_icmp_ne (tgt := 66) dX10_compared_55 rfl (fun c59 => ?_) (fun c59 => ?_)
          · refine xr_iload_n dX10_compared_66 1 rfl ?_
            refine xr_bipush (v := 61) dX10_compared_67 rfl ?_
            refine xr_icmp_ne (tgt := 80) dX10_compared_69 rfl (fun c60 => ?_) (fun c60 => ?_)
            · refine xr_iload_n dX10_compared_80 2 rfl ?_
              refine xr_iload_n dX10_compared_81 0 rfl ?_
              refine xr_icmp_le (tgt := 89) dX10_compared_82 rfl (fun c61 => ?_) (fun c61 => ?_)
              · refine xr_iconst (v := 0) dX10_compared_89 rfl ?_
                exact xr_iret dX10_compared_90 rfl rfl ((by obtain ⟨f2, hf2⟩ := CGo_2 (CGo_0 (by decide) hp5) ⟨hok, hj⟩ hp52; exact ⟨_, rfl, rfl, rfl, (Ke.tr (fun _ _ h => h) (Ke.up (Or.inl (by omega)) (Ke.tr (fun _ _ h => h) Ke.rf k10)) k57), f2, a2_49, ok50, _, hf2, ea53, ef54, fun qk => ⟨(rfl).trans (eo55 qk).1, (by rw [(gv_join (pz_gv N _ _ _ _ _ _ _ _ hp5 (fun z => absurd z (by decide)) hok) (pz_gv N _ _ _ _ _ _ _ _ hp52 (fun z => absurd z (by decide)) qk) ⟨(isJ_ne hj).2.1, (isJ_ne hj).2.2.1, (isJ_ne hj).2.2.2.1, (isJ_ne hj).2.2.2.2.1⟩).2, ← (eo8 hok).2, ← (eo55 qk).2, show nb T E a2_2 = 62 by have rbc_ := rb_c T E a2_2; grind, jn_62]; grind)⟩⟩))
              · refine xr_iconst (v := 1) dX10_compared_85 rfl ?_
                refine xr_goto (tgt := 90) dX10_compared_86 rfl ?_
                exact xr_iret dX10_compared_90 rfl rfl ((by obtain ⟨f2, hf2⟩ := CGo_2 (CGo_0 (by decide) hp5) ⟨hok, hj⟩ hp52; exact ⟨_, rfl, rfl, rfl, (Ke.tr (fun _ _ h => h) (Ke.up (Or.inl (by omega)) (Ke.tr (fun _ _ h => h) Ke.rf k10)) k57), f2, a2_49, ok50, _, hf2, ea53, ef54, fun qk => ⟨(rfl).trans (eo55 qk).1, (by rw [(gv_join (pz_gv N _ _ _ _ _ _ _ _ hp5 (fun z => absurd z (by decide)) hok) (pz_gv N _ _ _ _ _ _ _ _ hp52 (fun z => absurd z (by decide)) qk) ⟨(isJ_ne hj).2.1, (isJ_ne hj).2.2.1, (isJ_ne hj).2.2.2.1, (isJ_ne hj).2.2.2.2.1⟩).2, ← (eo8 hok).2, ← (eo55 qk).2, show nb T E a2_2 = 62 by have rbc_ := rb_c T E a2_2; grind, jn_62]; grind)⟩⟩))
            · refine xr_iload_n dX10_compared_72 2 rfl ?_
              refine xr_iload_n dX10_compared_73 0 rfl ?_
              refine xr_icmp_ne (tgt := 89) dX10_compared_74 rfl (fun c62 => ?_) (fun c62 => ?_)
              · refine xr_iconst (v := 0) dX10_compared_89 rfl ?_
                exact xr_iret dX10_compared_90 rfl rfl ((by obtain ⟨f2, hf2⟩ := CGo_2 (CGo_0 (by decide) hp5) ⟨hok, hj⟩ hp52; exact ⟨_, rfl, rfl, rfl, (Ke.tr (fun _ _ h => h) (Ke.up (Or.inl (by omega)) (Ke.tr (fun _ _ h => h) Ke.rf k10)) k57), f2, a2_49, ok50, _, hf2, ea53, ef54, fun qk => ⟨(rfl).trans (eo55 qk).1, (by rw [(gv_join (pz_gv N _ _ _ _ _ _ _ _ hp5 (fun z => absurd z (by decide)) hok) (pz_gv N _ _ _ _ _ _ _ _ hp52 (fun z => absurd z (by decide)) qk) ⟨(isJ_ne hj).2.1, (isJ_ne hj).2.2.1, (isJ_ne hj).2.2.2.1, (isJ_ne hj).2.2.2.2.1⟩).2, ← (eo8 hok).2, ← (eo55 qk).2, show nb T E a2_2 = 61 by have rbc_ := rb_c T E a2_2; grind, jn_61]; grind)⟩⟩))
              · refine xr_goto (tgt := 85) dX10_compared_77 rfl ?_
                refine xr_iconst (v := 1) dX10_compared_85 rfl ?_
                refine xr_goto (tgt := 90) dX10_compared_86 rfl ?_
                exact xr_iret dX10_compared_90 rfl rfl ((by obtain ⟨f2, hf2⟩ := CGo_2 (CGo_0 (by decide) hp5) ⟨hok, hj⟩ hp52; exact ⟨_, rfl, rfl, rfl, (Ke.tr (fun _ _ h => h) (Ke.up (Or.inl (by omega)) (Ke.tr (fun _ _ h => h) Ke.rf k10)) k57), f2, a2_49, ok50, _, hf2, ea53, ef54, fun qk => ⟨(rfl).trans (eo55 qk).1, (by rw [(gv_join (pz_gv N _ _ _ _ _ _ _ _ hp5 (fun z => absurd z (by decide)) hok) (pz_gv N _ _ _ _ _ _ _ _ hp52 (fun z => absurd z (by decide)) qk) ⟨(isJ_ne hj).2.1, (isJ_ne hj).2.2.1, (isJ_ne hj).2.2.2.1, (isJ_ne hj).2.2.2.2.1⟩).2, ← (eo8 hok).2, ← (eo55 qk).2, show nb T E a2_2 = 61 by have rbc_ := rb_c T E a2_2; grind, jn_61]; grind)⟩⟩))
          · refine xr_iload_n dX10_compared_58 2 rfl ?_
            refine xr_iload_n dX10_compared_59 0 rfl ?_
            refine xr_icmp_ge (tgt := 89) dX10_compared_60 rfl (fun c63 => ?_) (fun c63 => ?_)
            · refine xr_iconst (v := 0) dX10_compared_89 rfl ?_
              exact xr_iret dX10_compared_90 rfl rfl ((by obtain ⟨f2, hf2⟩ := CGo_2 (CGo_0 (by decide) hp5) ⟨hok, hj⟩ hp52; exact ⟨_, rfl, rfl, rfl, (Ke.tr (fun _ _ h => h) (Ke.up (Or.inl (by omega)) (Ke.tr (fun _ _ h => h) Ke.rf k10)) k57), f2, a2_49, ok50, _, hf2, ea53, ef54, fun qk => ⟨(rfl).trans (eo55 qk).1, (by rw [(gv_join (pz_gv N _ _ _ _ _ _ _ _ hp5 (fun z => absurd z (by decide)) hok) (pz_gv N _ _ _ _ _ _ _ _ hp52 (fun z => absurd z (by decide)) qk) ⟨(isJ_ne hj).2.1, (isJ_ne hj).2.2.1, (isJ_ne hj).2.2.2.1, (isJ_ne hj).2.2.2.2.1⟩).2, ← (eo8 hok).2, ← (eo55 qk).2, show nb T E a2_2 = 60 by have rbc_ := rb_c T E a2_2; grind, jn_60]; grind)⟩⟩))
            · refine xr_goto (tgt := 85) dX10_compared_63 rfl ?_
              refine xr_iconst (v := 1) dX10_compared_85 rfl ?_
              refine xr_goto (tgt := 90) dX10_compared_86 rfl ?_
              exact xr_iret dX10_compared_90 rfl rfl ((by obtain ⟨f2, hf2⟩ := CGo_2 (CGo_0 (by decide) hp5) ⟨hok, hj⟩ hp52; exact ⟨_, rfl, rfl, rfl, (Ke.tr (fun _ _ h => h) (Ke.up (Or.inl (by omega)) (Ke.tr (fun _ _ h => h) Ke.rf k10)) k57), f2, a2_49, ok50, _, hf2, ea53, ef54, fun qk => ⟨(rfl).trans (eo55 qk).1, (by rw [(gv_join (pz_gv N _ _ _ _ _ _ _ _ hp5 (fun z => absurd z (by decide)) hok) (pz_gv N _ _ _ _ _ _ _ _ hp52 (fun z => absurd z (by decide)) qk) ⟨(isJ_ne hj).2.1, (isJ_ne hj).2.2.1, (isJ_ne hj).2.2.2.1, (isJ_ne hj).2.2.2.2.1⟩).2, ← (eo8 hok).2, ← (eo55 qk).2, show nb T E a2_2 = 60 by have rbc_ := rb_c T E a2_2; grind, jn_60]; grind)⟩⟩))
        · refine xr_iload_n dX10_compared_35 1 rfl ?_
          exact xr_iret dX10_compared_36 rfl rfl ((by obtain ⟨f2, hf2⟩ := CGo_end (CGo_0 (by decide) hp5) (fun z => by have z2 := of_decide_eq_true (p := nb T E a2_2 = 60 ∨ nb T E a2_2 = 61 ∨ nb T E a2_2 = 62) z.2; have z1 := ftv_1 (a := a2_2) z.1; have rbc_ := rb_c T E a2_2; grind); exact ⟨_, rfl, rfl, rfl, (Ke.tr (fun _ _ h => h) Ke.rf k10), f2, a2_2, ok3, cd4, hf2, ea6, ef7, eo8⟩))
set_option maxRecDepth 100000 in
set_option maxHeartbeats 4000000 in
theorem ls_both {u : Nat} (hs  : LSv fX10_compared (8 * u + 6) 2 u) {l : Launch} {G : xG} {M : xM} {J : xJ} {bs : Int32} {T N : Nat → Int32} {a E o : Nat} (hT : bs = -1 ∧ M 69 = T ∨ bs = 0 ∧ M 70 = T) (hNm : M 71 = N) (e_bs : M 62 14 = bs) (haE : a ≤ E) (hE : E ≤ 120) (e_E : M 62 16 = nI E) (ho : o + u = 6) : ∀ (m a1 : Nat) (ok1 : Bool) (cd1 : zC) (v : Int32) (M1 : xM), E < a1 + m + 1 → a1 ≤ E → Ke WPR M M1 → M1 62 15 = nI a1 → M1 62 17 = ftv ok1 a1 → (ok1 = true → M1 62 18 = nI o ∧ v = valF N cd1 ∧ gv1 N cd1) → CGo T E 1 o a a1 ok1 cd1 → x_X l G fX10_both (8 * u + 7) 0 0 (qKI WPR M J (fun r M2 => PRv M2 T N E 1 o a r)) 5 [(1, .int (v)), (0, .ref (62))] [] x_SH M1 J 0 0 := by
  intro m
  induction m with
  | zero =>
    intro a1 ok1 cd1 v M1 hm h2 hM e_a1 e_f1 hk hgo
    refine xr_aload_n dX10_both_5 1 rfl ?_
    refine xr_bipush (v := 38) dX10_both_6 rfl ?_
    refine xr_callV (As := [.int (38)]) (rest := []) mlX10_184 (gs_X10_takes (si := 38) (by decide) (by decide) (T := T) (a := a1) (E := E) (hT.imp (fun z => ⟨z.1, ((Eq.trans (funext fun kk => hM 69 kk (by unfold WPR; omega)) rfl)).trans z.2⟩) (fun z => ⟨z.1, ((Eq.trans (funext fun kk => hM 70 kk (by unfold WPR; omega)) rfl)).trans z.2⟩)) (Eq.trans (hM 62 14 (by decide)) e_bs) (by omega) (by omega) e_a1 (Eq.trans (hM 62 16 (by decide)) e_E) e_f1) dX10_both_8 s_62 rfl rfl (Nat.le_of_ble_eq_true rfl) (by omega) ⟨by decide, by decide⟩ (fun v s2 M4 J2 hq => ?_)
    obtain ⟨r6, rfl, rfl, rfl, k5, hx1⟩ := hq
    try dsimp only [Option.toList, List.cons_append, List.nil_append]
    rcases hx1 with ⟨rfl, hy2, ea3⟩ | ⟨rfl, hy2, ea3⟩
    · skip
      refine xr_if_eq (tgt := 36) dX10_both_11 rfl (fun c => absurd c (by decide)) (fun _ => ?_)
      have hok : ok1 = true := ftv_ok (a := a1) (by omega) hy2.1
      have hj : isJ 1 (nb T E a1) = true := decide_eq_true hy2.2
      have hl : a1 < E := nb_lt (T := T) (isJ_ne hj).1
      exact absurd hm (by omega)
    · skip
      refine xr_if_eq (tgt := 36) dX10_both_11 rfl (fun _ => ?_) (fun c => absurd (by decide) c)
      refine xr_iload_n dX10_both_36 0 rfl ?_
      exact xr_iret dX10_both_37 rfl rfl ((by obtain ⟨f2, hf2⟩ := CGo_end hgo (fun z => hy2 ⟨by rw [ftv_1 z.1]; decide, of_decide_eq_true z.2⟩); exact ⟨_, rfl, rfl, rfl, (Ke.tr (fun pp kk h => (Or.inl h)) hM k5), f2, a1, ok1, cd1, hf2, ea3, (Eq.trans (k5 62 17 (by decide)) e_f1), fun q => ⟨((Eq.trans (k5 62 18 (by decide)) rfl)).trans (hk q).1, (hk q).2.1⟩⟩))
  | succ m ih =>
    intro a1 ok1 cd1 v M1 hm h2 hM e_a1 e_f1 hk hgo
    refine xr_aload_n dX10_both_5 1 rfl ?_
    refine xr_bipush (v := 38) dX10_both_6 rfl ?_
    refine xr_callV (As := [.int (38)]) (rest := []) mlX10_184 (gs_X10_takes (si := 38) (by decide) (by decide) (T := T) (a := a1) (E := E) (hT.imp (fun z => ⟨z.1, ((Eq.trans (funext fun kk => hM 69 kk (by unfold WPR; omega)) rfl)).trans z.2⟩) (fun z => ⟨z.1, ((Eq.trans (funext fun kk => hM 70 kk (by unfold WPR; omega)) rfl)).trans z.2⟩)) (Eq.trans (hM 62 14 (by decide)) e_bs) (by omega) (by omega) e_a1 (Eq.trans (hM 62 16 (by decide)) e_E) e_f1) dX10_both_8 s_62 rfl rfl (Nat.le_of_ble_eq_true rfl) (by omega) ⟨by decide, by decide⟩ (fun v s2 M4 J2 hq => ?_)
    obtain ⟨r6, rfl, rfl, rfl, k5, hx1⟩ := hq
    try dsimp only [Option.toList, List.cons_append, List.nil_append]
    rcases hx1 with ⟨rfl, hy2, ea3⟩ | ⟨rfl, hy2, ea3⟩
    · skip
      refine xr_if_eq (tgt := 36) dX10_both_11 rfl (fun c => absurd c (by decide)) (fun _ => ?_)
      have hok : ok1 = true := ftv_ok (a := a1) (by omega) hy2.1
      have hj : isJ 1 (nb T E a1) = true := decide_eq_true hy2.2
      have hl : a1 < E := nb_lt (T := T) (isJ_ne hj).1
      refine xr_aload_n dX10_both_14 1 rfl ?_
      refine xr_callV (As := []) (rest := []) mlX10_187 (hs l G M4 J bs T N (a1 + 1) E o (hT.imp (fun z => ⟨z.1, ((Eq.trans (funext fun kk => k5 69 kk (by unfold WPA; omega)) (Eq.trans (funext fun kk => hM 69 kk (by unfold WPR; omega)) rfl))).trans z.2⟩) (fun z => ⟨z.1, ((Eq.trans (funext fun kk => k5 70 kk (by unfold WPA; omega)) (Eq.trans (funext fun kk => hM 70 kk (by unfold WPR; omega)) rfl))).trans z.2⟩)) (((Eq.trans (funext fun kk => k5 71 kk (by unfold WPA; omega)) (Eq.trans (funext fun kk => hM 71 kk (by unfold WPR; omega)) rfl))).trans hNm) (Eq.trans (k5 62 14 (by decide)) (Eq.trans (hM 62 14 (by decide)) e_bs)) (by omega) hE ea3 (Eq.trans (k5 62 16 (by decide)) (Eq.trans (hM 62 16 (by decide)) e_E)) (by omega) (((Eq.trans (k5 62 18 (by decide)) rfl)).trans (hk hok).1) (((Eq.trans (k5 62 17 (by decide)) e_f1)).trans (ftv_1 hok))) dX10_both_15 s_62 rfl rfl (Nat.le_of_ble_eq_true rfl) (by omega) ⟨by decide, by decide⟩ (fun v s2 M15 J2 hq => ?_)
      obtain ⟨r17, rfl, rfl, rfl, k16, ⟨f7, a2_8, ok9, cd10, hp11, ea12, ef13, eo14⟩⟩ := hq
      try dsimp only [Option.toList, List.cons_append, List.nil_append]
      have hp11b := pz_b _ _ _ _ _ _ _ _ hp11 (by omega)
      obtain ⟨hp11x, hp11y, -⟩ := hp11b
      replace hp11x : (a1 + 1) ≤ a2_8 := hp11x
      replace hp11y : a2_8 ≤ E := hp11y
      refine xr_istore_n (ls2 := [(2, .int (r17)), (1, .int (v)), (0, .ref (62))]) dX10_both_18 (by decide) rfl ?_
      refine xr_iload_n dX10_both_19 1 rfl ?_
      refine xr_if_eq (tgt := 31) dX10_both_20 rfl (fun c18 => ?_) (fun c18 => ?_)
      · refine xr_iconst (v := 0) dX10_both_31 rfl ?_
        refine xr_istore_n (ls2 := [(1, .int (0)), (2, .int (r17)), (0, .ref (62))]) dX10_both_32 (by decide) rfl ?_
        refine xr_goto (tgt := 5) dX10_both_33 rfl ?_
        refine xb_ls (ls2 := [(1, .int (0)), (0, .ref (62))]) [0, 2] rfl ?_
        exact ih a2_8 ok9 (cd1 ++ cd10 ++ [(nb T E a1, 0)]) 0 M15 (by omega) (by omega) (Ke.tr (fun _ _ h => h) (Ke.tr (fun pp kk h => (Or.inl h)) hM k5) k16) ea12 ef13 (fun qk => ⟨(rfl).trans (eo14 qk).1, (by rw [(gv_join (hk hok).2.2 (pz_gv N _ _ _ _ _ _ _ _ hp11 (fun z => absurd z (by decide)) qk) ⟨(isJ_ne hj).2.1, (isJ_ne hj).2.2.1, (isJ_ne hj).2.2.2.1, (isJ_ne hj).2.2.2.2.1⟩).2, ← (hk hok).2.1, ← (eo14 qk).2, hy2.2, jn_38]; grind), (gv_join (hk hok).2.2 (pz_gv N _ _ _ _ _ _ _ _ hp11 (fun z => absurd z (by decide)) qk) ⟨(isJ_ne hj).2.1, (isJ_ne hj).2.2.1, (isJ_ne hj).2.2.2.1, (isJ_ne hj).2.2.2.2.1⟩).1⟩) (CGo_s (by decide) hgo ⟨hok, hj⟩ hp11)
      · refine xr_iload_n dX10_both_23 0 rfl ?_
        refine xr_if_eq (tgt := 31) dX10_both_24 rfl (fun c19 => ?_) (fun c19 => ?_)
        · refine xr_iconst (v := 0) dX10_both_31 rfl ?_
          refine xr_istore_n (ls2 := [(1, .int (0)), (2, .int (r17)), (0, .ref (62))]) dX10_both_32 (by decide) rfl ?_
          refine xr_goto (tgt := 5) dX10_both_33 rfl ?_
          refine xb_ls (ls2 := [(1, .int (0)), (0, .ref (62))]) [0, 2] rfl ?_
          exact ih a2_8 ok9 (cd1 ++ cd10 ++ [(nb T E a1, 0)]) 0 M15 (by omega) (by omega) (Ke.tr (fun _ _ h => h) (Ke.tr (fun pp kk h => (Or.inl h)) hM k5) k16) ea12 ef13 (fun qk => ⟨(rfl).trans (eo14 qk).1, (by rw [(gv_join (hk hok).2.2 (pz_gv N _ _ _ _ _ _ _ _ hp11 (fun z => absurd z (by decide)) qk) ⟨(isJ_ne hj).2.1, (isJ_ne hj).2.2.1, (isJ_ne hj).2.2.2.1, (isJ_ne hj).2.2.2.2.1⟩).2, ← (hk hok).2.1, ← (eo14 qk).2, hy2.2, jn_38]; grind), (gv_join (hk hok).2.2 (pz_gv N _ _ _ _ _ _ _ _ hp11 (fun z => absurd z (by decide)) qk) ⟨(isJ_ne hj).2.1, (isJ_ne hj).2.2.1, (isJ_ne hj).2.2.2.1, (isJ_ne hj).2.2.2.2.1⟩).1⟩) (CGo_s (by decide) hgo ⟨hok, hj⟩ hp11)
        · refine xr_iconst (v := 1) dX10_both_27 rfl ?_
          refine xr_goto (tgt := 32) dX10_both_28 rfl ?_
          refine xr_istore_n (ls2 := [(1, .int (1)), (2, .int (r17)), (0, .ref (62))]) dX10_both_32 (by decide) rfl ?_
          refine xr_goto (tgt := 5) dX10_both_33 rfl ?_
          refine xb_ls (ls2 := [(1, .int (1)), (0, .ref (62))]) [0, 2] rfl ?_
          exact ih a2_8 ok9 (cd1 ++ cd10 ++ [(nb T E a1, 0)]) 1 M15 (by omega) (by omega) (Ke.tr (fun _ _ h => h) (Ke.tr (fun pp kk h => (Or.inl h)) hM k5) k16) ea12 ef13 (fun qk => ⟨(rfl).trans (eo14 qk).1, (by rw [(gv_join (hk hok).2.2 (pz_gv N _ _ _ _ _ _ _ _ hp11 (fun z => absurd z (by decide)) qk) ⟨(isJ_ne hj).2.1, (isJ_ne hj).2.2.1, (isJ_ne hj).2.2.2.1, (isJ_ne hj).2.2.2.2.1⟩).2, ← (hk hok).2.1, ← (eo14 qk).2, hy2.2, jn_38]; grind), (gv_join (hk hok).2.2 (pz_gv N _ _ _ _ _ _ _ _ hp11 (fun z => absurd z (by decide)) qk) ⟨(isJ_ne hj).2.1, (isJ_ne hj).2.2.1, (isJ_ne hj).2.2.2.1, (isJ_ne hj).2.2.2.2.1⟩).1⟩) (CGo_s (by decide) hgo ⟨hok, hj⟩ hp11)
    · skip
      refine xr_if_eq (tgt := 36) dX10_both_11 rfl (fun _ => ?_) (fun c => absurd (by decide) c)
      refine xr_iload_n dX10_both_36 0 rfl ?_
      exact xr_iret dX10_both_37 rfl rfl ((by obtain ⟨f2, hf2⟩ := CGo_end hgo (fun z => hy2 ⟨by rw [ftv_1 z.1]; decide, of_decide_eq_true z.2⟩); exact ⟨_, rfl, rfl, rfl, (Ke.tr (fun pp kk h => (Or.inl h)) hM k5), f2, a1, ok1, cd1, hf2, ea3, (Eq.trans (k5 62 17 (by decide)) e_f1), fun q => ⟨((Eq.trans (k5 62 18 (by decide)) rfl)).trans (hk q).1, (hk q).2.1⟩⟩))
set_option maxRecDepth 100000 in
set_option maxHeartbeats 4000000 in
theorem lt_both {u : Nat} (hs  : LSv fX10_compared (8 * u + 6) 2 u) : LSv fX10_both (8 * u + 7) 1 u := by
  intro l G M J bs T N a E o hT hNm e_bs haE hE e_a e_E ho e_o e_ft
  refine xb_of pX10 (Nat.le_of_ble_eq_true rfl) rfl ?_
  refine xr_aload_n dX10_both_0 0 rfl ?_
  refine xr_callV (As := []) (rest := []) mlX10_187 (hs l G M J bs T N a E o (hT.imp (fun z => ⟨z.1, (rfl).trans z.2⟩) (fun z => ⟨z.1, (rfl).trans z.2⟩)) ((rfl).trans hNm) e_bs (by omega) hE e_a e_E (by omega) e_o e_ft) dX10_both_1 s_62 rfl rfl (Nat.le_of_ble_eq_true rfl) (by omega) ⟨by decide, by decide⟩ (fun v s2 M9 J2 hq => ?_)
  obtain ⟨r11, rfl, rfl, rfl, k10, ⟨f1, a2_2, ok3, cd4, hp5, ea6, ef7, eo8⟩⟩ := hq
  try dsimp only [Option.toList, List.cons_append, List.nil_append]
  have hp5b := pz_b _ _ _ _ _ _ _ _ hp5 (by omega)
  obtain ⟨hp5x, hp5y, -⟩ := hp5b
  replace hp5x : a ≤ a2_2 := hp5x
  replace hp5y : a2_2 ≤ E := hp5y
  refine xr_istore_n (ls2 := [(1, .int (r11)), (0, .ref (62))]) dX10_both_4 (by decide) rfl ?_
  refine xb_ls (ls2 := [(1, .int (r11)), (0, .ref (62))]) [0, 1] rfl ?_
  exact ls_both hs hT hNm e_bs haE hE e_E ho E a2_2 ok3 cd4 r11 M9 (by omega) (by omega) (Ke.tr (fun _ _ h => h) Ke.rf k10) ea6 ef7 (fun qk => ⟨(eo8 qk).1, (eo8 qk).2, pz_gv N _ _ _ _ _ _ _ _ hp5 (fun z => absurd z (by decide)) qk⟩) (CGo_0 (by decide) hp5)
set_option maxRecDepth 100000 in
set_option maxHeartbeats 4000000 in
theorem ls_either {u : Nat} (hs  : LSv fX10_both (8 * u + 7) 1 u) {l : Launch} {G : xG} {M : xM} {J : xJ} {bs : Int32} {T N : Nat → Int32} {a E o : Nat} (hT : bs = -1 ∧ M 69 = T ∨ bs = 0 ∧ M 70 = T) (hNm : M 71 = N) (e_bs : M 62 14 = bs) (haE : a ≤ E) (hE : E ≤ 120) (e_E : M 62 16 = nI E) (ho : o + u = 6) : ∀ (m a1 : Nat) (ok1 : Bool) (cd1 : zC) (v : Int32) (M1 : xM), E < a1 + m + 1 → a1 ≤ E → Ke WPR M M1 → M1 62 15 = nI a1 → M1 62 17 = ftv ok1 a1 → (ok1 = true → M1 62 18 = nI o ∧ v = valF N cd1 ∧ gv1 N cd1) → CGo T E 0 o a a1 ok1 cd1 → x_X l G fX10_either (8 * u + 8) 0 0 (qKI WPR M J (fun r M2 => PRv M2 T N E 0 o a r)) 5 [(1, .int (v)), (0, .ref (62))] [] x_SH M1 J 0 0 := by
  intro m
  induction m with
  | zero =>
    intro a1 ok1 cd1 v M1 hm h2 hM e_a1 e_f1 hk hgo
    refine xr_aload_n dX10_either_5 1 rfl ?_
    refine xr_bipush (v := 124) dX10_either_6 rfl ?_
    refine xr_callV (As := [.int (124)]) (rest := []) mlX10_184 (gs_X10_takes (si := 124) (by decide) (by decide) (T := T) (a := a1) (E := E) (hT.imp (fun z => ⟨z.1, ((Eq.trans (funext fun kk => hM 69 kk (by unfold WPR; omega)) rfl)).trans z.2⟩) (fun z => ⟨z.1, ((Eq.trans (funext fun kk => hM 70 kk (by unfold WPR; omega)) rfl)).trans z.2⟩)) (Eq.trans (hM 62 14 (by decide)) e_bs) (by omega) (by omega) e_a1 (Eq.trans (hM 62 16 (by decide)) e_E) e_f1) dX10_either_8 s_62 rfl rfl (Nat.le_of_ble_eq_true rfl) (by omega) ⟨by decide, by decide⟩ (fun v s2 M4 J2 hq => ?_)
    obtain ⟨r6, rfl, rfl, rfl, k5, hx1⟩ := hq
    try dsimp only [Option.toList, List.cons_append, List.nil_append]
    rcases hx1 with ⟨rfl, hy2, ea3⟩ | ⟨rfl, hy2, ea3⟩
    · skip
      refine xr_if_eq (tgt := 36) dX10_either_11 rfl (fun c => absurd c (by decide)) (fun _ => ?_)
      have hok : ok1 = true := ftv_ok (a := a1) (by omega) hy2.1
      have hj : isJ 0 (nb T E a1) = true := decide_eq_true hy2.2
      have hl : a1 < E := nb_lt (T := T) (isJ_ne hj).1
      exact absurd hm (by omega)
    · skip
      refine xr_if_eq (tgt := 36) dX10_either_11 rfl (fun _ => ?_) (fun c => absurd (by decide) c)
      refine xr_iload_n dX10_either_36 0 rfl ?_
      exact xr_iret dX10_either_37 rfl rfl ((by obtain ⟨f2, hf2⟩ := CGo_end hgo (fun z => hy2 ⟨by rw [ftv_1 z.1]; decide, of_decide_eq_true z.2⟩); exact ⟨_, rfl, rfl, rfl, (Ke.tr (fun pp kk h => (Or.inl h)) hM k5), f2, a1, ok1, cd1, hf2, ea3, (Eq.trans (k5 62 17 (by decide)) e_f1), fun q => ⟨((Eq.trans (k5 62 18 (by decide)) rfl)).trans (hk q).1, (hk q).2.1⟩⟩))
  | succ m ih =>
    intro a1 ok1 cd1 v M1 hm h2 hM e_a1 e_f1 hk hgo
    refine xr_aload_n dX10_either_5 1 rfl ?_
    refine xr_bipush (v := 124) dX10_either_6 rfl ?_
    refine xr_callV (As := [.int (124)]) (rest := []) mlX10_184 (gs_X10_takes (si := 124) (by decide) (by decide) (T := T) (a := a1) (E := E) (hT.imp (fun z => ⟨z.1, ((Eq.trans (funext fun kk => hM 69 kk (by unfold WPR; omega)) rfl)).trans z.2⟩) (fun z => ⟨z.1, ((Eq.trans (funext fun kk => hM 70 kk (by unfold WPR; omega)) rfl)).trans z.2⟩)) (Eq.trans (hM 62 14 (by decide)) e_bs) (by omega) (by omega) e_a1 (Eq.trans (hM 62 16 (by decide)) e_E) e_f1) dX10_either_8 s_62 rfl rfl (Nat.le_of_ble_eq_true rfl) (by omega) ⟨by decide, by decide⟩ (fun v s2 M4 J2 hq => ?_)
    obtain ⟨r6, rfl, rfl, rfl, k5, hx1⟩ := hq
    try dsimp only [Option.toList, List.cons_append, List.nil_append]
    rcases hx1 with ⟨rfl, hy2, ea3⟩ | ⟨rfl, hy2, ea3⟩
    · skip
      refine xr_if_eq (tgt := 36) dX10_either_11 rfl (fun c => absurd c (by decide)) (fun _ => ?_)
      have hok : ok1 = true := ftv_ok (a := a1) (by omega) hy2.1
      have hj : isJ 0 (nb T E a1) = true := decide_eq_true hy2.2
      have hl : a1 < E := nb_lt (T := T) (isJ_ne hj).1
      refine xr_aload_n dX10_either_14 1 rfl ?_
      refine xr_callV (As := []) (rest := []) mlX10_181 (hs l G M4 J bs T N (a1 + 1) E o (hT.imp (fun z => ⟨z.1, ((Eq.trans (funext fun kk => k5 69 kk (by unfold WPA; omega)) (Eq.trans (funext fun kk => hM 69 kk (by unfold WPR; omega)) rfl))).trans z.2⟩) (fun z => ⟨z.1, ((Eq.trans (funext fun kk => k5 70 kk (by unfold WPA; omega)) (Eq.trans (funext fun kk => hM 70 kk (by unfold WPR; omega)) rfl))).trans z.2⟩)) (((Eq.trans (funext fun kk => k5 71 kk (by unfold WPA; omega)) (Eq.trans (funext fun kk => hM 71 kk (by unfold WPR; omega)) rfl))).trans hNm) (Eq.trans (k5 62 14 (by decide)) (Eq.trans (hM 62 14 (by decide)) e_bs)) (by omega) hE ea3 (Eq.trans (k5 62 16 (by decide)) (Eq.trans (hM 62 16 (by decide)) e_E)) (by omega) (((Eq.trans (k5 62 18 (by decide)) rfl)).trans (hk hok).1) (((Eq.trans (k5 62 17 (by decide)) e_f1)).trans (ftv_1 hok))) dX10_either_15 s_62 rfl rfl (Nat.le_of_ble_eq_true rfl) (by omega) ⟨by decide, by decide⟩ (fun v s2 M15 J2 hq => ?_)
      obtain ⟨r17, rfl, rfl, rfl, k16, ⟨f7, a2_8, ok9, cd10, hp11, ea12, ef13, eo14⟩⟩ := hq
      try dsimp only [Option.toList, List.cons_append, List.nil_append]
      have hp11b := pz_b _ _ _ _ _ _ _ _ hp11 (by omega)
      obtain ⟨hp11x, hp11y, -⟩ := hp11b
      replace hp11x : (a1 + 1) ≤ a2_8 := hp11x
      replace hp11y : a2_8 ≤ E := hp11y
      refine xr_istore_n (ls2 := [(2, .int (r17)), (1, .int (v)), (0, .ref (62))]) dX10_either_18 (by decide) rfl ?_
      refine xr_iload_n dX10_either_19 1 rfl ?_
      refine xr_if_ne (tgt := 27) dX10_either_20 rfl (fun c18 => ?_) (fun c18 => ?_)
      · refine xr_iconst (v := 1) dX10_either_27 rfl ?_
        refine xr_goto (tgt := 32) dX10_either_28 rfl ?_
        refine xr_istore_n (ls2 := [(1, .int (1)), (2, .int (r17)), (0, .ref (62))]) dX10_either_32 (by decide) rfl ?_
        refine xr_goto (tgt := 5) dX10_either_33 rfl ?_
        refine xb_ls (ls2 := [(1, .int (1)), (0, .ref (62))]) [0, 2] rfl ?_
        exact ih a2_8 ok9 (cd1 ++ cd10 ++ [(nb T E a1, 0)]) 1 M15 (by omega) (by omega) (Ke.tr (fun _ _ h => h) (Ke.tr (fun pp kk h => (Or.inl h)) hM k5) k16) ea12 ef13 (fun qk => ⟨(rfl).trans (eo14 qk).1, (by rw [(gv_join (hk hok).2.2 (pz_gv N _ _ _ _ _ _ _ _ hp11 (fun z => absurd z (by decide)) qk) ⟨(isJ_ne hj).2.1, (isJ_ne hj).2.2.1, (isJ_ne hj).2.2.2.1, (isJ_ne hj).2.2.2.2.1⟩).2, ← (hk hok).2.1, ← (eo14 qk).2, hy2.2, jn_124]; grind), (gv_join (hk hok).2.2 (pz_gv N _ _ _ _ _ _ _ _ hp11 (fun z => absurd z (by decide)) qk) ⟨(isJ_ne hj).2.1, (isJ_ne hj).2.2.1, (isJ_ne hj).2.2.2.1, (isJ_ne hj).2.2.2.2.1⟩).1⟩) (CGo_s (by decide) hgo ⟨hok, hj⟩ hp11)
      · refine xr_iload_n dX10_either_23 0 rfl ?_
        refine xr_if_eq (tgt := 31) dX10_either_24 rfl (fun c19 => ?_) (fun c19 => ?_)
        · refine xr_iconst (v := 0) dX10_either_31 rfl ?_
          refine xr_istore_n (ls2 := [(1, .int (0)), (2, .int (r17)), (0, .ref (62))]) dX10_either_32 (by decide) rfl ?_
          refine xr_goto (tgt := 5) dX10_either_33 rfl ?_
          refine xb_ls (ls2 := [(1, .int (0)), (0, .ref (62))]) [0, 2] rfl ?_
          exact ih a2_8 ok9 (cd1 ++ cd10 ++ [(nb T E a1, 0)]) 0 M15 (by omega) (by omega) (Ke.tr (fun _ _ h => h) (Ke.tr (fun pp kk h => (Or.inl h)) hM k5) k16) ea12 ef13 (fun qk => ⟨(rfl).trans (eo14 qk).1, (by rw [(gv_join (hk hok).2.2 (pz_gv N _ _ _ _ _ _ _ _ hp11 (fun z => absurd z (by decide)) qk) ⟨(isJ_ne hj).2.1, (isJ_ne hj).2.2.1, (isJ_ne hj).2.2.2.1, (isJ_ne hj).2.2.2.2.1⟩).2, ← (hk hok).2.1, ← (eo14 qk).2, hy2.2, jn_124]; grind), (gv_join (hk hok).2.2 (pz_gv N _ _ _ _ _ _ _ _ hp11 (fun z => absurd z (by decide)) qk) ⟨(isJ_ne hj).2.1, (isJ_ne hj).2.2.1, (isJ_ne hj).2.2.2.1, (isJ_ne hj).2.2.2.2.1⟩).1⟩) (CGo_s (by decide) hgo ⟨hok, hj⟩ hp11)
        · refine xr_iconst (v := 1) dX10_either_27 rfl ?_
          refine xr_goto (tgt := 32) dX10_either_28 rfl ?_
          refine xr_istore_n (ls2 := [(1, .int (1)), (2, .int (r17)), (0, .ref (62))]) dX10_either_32 (by decide) rfl ?_
          refine xr_goto (tgt := 5) dX10_either_33 rfl ?_
          refine xb_ls (ls2 := [(1, .int (1)), (0, .ref (62))]) [0, 2] rfl ?_
          exact ih a2_8 ok9 (cd1 ++ cd10 ++ [(nb T E a1, 0)]) 1 M15 (by omega) (by omega) (Ke.tr (fun _ _ h => h) (Ke.tr (fun pp kk h => (Or.inl h)) hM k5) k16) ea12 ef13 (fun qk => ⟨(rfl).trans (eo14 qk).1, (by rw [(gv_join (hk hok).2.2 (pz_gv N _ _ _ _ _ _ _ _ hp11 (fun z => absurd z (by decide)) qk) ⟨(isJ_ne hj).2.1, (isJ_ne hj).2.2.1, (isJ_ne hj).2.2.2.1, (isJ_ne hj).2.2.2.2.1⟩).2, ← (hk hok).2.1, ← (eo14 qk).2, hy2.2, jn_124]; grind), (gv_join (hk hok).2.2 (pz_gv N _ _ _ _ _ _ _ _ hp11 (fun z => absurd z (by decide)) qk) ⟨(isJ_ne hj).2.1, (isJ_ne hj).2.2.1, (isJ_ne hj).2.2.2.1, (isJ_ne hj).2.2.2.2.1⟩).1⟩) (CGo_s (by decide) hgo ⟨hok, hj⟩ hp11)
    · skip
      refine xr_if_eq (tgt := 36) dX10_either_11 rfl (fun _ => ?_) (fun c => absurd (by decide) c)
      refine xr_iload_n dX10_either_36 0 rfl ?_
      exact xr_iret dX10_either_37 rfl rfl ((by obtain ⟨f2, hf2⟩ := CGo_end hgo (fun z => hy2 ⟨by rw [ftv_1 z.1]; decide, of_decide_eq_true z.2⟩); exact ⟨_, rfl, rfl, rfl, (Ke.tr (fun pp kk h => (Or.inl h)) hM k5), f2, a1, ok1, cd1, hf2, ea3, (Eq.trans (k5 62 17 (by decide)) e_f1), fun q => ⟨((Eq.trans (k5 62 18 (by decide)) rfl)).trans (hk q).1, (hk q).2.1⟩⟩))
set_option maxRecDepth 100000 in
set_option maxHeartbeats 4000000 in
theorem lt_either {u : Nat} (hs  : LSv fX10_both (8 * u + 7) 1 u) : LSv fX10_either (8 * u + 8) 0 u := by
  intro l G M J bs T N a E o hT hNm e_bs haE hE e_a e_E ho e_o e_ft
  refine xb_of pX10 (Nat.le_of_ble_eq_true rfl) rfl ?_
  refine xr_aload_n dX10_either_0 0 rfl ?_
  refine xr_callV (As := []) (rest := []) mlX10_181 (hs l G M J bs T N a E o (hT.imp (fun z => ⟨z.1, (rfl).trans z.2⟩) (fun z => ⟨z.1, (rfl).trans z.2⟩)) ((rfl).trans hNm) e_bs (by omega) hE e_a e_E (by omega) e_o e_ft) dX10_either_1 s_62 rfl rfl (Nat.le_of_ble_eq_true rfl) (by omega) ⟨by decide, by decide⟩ (fun v s2 M9 J2 hq => ?_)
  obtain ⟨r11, rfl, rfl, rfl, k10, ⟨f1, a2_2, ok3, cd4, hp5, ea6, ef7, eo8⟩⟩ := hq
  try dsimp only [Option.toList, List.cons_append, List.nil_append]
  have hp5b := pz_b _ _ _ _ _ _ _ _ hp5 (by omega)
  obtain ⟨hp5x, hp5y, -⟩ := hp5b
  replace hp5x : a ≤ a2_2 := hp5x
  replace hp5y : a2_2 ≤ E := hp5y
  refine xr_istore_n (ls2 := [(1, .int (r11)), (0, .ref (62))]) dX10_either_4 (by decide) rfl ?_
  refine xb_ls (ls2 := [(1, .int (r11)), (0, .ref (62))]) [0, 1] rfl ?_
  exact ls_either hs hT hNm e_bs haE hE e_E ho E a2_2 ok3 cd4 r11 M9 (by omega) (by omega) (Ke.tr (fun _ _ h => h) Ke.rf k10) ea6 ef7 (fun qk => ⟨(eo8 qk).1, (eo8 qk).2, pz_gv N _ _ _ _ _ _ _ _ hp5 (fun z => absurd z (by decide)) qk⟩) (CGo_0 (by decide) hp5)
theorem valF_4 {N : Nat → Int32} {cd : zC} (h : gv1 N cd) : valF N (cd ++ [(4, 0)]) = if valF N cd = 0 then 1 else 0 := by
  show (exL N (cd ++ [(4, 0)]) []).headD 0 = _
  rw [exL_app, gv_val h]; rfl
theorem valF_5 {N : Nat → Int32} {cd : zC} (h : gv1 N cd) : valF N (cd ++ [(5, 0)]) = -(valF N cd) := by
  show (exL N (cd ++ [(5, 0)]) []).headD 0 = _
  rw [exL_app, gv_val h]; rfl
set_option maxRecDepth 100000 in
set_option maxHeartbeats 4000000 in
theorem rnR_l {dd : Nat} {l : Launch} {G : xG} {M : xM} {J : xJ} {Q : xQ} {bs v1 v2 : Int32} {T : Nat → Int32} {a E : Nat} (hT : bs = -1 ∧ M 69 = T ∨ bs = 0 ∧ M 70 = T) (hE : E ≤ 120) (e_bs : M 62 14 = bs) (e_E : M 62 16 = nI E) (hC : ∀ (k w a1 : Nat) (M1 : xM), w < 10 ^ 4 → a1 ≤ E → Ke WPA M M1 → M1 62 15 = nI a1 → (a1, nI w) = numF T E 4 a 0 → (k = 0 ∧ a1 = a ∧ ¬ (48 ≤ nb T E a ∧ nb T E a ≤ 57) ∨ (0 < k ∧ k ≤ 4) ∧ (48 ≤ nb T E a ∧ nb T E a ≤ 57)) → x_X l G fX10_one (dd + 3) 0 0 Q 229 [(4, .int (nI k)), (3, .int (nI w)), (2, .int (v2)), (1, .int (v1)), (0, .ref 62)] [] x_SH M1 J 0 0) : ∀ (m k w a1 : Nat) (M1 : xM), k + m = 4 → w < 10 ^ k → a1 ≤ E → Ke WPA M M1 → M1 62 15 = nI a1 → numF T E m a1 (nI w) = numF T E 4 a 0 → (k = 0 ∧ a1 = a ∨ 0 < k ∧ (48 ≤ nb T E a ∧ nb T E a ≤ 57)) → x_X l G fX10_one (dd + 3) 0 0 Q 176 [(4, .int (nI (k))), (3, .int (nI (w))), (2, .int (v2)), (1, .int (v1)), (0, .ref (62))] [] x_SH M1 J 0 0 := by
  intro m
  induction m with
  | zero =>
    intro k w a1 M1 hk hw ha1 hM e_a1 hn hd
    refine xr_iload dX10_one_176 0 rfl ?_
    refine xr_iconst (v := 4) dX10_one_178 rfl ?_
    refine xr_icmp_ge (tgt := 229) dX10_one_179 rfl (fun _ => ?_) (fun c => absurd (nI_le (a := 4) (b := k) (by omega) (by omega)) c)
    refine xb_ls (ls2 := [(4, .int (nI (k))), (3, .int (nI (w))), (2, .int (v2)), (1, .int (v1)), (0, .ref (62))]) [0, 1, 2, 3, 4] rfl ?_
    exact hC k w a1 M1 (by rw [show 4 = k by omega]; exact hw) (by omega) hM e_a1 hn (Or.inr ⟨⟨by omega, by omega⟩, (hd.resolve_left (fun q => absurd q.1 (by omega))).2⟩)
  | succ m ih =>
    intro k w a1 M1 hk hw ha1 hM e_a1 hn hd
    refine xr_iload dX10_one_176 0 rfl ?_
    refine xr_iconst (v := 4) dX10_one_178 rfl ?_
    refine xr_icmp_ge (tgt := 229) dX10_one_179 rfl (fun c => absurd c (nI_ge (a := k) (b := 4) (by omega) (by omega))) (fun _ => ?_)
    refine xr_aload_n dX10_one_182 4 rfl ?_
    refine xb_cV (As := []) (rest := []) mlX10_177 (c_X10_byteAt (T := T) (a := a1) (E := E) (hT.imp (fun z => ⟨z.1, ((Eq.trans (funext fun kk => hM 69 kk (by unfold WPA; omega)) rfl)).trans z.2⟩) (fun z => ⟨z.1, ((Eq.trans (funext fun kk => hM 70 kk (by unfold WPA; omega)) rfl)).trans z.2⟩)) (Eq.trans (hM 62 14 (by decide)) e_bs) (by omega) (by omega) e_a1 (Eq.trans (hM 62 16 (by decide)) e_E)) dX10_one_183 s_62 rfl rfl (Nat.le_of_ble_eq_true rfl) (by omega) (by decide) ?_
    refine xr_bipush (v := 48) dX10_one_186 rfl ?_
    refine xr_icmp_lt (tgt := 229) dX10_one_188 rfl (fun c1 => ?_) (fun c1 => ?_)
    · refine xb_ls (ls2 := [(4, .int (nI (k))), (3, .int (nI (w))), (2, .int (v2)), (1, .int (v1)), (0, .ref (62))]) [0, 1, 2, 3, 4] rfl ?_
      have hdg : ¬ (48 ≤ nb T E a1 ∧ nb T E a1 ≤ 57) := by have rbc_ := rb_c T E a1; grind
      exact hC k w a1 M1 (Nat.lt_of_lt_of_le hw (Nat.pow_le_pow_right (n := 10) (by decide) (by omega))) (by omega) hM e_a1 (by rw [← hn]; exact (if_neg hdg).symm) (hd.imp (fun q => ⟨q.1, q.2, by rw [← q.2]; exact hdg⟩) (fun q => ⟨⟨q.1, by omega⟩, q.2⟩))
    · refine xr_aload_n dX10_one_191 4 rfl ?_
      refine xb_cV (As := []) (rest := []) mlX10_177 (c_X10_byteAt (T := T) (a := a1) (E := E) (hT.imp (fun z => ⟨z.1, ((Eq.trans (funext fun kk => hM 69 kk (by unfold WPA; omega)) rfl)).trans z.2⟩) (fun z => ⟨z.1, ((Eq.trans (funext fun kk => hM 70 kk (by unfold WPA; omega)) rfl)).trans z.2⟩)) (Eq.trans (hM 62 14 (by decide)) e_bs) (by omega) (by omega) e_a1 (Eq.trans (hM 62 16 (by decide)) e_E)) dX10_one_192 s_62 rfl rfl (Nat.le_of_ble_eq_true rfl) (by omega) (by decide) ?_
      refine xr_bipush (v := 57) dX10_one_195 rfl ?_
      refine xr_icmp_gt (tgt := 229) dX10_one_197 rfl (fun c2 => ?_) (fun c2 => ?_)
      · refine xb_ls (ls2 := [(4, .int (nI (k))), (3, .int (nI (w))), (2, .int (v2)), (1, .int (v1)), (0, .ref (62))]) [0, 1, 2, 3, 4] rfl ?_
        have hdg : ¬ (48 ≤ nb T E a1 ∧ nb T E a1 ≤ 57) := by have rbc_ := rb_c T E a1; grind
        exact hC k w a1 M1 (Nat.lt_of_lt_of_le hw (Nat.pow_le_pow_right (n := 10) (by decide) (by omega))) (by omega) hM e_a1 (by rw [← hn]; exact (if_neg hdg).symm) (hd.imp (fun q => ⟨q.1, q.2, by rw [← q.2]; exact hdg⟩) (fun q => ⟨⟨q.1, by omega⟩, q.2⟩))
      · have hdg : 48 ≤ nb T E a1 ∧ nb T E a1 ≤ 57 := by have rbc_ := rb_c T E a1; grind
        have hrb : rb T E a1 = nb T E a1 := by have rbc_ := rb_c T E a1; grind
        have hl : a1 < E := nb_lt (T := T) (fun q => by have h1 := hdg.1; rw [q] at h1; exact absurd h1 (by decide))
        obtain ⟨w2, hw2, ew2⟩ := sx_dig (k := k) (w := w) (by omega) hw hdg
        refine xr_bipush (v := 10) dX10_one_200 rfl ?_
        refine xr_iload_n dX10_one_202 1 rfl ?_
        refine xr_imul dX10_one_203 ?_
        refine xr_aload_n dX10_one_204 4 rfl ?_
        refine xb_cV (As := []) (rest := [.int ((10 * (nI (w))))]) mlX10_177 (c_X10_byteAt (T := T) (a := a1) (E := E) (hT.imp (fun z => ⟨z.1, ((Eq.trans (funext fun kk => hM 69 kk (by unfold WPA; omega)) rfl)).trans z.2⟩) (fun z => ⟨z.1, ((Eq.trans (funext fun kk => hM 70 kk (by unfold WPA; omega)) rfl)).trans z.2⟩)) (Eq.trans (hM 62 14 (by decide)) e_bs) (by omega) (by omega) e_a1 (Eq.trans (hM 62 16 (by decide)) e_E)) dX10_one_205 s_62 rfl rfl (Nat.le_of_ble_eq_true rfl) (by omega) (by decide) ?_
        refine xr_iadd dX10_one_208 ?_
        refine xr_bipush (v := 48) dX10_one_209 rfl ?_
        refine xr_isub dX10_one_211 ?_
        refine xb_top (y := nI w2) (by rw [hrb]; exact ew2) ?_
        refine xr_istore_n (ls2 := [(3, .int (nI (w2))), (4, .int (nI (k))), (2, .int (v2)), (1, .int (v1)), (0, .ref (62))]) dX10_one_212 (by decide) rfl ?_
        refine xr_iinc (v := nI (k + 1)) (ls2 := [(4, .int (nI (k + 1))), (3, .int (nI (w2))), (2, .int (v2)), (1, .int (v1)), (0, .ref (62))]) dX10_one_213 1 rfl (nI_1 _) (by decide) rfl ?_
        refine xr_aload_n dX10_one_216 4 rfl ?_
        refine xr_dup dX10_one_217 rfl ?_
        refine xb_get (v := nI (a1)) flX10_165 dX10_one_218 s_62 rfl e_a1 ?_
        refine xr_iconst (v := 1) dX10_one_221 rfl ?_
        refine xr_iadd dX10_one_222 ?_
        refine xb_top (y := nI (a1 + 1)) (nI_add (a1) (1)) ?_
        refine xr_putI fpX10_165 dX10_one_223 s_62 rfl rfl rfl ?_
        refine xr_goto (tgt := 176) dX10_one_226 rfl ?_
        refine xb_ls (ls2 := [(4, .int (nI (k + 1))), (3, .int (nI (w2))), (2, .int (v2)), (1, .int (v1)), (0, .ref (62))]) [0, 1, 2, 3, 4] rfl ?_
        exact ih (k + 1) w2 (a1 + 1) (x_up M1 62 15 (nI (a1 + 1))) (by omega) hw2 (by omega) (Ke.up (by omega) hM) (x_up_s _ _ _ _) (by rw [← hn, ← ew2]; exact (show numF T E (m + 1) a1 (nI w) = numF T E m (a1 + 1) (10 * nI w + nb T E a1 - 48) from if_pos hdg).symm) (Or.inr ⟨by omega, hd.elim (fun q => by rw [← q.2]; exact hdg) (fun q => q.2)⟩)
set_option maxRecDepth 100000 in
set_option maxHeartbeats 4000000 in
theorem lt_one0  : LSv fX10_one (8 * 0 + 3) 5 0 := by
  intro l G M J bs T N a E o hT hNm e_bs haE hE e_a e_E ho e_o e_ft
  refine xb_of pX10 (Nat.le_of_ble_eq_true rfl) rfl ?_
  refine xr_aload_n dX10_one_0 0 rfl ?_
  refine xb_get (v := (-1)) flX10_174 dX10_one_1 s_62 rfl e_ft ?_
  refine xr_if_lt (tgt := 9) dX10_one_4 rfl (fun _ => ?_) (fun c => absurd (by decide) c)
  refine xr_aload_n dX10_one_9 0 rfl ?_
  refine xb_cV (As := []) (rest := []) mlX10_177 (c_X10_byteAt (T := T) (a := a) (E := E) (hT.imp (fun z => ⟨z.1, (rfl).trans z.2⟩) (fun z => ⟨z.1, (rfl).trans z.2⟩)) e_bs (by omega) (by omega) e_a e_E) dX10_one_10 s_62 rfl rfl (Nat.le_of_ble_eq_true rfl) (by omega) (by decide) ?_
  refine xr_istore_n (ls2 := [(1, .int ((rb T E a))), (0, .ref (62))]) dX10_one_13 (by decide) rfl ?_
  refine xr_iload_n dX10_one_14 0 rfl ?_
  refine xr_bipush (v := 33) dX10_one_15 rfl ?_
  refine xr_icmp_eq (tgt := 32) dX10_one_17 rfl (fun c1 => ?_) (fun c1 => ?_)
  · have hc : nb T E a = 40 ∨ nb T E a = 33 ∨ nb T E a = 45 := by have rbc_ := rb_c T E a; grind
    have ng : ¬ (48 ≤ nb T E a ∧ nb T E a ≤ 57) := by rcases hc with h | h | h <;> (rw [h]; decide)
    have nn : ¬ 0 ≤ nameK (nb T E a) := by rcases hc with h | h | h <;> (rw [h]; decide)
    have haE1 : a < E := nb_lt (T := T) (fun q => by rcases hc with h | h | h <;> exact absurd (h.symm.trans q) (by decide))
    refine xr_aload_n dX10_one_32 1 rfl ?_
    refine xb_get (v := nI (o)) flX10_199 dX10_one_33 s_62 rfl e_o ?_
    refine xr_bipush (v := 6) dX10_one_36 rfl ?_
    refine xr_icmp_ne (tgt := 46) dX10_one_38 rfl (fun c => absurd (by have h6 : o = 6 := (by omega); rw [h6]; rfl) c) (fun _ => ?_)
    refine xr_aload_n dX10_one_41 1 rfl ?_
    refine xr_callV (As := []) (rest := []) mlX10_202 (gs_X10_wrong e_ft (a := a) (by omega) e_a) dX10_one_42 s_62 rfl rfl (Nat.le_of_ble_eq_true rfl) (by omega) ⟨by decide, by decide⟩ (fun v s2 M4 J2 hq => ?_)
    obtain ⟨r6, rfl, rfl, rfl, k5, ⟨hr3, hw2⟩⟩ := hq
    try dsimp only [Option.toList, List.cons_append, List.nil_append]
    subst hr3
    exact xr_iret dX10_one_45 rfl rfl (⟨_, rfl, rfl, rfl, (Ke.tr (fun pp kk h => (Or.inr (Or.inl h))) Ke.rf k5), 1, a, false, [], pz_stuck ng nn (fun z => absurd z.1 (by omega)), (Eq.trans (k5 62 15 (by decide)) e_a), (hw2.trans (if_pos (by decide))), fun q => absurd q (by decide)⟩)
  · refine xr_iload_n dX10_one_20 0 rfl ?_
    refine xr_bipush (v := 45) dX10_one_21 rfl ?_
    refine xr_icmp_eq (tgt := 32) dX10_one_23 rfl (fun c7 => ?_) (fun c7 => ?_)
    · have hc : nb T E a = 40 ∨ nb T E a = 33 ∨ nb T E a = 45 := by have rbc_ := rb_c T E a; grind
      have ng : ¬ (48 ≤ nb T E a ∧ nb T E a ≤ 57) := by rcases hc with h | h | h <;> (rw [h]; decide)
      have nn : ¬ 0 ≤ nameK (nb T E a) := by rcases hc with h | h | h <;> (rw [h]; decide)
      have haE1 : a < E := nb_lt (T := T) (fun q => by rcases hc with h | h | h <;> exact absurd (h.symm.trans q) (by decide))
      refine xr_aload_n dX10_one_32 1 rfl ?_
      refine xb_get (v := nI (o)) flX10_199 dX10_one_33 s_62 rfl e_o ?_
      refine xr_bipush (v := 6) dX10_one_36 rfl ?_
      refine xr_icmp_ne (tgt := 46) dX10_one_38 rfl (fun c => absurd (by have h6 : o = 6 := (by omega); rw [h6]; rfl) c) (fun _ => ?_)
      refine xr_aload_n dX10_one_41 1 rfl ?_
      refine xr_callV (As := []) (rest := []) mlX10_202 (gs_X10_wrong e_ft (a := a) (by omega) e_a) dX10_one_42 s_62 rfl rfl (Nat.le_of_ble_eq_true rfl) (by omega) ⟨by decide, by decide⟩ (fun v s2 M10 J2 hq => ?_)
      obtain ⟨r12, rfl, rfl, rfl, k11, ⟨hr9, hw8⟩⟩ := hq
      try dsimp only [Option.toList, List.cons_append, List.nil_append]
      subst hr9
      exact xr_iret dX10_one_45 rfl rfl (⟨_, rfl, rfl, rfl, (Ke.tr (fun pp kk h => (Or.inr (Or.inl h))) Ke.rf k11), 1, a, false, [], pz_stuck ng nn (fun z => absurd z.1 (by omega)), (Eq.trans (k11 62 15 (by decide)) e_a), (hw8.trans (if_pos (by decide))), fun q => absurd q (by decide)⟩)
    · refine xr_iload_n dX10_one_26 0 rfl ?_
      refine xr_bipush (v := 40) dX10_one_27 rfl ?_
      refine xr_icmp_ne (tgt := 145) dX10_one_29 rfl (fun c13 => ?_) (fun c13 => ?_)
      · have nc : ¬ (nb T E a = 40 ∨ nb T E a = 33 ∨ nb T E a = 45) := fun q => by have rbc_ := rb_c T E a; grind
        refine xr_iload_n dX10_one_145 0 rfl ?_
        refine xb_cS (As := [.int ((rb T E a))]) (rest := []) mlX10_208 (c_X10_nameOf (rb T E a)) dX10_one_146 rfl rfl (Nat.le_of_ble_eq_true rfl) (by omega) (by decide) ?_
        refine xr_istore_n (ls2 := [(2, .int ((nameK (rb T E a)))), (1, .int ((rb T E a))), (0, .ref (62))]) dX10_one_149 (by decide) rfl ?_
        refine xr_iload_n dX10_one_150 0 rfl ?_
        refine xr_if_lt (tgt := 171) dX10_one_151 rfl (fun c14 => ?_) (fun c14 => ?_)
        · have nn : ¬ 0 ≤ nameK (nb T E a) := fun q => (rb_c T E a).elim (fun z => by rw [← z] at q; grind) (fun z => by rw [z.2] at q; exact nameK_m q)
          refine xr_iconst (v := 0) dX10_one_171 rfl ?_
          refine xr_istore_n (ls2 := [(3, .int (0)), (2, .int ((nameK (rb T E a)))), (1, .int ((rb T E a))), (0, .ref (62))]) dX10_one_172 (by decide) rfl ?_
          refine xr_iconst (v := 0) dX10_one_173 rfl ?_
          refine xr_istore (ls2 := [(4, .int (0)), (3, .int (0)), (2, .int ((nameK (rb T E a)))), (1, .int ((rb T E a))), (0, .ref (62))]) dX10_one_174 (by decide) rfl ?_
          refine xb_ls (ls2 := [(4, .int (nI (0))), (3, .int (nI (0))), (2, .int ((nameK (rb T E a)))), (1, .int ((rb T E a))), (0, .ref (62))]) [0, 1, 2, 3, 4] rfl ?_
          refine rnR_l (dd := 8 * 0) (a := a) hT hE e_bs e_E (fun k w a1 M15 hw4 ha1 k16 e_a1 hnum hkd => ?_) 4 0 0 a M (by omega) (by decide) haE Ke.rf e_a rfl (Or.inl ⟨rfl, rfl⟩)
          rcases hkd with ⟨rfl, rfl, ng⟩ | ⟨⟨hk0, hk4⟩, ng⟩
          · skip
            refine xr_iload dX10_one_229 0 rfl ?_
            refine xr_if_ne (tgt := 241) dX10_one_231 rfl (fun c => absurd (by decide) c) (fun _ => ?_)
            refine xr_aload_n dX10_one_234 4 rfl ?_
            refine xr_callV (As := []) (rest := []) mlX10_202 (gs_X10_wrong (Eq.trans (k16 62 17 (by decide)) e_ft) (a := a1) (by omega) e_a1) dX10_one_235 s_62 rfl rfl (Nat.le_of_ble_eq_true rfl) (by omega) ⟨by decide, by decide⟩ (fun v s2 M19 J2 hq => ?_)
            obtain ⟨r21, rfl, rfl, rfl, k20, ⟨hr18, hw17⟩⟩ := hq
            try dsimp only [Option.toList, List.cons_append, List.nil_append]
            subst hr18
            refine xr_goto (tgt := 242) dX10_one_238 rfl ?_
            exact xr_iret dX10_one_242 rfl rfl (⟨_, rfl, rfl, rfl, (Ke.tr (fun pp kk h => (Or.inr (Or.inl h))) (Ke.tr (fun pp kk h => (Or.inl h)) Ke.rf k16) k20), 1, a1, false, [], pz_stuck ng nn (fun z => nc z.2), (Eq.trans (k20 62 15 (by decide)) e_a1), (hw17.trans (if_pos (by decide))), fun q => absurd q (by decide)⟩)
          · skip
            refine xr_iload dX10_one_229 0 rfl ?_
            refine xr_if_ne (tgt := 241) dX10_one_231 rfl (fun _ => ?_) (fun c => absurd c (fun q => absurd ((nI_eq (a := k) (b := 0) (by omega) (by decide)).mp q) (by omega)))
            refine xr_iload_n dX10_one_241 1 rfl ?_
            exact xr_iret dX10_one_242 rfl rfl (⟨_, rfl, rfl, rfl, (Ke.tr (fun pp kk h => (Or.inl h)) Ke.rf k16), 1, a1, true, [(0, nI w)], (by rw [pz_num ng, ← hnum]), e_a1, (Eq.trans (k16 62 17 (by decide)) e_ft), fun _ => ⟨(Eq.trans (k16 62 18 (by decide)) e_o), rfl⟩⟩)
        · have hrb : rb T E a = nb T E a := (rb_c T E a).elim id (fun z => absurd (show ¬ nameK (rb T E a) < 0 from by grind) (by rw [z.1]; decide))
          have nn : 0 ≤ nameK (nb T E a) := by rw [← hrb]; grind
          have ng : ¬ (48 ≤ nb T E a ∧ nb T E a ≤ 57) := fun q => by have h1 := nn; unfold nameK at h1; grind
          have haE1 : a < E := nb_lt (T := T) (fun q => by rw [q] at nn; exact nameK_m nn)
          obtain ⟨nk, hnk, enk⟩ := x_natle (v := nameK (rb T E a)) (N := 5) (K := 5) (by decide) (by decide) ⟨by rw [hrb]; exact nn, nameK5⟩
          refine xr_aload_n dX10_one_154 2 rfl ?_
          refine xr_dup dX10_one_155 rfl ?_
          refine xb_get (v := nI (a)) flX10_165 dX10_one_156 s_62 rfl e_a ?_
          refine xr_iconst (v := 1) dX10_one_159 rfl ?_
          refine xr_iadd dX10_one_160 ?_
          refine xb_top (y := nI (a + 1)) (nI_add (a) (1)) ?_
          refine xr_putI fpX10_165 dX10_one_161 s_62 rfl rfl rfl ?_
          refine xr_aload_n dX10_one_164 2 rfl ?_
          refine xr_getR flX10_34 dX10_one_165 s_62 rfl ?_
          refine xr_iload_n dX10_one_168 0 rfl ?_
          refine xb_top (y := nI nk) enk ?_
          refine xb_iald (j := nk) (v := (x_up M 62 15 (nI (a + 1))) 71 nk) dX10_one_169 s_71 (by omega) (by decide) rfl ?_
          exact xr_iret dX10_one_170 rfl rfl (⟨_, rfl, rfl, rfl, (Ke.up (Or.inl (by omega)) Ke.rf), 1, a + 1, true, _, pz_name ng nn, (x_up_s _ _ _ _), (Eq.trans (x_up_k _ _ _ (by decide)) e_ft), fun _ => ⟨(Eq.trans (x_up_k _ _ _ (by decide)) e_o), (show _ = N (nameK (nb T E a)).toNatClampNeg by rw [← hrb, enk, nI_clamp (by omega), ← hNm]; exact congrFun (x_up_n _ _ _ (by decide)) nk)⟩⟩)
      · have hc : nb T E a = 40 ∨ nb T E a = 33 ∨ nb T E a = 45 := by have rbc_ := rb_c T E a; grind
        have ng : ¬ (48 ≤ nb T E a ∧ nb T E a ≤ 57) := by rcases hc with h | h | h <;> (rw [h]; decide)
        have nn : ¬ 0 ≤ nameK (nb T E a) := by rcases hc with h | h | h <;> (rw [h]; decide)
        have haE1 : a < E := nb_lt (T := T) (fun q => by rcases hc with h | h | h <;> exact absurd (h.symm.trans q) (by decide))
        have hc40 : nb T E a = 40 := rb_i (by decide) c13
        refine xr_aload_n dX10_one_32 1 rfl ?_
        refine xb_get (v := nI (o)) flX10_199 dX10_one_33 s_62 rfl e_o ?_
        refine xr_bipush (v := 6) dX10_one_36 rfl ?_
        refine xr_icmp_ne (tgt := 46) dX10_one_38 rfl (fun c => absurd (by have h6 : o = 6 := (by omega); rw [h6]; rfl) c) (fun _ => ?_)
        refine xr_aload_n dX10_one_41 1 rfl ?_
        refine xr_callV (As := []) (rest := []) mlX10_202 (gs_X10_wrong e_ft (a := a) (by omega) e_a) dX10_one_42 s_62 rfl rfl (Nat.le_of_ble_eq_true rfl) (by omega) ⟨by decide, by decide⟩ (fun v s2 M24 J2 hq => ?_)
        obtain ⟨r26, rfl, rfl, rfl, k25, ⟨hr23, hw22⟩⟩ := hq
        try dsimp only [Option.toList, List.cons_append, List.nil_append]
        subst hr23
        exact xr_iret dX10_one_45 rfl rfl (⟨_, rfl, rfl, rfl, (Ke.tr (fun pp kk h => (Or.inr (Or.inl h))) Ke.rf k25), 1, a, false, [], pz_stuck ng nn (fun z => absurd z.1 (by omega)), (Eq.trans (k25 62 15 (by decide)) e_a), (hw22.trans (if_pos (by decide))), fun q => absurd q (by decide)⟩)
set_option maxRecDepth 100000 in
set_option maxHeartbeats 4000000 in
theorem lt_oneS {u : Nat} (h0  : LSv fX10_one (8 * u + 3) 5 u) (h1  : LSv fX10_either (8 * u + 8) 0 u) : LSv fX10_one (8 * (u + 1) + 3) 5 (u + 1) := by
  intro l G M J bs T N a E o hT hNm e_bs haE hE e_a e_E ho e_o e_ft
  refine xb_of pX10 (Nat.le_of_ble_eq_true rfl) rfl ?_
  refine xr_aload_n dX10_one_0 0 rfl ?_
  refine xb_get (v := (-1)) flX10_174 dX10_one_1 s_62 rfl e_ft ?_
  refine xr_if_lt (tgt := 9) dX10_one_4 rfl (fun _ => ?_) (fun c => absurd (by decide) c)
  refine xr_aload_n dX10_one_9 0 rfl ?_
  refine xb_cV (As := []) (rest := []) mlX10_177 (c_X10_byteAt (T := T) (a := a) (E := E) (hT.imp (fun z => ⟨z.1, (rfl).trans z.2⟩) (fun z => ⟨z.1, (rfl).trans z.2⟩)) e_bs (by omega) (by omega) e_a e_E) dX10_one_10 s_62 rfl rfl (Nat.le_of_ble_eq_true rfl) (by omega) (by decide) ?_
  refine xr_istore_n (ls2 := [(1, .int ((rb T E a))), (0, .ref (62))]) dX10_one_13 (by decide) rfl ?_
  refine xr_iload_n dX10_one_14 0 rfl ?_
  refine xr_bipush (v := 33) dX10_one_15 rfl ?_
  refine xr_icmp_eq (tgt := 32) dX10_one_17 rfl (fun c1 => ?_) (fun c1 => ?_)
  · have hc : nb T E a = 40 ∨ nb T E a = 33 ∨ nb T E a = 45 := by have rbc_ := rb_c T E a; grind
    have ng : ¬ (48 ≤ nb T E a ∧ nb T E a ≤ 57) := by rcases hc with h | h | h <;> (rw [h]; decide)
    have nn : ¬ 0 ≤ nameK (nb T E a) := by rcases hc with h | h | h <;> (rw [h]; decide)
    have haE1 : a < E := nb_lt (T := T) (fun q => by rcases hc with h | h | h <;> exact absurd (h.symm.trans q) (by decide))
    refine xr_aload_n dX10_one_32 1 rfl ?_
    refine xb_get (v := nI (o)) flX10_199 dX10_one_33 s_62 rfl e_o ?_
    refine xr_bipush (v := 6) dX10_one_36 rfl ?_
    refine xr_icmp_ne (tgt := 46) dX10_one_38 rfl (fun _ => ?_) (fun c => absurd c (fun q => absurd ((nI_eq (a := o) (b := 6) (by omega) (by decide)).mp q) (by omega)))
    refine xr_aload_n dX10_one_46 1 rfl ?_
    refine xr_dup dX10_one_47 rfl ?_
    refine xb_get (v := nI (o)) flX10_199 dX10_one_48 s_62 rfl e_o ?_
    refine xr_iconst (v := 1) dX10_one_51 rfl ?_
    refine xr_iadd dX10_one_52 ?_
    refine xb_top (y := nI (o + 1)) (nI_add (o) (1)) ?_
    refine xr_putI fpX10_199 dX10_one_53 s_62 rfl rfl rfl ?_
    refine xr_aload_n dX10_one_56 1 rfl ?_
    refine xr_dup dX10_one_57 rfl ?_
    refine xb_get (v := nI (a)) flX10_165 dX10_one_58 s_62 rfl (Eq.trans (x_up_k _ _ _ (by decide)) e_a) ?_
    refine xr_iconst (v := 1) dX10_one_61 rfl ?_
    refine xr_iadd dX10_one_62 ?_
    refine xb_top (y := nI (a + 1)) (nI_add (a) (1)) ?_
    refine xr_putI fpX10_165 dX10_one_63 s_62 rfl rfl rfl ?_
    refine xr_iload_n dX10_one_66 0 rfl ?_
    refine xr_bipush (v := 40) dX10_one_67 rfl ?_
    refine xr_icmp_ne (tgt := 79) dX10_one_69 rfl (fun _ => ?_) (fun c => absurd c (fun q => absurd (c1.symm.trans q) (by decide)))
    refine xr_aload_n dX10_one_79 1 rfl ?_
    refine xr_callV (As := []) (rest := []) mlX10_196 (h0 l G (x_up (x_up M 62 18 (nI (o + 1))) 62 15 (nI (a + 1))) J bs T N (a + 1) E (o + 1) (hT.imp (fun z => ⟨z.1, ((Eq.trans (x_up_n _ _ _ (by decide)) (Eq.trans (x_up_n _ _ _ (by decide)) rfl))).trans z.2⟩) (fun z => ⟨z.1, ((Eq.trans (x_up_n _ _ _ (by decide)) (Eq.trans (x_up_n _ _ _ (by decide)) rfl))).trans z.2⟩)) (((Eq.trans (x_up_n _ _ _ (by decide)) (Eq.trans (x_up_n _ _ _ (by decide)) rfl))).trans hNm) (Eq.trans (x_up_k _ _ _ (by decide)) (Eq.trans (x_up_k _ _ _ (by decide)) e_bs)) (by omega) hE (x_up_s _ _ _ _) (Eq.trans (x_up_k _ _ _ (by decide)) (Eq.trans (x_up_k _ _ _ (by decide)) e_E)) (by omega) (Eq.trans (x_up_k _ _ _ (by decide)) (x_up_s _ _ _ _)) (Eq.trans (x_up_k _ _ _ (by decide)) (Eq.trans (x_up_k _ _ _ (by decide)) e_ft))) dX10_one_80 s_62 rfl rfl (Nat.le_of_ble_eq_true rfl) (by omega) ⟨by decide, by decide⟩ (fun v s2 M10 J2 hq => ?_)
    obtain ⟨r12, rfl, rfl, rfl, k11, ⟨f2, a2_3, ok4, cd5, hp6, ea7, ef8, eo9⟩⟩ := hq
    try dsimp only [Option.toList, List.cons_append, List.nil_append]
    have hp6b := pz_b _ _ _ _ _ _ _ _ hp6 (by omega)
    obtain ⟨hp6x, hp6y, -⟩ := hp6b
    replace hp6x : (a + 1) ≤ a2_3 := hp6x
    replace hp6y : a2_3 ≤ E := hp6y
    refine xr_istore_n (ls2 := [(2, .int (r12)), (1, .int ((rb T E a))), (0, .ref (62))]) dX10_one_83 (by decide) rfl ?_
    refine xr_iload_n dX10_one_84 1 rfl ?_
    refine xr_bipush (v := 40) dX10_one_85 rfl ?_
    refine xr_icmp_ne (tgt := 104) dX10_one_87 rfl (fun _ => ?_) (fun c => absurd c (fun q => absurd (c1.symm.trans q) (by decide)))
    refine xr_aload_n dX10_one_104 2 rfl ?_
    refine xr_dup dX10_one_105 rfl ?_
    refine xb_get (v := (M10 62 18)) flX10_199 dX10_one_106 s_62 rfl rfl ?_
    refine xr_iconst (v := 1) dX10_one_109 rfl ?_
    refine xr_isub dX10_one_110 ?_
    refine xr_putI fpX10_199 dX10_one_111 s_62 rfl rfl rfl ?_
    refine xr_iload_n dX10_one_114 1 rfl ?_
    refine xr_bipush (v := 40) dX10_one_115 rfl ?_
    refine xr_icmp_ne (tgt := 124) dX10_one_117 rfl (fun _ => ?_) (fun c => absurd c (fun q => absurd (c1.symm.trans q) (by decide)))
    refine xr_iload_n dX10_one_124 1 rfl ?_
    refine xr_bipush (v := 45) dX10_one_125 rfl ?_
    refine xr_icmp_ne (tgt := 135) dX10_one_127 rfl (fun _ => ?_) (fun c => absurd c (fun q => absurd (c1.symm.trans q) (by decide)))
    refine xr_iload_n dX10_one_135 0 rfl ?_
    refine xr_if_ne (tgt := 143) dX10_one_136 rfl (fun c13 => ?_) (fun c13 => ?_)
    · refine xr_iconst (v := 0) dX10_one_143 rfl ?_
      exact xr_iret dX10_one_144 rfl rfl (⟨_, rfl, rfl, rfl, (Ke.up (Or.inr (Or.inr (by omega))) (Ke.tr (fun _ _ h => h) (Ke.up (Or.inl (by omega)) (Ke.up (Or.inr (Or.inr (by omega))) Ke.rf)) k11)), f2 + 1, a2_3, ok4, cd5 ++ [(4, 0)], pz_open ng nn (by omega) hc (opB_sign (g := 4) (by have rbc_ := rb_c T E a; grind) (by have rbc_ := rb_c T E a; grind) hp6), (Eq.trans (x_up_k _ _ _ (by decide)) ea7), (Eq.trans (x_up_k _ _ _ (by decide)) ef8), fun qk => ⟨((x_up_s _ _ _ _)).trans (by rw [(eo9 qk).1]; exact nI_pred o), (by rw [valF_4 (pz_gv N _ _ _ _ _ _ _ _ hp6 (fun z => absurd z (by decide)) qk), ← (eo9 qk).2]; grind)⟩⟩)
    · refine xr_iconst (v := 1) dX10_one_139 rfl ?_
      refine xr_goto (tgt := 144) dX10_one_140 rfl ?_
      exact xr_iret dX10_one_144 rfl rfl (⟨_, rfl, rfl, rfl, (Ke.up (Or.inr (Or.inr (by omega))) (Ke.tr (fun _ _ h => h) (Ke.up (Or.inl (by omega)) (Ke.up (Or.inr (Or.inr (by omega))) Ke.rf)) k11)), f2 + 1, a2_3, ok4, cd5 ++ [(4, 0)], pz_open ng nn (by omega) hc (opB_sign (g := 4) (by have rbc_ := rb_c T E a; grind) (by have rbc_ := rb_c T E a; grind) hp6), (Eq.trans (x_up_k _ _ _ (by decide)) ea7), (Eq.trans (x_up_k _ _ _ (by decide)) ef8), fun qk => ⟨((x_up_s _ _ _ _)).trans (by rw [(eo9 qk).1]; exact nI_pred o), (by rw [valF_4 (pz_gv N _ _ _ _ _ _ _ _ hp6 (fun z => absurd z (by decide)) qk), ← (eo9 qk).2]; grind)⟩⟩)
  · refine xr_iload_n dX10_one_20 0 rfl ?_
    refine xr_bipush (v := 45) dX10_one_21 rfl ?_
    refine xr_icmp_eq (tgt := 32) dX10_one_23 rfl (fun c14 => ?_) (fun c14 => ?_)
    · have hc : nb T E a = 40 ∨ nb T E a = 33 ∨ nb T E a = 45 := by have rbc_ := rb_c T E a; grind
      have ng : ¬ (48 ≤ nb T E a ∧ nb T E a ≤ 57) := by rcases hc with h | h | h <;> (rw [h]; decide)
      have nn : ¬ 0 ≤ nameK (nb T E a) := by rcases hc with h | h | h <;> (rw [h]; decide)
      have haE1 : a < E := nb_lt (T := T) (fun q => by rcases hc with h | h | h <;> exact absurd (h.symm.trans q) (by decide))
      refine xr_aload_n dX10_one_32 1 rfl ?_
      refine xb_get (v := nI (o)) flX10_199 dX10_one_33 s_62 rfl e_o ?_
      refine xr_bipush (v := 6) dX10_one_36 rfl ?_
      refine xr_icmp_ne (tgt := 46) dX10_one_38 rfl (fun _ => ?_) (fun c => absurd c (fun q => absurd ((nI_eq (a := o) (b := 6) (by omega) (by decide)).mp q) (by omega)))
      refine xr_aload_n dX10_one_46 1 rfl ?_
      refine xr_dup dX10_one_47 rfl ?_
      refine xb_get (v := nI (o)) flX10_199 dX10_one_48 s_62 rfl e_o ?_
      refine xr_iconst (v := 1) dX10_one_51 rfl ?_
      refine xr_iadd dX10_one_52 ?_
      refine xb_top (y := nI (o + 1)) (nI_add (o) (1)) ?_
      refine xr_putI fpX10_199 dX10_one_53 s_62 rfl rfl rfl ?_
      refine xr_aload_n dX10_one_56 1 rfl ?_
      refine xr_dup dX10_one_57 rfl ?_
      refine xb_get (v := nI (a)) flX10_165 dX10_one_58 s_62 rfl (Eq.trans (x_up_k _ _ _ (by decide)) e_a) ?_
      refine xr_iconst (v := 1) dX10_one_61 rfl ?_
      refine xr_iadd dX10_one_62 ?_
      refine xb_top (y := nI (a + 1)) (nI_add (a) (1)) ?_
      refine xr_putI fpX10_165 dX10_one_63 s_62 rfl rfl rfl ?_
      refine xr_iload_n dX10_one_66 0 rfl ?_
      refine xr_bipush (v := 40) dX10_one_67 rfl ?_
      refine xr_icmp_ne (tgt := 79) dX10_one_69 rfl (fun _ => ?_) (fun c => absurd c (fun q => absurd (c14.symm.trans q) (by decide)))
      refine xr_aload_n dX10_one_79 1 rfl ?_
      refine xr_callV (As := []) (rest := []) mlX10_196 (h0 l G (x_up (x_up M 62 18 (nI (o + 1))) 62 15 (nI (a + 1))) J bs T N (a + 1) E (o + 1) (hT.imp (fun z => ⟨z.1, ((Eq.trans (x_up_n _ _ _ (by decide)) (Eq.trans (x_up_n _ _ _ (by decide)) rfl))).trans z.2⟩) (fun z => ⟨z.1, ((Eq.trans (x_up_n _ _ _ (by decide)) (Eq.trans (x_up_n _ _ _ (by decide)) rfl))).trans z.2⟩)) (((Eq.trans (x_up_n _ _ _ (by decide)) (Eq.trans (x_up_n _ _ _ (by decide)) rfl))).trans hNm) (Eq.trans (x_up_k _ _ _ (by decide)) (Eq.trans (x_up_k _ _ _ (by decide)) e_bs)) (by omega) hE (x_up_s _ _ _ _) (Eq.trans (x_up_k _ _ _ (by decide)) (Eq.trans (x_up_k _ _ _ (by decide)) e_E)) (by omega) (Eq.trans (x_up_k _ _ _ (by decide)) (x_up_s _ _ _ _)) (Eq.trans (x_up_k _ _ _ (by decide)) (Eq.trans (x_up_k _ _ _ (by decide)) e_ft))) dX10_one_80 s_62 rfl rfl (Nat.le_of_ble_eq_true rfl) (by omega) ⟨by decide, by decide⟩ (fun v s2 M23 J2 hq => ?_)
      obtain ⟨r25, rfl, rfl, rfl, k24, ⟨f15, a2_16, ok17, cd18, hp19, ea20, ef21, eo22⟩⟩ := hq
      try dsimp only [Option.toList, List.cons_append, List.nil_append]
      have hp19b := pz_b _ _ _ _ _ _ _ _ hp19 (by omega)
      obtain ⟨hp19x, hp19y, -⟩ := hp19b
      replace hp19x : (a + 1) ≤ a2_16 := hp19x
      replace hp19y : a2_16 ≤ E := hp19y
      refine xr_istore_n (ls2 := [(2, .int (r25)), (1, .int ((rb T E a))), (0, .ref (62))]) dX10_one_83 (by decide) rfl ?_
      refine xr_iload_n dX10_one_84 1 rfl ?_
      refine xr_bipush (v := 40) dX10_one_85 rfl ?_
      refine xr_icmp_ne (tgt := 104) dX10_one_87 rfl (fun _ => ?_) (fun c => absurd c (fun q => absurd (c14.symm.trans q) (by decide)))
      refine xr_aload_n dX10_one_104 2 rfl ?_
      refine xr_dup dX10_one_105 rfl ?_
      refine xb_get (v := (M23 62 18)) flX10_199 dX10_one_106 s_62 rfl rfl ?_
      refine xr_iconst (v := 1) dX10_one_109 rfl ?_
      refine xr_isub dX10_one_110 ?_
      refine xr_putI fpX10_199 dX10_one_111 s_62 rfl rfl rfl ?_
      refine xr_iload_n dX10_one_114 1 rfl ?_
      refine xr_bipush (v := 40) dX10_one_115 rfl ?_
      refine xr_icmp_ne (tgt := 124) dX10_one_117 rfl (fun _ => ?_) (fun c => absurd c (fun q => absurd (c14.symm.trans q) (by decide)))
      refine xr_iload_n dX10_one_124 1 rfl ?_
      refine xr_bipush (v := 45) dX10_one_125 rfl ?_
      refine xr_icmp_ne (tgt := 135) dX10_one_127 rfl (fun c => absurd c14 c) (fun _ => ?_)
      refine xr_iload_n dX10_one_130 0 rfl ?_
      refine xr_ineg dX10_one_131 ?_
      refine xr_goto (tgt := 144) dX10_one_132 rfl ?_
      exact xr_iret dX10_one_144 rfl rfl (⟨_, rfl, rfl, rfl, (Ke.up (Or.inr (Or.inr (by omega))) (Ke.tr (fun _ _ h => h) (Ke.up (Or.inl (by omega)) (Ke.up (Or.inr (Or.inr (by omega))) Ke.rf)) k24)), f15 + 1, a2_16, ok17, cd18 ++ [(5, 0)], pz_open ng nn (by omega) hc (opB_sign (g := 5) (by have rbc_ := rb_c T E a; grind) (by have rbc_ := rb_c T E a; grind) hp19), (Eq.trans (x_up_k _ _ _ (by decide)) ea20), (Eq.trans (x_up_k _ _ _ (by decide)) ef21), fun qk => ⟨((x_up_s _ _ _ _)).trans (by rw [(eo22 qk).1]; exact nI_pred o), (by rw [valF_5 (pz_gv N _ _ _ _ _ _ _ _ hp19 (fun z => absurd z (by decide)) qk), ← (eo22 qk).2])⟩⟩)
    · refine xr_iload_n dX10_one_26 0 rfl ?_
      refine xr_bipush (v := 40) dX10_one_27 rfl ?_
      refine xr_icmp_ne (tgt := 145) dX10_one_29 rfl (fun c26 => ?_) (fun c26 => ?_)
      · have nc : ¬ (nb T E a = 40 ∨ nb T E a = 33 ∨ nb T E a = 45) := fun q => by have rbc_ := rb_c T E a; grind
        refine xr_iload_n dX10_one_145 0 rfl ?_
        refine xb_cS (As := [.int ((rb T E a))]) (rest := []) mlX10_208 (c_X10_nameOf (rb T E a)) dX10_one_146 rfl rfl (Nat.le_of_ble_eq_true rfl) (by omega) (by decide) ?_
        refine xr_istore_n (ls2 := [(2, .int ((nameK (rb T E a)))), (1, .int ((rb T E a))), (0, .ref (62))]) dX10_one_149 (by decide) rfl ?_
        refine xr_iload_n dX10_one_150 0 rfl ?_
        refine xr_if_lt (tgt := 171) dX10_one_151 rfl (fun c27 => ?_) (fun c27 => ?_)
        · have nn : ¬ 0 ≤ nameK (nb T E a) := fun q => (rb_c T E a).elim (fun z => by rw [← z] at q; grind) (fun z => by rw [z.2] at q; exact nameK_m q)
          refine xr_iconst (v := 0) dX10_one_171 rfl ?_
          refine xr_istore_n (ls2 := [(3, .int (0)), (2, .int ((nameK (rb T E a)))), (1, .int ((rb T E a))), (0, .ref (62))]) dX10_one_172 (by decide) rfl ?_
          refine xr_iconst (v := 0) dX10_one_173 rfl ?_
          refine xr_istore (ls2 := [(4, .int (0)), (3, .int (0)), (2, .int ((nameK (rb T E a)))), (1, .int ((rb T E a))), (0, .ref (62))]) dX10_one_174 (by decide) rfl ?_
          refine xb_ls (ls2 := [(4, .int (nI (0))), (3, .int (nI (0))), (2, .int ((nameK (rb T E a)))), (1, .int ((rb T E a))), (0, .ref (62))]) [0, 1, 2, 3, 4] rfl ?_
          refine rnR_l (dd := 8 * (u + 1)) (a := a) hT hE e_bs e_E (fun k w a1 M28 hw4 ha1 k29 e_a1 hnum hkd => ?_) 4 0 0 a M (by omega) (by decide) haE Ke.rf e_a rfl (Or.inl ⟨rfl, rfl⟩)
          rcases hkd with ⟨rfl, rfl, ng⟩ | ⟨⟨hk0, hk4⟩, ng⟩
          · skip
            refine xr_iload dX10_one_229 0 rfl ?_
            refine xr_if_ne (tgt := 241) dX10_one_231 rfl (fun c => absurd (by decide) c) (fun _ => ?_)
            refine xr_aload_n dX10_one_234 4 rfl ?_
            refine xr_callV (As := []) (rest := []) mlX10_202 (gs_X10_wrong (Eq.trans (k29 62 17 (by decide)) e_ft) (a := a1) (by omega) e_a1) dX10_one_235 s_62 rfl rfl (Nat.le_of_ble_eq_true rfl) (by omega) ⟨by decide, by decide⟩ (fun v s2 M32 J2 hq => ?_)
            obtain ⟨r34, rfl, rfl, rfl, k33, ⟨hr31, hw30⟩⟩ := hq
            try dsimp only [Option.toList, List.cons_append, List.nil_append]
            subst hr31
            refine xr_goto (tgt := 242) dX10_one_238 rfl ?_
            exact xr_iret dX10_one_242 rfl rfl (⟨_, rfl, rfl, rfl, (Ke.tr (fun pp kk h => (Or.inr (Or.inl h))) (Ke.tr (fun pp kk h => (Or.inl h)) Ke.rf k29) k33), 1, a1, false, [], pz_stuck ng nn (fun z => nc z.2), (Eq.trans (k33 62 15 (by decide)) e_a1), (hw30.trans (if_pos (by decide))), fun q => absurd q (by decide)⟩)
          · skip
            refine xr_iload dX10_one_229 0 rfl ?_
            refine xr_if_ne (tgt := 241) dX10_one_231 rfl (fun _ => ?_) (fun c => absurd c (fun q => absurd ((nI_eq (a := k) (b := 0) (by omega) (by decide)).mp q) (by omega)))
            refine xr_iload_n dX10_one_241 1 rfl ?_
            exact xr_iret dX10_one_242 rfl rfl (⟨_, rfl, rfl, rfl, (Ke.tr (fun pp kk h => (Or.inl h)) Ke.rf k29), 1, a1, true, [(0, nI w)], (by rw [pz_num ng, ← hnum]), e_a1, (Eq.trans (k29 62 17 (by decide)) e_ft), fun _ => ⟨(Eq.trans (k29 62 18 (by decide)) e_o), rfl⟩⟩)
        · have hrb : rb T E a = nb T E a := (rb_c T E a).elim id (fun z => absurd (show ¬ nameK (rb T E a) < 0 from by grind) (by rw [z.1]; decide))
          have nn : 0 ≤ nameK (nb T E a) := by rw [← hrb]; grind
          have ng : ¬ (48 ≤ nb T E a ∧ nb T E a ≤ 57) := fun q => by have h1 := nn; unfold nameK at h1; grind
          have haE1 : a < E := nb_lt (T := T) (fun q => by rw [q] at nn; exact nameK_m nn)
          obtain ⟨nk, hnk, enk⟩ := x_natle (v := nameK (rb T E a)) (N := 5) (K := 5) (by decide) (by decide) ⟨by rw [hrb]; exact nn, nameK5⟩
          refine xr_aload_n dX10_one_154 2 rfl ?_
          refine xr_dup dX10_one_155 rfl ?_
          refine xb_get (v := nI (a)) flX10_165 dX10_one_156 s_62 rfl e_a ?_
          refine xr_iconst (v := 1) dX10_one_159 rfl ?_
          refine xr_iadd dX10_one_160 ?_
          refine xb_top (y := nI (a + 1)) (nI_add (a) (1)) ?_
          refine xr_putI fpX10_165 dX10_one_161 s_62 rfl rfl rfl ?_
          refine xr_aload_n dX10_one_164 2 rfl ?_
          refine xr_getR flX10_34 dX10_one_165 s_62 rfl ?_
          refine xr_iload_n dX10_one_168 0 rfl ?_
          refine xb_top (y := nI nk) enk ?_
          refine xb_iald (j := nk) (v := (x_up M 62 15 (nI (a + 1))) 71 nk) dX10_one_169 s_71 (by omega) (by decide) rfl ?_
          exact xr_iret dX10_one_170 rfl rfl (⟨_, rfl, rfl, rfl, (Ke.up (Or.inl (by omega)) Ke.rf), 1, a + 1, true, _, pz_name ng nn, (x_up_s _ _ _ _), (Eq.trans (x_up_k _ _ _ (by decide)) e_ft), fun _ => ⟨(Eq.trans (x_up_k _ _ _ (by decide)) e_o), (show _ = N (nameK (nb T E a)).toNatClampNeg by rw [← hrb, enk, nI_clamp (by omega), ← hNm]; exact congrFun (x_up_n _ _ _ (by decide)) nk)⟩⟩)
      · have hc : nb T E a = 40 ∨ nb T E a = 33 ∨ nb T E a = 45 := by have rbc_ := rb_c T E a; grind
        have ng : ¬ (48 ≤ nb T E a ∧ nb T E a ≤ 57) := by rcases hc with h | h | h <;> (rw [h]; decide)
        have nn : ¬ 0 ≤ nameK (nb T E a) := by rcases hc with h | h | h <;> (rw [h]; decide)
        have haE1 : a < E := nb_lt (T := T) (fun q => by rcases hc with h | h | h <;> exact absurd (h.symm.trans q) (by decide))
        have hc40 : nb T E a = 40 := rb_i (by decide) c26
        refine xr_aload_n dX10_one_32 1 rfl ?_
        refine xb_get (v := nI (o)) flX10_199 dX10_one_33 s_62 rfl e_o ?_
        refine xr_bipush (v := 6) dX10_one_36 rfl ?_
        refine xr_icmp_ne (tgt := 46) dX10_one_38 rfl (fun _ => ?_) (fun c => absurd c (fun q => absurd ((nI_eq (a := o) (b := 6) (by omega) (by decide)).mp q) (by omega)))
        refine xr_aload_n dX10_one_46 1 rfl ?_
        refine xr_dup dX10_one_47 rfl ?_
        refine xb_get (v := nI (o)) flX10_199 dX10_one_48 s_62 rfl e_o ?_
        refine xr_iconst (v := 1) dX10_one_51 rfl ?_
        refine xr_iadd dX10_one_52 ?_
        refine xb_top (y := nI (o + 1)) (nI_add (o) (1)) ?_
        refine xr_putI fpX10_199 dX10_one_53 s_62 rfl rfl rfl ?_
        refine xr_aload_n dX10_one_56 1 rfl ?_
        refine xr_dup dX10_one_57 rfl ?_
        refine xb_get (v := nI (a)) flX10_165 dX10_one_58 s_62 rfl (Eq.trans (x_up_k _ _ _ (by decide)) e_a) ?_
        refine xr_iconst (v := 1) dX10_one_61 rfl ?_
        refine xr_iadd dX10_one_62 ?_
        refine xb_top (y := nI (a + 1)) (nI_add (a) (1)) ?_
        refine xr_putI fpX10_165 dX10_one_63 s_62 rfl rfl rfl ?_
        refine xr_iload_n dX10_one_66 0 rfl ?_
        refine xr_bipush (v := 40) dX10_one_67 rfl ?_
        refine xr_icmp_ne (tgt := 79) dX10_one_69 rfl (fun c => absurd c26 c) (fun _ => ?_)
        refine xr_aload_n dX10_one_72 1 rfl ?_
        refine xr_callV (As := []) (rest := []) mlX10_205 (h1 l G (x_up (x_up M 62 18 (nI (o + 1))) 62 15 (nI (a + 1))) J bs T N (a + 1) E (o + 1) (hT.imp (fun z => ⟨z.1, ((Eq.trans (x_up_n _ _ _ (by decide)) (Eq.trans (x_up_n _ _ _ (by decide)) rfl))).trans z.2⟩) (fun z => ⟨z.1, ((Eq.trans (x_up_n _ _ _ (by decide)) (Eq.trans (x_up_n _ _ _ (by decide)) rfl))).trans z.2⟩)) (((Eq.trans (x_up_n _ _ _ (by decide)) (Eq.trans (x_up_n _ _ _ (by decide)) rfl))).trans hNm) (Eq.trans (x_up_k _ _ _ (by decide)) (Eq.trans (x_up_k _ _ _ (by decide)) e_bs)) (by omega) hE (x_up_s _ _ _ _) (Eq.trans (x_up_k _ _ _ (by decide)) (Eq.trans (x_up_k _ _ _ (by decide)) e_E)) (by omega) (Eq.trans (x_up_k _ _ _ (by decide)) (x_up_s _ _ _ _)) (Eq.trans (x_up_k _ _ _ (by decide)) (Eq.trans (x_up_k _ _ _ (by decide)) e_ft))) dX10_one_73 s_62 rfl rfl (Nat.le_of_ble_eq_true rfl) (by omega) ⟨by decide, by decide⟩ (fun v s2 M43 J2 hq => ?_)
        obtain ⟨r45, rfl, rfl, rfl, k44, ⟨f35, a2_36, ok37, cd38, hp39, ea40, ef41, eo42⟩⟩ := hq
        try dsimp only [Option.toList, List.cons_append, List.nil_append]
        have hp39b := pz_b _ _ _ _ _ _ _ _ hp39 (by omega)
        obtain ⟨hp39x, hp39y, -⟩ := hp39b
        replace hp39x : (a + 1) ≤ a2_36 := hp39x
        replace hp39y : a2_36 ≤ E := hp39y
        refine xr_goto (tgt := 83) dX10_one_76 rfl ?_
        refine xr_istore_n (ls2 := [(2, .int (r45)), (1, .int ((rb T E a))), (0, .ref (62))]) dX10_one_83 (by decide) rfl ?_
        refine xr_iload_n dX10_one_84 1 rfl ?_
        refine xr_bipush (v := 40) dX10_one_85 rfl ?_
        refine xr_icmp_ne (tgt := 104) dX10_one_87 rfl (fun c => absurd c26 c) (fun _ => ?_)
        refine xr_aload_n dX10_one_90 2 rfl ?_
        refine xr_bipush (v := 41) dX10_one_91 rfl ?_
        refine xr_callV (As := [.int (41)]) (rest := []) mlX10_184 (gs_X10_takes (si := 41) (by decide) (by decide) (T := T) (a := a2_36) (E := E) (hT.imp (fun z => ⟨z.1, ((Eq.trans (funext fun kk => k44 69 kk (by unfold WPR; omega)) (Eq.trans (x_up_n _ _ _ (by decide)) (Eq.trans (x_up_n _ _ _ (by decide)) rfl)))).trans z.2⟩) (fun z => ⟨z.1, ((Eq.trans (funext fun kk => k44 70 kk (by unfold WPR; omega)) (Eq.trans (x_up_n _ _ _ (by decide)) (Eq.trans (x_up_n _ _ _ (by decide)) rfl)))).trans z.2⟩)) (Eq.trans (k44 62 14 (by decide)) (Eq.trans (x_up_k _ _ _ (by decide)) (Eq.trans (x_up_k _ _ _ (by decide)) e_bs))) (by omega) (by omega) ea40 (Eq.trans (k44 62 16 (by decide)) (Eq.trans (x_up_k _ _ _ (by decide)) (Eq.trans (x_up_k _ _ _ (by decide)) e_E))) ef41) dX10_one_93 s_62 rfl rfl (Nat.le_of_ble_eq_true rfl) (by omega) ⟨by decide, by decide⟩ (fun v s2 M49 J2 hq => ?_)
        obtain ⟨r51, rfl, rfl, rfl, k50, hx46⟩ := hq
        try dsimp only [Option.toList, List.cons_append, List.nil_append]
        rcases hx46 with ⟨rfl, hy47, ea48⟩ | ⟨rfl, hy47, ea48⟩
        · skip
          refine xr_if_ne (tgt := 104) dX10_one_96 rfl (fun _ => ?_) (fun c => absurd c (by decide))
          refine xr_aload_n dX10_one_104 2 rfl ?_
          refine xr_dup dX10_one_105 rfl ?_
          refine xb_get (v := (M43 62 18)) flX10_199 dX10_one_106 s_62 rfl (Eq.trans (k50 62 18 (by decide)) rfl) ?_
          refine xr_iconst (v := 1) dX10_one_109 rfl ?_
          refine xr_isub dX10_one_110 ?_
          refine xr_putI fpX10_199 dX10_one_111 s_62 rfl rfl rfl ?_
          refine xr_iload_n dX10_one_114 1 rfl ?_
          refine xr_bipush (v := 40) dX10_one_115 rfl ?_
          refine xr_icmp_ne (tgt := 124) dX10_one_117 rfl (fun c => absurd c26 c) (fun _ => ?_)
          refine xr_iload_n dX10_one_120 0 rfl ?_
          refine xr_goto (tgt := 144) dX10_one_121 rfl ?_
          exact xr_iret dX10_one_144 rfl rfl (⟨_, rfl, rfl, rfl, (Ke.up (Or.inr (Or.inr (by omega))) (Ke.tr (fun pp kk h => (Or.inl h)) (Ke.tr (fun _ _ h => h) (Ke.up (Or.inl (by omega)) (Ke.up (Or.inr (Or.inr (by omega))) Ke.rf)) k44) k50)), f35 + 1, a2_36 + 1, true, cd38, pz_open ng nn (by omega) hc (by rw [hc40, opB_paren hp39, if_pos ⟨ftv_ok (a := a2_36) (by omega) hy47.1, hy47.2⟩]), (Eq.trans (x_up_k _ _ _ (by decide)) ea48), ((Eq.trans (x_up_k _ _ _ (by decide)) (Eq.trans (k50 62 17 (by decide)) ef41))).trans (ftv_1 (ftv_ok (a := a2_36) (by omega) hy47.1)), fun _ => ⟨((x_up_s _ _ _ _)).trans (by rw [(eo42 (ftv_ok (a := a2_36) (by omega) hy47.1)).1]; exact nI_pred o), (eo42 (ftv_ok (a := a2_36) (by omega) hy47.1)).2⟩⟩)
        · skip
          refine xr_if_ne (tgt := 104) dX10_one_96 rfl (fun c => absurd (by decide) c) (fun _ => ?_)
          refine xr_aload_n dX10_one_99 2 rfl ?_
          refine xr_callV (As := []) (rest := []) mlX10_202 (gs_X10_wrong (Eq.trans (k50 62 17 (by decide)) ef41) (a := a2_36) (by omega) ea48) dX10_one_100 s_62 rfl rfl (Nat.le_of_ble_eq_true rfl) (by omega) ⟨by decide, by decide⟩ (fun v s2 M54 J2 hq => ?_)
          obtain ⟨r56, rfl, rfl, rfl, k55, ⟨hr53, hw52⟩⟩ := hq
          try dsimp only [Option.toList, List.cons_append, List.nil_append]
          subst hr53
          exact xr_iret dX10_one_103 rfl rfl (⟨_, rfl, rfl, rfl, (Ke.tr (fun pp kk h => (Or.inr (Or.inl h))) (Ke.tr (fun pp kk h => (Or.inl h)) (Ke.tr (fun _ _ h => h) (Ke.up (Or.inl (by omega)) (Ke.up (Or.inr (Or.inr (by omega))) Ke.rf)) k44) k50) k55), f35 + 1, a2_36, false, cd38, pz_open ng nn (by omega) hc (by rw [hc40, opB_paren hp39, if_neg (fun z => hy47 ⟨by rw [ftv_1 z.1]; decide, z.2⟩)]), (Eq.trans (k55 62 15 (by decide)) ea48), (hw52).trans (ftv_w (by omega)), fun q => absurd q (by decide)⟩)
theorem lt_chain {u : Nat} (h  : LSv fX10_one (8 * u + 3) 5 u)  : LSv fX10_either (8 * u + 8) 0 u := lt_either (lt_both (lt_compared (lt_sums (lt_product h))))
theorem lt_all : ∀ u, LSv fX10_one (8 * u + 3) 5 u := by
  intro u
  induction u with
  | zero => exact lt_one0
  | succ u ih => exact lt_oneS ih (lt_chain ih)
theorem lt_top  : LSv fX10_either 56 0 6 := lt_chain (lt_all 6)
/-- what the lines so far have worked out -/
def VI (N : Nat → Int32) (l1 : zL) (fl vv : Int32) : Prop := fl = 0 ∧ vv = 0 ∧ (∀ t, evT N (l1 ++ t) = evT N t) ∨ ¬ fl = 0 ∧ ∀ t, evT N (l1 ++ t) = vv
theorem VI_0 {N : Nat → Int32} : VI N [] 0 0 := Or.inl ⟨rfl, rfl, fun _ => rfl⟩
theorem VI_a {N : Nat → Int32} {l1 : zL} {e : zC × Option zC} {fl vv : Int32} (h : VI N l1 fl vv) (hf : ¬ fl = 0) : VI N (l1 ++ [e]) fl vv := Or.inr ⟨hf, fun t => by rw [List.append_assoc]; exact (Or.resolve_left h (fun q => hf q.1)).2 _⟩
theorem VI_b {N : Nat → Int32} {l1 : zL} {c1 : zC} {fl vv : Int32} (h : VI N l1 fl vv) (hf : fl = 0) : VI N (l1 ++ [(c1, none)]) 1 (valF N c1) := Or.inr ⟨by decide, fun t => by rw [List.append_assoc]; exact (Or.resolve_right h (fun q => q.1 hf)).2.2 _⟩
theorem VI_c {N : Nat → Int32} {l1 : zL} {c1 c2 : zC} {fl vv : Int32} (h : VI N l1 fl vv) (h1 : valF N c1 = 0) : VI N (l1 ++ [(c1, some c2)]) fl vv := by
  rcases h with ⟨a, b, c⟩ | ⟨a, b⟩
  · exact Or.inl ⟨a, b, fun t => by rw [List.append_assoc, c]; exact if_pos h1⟩
  · exact Or.inr ⟨a, fun t => by rw [List.append_assoc]; exact b _⟩
theorem VI_d {N : Nat → Int32} {l1 : zL} {c1 c2 : zC} {fl vv : Int32} (h : VI N l1 fl vv) (hf : fl = 0) (h1 : ¬ valF N c1 = 0) : VI N (l1 ++ [(c1, some c2)]) 1 (valF N c2) := Or.inr ⟨by decide, fun t => by rw [List.append_assoc, (Or.resolve_right h (fun q => q.1 hf)).2.2]; exact if_neg h1⟩
theorem VI_e {N : Nat → Int32} {l1 : zL} {fl vv : Int32} (h : VI N l1 fl vv) : vv = evT N l1 := by
  rcases h with ⟨a, b, c⟩ | ⟨a, b⟩
  · have := c []; rw [List.append_nil] at this; rw [this, b]; rfl
  · have := b []; rw [List.append_nil] at this; exact this.symm
theorem ftF_n {ok : Bool} {E a : Nat} (h : ¬ ok = true) : ftv ok a = ftF E a ok := by unfold ftv ftF; rw [if_neg h, if_neg (fun q => h q.1)]
theorem ftF_e {ok : Bool} {E a : Nat} (h : ok = true) (h2 : ¬ a < E) : ftv ok a = ftF E a ok := by unfold ftv ftF; rw [if_pos h, if_pos ⟨h, h2⟩]
theorem ftF_l {ok : Bool} {E a : Nat} (h : a < E) : nI a = ftF E a ok := by unfold ftF; rw [if_neg (fun q => q.2 h)]
theorem ftF_m {ok : Bool} {E a : Nat} (ha : a ≤ 120) (h : ¬ ok = true ∨ a < E) : ¬ ftF E a ok = -1 := by
  unfold ftF
  rw [if_neg (fun q => h.elim (fun z => z q.1) (fun z => q.2 z))]
  exact fun q => absurd (nI_pos' (n := a) (by omega)) (by rw [q]; decide)
/-- what the text leaves -/
def TXv (M2 : xM) (T N : Nat → Int32) (E : Nat) (r : Int32) : Prop := ∃ (f g a2 : Nat) (ok : Bool) (ls : zL), txB T E f g 0 = some (a2, ok, ls) ∧ a2 ≤ E ∧ M2 62 17 = ftF E a2 ok ∧ (ftF E a2 ok = -1 → r = evT N ls)
set_option maxRecDepth 100000 in
set_option maxHeartbeats 4000000 in
theorem wo_s {l : Launch} {G : xG} {M : xM} {J : xJ} {bs : Int32} {T N : Nat → Int32} {E : Nat} (hT : bs = -1 ∧ M 69 = T ∨ bs = 0 ∧ M 70 = T) (hNm : M 71 = N) (hE : E ≤ 120) : ∀ (m a1 : Nat) (l1 : zL) (vv fl : Int32) (M1 : xM), E < a1 + m + 1 → a1 ≤ E → Ke WPW M M1 → M1 62 15 = nI a1 → M1 62 18 = nI 0 → M1 62 14 = bs → M1 62 16 = nI E → M1 62 17 = -1 → TGo T E a1 l1 → VI N l1 fl vv → x_X l G fX10_workOut 58 0 0 (qKI WPW M J (fun r M2 => TXv M2 T N E r)) 33 [(5, .int (1)), (4, .int (vv)), (3, .int (fl)), (0, .ref (62))] [] x_SH M1 J 0 0 := by
  intro m
  induction m with
  | zero =>
    intro a1 l1 vv fl M1 hm h2 hM e_a1 e_o1 e_bs e_E e_f1 hgo hvi
    refine xr_iload dX10_workOut_33 0 rfl ?_
    refine xr_if_eq (tgt := 107) dX10_workOut_35 rfl (fun c => absurd c (by decide)) (fun _ => ?_)
    refine xr_aload_n dX10_workOut_38 3 rfl ?_
    refine xr_callV (As := []) (rest := []) mlX10_205 (lt_top l G M1 J bs T N a1 E 0 (hT.imp (fun z => ⟨z.1, ((Eq.trans (funext fun kk => hM 69 kk (by unfold WPW; omega)) rfl)).trans z.2⟩) (fun z => ⟨z.1, ((Eq.trans (funext fun kk => hM 70 kk (by unfold WPW; omega)) rfl)).trans z.2⟩)) (((Eq.trans (funext fun kk => hM 71 kk (by unfold WPW; omega)) rfl)).trans hNm) e_bs (by omega) hE e_a1 e_E (by omega) e_o1 e_f1) dX10_workOut_39 s_62 rfl rfl (Nat.le_of_ble_eq_true rfl) (by omega) ⟨by decide, by decide⟩ (fun v s2 M9 J2 hq => ?_)
    obtain ⟨r11, rfl, rfl, rfl, k10, ⟨f1, a2_2, ok3, cd4, hp5, ea6, ef7, eo8⟩⟩ := hq
    try dsimp only [Option.toList, List.cons_append, List.nil_append]
    have hp5b := pz_b _ _ _ _ _ _ _ _ hp5 (by omega)
    obtain ⟨hp5x, hp5y, -⟩ := hp5b
    replace hp5x : a1 ≤ a2_2 := hp5x
    replace hp5y : a2_2 ≤ E := hp5y
    refine xr_istore (ls2 := [(6, .int (r11)), (5, .int (1)), (4, .int (vv)), (3, .int (fl)), (0, .ref (62))]) dX10_workOut_42 (by decide) rfl ?_
    refine xr_iconst (v := 1) dX10_workOut_44 rfl ?_
    refine xr_istore (ls2 := [(7, .int (1)), (6, .int (r11)), (5, .int (1)), (4, .int (vv)), (3, .int (fl)), (0, .ref (62))]) dX10_workOut_45 (by decide) rfl ?_
    refine xr_aload_n dX10_workOut_47 5 rfl ?_
    refine xr_bipush (v := 63) dX10_workOut_48 rfl ?_
    refine xr_callV (As := [.int (63)]) (rest := []) mlX10_184 (gs_X10_takes (si := 63) (by decide) (by decide) (T := T) (a := a2_2) (E := E) (hT.imp (fun z => ⟨z.1, ((Eq.trans (funext fun kk => k10 69 kk (by unfold WPR; omega)) (Eq.trans (funext fun kk => hM 69 kk (by unfold WPW; omega)) rfl))).trans z.2⟩) (fun z => ⟨z.1, ((Eq.trans (funext fun kk => k10 70 kk (by unfold WPR; omega)) (Eq.trans (funext fun kk => hM 70 kk (by unfold WPW; omega)) rfl))).trans z.2⟩)) (Eq.trans (k10 62 14 (by decide)) e_bs) (by omega) (by omega) ea6 (Eq.trans (k10 62 16 (by decide)) e_E) ef7) dX10_workOut_50 s_62 rfl rfl (Nat.le_of_ble_eq_true rfl) (by omega) ⟨by decide, by decide⟩ (fun v s2 M15 J2 hq => ?_)
    obtain ⟨r17, rfl, rfl, rfl, k16, hx12⟩ := hq
    try dsimp only [Option.toList, List.cons_append, List.nil_append]
    rcases hx12 with ⟨rfl, hy13, ea14⟩ | ⟨rfl, hy13, ea14⟩
    · skip
      refine xr_if_eq (tgt := 74) dX10_workOut_53 rfl (fun c => absurd c (by decide)) (fun _ => ?_)
      have hok1 : ok3 = true := ftv_ok (a := a2_2) (by omega) hy13.1
      have hl1 : a2_2 < E := nb_lt (T := T) (fun z => absurd (hy13.2.symm.trans z) (by decide))
      refine xr_iload dX10_workOut_56 1 rfl ?_
      refine xr_if_eq (tgt := 65) dX10_workOut_58 rfl (fun c18 => ?_) (fun c18 => ?_)
      · refine xr_iconst (v := 0) dX10_workOut_65 rfl ?_
        refine xr_istore (ls2 := [(7, .int (0)), (6, .int (r11)), (5, .int (1)), (4, .int (vv)), (3, .int (fl)), (0, .ref (62))]) dX10_workOut_66 (by decide) rfl ?_
        refine xr_aload_n dX10_workOut_68 5 rfl ?_
        refine xr_callV (As := []) (rest := []) mlX10_205 (lt_top l G M15 J bs T N (a2_2 + 1) E 0 (hT.imp (fun z => ⟨z.1, ((Eq.trans (funext fun kk => k16 69 kk (by unfold WPA; omega)) (Eq.trans (funext fun kk => k10 69 kk (by unfold WPR; omega)) (Eq.trans (funext fun kk => hM 69 kk (by unfold WPW; omega)) rfl)))).trans z.2⟩) (fun z => ⟨z.1, ((Eq.trans (funext fun kk => k16 70 kk (by unfold WPA; omega)) (Eq.trans (funext fun kk => k10 70 kk (by unfold WPR; omega)) (Eq.trans (funext fun kk => hM 70 kk (by unfold WPW; omega)) rfl)))).trans z.2⟩)) (((Eq.trans (funext fun kk => k16 71 kk (by unfold WPA; omega)) (Eq.trans (funext fun kk => k10 71 kk (by unfold WPR; omega)) (Eq.trans (funext fun kk => hM 71 kk (by unfold WPW; omega)) rfl)))).trans hNm) (Eq.trans (k16 62 14 (by decide)) (Eq.trans (k10 62 14 (by decide)) e_bs)) (by omega) hE ea14 (Eq.trans (k16 62 16 (by decide)) (Eq.trans (k10 62 16 (by decide)) e_E)) (by omega) (((Eq.trans (k16 62 18 (by decide)) rfl)).trans (eo8 hok1).1) (((Eq.trans (k16 62 17 (by decide)) ef7)).trans (ftv_1 hok1))) dX10_workOut_69 s_62 rfl rfl (Nat.le_of_ble_eq_true rfl) (by omega) ⟨by decide, by decide⟩ (fun v s2 M27 J2 hq => ?_)
        obtain ⟨r29, rfl, rfl, rfl, k28, ⟨f19, a2_20, ok21, cd22, hp23, ea24, ef25, eo26⟩⟩ := hq
        try dsimp only [Option.toList, List.cons_append, List.nil_append]
        have hp23b := pz_b _ _ _ _ _ _ _ _ hp23 (by omega)
        obtain ⟨hp23x, hp23y, -⟩ := hp23b
        replace hp23x : (a2_2 + 1) ≤ a2_20 := hp23x
        replace hp23y : a2_20 ≤ E := hp23y
        refine xr_istore (ls2 := [(6, .int (r29)), (7, .int (0)), (5, .int (1)), (4, .int (vv)), (3, .int (fl)), (0, .ref (62))]) dX10_workOut_72 (by decide) rfl ?_
        refine xr_aload_n dX10_workOut_74 5 rfl ?_
        refine xb_get (v := (ftv ok21 a2_20)) flX10_174 dX10_workOut_75 s_62 rfl ef25 ?_
        refine xr_if_ge (tgt := 96) dX10_workOut_78 rfl (fun c30 => ?_) (fun c30 => ?_)
        · refine xr_aload_n dX10_workOut_96 5 rfl ?_
          refine xr_bipush (v := 59) dX10_workOut_97 rfl ?_
          refine xr_callV (As := [.int (59)]) (rest := []) mlX10_184 (gs_X10_takes (si := 59) (by decide) (by decide) (T := T) (a := a2_20) (E := E) (hT.imp (fun z => ⟨z.1, ((Eq.trans (funext fun kk => k28 69 kk (by unfold WPR; omega)) (Eq.trans (funext fun kk => k16 69 kk (by unfold WPA; omega)) (Eq.trans (funext fun kk => k10 69 kk (by unfold WPR; omega)) (Eq.trans (funext fun kk => hM 69 kk (by unfold WPW; omega)) rfl))))).trans z.2⟩) (fun z => ⟨z.1, ((Eq.trans (funext fun kk => k28 70 kk (by unfold WPR; omega)) (Eq.trans (funext fun kk => k16 70 kk (by unfold WPA; omega)) (Eq.trans (funext fun kk => k10 70 kk (by unfold WPR; omega)) (Eq.trans (funext fun kk => hM 70 kk (by unfold WPW; omega)) rfl))))).trans z.2⟩)) (Eq.trans (k28 62 14 (by decide)) (Eq.trans (k16 62 14 (by decide)) (Eq.trans (k10 62 14 (by decide)) e_bs))) (by omega) (by omega) ea24 (Eq.trans (k28 62 16 (by decide)) (Eq.trans (k16 62 16 (by decide)) (Eq.trans (k10 62 16 (by decide)) e_E))) ef25) dX10_workOut_99 s_62 rfl rfl (Nat.le_of_ble_eq_true rfl) (by omega) ⟨by decide, by decide⟩ (fun v s2 M34 J2 hq => ?_)
          obtain ⟨r36, rfl, rfl, rfl, k35, hx31⟩ := hq
          try dsimp only [Option.toList, List.cons_append, List.nil_append]
          rcases hx31 with ⟨rfl, hy32, ea33⟩ | ⟨rfl, hy32, ea33⟩
          · skip
            refine xr_istore (ls2 := [(5, .int (1)), (6, .int (r29)), (7, .int (0)), (4, .int (vv)), (3, .int (fl)), (0, .ref (62))]) dX10_workOut_102 (by decide) rfl ?_
            refine xr_goto (tgt := 33) dX10_workOut_104 rfl ?_
            exact absurd hy32.1 (by have z1 := c30; grind)
          · skip
            refine xr_istore (ls2 := [(5, .int (0)), (6, .int (r29)), (7, .int (0)), (4, .int (vv)), (3, .int (fl)), (0, .ref (62))]) dX10_workOut_102 (by decide) rfl ?_
            refine xr_goto (tgt := 33) dX10_workOut_104 rfl ?_
            refine xr_iload dX10_workOut_33 0 rfl ?_
            refine xr_if_eq (tgt := 107) dX10_workOut_35 rfl (fun _ => ?_) (fun c => absurd (by decide) c)
            refine xr_aload_n dX10_workOut_107 5 rfl ?_
            refine xb_get (v := (ftv ok21 a2_20)) flX10_174 dX10_workOut_108 s_62 rfl (Eq.trans (k35 62 17 (by decide)) ef25) ?_
            refine xr_if_ge (tgt := 130) dX10_workOut_111 rfl (fun c37 => ?_) (fun c37 => ?_)
            · refine xr_iload dX10_workOut_130 3 rfl ?_
              exact xr_iret dX10_workOut_132 rfl rfl ((by obtain ⟨f2, g2, hf2⟩ := TGo_end hgo (lnB_2 hp5 ⟨hok1, hy13.2⟩ hp23) (fun z => hy32 ⟨by rw [ftv_1 z.1]; decide, z.2⟩); exact ⟨_, rfl, rfl, rfl, (Ke.tr (fun pp kk h => (Or.inr (Or.inl h))) (Ke.tr (fun pp kk => (fun hh => Or.elim hh (fun h => (Or.inr (Or.inl h))) (fun hh => Or.elim hh (fun h => (Or.inr (Or.inr (Or.inr (Or.inl h))))) (fun h => (Or.inr (Or.inr (Or.inr (Or.inr h)))))))) (Ke.tr (fun pp kk h => (Or.inr (Or.inl h))) (Ke.tr (fun pp kk => (fun hh => Or.elim hh (fun h => (Or.inr (Or.inl h))) (fun hh => Or.elim hh (fun h => (Or.inr (Or.inr (Or.inr (Or.inl h))))) (fun h => (Or.inr (Or.inr (Or.inr (Or.inr h)))))))) hM k10) k16) k28) k35), f2, g2, a2_20, ok21, _, hf2, (by omega), ((Eq.trans (k35 62 17 (by decide)) ef25)).trans (ftF_n (fun z => by have z1 := ftv_1 (a := a2_20) z; have z2 := c37; rw [z1] at z2; exact absurd z2 (by decide))), fun z => absurd z (ftF_m (by omega) (Or.inl (fun z => by have z1 := ftv_1 (a := a2_20) z; have z2 := c37; rw [z1] at z2; exact absurd z2 (by decide))))⟩))
            · refine xr_aload_n dX10_workOut_114 5 rfl ?_
              refine xb_get (v := nI (a2_20)) flX10_165 dX10_workOut_115 s_62 rfl ea33 ?_
              refine xr_aload_n dX10_workOut_118 5 rfl ?_
              refine xb_get (v := nI (E)) flX10_168 dX10_workOut_119 s_62 rfl (Eq.trans (k35 62 16 (by decide)) (Eq.trans (k28 62 16 (by decide)) (Eq.trans (k16 62 16 (by decide)) (Eq.trans (k10 62 16 (by decide)) e_E)))) ?_
              refine xr_icmp_ge (tgt := 130) dX10_workOut_122 rfl (fun c38 => ?_) (fun c38 => ?_)
              · have hge : ¬ a2_20 < E := fun q => absurd ((nI_ltI (a := a2_20) (b := E) (by omega) (by omega)).mpr q) (by have z := c38; grind)
                refine xr_iload dX10_workOut_130 3 rfl ?_
                exact xr_iret dX10_workOut_132 rfl rfl ((absurd c30 c37))
              · have hlt : a2_20 < E := (nI_ltI (a := a2_20) (b := E) (by omega) (by omega)).mp (by have z := c38; grind)
                refine xr_aload_n dX10_workOut_125 5 rfl ?_
                refine xr_callV (As := []) (rest := []) mlX10_202 (gs_X10_wrong (Eq.trans (k35 62 17 (by decide)) ef25) (a := a2_20) (by omega) ea33) dX10_workOut_126 s_62 rfl rfl (Nat.le_of_ble_eq_true rfl) (by omega) ⟨by decide, by decide⟩ (fun v s2 M41 J2 hq => ?_)
                obtain ⟨r43, rfl, rfl, rfl, k42, ⟨hr40, hw39⟩⟩ := hq
                try dsimp only [Option.toList, List.cons_append, List.nil_append]
                subst hr40
                exact xr_iret dX10_workOut_129 rfl rfl ((absurd c30 c37))
        · refine xr_iload dX10_workOut_81 1 rfl ?_
          refine xr_if_eq (tgt := 96) dX10_workOut_83 rfl (fun _ => ?_) (fun c => absurd (by decide) c)
          refine xr_aload_n dX10_workOut_96 5 rfl ?_
          refine xr_bipush (v := 59) dX10_workOut_97 rfl ?_
          refine xr_callV (As := [.int (59)]) (rest := []) mlX10_184 (gs_X10_takes (si := 59) (by decide) (by decide) (T := T) (a := a2_20) (E := E) (hT.imp (fun z => ⟨z.1, ((Eq.trans (funext fun kk => k28 69 kk (by unfold WPR; omega)) (Eq.trans (funext fun kk => k16 69 kk (by unfold WPA; omega)) (Eq.trans (funext fun kk => k10 69 kk (by unfold WPR; omega)) (Eq.trans (funext fun kk => hM 69 kk (by unfold WPW; omega)) rfl))))).trans z.2⟩) (fun z => ⟨z.1, ((Eq.trans (funext fun kk => k28 70 kk (by unfold WPR; omega)) (Eq.trans (funext fun kk => k16 70 kk (by unfold WPA; omega)) (Eq.trans (funext fun kk => k10 70 kk (by unfold WPR; omega)) (Eq.trans (funext fun kk => hM 70 kk (by unfold WPW; omega)) rfl))))).trans z.2⟩)) (Eq.trans (k28 62 14 (by decide)) (Eq.trans (k16 62 14 (by decide)) (Eq.trans (k10 62 14 (by decide)) e_bs))) (by omega) (by omega) ea24 (Eq.trans (k28 62 16 (by decide)) (Eq.trans (k16 62 16 (by decide)) (Eq.trans (k10 62 16 (by decide)) e_E))) ef25) dX10_workOut_99 s_62 rfl rfl (Nat.le_of_ble_eq_true rfl) (by omega) ⟨by decide, by decide⟩ (fun v s2 M47 J2 hq => ?_)
          obtain ⟨r49, rfl, rfl, rfl, k48, hx44⟩ := hq
          try dsimp only [Option.toList, List.cons_append, List.nil_append]
          rcases hx44 with ⟨rfl, hy45, ea46⟩ | ⟨rfl, hy45, ea46⟩
          · skip
            refine xr_istore (ls2 := [(5, .int (1)), (6, .int (r29)), (7, .int (0)), (4, .int (vv)), (3, .int (fl)), (0, .ref (62))]) dX10_workOut_102 (by decide) rfl ?_
            refine xr_goto (tgt := 33) dX10_workOut_104 rfl ?_
            have hok : ok21 = true := (ftv_ok (a := a2_20) (by omega) hy45.1)
            have hl : a2_20 < E := nb_lt (T := T) (fun z => absurd (hy45.2.symm.trans z) (by decide))
            exact absurd hm (by omega)
          · skip
            refine xr_istore (ls2 := [(5, .int (0)), (6, .int (r29)), (7, .int (0)), (4, .int (vv)), (3, .int (fl)), (0, .ref (62))]) dX10_workOut_102 (by decide) rfl ?_
            refine xr_goto (tgt := 33) dX10_workOut_104 rfl ?_
            refine xr_iload dX10_workOut_33 0 rfl ?_
            refine xr_if_eq (tgt := 107) dX10_workOut_35 rfl (fun _ => ?_) (fun c => absurd (by decide) c)
            refine xr_aload_n dX10_workOut_107 5 rfl ?_
            refine xb_get (v := (ftv ok21 a2_20)) flX10_174 dX10_workOut_108 s_62 rfl (Eq.trans (k48 62 17 (by decide)) ef25) ?_
            refine xr_if_ge (tgt := 130) dX10_workOut_111 rfl (fun c50 => ?_) (fun c50 => ?_)
            · refine xr_iload dX10_workOut_130 3 rfl ?_
              exact xr_iret dX10_workOut_132 rfl rfl ((by obtain ⟨f2, g2, hf2⟩ := TGo_end hgo (lnB_2 hp5 ⟨hok1, hy13.2⟩ hp23) (fun z => hy45 ⟨by rw [ftv_1 z.1]; decide, z.2⟩); exact ⟨_, rfl, rfl, rfl, (Ke.tr (fun pp kk h => (Or.inr (Or.inl h))) (Ke.tr (fun pp kk => (fun hh => Or.elim hh (fun h => (Or.inr (Or.inl h))) (fun hh => Or.elim hh (fun h => (Or.inr (Or.inr (Or.inr (Or.inl h))))) (fun h => (Or.inr (Or.inr (Or.inr (Or.inr h)))))))) (Ke.tr (fun pp kk h => (Or.inr (Or.inl h))) (Ke.tr (fun pp kk => (fun hh => Or.elim hh (fun h => (Or.inr (Or.inl h))) (fun hh => Or.elim hh (fun h => (Or.inr (Or.inr (Or.inr (Or.inl h))))) (fun h => (Or.inr (Or.inr (Or.inr (Or.inr h)))))))) hM k10) k16) k28) k48), f2, g2, a2_20, ok21, _, hf2, (by omega), ((Eq.trans (k48 62 17 (by decide)) ef25)).trans (ftF_n (fun z => by have z1 := ftv_1 (a := a2_20) z; have z2 := c50; rw [z1] at z2; exact absurd z2 (by decide))), fun z => absurd z (ftF_m (by omega) (Or.inl (fun z => by have z1 := ftv_1 (a := a2_20) z; have z2 := c50; rw [z1] at z2; exact absurd z2 (by decide))))⟩))
            · refine xr_aload_n dX10_workOut_114 5 rfl ?_
              refine xb_get (v := nI (a2_20)) flX10_165 dX10_workOut_115 s_62 rfl ea46 ?_
              refine xr_aload_n dX10_workOut_118 5 rfl ?_
              refine xb_get (v := nI (E)) flX10_168 dX10_workOut_119 s_62 rfl (Eq.trans (k48 62 16 (by decide)) (Eq.trans (k28 62 16 (by decide)) (Eq.trans (k16 62 16 (by decide)) (Eq.trans (k10 62 16 (by decide)) e_E)))) ?_
              refine xr_icmp_ge (tgt := 130) dX10_workOut_122 rfl (fun c51 => ?_) (fun c51 => ?_)
              · have hge : ¬ a2_20 < E := fun q => absurd ((nI_ltI (a := a2_20) (b := E) (by omega) (by omega)).mpr q) (by have z := c51; grind)
                refine xr_iload dX10_workOut_130 3 rfl ?_
                exact xr_iret dX10_workOut_132 rfl rfl ((by obtain ⟨f2, g2, hf2⟩ := TGo_end hgo (lnB_2 hp5 ⟨hok1, hy13.2⟩ hp23) (fun z => hy45 ⟨by rw [ftv_1 z.1]; decide, z.2⟩); exact ⟨_, rfl, rfl, rfl, (Ke.tr (fun pp kk h => (Or.inr (Or.inl h))) (Ke.tr (fun pp kk => (fun hh => Or.elim hh (fun h => (Or.inr (Or.inl h))) (fun hh => Or.elim hh (fun h => (Or.inr (Or.inr (Or.inr (Or.inl h))))) (fun h => (Or.inr (Or.inr (Or.inr (Or.inr h)))))))) (Ke.tr (fun pp kk h => (Or.inr (Or.inl h))) (Ke.tr (fun pp kk => (fun hh => Or.elim hh (fun h => (Or.inr (Or.inl h))) (fun hh => Or.elim hh (fun h => (Or.inr (Or.inr (Or.inr (Or.inl h))))) (fun h => (Or.inr (Or.inr (Or.inr (Or.inr h)))))))) hM k10) k16) k28) k48), f2, g2, a2_20, ok21, _, hf2, (by omega), ((Eq.trans (k48 62 17 (by decide)) ef25)).trans (ftF_e (ftv_ok (a := a2_20) (by omega) (by have z2 := c50; grind)) hge), fun z => VI_e (VI_c hvi (by rw [← (eo8 hok1).2]; exact c18))⟩))
              · have hlt : a2_20 < E := (nI_ltI (a := a2_20) (b := E) (by omega) (by omega)).mp (by have z := c51; grind)
                refine xr_aload_n dX10_workOut_125 5 rfl ?_
                refine xr_callV (As := []) (rest := []) mlX10_202 (gs_X10_wrong (Eq.trans (k48 62 17 (by decide)) ef25) (a := a2_20) (by omega) ea46) dX10_workOut_126 s_62 rfl rfl (Nat.le_of_ble_eq_true rfl) (by omega) ⟨by decide, by decide⟩ (fun v s2 M54 J2 hq => ?_)
                obtain ⟨r56, rfl, rfl, rfl, k55, ⟨hr53, hw52⟩⟩ := hq
                try dsimp only [Option.toList, List.cons_append, List.nil_append]
                subst hr53
                exact xr_iret dX10_workOut_129 rfl rfl ((by obtain ⟨f2, g2, hf2⟩ := TGo_end hgo (lnB_2 hp5 ⟨hok1, hy13.2⟩ hp23) (fun z => hy45 ⟨by rw [ftv_1 z.1]; decide, z.2⟩); exact ⟨_, rfl, rfl, rfl, (Ke.tr (fun pp kk h => (Or.inr (Or.inr (Or.inr (Or.inl h))))) (Ke.tr (fun pp kk h => (Or.inr (Or.inl h))) (Ke.tr (fun pp kk => (fun hh => Or.elim hh (fun h => (Or.inr (Or.inl h))) (fun hh => Or.elim hh (fun h => (Or.inr (Or.inr (Or.inr (Or.inl h))))) (fun h => (Or.inr (Or.inr (Or.inr (Or.inr h)))))))) (Ke.tr (fun pp kk h => (Or.inr (Or.inl h))) (Ke.tr (fun pp kk => (fun hh => Or.elim hh (fun h => (Or.inr (Or.inl h))) (fun hh => Or.elim hh (fun h => (Or.inr (Or.inr (Or.inr (Or.inl h))))) (fun h => (Or.inr (Or.inr (Or.inr (Or.inr h)))))))) hM k10) k16) k28) k48) k55), f2, g2, a2_20, ok21, _, hf2, (by omega), ((hw52).trans (ftv_w (by omega))).trans (ftF_l hlt), fun z => absurd z (ftF_m (by omega) (Or.inr hlt))⟩))
      · refine xr_iconst (v := 1) dX10_workOut_61 rfl ?_
        refine xr_goto (tgt := 66) dX10_workOut_62 rfl ?_
        refine xr_istore (ls2 := [(7, .int (1)), (6, .int (r11)), (5, .int (1)), (4, .int (vv)), (3, .int (fl)), (0, .ref (62))]) dX10_workOut_66 (by decide) rfl ?_
        refine xr_aload_n dX10_workOut_68 5 rfl ?_
        refine xr_callV (As := []) (rest := []) mlX10_205 (lt_top l G M15 J bs T N (a2_2 + 1) E 0 (hT.imp (fun z => ⟨z.1, ((Eq.trans (funext fun kk => k16 69 kk (by unfold WPA; omega)) (Eq.trans (funext fun kk => k10 69 kk (by unfold WPR; omega)) (Eq.trans (funext fun kk => hM 69 kk (by unfold WPW; omega)) rfl)))).trans z.2⟩) (fun z => ⟨z.1, ((Eq.trans (funext fun kk => k16 70 kk (by unfold WPA; omega)) (Eq.trans (funext fun kk => k10 70 kk (by unfold WPR; omega)) (Eq.trans (funext fun kk => hM 70 kk (by unfold WPW; omega)) rfl)))).trans z.2⟩)) (((Eq.trans (funext fun kk => k16 71 kk (by unfold WPA; omega)) (Eq.trans (funext fun kk => k10 71 kk (by unfold WPR; omega)) (Eq.trans (funext fun kk => hM 71 kk (by unfold WPW; omega)) rfl)))).trans hNm) (Eq.trans (k16 62 14 (by decide)) (Eq.trans (k10 62 14 (by decide)) e_bs)) (by omega) hE ea14 (Eq.trans (k16 62 16 (by decide)) (Eq.trans (k10 62 16 (by decide)) e_E)) (by omega) (((Eq.trans (k16 62 18 (by decide)) rfl)).trans (eo8 hok1).1) (((Eq.trans (k16 62 17 (by decide)) ef7)).trans (ftv_1 hok1))) dX10_workOut_69 s_62 rfl rfl (Nat.le_of_ble_eq_true rfl) (by omega) ⟨by decide, by decide⟩ (fun v s2 M65 J2 hq => ?_)
        obtain ⟨r67, rfl, rfl, rfl, k66, ⟨f57, a2_58, ok59, cd60, hp61, ea62, ef63, eo64⟩⟩ := hq
        try dsimp only [Option.toList, List.cons_append, List.nil_append]
        have hp61b := pz_b _ _ _ _ _ _ _ _ hp61 (by omega)
        obtain ⟨hp61x, hp61y, -⟩ := hp61b
        replace hp61x : (a2_2 + 1) ≤ a2_58 := hp61x
        replace hp61y : a2_58 ≤ E := hp61y
        refine xr_istore (ls2 := [(6, .int (r67)), (7, .int (1)), (5, .int (1)), (4, .int (vv)), (3, .int (fl)), (0, .ref (62))]) dX10_workOut_72 (by decide) rfl ?_
        refine xr_aload_n dX10_workOut_74 5 rfl ?_
        refine xb_get (v := (ftv ok59 a2_58)) flX10_174 dX10_workOut_75 s_62 rfl ef63 ?_
        refine xr_if_ge (tgt := 96) dX10_workOut_78 rfl (fun c68 => ?_) (fun c68 => ?_)
        · refine xr_aload_n dX10_workOut_96 5 rfl ?_
          refine xr_bipush (v := 59) dX10_workOut_97 rfl ?_
          refine xr_callV (As := [.int (59)]) (rest := []) mlX10_184 (gs_X10_takes (si := 59) (by decide) (by decide) (T := T) (a := a2_58) (E := E) (hT.imp (fun z => ⟨z.1, ((Eq.trans (funext fun kk => k66 69 kk (by unfold WPR; omega)) (Eq.trans (funext fun kk => k16 69 kk (by unfold WPA; omega)) (Eq.trans (funext fun kk => k10 69 kk (by unfold WPR; omega)) (Eq.trans (funext fun kk => hM 69 kk (by unfold WPW; omega)) rfl))))).trans z.2⟩) (fun z => ⟨z.1, ((Eq.trans (funext fun kk => k66 70 kk (by unfold WPR; omega)) (Eq.trans (funext fun kk => k16 70 kk (by unfold WPA; omega)) (Eq.trans (funext fun kk => k10 70 kk (by unfold WPR; omega)) (Eq.trans (funext fun kk => hM 70 kk (by unfold WPW; omega)) rfl))))).trans z.2⟩)) (Eq.trans (k66 62 14 (by decide)) (Eq.trans (k16 62 14 (by decide)) (Eq.trans (k10 62 14 (by decide)) e_bs))) (by omega) (by omega) ea62 (Eq.trans (k66 62 16 (by decide)) (Eq.trans (k16 62 16 (by decide)) (Eq.trans (k10 62 16 (by decide)) e_E))) ef63) dX10_workOut_99 s_62 rfl rfl (Nat.le_of_ble_eq_true rfl) (by omega) ⟨by decide, by decide⟩ (fun v s2 M72 J2 hq => ?_)
          obtain ⟨r74, rfl, rfl, rfl, k73, hx69⟩ := hq
          try dsimp only [Option.toList, List.cons_append, List.nil_append]
          rcases hx69 with ⟨rfl, hy70, ea71⟩ | ⟨rfl, hy70, ea71⟩
          · skip
            refine xr_istore (ls2 := [(5, .int (1)), (6, .int (r67)), (7, .int (1)), (4, .int (vv)), (3, .int (fl)), (0, .ref (62))]) dX10_workOut_102 (by decide) rfl ?_
            refine xr_goto (tgt := 33) dX10_workOut_104 rfl ?_
            exact absurd hy70.1 (by have z1 := c68; grind)
          · skip
            refine xr_istore (ls2 := [(5, .int (0)), (6, .int (r67)), (7, .int (1)), (4, .int (vv)), (3, .int (fl)), (0, .ref (62))]) dX10_workOut_102 (by decide) rfl ?_
            refine xr_goto (tgt := 33) dX10_workOut_104 rfl ?_
            refine xr_iload dX10_workOut_33 0 rfl ?_
            refine xr_if_eq (tgt := 107) dX10_workOut_35 rfl (fun _ => ?_) (fun c => absurd (by decide) c)
            refine xr_aload_n dX10_workOut_107 5 rfl ?_
            refine xb_get (v := (ftv ok59 a2_58)) flX10_174 dX10_workOut_108 s_62 rfl (Eq.trans (k73 62 17 (by decide)) ef63) ?_
            refine xr_if_ge (tgt := 130) dX10_workOut_111 rfl (fun c75 => ?_) (fun c75 => ?_)
            · refine xr_iload dX10_workOut_130 3 rfl ?_
              exact xr_iret dX10_workOut_132 rfl rfl ((by obtain ⟨f2, g2, hf2⟩ := TGo_end hgo (lnB_2 hp5 ⟨hok1, hy13.2⟩ hp61) (fun z => hy70 ⟨by rw [ftv_1 z.1]; decide, z.2⟩); exact ⟨_, rfl, rfl, rfl, (Ke.tr (fun pp kk h => (Or.inr (Or.inl h))) (Ke.tr (fun pp kk => (fun hh => Or.elim hh (fun h => (Or.inr (Or.inl h))) (fun hh => Or.elim hh (fun h => (Or.inr (Or.inr (Or.inr (Or.inl h))))) (fun h => (Or.inr (Or.inr (Or.inr (Or.inr h)))))))) (Ke.tr (fun pp kk h => (Or.inr (Or.inl h))) (Ke.tr (fun pp kk => (fun hh => Or.elim hh (fun h => (Or.inr (Or.inl h))) (fun hh => Or.elim hh (fun h => (Or.inr (Or.inr (Or.inr (Or.inl h))))) (fun h => (Or.inr (Or.inr (Or.inr (Or.inr h)))))))) hM k10) k16) k66) k73), f2, g2, a2_58, ok59, _, hf2, (by omega), ((Eq.trans (k73 62 17 (by decide)) ef63)).trans (ftF_n (fun z => by have z1 := ftv_1 (a := a2_58) z; have z2 := c75; rw [z1] at z2; exact absurd z2 (by decide))), fun z => absurd z (ftF_m (by omega) (Or.inl (fun z => by have z1 := ftv_1 (a := a2_58) z; have z2 := c75; rw [z1] at z2; exact absurd z2 (by decide))))⟩))
            · refine xr_aload_n dX10_workOut_114 5 rfl ?_
              refine xb_get (v := nI (a2_58)) flX10_165 dX10_workOut_115 s_62 rfl ea71 ?_
              refine xr_aload_n dX10_workOut_118 5 rfl ?_
              refine xb_get (v := nI (E)) flX10_168 dX10_workOut_119 s_62 rfl (Eq.trans (k73 62 16 (by decide)) (Eq.trans (k66 62 16 (by decide)) (Eq.trans (k16 62 16 (by decide)) (Eq.trans (k10 62 16 (by decide)) e_E)))) ?_
              refine xr_icmp_ge (tgt := 130) dX10_workOut_122 rfl (fun c76 => ?_) (fun c76 => ?_)
              · have hge : ¬ a2_58 < E := fun q => absurd ((nI_ltI (a := a2_58) (b := E) (by omega) (by omega)).mpr q) (by have z := c76; grind)
                refine xr_iload dX10_workOut_130 3 rfl ?_
                exact xr_iret dX10_workOut_132 rfl rfl ((absurd c68 c75))
              · have hlt : a2_58 < E := (nI_ltI (a := a2_58) (b := E) (by omega) (by omega)).mp (by have z := c76; grind)
                refine xr_aload_n dX10_workOut_125 5 rfl ?_
                refine xr_callV (As := []) (rest := []) mlX10_202 (gs_X10_wrong (Eq.trans (k73 62 17 (by decide)) ef63) (a := a2_58) (by omega) ea71) dX10_workOut_126 s_62 rfl rfl (Nat.le_of_ble_eq_true rfl) (by omega) ⟨by decide, by decide⟩ (fun v s2 M79 J2 hq => ?_)
                obtain ⟨r81, rfl, rfl, rfl, k80, ⟨hr78, hw77⟩⟩ := hq
                try dsimp only [Option.toList, List.cons_append, List.nil_append]
                subst hr78
                exact xr_iret dX10_workOut_129 rfl rfl ((absurd c68 c75))
        · refine xr_iload dX10_workOut_81 1 rfl ?_
          refine xr_if_eq (tgt := 96) dX10_workOut_83 rfl (fun c => absurd c (by decide)) (fun _ => ?_)
          refine xr_iload_n dX10_workOut_86 4 rfl ?_
          refine xr_if_ne (tgt := 96) dX10_workOut_87 rfl (fun c82 => ?_) (fun c82 => ?_)
          · refine xr_aload_n dX10_workOut_96 5 rfl ?_
            refine xr_bipush (v := 59) dX10_workOut_97 rfl ?_
            refine xr_callV (As := [.int (59)]) (rest := []) mlX10_184 (gs_X10_takes (si := 59) (by decide) (by decide) (T := T) (a := a2_58) (E := E) (hT.imp (fun z => ⟨z.1, ((Eq.trans (funext fun kk => k66 69 kk (by unfold WPR; omega)) (Eq.trans (funext fun kk => k16 69 kk (by unfold WPA; omega)) (Eq.trans (funext fun kk => k10 69 kk (by unfold WPR; omega)) (Eq.trans (funext fun kk => hM 69 kk (by unfold WPW; omega)) rfl))))).trans z.2⟩) (fun z => ⟨z.1, ((Eq.trans (funext fun kk => k66 70 kk (by unfold WPR; omega)) (Eq.trans (funext fun kk => k16 70 kk (by unfold WPA; omega)) (Eq.trans (funext fun kk => k10 70 kk (by unfold WPR; omega)) (Eq.trans (funext fun kk => hM 70 kk (by unfold WPW; omega)) rfl))))).trans z.2⟩)) (Eq.trans (k66 62 14 (by decide)) (Eq.trans (k16 62 14 (by decide)) (Eq.trans (k10 62 14 (by decide)) e_bs))) (by omega) (by omega) ea62 (Eq.trans (k66 62 16 (by decide)) (Eq.trans (k16 62 16 (by decide)) (Eq.trans (k10 62 16 (by decide)) e_E))) ef63) dX10_workOut_99 s_62 rfl rfl (Nat.le_of_ble_eq_true rfl) (by omega) ⟨by decide, by decide⟩ (fun v s2 M86 J2 hq => ?_)
            obtain ⟨r88, rfl, rfl, rfl, k87, hx83⟩ := hq
            try dsimp only [Option.toList, List.cons_append, List.nil_append]
            rcases hx83 with ⟨rfl, hy84, ea85⟩ | ⟨rfl, hy84, ea85⟩
            · skip
              refine xr_istore (ls2 := [(5, .int (1)), (6, .int (r67)), (7, .int (1)), (4, .int (vv)), (3, .int (fl)), (0, .ref (62))]) dX10_workOut_102 (by decide) rfl ?_
              refine xr_goto (tgt := 33) dX10_workOut_104 rfl ?_
              have hok : ok59 = true := (ftv_ok (a := a2_58) (by omega) hy84.1)
              have hl : a2_58 < E := nb_lt (T := T) (fun z => absurd (hy84.2.symm.trans z) (by decide))
              exact absurd hm (by omega)
            · skip
              refine xr_istore (ls2 := [(5, .int (0)), (6, .int (r67)), (7, .int (1)), (4, .int (vv)), (3, .int (fl)), (0, .ref (62))]) dX10_workOut_102 (by decide) rfl ?_
              refine xr_goto (tgt := 33) dX10_workOut_104 rfl ?_
              refine xr_iload dX10_workOut_33 0 rfl ?_
              refine xr_if_eq (tgt := 107) dX10_workOut_35 rfl (fun _ => ?_) (fun c => absurd (by decide) c)
              refine xr_aload_n dX10_workOut_107 5 rfl ?_
              refine xb_get (v := (ftv ok59 a2_58)) flX10_174 dX10_workOut_108 s_62 rfl (Eq.trans (k87 62 17 (by decide)) ef63) ?_
              refine xr_if_ge (tgt := 130) dX10_workOut_111 rfl (fun c89 => ?_) (fun c89 => ?_)
              · refine xr_iload dX10_workOut_130 3 rfl ?_
                exact xr_iret dX10_workOut_132 rfl rfl ((by obtain ⟨f2, g2, hf2⟩ := TGo_end hgo (lnB_2 hp5 ⟨hok1, hy13.2⟩ hp61) (fun z => hy84 ⟨by rw [ftv_1 z.1]; decide, z.2⟩); exact ⟨_, rfl, rfl, rfl, (Ke.tr (fun pp kk h => (Or.inr (Or.inl h))) (Ke.tr (fun pp kk => (fun hh => Or.elim hh (fun h => (Or.inr (Or.inl h))) (fun hh => Or.elim hh (fun h => (Or.inr (Or.inr (Or.inr (Or.inl h))))) (fun h => (Or.inr (Or.inr (Or.inr (Or.inr h)))))))) (Ke.tr (fun pp kk h => (Or.inr (Or.inl h))) (Ke.tr (fun pp kk => (fun hh => Or.elim hh (fun h => (Or.inr (Or.inl h))) (fun hh => Or.elim hh (fun h => (Or.inr (Or.inr (Or.inr (Or.inl h))))) (fun h => (Or.inr (Or.inr (Or.inr (Or.inr h)))))))) hM k10) k16) k66) k87), f2, g2, a2_58, ok59, _, hf2, (by omega), ((Eq.trans (k87 62 17 (by decide)) ef63)).trans (ftF_n (fun z => by have z1 := ftv_1 (a := a2_58) z; have z2 := c89; rw [z1] at z2; exact absurd z2 (by decide))), fun z => absurd z (ftF_m (by omega) (Or.inl (fun z => by have z1 := ftv_1 (a := a2_58) z; have z2 := c89; rw [z1] at z2; exact absurd z2 (by decide))))⟩))
              · refine xr_aload_n dX10_workOut_114 5 rfl ?_
                refine xb_get (v := nI (a2_58)) flX10_165 dX10_workOut_115 s_62 rfl ea85 ?_
                refine xr_aload_n dX10_workOut_118 5 rfl ?_
                refine xb_get (v := nI (E)) flX10_168 dX10_workOut_119 s_62 rfl (Eq.trans (k87 62 16 (by decide)) (Eq.trans (k66 62 16 (by decide)) (Eq.trans (k16 62 16 (by decide)) (Eq.trans (k10 62 16 (by decide)) e_E)))) ?_
                refine xr_icmp_ge (tgt := 130) dX10_workOut_122 rfl (fun c90 => ?_) (fun c90 => ?_)
                · have hge : ¬ a2_58 < E := fun q => absurd ((nI_ltI (a := a2_58) (b := E) (by omega) (by omega)).mpr q) (by have z := c90; grind)
                  refine xr_iload dX10_workOut_130 3 rfl ?_
                  exact xr_iret dX10_workOut_132 rfl rfl ((by obtain ⟨f2, g2, hf2⟩ := TGo_end hgo (lnB_2 hp5 ⟨hok1, hy13.2⟩ hp61) (fun z => hy84 ⟨by rw [ftv_1 z.1]; decide, z.2⟩); exact ⟨_, rfl, rfl, rfl, (Ke.tr (fun pp kk h => (Or.inr (Or.inl h))) (Ke.tr (fun pp kk => (fun hh => Or.elim hh (fun h => (Or.inr (Or.inl h))) (fun hh => Or.elim hh (fun h => (Or.inr (Or.inr (Or.inr (Or.inl h))))) (fun h => (Or.inr (Or.inr (Or.inr (Or.inr h)))))))) (Ke.tr (fun pp kk h => (Or.inr (Or.inl h))) (Ke.tr (fun pp kk => (fun hh => Or.elim hh (fun h => (Or.inr (Or.inl h))) (fun hh => Or.elim hh (fun h => (Or.inr (Or.inr (Or.inr (Or.inl h))))) (fun h => (Or.inr (Or.inr (Or.inr (Or.inr h)))))))) hM k10) k16) k66) k87), f2, g2, a2_58, ok59, _, hf2, (by omega), ((Eq.trans (k87 62 17 (by decide)) ef63)).trans (ftF_e (ftv_ok (a := a2_58) (by omega) (by have z2 := c89; grind)) hge), fun z => VI_e (VI_a hvi c82)⟩))
                · have hlt : a2_58 < E := (nI_ltI (a := a2_58) (b := E) (by omega) (by omega)).mp (by have z := c90; grind)
                  refine xr_aload_n dX10_workOut_125 5 rfl ?_
                  refine xr_callV (As := []) (rest := []) mlX10_202 (gs_X10_wrong (Eq.trans (k87 62 17 (by decide)) ef63) (a := a2_58) (by omega) ea85) dX10_workOut_126 s_62 rfl rfl (Nat.le_of_ble_eq_true rfl) (by omega) ⟨by decide, by decide⟩ (fun v s2 M93 J2 hq => ?_)
                  obtain ⟨r95, rfl, rfl, rfl, k94, ⟨hr92, hw91⟩⟩ := hq
                  try dsimp only [Option.toList, List.cons_append, List.nil_append]
                  subst hr92
                  exact xr_iret dX10_workOut_129 rfl rfl ((by obtain ⟨f2, g2, hf2⟩ := TGo_end hgo (lnB_2 hp5 ⟨hok1, hy13.2⟩ hp61) (fun z => hy84 ⟨by rw [ftv_1 z.1]; decide, z.2⟩); exact ⟨_, rfl, rfl, rfl, (Ke.tr (fun pp kk h => (Or.inr (Or.inr (Or.inr (Or.inl h))))) (Ke.tr (fun pp kk h => (Or.inr (Or.inl h))) (Ke.tr (fun pp kk => (fun hh => Or.elim hh (fun h => (Or.inr (Or.inl h))) (fun hh => Or.elim hh (fun h => (Or.inr (Or.inr (Or.inr (Or.inl h))))) (fun h => (Or.inr (Or.inr (Or.inr (Or.inr h)))))))) (Ke.tr (fun pp kk h => (Or.inr (Or.inl h))) (Ke.tr (fun pp kk => (fun hh => Or.elim hh (fun h => (Or.inr (Or.inl h))) (fun hh => Or.elim hh (fun h => (Or.inr (Or.inr (Or.inr (Or.inl h))))) (fun h => (Or.inr (Or.inr (Or.inr (Or.inr h)))))))) hM k10) k16) k66) k87) k94), f2, g2, a2_58, ok59, _, hf2, (by omega), ((hw91).trans (ftv_w (by omega))).trans (ftF_l hlt), fun z => absurd z (ftF_m (by omega) (Or.inr hlt))⟩))
          · refine xr_iconst (v := 1) dX10_workOut_90 rfl ?_
            refine xr_istore_n (ls2 := [(3, .int (1)), (6, .int (r67)), (7, .int (1)), (5, .int (1)), (4, .int (vv)), (0, .ref (62))]) dX10_workOut_91 (by decide) rfl ?_
            refine xr_iload dX10_workOut_92 1 rfl ?_
            refine xr_istore (ls2 := [(4, .int (r67)), (3, .int (1)), (6, .int (r67)), (7, .int (1)), (5, .int (1)), (0, .ref (62))]) dX10_workOut_94 (by decide) rfl ?_
            refine xr_aload_n dX10_workOut_96 5 rfl ?_
            refine xr_bipush (v := 59) dX10_workOut_97 rfl ?_
            refine xr_callV (As := [.int (59)]) (rest := []) mlX10_184 (gs_X10_takes (si := 59) (by decide) (by decide) (T := T) (a := a2_58) (E := E) (hT.imp (fun z => ⟨z.1, ((Eq.trans (funext fun kk => k66 69 kk (by unfold WPR; omega)) (Eq.trans (funext fun kk => k16 69 kk (by unfold WPA; omega)) (Eq.trans (funext fun kk => k10 69 kk (by unfold WPR; omega)) (Eq.trans (funext fun kk => hM 69 kk (by unfold WPW; omega)) rfl))))).trans z.2⟩) (fun z => ⟨z.1, ((Eq.trans (funext fun kk => k66 70 kk (by unfold WPR; omega)) (Eq.trans (funext fun kk => k16 70 kk (by unfold WPA; omega)) (Eq.trans (funext fun kk => k10 70 kk (by unfold WPR; omega)) (Eq.trans (funext fun kk => hM 70 kk (by unfold WPW; omega)) rfl))))).trans z.2⟩)) (Eq.trans (k66 62 14 (by decide)) (Eq.trans (k16 62 14 (by decide)) (Eq.trans (k10 62 14 (by decide)) e_bs))) (by omega) (by omega) ea62 (Eq.trans (k66 62 16 (by decide)) (Eq.trans (k16 62 16 (by decide)) (Eq.trans (k10 62 16 (by decide)) e_E))) ef63) dX10_workOut_99 s_62 rfl rfl (Nat.le_of_ble_eq_true rfl) (by omega) ⟨by decide, by decide⟩ (fun v s2 M99 J2 hq => ?_)
            obtain ⟨r101, rfl, rfl, rfl, k100, hx96⟩ := hq
            try dsimp only [Option.toList, List.cons_append, List.nil_append]
            rcases hx96 with ⟨rfl, hy97, ea98⟩ | ⟨rfl, hy97, ea98⟩
            · skip
              refine xr_istore (ls2 := [(5, .int (1)), (4, .int (r67)), (3, .int (1)), (6, .int (r67)), (7, .int (1)), (0, .ref (62))]) dX10_workOut_102 (by decide) rfl ?_
              refine xr_goto (tgt := 33) dX10_workOut_104 rfl ?_
              have hok : ok59 = true := (ftv_ok (a := a2_58) (by omega) hy97.1)
              have hl : a2_58 < E := nb_lt (T := T) (fun z => absurd (hy97.2.symm.trans z) (by decide))
              exact absurd hm (by omega)
            · skip
              refine xr_istore (ls2 := [(5, .int (0)), (4, .int (r67)), (3, .int (1)), (6, .int (r67)), (7, .int (1)), (0, .ref (62))]) dX10_workOut_102 (by decide) rfl ?_
              refine xr_goto (tgt := 33) dX10_workOut_104 rfl ?_
              refine xr_iload dX10_workOut_33 0 rfl ?_
              refine xr_if_eq (tgt := 107) dX10_workOut_35 rfl (fun _ => ?_) (fun c => absurd (by decide) c)
              refine xr_aload_n dX10_workOut_107 5 rfl ?_
              refine xb_get (v := (ftv ok59 a2_58)) flX10_174 dX10_workOut_108 s_62 rfl (Eq.trans (k100 62 17 (by decide)) ef63) ?_
              refine xr_if_ge (tgt := 130) dX10_workOut_111 rfl (fun c102 => ?_) (fun c102 => ?_)
              · refine xr_iload dX10_workOut_130 1 rfl ?_
                exact xr_iret dX10_workOut_132 rfl rfl ((by obtain ⟨f2, g2, hf2⟩ := TGo_end hgo (lnB_2 hp5 ⟨hok1, hy13.2⟩ hp61) (fun z => hy97 ⟨by rw [ftv_1 z.1]; decide, z.2⟩); exact ⟨_, rfl, rfl, rfl, (Ke.tr (fun pp kk h => (Or.inr (Or.inl h))) (Ke.tr (fun pp kk => (fun hh => Or.elim hh (fun h => (Or.inr (Or.inl h))) (fun hh => Or.elim hh (fun h => (Or.inr (Or.inr (Or.inr (Or.inl h))))) (fun h => (Or.inr (Or.inr (Or.inr (Or.inr h)))))))) (Ke.tr (fun pp kk h => (Or.inr (Or.inl h))) (Ke.tr (fun pp kk => (fun hh => Or.elim hh (fun h => (Or.inr (Or.inl h))) (fun hh => Or.elim hh (fun h => (Or.inr (Or.inr (Or.inr (Or.inl h))))) (fun h => (Or.inr (Or.inr (Or.inr (Or.inr h)))))))) hM k10) k16) k66) k100), f2, g2, a2_58, ok59, _, hf2, (by omega), ((Eq.trans (k100 62 17 (by decide)) ef63)).trans (ftF_n (fun z => by have z1 := ftv_1 (a := a2_58) z; have z2 := c102; rw [z1] at z2; exact absurd z2 (by decide))), fun z => absurd z (ftF_m (by omega) (Or.inl (fun z => by have z1 := ftv_1 (a := a2_58) z; have z2 := c102; rw [z1] at z2; exact absurd z2 (by decide))))⟩))
              · refine xr_aload_n dX10_workOut_114 5 rfl ?_
                refine xb_get (v := nI (a2_58)) flX10_165 dX10_workOut_115 s_62 rfl ea98 ?_
                refine xr_aload_n dX10_workOut_118 5 rfl ?_
                refine xb_get (v := nI (E)) flX10_168 dX10_workOut_119 s_62 rfl (Eq.trans (k100 62 16 (by decide)) (Eq.trans (k66 62 16 (by decide)) (Eq.trans (k16 62 16 (by decide)) (Eq.trans (k10 62 16 (by decide)) e_E)))) ?_
                refine xr_icmp_ge (tgt := 130) dX10_workOut_122 rfl (fun c103 => ?_) (fun c103 => ?_)
                · have hge : ¬ a2_58 < E := fun q => absurd ((nI_ltI (a := a2_58) (b := E) (by omega) (by omega)).mpr q) (by have z := c103; grind)
                  refine xr_iload dX10_workOut_130 1 rfl ?_
                  exact xr_iret dX10_workOut_132 rfl rfl ((by obtain ⟨f2, g2, hf2⟩ := TGo_end hgo (lnB_2 hp5 ⟨hok1, hy13.2⟩ hp61) (fun z => hy97 ⟨by rw [ftv_1 z.1]; decide, z.2⟩); exact ⟨_, rfl, rfl, rfl, (Ke.tr (fun pp kk h => (Or.inr (Or.inl h))) (Ke.tr (fun pp kk => (fun hh => Or.elim hh (fun h => (Or.inr (Or.inl h))) (fun hh => Or.elim hh (fun h => (Or.inr (Or.inr (Or.inr (Or.inl h))))) (fun h => (Or.inr (Or.inr (Or.inr (Or.inr h)))))))) (Ke.tr (fun pp kk h => (Or.inr (Or.inl h))) (Ke.tr (fun pp kk => (fun hh => Or.elim hh (fun h => (Or.inr (Or.inl h))) (fun hh => Or.elim hh (fun h => (Or.inr (Or.inr (Or.inr (Or.inl h))))) (fun h => (Or.inr (Or.inr (Or.inr (Or.inr h)))))))) hM k10) k16) k66) k100), f2, g2, a2_58, ok59, _, hf2, (by omega), ((Eq.trans (k100 62 17 (by decide)) ef63)).trans (ftF_e (ftv_ok (a := a2_58) (by omega) (by have z2 := c102; grind)) hge), fun z => VI_e (by rw [(eo64 (ftv_ok (a := a2_58) (by omega) (by have z2 := c102; grind))).2]; exact VI_d hvi c82 (by rw [← (eo8 hok1).2]; exact c18))⟩))
                · have hlt : a2_58 < E := (nI_ltI (a := a2_58) (b := E) (by omega) (by omega)).mp (by have z := c103; grind)
                  refine xr_aload_n dX10_workOut_125 5 rfl ?_
                  refine xr_callV (As := []) (rest := []) mlX10_202 (gs_X10_wrong (Eq.trans (k100 62 17 (by decide)) ef63) (a := a2_58) (by omega) ea98) dX10_workOut_126 s_62 rfl rfl (Nat.le_of_ble_eq_true rfl) (by omega) ⟨by decide, by decide⟩ (fun v s2 M106 J2 hq => ?_)
                  obtain ⟨r108, rfl, rfl, rfl, k107, ⟨hr105, hw104⟩⟩ := hq
                  try dsimp only [Option.toList, List.cons_append, List.nil_append]
                  subst hr105
                  exact xr_iret dX10_workOut_129 rfl rfl ((by obtain ⟨f2, g2, hf2⟩ := TGo_end hgo (lnB_2 hp5 ⟨hok1, hy13.2⟩ hp61) (fun z => hy97 ⟨by rw [ftv_1 z.1]; decide, z.2⟩); exact ⟨_, rfl, rfl, rfl, (Ke.tr (fun pp kk h => (Or.inr (Or.inr (Or.inr (Or.inl h))))) (Ke.tr (fun pp kk h => (Or.inr (Or.inl h))) (Ke.tr (fun pp kk => (fun hh => Or.elim hh (fun h => (Or.inr (Or.inl h))) (fun hh => Or.elim hh (fun h => (Or.inr (Or.inr (Or.inr (Or.inl h))))) (fun h => (Or.inr (Or.inr (Or.inr (Or.inr h)))))))) (Ke.tr (fun pp kk h => (Or.inr (Or.inl h))) (Ke.tr (fun pp kk => (fun hh => Or.elim hh (fun h => (Or.inr (Or.inl h))) (fun hh => Or.elim hh (fun h => (Or.inr (Or.inr (Or.inr (Or.inl h))))) (fun h => (Or.inr (Or.inr (Or.inr (Or.inr h)))))))) hM k10) k16) k66) k100) k107), f2, g2, a2_58, ok59, _, hf2, (by omega), ((hw104).trans (ftv_w (by omega))).trans (ftF_l hlt), fun z => absurd z (ftF_m (by omega) (Or.inr hlt))⟩))
    · skip
      refine xr_if_eq (tgt := 74) dX10_workOut_53 rfl (fun _ => ?_) (fun c => absurd (by decide) c)
      refine xr_aload_n dX10_workOut_74 5 rfl ?_
      refine xb_get (v := (ftv ok3 a2_2)) flX10_174 dX10_workOut_75 s_62 rfl (Eq.trans (k16 62 17 (by decide)) ef7) ?_
      refine xr_if_ge (tgt := 96) dX10_workOut_78 rfl (fun c109 => ?_) (fun c109 => ?_)
      · refine xr_aload_n dX10_workOut_96 5 rfl ?_
        refine xr_bipush (v := 59) dX10_workOut_97 rfl ?_
        refine xr_callV (As := [.int (59)]) (rest := []) mlX10_184 (gs_X10_takes (si := 59) (by decide) (by decide) (T := T) (a := a2_2) (E := E) (hT.imp (fun z => ⟨z.1, ((Eq.trans (funext fun kk => k16 69 kk (by unfold WPA; omega)) (Eq.trans (funext fun kk => k10 69 kk (by unfold WPR; omega)) (Eq.trans (funext fun kk => hM 69 kk (by unfold WPW; omega)) rfl)))).trans z.2⟩) (fun z => ⟨z.1, ((Eq.trans (funext fun kk => k16 70 kk (by unfold WPA; omega)) (Eq.trans (funext fun kk => k10 70 kk (by unfold WPR; omega)) (Eq.trans (funext fun kk => hM 70 kk (by unfold WPW; omega)) rfl)))).trans z.2⟩)) (Eq.trans (k16 62 14 (by decide)) (Eq.trans (k10 62 14 (by decide)) e_bs)) (by omega) (by omega) ea14 (Eq.trans (k16 62 16 (by decide)) (Eq.trans (k10 62 16 (by decide)) e_E)) (Eq.trans (k16 62 17 (by decide)) ef7)) dX10_workOut_99 s_62 rfl rfl (Nat.le_of_ble_eq_true rfl) (by omega) ⟨by decide, by decide⟩ (fun v s2 M113 J2 hq => ?_)
        obtain ⟨r115, rfl, rfl, rfl, k114, hx110⟩ := hq
        try dsimp only [Option.toList, List.cons_append, List.nil_append]
        rcases hx110 with ⟨rfl, hy111, ea112⟩ | ⟨rfl, hy111, ea112⟩
        · skip
          refine xr_istore (ls2 := [(5, .int (1)), (7, .int (1)), (6, .int (r11)), (4, .int (vv)), (3, .int (fl)), (0, .ref (62))]) dX10_workOut_102 (by decide) rfl ?_
          refine xr_goto (tgt := 33) dX10_workOut_104 rfl ?_
          exact absurd hy111.1 (by have z1 := c109; grind)
        · skip
          refine xr_istore (ls2 := [(5, .int (0)), (7, .int (1)), (6, .int (r11)), (4, .int (vv)), (3, .int (fl)), (0, .ref (62))]) dX10_workOut_102 (by decide) rfl ?_
          refine xr_goto (tgt := 33) dX10_workOut_104 rfl ?_
          refine xr_iload dX10_workOut_33 0 rfl ?_
          refine xr_if_eq (tgt := 107) dX10_workOut_35 rfl (fun _ => ?_) (fun c => absurd (by decide) c)
          refine xr_aload_n dX10_workOut_107 5 rfl ?_
          refine xb_get (v := (ftv ok3 a2_2)) flX10_174 dX10_workOut_108 s_62 rfl (Eq.trans (k114 62 17 (by decide)) (Eq.trans (k16 62 17 (by decide)) ef7)) ?_
          refine xr_if_ge (tgt := 130) dX10_workOut_111 rfl (fun c116 => ?_) (fun c116 => ?_)
          · refine xr_iload dX10_workOut_130 3 rfl ?_
            exact xr_iret dX10_workOut_132 rfl rfl ((by obtain ⟨f2, g2, hf2⟩ := TGo_end hgo (lnB_1 hp5 (fun z => hy13 ⟨by rw [ftv_1 z.1]; decide, z.2⟩)) (fun z => hy111 ⟨by rw [ftv_1 z.1]; decide, z.2⟩); exact ⟨_, rfl, rfl, rfl, (Ke.tr (fun pp kk h => (Or.inr (Or.inl h))) (Ke.tr (fun pp kk h => (Or.inr (Or.inl h))) (Ke.tr (fun pp kk => (fun hh => Or.elim hh (fun h => (Or.inr (Or.inl h))) (fun hh => Or.elim hh (fun h => (Or.inr (Or.inr (Or.inr (Or.inl h))))) (fun h => (Or.inr (Or.inr (Or.inr (Or.inr h)))))))) hM k10) k16) k114), f2, g2, a2_2, ok3, _, hf2, (by omega), ((Eq.trans (k114 62 17 (by decide)) (Eq.trans (k16 62 17 (by decide)) ef7))).trans (ftF_n (fun z => by have z1 := ftv_1 (a := a2_2) z; have z2 := c116; rw [z1] at z2; exact absurd z2 (by decide))), fun z => absurd z (ftF_m (by omega) (Or.inl (fun z => by have z1 := ftv_1 (a := a2_2) z; have z2 := c116; rw [z1] at z2; exact absurd z2 (by decide))))⟩))
          · refine xr_aload_n dX10_workOut_114 5 rfl ?_
            refine xb_get (v := nI (a2_2)) flX10_165 dX10_workOut_115 s_62 rfl ea112 ?_
            refine xr_aload_n dX10_workOut_118 5 rfl ?_
            refine xb_get (v := nI (E)) flX10_168 dX10_workOut_119 s_62 rfl (Eq.trans (k114 62 16 (by decide)) (Eq.trans (k16 62 16 (by decide)) (Eq.trans (k10 62 16 (by decide)) e_E))) ?_
            refine xr_icmp_ge (tgt := 130) dX10_workOut_122 rfl (fun c117 => ?_) (fun c117 => ?_)
            · have hge : ¬ a2_2 < E := fun q => absurd ((nI_ltI (a := a2_2) (b := E) (by omega) (by omega)).mpr q) (by have z := c117; grind)
              refine xr_iload dX10_workOut_130 3 rfl ?_
              exact xr_iret dX10_workOut_132 rfl rfl ((absurd c109 c116))
            · have hlt : a2_2 < E := (nI_ltI (a := a2_2) (b := E) (by omega) (by omega)).mp (by have z := c117; grind)
              refine xr_aload_n dX10_workOut_125 5 rfl ?_
              refine xr_callV (As := []) (rest := []) mlX10_202 (gs_X10_wrong (Eq.trans (k114 62 17 (by decide)) (Eq.trans (k16 62 17 (by decide)) ef7)) (a := a2_2) (by omega) ea112) dX10_workOut_126 s_62 rfl rfl (Nat.le_of_ble_eq_true rfl) (by omega) ⟨by decide, by decide⟩ (fun v s2 M120 J2 hq => ?_)
              obtain ⟨r122, rfl, rfl, rfl, k121, ⟨hr119, hw118⟩⟩ := hq
              try dsimp only [Option.toList, List.cons_append, List.nil_append]
              subst hr119
              exact xr_iret dX10_workOut_129 rfl rfl ((absurd c109 c116))
      · refine xr_iload dX10_workOut_81 0 rfl ?_
        refine xr_if_eq (tgt := 96) dX10_workOut_83 rfl (fun c => absurd c (by decide)) (fun _ => ?_)
        refine xr_iload_n dX10_workOut_86 4 rfl ?_
        refine xr_if_ne (tgt := 96) dX10_workOut_87 rfl (fun c123 => ?_) (fun c123 => ?_)
        · refine xr_aload_n dX10_workOut_96 5 rfl ?_
          refine xr_bipush (v := 59) dX10_workOut_97 rfl ?_
          refine xr_callV (As := [.int (59)]) (rest := []) mlX10_184 (gs_X10_takes (si := 59) (by decide) (by decide) (T := T) (a := a2_2) (E := E) (hT.imp (fun z => ⟨z.1, ((Eq.trans (funext fun kk => k16 69 kk (by unfold WPA; omega)) (Eq.trans (funext fun kk => k10 69 kk (by unfold WPR; omega)) (Eq.trans (funext fun kk => hM 69 kk (by unfold WPW; omega)) rfl)))).trans z.2⟩) (fun z => ⟨z.1, ((Eq.trans (funext fun kk => k16 70 kk (by unfold WPA; omega)) (Eq.trans (funext fun kk => k10 70 kk (by unfold WPR; omega)) (Eq.trans (funext fun kk => hM 70 kk (by unfold WPW; omega)) rfl)))).trans z.2⟩)) (Eq.trans (k16 62 14 (by decide)) (Eq.trans (k10 62 14 (by decide)) e_bs)) (by omega) (by omega) ea14 (Eq.trans (k16 62 16 (by decide)) (Eq.trans (k10 62 16 (by decide)) e_E)) (Eq.trans (k16 62 17 (by decide)) ef7)) dX10_workOut_99 s_62 rfl rfl (Nat.le_of_ble_eq_true rfl) (by omega) ⟨by decide, by decide⟩ (fun v s2 M127 J2 hq => ?_)
          obtain ⟨r129, rfl, rfl, rfl, k128, hx124⟩ := hq
          try dsimp only [Option.toList, List.cons_append, List.nil_append]
          rcases hx124 with ⟨rfl, hy125, ea126⟩ | ⟨rfl, hy125, ea126⟩
          · skip
            refine xr_istore (ls2 := [(5, .int (1)), (7, .int (1)), (6, .int (r11)), (4, .int (vv)), (3, .int (fl)), (0, .ref (62))]) dX10_workOut_102 (by decide) rfl ?_
            refine xr_goto (tgt := 33) dX10_workOut_104 rfl ?_
            have hok : ok3 = true := (ftv_ok (a := a2_2) (by omega) hy125.1)
            have hl : a2_2 < E := nb_lt (T := T) (fun z => absurd (hy125.2.symm.trans z) (by decide))
            exact absurd hm (by omega)
          · skip
            refine xr_istore (ls2 := [(5, .int (0)), (7, .int (1)), (6, .int (r11)), (4, .int (vv)), (3, .int (fl)), (0, .ref (62))]) dX10_workOut_102 (by decide) rfl ?_
            refine xr_goto (tgt := 33) dX10_workOut_104 rfl ?_
            refine xr_iload dX10_workOut_33 0 rfl ?_
            refine xr_if_eq (tgt := 107) dX10_workOut_35 rfl (fun _ => ?_) (fun c => absurd (by decide) c)
            refine xr_aload_n dX10_workOut_107 5 rfl ?_
            refine xb_get (v := (ftv ok3 a2_2)) flX10_174 dX10_workOut_108 s_62 rfl (Eq.trans (k128 62 17 (by decide)) (Eq.trans (k16 62 17 (by decide)) ef7)) ?_
            refine xr_if_ge (tgt := 130) dX10_workOut_111 rfl (fun c130 => ?_) (fun c130 => ?_)
            · refine xr_iload dX10_workOut_130 3 rfl ?_
              exact xr_iret dX10_workOut_132 rfl rfl ((by obtain ⟨f2, g2, hf2⟩ := TGo_end hgo (lnB_1 hp5 (fun z => hy13 ⟨by rw [ftv_1 z.1]; decide, z.2⟩)) (fun z => hy125 ⟨by rw [ftv_1 z.1]; decide, z.2⟩); exact ⟨_, rfl, rfl, rfl, (Ke.tr (fun pp kk h => (Or.inr (Or.inl h))) (Ke.tr (fun pp kk h => (Or.inr (Or.inl h))) (Ke.tr (fun pp kk => (fun hh => Or.elim hh (fun h => (Or.inr (Or.inl h))) (fun hh => Or.elim hh (fun h => (Or.inr (Or.inr (Or.inr (Or.inl h))))) (fun h => (Or.inr (Or.inr (Or.inr (Or.inr h)))))))) hM k10) k16) k128), f2, g2, a2_2, ok3, _, hf2, (by omega), ((Eq.trans (k128 62 17 (by decide)) (Eq.trans (k16 62 17 (by decide)) ef7))).trans (ftF_n (fun z => by have z1 := ftv_1 (a := a2_2) z; have z2 := c130; rw [z1] at z2; exact absurd z2 (by decide))), fun z => absurd z (ftF_m (by omega) (Or.inl (fun z => by have z1 := ftv_1 (a := a2_2) z; have z2 := c130; rw [z1] at z2; exact absurd z2 (by decide))))⟩))
            · refine xr_aload_n dX10_workOut_114 5 rfl ?_
              refine xb_get (v := nI (a2_2)) flX10_165 dX10_workOut_115 s_62 rfl ea126 ?_
              refine xr_aload_n dX10_workOut_118 5 rfl ?_
              refine xb_get (v := nI (E)) flX10_168 dX10_workOut_119 s_62 rfl (Eq.trans (k128 62 16 (by decide)) (Eq.trans (k16 62 16 (by decide)) (Eq.trans (k10 62 16 (by decide)) e_E))) ?_
              refine xr_icmp_ge (tgt := 130) dX10_workOut_122 rfl (fun c131 => ?_) (fun c131 => ?_)
              · have hge : ¬ a2_2 < E := fun q => absurd ((nI_ltI (a := a2_2) (b := E) (by omega) (by omega)).mpr q) (by have z := c131; grind)
                refine xr_iload dX10_workOut_130 3 rfl ?_
                exact xr_iret dX10_workOut_132 rfl rfl ((by obtain ⟨f2, g2, hf2⟩ := TGo_end hgo (lnB_1 hp5 (fun z => hy13 ⟨by rw [ftv_1 z.1]; decide, z.2⟩)) (fun z => hy125 ⟨by rw [ftv_1 z.1]; decide, z.2⟩); exact ⟨_, rfl, rfl, rfl, (Ke.tr (fun pp kk h => (Or.inr (Or.inl h))) (Ke.tr (fun pp kk h => (Or.inr (Or.inl h))) (Ke.tr (fun pp kk => (fun hh => Or.elim hh (fun h => (Or.inr (Or.inl h))) (fun hh => Or.elim hh (fun h => (Or.inr (Or.inr (Or.inr (Or.inl h))))) (fun h => (Or.inr (Or.inr (Or.inr (Or.inr h)))))))) hM k10) k16) k128), f2, g2, a2_2, ok3, _, hf2, (by omega), ((Eq.trans (k128 62 17 (by decide)) (Eq.trans (k16 62 17 (by decide)) ef7))).trans (ftF_e (ftv_ok (a := a2_2) (by omega) (by have z2 := c130; grind)) hge), fun z => VI_e (VI_a hvi c123)⟩))
              · have hlt : a2_2 < E := (nI_ltI (a := a2_2) (b := E) (by omega) (by omega)).mp (by have z := c131; grind)
                refine xr_aload_n dX10_workOut_125 5 rfl ?_
                refine xr_callV (As := []) (rest := []) mlX10_202 (gs_X10_wrong (Eq.trans (k128 62 17 (by decide)) (Eq.trans (k16 62 17 (by decide)) ef7)) (a := a2_2) (by omega) ea126) dX10_workOut_126 s_62 rfl rfl (Nat.le_of_ble_eq_true rfl) (by omega) ⟨by decide, by decide⟩ (fun v s2 M134 J2 hq => ?_)
                obtain ⟨r136, rfl, rfl, rfl, k135, ⟨hr133, hw132⟩⟩ := hq
                try dsimp only [Option.toList, List.cons_append, List.nil_append]
                subst hr133
                exact xr_iret dX10_workOut_129 rfl rfl ((by obtain ⟨f2, g2, hf2⟩ := TGo_end hgo (lnB_1 hp5 (fun z => hy13 ⟨by rw [ftv_1 z.1]; decide, z.2⟩)) (fun z => hy125 ⟨by rw [ftv_1 z.1]; decide, z.2⟩); exact ⟨_, rfl, rfl, rfl, (Ke.tr (fun pp kk h => (Or.inr (Or.inr (Or.inr (Or.inl h))))) (Ke.tr (fun pp kk h => (Or.inr (Or.inl h))) (Ke.tr (fun pp kk h => (Or.inr (Or.inl h))) (Ke.tr (fun pp kk => (fun hh => Or.elim hh (fun h => (Or.inr (Or.inl h))) (fun hh => Or.elim hh (fun h => (Or.inr (Or.inr (Or.inr (Or.inl h))))) (fun h => (Or.inr (Or.inr (Or.inr (Or.inr h)))))))) hM k10) k16) k128) k135), f2, g2, a2_2, ok3, _, hf2, (by omega), ((hw132).trans (ftv_w (by omega))).trans (ftF_l hlt), fun z => absurd z (ftF_m (by omega) (Or.inr hlt))⟩))
        · refine xr_iconst (v := 1) dX10_workOut_90 rfl ?_
          refine xr_istore_n (ls2 := [(3, .int (1)), (7, .int (1)), (6, .int (r11)), (5, .int (1)), (4, .int (vv)), (0, .ref (62))]) dX10_workOut_91 (by decide) rfl ?_
          refine xr_iload dX10_workOut_92 2 rfl ?_
          refine xr_istore (ls2 := [(4, .int (r11)), (3, .int (1)), (7, .int (1)), (6, .int (r11)), (5, .int (1)), (0, .ref (62))]) dX10_workOut_94 (by decide) rfl ?_
          refine xr_aload_n dX10_workOut_96 5 rfl ?_
          refine xr_bipush (v := 59) dX10_workOut_97 rfl ?_
          refine xr_callV (As := [.int (59)]) (rest := []) mlX10_184 (gs_X10_takes (si := 59) (by decide) (by decide) (T := T) (a := a2_2) (E := E) (hT.imp (fun z => ⟨z.1, ((Eq.trans (funext fun kk => k16 69 kk (by unfold WPA; omega)) (Eq.trans (funext fun kk => k10 69 kk (by unfold WPR; omega)) (Eq.trans (funext fun kk => hM 69 kk (by unfold WPW; omega)) rfl)))).trans z.2⟩) (fun z => ⟨z.1, ((Eq.trans (funext fun kk => k16 70 kk (by unfold WPA; omega)) (Eq.trans (funext fun kk => k10 70 kk (by unfold WPR; omega)) (Eq.trans (funext fun kk => hM 70 kk (by unfold WPW; omega)) rfl)))).trans z.2⟩)) (Eq.trans (k16 62 14 (by decide)) (Eq.trans (k10 62 14 (by decide)) e_bs)) (by omega) (by omega) ea14 (Eq.trans (k16 62 16 (by decide)) (Eq.trans (k10 62 16 (by decide)) e_E)) (Eq.trans (k16 62 17 (by decide)) ef7)) dX10_workOut_99 s_62 rfl rfl (Nat.le_of_ble_eq_true rfl) (by omega) ⟨by decide, by decide⟩ (fun v s2 M140 J2 hq => ?_)
          obtain ⟨r142, rfl, rfl, rfl, k141, hx137⟩ := hq
          try dsimp only [Option.toList, List.cons_append, List.nil_append]
          rcases hx137 with ⟨rfl, hy138, ea139⟩ | ⟨rfl, hy138, ea139⟩
          · skip
            refine xr_istore (ls2 := [(5, .int (1)), (4, .int (r11)), (3, .int (1)), (7, .int (1)), (6, .int (r11)), (0, .ref (62))]) dX10_workOut_102 (by decide) rfl ?_
            refine xr_goto (tgt := 33) dX10_workOut_104 rfl ?_
            have hok : ok3 = true := (ftv_ok (a := a2_2) (by omega) hy138.1)
            have hl : a2_2 < E := nb_lt (T := T) (fun z => absurd (hy138.2.symm.trans z) (by decide))
            exact absurd hm (by omega)
          · skip
            refine xr_istore (ls2 := [(5, .int (0)), (4, .int (r11)), (3, .int (1)), (7, .int (1)), (6, .int (r11)), (0, .ref (62))]) dX10_workOut_102 (by decide) rfl ?_
            refine xr_goto (tgt := 33) dX10_workOut_104 rfl ?_
            refine xr_iload dX10_workOut_33 0 rfl ?_
            refine xr_if_eq (tgt := 107) dX10_workOut_35 rfl (fun _ => ?_) (fun c => absurd (by decide) c)
            refine xr_aload_n dX10_workOut_107 5 rfl ?_
            refine xb_get (v := (ftv ok3 a2_2)) flX10_174 dX10_workOut_108 s_62 rfl (Eq.trans (k141 62 17 (by decide)) (Eq.trans (k16 62 17 (by decide)) ef7)) ?_
            refine xr_if_ge (tgt := 130) dX10_workOut_111 rfl (fun c143 => ?_) (fun c143 => ?_)
            · refine xr_iload dX10_workOut_130 1 rfl ?_
              exact xr_iret dX10_workOut_132 rfl rfl ((by obtain ⟨f2, g2, hf2⟩ := TGo_end hgo (lnB_1 hp5 (fun z => hy13 ⟨by rw [ftv_1 z.1]; decide, z.2⟩)) (fun z => hy138 ⟨by rw [ftv_1 z.1]; decide, z.2⟩); exact ⟨_, rfl, rfl, rfl, (Ke.tr (fun pp kk h => (Or.inr (Or.inl h))) (Ke.tr (fun pp kk h => (Or.inr (Or.inl h))) (Ke.tr (fun pp kk => (fun hh => Or.elim hh (fun h => (Or.inr (Or.inl h))) (fun hh => Or.elim hh (fun h => (Or.inr (Or.inr (Or.inr (Or.inl h))))) (fun h => (Or.inr (Or.inr (Or.inr (Or.inr h)))))))) hM k10) k16) k141), f2, g2, a2_2, ok3, _, hf2, (by omega), ((Eq.trans (k141 62 17 (by decide)) (Eq.trans (k16 62 17 (by decide)) ef7))).trans (ftF_n (fun z => by have z1 := ftv_1 (a := a2_2) z; have z2 := c143; rw [z1] at z2; exact absurd z2 (by decide))), fun z => absurd z (ftF_m (by omega) (Or.inl (fun z => by have z1 := ftv_1 (a := a2_2) z; have z2 := c143; rw [z1] at z2; exact absurd z2 (by decide))))⟩))
            · refine xr_aload_n dX10_workOut_114 5 rfl ?_
              refine xb_get (v := nI (a2_2)) flX10_165 dX10_workOut_115 s_62 rfl ea139 ?_
              refine xr_aload_n dX10_workOut_118 5 rfl ?_
              refine xb_get (v := nI (E)) flX10_168 dX10_workOut_119 s_62 rfl (Eq.trans (k141 62 16 (by decide)) (Eq.trans (k16 62 16 (by decide)) (Eq.trans (k10 62 16 (by decide)) e_E))) ?_
              refine xr_icmp_ge (tgt := 130) dX10_workOut_122 rfl (fun c144 => ?_) (fun c144 => ?_)
              · have hge : ¬ a2_2 < E := fun q => absurd ((nI_ltI (a := a2_2) (b := E) (by omega) (by omega)).mpr q) (by have z := c144; grind)
                refine xr_iload dX10_workOut_130 1 rfl ?_
                exact xr_iret dX10_workOut_132 rfl rfl ((by obtain ⟨f2, g2, hf2⟩ := TGo_end hgo (lnB_1 hp5 (fun z => hy13 ⟨by rw [ftv_1 z.1]; decide, z.2⟩)) (fun z => hy138 ⟨by rw [ftv_1 z.1]; decide, z.2⟩); exact ⟨_, rfl, rfl, rfl, (Ke.tr (fun pp kk h => (Or.inr (Or.inl h))) (Ke.tr (fun pp kk h => (Or.inr (Or.inl h))) (Ke.tr (fun pp kk => (fun hh => Or.elim hh (fun h => (Or.inr (Or.inl h))) (fun hh => Or.elim hh (fun h => (Or.inr (Or.inr (Or.inr (Or.inl h))))) (fun h => (Or.inr (Or.inr (Or.inr (Or.inr h)))))))) hM k10) k16) k141), f2, g2, a2_2, ok3, _, hf2, (by omega), ((Eq.trans (k141 62 17 (by decide)) (Eq.trans (k16 62 17 (by decide)) ef7))).trans (ftF_e (ftv_ok (a := a2_2) (by omega) (by have z2 := c143; grind)) hge), fun z => VI_e (by rw [(eo8 (ftv_ok (a := a2_2) (by omega) (by have z2 := c143; grind))).2]; exact VI_b hvi c123)⟩))
              · have hlt : a2_2 < E := (nI_ltI (a := a2_2) (b := E) (by omega) (by omega)).mp (by have z := c144; grind)
                refine xr_aload_n dX10_workOut_125 5 rfl ?_
                refine xr_callV (As := []) (rest := []) mlX10_202 (gs_X10_wrong (Eq.trans (k141 62 17 (by decide)) (Eq.trans (k16 62 17 (by decide)) ef7)) (a := a2_2) (by omega) ea139) dX10_workOut_126 s_62 rfl rfl (Nat.le_of_ble_eq_true rfl) (by omega) ⟨by decide, by decide⟩ (fun v s2 M147 J2 hq => ?_)
                obtain ⟨r149, rfl, rfl, rfl, k148, ⟨hr146, hw145⟩⟩ := hq
                try dsimp only [Option.toList, List.cons_append, List.nil_append]
                subst hr146
                exact xr_iret dX10_workOut_129 rfl rfl ((by obtain ⟨f2, g2, hf2⟩ := TGo_end hgo (lnB_1 hp5 (fun z => hy13 ⟨by rw [ftv_1 z.1]; decide, z.2⟩)) (fun z => hy138 ⟨by rw [ftv_1 z.1]; decide, z.2⟩); exact ⟨_, rfl, rfl, rfl, (Ke.tr (fun pp kk h => (Or.inr (Or.inr (Or.inr (Or.inl h))))) (Ke.tr (fun pp kk h => (Or.inr (Or.inl h))) (Ke.tr (fun pp kk h => (Or.inr (Or.inl h))) (Ke.tr (fun pp kk => (fun hh => Or.elim hh (fun h => (Or.inr (Or.inl h))) (fun hh => Or.elim hh (fun h => (Or.inr (Or.inr (Or.inr (Or.inl h))))) (fun h => (Or.inr (Or.inr (Or.inr (Or.inr h)))))))) hM k10) k16) k141) k148), f2, g2, a2_2, ok3, _, hf2, (by omega), ((hw145).trans (ftv_w (by omega))).trans (ftF_l hlt), fun z => absurd z (ftF_m (by omega) (Or.inr hlt))⟩))
  | succ m ih =>
    intro a1 l1 vv fl M1 hm h2 hM e_a1 e_o1 e_bs e_E e_f1 hgo hvi
    refine xr_iload dX10_workOut_33 0 rfl ?_
    refine xr_if_eq (tgt := 107) dX10_workOut_35 rfl (fun c => absurd c (by decide)) (fun _ => ?_)
    refine xr_aload_n dX10_workOut_38 3 rfl ?_
    refine xr_callV (As := []) (rest := []) mlX10_205 (lt_top l G M1 J bs T N a1 E 0 (hT.imp (fun z => ⟨z.1, ((Eq.trans (funext fun kk => hM 69 kk (by unfold WPW; omega)) rfl)).trans z.2⟩) (fun z => ⟨z.1, ((Eq.trans (funext fun kk => hM 70 kk (by unfold WPW; omega)) rfl)).trans z.2⟩)) (((Eq.trans (funext fun kk => hM 71 kk (by unfold WPW; omega)) rfl)).trans hNm) e_bs (by omega) hE e_a1 e_E (by omega) e_o1 e_f1) dX10_workOut_39 s_62 rfl rfl (Nat.le_of_ble_eq_true rfl) (by omega) ⟨by decide, by decide⟩ (fun v s2 M9 J2 hq => ?_)
    obtain ⟨r11, rfl, rfl, rfl, k10, ⟨f1, a2_2, ok3, cd4, hp5, ea6, ef7, eo8⟩⟩ := hq
    try dsimp only [Option.toList, List.cons_append, List.nil_append]
    have hp5b := pz_b _ _ _ _ _ _ _ _ hp5 (by omega)
    obtain ⟨hp5x, hp5y, -⟩ := hp5b
    replace hp5x : a1 ≤ a2_2 := hp5x
    replace hp5y : a2_2 ≤ E := hp5y
    refine xr_istore (ls2 := [(6, .int (r11)), (5, .int (1)), (4, .int (vv)), (3, .int (fl)), (0, .ref (62))]) dX10_workOut_42 (by decide) rfl ?_
    refine xr_iconst (v := 1) dX10_workOut_44 rfl ?_
    refine xr_istore (ls2 := [(7, .int (1)), (6, .int (r11)), (5, .int (1)), (4, .int (vv)), (3, .int (fl)), (0, .ref (62))]) dX10_workOut_45 (by decide) rfl ?_
    refine xr_aload_n dX10_workOut_47 5 rfl ?_
    refine xr_bipush (v := 63) dX10_workOut_48 rfl ?_
    refine xr_callV (As := [.int (63)]) (rest := []) mlX10_184 (gs_X10_takes (si := 63) (by decide) (by decide) (T := T) (a := a2_2) (E := E) (hT.imp (fun z => ⟨z.1, ((Eq.trans (funext fun kk => k10 69 kk (by unfold WPR; omega)) (Eq.trans (funext fun kk => hM 69 kk (by unfold WPW; omega)) rfl))).trans z.2⟩) (fun z => ⟨z.1, ((Eq.trans (funext fun kk => k10 70 kk (by unfold WPR; omega)) (Eq.trans (funext fun kk => hM 70 kk (by unfold WPW; omega)) rfl))).trans z.2⟩)) (Eq.trans (k10 62 14 (by decide)) e_bs) (by omega) (by omega) ea6 (Eq.trans (k10 62 16 (by decide)) e_E) ef7) dX10_workOut_50 s_62 rfl rfl (Nat.le_of_ble_eq_true rfl) (by omega) ⟨by decide, by decide⟩ (fun v s2 M15 J2 hq => ?_)
    obtain ⟨r17, rfl, rfl, rfl, k16, hx12⟩ := hq
    try dsimp only [Option.toList, List.cons_append, List.nil_append]
    rcases hx12 with ⟨rfl, hy13, ea14⟩ | ⟨rfl, hy13, ea14⟩
    · skip
      refine xr_if_eq (tgt := 74) dX10_workOut_53 rfl (fun c => absurd c (by decide)) (fun _ => ?_)
      have hok1 : ok3 = true := ftv_ok (a := a2_2) (by omega) hy13.1
      have hl1 : a2_2 < E := nb_lt (T := T) (fun z => absurd (hy13.2.symm.trans z) (by decide))
      refine xr_iload dX10_workOut_56 1 rfl ?_
      refine xr_if_eq (tgt := 65) dX10_workOut_58 rfl (fun c18 => ?_) (fun c18 => ?_)
      · refine xr_iconst (v := 0) dX10_workOut_65 rfl ?_
        refine xr_istore (ls2 := [(7, .int (0)), (6, .int (r11)), (5, .int (1)), (4, .int (vv)), (3, .int (fl)), (0, .ref (62))]) dX10_workOut_66 (by decide) rfl ?_
        refine xr_aload_n dX10_workOut_68 5 rfl ?_
        refine xr_callV (As := []) (rest := []) mlX10_205 (lt_top l G M15 J bs T N (a2_2 + 1) E 0 (hT.imp (fun z => ⟨z.1, ((Eq.trans (funext fun kk => k16 69 kk (by unfold WPA; omega)) (Eq.trans (funext fun kk => k10 69 kk (by unfold WPR; omega)) (Eq.trans (funext fun kk => hM 69 kk (by unfold WPW; omega)) rfl)))).trans z.2⟩) (fun z => ⟨z.1, ((Eq.trans (funext fun kk => k16 70 kk (by unfold WPA; omega)) (Eq.trans (funext fun kk => k10 70 kk (by unfold WPR; omega)) (Eq.trans (funext fun kk => hM 70 kk (by unfold WPW; omega)) rfl)))).trans z.2⟩)) (((Eq.trans (funext fun kk => k16 71 kk (by unfold WPA; omega)) (Eq.trans (funext fun kk => k10 71 kk (by unfold WPR; omega)) (Eq.trans (funext fun kk => hM 71 kk (by unfold WPW; omega)) rfl)))).trans hNm) (Eq.trans (k16 62 14 (by decide)) (Eq.trans (k10 62 14 (by decide)) e_bs)) (by omega) hE ea14 (Eq.trans (k16 62 16 (by decide)) (Eq.trans (k10 62 16 (by decide)) e_E)) (by omega) (((Eq.trans (k16 62 18 (by decide)) rfl)).trans (eo8 hok1).1) (((Eq.trans (k16 62 17 (by decide)) ef7)).trans (ftv_1 hok1))) dX10_workOut_69 s_62 rfl rfl (Nat.le_of_ble_eq_true rfl) (by omega) ⟨by decide, by decide⟩ (fun v s2 M27 J2 hq => ?_)
        obtain ⟨r29, rfl, rfl, rfl, k28, ⟨f19, a2_20, ok21, cd22, hp23, ea24, ef25, eo26⟩⟩ := hq
        try dsimp only [Option.toList, List.cons_append, List.nil_append]
        have hp23b := pz_b _ _ _ _ _ _ _ _ hp23 (by omega)
        obtain ⟨hp23x, hp23y, -⟩ := hp23b
        replace hp23x : (a2_2 + 1) ≤ a2_20 := hp23x
        replace hp23y : a2_20 ≤ E := hp23y
        refine xr_istore (ls2 := [(6, .int (r29)), (7, .int (0)), (5, .int (1)), (4, .int (vv)), (3, .int (fl)), (0, .ref (62))]) dX10_workOut_72 (by decide) rfl ?_
        refine xr_aload_n dX10_workOut_74 5 rfl ?_
        refine xb_get (v := (ftv ok21 a2_20)) flX10_174 dX10_workOut_75 s_62 rfl ef25 ?_
        refine xr_if_ge (tgt := 96) dX10_workOut_78 rfl (fun c30 => ?_) (fun c30 => ?_)
        · refine xr_aload_n dX10_workOut_96 5 rfl ?_
          refine xr_bipush (v := 59) dX10_workOut_97 rfl ?_
          refine xr_callV (As := [.int (59)]) (rest := []) mlX10_184 (gs_X10_takes (si := 59) (by decide) (by decide) (T := T) (a := a2_20) (E := E) (hT.imp (fun z => ⟨z.1, ((Eq.trans (funext fun kk => k28 69 kk (by unfold WPR; omega)) (Eq.trans (funext fun kk => k16 69 kk (by unfold WPA; omega)) (Eq.trans (funext fun kk => k10 69 kk (by unfold WPR; omega)) (Eq.trans (funext fun kk => hM 69 kk (by unfold WPW; omega)) rfl))))).trans z.2⟩) (fun z => ⟨z.1, ((Eq.trans (funext fun kk => k28 70 kk (by unfold WPR; omega)) (Eq.trans (funext fun kk => k16 70 kk (by unfold WPA; omega)) (Eq.trans (funext fun kk => k10 70 kk (by unfold WPR; omega)) (Eq.trans (funext fun kk => hM 70 kk (by unfold WPW; omega)) rfl))))).trans z.2⟩)) (Eq.trans (k28 62 14 (by decide)) (Eq.trans (k16 62 14 (by decide)) (Eq.trans (k10 62 14 (by decide)) e_bs))) (by omega) (by omega) ea24 (Eq.trans (k28 62 16 (by decide)) (Eq.trans (k16 62 16 (by decide)) (Eq.trans (k10 62 16 (by decide)) e_E))) ef25) dX10_workOut_99 s_62 rfl rfl (Nat.le_of_ble_eq_true rfl) (by omega) ⟨by decide, by decide⟩ (fun v s2 M34 J2 hq => ?_)
          obtain ⟨r36, rfl, rfl, rfl, k35, hx31⟩ := hq
          try dsimp only [Option.toList, List.cons_append, List.nil_append]
          rcases hx31 with ⟨rfl, hy32, ea33⟩ | ⟨rfl, hy32, ea33⟩
          · skip
            refine xr_istore (ls2 := [(5, .int (1)), (6, .int (r29)), (7, .int (0)), (4, .int (vv)), (3, .int (fl)), (0, .ref (62))]) dX10_workOut_102 (by decide) rfl ?_
            refine xr_goto (tgt := 33) dX10_workOut_104 rfl ?_
            exact absurd hy32.1 (by have z1 := c30; grind)
          · skip
            refine xr_istore (ls2 := [(5, .int (0)), (6, .int (r29)), (7, .int (0)), (4, .int (vv)), (3, .int (fl)), (0, .ref (62))]) dX10_workOut_102 (by decide) rfl ?_
            refine xr_goto (tgt := 33) dX10_workOut_104 rfl ?_
            refine xr_iload dX10_workOut_33 0 rfl ?_
            refine xr_if_eq (tgt := 107) dX10_workOut_35 rfl (fun _ => ?_) (fun c => absurd (by decide) c)
            refine xr_aload_n dX10_workOut_107 5 rfl ?_
            refine xb_get (v := (ftv ok21 a2_20)) flX10_174 dX10_workOut_108 s_62 rfl (Eq.trans (k35 62 17 (by decide)) ef25) ?_
            refine xr_if_ge (tgt := 130) dX10_workOut_111 rfl (fun c37 => ?_) (fun c37 => ?_)
            · refine xr_iload dX10_workOut_130 3 rfl ?_
              exact xr_iret dX10_workOut_132 rfl rfl ((by obtain ⟨f2, g2, hf2⟩ := TGo_end hgo (lnB_2 hp5 ⟨hok1, hy13.2⟩ hp23) (fun z => hy32 ⟨by rw [ftv_1 z.1]; decide, z.2⟩); exact ⟨_, rfl, rfl, rfl, (Ke.tr (fun pp kk h => (Or.inr (Or.inl h))) (Ke.tr (fun pp kk => (fun hh => Or.elim hh (fun h => (Or.inr (Or.inl h))) (fun hh => Or.elim hh (fun h => (Or.inr (Or.inr (Or.inr (Or.inl h))))) (fun h => (Or.inr (Or.inr (Or.inr (Or.inr h)))))))) (Ke.tr (fun pp kk h => (Or.inr (Or.inl h))) (Ke.tr (fun pp kk => (fun hh => Or.elim hh (fun h => (Or.inr (Or.inl h))) (fun hh => Or.elim hh (fun h => (Or.inr (Or.inr (Or.inr (Or.inl h))))) (fun h => (Or.inr (Or.inr (Or.inr (Or.inr h)))))))) hM k10) k16) k28) k35), f2, g2, a2_20, ok21, _, hf2, (by omega), ((Eq.trans (k35 62 17 (by decide)) ef25)).trans (ftF_n (fun z => by have z1 := ftv_1 (a := a2_20) z; have z2 := c37; rw [z1] at z2; exact absurd z2 (by decide))), fun z => absurd z (ftF_m (by omega) (Or.inl (fun z => by have z1 := ftv_1 (a := a2_20) z; have z2 := c37; rw [z1] at z2; exact absurd z2 (by decide))))⟩))
            · refine xr_aload_n dX10_workOut_114 5 rfl ?_
              refine xb_get (v := nI (a2_20)) flX10_165 dX10_workOut_115 s_62 rfl ea33 ?_
              refine xr_aload_n dX10_workOut_118 5 rfl ?_
              refine xb_get (v := nI (E)) flX10_168 dX10_workOut_119 s_62 rfl (Eq.trans (k35 62 16 (by decide)) (Eq.trans (k28 62 16 (by decide)) (Eq.trans (k16 62 16 (by decide)) (Eq.trans (k10 62 16 (by decide)) e_E)))) ?_
              refine xr_icmp_ge (tgt := 130) dX10_workOut_122 rfl (fun c38 => ?_) (fun c38 => ?_)
              · have hge : ¬ a2_20 < E := fun q => absurd ((nI_ltI (a := a2_20) (b := E) (by omega) (by omega)).mpr q) (by have z := c38; grind)
                refine xr_iload dX10_workOut_130 3 rfl ?_
                exact xr_iret dX10_workOut_132 rfl rfl ((absurd c30 c37))
              · have hlt : a2_20 < E := (nI_ltI (a := a2_20) (b := E) (by omega) (by omega)).mp (by have z := c38; grind)
                refine xr_aload_n dX10_workOut_125 5 rfl ?_
                refine xr_callV (As := []) (rest := []) mlX10_202 (gs_X10_wrong (Eq.trans (k35 62 17 (by decide)) ef25) (a := a2_20) (by omega) ea33) dX10_workOut_126 s_62 rfl rfl (Nat.le_of_ble_eq_true rfl) (by omega) ⟨by decide, by decide⟩ (fun v s2 M41 J2 hq => ?_)
                obtain ⟨r43, rfl, rfl, rfl, k42, ⟨hr40, hw39⟩⟩ := hq
                try dsimp only [Option.toList, List.cons_append, List.nil_append]
                subst hr40
                exact xr_iret dX10_workOut_129 rfl rfl ((absurd c30 c37))
        · refine xr_iload dX10_workOut_81 1 rfl ?_
          refine xr_if_eq (tgt := 96) dX10_workOut_83 rfl (fun _ => ?_) (fun c => absurd (by decide) c)
          refine xr_aload_n dX10_workOut_96 5 rfl ?_
          refine xr_bipush (v := 59) dX10_workOut_97 rfl ?_
          refine xr_callV (As := [.int (59)]) (rest := []) mlX10_184 (gs_X10_takes (si := 59) (by decide) (by decide) (T := T) (a := a2_20) (E := E) (hT.imp (fun z => ⟨z.1, ((Eq.trans (funext fun kk => k28 69 kk (by unfold WPR; omega)) (Eq.trans (funext fun kk => k16 69 kk (by unfold WPA; omega)) (Eq.trans (funext fun kk => k10 69 kk (by unfold WPR; omega)) (Eq.trans (funext fun kk => hM 69 kk (by unfold WPW; omega)) rfl))))).trans z.2⟩) (fun z => ⟨z.1, ((Eq.trans (funext fun kk => k28 70 kk (by unfold WPR; omega)) (Eq.trans (funext fun kk => k16 70 kk (by unfold WPA; omega)) (Eq.trans (funext fun kk => k10 70 kk (by unfold WPR; omega)) (Eq.trans (funext fun kk => hM 70 kk (by unfold WPW; omega)) rfl))))).trans z.2⟩)) (Eq.trans (k28 62 14 (by decide)) (Eq.trans (k16 62 14 (by decide)) (Eq.trans (k10 62 14 (by decide)) e_bs))) (by omega) (by omega) ea24 (Eq.trans (k28 62 16 (by decide)) (Eq.trans (k16 62 16 (by decide)) (Eq.trans (k10 62 16 (by decide)) e_E))) ef25) dX10_workOut_99 s_62 rfl rfl (Nat.le_of_ble_eq_true rfl) (by omega) ⟨by decide, by decide⟩ (fun v s2 M47 J2 hq => ?_)
          obtain ⟨r49, rfl, rfl, rfl, k48, hx44⟩ := hq
          try dsimp only [Option.toList, List.cons_append, List.nil_append]
          rcases hx44 with ⟨rfl, hy45, ea46⟩ | ⟨rfl, hy45, ea46⟩
          · skip
            refine xr_istore (ls2 := [(5, .int (1)), (6, .int (r29)), (7, .int (0)), (4, .int (vv)), (3, .int (fl)), (0, .ref (62))]) dX10_workOut_102 (by decide) rfl ?_
            refine xr_goto (tgt := 33) dX10_workOut_104 rfl ?_
            have hok : ok21 = true := (ftv_ok (a := a2_20) (by omega) hy45.1)
            have hl : a2_20 < E := nb_lt (T := T) (fun z => absurd (hy45.2.symm.trans z) (by decide))
            refine xb_ls (ls2 := [(5, .int (1)), (4, .int (vv)), (3, .int (fl)), (0, .ref (62))]) [0, 3, 4, 5] rfl ?_
            exact ih (a2_20 + 1) (l1 ++ [(cd4, some cd22)]) vv fl M47 (by omega) (by omega) (Ke.tr (fun pp kk h => (Or.inr (Or.inl h))) (Ke.tr (fun pp kk => (fun hh => Or.elim hh (fun h => (Or.inr (Or.inl h))) (fun hh => Or.elim hh (fun h => (Or.inr (Or.inr (Or.inr (Or.inl h))))) (fun h => (Or.inr (Or.inr (Or.inr (Or.inr h)))))))) (Ke.tr (fun pp kk h => (Or.inr (Or.inl h))) (Ke.tr (fun pp kk => (fun hh => Or.elim hh (fun h => (Or.inr (Or.inl h))) (fun hh => Or.elim hh (fun h => (Or.inr (Or.inr (Or.inr (Or.inl h))))) (fun h => (Or.inr (Or.inr (Or.inr (Or.inr h)))))))) hM k10) k16) k28) k48) ea46 (((Eq.trans (k48 62 18 (by decide)) rfl)).trans (eo26 hok).1) (Eq.trans (k48 62 14 (by decide)) (Eq.trans (k28 62 14 (by decide)) (Eq.trans (k16 62 14 (by decide)) (Eq.trans (k10 62 14 (by decide)) e_bs)))) (Eq.trans (k48 62 16 (by decide)) (Eq.trans (k28 62 16 (by decide)) (Eq.trans (k16 62 16 (by decide)) (Eq.trans (k10 62 16 (by decide)) e_E)))) (((Eq.trans (k48 62 17 (by decide)) ef25)).trans (ftv_1 hok)) (TGo_s hgo (lnB_2 hp5 ⟨hok1, hy13.2⟩ hp23) ⟨hok, hy45.2⟩) (VI_c hvi (by rw [← (eo8 hok1).2]; exact c18))
          · skip
            refine xr_istore (ls2 := [(5, .int (0)), (6, .int (r29)), (7, .int (0)), (4, .int (vv)), (3, .int (fl)), (0, .ref (62))]) dX10_workOut_102 (by decide) rfl ?_
            refine xr_goto (tgt := 33) dX10_workOut_104 rfl ?_
            refine xr_iload dX10_workOut_33 0 rfl ?_
            refine xr_if_eq (tgt := 107) dX10_workOut_35 rfl (fun _ => ?_) (fun c => absurd (by decide) c)
            refine xr_aload_n dX10_workOut_107 5 rfl ?_
            refine xb_get (v := (ftv ok21 a2_20)) flX10_174 dX10_workOut_108 s_62 rfl (Eq.trans (k48 62 17 (by decide)) ef25) ?_
            refine xr_if_ge (tgt := 130) dX10_workOut_111 rfl (fun c50 => ?_) (fun c50 => ?_)
            · refine xr_iload dX10_workOut_130 3 rfl ?_
              exact xr_iret dX10_workOut_132 rfl rfl ((by obtain ⟨f2, g2, hf2⟩ := TGo_end hgo (lnB_2 hp5 ⟨hok1, hy13.2⟩ hp23) (fun z => hy45 ⟨by rw [ftv_1 z.1]; decide, z.2⟩); exact ⟨_, rfl, rfl, rfl, (Ke.tr (fun pp kk h => (Or.inr (Or.inl h))) (Ke.tr (fun pp kk => (fun hh => Or.elim hh (fun h => (Or.inr (Or.inl h))) (fun hh => Or.elim hh (fun h => (Or.inr (Or.inr (Or.inr (Or.inl h))))) (fun h => (Or.inr (Or.inr (Or.inr (Or.inr h)))))))) (Ke.tr (fun pp kk h => (Or.inr (Or.inl h))) (Ke.tr (fun pp kk => (fun hh => Or.elim hh (fun h => (Or.inr (Or.inl h))) (fun hh => Or.elim hh (fun h => (Or.inr (Or.inr (Or.inr (Or.inl h))))) (fun h => (Or.inr (Or.inr (Or.inr (Or.inr h)))))))) hM k10) k16) k28) k48), f2, g2, a2_20, ok21, _, hf2, (by omega), ((Eq.trans (k48 62 17 (by decide)) ef25)).trans (ftF_n (fun z => by have z1 := ftv_1 (a := a2_20) z; have z2 := c50; rw [z1] at z2; exact absurd z2 (by decide))), fun z => absurd z (ftF_m (by omega) (Or.inl (fun z => by have z1 := ftv_1 (a := a2_20) z; have z2 := c50; rw [z1] at z2; exact absurd z2 (by decide))))⟩))
            · refine xr_aload_n dX10_workOut_114 5 rfl ?_
              refine xb_get (v := nI (a2_20)) flX10_165 dX10_workOut_115 s_62 rfl ea46 ?_
              refine xr_aload_n dX10_workOut_118 5 rfl ?_
              refine xb_get (v := nI (E)) flX10_168 dX10_workOut_119 s_62 rfl (Eq.trans (k48 62 16 (by decide)) (Eq.trans (k28 62 16 (by decide)) (Eq.trans (k16 62 16 (by decide)) (Eq.trans (k10 62 16 (by decide)) e_E)))) ?_
              refine xr_icmp_ge (tgt := 130) dX10_workOut_122 rfl (fun c51 => ?_) (fun c51 => ?_)
              · have hge : ¬ a2_20 < E := fun q => absurd ((nI_ltI (a := a2_20) (b := E) (by omega) (by omega)).mpr q) (by have z := c51; grind)
                refine xr_iload dX10_workOut_130 3 rfl ?_
                exact xr_iret dX10_workOut_132 rfl rfl ((by obtain ⟨f2, g2, hf2⟩ := TGo_end hgo (lnB_2 hp5 ⟨hok1, hy13.2⟩ hp23) (fun z => hy45 ⟨by rw [ftv_1 z.1]; decide, z.2⟩); exact ⟨_, rfl, rfl, rfl, (Ke.tr (fun pp kk h => (Or.inr (Or.inl h))) (Ke.tr (fun pp kk => (fun hh => Or.elim hh (fun h => (Or.inr (Or.inl h))) (fun hh => Or.elim hh (fun h => (Or.inr (Or.inr (Or.inr (Or.inl h))))) (fun h => (Or.inr (Or.inr (Or.inr (Or.inr h)))))))) (Ke.tr (fun pp kk h => (Or.inr (Or.inl h))) (Ke.tr (fun pp kk => (fun hh => Or.elim hh (fun h => (Or.inr (Or.inl h))) (fun hh => Or.elim hh (fun h => (Or.inr (Or.inr (Or.inr (Or.inl h))))) (fun h => (Or.inr (Or.inr (Or.inr (Or.inr h)))))))) hM k10) k16) k28) k48), f2, g2, a2_20, ok21, _, hf2, (by omega), ((Eq.trans (k48 62 17 (by decide)) ef25)).trans (ftF_e (ftv_ok (a := a2_20) (by omega) (by have z2 := c50; grind)) hge), fun z => VI_e (VI_c hvi (by rw [← (eo8 hok1).2]; exact c18))⟩))
              · have hlt : a2_20 < E := (nI_ltI (a := a2_20) (b := E) (by omega) (by omega)).mp (by have z := c51; grind)
                refine xr_aload_n dX10_workOut_125 5 rfl ?_
                refine xr_callV (As := []) (rest := []) mlX10_202 (gs_X10_wrong (Eq.trans (k48 62 17 (by decide)) ef25) (a := a2_20) (by omega) ea46) dX10_workOut_126 s_62 rfl rfl (Nat.le_of_ble_eq_true rfl) (by omega) ⟨by decide, by decide⟩ (fun v s2 M54 J2 hq => ?_)
                obtain ⟨r56, rfl, rfl, rfl, k55, ⟨hr53, hw52⟩⟩ := hq
                try dsimp only [Option.toList, List.cons_append, List.nil_append]
                subst hr53
                exact xr_iret dX10_workOut_129 rfl rfl ((by obtain ⟨f2, g2, hf2⟩ := TGo_end hgo (lnB_2 hp5 ⟨hok1, hy13.2⟩ hp23) (fun z => hy45 ⟨by rw [ftv_1 z.1]; decide, z.2⟩); exact ⟨_, rfl, rfl, rfl, (Ke.tr (fun pp kk h => (Or.inr (Or.inr (Or.inr (Or.inl h))))) (Ke.tr (fun pp kk h => (Or.inr (Or.inl h))) (Ke.tr (fun pp kk => (fun hh => Or.elim hh (fun h => (Or.inr (Or.inl h))) (fun hh => Or.elim hh (fun h => (Or.inr (Or.inr (Or.inr (Or.inl h))))) (fun h => (Or.inr (Or.inr (Or.inr (Or.inr h)))))))) (Ke.tr (fun pp kk h => (Or.inr (Or.inl h))) (Ke.tr (fun pp kk => (fun hh => Or.elim hh (fun h => (Or.inr (Or.inl h))) (fun hh => Or.elim hh (fun h => (Or.inr (Or.inr (Or.inr (Or.inl h))))) (fun h => (Or.inr (Or.inr (Or.inr (Or.inr h)))))))) hM k10) k16) k28) k48) k55), f2, g2, a2_20, ok21, _, hf2, (by omega), ((hw52).trans (ftv_w (by omega))).trans (ftF_l hlt), fun z => absurd z (ftF_m (by omega) (Or.inr hlt))⟩))
      · refine xr_iconst (v := 1) dX10_workOut_61 rfl ?_
        refine xr_goto (tgt := 66) dX10_workOut_62 rfl ?_
        refine xr_istore (ls2 := [(7, .int (1)), (6, .int (r11)), (5, .int (1)), (4, .int (vv)), (3, .int (fl)), (0, .ref (62))]) dX10_workOut_66 (by decide) rfl ?_
        refine xr_aload_n dX10_workOut_68 5 rfl ?_
        refine xr_callV (As := []) (rest := []) mlX10_205 (lt_top l G M15 J bs T N (a2_2 + 1) E 0 (hT.imp (fun z => ⟨z.1, ((Eq.trans (funext fun kk => k16 69 kk (by unfold WPA; omega)) (Eq.trans (funext fun kk => k10 69 kk (by unfold WPR; omega)) (Eq.trans (funext fun kk => hM 69 kk (by unfold WPW; omega)) rfl)))).trans z.2⟩) (fun z => ⟨z.1, ((Eq.trans (funext fun kk => k16 70 kk (by unfold WPA; omega)) (Eq.trans (funext fun kk => k10 70 kk (by unfold WPR; omega)) (Eq.trans (funext fun kk => hM 70 kk (by unfold WPW; omega)) rfl)))).trans z.2⟩)) (((Eq.trans (funext fun kk => k16 71 kk (by unfold WPA; omega)) (Eq.trans (funext fun kk => k10 71 kk (by unfold WPR; omega)) (Eq.trans (funext fun kk => hM 71 kk (by unfold WPW; omega)) rfl)))).trans hNm) (Eq.trans (k16 62 14 (by decide)) (Eq.trans (k10 62 14 (by decide)) e_bs)) (by omega) hE ea14 (Eq.trans (k16 62 16 (by decide)) (Eq.trans (k10 62 16 (by decide)) e_E)) (by omega) (((Eq.trans (k16 62 18 (by decide)) rfl)).trans (eo8 hok1).1) (((Eq.trans (k16 62 17 (by decide)) ef7)).trans (ftv_1 hok1))) dX10_workOut_69 s_62 rfl rfl (Nat.le_of_ble_eq_true rfl) (by omega) ⟨by decide, by decide⟩ (fun v s2 M65 J2 hq => ?_)
        obtain ⟨r67, rfl, rfl, rfl, k66, ⟨f57, a2_58, ok59, cd60, hp61, ea62, ef63, eo64⟩⟩ := hq
        try dsimp only [Option.toList, List.cons_append, List.nil_append]
        have hp61b := pz_b _ _ _ _ _ _ _ _ hp61 (by omega)
        obtain ⟨hp61x, hp61y, -⟩ := hp61b
        replace hp61x : (a2_2 + 1) ≤ a2_58 := hp61x
        replace hp61y : a2_58 ≤ E := hp61y
        refine xr_istore (ls2 := [(6, .int (r67)), (7, .int (1)), (5, .int (1)), (4, .int (vv)), (3, .int (fl)), (0, .ref (62))]) dX10_workOut_72 (by decide) rfl ?_
        refine xr_aload_n dX10_workOut_74 5 rfl ?_
        refine xb_get (v := (ftv ok59 a2_58)) flX10_174 dX10_workOut_75 s_62 rfl ef63 ?_
        refine xr_if_ge (tgt := 96) dX10_workOut_78 rfl (fun c68 => ?_) (fun c68 => ?_)
        · refine xr_aload_n dX10_workOut_96 5 rfl ?_
          refine xr_bipush (v := 59) dX10_workOut_97 rfl ?_
          refine xr_callV (As := [.int (59)]) (rest := []) mlX10_184 (gs_X10_takes (si := 59) (by decide) (by decide) (T := T) (a := a2_58) (E := E) (hT.imp (fun z => ⟨z.1, ((Eq.trans (funext fun kk => k66 69 kk (by unfold WPR; omega)) (Eq.trans (funext fun kk => k16 69 kk (by unfold WPA; omega)) (Eq.trans (funext fun kk => k10 69 kk (by unfold WPR; omega)) (Eq.trans (funext fun kk => hM 69 kk (by unfold WPW; omega)) rfl))))).trans z.2⟩) (fun z => ⟨z.1, ((Eq.trans (funext fun kk => k66 70 kk (by unfold WPR; omega)) (Eq.trans (funext fun kk => k16 70 kk (by unfold WPA; omega)) (Eq.trans (funext fun kk => k10 70 kk (by unfold WPR; omega)) (Eq.trans (funext fun kk => hM 70 kk (by unfold WPW; omega)) rfl))))).trans z.2⟩)) (Eq.trans (k66 62 14 (by decide)) (Eq.trans (k16 62 14 (by decide)) (Eq.trans (k10 62 14 (by decide)) e_bs))) (by omega) (by omega) ea62 (Eq.trans (k66 62 16 (by decide)) (Eq.trans (k16 62 16 (by decide)) (Eq.trans (k10 62 16 (by decide)) e_E))) ef63) dX10_workOut_99 s_62 rfl rfl (Nat.le_of_ble_eq_true rfl) (by omega) ⟨by decide, by decide⟩ (fun v s2 M72 J2 hq => ?_)
          obtain ⟨r74, rfl, rfl, rfl, k73, hx69⟩ := hq
          try dsimp only [Option.toList, List.cons_append, List.nil_append]
          rcases hx69 with ⟨rfl, hy70, ea71⟩ | ⟨rfl, hy70, ea71⟩
          · skip
            refine xr_istore (ls2 := [(5, .int (1)), (6, .int (r67)), (7, .int (1)), (4, .int (vv)), (3, .int (fl)), (0, .ref (62))]) dX10_workOut_102 (by decide) rfl ?_
            refine xr_goto (tgt := 33) dX10_workOut_104 rfl ?_
            exact absurd hy70.1 (by have z1 := c68; grind)
          · skip
            refine xr_istore (ls2 := [(5, .int (0)), (6, .int (r67)), (7, .int (1)), (4, .int (vv)), (3, .int (fl)), (0, .ref (62))]) dX10_workOut_102 (by decide) rfl ?_
            refine xr_goto (tgt := 33) dX10_workOut_104 rfl ?_
            refine xr_iload dX10_workOut_33 0 rfl ?_
            refine xr_if_eq (tgt := 107) dX10_workOut_35 rfl (fun _ => ?_) (fun c => absurd (by decide) c)
            refine xr_aload_n dX10_workOut_107 5 rfl ?_
            refine xb_get (v := (ftv ok59 a2_58)) flX10_174 dX10_workOut_108 s_62 rfl (Eq.trans (k73 62 17 (by decide)) ef63) ?_
            refine xr_if_ge (tgt := 130) dX10_workOut_111 rfl (fun c75 => ?_) (fun c75 => ?_)
            · refine xr_iload dX10_workOut_130 3 rfl ?_
              exact xr_iret dX10_workOut_132 rfl rfl ((by obtain ⟨f2, g2, hf2⟩ := TGo_end hgo (lnB_2 hp5 ⟨hok1, hy13.2⟩ hp61) (fun z => hy70 ⟨by rw [ftv_1 z.1]; decide, z.2⟩); exact ⟨_, rfl, rfl, rfl, (Ke.tr (fun pp kk h => (Or.inr (Or.inl h))) (Ke.tr (fun pp kk => (fun hh => Or.elim hh (fun h => (Or.inr (Or.inl h))) (fun hh => Or.elim hh (fun h => (Or.inr (Or.inr (Or.inr (Or.inl h))))) (fun h => (Or.inr (Or.inr (Or.inr (Or.inr h)))))))) (Ke.tr (fun pp kk h => (Or.inr (Or.inl h))) (Ke.tr (fun pp kk => (fun hh => Or.elim hh (fun h => (Or.inr (Or.inl h))) (fun hh => Or.elim hh (fun h => (Or.inr (Or.inr (Or.inr (Or.inl h))))) (fun h => (Or.inr (Or.inr (Or.inr (Or.inr h)))))))) hM k10) k16) k66) k73), f2, g2, a2_58, ok59, _, hf2, (by omega), ((Eq.trans (k73 62 17 (by decide)) ef63)).trans (ftF_n (fun z => by have z1 := ftv_1 (a := a2_58) z; have z2 := c75; rw [z1] at z2; exact absurd z2 (by decide))), fun z => absurd z (ftF_m (by omega) (Or.inl (fun z => by have z1 := ftv_1 (a := a2_58) z; have z2 := c75; rw [z1] at z2; exact absurd z2 (by decide))))⟩))
            · refine xr_aload_n dX10_workOut_114 5 rfl ?_
              refine xb_get (v := nI (a2_58)) flX10_165 dX10_workOut_115 s_62 rfl ea71 ?_
              refine xr_aload_n dX10_workOut_118 5 rfl ?_
              refine xb_get (v := nI (E)) flX10_168 dX10_workOut_119 s_62 rfl (Eq.trans (k73 62 16 (by decide)) (Eq.trans (k66 62 16 (by decide)) (Eq.trans (k16 62 16 (by decide)) (Eq.trans (k10 62 16 (by decide)) e_E)))) ?_
              refine xr_icmp_ge (tgt := 130) dX10_workOut_122 rfl (fun c76 => ?_) (fun c76 => ?_)
              · have hge : ¬ a2_58 < E := fun q => absurd ((nI_ltI (a := a2_58) (b := E) (by omega) (by omega)).mpr q) (by have z := c76; grind)
                refine xr_iload dX10_workOut_130 3 rfl ?_
                exact xr_iret dX10_workOut_132 rfl rfl ((absurd c68 c75))
              · have hlt : a2_58 < E := (nI_ltI (a := a2_58) (b := E) (by omega) (by omega)).mp (by have z := c76; grind)
                refine xr_aload_n dX10_workOut_125 5 rfl ?_
                refine xr_callV (As := []) (rest := []) mlX10_202 (gs_X10_wrong (Eq.trans (k73 62 17 (by decide)) ef63) (a := a2_58) (by omega) ea71) dX10_workOut_126 s_62 rfl rfl (Nat.le_of_ble_eq_true rfl) (by omega) ⟨by decide, by decide⟩ (fun v s2 M79 J2 hq => ?_)
                obtain ⟨r81, rfl, rfl, rfl, k80, ⟨hr78, hw77⟩⟩ := hq
                try dsimp only [Option.toList, List.cons_append, List.nil_append]
                subst hr78
                exact xr_iret dX10_workOut_129 rfl rfl ((absurd c68 c75))
        · refine xr_iload dX10_workOut_81 1 rfl ?_
          refine xr_if_eq (tgt := 96) dX10_workOut_83 rfl (fun c => absurd c (by decide)) (fun _ => ?_)
          refine xr_iload_n dX10_workOut_86 4 rfl ?_
          refine xr_if_ne (tgt := 96) dX10_workOut_87 rfl (fun c82 => ?_) (fun c82 => ?_)
          · refine xr_aload_n dX10_workOut_96 5 rfl ?_
            refine xr_bipush (v := 59) dX10_workOut_97 rfl ?_
            refine xr_callV (As := [.int (59)]) (rest := []) mlX10_184 (gs_X10_takes (si := 59) (by decide) (by decide) (T := T) (a := a2_58) (E := E) (hT.imp (fun z => ⟨z.1, ((Eq.trans (funext fun kk => k66 69 kk (by unfold WPR; omega)) (Eq.trans (funext fun kk => k16 69 kk (by unfold WPA; omega)) (Eq.trans (funext fun kk => k10 69 kk (by unfold WPR; omega)) (Eq.trans (funext fun kk => hM 69 kk (by unfold WPW; omega)) rfl))))).trans z.2⟩) (fun z => ⟨z.1, ((Eq.trans (funext fun kk => k66 70 kk (by unfold WPR; omega)) (Eq.trans (funext fun kk => k16 70 kk (by unfold WPA; omega)) (Eq.trans (funext fun kk => k10 70 kk (by unfold WPR; omega)) (Eq.trans (funext fun kk => hM 70 kk (by unfold WPW; omega)) rfl))))).trans z.2⟩)) (Eq.trans (k66 62 14 (by decide)) (Eq.trans (k16 62 14 (by decide)) (Eq.trans (k10 62 14 (by decide)) e_bs))) (by omega) (by omega) ea62 (Eq.trans (k66 62 16 (by decide)) (Eq.trans (k16 62 16 (by decide)) (Eq.trans (k10 62 16 (by decide)) e_E))) ef63) dX10_workOut_99 s_62 rfl rfl (Nat.le_of_ble_eq_true rfl) (by omega) ⟨by decide, by decide⟩ (fun v s2 M86 J2 hq => ?_)
            obtain ⟨r88, rfl, rfl, rfl, k87, hx83⟩ := hq
            try dsimp only [Option.toList, List.cons_append, List.nil_append]
            rcases hx83 with ⟨rfl, hy84, ea85⟩ | ⟨rfl, hy84, ea85⟩
            · skip
              refine xr_istore (ls2 := [(5, .int (1)), (6, .int (r67)), (7, .int (1)), (4, .int (vv)), (3, .int (fl)), (0, .ref (62))]) dX10_workOut_102 (by decide) rfl ?_
              refine xr_goto (tgt := 33) dX10_workOut_104 rfl ?_
              have hok : ok59 = true := (ftv_ok (a := a2_58) (by omega) hy84.1)
              have hl : a2_58 < E := nb_lt (T := T) (fun z => absurd (hy84.2.symm.trans z) (by decide))
              refine xb_ls (ls2 := [(5, .int (1)), (4, .int (vv)), (3, .int (fl)), (0, .ref (62))]) [0, 3, 4, 5] rfl ?_
              exact ih (a2_58 + 1) (l1 ++ [(cd4, some cd60)]) vv fl M86 (by omega) (by omega) (Ke.tr (fun pp kk h => (Or.inr (Or.inl h))) (Ke.tr (fun pp kk => (fun hh => Or.elim hh (fun h => (Or.inr (Or.inl h))) (fun hh => Or.elim hh (fun h => (Or.inr (Or.inr (Or.inr (Or.inl h))))) (fun h => (Or.inr (Or.inr (Or.inr (Or.inr h)))))))) (Ke.tr (fun pp kk h => (Or.inr (Or.inl h))) (Ke.tr (fun pp kk => (fun hh => Or.elim hh (fun h => (Or.inr (Or.inl h))) (fun hh => Or.elim hh (fun h => (Or.inr (Or.inr (Or.inr (Or.inl h))))) (fun h => (Or.inr (Or.inr (Or.inr (Or.inr h)))))))) hM k10) k16) k66) k87) ea85 (((Eq.trans (k87 62 18 (by decide)) rfl)).trans (eo64 hok).1) (Eq.trans (k87 62 14 (by decide)) (Eq.trans (k66 62 14 (by decide)) (Eq.trans (k16 62 14 (by decide)) (Eq.trans (k10 62 14 (by decide)) e_bs)))) (Eq.trans (k87 62 16 (by decide)) (Eq.trans (k66 62 16 (by decide)) (Eq.trans (k16 62 16 (by decide)) (Eq.trans (k10 62 16 (by decide)) e_E)))) (((Eq.trans (k87 62 17 (by decide)) ef63)).trans (ftv_1 hok)) (TGo_s hgo (lnB_2 hp5 ⟨hok1, hy13.2⟩ hp61) ⟨hok, hy84.2⟩) (VI_a hvi c82)
            · skip
              refine xr_istore (ls2 := [(5, .int (0)), (6, .int (r67)), (7, .int (1)), (4, .int (vv)), (3, .int (fl)), (0, .ref (62))]) dX10_workOut_102 (by decide) rfl ?_
              refine xr_goto (tgt := 33) dX10_workOut_104 rfl ?_
              refine xr_iload dX10_workOut_33 0 rfl ?_
              refine xr_if_eq (tgt := 107) dX10_workOut_35 rfl (fun _ => ?_) (fun c => absurd (by decide) c)
              refine xr_aload_n dX10_workOut_107 5 rfl ?_
              refine xb_get (v := (ftv ok59 a2_58)) flX10_174 dX10_workOut_108 s_62 rfl (Eq.trans (k87 62 17 (by decide)) ef63) ?_
              refine xr_if_ge (tgt := 130) dX10_workOut_111 rfl (fun c89 => ?_) (fun c89 => ?_)
              · refine xr_iload dX10_workOut_130 3 rfl ?_
                exact xr_iret dX10_workOut_132 rfl rfl ((by obtain ⟨f2, g2, hf2⟩ := TGo_end hgo (lnB_2 hp5 ⟨hok1, hy13.2⟩ hp61) (fun z => hy84 ⟨by rw [ftv_1 z.1]; decide, z.2⟩); exact ⟨_, rfl, rfl, rfl, (Ke.tr (fun pp kk h => (Or.inr (Or.inl h))) (Ke.tr (fun pp kk => (fun hh => Or.elim hh (fun h => (Or.inr (Or.inl h))) (fun hh => Or.elim hh (fun h => (Or.inr (Or.inr (Or.inr (Or.inl h))))) (fun h => (Or.inr (Or.inr (Or.inr (Or.inr h)))))))) (Ke.tr (fun pp kk h => (Or.inr (Or.inl h))) (Ke.tr (fun pp kk => (fun hh => Or.elim hh (fun h => (Or.inr (Or.inl h))) (fun hh => Or.elim hh (fun h => (Or.inr (Or.inr (Or.inr (Or.inl h))))) (fun h => (Or.inr (Or.inr (Or.inr (Or.inr h)))))))) hM k10) k16) k66) k87), f2, g2, a2_58, ok59, _, hf2, (by omega), ((Eq.trans (k87 62 17 (by decide)) ef63)).trans (ftF_n (fun z => by have z1 := ftv_1 (a := a2_58) z; have z2 := c89; rw [z1] at z2; exact absurd z2 (by decide))), fun z => absurd z (ftF_m (by omega) (Or.inl (fun z => by have z1 := ftv_1 (a := a2_58) z; have z2 := c89; rw [z1] at z2; exact absurd z2 (by decide))))⟩))
              · refine xr_aload_n dX10_workOut_114 5 rfl ?_
                refine xb_get (v := nI (a2_58)) flX10_165 dX10_workOut_115 s_62 rfl ea85 ?_
                refine xr_aload_n dX10_workOut_118 5 rfl ?_
                refine xb_get (v := nI (E)) flX10_168 dX10_workOut_119 s_62 rfl (Eq.trans (k87 62 16 (by decide)) (Eq.trans (k66 62 16 (by decide)) (Eq.trans (k16 62 16 (by decide)) (Eq.trans (k10 62 16 (by decide)) e_E)))) ?_
                refine xr_icmp_ge (tgt := 130) dX10_workOut_122 rfl (fun c90 => ?_) (fun c90 => ?_)
                · have hge : ¬ a2_58 < E := fun q => absurd ((nI_ltI (a := a2_58) (b := E) (by omega) (by omega)).mpr q) (by have z := c90; grind)
                  refine xr_iload dX10_workOut_130 3 rfl ?_
                  exact xr_iret dX10_workOut_132 rfl rfl ((by obtain ⟨f2, g2, hf2⟩ := TGo_end hgo (lnB_2 hp5 ⟨hok1, hy13.2⟩ hp61) (fun z => hy84 ⟨by rw [ftv_1 z.1]; decide, z.2⟩); exact ⟨_, rfl, rfl, rfl, (Ke.tr (fun pp kk h => (Or.inr (Or.inl h))) (Ke.tr (fun pp kk => (fun hh => Or.elim hh (fun h => (Or.inr (Or.inl h))) (fun hh => Or.elim hh (fun h => (Or.inr (Or.inr (Or.inr (Or.inl h))))) (fun h => (Or.inr (Or.inr (Or.inr (Or.inr h)))))))) (Ke.tr (fun pp kk h => (Or.inr (Or.inl h))) (Ke.tr (fun pp kk => (fun hh => Or.elim hh (fun h => (Or.inr (Or.inl h))) (fun hh => Or.elim hh (fun h => (Or.inr (Or.inr (Or.inr (Or.inl h))))) (fun h => (Or.inr (Or.inr (Or.inr (Or.inr h)))))))) hM k10) k16) k66) k87), f2, g2, a2_58, ok59, _, hf2, (by omega), ((Eq.trans (k87 62 17 (by decide)) ef63)).trans (ftF_e (ftv_ok (a := a2_58) (by omega) (by have z2 := c89; grind)) hge), fun z => VI_e (VI_a hvi c82)⟩))
                · have hlt : a2_58 < E := (nI_ltI (a := a2_58) (b := E) (by omega) (by omega)).mp (by have z := c90; grind)
                  refine xr_aload_n dX10_workOut_125 5 rfl ?_
                  refine xr_callV (As := []) (rest := []) mlX10_202 (gs_X10_wrong (Eq.trans (k87 62 17 (by decide)) ef63) (a := a2_58) (by omega) ea85) dX10_workOut_126 s_62 rfl rfl (Nat.le_of_ble_eq_true rfl) (by omega) ⟨by decide, by decide⟩ (fun v s2 M93 J2 hq => ?_)
                  obtain ⟨r95, rfl, rfl, rfl, k94, ⟨hr92, hw91⟩⟩ := hq
                  try dsimp only [Option.toList, List.cons_append, List.nil_append]
                  subst hr92
                  exact xr_iret dX10_workOut_129 rfl rfl ((by obtain ⟨f2, g2, hf2⟩ := TGo_end hgo (lnB_2 hp5 ⟨hok1, hy13.2⟩ hp61) (fun z => hy84 ⟨by rw [ftv_1 z.1]; decide, z.2⟩); exact ⟨_, rfl, rfl, rfl, (Ke.tr (fun pp kk h => (Or.inr (Or.inr (Or.inr (Or.inl h))))) (Ke.tr (fun pp kk h => (Or.inr (Or.inl h))) (Ke.tr (fun pp kk => (fun hh => Or.elim hh (fun h => (Or.inr (Or.inl h))) (fun hh => Or.elim hh (fun h => (Or.inr (Or.inr (Or.inr (Or.inl h))))) (fun h => (Or.inr (Or.inr (Or.inr (Or.inr h)))))))) (Ke.tr (fun pp kk h => (Or.inr (Or.inl h))) (Ke.tr (fun pp kk => (fun hh => Or.elim hh (fun h => (Or.inr (Or.inl h))) (fun hh => Or.elim hh (fun h => (Or.inr (Or.inr (Or.inr (Or.inl h))))) (fun h => (Or.inr (Or.inr (Or.inr (Or.inr h)))))))) hM k10) k16) k66) k87) k94), f2, g2, a2_58, ok59, _, hf2, (by omega), ((hw91).trans (ftv_w (by omega))).trans (ftF_l hlt), fun z => absurd z (ftF_m (by omega) (Or.inr hlt))⟩))
          · refine xr_iconst (v := 1) dX10_workOut_90 rfl ?_
            refine xr_istore_n (ls2 := [(3, .int (1)), (6, .int (r67)), (7, .int (1)), (5, .int (1)), (4, .int (vv)), (0, .ref (62))]) dX10_workOut_91 (by decide) rfl ?_
            refine xr_iload dX10_workOut_92 1 rfl ?_
            refine xr_istore (ls2 := [(4, .int (r67)), (3, .int (1)), (6, .int (r67)), (7, .int (1)), (5, .int (1)), (0, .ref (62))]) dX10_workOut_94 (by decide) rfl ?_
            refine xr_aload_n dX10_workOut_96 5 rfl ?_
            refine xr_bipush (v := 59) dX10_workOut_97 rfl ?_
            refine xr_callV (As := [.int (59)]) (rest := []) mlX10_184 (gs_X10_takes (si := 59) (by decide) (by decide) (T := T) (a := a2_58) (E := E) (hT.imp (fun z => ⟨z.1, ((Eq.trans (funext fun kk => k66 69 kk (by unfold WPR; omega)) (Eq.trans (funext fun kk => k16 69 kk (by unfold WPA; omega)) (Eq.trans (funext fun kk => k10 69 kk (by unfold WPR; omega)) (Eq.trans (funext fun kk => hM 69 kk (by unfold WPW; omega)) rfl))))).trans z.2⟩) (fun z => ⟨z.1, ((Eq.trans (funext fun kk => k66 70 kk (by unfold WPR; omega)) (Eq.trans (funext fun kk => k16 70 kk (by unfold WPA; omega)) (Eq.trans (funext fun kk => k10 70 kk (by unfold WPR; omega)) (Eq.trans (funext fun kk => hM 70 kk (by unfold WPW; omega)) rfl))))).trans z.2⟩)) (Eq.trans (k66 62 14 (by decide)) (Eq.trans (k16 62 14 (by decide)) (Eq.trans (k10 62 14 (by decide)) e_bs))) (by omega) (by omega) ea62 (Eq.trans (k66 62 16 (by decide)) (Eq.trans (k16 62 16 (by decide)) (Eq.trans (k10 62 16 (by decide)) e_E))) ef63) dX10_workOut_99 s_62 rfl rfl (Nat.le_of_ble_eq_true rfl) (by omega) ⟨by decide, by decide⟩ (fun v s2 M99 J2 hq => ?_)
            obtain ⟨r101, rfl, rfl, rfl, k100, hx96⟩ := hq
            try dsimp only [Option.toList, List.cons_append, List.nil_append]
            rcases hx96 with ⟨rfl, hy97, ea98⟩ | ⟨rfl, hy97, ea98⟩
            · skip
              refine xr_istore (ls2 := [(5, .int (1)), (4, .int (r67)), (3, .int (1)), (6, .int (r67)), (7, .int (1)), (0, .ref (62))]) dX10_workOut_102 (by decide) rfl ?_
              refine xr_goto (tgt := 33) dX10_workOut_104 rfl ?_
              have hok : ok59 = true := (ftv_ok (a := a2_58) (by omega) hy97.1)
              have hl : a2_58 < E := nb_lt (T := T) (fun z => absurd (hy97.2.symm.trans z) (by decide))
              refine xb_ls (ls2 := [(5, .int (1)), (4, .int (r67)), (3, .int (1)), (0, .ref (62))]) [0, 1, 2, 5] rfl ?_
              exact ih (a2_58 + 1) (l1 ++ [(cd4, some cd60)]) r67 1 M99 (by omega) (by omega) (Ke.tr (fun pp kk h => (Or.inr (Or.inl h))) (Ke.tr (fun pp kk => (fun hh => Or.elim hh (fun h => (Or.inr (Or.inl h))) (fun hh => Or.elim hh (fun h => (Or.inr (Or.inr (Or.inr (Or.inl h))))) (fun h => (Or.inr (Or.inr (Or.inr (Or.inr h)))))))) (Ke.tr (fun pp kk h => (Or.inr (Or.inl h))) (Ke.tr (fun pp kk => (fun hh => Or.elim hh (fun h => (Or.inr (Or.inl h))) (fun hh => Or.elim hh (fun h => (Or.inr (Or.inr (Or.inr (Or.inl h))))) (fun h => (Or.inr (Or.inr (Or.inr (Or.inr h)))))))) hM k10) k16) k66) k100) ea98 (((Eq.trans (k100 62 18 (by decide)) rfl)).trans (eo64 hok).1) (Eq.trans (k100 62 14 (by decide)) (Eq.trans (k66 62 14 (by decide)) (Eq.trans (k16 62 14 (by decide)) (Eq.trans (k10 62 14 (by decide)) e_bs)))) (Eq.trans (k100 62 16 (by decide)) (Eq.trans (k66 62 16 (by decide)) (Eq.trans (k16 62 16 (by decide)) (Eq.trans (k10 62 16 (by decide)) e_E)))) (((Eq.trans (k100 62 17 (by decide)) ef63)).trans (ftv_1 hok)) (TGo_s hgo (lnB_2 hp5 ⟨hok1, hy13.2⟩ hp61) ⟨hok, hy97.2⟩) (by rw [(eo64 hok).2]; exact VI_d hvi c82 (by rw [← (eo8 hok1).2]; exact c18))
            · skip
              refine xr_istore (ls2 := [(5, .int (0)), (4, .int (r67)), (3, .int (1)), (6, .int (r67)), (7, .int (1)), (0, .ref (62))]) dX10_workOut_102 (by decide) rfl ?_
              refine xr_goto (tgt := 33) dX10_workOut_104 rfl ?_
              refine xr_iload dX10_workOut_33 0 rfl ?_
              refine xr_if_eq (tgt := 107) dX10_workOut_35 rfl (fun _ => ?_) (fun c => absurd (by decide) c)
              refine xr_aload_n dX10_workOut_107 5 rfl ?_
              refine xb_get (v := (ftv ok59 a2_58)) flX10_174 dX10_workOut_108 s_62 rfl (Eq.trans (k100 62 17 (by decide)) ef63) ?_
              refine xr_if_ge (tgt := 130) dX10_workOut_111 rfl (fun c102 => ?_) (fun c102 => ?_)
              · refine xr_iload dX10_workOut_130 1 rfl ?_
                exact xr_iret dX10_workOut_132 rfl rfl ((by obtain ⟨f2, g2, hf2⟩ := TGo_end hgo (lnB_2 hp5 ⟨hok1, hy13.2⟩ hp61) (fun z => hy97 ⟨by rw [ftv_1 z.1]; decide, z.2⟩); exact ⟨_, rfl, rfl, rfl, (Ke.tr (fun pp kk h => (Or.inr (Or.inl h))) (Ke.tr (fun pp kk => (fun hh => Or.elim hh (fun h => (Or.inr (Or.inl h))) (fun hh => Or.elim hh (fun h => (Or.inr (Or.inr (Or.inr (Or.inl h))))) (fun h => (Or.inr (Or.inr (Or.inr (Or.inr h)))))))) (Ke.tr (fun pp kk h => (Or.inr (Or.inl h))) (Ke.tr (fun pp kk => (fun hh => Or.elim hh (fun h => (Or.inr (Or.inl h))) (fun hh => Or.elim hh (fun h => (Or.inr (Or.inr (Or.inr (Or.inl h))))) (fun h => (Or.inr (Or.inr (Or.inr (Or.inr h)))))))) hM k10) k16) k66) k100), f2, g2, a2_58, ok59, _, hf2, (by omega), ((Eq.trans (k100 62 17 (by decide)) ef63)).trans (ftF_n (fun z => by have z1 := ftv_1 (a := a2_58) z; have z2 := c102; rw [z1] at z2; exact absurd z2 (by decide))), fun z => absurd z (ftF_m (by omega) (Or.inl (fun z => by have z1 := ftv_1 (a := a2_58) z; have z2 := c102; rw [z1] at z2; exact absurd z2 (by decide))))⟩))
              · refine xr_aload_n dX10_workOut_114 5 rfl ?_
                refine xb_get (v := nI (a2_58)) flX10_165 dX10_workOut_115 s_62 rfl ea98 ?_
                refine xr_aload_n dX10_workOut_118 5 rfl ?_
                refine xb_get (v := nI (E)) flX10_168 dX10_workOut_119 s_62 rfl (Eq.trans (k100 62 16 (by decide)) (Eq.trans (k66 62 16 (by decide)) (Eq.trans (k16 62 16 (by decide)) (Eq.trans (k10 62 16 (by decide)) e_E)))) ?_
                refine xr_icmp_ge (tgt := 130) dX10_workOut_122 rfl (fun c103 => ?_) (fun c103 => ?_)
                · have hge : ¬ a2_58 < E := fun q => absurd ((nI_ltI (a := a2_58) (b := E) (by omega) (by omega)).mpr q) (by have z := c103; grind)
                  refine xr_iload dX10_workOut_130 1 rfl ?_
                  exact xr_iret dX10_workOut_132 rfl rfl ((by obtain ⟨f2, g2, hf2⟩ := TGo_end hgo (lnB_2 hp5 ⟨hok1, hy13.2⟩ hp61) (fun z => hy97 ⟨by rw [ftv_1 z.1]; decide, z.2⟩); exact ⟨_, rfl, rfl, rfl, (Ke.tr (fun pp kk h => (Or.inr (Or.inl h))) (Ke.tr (fun pp kk => (fun hh => Or.elim hh (fun h => (Or.inr (Or.inl h))) (fun hh => Or.elim hh (fun h => (Or.inr (Or.inr (Or.inr (Or.inl h))))) (fun h => (Or.inr (Or.inr (Or.inr (Or.inr h)))))))) (Ke.tr (fun pp kk h => (Or.inr (Or.inl h))) (Ke.tr (fun pp kk => (fun hh => Or.elim hh (fun h => (Or.inr (Or.inl h))) (fun hh => Or.elim hh (fun h => (Or.inr (Or.inr (Or.inr (Or.inl h))))) (fun h => (Or.inr (Or.inr (Or.inr (Or.inr h)))))))) hM k10) k16) k66) k100), f2, g2, a2_58, ok59, _, hf2, (by omega), ((Eq.trans (k100 62 17 (by decide)) ef63)).trans (ftF_e (ftv_ok (a := a2_58) (by omega) (by have z2 := c102; grind)) hge), fun z => VI_e (by rw [(eo64 (ftv_ok (a := a2_58) (by omega) (by have z2 := c102; grind))).2]; exact VI_d hvi c82 (by rw [← (eo8 hok1).2]; exact c18))⟩))
                · have hlt : a2_58 < E := (nI_ltI (a := a2_58) (b := E) (by omega) (by omega)).mp (by have z := c103; grind)
                  refine xr_aload_n dX10_workOut_125 5 rfl ?_
                  refine xr_callV (As := []) (rest := []) mlX10_202 (gs_X10_wrong (Eq.trans (k100 62 17 (by decide)) ef63) (a := a2_58) (by omega) ea98) dX10_workOut_126 s_62 rfl rfl (Nat.le_of_ble_eq_true rfl) (by omega) ⟨by decide, by decide⟩ (fun v s2 M106 J2 hq => ?_)
                  obtain ⟨r108, rfl, rfl, rfl, k107, ⟨hr105, hw104⟩⟩ := hq
                  try dsimp only [Option.toList, List.cons_append, List.nil_append]
                  subst hr105
                  exact xr_iret dX10_workOut_129 rfl rfl ((by obtain ⟨f2, g2, hf2⟩ := TGo_end hgo (lnB_2 hp5 ⟨hok1, hy13.2⟩ hp61) (fun z => hy97 ⟨by rw [ftv_1 z.1]; decide, z.2⟩); exact ⟨_, rfl, rfl, rfl, (Ke.tr (fun pp kk h => (Or.inr (Or.inr (Or.inr (Or.inl h))))) (Ke.tr (fun pp kk h => (Or.inr (Or.inl h))) (Ke.tr (fun pp kk => (fun hh => Or.elim hh (fun h => (Or.inr (Or.inl h))) (fun hh => Or.elim hh (fun h => (Or.inr (Or.inr (Or.inr (Or.inl h))))) (fun h => (Or.inr (Or.inr (Or.inr (Or.inr h)))))))) (Ke.tr (fun pp kk h => (Or.inr (Or.inl h))) (Ke.tr (fun pp kk => (fun hh => Or.elim hh (fun h => (Or.inr (Or.inl h))) (fun hh => Or.elim hh (fun h => (Or.inr (Or.inr (Or.inr (Or.inl h))))) (fun h => (Or.inr (Or.inr (Or.inr (Or.inr h)))))))) hM k10) k16) k66) k100) k107), f2, g2, a2_58, ok59, _, hf2, (by omega), ((hw104).trans (ftv_w (by omega))).trans (ftF_l hlt), fun z => absurd z (ftF_m (by omega) (Or.inr hlt))⟩))
    · skip
      refine xr_if_eq (tgt := 74) dX10_workOut_53 rfl (fun _ => ?_) (fun c => absurd (by decide) c)
      refine xr_aload_n dX10_workOut_74 5 rfl ?_
      refine xb_get (v := (ftv ok3 a2_2)) flX10_174 dX10_workOut_75 s_62 rfl (Eq.trans (k16 62 17 (by decide)) ef7) ?_
      refine xr_if_ge (tgt := 96) dX10_workOut_78 rfl (fun c109 => ?_) (fun c109 => ?_)
      · refine xr_aload_n dX10_workOut_96 5 rfl ?_
        refine xr_bipush (v := 59) dX10_workOut_97 rfl ?_
        refine xr_callV (As := [.int (59)]) (rest := []) mlX10_184 (gs_X10_takes (si := 59) (by decide) (by decide) (T := T) (a := a2_2) (E := E) (hT.imp (fun z => ⟨z.1, ((Eq.trans (funext fun kk => k16 69 kk (by unfold WPA; omega)) (Eq.trans (funext fun kk => k10 69 kk (by unfold WPR; omega)) (Eq.trans (funext fun kk => hM 69 kk (by unfold WPW; omega)) rfl)))).trans z.2⟩) (fun z => ⟨z.1, ((Eq.trans (funext fun kk => k16 70 kk (by unfold WPA; omega)) (Eq.trans (funext fun kk => k10 70 kk (by unfold WPR; omega)) (Eq.trans (funext fun kk => hM 70 kk (by unfold WPW; omega)) rfl)))).trans z.2⟩)) (Eq.trans (k16 62 14 (by decide)) (Eq.trans (k10 62 14 (by decide)) e_bs)) (by omega) (by omega) ea14 (Eq.trans (k16 62 16 (by decide)) (Eq.trans (k10 62 16 (by decide)) e_E)) (Eq.trans (k16 62 17 (by decide)) ef7)) dX10_workOut_99 s_62 rfl rfl (Nat.le_of_ble_eq_true rfl) (by omega) ⟨by decide, by decide⟩ (fun v s2 M113 J2 hq => ?_)
        obtain ⟨r115, rfl, rfl, rfl, k114, hx110⟩ := hq
        try dsimp only [Option.toList, List.cons_append, List.nil_append]
        rcases hx110 with ⟨rfl, hy111, ea112⟩ | ⟨rfl, hy111, ea112⟩
        · skip
          refine xr_istore (ls2 := [(5, .int (1)), (7, .int (1)), (6, .int (r11)), (4, .int (vv)), (3, .int (fl)), (0, .ref (62))]) dX10_workOut_102 (by decide) rfl ?_
          refine xr_goto (tgt := 33) dX10_workOut_104 rfl ?_
          exact absurd hy111.1 (by have z1 := c109; grind)
        · skip
          refine xr_istore (ls2 := [(5, .int (0)), (7, .int (1)), (6, .int (r11)), (4, .int (vv)), (3, .int (fl)), (0, .ref (62))]) dX10_workOut_102 (by decide) rfl ?_
          refine xr_goto (tgt := 33) dX10_workOut_104 rfl ?_
          refine xr_iload dX10_workOut_33 0 rfl ?_
          refine xr_if_eq (tgt := 107) dX10_workOut_35 rfl (fun _ => ?_) (fun c => absurd (by decide) c)
          refine xr_aload_n dX10_workOut_107 5 rfl ?_
          refine xb_get (v := (ftv ok3 a2_2)) flX10_174 dX10_workOut_108 s_62 rfl (Eq.trans (k114 62 17 (by decide)) (Eq.trans (k16 62 17 (by decide)) ef7)) ?_
          refine xr_if_ge (tgt := 130) dX10_workOut_111 rfl (fun c116 => ?_) (fun c116 => ?_)
          · refine xr_iload dX10_workOut_130 3 rfl ?_
            exact xr_iret dX10_workOut_132 rfl rfl ((by obtain ⟨f2, g2, hf2⟩ := TGo_end hgo (lnB_1 hp5 (fun z => hy13 ⟨by rw [ftv_1 z.1]; decide, z.2⟩)) (fun z => hy111 ⟨by rw [ftv_1 z.1]; decide, z.2⟩); exact ⟨_, rfl, rfl, rfl, (Ke.tr (fun pp kk h => (Or.inr (Or.inl h))) (Ke.tr (fun pp kk h => (Or.inr (Or.inl h))) (Ke.tr (fun pp kk => (fun hh => Or.elim hh (fun h => (Or.inr (Or.inl h))) (fun hh => Or.elim hh (fun h => (Or.inr (Or.inr (Or.inr (Or.inl h))))) (fun h => (Or.inr (Or.inr (Or.inr (Or.inr h)))))))) hM k10) k16) k114), f2, g2, a2_2, ok3, _, hf2, (by omega), ((Eq.trans (k114 62 17 (by decide)) (Eq.trans (k16 62 17 (by decide)) ef7))).trans (ftF_n (fun z => by have z1 := ftv_1 (a := a2_2) z; have z2 := c116; rw [z1] at z2; exact absurd z2 (by decide))), fun z => absurd z (ftF_m (by omega) (Or.inl (fun z => by have z1 := ftv_1 (a := a2_2) z; have z2 := c116; rw [z1] at z2; exact absurd z2 (by decide))))⟩))
          · refine xr_aload_n dX10_workOut_114 5 rfl ?_
            refine xb_get (v := nI (a2_2)) flX10_165 dX10_workOut_115 s_62 rfl ea112 ?_
            refine xr_aload_n dX10_workOut_118 5 rfl ?_
            refine xb_get (v := nI (E)) flX10_168 dX10_workOut_119 s_62 rfl (Eq.trans (k114 62 16 (by decide)) (Eq.trans (k16 62 16 (by decide)) (Eq.trans (k10 62 16 (by decide)) e_E))) ?_
            refine xr_icmp_ge (tgt := 130) dX10_workOut_122 rfl (fun c117 => ?_) (fun c117 => ?_)
            · have hge : ¬ a2_2 < E := fun q => absurd ((nI_ltI (a := a2_2) (b := E) (by omega) (by omega)).mpr q) (by have z := c117; grind)
              refine xr_iload dX10_workOut_130 3 rfl ?_
              exact xr_iret dX10_workOut_132 rfl rfl ((absurd c109 c116))
            · have hlt : a2_2 < E := (nI_ltI (a := a2_2) (b := E) (by omega) (by omega)).mp (by have z := c117; grind)
              refine xr_aload_n dX10_workOut_125 5 rfl ?_
              refine xr_callV (As := []) (rest := []) mlX10_202 (gs_X10_wrong (Eq.trans (k114 62 17 (by decide)) (Eq.trans (k16 62 17 (by decide)) ef7)) (a := a2_2) (by omega) ea112) dX10_workOut_126 s_62 rfl rfl (Nat.le_of_ble_eq_true rfl) (by omega) ⟨by decide, by decide⟩ (fun v s2 M120 J2 hq => ?_)
              obtain ⟨r122, rfl, rfl, rfl, k121, ⟨hr119, hw118⟩⟩ := hq
              try dsimp only [Option.toList, List.cons_append, List.nil_append]
              subst hr119
              exact xr_iret dX10_workOut_129 rfl rfl ((absurd c109 c116))
      · refine xr_iload dX10_workOut_81 0 rfl ?_
        refine xr_if_eq (tgt := 96) dX10_workOut_83 rfl (fun c => absurd c (by decide)) (fun _ => ?_)
        refine xr_iload_n dX10_workOut_86 4 rfl ?_
        refine xr_if_ne (tgt := 96) dX10_workOut_87 rfl (fun c123 => ?_) (fun c123 => ?_)
        · refine xr_aload_n dX10_workOut_96 5 rfl ?_
          refine xr_bipush (v := 59) dX10_workOut_97 rfl ?_
          refine xr_callV (As := [.int (59)]) (rest := []) mlX10_184 (gs_X10_takes (si := 59) (by decide) (by decide) (T := T) (a := a2_2) (E := E) (hT.imp (fun z => ⟨z.1, ((Eq.trans (funext fun kk => k16 69 kk (by unfold WPA; omega)) (Eq.trans (funext fun kk => k10 69 kk (by unfold WPR; omega)) (Eq.trans (funext fun kk => hM 69 kk (by unfold WPW; omega)) rfl)))).trans z.2⟩) (fun z => ⟨z.1, ((Eq.trans (funext fun kk => k16 70 kk (by unfold WPA; omega)) (Eq.trans (funext fun kk => k10 70 kk (by unfold WPR; omega)) (Eq.trans (funext fun kk => hM 70 kk (by unfold WPW; omega)) rfl)))).trans z.2⟩)) (Eq.trans (k16 62 14 (by decide)) (Eq.trans (k10 62 14 (by decide)) e_bs)) (by omega) (by omega) ea14 (Eq.trans (k16 62 16 (by decide)) (Eq.trans (k10 62 16 (by decide)) e_E)) (Eq.trans (k16 62 17 (by decide)) ef7)) dX10_workOut_99 s_62 rfl rfl (Nat.le_of_ble_eq_true rfl) (by omega) ⟨by decide, by decide⟩ (fun v s2 M127 J2 hq => ?_)
          obtain ⟨r129, rfl, rfl, rfl, k128, hx124⟩ := hq
          try dsimp only [Option.toList, List.cons_append, List.nil_append]
          rcases hx124 with ⟨rfl, hy125, ea126⟩ | ⟨rfl, hy125, ea126⟩
          · skip
            refine xr_istore (ls2 := [(5, .int (1)), (7, .int (1)), (6, .int (r11)), (4, .int (vv)), (3, .int (fl)), (0, .ref (62))]) dX10_workOut_102 (by decide) rfl ?_
            refine xr_goto (tgt := 33) dX10_workOut_104 rfl ?_
            have hok : ok3 = true := (ftv_ok (a := a2_2) (by omega) hy125.1)
            have hl : a2_2 < E := nb_lt (T := T) (fun z => absurd (hy125.2.symm.trans z) (by decide))
            refine xb_ls (ls2 := [(5, .int (1)), (4, .int (vv)), (3, .int (fl)), (0, .ref (62))]) [0, 3, 4, 5] rfl ?_
            exact ih (a2_2 + 1) (l1 ++ [(cd4, none)]) vv fl M127 (by omega) (by omega) (Ke.tr (fun pp kk h => (Or.inr (Or.inl h))) (Ke.tr (fun pp kk h => (Or.inr (Or.inl h))) (Ke.tr (fun pp kk => (fun hh => Or.elim hh (fun h => (Or.inr (Or.inl h))) (fun hh => Or.elim hh (fun h => (Or.inr (Or.inr (Or.inr (Or.inl h))))) (fun h => (Or.inr (Or.inr (Or.inr (Or.inr h)))))))) hM k10) k16) k128) ea126 (((Eq.trans (k128 62 18 (by decide)) (Eq.trans (k16 62 18 (by decide)) rfl))).trans (eo8 hok).1) (Eq.trans (k128 62 14 (by decide)) (Eq.trans (k16 62 14 (by decide)) (Eq.trans (k10 62 14 (by decide)) e_bs))) (Eq.trans (k128 62 16 (by decide)) (Eq.trans (k16 62 16 (by decide)) (Eq.trans (k10 62 16 (by decide)) e_E))) (((Eq.trans (k128 62 17 (by decide)) (Eq.trans (k16 62 17 (by decide)) ef7))).trans (ftv_1 hok)) (TGo_s hgo (lnB_1 hp5 (fun z => hy13 ⟨by rw [ftv_1 z.1]; decide, z.2⟩)) ⟨hok, hy125.2⟩) (VI_a hvi c123)
          · skip
            refine xr_istore (ls2 := [(5, .int (0)), (7, .int (1)), (6, .int (r11)), (4, .int (vv)), (3, .int (fl)), (0, .ref (62))]) dX10_workOut_102 (by decide) rfl ?_
            refine xr_goto (tgt := 33) dX10_workOut_104 rfl ?_
            refine xr_iload dX10_workOut_33 0 rfl ?_
            refine xr_if_eq (tgt := 107) dX10_workOut_35 rfl (fun _ => ?_) (fun c => absurd (by decide) c)
            refine xr_aload_n dX10_workOut_107 5 rfl ?_
            refine xb_get (v := (ftv ok3 a2_2)) flX10_174 dX10_workOut_108 s_62 rfl (Eq.trans (k128 62 17 (by decide)) (Eq.trans (k16 62 17 (by decide)) ef7)) ?_
            refine xr_if_ge (tgt := 130) dX10_workOut_111 rfl (fun c130 => ?_) (fun c130 => ?_)
            · refine xr_iload dX10_workOut_130 3 rfl ?_
              exact xr_iret dX10_workOut_132 rfl rfl ((by obtain ⟨f2, g2, hf2⟩ := TGo_end hgo (lnB_1 hp5 (fun z => hy13 ⟨by rw [ftv_1 z.1]; decide, z.2⟩)) (fun z => hy125 ⟨by rw [ftv_1 z.1]; decide, z.2⟩); exact ⟨_, rfl, rfl, rfl, (Ke.tr (fun pp kk h => (Or.inr (Or.inl h))) (Ke.tr (fun pp kk h => (Or.inr (Or.inl h))) (Ke.tr (fun pp kk => (fun hh => Or.elim hh (fun h => (Or.inr (Or.inl h))) (fun hh => Or.elim hh (fun h => (Or.inr (Or.inr (Or.inr (Or.inl h))))) (fun h => (Or.inr (Or.inr (Or.inr (Or.inr h)))))))) hM k10) k16) k128), f2, g2, a2_2, ok3, _, hf2, (by omega), ((Eq.trans (k128 62 17 (by decide)) (Eq.trans (k16 62 17 (by decide)) ef7))).trans (ftF_n (fun z => by have z1 := ftv_1 (a := a2_2) z; have z2 := c130; rw [z1] at z2; exact absurd z2 (by decide))), fun z => absurd z (ftF_m (by omega) (Or.inl (fun z => by have z1 := ftv_1 (a := a2_2) z; have z2 := c130; rw [z1] at z2; exact absurd z2 (by decide))))⟩))
            · refine xr_aload_n dX10_workOut_114 5 rfl ?_
              refine xb_get (v := nI (a2_2)) flX10_165 dX10_workOut_115 s_62 rfl ea126 ?_
              refine xr_aload_n dX10_workOut_118 5 rfl ?_
              refine xb_get (v := nI (E)) flX10_168 dX10_workOut_119 s_62 rfl (Eq.trans (k128 62 16 (by decide)) (Eq.trans (k16 62 16 (by decide)) (Eq.trans (k10 62 16 (by decide)) e_E))) ?_
              refine xr_icmp_ge (tgt := 130) dX10_workOut_122 rfl (fun c131 => ?_) (fun c131 => ?_)
              · have hge : ¬ a2_2 < E := fun q => absurd ((nI_ltI (a := a2_2) (b := E) (by omega) (by omega)).mpr q) (by have z := c131; grind)
                refine xr_iload dX10_workOut_130 3 rfl ?_
                exact xr_iret dX10_workOut_132 rfl rfl ((by obtain ⟨f2, g2, hf2⟩ := TGo_end hgo (lnB_1 hp5 (fun z => hy13 ⟨by rw [ftv_1 z.1]; decide, z.2⟩)) (fun z => hy125 ⟨by rw [ftv_1 z.1]; decide, z.2⟩); exact ⟨_, rfl, rfl, rfl, (Ke.tr (fun pp kk h => (Or.inr (Or.inl h))) (Ke.tr (fun pp kk h => (Or.inr (Or.inl h))) (Ke.tr (fun pp kk => (fun hh => Or.elim hh (fun h => (Or.inr (Or.inl h))) (fun hh => Or.elim hh (fun h => (Or.inr (Or.inr (Or.inr (Or.inl h))))) (fun h => (Or.inr (Or.inr (Or.inr (Or.inr h)))))))) hM k10) k16) k128), f2, g2, a2_2, ok3, _, hf2, (by omega), ((Eq.trans (k128 62 17 (by decide)) (Eq.trans (k16 62 17 (by decide)) ef7))).trans (ftF_e (ftv_ok (a := a2_2) (by omega) (by have z2 := c130; grind)) hge), fun z => VI_e (VI_a hvi c123)⟩))
              · have hlt : a2_2 < E := (nI_ltI (a := a2_2) (b := E) (by omega) (by omega)).mp (by have z := c131; grind)
                refine xr_aload_n dX10_workOut_125 5 rfl ?_
                refine xr_callV (As := []) (rest := []) mlX10_202 (gs_X10_wrong (Eq.trans (k128 62 17 (by decide)) (Eq.trans (k16 62 17 (by decide)) ef7)) (a := a2_2) (by omega) ea126) dX10_workOut_126 s_62 rfl rfl (Nat.le_of_ble_eq_true rfl) (by omega) ⟨by decide, by decide⟩ (fun v s2 M134 J2 hq => ?_)
                obtain ⟨r136, rfl, rfl, rfl, k135, ⟨hr133, hw132⟩⟩ := hq
                try dsimp only [Option.toList, List.cons_append, List.nil_append]
                subst hr133
                exact xr_iret dX10_workOut_129 rfl rfl ((by obtain ⟨f2, g2, hf2⟩ := TGo_end hgo (lnB_1 hp5 (fun z => hy13 ⟨by rw [ftv_1 z.1]; decide, z.2⟩)) (fun z => hy125 ⟨by rw [ftv_1 z.1]; decide, z.2⟩); exact ⟨_, rfl, rfl, rfl, (Ke.tr (fun pp kk h => (Or.inr (Or.inr (Or.inr (Or.inl h))))) (Ke.tr (fun pp kk h => (Or.inr (Or.inl h))) (Ke.tr (fun pp kk h => (Or.inr (Or.inl h))) (Ke.tr (fun pp kk => (fun hh => Or.elim hh (fun h => (Or.inr (Or.inl h))) (fun hh => Or.elim hh (fun h => (Or.inr (Or.inr (Or.inr (Or.inl h))))) (fun h => (Or.inr (Or.inr (Or.inr (Or.inr h)))))))) hM k10) k16) k128) k135), f2, g2, a2_2, ok3, _, hf2, (by omega), ((hw132).trans (ftv_w (by omega))).trans (ftF_l hlt), fun z => absurd z (ftF_m (by omega) (Or.inr hlt))⟩))
        · refine xr_iconst (v := 1) dX10_workOut_90 rfl ?_
          refine xr_istore_n (ls2 := [(3, .int (1)), (7, .int (1)), (6, .int (r11)), (5, .int (1)), (4, .int (vv)), (0, .ref (62))]) dX10_workOut_91 (by decide) rfl ?_
          refine xr_iload dX10_workOut_92 2 rfl ?_
          refine xr_istore (ls2 := [(4, .int (r11)), (3, .int (1)), (7, .int (1)), (6, .int (r11)), (5, .int (1)), (0, .ref (62))]) dX10_workOut_94 (by decide) rfl ?_
          refine xr_aload_n dX10_workOut_96 5 rfl ?_
          refine xr_bipush (v := 59) dX10_workOut_97 rfl ?_
          refine xr_callV (As := [.int (59)]) (rest := []) mlX10_184 (gs_X10_takes (si := 59) (by decide) (by decide) (T := T) (a := a2_2) (E := E) (hT.imp (fun z => ⟨z.1, ((Eq.trans (funext fun kk => k16 69 kk (by unfold WPA; omega)) (Eq.trans (funext fun kk => k10 69 kk (by unfold WPR; omega)) (Eq.trans (funext fun kk => hM 69 kk (by unfold WPW; omega)) rfl)))).trans z.2⟩) (fun z => ⟨z.1, ((Eq.trans (funext fun kk => k16 70 kk (by unfold WPA; omega)) (Eq.trans (funext fun kk => k10 70 kk (by unfold WPR; omega)) (Eq.trans (funext fun kk => hM 70 kk (by unfold WPW; omega)) rfl)))).trans z.2⟩)) (Eq.trans (k16 62 14 (by decide)) (Eq.trans (k10 62 14 (by decide)) e_bs)) (by omega) (by omega) ea14 (Eq.trans (k16 62 16 (by decide)) (Eq.trans (k10 62 16 (by decide)) e_E)) (Eq.trans (k16 62 17 (by decide)) ef7)) dX10_workOut_99 s_62 rfl rfl (Nat.le_of_ble_eq_true rfl) (by omega) ⟨by decide, by decide⟩ (fun v s2 M140 J2 hq => ?_)
          obtain ⟨r142, rfl, rfl, rfl, k141, hx137⟩ := hq
          try dsimp only [Option.toList, List.cons_append, List.nil_append]
          rcases hx137 with ⟨rfl, hy138, ea139⟩ | ⟨rfl, hy138, ea139⟩
          · skip
            refine xr_istore (ls2 := [(5, .int (1)), (4, .int (r11)), (3, .int (1)), (7, .int (1)), (6, .int (r11)), (0, .ref (62))]) dX10_workOut_102 (by decide) rfl ?_
            refine xr_goto (tgt := 33) dX10_workOut_104 rfl ?_
            have hok : ok3 = true := (ftv_ok (a := a2_2) (by omega) hy138.1)
            have hl : a2_2 < E := nb_lt (T := T) (fun z => absurd (hy138.2.symm.trans z) (by decide))
            refine xb_ls (ls2 := [(5, .int (1)), (4, .int (r11)), (3, .int (1)), (0, .ref (62))]) [0, 1, 2, 5] rfl ?_
            exact ih (a2_2 + 1) (l1 ++ [(cd4, none)]) r11 1 M140 (by omega) (by omega) (Ke.tr (fun pp kk h => (Or.inr (Or.inl h))) (Ke.tr (fun pp kk h => (Or.inr (Or.inl h))) (Ke.tr (fun pp kk => (fun hh => Or.elim hh (fun h => (Or.inr (Or.inl h))) (fun hh => Or.elim hh (fun h => (Or.inr (Or.inr (Or.inr (Or.inl h))))) (fun h => (Or.inr (Or.inr (Or.inr (Or.inr h)))))))) hM k10) k16) k141) ea139 (((Eq.trans (k141 62 18 (by decide)) (Eq.trans (k16 62 18 (by decide)) rfl))).trans (eo8 hok).1) (Eq.trans (k141 62 14 (by decide)) (Eq.trans (k16 62 14 (by decide)) (Eq.trans (k10 62 14 (by decide)) e_bs))) (Eq.trans (k141 62 16 (by decide)) (Eq.trans (k16 62 16 (by decide)) (Eq.trans (k10 62 16 (by decide)) e_E))) (((Eq.trans (k141 62 17 (by decide)) (Eq.trans (k16 62 17 (by decide)) ef7))).trans (ftv_1 hok)) (TGo_s hgo (lnB_1 hp5 (fun z => hy13 ⟨by rw [ftv_1 z.1]; decide, z.2⟩)) ⟨hok, hy138.2⟩) (by rw [(eo8 hok).2]; exact VI_b hvi c123)
          · skip
            refine xr_istore (ls2 := [(5, .int (0)), (4, .int (r11)), (3, .int (1)), (7, .int (1)), (6, .int (r11)), (0, .ref (62))]) dX10_workOut_102 (by decide) rfl ?_
            refine xr_goto (tgt := 33) dX10_workOut_104 rfl ?_
            refine xr_iload dX10_workOut_33 0 rfl ?_
            refine xr_if_eq (tgt := 107) dX10_workOut_35 rfl (fun _ => ?_) (fun c => absurd (by decide) c)
            refine xr_aload_n dX10_workOut_107 5 rfl ?_
            refine xb_get (v := (ftv ok3 a2_2)) flX10_174 dX10_workOut_108 s_62 rfl (Eq.trans (k141 62 17 (by decide)) (Eq.trans (k16 62 17 (by decide)) ef7)) ?_
            refine xr_if_ge (tgt := 130) dX10_workOut_111 rfl (fun c143 => ?_) (fun c143 => ?_)
            · refine xr_iload dX10_workOut_130 1 rfl ?_
              exact xr_iret dX10_workOut_132 rfl rfl ((by obtain ⟨f2, g2, hf2⟩ := TGo_end hgo (lnB_1 hp5 (fun z => hy13 ⟨by rw [ftv_1 z.1]; decide, z.2⟩)) (fun z => hy138 ⟨by rw [ftv_1 z.1]; decide, z.2⟩); exact ⟨_, rfl, rfl, rfl, (Ke.tr (fun pp kk h => (Or.inr (Or.inl h))) (Ke.tr (fun pp kk h => (Or.inr (Or.inl h))) (Ke.tr (fun pp kk => (fun hh => Or.elim hh (fun h => (Or.inr (Or.inl h))) (fun hh => Or.elim hh (fun h => (Or.inr (Or.inr (Or.inr (Or.inl h))))) (fun h => (Or.inr (Or.inr (Or.inr (Or.inr h)))))))) hM k10) k16) k141), f2, g2, a2_2, ok3, _, hf2, (by omega), ((Eq.trans (k141 62 17 (by decide)) (Eq.trans (k16 62 17 (by decide)) ef7))).trans (ftF_n (fun z => by have z1 := ftv_1 (a := a2_2) z; have z2 := c143; rw [z1] at z2; exact absurd z2 (by decide))), fun z => absurd z (ftF_m (by omega) (Or.inl (fun z => by have z1 := ftv_1 (a := a2_2) z; have z2 := c143; rw [z1] at z2; exact absurd z2 (by decide))))⟩))
            · refine xr_aload_n dX10_workOut_114 5 rfl ?_
              refine xb_get (v := nI (a2_2)) flX10_165 dX10_workOut_115 s_62 rfl ea139 ?_
              refine xr_aload_n dX10_workOut_118 5 rfl ?_
              refine xb_get (v := nI (E)) flX10_168 dX10_workOut_119 s_62 rfl (Eq.trans (k141 62 16 (by decide)) (Eq.trans (k16 62 16 (by decide)) (Eq.trans (k10 62 16 (by decide)) e_E))) ?_
              refine xr_icmp_ge (tgt := 130) dX10_workOut_122 rfl (fun c144 => ?_) (fun c144 => ?_)
              · have hge : ¬ a2_2 < E := fun q => absurd ((nI_ltI (a := a2_2) (b := E) (by omega) (by omega)).mpr q) (by have z := c144; grind)
                refine xr_iload dX10_workOut_130 1 rfl ?_
                exact xr_iret dX10_workOut_132 rfl rfl ((by obtain ⟨f2, g2, hf2⟩ := TGo_end hgo (lnB_1 hp5 (fun z => hy13 ⟨by rw [ftv_1 z.1]; decide, z.2⟩)) (fun z => hy138 ⟨by rw [ftv_1 z.1]; decide, z.2⟩); exact ⟨_, rfl, rfl, rfl, (Ke.tr (fun pp kk h => (Or.inr (Or.inl h))) (Ke.tr (fun pp kk h => (Or.inr (Or.inl h))) (Ke.tr (fun pp kk => (fun hh => Or.elim hh (fun h => (Or.inr (Or.inl h))) (fun hh => Or.elim hh (fun h => (Or.inr (Or.inr (Or.inr (Or.inl h))))) (fun h => (Or.inr (Or.inr (Or.inr (Or.inr h)))))))) hM k10) k16) k141), f2, g2, a2_2, ok3, _, hf2, (by omega), ((Eq.trans (k141 62 17 (by decide)) (Eq.trans (k16 62 17 (by decide)) ef7))).trans (ftF_e (ftv_ok (a := a2_2) (by omega) (by have z2 := c143; grind)) hge), fun z => VI_e (by rw [(eo8 (ftv_ok (a := a2_2) (by omega) (by have z2 := c143; grind))).2]; exact VI_b hvi c123)⟩))
              · have hlt : a2_2 < E := (nI_ltI (a := a2_2) (b := E) (by omega) (by omega)).mp (by have z := c144; grind)
                refine xr_aload_n dX10_workOut_125 5 rfl ?_
                refine xr_callV (As := []) (rest := []) mlX10_202 (gs_X10_wrong (Eq.trans (k141 62 17 (by decide)) (Eq.trans (k16 62 17 (by decide)) ef7)) (a := a2_2) (by omega) ea139) dX10_workOut_126 s_62 rfl rfl (Nat.le_of_ble_eq_true rfl) (by omega) ⟨by decide, by decide⟩ (fun v s2 M147 J2 hq => ?_)
                obtain ⟨r149, rfl, rfl, rfl, k148, ⟨hr146, hw145⟩⟩ := hq
                try dsimp only [Option.toList, List.cons_append, List.nil_append]
                subst hr146
                exact xr_iret dX10_workOut_129 rfl rfl ((by obtain ⟨f2, g2, hf2⟩ := TGo_end hgo (lnB_1 hp5 (fun z => hy13 ⟨by rw [ftv_1 z.1]; decide, z.2⟩)) (fun z => hy138 ⟨by rw [ftv_1 z.1]; decide, z.2⟩); exact ⟨_, rfl, rfl, rfl, (Ke.tr (fun pp kk h => (Or.inr (Or.inr (Or.inr (Or.inl h))))) (Ke.tr (fun pp kk h => (Or.inr (Or.inl h))) (Ke.tr (fun pp kk h => (Or.inr (Or.inl h))) (Ke.tr (fun pp kk => (fun hh => Or.elim hh (fun h => (Or.inr (Or.inl h))) (fun hh => Or.elim hh (fun h => (Or.inr (Or.inr (Or.inr (Or.inl h))))) (fun h => (Or.inr (Or.inr (Or.inr (Or.inr h)))))))) hM k10) k16) k141) k148), f2, g2, a2_2, ok3, _, hf2, (by omega), ((hw145).trans (ftv_w (by omega))).trans (ftF_l hlt), fun z => absurd z (ftF_m (by omega) (Or.inr hlt))⟩))
set_option maxRecDepth 100000 in
set_option maxHeartbeats 4000000 in
theorem gs_X10_workOut {bs : Int32} {E : Nat} (h_E : E ≤ 120) {T N : Nat → Int32} {l : Launch} {G : xG} {M : xM} {J : xJ} (hT : bs = -1 ∧ M 69 = T ∨ bs = 0 ∧ M 70 = T) (hNm : M 71 = N) : x_M l G fX10_workOut 58 0 0 [.ref (62), .int (bs), .int (nI (E))] x_SH M J (qKI WPW M J (fun r M2 => TXv M2 T N E r)) := by
  refine xb_of pX10 (Nat.le_of_ble_eq_true rfl) rfl ?_
  refine xr_aload_n dX10_workOut_0 0 rfl ?_
  refine xr_iload_n dX10_workOut_1 1 rfl ?_
  refine xr_putI fpX10_171 dX10_workOut_2 s_62 rfl rfl rfl ?_
  refine xr_aload_n dX10_workOut_5 0 rfl ?_
  refine xr_iconst (v := 0) dX10_workOut_6 rfl ?_
  refine xr_putI fpX10_165 dX10_workOut_7 s_62 rfl rfl rfl ?_
  refine xr_aload_n dX10_workOut_10 0 rfl ?_
  refine xr_iload_n dX10_workOut_11 2 rfl ?_
  refine xr_putI fpX10_168 dX10_workOut_12 s_62 rfl rfl rfl ?_
  refine xr_aload_n dX10_workOut_15 0 rfl ?_
  refine xr_iconst (v := -1) dX10_workOut_16 rfl ?_
  refine xr_putI fpX10_174 dX10_workOut_17 s_62 rfl rfl rfl ?_
  refine xr_aload_n dX10_workOut_20 0 rfl ?_
  refine xr_iconst (v := 0) dX10_workOut_21 rfl ?_
  refine xr_putI fpX10_199 dX10_workOut_22 s_62 rfl rfl rfl ?_
  refine xr_iconst (v := 0) dX10_workOut_25 rfl ?_
  refine xr_istore_n (ls2 := [(3, .int (0)), (0, .ref (62)), (1, .int (bs)), (2, .int (nI (E)))]) dX10_workOut_26 (by decide) rfl ?_
  refine xr_iconst (v := 0) dX10_workOut_27 rfl ?_
  refine xr_istore (ls2 := [(4, .int (0)), (3, .int (0)), (0, .ref (62)), (1, .int (bs)), (2, .int (nI (E)))]) dX10_workOut_28 (by decide) rfl ?_
  refine xr_iconst (v := 1) dX10_workOut_30 rfl ?_
  refine xr_istore (ls2 := [(5, .int (1)), (4, .int (0)), (3, .int (0)), (0, .ref (62)), (1, .int (bs)), (2, .int (nI (E)))]) dX10_workOut_31 (by decide) rfl ?_
  refine xb_ls (ls2 := [(5, .int (1)), (4, .int (0)), (3, .int (0)), (0, .ref (62))]) [0, 1, 2, 3] rfl ?_
  exact wo_s (T := T) (N := N) hT hNm h_E E 0 [] 0 0 (x_up (x_up (x_up (x_up (x_up M 62 14 bs) 62 15 0) 62 16 (nI (E))) 62 17 (-1)) 62 18 0) (by omega) (by omega) (Ke.up (Or.inr (Or.inr (Or.inr (Or.inr (by omega))))) (Ke.up (Or.inr (Or.inr (Or.inr (Or.inl (by omega))))) (Ke.up (Or.inr (Or.inr (Or.inl (by omega)))) (Ke.up (Or.inr (Or.inl (by omega))) (Ke.up (Or.inl (by omega)) Ke.rf))))) (Eq.trans (x_up_k _ _ _ (by decide)) (Eq.trans (x_up_k _ _ _ (by decide)) (Eq.trans (x_up_k _ _ _ (by decide)) (x_up_s _ _ _ _)))) (x_up_s _ _ _ _) (Eq.trans (x_up_k _ _ _ (by decide)) (Eq.trans (x_up_k _ _ _ (by decide)) (Eq.trans (x_up_k _ _ _ (by decide)) (Eq.trans (x_up_k _ _ _ (by decide)) (x_up_s _ _ _ _))))) (Eq.trans (x_up_k _ _ _ (by decide)) (Eq.trans (x_up_k _ _ _ (by decide)) (x_up_s _ _ _ _))) (Eq.trans (x_up_k _ _ _ (by decide)) (x_up_s _ _ _ _)) TGo_0 VI_0
