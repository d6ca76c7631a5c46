def EBody (cc : Prop) (c c2 : Int32) (f f2 : Nat → Int32) (k r : Int32) : Prop := ¬ cc ∧ r = -1 ∧ c2 = c ∧ f2 = f ∨ ∃ b : Nat, b ≤ 50 ∧ c = nI b ∧ cc ∧ (b = 50 ∧ r = -3 ∧ c2 = c ∧ f2 = f ∨ b < 50 ∧ r = nI b ∧ c2 = nI (b + 1) ∧ f2 b = k ∧ ∀ j, j ≠ b → f2 j = f j)
def EKeep9 (M M2 : xM) (d w r : Int32) : Prop := ((¬ (0 ≤ d ∧ d < 6) ∨ (0 ≤ d ∧ d < 6) ∧ ¬ w = -1 ∧ ¬ (0 ≤ w ∧ w < M 46 2)) ∧ r = -1 ∧ M2 = M) ∨ ∃ q : Nat, q < 6 ∧ d = nI q ∧ r = 1 ∧ (w = -1 ∧ M2 = x_up (x_up M (50 + 2 * q) 0 0) (50 + 2 * q) 3 0 ∨ ¬ w = -1 ∧ (0 ≤ w ∧ w < M 46 2) ∧ M2 = x_up (x_up (x_up M (50 + 2 * q) 0 1) (50 + 2 * q) 1 w) (50 + 2 * q) 3 0)
def EKeep10 (M M2 : xM) (d w r : Int32) : Prop := ((¬ (0 ≤ d ∧ d ≤ 5) ∨ (0 ≤ d ∧ d ≤ 5) ∧ ¬ w = -1 ∧ ¬ (0 ≤ w ∧ w < M 62 36)) ∧ r = -1 ∧ M2 = M) ∨ ∃ q : Nat, q < 6 ∧ d = nI q ∧ r = 1 ∧ (w = -1 ∨ ¬ w = -1 ∧ (0 ≤ w ∧ w < M 62 36)) ∧ M2 = x_up (x_up M 83 q w) 84 q 0
def ERow9 (M M2 : xM) (J J2 : xJ) (d s n r : Int32) : Prop := r = RW d s n ∧ (¬ r = 1 ∧ M2 = M ∧ J2 = J ∨ r = 1 ∧ ∃ q : Nat, q < 6 ∧ d = nI q ∧ M2 = x_up (x_up (x_up M (50 + 2 * q) 0 2) (50 + 2 * q) 2 s) (50 + 2 * q) 3 n ∧ (∀ p, p ≠ 51 + 2 * q → J2 p = J p) ∧ ∀ j, j < 60 → J2 (51 + 2 * q) j = 0)
def ERow10 (M M2 : xM) (J J2 : xJ) (d s n r : Int32) : Prop := r = RW d s n ∧ (¬ r = 1 ∧ M2 = M ∧ J2 = J ∨ r = 1 ∧ ∃ q : Nat, q < 6 ∧ d = nI q ∧ M2 = x_up (x_up M 83 q (50 + s)) 84 q n ∧ ∀ j, J2 85 j = if 60 * q ≤ j ∧ j < 60 * q + 60 then 0 else J 85 j)
theorem nI_a50 (s : Nat) : (50 : Int32) + nI s = nI (50 + s) := nI_add 50 s
/-- what an element keeps of a long -/
def asS (s : Int32) (v : Int64) : Int64 := if s = 0 then v.toInt32.toInt8.toInt32.toInt64 else if s = 1 then v.toInt32.toInt16.toInt32.toInt64 else if s = 2 then v.toInt32.toInt64 else if s = 4 then (if v = 0 then 0 else 1) else v
/-- why an element can't be had, by the class's cells -/
def pRef (M : xM) (q : Nat) (i : Int32) : Int32 := if M (50 + 2 * q) 0 = 0 then -11 else if M (50 + 2 * q) 0 = 2 then (if 0 ≤ i ∧ i < M (50 + 2 * q) 3 then 0 else -13) else -12
/-- the same by the reference's -/
def rRef (M : xM) (q : Nat) (i : Int32) : Int32 := if M 83 q < 0 then -11 else if M 83 q < 50 then -12 else if 0 ≤ i ∧ i < M 84 q then 0 else -13
def qLayS (M : xM) (J : xJ) (el j : Nat) (w : Int64) : xQ := fun v s M2 J2 => v = none ∧ s = x_SH ∧ M = M2 ∧ J2 = x_upJ J el j w
set_option maxRecDepth 100000 in
set_option maxHeartbeats 4000000 in
theorem gs_X6_lay (v : Int64) {j : Nat} (hj : j < 60) {sq el : Nat} (hs : x_SH[sq]? = some (.inl (6, [none, none, none, none, some (some el)]))) (hel : x_SH[el]? = some (.inr (2, 60, fun _ => none))) {l : Launch} {G : xG} {M : xM} {J : xJ} : x_M l G fX6_lay 0 0 0 [.ref (sq), .int (nI (j)), .long (v)] x_SH M J (qLayS M J el j (asS (M sq 2) v)) := by
  refine xb_of pX6 (Nat.le_of_ble_eq_true rfl) rfl ?_
  refine xr_aload_n dX6_lay_0 0 rfl ?_
  refine xb_get (v := M sq 2) flX6_23 dX6_lay_1 hs rfl rfl ?_
  refine xg_eq 0 (fun w1 => ?_) (fun w1 => ?_)
  · refine xr_tableIn (tgt := 40) dX6_lay_4 (by decide) (by decide) rfl rfl ?_
    refine xr_aload_n dX6_lay_40 0 rfl ?_
    refine xr_getR flX6_9 dX6_lay_41 hs rfl ?_
    refine xr_iload_n dX6_lay_44 1 rfl ?_
    refine xr_lload_n dX6_lay_45 2 rfl ?_
    refine xr_l2i dX6_lay_46 ?_
    refine xr_i2b dX6_lay_47 ?_
    refine xr_i2l dX6_lay_48 ?_
    refine xb_last (j := j) dX6_lay_49 hel hj (by decide) ?_
    refine xr_goto (tgt := 105) dX6_lay_50 rfl ?_
    exact xr_vret dX6_lay_105 rfl (⟨rfl, rfl, rfl, by congr 1; unfold asS; grind⟩)
  refine xg_eq 1 (fun w2 => ?_) (fun w2 => ?_)
  · refine xr_tableIn (tgt := 53) dX6_lay_4 (by decide) (by decide) rfl rfl ?_
    refine xr_aload_n dX6_lay_53 0 rfl ?_
    refine xr_getR flX6_9 dX6_lay_54 hs rfl ?_
    refine xr_iload_n dX6_lay_57 1 rfl ?_
    refine xr_lload_n dX6_lay_58 2 rfl ?_
    refine xr_l2i dX6_lay_59 ?_
    refine xr_i2s dX6_lay_60 ?_
    refine xr_i2l dX6_lay_61 ?_
    refine xb_last (j := j) dX6_lay_62 hel hj (by decide) ?_
    refine xr_goto (tgt := 105) dX6_lay_63 rfl ?_
    exact xr_vret dX6_lay_105 rfl (⟨rfl, rfl, rfl, by congr 1; unfold asS; grind⟩)
  refine xg_eq 2 (fun w3 => ?_) (fun w3 => ?_)
  · refine xr_tableIn (tgt := 66) dX6_lay_4 (by decide) (by decide) rfl rfl ?_
    refine xr_aload_n dX6_lay_66 0 rfl ?_
    refine xr_getR flX6_9 dX6_lay_67 hs rfl ?_
    refine xr_iload_n dX6_lay_70 1 rfl ?_
    refine xr_lload_n dX6_lay_71 2 rfl ?_
    refine xr_l2i dX6_lay_72 ?_
    refine xr_i2l dX6_lay_73 ?_
    refine xb_last (j := j) dX6_lay_74 hel hj (by decide) ?_
    refine xr_goto (tgt := 105) dX6_lay_75 rfl ?_
    exact xr_vret dX6_lay_105 rfl (⟨rfl, rfl, rfl, by congr 1; unfold asS; grind⟩)
  refine xg_eq 3 (fun w4 => ?_) (fun w4 => ?_)
  · refine xr_tableIn (tgt := 98) dX6_lay_4 (by decide) (by decide) rfl rfl ?_
    refine xr_aload_n dX6_lay_98 0 rfl ?_
    refine xr_getR flX6_9 dX6_lay_99 hs rfl ?_
    refine xr_iload_n dX6_lay_102 1 rfl ?_
    refine xr_lload_n dX6_lay_103 2 rfl ?_
    refine xb_last (j := j) dX6_lay_104 hel hj (by decide) ?_
    exact xr_vret dX6_lay_105 rfl (⟨rfl, rfl, rfl, by congr 1; unfold asS; grind⟩)
  refine xg_eq 4 (fun w5 => ?_) (fun w5 => ?_)
  · refine xr_tableIn (tgt := 78) dX6_lay_4 (by decide) (by decide) rfl rfl ?_
    refine xr_aload_n dX6_lay_78 0 rfl ?_
    refine xr_getR flX6_9 dX6_lay_79 hs rfl ?_
    refine xr_iload_n dX6_lay_82 1 rfl ?_
    refine xr_lload_n dX6_lay_83 2 rfl ?_
    refine xr_lconst (v := 0) dX6_lay_84 rfl ?_
    refine xr_lcmp dX6_lay_85 ?_
    refine xl_eq (tgt := 93) dX6_lay_86 rfl (fun c6 => ?_) (fun c6 => ?_)
    · refine xr_lconst (v := 0) dX6_lay_93 rfl ?_
      refine xb_last (j := j) dX6_lay_94 hel hj (by decide) ?_
      refine xr_goto (tgt := 105) dX6_lay_95 rfl ?_
      exact xr_vret dX6_lay_105 rfl (⟨rfl, rfl, rfl, by congr 1; unfold asS; grind⟩)
    · refine xr_lconst (v := 1) dX6_lay_89 rfl ?_
      refine xr_goto (tgt := 94) dX6_lay_90 rfl ?_
      refine xb_last (j := j) dX6_lay_94 hel hj (by decide) ?_
      refine xr_goto (tgt := 105) dX6_lay_95 rfl ?_
      exact xr_vret dX6_lay_105 rfl (⟨rfl, rfl, rfl, by congr 1; unfold asS; grind⟩)
  refine xr_tableOut (tgt := 98) dX6_lay_4 (xg_out (lo := 0) (hi := 4) (by decide) (fun j h1 h2 qq => by have h3 : j = 0 ∨ j = 1 ∨ j = 2 ∨ j = 3 ∨ j = 4 := (by omega); rcases h3 with rfl | rfl | rfl | rfl | rfl <;> first | exact absurd qq w1 | exact absurd qq w2 | exact absurd qq w3 | exact absurd qq w4 | exact absurd qq w5)) rfl ?_
  refine xr_aload_n dX6_lay_98 0 rfl ?_
  refine xr_getR flX6_9 dX6_lay_99 hs rfl ?_
  refine xr_iload_n dX6_lay_102 1 rfl ?_
  refine xr_lload_n dX6_lay_103 2 rfl ?_
  refine xb_last (j := j) dX6_lay_104 hel hj (by decide) ?_
  exact xr_vret dX6_lay_105 rfl (⟨rfl, rfl, rfl, by congr 1; unfold asS; grind⟩)
def EPut9 (M M2 : xM) (J J2 : xJ) (d i : Int32) (v : Int64) (r : Int32) : Prop := M2 = M ∧ (¬ (0 ≤ d ∧ d < 6) ∧ r = -1 ∧ J2 = J ∨ ∃ q : Nat, q < 6 ∧ d = nI q ∧ (¬ pRef M q i = 0 ∧ r = pRef M q i ∧ J2 = J ∨ pRef M q i = 0 ∧ r = 1 ∧ ∃ j : Nat, j < 60 ∧ i = nI j ∧ J2 = x_upJ J (51 + 2 * q) j (asS (M (50 + 2 * q) 2) v)))
def EPut10 (M M2 : xM) (J J2 : xJ) (d i : Int32) (v : Int64) (r : Int32) : Prop := M2 = M ∧ (¬ (0 ≤ d ∧ d ≤ 5) ∧ r = -1 ∧ J2 = J ∨ ∃ q : Nat, q < 6 ∧ d = nI q ∧ (¬ rRef M q i = 0 ∧ r = rRef M q i ∧ J2 = J ∨ rRef M q i = 0 ∧ r = 1 ∧ ∃ j : Nat, j < 60 ∧ i = nI j ∧ J2 = x_upJ J 85 (60 * q + j) (asS (M 83 q - 50) v)))
def ERef (M : xM) (d i r : Int32) : Prop := ¬ (0 ≤ d ∧ d ≤ 5) ∧ r = -1 ∨ ∃ q : Nat, q < 6 ∧ d = nI q ∧ r = rRef M q i ∧ (r = 0 → ∃ j : Nat, j < 60 ∧ i = nI j)
set_option maxRecDepth 100000 in
set_option maxHeartbeats 4000000 in
theorem gs_X10_refusal (d i : Int32) {l : Launch} {G : xG} {M : xM} {J : xJ} (hsl : SHR M) : x_M l G fX10_refusal 2 0 0 [.ref (62), .int (d), .int (i)] x_SH M J (qPI M J (fun r => ERef M d i r)) := by
  refine xb_of pX10 (Nat.le_of_ble_eq_true rfl) rfl ?_
  refine xr_iload_n dX10_refusal_0 1 rfl ?_
  refine xb_cS (As := [.int (d)]) (rest := []) mlX10_125 (c_X10_isShelf d) dX10_refusal_1 rfl rfl (Nat.le_of_ble_eq_true rfl) (by decide) (by decide) ?_
  refine xb_bne (tgt := 9) dX10_refusal_4 rfl (fun c1 => ?_) (fun c1 => ?_)
  · obtain ⟨d_, hd_, rfl⟩ := x_natle (N := 5) (by decide) rfl c1
    replace hd_ := Nat.lt_succ_of_le hd_
    obtain ⟨hd83, nm, hnm, e_nm⟩ := hsl d_ hd_
    refine xr_aload_n dX10_refusal_9 0 rfl ?_
    refine xr_getR flX10_75 dX10_refusal_10 s_62 rfl ?_
    refine xr_iload_n dX10_refusal_13 1 rfl ?_
    refine xb_iald (j := d_) (v := M 83 d_) dX10_refusal_14 s_83 hd_ (by decide) rfl ?_
    refine xr_if_ge (tgt := 21) dX10_refusal_15 rfl (fun c2 => ?_) (fun c2 => ?_)
    · refine xr_aload_n dX10_refusal_21 0 rfl ?_
      refine xr_getR flX10_75 dX10_refusal_22 s_62 rfl ?_
      refine xr_iload_n dX10_refusal_25 1 rfl ?_
      refine xb_iald (j := d_) (v := M 83 d_) dX10_refusal_26 s_83 hd_ (by decide) rfl ?_
      refine xr_bipush (v := 50) dX10_refusal_27 rfl ?_
      refine xr_icmp_ge (tgt := 35) dX10_refusal_29 rfl (fun c3 => ?_) (fun c3 => ?_)
      · refine xr_iload_n dX10_refusal_35 2 rfl ?_
        refine xr_if_lt (tgt := 53) dX10_refusal_36 rfl (fun c4 => ?_) (fun c4 => ?_)
        · refine xr_bipush (v := -13) dX10_refusal_53 rfl ?_
          exact xr_iret dX10_refusal_55 rfl rfl (⟨_, rfl, rfl, rfl, rfl, (Or.inr ⟨d_, hd_, rfl, by unfold rRef; grind, fun q => absurd q (by decide)⟩)⟩)
        · refine xr_iload_n dX10_refusal_39 2 rfl ?_
          refine xr_aload_n dX10_refusal_40 0 rfl ?_
          refine xr_getR flX10_78 dX10_refusal_41 s_62 rfl ?_
          refine xr_iload_n dX10_refusal_44 1 rfl ?_
          refine xb_iald (j := d_) (v := nI (nm)) dX10_refusal_45 s_84 hd_ (by decide) e_nm ?_
          refine xr_icmp_ge (tgt := 53) dX10_refusal_46 rfl (fun c5 => ?_) (fun c5 => ?_)
          · refine xr_bipush (v := -13) dX10_refusal_53 rfl ?_
            exact xr_iret dX10_refusal_55 rfl rfl (⟨_, rfl, rfl, rfl, rfl, (Or.inr ⟨d_, hd_, rfl, by unfold rRef; grind, fun q => absurd q (by decide)⟩)⟩)
          · obtain ⟨i_, hi9, rfl⟩ := x_nat (v := i) (N := nm) (by omega) rfl ⟨by grind, by grind⟩
            refine xr_iconst (v := 0) dX10_refusal_49 rfl ?_
            refine xr_goto (tgt := 55) dX10_refusal_50 rfl ?_
            exact xr_iret dX10_refusal_55 rfl rfl (⟨_, rfl, rfl, rfl, rfl, (Or.inr ⟨d_, hd_, rfl, by unfold rRef; grind, fun _ => ⟨i_, by omega, rfl⟩⟩)⟩)
      · refine xr_bipush (v := -12) dX10_refusal_32 rfl ?_
        exact xr_iret dX10_refusal_34 rfl rfl (⟨_, rfl, rfl, rfl, rfl, (Or.inr ⟨d_, hd_, rfl, by unfold rRef; grind, fun q => absurd q (by decide)⟩)⟩)
    · refine xr_bipush (v := -11) dX10_refusal_18 rfl ?_
      exact xr_iret dX10_refusal_20 rfl rfl (⟨_, rfl, rfl, rfl, rfl, (Or.inr ⟨d_, hd_, rfl, by unfold rRef; grind, fun q => absurd q (by decide)⟩)⟩)
  · refine xr_iconst (v := -1) dX10_refusal_7 rfl ?_
    exact xr_iret dX10_refusal_8 rfl rfl (⟨_, rfl, rfl, rfl, rfl, (Or.inl ⟨c1, rfl⟩)⟩)
set_option maxRecDepth 100000 in
set_option maxHeartbeats 4000000 in
theorem gs_X10_asSort (so : Int32) (v : Int64) {l : Launch} {G : xG} {M : xM} {J : xJ} : x_M l G fX10_asSort 0 0 0 [.int (so), .long (v)] x_SH M J (qPL M J (fun r => r = asS so v)) := by
  refine xb_of pX10 (Nat.le_of_ble_eq_true rfl) rfl ?_
  refine xr_iload_n dX10_asSort_0 0 rfl ?_
  refine xr_if_ne (tgt := 11) dX10_asSort_1 rfl (fun c1 => ?_) (fun c1 => ?_)
  · refine xr_iload_n dX10_asSort_11 0 rfl ?_
    refine xr_iconst (v := 1) dX10_asSort_12 rfl ?_
    refine xr_icmp_ne (tgt := 23) dX10_asSort_13 rfl (fun c2 => ?_) (fun c2 => ?_)
    · refine xr_iload_n dX10_asSort_23 0 rfl ?_
      refine xr_iconst (v := 2) dX10_asSort_24 rfl ?_
      refine xr_icmp_ne (tgt := 34) dX10_asSort_25 rfl (fun c3 => ?_) (fun c3 => ?_)
      · refine xr_iload_n dX10_asSort_34 0 rfl ?_
        refine xr_iconst (v := 4) dX10_asSort_35 rfl ?_
        refine xr_icmp_ne (tgt := 53) dX10_asSort_36 rfl (fun c4 => ?_) (fun c4 => ?_)
        · refine xr_lload_n dX10_asSort_53 1 rfl ?_
          exact xr_lret dX10_asSort_54 rfl (⟨_, rfl, rfl, rfl, rfl, (by unfold asS; grind)⟩)
        · refine xr_lload_n dX10_asSort_39 1 rfl ?_
          refine xr_lconst (v := 0) dX10_asSort_40 rfl ?_
          refine xr_lcmp dX10_asSort_41 ?_
          refine xl_eq (tgt := 49) dX10_asSort_42 rfl (fun c5 => ?_) (fun c5 => ?_)
          · refine xr_lconst (v := 0) dX10_asSort_49 rfl ?_
            refine xr_goto (tgt := 54) dX10_asSort_50 rfl ?_
            exact xr_lret dX10_asSort_54 rfl (⟨_, rfl, rfl, rfl, rfl, (by unfold asS; grind)⟩)
          · refine xr_lconst (v := 1) dX10_asSort_45 rfl ?_
            refine xr_goto (tgt := 54) dX10_asSort_46 rfl ?_
            exact xr_lret dX10_asSort_54 rfl (⟨_, rfl, rfl, rfl, rfl, (by unfold asS; grind)⟩)
      · refine xr_lload_n dX10_asSort_28 1 rfl ?_
        refine xr_l2i dX10_asSort_29 ?_
        refine xr_i2l dX10_asSort_30 ?_
        refine xr_goto (tgt := 54) dX10_asSort_31 rfl ?_
        exact xr_lret dX10_asSort_54 rfl (⟨_, rfl, rfl, rfl, rfl, (by unfold asS; grind)⟩)
    · refine xr_lload_n dX10_asSort_16 1 rfl ?_
      refine xr_l2i dX10_asSort_17 ?_
      refine xr_i2s dX10_asSort_18 ?_
      refine xr_i2l dX10_asSort_19 ?_
      refine xr_goto (tgt := 54) dX10_asSort_20 rfl ?_
      exact xr_lret dX10_asSort_54 rfl (⟨_, rfl, rfl, rfl, rfl, (by unfold asS; grind)⟩)
  · refine xr_lload_n dX10_asSort_4 1 rfl ?_
    refine xr_l2i dX10_asSort_5 ?_
    refine xr_i2b dX10_asSort_6 ?_
    refine xr_i2l dX10_asSort_7 ?_
    refine xr_goto (tgt := 54) dX10_asSort_8 rfl ?_
    exact xr_lret dX10_asSort_54 rfl (⟨_, rfl, rfl, rfl, rfl, (by unfold asS; grind)⟩)
theorem ref_ok {M : xM} {d i r : Int32} (h : ERef M d i r) (h0 : r = 0) : ∃ q j : Nat, q < 6 ∧ j < 60 ∧ d = nI q ∧ i = nI j ∧ rRef M q i = 0 := by
  rcases h with ⟨-, h2⟩ | ⟨q, hq, hd, hr, hj⟩
  · rw [h0] at h2; exact absurd h2 (by decide)
  · obtain ⟨j, hj1, hj2⟩ := hj h0
    exact ⟨q, j, hq, hj1, hd, hj2, hr.symm.trans h0⟩
theorem ref_no {M : xM} {d i r : Int32} (h : ERef M d i r) (h0 : ¬ r = 0) : ¬ (0 ≤ d ∧ d ≤ 5) ∧ r = -1 ∨ ∃ q : Nat, q < 6 ∧ d = nI q ∧ ¬ rRef M q i = 0 ∧ r = rRef M q i := by
  rcases h with h2 | ⟨q, hq, hd, hr, -⟩
  · exact Or.inl h2
  · exact Or.inr ⟨q, hq, hd, fun z => h0 (hr.trans z), hr⟩
theorem put_no {M : xM} {J : xJ} {d i r : Int32} {v : Int64} (h : ¬ (0 ≤ d ∧ d ≤ 5) ∧ r = -1 ∨ ∃ q : Nat, q < 6 ∧ d = nI q ∧ ¬ rRef M q i = 0 ∧ r = rRef M q i) : ¬ (0 ≤ d ∧ d ≤ 5) ∧ r = -1 ∧ J = J ∨ ∃ q : Nat, q < 6 ∧ d = nI q ∧ (¬ rRef M q i = 0 ∧ r = rRef M q i ∧ J = J ∨ rRef M q i = 0 ∧ r = 1 ∧ ∃ j : Nat, j < 60 ∧ i = nI j ∧ J = x_upJ J 85 (60 * q + j) (asS (M 83 q - 50) v)) := by
  rcases h with ⟨a, b⟩ | ⟨q, a, b, c, d⟩
  · exact Or.inl ⟨a, b, rfl⟩
  · exact Or.inr ⟨q, a, b, Or.inl ⟨c, d, rfl⟩⟩
def EEl9 (M : xM) (J : xJ) (d i : Int32) (r : Int64) : Prop := ¬ (0 ≤ d ∧ d < 6) ∧ r = -9223372036854775808 ∨ ∃ q : Nat, q < 6 ∧ d = nI q ∧ (¬ pRef M q i = 0 ∧ r = -9223372036854775808 ∨ pRef M q i = 0 ∧ ∃ j : Nat, j < 60 ∧ i = nI j ∧ r = J (51 + 2 * q) j)
def EEl10 (M : xM) (J : xJ) (d i : Int32) (r : Int64) : Prop := ¬ (0 ≤ d ∧ d ≤ 5) ∧ r = -9223372036854775808 ∨ ∃ q : Nat, q < 6 ∧ d = nI q ∧ (¬ rRef M q i = 0 ∧ r = -9223372036854775808 ∨ rRef M q i = 0 ∧ ∃ j : Nat, j < 60 ∧ i = nI j ∧ r = J 85 (60 * q + j))
theorem el_no {M : xM} {J : xJ} {d i r : Int32} {w : Int64} (h : ¬ (0 ≤ d ∧ d ≤ 5) ∧ r = -1 ∨ ∃ q : Nat, q < 6 ∧ d = nI q ∧ ¬ rRef M q i = 0 ∧ r = rRef M q i) (hw : w = -9223372036854775808) : EEl10 M J d i w := by
  rcases h with ⟨a, b⟩ | ⟨q, a, b, c, d⟩
  · exact Or.inl ⟨a, hw⟩
  · exact Or.inr ⟨q, a, b, Or.inl ⟨c, hw⟩⟩
def EFeed (cc : Prop) (c c2 r : Int32) : Prop := ¬ cc ∧ r = -1 ∧ c2 = c ∨ ∃ n : Nat, n ≤ 120 ∧ c = nI n ∧ cc ∧ (n = 120 ∧ r = -3 ∧ c2 = c ∨ n < 120 ∧ r = nI (n + 1) ∧ c2 = nI (n + 1))
abbrev WFES (p k : Nat) : Prop := (p = 62 ∧ k = 11) ∨ (p = 69)
def hpOk (sh : Int32) : Prop := 0 ≤ sh ∧ (1 ≤ sh / 10 ∧ sh / 10 ≤ 9) ∧ (1 ≤ sh - sh / 10 * 10 ∧ sh - sh / 10 * 10 ≤ 9)
def EOne (a b c : Int64) (r : Int32) : Prop := (r = 0 ∧ ¬ ((1 ≤ a ∧ a ≤ 9) ∧ (1 ≤ b ∧ b ≤ 9) ∧ (-9 ≤ c ∧ c ≤ 9))) ∨ (r = 1 ∧ (1 ≤ a ∧ a ≤ 9) ∧ (1 ≤ b ∧ b ≤ 9) ∧ (-9 ≤ c ∧ c ≤ 9))
set_option maxRecDepth 100000 in
set_option maxHeartbeats 4000000 in
theorem gs_X10_isOne (a b c : Int64) {l : Launch} {G : xG} {M : xM} {J : xJ} : x_M l G fX10_isOne 1 0 0 [.long (a), .long (b), .long (c)] x_SH M J (qPI M J (fun r => EOne a b c r)) := by
  refine xb_of pX10 (Nat.le_of_ble_eq_true rfl) rfl ?_
  refine xr_lload_n dX10_isOne_0 0 rfl ?_
  refine xr_lconst (v := 1) dX10_isOne_1 rfl ?_
  refine xr_ldc2 coX10_112 dX10_isOne_2 ?_
  refine xb_cS (As := [.long (a), .long (1), .long (9)]) (rest := []) mlX10_101 (c_X10_within a 1 9) dX10_isOne_5 rfl rfl (Nat.le_of_ble_eq_true rfl) (by decide) (by decide) ?_
  refine xb_beq (tgt := 40) dX10_isOne_8 rfl (fun c1 => ?_) (fun c1 => ?_)
  · refine xr_iconst (v := 0) dX10_isOne_40 rfl ?_
    exact xr_iret dX10_isOne_41 rfl rfl (⟨_, rfl, rfl, rfl, rfl, (Or.inl ⟨rfl, fun q => c1 q.1⟩)⟩)
  · refine xr_lload_n dX10_isOne_11 1 rfl ?_
    refine xr_lconst (v := 1) dX10_isOne_12 rfl ?_
    refine xr_ldc2 coX10_112 dX10_isOne_13 ?_
    refine xb_cS (As := [.long (b), .long (1), .long (9)]) (rest := []) mlX10_101 (c_X10_within b 1 9) dX10_isOne_16 rfl rfl (Nat.le_of_ble_eq_true rfl) (by decide) (by decide) ?_
    refine xb_beq (tgt := 40) dX10_isOne_19 rfl (fun c2 => ?_) (fun c2 => ?_)
    · refine xr_iconst (v := 0) dX10_isOne_40 rfl ?_
      exact xr_iret dX10_isOne_41 rfl rfl (⟨_, rfl, rfl, rfl, rfl, (Or.inl ⟨rfl, fun q => c2 q.2.1⟩)⟩)
    · refine xr_lload dX10_isOne_22 2 rfl ?_
      refine xr_ldc2 coX10_114 dX10_isOne_24 ?_
      refine xr_ldc2 coX10_112 dX10_isOne_27 ?_
      refine xb_cS (As := [.long (c), .long ((-9)), .long (9)]) (rest := []) mlX10_101 (c_X10_within c (-9) 9) dX10_isOne_30 rfl rfl (Nat.le_of_ble_eq_true rfl) (by decide) (by decide) ?_
      refine xb_beq (tgt := 40) dX10_isOne_33 rfl (fun c3 => ?_) (fun c3 => ?_)
      · refine xr_iconst (v := 0) dX10_isOne_40 rfl ?_
        exact xr_iret dX10_isOne_41 rfl rfl (⟨_, rfl, rfl, rfl, rfl, (Or.inl ⟨rfl, fun q => c3 q.2.2⟩)⟩)
      · refine xr_iconst (v := 1) dX10_isOne_36 rfl ?_
        refine xr_goto (tgt := 41) dX10_isOne_37 rfl ?_
        exact xr_iret dX10_isOne_41 rfl rfl (⟨_, rfl, rfl, rfl, rfl, (Or.inr ⟨rfl, c1, c2, c3⟩)⟩)
theorem one_y {a b c : Int64} {r : Int32} (h : EOne a b c r) (h0 : ¬ r = 0) : (1 ≤ a ∧ a ≤ 9) ∧ (1 ≤ b ∧ b ≤ 9) ∧ (-9 ≤ c ∧ c ≤ 9) := (Or.resolve_left h (fun q => h0 q.1)).2
theorem one_n {a b c : Int64} {r : Int32} (h : EOne a b c r) (h0 : r = 0) : ¬ ((1 ≤ a ∧ a ≤ 9) ∧ (1 ≤ b ∧ b ≤ 9) ∧ (-9 ≤ c ∧ c ≤ 9)) := by
  rcases h with h | h
  · exact h.2
  · rw [h0] at h; exact absurd h.1 (by decide)
theorem i64_r {v : Int32} {a b : Int32} : (a.toInt64 ≤ v.toInt64 ∧ v.toInt64 ≤ b.toInt64) ↔ (a ≤ v ∧ v ≤ b) := by rw [x_i64_le, x_i64_le]
theorem hp_y {sh : Int32} (h0 : ¬ sh < 0) (h : (1 ≤ (sh / 10).toInt64 ∧ (sh / 10).toInt64 ≤ 9) ∧ (1 ≤ (sh - sh / 10 * 10).toInt64 ∧ (sh - sh / 10 * 10).toInt64 ≤ 9) ∧ ((-9 : Int64) ≤ 4 ∧ (4 : Int64) ≤ 9)) : hpOk sh :=
  ⟨by grind, (i64_r (a := 1) (b := 9)).mp h.1, (i64_r (a := 1) (b := 9)).mp h.2.1⟩
theorem hp_n {sh : Int32} (h : ¬ ((1 ≤ (sh / 10).toInt64 ∧ (sh / 10).toInt64 ≤ 9) ∧ (1 ≤ (sh - sh / 10 * 10).toInt64 ∧ (sh - sh / 10 * 10).toInt64 ≤ 9) ∧ ((-9 : Int64) ≤ 4 ∧ (4 : Int64) ≤ 9))) : ¬ hpOk sh := fun q =>
  h ⟨(i64_r (a := 1) (b := 9)).mpr q.2.1, (i64_r (a := 1) (b := 9)).mpr q.2.2, by decide, by decide⟩