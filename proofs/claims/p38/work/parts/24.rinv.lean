theorem dX10_within_0 : decode cX10_within 0 = .ok (.lload_n 0, 1) := by decide +kernel
theorem dX10_within_1 : decode cX10_within 1 = .ok (.lload_n 2, 1) := by decide +kernel
theorem dX10_within_2 : decode cX10_within 2 = .ok (.lcmp, 1) := by decide +kernel
theorem dX10_within_3 : decode cX10_within 3 = .ok (.ifCond .lt 14, 3) := by decide +kernel
theorem dX10_within_17 : decode cX10_within 17 = .ok (.iconst 0, 1) := by decide +kernel
theorem dX10_within_18 : decode cX10_within 18 = .ok (.ireturn, 1) := by decide +kernel
theorem dX10_within_6 : decode cX10_within 6 = .ok (.lload_n 0, 1) := by decide +kernel
theorem dX10_within_7 : decode cX10_within 7 = .ok (.lload 4, 2) := by decide +kernel
theorem dX10_within_9 : decode cX10_within 9 = .ok (.lcmp, 1) := by decide +kernel
theorem dX10_within_10 : decode cX10_within 10 = .ok (.ifCond .gt 7, 3) := by decide +kernel
theorem dX10_within_13 : decode cX10_within 13 = .ok (.iconst 1, 1) := by decide +kernel
theorem dX10_within_14 : decode cX10_within 14 = .ok (.goto 4, 3) := by decide +kernel
theorem dX10_isGirl_0 : decode cX10_isGirl 0 = .ok (.iload_n 0, 1) := by decide +kernel
theorem dX10_isGirl_1 : decode cX10_isGirl 1 = .ok (.i2l, 1) := by decide +kernel
theorem dX10_isGirl_2 : decode cX10_isGirl 2 = .ok (.lconst 0, 1) := by decide +kernel
theorem dX10_isGirl_3 : decode cX10_isGirl 3 = .ok (.ldc2_w 158, 3) := by decide +kernel
theorem dX10_isGirl_6 : decode cX10_isGirl 6 = .ok (.invokestatic 101, 3) := by decide +kernel
theorem dX10_isGirl_9 : decode cX10_isGirl 9 = .ok (.ireturn, 1) := by decide +kernel
theorem dX10_isShelf_0 : decode cX10_isShelf 0 = .ok (.iload_n 0, 1) := by decide +kernel
theorem dX10_isShelf_1 : decode cX10_isShelf 1 = .ok (.i2l, 1) := by decide +kernel
theorem dX10_isShelf_2 : decode cX10_isShelf 2 = .ok (.lconst 0, 1) := by decide +kernel
theorem dX10_isShelf_3 : decode cX10_isShelf 3 = .ok (.ldc2_w 129, 3) := by decide +kernel
theorem dX10_isShelf_6 : decode cX10_isShelf 6 = .ok (.invokestatic 101, 3) := by decide +kernel
theorem dX10_isShelf_9 : decode cX10_isShelf 9 = .ok (.ireturn, 1) := by decide +kernel
theorem dX10_isHoop_0 : decode cX10_isHoop 0 = .ok (.iload_n 1, 1) := by decide +kernel
theorem dX10_isHoop_1 : decode cX10_isHoop 1 = .ok (.i2l, 1) := by decide +kernel
theorem dX10_isHoop_2 : decode cX10_isHoop 2 = .ok (.lconst 0, 1) := by decide +kernel
theorem dX10_isHoop_3 : decode cX10_isHoop 3 = .ok (.aload_n 0, 1) := by decide +kernel
theorem dX10_isHoop_4 : decode cX10_isHoop 4 = .ok (.getfield 109, 3) := by decide +kernel
theorem dX10_isHoop_7 : decode cX10_isHoop 7 = .ok (.iconst 1, 1) := by decide +kernel
theorem dX10_isHoop_8 : decode cX10_isHoop 8 = .ok (.isub, 1) := by decide +kernel
theorem dX10_isHoop_9 : decode cX10_isHoop 9 = .ok (.i2l, 1) := by decide +kernel
theorem dX10_isHoop_10 : decode cX10_isHoop 10 = .ok (.invokestatic 101, 3) := by decide +kernel
theorem dX10_isHoop_13 : decode cX10_isHoop 13 = .ok (.ireturn, 1) := by decide +kernel
theorem dX10_isBody_0 : decode cX10_isBody 0 = .ok (.iload_n 1, 1) := by decide +kernel
theorem dX10_isBody_1 : decode cX10_isBody 1 = .ok (.i2l, 1) := by decide +kernel
theorem dX10_isBody_2 : decode cX10_isBody 2 = .ok (.lconst 0, 1) := by decide +kernel
theorem dX10_isBody_3 : decode cX10_isBody 3 = .ok (.aload_n 0, 1) := by decide +kernel
theorem dX10_isBody_4 : decode cX10_isBody 4 = .ok (.getfield 334, 3) := by decide +kernel
theorem dX10_isBody_7 : decode cX10_isBody 7 = .ok (.iconst 1, 1) := by decide +kernel
theorem dX10_isBody_8 : decode cX10_isBody 8 = .ok (.isub, 1) := by decide +kernel
theorem dX10_isBody_9 : decode cX10_isBody 9 = .ok (.i2l, 1) := by decide +kernel
theorem dX10_isBody_10 : decode cX10_isBody 10 = .ok (.invokestatic 101, 3) := by decide +kernel
theorem dX10_isBody_13 : decode cX10_isBody 13 = .ok (.ireturn, 1) := by decide +kernel
theorem dX10_isOne_0 : decode cX10_isOne 0 = .ok (.lload_n 0, 1) := by decide +kernel
theorem dX10_isOne_1 : decode cX10_isOne 1 = .ok (.lconst 1, 1) := by decide +kernel
theorem dX10_isOne_2 : decode cX10_isOne 2 = .ok (.ldc2_w 112, 3) := by decide +kernel
theorem dX10_isOne_5 : decode cX10_isOne 5 = .ok (.invokestatic 101, 3) := by decide +kernel
theorem dX10_isOne_8 : decode cX10_isOne 8 = .ok (.ifCond .eq 32, 3) := by decide +kernel
theorem dX10_isOne_40 : decode cX10_isOne 40 = .ok (.iconst 0, 1) := by decide +kernel
theorem dX10_isOne_41 : decode cX10_isOne 41 = .ok (.ireturn, 1) := by decide +kernel
theorem dX10_isOne_11 : decode cX10_isOne 11 = .ok (.lload_n 2, 1) := by decide +kernel
theorem dX10_isOne_12 : decode cX10_isOne 12 = .ok (.lconst 1, 1) := by decide +kernel
theorem dX10_isOne_13 : decode cX10_isOne 13 = .ok (.ldc2_w 112, 3) := by decide +kernel
theorem dX10_isOne_16 : decode cX10_isOne 16 = .ok (.invokestatic 101, 3) := by decide +kernel
theorem dX10_isOne_19 : decode cX10_isOne 19 = .ok (.ifCond .eq 21, 3) := by decide +kernel
theorem dX10_isOne_22 : decode cX10_isOne 22 = .ok (.lload 4, 2) := by decide +kernel
theorem dX10_isOne_24 : decode cX10_isOne 24 = .ok (.ldc2_w 114, 3) := by decide +kernel
theorem dX10_isOne_27 : decode cX10_isOne 27 = .ok (.ldc2_w 112, 3) := by decide +kernel
theorem dX10_isOne_30 : decode cX10_isOne 30 = .ok (.invokestatic 101, 3) := by decide +kernel
theorem dX10_isOne_33 : decode cX10_isOne 33 = .ok (.ifCond .eq 7, 3) := by decide +kernel
theorem dX10_isOne_36 : decode cX10_isOne 36 = .ok (.iconst 1, 1) := by decide +kernel
theorem dX10_isOne_37 : decode cX10_isOne 37 = .ok (.goto 4, 3) := by decide +kernel
theorem dX10_bitsOf_4 : decode cX10_bitsOf 4 = .ok (.iload_n 2, 1) := by decide +kernel
theorem dX10_bitsOf_5 : decode cX10_bitsOf 5 = .ok (.ifCond .eq 15, 3) := by decide +kernel
theorem dX10_bitsOf_20 : decode cX10_bitsOf 20 = .ok (.iload_n 1, 1) := by decide +kernel
theorem dX10_bitsOf_21 : decode cX10_bitsOf 21 = .ok (.ireturn, 1) := by decide +kernel
theorem dX10_bitsOf_8 : decode cX10_bitsOf 8 = .ok (.iinc 1 1, 3) := by decide +kernel
theorem dX10_bitsOf_11 : decode cX10_bitsOf 11 = .ok (.iload_n 2, 1) := by decide +kernel
theorem dX10_bitsOf_12 : decode cX10_bitsOf 12 = .ok (.iload_n 2, 1) := by decide +kernel
theorem dX10_bitsOf_13 : decode cX10_bitsOf 13 = .ok (.iconst 1, 1) := by decide +kernel
theorem dX10_bitsOf_14 : decode cX10_bitsOf 14 = .ok (.isub, 1) := by decide +kernel
theorem dX10_bitsOf_15 : decode cX10_bitsOf 15 = .ok (.iand, 1) := by decide +kernel
theorem dX10_bitsOf_16 : decode cX10_bitsOf 16 = .ok (.istore_n 2, 1) := by decide +kernel
theorem dX10_bitsOf_17 : decode cX10_bitsOf 17 = .ok (.goto (-13), 3) := by decide +kernel
theorem dX10_bitsOf_0 : decode cX10_bitsOf 0 = .ok (.iconst 0, 1) := by decide +kernel
theorem dX10_bitsOf_1 : decode cX10_bitsOf 1 = .ok (.istore_n 1, 1) := by decide +kernel
theorem dX10_bitsOf_2 : decode cX10_bitsOf 2 = .ok (.iload_n 0, 1) := by decide +kernel
theorem dX10_bitsOf_3 : decode cX10_bitsOf 3 = .ok (.istore_n 2, 1) := by decide +kernel
theorem dX10_adds_0 : decode cX10_adds 0 = .ok (.aload_n 0, 1) := by decide +kernel
theorem dX10_adds_1 : decode cX10_adds 1 = .ok (.getfield 9, 3) := by decide +kernel
theorem dX10_adds_4 : decode cX10_adds 4 = .ok (.aload_n 0, 1) := by decide +kernel
theorem dX10_adds_5 : decode cX10_adds 5 = .ok (.getfield 109, 3) := by decide +kernel
theorem dX10_adds_8 : decode cX10_adds 8 = .ok (.iload_n 1, 1) := by decide +kernel
theorem dX10_adds_9 : decode cX10_adds 9 = .ok (.iastore, 1) := by decide +kernel
theorem dX10_adds_10 : decode cX10_adds 10 = .ok (.aload_n 0, 1) := by decide +kernel
theorem dX10_adds_11 : decode cX10_adds 11 = .ok (.getfield 9, 3) := by decide +kernel
theorem dX10_adds_14 : decode cX10_adds 14 = .ok (.iconst 5, 1) := by decide +kernel
theorem dX10_adds_15 : decode cX10_adds 15 = .ok (.aload_n 0, 1) := by decide +kernel
theorem dX10_adds_16 : decode cX10_adds 16 = .ok (.getfield 109, 3) := by decide +kernel
theorem dX10_adds_19 : decode cX10_adds 19 = .ok (.iadd, 1) := by decide +kernel
theorem dX10_adds_20 : decode cX10_adds 20 = .ok (.iload_n 2, 1) := by decide +kernel
theorem dX10_adds_21 : decode cX10_adds 21 = .ok (.iastore, 1) := by decide +kernel
theorem dX10_adds_22 : decode cX10_adds 22 = .ok (.aload_n 0, 1) := by decide +kernel
theorem dX10_adds_23 : decode cX10_adds 23 = .ok (.getfield 9, 3) := by decide +kernel
theorem dX10_adds_26 : decode cX10_adds 26 = .ok (.bipush 10, 2) := by decide +kernel
theorem dX10_adds_28 : decode cX10_adds 28 = .ok (.aload_n 0, 1) := by decide +kernel
theorem dX10_adds_29 : decode cX10_adds 29 = .ok (.getfield 109, 3) := by decide +kernel
theorem dX10_adds_32 : decode cX10_adds 32 = .ok (.iadd, 1) := by decide +kernel
theorem dX10_adds_33 : decode cX10_adds 33 = .ok (.iload_n 3, 1) := by decide +kernel
theorem dX10_adds_34 : decode cX10_adds 34 = .ok (.iastore, 1) := by decide +kernel
theorem dX10_adds_35 : decode cX10_adds 35 = .ok (.aload_n 0, 1) := by decide +kernel
theorem dX10_adds_36 : decode cX10_adds 36 = .ok (.getfield 22, 3) := by decide +kernel
theorem dX10_adds_39 : decode cX10_adds 39 = .ok (.aload_n 0, 1) := by decide +kernel
theorem dX10_adds_40 : decode cX10_adds 40 = .ok (.getfield 109, 3) := by decide +kernel
theorem dX10_adds_43 : decode cX10_adds 43 = .ok (.iconst 0, 1) := by decide +kernel
theorem dX10_adds_44 : decode cX10_adds 44 = .ok (.iastore, 1) := by decide +kernel
theorem dX10_adds_45 : decode cX10_adds 45 = .ok (.aload_n 0, 1) := by decide +kernel
theorem dX10_adds_46 : decode cX10_adds 46 = .ok (.getfield 25, 3) := by decide +kernel
theorem dX10_adds_49 : decode cX10_adds 49 = .ok (.aload_n 0, 1) := by decide +kernel
theorem dX10_adds_50 : decode cX10_adds 50 = .ok (.getfield 109, 3) := by decide +kernel
theorem dX10_adds_53 : decode cX10_adds 53 = .ok (.bipush 20, 2) := by decide +kernel
theorem dX10_adds_55 : decode cX10_adds 55 = .ok (.iastore, 1) := by decide +kernel
theorem dX10_adds_56 : decode cX10_adds 56 = .ok (.aload_n 0, 1) := by decide +kernel
theorem dX10_adds_57 : decode cX10_adds 57 = .ok (.dup, 1) := by decide +kernel
theorem dX10_adds_58 : decode cX10_adds 58 = .ok (.getfield 109, 3) := by decide +kernel
theorem dX10_adds_61 : decode cX10_adds 61 = .ok (.iconst 1, 1) := by decide +kernel
theorem dX10_adds_62 : decode cX10_adds 62 = .ok (.iadd, 1) := by decide +kernel
theorem dX10_adds_63 : decode cX10_adds 63 = .ok (.putfield 109, 3) := by decide +kernel
theorem dX10_adds_66 : decode cX10_adds 66 = .ok (.return_, 1) := by decide +kernel
def CH (a w i : Int32) : Prop := ∃ q : Nat, q < 20 ∧ a = nI q ∧ ((5 ≤ q ∧ q < 10 ∨ q = 16) → w ≠ 0 ∧ i ≠ 0)
/-- what holds of the reference's object between calls -/
def InvR (M : xM) : Prop := (∃ h : Nat, h ≤ 5 ∧ M 62 6 = nI h ∧ ∀ k, k < h → M 63 (5 + k) ≠ 0) ∧ M 63 16 ≠ 0 ∧ (∃ u w : Nat, u ≤ w ∧ w ≤ 40 ∧ M 62 5 = nI u ∧ M 62 4 = nI w) ∧ (∀ k, k < 40 → CH (M 64 k) (M 65 k) (M 66 k)) ∧ (∃ n : Nat, n ≤ 120 ∧ M 62 11 = nI n) ∧
  (M 62 13 = -1 ∨ ∃ n : Nat, n ≤ 120 ∧ M 62 13 = nI n) ∧ (∃ b : Nat, b ≤ 50 ∧ M 62 36 = nI b) ∧ (∀ j, j < 50 → ∃ q : Nat, q < 8 ∧ M 81 j = nI q) ∧ (∃ r : Nat, r ≤ 100 ∧ M 62 39 = nI r) ∧ (∀ j, j < 6 → (M 83 j = -1 ∨ ∃ s : Nat, s ≤ 54 ∧ M 83 j = nI s) ∧ ∃ n : Nat, n ≤ 60 ∧ M 84 j = nI n) ∧
  (∃ c : Nat, c ≤ 5 ∧ M 62 34 = nI c) ∧ (∀ j, j < 25 → ∃ q : Nat, q ≤ 12 ∧ M 75 j = nI q)
theorem nI_mulc (c a : Nat) : nI c * nI a = nI (c * a) := (Int32.ofNat_mul c a).symm
theorem c_X10_within (v a b : Int64) {l : Launch} {G : xG} {sh : List xS} {M : xM} {J : xJ} : x_M l G fX10_within 0 0 0 [.long (v), .long (a), .long (b)] sh M J (qE (some (.int (bI (a ≤ v ∧ v ≤ b)))) sh M J) := by
  refine xb_of pX10 (Nat.le_of_ble_eq_true rfl) rfl ?_
  refine xr_lload_n dX10_within_0 0 rfl ?_
  refine xr_lload_n dX10_within_1 1 rfl ?_
  refine xr_lcmp dX10_within_2 ?_
  refine xl_lt (tgt := 17) dX10_within_3 rfl (fun c1 => ?_) (fun c1 => ?_)
  · refine xr_iconst (v := 0) dX10_within_17 rfl ?_
    exact xr_iret dX10_within_18 rfl rfl (⟨congrArg (fun z => some (Value.int z)) (bI_f (by grind)).symm, rfl, rfl, rfl⟩)
  · refine xr_lload_n dX10_within_6 0 rfl ?_
    refine xr_lload dX10_within_7 2 rfl ?_
    refine xr_lcmp dX10_within_9 ?_
    refine xl_gt (tgt := 17) dX10_within_10 rfl (fun c2 => ?_) (fun c2 => ?_)
    · refine xr_iconst (v := 0) dX10_within_17 rfl ?_
      exact xr_iret dX10_within_18 rfl rfl (⟨congrArg (fun z => some (Value.int z)) (bI_f (by grind)).symm, rfl, rfl, rfl⟩)
    · refine xr_iconst (v := 1) dX10_within_13 rfl ?_
      refine xr_goto (tgt := 18) dX10_within_14 rfl ?_
      exact xr_iret dX10_within_18 rfl rfl (⟨congrArg (fun z => some (Value.int z)) (bI_t (by grind)).symm, rfl, rfl, rfl⟩)
theorem c_within32 (v a b : Int32) {A B : Int64} (hA : a.toInt64 = A) (hB : b.toInt64 = B) {l : Launch} {G : xG} {sh : List xS} {M : xM} {J : xJ} : x_M l G fX10_within 0 0 0 [.long v.toInt64, .long A, .long B] sh M J (qE (some (.int (bI (a ≤ v ∧ v ≤ b)))) sh M J) := by
  subst hA; subst hB
  rw [show bI (a ≤ v ∧ v ≤ b) = bI (a.toInt64 ≤ v.toInt64 ∧ v.toInt64 ≤ b.toInt64) from x_bI_c (by rw [x_i64_le, x_i64_le])]
  exact c_X10_within _ _ _
set_option maxRecDepth 100000 in
set_option maxHeartbeats 4000000 in
theorem c_X10_isGirl (v : Int32) {l : Launch} {G : xG} {sh : List xS} {M : xM} {J : xJ} : x_M l G fX10_isGirl 1 0 0 [.int (v)] sh M J (qE (some (.int (bI (0 ≤ v ∧ v ≤ 24)))) sh M J) := by
  refine xb_of pX10 (Nat.le_of_ble_eq_true rfl) rfl ?_
  refine xr_iload_n dX10_isGirl_0 0 rfl ?_
  refine xr_i2l dX10_isGirl_1 ?_
  refine xr_lconst (v := 0) dX10_isGirl_2 rfl ?_
  refine xr_ldc2 coX10_158 dX10_isGirl_3 ?_
  refine xb_cS (As := [.long ((v).toInt64), .long (0), .long (24)]) (rest := []) mlX10_101 (c_within32 (v) (0) (24) (by decide) (by decide)) dX10_isGirl_6 rfl rfl (Nat.le_of_ble_eq_true rfl) (by decide) (by decide) ?_
  exact xr_iret dX10_isGirl_9 rfl (bI_n _) (⟨rfl, rfl, rfl, rfl⟩)
set_option maxRecDepth 100000 in
set_option maxHeartbeats 4000000 in
theorem c_X10_isShelf (v : Int32) {l : Launch} {G : xG} {sh : List xS} {M : xM} {J : xJ} : x_M l G fX10_isShelf 1 0 0 [.int (v)] sh M J (qE (some (.int (bI (0 ≤ v ∧ v ≤ 5)))) sh M J) := by
  refine xb_of pX10 (Nat.le_of_ble_eq_true rfl) rfl ?_
  refine xr_iload_n dX10_isShelf_0 0 rfl ?_
  refine xr_i2l dX10_isShelf_1 ?_
  refine xr_lconst (v := 0) dX10_isShelf_2 rfl ?_
  refine xr_ldc2 coX10_129 dX10_isShelf_3 ?_
  refine xb_cS (As := [.long ((v).toInt64), .long (0), .long (5)]) (rest := []) mlX10_101 (c_within32 (v) (0) (5) (by decide) (by decide)) dX10_isShelf_6 rfl rfl (Nat.le_of_ble_eq_true rfl) (by decide) (by decide) ?_
  exact xr_iret dX10_isShelf_9 rfl (bI_n _) (⟨rfl, rfl, rfl, rfl⟩)
theorem sx_lt1 {v : Int32} {n : Nat} (hn : n ≤ 100) : (0 ≤ v ∧ v ≤ nI n - 1) ↔ (0 ≤ v ∧ v < nI n) := by
  have h1 : (nI n - 1).toInt = (n : Int) - 1 := (show ∀ n, n ≤ 100 → (nI n - 1).toInt = (n : Int) - 1 by decide +kernel) n hn
  simp only [Int32.le_iff_toInt_le, Int32.lt_iff_toInt_lt, h1, nI_toInt (n := n) (by omega)]
  constructor
  · rintro ⟨a, b⟩; exact ⟨a, by omega⟩
  · rintro ⟨a, b⟩; exact ⟨a, by omega⟩
set_option maxRecDepth 100000 in
set_option maxHeartbeats 4000000 in
theorem c_X10_isHoop (v : Int32) {l : Launch} {G : xG} {M : xM} {J : xJ} {hn : Nat} (h_hn : hn ≤ 5) (e_hn : M 62 6 = nI hn) : x_M l G fX10_isHoop 1 0 0 [.ref 62, .int (v)] x_SH M J (qE (some (.int (bI (0 ≤ v ∧ v < nI hn)))) x_SH M J) := by
  refine xb_of pX10 (Nat.le_of_ble_eq_true rfl) rfl ?_
  refine xr_iload_n dX10_isHoop_0 1 rfl ?_
  refine xr_i2l dX10_isHoop_1 ?_
  refine xr_lconst (v := 0) dX10_isHoop_2 rfl ?_
  refine xr_aload_n dX10_isHoop_3 0 rfl ?_
  refine xb_get (v := nI (hn)) flX10_109 dX10_isHoop_4 s_62 rfl e_hn ?_
  refine xr_iconst (v := 1) dX10_isHoop_7 rfl ?_
  refine xr_isub dX10_isHoop_8 ?_
  refine xr_i2l dX10_isHoop_9 ?_
  refine xb_cS (As := [.long ((v).toInt64), .long (0), .long ((((nI (hn)) - 1)).toInt64)]) (rest := []) mlX10_101 (c_within32 (v) (0) (((nI (hn)) - 1)) (by decide) rfl) dX10_isHoop_10 rfl rfl (Nat.le_of_ble_eq_true rfl) (by decide) (by decide) ?_
  exact xr_iret dX10_isHoop_13 rfl (bI_n _) (⟨congrArg (fun z => some (Value.int z)) (x_bI_c (sx_lt1 (by omega))), rfl, rfl, rfl⟩)
set_option maxRecDepth 100000 in
set_option maxHeartbeats 4000000 in
theorem c_X10_isBody (v : Int32) {l : Launch} {G : xG} {M : xM} {J : xJ} {b : Nat} (h_b : b ≤ 50) (e_b : M 62 36 = nI b) : x_M l G fX10_isBody 1 0 0 [.ref 62, .int (v)] x_SH M J (qE (some (.int (bI (0 ≤ v ∧ v < nI b)))) x_SH M J) := by
  refine xb_of pX10 (Nat.le_of_ble_eq_true rfl) rfl ?_
  refine xr_iload_n dX10_isBody_0 1 rfl ?_
  refine xr_i2l dX10_isBody_1 ?_
  refine xr_lconst (v := 0) dX10_isBody_2 rfl ?_
  refine xr_aload_n dX10_isBody_3 0 rfl ?_
  refine xb_get (v := nI (b)) flX10_334 dX10_isBody_4 s_62 rfl e_b ?_
  refine xr_iconst (v := 1) dX10_isBody_7 rfl ?_
  refine xr_isub dX10_isBody_8 ?_
  refine xr_i2l dX10_isBody_9 ?_
  refine xb_cS (As := [.long ((v).toInt64), .long (0), .long ((((nI (b)) - 1)).toInt64)]) (rest := []) mlX10_101 (c_within32 (v) (0) (((nI (b)) - 1)) (by decide) rfl) dX10_isBody_10 rfl rfl (Nat.le_of_ble_eq_true rfl) (by decide) (by decide) ?_
  exact xr_iret dX10_isBody_13 rfl (bI_n _) (⟨congrArg (fun z => some (Value.int z)) (x_bI_c (sx_lt1 (by omega))), rfl, rfl, rfl⟩)
set_option maxRecDepth 100000 in
set_option maxHeartbeats 4000000 in
theorem g_X10_isOne (a b c : Int64) {l : Launch} {G : xG} {M : xM} {J : xJ} : x_M l G fX10_isOne 1 0 0 [.long (a), .long (b), .long (c)] x_SH M J (qPI M J (fun r => (r = 0 ∨ r = 1) ∧ (r = 1 → 1 ≤ b ∧ b ≤ 9))) := by
  refine xb_of pX10 (Nat.le_of_ble_eq_true rfl) rfl ?_
  refine xr_lload_n dX10_isOne_0 0 rfl ?_
  refine xr_lconst (v := 1) dX10_isOne_1 rfl ?_
  refine xr_ldc2 coX10_112 dX10_isOne_2 ?_
  refine xb_cS (As := [.long (a), .long (1), .long (9)]) (rest := []) mlX10_101 (c_X10_within a 1 9) dX10_isOne_5 rfl rfl (Nat.le_of_ble_eq_true rfl) (by decide) (by decide) ?_
  refine xb_beq (tgt := 40) dX10_isOne_8 rfl (fun c1 => ?_) (fun c1 => ?_)
  · refine xr_iconst (v := 0) dX10_isOne_40 rfl ?_
    exact xr_iret dX10_isOne_41 rfl rfl (⟨_, rfl, rfl, rfl, rfl, ⟨Or.inl rfl, fun q => absurd q (by decide)⟩⟩)
  · refine xr_lload_n dX10_isOne_11 1 rfl ?_
    refine xr_lconst (v := 1) dX10_isOne_12 rfl ?_
    refine xr_ldc2 coX10_112 dX10_isOne_13 ?_
    refine xb_cS (As := [.long (b), .long (1), .long (9)]) (rest := []) mlX10_101 (c_X10_within b 1 9) dX10_isOne_16 rfl rfl (Nat.le_of_ble_eq_true rfl) (by decide) (by decide) ?_
    refine xb_beq (tgt := 40) dX10_isOne_19 rfl (fun c2 => ?_) (fun c2 => ?_)
    · refine xr_iconst (v := 0) dX10_isOne_40 rfl ?_
      exact xr_iret dX10_isOne_41 rfl rfl (⟨_, rfl, rfl, rfl, rfl, ⟨Or.inl rfl, fun q => absurd q (by decide)⟩⟩)
    · refine xr_lload dX10_isOne_22 2 rfl ?_
      refine xr_ldc2 coX10_114 dX10_isOne_24 ?_
      refine xr_ldc2 coX10_112 dX10_isOne_27 ?_
      refine xb_cS (As := [.long (c), .long ((-9)), .long (9)]) (rest := []) mlX10_101 (c_X10_within c (-9) 9) dX10_isOne_30 rfl rfl (Nat.le_of_ble_eq_true rfl) (by decide) (by decide) ?_
      refine xb_beq (tgt := 40) dX10_isOne_33 rfl (fun c3 => ?_) (fun c3 => ?_)
      · refine xr_iconst (v := 0) dX10_isOne_40 rfl ?_
        exact xr_iret dX10_isOne_41 rfl rfl (⟨_, rfl, rfl, rfl, rfl, ⟨Or.inl rfl, fun q => absurd q (by decide)⟩⟩)
      · refine xr_iconst (v := 1) dX10_isOne_36 rfl ?_
        refine xr_goto (tgt := 41) dX10_isOne_37 rfl ?_
        exact xr_iret dX10_isOne_41 rfl rfl (⟨_, rfl, rfl, rfl, rfl, ⟨Or.inr rfl, fun _ => c2⟩⟩)
abbrev WAD (p k : Nat) : Prop := (p = 62 ∧ k = 6) ∨ (p = 63) ∨ (67 ≤ p ∧ p ≤ 68)
theorem sx_bit {v : Int32} (h : ¬ v = 0) : (v &&& (v - 1)).toBitVec.toNat < v.toBitVec.toNat := by
  have h0 : v.toBitVec.toNat ≠ 0 := fun q => h (Int32.toBitVec_inj.mp (BitVec.eq_of_toNat_eq (by rw [q]; rfl)))
  rw [Int32.toBitVec_and, BitVec.toNat_and]
  refine Nat.lt_of_le_of_lt Nat.and_le_right ?_
  rw [Int32.toBitVec_sub, BitVec.toNat_sub]
  have h1 : (1 : Int32).toBitVec.toNat = 1 := rfl
  rw [h1]
  have h2 := v.toBitVec.isLt
  rw [show 2 ^ 32 - 1 + v.toBitVec.toNat = (v.toBitVec.toNat - 1) + 2 ^ 32 by omega, Nat.add_mod_right, Nat.mod_eq_of_lt (by omega)]
  omega
set_option maxRecDepth 100000 in
set_option maxHeartbeats 4000000 in
theorem bo_l {se : Int32} {l : Launch} {G : xG} {M : xM} {J : xJ} : ∀ (m : Nat) (lf c : Int32), lf.toBitVec.toNat ≤ m → x_X l G fX10_bitsOf 0 0 0 (qPI M J (fun r => True)) 4 [(2, .int (lf)), (1, .int (c)), (0, .int (se))] [] x_SH M J 0 0 := by
  intro m
  induction m with
  | zero =>
    intro lf c hm
    refine xr_iload_n dX10_bitsOf_4 0 rfl ?_
    refine xr_if_eq (tgt := 20) dX10_bitsOf_5 rfl (fun c1 => ?_) (fun c1 => ?_)
    · refine xr_iload_n dX10_bitsOf_20 1 rfl ?_
      exact xr_iret dX10_bitsOf_21 rfl rfl (⟨_, rfl, rfl, rfl, rfl, trivial⟩)
    · have hlt := sx_bit c1
      exact absurd hm (by omega)
  | succ m ih =>
    intro lf c hm
    refine xr_iload_n dX10_bitsOf_4 0 rfl ?_
    refine xr_if_eq (tgt := 20) dX10_bitsOf_5 rfl (fun c1 => ?_) (fun c1 => ?_)
    · refine xr_iload_n dX10_bitsOf_20 1 rfl ?_
      exact xr_iret dX10_bitsOf_21 rfl rfl (⟨_, rfl, rfl, rfl, rfl, trivial⟩)
    · have hlt := sx_bit c1
      refine xr_iinc (v := c + 1) (ls2 := [(1, .int (c + 1)), (2, .int (lf)), (0, .int (se))]) dX10_bitsOf_8 1 rfl rfl (by decide) rfl ?_
      refine xr_iload_n dX10_bitsOf_11 1 rfl ?_
      refine xr_iload_n dX10_bitsOf_12 1 rfl ?_
      refine xr_iconst (v := 1) dX10_bitsOf_13 rfl ?_
      refine xr_isub dX10_bitsOf_14 ?_
      refine xr_iand dX10_bitsOf_15 ?_
      refine xr_istore_n (ls2 := [(2, .int ((lf &&& (lf - 1)))), (1, .int (c + 1)), (0, .int (se))]) dX10_bitsOf_16 (by decide) rfl ?_
      refine xr_goto (tgt := 4) dX10_bitsOf_17 rfl ?_
      refine xb_ls (ls2 := [(2, .int ((lf &&& (lf - 1)))), (1, .int (c + 1)), (0, .int (se))]) [0, 1, 2] rfl ?_
      exact ih (lf &&& (lf - 1)) (c + 1) (by omega)
set_option maxRecDepth 100000 in
set_option maxHeartbeats 4000000 in
theorem g_X10_bitsOf (se : Int32) {l : Launch} {G : xG} {M : xM} {J : xJ} : x_M l G fX10_bitsOf 0 0 0 [.int (se)] x_SH M J (qPI M J (fun r => True)) := by
  refine xb_of pX10 (Nat.le_of_ble_eq_true rfl) rfl ?_
  refine xr_iconst (v := 0) dX10_bitsOf_0 rfl ?_
  refine xr_istore_n (ls2 := [(1, .int (0)), (0, .int (se))]) dX10_bitsOf_1 (by decide) rfl ?_
  refine xr_iload_n dX10_bitsOf_2 1 rfl ?_
  refine xr_istore_n (ls2 := [(2, .int (se)), (1, .int (0)), (0, .int (se))]) dX10_bitsOf_3 (by decide) rfl ?_
  refine xb_ls (ls2 := [(2, .int (se)), (1, .int (0)), (0, .int (se))]) [0, 1, 2] rfl ?_
  exact bo_l _ se 0 (Nat.le_refl _)
theorem ad_w {M : xM} {hn : Nat} {si he pa z : Int32} (h5 : hn < 5) (h : he ≠ 0) (hw : ∀ k, k < hn → M 63 (5 + k) ≠ 0) : ∀ k, k < hn + 1 → (x_up (x_up (x_up (x_up (x_up (x_up M 63 hn si) 63 (5 + hn) he) 63 (10 + hn) pa) 67 hn 0) 68 hn 20) 62 6 z) 63 (5 + k) ≠ 0 := fun k hk => by
  rw [congrFun (x_up_n _ 6 z (by decide)) _, congrFun (x_up_n _ hn 20 (by decide)) _, congrFun (x_up_n _ hn 0 (by decide)) _, x_up_k _ _ _ (by omega)]
  by_cases e : k = hn
  · subst e; rw [x_up_s]; exact h
  · rw [x_up_k _ _ _ (by omega), x_up_k _ _ _ (by omega)]; exact hw k (by omega)
theorem ad_b {M : xM} {hn : Nat} {si he pa z : Int32} (h5 : hn < 5) (h : M 63 16 ≠ 0) : (x_up (x_up (x_up (x_up (x_up (x_up M 63 hn si) 63 (5 + hn) he) 63 (10 + hn) pa) 67 hn 0) 68 hn 20) 62 6 z) 63 16 ≠ 0 := by
  rw [congrFun (x_up_n _ 6 z (by decide)) _, congrFun (x_up_n _ hn 20 (by decide)) _, congrFun (x_up_n _ hn 0 (by decide)) _, x_up_k _ _ _ (by omega), x_up_k _ _ _ (by omega), x_up_k _ _ _ (by omega)]; exact h
set_option maxRecDepth 100000 in
set_option maxHeartbeats 4000000 in
theorem g_X10_adds (si he pa : Int32) {l : Launch} {G : xG} {M : xM} {J : xJ} {hn : Nat} (h_hn : hn < 5) (e_hn : M 62 6 = nI hn) (hv0 : he ≠ 0) (hw : ∀ k, k < hn → M 63 (5 + k) ≠ 0) (hbt : M 63 16 ≠ 0) : x_M l G fX10_adds 0 0 0 [.ref (62), .int (si), .int (he), .int (pa)] x_SH M J (qKV WAD M J (fun M2 => M2 62 6 = nI (hn + 1) ∧ (∀ k, k < hn + 1 → M2 63 (5 + k) ≠ 0) ∧ M2 63 16 ≠ 0)) := by
  refine xb_of pX10 (Nat.le_of_ble_eq_true rfl) rfl ?_
  refine xr_aload_n dX10_adds_0 0 rfl ?_
  refine xr_getR flX10_9 dX10_adds_1 s_62 rfl ?_
  refine xr_aload_n dX10_adds_4 0 rfl ?_
  refine xb_get (v := nI (hn)) flX10_109 dX10_adds_5 s_62 rfl e_hn ?_
  refine xr_iload_n dX10_adds_8 1 rfl ?_
  refine xb_iast (j := hn) dX10_adds_9 s_63 (by omega) (by decide) ?_
  refine xr_aload_n dX10_adds_10 0 rfl ?_
  refine xr_getR flX10_9 dX10_adds_11 s_62 rfl ?_
  refine xr_iconst (v := 5) dX10_adds_14 rfl ?_
  refine xr_aload_n dX10_adds_15 0 rfl ?_
  refine xb_get (v := nI (hn)) flX10_109 dX10_adds_16 s_62 rfl (Eq.trans (congrFun (x_up_n _ _ _ (by decide)) _) e_hn) ?_
  refine xr_iadd dX10_adds_19 ?_
  refine xb_top (y := nI (5 + hn)) (nI_add (5) (hn)) ?_
  refine xr_iload_n dX10_adds_20 2 rfl ?_
  refine xb_iast (j := 5 + hn) dX10_adds_21 s_63 (by omega) (by decide) ?_
  refine xr_aload_n dX10_adds_22 0 rfl ?_
  refine xr_getR flX10_9 dX10_adds_23 s_62 rfl ?_
  refine xr_bipush (v := 10) dX10_adds_26 rfl ?_
  refine xr_aload_n dX10_adds_28 0 rfl ?_
  refine xb_get (v := nI (hn)) flX10_109 dX10_adds_29 s_62 rfl (Eq.trans (congrFun (x_up_n _ _ _ (by decide)) _) (Eq.trans (congrFun (x_up_n _ _ _ (by decide)) _) e_hn)) ?_
  refine xr_iadd dX10_adds_32 ?_
  refine xb_top (y := nI (10 + hn)) (nI_add (10) (hn)) ?_
  refine xr_iload_n dX10_adds_33 3 rfl ?_
  refine xb_iast (j := 10 + hn) dX10_adds_34 s_63 (by omega) (by decide) ?_
  refine xr_aload_n dX10_adds_35 0 rfl ?_
  refine xr_getR flX10_22 dX10_adds_36 s_62 rfl ?_
  refine xr_aload_n dX10_adds_39 0 rfl ?_
  refine xb_get (v := nI (hn)) flX10_109 dX10_adds_40 s_62 rfl (Eq.trans (congrFun (x_up_n _ _ _ (by decide)) _) (Eq.trans (congrFun (x_up_n _ _ _ (by decide)) _) (Eq.trans (congrFun (x_up_n _ _ _ (by decide)) _) e_hn))) ?_
  refine xr_iconst (v := 0) dX10_adds_43 rfl ?_
  refine xb_iast (j := hn) dX10_adds_44 s_67 (by omega) (by decide) ?_
  refine xr_aload_n dX10_adds_45 0 rfl ?_
  refine xr_getR flX10_25 dX10_adds_46 s_62 rfl ?_
  refine xr_aload_n dX10_adds_49 0 rfl ?_
  refine xb_get (v := nI (hn)) flX10_109 dX10_adds_50 s_62 rfl (Eq.trans (congrFun (x_up_n _ _ _ (by decide)) _) (Eq.trans (congrFun (x_up_n _ _ _ (by decide)) _) (Eq.trans (congrFun (x_up_n _ _ _ (by decide)) _) (Eq.trans (congrFun (x_up_n _ _ _ (by decide)) _) e_hn)))) ?_
  refine xr_bipush (v := 20) dX10_adds_53 rfl ?_
  refine xb_iast (j := hn) dX10_adds_55 s_68 (by omega) (by decide) ?_
  refine xr_aload_n dX10_adds_56 0 rfl ?_
  refine xr_dup dX10_adds_57 rfl ?_
  refine xb_get (v := nI (hn)) flX10_109 dX10_adds_58 s_62 rfl (Eq.trans (congrFun (x_up_n _ _ _ (by decide)) _) (Eq.trans (congrFun (x_up_n _ _ _ (by decide)) _) (Eq.trans (congrFun (x_up_n _ _ _ (by decide)) _) (Eq.trans (congrFun (x_up_n _ _ _ (by decide)) _) (Eq.trans (congrFun (x_up_n _ _ _ (by decide)) _) e_hn))))) ?_
  refine xr_iconst (v := 1) dX10_adds_61 rfl ?_
  refine xr_iadd dX10_adds_62 ?_
  refine xb_top (y := nI (hn + 1)) (nI_add (hn) (1)) ?_
  refine xr_putI fpX10_109 dX10_adds_63 s_62 rfl rfl rfl ?_
  exact xr_vret dX10_adds_66 rfl (⟨rfl, rfl, rfl, (Ke.up (by decide) (Ke.up (by unfold WAD; omega) (Ke.up (by unfold WAD; omega) (Ke.up (by unfold WAD; omega) (Ke.up (by unfold WAD; omega) (Ke.up (by unfold WAD; omega) Ke.rf)))))), ⟨(x_up_s _ _ _ _), ad_w h_hn hv0 hw, ad_b h_hn hbt⟩⟩)
