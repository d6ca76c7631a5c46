theorem dX10_within_0 : decode cX10_within 0 = .ok (.lload_n 0, 1) := by decide +kernel
theorem dX10_within_1 : decode cX10_within 1 = .ok (.lload_n 2, 1) := by decide +kernel
theorem dX10_within_2 : decode cX10_within 2 = .ok (.lcmp, 1) := by decide +kernel
theorem dX10_within_3 : decode cX10_within 3 = .ok (.ifCond .lt 14, 3) := by decide +kernel
theorem dX10_within_17 : decode cX10_within 17 = .ok (.iconst 0, 1) := by decide +kernel
theorem dX10_within_18 : decode cX10_within 18 = .ok (.ireturn, 1) := by decide +kernel
theorem dX10_within_6 : decode cX10_within 6 = .ok (.lload_n 0, 1) := by decide +kernel
theorem dX10_within_7 : decode cX10_within 7 = .ok (.lload 4, 2) := by decide +kernel
theorem dX10_within_9 : decode cX10_within 9 = .ok (.lcmp, 1) := by decide +kernel
theorem dX10_within_10 : decode cX10_within 10 = .ok (.ifCond .gt 7, 3) := by decide +kernel
theorem dX10_within_13 : decode cX10_within 13 = .ok (.iconst 1, 1) := by decide +kernel
theorem dX10_within_14 : decode cX10_within 14 = .ok (.goto 4, 3) := by decide +kernel
theorem dX10_isGirl_0 : decode cX10_isGirl 0 = .ok (.iload_n 0, 1) := by decide +kernel
theorem dX10_isGirl_1 : decode cX10_isGirl 1 = .ok (.i2l, 1) := by decide +kernel
theorem dX10_isGirl_2 : decode cX10_isGirl 2 = .ok (.lconst 0, 1) := by decide +kernel
theorem dX10_isGirl_3 : decode cX10_isGirl 3 = .ok (.ldc2_w 158, 3) := by decide +kernel
theorem dX10_isGirl_6 : decode cX10_isGirl 6 = .ok (.invokestatic 101, 3) := by decide +kernel
theorem dX10_isGirl_9 : decode cX10_isGirl 9 = .ok (.ireturn, 1) := by decide +kernel
theorem dX10_isShelf_0 : decode cX10_isShelf 0 = .ok (.iload_n 0, 1) := by decide +kernel
theorem dX10_isShelf_1 : decode cX10_isShelf 1 = .ok (.i2l, 1) := by decide +kernel
theorem dX10_isShelf_2 : decode cX10_isShelf 2 = .ok (.lconst 0, 1) := by decide +kernel
theorem dX10_isShelf_3 : decode cX10_isShelf 3 = .ok (.ldc2_w 129, 3) := by decide +kernel
theorem dX10_isShelf_6 : decode cX10_isShelf 6 = .ok (.invokestatic 101, 3) := by decide +kernel
theorem dX10_isShelf_9 : decode cX10_isShelf 9 = .ok (.ireturn, 1) := by decide +kernel
theorem dX10_isHoop_0 : decode cX10_isHoop 0 = .ok (.iload_n 1, 1) := by decide +kernel
theorem dX10_isHoop_1 : decode cX10_isHoop 1 = .ok (.i2l, 1) := by decide +kernel
theorem dX10_isHoop_2 : decode cX10_isHoop 2 = .ok (.lconst 0, 1) := by decide +kernel
theorem dX10_isHoop_3 : decode cX10_isHoop 3 = .ok (.aload_n 0, 1) := by decide +kernel
theorem dX10_isHoop_4 : decode cX10_isHoop 4 = .ok (.getfield 109, 3) := by decide +kernel
theorem dX10_isHoop_7 : decode cX10_isHoop 7 = .ok (.iconst 1, 1) := by decide +kernel
theorem dX10_isHoop_8 : decode cX10_isHoop 8 = .ok (.isub, 1) := by decide +kernel
theorem dX10_isHoop_9 : decode cX10_isHoop 9 = .ok (.i2l, 1) := by decide +kernel
theorem dX10_isHoop_10 : decode cX10_isHoop 10 = .ok (.invokestatic 101, 3) := by decide +kernel
theorem dX10_isHoop_13 : decode cX10_isHoop 13 = .ok (.ireturn, 1) := by decide +kernel
def CH (a w i : Int32) : Prop := ∃ q : Nat, q < 20 ∧ a = nI q ∧ ((5 ≤ q ∧ q < 10 ∨ q = 16) → w ≠ 0 ∧ i ≠ 0)
/-- what holds of the reference's object between calls -/
def InvR (M : xM) : Prop := (∃ h : Nat, h ≤ 5 ∧ M 62 6 = nI h ∧ ∀ k, k < h → M 63 (5 + k) ≠ 0) ∧ M 63 16 ≠ 0 ∧ (∃ u w : Nat, u ≤ w ∧ w ≤ 40 ∧ M 62 5 = nI u ∧ M 62 4 = nI w) ∧ (∀ k, k < 40 → CH (M 64 k) (M 65 k) (M 66 k)) ∧ (∃ n : Nat, n ≤ 120 ∧ M 62 11 = nI n) ∧
  (M 62 13 = -1 ∨ ∃ n : Nat, n ≤ 120 ∧ M 62 13 = nI n) ∧ (∃ b : Nat, b ≤ 50 ∧ M 62 36 = nI b) ∧ (∀ j, j < 50 → ∃ q : Nat, q < 8 ∧ M 81 j = nI q) ∧ (∃ r : Nat, r ≤ 100 ∧ M 62 39 = nI r) ∧ (∀ j, j < 6 → (M 83 j = -1 ∨ ∃ s : Nat, s ≤ 54 ∧ M 83 j = nI s) ∧ ∃ n : Nat, n ≤ 60 ∧ M 84 j = nI n) ∧
  (∃ c : Nat, c ≤ 5 ∧ M 62 34 = nI c) ∧ (∀ j, j < 25 → ∃ q : Nat, q ≤ 12 ∧ M 75 j = nI q)
theorem nI_mulc (c a : Nat) : nI c * nI a = nI (c * a) := (Int32.ofNat_mul c a).symm
theorem c_X10_within (v a b : Int64) {l : Launch} {G : xG} {sh : List xS} {M : xM} {J : xJ} : x_M l G fX10_within 0 0 0 [.long (v), .long (a), .long (b)] sh M J (qE (some (.int (bI (a ≤ v ∧ v ≤ b)))) sh M J) := by
  refine xb_of pX10 (Nat.le_of_ble_eq_true rfl) rfl ?_
  refine xr_lload_n dX10_within_0 0 rfl ?_
  refine xr_lload_n dX10_within_1 1 rfl ?_
  refine xr_lcmp dX10_within_2 ?_
  refine xl_lt (tgt := 17) dX10_within_3 rfl (fun c1 => ?_) (fun c1 => ?_)
  · refine xr_iconst (v := 0) dX10_within_17 rfl ?_
    exact xr_iret dX10_within_18 rfl rfl (⟨congrArg (fun z => some (Value.int z)) (bI_f (by grind)).symm, rfl, rfl, rfl⟩)
  · refine xr_lload_n dX10_within_6 0 rfl ?_
    refine xr_lload dX10_within_7 2 rfl ?_
    refine xr_lcmp dX10_within_9 ?_
    refine xl_gt (tgt := 17) dX10_within_10 rfl (fun c2 => ?_) (fun c2 => ?_)
    · refine xr_iconst (v := 0) dX10_within_17 rfl ?_
      exact xr_iret dX10_within_18 rfl rfl (⟨congrArg (fun z => some (Value.int z)) (bI_f (by grind)).symm, rfl, rfl, rfl⟩)
    · refine xr_iconst (v := 1) dX10_within_13 rfl ?_
      refine xr_goto (tgt := 18) dX10_within_14 rfl ?_
      exact xr_iret dX10_within_18 rfl rfl (⟨congrArg (fun z => some (Value.int z)) (bI_t (by grind)).symm, rfl, rfl, rfl⟩)
theorem c_within32 (v a b : Int32) {A B : Int64} (hA : a.toInt64 = A) (hB : b.toInt64 = B) {l : Launch} {G : xG} {sh : List xS} {M : xM} {J : xJ} : x_M l G fX10_within 0 0 0 [.long v.toInt64, .long A, .long B] sh M J (qE (some (.int (bI (a ≤ v ∧ v ≤ b)))) sh M J) := by
  subst hA; subst hB
  rw [show bI (a ≤ v ∧ v ≤ b) = bI (a.toInt64 ≤ v.toInt64 ∧ v.toInt64 ≤ b.toInt64) from x_bI_c (by rw [x_i64_le, x_i64_le])]
  exact c_X10_within _ _ _
set_option maxRecDepth 100000 in
set_option maxHeartbeats 4000000 in
theorem c_X10_isGirl (v : Int32) {l : Launch} {G : xG} {sh : List xS} {M : xM} {J : xJ} : x_M l G fX10_isGirl 1 0 0 [.int (v)] sh M J (qE (some (.int (bI (0 ≤ v ∧ v ≤ 24)))) sh M J) := by
  refine xb_of pX10 (Nat.le_of_ble_eq_true rfl) rfl ?_
  refine xr_iload_n dX10_isGirl_0 0 rfl ?_
  refine xr_i2l dX10_isGirl_1 ?_
  refine xr_lconst (v := 0) dX10_isGirl_2 rfl ?_
  refine xr_ldc2 coX10_158 dX10_isGirl_3 ?_
  refine xb_cS (As := [.long ((v).toInt64), .long (0), .long (24)]) (rest := []) mlX10_101 (c_within32 (v) (0) (24) (by decide) (by decide)) dX10_isGirl_6 rfl rfl (Nat.le_of_ble_eq_true rfl) (by decide) (by decide) ?_
  exact xr_iret dX10_isGirl_9 rfl (bI_n _) (⟨rfl, rfl, rfl, rfl⟩)
set_option maxRecDepth 100000 in
set_option maxHeartbeats 4000000 in
theorem c_X10_isShelf (v : Int32) {l : Launch} {G : xG} {sh : List xS} {M : xM} {J : xJ} : x_M l G fX10_isShelf 1 0 0 [.int (v)] sh M J (qE (some (.int (bI (0 ≤ v ∧ v ≤ 5)))) sh M J) := by
  refine xb_of pX10 (Nat.le_of_ble_eq_true rfl) rfl ?_
  refine xr_iload_n dX10_isShelf_0 0 rfl ?_
  refine xr_i2l dX10_isShelf_1 ?_
  refine xr_lconst (v := 0) dX10_isShelf_2 rfl ?_
  refine xr_ldc2 coX10_129 dX10_isShelf_3 ?_
  refine xb_cS (As := [.long ((v).toInt64), .long (0), .long (5)]) (rest := []) mlX10_101 (c_within32 (v) (0) (5) (by decide) (by decide)) dX10_isShelf_6 rfl rfl (Nat.le_of_ble_eq_true rfl) (by decide) (by decide) ?_
  exact xr_iret dX10_isShelf_9 rfl (bI_n _) (⟨rfl, rfl, rfl, rfl⟩)
theorem sx_lt1 {v : Int32} {n : Nat} (hn : n ≤ 100) : (0 ≤ v ∧ v ≤ nI n - 1) ↔ (0 ≤ v ∧ v < nI n) := by
  have h1 : (nI n - 1).toInt = (n : Int) - 1 := (show ∀ n, n ≤ 100 → (nI n - 1).toInt = (n : Int) - 1 by decide +kernel) n hn
  simp only [Int32.le_iff_toInt_le, Int32.lt_iff_toInt_lt, h1, nI_toInt (n := n) (by omega)]
  constructor
  · rintro ⟨a, b⟩; exact ⟨a, by omega⟩
  · rintro ⟨a, b⟩; exact ⟨a, by omega⟩
set_option maxRecDepth 100000 in
set_option maxHeartbeats 4000000 in
theorem c_X10_isHoop (v : Int32) {l : Launch} {G : xG} {M : xM} {J : xJ} {hn : Nat} (h_hn : hn ≤ 5) (e_hn : M 62 6 = nI hn) : x_M l G fX10_isHoop 1 0 0 [.ref 62, .int (v)] x_SH M J (qE (some (.int (bI (0 ≤ v ∧ v < nI hn)))) x_SH M J) := by
  refine xb_of pX10 (Nat.le_of_ble_eq_true rfl) rfl ?_
  refine xr_iload_n dX10_isHoop_0 1 rfl ?_
  refine xr_i2l dX10_isHoop_1 ?_
  refine xr_lconst (v := 0) dX10_isHoop_2 rfl ?_
  refine xr_aload_n dX10_isHoop_3 0 rfl ?_
  refine xb_get (v := nI (hn)) flX10_109 dX10_isHoop_4 s_62 rfl e_hn ?_
  refine xr_iconst (v := 1) dX10_isHoop_7 rfl ?_
  refine xr_isub dX10_isHoop_8 ?_
  refine xr_i2l dX10_isHoop_9 ?_
  refine xb_cS (As := [.long ((v).toInt64), .long (0), .long ((((nI (hn)) - 1)).toInt64)]) (rest := []) mlX10_101 (c_within32 (v) (0) (((nI (hn)) - 1)) (by decide) rfl) dX10_isHoop_10 rfl rfl (Nat.le_of_ble_eq_true rfl) (by decide) (by decide) ?_
  exact xr_iret dX10_isHoop_13 rfl (bI_n _) (⟨congrArg (fun z => some (Value.int z)) (x_bI_c (sx_lt1 (by omega))), rfl, rfl, rfl⟩)
