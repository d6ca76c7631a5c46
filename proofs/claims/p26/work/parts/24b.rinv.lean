theorem dX10_isBody_0 : decode cX10_isBody 0 = .ok (.iload_n 1, 1) := by decide +kernel
theorem dX10_isBody_1 : decode cX10_isBody 1 = .ok (.i2l, 1) := by decide +kernel
theorem dX10_isBody_2 : decode cX10_isBody 2 = .ok (.lconst 0, 1) := by decide +kernel
theorem dX10_isBody_3 : decode cX10_isBody 3 = .ok (.aload_n 0, 1) := by decide +kernel
theorem dX10_isBody_4 : decode cX10_isBody 4 = .ok (.getfield 334, 3) := by decide +kernel
theorem dX10_isBody_7 : decode cX10_isBody 7 = .ok (.iconst 1, 1) := by decide +kernel
theorem dX10_isBody_8 : decode cX10_isBody 8 = .ok (.isub, 1) := by decide +kernel
theorem dX10_isBody_9 : decode cX10_isBody 9 = .ok (.i2l, 1) := by decide +kernel
theorem dX10_isBody_10 : decode cX10_isBody 10 = .ok (.invokestatic 101, 3) := by decide +kernel
theorem dX10_isBody_13 : decode cX10_isBody 13 = .ok (.ireturn, 1) := by decide +kernel
theorem dX10_isOne_0 : decode cX10_isOne 0 = .ok (.lload_n 0, 1) := by decide +kernel
theorem dX10_isOne_1 : decode cX10_isOne 1 = .ok (.lconst 1, 1) := by decide +kernel
theorem dX10_isOne_2 : decode cX10_isOne 2 = .ok (.ldc2_w 112, 3) := by decide +kernel
theorem dX10_isOne_5 : decode cX10_isOne 5 = .ok (.invokestatic 101, 3) := by decide +kernel
theorem dX10_isOne_8 : decode cX10_isOne 8 = .ok (.ifCond .eq 32, 3) := by decide +kernel
theorem dX10_isOne_40 : decode cX10_isOne 40 = .ok (.iconst 0, 1) := by decide +kernel
theorem dX10_isOne_41 : decode cX10_isOne 41 = .ok (.ireturn, 1) := by decide +kernel
theorem dX10_isOne_11 : decode cX10_isOne 11 = .ok (.lload_n 2, 1) := by decide +kernel
theorem dX10_isOne_12 : decode cX10_isOne 12 = .ok (.lconst 1, 1) := by decide +kernel
theorem dX10_isOne_13 : decode cX10_isOne 13 = .ok (.ldc2_w 112, 3) := by decide +kernel
theorem dX10_isOne_16 : decode cX10_isOne 16 = .ok (.invokestatic 101, 3) := by decide +kernel
theorem dX10_isOne_19 : decode cX10_isOne 19 = .ok (.ifCond .eq 21, 3) := by decide +kernel
theorem dX10_isOne_22 : decode cX10_isOne 22 = .ok (.lload 4, 2) := by decide +kernel
theorem dX10_isOne_24 : decode cX10_isOne 24 = .ok (.ldc2_w 114, 3) := by decide +kernel
theorem dX10_isOne_27 : decode cX10_isOne 27 = .ok (.ldc2_w 112, 3) := by decide +kernel
theorem dX10_isOne_30 : decode cX10_isOne 30 = .ok (.invokestatic 101, 3) := by decide +kernel
theorem dX10_isOne_33 : decode cX10_isOne 33 = .ok (.ifCond .eq 7, 3) := by decide +kernel
theorem dX10_isOne_36 : decode cX10_isOne 36 = .ok (.iconst 1, 1) := by decide +kernel
theorem dX10_isOne_37 : decode cX10_isOne 37 = .ok (.goto 4, 3) := by decide +kernel
theorem dX10_bitsOf_4 : decode cX10_bitsOf 4 = .ok (.iload_n 2, 1) := by decide +kernel
theorem dX10_bitsOf_5 : decode cX10_bitsOf 5 = .ok (.ifCond .eq 15, 3) := by decide +kernel
theorem dX10_bitsOf_20 : decode cX10_bitsOf 20 = .ok (.iload_n 1, 1) := by decide +kernel
theorem dX10_bitsOf_21 : decode cX10_bitsOf 21 = .ok (.ireturn, 1) := by decide +kernel
theorem dX10_bitsOf_8 : decode cX10_bitsOf 8 = .ok (.iinc 1 1, 3) := by decide +kernel
theorem dX10_bitsOf_11 : decode cX10_bitsOf 11 = .ok (.iload_n 2, 1) := by decide +kernel
theorem dX10_bitsOf_12 : decode cX10_bitsOf 12 = .ok (.iload_n 2, 1) := by decide +kernel
theorem dX10_bitsOf_13 : decode cX10_bitsOf 13 = .ok (.iconst 1, 1) := by decide +kernel
theorem dX10_bitsOf_14 : decode cX10_bitsOf 14 = .ok (.isub, 1) := by decide +kernel
theorem dX10_bitsOf_15 : decode cX10_bitsOf 15 = .ok (.iand, 1) := by decide +kernel
theorem dX10_bitsOf_16 : decode cX10_bitsOf 16 = .ok (.istore_n 2, 1) := by decide +kernel
theorem dX10_bitsOf_17 : decode cX10_bitsOf 17 = .ok (.goto (-13), 3) := by decide +kernel
set_option maxRecDepth 100000 in
set_option maxHeartbeats 4000000 in
theorem c_X10_isBody (v : Int32) {l : Launch} {G : xG} {M : xM} {J : xJ} {b : Nat} (h_b : b ≤ 50) (e_b : M 62 36 = nI b) : x_M l G fX10_isBody 1 0 0 [.ref 62, .int (v)] x_SH M J (qE (some (.int (bI (0 ≤ v ∧ v < nI b)))) x_SH M J) := by
  refine xb_of pX10 (Nat.le_of_ble_eq_true rfl) rfl ?_
  refine xr_iload_n dX10_isBody_0 1 rfl ?_
  refine xr_i2l dX10_isBody_1 ?_
  refine xr_lconst (v := 0) dX10_isBody_2 rfl ?_
  refine xr_aload_n dX10_isBody_3 0 rfl ?_
  refine xb_get (v := nI (b)) flX10_334 dX10_isBody_4 s_62 rfl e_b ?_
  refine xr_iconst (v := 1) dX10_isBody_7 rfl ?_
  refine xr_isub dX10_isBody_8 ?_
  refine xr_i2l dX10_isBody_9 ?_
  refine xb_cS (As := [.long ((v).toInt64), .long (0), .long ((((nI (b)) - 1)).toInt64)]) (rest := []) mlX10_101 (c_within32 (v) (0) (((nI (b)) - 1)) (by decide) rfl) dX10_isBody_10 rfl rfl (Nat.le_of_ble_eq_true rfl) (by decide) (by decide) ?_
  exact xr_iret dX10_isBody_13 rfl (bI_n _) (⟨congrArg (fun z => some (Value.int z)) (x_bI_c (sx_lt1 (by omega))), rfl, rfl, rfl⟩)
abbrev WAD (p k : Nat) : Prop := (p = 62 ∧ k = 6) ∨ (p = 63) ∨ (67 ≤ p ∧ p ≤ 68)
theorem sx_bit {v : Int32} (h : ¬ v = 0) : (v &&& (v - 1)).toBitVec.toNat < v.toBitVec.toNat := by
  have h0 : v.toBitVec.toNat ≠ 0 := fun q => h (Int32.toBitVec_inj.mp (BitVec.eq_of_toNat_eq (by rw [q]; rfl)))
  rw [Int32.toBitVec_and, BitVec.toNat_and]
  refine Nat.lt_of_le_of_lt Nat.and_le_right ?_
  rw [Int32.toBitVec_sub, BitVec.toNat_sub]
  have h1 : (1 : Int32).toBitVec.toNat = 1 := rfl
  rw [h1]
  have h2 := v.toBitVec.isLt
  rw [show 2 ^ 32 - 1 + v.toBitVec.toNat = (v.toBitVec.toNat - 1) + 2 ^ 32 by omega, Nat.add_mod_right, Nat.mod_eq_of_lt (by omega)]
  omega
set_option maxRecDepth 100000 in
set_option maxHeartbeats 4000000 in
theorem bo_l {se : Int32} {l : Launch} {G : xG} {M : xM} {J : xJ} : ∀ (m : Nat) (lf c : Int32), lf.toBitVec.toNat ≤ m → x_X l G fX10_bitsOf 0 0 0 (qPI M J (fun r => True)) 4 [(2, .int (lf)), (1, .int (c)), (0, .int (se))] [] x_SH M J 0 0 := by
  intro m
  induction m with
  | zero =>
    intro lf c hm
    refine xr_iload_n dX10_bitsOf_4 0 rfl ?_
    refine xr_if_eq (tgt := 20) dX10_bitsOf_5 rfl (fun c1 => ?_) (fun c1 => ?_)
    · refine xr_iload_n dX10_bitsOf_20 1 rfl ?_
      exact xr_iret dX10_bitsOf_21 rfl rfl (⟨_, rfl, rfl, rfl, rfl, trivial⟩)
    · have hlt := sx_bit c1
      exact absurd hm (by omega)
  | succ m ih =>
    intro lf c hm
    refine xr_iload_n dX10_bitsOf_4 0 rfl ?_
    refine xr_if_eq (tgt := 20) dX10_bitsOf_5 rfl (fun c1 => ?_) (fun c1 => ?_)
    · refine xr_iload_n dX10_bitsOf_20 1 rfl ?_
      exact xr_iret dX10_bitsOf_21 rfl rfl (⟨_, rfl, rfl, rfl, rfl, trivial⟩)
    · have hlt := sx_bit c1
      refine xr_iinc (v := c + 1) (ls2 := [(1, .int (c + 1)), (2, .int (lf)), (0, .int (se))]) dX10_bitsOf_8 1 rfl rfl (by decide) rfl ?_
      refine xr_iload_n dX10_bitsOf_11 1 rfl ?_
      refine xr_iload_n dX10_bitsOf_12 1 rfl ?_
      refine xr_iconst (v := 1) dX10_bitsOf_13 rfl ?_
      refine xr_isub dX10_bitsOf_14 ?_
      refine xr_iand dX10_bitsOf_15 ?_
      refine xr_istore_n (ls2 := [(2, .int ((lf &&& (lf - 1)))), (1, .int (c + 1)), (0, .int (se))]) dX10_bitsOf_16 (by decide) rfl ?_
      refine xr_goto (tgt := 4) dX10_bitsOf_17 rfl ?_
      refine xb_ls (ls2 := [(2, .int ((lf &&& (lf - 1)))), (1, .int (c + 1)), (0, .int (se))]) [0, 1, 2] rfl ?_
      exact ih (lf &&& (lf - 1)) (c + 1) (by omega)
