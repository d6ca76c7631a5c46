theorem dX10_bitsOf_0 : decode cX10_bitsOf 0 = .ok (.iconst 0, 1) := by decide +kernel
theorem dX10_bitsOf_1 : decode cX10_bitsOf 1 = .ok (.istore_n 1, 1) := by decide +kernel
theorem dX10_bitsOf_2 : decode cX10_bitsOf 2 = .ok (.iload_n 0, 1) := by decide +kernel
theorem dX10_bitsOf_3 : decode cX10_bitsOf 3 = .ok (.istore_n 2, 1) := by decide +kernel
theorem dX10_adds_0 : decode cX10_adds 0 = .ok (.aload_n 0, 1) := by decide +kernel
theorem dX10_adds_1 : decode cX10_adds 1 = .ok (.getfield 9, 3) := by decide +kernel
theorem dX10_adds_4 : decode cX10_adds 4 = .ok (.aload_n 0, 1) := by decide +kernel
theorem dX10_adds_5 : decode cX10_adds 5 = .ok (.getfield 109, 3) := by decide +kernel
theorem dX10_adds_8 : decode cX10_adds 8 = .ok (.iload_n 1, 1) := by decide +kernel
theorem dX10_adds_9 : decode cX10_adds 9 = .ok (.iastore, 1) := by decide +kernel
theorem dX10_adds_10 : decode cX10_adds 10 = .ok (.aload_n 0, 1) := by decide +kernel
theorem dX10_adds_11 : decode cX10_adds 11 = .ok (.getfield 9, 3) := by decide +kernel
theorem dX10_adds_14 : decode cX10_adds 14 = .ok (.iconst 5, 1) := by decide +kernel
theorem dX10_adds_15 : decode cX10_adds 15 = .ok (.aload_n 0, 1) := by decide +kernel
theorem dX10_adds_16 : decode cX10_adds 16 = .ok (.getfield 109, 3) := by decide +kernel
theorem dX10_adds_19 : decode cX10_adds 19 = .ok (.iadd, 1) := by decide +kernel
theorem dX10_adds_20 : decode cX10_adds 20 = .ok (.iload_n 2, 1) := by decide +kernel
theorem dX10_adds_21 : decode cX10_adds 21 = .ok (.iastore, 1) := by decide +kernel
theorem dX10_adds_22 : decode cX10_adds 22 = .ok (.aload_n 0, 1) := by decide +kernel
theorem dX10_adds_23 : decode cX10_adds 23 = .ok (.getfield 9, 3) := by decide +kernel
theorem dX10_adds_26 : decode cX10_adds 26 = .ok (.bipush 10, 2) := by decide +kernel
theorem dX10_adds_28 : decode cX10_adds 28 = .ok (.aload_n 0, 1) := by decide +kernel
theorem dX10_adds_29 : decode cX10_adds 29 = .ok (.getfield 109, 3) := by decide +kernel
theorem dX10_adds_32 : decode cX10_adds 32 = .ok (.iadd, 1) := by decide +kernel
theorem dX10_adds_33 : decode cX10_adds 33 = .ok (.iload_n 3, 1) := by decide +kernel
theorem dX10_adds_34 : decode cX10_adds 34 = .ok (.iastore, 1) := by decide +kernel
theorem dX10_adds_35 : decode cX10_adds 35 = .ok (.aload_n 0, 1) := by decide +kernel
theorem dX10_adds_36 : decode cX10_adds 36 = .ok (.getfield 22, 3) := by decide +kernel
theorem dX10_adds_39 : decode cX10_adds 39 = .ok (.aload_n 0, 1) := by decide +kernel
theorem dX10_adds_40 : decode cX10_adds 40 = .ok (.getfield 109, 3) := by decide +kernel
theorem dX10_adds_43 : decode cX10_adds 43 = .ok (.iconst 0, 1) := by decide +kernel
theorem dX10_adds_44 : decode cX10_adds 44 = .ok (.iastore, 1) := by decide +kernel
theorem dX10_adds_45 : decode cX10_adds 45 = .ok (.aload_n 0, 1) := by decide +kernel
theorem dX10_adds_46 : decode cX10_adds 46 = .ok (.getfield 25, 3) := by decide +kernel
theorem dX10_adds_49 : decode cX10_adds 49 = .ok (.aload_n 0, 1) := by decide +kernel
theorem dX10_adds_50 : decode cX10_adds 50 = .ok (.getfield 109, 3) := by decide +kernel
theorem dX10_adds_53 : decode cX10_adds 53 = .ok (.bipush 20, 2) := by decide +kernel
theorem dX10_adds_55 : decode cX10_adds 55 = .ok (.iastore, 1) := by decide +kernel
theorem dX10_adds_56 : decode cX10_adds 56 = .ok (.aload_n 0, 1) := by decide +kernel
theorem dX10_adds_57 : decode cX10_adds 57 = .ok (.dup, 1) := by decide +kernel
theorem dX10_adds_58 : decode cX10_adds 58 = .ok (.getfield 109, 3) := by decide +kernel
theorem dX10_adds_61 : decode cX10_adds 61 = .ok (.iconst 1, 1) := by decide +kernel
theorem dX10_adds_62 : decode cX10_adds 62 = .ok (.iadd, 1) := by decide +kernel
theorem dX10_adds_63 : decode cX10_adds 63 = .ok (.putfield 109, 3) := by decide +kernel
theorem dX10_adds_66 : decode cX10_adds 66 = .ok (.return_, 1) := by decide +kernel
set_option maxRecDepth 100000 in
set_option maxHeartbeats 4000000 in
theorem g_X10_bitsOf (se : Int32) {l : Launch} {G : xG} {M : xM} {J : xJ} : x_M l G fX10_bitsOf 0 0 0 [.int (se)] x_SH M J (qPI M J (fun r => True)) := by
  refine xb_of pX10 (Nat.le_of_ble_eq_true rfl) rfl ?_
  refine xr_iconst (v := 0) dX10_bitsOf_0 rfl ?_
  refine xr_istore_n (ls2 := [(1, .int (0)), (0, .int (se))]) dX10_bitsOf_1 (by decide) rfl ?_
  refine xr_iload_n dX10_bitsOf_2 1 rfl ?_
  refine xr_istore_n (ls2 := [(2, .int (se)), (1, .int (0)), (0, .int (se))]) dX10_bitsOf_3 (by decide) rfl ?_
  refine xb_ls (ls2 := [(2, .int (se)), (1, .int (0)), (0, .int (se))]) [0, 1, 2] rfl ?_
  exact bo_l _ se 0 (Nat.le_refl _)
theorem ad_w {M : xM} {hn : Nat} {si he pa z : Int32} (h5 : hn < 5) (h : he ≠ 0) (hw : ∀ k, k < hn → M 63 (5 + k) ≠ 0) : ∀ k, k < hn + 1 → (x_up (x_up (x_up (x_up (x_up (x_up M 63 hn si) 63 (5 + hn) he) 63 (10 + hn) pa) 67 hn 0) 68 hn 20) 62 6 z) 63 (5 + k) ≠ 0 := fun k hk => by
  rw [congrFun (x_up_n _ 6 z (by decide)) _, congrFun (x_up_n _ hn 20 (by decide)) _, congrFun (x_up_n _ hn 0 (by decide)) _, x_up_k _ _ _ (by omega)]
  by_cases e : k = hn
  · subst e; rw [x_up_s]; exact h
  · rw [x_up_k _ _ _ (by omega), x_up_k _ _ _ (by omega)]; exact hw k (by omega)
theorem ad_b {M : xM} {hn : Nat} {si he pa z : Int32} (h5 : hn < 5) (h : M 63 16 ≠ 0) : (x_up (x_up (x_up (x_up (x_up (x_up M 63 hn si) 63 (5 + hn) he) 63 (10 + hn) pa) 67 hn 0) 68 hn 20) 62 6 z) 63 16 ≠ 0 := by
  rw [congrFun (x_up_n _ 6 z (by decide)) _, congrFun (x_up_n _ hn 20 (by decide)) _, congrFun (x_up_n _ hn 0 (by decide)) _, x_up_k _ _ _ (by omega), x_up_k _ _ _ (by omega), x_up_k _ _ _ (by omega)]; exact h