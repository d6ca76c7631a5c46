theorem dX10_begins1_0 : decode cX10_begins1 0 = .ok (.iconst 0, 1) := by decide +kernel
theorem dX10_begins1_1 : decode cX10_begins1 1 = .ok (.istore_n 2, 1) := by decide +kernel
theorem dX10_begins1_2 : decode cX10_begins1 2 = .ok (.iload_n 2, 1) := by decide +kernel
theorem dX10_begins1_3 : decode cX10_begins1 3 = .ok (.aload_n 0, 1) := by decide +kernel
theorem dX10_begins1_4 : decode cX10_begins1 4 = .ok (.getfield 109, 3) := by decide +kernel
theorem dX10_begins1_7 : decode cX10_begins1 7 = .ok (.if_icmp .ge 72, 3) := by decide +kernel
theorem dX10_begins1_79 : decode cX10_begins1 79 = .ok (.return_, 1) := by decide +kernel
theorem dX10_upNow_0 : decode cX10_upNow 0 = .ok (.iconst 0, 1) := by decide +kernel
theorem dX10_upNow_1 : decode cX10_upNow 1 = .ok (.istore_n 1, 1) := by decide +kernel
theorem dX10_upNow_2 : decode cX10_upNow 2 = .ok (.iconst 0, 1) := by decide +kernel
theorem dX10_upNow_3 : decode cX10_upNow 3 = .ok (.istore_n 2, 1) := by decide +kernel
theorem dX10_upNow_4 : decode cX10_upNow 4 = .ok (.iload_n 2, 1) := by decide +kernel
theorem dX10_upNow_5 : decode cX10_upNow 5 = .ok (.aload_n 0, 1) := by decide +kernel
theorem dX10_upNow_6 : decode cX10_upNow 6 = .ok (.getfield 109, 3) := by decide +kernel
theorem dX10_upNow_9 : decode cX10_upNow 9 = .ok (.if_icmp .ge 28, 3) := by decide +kernel
theorem dX10_upNow_37 : decode cX10_upNow 37 = .ok (.iload_n 1, 1) := by decide +kernel
theorem dX10_upNow_38 : decode cX10_upNow 38 = .ok (.ireturn, 1) := by decide +kernel
theorem dX10_lyingOf_0 : decode cX10_lyingOf 0 = .ok (.iconst 0, 1) := by decide +kernel
theorem dX10_lyingOf_1 : decode cX10_lyingOf 1 = .ok (.istore_n 2, 1) := by decide +kernel
theorem dX10_lyingOf_2 : decode cX10_lyingOf 2 = .ok (.iconst 0, 1) := by decide +kernel
theorem dX10_lyingOf_3 : decode cX10_lyingOf 3 = .ok (.istore_n 3, 1) := by decide +kernel
theorem dX10_lyingOf_4 : decode cX10_lyingOf 4 = .ok (.iload_n 3, 1) := by decide +kernel
theorem dX10_lyingOf_5 : decode cX10_lyingOf 5 = .ok (.aload_n 0, 1) := by decide +kernel
theorem dX10_lyingOf_6 : decode cX10_lyingOf 6 = .ok (.getfield 109, 3) := by decide +kernel
theorem dX10_lyingOf_9 : decode cX10_lyingOf 9 = .ok (.if_icmp .ge 34, 3) := by decide +kernel
theorem dX10_lyingOf_43 : decode cX10_lyingOf 43 = .ok (.iload_n 2, 1) := by decide +kernel
theorem dX10_lyingOf_44 : decode cX10_lyingOf 44 = .ok (.ireturn, 1) := by decide +kernel
theorem dX10_pushes_0 : decode cX10_pushes 0 = .ok (.iconst 0, 1) := by decide +kernel
theorem dX10_pushes_1 : decode cX10_pushes 1 = .ok (.istore_n 3, 1) := by decide +kernel
theorem dX10_pushes_2 : decode cX10_pushes 2 = .ok (.iload_n 3, 1) := by decide +kernel
theorem dX10_pushes_3 : decode cX10_pushes 3 = .ok (.aload_n 0, 1) := by decide +kernel
theorem dX10_pushes_4 : decode cX10_pushes 4 = .ok (.getfield 109, 3) := by decide +kernel
theorem dX10_pushes_7 : decode cX10_pushes 7 = .ok (.if_icmp .ge 69, 3) := by decide +kernel
theorem dX10_pushes_76 : decode cX10_pushes 76 = .ok (.return_, 1) := by decide +kernel
theorem dX10_turns_0 : decode cX10_turns 0 = .ok (.iconst 0, 1) := by decide +kernel
theorem dX10_turns_1 : decode cX10_turns 1 = .ok (.istore_n 2, 1) := by decide +kernel
theorem dX10_turns_2 : decode cX10_turns 2 = .ok (.iload_n 2, 1) := by decide +kernel
theorem dX10_turns_3 : decode cX10_turns 3 = .ok (.aload_n 0, 1) := by decide +kernel
theorem dX10_turns_4 : decode cX10_turns 4 = .ok (.getfield 109, 3) := by decide +kernel
theorem dX10_turns_7 : decode cX10_turns 7 = .ok (.if_icmp .ge 80, 3) := by decide +kernel
theorem dX10_turns_87 : decode cX10_turns 87 = .ok (.iconst 0, 1) := by decide +kernel
theorem dX10_turns_88 : decode cX10_turns 88 = .ok (.istore_n 2, 1) := by decide +kernel
theorem dX10_turns_89 : decode cX10_turns 89 = .ok (.iload_n 2, 1) := by decide +kernel
theorem dX10_turns_90 : decode cX10_turns 90 = .ok (.aload_n 0, 1) := by decide +kernel
theorem dX10_turns_91 : decode cX10_turns 91 = .ok (.getfield 109, 3) := by decide +kernel
theorem dX10_turns_94 : decode cX10_turns 94 = .ok (.if_icmp .ge 92, 3) := by decide +kernel
theorem dX10_turns_186 : decode cX10_turns 186 = .ok (.iconst 0, 1) := by decide +kernel
theorem dX10_turns_187 : decode cX10_turns 187 = .ok (.istore_n 2, 1) := by decide +kernel
theorem dX10_turns_188 : decode cX10_turns 188 = .ok (.iload_n 2, 1) := by decide +kernel
theorem dX10_turns_189 : decode cX10_turns 189 = .ok (.aload_n 0, 1) := by decide +kernel
theorem dX10_turns_190 : decode cX10_turns 190 = .ok (.getfield 109, 3) := by decide +kernel
theorem dX10_turns_193 : decode cX10_turns 193 = .ok (.if_icmp .ge 106, 3) := by decide +kernel
theorem dX10_turns_299 : decode cX10_turns 299 = .ok (.return_, 1) := by decide +kernel
theorem dX10_bitsOf_0 : decode cX10_bitsOf 0 = .ok (.iconst 0, 1) := by decide +kernel
theorem dX10_bitsOf_1 : decode cX10_bitsOf 1 = .ok (.istore_n 1, 1) := by decide +kernel
theorem dX10_bitsOf_2 : decode cX10_bitsOf 2 = .ok (.iload_n 0, 1) := by decide +kernel
theorem dX10_bitsOf_3 : decode cX10_bitsOf 3 = .ok (.istore_n 2, 1) := by decide +kernel
theorem dX10_bitsOf_4 : decode cX10_bitsOf 4 = .ok (.iload_n 2, 1) := by decide +kernel
theorem dX10_bitsOf_5 : decode cX10_bitsOf 5 = .ok (.ifCond .eq 15, 3) := by decide +kernel
theorem dX10_bitsOf_20 : decode cX10_bitsOf 20 = .ok (.iload_n 1, 1) := by decide +kernel
theorem dX10_bitsOf_21 : decode cX10_bitsOf 21 = .ok (.ireturn, 1) := by decide +kernel
theorem dX10_isPush_0 : decode cX10_isPush 0 = .ok (.iload_n 1, 1) := by decide +kernel
theorem dX10_isPush_1 : decode cX10_isPush 1 = .ok (.aload_n 0, 1) := by decide +kernel
theorem dX10_isPush_2 : decode cX10_isPush 2 = .ok (.getfield 9, 3) := by decide +kernel
theorem dX10_isPush_5 : decode cX10_isPush 5 = .ok (.bipush 16, 2) := by decide +kernel
theorem dX10_isPush_7 : decode cX10_isPush 7 = .ok (.iaload, 1) := by decide +kernel
theorem dX10_isPush_8 : decode cX10_isPush 8 = .ok (.irem, 1) := by decide +kernel
theorem dX10_isPush_9 : decode cX10_isPush 9 = .ok (.aload_n 0, 1) := by decide +kernel
theorem dX10_isPush_10 : decode cX10_isPush 10 = .ok (.getfield 9, 3) := by decide +kernel
theorem dX10_isPush_13 : decode cX10_isPush 13 = .ok (.bipush 17, 2) := by decide +kernel
theorem dX10_isPush_15 : decode cX10_isPush 15 = .ok (.iaload, 1) := by decide +kernel
theorem dX10_isPush_16 : decode cX10_isPush 16 = .ok (.aload_n 0, 1) := by decide +kernel
theorem dX10_isPush_17 : decode cX10_isPush 17 = .ok (.getfield 9, 3) := by decide +kernel
theorem dX10_isPush_20 : decode cX10_isPush 20 = .ok (.bipush 16, 2) := by decide +kernel
theorem dX10_isPush_22 : decode cX10_isPush 22 = .ok (.iaload, 1) := by decide +kernel
theorem dX10_isPush_23 : decode cX10_isPush 23 = .ok (.irem, 1) := by decide +kernel
theorem dX10_isPush_24 : decode cX10_isPush 24 = .ok (.if_icmp .ne 7, 3) := by decide +kernel
theorem dX10_isPush_31 : decode cX10_isPush 31 = .ok (.iconst 0, 1) := by decide +kernel
theorem dX10_isPush_32 : decode cX10_isPush 32 = .ok (.ireturn, 1) := by decide +kernel
theorem dX10_isPush_27 : decode cX10_isPush 27 = .ok (.iconst 1, 1) := by decide +kernel
theorem dX10_isPush_28 : decode cX10_isPush 28 = .ok (.goto 4, 3) := by decide +kernel
theorem dX10_toOf_0 : decode cX10_toOf 0 = .ok (.iload_n 1, 1) := by decide +kernel
theorem dX10_toOf_1 : decode cX10_toOf 1 = .ok (.aload_n 0, 1) := by decide +kernel
theorem dX10_toOf_2 : decode cX10_toOf 2 = .ok (.getfield 9, 3) := by decide +kernel
theorem dX10_toOf_5 : decode cX10_toOf 5 = .ok (.bipush 16, 2) := by decide +kernel
theorem dX10_toOf_7 : decode cX10_toOf 7 = .ok (.iaload, 1) := by decide +kernel
theorem dX10_toOf_8 : decode cX10_toOf 8 = .ok (.idiv, 1) := by decide +kernel
theorem dX10_toOf_9 : decode cX10_toOf 9 = .ok (.iconst 2, 1) := by decide +kernel
theorem dX10_toOf_10 : decode cX10_toOf 10 = .ok (.irem, 1) := by decide +kernel
theorem dX10_toOf_11 : decode cX10_toOf 11 = .ok (.ifCond .ne 7, 3) := by decide +kernel
theorem dX10_toOf_18 : decode cX10_toOf 18 = .ok (.bipush 12, 2) := by decide +kernel
theorem dX10_toOf_20 : decode cX10_toOf 20 = .ok (.ireturn, 1) := by decide +kernel
theorem dX10_toOf_14 : decode cX10_toOf 14 = .ok (.iconst 0, 1) := by decide +kernel
theorem dX10_toOf_15 : decode cX10_toOf 15 = .ok (.goto 5, 3) := by decide +kernel
theorem dX10_tickGoes_0 : decode cX10_tickGoes 0 = .ok (.aload_n 0, 1) := by decide +kernel
theorem dX10_tickGoes_1 : decode cX10_tickGoes 1 = .ok (.iload_n 1, 1) := by decide +kernel
theorem dX10_tickGoes_2 : decode cX10_tickGoes 2 = .ok (.invokevirtual 228, 3) := by decide +kernel
theorem dX10_tickGoes_5 : decode cX10_tickGoes 5 = .ok (.ifCond .eq 29, 3) := by decide +kernel
theorem dX10_tickGoes_34 : decode cX10_tickGoes 34 = .ok (.aload_n 0, 1) := by decide +kernel
theorem dX10_tickGoes_35 : decode cX10_tickGoes 35 = .ok (.iload_n 1, 1) := by decide +kernel
theorem dX10_tickGoes_36 : decode cX10_tickGoes 36 = .ok (.invokevirtual 240, 3) := by decide +kernel
theorem dX10_tickGoes_39 : decode cX10_tickGoes 39 = .ok (.return_, 1) := by decide +kernel
theorem dX10_tickGoes_8 : decode cX10_tickGoes 8 = .ok (.aload_n 0, 1) := by decide +kernel
theorem dX10_tickGoes_9 : decode cX10_tickGoes 9 = .ok (.aload_n 0, 1) := by decide +kernel
theorem dX10_tickGoes_10 : decode cX10_tickGoes 10 = .ok (.iload_n 1, 1) := by decide +kernel
theorem dX10_tickGoes_11 : decode cX10_tickGoes 11 = .ok (.invokevirtual 231, 3) := by decide +kernel
theorem dX10_tickGoes_14 : decode cX10_tickGoes 14 = .ok (.aload_n 0, 1) := by decide +kernel
theorem dX10_tickGoes_15 : decode cX10_tickGoes 15 = .ok (.getfield 9, 3) := by decide +kernel
theorem dX10_tickGoes_18 : decode cX10_tickGoes 18 = .ok (.bipush 18, 2) := by decide +kernel
theorem dX10_tickGoes_20 : decode cX10_tickGoes 20 = .ok (.iaload, 1) := by decide +kernel
theorem dX10_tickGoes_21 : decode cX10_tickGoes 21 = .ok (.invokevirtual 234, 3) := by decide +kernel
theorem dX10_tickGoes_24 : decode cX10_tickGoes 24 = .ok (.aload_n 0, 1) := by decide +kernel
theorem dX10_tickGoes_25 : decode cX10_tickGoes 25 = .ok (.dup, 1) := by decide +kernel
theorem dX10_tickGoes_26 : decode cX10_tickGoes 26 = .ok (.getfield 237, 3) := by decide +kernel
theorem dX10_tickGoes_29 : decode cX10_tickGoes 29 = .ok (.iconst 1, 1) := by decide +kernel
theorem dX10_tickGoes_30 : decode cX10_tickGoes 30 = .ok (.iadd, 1) := by decide +kernel
theorem dX10_tickGoes_31 : decode cX10_tickGoes 31 = .ok (.putfield 237, 3) := by decide +kernel
theorem dX10_lastsOf_7 : decode cX10_lastsOf 7 = .ok (.iload_n 2, 1) := by decide +kernel
theorem dX10_lastsOf_8 : decode cX10_lastsOf 8 = .ok (.sipush 200, 3) := by decide +kernel
theorem dX10_lastsOf_11 : decode cX10_lastsOf 11 = .ok (.if_icmp .ge 29, 3) := by decide +kernel
theorem dX10_lastsOf_40 : decode cX10_lastsOf 40 = .ok (.sipush 200, 3) := by decide +kernel
theorem dX10_lastsOf_43 : decode cX10_lastsOf 43 = .ok (.ireturn, 1) := by decide +kernel
theorem dX10_lastsOf_14 : decode cX10_lastsOf 14 = .ok (.aload_n 0, 1) := by decide +kernel
theorem dX10_lastsOf_15 : decode cX10_lastsOf 15 = .ok (.aload_n 0, 1) := by decide +kernel
theorem dX10_lastsOf_16 : decode cX10_lastsOf 16 = .ok (.getfield 151, 3) := by decide +kernel
theorem dX10_lastsOf_19 : decode cX10_lastsOf 19 = .ok (.iload_n 2, 1) := by decide +kernel
theorem dX10_lastsOf_20 : decode cX10_lastsOf 20 = .ok (.iadd, 1) := by decide +kernel
theorem dX10_lastsOf_21 : decode cX10_lastsOf 21 = .ok (.invokevirtual 255, 3) := by decide +kernel
theorem dX10_lastsOf_24 : decode cX10_lastsOf 24 = .ok (.aload_n 0, 1) := by decide +kernel
theorem dX10_lastsOf_25 : decode cX10_lastsOf 25 = .ok (.iload_n 1, 1) := by decide +kernel
theorem dX10_lastsOf_26 : decode cX10_lastsOf 26 = .ok (.invokevirtual 252, 3) := by decide +kernel
theorem dX10_lastsOf_29 : decode cX10_lastsOf 29 = .ok (.ifCond .le 5, 3) := by decide +kernel
theorem dX10_lastsOf_34 : decode cX10_lastsOf 34 = .ok (.iinc 2 1, 3) := by decide +kernel
theorem dX10_lastsOf_37 : decode cX10_lastsOf 37 = .ok (.goto (-30), 3) := by decide +kernel
theorem dX10_lastsOf_0 : decode cX10_lastsOf 0 = .ok (.aload_n 0, 1) := by decide +kernel
theorem dX10_lastsOf_1 : decode cX10_lastsOf 1 = .ok (.iload_n 1, 1) := by decide +kernel
theorem dX10_lastsOf_2 : decode cX10_lastsOf 2 = .ok (.invokevirtual 249, 3) := by decide +kernel
theorem dX10_lastsOf_5 : decode cX10_lastsOf 5 = .ok (.iconst 0, 1) := by decide +kernel
theorem dX10_lastsOf_6 : decode cX10_lastsOf 6 = .ok (.istore_n 2, 1) := by decide +kernel
theorem dX10_lasts_0 : decode cX10_lasts 0 = .ok (.aload_n 0, 1) := by decide +kernel
theorem dX10_lasts_1 : decode cX10_lasts 1 = .ok (.aload_n 0, 1) := by decide +kernel
theorem dX10_lasts_2 : decode cX10_lasts 2 = .ok (.invokevirtual 246, 3) := by decide +kernel
theorem dX10_lasts_5 : decode cX10_lasts 5 = .ok (.invokevirtual 267, 3) := by decide +kernel
theorem dX10_lasts_8 : decode cX10_lasts 8 = .ok (.ireturn, 1) := by decide +kernel
/-- the reference has no hoop, and its beat is not 0 -/
def R0 (M : xM) : Prop := M 62 6 = 0 ∧ ¬ M 63 16 = 0
theorem R0_up {M : xM} {p k : Nat} {v : Int32} (h : ¬ (p = 62 ∧ k = 6) ∧ ((p = 63 ∧ k = 16) → ¬ v = 0)) (e : R0 M) : R0 (x_up M p k v) := by
  constructor
  · by_cases hp : 62 = p
    · subst hp; rw [x_up_k _ _ _ (fun z => h.1 ⟨rfl, z.symm⟩)]; exact e.1
    · rw [x_up_n _ _ _ hp]; exact e.1
  · by_cases hp : 63 = p
    · subst hp
      by_cases hk : 16 = k
      · subst hk; rw [x_up_s]; exact h.2 ⟨rfl, rfl⟩
      · rw [x_up_k _ _ _ hk]; exact e.2
    · rw [x_up_n _ _ _ hp]; exact e.2
theorem x_up_id (M : xM) (p k : Nat) : x_up M p k (M p k) = M := by
  funext q j
  by_cases hq : q = p
  · subst hq
    by_cases hj : j = k
    · subst hj; exact x_up_s _ _ _ _
    · exact x_up_k _ _ _ hj
  · rw [x_up_n _ _ _ hq]
theorem R0_Fr {M : xM} (h : Fr M) : R0 M := ⟨Fr_r h (by decide) (by decide +kernel), fun q => absurd ((Fr_r (p := 63) (k := 16) (v := 6) h (by decide) (by decide +kernel)).symm.trans q) (by decide)⟩
theorem mz_83 : ∀ j, j < 6 → z_M 83 j = -1 := by decide +kernel
theorem mz_84 : ∀ j, j < 6 → z_M 84 j = 0 := by decide +kernel
theorem mz_75 : ∀ j, j < 25 → z_M 75 j = 9 := by decide +kernel
theorem mz_76 : ∀ j, j < 25 → z_M 76 j = 0 := by decide +kernel
theorem mi_83 {M : xM} (h : Fr M) (j : Nat) (hj : j < 6) : M 83 j = -1 := Fr_r h (by decide) (mz_83 j hj)
theorem mi_84 {M : xM} (h : Fr M) (j : Nat) (hj : j < 6) : M 84 j = 0 := Fr_r h (by decide) (mz_84 j hj)
theorem mi_75 {M : xM} (h : Fr M) (j : Nat) (hj : j < 25) : M 75 j = 9 := Fr_r h (by decide) (mz_75 j hj)
theorem mi_76 {M : xM} (h : Fr M) (j : Nat) (hj : j < 25) : M 76 j = 0 := Fr_r h (by decide) (mz_76 j hj)
set_option maxRecDepth 100000 in
set_option maxHeartbeats 4000000 in
theorem r0_begins1 (s : Int32) {l : Launch} {G : xG} {M : xM} {J : xJ} (e : R0 M) : x_M l G fX10_begins1 0 0 0 [.ref (62), .int (s)] x_SH M J (qE (none) x_SH M J) := by
  refine xb_of pX10 (Nat.le_of_ble_eq_true rfl) rfl ?_
  refine xr_iconst (v := 0) dX10_begins1_0 rfl ?_
  refine xr_istore_n (ls2 := [(2, .int (0)), (0, .ref (62)), (1, .int (s))]) dX10_begins1_1 (by decide) rfl ?_
  refine xr_iload_n dX10_begins1_2 0 rfl ?_
  refine xr_aload_n dX10_begins1_3 1 rfl ?_
  refine xb_get (v := 0) flX10_109 dX10_begins1_4 s_62 rfl e.1 ?_
  refine xr_icmp_ge (tgt := 79) dX10_begins1_7 rfl (fun _ => ?_) (fun c => absurd (by decide) c)
  exact xr_vret dX10_begins1_79 rfl (⟨rfl, rfl, rfl, rfl⟩)
set_option maxRecDepth 100000 in
set_option maxHeartbeats 4000000 in
theorem r0_upNow {l : Launch} {G : xG} {M : xM} {J : xJ} (e : R0 M) : x_M l G fX10_upNow 0 0 0 [.ref (62)] x_SH M J (qE (some (.int 0)) x_SH M J) := by
  refine xb_of pX10 (Nat.le_of_ble_eq_true rfl) rfl ?_
  refine xr_iconst (v := 0) dX10_upNow_0 rfl ?_
  refine xr_istore_n (ls2 := [(1, .int (0)), (0, .ref (62))]) dX10_upNow_1 (by decide) rfl ?_
  refine xr_iconst (v := 0) dX10_upNow_2 rfl ?_
  refine xr_istore_n (ls2 := [(2, .int (0)), (1, .int (0)), (0, .ref (62))]) dX10_upNow_3 (by decide) rfl ?_
  refine xr_iload_n dX10_upNow_4 0 rfl ?_
  refine xr_aload_n dX10_upNow_5 2 rfl ?_
  refine xb_get (v := 0) flX10_109 dX10_upNow_6 s_62 rfl e.1 ?_
  refine xr_icmp_ge (tgt := 37) dX10_upNow_9 rfl (fun _ => ?_) (fun c => absurd (by decide) c)
  refine xr_iload_n dX10_upNow_37 1 rfl ?_
  exact xr_iret dX10_upNow_38 rfl rfl (⟨rfl, rfl, rfl, rfl⟩)
set_option maxRecDepth 100000 in
set_option maxHeartbeats 4000000 in
theorem r0_lyingOf (s : Int32) {l : Launch} {G : xG} {M : xM} {J : xJ} (e : R0 M) : x_M l G fX10_lyingOf 0 0 0 [.ref (62), .int (s)] x_SH M J (qE (some (.int 0)) x_SH M J) := by
  refine xb_of pX10 (Nat.le_of_ble_eq_true rfl) rfl ?_
  refine xr_iconst (v := 0) dX10_lyingOf_0 rfl ?_
  refine xr_istore_n (ls2 := [(2, .int (0)), (0, .ref (62)), (1, .int (s))]) dX10_lyingOf_1 (by decide) rfl ?_
  refine xr_iconst (v := 0) dX10_lyingOf_2 rfl ?_
  refine xr_istore_n (ls2 := [(3, .int (0)), (2, .int (0)), (0, .ref (62)), (1, .int (s))]) dX10_lyingOf_3 (by decide) rfl ?_
  refine xr_iload_n dX10_lyingOf_4 0 rfl ?_
  refine xr_aload_n dX10_lyingOf_5 2 rfl ?_
  refine xb_get (v := 0) flX10_109 dX10_lyingOf_6 s_62 rfl e.1 ?_
  refine xr_icmp_ge (tgt := 43) dX10_lyingOf_9 rfl (fun _ => ?_) (fun c => absurd (by decide) c)
  refine xr_iload_n dX10_lyingOf_43 1 rfl ?_
  exact xr_iret dX10_lyingOf_44 rfl rfl (⟨rfl, rfl, rfl, rfl⟩)
set_option maxRecDepth 100000 in
set_option maxHeartbeats 4000000 in
theorem r0_pushes (a b : Int32) {l : Launch} {G : xG} {M : xM} {J : xJ} (e : R0 M) : x_M l G fX10_pushes 0 0 0 [.ref (62), .int (a), .int (b)] x_SH M J (qE (none) x_SH M J) := by
  refine xb_of pX10 (Nat.le_of_ble_eq_true rfl) rfl ?_
  refine xr_iconst (v := 0) dX10_pushes_0 rfl ?_
  refine xr_istore_n (ls2 := [(3, .int (0)), (0, .ref (62)), (1, .int (a)), (2, .int (b))]) dX10_pushes_1 (by decide) rfl ?_
  refine xr_iload_n dX10_pushes_2 0 rfl ?_
  refine xr_aload_n dX10_pushes_3 1 rfl ?_
  refine xb_get (v := 0) flX10_109 dX10_pushes_4 s_62 rfl e.1 ?_
  refine xr_icmp_ge (tgt := 76) dX10_pushes_7 rfl (fun _ => ?_) (fun c => absurd (by decide) c)
  exact xr_vret dX10_pushes_76 rfl (⟨rfl, rfl, rfl, rfl⟩)
set_option maxRecDepth 100000 in
set_option maxHeartbeats 4000000 in
theorem r0_turns (a : Int32) {l : Launch} {G : xG} {M : xM} {J : xJ} (e : R0 M) : x_M l G fX10_turns 0 0 0 [.ref (62), .int (a)] x_SH M J (qE (none) x_SH M J) := by
  refine xb_of pX10 (Nat.le_of_ble_eq_true rfl) rfl ?_
  refine xr_iconst (v := 0) dX10_turns_0 rfl ?_
  refine xr_istore_n (ls2 := [(2, .int (0)), (0, .ref (62)), (1, .int (a))]) dX10_turns_1 (by decide) rfl ?_
  refine xr_iload_n dX10_turns_2 0 rfl ?_
  refine xr_aload_n dX10_turns_3 1 rfl ?_
  refine xb_get (v := 0) flX10_109 dX10_turns_4 s_62 rfl e.1 ?_
  refine xr_icmp_ge (tgt := 87) dX10_turns_7 rfl (fun _ => ?_) (fun c => absurd (by decide) c)
  refine xr_iconst (v := 0) dX10_turns_87 rfl ?_
  refine xr_istore_n (ls2 := [(2, .int (0)), (0, .ref (62)), (1, .int (a))]) dX10_turns_88 (by decide) rfl ?_
  refine xr_iload_n dX10_turns_89 0 rfl ?_
  refine xr_aload_n dX10_turns_90 1 rfl ?_
  refine xb_get (v := 0) flX10_109 dX10_turns_91 s_62 rfl e.1 ?_
  refine xr_icmp_ge (tgt := 186) dX10_turns_94 rfl (fun _ => ?_) (fun c => absurd (by decide) c)
  refine xr_iconst (v := 0) dX10_turns_186 rfl ?_
  refine xr_istore_n (ls2 := [(2, .int (0)), (0, .ref (62)), (1, .int (a))]) dX10_turns_187 (by decide) rfl ?_
  refine xr_iload_n dX10_turns_188 0 rfl ?_
  refine xr_aload_n dX10_turns_189 1 rfl ?_
  refine xb_get (v := 0) flX10_109 dX10_turns_190 s_62 rfl e.1 ?_
  refine xr_icmp_ge (tgt := 299) dX10_turns_193 rfl (fun _ => ?_) (fun c => absurd (by decide) c)
  exact xr_vret dX10_turns_299 rfl (⟨rfl, rfl, rfl, rfl⟩)
set_option maxRecDepth 100000 in
set_option maxHeartbeats 4000000 in
theorem c_bits0 {l : Launch} {G : xG} {sh : List xS} {M : xM} {J : xJ} : x_M l G fX10_bitsOf 0 0 0 [.int (0)] sh M J (qE (some (.int 0)) sh M J) := by
  refine xb_of pX10 (Nat.le_of_ble_eq_true rfl) rfl ?_
  refine xr_iconst (v := 0) dX10_bitsOf_0 rfl ?_
  refine xr_istore_n (ls2 := [(1, .int (0)), (0, .int (0))]) dX10_bitsOf_1 (by decide) rfl ?_
  refine xr_iload_n dX10_bitsOf_2 1 rfl ?_
  refine xr_istore_n (ls2 := [(2, .int (0)), (1, .int (0)), (0, .int (0))]) dX10_bitsOf_3 (by decide) rfl ?_
  refine xr_iload_n dX10_bitsOf_4 0 rfl ?_
  refine xr_if_eq (tgt := 20) dX10_bitsOf_5 rfl (fun _ => ?_) (fun c => absurd (by decide) c)
  refine xr_iload_n dX10_bitsOf_20 1 rfl ?_
  exact xr_iret dX10_bitsOf_21 rfl rfl (⟨rfl, rfl, rfl, rfl⟩)
set_option maxRecDepth 100000 in
set_option maxHeartbeats 4000000 in
theorem r0_isPush (t : Int32) {l : Launch} {G : xG} {M : xM} {J : xJ} (e : R0 M) : x_M l G fX10_isPush 0 0 0 [.ref (62), .int (t)] x_SH M J (qE (some (.int (bI (t - t / M 63 16 * M 63 16 = M 63 17 - M 63 17 / M 63 16 * M 63 16)))) x_SH M J) := by
  refine xb_of pX10 (Nat.le_of_ble_eq_true rfl) rfl ?_
  refine xr_iload_n dX10_isPush_0 1 rfl ?_
  refine xr_aload_n dX10_isPush_1 0 rfl ?_
  refine xr_getR flX10_9 dX10_isPush_2 s_62 rfl ?_
  refine xr_bipush (v := 16) dX10_isPush_5 rfl ?_
  refine xb_iald (j := 16) (v := M 63 16) dX10_isPush_7 s_63 (by decide) (by decide) rfl ?_
  refine xr_irem dX10_isPush_8 e.2 ?_
  refine xr_aload_n dX10_isPush_9 0 rfl ?_
  refine xr_getR flX10_9 dX10_isPush_10 s_62 rfl ?_
  refine xr_bipush (v := 17) dX10_isPush_13 rfl ?_
  refine xb_iald (j := 17) (v := M 63 17) dX10_isPush_15 s_63 (by decide) (by decide) rfl ?_
  refine xr_aload_n dX10_isPush_16 0 rfl ?_
  refine xr_getR flX10_9 dX10_isPush_17 s_62 rfl ?_
  refine xr_bipush (v := 16) dX10_isPush_20 rfl ?_
  refine xb_iald (j := 16) (v := M 63 16) dX10_isPush_22 s_63 (by decide) (by decide) rfl ?_
  refine xr_irem dX10_isPush_23 e.2 ?_
  refine xr_icmp_ne (tgt := 31) dX10_isPush_24 rfl (fun c1 => ?_) (fun c1 => ?_)
  · refine xr_iconst (v := 0) dX10_isPush_31 rfl ?_
    exact xr_iret dX10_isPush_32 rfl rfl (⟨congrArg (fun z => some (Value.int z)) (bI_f c1).symm, rfl, rfl, rfl⟩)
  · refine xr_iconst (v := 1) dX10_isPush_27 rfl ?_
    refine xr_goto (tgt := 32) dX10_isPush_28 rfl ?_
    exact xr_iret dX10_isPush_32 rfl rfl (⟨congrArg (fun z => some (Value.int z)) (bI_t c1).symm, rfl, rfl, rfl⟩)
set_option maxRecDepth 100000 in
set_option maxHeartbeats 4000000 in
theorem r0_toOf (t : Int32) {l : Launch} {G : xG} {M : xM} {J : xJ} (e : R0 M) : x_M l G fX10_toOf 0 0 0 [.ref (62), .int (t)] x_SH M J (qE (some (.int (if t / M 63 16 - t / M 63 16 / 2 * 2 = 0 then 0 else 12))) x_SH M J) := by
  refine xb_of pX10 (Nat.le_of_ble_eq_true rfl) rfl ?_
  refine xr_iload_n dX10_toOf_0 1 rfl ?_
  refine xr_aload_n dX10_toOf_1 0 rfl ?_
  refine xr_getR flX10_9 dX10_toOf_2 s_62 rfl ?_
  refine xr_bipush (v := 16) dX10_toOf_5 rfl ?_
  refine xb_iald (j := 16) (v := M 63 16) dX10_toOf_7 s_63 (by decide) (by decide) rfl ?_
  refine xr_idiv dX10_toOf_8 e.2 ?_
  refine xr_iconst (v := 2) dX10_toOf_9 rfl ?_
  refine xr_irem dX10_toOf_10 (by decide) ?_
  refine xr_if_ne (tgt := 18) dX10_toOf_11 rfl (fun c1 => ?_) (fun c1 => ?_)
  · refine xr_bipush (v := 12) dX10_toOf_18 rfl ?_
    exact xr_iret dX10_toOf_20 rfl rfl (⟨by first | rfl | grind, rfl, rfl, rfl⟩)
  · refine xr_iconst (v := 0) dX10_toOf_14 rfl ?_
    refine xr_goto (tgt := 20) dX10_toOf_15 rfl ?_
    exact xr_iret dX10_toOf_20 rfl rfl (⟨by first | rfl | grind, rfl, rfl, rfl⟩)
set_option maxRecDepth 100000 in
set_option maxHeartbeats 4000000 in
theorem r0_tickGoes (t : Int32) {l : Launch} {G : xG} {M : xM} {J : xJ} (e : R0 M) : x_M l G fX10_tickGoes 1 0 0 [.ref (62), .int (t)] x_SH M J (fun v s2 M2 J2 => v = none ∧ s2 = x_SH ∧ J = J2 ∧ ∃ w, M2 = x_up M 62 23 w) := by
  refine xb_of pX10 (Nat.le_of_ble_eq_true rfl) rfl ?_
  refine xr_aload_n dX10_tickGoes_0 0 rfl ?_
  refine xr_iload_n dX10_tickGoes_1 1 rfl ?_
  refine xb_cV (As := [.int (t)]) (rest := []) mlX10_228 (r0_isPush t e) dX10_tickGoes_2 s_62 rfl rfl (Nat.le_of_ble_eq_true rfl) (by decide) (by decide) ?_
  refine xb_beq (tgt := 34) dX10_tickGoes_5 rfl (fun c1 => ?_) (fun c1 => ?_)
  · refine xr_aload_n dX10_tickGoes_34 0 rfl ?_
    refine xr_iload_n dX10_tickGoes_35 1 rfl ?_
    refine xb_cV (As := [.int (t)]) (rest := []) mlX10_240 (r0_turns t e) dX10_tickGoes_36 s_62 rfl rfl (Nat.le_of_ble_eq_true rfl) (by decide) (by decide) ?_
    exact xr_vret dX10_tickGoes_39 rfl (⟨rfl, rfl, rfl, _, (x_up_id M 62 23).symm⟩)
  · refine xr_aload_n dX10_tickGoes_8 0 rfl ?_
    refine xr_aload_n dX10_tickGoes_9 0 rfl ?_
    refine xr_iload_n dX10_tickGoes_10 1 rfl ?_
    refine xb_cV (As := [.int (t)]) (rest := [.ref (62)]) mlX10_231 (r0_toOf t e) dX10_tickGoes_11 s_62 rfl rfl (Nat.le_of_ble_eq_true rfl) (by decide) (by decide) ?_
    refine xr_aload_n dX10_tickGoes_14 0 rfl ?_
    refine xr_getR flX10_9 dX10_tickGoes_15 s_62 rfl ?_
    refine xr_bipush (v := 18) dX10_tickGoes_18 rfl ?_
    refine xb_iald (j := 18) (v := M 63 18) dX10_tickGoes_20 s_63 (by decide) (by decide) rfl ?_
    refine xb_cV (As := [.int ((if t / M 63 16 - t / M 63 16 / 2 * 2 = 0 then 0 else 12)), .int (M 63 18)]) (rest := []) mlX10_234 (r0_pushes (if t / M 63 16 - t / M 63 16 / 2 * 2 = 0 then 0 else 12) (M 63 18) e) dX10_tickGoes_21 s_62 rfl rfl (Nat.le_of_ble_eq_true rfl) (by decide) (by decide) ?_
    refine xr_aload_n dX10_tickGoes_24 0 rfl ?_
    refine xr_dup dX10_tickGoes_25 rfl ?_
    refine xb_get (v := M 62 23) flX10_237 dX10_tickGoes_26 s_62 rfl rfl ?_
    refine xr_iconst (v := 1) dX10_tickGoes_29 rfl ?_
    refine xr_iadd dX10_tickGoes_30 ?_
    refine xr_putI fpX10_237 dX10_tickGoes_31 s_62 rfl rfl rfl ?_
    refine xr_aload_n dX10_tickGoes_34 0 rfl ?_
    refine xr_iload_n dX10_tickGoes_35 1 rfl ?_
    refine xb_cV (As := [.int (t)]) (rest := []) mlX10_240 (r0_turns t (R0_up ⟨by decide, fun q => absurd q (by decide)⟩ e)) dX10_tickGoes_36 s_62 rfl rfl (Nat.le_of_ble_eq_true rfl) (by decide) (by decide) ?_
    exact xr_vret dX10_tickGoes_39 rfl (⟨rfl, rfl, rfl, _, rfl⟩)
theorem x_up_up (M : xM) (p k : Nat) (v w : Int32) : x_up (x_up M p k v) p k w = x_up M p k w := by
  funext q j
  by_cases hq : q = p
  · subst hq
    by_cases hj : j = k
    · subst hj; rw [x_up_s, x_up_s]
    · rw [x_up_k _ _ _ hj, x_up_k _ _ _ hj, x_up_k _ _ _ hj]
  · rw [x_up_n _ _ _ hq, x_up_n _ _ _ hq, x_up_n _ _ _ hq]
set_option maxRecDepth 100000 in
set_option maxHeartbeats 4000000 in
theorem rl_lastsOf (s : Int32) {l : Launch} {G : xG} {M : xM} {J : xJ} (e : R0 M) : ∀ (m k : Nat) (w : Int32), k + m = 200 → x_X l G fX10_lastsOf 2 0 0 (fun v s2 M2 J2 => v = some (.int 200) ∧ s2 = x_SH ∧ J = J2 ∧ ∃ w, M2 = x_up M 62 23 w) 7 [(2, .int (nI (k))), (1, .int (s)), (0, .ref (62))] [] x_SH (x_up M 62 23 w) J 0 0 := by
  intro m
  induction m with
  | zero =>
    intro k w hk
    refine xr_iload_n dX10_lastsOf_7 0 rfl ?_
    refine xr_sipush (v := 200) dX10_lastsOf_8 rfl ?_
    refine xr_icmp_ge (tgt := 40) dX10_lastsOf_11 rfl (fun _ => ?_) (fun c => absurd (nI_le (a := 200) (b := k) (by omega) (by omega)) c)
    refine xr_sipush (v := 200) dX10_lastsOf_40 rfl ?_
    exact xr_iret dX10_lastsOf_43 rfl rfl (⟨rfl, rfl, rfl, _, rfl⟩)
  | succ m ih =>
    intro k w hk
    refine xr_iload_n dX10_lastsOf_7 0 rfl ?_
    refine xr_sipush (v := 200) dX10_lastsOf_8 rfl ?_
    refine xr_icmp_ge (tgt := 40) dX10_lastsOf_11 rfl (fun c => absurd c (nI_ge (a := k) (b := 200) (by omega) (by omega))) (fun _ => ?_)
    refine xr_aload_n dX10_lastsOf_14 2 rfl ?_
    refine xr_aload_n dX10_lastsOf_15 2 rfl ?_
    refine xb_get (v := M 62 9) flX10_151 dX10_lastsOf_16 s_62 rfl (Eq.trans (x_up_k _ _ _ (by decide)) rfl) ?_
    refine xr_iload_n dX10_lastsOf_19 0 rfl ?_
    refine xr_iadd dX10_lastsOf_20 ?_
    refine xr_callV (As := [.int (((M 62 9) + (nI (k))))]) (rest := []) mlX10_255 (r0_tickGoes ((M 62 9) + (nI (k))) (R0_up ⟨by decide, fun q => absurd q (by decide)⟩ e)) dX10_lastsOf_21 s_62 rfl rfl (Nat.le_of_ble_eq_true rfl) (by decide) ⟨by decide, by decide⟩ (fun v s2 M1 J2 hq => ?_)
    obtain ⟨rfl, rfl, rfl, w2, rfl⟩ := hq
    try dsimp only [Option.toList, List.cons_append, List.nil_append]
    refine xr_aload_n dX10_lastsOf_24 2 rfl ?_
    refine xr_iload_n dX10_lastsOf_25 1 rfl ?_
    refine xb_cV (As := [.int (s)]) (rest := []) mlX10_252 (r0_lyingOf s (R0_up ⟨by decide, fun q => absurd q (by decide)⟩ (R0_up ⟨by decide, fun q => absurd q (by decide)⟩ e))) dX10_lastsOf_26 s_62 rfl rfl (Nat.le_of_ble_eq_true rfl) (by decide) (by decide) ?_
    refine xr_if_le (tgt := 34) dX10_lastsOf_29 rfl (fun _ => ?_) (fun c => absurd (by decide) c)
    refine xr_iinc (v := nI (k + 1)) (ls2 := [(2, .int (nI (k + 1))), (1, .int (s)), (0, .ref (62))]) dX10_lastsOf_34 0 rfl (nI_1 _) (by decide) rfl ?_
    refine xr_goto (tgt := 7) dX10_lastsOf_37 rfl ?_
    refine xb_ls (ls2 := [(2, .int (nI (k + 1))), (1, .int (s)), (0, .ref (62))]) [0, 1, 2] rfl ?_
    rw [x_up_up]
    exact ih (k + 1) _ (by omega)
set_option maxRecDepth 100000 in
set_option maxHeartbeats 4000000 in
theorem r0_lastsOf (s : Int32) {l : Launch} {G : xG} {M : xM} {J : xJ} (e : R0 M) : x_M l G fX10_lastsOf 2 0 0 [.ref (62), .int (s)] x_SH M J (fun v s2 M2 J2 => v = some (.int 200) ∧ s2 = x_SH ∧ J = J2 ∧ ∃ w, M2 = x_up M 62 23 w) := by
  refine xb_of pX10 (Nat.le_of_ble_eq_true rfl) rfl ?_
  refine xr_aload_n dX10_lastsOf_0 0 rfl ?_
  refine xr_iload_n dX10_lastsOf_1 1 rfl ?_
  refine xb_cV (As := [.int (s)]) (rest := []) mlX10_249 (r0_begins1 s e) dX10_lastsOf_2 s_62 rfl rfl (Nat.le_of_ble_eq_true rfl) (by decide) (by decide) ?_
  refine xr_iconst (v := 0) dX10_lastsOf_5 rfl ?_
  refine xr_istore_n (ls2 := [(2, .int (0)), (0, .ref (62)), (1, .int (s))]) dX10_lastsOf_6 (by decide) rfl ?_
  refine xb_ls (ls2 := [(2, .int (nI (0))), (1, .int (s)), (0, .ref (62))]) [0, 2, 1] rfl ?_
  refine xb_M (x_up_id M 62 23).symm ?_
  exact rl_lastsOf s e 200 0 _ (by omega)
set_option maxRecDepth 100000 in
set_option maxHeartbeats 4000000 in
theorem r0_lasts {l : Launch} {G : xG} {M : xM} {J : xJ} (e : R0 M) : x_M l G fX10_lasts 3 0 0 [.ref (62)] x_SH M J (fun v s2 M2 J2 => v = some (.int 200) ∧ s2 = x_SH ∧ J = J2 ∧ ∃ w, M2 = x_up M 62 23 w) := by
  refine xb_of pX10 (Nat.le_of_ble_eq_true rfl) rfl ?_
  refine xr_aload_n dX10_lasts_0 0 rfl ?_
  refine xr_aload_n dX10_lasts_1 0 rfl ?_
  refine xb_cV (As := []) (rest := [.ref (62)]) mlX10_246 (r0_upNow e) dX10_lasts_2 s_62 rfl rfl (Nat.le_of_ble_eq_true rfl) (by decide) (by decide) ?_
  refine xr_callV (As := [.int (0)]) (rest := []) mlX10_267 (r0_lastsOf 0 e) dX10_lasts_5 s_62 rfl rfl (Nat.le_of_ble_eq_true rfl) (by decide) ⟨by decide, by decide⟩ (fun v s2 M1 J2 hq => ?_)
  obtain ⟨rfl, rfl, rfl, w2, rfl⟩ := hq
  try dsimp only [Option.toList, List.cons_append, List.nil_append]
  exact xr_iret dX10_lasts_8 rfl rfl (⟨rfl, rfl, rfl, _, rfl⟩)
