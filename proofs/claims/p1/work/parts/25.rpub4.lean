theorem dX10_field_0 : decode cX10_field 0 = .ok (.aload_n 0, 1) := by decide +kernel
theorem dX10_field_1 : decode cX10_field 1 = .ok (.iload_n 1, 1) := by decide +kernel
theorem dX10_field_2 : decode cX10_field 2 = .ok (.putfield 298, 3) := by decide +kernel
theorem dX10_field_5 : decode cX10_field 5 = .ok (.iconst 0, 1) := by decide +kernel
theorem dX10_field_6 : decode cX10_field 6 = .ok (.istore_n 3, 1) := by decide +kernel
theorem dX10_knocked_0 : decode cX10_knocked 0 = .ok (.iload_n 2, 1) := by decide +kernel
theorem dX10_knocked_1 : decode cX10_knocked 1 = .ok (.i2l, 1) := by decide +kernel
theorem dX10_knocked_2 : decode cX10_knocked 2 = .ok (.lconst 1, 1) := by decide +kernel
theorem dX10_knocked_3 : decode cX10_knocked 3 = .ok (.ldc2_w 311, 3) := by decide +kernel
theorem dX10_knocked_6 : decode cX10_knocked 6 = .ok (.invokestatic 101, 3) := by decide +kernel
theorem dX10_knocked_9 : decode cX10_knocked 9 = .ok (.ifCond .eq 10, 3) := by decide +kernel
theorem dX10_knocked_19 : decode cX10_knocked 19 = .ok (.iconst (-1), 1) := by decide +kernel
theorem dX10_knocked_20 : decode cX10_knocked 20 = .ok (.ireturn, 1) := by decide +kernel
theorem dX10_knocked_12 : decode cX10_knocked 12 = .ok (.iload_n 3, 1) := by decide +kernel
theorem dX10_knocked_13 : decode cX10_knocked 13 = .ok (.invokestatic 293, 3) := by decide +kernel
theorem dX10_knocked_16 : decode cX10_knocked 16 = .ok (.ifCond .ne 5, 3) := by decide +kernel
theorem dX10_knocked_21 : decode cX10_knocked 21 = .ok (.aload_n 0, 1) := by decide +kernel
theorem dX10_knocked_22 : decode cX10_knocked 22 = .ok (.iload_n 1, 1) := by decide +kernel
theorem dX10_knocked_23 : decode cX10_knocked 23 = .ok (.iload_n 2, 1) := by decide +kernel
theorem dX10_knocked_24 : decode cX10_knocked 24 = .ok (.invokevirtual 313, 3) := by decide +kernel
theorem dX10_knocked_27 : decode cX10_knocked 27 = .ok (.aload_n 0, 1) := by decide +kernel
theorem dX10_knocked_28 : decode cX10_knocked 28 = .ok (.getfield 60, 3) := by decide +kernel
theorem dX10_knocked_31 : decode cX10_knocked 31 = .ok (.iload_n 3, 1) := by decide +kernel
theorem dX10_knocked_32 : decode cX10_knocked 32 = .ok (.iaload, 1) := by decide +kernel
theorem dX10_knocked_33 : decode cX10_knocked 33 = .ok (.ireturn, 1) := by decide +kernel
set_option maxRecDepth 100000 in
set_option maxHeartbeats 4000000 in
theorem field_M {l : Launch} {G : xG} {M : xM} {J : xJ} (seed : Int32) {N : Nat} (hN : N ≤ 30) (e : FRr M) : x_M l G fX10_field 3 0 0 [.ref 62, .int (seed), .int (nI (N))] x_SH M J (fun v s2 M2 J2 => v = none ∧ s2 = x_SH ∧ J = J2 ∧ fR M2 = fM N 1 (fI 25 0 (seed, M 77, M 78, M 79)) ∧ FRr M2) := by
  refine xb_of pX10 (Nat.le_of_ble_eq_true rfl) rfl ?_
  refine xr_aload_n dX10_field_0 0 rfl ?_
  refine xr_iload_n dX10_field_1 1 rfl ?_
  refine xr_putI fpX10_298 dX10_field_2 s_62 rfl rfl rfl ?_
  refine xr_iconst (v := 0) dX10_field_5 rfl ?_
  refine xr_istore_n (ls2 := [(3, .int (0)), (0, .ref (62)), (1, .int (seed)), (2, .int (nI (N)))]) dX10_field_6 (by decide) rfl ?_
  refine xb_ls (ls2 := [(3, .int (nI (0))), (2, .int (nI (N))), (1, .int (seed)), (0, .ref (62))]) [0, 3, 2, 1] rfl ?_
  exact ri_l hN 25 0 (x_up M 62 32 seed) (by omega) (FRr_up (by decide) e)
theorem field_z {l : Launch} {G : xG} {M : xM} {J : xJ} (hF : Fr M) (seed : Int32) {N : Nat} (hN : N ≤ 30) : x_M l G fX10_field 3 0 0 [.ref 62, .int (seed), .int (nI (N))] x_SH M J (fun v s2 M2 J2 => v = none ∧ s2 = x_SH ∧ J = J2 ∧ fR M2 = fF seed N ∧ FRr M2) := by
  have h := field_M (l := l) (G := G) (J := J) seed hN (FRr_F hF)
  rw [hF 77 (by decide), hF 78 (by decide), hF 79 (by decide), zR_77, zR_78, zR_79] at h
  exact h
set_option maxRecDepth 100000 in
set_option maxHeartbeats 4000000 in
theorem p_X10_knocked (seed n girl : Int32) {l : Launch} {G : xG} {M : xM} {J : xJ} (hF : Fr M)  : x_M l G fX10_knocked 4 0 0 [.ref (62), .int (seed), .int (n), .int (girl)] x_SH M J (qR (some (.int (if (1 ≤ n ∧ n ≤ 30) ∧ (0 ≤ girl ∧ girl < 25) then (fF seed n.toNatClampNeg).2.2.1 girl.toNatClampNeg else -1)))) := by
  refine xb_of pX10 (Nat.le_of_ble_eq_true rfl) rfl ?_
  refine xr_iload_n dX10_knocked_0 2 rfl ?_
  refine xr_i2l dX10_knocked_1 ?_
  refine xr_lconst (v := 1) dX10_knocked_2 rfl ?_
  refine xr_ldc2 coX10_311 dX10_knocked_3 ?_
  refine xb_cS (As := [.long ((n).toInt64), .long (1), .long (30)]) (rest := []) mlX10_101 (c_within32 (n) (1) (30) (by decide) (by decide)) dX10_knocked_6 rfl rfl (Nat.le_of_ble_eq_true rfl) (by decide) (by decide) ?_
  refine xb_beq (tgt := 19) dX10_knocked_9 rfl (fun c1 => ?_) (fun c1 => ?_)
  · refine xr_iconst (v := -1) dX10_knocked_19 rfl ?_
    exact xr_iret dX10_knocked_20 rfl rfl (congrArg (fun z => some (Value.int z)) (if_neg (by grind)).symm)
  · refine xr_iload_n dX10_knocked_12 3 rfl ?_
    refine xb_cS (As := [.int (girl)]) (rest := []) mlX10_293 (c_X10_isGirl girl) dX10_knocked_13 rfl rfl (Nat.le_of_ble_eq_true rfl) (by decide) (by decide) ?_
    refine xb_bne (tgt := 21) dX10_knocked_16 rfl (fun c2 => ?_) (fun c2 => ?_)
    · obtain ⟨j, hj, rfl⟩ := x_natle (N := 24) (by decide) rfl c2
      replace hj := Nat.lt_succ_of_le hj
      obtain ⟨N, hN, rfl⟩ := x_natle (v := n) (N := 30) (by decide) rfl ⟨by grind, c1.2⟩
      refine xr_aload_n dX10_knocked_21 0 rfl ?_
      refine xr_iload_n dX10_knocked_22 1 rfl ?_
      refine xr_iload_n dX10_knocked_23 2 rfl ?_
      refine xr_callV (As := [.int (seed), .int (nI (N))]) (rest := []) mlX10_313 (field_z hF seed hN) dX10_knocked_24 s_62 rfl rfl (Nat.le_of_ble_eq_true rfl) (by decide) ⟨by decide, by decide⟩ (fun v s2 M3 J2 hq => ?_)
      obtain ⟨rfl, rfl, rfl, hqS, hqF⟩ := hq
      try dsimp only [Option.toList, List.cons_append, List.nil_append]
      refine xr_aload_n dX10_knocked_27 0 rfl ?_
      refine xr_getR flX10_60 dX10_knocked_28 s_62 rfl ?_
      refine xr_iload_n dX10_knocked_31 3 rfl ?_
      refine xb_iald (j := j) (v := M3 78 j) dX10_knocked_32 s_78 hj (by decide) rfl ?_
      exact xr_iret dX10_knocked_33 rfl rfl (congrArg (fun z => some (Value.int z)) (Eq.symm (Eq.trans (if_pos ⟨by grind, by grind⟩) (by have hN2 : (nI N).toNatClampNeg = N := nI_clamp (by omega); have hj2 : (nI j).toNatClampNeg = j := nI_clamp (by omega); rw [hj2]; rw [hN2, ← hqS]; rfl))))
    · refine xr_iconst (v := -1) dX10_knocked_19 rfl ?_
      exact xr_iret dX10_knocked_20 rfl rfl (congrArg (fun z => some (Value.int z)) (if_neg (by grind)).symm)
