theorem dX9_knocked_0 : decode cX9_knocked 0 = .ok (.iload_n 2, 1) := by decide +kernel
theorem dX9_knocked_1 : decode cX9_knocked 1 = .ok (.invokestatic 262, 3) := by decide +kernel
theorem dX9_knocked_4 : decode cX9_knocked 4 = .ok (.ifCond .eq 10, 3) := by decide +kernel
theorem dX9_knocked_14 : decode cX9_knocked 14 = .ok (.iconst (-1), 1) := by decide +kernel
theorem dX9_knocked_15 : decode cX9_knocked 15 = .ok (.ireturn, 1) := by decide +kernel
theorem dX9_knocked_7 : decode cX9_knocked 7 = .ok (.iload_n 3, 1) := by decide +kernel
theorem dX9_knocked_8 : decode cX9_knocked 8 = .ok (.invokestatic 134, 3) := by decide +kernel
theorem dX9_knocked_11 : decode cX9_knocked 11 = .ok (.ifCond .ne 5, 3) := by decide +kernel
theorem dX9_knocked_16 : decode cX9_knocked 16 = .ok (.aload_n 0, 1) := by decide +kernel
theorem dX9_knocked_17 : decode cX9_knocked 17 = .ok (.getfield 47, 3) := by decide +kernel
theorem dX9_knocked_20 : decode cX9_knocked 20 = .ok (.iload_n 1, 1) := by decide +kernel
theorem dX9_knocked_21 : decode cX9_knocked 21 = .ok (.iload_n 2, 1) := by decide +kernel
theorem dX9_knocked_22 : decode cX9_knocked 22 = .ok (.invokevirtual 265, 3) := by decide +kernel
theorem dX9_knocked_25 : decode cX9_knocked 25 = .ok (.aload_n 0, 1) := by decide +kernel
theorem dX9_knocked_26 : decode cX9_knocked 26 = .ok (.getfield 47, 3) := by decide +kernel
theorem dX9_knocked_29 : decode cX9_knocked 29 = .ok (.getfield 275, 3) := by decide +kernel
theorem dX9_knocked_32 : decode cX9_knocked 32 = .ok (.iload_n 3, 1) := by decide +kernel
theorem dX9_knocked_33 : decode cX9_knocked 33 = .ok (.iaload, 1) := by decide +kernel
theorem dX9_knocked_34 : decode cX9_knocked 34 = .ok (.ireturn, 1) := by decide +kernel
theorem dX9_last_0 : decode cX9_last 0 = .ok (.iload_n 2, 1) := by decide +kernel
theorem dX9_last_1 : decode cX9_last 1 = .ok (.ifCond .lt 8, 3) := by decide +kernel
theorem dX9_last_9 : decode cX9_last 9 = .ok (.iconst (-1), 1) := by decide +kernel
theorem dX9_last_10 : decode cX9_last 10 = .ok (.ireturn, 1) := by decide +kernel
theorem dX9_last_4 : decode cX9_last 4 = .ok (.iload_n 2, 1) := by decide +kernel
theorem dX9_last_5 : decode cX9_last 5 = .ok (.iconst 1, 1) := by decide +kernel
theorem dX9_last_6 : decode cX9_last 6 = .ok (.if_icmp .le 5, 3) := by decide +kernel
theorem dX9_last_11 : decode cX9_last 11 = .ok (.aload_n 0, 1) := by decide +kernel
theorem dX9_last_12 : decode cX9_last 12 = .ok (.getfield 47, 3) := by decide +kernel
theorem dX9_last_15 : decode cX9_last 15 = .ok (.iload_n 1, 1) := by decide +kernel
theorem dX9_last_16 : decode cX9_last 16 = .ok (.bipush 30, 2) := by decide +kernel
theorem dX9_last_18 : decode cX9_last 18 = .ok (.invokevirtual 265, 3) := by decide +kernel
theorem dX9_last_21 : decode cX9_last 21 = .ok (.aload_n 0, 1) := by decide +kernel
theorem dX9_last_22 : decode cX9_last 22 = .ok (.getfield 47, 3) := by decide +kernel
theorem dX9_last_25 : decode cX9_last 25 = .ok (.invokevirtual 278, 3) := by decide +kernel
theorem dX9_last_28 : decode cX9_last 28 = .ok (.istore_n 3, 1) := by decide +kernel
theorem dX9_last_29 : decode cX9_last 29 = .ok (.iload_n 2, 1) := by decide +kernel
theorem dX9_last_30 : decode cX9_last 30 = .ok (.ifCond .ne 7, 3) := by decide +kernel
theorem dX9_last_37 : decode cX9_last 37 = .ok (.aload_n 0, 1) := by decide +kernel
theorem dX9_last_38 : decode cX9_last 38 = .ok (.getfield 47, 3) := by decide +kernel
theorem dX9_last_41 : decode cX9_last 41 = .ok (.getfield 281, 3) := by decide +kernel
theorem dX9_last_44 : decode cX9_last 44 = .ok (.iload_n 3, 1) := by decide +kernel
theorem dX9_last_45 : decode cX9_last 45 = .ok (.iaload, 1) := by decide +kernel
theorem dX9_last_46 : decode cX9_last 46 = .ok (.ireturn, 1) := by decide +kernel
theorem dX9_last_33 : decode cX9_last 33 = .ok (.iload_n 3, 1) := by decide +kernel
theorem dX9_last_34 : decode cX9_last 34 = .ok (.goto 12, 3) := by decide +kernel
theorem dX9_left_0 : decode cX9_left 0 = .ok (.iload_n 2, 1) := by decide +kernel
theorem dX9_left_1 : decode cX9_left 1 = .ok (.invokestatic 262, 3) := by decide +kernel
theorem dX9_left_4 : decode cX9_left 4 = .ok (.ifCond .eq 15, 3) := by decide +kernel
theorem dX9_left_19 : decode cX9_left 19 = .ok (.iconst (-1), 1) := by decide +kernel
theorem dX9_left_20 : decode cX9_left 20 = .ok (.ireturn, 1) := by decide +kernel
theorem dX9_left_7 : decode cX9_left 7 = .ok (.iload_n 3, 1) := by decide +kernel
theorem dX9_left_8 : decode cX9_left 8 = .ok (.iconst (-1), 1) := by decide +kernel
theorem dX9_left_9 : decode cX9_left 9 = .ok (.if_icmp .eq 12, 3) := by decide +kernel
theorem dX9_left_21 : decode cX9_left 21 = .ok (.aload_n 0, 1) := by decide +kernel
theorem dX9_left_22 : decode cX9_left 22 = .ok (.getfield 47, 3) := by decide +kernel
theorem dX9_left_25 : decode cX9_left 25 = .ok (.iload_n 1, 1) := by decide +kernel
theorem dX9_left_26 : decode cX9_left 26 = .ok (.iload_n 2, 1) := by decide +kernel
theorem dX9_left_27 : decode cX9_left 27 = .ok (.invokevirtual 265, 3) := by decide +kernel
theorem dX9_left_30 : decode cX9_left 30 = .ok (.iload_n 3, 1) := by decide +kernel
theorem dX9_left_31 : decode cX9_left 31 = .ok (.iconst (-1), 1) := by decide +kernel
theorem dX9_left_32 : decode cX9_left 32 = .ok (.if_icmp .ne 11, 3) := by decide +kernel
theorem dX9_left_35 : decode cX9_left 35 = .ok (.aload_n 0, 1) := by decide +kernel
theorem dX9_left_36 : decode cX9_left 36 = .ok (.getfield 47, 3) := by decide +kernel
theorem dX9_left_39 : decode cX9_left 39 = .ok (.invokevirtual 268, 3) := by decide +kernel
theorem dX9_left_42 : decode cX9_left 42 = .ok (.ireturn, 1) := by decide +kernel
theorem dX9_left_12 : decode cX9_left 12 = .ok (.iload_n 3, 1) := by decide +kernel
theorem dX9_left_13 : decode cX9_left 13 = .ok (.invokestatic 134, 3) := by decide +kernel
theorem dX9_left_16 : decode cX9_left 16 = .ok (.ifCond .ne 5, 3) := by decide +kernel
theorem dX9_left_43 : decode cX9_left 43 = .ok (.aload_n 0, 1) := by decide +kernel
theorem dX9_left_44 : decode cX9_left 44 = .ok (.getfield 47, 3) := by decide +kernel
theorem dX9_left_47 : decode cX9_left 47 = .ok (.getfield 271, 3) := by decide +kernel
theorem dX9_left_50 : decode cX9_left 50 = .ok (.iload_n 3, 1) := by decide +kernel
theorem dX9_left_51 : decode cX9_left 51 = .ok (.baload, 1) := by decide +kernel
theorem dX9_left_52 : decode cX9_left 52 = .ok (.ifCond .eq 7, 3) := by decide +kernel
theorem dX9_left_59 : decode cX9_left 59 = .ok (.iconst 0, 1) := by decide +kernel
theorem dX9_left_60 : decode cX9_left 60 = .ok (.ireturn, 1) := by decide +kernel
theorem dX9_left_55 : decode cX9_left 55 = .ok (.iconst 1, 1) := by decide +kernel
theorem dX9_left_56 : decode cX9_left 56 = .ok (.goto 4, 3) := by decide +kernel
set_option maxRecDepth 100000 in
set_option maxHeartbeats 4000000 in
theorem p_X9_knocked (seed n girl : Int32) {l : Launch} {G : xG}  : x_M l G fX9_knocked 4 0 0 [.ref (0), .int (seed), .int (n), .int (girl)] x_SH z_M x_J0 (qF (some (.int (if (1 ≤ n ∧ n ≤ 30) ∧ (0 ≤ girl ∧ girl < 25) then (fF seed n.toNatClampNeg).2.2.1 girl.toNatClampNeg else -1)))) := by
  refine xb_of pX9 (Nat.le_of_ble_eq_true rfl) rfl ?_
  refine xr_iload_n dX9_knocked_0 2 rfl ?_
  refine xb_cS (As := [.int (n)]) (rest := []) mlX9_262 (c_X9_isMinutes n) dX9_knocked_1 rfl rfl (Nat.le_of_ble_eq_true rfl) (by decide) (by decide) ?_
  refine xb_beq (tgt := 14) dX9_knocked_4 rfl (fun c1 => ?_) (fun c1 => ?_)
  · refine xr_iconst (v := -1) dX9_knocked_14 rfl ?_
    exact xr_iret dX9_knocked_15 rfl rfl (⟨congrArg (fun z => some (Value.int z)) (if_neg (by grind)).symm, rfl, by repeat (first | (with_reducible assumption) | (with_reducible exact Fr_z) | (with_reducible exact E0_fr (by assumption)) | ((with_reducible refine Fr_up ?_ ?_); first | decide | omega))⟩)
  · refine xr_iload_n dX9_knocked_7 3 rfl ?_
    refine xb_cS (As := [.int (girl)]) (rest := []) mlX9_134 (c_X9_isGirl girl) dX9_knocked_8 rfl rfl (Nat.le_of_ble_eq_true rfl) (by decide) (by decide) ?_
    refine xb_bne (tgt := 16) dX9_knocked_11 rfl (fun c2 => ?_) (fun c2 => ?_)
    · obtain ⟨j, hj, rfl⟩ := x_nat (N := 25) (by decide) rfl c2
      obtain ⟨N, hN, rfl⟩ := x_natle (v := n) (N := 30) (by decide) rfl ⟨by grind, c1.2⟩
      refine xr_aload_n dX9_knocked_16 0 rfl ?_
      refine xr_getR flX9_47 dX9_knocked_17 s_0 rfl ?_
      refine xr_iload_n dX9_knocked_20 1 rfl ?_
      refine xr_iload_n dX9_knocked_21 2 rfl ?_
      refine xr_callV (As := [.int (seed), .int (nI (N))]) (rest := []) mlX9_265 (play_z seed hN) dX9_knocked_22 s_35 rfl rfl (Nat.le_of_ble_eq_true rfl) (by decide) ⟨by decide, by decide⟩ (fun v s2 M3 J2 hq => ?_)
      obtain ⟨rfl, rfl, rfl, hqS, hqF⟩ := hq
      try dsimp only [Option.toList, List.cons_append, List.nil_append]
      refine xr_aload_n dX9_knocked_25 0 rfl ?_
      refine xr_getR flX9_47 dX9_knocked_26 s_0 rfl ?_
      refine xr_getR flX9_275 dX9_knocked_29 s_35 rfl ?_
      refine xr_iload_n dX9_knocked_32 3 rfl ?_
      refine xb_iald (j := j) (v := M3 39 j) dX9_knocked_33 s_39 hj (by decide) rfl ?_
      exact xr_iret dX9_knocked_34 rfl rfl (⟨congrArg (fun z => some (Value.int z)) (Eq.symm (Eq.trans (if_pos ⟨by grind, by grind⟩) (by have hN2 : (nI N).toNatClampNeg = N := nI_clamp (by omega); have hj2 : (nI j).toNatClampNeg = j := nI_clamp (by omega); rw [hj2]; rw [hN2, ← hqS]; rfl))), rfl, hqF.2.2⟩)
    · refine xr_iconst (v := -1) dX9_knocked_14 rfl ?_
      exact xr_iret dX9_knocked_15 rfl rfl (⟨congrArg (fun z => some (Value.int z)) (if_neg (by grind)).symm, rfl, by repeat (first | (with_reducible assumption) | (with_reducible exact Fr_z) | (with_reducible exact E0_fr (by assumption)) | ((with_reducible refine Fr_up ?_ ?_); first | decide | omega))⟩)
set_option maxRecDepth 100000 in
set_option maxHeartbeats 4000000 in
theorem p_X9_last (seed what : Int32) {l : Launch} {G : xG}  : x_M l G fX9_last 4 0 0 [.ref (0), .int (seed), .int (what)] x_SH z_M x_J0 (qF (some (.int (if 0 ≤ what ∧ what ≤ 1 then (if what = 0 then nI (fl 24 1 (fF seed 30).2.2.2 0) else (fF seed 30).2.2.2 (fl 24 1 (fF seed 30).2.2.2 0)) else -1)))) := by
  refine xb_of pX9 (Nat.le_of_ble_eq_true rfl) rfl ?_
  refine xr_iload_n dX9_last_0 2 rfl ?_
  refine xr_if_lt (tgt := 9) dX9_last_1 rfl (fun c1 => ?_) (fun c1 => ?_)
  · refine xr_iconst (v := -1) dX9_last_9 rfl ?_
    exact xr_iret dX9_last_10 rfl rfl (⟨congrArg (fun z => some (Value.int z)) (if_neg (by grind)).symm, rfl, by repeat (first | (with_reducible assumption) | (with_reducible exact Fr_z) | (with_reducible exact E0_fr (by assumption)) | ((with_reducible refine Fr_up ?_ ?_); first | decide | omega))⟩)
  · refine xr_iload_n dX9_last_4 2 rfl ?_
    refine xr_iconst (v := 1) dX9_last_5 rfl ?_
    refine xr_icmp_le (tgt := 11) dX9_last_6 rfl (fun c2 => ?_) (fun c2 => ?_)
    · refine xr_aload_n dX9_last_11 0 rfl ?_
      refine xr_getR flX9_47 dX9_last_12 s_0 rfl ?_
      refine xr_iload_n dX9_last_15 1 rfl ?_
      refine xr_bipush (v := 30) dX9_last_16 rfl ?_
      refine xr_callV (As := [.int (seed), .int (30)]) (rest := []) mlX9_265 (play_z seed (N := 30) (by decide)) dX9_last_18 s_35 rfl rfl (Nat.le_of_ble_eq_true rfl) (by decide) ⟨by decide, by decide⟩ (fun v s2 M3 J2 hq => ?_)
      obtain ⟨rfl, rfl, rfl, hqS, hqF⟩ := hq
      try dsimp only [Option.toList, List.cons_append, List.nil_append]
      refine xr_aload_n dX9_last_21 0 rfl ?_
      refine xr_getR flX9_47 dX9_last_22 s_0 rfl ?_
      refine xb_cV (As := []) (rest := []) mlX9_278 (lo_M) dX9_last_25 s_35 rfl rfl (Nat.le_of_ble_eq_true rfl) (by decide) (by decide) ?_
      refine xr_istore_n (ls2 := [(3, .int (nI (fl 24 1 (M3 40) 0))), (0, .ref (0)), (1, .int (seed)), (2, .int (what))]) dX9_last_28 (by decide) rfl ?_
      refine xr_iload_n dX9_last_29 3 rfl ?_
      refine xr_if_ne (tgt := 37) dX9_last_30 rfl (fun c4 => ?_) (fun c4 => ?_)
      · refine xr_aload_n dX9_last_37 1 rfl ?_
        refine xr_getR flX9_47 dX9_last_38 s_0 rfl ?_
        refine xr_getR flX9_281 dX9_last_41 s_35 rfl ?_
        refine xr_iload_n dX9_last_44 0 rfl ?_
        refine xb_iald (j := fl 24 1 (M3 40) 0) (v := M3 40 (fl 24 1 (M3 40) 0)) dX9_last_45 s_40 (fl_lt _ 24 1 0 (by omega) (by omega)) (by decide) rfl ?_
        exact xr_iret dX9_last_46 rfl rfl (⟨congrArg (fun z => some (Value.int z)) (Eq.symm (Eq.trans (if_pos (by grind)) (Eq.trans (if_neg c4) (by have h30 : fF seed 30 = fC M3 := hqS.symm; rw [h30]; rfl)))), rfl, hqF.2.2⟩)
      · refine xr_iload_n dX9_last_33 0 rfl ?_
        refine xr_goto (tgt := 46) dX9_last_34 rfl ?_
        exact xr_iret dX9_last_46 rfl rfl (⟨congrArg (fun z => some (Value.int z)) (Eq.symm (Eq.trans (if_pos (by grind)) (Eq.trans (if_pos c4) (by have h30 : fF seed 30 = fC M3 := hqS.symm; rw [h30]; rfl)))), rfl, hqF.2.2⟩)
    · refine xr_iconst (v := -1) dX9_last_9 rfl ?_
      exact xr_iret dX9_last_10 rfl rfl (⟨congrArg (fun z => some (Value.int z)) (if_neg (by grind)).symm, rfl, by repeat (first | (with_reducible assumption) | (with_reducible exact Fr_z) | (with_reducible exact E0_fr (by assumption)) | ((with_reducible refine Fr_up ?_ ?_); first | decide | omega))⟩)
set_option maxRecDepth 100000 in
set_option maxHeartbeats 4000000 in
theorem p_X9_left (seed n girl : Int32) {l : Launch} {G : xG}  : x_M l G fX9_left 4 0 0 [.ref (0), .int (seed), .int (n), .int (girl)] x_SH z_M x_J0 (qF (some (.int (if (1 ≤ n ∧ n ≤ 30) ∧ (girl = -1 ∨ (0 ≤ girl ∧ girl < 25)) then (if girl = -1 then fu 25 0 (fF seed n.toNatClampNeg).2.1 0 else if (fF seed n.toNatClampNeg).2.1 girl.toNatClampNeg = 0 then 0 else 1) else -1)))) := by
  refine xb_of pX9 (Nat.le_of_ble_eq_true rfl) rfl ?_
  refine xr_iload_n dX9_left_0 2 rfl ?_
  refine xb_cS (As := [.int (n)]) (rest := []) mlX9_262 (c_X9_isMinutes n) dX9_left_1 rfl rfl (Nat.le_of_ble_eq_true rfl) (by decide) (by decide) ?_
  refine xb_beq (tgt := 19) dX9_left_4 rfl (fun c1 => ?_) (fun c1 => ?_)
  · refine xr_iconst (v := -1) dX9_left_19 rfl ?_
    exact xr_iret dX9_left_20 rfl rfl (⟨congrArg (fun z => some (Value.int z)) (if_neg (by grind)).symm, rfl, by repeat (first | (with_reducible assumption) | (with_reducible exact Fr_z) | (with_reducible exact E0_fr (by assumption)) | ((with_reducible refine Fr_up ?_ ?_); first | decide | omega))⟩)
  · refine xr_iload_n dX9_left_7 3 rfl ?_
    refine xr_iconst (v := -1) dX9_left_8 rfl ?_
    refine xr_icmp_eq (tgt := 21) dX9_left_9 rfl (fun c2 => ?_) (fun c2 => ?_)
    · obtain ⟨N, hN, rfl⟩ := x_natle (v := n) (N := 30) (by decide) rfl ⟨by grind, c1.2⟩
      subst c2
      refine xr_aload_n dX9_left_21 0 rfl ?_
      refine xr_getR flX9_47 dX9_left_22 s_0 rfl ?_
      refine xr_iload_n dX9_left_25 1 rfl ?_
      refine xr_iload_n dX9_left_26 2 rfl ?_
      refine xr_callV (As := [.int (seed), .int (nI (N))]) (rest := []) mlX9_265 (play_z seed hN) dX9_left_27 s_35 rfl rfl (Nat.le_of_ble_eq_true rfl) (by decide) ⟨by decide, by decide⟩ (fun v s2 M3 J2 hq => ?_)
      obtain ⟨rfl, rfl, rfl, hqS, hqF⟩ := hq
      try dsimp only [Option.toList, List.cons_append, List.nil_append]
      refine xr_iload_n dX9_left_30 3 rfl ?_
      refine xr_iconst (v := -1) dX9_left_31 rfl ?_
      refine xr_icmp_ne (tgt := 43) dX9_left_32 rfl (fun c => absurd (by decide) c) (fun _ => ?_)
      refine xr_aload_n dX9_left_35 0 rfl ?_
      refine xr_getR flX9_47 dX9_left_36 s_0 rfl ?_
      refine xb_cV (As := []) (rest := []) mlX9_268 (hu_M) dX9_left_39 s_35 rfl rfl (Nat.le_of_ble_eq_true rfl) (by decide) (by decide) ?_
      exact xr_iret dX9_left_42 rfl rfl (⟨congrArg (fun z => some (Value.int z)) (Eq.symm (Eq.trans (if_pos ⟨by grind, by grind⟩) (Eq.trans (if_pos rfl) (by have hN2 : (nI N).toNatClampNeg = N := nI_clamp (by omega); rw [hN2, ← hqS]; rfl)))), rfl, hqF.2.2⟩)
    · refine xr_iload_n dX9_left_12 3 rfl ?_
      refine xb_cS (As := [.int (girl)]) (rest := []) mlX9_134 (c_X9_isGirl girl) dX9_left_13 rfl rfl (Nat.le_of_ble_eq_true rfl) (by decide) (by decide) ?_
      refine xb_bne (tgt := 21) dX9_left_16 rfl (fun c4 => ?_) (fun c4 => ?_)
      · obtain ⟨j, hj, rfl⟩ := x_nat (N := 25) (by decide) rfl c4
        obtain ⟨N, hN, rfl⟩ := x_natle (v := n) (N := 30) (by decide) rfl ⟨by grind, c1.2⟩
        refine xr_aload_n dX9_left_21 0 rfl ?_
        refine xr_getR flX9_47 dX9_left_22 s_0 rfl ?_
        refine xr_iload_n dX9_left_25 1 rfl ?_
        refine xr_iload_n dX9_left_26 2 rfl ?_
        refine xr_callV (As := [.int (seed), .int (nI (N))]) (rest := []) mlX9_265 (play_z seed hN) dX9_left_27 s_35 rfl rfl (Nat.le_of_ble_eq_true rfl) (by decide) ⟨by decide, by decide⟩ (fun v s2 M5 J2 hq => ?_)
        obtain ⟨rfl, rfl, rfl, hqS, hqF⟩ := hq
        try dsimp only [Option.toList, List.cons_append, List.nil_append]
        refine xr_iload_n dX9_left_30 3 rfl ?_
        refine xr_iconst (v := -1) dX9_left_31 rfl ?_
        refine xr_icmp_ne (tgt := 43) dX9_left_32 rfl (fun _ => ?_) (fun c => absurd c (nI_nm hj))
        refine xr_aload_n dX9_left_43 0 rfl ?_
        refine xr_getR flX9_47 dX9_left_44 s_0 rfl ?_
        refine xr_getR flX9_271 dX9_left_47 s_35 rfl ?_
        refine xr_iload_n dX9_left_50 3 rfl ?_
        refine xb_zald (j := j) (v := M5 38 j) dX9_left_51 s_38 hj (by decide) rfl ?_
        refine xr_if_eq (tgt := 59) dX9_left_52 rfl (fun c6 => ?_) (fun c6 => ?_)
        · refine xr_iconst (v := 0) dX9_left_59 rfl ?_
          exact xr_iret dX9_left_60 rfl rfl (⟨congrArg (fun z => some (Value.int z)) (Eq.symm (Eq.trans (if_pos ⟨by grind, by grind⟩) (Eq.trans (if_neg (by grind)) (by have hN2 : (nI N).toNatClampNeg = N := nI_clamp (by omega); have hj2 : (nI j).toNatClampNeg = j := nI_clamp (by omega); rw [hj2]; rw [hN2, ← hqS]; exact if_pos c6)))), rfl, hqF.2.2⟩)
        · refine xr_iconst (v := 1) dX9_left_55 rfl ?_
          refine xr_goto (tgt := 60) dX9_left_56 rfl ?_
          exact xr_iret dX9_left_60 rfl rfl (⟨congrArg (fun z => some (Value.int z)) (Eq.symm (Eq.trans (if_pos ⟨by grind, by grind⟩) (Eq.trans (if_neg (by grind)) (by have hN2 : (nI N).toNatClampNeg = N := nI_clamp (by omega); have hj2 : (nI j).toNatClampNeg = j := nI_clamp (by omega); rw [hj2]; rw [hN2, ← hqS]; exact if_neg c6)))), rfl, hqF.2.2⟩)
      · refine xr_iconst (v := -1) dX9_left_19 rfl ?_
        exact xr_iret dX9_left_20 rfl rfl (⟨congrArg (fun z => some (Value.int z)) (if_neg (by grind)).symm, rfl, by repeat (first | (with_reducible assumption) | (with_reducible exact Fr_z) | (with_reducible exact E0_fr (by assumption)) | ((with_reducible refine Fr_up ?_ ?_); first | decide | omega))⟩)
