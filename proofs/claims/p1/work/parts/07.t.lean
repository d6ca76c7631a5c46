theorem dX9_isWeight_0 : decode cX9_isWeight 0 = .ok (.iload_n 0, 1) := by decide +kernel
theorem dX9_isWeight_1 : decode cX9_isWeight 1 = .ok (.iconst 1, 1) := by decide +kernel
theorem dX9_isWeight_2 : decode cX9_isWeight 2 = .ok (.if_icmp .lt 13, 3) := by decide +kernel
theorem dX9_isWeight_15 : decode cX9_isWeight 15 = .ok (.iconst 0, 1) := by decide +kernel
theorem dX9_isWeight_16 : decode cX9_isWeight 16 = .ok (.ireturn, 1) := by decide +kernel
theorem dX9_isWeight_5 : decode cX9_isWeight 5 = .ok (.iload_n 0, 1) := by decide +kernel
theorem dX9_isWeight_6 : decode cX9_isWeight 6 = .ok (.bipush 9, 2) := by decide +kernel
theorem dX9_isWeight_8 : decode cX9_isWeight 8 = .ok (.if_icmp .gt 7, 3) := by decide +kernel
theorem dX9_isWeight_11 : decode cX9_isWeight 11 = .ok (.iconst 1, 1) := by decide +kernel
theorem dX9_isWeight_12 : decode cX9_isWeight 12 = .ok (.goto 4, 3) := by decide +kernel
theorem dX9_isPace_0 : decode cX9_isPace 0 = .ok (.iload_n 0, 1) := by decide +kernel
theorem dX9_isPace_1 : decode cX9_isPace 1 = .ok (.bipush (-9), 2) := by decide +kernel
theorem dX9_isPace_3 : decode cX9_isPace 3 = .ok (.if_icmp .lt 13, 3) := by decide +kernel
theorem dX9_isPace_16 : decode cX9_isPace 16 = .ok (.iconst 0, 1) := by decide +kernel
theorem dX9_isPace_17 : decode cX9_isPace 17 = .ok (.ireturn, 1) := by decide +kernel
theorem dX9_isPace_6 : decode cX9_isPace 6 = .ok (.iload_n 0, 1) := by decide +kernel
theorem dX9_isPace_7 : decode cX9_isPace 7 = .ok (.bipush 9, 2) := by decide +kernel
theorem dX9_isPace_9 : decode cX9_isPace 9 = .ok (.if_icmp .gt 7, 3) := by decide +kernel
theorem dX9_isPace_12 : decode cX9_isPace 12 = .ok (.iconst 1, 1) := by decide +kernel
theorem dX9_isPace_13 : decode cX9_isPace 13 = .ok (.goto 4, 3) := by decide +kernel
theorem dX9_isShelf_0 : decode cX9_isShelf 0 = .ok (.iload_n 0, 1) := by decide +kernel
theorem dX9_isShelf_1 : decode cX9_isShelf 1 = .ok (.ifCond .lt 13, 3) := by decide +kernel
theorem dX9_isShelf_14 : decode cX9_isShelf 14 = .ok (.iconst 0, 1) := by decide +kernel
theorem dX9_isShelf_15 : decode cX9_isShelf 15 = .ok (.ireturn, 1) := by decide +kernel
theorem dX9_isShelf_4 : decode cX9_isShelf 4 = .ok (.iload_n 0, 1) := by decide +kernel
theorem dX9_isShelf_5 : decode cX9_isShelf 5 = .ok (.bipush 6, 2) := by decide +kernel
theorem dX9_isShelf_7 : decode cX9_isShelf 7 = .ok (.if_icmp .ge 7, 3) := by decide +kernel
theorem dX9_isShelf_10 : decode cX9_isShelf 10 = .ok (.iconst 1, 1) := by decide +kernel
theorem dX9_isShelf_11 : decode cX9_isShelf 11 = .ok (.goto 4, 3) := by decide +kernel
theorem dX9_isGirl_0 : decode cX9_isGirl 0 = .ok (.iload_n 0, 1) := by decide +kernel
theorem dX9_isGirl_1 : decode cX9_isGirl 1 = .ok (.ifCond .lt 13, 3) := by decide +kernel
theorem dX9_isGirl_14 : decode cX9_isGirl 14 = .ok (.iconst 0, 1) := by decide +kernel
theorem dX9_isGirl_15 : decode cX9_isGirl 15 = .ok (.ireturn, 1) := by decide +kernel
theorem dX9_isGirl_4 : decode cX9_isGirl 4 = .ok (.iload_n 0, 1) := by decide +kernel
theorem dX9_isGirl_5 : decode cX9_isGirl 5 = .ok (.bipush 25, 2) := by decide +kernel
theorem dX9_isGirl_7 : decode cX9_isGirl 7 = .ok (.if_icmp .ge 7, 3) := by decide +kernel
theorem dX9_isGirl_10 : decode cX9_isGirl 10 = .ok (.iconst 1, 1) := by decide +kernel
theorem dX9_isGirl_11 : decode cX9_isGirl 11 = .ok (.goto 4, 3) := by decide +kernel
theorem dX9_isSkill_0 : decode cX9_isSkill 0 = .ok (.iload_n 0, 1) := by decide +kernel
theorem dX9_isSkill_1 : decode cX9_isSkill 1 = .ok (.ifCond .lt 13, 3) := by decide +kernel
theorem dX9_isSkill_14 : decode cX9_isSkill 14 = .ok (.iconst 0, 1) := by decide +kernel
theorem dX9_isSkill_15 : decode cX9_isSkill 15 = .ok (.ireturn, 1) := by decide +kernel
theorem dX9_isSkill_4 : decode cX9_isSkill 4 = .ok (.iload_n 0, 1) := by decide +kernel
theorem dX9_isSkill_5 : decode cX9_isSkill 5 = .ok (.bipush 12, 2) := by decide +kernel
theorem dX9_isSkill_7 : decode cX9_isSkill 7 = .ok (.if_icmp .gt 7, 3) := by decide +kernel
theorem dX9_isSkill_10 : decode cX9_isSkill 10 = .ok (.iconst 1, 1) := by decide +kernel
theorem dX9_isSkill_11 : decode cX9_isSkill 11 = .ok (.goto 4, 3) := by decide +kernel
theorem dX9_isMinutes_0 : decode cX9_isMinutes 0 = .ok (.iload_n 0, 1) := by decide +kernel
theorem dX9_isMinutes_1 : decode cX9_isMinutes 1 = .ok (.iconst 1, 1) := by decide +kernel
theorem dX9_isMinutes_2 : decode cX9_isMinutes 2 = .ok (.if_icmp .lt 13, 3) := by decide +kernel
theorem dX9_isMinutes_15 : decode cX9_isMinutes 15 = .ok (.iconst 0, 1) := by decide +kernel
theorem dX9_isMinutes_16 : decode cX9_isMinutes 16 = .ok (.ireturn, 1) := by decide +kernel
theorem dX9_isMinutes_5 : decode cX9_isMinutes 5 = .ok (.iload_n 0, 1) := by decide +kernel
theorem dX9_isMinutes_6 : decode cX9_isMinutes 6 = .ok (.bipush 30, 2) := by decide +kernel
theorem dX9_isMinutes_8 : decode cX9_isMinutes 8 = .ok (.if_icmp .gt 7, 3) := by decide +kernel
theorem dX9_isMinutes_11 : decode cX9_isMinutes 11 = .ok (.iconst 1, 1) := by decide +kernel
theorem dX9_isMinutes_12 : decode cX9_isMinutes 12 = .ok (.goto 4, 3) := by decide +kernel
theorem dX9_isKind_0 : decode cX9_isKind 0 = .ok (.iload_n 0, 1) := by decide +kernel
theorem dX9_isKind_1 : decode cX9_isKind 1 = .ok (.ifCond .lt 13, 3) := by decide +kernel
theorem dX9_isKind_14 : decode cX9_isKind 14 = .ok (.iconst 0, 1) := by decide +kernel
theorem dX9_isKind_15 : decode cX9_isKind 15 = .ok (.ireturn, 1) := by decide +kernel
theorem dX9_isKind_4 : decode cX9_isKind 4 = .ok (.iload_n 0, 1) := by decide +kernel
theorem dX9_isKind_5 : decode cX9_isKind 5 = .ok (.bipush 8, 2) := by decide +kernel
theorem dX9_isKind_7 : decode cX9_isKind 7 = .ok (.if_icmp .ge 7, 3) := by decide +kernel
theorem dX9_isKind_10 : decode cX9_isKind 10 = .ok (.iconst 1, 1) := by decide +kernel
theorem dX9_isKind_11 : decode cX9_isKind 11 = .ok (.goto 4, 3) := by decide +kernel
theorem dX6_isSort_0 : decode cX6_isSort 0 = .ok (.iload_n 0, 1) := by decide +kernel
theorem dX6_isSort_1 : decode cX6_isSort 1 = .ok (.ifCond .lt 12, 3) := by decide +kernel
theorem dX6_isSort_13 : decode cX6_isSort 13 = .ok (.iconst 0, 1) := by decide +kernel
theorem dX6_isSort_14 : decode cX6_isSort 14 = .ok (.ireturn, 1) := by decide +kernel
theorem dX6_isSort_4 : decode cX6_isSort 4 = .ok (.iload_n 0, 1) := by decide +kernel
theorem dX6_isSort_5 : decode cX6_isSort 5 = .ok (.iconst 4, 1) := by decide +kernel
theorem dX6_isSort_6 : decode cX6_isSort 6 = .ok (.if_icmp .gt 7, 3) := by decide +kernel
theorem dX6_isSort_9 : decode cX6_isSort 9 = .ok (.iconst 1, 1) := by decide +kernel
theorem dX6_isSort_10 : decode cX6_isSort 10 = .ok (.goto 4, 3) := by decide +kernel
theorem dX10_within_0 : decode cX10_within 0 = .ok (.lload_n 0, 1) := by decide +kernel
theorem dX10_within_1 : decode cX10_within 1 = .ok (.lload_n 2, 1) := by decide +kernel
theorem dX10_within_2 : decode cX10_within 2 = .ok (.lcmp, 1) := by decide +kernel
theorem dX10_within_3 : decode cX10_within 3 = .ok (.ifCond .lt 14, 3) := by decide +kernel
theorem dX10_within_17 : decode cX10_within 17 = .ok (.iconst 0, 1) := by decide +kernel
theorem dX10_within_18 : decode cX10_within 18 = .ok (.ireturn, 1) := by decide +kernel
theorem dX10_within_6 : decode cX10_within 6 = .ok (.lload_n 0, 1) := by decide +kernel
theorem dX10_within_7 : decode cX10_within 7 = .ok (.lload 4, 2) := by decide +kernel
theorem dX10_within_9 : decode cX10_within 9 = .ok (.lcmp, 1) := by decide +kernel
theorem dX10_within_10 : decode cX10_within 10 = .ok (.ifCond .gt 7, 3) := by decide +kernel
theorem dX10_within_13 : decode cX10_within 13 = .ok (.iconst 1, 1) := by decide +kernel
theorem dX10_within_14 : decode cX10_within 14 = .ok (.goto 4, 3) := by decide +kernel
theorem dX10_isGirl_0 : decode cX10_isGirl 0 = .ok (.iload_n 0, 1) := by decide +kernel
theorem dX10_isGirl_1 : decode cX10_isGirl 1 = .ok (.i2l, 1) := by decide +kernel
theorem dX10_isGirl_2 : decode cX10_isGirl 2 = .ok (.lconst 0, 1) := by decide +kernel
theorem dX10_isGirl_3 : decode cX10_isGirl 3 = .ok (.ldc2_w 158, 3) := by decide +kernel
theorem dX10_isGirl_6 : decode cX10_isGirl 6 = .ok (.invokestatic 101, 3) := by decide +kernel
theorem dX10_isGirl_9 : decode cX10_isGirl 9 = .ok (.ireturn, 1) := by decide +kernel
theorem dX10_isShelf_0 : decode cX10_isShelf 0 = .ok (.iload_n 0, 1) := by decide +kernel
theorem dX10_isShelf_1 : decode cX10_isShelf 1 = .ok (.i2l, 1) := by decide +kernel
theorem dX10_isShelf_2 : decode cX10_isShelf 2 = .ok (.lconst 0, 1) := by decide +kernel
theorem dX10_isShelf_3 : decode cX10_isShelf 3 = .ok (.ldc2_w 129, 3) := by decide +kernel
theorem dX10_isShelf_6 : decode cX10_isShelf 6 = .ok (.invokestatic 101, 3) := by decide +kernel
theorem dX10_isShelf_9 : decode cX10_isShelf 9 = .ok (.ireturn, 1) := by decide +kernel
set_option maxRecDepth 100000 in
set_option maxHeartbeats 4000000 in
theorem c_X9_isWeight (v : Int32) {l : Launch} {G : xG} {sh : List xS} {M : xM} {J : xJ} : x_M l G fX9_isWeight 0 0 0 [.int (v)] sh M J (qE (some (.int (bI (1 ≤ v ∧ v ≤ 9)))) sh M J) := by
  refine xb_of pX9 (Nat.le_of_ble_eq_true rfl) rfl ?_
  refine xr_iload_n dX9_isWeight_0 0 rfl ?_
  refine xr_iconst (v := 1) dX9_isWeight_1 rfl ?_
  refine xr_icmp_lt (tgt := 15) dX9_isWeight_2 rfl (fun c1 => ?_) (fun c1 => ?_)
  · refine xr_iconst (v := 0) dX9_isWeight_15 rfl ?_
    exact xr_iret dX9_isWeight_16 rfl rfl (⟨congrArg (fun z => some (Value.int z)) (bI_f (by grind)).symm, rfl, rfl, rfl⟩)
  · refine xr_iload_n dX9_isWeight_5 0 rfl ?_
    refine xr_bipush (v := 9) dX9_isWeight_6 rfl ?_
    refine xr_icmp_gt (tgt := 15) dX9_isWeight_8 rfl (fun c2 => ?_) (fun c2 => ?_)
    · refine xr_iconst (v := 0) dX9_isWeight_15 rfl ?_
      exact xr_iret dX9_isWeight_16 rfl rfl (⟨congrArg (fun z => some (Value.int z)) (bI_f (by grind)).symm, rfl, rfl, rfl⟩)
    · refine xr_iconst (v := 1) dX9_isWeight_11 rfl ?_
      refine xr_goto (tgt := 16) dX9_isWeight_12 rfl ?_
      exact xr_iret dX9_isWeight_16 rfl rfl (⟨congrArg (fun z => some (Value.int z)) (bI_t (by grind)).symm, rfl, rfl, rfl⟩)
set_option maxRecDepth 100000 in
set_option maxHeartbeats 4000000 in
theorem c_X9_isPace (v : Int32) {l : Launch} {G : xG} {sh : List xS} {M : xM} {J : xJ} : x_M l G fX9_isPace 0 0 0 [.int (v)] sh M J (qE (some (.int (bI (-9 ≤ v ∧ v ≤ 9)))) sh M J) := by
  refine xb_of pX9 (Nat.le_of_ble_eq_true rfl) rfl ?_
  refine xr_iload_n dX9_isPace_0 0 rfl ?_
  refine xr_bipush (v := -9) dX9_isPace_1 rfl ?_
  refine xr_icmp_lt (tgt := 16) dX9_isPace_3 rfl (fun c1 => ?_) (fun c1 => ?_)
  · refine xr_iconst (v := 0) dX9_isPace_16 rfl ?_
    exact xr_iret dX9_isPace_17 rfl rfl (⟨congrArg (fun z => some (Value.int z)) (bI_f (by grind)).symm, rfl, rfl, rfl⟩)
  · refine xr_iload_n dX9_isPace_6 0 rfl ?_
    refine xr_bipush (v := 9) dX9_isPace_7 rfl ?_
    refine xr_icmp_gt (tgt := 16) dX9_isPace_9 rfl (fun c2 => ?_) (fun c2 => ?_)
    · refine xr_iconst (v := 0) dX9_isPace_16 rfl ?_
      exact xr_iret dX9_isPace_17 rfl rfl (⟨congrArg (fun z => some (Value.int z)) (bI_f (by grind)).symm, rfl, rfl, rfl⟩)
    · refine xr_iconst (v := 1) dX9_isPace_12 rfl ?_
      refine xr_goto (tgt := 17) dX9_isPace_13 rfl ?_
      exact xr_iret dX9_isPace_17 rfl rfl (⟨congrArg (fun z => some (Value.int z)) (bI_t (by grind)).symm, rfl, rfl, rfl⟩)
set_option maxRecDepth 100000 in
set_option maxHeartbeats 4000000 in
theorem c_X9_isShelf (v : Int32) {l : Launch} {G : xG} {sh : List xS} {M : xM} {J : xJ} : x_M l G fX9_isShelf 0 0 0 [.int (v)] sh M J (qE (some (.int (bI (0 ≤ v ∧ v < 6)))) sh M J) := by
  refine xb_of pX9 (Nat.le_of_ble_eq_true rfl) rfl ?_
  refine xr_iload_n dX9_isShelf_0 0 rfl ?_
  refine xr_if_lt (tgt := 14) dX9_isShelf_1 rfl (fun c1 => ?_) (fun c1 => ?_)
  · refine xr_iconst (v := 0) dX9_isShelf_14 rfl ?_
    exact xr_iret dX9_isShelf_15 rfl rfl (⟨congrArg (fun z => some (Value.int z)) (bI_f (by grind)).symm, rfl, rfl, rfl⟩)
  · refine xr_iload_n dX9_isShelf_4 0 rfl ?_
    refine xr_bipush (v := 6) dX9_isShelf_5 rfl ?_
    refine xr_icmp_ge (tgt := 14) dX9_isShelf_7 rfl (fun c2 => ?_) (fun c2 => ?_)
    · refine xr_iconst (v := 0) dX9_isShelf_14 rfl ?_
      exact xr_iret dX9_isShelf_15 rfl rfl (⟨congrArg (fun z => some (Value.int z)) (bI_f (by grind)).symm, rfl, rfl, rfl⟩)
    · refine xr_iconst (v := 1) dX9_isShelf_10 rfl ?_
      refine xr_goto (tgt := 15) dX9_isShelf_11 rfl ?_
      exact xr_iret dX9_isShelf_15 rfl rfl (⟨congrArg (fun z => some (Value.int z)) (bI_t (by grind)).symm, rfl, rfl, rfl⟩)
set_option maxRecDepth 100000 in
set_option maxHeartbeats 4000000 in
theorem c_X9_isGirl (v : Int32) {l : Launch} {G : xG} {sh : List xS} {M : xM} {J : xJ} : x_M l G fX9_isGirl 0 0 0 [.int (v)] sh M J (qE (some (.int (bI (0 ≤ v ∧ v < 25)))) sh M J) := by
  refine xb_of pX9 (Nat.le_of_ble_eq_true rfl) rfl ?_
  refine xr_iload_n dX9_isGirl_0 0 rfl ?_
  refine xr_if_lt (tgt := 14) dX9_isGirl_1 rfl (fun c1 => ?_) (fun c1 => ?_)
  · refine xr_iconst (v := 0) dX9_isGirl_14 rfl ?_
    exact xr_iret dX9_isGirl_15 rfl rfl (⟨congrArg (fun z => some (Value.int z)) (bI_f (by grind)).symm, rfl, rfl, rfl⟩)
  · refine xr_iload_n dX9_isGirl_4 0 rfl ?_
    refine xr_bipush (v := 25) dX9_isGirl_5 rfl ?_
    refine xr_icmp_ge (tgt := 14) dX9_isGirl_7 rfl (fun c2 => ?_) (fun c2 => ?_)
    · refine xr_iconst (v := 0) dX9_isGirl_14 rfl ?_
      exact xr_iret dX9_isGirl_15 rfl rfl (⟨congrArg (fun z => some (Value.int z)) (bI_f (by grind)).symm, rfl, rfl, rfl⟩)
    · refine xr_iconst (v := 1) dX9_isGirl_10 rfl ?_
      refine xr_goto (tgt := 15) dX9_isGirl_11 rfl ?_
      exact xr_iret dX9_isGirl_15 rfl rfl (⟨congrArg (fun z => some (Value.int z)) (bI_t (by grind)).symm, rfl, rfl, rfl⟩)
set_option maxRecDepth 100000 in
set_option maxHeartbeats 4000000 in
theorem c_X9_isSkill (v : Int32) {l : Launch} {G : xG} {sh : List xS} {M : xM} {J : xJ} : x_M l G fX9_isSkill 0 0 0 [.int (v)] sh M J (qE (some (.int (bI (0 ≤ v ∧ v ≤ 12)))) sh M J) := by
  refine xb_of pX9 (Nat.le_of_ble_eq_true rfl) rfl ?_
  refine xr_iload_n dX9_isSkill_0 0 rfl ?_
  refine xr_if_lt (tgt := 14) dX9_isSkill_1 rfl (fun c1 => ?_) (fun c1 => ?_)
  · refine xr_iconst (v := 0) dX9_isSkill_14 rfl ?_
    exact xr_iret dX9_isSkill_15 rfl rfl (⟨congrArg (fun z => some (Value.int z)) (bI_f (by grind)).symm, rfl, rfl, rfl⟩)
  · refine xr_iload_n dX9_isSkill_4 0 rfl ?_
    refine xr_bipush (v := 12) dX9_isSkill_5 rfl ?_
    refine xr_icmp_gt (tgt := 14) dX9_isSkill_7 rfl (fun c2 => ?_) (fun c2 => ?_)
    · refine xr_iconst (v := 0) dX9_isSkill_14 rfl ?_
      exact xr_iret dX9_isSkill_15 rfl rfl (⟨congrArg (fun z => some (Value.int z)) (bI_f (by grind)).symm, rfl, rfl, rfl⟩)
    · refine xr_iconst (v := 1) dX9_isSkill_10 rfl ?_
      refine xr_goto (tgt := 15) dX9_isSkill_11 rfl ?_
      exact xr_iret dX9_isSkill_15 rfl rfl (⟨congrArg (fun z => some (Value.int z)) (bI_t (by grind)).symm, rfl, rfl, rfl⟩)
set_option maxRecDepth 100000 in
set_option maxHeartbeats 4000000 in
theorem c_X9_isMinutes (v : Int32) {l : Launch} {G : xG} {sh : List xS} {M : xM} {J : xJ} : x_M l G fX9_isMinutes 0 0 0 [.int (v)] sh M J (qE (some (.int (bI (1 ≤ v ∧ v ≤ 30)))) sh M J) := by
  refine xb_of pX9 (Nat.le_of_ble_eq_true rfl) rfl ?_
  refine xr_iload_n dX9_isMinutes_0 0 rfl ?_
  refine xr_iconst (v := 1) dX9_isMinutes_1 rfl ?_
  refine xr_icmp_lt (tgt := 15) dX9_isMinutes_2 rfl (fun c1 => ?_) (fun c1 => ?_)
  · refine xr_iconst (v := 0) dX9_isMinutes_15 rfl ?_
    exact xr_iret dX9_isMinutes_16 rfl rfl (⟨congrArg (fun z => some (Value.int z)) (bI_f (by grind)).symm, rfl, rfl, rfl⟩)
  · refine xr_iload_n dX9_isMinutes_5 0 rfl ?_
    refine xr_bipush (v := 30) dX9_isMinutes_6 rfl ?_
    refine xr_icmp_gt (tgt := 15) dX9_isMinutes_8 rfl (fun c2 => ?_) (fun c2 => ?_)
    · refine xr_iconst (v := 0) dX9_isMinutes_15 rfl ?_
      exact xr_iret dX9_isMinutes_16 rfl rfl (⟨congrArg (fun z => some (Value.int z)) (bI_f (by grind)).symm, rfl, rfl, rfl⟩)
    · refine xr_iconst (v := 1) dX9_isMinutes_11 rfl ?_
      refine xr_goto (tgt := 16) dX9_isMinutes_12 rfl ?_
      exact xr_iret dX9_isMinutes_16 rfl rfl (⟨congrArg (fun z => some (Value.int z)) (bI_t (by grind)).symm, rfl, rfl, rfl⟩)
set_option maxRecDepth 100000 in
set_option maxHeartbeats 4000000 in
theorem c_X9_isKind (v : Int32) {l : Launch} {G : xG} {sh : List xS} {M : xM} {J : xJ} : x_M l G fX9_isKind 0 0 0 [.int (v)] sh M J (qE (some (.int (bI (0 ≤ v ∧ v < 8)))) sh M J) := by
  refine xb_of pX9 (Nat.le_of_ble_eq_true rfl) rfl ?_
  refine xr_iload_n dX9_isKind_0 0 rfl ?_
  refine xr_if_lt (tgt := 14) dX9_isKind_1 rfl (fun c1 => ?_) (fun c1 => ?_)
  · refine xr_iconst (v := 0) dX9_isKind_14 rfl ?_
    exact xr_iret dX9_isKind_15 rfl rfl (⟨congrArg (fun z => some (Value.int z)) (bI_f (by grind)).symm, rfl, rfl, rfl⟩)
  · refine xr_iload_n dX9_isKind_4 0 rfl ?_
    refine xr_bipush (v := 8) dX9_isKind_5 rfl ?_
    refine xr_icmp_ge (tgt := 14) dX9_isKind_7 rfl (fun c2 => ?_) (fun c2 => ?_)
    · refine xr_iconst (v := 0) dX9_isKind_14 rfl ?_
      exact xr_iret dX9_isKind_15 rfl rfl (⟨congrArg (fun z => some (Value.int z)) (bI_f (by grind)).symm, rfl, rfl, rfl⟩)
    · refine xr_iconst (v := 1) dX9_isKind_10 rfl ?_
      refine xr_goto (tgt := 15) dX9_isKind_11 rfl ?_
      exact xr_iret dX9_isKind_15 rfl rfl (⟨congrArg (fun z => some (Value.int z)) (bI_t (by grind)).symm, rfl, rfl, rfl⟩)
set_option maxRecDepth 100000 in
set_option maxHeartbeats 4000000 in
theorem c_X6_isSort (v : Int32) {l : Launch} {G : xG} {sh : List xS} {M : xM} {J : xJ} : x_M l G fX6_isSort 0 0 0 [.int (v)] sh M J (qE (some (.int (bI (0 ≤ v ∧ v ≤ 4)))) sh M J) := by
  refine xb_of pX6 (Nat.le_of_ble_eq_true rfl) rfl ?_
  refine xr_iload_n dX6_isSort_0 0 rfl ?_
  refine xr_if_lt (tgt := 13) dX6_isSort_1 rfl (fun c1 => ?_) (fun c1 => ?_)
  · refine xr_iconst (v := 0) dX6_isSort_13 rfl ?_
    exact xr_iret dX6_isSort_14 rfl rfl (⟨congrArg (fun z => some (Value.int z)) (bI_f (by grind)).symm, rfl, rfl, rfl⟩)
  · refine xr_iload_n dX6_isSort_4 0 rfl ?_
    refine xr_iconst (v := 4) dX6_isSort_5 rfl ?_
    refine xr_icmp_gt (tgt := 13) dX6_isSort_6 rfl (fun c2 => ?_) (fun c2 => ?_)
    · refine xr_iconst (v := 0) dX6_isSort_13 rfl ?_
      exact xr_iret dX6_isSort_14 rfl rfl (⟨congrArg (fun z => some (Value.int z)) (bI_f (by grind)).symm, rfl, rfl, rfl⟩)
    · refine xr_iconst (v := 1) dX6_isSort_9 rfl ?_
      refine xr_goto (tgt := 14) dX6_isSort_10 rfl ?_
      exact xr_iret dX6_isSort_14 rfl rfl (⟨congrArg (fun z => some (Value.int z)) (bI_t (by grind)).symm, rfl, rfl, rfl⟩)
set_option maxRecDepth 100000 in
set_option maxHeartbeats 4000000 in
theorem c_X10_within (v a b : Int64) {l : Launch} {G : xG} {sh : List xS} {M : xM} {J : xJ} : x_M l G fX10_within 0 0 0 [.long (v), .long (a), .long (b)] sh M J (qE (some (.int (bI (a ≤ v ∧ v ≤ b)))) sh M J) := by
  refine xb_of pX10 (Nat.le_of_ble_eq_true rfl) rfl ?_
  refine xr_lload_n dX10_within_0 0 rfl ?_
  refine xr_lload_n dX10_within_1 1 rfl ?_
  refine xr_lcmp dX10_within_2 ?_
  refine xl_lt (tgt := 17) dX10_within_3 rfl (fun c1 => ?_) (fun c1 => ?_)
  · refine xr_iconst (v := 0) dX10_within_17 rfl ?_
    exact xr_iret dX10_within_18 rfl rfl (⟨congrArg (fun z => some (Value.int z)) (bI_f (by grind)).symm, rfl, rfl, rfl⟩)
  · refine xr_lload_n dX10_within_6 0 rfl ?_
    refine xr_lload dX10_within_7 2 rfl ?_
    refine xr_lcmp dX10_within_9 ?_
    refine xl_gt (tgt := 17) dX10_within_10 rfl (fun c2 => ?_) (fun c2 => ?_)
    · refine xr_iconst (v := 0) dX10_within_17 rfl ?_
      exact xr_iret dX10_within_18 rfl rfl (⟨congrArg (fun z => some (Value.int z)) (bI_f (by grind)).symm, rfl, rfl, rfl⟩)
    · refine xr_iconst (v := 1) dX10_within_13 rfl ?_
      refine xr_goto (tgt := 18) dX10_within_14 rfl ?_
      exact xr_iret dX10_within_18 rfl rfl (⟨congrArg (fun z => some (Value.int z)) (bI_t (by grind)).symm, rfl, rfl, rfl⟩)
theorem c_within32 (v a b : Int32) {A B : Int64} (hA : a.toInt64 = A) (hB : b.toInt64 = B) {l : Launch} {G : xG} {sh : List xS} {M : xM} {J : xJ} : x_M l G fX10_within 0 0 0 [.long v.toInt64, .long A, .long B] sh M J (qE (some (.int (bI (a ≤ v ∧ v ≤ b)))) sh M J) := by
  subst hA; subst hB
  rw [show bI (a ≤ v ∧ v ≤ b) = bI (a.toInt64 ≤ v.toInt64 ∧ v.toInt64 ≤ b.toInt64) from x_bI_c (by rw [x_i64_le, x_i64_le])]
  exact c_X10_within _ _ _
set_option maxRecDepth 100000 in
set_option maxHeartbeats 4000000 in
theorem c_X10_isGirl (v : Int32) {l : Launch} {G : xG} {sh : List xS} {M : xM} {J : xJ} : x_M l G fX10_isGirl 1 0 0 [.int (v)] sh M J (qE (some (.int (bI (0 ≤ v ∧ v ≤ 24)))) sh M J) := by
  refine xb_of pX10 (Nat.le_of_ble_eq_true rfl) rfl ?_
  refine xr_iload_n dX10_isGirl_0 0 rfl ?_
  refine xr_i2l dX10_isGirl_1 ?_
  refine xr_lconst (v := 0) dX10_isGirl_2 rfl ?_
  refine xr_ldc2 coX10_158 dX10_isGirl_3 ?_
  refine xb_cS (As := [.long ((v).toInt64), .long (0), .long (24)]) (rest := []) mlX10_101 (c_within32 (v) (0) (24) (by decide) (by decide)) dX10_isGirl_6 rfl rfl (Nat.le_of_ble_eq_true rfl) (by decide) (by decide) ?_
  exact xr_iret dX10_isGirl_9 rfl (bI_n _) (⟨rfl, rfl, rfl, rfl⟩)
set_option maxRecDepth 100000 in
set_option maxHeartbeats 4000000 in
theorem c_X10_isShelf (v : Int32) {l : Launch} {G : xG} {sh : List xS} {M : xM} {J : xJ} : x_M l G fX10_isShelf 1 0 0 [.int (v)] sh M J (qE (some (.int (bI (0 ≤ v ∧ v ≤ 5)))) sh M J) := by
  refine xb_of pX10 (Nat.le_of_ble_eq_true rfl) rfl ?_
  refine xr_iload_n dX10_isShelf_0 0 rfl ?_
  refine xr_i2l dX10_isShelf_1 ?_
  refine xr_lconst (v := 0) dX10_isShelf_2 rfl ?_
  refine xr_ldc2 coX10_129 dX10_isShelf_3 ?_
  refine xb_cS (As := [.long ((v).toInt64), .long (0), .long (5)]) (rest := []) mlX10_101 (c_within32 (v) (0) (5) (by decide) (by decide)) dX10_isShelf_6 rfl rfl (Nat.le_of_ble_eq_true rfl) (by decide) (by decide) ?_
  exact xr_iret dX10_isShelf_9 rfl (bI_n _) (⟨rfl, rfl, rfl, rfl⟩)
