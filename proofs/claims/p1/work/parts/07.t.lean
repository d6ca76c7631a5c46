theorem dX9_isWeight_0 : decode cX9_isWeight 0 = .ok (.iload_n 0, 1) := by decide +kernel
theorem dX9_isWeight_1 : decode cX9_isWeight 1 = .ok (.iconst 1, 1) := by decide +kernel
theorem dX9_isWeight_2 : decode cX9_isWeight 2 = .ok (.if_icmp .lt 13, 3) := by decide +kernel
theorem dX9_isWeight_15 : decode cX9_isWeight 15 = .ok (.iconst 0, 1) := by decide +kernel
theorem dX9_isWeight_16 : decode cX9_isWeight 16 = .ok (.ireturn, 1) := by decide +kernel
theorem dX9_isWeight_5 : decode cX9_isWeight 5 = .ok (.iload_n 0, 1) := by decide +kernel
theorem dX9_isWeight_6 : decode cX9_isWeight 6 = .ok (.bipush 9, 2) := by decide +kernel
theorem dX9_isWeight_8 : decode cX9_isWeight 8 = .ok (.if_icmp .gt 7, 3) := by decide +kernel
theorem dX9_isWeight_11 : decode cX9_isWeight 11 = .ok (.iconst 1, 1) := by decide +kernel
theorem dX9_isWeight_12 : decode cX9_isWeight 12 = .ok (.goto 4, 3) := by decide +kernel
theorem dX9_isPace_0 : decode cX9_isPace 0 = .ok (.iload_n 0, 1) := by decide +kernel
theorem dX9_isPace_1 : decode cX9_isPace 1 = .ok (.bipush (-9), 2) := by decide +kernel
theorem dX9_isPace_3 : decode cX9_isPace 3 = .ok (.if_icmp .lt 13, 3) := by decide +kernel
theorem dX9_isPace_16 : decode cX9_isPace 16 = .ok (.iconst 0, 1) := by decide +kernel
theorem dX9_isPace_17 : decode cX9_isPace 17 = .ok (.ireturn, 1) := by decide +kernel
theorem dX9_isPace_6 : decode cX9_isPace 6 = .ok (.iload_n 0, 1) := by decide +kernel
theorem dX9_isPace_7 : decode cX9_isPace 7 = .ok (.bipush 9, 2) := by decide +kernel
theorem dX9_isPace_9 : decode cX9_isPace 9 = .ok (.if_icmp .gt 7, 3) := by decide +kernel
theorem dX9_isPace_12 : decode cX9_isPace 12 = .ok (.iconst 1, 1) := by decide +kernel
theorem dX9_isPace_13 : decode cX9_isPace 13 = .ok (.goto 4, 3) := by decide +kernel
theorem dX9_isShelf_0 : decode cX9_isShelf 0 = .ok (.iload_n 0, 1) := by decide +kernel
theorem dX9_isShelf_1 : decode cX9_isShelf 1 = .ok (.ifCond .lt 13, 3) := by decide +kernel
theorem dX9_isShelf_14 : decode cX9_isShelf 14 = .ok (.iconst 0, 1) := by decide +kernel
theorem dX9_isShelf_15 : decode cX9_isShelf 15 = .ok (.ireturn, 1) := by decide +kernel
theorem dX9_isShelf_4 : decode cX9_isShelf 4 = .ok (.iload_n 0, 1) := by decide +kernel
theorem dX9_isShelf_5 : decode cX9_isShelf 5 = .ok (.bipush 6, 2) := by decide +kernel
theorem dX9_isShelf_7 : decode cX9_isShelf 7 = .ok (.if_icmp .ge 7, 3) := by decide +kernel
theorem dX9_isShelf_10 : decode cX9_isShelf 10 = .ok (.iconst 1, 1) := by decide +kernel
theorem dX9_isShelf_11 : decode cX9_isShelf 11 = .ok (.goto 4, 3) := by decide +kernel
theorem dX9_isGirl_0 : decode cX9_isGirl 0 = .ok (.iload_n 0, 1) := by decide +kernel
theorem dX9_isGirl_1 : decode cX9_isGirl 1 = .ok (.ifCond .lt 13, 3) := by decide +kernel
theorem dX9_isGirl_14 : decode cX9_isGirl 14 = .ok (.iconst 0, 1) := by decide +kernel
theorem dX9_isGirl_15 : decode cX9_isGirl 15 = .ok (.ireturn, 1) := by decide +kernel
theorem dX9_isGirl_4 : decode cX9_isGirl 4 = .ok (.iload_n 0, 1) := by decide +kernel
theorem dX9_isGirl_5 : decode cX9_isGirl 5 = .ok (.bipush 25, 2) := by decide +kernel
theorem dX9_isGirl_7 : decode cX9_isGirl 7 = .ok (.if_icmp .ge 7, 3) := by decide +kernel
theorem dX9_isGirl_10 : decode cX9_isGirl 10 = .ok (.iconst 1, 1) := by decide +kernel
theorem dX9_isGirl_11 : decode cX9_isGirl 11 = .ok (.goto 4, 3) := by decide +kernel
theorem dX9_isSkill_0 : decode cX9_isSkill 0 = .ok (.iload_n 0, 1) := by decide +kernel
theorem dX9_isSkill_1 : decode cX9_isSkill 1 = .ok (.ifCond .lt 13, 3) := by decide +kernel
theorem dX9_isSkill_14 : decode cX9_isSkill 14 = .ok (.iconst 0, 1) := by decide +kernel
theorem dX9_isSkill_15 : decode cX9_isSkill 15 = .ok (.ireturn, 1) := by decide +kernel
theorem dX9_isSkill_4 : decode cX9_isSkill 4 = .ok (.iload_n 0, 1) := by decide +kernel
theorem dX9_isSkill_5 : decode cX9_isSkill 5 = .ok (.bipush 12, 2) := by decide +kernel
theorem dX9_isSkill_7 : decode cX9_isSkill 7 = .ok (.if_icmp .gt 7, 3) := by decide +kernel
theorem dX9_isSkill_10 : decode cX9_isSkill 10 = .ok (.iconst 1, 1) := by decide +kernel
theorem dX9_isSkill_11 : decode cX9_isSkill 11 = .ok (.goto 4, 3) := by decide +kernel
theorem dX9_isMinutes_0 : decode cX9_isMinutes 0 = .ok (.iload_n 0, 1) := by decide +kernel
theorem dX9_isMinutes_1 : decode cX9_isMinutes 1 = .ok (.iconst 1, 1) := by decide +kernel
theorem dX9_isMinutes_2 : decode cX9_isMinutes 2 = .ok (.if_icmp .lt 13, 3) := by decide +kernel
theorem dX9_isMinutes_15 : decode cX9_isMinutes 15 = .ok (.iconst 0, 1) := by decide +kernel
theorem dX9_isMinutes_16 : decode cX9_isMinutes 16 = .ok (.ireturn, 1) := by decide +kernel
theorem dX9_isMinutes_5 : decode cX9_isMinutes 5 = .ok (.iload_n 0, 1) := by decide +kernel
theorem dX9_isMinutes_6 : decode cX9_isMinutes 6 = .ok (.bipush 30, 2) := by decide +kernel
theorem dX9_isMinutes_8 : decode cX9_isMinutes 8 = .ok (.if_icmp .gt 7, 3) := by decide +kernel
theorem dX9_isMinutes_11 : decode cX9_isMinutes 11 = .ok (.iconst 1, 1) := by decide +kernel
theorem dX9_isMinutes_12 : decode cX9_isMinutes 12 = .ok (.goto 4, 3) := by decide +kernel
theorem dX9_isKind_0 : decode cX9_isKind 0 = .ok (.iload_n 0, 1) := by decide +kernel
theorem dX9_isKind_1 : decode cX9_isKind 1 = .ok (.ifCond .lt 13, 3) := by decide +kernel
theorem dX9_isKind_14 : decode cX9_isKind 14 = .ok (.iconst 0, 1) := by decide +kernel
theorem dX9_isKind_15 : decode cX9_isKind 15 = .ok (.ireturn, 1) := by decide +kernel
theorem dX9_isKind_4 : decode cX9_isKind 4 = .ok (.iload_n 0, 1) := by decide +kernel
theorem dX9_isKind_5 : decode cX9_isKind 5 = .ok (.bipush 8, 2) := by decide +kernel
theorem dX9_isKind_7 : decode cX9_isKind 7 = .ok (.if_icmp .ge 7, 3) := by decide +kernel
theorem dX9_isKind_10 : decode cX9_isKind 10 = .ok (.iconst 1, 1) := by decide +kernel
theorem dX9_isKind_11 : decode cX9_isKind 11 = .ok (.goto 4, 3) := by decide +kernel
set_option maxRecDepth 100000 in
set_option maxHeartbeats 4000000 in
theorem c_X9_isWeight (v : Int32) {l : Launch} {G : xG} {sh : List xS} {M : xM} {J : xJ} : x_M l G fX9_isWeight 0 0 0 [.int (v)] sh M J (qE (some (.int (bI (1 ≤ v ∧ v ≤ 9)))) sh M J) := by
  refine xb_of pX9 (Nat.le_of_ble_eq_true rfl) rfl ?_
  refine xr_iload_n dX9_isWeight_0 0 rfl ?_
  refine xr_iconst (v := 1) dX9_isWeight_1 rfl ?_
  refine xr_icmp_lt (tgt := 15) dX9_isWeight_2 rfl (fun c1 => ?_) (fun c1 => ?_)
  · refine xr_iconst (v := 0) dX9_isWeight_15 rfl ?_
    exact xr_iret dX9_isWeight_16 rfl rfl (⟨congrArg (fun z => some (Value.int z)) (bI_f (by grind)).symm, rfl, rfl, rfl⟩)
  · refine xr_iload_n dX9_isWeight_5 0 rfl ?_
    refine xr_bipush (v := 9) dX9_isWeight_6 rfl ?_
    refine xr_icmp_gt (tgt := 15) dX9_isWeight_8 rfl (fun c2 => ?_) (fun c2 => ?_)
    · refine xr_iconst (v := 0) dX9_isWeight_15 rfl ?_
      exact xr_iret dX9_isWeight_16 rfl rfl (⟨congrArg (fun z => some (Value.int z)) (bI_f (by grind)).symm, rfl, rfl, rfl⟩)
    · refine xr_iconst (v := 1) dX9_isWeight_11 rfl ?_
      refine xr_goto (tgt := 16) dX9_isWeight_12 rfl ?_
      exact xr_iret dX9_isWeight_16 rfl rfl (⟨congrArg (fun z => some (Value.int z)) (bI_t (by grind)).symm, rfl, rfl, rfl⟩)
set_option maxRecDepth 100000 in
set_option maxHeartbeats 4000000 in
theorem c_X9_isPace (v : Int32) {l : Launch} {G : xG} {sh : List xS} {M : xM} {J : xJ} : x_M l G fX9_isPace 0 0 0 [.int (v)] sh M J (qE (some (.int (bI (-9 ≤ v ∧ v ≤ 9)))) sh M J) := by
  refine xb_of pX9 (Nat.le_of_ble_eq_true rfl) rfl ?_
  refine xr_iload_n dX9_isPace_0 0 rfl ?_
  refine xr_bipush (v := -9) dX9_isPace_1 rfl ?_
  refine xr_icmp_lt (tgt := 16) dX9_isPace_3 rfl (fun c1 => ?_) (fun c1 => ?_)
  · refine xr_iconst (v := 0) dX9_isPace_16 rfl ?_
    exact xr_iret dX9_isPace_17 rfl rfl (⟨congrArg (fun z => some (Value.int z)) (bI_f (by grind)).symm, rfl, rfl, rfl⟩)
  · refine xr_iload_n dX9_isPace_6 0 rfl ?_
    refine xr_bipush (v := 9) dX9_isPace_7 rfl ?_
    refine xr_icmp_gt (tgt := 16) dX9_isPace_9 rfl (fun c2 => ?_) (fun c2 => ?_)
    · refine xr_iconst (v := 0) dX9_isPace_16 rfl ?_
      exact xr_iret dX9_isPace_17 rfl rfl (⟨congrArg (fun z => some (Value.int z)) (bI_f (by grind)).symm, rfl, rfl, rfl⟩)
    · refine xr_iconst (v := 1) dX9_isPace_12 rfl ?_
      refine xr_goto (tgt := 17) dX9_isPace_13 rfl ?_
      exact xr_iret dX9_isPace_17 rfl rfl (⟨congrArg (fun z => some (Value.int z)) (bI_t (by grind)).symm, rfl, rfl, rfl⟩)
set_option maxRecDepth 100000 in
set_option maxHeartbeats 4000000 in
theorem c_X9_isShelf (v : Int32) {l : Launch} {G : xG} {sh : List xS} {M : xM} {J : xJ} : x_M l G fX9_isShelf 0 0 0 [.int (v)] sh M J (qE (some (.int (bI (0 ≤ v ∧ v < 6)))) sh M J) := by
  refine xb_of pX9 (Nat.le_of_ble_eq_true rfl) rfl ?_
  refine xr_iload_n dX9_isShelf_0 0 rfl ?_
  refine xr_if_lt (tgt := 14) dX9_isShelf_1 rfl (fun c1 => ?_) (fun c1 => ?_)
  · refine xr_iconst (v := 0) dX9_isShelf_14 rfl ?_
    exact xr_iret dX9_isShelf_15 rfl rfl (⟨congrArg (fun z => some (Value.int z)) (bI_f (by grind)).symm, rfl, rfl, rfl⟩)
  · refine xr_iload_n dX9_isShelf_4 0 rfl ?_
    refine xr_bipush (v := 6) dX9_isShelf_5 rfl ?_
    refine xr_icmp_ge (tgt := 14) dX9_isShelf_7 rfl (fun c2 => ?_) (fun c2 => ?_)
    · refine xr_iconst (v := 0) dX9_isShelf_14 rfl ?_
      exact xr_iret dX9_isShelf_15 rfl rfl (⟨congrArg (fun z => some (Value.int z)) (bI_f (by grind)).symm, rfl, rfl, rfl⟩)
    · refine xr_iconst (v := 1) dX9_isShelf_10 rfl ?_
      refine xr_goto (tgt := 15) dX9_isShelf_11 rfl ?_
      exact xr_iret dX9_isShelf_15 rfl rfl (⟨congrArg (fun z => some (Value.int z)) (bI_t (by grind)).symm, rfl, rfl, rfl⟩)
set_option maxRecDepth 100000 in
set_option maxHeartbeats 4000000 in
theorem c_X9_isGirl (v : Int32) {l : Launch} {G : xG} {sh : List xS} {M : xM} {J : xJ} : x_M l G fX9_isGirl 0 0 0 [.int (v)] sh M J (qE (some (.int (bI (0 ≤ v ∧ v < 25)))) sh M J) := by
  refine xb_of pX9 (Nat.le_of_ble_eq_true rfl) rfl ?_
  refine xr_iload_n dX9_isGirl_0 0 rfl ?_
  refine xr_if_lt (tgt := 14) dX9_isGirl_1 rfl (fun c1 => ?_) (fun c1 => ?_)
  · refine xr_iconst (v := 0) dX9_isGirl_14 rfl ?_
    exact xr_iret dX9_isGirl_15 rfl rfl (⟨congrArg (fun z => some (Value.int z)) (bI_f (by grind)).symm, rfl, rfl, rfl⟩)
  · refine xr_iload_n dX9_isGirl_4 0 rfl ?_
    refine xr_bipush (v := 25) dX9_isGirl_5 rfl ?_
    refine xr_icmp_ge (tgt := 14) dX9_isGirl_7 rfl (fun c2 => ?_) (fun c2 => ?_)
    · refine xr_iconst (v := 0) dX9_isGirl_14 rfl ?_
      exact xr_iret dX9_isGirl_15 rfl rfl (⟨congrArg (fun z => some (Value.int z)) (bI_f (by grind)).symm, rfl, rfl, rfl⟩)
    · refine xr_iconst (v := 1) dX9_isGirl_10 rfl ?_
      refine xr_goto (tgt := 15) dX9_isGirl_11 rfl ?_
      exact xr_iret dX9_isGirl_15 rfl rfl (⟨congrArg (fun z => some (Value.int z)) (bI_t (by grind)).symm, rfl, rfl, rfl⟩)
set_option maxRecDepth 100000 in
set_option maxHeartbeats 4000000 in
theorem c_X9_isSkill (v : Int32) {l : Launch} {G : xG} {sh : List xS} {M : xM} {J : xJ} : x_M l G fX9_isSkill 0 0 0 [.int (v)] sh M J (qE (some (.int (bI (0 ≤ v ∧ v ≤ 12)))) sh M J) := by
  refine xb_of pX9 (Nat.le_of_ble_eq_true rfl) rfl ?_
  refine xr_iload_n dX9_isSkill_0 0 rfl ?_
  refine xr_if_lt (tgt := 14) dX9_isSkill_1 rfl (fun c1 => ?_) (fun c1 => ?_)
  · refine xr_iconst (v := 0) dX9_isSkill_14 rfl ?_
    exact xr_iret dX9_isSkill_15 rfl rfl (⟨congrArg (fun z => some (Value.int z)) (bI_f (by grind)).symm, rfl, rfl, rfl⟩)
  · refine xr_iload_n dX9_isSkill_4 0 rfl ?_
    refine xr_bipush (v := 12) dX9_isSkill_5 rfl ?_
    refine xr_icmp_gt (tgt := 14) dX9_isSkill_7 rfl (fun c2 => ?_) (fun c2 => ?_)
    · refine xr_iconst (v := 0) dX9_isSkill_14 rfl ?_
      exact xr_iret dX9_isSkill_15 rfl rfl (⟨congrArg (fun z => some (Value.int z)) (bI_f (by grind)).symm, rfl, rfl, rfl⟩)
    · refine xr_iconst (v := 1) dX9_isSkill_10 rfl ?_
      refine xr_goto (tgt := 15) dX9_isSkill_11 rfl ?_
      exact xr_iret dX9_isSkill_15 rfl rfl (⟨congrArg (fun z => some (Value.int z)) (bI_t (by grind)).symm, rfl, rfl, rfl⟩)
set_option maxRecDepth 100000 in
set_option maxHeartbeats 4000000 in
theorem c_X9_isMinutes (v : Int32) {l : Launch} {G : xG} {sh : List xS} {M : xM} {J : xJ} : x_M l G fX9_isMinutes 0 0 0 [.int (v)] sh M J (qE (some (.int (bI (1 ≤ v ∧ v ≤ 30)))) sh M J) := by
  refine xb_of pX9 (Nat.le_of_ble_eq_true rfl) rfl ?_
  refine xr_iload_n dX9_isMinutes_0 0 rfl ?_
  refine xr_iconst (v := 1) dX9_isMinutes_1 rfl ?_
  refine xr_icmp_lt (tgt := 15) dX9_isMinutes_2 rfl (fun c1 => ?_) (fun c1 => ?_)
  · refine xr_iconst (v := 0) dX9_isMinutes_15 rfl ?_
    exact xr_iret dX9_isMinutes_16 rfl rfl (⟨congrArg (fun z => some (Value.int z)) (bI_f (by grind)).symm, rfl, rfl, rfl⟩)
  · refine xr_iload_n dX9_isMinutes_5 0 rfl ?_
    refine xr_bipush (v := 30) dX9_isMinutes_6 rfl ?_
    refine xr_icmp_gt (tgt := 15) dX9_isMinutes_8 rfl (fun c2 => ?_) (fun c2 => ?_)
    · refine xr_iconst (v := 0) dX9_isMinutes_15 rfl ?_
      exact xr_iret dX9_isMinutes_16 rfl rfl (⟨congrArg (fun z => some (Value.int z)) (bI_f (by grind)).symm, rfl, rfl, rfl⟩)
    · refine xr_iconst (v := 1) dX9_isMinutes_11 rfl ?_
      refine xr_goto (tgt := 16) dX9_isMinutes_12 rfl ?_
      exact xr_iret dX9_isMinutes_16 rfl rfl (⟨congrArg (fun z => some (Value.int z)) (bI_t (by grind)).symm, rfl, rfl, rfl⟩)
set_option maxRecDepth 100000 in
set_option maxHeartbeats 4000000 in
theorem c_X9_isKind (v : Int32) {l : Launch} {G : xG} {sh : List xS} {M : xM} {J : xJ} : x_M l G fX9_isKind 0 0 0 [.int (v)] sh M J (qE (some (.int (bI (0 ≤ v ∧ v < 8)))) sh M J) := by
  refine xb_of pX9 (Nat.le_of_ble_eq_true rfl) rfl ?_
  refine xr_iload_n dX9_isKind_0 0 rfl ?_
  refine xr_if_lt (tgt := 14) dX9_isKind_1 rfl (fun c1 => ?_) (fun c1 => ?_)
  · refine xr_iconst (v := 0) dX9_isKind_14 rfl ?_
    exact xr_iret dX9_isKind_15 rfl rfl (⟨congrArg (fun z => some (Value.int z)) (bI_f (by grind)).symm, rfl, rfl, rfl⟩)
  · refine xr_iload_n dX9_isKind_4 0 rfl ?_
    refine xr_bipush (v := 8) dX9_isKind_5 rfl ?_
    refine xr_icmp_ge (tgt := 14) dX9_isKind_7 rfl (fun c2 => ?_) (fun c2 => ?_)
    · refine xr_iconst (v := 0) dX9_isKind_14 rfl ?_
      exact xr_iret dX9_isKind_15 rfl rfl (⟨congrArg (fun z => some (Value.int z)) (bI_f (by grind)).symm, rfl, rfl, rfl⟩)
    · refine xr_iconst (v := 1) dX9_isKind_10 rfl ?_
      refine xr_goto (tgt := 15) dX9_isKind_11 rfl ?_
      exact xr_iret dX9_isKind_15 rfl rfl (⟨congrArg (fun z => some (Value.int z)) (bI_t (by grind)).symm, rfl, rfl, rfl⟩)
