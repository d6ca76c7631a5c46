def actA (K a : Nat) (x c : Int32) : Int32 :=
  match K, a with
  | 0, 0 => (x + c)
  | 0, 1 => ((x + c) * 2)
  | 0, 2 => (x ^^^ c)
  | 0, 3 => (((x + c) * 2) - (1 ^^^ c))
  | 1, 0 => ((x + c) + 3)
  | 1, 1 => (((x + c) + 3) * 2)
  | 1, 2 => (x ^^^ c)
  | 1, 3 => ((((x + c) + 3) * 2) - (1 ^^^ c))
  | 2, 0 => (x + c)
  | 2, 1 => (-((x + c) * 2))
  | 2, 2 => (x ^^^ c)
  | 2, 3 => ((-((x + c) * 2)) - (1 ^^^ c))
  | 3, 0 => (x + c)
  | 3, 1 => (-(((x + 1) + c) * 2))
  | 3, 2 => ((x ^^^ c) * 3)
  | 3, 3 => ((-(((x + 1) + c) * 2)) - ((1 ^^^ c) * 3))
  | 4, 0 => ((x + c) + 3)
  | 4, 1 => (((x + c) + 3) * 2)
  | 4, 2 => ((x ^^^ c) - ((2 + c) + 3))
  | 4, 3 => ((((x + c) + 3) * 2) - ((1 ^^^ c) - ((2 + c) + 3)))
  | 5, 0 => (x + c)
  | 5, 1 => (-(((x + 1) + c) * 2))
  | 5, 2 => ((x ^^^ c) * 3)
  | 5, 3 => (((-(((x + 1) + c) * 2)) - ((1 ^^^ c) * 3)) ^^^ 5)
  | 6, 0 => ((x + c) * 2)
  | 6, 1 => (((x + c) * 2) * 2)
  | 6, 2 => (x ^^^ c)
  | 6, 3 => ((((x + c) * 2) * 2) - (1 ^^^ c))
  | 7, 0 => ((x + c) + 3)
  | 7, 1 => ((((x + c) + 3) * 2) + ((2 ^^^ c) - ((2 + c) + 3)))
  | 7, 2 => ((x ^^^ c) - ((2 + c) + 3))
  | 7, 3 => ((((((x + c) + 3) * 2) + ((2 ^^^ c) - ((2 + c) + 3))) - ((1 ^^^ c) - ((2 + c) + 3))) - 1)
  | _, _ => 0
def EAct (cnt : Int32) (kd : Nat → Int32) (h ac x r : Int32) : Prop := ¬ ((0 ≤ h ∧ h < cnt) ∧ (0 ≤ ac ∧ ac ≤ 3)) ∧ r = 0 ∨ ((0 ≤ h ∧ h < cnt) ∧ (0 ≤ ac ∧ ac ≤ 3)) ∧ ∃ j K a : Nat, j < 50 ∧ K < 8 ∧ a < 4 ∧ h = nI j ∧ kd j = nI K ∧ ac = nI a ∧ r = actA K a x (nI j)
def tkF (K : Nat) (k : Int32) : Int32 :=
  match K with
  | 0 => if k = 0 then 0 else -12
  | 1 => if k = 1 ∨ k = 0 then 1 else -12
  | 2 => if k = 2 ∨ k = 0 then 2 else -12
  | 3 => if k = 3 ∨ k = 2 ∨ k = 0 then 3 else -12
  | 4 => if k = 4 ∨ k = 1 ∨ k = 0 then 4 else -12
  | 5 => if k = 5 ∨ k = 3 ∨ k = 2 ∨ k = 0 then 5 else -12
  | 6 => if k = 6 ∨ k = 0 then 6 else -12
  | 7 => if k = 7 ∨ k = 4 ∨ k = 1 ∨ k = 0 then 7 else -12
  | _ => 0
set_option maxRecDepth 100000 in
set_option maxHeartbeats 4000000 in
theorem gs_X8_isUnder_0 (ab : Int32) {l : Launch} {G : xG} {M : xM} {J : xJ} : x_M l G fX8_isUnder 1 0 0 [.int (0), .int (ab)] x_SH M J (qPI M J (fun r => r = 1 ∧ (ab = 0) ∨ r = 0 ∧ ¬ (ab = 0))) := by
  refine xb_of pX8 (Nat.le_of_ble_eq_true rfl) rfl ?_
  refine xr_iload_n dX8_isUnder_0 0 rfl ?_
  refine xr_istore_n (ls2 := [(2, .int (0)), (0, .int (0)), (1, .int (ab))]) dX8_isUnder_1 (by decide) rfl ?_
  refine xr_iconst (v := 0) dX8_isUnder_2 rfl ?_
  refine xr_istore_n (ls2 := [(3, .int (0)), (2, .int (0)), (0, .int (0)), (1, .int (ab))]) dX8_isUnder_3 (by decide) rfl ?_
  refine xr_iload_n dX8_isUnder_4 0 rfl ?_
  refine xr_bipush (v := 8) dX8_isUnder_5 rfl ?_
  refine xr_icmp_ge (tgt := 36) dX8_isUnder_7 rfl (fun c => absurd c (by decide)) (fun _ => ?_)
  refine xr_iload_n dX8_isUnder_10 1 rfl ?_
  refine xb_cN (As := [.int (0)]) (rest := []) mlX8_26 (c_X9_isKind 0) dX8_isUnder_11 rfl rfl (Nat.le_of_ble_eq_true rfl) (by decide) (by decide) ?_
  refine xb_beq (tgt := 36) dX8_isUnder_14 rfl (fun c => absurd (by decide) c) (fun _ => ?_)
  refine xr_iload_n dX8_isUnder_17 1 rfl ?_
  refine xr_iload_n dX8_isUnder_18 3 rfl ?_
  refine xr_icmp_ne (tgt := 24) dX8_isUnder_19 rfl (fun c2 => ?_) (fun c2 => ?_)
  · refine xr_getsA slX8_30 dX8_isUnder_24 ?_
    refine xr_iload_n dX8_isUnder_27 1 rfl ?_
    refine xr_tabA (by unfold vp_in; decide) dX8_isUnder_28 ?_
    refine xb_top (y := (-1)) (by decide) ?_
    refine xr_istore_n (ls2 := [(2, .int ((-1))), (3, .int (0)), (0, .int (0)), (1, .int (ab))]) dX8_isUnder_29 (by decide) rfl ?_
    refine xr_iinc (v := 1) (ls2 := [(3, .int (1)), (2, .int ((-1))), (0, .int (0)), (1, .int (ab))]) dX8_isUnder_30 1 rfl rfl (by decide) rfl ?_
    refine xr_goto (tgt := 4) dX8_isUnder_33 rfl ?_
    refine xr_iload_n dX8_isUnder_4 0 rfl ?_
    refine xr_bipush (v := 8) dX8_isUnder_5 rfl ?_
    refine xr_icmp_ge (tgt := 36) dX8_isUnder_7 rfl (fun c => absurd c (by decide)) (fun _ => ?_)
    refine xr_iload_n dX8_isUnder_10 1 rfl ?_
    refine xb_cN (As := [.int ((-1))]) (rest := []) mlX8_26 (c_X9_isKind (-1)) dX8_isUnder_11 rfl rfl (Nat.le_of_ble_eq_true rfl) (by decide) (by decide) ?_
    refine xb_beq (tgt := 36) dX8_isUnder_14 rfl (fun _ => ?_) (fun c => absurd c (by decide))
    refine xr_iconst (v := 0) dX8_isUnder_36 rfl ?_
    exact xr_iret dX8_isUnder_37 rfl rfl (⟨_, rfl, rfl, rfl, rfl, (Or.inr ⟨rfl, by grind⟩)⟩)
  · refine xr_iconst (v := 1) dX8_isUnder_22 rfl ?_
    exact xr_iret dX8_isUnder_23 rfl rfl (⟨_, rfl, rfl, rfl, rfl, (Or.inl ⟨rfl, by grind⟩)⟩)
set_option maxRecDepth 100000 in
set_option maxHeartbeats 4000000 in
theorem gs_X8_isUnder_1 (ab : Int32) {l : Launch} {G : xG} {M : xM} {J : xJ} : x_M l G fX8_isUnder 1 0 0 [.int (1), .int (ab)] x_SH M J (qPI M J (fun r => r = 1 ∧ (ab = 1 ∨ ab = 0) ∨ r = 0 ∧ ¬ (ab = 1 ∨ ab = 0))) := by
  refine xb_of pX8 (Nat.le_of_ble_eq_true rfl) rfl ?_
  refine xr_iload_n dX8_isUnder_0 0 rfl ?_
  refine xr_istore_n (ls2 := [(2, .int (1)), (0, .int (1)), (1, .int (ab))]) dX8_isUnder_1 (by decide) rfl ?_
  refine xr_iconst (v := 0) dX8_isUnder_2 rfl ?_
  refine xr_istore_n (ls2 := [(3, .int (0)), (2, .int (1)), (0, .int (1)), (1, .int (ab))]) dX8_isUnder_3 (by decide) rfl ?_
  refine xr_iload_n dX8_isUnder_4 0 rfl ?_
  refine xr_bipush (v := 8) dX8_isUnder_5 rfl ?_
  refine xr_icmp_ge (tgt := 36) dX8_isUnder_7 rfl (fun c => absurd c (by decide)) (fun _ => ?_)
  refine xr_iload_n dX8_isUnder_10 1 rfl ?_
  refine xb_cN (As := [.int (1)]) (rest := []) mlX8_26 (c_X9_isKind 1) dX8_isUnder_11 rfl rfl (Nat.le_of_ble_eq_true rfl) (by decide) (by decide) ?_
  refine xb_beq (tgt := 36) dX8_isUnder_14 rfl (fun c => absurd (by decide) c) (fun _ => ?_)
  refine xr_iload_n dX8_isUnder_17 1 rfl ?_
  refine xr_iload_n dX8_isUnder_18 3 rfl ?_
  refine xr_icmp_ne (tgt := 24) dX8_isUnder_19 rfl (fun c2 => ?_) (fun c2 => ?_)
  · refine xr_getsA slX8_30 dX8_isUnder_24 ?_
    refine xr_iload_n dX8_isUnder_27 1 rfl ?_
    refine xr_tabA (by unfold vp_in; decide) dX8_isUnder_28 ?_
    refine xb_top (y := 0) (by decide) ?_
    refine xr_istore_n (ls2 := [(2, .int (0)), (3, .int (0)), (0, .int (1)), (1, .int (ab))]) dX8_isUnder_29 (by decide) rfl ?_
    refine xr_iinc (v := 1) (ls2 := [(3, .int (1)), (2, .int (0)), (0, .int (1)), (1, .int (ab))]) dX8_isUnder_30 1 rfl rfl (by decide) rfl ?_
    refine xr_goto (tgt := 4) dX8_isUnder_33 rfl ?_
    refine xr_iload_n dX8_isUnder_4 0 rfl ?_
    refine xr_bipush (v := 8) dX8_isUnder_5 rfl ?_
    refine xr_icmp_ge (tgt := 36) dX8_isUnder_7 rfl (fun c => absurd c (by decide)) (fun _ => ?_)
    refine xr_iload_n dX8_isUnder_10 1 rfl ?_
    refine xb_cN (As := [.int (0)]) (rest := []) mlX8_26 (c_X9_isKind 0) dX8_isUnder_11 rfl rfl (Nat.le_of_ble_eq_true rfl) (by decide) (by decide) ?_
    refine xb_beq (tgt := 36) dX8_isUnder_14 rfl (fun c => absurd (by decide) c) (fun _ => ?_)
    refine xr_iload_n dX8_isUnder_17 1 rfl ?_
    refine xr_iload_n dX8_isUnder_18 3 rfl ?_
    refine xr_icmp_ne (tgt := 24) dX8_isUnder_19 rfl (fun c4 => ?_) (fun c4 => ?_)
    · refine xr_getsA slX8_30 dX8_isUnder_24 ?_
      refine xr_iload_n dX8_isUnder_27 1 rfl ?_
      refine xr_tabA (by unfold vp_in; decide) dX8_isUnder_28 ?_
      refine xb_top (y := (-1)) (by decide) ?_
      refine xr_istore_n (ls2 := [(2, .int ((-1))), (3, .int (1)), (0, .int (1)), (1, .int (ab))]) dX8_isUnder_29 (by decide) rfl ?_
      refine xr_iinc (v := 2) (ls2 := [(3, .int (2)), (2, .int ((-1))), (0, .int (1)), (1, .int (ab))]) dX8_isUnder_30 1 rfl rfl (by decide) rfl ?_
      refine xr_goto (tgt := 4) dX8_isUnder_33 rfl ?_
      refine xr_iload_n dX8_isUnder_4 0 rfl ?_
      refine xr_bipush (v := 8) dX8_isUnder_5 rfl ?_
      refine xr_icmp_ge (tgt := 36) dX8_isUnder_7 rfl (fun c => absurd c (by decide)) (fun _ => ?_)
      refine xr_iload_n dX8_isUnder_10 1 rfl ?_
      refine xb_cN (As := [.int ((-1))]) (rest := []) mlX8_26 (c_X9_isKind (-1)) dX8_isUnder_11 rfl rfl (Nat.le_of_ble_eq_true rfl) (by decide) (by decide) ?_
      refine xb_beq (tgt := 36) dX8_isUnder_14 rfl (fun _ => ?_) (fun c => absurd c (by decide))
      refine xr_iconst (v := 0) dX8_isUnder_36 rfl ?_
      exact xr_iret dX8_isUnder_37 rfl rfl (⟨_, rfl, rfl, rfl, rfl, (Or.inr ⟨rfl, by grind⟩)⟩)
    · refine xr_iconst (v := 1) dX8_isUnder_22 rfl ?_
      exact xr_iret dX8_isUnder_23 rfl rfl (⟨_, rfl, rfl, rfl, rfl, (Or.inl ⟨rfl, by grind⟩)⟩)
  · refine xr_iconst (v := 1) dX8_isUnder_22 rfl ?_
    exact xr_iret dX8_isUnder_23 rfl rfl (⟨_, rfl, rfl, rfl, rfl, (Or.inl ⟨rfl, by grind⟩)⟩)
set_option maxRecDepth 100000 in
set_option maxHeartbeats 4000000 in
theorem gs_X8_isUnder_2 (ab : Int32) {l : Launch} {G : xG} {M : xM} {J : xJ} : x_M l G fX8_isUnder 1 0 0 [.int (2), .int (ab)] x_SH M J (qPI M J (fun r => r = 1 ∧ (ab = 2 ∨ ab = 0) ∨ r = 0 ∧ ¬ (ab = 2 ∨ ab = 0))) := by
  refine xb_of pX8 (Nat.le_of_ble_eq_true rfl) rfl ?_
  refine xr_iload_n dX8_isUnder_0 0 rfl ?_
  refine xr_istore_n (ls2 := [(2, .int (2)), (0, .int (2)), (1, .int (ab))]) dX8_isUnder_1 (by decide) rfl ?_
  refine xr_iconst (v := 0) dX8_isUnder_2 rfl ?_
  refine xr_istore_n (ls2 := [(3, .int (0)), (2, .int (2)), (0, .int (2)), (1, .int (ab))]) dX8_isUnder_3 (by decide) rfl ?_
  refine xr_iload_n dX8_isUnder_4 0 rfl ?_
  refine xr_bipush (v := 8) dX8_isUnder_5 rfl ?_
  refine xr_icmp_ge (tgt := 36) dX8_isUnder_7 rfl (fun c => absurd c (by decide)) (fun _ => ?_)
  refine xr_iload_n dX8_isUnder_10 1 rfl ?_
  refine xb_cN (As := [.int (2)]) (rest := []) mlX8_26 (c_X9_isKind 2) dX8_isUnder_11 rfl rfl (Nat.le_of_ble_eq_true rfl) (by decide) (by decide) ?_
  refine xb_beq (tgt := 36) dX8_isUnder_14 rfl (fun c => absurd (by decide) c) (fun _ => ?_)
  refine xr_iload_n dX8_isUnder_17 1 rfl ?_
  refine xr_iload_n dX8_isUnder_18 3 rfl ?_
  refine xr_icmp_ne (tgt := 24) dX8_isUnder_19 rfl (fun c2 => ?_) (fun c2 => ?_)
  · refine xr_getsA slX8_30 dX8_isUnder_24 ?_
    refine xr_iload_n dX8_isUnder_27 1 rfl ?_
    refine xr_tabA (by unfold vp_in; decide) dX8_isUnder_28 ?_
    refine xb_top (y := 0) (by decide) ?_
    refine xr_istore_n (ls2 := [(2, .int (0)), (3, .int (0)), (0, .int (2)), (1, .int (ab))]) dX8_isUnder_29 (by decide) rfl ?_
    refine xr_iinc (v := 1) (ls2 := [(3, .int (1)), (2, .int (0)), (0, .int (2)), (1, .int (ab))]) dX8_isUnder_30 1 rfl rfl (by decide) rfl ?_
    refine xr_goto (tgt := 4) dX8_isUnder_33 rfl ?_
    refine xr_iload_n dX8_isUnder_4 0 rfl ?_
    refine xr_bipush (v := 8) dX8_isUnder_5 rfl ?_
    refine xr_icmp_ge (tgt := 36) dX8_isUnder_7 rfl (fun c => absurd c (by decide)) (fun _ => ?_)
    refine xr_iload_n dX8_isUnder_10 1 rfl ?_
    refine xb_cN (As := [.int (0)]) (rest := []) mlX8_26 (c_X9_isKind 0) dX8_isUnder_11 rfl rfl (Nat.le_of_ble_eq_true rfl) (by decide) (by decide) ?_
    refine xb_beq (tgt := 36) dX8_isUnder_14 rfl (fun c => absurd (by decide) c) (fun _ => ?_)
    refine xr_iload_n dX8_isUnder_17 1 rfl ?_
    refine xr_iload_n dX8_isUnder_18 3 rfl ?_
    refine xr_icmp_ne (tgt := 24) dX8_isUnder_19 rfl (fun c4 => ?_) (fun c4 => ?_)
    · refine xr_getsA slX8_30 dX8_isUnder_24 ?_
      refine xr_iload_n dX8_isUnder_27 1 rfl ?_
      refine xr_tabA (by unfold vp_in; decide) dX8_isUnder_28 ?_
      refine xb_top (y := (-1)) (by decide) ?_
      refine xr_istore_n (ls2 := [(2, .int ((-1))), (3, .int (1)), (0, .int (2)), (1, .int (ab))]) dX8_isUnder_29 (by decide) rfl ?_
      refine xr_iinc (v := 2) (ls2 := [(3, .int (2)), (2, .int ((-1))), (0, .int (2)), (1, .int (ab))]) dX8_isUnder_30 1 rfl rfl (by decide) rfl ?_
      refine xr_goto (tgt := 4) dX8_isUnder_33 rfl ?_
      refine xr_iload_n dX8_isUnder_4 0 rfl ?_
      refine xr_bipush (v := 8) dX8_isUnder_5 rfl ?_
      refine xr_icmp_ge (tgt := 36) dX8_isUnder_7 rfl (fun c => absurd c (by decide)) (fun _ => ?_)
      refine xr_iload_n dX8_isUnder_10 1 rfl ?_
      refine xb_cN (As := [.int ((-1))]) (rest := []) mlX8_26 (c_X9_isKind (-1)) dX8_isUnder_11 rfl rfl (Nat.le_of_ble_eq_true rfl) (by decide) (by decide) ?_
      refine xb_beq (tgt := 36) dX8_isUnder_14 rfl (fun _ => ?_) (fun c => absurd c (by decide))
      refine xr_iconst (v := 0) dX8_isUnder_36 rfl ?_
      exact xr_iret dX8_isUnder_37 rfl rfl (⟨_, rfl, rfl, rfl, rfl, (Or.inr ⟨rfl, by grind⟩)⟩)
    · refine xr_iconst (v := 1) dX8_isUnder_22 rfl ?_
      exact xr_iret dX8_isUnder_23 rfl rfl (⟨_, rfl, rfl, rfl, rfl, (Or.inl ⟨rfl, by grind⟩)⟩)
  · refine xr_iconst (v := 1) dX8_isUnder_22 rfl ?_
    exact xr_iret dX8_isUnder_23 rfl rfl (⟨_, rfl, rfl, rfl, rfl, (Or.inl ⟨rfl, by grind⟩)⟩)
set_option maxRecDepth 100000 in
set_option maxHeartbeats 4000000 in
theorem gs_X8_isUnder_3 (ab : Int32) {l : Launch} {G : xG} {M : xM} {J : xJ} : x_M l G fX8_isUnder 1 0 0 [.int (3), .int (ab)] x_SH M J (qPI M J (fun r => r = 1 ∧ (ab = 3 ∨ ab = 2 ∨ ab = 0) ∨ r = 0 ∧ ¬ (ab = 3 ∨ ab = 2 ∨ ab = 0))) := by
  refine xb_of pX8 (Nat.le_of_ble_eq_true rfl) rfl ?_
  refine xr_iload_n dX8_isUnder_0 0 rfl ?_
  refine xr_istore_n (ls2 := [(2, .int (3)), (0, .int (3)), (1, .int (ab))]) dX8_isUnder_1 (by decide) rfl ?_
  refine xr_iconst (v := 0) dX8_isUnder_2 rfl ?_
  refine xr_istore_n (ls2 := [(3, .int (0)), (2, .int (3)), (0, .int (3)), (1, .int (ab))]) dX8_isUnder_3 (by decide) rfl ?_
  refine xr_iload_n dX8_isUnder_4 0 rfl ?_
  refine xr_bipush (v := 8) dX8_isUnder_5 rfl ?_
  refine xr_icmp_ge (tgt := 36) dX8_isUnder_7 rfl (fun c => absurd c (by decide)) (fun _ => ?_)
  refine xr_iload_n dX8_isUnder_10 1 rfl ?_
  refine xb_cN (As := [.int (3)]) (rest := []) mlX8_26 (c_X9_isKind 3) dX8_isUnder_11 rfl rfl (Nat.le_of_ble_eq_true rfl) (by decide) (by decide) ?_
  refine xb_beq (tgt := 36) dX8_isUnder_14 rfl (fun c => absurd (by decide) c) (fun _ => ?_)
  refine xr_iload_n dX8_isUnder_17 1 rfl ?_
  refine xr_iload_n dX8_isUnder_18 3 rfl ?_
  refine xr_icmp_ne (tgt := 24) dX8_isUnder_19 rfl (fun c2 => ?_) (fun c2 => ?_)
  · refine xr_getsA slX8_30 dX8_isUnder_24 ?_
    refine xr_iload_n dX8_isUnder_27 1 rfl ?_
    refine xr_tabA (by unfold vp_in; decide) dX8_isUnder_28 ?_
    refine xb_top (y := 2) (by decide) ?_
    refine xr_istore_n (ls2 := [(2, .int (2)), (3, .int (0)), (0, .int (3)), (1, .int (ab))]) dX8_isUnder_29 (by decide) rfl ?_
    refine xr_iinc (v := 1) (ls2 := [(3, .int (1)), (2, .int (2)), (0, .int (3)), (1, .int (ab))]) dX8_isUnder_30 1 rfl rfl (by decide) rfl ?_
    refine xr_goto (tgt := 4) dX8_isUnder_33 rfl ?_
    refine xr_iload_n dX8_isUnder_4 0 rfl ?_
    refine xr_bipush (v := 8) dX8_isUnder_5 rfl ?_
    refine xr_icmp_ge (tgt := 36) dX8_isUnder_7 rfl (fun c => absurd c (by decide)) (fun _ => ?_)
    refine xr_iload_n dX8_isUnder_10 1 rfl ?_
    refine xb_cN (As := [.int (2)]) (rest := []) mlX8_26 (c_X9_isKind 2) dX8_isUnder_11 rfl rfl (Nat.le_of_ble_eq_true rfl) (by decide) (by decide) ?_
    refine xb_beq (tgt := 36) dX8_isUnder_14 rfl (fun c => absurd (by decide) c) (fun _ => ?_)
    refine xr_iload_n dX8_isUnder_17 1 rfl ?_
    refine xr_iload_n dX8_isUnder_18 3 rfl ?_
    refine xr_icmp_ne (tgt := 24) dX8_isUnder_19 rfl (fun c4 => ?_) (fun c4 => ?_)
    · refine xr_getsA slX8_30 dX8_isUnder_24 ?_
      refine xr_iload_n dX8_isUnder_27 1 rfl ?_
      refine xr_tabA (by unfold vp_in; decide) dX8_isUnder_28 ?_
      refine xb_top (y := 0) (by decide) ?_
      refine xr_istore_n (ls2 := [(2, .int (0)), (3, .int (1)), (0, .int (3)), (1, .int (ab))]) dX8_isUnder_29 (by decide) rfl ?_
      refine xr_iinc (v := 2) (ls2 := [(3, .int (2)), (2, .int (0)), (0, .int (3)), (1, .int (ab))]) dX8_isUnder_30 1 rfl rfl (by decide) rfl ?_
      refine xr_goto (tgt := 4) dX8_isUnder_33 rfl ?_
      refine xr_iload_n dX8_isUnder_4 0 rfl ?_
      refine xr_bipush (v := 8) dX8_isUnder_5 rfl ?_
      refine xr_icmp_ge (tgt := 36) dX8_isUnder_7 rfl (fun c => absurd c (by decide)) (fun _ => ?_)
      refine xr_iload_n dX8_isUnder_10 1 rfl ?_
      refine xb_cN (As := [.int (0)]) (rest := []) mlX8_26 (c_X9_isKind 0) dX8_isUnder_11 rfl rfl (Nat.le_of_ble_eq_true rfl) (by decide) (by decide) ?_
      refine xb_beq (tgt := 36) dX8_isUnder_14 rfl (fun c => absurd (by decide) c) (fun _ => ?_)
      refine xr_iload_n dX8_isUnder_17 1 rfl ?_
      refine xr_iload_n dX8_isUnder_18 3 rfl ?_
      refine xr_icmp_ne (tgt := 24) dX8_isUnder_19 rfl (fun c6 => ?_) (fun c6 => ?_)
      · refine xr_getsA slX8_30 dX8_isUnder_24 ?_
        refine xr_iload_n dX8_isUnder_27 1 rfl ?_
        refine xr_tabA (by unfold vp_in; decide) dX8_isUnder_28 ?_
        refine xb_top (y := (-1)) (by decide) ?_
        refine xr_istore_n (ls2 := [(2, .int ((-1))), (3, .int (2)), (0, .int (3)), (1, .int (ab))]) dX8_isUnder_29 (by decide) rfl ?_
        refine xr_iinc (v := 3) (ls2 := [(3, .int (3)), (2, .int ((-1))), (0, .int (3)), (1, .int (ab))]) dX8_isUnder_30 1 rfl rfl (by decide) rfl ?_
        refine xr_goto (tgt := 4) dX8_isUnder_33 rfl ?_
        refine xr_iload_n dX8_isUnder_4 0 rfl ?_
        refine xr_bipush (v := 8) dX8_isUnder_5 rfl ?_
        refine xr_icmp_ge (tgt := 36) dX8_isUnder_7 rfl (fun c => absurd c (by decide)) (fun _ => ?_)
        refine xr_iload_n dX8_isUnder_10 1 rfl ?_
        refine xb_cN (As := [.int ((-1))]) (rest := []) mlX8_26 (c_X9_isKind (-1)) dX8_isUnder_11 rfl rfl (Nat.le_of_ble_eq_true rfl) (by decide) (by decide) ?_
        refine xb_beq (tgt := 36) dX8_isUnder_14 rfl (fun _ => ?_) (fun c => absurd c (by decide))
        refine xr_iconst (v := 0) dX8_isUnder_36 rfl ?_
        exact xr_iret dX8_isUnder_37 rfl rfl (⟨_, rfl, rfl, rfl, rfl, (Or.inr ⟨rfl, by grind⟩)⟩)
      · refine xr_iconst (v := 1) dX8_isUnder_22 rfl ?_
        exact xr_iret dX8_isUnder_23 rfl rfl (⟨_, rfl, rfl, rfl, rfl, (Or.inl ⟨rfl, by grind⟩)⟩)
    · refine xr_iconst (v := 1) dX8_isUnder_22 rfl ?_
      exact xr_iret dX8_isUnder_23 rfl rfl (⟨_, rfl, rfl, rfl, rfl, (Or.inl ⟨rfl, by grind⟩)⟩)
  · refine xr_iconst (v := 1) dX8_isUnder_22 rfl ?_
    exact xr_iret dX8_isUnder_23 rfl rfl (⟨_, rfl, rfl, rfl, rfl, (Or.inl ⟨rfl, by grind⟩)⟩)
set_option maxRecDepth 100000 in
set_option maxHeartbeats 4000000 in
theorem gs_X8_isUnder_4 (ab : Int32) {l : Launch} {G : xG} {M : xM} {J : xJ} : x_M l G fX8_isUnder 1 0 0 [.int (4), .int (ab)] x_SH M J (qPI M J (fun r => r = 1 ∧ (ab = 4 ∨ ab = 1 ∨ ab = 0) ∨ r = 0 ∧ ¬ (ab = 4 ∨ ab = 1 ∨ ab = 0))) := by
  refine xb_of pX8 (Nat.le_of_ble_eq_true rfl) rfl ?_
  refine xr_iload_n dX8_isUnder_0 0 rfl ?_
  refine xr_istore_n (ls2 := [(2, .int (4)), (0, .int (4)), (1, .int (ab))]) dX8_isUnder_1 (by decide) rfl ?_
  refine xr_iconst (v := 0) dX8_isUnder_2 rfl ?_
  refine xr_istore_n (ls2 := [(3, .int (0)), (2, .int (4)), (0, .int (4)), (1, .int (ab))]) dX8_isUnder_3 (by decide) rfl ?_
  refine xr_iload_n dX8_isUnder_4 0 rfl ?_
  refine xr_bipush (v := 8) dX8_isUnder_5 rfl ?_
  refine xr_icmp_ge (tgt := 36) dX8_isUnder_7 rfl (fun c => absurd c (by decide)) (fun _ => ?_)
  refine xr_iload_n dX8_isUnder_10 1 rfl ?_
  refine xb_cN (As := [.int (4)]) (rest := []) mlX8_26 (c_X9_isKind 4) dX8_isUnder_11 rfl rfl (Nat.le_of_ble_eq_true rfl) (by decide) (by decide) ?_
  refine xb_beq (tgt := 36) dX8_isUnder_14 rfl (fun c => absurd (by decide) c) (fun _ => ?_)
  refine xr_iload_n dX8_isUnder_17 1 rfl ?_
  refine xr_iload_n dX8_isUnder_18 3 rfl ?_
  refine xr_icmp_ne (tgt := 24) dX8_isUnder_19 rfl (fun c2 => ?_) (fun c2 => ?_)
  · refine xr_getsA slX8_30 dX8_isUnder_24 ?_
    refine xr_iload_n dX8_isUnder_27 1 rfl ?_
    refine xr_tabA (by unfold vp_in; decide) dX8_isUnder_28 ?_
    refine xb_top (y := 1) (by decide) ?_
    refine xr_istore_n (ls2 := [(2, .int (1)), (3, .int (0)), (0, .int (4)), (1, .int (ab))]) dX8_isUnder_29 (by decide) rfl ?_
    refine xr_iinc (v := 1) (ls2 := [(3, .int (1)), (2, .int (1)), (0, .int (4)), (1, .int (ab))]) dX8_isUnder_30 1 rfl rfl (by decide) rfl ?_
    refine xr_goto (tgt := 4) dX8_isUnder_33 rfl ?_
    refine xr_iload_n dX8_isUnder_4 0 rfl ?_
    refine xr_bipush (v := 8) dX8_isUnder_5 rfl ?_
    refine xr_icmp_ge (tgt := 36) dX8_isUnder_7 rfl (fun c => absurd c (by decide)) (fun _ => ?_)
    refine xr_iload_n dX8_isUnder_10 1 rfl ?_
    refine xb_cN (As := [.int (1)]) (rest := []) mlX8_26 (c_X9_isKind 1) dX8_isUnder_11 rfl rfl (Nat.le_of_ble_eq_true rfl) (by decide) (by decide) ?_
    refine xb_beq (tgt := 36) dX8_isUnder_14 rfl (fun c => absurd (by decide) c) (fun _ => ?_)
    refine xr_iload_n dX8_isUnder_17 1 rfl ?_
    refine xr_iload_n dX8_isUnder_18 3 rfl ?_
    refine xr_icmp_ne (tgt := 24) dX8_isUnder_19 rfl (fun c4 => ?_) (fun c4 => ?_)
    · refine xr_getsA slX8_30 dX8_isUnder_24 ?_
      refine xr_iload_n dX8_isUnder_27 1 rfl ?_
      refine xr_tabA (by unfold vp_in; decide) dX8_isUnder_28 ?_
      refine xb_top (y := 0) (by decide) ?_
      refine xr_istore_n (ls2 := [(2, .int (0)), (3, .int (1)), (0, .int (4)), (1, .int (ab))]) dX8_isUnder_29 (by decide) rfl ?_
      refine xr_iinc (v := 2) (ls2 := [(3, .int (2)), (2, .int (0)), (0, .int (4)), (1, .int (ab))]) dX8_isUnder_30 1 rfl rfl (by decide) rfl ?_
      refine xr_goto (tgt := 4) dX8_isUnder_33 rfl ?_
      refine xr_iload_n dX8_isUnder_4 0 rfl ?_
      refine xr_bipush (v := 8) dX8_isUnder_5 rfl ?_
      refine xr_icmp_ge (tgt := 36) dX8_isUnder_7 rfl (fun c => absurd c (by decide)) (fun _ => ?_)
      refine xr_iload_n dX8_isUnder_10 1 rfl ?_
      refine xb_cN (As := [.int (0)]) (rest := []) mlX8_26 (c_X9_isKind 0) dX8_isUnder_11 rfl rfl (Nat.le_of_ble_eq_true rfl) (by decide) (by decide) ?_
      refine xb_beq (tgt := 36) dX8_isUnder_14 rfl (fun c => absurd (by decide) c) (fun _ => ?_)
      refine xr_iload_n dX8_isUnder_17 1 rfl ?_
      refine xr_iload_n dX8_isUnder_18 3 rfl ?_
      refine xr_icmp_ne (tgt := 24) dX8_isUnder_19 rfl (fun c6 => ?_) (fun c6 => ?_)
      · refine xr_getsA slX8_30 dX8_isUnder_24 ?_
        refine xr_iload_n dX8_isUnder_27 1 rfl ?_
        refine xr_tabA (by unfold vp_in; decide) dX8_isUnder_28 ?_
        refine xb_top (y := (-1)) (by decide) ?_
        refine xr_istore_n (ls2 := [(2, .int ((-1))), (3, .int (2)), (0, .int (4)), (1, .int (ab))]) dX8_isUnder_29 (by decide) rfl ?_
        refine xr_iinc (v := 3) (ls2 := [(3, .int (3)), (2, .int ((-1))), (0, .int (4)), (1, .int (ab))]) dX8_isUnder_30 1 rfl rfl (by decide) rfl ?_
        refine xr_goto (tgt := 4) dX8_isUnder_33 rfl ?_
        refine xr_iload_n dX8_isUnder_4 0 rfl ?_
        refine xr_bipush (v := 8) dX8_isUnder_5 rfl ?_
        refine xr_icmp_ge (tgt := 36) dX8_isUnder_7 rfl (fun c => absurd c (by decide)) (fun _ => ?_)
        refine xr_iload_n dX8_isUnder_10 1 rfl ?_
        refine xb_cN (As := [.int ((-1))]) (rest := []) mlX8_26 (c_X9_isKind (-1)) dX8_isUnder_11 rfl rfl (Nat.le_of_ble_eq_true rfl) (by decide) (by decide) ?_
        refine xb_beq (tgt := 36) dX8_isUnder_14 rfl (fun _ => ?_) (fun c => absurd c (by decide))
        refine xr_iconst (v := 0) dX8_isUnder_36 rfl ?_
        exact xr_iret dX8_isUnder_37 rfl rfl (⟨_, rfl, rfl, rfl, rfl, (Or.inr ⟨rfl, by grind⟩)⟩)
      · refine xr_iconst (v := 1) dX8_isUnder_22 rfl ?_
        exact xr_iret dX8_isUnder_23 rfl rfl (⟨_, rfl, rfl, rfl, rfl, (Or.inl ⟨rfl, by grind⟩)⟩)
    · refine xr_iconst (v := 1) dX8_isUnder_22 rfl ?_
      exact xr_iret dX8_isUnder_23 rfl rfl (⟨_, rfl, rfl, rfl, rfl, (Or.inl ⟨rfl, by grind⟩)⟩)
  · refine xr_iconst (v := 1) dX8_isUnder_22 rfl ?_
    exact xr_iret dX8_isUnder_23 rfl rfl (⟨_, rfl, rfl, rfl, rfl, (Or.inl ⟨rfl, by grind⟩)⟩)
set_option maxRecDepth 100000 in
set_option maxHeartbeats 4000000 in
theorem gs_X8_isUnder_5 (ab : Int32) {l : Launch} {G : xG} {M : xM} {J : xJ} : x_M l G fX8_isUnder 1 0 0 [.int (5), .int (ab)] x_SH M J (qPI M J (fun r => r = 1 ∧ (ab = 5 ∨ ab = 3 ∨ ab = 2 ∨ ab = 0) ∨ r = 0 ∧ ¬ (ab = 5 ∨ ab = 3 ∨ ab = 2 ∨ ab = 0))) := by
  refine xb_of pX8 (Nat.le_of_ble_eq_true rfl) rfl ?_
  refine xr_iload_n dX8_isUnder_0 0 rfl ?_
  refine xr_istore_n (ls2 := [(2, .int (5)), (0, .int (5)), (1, .int (ab))]) dX8_isUnder_1 (by decide) rfl ?_
  refine xr_iconst (v := 0) dX8_isUnder_2 rfl ?_
  refine xr_istore_n (ls2 := [(3, .int (0)), (2, .int (5)), (0, .int (5)), (1, .int (ab))]) dX8_isUnder_3 (by decide) rfl ?_
  refine xr_iload_n dX8_isUnder_4 0 rfl ?_
  refine xr_bipush (v := 8) dX8_isUnder_5 rfl ?_
  refine xr_icmp_ge (tgt := 36) dX8_isUnder_7 rfl (fun c => absurd c (by decide)) (fun _ => ?_)
  refine xr_iload_n dX8_isUnder_10 1 rfl ?_
  refine xb_cN (As := [.int (5)]) (rest := []) mlX8_26 (c_X9_isKind 5) dX8_isUnder_11 rfl rfl (Nat.le_of_ble_eq_true rfl) (by decide) (by decide) ?_
  refine xb_beq (tgt := 36) dX8_isUnder_14 rfl (fun c => absurd (by decide) c) (fun _ => ?_)
  refine xr_iload_n dX8_isUnder_17 1 rfl ?_
  refine xr_iload_n dX8_isUnder_18 3 rfl ?_
  refine xr_icmp_ne (tgt := 24) dX8_isUnder_19 rfl (fun c2 => ?_) (fun c2 => ?_)
  · refine xr_getsA slX8_30 dX8_isUnder_24 ?_
    refine xr_iload_n dX8_isUnder_27 1 rfl ?_
    refine xr_tabA (by unfold vp_in; decide) dX8_isUnder_28 ?_
    refine xb_top (y := 3) (by decide) ?_
    refine xr_istore_n (ls2 := [(2, .int (3)), (3, .int (0)), (0, .int (5)), (1, .int (ab))]) dX8_isUnder_29 (by decide) rfl ?_
    refine xr_iinc (v := 1) (ls2 := [(3, .int (1)), (2, .int (3)), (0, .int (5)), (1, .int (ab))]) dX8_isUnder_30 1 rfl rfl (by decide) rfl ?_
    refine xr_goto (tgt := 4) dX8_isUnder_33 rfl ?_
    refine xr_iload_n dX8_isUnder_4 0 rfl ?_
    refine xr_bipush (v := 8) dX8_isUnder_5 rfl ?_
    refine xr_icmp_ge (tgt := 36) dX8_isUnder_7 rfl (fun c => absurd c (by decide)) (fun _ => ?_)
    refine xr_iload_n dX8_isUnder_10 1 rfl ?_
    refine xb_cN (As := [.int (3)]) (rest := []) mlX8_26 (c_X9_isKind 3) dX8_isUnder_11 rfl rfl (Nat.le_of_ble_eq_true rfl) (by decide) (by decide) ?_
    refine xb_beq (tgt := 36) dX8_isUnder_14 rfl (fun c => absurd (by decide) c) (fun _ => ?_)
    refine xr_iload_n dX8_isUnder_17 1 rfl ?_
    refine xr_iload_n dX8_isUnder_18 3 rfl ?_
    refine xr_icmp_ne (tgt := 24) dX8_isUnder_19 rfl (fun c4 => ?_) (fun c4 => ?_)
    · refine xr_getsA slX8_30 dX8_isUnder_24 ?_
      refine xr_iload_n dX8_isUnder_27 1 rfl ?_
      refine xr_tabA (by unfold vp_in; decide) dX8_isUnder_28 ?_
      refine xb_top (y := 2) (by decide) ?_
      refine xr_istore_n (ls2 := [(2, .int (2)), (3, .int (1)), (0, .int (5)), (1, .int (ab))]) dX8_isUnder_29 (by decide) rfl ?_
      refine xr_iinc (v := 2) (ls2 := [(3, .int (2)), (2, .int (2)), (0, .int (5)), (1, .int (ab))]) dX8_isUnder_30 1 rfl rfl (by decide) rfl ?_
      refine xr_goto (tgt := 4) dX8_isUnder_33 rfl ?_
      refine xr_iload_n dX8_isUnder_4 0 rfl ?_
      refine xr_bipush (v := 8) dX8_isUnder_5 rfl ?_
      refine xr_icmp_ge (tgt := 36) dX8_isUnder_7 rfl (fun c => absurd c (by decide)) (fun _ => ?_)
      refine xr_iload_n dX8_isUnder_10 1 rfl ?_
      refine xb_cN (As := [.int (2)]) (rest := []) mlX8_26 (c_X9_isKind 2) dX8_isUnder_11 rfl rfl (Nat.le_of_ble_eq_true rfl) (by decide) (by decide) ?_
      refine xb_beq (tgt := 36) dX8_isUnder_14 rfl (fun c => absurd (by decide) c) (fun _ => ?_)
      refine xr_iload_n dX8_isUnder_17 1 rfl ?_
      refine xr_iload_n dX8_isUnder_18 3 rfl ?_
      refine xr_icmp_ne (tgt := 24) dX8_isUnder_19 rfl (fun c6 => ?_) (fun c6 => ?_)
      · refine xr_getsA slX8_30 dX8_isUnder_24 ?_
        refine xr_iload_n dX8_isUnder_27 1 rfl ?_
        refine xr_tabA (by unfold vp_in; decide) dX8_isUnder_28 ?_
        refine xb_top (y := 0) (by decide) ?_
        refine xr_istore_n (ls2 := [(2, .int (0)), (3, .int (2)), (0, .int (5)), (1, .int (ab))]) dX8_isUnder_29 (by decide) rfl ?_
        refine xr_iinc (v := 3) (ls2 := [(3, .int (3)), (2, .int (0)), (0, .int (5)), (1, .int (ab))]) dX8_isUnder_30 1 rfl rfl (by decide) rfl ?_
        refine xr_goto (tgt := 4) dX8_isUnder_33 rfl ?_
        refine xr_iload_n dX8_isUnder_4 0 rfl ?_
        refine xr_bipush (v := 8) dX8_isUnder_5 rfl ?_
        refine xr_icmp_ge (tgt := 36) dX8_isUnder_7 rfl (fun c => absurd c (by decide)) (fun _ => ?_)
        refine xr_iload_n dX8_isUnder_10 1 rfl ?_
        refine xb_cN (As := [.int (0)]) (rest := []) mlX8_26 (c_X9_isKind 0) dX8_isUnder_11 rfl rfl (Nat.le_of_ble_eq_true rfl) (by decide) (by decide) ?_
        refine xb_beq (tgt := 36) dX8_isUnder_14 rfl (fun c => absurd (by decide) c) (fun _ => ?_)
        refine xr_iload_n dX8_isUnder_17 1 rfl ?_
        refine xr_iload_n dX8_isUnder_18 3 rfl ?_
        refine xr_icmp_ne (tgt := 24) dX8_isUnder_19 rfl (fun c8 => ?_) (fun c8 => ?_)
        · refine xr_getsA slX8_30 dX8_isUnder_24 ?_
          refine xr_iload_n dX8_isUnder_27 1 rfl ?_
          refine xr_tabA (by unfold vp_in; decide) dX8_isUnder_28 ?_
          refine xb_top (y := (-1)) (by decide) ?_
          refine xr_istore_n (ls2 := [(2, .int ((-1))), (3, .int (3)), (0, .int (5)), (1, .int (ab))]) dX8_isUnder_29 (by decide) rfl ?_
          refine xr_iinc (v := 4) (ls2 := [(3, .int (4)), (2, .int ((-1))), (0, .int (5)), (1, .int (ab))]) dX8_isUnder_30 1 rfl rfl (by decide) rfl ?_
          refine xr_goto (tgt := 4) dX8_isUnder_33 rfl ?_
          refine xr_iload_n dX8_isUnder_4 0 rfl ?_
          refine xr_bipush (v := 8) dX8_isUnder_5 rfl ?_
          refine xr_icmp_ge (tgt := 36) dX8_isUnder_7 rfl (fun c => absurd c (by decide)) (fun _ => ?_)
          refine xr_iload_n dX8_isUnder_10 1 rfl ?_
          refine xb_cN (As := [.int ((-1))]) (rest := []) mlX8_26 (c_X9_isKind (-1)) dX8_isUnder_11 rfl rfl (Nat.le_of_ble_eq_true rfl) (by decide) (by decide) ?_
          refine xb_beq (tgt := 36) dX8_isUnder_14 rfl (fun _ => ?_) (fun c => absurd c (by decide))
          refine xr_iconst (v := 0) dX8_isUnder_36 rfl ?_
          exact xr_iret dX8_isUnder_37 rfl rfl (⟨_, rfl, rfl, rfl, rfl, (Or.inr ⟨rfl, by grind⟩)⟩)
        · refine xr_iconst (v := 1) dX8_isUnder_22 rfl ?_
          exact xr_iret dX8_isUnder_23 rfl rfl (⟨_, rfl, rfl, rfl, rfl, (Or.inl ⟨rfl, by grind⟩)⟩)
      · refine xr_iconst (v := 1) dX8_isUnder_22 rfl ?_
        exact xr_iret dX8_isUnder_23 rfl rfl (⟨_, rfl, rfl, rfl, rfl, (Or.inl ⟨rfl, by grind⟩)⟩)
    · refine xr_iconst (v := 1) dX8_isUnder_22 rfl ?_
      exact xr_iret dX8_isUnder_23 rfl rfl (⟨_, rfl, rfl, rfl, rfl, (Or.inl ⟨rfl, by grind⟩)⟩)
  · refine xr_iconst (v := 1) dX8_isUnder_22 rfl ?_
    exact xr_iret dX8_isUnder_23 rfl rfl (⟨_, rfl, rfl, rfl, rfl, (Or.inl ⟨rfl, by grind⟩)⟩)
set_option maxRecDepth 100000 in
set_option maxHeartbeats 4000000 in
theorem gs_X8_isUnder_6 (ab : Int32) {l : Launch} {G : xG} {M : xM} {J : xJ} : x_M l G fX8_isUnder 1 0 0 [.int (6), .int (ab)] x_SH M J (qPI M J (fun r => r = 1 ∧ (ab = 6 ∨ ab = 0) ∨ r = 0 ∧ ¬ (ab = 6 ∨ ab = 0))) := by
  refine xb_of pX8 (Nat.le_of_ble_eq_true rfl) rfl ?_
  refine xr_iload_n dX8_isUnder_0 0 rfl ?_
  refine xr_istore_n (ls2 := [(2, .int (6)), (0, .int (6)), (1, .int (ab))]) dX8_isUnder_1 (by decide) rfl ?_
  refine xr_iconst (v := 0) dX8_isUnder_2 rfl ?_
  refine xr_istore_n (ls2 := [(3, .int (0)), (2, .int (6)), (0, .int (6)), (1, .int (ab))]) dX8_isUnder_3 (by decide) rfl ?_
  refine xr_iload_n dX8_isUnder_4 0 rfl ?_
  refine xr_bipush (v := 8) dX8_isUnder_5 rfl ?_
  refine xr_icmp_ge (tgt := 36) dX8_isUnder_7 rfl (fun c => absurd c (by decide)) (fun _ => ?_)
  refine xr_iload_n dX8_isUnder_10 1 rfl ?_
  refine xb_cN (As := [.int (6)]) (rest := []) mlX8_26 (c_X9_isKind 6) dX8_isUnder_11 rfl rfl (Nat.le_of_ble_eq_true rfl) (by decide) (by decide) ?_
  refine xb_beq (tgt := 36) dX8_isUnder_14 rfl (fun c => absurd (by decide) c) (fun _ => ?_)
  refine xr_iload_n dX8_isUnder_17 1 rfl ?_
  refine xr_iload_n dX8_isUnder_18 3 rfl ?_
  refine xr_icmp_ne (tgt := 24) dX8_isUnder_19 rfl (fun c2 => ?_) (fun c2 => ?_)
  · refine xr_getsA slX8_30 dX8_isUnder_24 ?_
    refine xr_iload_n dX8_isUnder_27 1 rfl ?_
    refine xr_tabA (by unfold vp_in; decide) dX8_isUnder_28 ?_
    refine xb_top (y := 0) (by decide) ?_
    refine xr_istore_n (ls2 := [(2, .int (0)), (3, .int (0)), (0, .int (6)), (1, .int (ab))]) dX8_isUnder_29 (by decide) rfl ?_
    refine xr_iinc (v := 1) (ls2 := [(3, .int (1)), (2, .int (0)), (0, .int (6)), (1, .int (ab))]) dX8_isUnder_30 1 rfl rfl (by decide) rfl ?_
    refine xr_goto (tgt := 4) dX8_isUnder_33 rfl ?_
    refine xr_iload_n dX8_isUnder_4 0 rfl ?_
    refine xr_bipush (v := 8) dX8_isUnder_5 rfl ?_
    refine xr_icmp_ge (tgt := 36) dX8_isUnder_7 rfl (fun c => absurd c (by decide)) (fun _ => ?_)
    refine xr_iload_n dX8_isUnder_10 1 rfl ?_
    refine xb_cN (As := [.int (0)]) (rest := []) mlX8_26 (c_X9_isKind 0) dX8_isUnder_11 rfl rfl (Nat.le_of_ble_eq_true rfl) (by decide) (by decide) ?_
    refine xb_beq (tgt := 36) dX8_isUnder_14 rfl (fun c => absurd (by decide) c) (fun _ => ?_)
    refine xr_iload_n dX8_isUnder_17 1 rfl ?_
    refine xr_iload_n dX8_isUnder_18 3 rfl ?_
    refine xr_icmp_ne (tgt := 24) dX8_isUnder_19 rfl (fun c4 => ?_) (fun c4 => ?_)
    · refine xr_getsA slX8_30 dX8_isUnder_24 ?_
      refine xr_iload_n dX8_isUnder_27 1 rfl ?_
      refine xr_tabA (by unfold vp_in; decide) dX8_isUnder_28 ?_
      refine xb_top (y := (-1)) (by decide) ?_
      refine xr_istore_n (ls2 := [(2, .int ((-1))), (3, .int (1)), (0, .int (6)), (1, .int (ab))]) dX8_isUnder_29 (by decide) rfl ?_
      refine xr_iinc (v := 2) (ls2 := [(3, .int (2)), (2, .int ((-1))), (0, .int (6)), (1, .int (ab))]) dX8_isUnder_30 1 rfl rfl (by decide) rfl ?_
      refine xr_goto (tgt := 4) dX8_isUnder_33 rfl ?_
      refine xr_iload_n dX8_isUnder_4 0 rfl ?_
      refine xr_bipush (v := 8) dX8_isUnder_5 rfl ?_
      refine xr_icmp_ge (tgt := 36) dX8_isUnder_7 rfl (fun c => absurd c (by decide)) (fun _ => ?_)
      refine xr_iload_n dX8_isUnder_10 1 rfl ?_
      refine xb_cN (As := [.int ((-1))]) (rest := []) mlX8_26 (c_X9_isKind (-1)) dX8_isUnder_11 rfl rfl (Nat.le_of_ble_eq_true rfl) (by decide) (by decide) ?_
      refine xb_beq (tgt := 36) dX8_isUnder_14 rfl (fun _ => ?_) (fun c => absurd c (by decide))
      refine xr_iconst (v := 0) dX8_isUnder_36 rfl ?_
      exact xr_iret dX8_isUnder_37 rfl rfl (⟨_, rfl, rfl, rfl, rfl, (Or.inr ⟨rfl, by grind⟩)⟩)
    · refine xr_iconst (v := 1) dX8_isUnder_22 rfl ?_
      exact xr_iret dX8_isUnder_23 rfl rfl (⟨_, rfl, rfl, rfl, rfl, (Or.inl ⟨rfl, by grind⟩)⟩)
  · refine xr_iconst (v := 1) dX8_isUnder_22 rfl ?_
    exact xr_iret dX8_isUnder_23 rfl rfl (⟨_, rfl, rfl, rfl, rfl, (Or.inl ⟨rfl, by grind⟩)⟩)
set_option maxRecDepth 100000 in
set_option maxHeartbeats 4000000 in
theorem gs_X8_isUnder_7 (ab : Int32) {l : Launch} {G : xG} {M : xM} {J : xJ} : x_M l G fX8_isUnder 1 0 0 [.int (7), .int (ab)] x_SH M J (qPI M J (fun r => r = 1 ∧ (ab = 7 ∨ ab = 4 ∨ ab = 1 ∨ ab = 0) ∨ r = 0 ∧ ¬ (ab = 7 ∨ ab = 4 ∨ ab = 1 ∨ ab = 0))) := by
  refine xb_of pX8 (Nat.le_of_ble_eq_true rfl) rfl ?_
  refine xr_iload_n dX8_isUnder_0 0 rfl ?_
  refine xr_istore_n (ls2 := [(2, .int (7)), (0, .int (7)), (1, .int (ab))]) dX8_isUnder_1 (by decide) rfl ?_
  refine xr_iconst (v := 0) dX8_isUnder_2 rfl ?_
  refine xr_istore_n (ls2 := [(3, .int (0)), (2, .int (7)), (0, .int (7)), (1, .int (ab))]) dX8_isUnder_3 (by decide) rfl ?_
  refine xr_iload_n dX8_isUnder_4 0 rfl ?_
  refine xr_bipush (v := 8) dX8_isUnder_5 rfl ?_
  refine xr_icmp_ge (tgt := 36) dX8_isUnder_7 rfl (fun c => absurd c (by decide)) (fun _ => ?_)
  refine xr_iload_n dX8_isUnder_10 1 rfl ?_
  refine xb_cN (As := [.int (7)]) (rest := []) mlX8_26 (c_X9_isKind 7) dX8_isUnder_11 rfl rfl (Nat.le_of_ble_eq_true rfl) (by decide) (by decide) ?_
  refine xb_beq (tgt := 36) dX8_isUnder_14 rfl (fun c => absurd (by decide) c) (fun _ => ?_)
  refine xr_iload_n dX8_isUnder_17 1 rfl ?_
  refine xr_iload_n dX8_isUnder_18 3 rfl ?_
  refine xr_icmp_ne (tgt := 24) dX8_isUnder_19 rfl (fun c2 => ?_) (fun c2 => ?_)
  · refine xr_getsA slX8_30 dX8_isUnder_24 ?_
    refine xr_iload_n dX8_isUnder_27 1 rfl ?_
    refine xr_tabA (by unfold vp_in; decide) dX8_isUnder_28 ?_
    refine xb_top (y := 4) (by decide) ?_
    refine xr_istore_n (ls2 := [(2, .int (4)), (3, .int (0)), (0, .int (7)), (1, .int (ab))]) dX8_isUnder_29 (by decide) rfl ?_
    refine xr_iinc (v := 1) (ls2 := [(3, .int (1)), (2, .int (4)), (0, .int (7)), (1, .int (ab))]) dX8_isUnder_30 1 rfl rfl (by decide) rfl ?_
    refine xr_goto (tgt := 4) dX8_isUnder_33 rfl ?_
    refine xr_iload_n dX8_isUnder_4 0 rfl ?_
    refine xr_bipush (v := 8) dX8_isUnder_5 rfl ?_
    refine xr_icmp_ge (tgt := 36) dX8_isUnder_7 rfl (fun c => absurd c (by decide)) (fun _ => ?_)
    refine xr_iload_n dX8_isUnder_10 1 rfl ?_
    refine xb_cN (As := [.int (4)]) (rest := []) mlX8_26 (c_X9_isKind 4) dX8_isUnder_11 rfl rfl (Nat.le_of_ble_eq_true rfl) (by decide) (by decide) ?_
    refine xb_beq (tgt := 36) dX8_isUnder_14 rfl (fun c => absurd (by decide) c) (fun _ => ?_)
    refine xr_iload_n dX8_isUnder_17 1 rfl ?_
    refine xr_iload_n dX8_isUnder_18 3 rfl ?_
    refine xr_icmp_ne (tgt := 24) dX8_isUnder_19 rfl (fun c4 => ?_) (fun c4 => ?_)
    · refine xr_getsA slX8_30 dX8_isUnder_24 ?_
      refine xr_iload_n dX8_isUnder_27 1 rfl ?_
      refine xr_tabA (by unfold vp_in; decide) dX8_isUnder_28 ?_
      refine xb_top (y := 1) (by decide) ?_
      refine xr_istore_n (ls2 := [(2, .int (1)), (3, .int (1)), (0, .int (7)), (1, .int (ab))]) dX8_isUnder_29 (by decide) rfl ?_
      refine xr_iinc (v := 2) (ls2 := [(3, .int (2)), (2, .int (1)), (0, .int (7)), (1, .int (ab))]) dX8_isUnder_30 1 rfl rfl (by decide) rfl ?_
      refine xr_goto (tgt := 4) dX8_isUnder_33 rfl ?_
      refine xr_iload_n dX8_isUnder_4 0 rfl ?_
      refine xr_bipush (v := 8) dX8_isUnder_5 rfl ?_
      refine xr_icmp_ge (tgt := 36) dX8_isUnder_7 rfl (fun c => absurd c (by decide)) (fun _ => ?_)
      refine xr_iload_n dX8_isUnder_10 1 rfl ?_
      refine xb_cN (As := [.int (1)]) (rest := []) mlX8_26 (c_X9_isKind 1) dX8_isUnder_11 rfl rfl (Nat.le_of_ble_eq_true rfl) (by decide) (by decide) ?_
      refine xb_beq (tgt := 36) dX8_isUnder_14 rfl (fun c => absurd (by decide) c) (fun _ => ?_)
      refine xr_iload_n dX8_isUnder_17 1 rfl ?_
      refine xr_iload_n dX8_isUnder_18 3 rfl ?_
      refine xr_icmp_ne (tgt := 24) dX8_isUnder_19 rfl (fun c6 => ?_) (fun c6 => ?_)
      · refine xr_getsA slX8_30 dX8_isUnder_24 ?_
        refine xr_iload_n dX8_isUnder_27 1 rfl ?_
        refine xr_tabA (by unfold vp_in; decide) dX8_isUnder_28 ?_
        refine xb_top (y := 0) (by decide) ?_
        refine xr_istore_n (ls2 := [(2, .int (0)), (3, .int (2)), (0, .int (7)), (1, .int (ab))]) dX8_isUnder_29 (by decide) rfl ?_
        refine xr_iinc (v := 3) (ls2 := [(3, .int (3)), (2, .int (0)), (0, .int (7)), (1, .int (ab))]) dX8_isUnder_30 1 rfl rfl (by decide) rfl ?_
        refine xr_goto (tgt := 4) dX8_isUnder_33 rfl ?_
        refine xr_iload_n dX8_isUnder_4 0 rfl ?_
        refine xr_bipush (v := 8) dX8_isUnder_5 rfl ?_
        refine xr_icmp_ge (tgt := 36) dX8_isUnder_7 rfl (fun c => absurd c (by decide)) (fun _ => ?_)
        refine xr_iload_n dX8_isUnder_10 1 rfl ?_
        refine xb_cN (As := [.int (0)]) (rest := []) mlX8_26 (c_X9_isKind 0) dX8_isUnder_11 rfl rfl (Nat.le_of_ble_eq_true rfl) (by decide) (by decide) ?_
        refine xb_beq (tgt := 36) dX8_isUnder_14 rfl (fun c => absurd (by decide) c) (fun _ => ?_)
        refine xr_iload_n dX8_isUnder_17 1 rfl ?_
        refine xr_iload_n dX8_isUnder_18 3 rfl ?_
        refine xr_icmp_ne (tgt := 24) dX8_isUnder_19 rfl (fun c8 => ?_) (fun c8 => ?_)
        · refine xr_getsA slX8_30 dX8_isUnder_24 ?_
          refine xr_iload_n dX8_isUnder_27 1 rfl ?_
          refine xr_tabA (by unfold vp_in; decide) dX8_isUnder_28 ?_
          refine xb_top (y := (-1)) (by decide) ?_
          refine xr_istore_n (ls2 := [(2, .int ((-1))), (3, .int (3)), (0, .int (7)), (1, .int (ab))]) dX8_isUnder_29 (by decide) rfl ?_
          refine xr_iinc (v := 4) (ls2 := [(3, .int (4)), (2, .int ((-1))), (0, .int (7)), (1, .int (ab))]) dX8_isUnder_30 1 rfl rfl (by decide) rfl ?_
          refine xr_goto (tgt := 4) dX8_isUnder_33 rfl ?_
          refine xr_iload_n dX8_isUnder_4 0 rfl ?_
          refine xr_bipush (v := 8) dX8_isUnder_5 rfl ?_
          refine xr_icmp_ge (tgt := 36) dX8_isUnder_7 rfl (fun c => absurd c (by decide)) (fun _ => ?_)
          refine xr_iload_n dX8_isUnder_10 1 rfl ?_
          refine xb_cN (As := [.int ((-1))]) (rest := []) mlX8_26 (c_X9_isKind (-1)) dX8_isUnder_11 rfl rfl (Nat.le_of_ble_eq_true rfl) (by decide) (by decide) ?_
          refine xb_beq (tgt := 36) dX8_isUnder_14 rfl (fun _ => ?_) (fun c => absurd c (by decide))
          refine xr_iconst (v := 0) dX8_isUnder_36 rfl ?_
          exact xr_iret dX8_isUnder_37 rfl rfl (⟨_, rfl, rfl, rfl, rfl, (Or.inr ⟨rfl, by grind⟩)⟩)
        · refine xr_iconst (v := 1) dX8_isUnder_22 rfl ?_
          exact xr_iret dX8_isUnder_23 rfl rfl (⟨_, rfl, rfl, rfl, rfl, (Or.inl ⟨rfl, by grind⟩)⟩)
      · refine xr_iconst (v := 1) dX8_isUnder_22 rfl ?_
        exact xr_iret dX8_isUnder_23 rfl rfl (⟨_, rfl, rfl, rfl, rfl, (Or.inl ⟨rfl, by grind⟩)⟩)
    · refine xr_iconst (v := 1) dX8_isUnder_22 rfl ?_
      exact xr_iret dX8_isUnder_23 rfl rfl (⟨_, rfl, rfl, rfl, rfl, (Or.inl ⟨rfl, by grind⟩)⟩)
  · refine xr_iconst (v := 1) dX8_isUnder_22 rfl ?_
    exact xr_iret dX8_isUnder_23 rfl rfl (⟨_, rfl, rfl, rfl, rfl, (Or.inl ⟨rfl, by grind⟩)⟩)
def ETk9 (M : xM) (d k r : Int32) : Prop := ¬ ((0 ≤ d ∧ d < 6) ∧ (0 ≤ k ∧ k < 8)) ∧ r = -1 ∨ ((0 ≤ d ∧ d < 6) ∧ (0 ≤ k ∧ k < 8)) ∧ ∃ q : Nat, q < 6 ∧ d = nI q ∧ (M (50 + 2 * q) 0 = 0 ∧ r = -11 ∨ ¬ M (50 + 2 * q) 0 = 0 ∧ (¬ (M (50 + 2 * q) 0 = 1 ∧ 0 ≤ M (50 + 2 * q) 1 ∧ M (50 + 2 * q) 1 < M 46 2) ∧ r = -12 ∨ (M (50 + 2 * q) 0 = 1 ∧ 0 ≤ M (50 + 2 * q) 1 ∧ M (50 + 2 * q) 1 < M 46 2) ∧ ∃ t K : Nat, t < 50 ∧ K < 8 ∧ M (50 + 2 * q) 1 = nI t ∧ M 47 t = nI K ∧ r = tkF K k))
def ETk10 (M : xM) (d k r : Int32) : Prop := ¬ ((0 ≤ d ∧ d ≤ 5) ∧ (0 ≤ k ∧ k ≤ 7)) ∧ r = -1 ∨ ((0 ≤ d ∧ d ≤ 5) ∧ (0 ≤ k ∧ k ≤ 7)) ∧ ∃ q : Nat, q < 6 ∧ d = nI q ∧ (M 83 q < 0 ∧ r = -11 ∨ ¬ M 83 q < 0 ∧ (¬ M 83 q < 50 ∧ r = -12 ∨ M 83 q < 50 ∧ ∃ t K : Nat, t < 50 ∧ K < 8 ∧ M 83 q = nI t ∧ M 81 t = nI K ∧ r = tkF K k))
/-- n elements from i on lie in a row of so many -/
def sOk (L i n : Int32) : Prop := 0 ≤ i ∧ 0 ≤ n ∧ i ≤ L ∧ n ≤ L - i
/-- the same, as the reference asks it -/
def rOk (L i n : Int32) : Prop := ¬ n < 0 ∧ ¬ i < 0 ∧ ¬ L - n < i
theorem ok_eq {L i n : Int32} {s : Nat} (hs : s ≤ 60) (hL : L = nI s) : sOk L i n ↔ rOk L i n := by
  subst hL
  unfold sOk rOk
  constructor
  · rintro ⟨h1, h2, h3, h4⟩
    obtain ⟨a, m, h5, rfl, rfl⟩ := st_in hs rfl ⟨h1, h2, h3, h4⟩
    have e : (nI s - nI m).toInt = (s : Int) - m := (show ∀ s, s ≤ 60 → ∀ m, m ≤ 60 → (nI s - nI m).toInt = (s : Int) - m by decide +kernel) s hs m (by omega)
    refine ⟨nI_nlt (a := m) (b := 0) (by omega) (by omega), nI_nlt (a := a) (b := 0) (by omega) (by omega), fun q => ?_⟩
    rw [Int32.lt_iff_toInt_lt, e, nI_toInt (by omega)] at q
    omega
  · rintro ⟨h1, h2, h3⟩
    obtain ⟨a, m, h5, rfl, rfl⟩ := rs_in hs rfl h1 h2 h3 (rs_n hs rfl h1 h2 h3)
    have e : nI s - nI a = nI (s - a) := by
      rw [show nI s = nI (s - a) + nI a by rw [nI_add]; congr 1; omega, Int32.add_sub_cancel]
    refine ⟨nI_pos' (by omega), nI_pos' (by omega), nI_le (by omega) (by omega), ?_⟩
    rw [e]; exact nI_le (by omega) (by omega)
def ESh9 (M M2 : xM) (J J2 : xJ) (d i t j n r : Int32) : Prop := M2 = M ∧ (¬ ((0 ≤ d ∧ d < 6) ∧ (0 ≤ t ∧ t < 6)) ∧ r = -1 ∧ J2 = J ∨ ∃ q p : Nat, q < 6 ∧ p < 6 ∧ d = nI q ∧ t = nI p ∧ ((M (50 + 2 * q) 0 = 0 ∨ M (50 + 2 * p) 0 = 0) ∧ r = -11 ∧ J2 = J ∨ (¬ M (50 + 2 * q) 0 = 0 ∧ ¬ M (50 + 2 * p) 0 = 0) ∧ (¬ (M (50 + 2 * q) 0 = 2 ∧ M (50 + 2 * p) 0 = 2 ∧ M (50 + 2 * q) 2 = M (50 + 2 * p) 2) ∧ r = -12 ∧ J2 = J ∨ (M (50 + 2 * q) 0 = 2 ∧ M (50 + 2 * p) 0 = 2 ∧ M (50 + 2 * q) 2 = M (50 + 2 * p) 2) ∧ (¬ (sOk (M (50 + 2 * q) 3) i n ∧ sOk (M (50 + 2 * p) 3) j n) ∧ r = -13 ∧ J2 = J ∨ (sOk (M (50 + 2 * q) 3) i n ∧ sOk (M (50 + 2 * p) 3) j n) ∧ r = n ∧ J2 = x_rowJ J (51 + 2 * p) (va_cpy (J (51 + 2 * q)) (J (51 + 2 * p)) i.toNatClampNeg j.toNatClampNeg n.toNatClampNeg)))))
def ESh10 (M M2 : xM) (J J2 : xJ) (d i t j n r : Int32) : Prop := M2 = M ∧ (¬ ((0 ≤ d ∧ d ≤ 5) ∧ (0 ≤ t ∧ t ≤ 5)) ∧ r = -1 ∧ J2 = J ∨ ∃ q p : Nat, q < 6 ∧ p < 6 ∧ d = nI q ∧ t = nI p ∧ ((M 83 q < 0 ∨ M 83 p < 0) ∧ r = -11 ∧ J2 = J ∨ (¬ M 83 q < 0 ∧ ¬ M 83 p < 0) ∧ (¬ (¬ M 83 q < 50 ∧ M 83 q = M 83 p) ∧ r = -12 ∧ J2 = J ∨ (¬ M 83 q < 50 ∧ M 83 q = M 83 p) ∧ (¬ (rOk (M 84 q) i n ∧ rOk (M 84 p) j n) ∧ r = -13 ∧ J2 = J ∨ (rOk (M 84 q) i n ∧ rOk (M 84 p) j n) ∧ r = n ∧ ∃ a c m : Nat, a + m ≤ 60 ∧ c + m ≤ 60 ∧ i = nI a ∧ j = nI c ∧ n = nI m ∧ ∀ x, J2 85 x = if 60 * p + c ≤ x ∧ x < 60 * p + c + m then J 85 (60 * q + a + (x - (60 * p + c))) else J 85 x))))
theorem sh_j {J J8 J9 : xJ} {d t a c m : Nat} (h1 : ∀ j, j < m → J8 86 j = J 85 (60 * d + a + j)) (h2 : ∀ p, p ≠ 86 → J8 p = J p) (h3 : ∀ j, J9 85 j = if 60 * t + c ≤ j ∧ j < 60 * t + c + m then J8 86 (j - (60 * t + c)) else J8 85 j) : ∀ x, J9 85 x = if 60 * t + c ≤ x ∧ x < 60 * t + c + m then J 85 (60 * d + a + (x - (60 * t + c))) else J 85 x := fun x => by
  rw [h3 x]
  by_cases h : 60 * t + c ≤ x ∧ x < 60 * t + c + m
  · rw [if_pos h, if_pos h]; exact h1 _ (by omega)
  · rw [if_neg h, if_neg h, h2 85 (by decide)]
/-- the greatest number below n, two or more, by which a and 12 can be divided; or 1 -/
def gdl (a : Nat) : Nat → Nat
  | 0 => 1
  | n + 1 => if 2 ≤ n ∧ a % n = 0 ∧ 12 % n = 0 then n else gdl a n
theorem gdl_b {a : Nat} : ∀ n, gdl a n ≤ max 1 n := fun n => by
  induction n with
  | zero => show 1 ≤ _; omega
  | succ n ih => unfold gdl; split <;> omega
theorem gdl_y {a k : Nat} (h : 2 ≤ k) (h1 : a % k = 0) (h2 : 12 % k = 0) : nI k = nI (gdl a (k + 1)) := by rw [show gdl a (k + 1) = k from if_pos ⟨h, h1, h2⟩]
theorem gdl_n {a k : Nat} {v : Int32} (hv : v = nI (gdl a k)) (h1 : ¬ (a % k = 0 ∧ 12 % k = 0)) : v = nI (gdl a (k + 1)) := by rw [hv, show gdl a (k + 1) = gdl a k from if_neg (fun q => h1 q.2)]
theorem rest_n {a k : Nat} (ha : a ≤ 12) (hk : k ≤ 12) (h2 : 2 ≤ k) : (if nI k = 0 then 0 else nI a - nI a / nI k * nI k) = nI (a % k) := (show ∀ a, a ≤ 12 → ∀ k, k ≤ 12 → 2 ≤ k → (if nI k = 0 then 0 else nI a - nI a / nI k * nI k) = nI (a % k) by decide +kernel) a ha k hk h2
theorem rest_12 {k : Nat} (hk : k ≤ 12) (h2 : 2 ≤ k) : (if nI k = 0 then 0 else (12 : Int32) - 12 / nI k * nI k) = nI (12 % k) := rest_n (a := 12) (by omega) hk h2
theorem div_n {a b : Nat} (ha : a ≤ 12) (hb : b ≤ 13) : nI a / nI b = nI (a / b) := (show ∀ a, a ≤ 12 → ∀ b, b ≤ 13 → nI a / nI b = nI (a / b) by decide +kernel) a ha b hb
/-- the class's answer, the reference's -/
def alF9 (q Y p : Nat) : Nat := ((if p = 0 then q else 12) / max 1 (gdl q 13)) ^ Y
def alF10 (q Y p : Nat) : Nat := if q ^ Y = 0 then p else if p = 0 then q ^ Y / Nat.gcd (12 ^ Y) (q ^ Y) else 12 ^ Y / Nat.gcd (12 ^ Y) (q ^ Y)
def EAl (cc : Prop) (F : Nat → Nat → Nat → Nat) (f : Nat → Int32) (g y pa : Int32) (r : Int64) : Prop := ¬ cc ∧ r = -9223372036854775808 ∨ cc ∧ ∃ j Y p q : Nat, j < 25 ∧ Y ≤ 8 ∧ p ≤ 1 ∧ q ≤ 12 ∧ g = nI j ∧ y = nI Y ∧ pa = nI p ∧ f j = nI q ∧ r = nJ (F q Y p)
set_option maxRecDepth 100000 in
set_option maxHeartbeats 4000000 in
theorem gds_l {a : Nat} (ha : a ≤ 12) {l : Launch} {G : xG} {M : xM} {J : xJ} : ∀ (m k : Nat) (dv : Int32), k + m = 13 → 2 ≤ k → dv = nI (gdl a k) → x_X l G fX9_greatestDivisor 1 0 0 (qPI M J (fun r => r = nI (gdl a 13))) 4 [(3, .int (nI (k))), (2, .int (dv)), (1, .int (12)), (0, .int (nI (a)))] [] x_SH M J 0 0 := by
  intro m
  induction m with
  | zero =>
    intro k dv hk h2 hdv
    have hak : a % k < 2 ^ 31 := by have := Nat.mod_le a k; omega
    have h12k : 12 % k < 2 ^ 31 := by have := Nat.mod_le 12 k; omega
    refine xr_iload_n dX9_greatestDivisor_4 0 rfl ?_
    refine xr_iload_n dX9_greatestDivisor_5 2 rfl ?_
    refine xr_icmp_gt (tgt := 33) dX9_greatestDivisor_6 rfl (fun _ => ?_) (fun c => absurd (nI_lt (a := 12) (b := k) (by omega) (by omega)) c)
    refine xr_iload_n dX9_greatestDivisor_33 1 rfl ?_
    exact xr_iret dX9_greatestDivisor_34 rfl rfl (⟨_, rfl, rfl, rfl, rfl, (by rw [hdv, show k = 13 by omega])⟩)
  | succ m ih =>
    intro k dv hk h2 hdv
    have hak : a % k < 2 ^ 31 := by have := Nat.mod_le a k; omega
    have h12k : 12 % k < 2 ^ 31 := by have := Nat.mod_le 12 k; omega
    refine xr_iload_n dX9_greatestDivisor_4 0 rfl ?_
    refine xr_iload_n dX9_greatestDivisor_5 2 rfl ?_
    refine xr_icmp_gt (tgt := 33) dX9_greatestDivisor_6 rfl (fun c => absurd c (nI_nlt (a := 12) (b := k) (by omega) (by omega))) (fun _ => ?_)
    refine xr_iload_n dX9_greatestDivisor_9 3 rfl ?_
    refine xr_iload_n dX9_greatestDivisor_10 0 rfl ?_
    refine xb_cS (As := [.int (nI (a)), .int (nI (k))]) (rest := []) mlX9_396 (c_X9_rest (nI (a)) (nI (k))) dX9_greatestDivisor_11 rfl rfl (Nat.le_of_ble_eq_true rfl) (by decide) (by decide) ?_
    refine xb_top (y := nI (a % k)) (rest_n ha (by omega) h2) ?_
    refine xr_if_ne (tgt := 27) dX9_greatestDivisor_14 rfl (fun c1 => ?_) (fun c1 => ?_)
    · have nc1 : ¬ (a % k = 0) := fun q => c1 ((nI_eq (a := a % k) (b := 0) (by omega) (by omega)).mpr q)
      refine xr_iinc (v := nI (k + 1)) (ls2 := [(3, .int (nI (k + 1))), (2, .int (dv)), (1, .int (12)), (0, .int (nI (a)))]) dX9_greatestDivisor_27 0 rfl (nI_1 _) (by decide) rfl ?_
      refine xr_goto (tgt := 4) dX9_greatestDivisor_30 rfl ?_
      refine xb_ls (ls2 := [(3, .int (nI (k + 1))), (2, .int (dv)), (1, .int (12)), (0, .int (nI (a)))]) [0, 1, 2, 3] rfl ?_
      exact ih (k + 1) dv (by omega) (by omega) (gdl_n hdv (fun q => absurd q.1 (by omega)))
    · have nc1 : a % k = 0 := (nI_eq (a := a % k) (b := 0) (by omega) (by omega)).mp c1
      refine xr_iload_n dX9_greatestDivisor_17 2 rfl ?_
      refine xr_iload_n dX9_greatestDivisor_18 0 rfl ?_
      refine xb_cS (As := [.int (12), .int (nI (k))]) (rest := []) mlX9_396 (c_X9_rest 12 (nI (k))) dX9_greatestDivisor_19 rfl rfl (Nat.le_of_ble_eq_true rfl) (by decide) (by decide) ?_
      refine xb_top (y := nI (12 % k)) (rest_12 (by omega) h2) ?_
      refine xr_if_ne (tgt := 27) dX9_greatestDivisor_22 rfl (fun c2 => ?_) (fun c2 => ?_)
      · have nc2 : ¬ (12 % k = 0) := fun q => c2 ((nI_eq (a := 12 % k) (b := 0) (by omega) (by omega)).mpr q)
        refine xr_iinc (v := nI (k + 1)) (ls2 := [(3, .int (nI (k + 1))), (2, .int (dv)), (1, .int (12)), (0, .int (nI (a)))]) dX9_greatestDivisor_27 0 rfl (nI_1 _) (by decide) rfl ?_
        refine xr_goto (tgt := 4) dX9_greatestDivisor_30 rfl ?_
        refine xb_ls (ls2 := [(3, .int (nI (k + 1))), (2, .int (dv)), (1, .int (12)), (0, .int (nI (a)))]) [0, 1, 2, 3] rfl ?_
        exact ih (k + 1) dv (by omega) (by omega) (gdl_n hdv (fun q => absurd q.2 (by omega)))
      · have nc2 : 12 % k = 0 := (nI_eq (a := 12 % k) (b := 0) (by omega) (by omega)).mp c2
        refine xr_iload_n dX9_greatestDivisor_25 0 rfl ?_
        refine xr_istore_n (ls2 := [(2, .int (nI (k))), (3, .int (nI (k))), (1, .int (12)), (0, .int (nI (a)))]) dX9_greatestDivisor_26 (by decide) rfl ?_
        refine xr_iinc (v := nI (k + 1)) (ls2 := [(3, .int (nI (k + 1))), (2, .int (nI (k))), (1, .int (12)), (0, .int (nI (a)))]) dX9_greatestDivisor_27 1 rfl (nI_1 _) (by decide) rfl ?_
        refine xr_goto (tgt := 4) dX9_greatestDivisor_30 rfl ?_
        refine xb_ls (ls2 := [(3, .int (nI (k + 1))), (2, .int (nI (k))), (1, .int (12)), (0, .int (nI (a)))]) [0, 1, 2, 3] rfl ?_
        exact ih (k + 1) (nI (k)) (by omega) (by omega) (gdl_y h2 (by omega) (by omega))
set_option maxRecDepth 100000 in
set_option maxHeartbeats 4000000 in
theorem gs_X9_greatestDivisor {a : Nat} (ha : a ≤ 12) {l : Launch} {G : xG} {M : xM} {J : xJ} : x_M l G fX9_greatestDivisor 1 0 0 [.int (nI (a)), .int (12)] x_SH M J (qPI M J (fun r => r = nI (gdl a 13))) := by
  refine xb_of pX9 (Nat.le_of_ble_eq_true rfl) rfl ?_
  refine xr_iconst (v := 1) dX9_greatestDivisor_0 rfl ?_
  refine xr_istore_n (ls2 := [(2, .int (1)), (0, .int (nI (a))), (1, .int (12))]) dX9_greatestDivisor_1 (by decide) rfl ?_
  refine xr_iconst (v := 2) dX9_greatestDivisor_2 rfl ?_
  refine xr_istore_n (ls2 := [(3, .int (2)), (2, .int (1)), (0, .int (nI (a))), (1, .int (12))]) dX9_greatestDivisor_3 (by decide) rfl ?_
  refine xb_ls (ls2 := [(3, .int (nI (2))), (2, .int (1)), (1, .int (12)), (0, .int (nI (a)))]) [0, 1, 3, 2] rfl ?_
  exact gds_l ha 11 2 1 (by omega) (by omega) rfl
set_option maxRecDepth 100000 in
set_option maxHeartbeats 4000000 in
theorem alx_l {B Y : Nat} (hB : B ≤ 12) (hY : Y ≤ 8) {l : Launch} {G : xG} {M : xM} {J : xJ} {Q : xQ} (hC : x_X l G fX9_alone 2 0 0 Q 96 [(7, .long (nJ (B ^ Y))), (0, .ref 0)] [] x_SH M J 0 0) : ∀ (m k : Nat), k + m = Y → x_X l G fX9_alone 2 0 0 Q 76 [(9, .int (nI (k))), (7, .long (nJ (B ^ k))), (6, .int (nI (B))), (2, .int (nI (Y))), (0, .ref (0))] [] x_SH M J 0 0 := by
  intro m
  induction m with
  | zero =>
    intro k hk
    refine xr_iload dX9_alone_76 0 rfl ?_
    refine xr_iload_n dX9_alone_78 3 rfl ?_
    refine xr_icmp_ge (tgt := 96) dX9_alone_79 rfl (fun _ => ?_) (fun c => absurd (nI_le (a := Y) (b := k) (by omega) (by omega)) c)
    obtain rfl : k = Y := by omega
    refine xb_ls (ls2 := [(7, .long (nJ (B ^ k))), (0, .ref (0))]) [1, 4] rfl ?_
    exact hC
  | succ m ih =>
    intro k hk
    refine xr_iload dX9_alone_76 0 rfl ?_
    refine xr_iload_n dX9_alone_78 3 rfl ?_
    refine xr_icmp_ge (tgt := 96) dX9_alone_79 rfl (fun c => absurd c (nI_ge (a := k) (b := Y) (by omega) (by omega))) (fun _ => ?_)
    refine xr_lload dX9_alone_82 1 rfl ?_
    refine xr_iload dX9_alone_84 2 rfl ?_
    refine xr_i2l dX9_alone_86 ?_
    refine xr_lmul dX9_alone_87 ?_
    refine xb_topJ (y := nJ (B ^ (k + 1))) (by rw [nI_J (by omega), nJ_mul, Nat.pow_succ]) ?_
    refine xr_lstore (ls2 := [(7, .long (nJ (B ^ (k + 1)))), (9, .int (nI (k))), (6, .int (nI (B))), (2, .int (nI (Y))), (0, .ref (0))]) dX9_alone_88 (by decide) rfl ?_
    refine xr_iinc (v := nI (k + 1)) (ls2 := [(9, .int (nI (k + 1))), (7, .long (nJ (B ^ (k + 1)))), (6, .int (nI (B))), (2, .int (nI (Y))), (0, .ref (0))]) dX9_alone_90 1 rfl (nI_1 _) (by decide) rfl ?_
    refine xr_goto (tgt := 76) dX9_alone_93 rfl ?_
    refine xb_ls (ls2 := [(9, .int (nI (k + 1))), (7, .long (nJ (B ^ (k + 1)))), (6, .int (nI (B))), (2, .int (nI (Y))), (0, .ref (0))]) [0, 1, 2, 3, 4] rfl ?_
    exact ih (k + 1) (by omega)
