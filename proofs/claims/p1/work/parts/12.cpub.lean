theorem dX5_addHoop_0 : decode cX5_addHoop 0 = .ok (.aload_n 0, 1) := by decide +kernel
theorem dX5_addHoop_1 : decode cX5_addHoop 1 = .ok (.invokevirtual 54, 3) := by decide +kernel
theorem dX5_addHoop_4 : decode cX5_addHoop 4 = .ok (.ifCond .eq 6, 3) := by decide +kernel
theorem dX5_addHoop_10 : decode cX5_addHoop 10 = .ok (.aload_n 0, 1) := by decide +kernel
theorem dX5_addHoop_11 : decode cX5_addHoop 11 = .ok (.getfield 17, 3) := by decide +kernel
theorem dX5_addHoop_14 : decode cX5_addHoop 14 = .ok (.aload_n 0, 1) := by decide +kernel
theorem dX5_addHoop_15 : decode cX5_addHoop 15 = .ok (.getfield 35, 3) := by decide +kernel
theorem dX5_addHoop_18 : decode cX5_addHoop 18 = .ok (.aaload, 1) := by decide +kernel
theorem dX5_addHoop_19 : decode cX5_addHoop 19 = .ok (.astore 4, 2) := by decide +kernel
theorem dX5_addHoop_21 : decode cX5_addHoop 21 = .ok (.aload 4, 2) := by decide +kernel
theorem dX5_addHoop_23 : decode cX5_addHoop 23 = .ok (.iload_n 1, 1) := by decide +kernel
theorem dX5_addHoop_24 : decode cX5_addHoop 24 = .ok (.putfield 58, 3) := by decide +kernel
theorem dX5_addHoop_27 : decode cX5_addHoop 27 = .ok (.aload 4, 2) := by decide +kernel
theorem dX5_addHoop_29 : decode cX5_addHoop 29 = .ok (.iload_n 2, 1) := by decide +kernel
theorem dX5_addHoop_30 : decode cX5_addHoop 30 = .ok (.putfield 61, 3) := by decide +kernel
theorem dX5_addHoop_33 : decode cX5_addHoop 33 = .ok (.aload 4, 2) := by decide +kernel
theorem dX5_addHoop_35 : decode cX5_addHoop 35 = .ok (.invokevirtual 64, 3) := by decide +kernel
theorem dX5_addHoop_38 : decode cX5_addHoop 38 = .ok (.aload 4, 2) := by decide +kernel
theorem dX5_addHoop_40 : decode cX5_addHoop 40 = .ok (.iload_n 3, 1) := by decide +kernel
theorem dX5_addHoop_41 : decode cX5_addHoop 41 = .ok (.putfield 67, 3) := by decide +kernel
theorem dX5_addHoop_44 : decode cX5_addHoop 44 = .ok (.aload_n 0, 1) := by decide +kernel
theorem dX5_addHoop_45 : decode cX5_addHoop 45 = .ok (.dup, 1) := by decide +kernel
theorem dX5_addHoop_46 : decode cX5_addHoop 46 = .ok (.getfield 35, 3) := by decide +kernel
theorem dX5_addHoop_49 : decode cX5_addHoop 49 = .ok (.iconst 1, 1) := by decide +kernel
theorem dX5_addHoop_50 : decode cX5_addHoop 50 = .ok (.iadd, 1) := by decide +kernel
theorem dX5_addHoop_51 : decode cX5_addHoop 51 = .ok (.putfield 35, 3) := by decide +kernel
theorem dX5_addHoop_54 : decode cX5_addHoop 54 = .ok (.aload_n 0, 1) := by decide +kernel
theorem dX5_addHoop_55 : decode cX5_addHoop 55 = .ok (.getfield 35, 3) := by decide +kernel
theorem dX5_addHoop_58 : decode cX5_addHoop 58 = .ok (.iconst 1, 1) := by decide +kernel
theorem dX5_addHoop_59 : decode cX5_addHoop 59 = .ok (.isub, 1) := by decide +kernel
theorem dX5_addHoop_60 : decode cX5_addHoop 60 = .ok (.ireturn, 1) := by decide +kernel
theorem dX9_hoop_0 : decode cX9_hoop 0 = .ok (.iload_n 1, 1) := by decide +kernel
theorem dX9_hoop_1 : decode cX9_hoop 1 = .ok (.ifCond .lt 23, 3) := by decide +kernel
theorem dX9_hoop_24 : decode cX9_hoop 24 = .ok (.iconst (-1), 1) := by decide +kernel
theorem dX9_hoop_25 : decode cX9_hoop 25 = .ok (.ireturn, 1) := by decide +kernel
theorem dX9_hoop_4 : decode cX9_hoop 4 = .ok (.iload_n 1, 1) := by decide +kernel
theorem dX9_hoop_5 : decode cX9_hoop 5 = .ok (.bipush 10, 2) := by decide +kernel
theorem dX9_hoop_7 : decode cX9_hoop 7 = .ok (.idiv, 1) := by decide +kernel
theorem dX9_hoop_8 : decode cX9_hoop 8 = .ok (.invokestatic 76, 3) := by decide +kernel
theorem dX9_hoop_11 : decode cX9_hoop 11 = .ok (.ifCond .eq 13, 3) := by decide +kernel
theorem dX9_hoop_14 : decode cX9_hoop 14 = .ok (.iload_n 1, 1) := by decide +kernel
theorem dX9_hoop_15 : decode cX9_hoop 15 = .ok (.bipush 10, 2) := by decide +kernel
theorem dX9_hoop_17 : decode cX9_hoop 17 = .ok (.irem, 1) := by decide +kernel
theorem dX9_hoop_18 : decode cX9_hoop 18 = .ok (.invokestatic 76, 3) := by decide +kernel
theorem dX9_hoop_21 : decode cX9_hoop 21 = .ok (.ifCond .ne 5, 3) := by decide +kernel
theorem dX9_hoop_26 : decode cX9_hoop 26 = .ok (.aload_n 0, 1) := by decide +kernel
theorem dX9_hoop_27 : decode cX9_hoop 27 = .ok (.getfield 28, 3) := by decide +kernel
theorem dX9_hoop_30 : decode cX9_hoop 30 = .ok (.invokevirtual 80, 3) := by decide +kernel
theorem dX9_hoop_33 : decode cX9_hoop 33 = .ok (.ifCond .eq 6, 3) := by decide +kernel
theorem dX9_hoop_39 : decode cX9_hoop 39 = .ok (.aload_n 0, 1) := by decide +kernel
theorem dX9_hoop_40 : decode cX9_hoop 40 = .ok (.getfield 28, 3) := by decide +kernel
theorem dX9_hoop_43 : decode cX9_hoop 43 = .ok (.iload_n 1, 1) := by decide +kernel
theorem dX9_hoop_44 : decode cX9_hoop 44 = .ok (.bipush 10, 2) := by decide +kernel
theorem dX9_hoop_46 : decode cX9_hoop 46 = .ok (.idiv, 1) := by decide +kernel
theorem dX9_hoop_47 : decode cX9_hoop 47 = .ok (.iload_n 1, 1) := by decide +kernel
theorem dX9_hoop_48 : decode cX9_hoop 48 = .ok (.bipush 10, 2) := by decide +kernel
theorem dX9_hoop_50 : decode cX9_hoop 50 = .ok (.irem, 1) := by decide +kernel
theorem dX9_hoop_51 : decode cX9_hoop 51 = .ok (.iconst 4, 1) := by decide +kernel
theorem dX9_hoop_52 : decode cX9_hoop 52 = .ok (.invokevirtual 84, 3) := by decide +kernel
theorem dX9_hoop_55 : decode cX9_hoop 55 = .ok (.ireturn, 1) := by decide +kernel
theorem dX9_led_0 : decode cX9_led 0 = .ok (.iload_n 1, 1) := by decide +kernel
theorem dX9_led_1 : decode cX9_led 1 = .ok (.ifCond .ne 11, 3) := by decide +kernel
theorem dX9_led_12 : decode cX9_led 12 = .ok (.iload_n 1, 1) := by decide +kernel
theorem dX9_led_13 : decode cX9_led 13 = .ok (.iconst 1, 1) := by decide +kernel
theorem dX9_led_14 : decode cX9_led 14 = .ok (.if_icmp .ne 13, 3) := by decide +kernel
theorem dX9_led_27 : decode cX9_led 27 = .ok (.iconst (-1), 1) := by decide +kernel
theorem dX9_led_28 : decode cX9_led 28 = .ok (.ireturn, 1) := by decide +kernel
theorem dX9_led_17 : decode cX9_led 17 = .ok (.aload_n 0, 1) := by decide +kernel
theorem dX9_led_18 : decode cX9_led 18 = .ok (.getfield 28, 3) := by decide +kernel
theorem dX9_led_21 : decode cX9_led 21 = .ok (.getfield 176, 3) := by decide +kernel
theorem dX9_led_24 : decode cX9_led 24 = .ok (.goto 4, 3) := by decide +kernel
theorem dX9_led_4 : decode cX9_led 4 = .ok (.aload_n 0, 1) := by decide +kernel
theorem dX9_led_5 : decode cX9_led 5 = .ok (.getfield 28, 3) := by decide +kernel
theorem dX9_led_8 : decode cX9_led 8 = .ok (.getfield 173, 3) := by decide +kernel
theorem dX9_led_11 : decode cX9_led 11 = .ok (.ireturn, 1) := by decide +kernel
def z_M : xM := m_106
theorem E0_MI : E0 z_M := ⟨by decide +kernel, by decide +kernel, by decide +kernel⟩
theorem mi_36 : ∀ j, j < 25 → z_M 36 j = 9 := by decide +kernel
theorem mi_37 : ∀ j, j < 25 → z_M 37 j = 0 := by decide +kernel
theorem mi_sh : ∀ j, j < 6 → z_M (50 + 2 * j) 0 = 0 ∧ z_M (50 + 2 * j) 3 = 0 := by decide +kernel
set_option maxRecDepth 100000 in
set_option maxHeartbeats 4000000 in
theorem p_addHoop (a b c : Int32) {l : Launch} {G : xG}  : x_M l G fX5_addHoop 1 0 0 [.ref (13), .int (a), .int (b), .int (c)] x_SH z_M x_J0 (qR (some (.int 0))) := by
  refine xb_of pX5 (Nat.le_of_ble_eq_true rfl) rfl ?_
  refine xr_aload_n dX5_addHoop_0 0 rfl ?_
  refine xb_cV (As := []) (rest := []) mlX5_54 (c_X5_isFull s_13) dX5_addHoop_1 s_13 rfl rfl (Nat.le_of_ble_eq_true rfl) (by decide) (by decide) ?_
  refine xb_beq (tgt := 10) dX5_addHoop_4 rfl (fun _ => ?_) (fun c => absurd c (by rw [show z_M 13 2 = 0 by decide +kernel]; decide))
  refine xr_aload_n dX5_addHoop_10 0 rfl ?_
  refine xr_getR flX5_17 dX5_addHoop_11 s_13 rfl ?_
  refine xr_aload_n dX5_addHoop_14 0 rfl ?_
  refine xb_get (v := 0) flX5_35 dX5_addHoop_15 s_13 rfl (by decide +kernel) ?_
  refine xb_aald (j := 0) (q := 15) (by decide) dX5_addHoop_18 s_14 (by decide) (by decide) rfl ?_
  refine xr_astore (ls2 := [(4, .ref (15)), (0, .ref (13)), (1, .int (a)), (2, .int (b)), (3, .int (c))]) dX5_addHoop_19 (by decide) rfl ?_
  refine xr_aload dX5_addHoop_21 0 rfl ?_
  refine xr_iload_n dX5_addHoop_23 2 rfl ?_
  refine xr_putI fpX5_58 dX5_addHoop_24 s_15 rfl rfl rfl ?_
  refine xr_aload dX5_addHoop_27 0 rfl ?_
  refine xr_iload_n dX5_addHoop_29 3 rfl ?_
  refine xr_putI fpX5_61 dX5_addHoop_30 s_15 rfl rfl rfl ?_
  refine xr_aload dX5_addHoop_33 0 rfl ?_
  refine xb_cV (As := []) (rest := []) mlX5_64 (c_X2_raise s_15) dX5_addHoop_35 s_15 rfl rfl (Nat.le_of_ble_eq_true rfl) (by decide) (by decide) ?_
  refine xr_aload dX5_addHoop_38 0 rfl ?_
  refine xr_iload_n dX5_addHoop_40 4 rfl ?_
  refine xr_putI fpX5_67 dX5_addHoop_41 s_15 rfl rfl rfl ?_
  refine xr_aload_n dX5_addHoop_44 1 rfl ?_
  refine xr_dup dX5_addHoop_45 rfl ?_
  refine xb_get (v := 0) flX5_35 dX5_addHoop_46 s_13 rfl (Eq.trans (congrFun (x_up_n _ _ _ (by decide)) _) (Eq.trans (congrFun (x_up_n _ _ _ (by decide)) _) (Eq.trans (congrFun (x_up_n _ _ _ (by decide)) _) (Eq.trans (congrFun (x_up_n _ _ _ (by decide)) _) (Eq.trans (congrFun (x_up_n _ _ _ (by decide)) _) (Eq.trans (congrFun (x_up_n _ _ _ (by decide)) _) (by decide +kernel))))))) ?_
  refine xr_iconst (v := 1) dX5_addHoop_49 rfl ?_
  refine xr_iadd dX5_addHoop_50 ?_
  refine xb_top (y := 1) (by decide) ?_
  refine xr_putI fpX5_35 dX5_addHoop_51 s_13 rfl rfl rfl ?_
  refine xr_aload_n dX5_addHoop_54 1 rfl ?_
  refine xb_get (v := 1) flX5_35 dX5_addHoop_55 s_13 rfl (x_up_s _ _ _ _) ?_
  refine xr_iconst (v := 1) dX5_addHoop_58 rfl ?_
  refine xr_isub dX5_addHoop_59 ?_
  refine xb_top (y := 0) (by decide) ?_
  exact xr_iret dX5_addHoop_60 rfl rfl (by first | rfl | (refine congrArg (fun z => some (Value.int z)) ?_; grind))
set_option maxRecDepth 100000 in
set_option maxHeartbeats 4000000 in
theorem p_X9_hoop (sh : Int32) {l : Launch} {G : xG}  : x_M l G fX9_hoop 4 0 0 [.ref (0), .int (sh)] x_SH z_M x_J0 (qR (some (.int (if 0 ≤ sh ∧ (1 ≤ sh / 10 ∧ sh / 10 ≤ 9) ∧ (1 ≤ sh - sh / 10 * 10 ∧ sh - sh / 10 * 10 ≤ 9) then 0 else -1)))) := by
  refine xb_of pX9 (Nat.le_of_ble_eq_true rfl) rfl ?_
  refine xr_iload_n dX9_hoop_0 1 rfl ?_
  refine xr_if_lt (tgt := 24) dX9_hoop_1 rfl (fun c1 => ?_) (fun c1 => ?_)
  · refine xr_iconst (v := -1) dX9_hoop_24 rfl ?_
    exact xr_iret dX9_hoop_25 rfl rfl (by first | rfl | (refine congrArg (fun z => some (Value.int z)) ?_; grind))
  · refine xr_iload_n dX9_hoop_4 1 rfl ?_
    refine xr_bipush (v := 10) dX9_hoop_5 rfl ?_
    refine xr_idiv dX9_hoop_7 (by decide) ?_
    refine xb_cS (As := [.int ((sh / 10))]) (rest := []) mlX9_76 (c_X9_isWeight (sh / 10)) dX9_hoop_8 rfl rfl (Nat.le_of_ble_eq_true rfl) (by decide) (by decide) ?_
    refine xb_beq (tgt := 24) dX9_hoop_11 rfl (fun c2 => ?_) (fun c2 => ?_)
    · refine xr_iconst (v := -1) dX9_hoop_24 rfl ?_
      exact xr_iret dX9_hoop_25 rfl rfl (by first | rfl | (refine congrArg (fun z => some (Value.int z)) ?_; grind))
    · refine xr_iload_n dX9_hoop_14 1 rfl ?_
      refine xr_bipush (v := 10) dX9_hoop_15 rfl ?_
      refine xr_irem dX9_hoop_17 (by decide) ?_
      refine xb_cS (As := [.int ((sh - sh / 10 * 10))]) (rest := []) mlX9_76 (c_X9_isWeight (sh - sh / 10 * 10)) dX9_hoop_18 rfl rfl (Nat.le_of_ble_eq_true rfl) (by decide) (by decide) ?_
      refine xb_bne (tgt := 26) dX9_hoop_21 rfl (fun c3 => ?_) (fun c3 => ?_)
      · refine xr_aload_n dX9_hoop_26 0 rfl ?_
        refine xr_getR flX9_28 dX9_hoop_27 s_0 rfl ?_
        refine xb_cV (As := []) (rest := []) mlX9_80 (c_X5_isFull s_13) dX9_hoop_30 s_13 rfl rfl (Nat.le_of_ble_eq_true rfl) (by decide) (by decide) ?_
        refine xb_beq (tgt := 39) dX9_hoop_33 rfl (fun _ => ?_) (fun c => absurd c (by rw [show z_M 13 2 = 0 by decide +kernel]; decide))
        refine xr_aload_n dX9_hoop_39 0 rfl ?_
        refine xr_getR flX9_28 dX9_hoop_40 s_0 rfl ?_
        refine xr_iload_n dX9_hoop_43 1 rfl ?_
        refine xr_bipush (v := 10) dX9_hoop_44 rfl ?_
        refine xr_idiv dX9_hoop_46 (by decide) ?_
        refine xr_iload_n dX9_hoop_47 1 rfl ?_
        refine xr_bipush (v := 10) dX9_hoop_48 rfl ?_
        refine xr_irem dX9_hoop_50 (by decide) ?_
        refine xr_iconst (v := 4) dX9_hoop_51 rfl ?_
        refine xr_callV (As := [.int ((sh / 10)), .int ((sh - sh / 10 * 10)), .int (4)]) (rest := []) mlX9_84 (p_addHoop (sh / 10) (sh - sh / 10 * 10) 4) dX9_hoop_52 s_13 rfl rfl (Nat.le_of_ble_eq_true rfl) (by decide) ⟨by decide, by decide⟩ (fun v s2 M5 J2 hq => ?_)
        obtain rfl := hq
        try dsimp only [Option.toList, List.cons_append, List.nil_append]
        exact xr_iret dX9_hoop_55 rfl rfl (by first | rfl | (refine congrArg (fun z => some (Value.int z)) ?_; grind))
      · refine xr_iconst (v := -1) dX9_hoop_24 rfl ?_
        exact xr_iret dX9_hoop_25 rfl rfl (by first | rfl | (refine congrArg (fun z => some (Value.int z)) ?_; grind))
set_option maxRecDepth 100000 in
set_option maxHeartbeats 4000000 in
theorem p_X9_led (what : Int32) {l : Launch} {G : xG}  : x_M l G fX9_led 4 0 0 [.ref (0), .int (what)] x_SH z_M x_J0 (qR (some (.int (if what = 0 then 0 else if what = 1 then -2 else -1)))) := by
  refine xb_of pX9 (Nat.le_of_ble_eq_true rfl) rfl ?_
  refine xr_iload_n dX9_led_0 1 rfl ?_
  refine xr_if_ne (tgt := 12) dX9_led_1 rfl (fun c1 => ?_) (fun c1 => ?_)
  · refine xr_iload_n dX9_led_12 1 rfl ?_
    refine xr_iconst (v := 1) dX9_led_13 rfl ?_
    refine xr_icmp_ne (tgt := 27) dX9_led_14 rfl (fun c2 => ?_) (fun c2 => ?_)
    · refine xr_iconst (v := -1) dX9_led_27 rfl ?_
      exact xr_iret dX9_led_28 rfl rfl (by first | rfl | (refine congrArg (fun z => some (Value.int z)) ?_; grind))
    · refine xr_aload_n dX9_led_17 0 rfl ?_
      refine xr_getR flX9_28 dX9_led_18 s_0 rfl ?_
      refine xb_get (v := (-2)) flX9_176 dX9_led_21 s_13 rfl (by decide +kernel) ?_
      refine xr_goto (tgt := 28) dX9_led_24 rfl ?_
      exact xr_iret dX9_led_28 rfl rfl (by first | rfl | (refine congrArg (fun z => some (Value.int z)) ?_; grind))
  · refine xr_aload_n dX9_led_4 0 rfl ?_
    refine xr_getR flX9_28 dX9_led_5 s_0 rfl ?_
    refine xb_get (v := 0) flX9_173 dX9_led_8 s_13 rfl (by decide +kernel) ?_
    exact xr_iret dX9_led_11 rfl rfl (by first | rfl | (refine congrArg (fun z => some (Value.int z)) ?_; grind))
