theorem dX10_last_0 : decode cX10_last 0 = .ok (.iload_n 2, 1) := by decide +kernel
theorem dX10_last_1 : decode cX10_last 1 = .ok (.i2l, 1) := by decide +kernel
theorem dX10_last_2 : decode cX10_last 2 = .ok (.lconst 0, 1) := by decide +kernel
theorem dX10_last_3 : decode cX10_last 3 = .ok (.lconst 1, 1) := by decide +kernel
theorem dX10_last_4 : decode cX10_last 4 = .ok (.invokestatic 101, 3) := by decide +kernel
theorem dX10_last_7 : decode cX10_last 7 = .ok (.ifCond .ne 5, 3) := by decide +kernel
theorem dX10_last_12 : decode cX10_last 12 = .ok (.aload_n 0, 1) := by decide +kernel
theorem dX10_last_13 : decode cX10_last 13 = .ok (.iload_n 1, 1) := by decide +kernel
theorem dX10_last_14 : decode cX10_last 14 = .ok (.bipush 30, 2) := by decide +kernel
theorem dX10_last_16 : decode cX10_last 16 = .ok (.invokevirtual 313, 3) := by decide +kernel
theorem dX10_last_19 : decode cX10_last 19 = .ok (.iconst 0, 1) := by decide +kernel
theorem dX10_last_20 : decode cX10_last 20 = .ok (.istore_n 3, 1) := by decide +kernel
theorem dX10_last_21 : decode cX10_last 21 = .ok (.iconst 1, 1) := by decide +kernel
theorem dX10_last_22 : decode cX10_last 22 = .ok (.istore 4, 2) := by decide +kernel
theorem dX10_last_60 : decode cX10_last 60 = .ok (.iload_n 2, 1) := by decide +kernel
theorem dX10_last_61 : decode cX10_last 61 = .ok (.ifCond .ne 7, 3) := by decide +kernel
theorem dX10_last_68 : decode cX10_last 68 = .ok (.aload_n 0, 1) := by decide +kernel
theorem dX10_last_69 : decode cX10_last 69 = .ok (.getfield 63, 3) := by decide +kernel
theorem dX10_last_72 : decode cX10_last 72 = .ok (.iload_n 3, 1) := by decide +kernel
theorem dX10_last_73 : decode cX10_last 73 = .ok (.iaload, 1) := by decide +kernel
theorem dX10_last_74 : decode cX10_last 74 = .ok (.ireturn, 1) := by decide +kernel
theorem dX10_last_64 : decode cX10_last 64 = .ok (.iload_n 3, 1) := by decide +kernel
theorem dX10_last_65 : decode cX10_last 65 = .ok (.goto 9, 3) := by decide +kernel
theorem dX10_last_10 : decode cX10_last 10 = .ok (.iconst (-1), 1) := by decide +kernel
theorem dX10_last_11 : decode cX10_last 11 = .ok (.ireturn, 1) := by decide +kernel
theorem dX10_left_0 : decode cX10_left 0 = .ok (.iload_n 2, 1) := by decide +kernel
theorem dX10_left_1 : decode cX10_left 1 = .ok (.i2l, 1) := by decide +kernel
theorem dX10_left_2 : decode cX10_left 2 = .ok (.lconst 1, 1) := by decide +kernel
theorem dX10_left_3 : decode cX10_left 3 = .ok (.ldc2_w 311, 3) := by decide +kernel
theorem dX10_left_6 : decode cX10_left 6 = .ok (.invokestatic 101, 3) := by decide +kernel
theorem dX10_left_9 : decode cX10_left 9 = .ok (.ifCond .eq 15, 3) := by decide +kernel
theorem dX10_left_24 : decode cX10_left 24 = .ok (.iconst (-1), 1) := by decide +kernel
theorem dX10_left_25 : decode cX10_left 25 = .ok (.ireturn, 1) := by decide +kernel
theorem dX10_left_12 : decode cX10_left 12 = .ok (.iload_n 3, 1) := by decide +kernel
theorem dX10_left_13 : decode cX10_left 13 = .ok (.iconst (-1), 1) := by decide +kernel
theorem dX10_left_14 : decode cX10_left 14 = .ok (.if_icmp .eq 12, 3) := by decide +kernel
theorem dX10_left_26 : decode cX10_left 26 = .ok (.aload_n 0, 1) := by decide +kernel
theorem dX10_left_27 : decode cX10_left 27 = .ok (.iload_n 1, 1) := by decide +kernel
theorem dX10_left_28 : decode cX10_left 28 = .ok (.iload_n 2, 1) := by decide +kernel
theorem dX10_left_29 : decode cX10_left 29 = .ok (.invokevirtual 313, 3) := by decide +kernel
theorem dX10_left_32 : decode cX10_left 32 = .ok (.iconst 0, 1) := by decide +kernel
theorem dX10_left_33 : decode cX10_left 33 = .ok (.istore 4, 2) := by decide +kernel
theorem dX10_left_35 : decode cX10_left 35 = .ok (.iconst 0, 1) := by decide +kernel
theorem dX10_left_36 : decode cX10_left 36 = .ok (.istore 5, 2) := by decide +kernel
theorem dX10_left_71 : decode cX10_left 71 = .ok (.iload_n 3, 1) := by decide +kernel
theorem dX10_left_72 : decode cX10_left 72 = .ok (.ifCond .ge 8, 3) := by decide +kernel
theorem dX10_left_75 : decode cX10_left 75 = .ok (.iload 4, 2) := by decide +kernel
theorem dX10_left_77 : decode cX10_left 77 = .ok (.goto 17, 3) := by decide +kernel
theorem dX10_left_94 : decode cX10_left 94 = .ok (.ireturn, 1) := by decide +kernel
theorem dX10_left_17 : decode cX10_left 17 = .ok (.iload_n 3, 1) := by decide +kernel
theorem dX10_left_18 : decode cX10_left 18 = .ok (.invokestatic 293, 3) := by decide +kernel
theorem dX10_left_21 : decode cX10_left 21 = .ok (.ifCond .ne 5, 3) := by decide +kernel
theorem dX10_left_80 : decode cX10_left 80 = .ok (.aload_n 0, 1) := by decide +kernel
theorem dX10_left_81 : decode cX10_left 81 = .ok (.getfield 56, 3) := by decide +kernel
theorem dX10_left_84 : decode cX10_left 84 = .ok (.iload_n 3, 1) := by decide +kernel
theorem dX10_left_85 : decode cX10_left 85 = .ok (.baload, 1) := by decide +kernel
theorem dX10_left_86 : decode cX10_left 86 = .ok (.ifCond .eq 7, 3) := by decide +kernel
theorem dX10_left_93 : decode cX10_left 93 = .ok (.iconst 0, 1) := by decide +kernel
theorem dX10_left_89 : decode cX10_left 89 = .ok (.iconst 1, 1) := by decide +kernel
theorem dX10_left_90 : decode cX10_left 90 = .ok (.goto 4, 3) := by decide +kernel
set_option maxRecDepth 100000 in
set_option maxHeartbeats 4000000 in
theorem p_X10_last (seed what : Int32) {l : Launch} {G : xG} {M : xM} {J : xJ} (hF : Fr M)  : x_M l G fX10_last 4 0 0 [.ref (62), .int (seed), .int (what)] x_SH M J (qR (some (.int (if 0 ≤ what ∧ what ≤ 1 then (if what = 0 then nI (fl 24 1 (fF seed 30).2.2.2 0) else (fF seed 30).2.2.2 (fl 24 1 (fF seed 30).2.2.2 0)) else -1)))) := by
  refine xb_of pX10 (Nat.le_of_ble_eq_true rfl) rfl ?_
  refine xr_iload_n dX10_last_0 2 rfl ?_
  refine xr_i2l dX10_last_1 ?_
  refine xr_lconst (v := 0) dX10_last_2 rfl ?_
  refine xr_lconst (v := 1) dX10_last_3 rfl ?_
  refine xb_cS (As := [.long ((what).toInt64), .long (0), .long (1)]) (rest := []) mlX10_101 (c_within32 (what) (0) (1) (by decide) (by decide)) dX10_last_4 rfl rfl (Nat.le_of_ble_eq_true rfl) (by decide) (by decide) ?_
  refine xb_bne (tgt := 12) dX10_last_7 rfl (fun c1 => ?_) (fun c1 => ?_)
  · refine xr_aload_n dX10_last_12 0 rfl ?_
    refine xr_iload_n dX10_last_13 1 rfl ?_
    refine xr_bipush (v := 30) dX10_last_14 rfl ?_
    refine xr_callV (As := [.int (seed), .int (30)]) (rest := []) mlX10_313 (field_z hF seed (N := 30) (by decide)) dX10_last_16 s_62 rfl rfl (Nat.le_of_ble_eq_true rfl) (by decide) ⟨by decide, by decide⟩ (fun v s2 M2 J2 hq => ?_)
    obtain ⟨rfl, rfl, rfl, hqS, hqF⟩ := hq
    try dsimp only [Option.toList, List.cons_append, List.nil_append]
    refine xr_iconst (v := 0) dX10_last_19 rfl ?_
    refine xr_istore_n (ls2 := [(3, .int (0)), (0, .ref (62)), (1, .int (seed)), (2, .int (what))]) dX10_last_20 (by decide) rfl ?_
    refine xr_iconst (v := 1) dX10_last_21 rfl ?_
    refine xr_istore (ls2 := [(4, .int (1)), (3, .int (0)), (0, .ref (62)), (1, .int (seed)), (2, .int (what))]) dX10_last_22 (by decide) rfl ?_
    refine xb_ls (ls2 := [(4, .int (nI (1))), (3, .int (nI (0))), (2, .int (what)), (1, .int (seed)), (0, .ref (62))]) [0, 1, 4, 3, 2] rfl ?_
    refine ll_l 24 1 0 (by omega) (by omega) ?_
    refine xr_iload_n dX10_last_60 1 rfl ?_
    refine xr_if_ne (tgt := 68) dX10_last_61 rfl (fun c3 => ?_) (fun c3 => ?_)
    · refine xr_aload_n dX10_last_68 3 rfl ?_
      refine xr_getR flX10_63 dX10_last_69 s_62 rfl ?_
      refine xr_iload_n dX10_last_72 0 rfl ?_
      refine xb_iald (j := fl 24 1 (M2 79) 0) (v := M2 79 (fl 24 1 (M2 79) 0)) dX10_last_73 s_79 (fl_lt _ 24 1 0 (by omega) (by omega)) (by decide) rfl ?_
      exact xr_iret dX10_last_74 rfl rfl (congrArg (fun z => some (Value.int z)) (Eq.symm (Eq.trans (if_pos (by grind)) (Eq.trans (if_neg c3) (by have h30 : fF seed 30 = fR M2 := hqS.symm; rw [h30]; rfl)))))
    · refine xr_iload_n dX10_last_64 0 rfl ?_
      refine xr_goto (tgt := 74) dX10_last_65 rfl ?_
      exact xr_iret dX10_last_74 rfl rfl (congrArg (fun z => some (Value.int z)) (Eq.symm (Eq.trans (if_pos (by grind)) (Eq.trans (if_pos c3) (by have h30 : fF seed 30 = fR M2 := hqS.symm; rw [h30]; rfl)))))
  · refine xr_iconst (v := -1) dX10_last_10 rfl ?_
    exact xr_iret dX10_last_11 rfl rfl (congrArg (fun z => some (Value.int z)) (if_neg (by grind)).symm)
set_option maxRecDepth 100000 in
set_option maxHeartbeats 4000000 in
theorem p_X10_left (seed n girl : Int32) {l : Launch} {G : xG} {M : xM} {J : xJ} (hF : Fr M)  : x_M l G fX10_left 4 0 0 [.ref (62), .int (seed), .int (n), .int (girl)] x_SH M J (qR (some (.int (if (1 ≤ n ∧ n ≤ 30) ∧ (girl = -1 ∨ (0 ≤ girl ∧ girl < 25)) then (if girl = -1 then fu 25 0 (fF seed n.toNatClampNeg).2.1 0 else if (fF seed n.toNatClampNeg).2.1 girl.toNatClampNeg = 0 then 0 else 1) else -1)))) := by
  refine xb_of pX10 (Nat.le_of_ble_eq_true rfl) rfl ?_
  refine xr_iload_n dX10_left_0 2 rfl ?_
  refine xr_i2l dX10_left_1 ?_
  refine xr_lconst (v := 1) dX10_left_2 rfl ?_
  refine xr_ldc2 coX10_311 dX10_left_3 ?_
  refine xb_cS (As := [.long ((n).toInt64), .long (1), .long (30)]) (rest := []) mlX10_101 (c_within32 (n) (1) (30) (by decide) (by decide)) dX10_left_6 rfl rfl (Nat.le_of_ble_eq_true rfl) (by decide) (by decide) ?_
  refine xb_beq (tgt := 24) dX10_left_9 rfl (fun c1 => ?_) (fun c1 => ?_)
  · refine xr_iconst (v := -1) dX10_left_24 rfl ?_
    exact xr_iret dX10_left_25 rfl rfl (congrArg (fun z => some (Value.int z)) (if_neg (by grind)).symm)
  · refine xr_iload_n dX10_left_12 3 rfl ?_
    refine xr_iconst (v := -1) dX10_left_13 rfl ?_
    refine xr_icmp_eq (tgt := 26) dX10_left_14 rfl (fun c2 => ?_) (fun c2 => ?_)
    · obtain ⟨N, hN, rfl⟩ := x_natle (v := n) (N := 30) (by decide) rfl ⟨by grind, c1.2⟩
      subst c2
      refine xr_aload_n dX10_left_26 0 rfl ?_
      refine xr_iload_n dX10_left_27 1 rfl ?_
      refine xr_iload_n dX10_left_28 2 rfl ?_
      refine xr_callV (As := [.int (seed), .int (nI (N))]) (rest := []) mlX10_313 (field_z hF seed hN) dX10_left_29 s_62 rfl rfl (Nat.le_of_ble_eq_true rfl) (by decide) ⟨by decide, by decide⟩ (fun v s2 M3 J2 hq => ?_)
      obtain ⟨rfl, rfl, rfl, hqS, hqF⟩ := hq
      try dsimp only [Option.toList, List.cons_append, List.nil_append]
      refine xr_iconst (v := 0) dX10_left_32 rfl ?_
      refine xr_istore (ls2 := [(4, .int (0)), (0, .ref (62)), (1, .int (seed)), (2, .int (nI (N))), (3, .int ((-1)))]) dX10_left_33 (by decide) rfl ?_
      refine xr_iconst (v := 0) dX10_left_35 rfl ?_
      refine xr_istore (ls2 := [(5, .int (0)), (4, .int (0)), (0, .ref (62)), (1, .int (seed)), (2, .int (nI (N))), (3, .int ((-1)))]) dX10_left_36 (by decide) rfl ?_
      refine xb_ls (ls2 := [(5, .int (nI (0))), (4, .int (0)), (3, .int ((-1))), (2, .int (nI (N))), (1, .int (seed)), (0, .ref (62))]) [0, 1, 5, 4, 3, 2] rfl ?_
      refine lf_l 25 0 0 (by omega) ?_
      refine xr_iload_n dX10_left_71 1 rfl ?_
      refine xr_if_ge (tgt := 80) dX10_left_72 rfl (fun c => absurd c (by decide)) (fun _ => ?_)
      refine xr_iload dX10_left_75 0 rfl ?_
      refine xr_goto (tgt := 94) dX10_left_77 rfl ?_
      exact xr_iret dX10_left_94 rfl rfl (congrArg (fun z => some (Value.int z)) (Eq.symm (Eq.trans (if_pos ⟨by grind, by grind⟩) (Eq.trans (if_pos rfl) (by have hN2 : (nI N).toNatClampNeg = N := nI_clamp (by omega); rw [hN2, ← hqS]; rfl)))))
    · refine xr_iload_n dX10_left_17 3 rfl ?_
      refine xb_cS (As := [.int (girl)]) (rest := []) mlX10_293 (c_X10_isGirl girl) dX10_left_18 rfl rfl (Nat.le_of_ble_eq_true rfl) (by decide) (by decide) ?_
      refine xb_bne (tgt := 26) dX10_left_21 rfl (fun c4 => ?_) (fun c4 => ?_)
      · obtain ⟨j, hj, rfl⟩ := x_natle (N := 24) (by decide) rfl c4
        replace hj := Nat.lt_succ_of_le hj
        obtain ⟨N, hN, rfl⟩ := x_natle (v := n) (N := 30) (by decide) rfl ⟨by grind, c1.2⟩
        refine xr_aload_n dX10_left_26 0 rfl ?_
        refine xr_iload_n dX10_left_27 1 rfl ?_
        refine xr_iload_n dX10_left_28 2 rfl ?_
        refine xr_callV (As := [.int (seed), .int (nI (N))]) (rest := []) mlX10_313 (field_z hF seed hN) dX10_left_29 s_62 rfl rfl (Nat.le_of_ble_eq_true rfl) (by decide) ⟨by decide, by decide⟩ (fun v s2 M5 J2 hq => ?_)
        obtain ⟨rfl, rfl, rfl, hqS, hqF⟩ := hq
        try dsimp only [Option.toList, List.cons_append, List.nil_append]
        refine xr_iconst (v := 0) dX10_left_32 rfl ?_
        refine xr_istore (ls2 := [(4, .int (0)), (0, .ref (62)), (1, .int (seed)), (2, .int (nI (N))), (3, .int (nI (j)))]) dX10_left_33 (by decide) rfl ?_
        refine xr_iconst (v := 0) dX10_left_35 rfl ?_
        refine xr_istore (ls2 := [(5, .int (0)), (4, .int (0)), (0, .ref (62)), (1, .int (seed)), (2, .int (nI (N))), (3, .int (nI (j)))]) dX10_left_36 (by decide) rfl ?_
        refine xb_ls (ls2 := [(5, .int (nI (0))), (4, .int (0)), (3, .int (nI (j))), (2, .int (nI (N))), (1, .int (seed)), (0, .ref (62))]) [0, 1, 5, 4, 3, 2] rfl ?_
        refine lf_l 25 0 0 (by omega) ?_
        refine xr_iload_n dX10_left_71 1 rfl ?_
        refine xr_if_ge (tgt := 80) dX10_left_72 rfl (fun _ => ?_) (fun c => absurd (Int32.not_lt.mp (nI_nl hj)) c)
        refine xr_aload_n dX10_left_80 4 rfl ?_
        refine xr_getR flX10_56 dX10_left_81 s_62 rfl ?_
        refine xr_iload_n dX10_left_84 1 rfl ?_
        refine xb_zald (j := j) (v := M5 77 j) dX10_left_85 s_77 hj (by decide) rfl ?_
        refine xr_if_eq (tgt := 93) dX10_left_86 rfl (fun c6 => ?_) (fun c6 => ?_)
        · refine xr_iconst (v := 0) dX10_left_93 rfl ?_
          exact xr_iret dX10_left_94 rfl rfl (congrArg (fun z => some (Value.int z)) (Eq.symm (Eq.trans (if_pos ⟨by grind, by grind⟩) (Eq.trans (if_neg (by grind)) (by have hN2 : (nI N).toNatClampNeg = N := nI_clamp (by omega); have hj2 : (nI j).toNatClampNeg = j := nI_clamp (by omega); rw [hj2]; rw [hN2, ← hqS]; exact if_pos c6)))))
        · refine xr_iconst (v := 1) dX10_left_89 rfl ?_
          refine xr_goto (tgt := 94) dX10_left_90 rfl ?_
          exact xr_iret dX10_left_94 rfl rfl (congrArg (fun z => some (Value.int z)) (Eq.symm (Eq.trans (if_pos ⟨by grind, by grind⟩) (Eq.trans (if_neg (by grind)) (by have hN2 : (nI N).toNatClampNeg = N := nI_clamp (by omega); have hj2 : (nI j).toNatClampNeg = j := nI_clamp (by omega); rw [hj2]; rw [hN2, ← hqS]; exact if_neg c6)))))
      · refine xr_iconst (v := -1) dX10_left_24 rfl ?_
        exact xr_iret dX10_left_25 rfl rfl (congrArg (fun z => some (Value.int z)) (if_neg (by grind)).symm)
