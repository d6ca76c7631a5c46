set_option maxRecDepth 100000 in
set_option maxHeartbeats 4000000 in
theorem gs_X9_taken (sh k : Int32) {l : Launch} {G : xG} {M : xM} {J : xJ} (hI : InvC M) : x_M l G fX9_taken 2 0 0 [.ref (0), .int (sh), .int (k)] x_SH M J (qPI M J (fun r => ETk9 M sh k r)) := by
  refine xb_of pX9 (Nat.le_of_ble_eq_true rfl) rfl ?_
  obtain ⟨⟨cn, h_cn, e_cn⟩, ⟨cm, h_cm, e_cm⟩, ⟨L, h_L, e_L⟩, hv, hD, ⟨n, h_n, e_n⟩, ⟨un, wn, h_uw, h_wn, e_un, e_wn⟩, ⟨b, h_b, e_b⟩, hkd, ⟨ra, h_ra, e_ra⟩, hsl, hS⟩ := hI
  refine xr_iload_n dX9_taken_0 1 rfl ?_
  refine xb_cS (As := [.int (sh)]) (rest := []) mlX9_88 (c_X9_isShelf sh) dX9_taken_1 rfl rfl (Nat.le_of_ble_eq_true rfl) (by decide) (by decide) ?_
  refine xb_beq (tgt := 14) dX9_taken_4 rfl (fun c1 => ?_) (fun c1 => ?_)
  · refine xr_iconst (v := -1) dX9_taken_14 rfl ?_
    exact xr_iret dX9_taken_15 rfl rfl (⟨_, rfl, rfl, rfl, rfl, (Or.inl ⟨(fun q => c1 q.1), rfl⟩)⟩)
  · obtain ⟨s_, hs_, rfl⟩ := x_nat (N := 6) (by decide) rfl c1
    refine xr_iload_n dX9_taken_7 2 rfl ?_
    refine xb_cS (As := [.int (k)]) (rest := []) mlX9_327 (c_X9_isKind k) dX9_taken_8 rfl rfl (Nat.le_of_ble_eq_true rfl) (by decide) (by decide) ?_
    refine xb_bne (tgt := 16) dX9_taken_11 rfl (fun c2 => ?_) (fun c2 => ?_)
    · refine xr_aload_n dX9_taken_16 0 rfl ?_
      refine xr_getR flX9_67 dX9_taken_17 s_0 rfl ?_
      refine xr_iload_n dX9_taken_20 1 rfl ?_
      refine xb_aald (j := s_) (q := 50 + 2 * s_) (by decide) dX9_taken_21 s_49 hs_ (by decide) (if_pos hs_) ?_
      refine xr_astore_n (ls2 := [(3, .ref (50 + 2 * s_)), (0, .ref (0)), (1, .int (nI (s_))), (2, .int (k))]) dX9_taken_22 (by decide) rfl ?_
      refine xr_aload_n dX9_taken_23 0 rfl ?_
      refine xb_cV (As := []) (rest := []) mlX9_91 (c_X6_isEmpty (s_shelf hs_) (s_elem hs_)) dX9_taken_24 (s_shelf hs_) rfl rfl (Nat.le_of_ble_eq_true rfl) (by decide) (by decide) ?_
      refine xb_beq (tgt := 33) dX9_taken_27 rfl (fun c3 => ?_) (fun c3 => ?_)
      · refine xr_aload_n dX9_taken_33 0 rfl ?_
        refine xb_cV (As := []) (rest := []) mlX9_381 (c_X6_isTurn (s_shelf hs_) (s_elem hs_)) dX9_taken_34 (s_shelf hs_) rfl rfl (Nat.le_of_ble_eq_true rfl) (by decide) (by decide) ?_
        refine xb_beq (tgt := 54) dX9_taken_37 rfl (fun c4 => ?_) (fun c4 => ?_)
        · refine xr_bipush (v := -12) dX9_taken_54 rfl ?_
          exact xr_iret dX9_taken_56 rfl rfl (⟨_, rfl, rfl, rfl, rfl, (Or.inr ⟨⟨c1, c2⟩, s_, hs_, rfl, Or.inr ⟨c3, Or.inl ⟨fun q => c4 q.1, rfl⟩⟩⟩)⟩)
        · refine xr_aload_n dX9_taken_40 1 rfl ?_
          refine xr_getR flX9_61 dX9_taken_41 s_0 rfl ?_
          refine xr_aload_n dX9_taken_44 0 rfl ?_
          refine xb_get (v := M (50 + 2 * s_) 1) flX9_384 dX9_taken_45 (s_shelf hs_) rfl rfl ?_
          refine xb_cV (As := [.int (M (50 + 2 * s_) 1)]) (rest := []) mlX9_337 (c_X8_has (M (50 + 2 * s_) 1) (by omega) e_b) dX9_taken_48 s_46 rfl rfl (Nat.le_of_ble_eq_true rfl) (by decide) (by decide) ?_
          refine xb_bne (tgt := 57) dX9_taken_51 rfl (fun c5 => ?_) (fun c5 => ?_)
          · refine xr_aload_n dX9_taken_57 1 rfl ?_
            refine xr_getR flX9_61 dX9_taken_58 s_0 rfl ?_
            refine xr_getR flX9_387 dX9_taken_61 s_46 rfl ?_
            refine xr_aload_n dX9_taken_64 0 rfl ?_
            refine xb_get (v := M (50 + 2 * s_) 1) flX9_384 dX9_taken_65 (s_shelf hs_) rfl rfl ?_
            obtain ⟨t_, ht_, et_⟩ := x_nat (N := b) (by omega) rfl c5
            refine xb_top (y := nI t_) et_ ?_
            obtain ⟨q9, hq9, eq9⟩ := hkd t_ (by omega)
            have hq8 : q9 = 0 ∨ q9 = 1 ∨ q9 = 2 ∨ q9 = 3 ∨ q9 = 4 ∨ q9 = 5 ∨ q9 = 6 ∨ q9 = 7 := by omega
            rcases hq8 with rfl | rfl | rfl | rfl | rfl | rfl | rfl | rfl
            · refine xb_iald (j := t_) (v := 0) dX9_taken_68 s_47 (by omega) (by decide) eq9 ?_
              refine xr_istore (ls2 := [(4, .int (0)), (3, .ref (50 + 2 * s_)), (0, .ref (0)), (1, .int (nI (s_))), (2, .int (k))]) dX9_taken_69 (by decide) rfl ?_
              refine xr_iload dX9_taken_71 0 rfl ?_
              refine xr_iload_n dX9_taken_73 4 rfl ?_
              refine xr_callS (As := [.int (0), .int (k)]) (rest := []) mlX9_390 (gs_X8_isUnder_0 k) dX9_taken_74 rfl rfl (Nat.le_of_ble_eq_true rfl) (by decide) ⟨by decide, by decide⟩ (fun v s2 M9 J2 hq => ?_)
              obtain ⟨r7, rfl, rfl, rfl, rfl, hx6⟩ := hq
              try dsimp only [Option.toList, List.cons_append, List.nil_append]
              rcases hx6 with ⟨rfl, hch_⟩ | ⟨rfl, hch_⟩
              · refine xr_if_eq (tgt := 85) dX9_taken_77 rfl (fun c => absurd c (by decide)) (fun _ => ?_)
                refine xr_iload dX9_taken_80 0 rfl ?_
                refine xr_goto (tgt := 87) dX9_taken_82 rfl ?_
                exact xr_iret dX9_taken_87 rfl rfl (⟨_, rfl, rfl, rfl, rfl, (Or.inr ⟨⟨c1, c2⟩, s_, hs_, rfl, Or.inr ⟨c3, Or.inr ⟨⟨c4, by rw [e_b]; exact c5⟩, t_, 0, by omega, by decide, et_, eq9, (if_pos hch_).symm⟩⟩⟩)⟩)
              · refine xr_if_eq (tgt := 85) dX9_taken_77 rfl (fun _ => ?_) (fun c => absurd (by decide) c)
                refine xr_bipush (v := -12) dX9_taken_85 rfl ?_
                exact xr_iret dX9_taken_87 rfl rfl (⟨_, rfl, rfl, rfl, rfl, (Or.inr ⟨⟨c1, c2⟩, s_, hs_, rfl, Or.inr ⟨c3, Or.inr ⟨⟨c4, by rw [e_b]; exact c5⟩, t_, 0, by omega, by decide, et_, eq9, (if_neg hch_).symm⟩⟩⟩)⟩)
            · refine xb_iald (j := t_) (v := 1) dX9_taken_68 s_47 (by omega) (by decide) eq9 ?_
              refine xr_istore (ls2 := [(4, .int (1)), (3, .ref (50 + 2 * s_)), (0, .ref (0)), (1, .int (nI (s_))), (2, .int (k))]) dX9_taken_69 (by decide) rfl ?_
              refine xr_iload dX9_taken_71 0 rfl ?_
              refine xr_iload_n dX9_taken_73 4 rfl ?_
              refine xr_callS (As := [.int (1), .int (k)]) (rest := []) mlX9_390 (gs_X8_isUnder_1 k) dX9_taken_74 rfl rfl (Nat.le_of_ble_eq_true rfl) (by decide) ⟨by decide, by decide⟩ (fun v s2 M9 J2 hq => ?_)
              obtain ⟨r9, rfl, rfl, rfl, rfl, hx8⟩ := hq
              try dsimp only [Option.toList, List.cons_append, List.nil_append]
              rcases hx8 with ⟨rfl, hch_⟩ | ⟨rfl, hch_⟩
              · refine xr_if_eq (tgt := 85) dX9_taken_77 rfl (fun c => absurd c (by decide)) (fun _ => ?_)
                refine xr_iload dX9_taken_80 0 rfl ?_
                refine xr_goto (tgt := 87) dX9_taken_82 rfl ?_
                exact xr_iret dX9_taken_87 rfl rfl (⟨_, rfl, rfl, rfl, rfl, (Or.inr ⟨⟨c1, c2⟩, s_, hs_, rfl, Or.inr ⟨c3, Or.inr ⟨⟨c4, by rw [e_b]; exact c5⟩, t_, 1, by omega, by decide, et_, eq9, (if_pos hch_).symm⟩⟩⟩)⟩)
              · refine xr_if_eq (tgt := 85) dX9_taken_77 rfl (fun _ => ?_) (fun c => absurd (by decide) c)
                refine xr_bipush (v := -12) dX9_taken_85 rfl ?_
                exact xr_iret dX9_taken_87 rfl rfl (⟨_, rfl, rfl, rfl, rfl, (Or.inr ⟨⟨c1, c2⟩, s_, hs_, rfl, Or.inr ⟨c3, Or.inr ⟨⟨c4, by rw [e_b]; exact c5⟩, t_, 1, by omega, by decide, et_, eq9, (if_neg hch_).symm⟩⟩⟩)⟩)
            · refine xb_iald (j := t_) (v := 2) dX9_taken_68 s_47 (by omega) (by decide) eq9 ?_
              refine xr_istore (ls2 := [(4, .int (2)), (3, .ref (50 + 2 * s_)), (0, .ref (0)), (1, .int (nI (s_))), (2, .int (k))]) dX9_taken_69 (by decide) rfl ?_
              refine xr_iload dX9_taken_71 0 rfl ?_
              refine xr_iload_n dX9_taken_73 4 rfl ?_
              refine xr_callS (As := [.int (2), .int (k)]) (rest := []) mlX9_390 (gs_X8_isUnder_2 k) dX9_taken_74 rfl rfl (Nat.le_of_ble_eq_true rfl) (by decide) ⟨by decide, by decide⟩ (fun v s2 M9 J2 hq => ?_)
              obtain ⟨r11, rfl, rfl, rfl, rfl, hx10⟩ := hq
              try dsimp only [Option.toList, List.cons_append, List.nil_append]
              rcases hx10 with ⟨rfl, hch_⟩ | ⟨rfl, hch_⟩
              · refine xr_if_eq (tgt := 85) dX9_taken_77 rfl (fun c => absurd c (by decide)) (fun _ => ?_)
                refine xr_iload dX9_taken_80 0 rfl ?_
                refine xr_goto (tgt := 87) dX9_taken_82 rfl ?_
                exact xr_iret dX9_taken_87 rfl rfl (⟨_, rfl, rfl, rfl, rfl, (Or.inr ⟨⟨c1, c2⟩, s_, hs_, rfl, Or.inr ⟨c3, Or.inr ⟨⟨c4, by rw [e_b]; exact c5⟩, t_, 2, by omega, by decide, et_, eq9, (if_pos hch_).symm⟩⟩⟩)⟩)
              · refine xr_if_eq (tgt := 85) dX9_taken_77 rfl (fun _ => ?_) (fun c => absurd (by decide) c)
                refine xr_bipush (v := -12) dX9_taken_85 rfl ?_
                exact xr_iret dX9_taken_87 rfl rfl (⟨_, rfl, rfl, rfl, rfl, (Or.inr ⟨⟨c1, c2⟩, s_, hs_, rfl, Or.inr ⟨c3, Or.inr ⟨⟨c4, by rw [e_b]; exact c5⟩, t_, 2, by omega, by decide, et_, eq9, (if_neg hch_).symm⟩⟩⟩)⟩)
            · refine xb_iald (j := t_) (v := 3) dX9_taken_68 s_47 (by omega) (by decide) eq9 ?_
              refine xr_istore (ls2 := [(4, .int (3)), (3, .ref (50 + 2 * s_)), (0, .ref (0)), (1, .int (nI (s_))), (2, .int (k))]) dX9_taken_69 (by decide) rfl ?_
              refine xr_iload dX9_taken_71 0 rfl ?_
              refine xr_iload_n dX9_taken_73 4 rfl ?_
              refine xr_callS (As := [.int (3), .int (k)]) (rest := []) mlX9_390 (gs_X8_isUnder_3 k) dX9_taken_74 rfl rfl (Nat.le_of_ble_eq_true rfl) (by decide) ⟨by decide, by decide⟩ (fun v s2 M9 J2 hq => ?_)
              obtain ⟨r13, rfl, rfl, rfl, rfl, hx12⟩ := hq
              try dsimp only [Option.toList, List.cons_append, List.nil_append]
              rcases hx12 with ⟨rfl, hch_⟩ | ⟨rfl, hch_⟩
              · refine xr_if_eq (tgt := 85) dX9_taken_77 rfl (fun c => absurd c (by decide)) (fun _ => ?_)
                refine xr_iload dX9_taken_80 0 rfl ?_
                refine xr_goto (tgt := 87) dX9_taken_82 rfl ?_
                exact xr_iret dX9_taken_87 rfl rfl (⟨_, rfl, rfl, rfl, rfl, (Or.inr ⟨⟨c1, c2⟩, s_, hs_, rfl, Or.inr ⟨c3, Or.inr ⟨⟨c4, by rw [e_b]; exact c5⟩, t_, 3, by omega, by decide, et_, eq9, (if_pos hch_).symm⟩⟩⟩)⟩)
              · refine xr_if_eq (tgt := 85) dX9_taken_77 rfl (fun _ => ?_) (fun c => absurd (by decide) c)
                refine xr_bipush (v := -12) dX9_taken_85 rfl ?_
                exact xr_iret dX9_taken_87 rfl rfl (⟨_, rfl, rfl, rfl, rfl, (Or.inr ⟨⟨c1, c2⟩, s_, hs_, rfl, Or.inr ⟨c3, Or.inr ⟨⟨c4, by rw [e_b]; exact c5⟩, t_, 3, by omega, by decide, et_, eq9, (if_neg hch_).symm⟩⟩⟩)⟩)
            · refine xb_iald (j := t_) (v := 4) dX9_taken_68 s_47 (by omega) (by decide) eq9 ?_
              refine xr_istore (ls2 := [(4, .int (4)), (3, .ref (50 + 2 * s_)), (0, .ref (0)), (1, .int (nI (s_))), (2, .int (k))]) dX9_taken_69 (by decide) rfl ?_
              refine xr_iload dX9_taken_71 0 rfl ?_
              refine xr_iload_n dX9_taken_73 4 rfl ?_
              refine xr_callS (As := [.int (4), .int (k)]) (rest := []) mlX9_390 (gs_X8_isUnder_4 k) dX9_taken_74 rfl rfl (Nat.le_of_ble_eq_true rfl) (by decide) ⟨by decide, by decide⟩ (fun v s2 M9 J2 hq => ?_)
              obtain ⟨r15, rfl, rfl, rfl, rfl, hx14⟩ := hq
              try dsimp only [Option.toList, List.cons_append, List.nil_append]
              rcases hx14 with ⟨rfl, hch_⟩ | ⟨rfl, hch_⟩
              · refine xr_if_eq (tgt := 85) dX9_taken_77 rfl (fun c => absurd c (by decide)) (fun _ => ?_)
                refine xr_iload dX9_taken_80 0 rfl ?_
                refine xr_goto (tgt := 87) dX9_taken_82 rfl ?_
                exact xr_iret dX9_taken_87 rfl rfl (⟨_, rfl, rfl, rfl, rfl, (Or.inr ⟨⟨c1, c2⟩, s_, hs_, rfl, Or.inr ⟨c3, Or.inr ⟨⟨c4, by rw [e_b]; exact c5⟩, t_, 4, by omega, by decide, et_, eq9, (if_pos hch_).symm⟩⟩⟩)⟩)
              · refine xr_if_eq (tgt := 85) dX9_taken_77 rfl (fun _ => ?_) (fun c => absurd (by decide) c)
                refine xr_bipush (v := -12) dX9_taken_85 rfl ?_
                exact xr_iret dX9_taken_87 rfl rfl (⟨_, rfl, rfl, rfl, rfl, (Or.inr ⟨⟨c1, c2⟩, s_, hs_, rfl, Or.inr ⟨c3, Or.inr ⟨⟨c4, by rw [e_b]; exact c5⟩, t_, 4, by omega, by decide, et_, eq9, (if_neg hch_).symm⟩⟩⟩)⟩)
            · refine xb_iald (j := t_) (v := 5) dX9_taken_68 s_47 (by omega) (by decide) eq9 ?_
              refine xr_istore (ls2 := [(4, .int (5)), (3, .ref (50 + 2 * s_)), (0, .ref (0)), (1, .int (nI (s_))), (2, .int (k))]) dX9_taken_69 (by decide) rfl ?_
              refine xr_iload dX9_taken_71 0 rfl ?_
              refine xr_iload_n dX9_taken_73 4 rfl ?_
              refine xr_callS (As := [.int (5), .int (k)]) (rest := []) mlX9_390 (gs_X8_isUnder_5 k) dX9_taken_74 rfl rfl (Nat.le_of_ble_eq_true rfl) (by decide) ⟨by decide, by decide⟩ (fun v s2 M9 J2 hq => ?_)
              obtain ⟨r17, rfl, rfl, rfl, rfl, hx16⟩ := hq
              try dsimp only [Option.toList, List.cons_append, List.nil_append]
              rcases hx16 with ⟨rfl, hch_⟩ | ⟨rfl, hch_⟩
              · refine xr_if_eq (tgt := 85) dX9_taken_77 rfl (fun c => absurd c (by decide)) (fun _ => ?_)
                refine xr_iload dX9_taken_80 0 rfl ?_
                refine xr_goto (tgt := 87) dX9_taken_82 rfl ?_
                exact xr_iret dX9_taken_87 rfl rfl (⟨_, rfl, rfl, rfl, rfl, (Or.inr ⟨⟨c1, c2⟩, s_, hs_, rfl, Or.inr ⟨c3, Or.inr ⟨⟨c4, by rw [e_b]; exact c5⟩, t_, 5, by omega, by decide, et_, eq9, (if_pos hch_).symm⟩⟩⟩)⟩)
              · refine xr_if_eq (tgt := 85) dX9_taken_77 rfl (fun _ => ?_) (fun c => absurd (by decide) c)
                refine xr_bipush (v := -12) dX9_taken_85 rfl ?_
                exact xr_iret dX9_taken_87 rfl rfl (⟨_, rfl, rfl, rfl, rfl, (Or.inr ⟨⟨c1, c2⟩, s_, hs_, rfl, Or.inr ⟨c3, Or.inr ⟨⟨c4, by rw [e_b]; exact c5⟩, t_, 5, by omega, by decide, et_, eq9, (if_neg hch_).symm⟩⟩⟩)⟩)
            · refine xb_iald (j := t_) (v := 6) dX9_taken_68 s_47 (by omega) (by decide) eq9 ?_
              refine xr_istore (ls2 := [(4, .int (6)), (3, .ref (50 + 2 * s_)), (0, .ref (0)), (1, .int (nI (s_))), (2, .int (k))]) dX9_taken_69 (by decide) rfl ?_
              refine xr_iload dX9_taken_71 0 rfl ?_
              refine xr_iload_n dX9_taken_73 4 rfl ?_
              refine xr_callS (As := [.int (6), .int (k)]) (rest := []) mlX9_390 (gs_X8_isUnder_6 k) dX9_taken_74 rfl rfl (Nat.le_of_ble_eq_true rfl) (by decide) ⟨by decide, by decide⟩ (fun v s2 M9 J2 hq => ?_)
              obtain ⟨r19, rfl, rfl, rfl, rfl, hx18⟩ := hq
              try dsimp only [Option.toList, List.cons_append, List.nil_append]
              rcases hx18 with ⟨rfl, hch_⟩ | ⟨rfl, hch_⟩
              · refine xr_if_eq (tgt := 85) dX9_taken_77 rfl (fun c => absurd c (by decide)) (fun _ => ?_)
                refine xr_iload dX9_taken_80 0 rfl ?_
                refine xr_goto (tgt := 87) dX9_taken_82 rfl ?_
                exact xr_iret dX9_taken_87 rfl rfl (⟨_, rfl, rfl, rfl, rfl, (Or.inr ⟨⟨c1, c2⟩, s_, hs_, rfl, Or.inr ⟨c3, Or.inr ⟨⟨c4, by rw [e_b]; exact c5⟩, t_, 6, by omega, by decide, et_, eq9, (if_pos hch_).symm⟩⟩⟩)⟩)
              · refine xr_if_eq (tgt := 85) dX9_taken_77 rfl (fun _ => ?_) (fun c => absurd (by decide) c)
                refine xr_bipush (v := -12) dX9_taken_85 rfl ?_
                exact xr_iret dX9_taken_87 rfl rfl (⟨_, rfl, rfl, rfl, rfl, (Or.inr ⟨⟨c1, c2⟩, s_, hs_, rfl, Or.inr ⟨c3, Or.inr ⟨⟨c4, by rw [e_b]; exact c5⟩, t_, 6, by omega, by decide, et_, eq9, (if_neg hch_).symm⟩⟩⟩)⟩)
            · refine xb_iald (j := t_) (v := 7) dX9_taken_68 s_47 (by omega) (by decide) eq9 ?_
              refine xr_istore (ls2 := [(4, .int (7)), (3, .ref (50 + 2 * s_)), (0, .ref (0)), (1, .int (nI (s_))), (2, .int (k))]) dX9_taken_69 (by decide) rfl ?_
              refine xr_iload dX9_taken_71 0 rfl ?_
              refine xr_iload_n dX9_taken_73 4 rfl ?_
              refine xr_callS (As := [.int (7), .int (k)]) (rest := []) mlX9_390 (gs_X8_isUnder_7 k) dX9_taken_74 rfl rfl (Nat.le_of_ble_eq_true rfl) (by decide) ⟨by decide, by decide⟩ (fun v s2 M9 J2 hq => ?_)
              obtain ⟨r21, rfl, rfl, rfl, rfl, hx20⟩ := hq
              try dsimp only [Option.toList, List.cons_append, List.nil_append]
              rcases hx20 with ⟨rfl, hch_⟩ | ⟨rfl, hch_⟩
              · refine xr_if_eq (tgt := 85) dX9_taken_77 rfl (fun c => absurd c (by decide)) (fun _ => ?_)
                refine xr_iload dX9_taken_80 0 rfl ?_
                refine xr_goto (tgt := 87) dX9_taken_82 rfl ?_
                exact xr_iret dX9_taken_87 rfl rfl (⟨_, rfl, rfl, rfl, rfl, (Or.inr ⟨⟨c1, c2⟩, s_, hs_, rfl, Or.inr ⟨c3, Or.inr ⟨⟨c4, by rw [e_b]; exact c5⟩, t_, 7, by omega, by decide, et_, eq9, (if_pos hch_).symm⟩⟩⟩)⟩)
              · refine xr_if_eq (tgt := 85) dX9_taken_77 rfl (fun _ => ?_) (fun c => absurd (by decide) c)
                refine xr_bipush (v := -12) dX9_taken_85 rfl ?_
                exact xr_iret dX9_taken_87 rfl rfl (⟨_, rfl, rfl, rfl, rfl, (Or.inr ⟨⟨c1, c2⟩, s_, hs_, rfl, Or.inr ⟨c3, Or.inr ⟨⟨c4, by rw [e_b]; exact c5⟩, t_, 7, by omega, by decide, et_, eq9, (if_neg hch_).symm⟩⟩⟩)⟩)
          · refine xr_bipush (v := -12) dX9_taken_54 rfl ?_
            exact xr_iret dX9_taken_56 rfl rfl (⟨_, rfl, rfl, rfl, rfl, (Or.inr ⟨⟨c1, c2⟩, s_, hs_, rfl, Or.inr ⟨c3, Or.inl ⟨fun q => c5 (by have q2 := q.2; rw [e_b] at q2; exact q2), rfl⟩⟩⟩)⟩)
      · refine xr_bipush (v := -11) dX9_taken_30 rfl ?_
        exact xr_iret dX9_taken_32 rfl rfl (⟨_, rfl, rfl, rfl, rfl, (Or.inr ⟨⟨c1, c2⟩, s_, hs_, rfl, Or.inl ⟨c3, rfl⟩⟩)⟩)
    · refine xr_iconst (v := -1) dX9_taken_14 rfl ?_
      exact xr_iret dX9_taken_15 rfl rfl (⟨_, rfl, rfl, rfl, rfl, (Or.inl ⟨(fun q => c2 q.2), rfl⟩)⟩)
set_option maxRecDepth 100000 in
set_option maxHeartbeats 4000000 in
theorem gs_X10_taken (d k : Int32) {l : Launch} {G : xG} {M : xM} {J : xJ} (hI : InvR M) : x_M l G fX10_taken 2 0 0 [.ref (62), .int (d), .int (k)] x_SH M J (qPI M J (fun r => ETk10 M d k r)) := by
  refine xb_of pX10 (Nat.le_of_ble_eq_true rfl) rfl ?_
  obtain ⟨⟨hn, h_hn, e_hn, hw⟩, hbt, ⟨un, wn, h_uw, h_wn, e_un, e_wn⟩, hch, ⟨n, h_n, e_n⟩, htx, ⟨b, h_b, e_b⟩, hkd, ⟨ra, h_ra, e_ra⟩, hsl, ⟨ic, h_ic, e_ic⟩, hS⟩ := hI
  refine xr_iload_n dX10_taken_0 1 rfl ?_
  refine xb_cS (As := [.int (d)]) (rest := []) mlX10_125 (c_X10_isShelf d) dX10_taken_1 rfl rfl (Nat.le_of_ble_eq_true rfl) (by decide) (by decide) ?_
  refine xb_beq (tgt := 19) dX10_taken_4 rfl (fun c1 => ?_) (fun c1 => ?_)
  · refine xr_iconst (v := -1) dX10_taken_19 rfl ?_
    exact xr_iret dX10_taken_20 rfl rfl (⟨_, rfl, rfl, rfl, rfl, (Or.inl ⟨(fun q => c1 q.1), rfl⟩)⟩)
  · obtain ⟨d_, hd_, rfl⟩ := x_natle (N := 5) (by decide) rfl c1
    replace hd_ := Nat.lt_succ_of_le hd_
    refine xr_iload_n dX10_taken_7 2 rfl ?_
    refine xr_i2l dX10_taken_8 ?_
    refine xr_lconst (v := 0) dX10_taken_9 rfl ?_
    refine xr_ldc2 coX10_143 dX10_taken_10 ?_
    refine xb_cS (As := [.long ((k).toInt64), .long (0), .long (7)]) (rest := []) mlX10_101 (c_within32 (k) (0) (7) (by decide) (by decide)) dX10_taken_13 rfl rfl (Nat.le_of_ble_eq_true rfl) (by decide) (by decide) ?_
    refine xb_bne (tgt := 21) dX10_taken_16 rfl (fun c2 => ?_) (fun c2 => ?_)
    · refine xr_aload_n dX10_taken_21 0 rfl ?_
      refine xr_getR flX10_75 dX10_taken_22 s_62 rfl ?_
      refine xr_iload_n dX10_taken_25 1 rfl ?_
      refine xb_iald (j := d_) (v := M 83 d_) dX10_taken_26 s_83 hd_ (by decide) rfl ?_
      refine xr_if_ge (tgt := 33) dX10_taken_27 rfl (fun c3 => ?_) (fun c3 => ?_)
      · refine xr_aload_n dX10_taken_33 0 rfl ?_
        refine xr_getR flX10_75 dX10_taken_34 s_62 rfl ?_
        refine xr_iload_n dX10_taken_37 1 rfl ?_
        refine xb_iald (j := d_) (v := M 83 d_) dX10_taken_38 s_83 hd_ (by decide) rfl ?_
        refine xr_bipush (v := 50) dX10_taken_39 rfl ?_
        refine xr_icmp_lt (tgt := 47) dX10_taken_41 rfl (fun c4 => ?_) (fun c4 => ?_)
        · obtain ⟨b_, hb_, eb_⟩ := x_natle (v := M 83 d_) (N := 49) (K := 49) (by decide) (by decide) ⟨by grind, by grind⟩
          obtain ⟨q9, hq9, eq9⟩ := hkd b_ (by omega)
          have hq8 : q9 = 0 ∨ q9 = 1 ∨ q9 = 2 ∨ q9 = 3 ∨ q9 = 4 ∨ q9 = 5 ∨ q9 = 6 ∨ q9 = 7 := by omega
          rcases hq8 with rfl | rfl | rfl | rfl | rfl | rfl | rfl | rfl
          · refine xr_aload_n dX10_taken_47 0 rfl ?_
            refine xr_aload_n dX10_taken_48 0 rfl ?_
            refine xr_getR flX10_75 dX10_taken_49 s_62 rfl ?_
            refine xr_iload_n dX10_taken_52 1 rfl ?_
            refine xb_iald (j := d_) (v := nI (b_)) dX10_taken_53 s_83 hd_ (by decide) eb_ ?_
            refine xb_cV (As := [.int (nI (b_))]) (rest := []) mlX10_371 (c_X10_kindOf (b := b_) (by omega) eq9) dX10_taken_54 s_62 rfl rfl (Nat.le_of_ble_eq_true rfl) (by decide) (by decide) ?_
            refine xr_istore_n (ls2 := [(3, .int (0)), (0, .ref (62)), (1, .int (nI (d_))), (2, .int (k))]) dX10_taken_57 (by decide) rfl ?_
            refine xr_iload_n dX10_taken_58 0 rfl ?_
            refine xr_iload_n dX10_taken_59 3 rfl ?_
            refine xr_icmp_eq (tgt := 75) dX10_taken_60 rfl (fun c5 => ?_) (fun c5 => ?_)
            · refine xr_iload_n dX10_taken_75 0 rfl ?_
              refine xr_iload_n dX10_taken_76 3 rfl ?_
              refine xr_icmp_ne (tgt := 93) dX10_taken_77 rfl (fun c6 => ?_) (fun c6 => ?_)
              · refine xr_bipush (v := -12) dX10_taken_93 rfl ?_
                exact xr_iret dX10_taken_95 rfl rfl (⟨_, rfl, rfl, rfl, rfl, (Or.inr ⟨⟨c1, c2⟩, d_, hd_, rfl, Or.inr ⟨by grind, Or.inr ⟨by grind, b_, 0, by omega, by decide, eb_, eq9, (by first | exact (if_pos (by grind)).symm | exact (if_neg (by grind)).symm)⟩⟩⟩)⟩)
              · refine xr_aload_n dX10_taken_80 1 rfl ?_
                refine xr_aload_n dX10_taken_81 1 rfl ?_
                refine xr_getR flX10_75 dX10_taken_82 s_62 rfl ?_
                refine xr_iload_n dX10_taken_85 2 rfl ?_
                refine xb_iald (j := d_) (v := nI (b_)) dX10_taken_86 s_83 hd_ (by decide) eb_ ?_
                refine xb_cV (As := [.int (nI (b_))]) (rest := []) mlX10_371 (c_X10_kindOf (b := b_) (by omega) eq9) dX10_taken_87 s_62 rfl rfl (Nat.le_of_ble_eq_true rfl) (by decide) (by decide) ?_
                refine xr_goto (tgt := 95) dX10_taken_90 rfl ?_
                exact xr_iret dX10_taken_95 rfl rfl (⟨_, rfl, rfl, rfl, rfl, (Or.inr ⟨⟨c1, c2⟩, d_, hd_, rfl, Or.inr ⟨by grind, Or.inr ⟨by grind, b_, 0, by omega, by decide, eb_, eq9, (by first | exact (if_pos (by grind)).symm | exact (if_neg (by grind)).symm)⟩⟩⟩)⟩)
            · refine xr_iload_n dX10_taken_63 0 rfl ?_
              refine xr_if_le (tgt := 75) dX10_taken_64 rfl (fun _ => ?_) (fun c => absurd (by decide) c)
              refine xr_iload_n dX10_taken_75 0 rfl ?_
              refine xr_iload_n dX10_taken_76 3 rfl ?_
              refine xr_icmp_ne (tgt := 93) dX10_taken_77 rfl (fun c7 => ?_) (fun c7 => ?_)
              · refine xr_bipush (v := -12) dX10_taken_93 rfl ?_
                exact xr_iret dX10_taken_95 rfl rfl (⟨_, rfl, rfl, rfl, rfl, (Or.inr ⟨⟨c1, c2⟩, d_, hd_, rfl, Or.inr ⟨by grind, Or.inr ⟨by grind, b_, 0, by omega, by decide, eb_, eq9, (by first | exact (if_pos (by grind)).symm | exact (if_neg (by grind)).symm)⟩⟩⟩)⟩)
              · refine xr_aload_n dX10_taken_80 1 rfl ?_
                refine xr_aload_n dX10_taken_81 1 rfl ?_
                refine xr_getR flX10_75 dX10_taken_82 s_62 rfl ?_
                refine xr_iload_n dX10_taken_85 2 rfl ?_
                refine xb_iald (j := d_) (v := nI (b_)) dX10_taken_86 s_83 hd_ (by decide) eb_ ?_
                refine xb_cV (As := [.int (nI (b_))]) (rest := []) mlX10_371 (c_X10_kindOf (b := b_) (by omega) eq9) dX10_taken_87 s_62 rfl rfl (Nat.le_of_ble_eq_true rfl) (by decide) (by decide) ?_
                refine xr_goto (tgt := 95) dX10_taken_90 rfl ?_
                exact xr_iret dX10_taken_95 rfl rfl (⟨_, rfl, rfl, rfl, rfl, (Or.inr ⟨⟨c1, c2⟩, d_, hd_, rfl, Or.inr ⟨by grind, Or.inr ⟨by grind, b_, 0, by omega, by decide, eb_, eq9, (by first | exact (if_pos (by grind)).symm | exact (if_neg (by grind)).symm)⟩⟩⟩)⟩)
          · refine xr_aload_n dX10_taken_47 0 rfl ?_
            refine xr_aload_n dX10_taken_48 0 rfl ?_
            refine xr_getR flX10_75 dX10_taken_49 s_62 rfl ?_
            refine xr_iload_n dX10_taken_52 1 rfl ?_
            refine xb_iald (j := d_) (v := nI (b_)) dX10_taken_53 s_83 hd_ (by decide) eb_ ?_
            refine xb_cV (As := [.int (nI (b_))]) (rest := []) mlX10_371 (c_X10_kindOf (b := b_) (by omega) eq9) dX10_taken_54 s_62 rfl rfl (Nat.le_of_ble_eq_true rfl) (by decide) (by decide) ?_
            refine xr_istore_n (ls2 := [(3, .int (1)), (0, .ref (62)), (1, .int (nI (d_))), (2, .int (k))]) dX10_taken_57 (by decide) rfl ?_
            refine xr_iload_n dX10_taken_58 0 rfl ?_
            refine xr_iload_n dX10_taken_59 3 rfl ?_
            refine xr_icmp_eq (tgt := 75) dX10_taken_60 rfl (fun c8 => ?_) (fun c8 => ?_)
            · refine xr_iload_n dX10_taken_75 0 rfl ?_
              refine xr_iload_n dX10_taken_76 3 rfl ?_
              refine xr_icmp_ne (tgt := 93) dX10_taken_77 rfl (fun c9 => ?_) (fun c9 => ?_)
              · refine xr_bipush (v := -12) dX10_taken_93 rfl ?_
                exact xr_iret dX10_taken_95 rfl rfl (⟨_, rfl, rfl, rfl, rfl, (Or.inr ⟨⟨c1, c2⟩, d_, hd_, rfl, Or.inr ⟨by grind, Or.inr ⟨by grind, b_, 1, by omega, by decide, eb_, eq9, (by first | exact (if_pos (by grind)).symm | exact (if_neg (by grind)).symm)⟩⟩⟩)⟩)
              · refine xr_aload_n dX10_taken_80 1 rfl ?_
                refine xr_aload_n dX10_taken_81 1 rfl ?_
                refine xr_getR flX10_75 dX10_taken_82 s_62 rfl ?_
                refine xr_iload_n dX10_taken_85 2 rfl ?_
                refine xb_iald (j := d_) (v := nI (b_)) dX10_taken_86 s_83 hd_ (by decide) eb_ ?_
                refine xb_cV (As := [.int (nI (b_))]) (rest := []) mlX10_371 (c_X10_kindOf (b := b_) (by omega) eq9) dX10_taken_87 s_62 rfl rfl (Nat.le_of_ble_eq_true rfl) (by decide) (by decide) ?_
                refine xr_goto (tgt := 95) dX10_taken_90 rfl ?_
                exact xr_iret dX10_taken_95 rfl rfl (⟨_, rfl, rfl, rfl, rfl, (Or.inr ⟨⟨c1, c2⟩, d_, hd_, rfl, Or.inr ⟨by grind, Or.inr ⟨by grind, b_, 1, by omega, by decide, eb_, eq9, (by first | exact (if_pos (by grind)).symm | exact (if_neg (by grind)).symm)⟩⟩⟩)⟩)
            · refine xr_iload_n dX10_taken_63 0 rfl ?_
              refine xr_if_le (tgt := 75) dX10_taken_64 rfl (fun c => absurd c (by decide)) (fun _ => ?_)
              refine xr_iload_n dX10_taken_67 0 rfl ?_
              refine xb_cS (As := [.int (1)]) (rest := []) mlX10_374 (c_X10_above_1) dX10_taken_68 rfl rfl (Nat.le_of_ble_eq_true rfl) (by decide) (by decide) ?_
              refine xr_istore_n (ls2 := [(3, .int (0)), (0, .ref (62)), (1, .int (nI (d_))), (2, .int (k))]) dX10_taken_71 (by decide) rfl ?_
              refine xr_goto (tgt := 58) dX10_taken_72 rfl ?_
              refine xr_iload_n dX10_taken_58 0 rfl ?_
              refine xr_iload_n dX10_taken_59 3 rfl ?_
              refine xr_icmp_eq (tgt := 75) dX10_taken_60 rfl (fun c10 => ?_) (fun c10 => ?_)
              · refine xr_iload_n dX10_taken_75 0 rfl ?_
                refine xr_iload_n dX10_taken_76 3 rfl ?_
                refine xr_icmp_ne (tgt := 93) dX10_taken_77 rfl (fun c11 => ?_) (fun c11 => ?_)
                · refine xr_bipush (v := -12) dX10_taken_93 rfl ?_
                  exact xr_iret dX10_taken_95 rfl rfl (⟨_, rfl, rfl, rfl, rfl, (Or.inr ⟨⟨c1, c2⟩, d_, hd_, rfl, Or.inr ⟨by grind, Or.inr ⟨by grind, b_, 1, by omega, by decide, eb_, eq9, (by first | exact (if_pos (by grind)).symm | exact (if_neg (by grind)).symm)⟩⟩⟩)⟩)
                · refine xr_aload_n dX10_taken_80 1 rfl ?_
                  refine xr_aload_n dX10_taken_81 1 rfl ?_
                  refine xr_getR flX10_75 dX10_taken_82 s_62 rfl ?_
                  refine xr_iload_n dX10_taken_85 2 rfl ?_
                  refine xb_iald (j := d_) (v := nI (b_)) dX10_taken_86 s_83 hd_ (by decide) eb_ ?_
                  refine xb_cV (As := [.int (nI (b_))]) (rest := []) mlX10_371 (c_X10_kindOf (b := b_) (by omega) eq9) dX10_taken_87 s_62 rfl rfl (Nat.le_of_ble_eq_true rfl) (by decide) (by decide) ?_
                  refine xr_goto (tgt := 95) dX10_taken_90 rfl ?_
                  exact xr_iret dX10_taken_95 rfl rfl (⟨_, rfl, rfl, rfl, rfl, (Or.inr ⟨⟨c1, c2⟩, d_, hd_, rfl, Or.inr ⟨by grind, Or.inr ⟨by grind, b_, 1, by omega, by decide, eb_, eq9, (by first | exact (if_pos (by grind)).symm | exact (if_neg (by grind)).symm)⟩⟩⟩)⟩)
              · refine xr_iload_n dX10_taken_63 0 rfl ?_
                refine xr_if_le (tgt := 75) dX10_taken_64 rfl (fun _ => ?_) (fun c => absurd (by decide) c)
                refine xr_iload_n dX10_taken_75 0 rfl ?_
                refine xr_iload_n dX10_taken_76 3 rfl ?_
                refine xr_icmp_ne (tgt := 93) dX10_taken_77 rfl (fun c12 => ?_) (fun c12 => ?_)
                · refine xr_bipush (v := -12) dX10_taken_93 rfl ?_
                  exact xr_iret dX10_taken_95 rfl rfl (⟨_, rfl, rfl, rfl, rfl, (Or.inr ⟨⟨c1, c2⟩, d_, hd_, rfl, Or.inr ⟨by grind, Or.inr ⟨by grind, b_, 1, by omega, by decide, eb_, eq9, (by first | exact (if_pos (by grind)).symm | exact (if_neg (by grind)).symm)⟩⟩⟩)⟩)
                · refine xr_aload_n dX10_taken_80 1 rfl ?_
                  refine xr_aload_n dX10_taken_81 1 rfl ?_
                  refine xr_getR flX10_75 dX10_taken_82 s_62 rfl ?_
                  refine xr_iload_n dX10_taken_85 2 rfl ?_
                  refine xb_iald (j := d_) (v := nI (b_)) dX10_taken_86 s_83 hd_ (by decide) eb_ ?_
                  refine xb_cV (As := [.int (nI (b_))]) (rest := []) mlX10_371 (c_X10_kindOf (b := b_) (by omega) eq9) dX10_taken_87 s_62 rfl rfl (Nat.le_of_ble_eq_true rfl) (by decide) (by decide) ?_
                  refine xr_goto (tgt := 95) dX10_taken_90 rfl ?_
                  exact xr_iret dX10_taken_95 rfl rfl (⟨_, rfl, rfl, rfl, rfl, (Or.inr ⟨⟨c1, c2⟩, d_, hd_, rfl, Or.inr ⟨by grind, Or.inr ⟨by grind, b_, 1, by omega, by decide, eb_, eq9, (by first | exact (if_pos (by grind)).symm | exact (if_neg (by grind)).symm)⟩⟩⟩)⟩)
          · refine xr_aload_n dX10_taken_47 0 rfl ?_
            refine xr_aload_n dX10_taken_48 0 rfl ?_
            refine xr_getR flX10_75 dX10_taken_49 s_62 rfl ?_
            refine xr_iload_n dX10_taken_52 1 rfl ?_
            refine xb_iald (j := d_) (v := nI (b_)) dX10_taken_53 s_83 hd_ (by decide) eb_ ?_
            refine xb_cV (As := [.int (nI (b_))]) (rest := []) mlX10_371 (c_X10_kindOf (b := b_) (by omega) eq9) dX10_taken_54 s_62 rfl rfl (Nat.le_of_ble_eq_true rfl) (by decide) (by decide) ?_
            refine xr_istore_n (ls2 := [(3, .int (2)), (0, .ref (62)), (1, .int (nI (d_))), (2, .int (k))]) dX10_taken_57 (by decide) rfl ?_
            refine xr_iload_n dX10_taken_58 0 rfl ?_
            refine xr_iload_n dX10_taken_59 3 rfl ?_
            refine xr_icmp_eq (tgt := 75) dX10_taken_60 rfl (fun c13 => ?_) (fun c13 => ?_)
            · refine xr_iload_n dX10_taken_75 0 rfl ?_
              refine xr_iload_n dX10_taken_76 3 rfl ?_
              refine xr_icmp_ne (tgt := 93) dX10_taken_77 rfl (fun c14 => ?_) (fun c14 => ?_)
              · refine xr_bipush (v := -12) dX10_taken_93 rfl ?_
                exact xr_iret dX10_taken_95 rfl rfl (⟨_, rfl, rfl, rfl, rfl, (Or.inr ⟨⟨c1, c2⟩, d_, hd_, rfl, Or.inr ⟨by grind, Or.inr ⟨by grind, b_, 2, by omega, by decide, eb_, eq9, (by first | exact (if_pos (by grind)).symm | exact (if_neg (by grind)).symm)⟩⟩⟩)⟩)
              · refine xr_aload_n dX10_taken_80 1 rfl ?_
                refine xr_aload_n dX10_taken_81 1 rfl ?_
                refine xr_getR flX10_75 dX10_taken_82 s_62 rfl ?_
                refine xr_iload_n dX10_taken_85 2 rfl ?_
                refine xb_iald (j := d_) (v := nI (b_)) dX10_taken_86 s_83 hd_ (by decide) eb_ ?_
                refine xb_cV (As := [.int (nI (b_))]) (rest := []) mlX10_371 (c_X10_kindOf (b := b_) (by omega) eq9) dX10_taken_87 s_62 rfl rfl (Nat.le_of_ble_eq_true rfl) (by decide) (by decide) ?_
                refine xr_goto (tgt := 95) dX10_taken_90 rfl ?_
                exact xr_iret dX10_taken_95 rfl rfl (⟨_, rfl, rfl, rfl, rfl, (Or.inr ⟨⟨c1, c2⟩, d_, hd_, rfl, Or.inr ⟨by grind, Or.inr ⟨by grind, b_, 2, by omega, by decide, eb_, eq9, (by first | exact (if_pos (by grind)).symm | exact (if_neg (by grind)).symm)⟩⟩⟩)⟩)
            · refine xr_iload_n dX10_taken_63 0 rfl ?_
              refine xr_if_le (tgt := 75) dX10_taken_64 rfl (fun c => absurd c (by decide)) (fun _ => ?_)
              refine xr_iload_n dX10_taken_67 0 rfl ?_
              refine xb_cS (As := [.int (2)]) (rest := []) mlX10_374 (c_X10_above_2) dX10_taken_68 rfl rfl (Nat.le_of_ble_eq_true rfl) (by decide) (by decide) ?_
              refine xr_istore_n (ls2 := [(3, .int (0)), (0, .ref (62)), (1, .int (nI (d_))), (2, .int (k))]) dX10_taken_71 (by decide) rfl ?_
              refine xr_goto (tgt := 58) dX10_taken_72 rfl ?_
              refine xr_iload_n dX10_taken_58 0 rfl ?_
              refine xr_iload_n dX10_taken_59 3 rfl ?_
              refine xr_icmp_eq (tgt := 75) dX10_taken_60 rfl (fun c15 => ?_) (fun c15 => ?_)
              · refine xr_iload_n dX10_taken_75 0 rfl ?_
                refine xr_iload_n dX10_taken_76 3 rfl ?_
                refine xr_icmp_ne (tgt := 93) dX10_taken_77 rfl (fun c16 => ?_) (fun c16 => ?_)
                · refine xr_bipush (v := -12) dX10_taken_93 rfl ?_
                  exact xr_iret dX10_taken_95 rfl rfl (⟨_, rfl, rfl, rfl, rfl, (Or.inr ⟨⟨c1, c2⟩, d_, hd_, rfl, Or.inr ⟨by grind, Or.inr ⟨by grind, b_, 2, by omega, by decide, eb_, eq9, (by first | exact (if_pos (by grind)).symm | exact (if_neg (by grind)).symm)⟩⟩⟩)⟩)
                · refine xr_aload_n dX10_taken_80 1 rfl ?_
                  refine xr_aload_n dX10_taken_81 1 rfl ?_
                  refine xr_getR flX10_75 dX10_taken_82 s_62 rfl ?_
                  refine xr_iload_n dX10_taken_85 2 rfl ?_
                  refine xb_iald (j := d_) (v := nI (b_)) dX10_taken_86 s_83 hd_ (by decide) eb_ ?_
                  refine xb_cV (As := [.int (nI (b_))]) (rest := []) mlX10_371 (c_X10_kindOf (b := b_) (by omega) eq9) dX10_taken_87 s_62 rfl rfl (Nat.le_of_ble_eq_true rfl) (by decide) (by decide) ?_
                  refine xr_goto (tgt := 95) dX10_taken_90 rfl ?_
                  exact xr_iret dX10_taken_95 rfl rfl (⟨_, rfl, rfl, rfl, rfl, (Or.inr ⟨⟨c1, c2⟩, d_, hd_, rfl, Or.inr ⟨by grind, Or.inr ⟨by grind, b_, 2, by omega, by decide, eb_, eq9, (by first | exact (if_pos (by grind)).symm | exact (if_neg (by grind)).symm)⟩⟩⟩)⟩)
              · refine xr_iload_n dX10_taken_63 0 rfl ?_
                refine xr_if_le (tgt := 75) dX10_taken_64 rfl (fun _ => ?_) (fun c => absurd (by decide) c)
                refine xr_iload_n dX10_taken_75 0 rfl ?_
                refine xr_iload_n dX10_taken_76 3 rfl ?_
                refine xr_icmp_ne (tgt := 93) dX10_taken_77 rfl (fun c17 => ?_) (fun c17 => ?_)
                · refine xr_bipush (v := -12) dX10_taken_93 rfl ?_
                  exact xr_iret dX10_taken_95 rfl rfl (⟨_, rfl, rfl, rfl, rfl, (Or.inr ⟨⟨c1, c2⟩, d_, hd_, rfl, Or.inr ⟨by grind, Or.inr ⟨by grind, b_, 2, by omega, by decide, eb_, eq9, (by first | exact (if_pos (by grind)).symm | exact (if_neg (by grind)).symm)⟩⟩⟩)⟩)
                · refine xr_aload_n dX10_taken_80 1 rfl ?_
                  refine xr_aload_n dX10_taken_81 1 rfl ?_
                  refine xr_getR flX10_75 dX10_taken_82 s_62 rfl ?_
                  refine xr_iload_n dX10_taken_85 2 rfl ?_
                  refine xb_iald (j := d_) (v := nI (b_)) dX10_taken_86 s_83 hd_ (by decide) eb_ ?_
                  refine xb_cV (As := [.int (nI (b_))]) (rest := []) mlX10_371 (c_X10_kindOf (b := b_) (by omega) eq9) dX10_taken_87 s_62 rfl rfl (Nat.le_of_ble_eq_true rfl) (by decide) (by decide) ?_
                  refine xr_goto (tgt := 95) dX10_taken_90 rfl ?_
                  exact xr_iret dX10_taken_95 rfl rfl (⟨_, rfl, rfl, rfl, rfl, (Or.inr ⟨⟨c1, c2⟩, d_, hd_, rfl, Or.inr ⟨by grind, Or.inr ⟨by grind, b_, 2, by omega, by decide, eb_, eq9, (by first | exact (if_pos (by grind)).symm | exact (if_neg (by grind)).symm)⟩⟩⟩)⟩)
          · refine xr_aload_n dX10_taken_47 0 rfl ?_
            refine xr_aload_n dX10_taken_48 0 rfl ?_
            refine xr_getR flX10_75 dX10_taken_49 s_62 rfl ?_
            refine xr_iload_n dX10_taken_52 1 rfl ?_
            refine xb_iald (j := d_) (v := nI (b_)) dX10_taken_53 s_83 hd_ (by decide) eb_ ?_
            refine xb_cV (As := [.int (nI (b_))]) (rest := []) mlX10_371 (c_X10_kindOf (b := b_) (by omega) eq9) dX10_taken_54 s_62 rfl rfl (Nat.le_of_ble_eq_true rfl) (by decide) (by decide) ?_
            refine xr_istore_n (ls2 := [(3, .int (3)), (0, .ref (62)), (1, .int (nI (d_))), (2, .int (k))]) dX10_taken_57 (by decide) rfl ?_
            refine xr_iload_n dX10_taken_58 0 rfl ?_
            refine xr_iload_n dX10_taken_59 3 rfl ?_
            refine xr_icmp_eq (tgt := 75) dX10_taken_60 rfl (fun c18 => ?_) (fun c18 => ?_)
            · refine xr_iload_n dX10_taken_75 0 rfl ?_
              refine xr_iload_n dX10_taken_76 3 rfl ?_
              refine xr_icmp_ne (tgt := 93) dX10_taken_77 rfl (fun c19 => ?_) (fun c19 => ?_)
              · refine xr_bipush (v := -12) dX10_taken_93 rfl ?_
                exact xr_iret dX10_taken_95 rfl rfl (⟨_, rfl, rfl, rfl, rfl, (Or.inr ⟨⟨c1, c2⟩, d_, hd_, rfl, Or.inr ⟨by grind, Or.inr ⟨by grind, b_, 3, by omega, by decide, eb_, eq9, (by first | exact (if_pos (by grind)).symm | exact (if_neg (by grind)).symm)⟩⟩⟩)⟩)
              · refine xr_aload_n dX10_taken_80 1 rfl ?_
                refine xr_aload_n dX10_taken_81 1 rfl ?_
                refine xr_getR flX10_75 dX10_taken_82 s_62 rfl ?_
                refine xr_iload_n dX10_taken_85 2 rfl ?_
                refine xb_iald (j := d_) (v := nI (b_)) dX10_taken_86 s_83 hd_ (by decide) eb_ ?_
                refine xb_cV (As := [.int (nI (b_))]) (rest := []) mlX10_371 (c_X10_kindOf (b := b_) (by omega) eq9) dX10_taken_87 s_62 rfl rfl (Nat.le_of_ble_eq_true rfl) (by decide) (by decide) ?_
                refine xr_goto (tgt := 95) dX10_taken_90 rfl ?_
                exact xr_iret dX10_taken_95 rfl rfl (⟨_, rfl, rfl, rfl, rfl, (Or.inr ⟨⟨c1, c2⟩, d_, hd_, rfl, Or.inr ⟨by grind, Or.inr ⟨by grind, b_, 3, by omega, by decide, eb_, eq9, (by first | exact (if_pos (by grind)).symm | exact (if_neg (by grind)).symm)⟩⟩⟩)⟩)
            · refine xr_iload_n dX10_taken_63 0 rfl ?_
              refine xr_if_le (tgt := 75) dX10_taken_64 rfl (fun c => absurd c (by decide)) (fun _ => ?_)
              refine xr_iload_n dX10_taken_67 0 rfl ?_
              refine xb_cS (As := [.int (3)]) (rest := []) mlX10_374 (c_X10_above_3) dX10_taken_68 rfl rfl (Nat.le_of_ble_eq_true rfl) (by decide) (by decide) ?_
              refine xr_istore_n (ls2 := [(3, .int (2)), (0, .ref (62)), (1, .int (nI (d_))), (2, .int (k))]) dX10_taken_71 (by decide) rfl ?_
              refine xr_goto (tgt := 58) dX10_taken_72 rfl ?_
              refine xr_iload_n dX10_taken_58 0 rfl ?_
              refine xr_iload_n dX10_taken_59 3 rfl ?_
              refine xr_icmp_eq (tgt := 75) dX10_taken_60 rfl (fun c20 => ?_) (fun c20 => ?_)
              · refine xr_iload_n dX10_taken_75 0 rfl ?_
                refine xr_iload_n dX10_taken_76 3 rfl ?_
                refine xr_icmp_ne (tgt := 93) dX10_taken_77 rfl (fun c21 => ?_) (fun c21 => ?_)
                · refine xr_bipush (v := -12) dX10_taken_93 rfl ?_
                  exact xr_iret dX10_taken_95 rfl rfl (⟨_, rfl, rfl, rfl, rfl, (Or.inr ⟨⟨c1, c2⟩, d_, hd_, rfl, Or.inr ⟨by grind, Or.inr ⟨by grind, b_, 3, by omega, by decide, eb_, eq9, (by first | exact (if_pos (by grind)).symm | exact (if_neg (by grind)).symm)⟩⟩⟩)⟩)
                · refine xr_aload_n dX10_taken_80 1 rfl ?_
                  refine xr_aload_n dX10_taken_81 1 rfl ?_
                  refine xr_getR flX10_75 dX10_taken_82 s_62 rfl ?_
                  refine xr_iload_n dX10_taken_85 2 rfl ?_
                  refine xb_iald (j := d_) (v := nI (b_)) dX10_taken_86 s_83 hd_ (by decide) eb_ ?_
                  refine xb_cV (As := [.int (nI (b_))]) (rest := []) mlX10_371 (c_X10_kindOf (b := b_) (by omega) eq9) dX10_taken_87 s_62 rfl rfl (Nat.le_of_ble_eq_true rfl) (by decide) (by decide) ?_
                  refine xr_goto (tgt := 95) dX10_taken_90 rfl ?_
                  exact xr_iret dX10_taken_95 rfl rfl (⟨_, rfl, rfl, rfl, rfl, (Or.inr ⟨⟨c1, c2⟩, d_, hd_, rfl, Or.inr ⟨by grind, Or.inr ⟨by grind, b_, 3, by omega, by decide, eb_, eq9, (by first | exact (if_pos (by grind)).symm | exact (if_neg (by grind)).symm)⟩⟩⟩)⟩)
              · refine xr_iload_n dX10_taken_63 0 rfl ?_
                refine xr_if_le (tgt := 75) dX10_taken_64 rfl (fun c => absurd c (by decide)) (fun _ => ?_)
                refine xr_iload_n dX10_taken_67 0 rfl ?_
                refine xb_cS (As := [.int (2)]) (rest := []) mlX10_374 (c_X10_above_2) dX10_taken_68 rfl rfl (Nat.le_of_ble_eq_true rfl) (by decide) (by decide) ?_
                refine xr_istore_n (ls2 := [(3, .int (0)), (0, .ref (62)), (1, .int (nI (d_))), (2, .int (k))]) dX10_taken_71 (by decide) rfl ?_
                refine xr_goto (tgt := 58) dX10_taken_72 rfl ?_
                refine xr_iload_n dX10_taken_58 0 rfl ?_
                refine xr_iload_n dX10_taken_59 3 rfl ?_
                refine xr_icmp_eq (tgt := 75) dX10_taken_60 rfl (fun c22 => ?_) (fun c22 => ?_)
                · refine xr_iload_n dX10_taken_75 0 rfl ?_
                  refine xr_iload_n dX10_taken_76 3 rfl ?_
                  refine xr_icmp_ne (tgt := 93) dX10_taken_77 rfl (fun c23 => ?_) (fun c23 => ?_)
                  · refine xr_bipush (v := -12) dX10_taken_93 rfl ?_
                    exact xr_iret dX10_taken_95 rfl rfl (⟨_, rfl, rfl, rfl, rfl, (Or.inr ⟨⟨c1, c2⟩, d_, hd_, rfl, Or.inr ⟨by grind, Or.inr ⟨by grind, b_, 3, by omega, by decide, eb_, eq9, (by first | exact (if_pos (by grind)).symm | exact (if_neg (by grind)).symm)⟩⟩⟩)⟩)
                  · refine xr_aload_n dX10_taken_80 1 rfl ?_
                    refine xr_aload_n dX10_taken_81 1 rfl ?_
                    refine xr_getR flX10_75 dX10_taken_82 s_62 rfl ?_
                    refine xr_iload_n dX10_taken_85 2 rfl ?_
                    refine xb_iald (j := d_) (v := nI (b_)) dX10_taken_86 s_83 hd_ (by decide) eb_ ?_
                    refine xb_cV (As := [.int (nI (b_))]) (rest := []) mlX10_371 (c_X10_kindOf (b := b_) (by omega) eq9) dX10_taken_87 s_62 rfl rfl (Nat.le_of_ble_eq_true rfl) (by decide) (by decide) ?_
                    refine xr_goto (tgt := 95) dX10_taken_90 rfl ?_
                    exact xr_iret dX10_taken_95 rfl rfl (⟨_, rfl, rfl, rfl, rfl, (Or.inr ⟨⟨c1, c2⟩, d_, hd_, rfl, Or.inr ⟨by grind, Or.inr ⟨by grind, b_, 3, by omega, by decide, eb_, eq9, (by first | exact (if_pos (by grind)).symm | exact (if_neg (by grind)).symm)⟩⟩⟩)⟩)
                · refine xr_iload_n dX10_taken_63 0 rfl ?_
                  refine xr_if_le (tgt := 75) dX10_taken_64 rfl (fun _ => ?_) (fun c => absurd (by decide) c)
                  refine xr_iload_n dX10_taken_75 0 rfl ?_
                  refine xr_iload_n dX10_taken_76 3 rfl ?_
                  refine xr_icmp_ne (tgt := 93) dX10_taken_77 rfl (fun c24 => ?_) (fun c24 => ?_)
                  · refine xr_bipush (v := -12) dX10_taken_93 rfl ?_
                    exact xr_iret dX10_taken_95 rfl rfl (⟨_, rfl, rfl, rfl, rfl, (Or.inr ⟨⟨c1, c2⟩, d_, hd_, rfl, Or.inr ⟨by grind, Or.inr ⟨by grind, b_, 3, by omega, by decide, eb_, eq9, (by first | exact (if_pos (by grind)).symm | exact (if_neg (by grind)).symm)⟩⟩⟩)⟩)
                  · refine xr_aload_n dX10_taken_80 1 rfl ?_
                    refine xr_aload_n dX10_taken_81 1 rfl ?_
                    refine xr_getR flX10_75 dX10_taken_82 s_62 rfl ?_
                    refine xr_iload_n dX10_taken_85 2 rfl ?_
                    refine xb_iald (j := d_) (v := nI (b_)) dX10_taken_86 s_83 hd_ (by decide) eb_ ?_
                    refine xb_cV (As := [.int (nI (b_))]) (rest := []) mlX10_371 (c_X10_kindOf (b := b_) (by omega) eq9) dX10_taken_87 s_62 rfl rfl (Nat.le_of_ble_eq_true rfl) (by decide) (by decide) ?_
                    refine xr_goto (tgt := 95) dX10_taken_90 rfl ?_
                    exact xr_iret dX10_taken_95 rfl rfl (⟨_, rfl, rfl, rfl, rfl, (Or.inr ⟨⟨c1, c2⟩, d_, hd_, rfl, Or.inr ⟨by grind, Or.inr ⟨by grind, b_, 3, by omega, by decide, eb_, eq9, (by first | exact (if_pos (by grind)).symm | exact (if_neg (by grind)).symm)⟩⟩⟩)⟩)
          · refine xr_aload_n dX10_taken_47 0 rfl ?_
            refine xr_aload_n dX10_taken_48 0 rfl ?_
            refine xr_getR flX10_75 dX10_taken_49 s_62 rfl ?_
            refine xr_iload_n dX10_taken_52 1 rfl ?_
            refine xb_iald (j := d_) (v := nI (b_)) dX10_taken_53 s_83 hd_ (by decide) eb_ ?_
            refine xb_cV (As := [.int (nI (b_))]) (rest := []) mlX10_371 (c_X10_kindOf (b := b_) (by omega) eq9) dX10_taken_54 s_62 rfl rfl (Nat.le_of_ble_eq_true rfl) (by decide) (by decide) ?_
            refine xr_istore_n (ls2 := [(3, .int (4)), (0, .ref (62)), (1, .int (nI (d_))), (2, .int (k))]) dX10_taken_57 (by decide) rfl ?_
            refine xr_iload_n dX10_taken_58 0 rfl ?_
            refine xr_iload_n dX10_taken_59 3 rfl ?_
            refine xr_icmp_eq (tgt := 75) dX10_taken_60 rfl (fun c25 => ?_) (fun c25 => ?_)
            · refine xr_iload_n dX10_taken_75 0 rfl ?_
              refine xr_iload_n dX10_taken_76 3 rfl ?_
              refine xr_icmp_ne (tgt := 93) dX10_taken_77 rfl (fun c26 => ?_) (fun c26 => ?_)
              · refine xr_bipush (v := -12) dX10_taken_93 rfl ?_
                exact xr_iret dX10_taken_95 rfl rfl (⟨_, rfl, rfl, rfl, rfl, (Or.inr ⟨⟨c1, c2⟩, d_, hd_, rfl, Or.inr ⟨by grind, Or.inr ⟨by grind, b_, 4, by omega, by decide, eb_, eq9, (by first | exact (if_pos (by grind)).symm | exact (if_neg (by grind)).symm)⟩⟩⟩)⟩)
              · refine xr_aload_n dX10_taken_80 1 rfl ?_
                refine xr_aload_n dX10_taken_81 1 rfl ?_
                refine xr_getR flX10_75 dX10_taken_82 s_62 rfl ?_
                refine xr_iload_n dX10_taken_85 2 rfl ?_
                refine xb_iald (j := d_) (v := nI (b_)) dX10_taken_86 s_83 hd_ (by decide) eb_ ?_
                refine xb_cV (As := [.int (nI (b_))]) (rest := []) mlX10_371 (c_X10_kindOf (b := b_) (by omega) eq9) dX10_taken_87 s_62 rfl rfl (Nat.le_of_ble_eq_true rfl) (by decide) (by decide) ?_
                refine xr_goto (tgt := 95) dX10_taken_90 rfl ?_
                exact xr_iret dX10_taken_95 rfl rfl (⟨_, rfl, rfl, rfl, rfl, (Or.inr ⟨⟨c1, c2⟩, d_, hd_, rfl, Or.inr ⟨by grind, Or.inr ⟨by grind, b_, 4, by omega, by decide, eb_, eq9, (by first | exact (if_pos (by grind)).symm | exact (if_neg (by grind)).symm)⟩⟩⟩)⟩)
            · refine xr_iload_n dX10_taken_63 0 rfl ?_
              refine xr_if_le (tgt := 75) dX10_taken_64 rfl (fun c => absurd c (by decide)) (fun _ => ?_)
              refine xr_iload_n dX10_taken_67 0 rfl ?_
              refine xb_cS (As := [.int (4)]) (rest := []) mlX10_374 (c_X10_above_4) dX10_taken_68 rfl rfl (Nat.le_of_ble_eq_true rfl) (by decide) (by decide) ?_
              refine xr_istore_n (ls2 := [(3, .int (1)), (0, .ref (62)), (1, .int (nI (d_))), (2, .int (k))]) dX10_taken_71 (by decide) rfl ?_
              refine xr_goto (tgt := 58) dX10_taken_72 rfl ?_
              refine xr_iload_n dX10_taken_58 0 rfl ?_
              refine xr_iload_n dX10_taken_59 3 rfl ?_
              refine xr_icmp_eq (tgt := 75) dX10_taken_60 rfl (fun c27 => ?_) (fun c27 => ?_)
              · refine xr_iload_n dX10_taken_75 0 rfl ?_
                refine xr_iload_n dX10_taken_76 3 rfl ?_
                refine xr_icmp_ne (tgt := 93) dX10_taken_77 rfl (fun c28 => ?_) (fun c28 => ?_)
                · refine xr_bipush (v := -12) dX10_taken_93 rfl ?_
                  exact xr_iret dX10_taken_95 rfl rfl (⟨_, rfl, rfl, rfl, rfl, (Or.inr ⟨⟨c1, c2⟩, d_, hd_, rfl, Or.inr ⟨by grind, Or.inr ⟨by grind, b_, 4, by omega, by decide, eb_, eq9, (by first | exact (if_pos (by grind)).symm | exact (if_neg (by grind)).symm)⟩⟩⟩)⟩)
                · refine xr_aload_n dX10_taken_80 1 rfl ?_
                  refine xr_aload_n dX10_taken_81 1 rfl ?_
                  refine xr_getR flX10_75 dX10_taken_82 s_62 rfl ?_
                  refine xr_iload_n dX10_taken_85 2 rfl ?_
                  refine xb_iald (j := d_) (v := nI (b_)) dX10_taken_86 s_83 hd_ (by decide) eb_ ?_
                  refine xb_cV (As := [.int (nI (b_))]) (rest := []) mlX10_371 (c_X10_kindOf (b := b_) (by omega) eq9) dX10_taken_87 s_62 rfl rfl (Nat.le_of_ble_eq_true rfl) (by decide) (by decide) ?_
                  refine xr_goto (tgt := 95) dX10_taken_90 rfl ?_
                  exact xr_iret dX10_taken_95 rfl rfl (⟨_, rfl, rfl, rfl, rfl, (Or.inr ⟨⟨c1, c2⟩, d_, hd_, rfl, Or.inr ⟨by grind, Or.inr ⟨by grind, b_, 4, by omega, by decide, eb_, eq9, (by first | exact (if_pos (by grind)).symm | exact (if_neg (by grind)).symm)⟩⟩⟩)⟩)
              · refine xr_iload_n dX10_taken_63 0 rfl ?_
                refine xr_if_le (tgt := 75) dX10_taken_64 rfl (fun c => absurd c (by decide)) (fun _ => ?_)
                refine xr_iload_n dX10_taken_67 0 rfl ?_
                refine xb_cS (As := [.int (1)]) (rest := []) mlX10_374 (c_X10_above_1) dX10_taken_68 rfl rfl (Nat.le_of_ble_eq_true rfl) (by decide) (by decide) ?_
                refine xr_istore_n (ls2 := [(3, .int (0)), (0, .ref (62)), (1, .int (nI (d_))), (2, .int (k))]) dX10_taken_71 (by decide) rfl ?_
                refine xr_goto (tgt := 58) dX10_taken_72 rfl ?_
                refine xr_iload_n dX10_taken_58 0 rfl ?_
                refine xr_iload_n dX10_taken_59 3 rfl ?_
                refine xr_icmp_eq (tgt := 75) dX10_taken_60 rfl (fun c29 => ?_) (fun c29 => ?_)
                · refine xr_iload_n dX10_taken_75 0 rfl ?_
                  refine xr_iload_n dX10_taken_76 3 rfl ?_
                  refine xr_icmp_ne (tgt := 93) dX10_taken_77 rfl (fun c30 => ?_) (fun c30 => ?_)
                  · refine xr_bipush (v := -12) dX10_taken_93 rfl ?_
                    exact xr_iret dX10_taken_95 rfl rfl (⟨_, rfl, rfl, rfl, rfl, (Or.inr ⟨⟨c1, c2⟩, d_, hd_, rfl, Or.inr ⟨by grind, Or.inr ⟨by grind, b_, 4, by omega, by decide, eb_, eq9, (by first | exact (if_pos (by grind)).symm | exact (if_neg (by grind)).symm)⟩⟩⟩)⟩)
                  · refine xr_aload_n dX10_taken_80 1 rfl ?_
                    refine xr_aload_n dX10_taken_81 1 rfl ?_
                    refine xr_getR flX10_75 dX10_taken_82 s_62 rfl ?_
                    refine xr_iload_n dX10_taken_85 2 rfl ?_
                    refine xb_iald (j := d_) (v := nI (b_)) dX10_taken_86 s_83 hd_ (by decide) eb_ ?_
                    refine xb_cV (As := [.int (nI (b_))]) (rest := []) mlX10_371 (c_X10_kindOf (b := b_) (by omega) eq9) dX10_taken_87 s_62 rfl rfl (Nat.le_of_ble_eq_true rfl) (by decide) (by decide) ?_
                    refine xr_goto (tgt := 95) dX10_taken_90 rfl ?_
                    exact xr_iret dX10_taken_95 rfl rfl (⟨_, rfl, rfl, rfl, rfl, (Or.inr ⟨⟨c1, c2⟩, d_, hd_, rfl, Or.inr ⟨by grind, Or.inr ⟨by grind, b_, 4, by omega, by decide, eb_, eq9, (by first | exact (if_pos (by grind)).symm | exact (if_neg (by grind)).symm)⟩⟩⟩)⟩)
                · refine xr_iload_n dX10_taken_63 0 rfl ?_
                  refine xr_if_le (tgt := 75) dX10_taken_64 rfl (fun _ => ?_) (fun c => absurd (by decide) c)
                  refine xr_iload_n dX10_taken_75 0 rfl ?_
                  refine xr_iload_n dX10_taken_76 3 rfl ?_
                  refine xr_icmp_ne (tgt := 93) dX10_taken_77 rfl (fun c31 => ?_) (fun c31 => ?_)
                  · refine xr_bipush (v := -12) dX10_taken_93 rfl ?_
                    exact xr_iret dX10_taken_95 rfl rfl (⟨_, rfl, rfl, rfl, rfl, (Or.inr ⟨⟨c1, c2⟩, d_, hd_, rfl, Or.inr ⟨by grind, Or.inr ⟨by grind, b_, 4, by omega, by decide, eb_, eq9, (by first | exact (if_pos (by grind)).symm | exact (if_neg (by grind)).symm)⟩⟩⟩)⟩)
                  · refine xr_aload_n dX10_taken_80 1 rfl ?_
                    refine xr_aload_n dX10_taken_81 1 rfl ?_
                    refine xr_getR flX10_75 dX10_taken_82 s_62 rfl ?_
                    refine xr_iload_n dX10_taken_85 2 rfl ?_
                    refine xb_iald (j := d_) (v := nI (b_)) dX10_taken_86 s_83 hd_ (by decide) eb_ ?_
                    refine xb_cV (As := [.int (nI (b_))]) (rest := []) mlX10_371 (c_X10_kindOf (b := b_) (by omega) eq9) dX10_taken_87 s_62 rfl rfl (Nat.le_of_ble_eq_true rfl) (by decide) (by decide) ?_
                    refine xr_goto (tgt := 95) dX10_taken_90 rfl ?_
                    exact xr_iret dX10_taken_95 rfl rfl (⟨_, rfl, rfl, rfl, rfl, (Or.inr ⟨⟨c1, c2⟩, d_, hd_, rfl, Or.inr ⟨by grind, Or.inr ⟨by grind, b_, 4, by omega, by decide, eb_, eq9, (by first | exact (if_pos (by grind)).symm | exact (if_neg (by grind)).symm)⟩⟩⟩)⟩)
          · refine xr_aload_n dX10_taken_47 0 rfl ?_
            refine xr_aload_n dX10_taken_48 0 rfl ?_
            refine xr_getR flX10_75 dX10_taken_49 s_62 rfl ?_
            refine xr_iload_n dX10_taken_52 1 rfl ?_
            refine xb_iald (j := d_) (v := nI (b_)) dX10_taken_53 s_83 hd_ (by decide) eb_ ?_
            refine xb_cV (As := [.int (nI (b_))]) (rest := []) mlX10_371 (c_X10_kindOf (b := b_) (by omega) eq9) dX10_taken_54 s_62 rfl rfl (Nat.le_of_ble_eq_true rfl) (by decide) (by decide) ?_
            refine xr_istore_n (ls2 := [(3, .int (5)), (0, .ref (62)), (1, .int (nI (d_))), (2, .int (k))]) dX10_taken_57 (by decide) rfl ?_
            refine xr_iload_n dX10_taken_58 0 rfl ?_
            refine xr_iload_n dX10_taken_59 3 rfl ?_
            refine xr_icmp_eq (tgt := 75) dX10_taken_60 rfl (fun c32 => ?_) (fun c32 => ?_)
            · refine xr_iload_n dX10_taken_75 0 rfl ?_
              refine xr_iload_n dX10_taken_76 3 rfl ?_
              refine xr_icmp_ne (tgt := 93) dX10_taken_77 rfl (fun c33 => ?_) (fun c33 => ?_)
              · refine xr_bipush (v := -12) dX10_taken_93 rfl ?_
                exact xr_iret dX10_taken_95 rfl rfl (⟨_, rfl, rfl, rfl, rfl, (Or.inr ⟨⟨c1, c2⟩, d_, hd_, rfl, Or.inr ⟨by grind, Or.inr ⟨by grind, b_, 5, by omega, by decide, eb_, eq9, (by first | exact (if_pos (by grind)).symm | exact (if_neg (by grind)).symm)⟩⟩⟩)⟩)
              · refine xr_aload_n dX10_taken_80 1 rfl ?_
                refine xr_aload_n dX10_taken_81 1 rfl ?_
                refine xr_getR flX10_75 dX10_taken_82 s_62 rfl ?_
                refine xr_iload_n dX10_taken_85 2 rfl ?_
                refine xb_iald (j := d_) (v := nI (b_)) dX10_taken_86 s_83 hd_ (by decide) eb_ ?_
                refine xb_cV (As := [.int (nI (b_))]) (rest := []) mlX10_371 (c_X10_kindOf (b := b_) (by omega) eq9) dX10_taken_87 s_62 rfl rfl (Nat.le_of_ble_eq_true rfl) (by decide) (by decide) ?_
                refine xr_goto (tgt := 95) dX10_taken_90 rfl ?_
                exact xr_iret dX10_taken_95 rfl rfl (⟨_, rfl, rfl, rfl, rfl, (Or.inr ⟨⟨c1, c2⟩, d_, hd_, rfl, Or.inr ⟨by grind, Or.inr ⟨by grind, b_, 5, by omega, by decide, eb_, eq9, (by first | exact (if_pos (by grind)).symm | exact (if_neg (by grind)).symm)⟩⟩⟩)⟩)
            · refine xr_iload_n dX10_taken_63 0 rfl ?_
              refine xr_if_le (tgt := 75) dX10_taken_64 rfl (fun c => absurd c (by decide)) (fun _ => ?_)
              refine xr_iload_n dX10_taken_67 0 rfl ?_
              refine xb_cS (As := [.int (5)]) (rest := []) mlX10_374 (c_X10_above_5) dX10_taken_68 rfl rfl (Nat.le_of_ble_eq_true rfl) (by decide) (by decide) ?_
              refine xr_istore_n (ls2 := [(3, .int (3)), (0, .ref (62)), (1, .int (nI (d_))), (2, .int (k))]) dX10_taken_71 (by decide) rfl ?_
              refine xr_goto (tgt := 58) dX10_taken_72 rfl ?_
              refine xr_iload_n dX10_taken_58 0 rfl ?_
              refine xr_iload_n dX10_taken_59 3 rfl ?_
              refine xr_icmp_eq (tgt := 75) dX10_taken_60 rfl (fun c34 => ?_) (fun c34 => ?_)
              · refine xr_iload_n dX10_taken_75 0 rfl ?_
                refine xr_iload_n dX10_taken_76 3 rfl ?_
                refine xr_icmp_ne (tgt := 93) dX10_taken_77 rfl (fun c35 => ?_) (fun c35 => ?_)
                · refine xr_bipush (v := -12) dX10_taken_93 rfl ?_
                  exact xr_iret dX10_taken_95 rfl rfl (⟨_, rfl, rfl, rfl, rfl, (Or.inr ⟨⟨c1, c2⟩, d_, hd_, rfl, Or.inr ⟨by grind, Or.inr ⟨by grind, b_, 5, by omega, by decide, eb_, eq9, (by first | exact (if_pos (by grind)).symm | exact (if_neg (by grind)).symm)⟩⟩⟩)⟩)
                · refine xr_aload_n dX10_taken_80 1 rfl ?_
                  refine xr_aload_n dX10_taken_81 1 rfl ?_
                  refine xr_getR flX10_75 dX10_taken_82 s_62 rfl ?_
                  refine xr_iload_n dX10_taken_85 2 rfl ?_
                  refine xb_iald (j := d_) (v := nI (b_)) dX10_taken_86 s_83 hd_ (by decide) eb_ ?_
                  refine xb_cV (As := [.int (nI (b_))]) (rest := []) mlX10_371 (c_X10_kindOf (b := b_) (by omega) eq9) dX10_taken_87 s_62 rfl rfl (Nat.le_of_ble_eq_true rfl) (by decide) (by decide) ?_
                  refine xr_goto (tgt := 95) dX10_taken_90 rfl ?_
                  exact xr_iret dX10_taken_95 rfl rfl (⟨_, rfl, rfl, rfl, rfl, (Or.inr ⟨⟨c1, c2⟩, d_, hd_, rfl, Or.inr ⟨by grind, Or.inr ⟨by grind, b_, 5, by omega, by decide, eb_, eq9, (by first | exact (if_pos (by grind)).symm | exact (if_neg (by grind)).symm)⟩⟩⟩)⟩)
              · refine xr_iload_n dX10_taken_63 0 rfl ?_
                refine xr_if_le (tgt := 75) dX10_taken_64 rfl (fun c => absurd c (by decide)) (fun _ => ?_)
                refine xr_iload_n dX10_taken_67 0 rfl ?_
                refine xb_cS (As := [.int (3)]) (rest := []) mlX10_374 (c_X10_above_3) dX10_taken_68 rfl rfl (Nat.le_of_ble_eq_true rfl) (by decide) (by decide) ?_
                refine xr_istore_n (ls2 := [(3, .int (2)), (0, .ref (62)), (1, .int (nI (d_))), (2, .int (k))]) dX10_taken_71 (by decide) rfl ?_
                refine xr_goto (tgt := 58) dX10_taken_72 rfl ?_
                refine xr_iload_n dX10_taken_58 0 rfl ?_
                refine xr_iload_n dX10_taken_59 3 rfl ?_
                refine xr_icmp_eq (tgt := 75) dX10_taken_60 rfl (fun c36 => ?_) (fun c36 => ?_)
                · refine xr_iload_n dX10_taken_75 0 rfl ?_
                  refine xr_iload_n dX10_taken_76 3 rfl ?_
                  refine xr_icmp_ne (tgt := 93) dX10_taken_77 rfl (fun c37 => ?_) (fun c37 => ?_)
                  · refine xr_bipush (v := -12) dX10_taken_93 rfl ?_
                    exact xr_iret dX10_taken_95 rfl rfl (⟨_, rfl, rfl, rfl, rfl, (Or.inr ⟨⟨c1, c2⟩, d_, hd_, rfl, Or.inr ⟨by grind, Or.inr ⟨by grind, b_, 5, by omega, by decide, eb_, eq9, (by first | exact (if_pos (by grind)).symm | exact (if_neg (by grind)).symm)⟩⟩⟩)⟩)
                  · refine xr_aload_n dX10_taken_80 1 rfl ?_
                    refine xr_aload_n dX10_taken_81 1 rfl ?_
                    refine xr_getR flX10_75 dX10_taken_82 s_62 rfl ?_
                    refine xr_iload_n dX10_taken_85 2 rfl ?_
                    refine xb_iald (j := d_) (v := nI (b_)) dX10_taken_86 s_83 hd_ (by decide) eb_ ?_
                    refine xb_cV (As := [.int (nI (b_))]) (rest := []) mlX10_371 (c_X10_kindOf (b := b_) (by omega) eq9) dX10_taken_87 s_62 rfl rfl (Nat.le_of_ble_eq_true rfl) (by decide) (by decide) ?_
                    refine xr_goto (tgt := 95) dX10_taken_90 rfl ?_
                    exact xr_iret dX10_taken_95 rfl rfl (⟨_, rfl, rfl, rfl, rfl, (Or.inr ⟨⟨c1, c2⟩, d_, hd_, rfl, Or.inr ⟨by grind, Or.inr ⟨by grind, b_, 5, by omega, by decide, eb_, eq9, (by first | exact (if_pos (by grind)).symm | exact (if_neg (by grind)).symm)⟩⟩⟩)⟩)
                · refine xr_iload_n dX10_taken_63 0 rfl ?_
                  refine xr_if_le (tgt := 75) dX10_taken_64 rfl (fun c => absurd c (by decide)) (fun _ => ?_)
                  refine xr_iload_n dX10_taken_67 0 rfl ?_
                  refine xb_cS (As := [.int (2)]) (rest := []) mlX10_374 (c_X10_above_2) dX10_taken_68 rfl rfl (Nat.le_of_ble_eq_true rfl) (by decide) (by decide) ?_
                  refine xr_istore_n (ls2 := [(3, .int (0)), (0, .ref (62)), (1, .int (nI (d_))), (2, .int (k))]) dX10_taken_71 (by decide) rfl ?_
                  refine xr_goto (tgt := 58) dX10_taken_72 rfl ?_
                  refine xr_iload_n dX10_taken_58 0 rfl ?_
                  refine xr_iload_n dX10_taken_59 3 rfl ?_
                  refine xr_icmp_eq (tgt := 75) dX10_taken_60 rfl (fun c38 => ?_) (fun c38 => ?_)
                  · refine xr_iload_n dX10_taken_75 0 rfl ?_
                    refine xr_iload_n dX10_taken_76 3 rfl ?_
                    refine xr_icmp_ne (tgt := 93) dX10_taken_77 rfl (fun c39 => ?_) (fun c39 => ?_)
                    · refine xr_bipush (v := -12) dX10_taken_93 rfl ?_
                      exact xr_iret dX10_taken_95 rfl rfl (⟨_, rfl, rfl, rfl, rfl, (Or.inr ⟨⟨c1, c2⟩, d_, hd_, rfl, Or.inr ⟨by grind, Or.inr ⟨by grind, b_, 5, by omega, by decide, eb_, eq9, (by first | exact (if_pos (by grind)).symm | exact (if_neg (by grind)).symm)⟩⟩⟩)⟩)
                    · refine xr_aload_n dX10_taken_80 1 rfl ?_
                      refine xr_aload_n dX10_taken_81 1 rfl ?_
                      refine xr_getR flX10_75 dX10_taken_82 s_62 rfl ?_
                      refine xr_iload_n dX10_taken_85 2 rfl ?_
                      refine xb_iald (j := d_) (v := nI (b_)) dX10_taken_86 s_83 hd_ (by decide) eb_ ?_
                      refine xb_cV (As := [.int (nI (b_))]) (rest := []) mlX10_371 (c_X10_kindOf (b := b_) (by omega) eq9) dX10_taken_87 s_62 rfl rfl (Nat.le_of_ble_eq_true rfl) (by decide) (by decide) ?_
                      refine xr_goto (tgt := 95) dX10_taken_90 rfl ?_
                      exact xr_iret dX10_taken_95 rfl rfl (⟨_, rfl, rfl, rfl, rfl, (Or.inr ⟨⟨c1, c2⟩, d_, hd_, rfl, Or.inr ⟨by grind, Or.inr ⟨by grind, b_, 5, by omega, by decide, eb_, eq9, (by first | exact (if_pos (by grind)).symm | exact (if_neg (by grind)).symm)⟩⟩⟩)⟩)
                  · refine xr_iload_n dX10_taken_63 0 rfl ?_
                    refine xr_if_le (tgt := 75) dX10_taken_64 rfl (fun _ => ?_) (fun c => absurd (by decide) c)
                    refine xr_iload_n dX10_taken_75 0 rfl ?_
                    refine xr_iload_n dX10_taken_76 3 rfl ?_
                    refine xr_icmp_ne (tgt := 93) dX10_taken_77 rfl (fun c40 => ?_) (fun c40 => ?_)
                    · refine xr_bipush (v := -12) dX10_taken_93 rfl ?_
                      exact xr_iret dX10_taken_95 rfl rfl (⟨_, rfl, rfl, rfl, rfl, (Or.inr ⟨⟨c1, c2⟩, d_, hd_, rfl, Or.inr ⟨by grind, Or.inr ⟨by grind, b_, 5, by omega, by decide, eb_, eq9, (by first | exact (if_pos (by grind)).symm | exact (if_neg (by grind)).symm)⟩⟩⟩)⟩)
                    · refine xr_aload_n dX10_taken_80 1 rfl ?_
                      refine xr_aload_n dX10_taken_81 1 rfl ?_
                      refine xr_getR flX10_75 dX10_taken_82 s_62 rfl ?_
                      refine xr_iload_n dX10_taken_85 2 rfl ?_
                      refine xb_iald (j := d_) (v := nI (b_)) dX10_taken_86 s_83 hd_ (by decide) eb_ ?_
                      refine xb_cV (As := [.int (nI (b_))]) (rest := []) mlX10_371 (c_X10_kindOf (b := b_) (by omega) eq9) dX10_taken_87 s_62 rfl rfl (Nat.le_of_ble_eq_true rfl) (by decide) (by decide) ?_
                      refine xr_goto (tgt := 95) dX10_taken_90 rfl ?_
                      exact xr_iret dX10_taken_95 rfl rfl (⟨_, rfl, rfl, rfl, rfl, (Or.inr ⟨⟨c1, c2⟩, d_, hd_, rfl, Or.inr ⟨by grind, Or.inr ⟨by grind, b_, 5, by omega, by decide, eb_, eq9, (by first | exact (if_pos (by grind)).symm | exact (if_neg (by grind)).symm)⟩⟩⟩)⟩)
          · refine xr_aload_n dX10_taken_47 0 rfl ?_
            refine xr_aload_n dX10_taken_48 0 rfl ?_
            refine xr_getR flX10_75 dX10_taken_49 s_62 rfl ?_
            refine xr_iload_n dX10_taken_52 1 rfl ?_
            refine xb_iald (j := d_) (v := nI (b_)) dX10_taken_53 s_83 hd_ (by decide) eb_ ?_
            refine xb_cV (As := [.int (nI (b_))]) (rest := []) mlX10_371 (c_X10_kindOf (b := b_) (by omega) eq9) dX10_taken_54 s_62 rfl rfl (Nat.le_of_ble_eq_true rfl) (by decide) (by decide) ?_
            refine xr_istore_n (ls2 := [(3, .int (6)), (0, .ref (62)), (1, .int (nI (d_))), (2, .int (k))]) dX10_taken_57 (by decide) rfl ?_
            refine xr_iload_n dX10_taken_58 0 rfl ?_
            refine xr_iload_n dX10_taken_59 3 rfl ?_
            refine xr_icmp_eq (tgt := 75) dX10_taken_60 rfl (fun c41 => ?_) (fun c41 => ?_)
            · refine xr_iload_n dX10_taken_75 0 rfl ?_
              refine xr_iload_n dX10_taken_76 3 rfl ?_
              refine xr_icmp_ne (tgt := 93) dX10_taken_77 rfl (fun c42 => ?_) (fun c42 => ?_)
              · refine xr_bipush (v := -12) dX10_taken_93 rfl ?_
                exact xr_iret dX10_taken_95 rfl rfl (⟨_, rfl, rfl, rfl, rfl, (Or.inr ⟨⟨c1, c2⟩, d_, hd_, rfl, Or.inr ⟨by grind, Or.inr ⟨by grind, b_, 6, by omega, by decide, eb_, eq9, (by first | exact (if_pos (by grind)).symm | exact (if_neg (by grind)).symm)⟩⟩⟩)⟩)
              · refine xr_aload_n dX10_taken_80 1 rfl ?_
                refine xr_aload_n dX10_taken_81 1 rfl ?_
                refine xr_getR flX10_75 dX10_taken_82 s_62 rfl ?_
                refine xr_iload_n dX10_taken_85 2 rfl ?_
                refine xb_iald (j := d_) (v := nI (b_)) dX10_taken_86 s_83 hd_ (by decide) eb_ ?_
                refine xb_cV (As := [.int (nI (b_))]) (rest := []) mlX10_371 (c_X10_kindOf (b := b_) (by omega) eq9) dX10_taken_87 s_62 rfl rfl (Nat.le_of_ble_eq_true rfl) (by decide) (by decide) ?_
                refine xr_goto (tgt := 95) dX10_taken_90 rfl ?_
                exact xr_iret dX10_taken_95 rfl rfl (⟨_, rfl, rfl, rfl, rfl, (Or.inr ⟨⟨c1, c2⟩, d_, hd_, rfl, Or.inr ⟨by grind, Or.inr ⟨by grind, b_, 6, by omega, by decide, eb_, eq9, (by first | exact (if_pos (by grind)).symm | exact (if_neg (by grind)).symm)⟩⟩⟩)⟩)
            · refine xr_iload_n dX10_taken_63 0 rfl ?_
              refine xr_if_le (tgt := 75) dX10_taken_64 rfl (fun c => absurd c (by decide)) (fun _ => ?_)
              refine xr_iload_n dX10_taken_67 0 rfl ?_
              refine xb_cS (As := [.int (6)]) (rest := []) mlX10_374 (c_X10_above_6) dX10_taken_68 rfl rfl (Nat.le_of_ble_eq_true rfl) (by decide) (by decide) ?_
              refine xr_istore_n (ls2 := [(3, .int (0)), (0, .ref (62)), (1, .int (nI (d_))), (2, .int (k))]) dX10_taken_71 (by decide) rfl ?_
              refine xr_goto (tgt := 58) dX10_taken_72 rfl ?_
              refine xr_iload_n dX10_taken_58 0 rfl ?_
              refine xr_iload_n dX10_taken_59 3 rfl ?_
              refine xr_icmp_eq (tgt := 75) dX10_taken_60 rfl (fun c43 => ?_) (fun c43 => ?_)
              · refine xr_iload_n dX10_taken_75 0 rfl ?_
                refine xr_iload_n dX10_taken_76 3 rfl ?_
                refine xr_icmp_ne (tgt := 93) dX10_taken_77 rfl (fun c44 => ?_) (fun c44 => ?_)
                · refine xr_bipush (v := -12) dX10_taken_93 rfl ?_
                  exact xr_iret dX10_taken_95 rfl rfl (⟨_, rfl, rfl, rfl, rfl, (Or.inr ⟨⟨c1, c2⟩, d_, hd_, rfl, Or.inr ⟨by grind, Or.inr ⟨by grind, b_, 6, by omega, by decide, eb_, eq9, (by first | exact (if_pos (by grind)).symm | exact (if_neg (by grind)).symm)⟩⟩⟩)⟩)
                · refine xr_aload_n dX10_taken_80 1 rfl ?_
                  refine xr_aload_n dX10_taken_81 1 rfl ?_
                  refine xr_getR flX10_75 dX10_taken_82 s_62 rfl ?_
                  refine xr_iload_n dX10_taken_85 2 rfl ?_
                  refine xb_iald (j := d_) (v := nI (b_)) dX10_taken_86 s_83 hd_ (by decide) eb_ ?_
                  refine xb_cV (As := [.int (nI (b_))]) (rest := []) mlX10_371 (c_X10_kindOf (b := b_) (by omega) eq9) dX10_taken_87 s_62 rfl rfl (Nat.le_of_ble_eq_true rfl) (by decide) (by decide) ?_
                  refine xr_goto (tgt := 95) dX10_taken_90 rfl ?_
                  exact xr_iret dX10_taken_95 rfl rfl (⟨_, rfl, rfl, rfl, rfl, (Or.inr ⟨⟨c1, c2⟩, d_, hd_, rfl, Or.inr ⟨by grind, Or.inr ⟨by grind, b_, 6, by omega, by decide, eb_, eq9, (by first | exact (if_pos (by grind)).symm | exact (if_neg (by grind)).symm)⟩⟩⟩)⟩)
              · refine xr_iload_n dX10_taken_63 0 rfl ?_
                refine xr_if_le (tgt := 75) dX10_taken_64 rfl (fun _ => ?_) (fun c => absurd (by decide) c)
                refine xr_iload_n dX10_taken_75 0 rfl ?_
                refine xr_iload_n dX10_taken_76 3 rfl ?_
                refine xr_icmp_ne (tgt := 93) dX10_taken_77 rfl (fun c45 => ?_) (fun c45 => ?_)
                · refine xr_bipush (v := -12) dX10_taken_93 rfl ?_
                  exact xr_iret dX10_taken_95 rfl rfl (⟨_, rfl, rfl, rfl, rfl, (Or.inr ⟨⟨c1, c2⟩, d_, hd_, rfl, Or.inr ⟨by grind, Or.inr ⟨by grind, b_, 6, by omega, by decide, eb_, eq9, (by first | exact (if_pos (by grind)).symm | exact (if_neg (by grind)).symm)⟩⟩⟩)⟩)
                · refine xr_aload_n dX10_taken_80 1 rfl ?_
                  refine xr_aload_n dX10_taken_81 1 rfl ?_
                  refine xr_getR flX10_75 dX10_taken_82 s_62 rfl ?_
                  refine xr_iload_n dX10_taken_85 2 rfl ?_
                  refine xb_iald (j := d_) (v := nI (b_)) dX10_taken_86 s_83 hd_ (by decide) eb_ ?_
                  refine xb_cV (As := [.int (nI (b_))]) (rest := []) mlX10_371 (c_X10_kindOf (b := b_) (by omega) eq9) dX10_taken_87 s_62 rfl rfl (Nat.le_of_ble_eq_true rfl) (by decide) (by decide) ?_
                  refine xr_goto (tgt := 95) dX10_taken_90 rfl ?_
                  exact xr_iret dX10_taken_95 rfl rfl (⟨_, rfl, rfl, rfl, rfl, (Or.inr ⟨⟨c1, c2⟩, d_, hd_, rfl, Or.inr ⟨by grind, Or.inr ⟨by grind, b_, 6, by omega, by decide, eb_, eq9, (by first | exact (if_pos (by grind)).symm | exact (if_neg (by grind)).symm)⟩⟩⟩)⟩)
          · refine xr_aload_n dX10_taken_47 0 rfl ?_
            refine xr_aload_n dX10_taken_48 0 rfl ?_
            refine xr_getR flX10_75 dX10_taken_49 s_62 rfl ?_
            refine xr_iload_n dX10_taken_52 1 rfl ?_
            refine xb_iald (j := d_) (v := nI (b_)) dX10_taken_53 s_83 hd_ (by decide) eb_ ?_
            refine xb_cV (As := [.int (nI (b_))]) (rest := []) mlX10_371 (c_X10_kindOf (b := b_) (by omega) eq9) dX10_taken_54 s_62 rfl rfl (Nat.le_of_ble_eq_true rfl) (by decide) (by decide) ?_
            refine xr_istore_n (ls2 := [(3, .int (7)), (0, .ref (62)), (1, .int (nI (d_))), (2, .int (k))]) dX10_taken_57 (by decide) rfl ?_
            refine xr_iload_n dX10_taken_58 0 rfl ?_
            refine xr_iload_n dX10_taken_59 3 rfl ?_
            refine xr_icmp_eq (tgt := 75) dX10_taken_60 rfl (fun c46 => ?_) (fun c46 => ?_)
            · refine xr_iload_n dX10_taken_75 0 rfl ?_
              refine xr_iload_n dX10_taken_76 3 rfl ?_
              refine xr_icmp_ne (tgt := 93) dX10_taken_77 rfl (fun c47 => ?_) (fun c47 => ?_)
              · refine xr_bipush (v := -12) dX10_taken_93 rfl ?_
                exact xr_iret dX10_taken_95 rfl rfl (⟨_, rfl, rfl, rfl, rfl, (Or.inr ⟨⟨c1, c2⟩, d_, hd_, rfl, Or.inr ⟨by grind, Or.inr ⟨by grind, b_, 7, by omega, by decide, eb_, eq9, (by first | exact (if_pos (by grind)).symm | exact (if_neg (by grind)).symm)⟩⟩⟩)⟩)
              · refine xr_aload_n dX10_taken_80 1 rfl ?_
                refine xr_aload_n dX10_taken_81 1 rfl ?_
                refine xr_getR flX10_75 dX10_taken_82 s_62 rfl ?_
                refine xr_iload_n dX10_taken_85 2 rfl ?_
                refine xb_iald (j := d_) (v := nI (b_)) dX10_taken_86 s_83 hd_ (by decide) eb_ ?_
                refine xb_cV (As := [.int (nI (b_))]) (rest := []) mlX10_371 (c_X10_kindOf (b := b_) (by omega) eq9) dX10_taken_87 s_62 rfl rfl (Nat.le_of_ble_eq_true rfl) (by decide) (by decide) ?_
                refine xr_goto (tgt := 95) dX10_taken_90 rfl ?_
                exact xr_iret dX10_taken_95 rfl rfl (⟨_, rfl, rfl, rfl, rfl, (Or.inr ⟨⟨c1, c2⟩, d_, hd_, rfl, Or.inr ⟨by grind, Or.inr ⟨by grind, b_, 7, by omega, by decide, eb_, eq9, (by first | exact (if_pos (by grind)).symm | exact (if_neg (by grind)).symm)⟩⟩⟩)⟩)
            · refine xr_iload_n dX10_taken_63 0 rfl ?_
              refine xr_if_le (tgt := 75) dX10_taken_64 rfl (fun c => absurd c (by decide)) (fun _ => ?_)
              refine xr_iload_n dX10_taken_67 0 rfl ?_
              refine xb_cS (As := [.int (7)]) (rest := []) mlX10_374 (c_X10_above_7) dX10_taken_68 rfl rfl (Nat.le_of_ble_eq_true rfl) (by decide) (by decide) ?_
              refine xr_istore_n (ls2 := [(3, .int (4)), (0, .ref (62)), (1, .int (nI (d_))), (2, .int (k))]) dX10_taken_71 (by decide) rfl ?_
              refine xr_goto (tgt := 58) dX10_taken_72 rfl ?_
              refine xr_iload_n dX10_taken_58 0 rfl ?_
              refine xr_iload_n dX10_taken_59 3 rfl ?_
              refine xr_icmp_eq (tgt := 75) dX10_taken_60 rfl (fun c48 => ?_) (fun c48 => ?_)
              · refine xr_iload_n dX10_taken_75 0 rfl ?_
                refine xr_iload_n dX10_taken_76 3 rfl ?_
                refine xr_icmp_ne (tgt := 93) dX10_taken_77 rfl (fun c49 => ?_) (fun c49 => ?_)
                · refine xr_bipush (v := -12) dX10_taken_93 rfl ?_
                  exact xr_iret dX10_taken_95 rfl rfl (⟨_, rfl, rfl, rfl, rfl, (Or.inr ⟨⟨c1, c2⟩, d_, hd_, rfl, Or.inr ⟨by grind, Or.inr ⟨by grind, b_, 7, by omega, by decide, eb_, eq9, (by first | exact (if_pos (by grind)).symm | exact (if_neg (by grind)).symm)⟩⟩⟩)⟩)
                · refine xr_aload_n dX10_taken_80 1 rfl ?_
                  refine xr_aload_n dX10_taken_81 1 rfl ?_
                  refine xr_getR flX10_75 dX10_taken_82 s_62 rfl ?_
                  refine xr_iload_n dX10_taken_85 2 rfl ?_
                  refine xb_iald (j := d_) (v := nI (b_)) dX10_taken_86 s_83 hd_ (by decide) eb_ ?_
                  refine xb_cV (As := [.int (nI (b_))]) (rest := []) mlX10_371 (c_X10_kindOf (b := b_) (by omega) eq9) dX10_taken_87 s_62 rfl rfl (Nat.le_of_ble_eq_true rfl) (by decide) (by decide) ?_
                  refine xr_goto (tgt := 95) dX10_taken_90 rfl ?_
                  exact xr_iret dX10_taken_95 rfl rfl (⟨_, rfl, rfl, rfl, rfl, (Or.inr ⟨⟨c1, c2⟩, d_, hd_, rfl, Or.inr ⟨by grind, Or.inr ⟨by grind, b_, 7, by omega, by decide, eb_, eq9, (by first | exact (if_pos (by grind)).symm | exact (if_neg (by grind)).symm)⟩⟩⟩)⟩)
              · refine xr_iload_n dX10_taken_63 0 rfl ?_
                refine xr_if_le (tgt := 75) dX10_taken_64 rfl (fun c => absurd c (by decide)) (fun _ => ?_)
                refine xr_iload_n dX10_taken_67 0 rfl ?_
                refine xb_cS (As := [.int (4)]) (rest := []) mlX10_374 (c_X10_above_4) dX10_taken_68 rfl rfl (Nat.le_of_ble_eq_true rfl) (by decide) (by decide) ?_
                refine xr_istore_n (ls2 := [(3, .int (1)), (0, .ref (62)), (1, .int (nI (d_))), (2, .int (k))]) dX10_taken_71 (by decide) rfl ?_
                refine xr_goto (tgt := 58) dX10_taken_72 rfl ?_
                refine xr_iload_n dX10_taken_58 0 rfl ?_
                refine xr_iload_n dX10_taken_59 3 rfl ?_
                refine xr_icmp_eq (tgt := 75) dX10_taken_60 rfl (fun c50 => ?_) (fun c50 => ?_)
                · refine xr_iload_n dX10_taken_75 0 rfl ?_
                  refine xr_iload_n dX10_taken_76 3 rfl ?_
                  refine xr_icmp_ne (tgt := 93) dX10_taken_77 rfl (fun c51 => ?_) (fun c51 => ?_)
                  · refine xr_bipush (v := -12) dX10_taken_93 rfl ?_
                    exact xr_iret dX10_taken_95 rfl rfl (⟨_, rfl, rfl, rfl, rfl, (Or.inr ⟨⟨c1, c2⟩, d_, hd_, rfl, Or.inr ⟨by grind, Or.inr ⟨by grind, b_, 7, by omega, by decide, eb_, eq9, (by first | exact (if_pos (by grind)).symm | exact (if_neg (by grind)).symm)⟩⟩⟩)⟩)
                  · refine xr_aload_n dX10_taken_80 1 rfl ?_
                    refine xr_aload_n dX10_taken_81 1 rfl ?_
                    refine xr_getR flX10_75 dX10_taken_82 s_62 rfl ?_
                    refine xr_iload_n dX10_taken_85 2 rfl ?_
                    refine xb_iald (j := d_) (v := nI (b_)) dX10_taken_86 s_83 hd_ (by decide) eb_ ?_
                    refine xb_cV (As := [.int (nI (b_))]) (rest := []) mlX10_371 (c_X10_kindOf (b := b_) (by omega) eq9) dX10_taken_87 s_62 rfl rfl (Nat.le_of_ble_eq_true rfl) (by decide) (by decide) ?_
                    refine xr_goto (tgt := 95) dX10_taken_90 rfl ?_
                    exact xr_iret dX10_taken_95 rfl rfl (⟨_, rfl, rfl, rfl, rfl, (Or.inr ⟨⟨c1, c2⟩, d_, hd_, rfl, Or.inr ⟨by grind, Or.inr ⟨by grind, b_, 7, by omega, by decide, eb_, eq9, (by first | exact (if_pos (by grind)).symm | exact (if_neg (by grind)).symm)⟩⟩⟩)⟩)
                · refine xr_iload_n dX10_taken_63 0 rfl ?_
                  refine xr_if_le (tgt := 75) dX10_taken_64 rfl (fun c => absurd c (by decide)) (fun _ => ?_)
                  refine xr_iload_n dX10_taken_67 0 rfl ?_
                  refine xb_cS (As := [.int (1)]) (rest := []) mlX10_374 (c_X10_above_1) dX10_taken_68 rfl rfl (Nat.le_of_ble_eq_true rfl) (by decide) (by decide) ?_
                  refine xr_istore_n (ls2 := [(3, .int (0)), (0, .ref (62)), (1, .int (nI (d_))), (2, .int (k))]) dX10_taken_71 (by decide) rfl ?_
                  refine xr_goto (tgt := 58) dX10_taken_72 rfl ?_
                  refine xr_iload_n dX10_taken_58 0 rfl ?_
                  refine xr_iload_n dX10_taken_59 3 rfl ?_
                  refine xr_icmp_eq (tgt := 75) dX10_taken_60 rfl (fun c52 => ?_) (fun c52 => ?_)
                  · refine xr_iload_n dX10_taken_75 0 rfl ?_
                    refine xr_iload_n dX10_taken_76 3 rfl ?_
                    refine xr_icmp_ne (tgt := 93) dX10_taken_77 rfl (fun c53 => ?_) (fun c53 => ?_)
                    · refine xr_bipush (v := -12) dX10_taken_93 rfl ?_
                      exact xr_iret dX10_taken_95 rfl rfl (⟨_, rfl, rfl, rfl, rfl, (Or.inr ⟨⟨c1, c2⟩, d_, hd_, rfl, Or.inr ⟨by grind, Or.inr ⟨by grind, b_, 7, by omega, by decide, eb_, eq9, (by first | exact (if_pos (by grind)).symm | exact (if_neg (by grind)).symm)⟩⟩⟩)⟩)
                    · refine xr_aload_n dX10_taken_80 1 rfl ?_
                      refine xr_aload_n dX10_taken_81 1 rfl ?_
                      refine xr_getR flX10_75 dX10_taken_82 s_62 rfl ?_
                      refine xr_iload_n dX10_taken_85 2 rfl ?_
                      refine xb_iald (j := d_) (v := nI (b_)) dX10_taken_86 s_83 hd_ (by decide) eb_ ?_
                      refine xb_cV (As := [.int (nI (b_))]) (rest := []) mlX10_371 (c_X10_kindOf (b := b_) (by omega) eq9) dX10_taken_87 s_62 rfl rfl (Nat.le_of_ble_eq_true rfl) (by decide) (by decide) ?_
                      refine xr_goto (tgt := 95) dX10_taken_90 rfl ?_
                      exact xr_iret dX10_taken_95 rfl rfl (⟨_, rfl, rfl, rfl, rfl, (Or.inr ⟨⟨c1, c2⟩, d_, hd_, rfl, Or.inr ⟨by grind, Or.inr ⟨by grind, b_, 7, by omega, by decide, eb_, eq9, (by first | exact (if_pos (by grind)).symm | exact (if_neg (by grind)).symm)⟩⟩⟩)⟩)
                  · refine xr_iload_n dX10_taken_63 0 rfl ?_
                    refine xr_if_le (tgt := 75) dX10_taken_64 rfl (fun _ => ?_) (fun c => absurd (by decide) c)
                    refine xr_iload_n dX10_taken_75 0 rfl ?_
                    refine xr_iload_n dX10_taken_76 3 rfl ?_
                    refine xr_icmp_ne (tgt := 93) dX10_taken_77 rfl (fun c54 => ?_) (fun c54 => ?_)
                    · refine xr_bipush (v := -12) dX10_taken_93 rfl ?_
                      exact xr_iret dX10_taken_95 rfl rfl (⟨_, rfl, rfl, rfl, rfl, (Or.inr ⟨⟨c1, c2⟩, d_, hd_, rfl, Or.inr ⟨by grind, Or.inr ⟨by grind, b_, 7, by omega, by decide, eb_, eq9, (by first | exact (if_pos (by grind)).symm | exact (if_neg (by grind)).symm)⟩⟩⟩)⟩)
                    · refine xr_aload_n dX10_taken_80 1 rfl ?_
                      refine xr_aload_n dX10_taken_81 1 rfl ?_
                      refine xr_getR flX10_75 dX10_taken_82 s_62 rfl ?_
                      refine xr_iload_n dX10_taken_85 2 rfl ?_
                      refine xb_iald (j := d_) (v := nI (b_)) dX10_taken_86 s_83 hd_ (by decide) eb_ ?_
                      refine xb_cV (As := [.int (nI (b_))]) (rest := []) mlX10_371 (c_X10_kindOf (b := b_) (by omega) eq9) dX10_taken_87 s_62 rfl rfl (Nat.le_of_ble_eq_true rfl) (by decide) (by decide) ?_
                      refine xr_goto (tgt := 95) dX10_taken_90 rfl ?_
                      exact xr_iret dX10_taken_95 rfl rfl (⟨_, rfl, rfl, rfl, rfl, (Or.inr ⟨⟨c1, c2⟩, d_, hd_, rfl, Or.inr ⟨by grind, Or.inr ⟨by grind, b_, 7, by omega, by decide, eb_, eq9, (by first | exact (if_pos (by grind)).symm | exact (if_neg (by grind)).symm)⟩⟩⟩)⟩)
        · refine xr_bipush (v := -12) dX10_taken_44 rfl ?_
          exact xr_iret dX10_taken_46 rfl rfl (⟨_, rfl, rfl, rfl, rfl, (Or.inr ⟨⟨c1, c2⟩, d_, hd_, rfl, Or.inr ⟨by grind, Or.inl ⟨by grind, rfl⟩⟩⟩)⟩)
      · refine xr_bipush (v := -11) dX10_taken_30 rfl ?_
        exact xr_iret dX10_taken_32 rfl rfl (⟨_, rfl, rfl, rfl, rfl, (Or.inr ⟨⟨c1, c2⟩, d_, hd_, rfl, Or.inl ⟨by grind, rfl⟩⟩)⟩)
    · refine xr_iconst (v := -1) dX10_taken_19 rfl ?_
      exact xr_iret dX10_taken_20 rfl rfl (⟨_, rfl, rfl, rfl, rfl, (Or.inl ⟨(fun q => c2 q.2), rfl⟩)⟩)
set_option maxRecDepth 100000 in
set_option maxHeartbeats 4000000 in
theorem gs_X9_shift (sh i ot j nn : Int32) {l : Launch} {G : xG} {M : xM} {J : xJ} (hI : InvC M) : x_M l G fX9_shift 2 0 0 [.ref (0), .int (sh), .int (i), .int (ot), .int (j), .int (nn)] x_SH M J (qJE WKP (fun p => 50 ≤ p ∧ p ≤ 61) M J (fun r M2 J2 => InvC M2 ∧ ESh9 M M2 J J2 sh i ot j nn r)) := by
  refine xb_of pX9 (Nat.le_of_ble_eq_true rfl) rfl ?_
  obtain ⟨⟨cn, h_cn, e_cn⟩, ⟨cm, h_cm, e_cm⟩, ⟨L, h_L, e_L⟩, hv, hD, ⟨n, h_n, e_n⟩, ⟨un, wn, h_uw, h_wn, e_un, e_wn⟩, ⟨b, h_b, e_b⟩, hkd, ⟨ra, h_ra, e_ra⟩, hsl, hS⟩ := hI
  refine xr_iload_n dX9_shift_0 1 rfl ?_
  refine xb_cS (As := [.int (sh)]) (rest := []) mlX9_88 (c_X9_isShelf sh) dX9_shift_1 rfl rfl (Nat.le_of_ble_eq_true rfl) (by decide) (by decide) ?_
  refine xb_beq (tgt := 14) dX9_shift_4 rfl (fun c1 => ?_) (fun c1 => ?_)
  · refine xr_iconst (v := -1) dX9_shift_14 rfl ?_
    exact xr_iret dX9_shift_15 rfl rfl (⟨_, rfl, rfl, (fun _ _ => rfl), Ke.rf, ⟨⟨cn, by omega, e_cn⟩, ⟨cm, by omega, e_cm⟩, ⟨L, by omega, e_L⟩, (fun kk hkk => by rw [show M 3 kk = M 3 kk from rfl]; exact hv kk hkk), hD, ⟨n, by omega, e_n⟩, ⟨un, wn, by omega, by omega, e_un, e_wn⟩, ⟨b, by omega, e_b⟩, (fun j hj => by obtain ⟨q, hq, eq⟩ := hkd j hj; exact ⟨q, hq, (show M 47 j = M 47 j from rfl).trans eq⟩), ⟨ra, by omega, e_ra⟩, (fun j hj => by obtain ⟨s, hs, es⟩ := hsl j hj; exact ⟨s, hs, (show M (50 + 2 * j) 3 = M (50 + 2 * j) 3 from rfl).trans es⟩), (fun j hj => by obtain ⟨q, hq, eq⟩ := hS j hj; exact ⟨q, hq, (show M 36 j = M 36 j from rfl).trans eq⟩)⟩, ⟨rfl, Or.inl ⟨(fun q => c1 q.1), rfl, rfl⟩⟩⟩)
  · obtain ⟨s_, hs_, rfl⟩ := x_nat (N := 6) (by decide) rfl c1
    refine xr_iload_n dX9_shift_7 3 rfl ?_
    refine xb_cS (As := [.int (ot)]) (rest := []) mlX9_88 (c_X9_isShelf ot) dX9_shift_8 rfl rfl (Nat.le_of_ble_eq_true rfl) (by decide) (by decide) ?_
    refine xb_bne (tgt := 16) dX9_shift_11 rfl (fun c2 => ?_) (fun c2 => ?_)
    · obtain ⟨t_, ht_, rfl⟩ := x_nat (N := 6) (by decide) rfl c2
      refine xr_aload_n dX9_shift_16 0 rfl ?_
      refine xr_getR flX9_67 dX9_shift_17 s_0 rfl ?_
      refine xr_iload_n dX9_shift_20 1 rfl ?_
      refine xb_aald (j := s_) (q := 50 + 2 * s_) (by decide) dX9_shift_21 s_49 hs_ (by decide) (if_pos hs_) ?_
      refine xr_astore (ls2 := [(6, .ref (50 + 2 * s_)), (0, .ref (0)), (1, .int (nI (s_))), (2, .int (i)), (3, .int (nI (t_))), (4, .int (j)), (5, .int (nn))]) dX9_shift_22 (by decide) rfl ?_
      refine xr_aload_n dX9_shift_24 1 rfl ?_
      refine xr_getR flX9_67 dX9_shift_25 s_0 rfl ?_
      refine xr_iload_n dX9_shift_28 4 rfl ?_
      refine xb_aald (j := t_) (q := 50 + 2 * t_) (by decide) dX9_shift_29 s_49 ht_ (by decide) (if_pos ht_) ?_
      refine xr_astore (ls2 := [(7, .ref (50 + 2 * t_)), (6, .ref (50 + 2 * s_)), (0, .ref (0)), (1, .int (nI (s_))), (2, .int (i)), (3, .int (nI (t_))), (4, .int (j)), (5, .int (nn))]) dX9_shift_30 (by decide) rfl ?_
      refine xr_aload dX9_shift_32 1 rfl ?_
      refine xb_cV (As := []) (rest := []) mlX9_91 (c_X6_isEmpty (s_shelf hs_) (s_elem hs_)) dX9_shift_34 (s_shelf hs_) rfl rfl (Nat.le_of_ble_eq_true rfl) (by decide) (by decide) ?_
      refine xb_bne (tgt := 48) dX9_shift_37 rfl (fun c3 => ?_) (fun c3 => ?_)
      · refine xr_bipush (v := -11) dX9_shift_48 rfl ?_
        exact xr_iret dX9_shift_50 rfl rfl (⟨_, rfl, rfl, (fun _ _ => rfl), Ke.rf, ⟨⟨cn, by omega, e_cn⟩, ⟨cm, by omega, e_cm⟩, ⟨L, by omega, e_L⟩, (fun kk hkk => by rw [show M 3 kk = M 3 kk from rfl]; exact hv kk hkk), hD, ⟨n, by omega, e_n⟩, ⟨un, wn, by omega, by omega, e_un, e_wn⟩, ⟨b, by omega, e_b⟩, (fun j hj => by obtain ⟨q, hq, eq⟩ := hkd j hj; exact ⟨q, hq, (show M 47 j = M 47 j from rfl).trans eq⟩), ⟨ra, by omega, e_ra⟩, (fun j hj => by obtain ⟨s, hs, es⟩ := hsl j hj; exact ⟨s, hs, (show M (50 + 2 * j) 3 = M (50 + 2 * j) 3 from rfl).trans es⟩), (fun j hj => by obtain ⟨q, hq, eq⟩ := hS j hj; exact ⟨q, hq, (show M 36 j = M 36 j from rfl).trans eq⟩)⟩, ⟨rfl, Or.inr ⟨s_, t_, hs_, ht_, rfl, rfl, Or.inl ⟨Or.inl c3, rfl, rfl⟩⟩⟩⟩)
      · refine xr_aload dX9_shift_40 0 rfl ?_
        refine xb_cV (As := []) (rest := []) mlX9_91 (c_X6_isEmpty (s_shelf ht_) (s_elem ht_)) dX9_shift_42 (s_shelf ht_) rfl rfl (Nat.le_of_ble_eq_true rfl) (by decide) (by decide) ?_
        refine xb_beq (tgt := 51) dX9_shift_45 rfl (fun c4 => ?_) (fun c4 => ?_)
        · refine xr_aload dX9_shift_51 1 rfl ?_
          refine xb_cV (As := []) (rest := []) mlX9_366 (c_X6_isRow (s_shelf hs_) (s_elem hs_)) dX9_shift_53 (s_shelf hs_) rfl rfl (Nat.le_of_ble_eq_true rfl) (by decide) (by decide) ?_
          refine xb_beq (tgt := 80) dX9_shift_56 rfl (fun c5 => ?_) (fun c5 => ?_)
          · refine xr_bipush (v := -12) dX9_shift_80 rfl ?_
            exact xr_iret dX9_shift_82 rfl rfl (⟨_, rfl, rfl, (fun _ _ => rfl), Ke.rf, ⟨⟨cn, by omega, e_cn⟩, ⟨cm, by omega, e_cm⟩, ⟨L, by omega, e_L⟩, (fun kk hkk => by rw [show M 3 kk = M 3 kk from rfl]; exact hv kk hkk), hD, ⟨n, by omega, e_n⟩, ⟨un, wn, by omega, by omega, e_un, e_wn⟩, ⟨b, by omega, e_b⟩, (fun j hj => by obtain ⟨q, hq, eq⟩ := hkd j hj; exact ⟨q, hq, (show M 47 j = M 47 j from rfl).trans eq⟩), ⟨ra, by omega, e_ra⟩, (fun j hj => by obtain ⟨s, hs, es⟩ := hsl j hj; exact ⟨s, hs, (show M (50 + 2 * j) 3 = M (50 + 2 * j) 3 from rfl).trans es⟩), (fun j hj => by obtain ⟨q, hq, eq⟩ := hS j hj; exact ⟨q, hq, (show M 36 j = M 36 j from rfl).trans eq⟩)⟩, ⟨rfl, Or.inr ⟨s_, t_, hs_, ht_, rfl, rfl, Or.inr ⟨⟨c3, c4⟩, Or.inl ⟨fun q => c5 q.1, rfl, rfl⟩⟩⟩⟩⟩)
          · refine xr_aload dX9_shift_59 0 rfl ?_
            refine xb_cV (As := []) (rest := []) mlX9_366 (c_X6_isRow (s_shelf ht_) (s_elem ht_)) dX9_shift_61 (s_shelf ht_) rfl rfl (Nat.le_of_ble_eq_true rfl) (by decide) (by decide) ?_
            refine xb_beq (tgt := 80) dX9_shift_64 rfl (fun c6 => ?_) (fun c6 => ?_)
            · refine xr_bipush (v := -12) dX9_shift_80 rfl ?_
              exact xr_iret dX9_shift_82 rfl rfl (⟨_, rfl, rfl, (fun _ _ => rfl), Ke.rf, ⟨⟨cn, by omega, e_cn⟩, ⟨cm, by omega, e_cm⟩, ⟨L, by omega, e_L⟩, (fun kk hkk => by rw [show M 3 kk = M 3 kk from rfl]; exact hv kk hkk), hD, ⟨n, by omega, e_n⟩, ⟨un, wn, by omega, by omega, e_un, e_wn⟩, ⟨b, by omega, e_b⟩, (fun j hj => by obtain ⟨q, hq, eq⟩ := hkd j hj; exact ⟨q, hq, (show M 47 j = M 47 j from rfl).trans eq⟩), ⟨ra, by omega, e_ra⟩, (fun j hj => by obtain ⟨s, hs, es⟩ := hsl j hj; exact ⟨s, hs, (show M (50 + 2 * j) 3 = M (50 + 2 * j) 3 from rfl).trans es⟩), (fun j hj => by obtain ⟨q, hq, eq⟩ := hS j hj; exact ⟨q, hq, (show M 36 j = M 36 j from rfl).trans eq⟩)⟩, ⟨rfl, Or.inr ⟨s_, t_, hs_, ht_, rfl, rfl, Or.inr ⟨⟨c3, c4⟩, Or.inl ⟨fun q => c6 q.2.1, rfl, rfl⟩⟩⟩⟩⟩)
            · refine xr_aload dX9_shift_67 1 rfl ?_
              refine xb_get (v := M (50 + 2 * s_) 2) flX9_369 dX9_shift_69 (s_shelf hs_) rfl rfl ?_
              refine xr_aload dX9_shift_72 0 rfl ?_
              refine xb_get (v := M (50 + 2 * t_) 2) flX9_369 dX9_shift_74 (s_shelf ht_) rfl rfl ?_
              refine xr_icmp_eq (tgt := 83) dX9_shift_77 rfl (fun c7 => ?_) (fun c7 => ?_)
              · refine xr_aload dX9_shift_83 1 rfl ?_
                refine xr_iload_n dX9_shift_85 4 rfl ?_
                refine xr_iload dX9_shift_86 7 rfl ?_
                refine xb_cV (As := [.int (i), .int (nn)]) (rest := []) mlX9_372 (c_X6_hasStretch i nn (s_shelf hs_) (s_elem hs_)) dX9_shift_88 (s_shelf hs_) rfl rfl (Nat.le_of_ble_eq_true rfl) (by decide) (by decide) ?_
                refine xb_beq (tgt := 106) dX9_shift_91 rfl (fun c8 => ?_) (fun c8 => ?_)
                · refine xr_bipush (v := -13) dX9_shift_106 rfl ?_
                  exact xr_iret dX9_shift_108 rfl rfl (⟨_, rfl, rfl, (fun _ _ => rfl), Ke.rf, ⟨⟨cn, by omega, e_cn⟩, ⟨cm, by omega, e_cm⟩, ⟨L, by omega, e_L⟩, (fun kk hkk => by rw [show M 3 kk = M 3 kk from rfl]; exact hv kk hkk), hD, ⟨n, by omega, e_n⟩, ⟨un, wn, by omega, by omega, e_un, e_wn⟩, ⟨b, by omega, e_b⟩, (fun j hj => by obtain ⟨q, hq, eq⟩ := hkd j hj; exact ⟨q, hq, (show M 47 j = M 47 j from rfl).trans eq⟩), ⟨ra, by omega, e_ra⟩, (fun j hj => by obtain ⟨s, hs, es⟩ := hsl j hj; exact ⟨s, hs, (show M (50 + 2 * j) 3 = M (50 + 2 * j) 3 from rfl).trans es⟩), (fun j hj => by obtain ⟨q, hq, eq⟩ := hS j hj; exact ⟨q, hq, (show M 36 j = M 36 j from rfl).trans eq⟩)⟩, ⟨rfl, Or.inr ⟨s_, t_, hs_, ht_, rfl, rfl, Or.inr ⟨⟨c3, c4⟩, Or.inr ⟨⟨c5, c6, c7⟩, Or.inl ⟨fun q => c8 q.1, rfl, rfl⟩⟩⟩⟩⟩⟩)
                · refine xr_aload dX9_shift_94 0 rfl ?_
                  refine xr_iload dX9_shift_96 6 rfl ?_
                  refine xr_iload dX9_shift_98 7 rfl ?_
                  refine xb_cV (As := [.int (j), .int (nn)]) (rest := []) mlX9_372 (c_X6_hasStretch j nn (s_shelf ht_) (s_elem ht_)) dX9_shift_100 (s_shelf ht_) rfl rfl (Nat.le_of_ble_eq_true rfl) (by decide) (by decide) ?_
                  refine xb_bne (tgt := 109) dX9_shift_103 rfl (fun c9 => ?_) (fun c9 => ?_)
                  · obtain ⟨sl, hsl1, esl⟩ := hsl s_ hs_
                    obtain ⟨sl2, hsl2, esl2⟩ := hsl t_ ht_
                    obtain ⟨a1, m1, ha1, rfl, rfl⟩ := st_in hsl1 esl c8
                    obtain ⟨a2, m2, ha2, rfl, hm2⟩ := st_in hsl2 esl2 c9
                    have hm3 : m1 = m2 := (nI_eq (by omega) (by omega)).mp hm2
                    subst hm3
                    refine xr_aload dX9_shift_109 1 rfl ?_
                    refine xr_getR flX9_362 dX9_shift_111 (s_shelf hs_) rfl ?_
                    refine xr_iload_n dX9_shift_114 4 rfl ?_
                    refine xr_aload dX9_shift_115 0 rfl ?_
                    refine xr_getR flX9_362 dX9_shift_117 (s_shelf ht_) rfl ?_
                    refine xr_iload dX9_shift_120 6 rfl ?_
                    refine xr_iload dX9_shift_122 7 rfl ?_
                    refine xr_copyJ acX9_375 uj_an uj_as uj_ai s_len (s_elem hs_) (s_elem ht_) (nI_pos (by omega)) (nI_pos (by omega)) (nI_pos (by omega)) (by rw [nI_clamp (by omega), nI_clamp (by omega)]; omega) (by rw [nI_clamp (by omega), nI_clamp (by omega)]; omega) dX9_shift_124 (Nat.le_of_ble_eq_true rfl) (by decide) ?_
                    refine xr_iload dX9_shift_127 7 rfl ?_
                    exact xr_iret dX9_shift_129 rfl rfl (⟨_, rfl, rfl, (fun p hp => x_rowJ_n _ _ (fun q => hp (by omega))), Ke.rf, ⟨⟨cn, by omega, e_cn⟩, ⟨cm, by omega, e_cm⟩, ⟨L, by omega, e_L⟩, (fun kk hkk => by rw [show M 3 kk = M 3 kk from rfl]; exact hv kk hkk), hD, ⟨n, by omega, e_n⟩, ⟨un, wn, by omega, by omega, e_un, e_wn⟩, ⟨b, by omega, e_b⟩, (fun j hj => by obtain ⟨q, hq, eq⟩ := hkd j hj; exact ⟨q, hq, (show M 47 j = M 47 j from rfl).trans eq⟩), ⟨ra, by omega, e_ra⟩, (fun j hj => by obtain ⟨s, hs, es⟩ := hsl j hj; exact ⟨s, hs, (show M (50 + 2 * j) 3 = M (50 + 2 * j) 3 from rfl).trans es⟩), (fun j hj => by obtain ⟨q, hq, eq⟩ := hS j hj; exact ⟨q, hq, (show M 36 j = M 36 j from rfl).trans eq⟩)⟩, ⟨rfl, Or.inr ⟨s_, t_, hs_, ht_, rfl, rfl, Or.inr ⟨⟨c3, c4⟩, Or.inr ⟨⟨c5, c6, c7⟩, Or.inr ⟨⟨c8, c9⟩, rfl, rfl⟩⟩⟩⟩⟩⟩)
                  · refine xr_bipush (v := -13) dX9_shift_106 rfl ?_
                    exact xr_iret dX9_shift_108 rfl rfl (⟨_, rfl, rfl, (fun _ _ => rfl), Ke.rf, ⟨⟨cn, by omega, e_cn⟩, ⟨cm, by omega, e_cm⟩, ⟨L, by omega, e_L⟩, (fun kk hkk => by rw [show M 3 kk = M 3 kk from rfl]; exact hv kk hkk), hD, ⟨n, by omega, e_n⟩, ⟨un, wn, by omega, by omega, e_un, e_wn⟩, ⟨b, by omega, e_b⟩, (fun j hj => by obtain ⟨q, hq, eq⟩ := hkd j hj; exact ⟨q, hq, (show M 47 j = M 47 j from rfl).trans eq⟩), ⟨ra, by omega, e_ra⟩, (fun j hj => by obtain ⟨s, hs, es⟩ := hsl j hj; exact ⟨s, hs, (show M (50 + 2 * j) 3 = M (50 + 2 * j) 3 from rfl).trans es⟩), (fun j hj => by obtain ⟨q, hq, eq⟩ := hS j hj; exact ⟨q, hq, (show M 36 j = M 36 j from rfl).trans eq⟩)⟩, ⟨rfl, Or.inr ⟨s_, t_, hs_, ht_, rfl, rfl, Or.inr ⟨⟨c3, c4⟩, Or.inr ⟨⟨c5, c6, c7⟩, Or.inl ⟨fun q => c9 q.2, rfl, rfl⟩⟩⟩⟩⟩⟩)
              · refine xr_bipush (v := -12) dX9_shift_80 rfl ?_
                exact xr_iret dX9_shift_82 rfl rfl (⟨_, rfl, rfl, (fun _ _ => rfl), Ke.rf, ⟨⟨cn, by omega, e_cn⟩, ⟨cm, by omega, e_cm⟩, ⟨L, by omega, e_L⟩, (fun kk hkk => by rw [show M 3 kk = M 3 kk from rfl]; exact hv kk hkk), hD, ⟨n, by omega, e_n⟩, ⟨un, wn, by omega, by omega, e_un, e_wn⟩, ⟨b, by omega, e_b⟩, (fun j hj => by obtain ⟨q, hq, eq⟩ := hkd j hj; exact ⟨q, hq, (show M 47 j = M 47 j from rfl).trans eq⟩), ⟨ra, by omega, e_ra⟩, (fun j hj => by obtain ⟨s, hs, es⟩ := hsl j hj; exact ⟨s, hs, (show M (50 + 2 * j) 3 = M (50 + 2 * j) 3 from rfl).trans es⟩), (fun j hj => by obtain ⟨q, hq, eq⟩ := hS j hj; exact ⟨q, hq, (show M 36 j = M 36 j from rfl).trans eq⟩)⟩, ⟨rfl, Or.inr ⟨s_, t_, hs_, ht_, rfl, rfl, Or.inr ⟨⟨c3, c4⟩, Or.inl ⟨fun q => c7 q.2.2, rfl, rfl⟩⟩⟩⟩⟩)
        · refine xr_bipush (v := -11) dX9_shift_48 rfl ?_
          exact xr_iret dX9_shift_50 rfl rfl (⟨_, rfl, rfl, (fun _ _ => rfl), Ke.rf, ⟨⟨cn, by omega, e_cn⟩, ⟨cm, by omega, e_cm⟩, ⟨L, by omega, e_L⟩, (fun kk hkk => by rw [show M 3 kk = M 3 kk from rfl]; exact hv kk hkk), hD, ⟨n, by omega, e_n⟩, ⟨un, wn, by omega, by omega, e_un, e_wn⟩, ⟨b, by omega, e_b⟩, (fun j hj => by obtain ⟨q, hq, eq⟩ := hkd j hj; exact ⟨q, hq, (show M 47 j = M 47 j from rfl).trans eq⟩), ⟨ra, by omega, e_ra⟩, (fun j hj => by obtain ⟨s, hs, es⟩ := hsl j hj; exact ⟨s, hs, (show M (50 + 2 * j) 3 = M (50 + 2 * j) 3 from rfl).trans es⟩), (fun j hj => by obtain ⟨q, hq, eq⟩ := hS j hj; exact ⟨q, hq, (show M 36 j = M 36 j from rfl).trans eq⟩)⟩, ⟨rfl, Or.inr ⟨s_, t_, hs_, ht_, rfl, rfl, Or.inl ⟨Or.inr c4, rfl, rfl⟩⟩⟩⟩)
    · refine xr_iconst (v := -1) dX9_shift_14 rfl ?_
      exact xr_iret dX9_shift_15 rfl rfl (⟨_, rfl, rfl, (fun _ _ => rfl), Ke.rf, ⟨⟨cn, by omega, e_cn⟩, ⟨cm, by omega, e_cm⟩, ⟨L, by omega, e_L⟩, (fun kk hkk => by rw [show M 3 kk = M 3 kk from rfl]; exact hv kk hkk), hD, ⟨n, by omega, e_n⟩, ⟨un, wn, by omega, by omega, e_un, e_wn⟩, ⟨b, by omega, e_b⟩, (fun j hj => by obtain ⟨q, hq, eq⟩ := hkd j hj; exact ⟨q, hq, (show M 47 j = M 47 j from rfl).trans eq⟩), ⟨ra, by omega, e_ra⟩, (fun j hj => by obtain ⟨s, hs, es⟩ := hsl j hj; exact ⟨s, hs, (show M (50 + 2 * j) 3 = M (50 + 2 * j) 3 from rfl).trans es⟩), (fun j hj => by obtain ⟨q, hq, eq⟩ := hS j hj; exact ⟨q, hq, (show M 36 j = M 36 j from rfl).trans eq⟩)⟩, ⟨rfl, Or.inl ⟨(fun q => c2 q.2), rfl, rfl⟩⟩⟩)
set_option maxRecDepth 100000 in
set_option maxHeartbeats 4000000 in
theorem gs_X10_shift (d i t j nn : Int32) {l : Launch} {G : xG} {M : xM} {J : xJ} (hI : InvR M) : x_M l G fX10_shift 2 0 0 [.ref (62), .int (d), .int (i), .int (t), .int (j), .int (nn)] x_SH M J (qJE WRH (fun p => p = 85 ∨ p = 86) M J (fun r M2 J2 => InvR M2 ∧ ESh10 M M2 J J2 d i t j nn r)) := by
  refine xb_of pX10 (Nat.le_of_ble_eq_true rfl) rfl ?_
  obtain ⟨⟨hn, h_hn, e_hn, hw⟩, hbt, ⟨un, wn, h_uw, h_wn, e_un, e_wn⟩, hch, ⟨n, h_n, e_n⟩, htx, ⟨b, h_b, e_b⟩, hkd, ⟨ra, h_ra, e_ra⟩, hsl, ⟨ic, h_ic, e_ic⟩, hS⟩ := hI
  have hsl9 := hsl
  refine xr_iload_n dX10_shift_0 1 rfl ?_
  refine xb_cS (As := [.int (d)]) (rest := []) mlX10_125 (c_X10_isShelf d) dX10_shift_1 rfl rfl (Nat.le_of_ble_eq_true rfl) (by decide) (by decide) ?_
  refine xb_beq (tgt := 14) dX10_shift_4 rfl (fun c1 => ?_) (fun c1 => ?_)
  · refine xr_iconst (v := -1) dX10_shift_14 rfl ?_
    exact xr_iret dX10_shift_15 rfl rfl (⟨_, rfl, rfl, (fun _ _ => rfl), Ke.rf, ⟨⟨hn, by omega, e_hn, (fun kw hkw => by rw [show M 63 (5 + kw) = M 63 (5 + kw) from rfl]; exact hw kw hkw)⟩, (by rw [show M 63 16 = M 63 16 from rfl]; exact hbt), ⟨un, wn, by omega, by omega, e_un, e_wn⟩, (fun kk hkk => by rw [show M 64 kk = M 64 kk from rfl, show M 65 kk = M 65 kk from rfl, show M 66 kk = M 66 kk from rfl]; exact hch kk hkk), ⟨n, by omega, e_n⟩, (by rw [show M 62 13 = M 62 13 from rfl]; exact htx), ⟨b, by omega, e_b⟩, (fun j hj => by obtain ⟨q, hq, eq⟩ := hkd j hj; exact ⟨q, hq, (show M 81 j = M 81 j from rfl).trans eq⟩), ⟨ra, by omega, e_ra⟩, (fun j hj => by rw [show M 83 j = M 83 j from rfl, show M 84 j = M 84 j from rfl]; exact hsl j hj), ⟨ic, by omega, e_ic⟩, (fun j hj => by obtain ⟨q, hq, eq⟩ := hS j hj; exact ⟨q, hq, (show M 75 j = M 75 j from rfl).trans eq⟩)⟩, ⟨rfl, Or.inl ⟨(fun q => c1 q.1), rfl, rfl⟩⟩⟩)
  · obtain ⟨d_, hd_, rfl⟩ := x_natle (N := 5) (by decide) rfl c1
    replace hd_ := Nat.lt_succ_of_le hd_
    refine xr_iload_n dX10_shift_7 3 rfl ?_
    refine xb_cS (As := [.int (t)]) (rest := []) mlX10_125 (c_X10_isShelf t) dX10_shift_8 rfl rfl (Nat.le_of_ble_eq_true rfl) (by decide) (by decide) ?_
    refine xb_bne (tgt := 16) dX10_shift_11 rfl (fun c2 => ?_) (fun c2 => ?_)
    · obtain ⟨t_, ht_, rfl⟩ := x_natle (N := 5) (by decide) rfl c2
      replace ht_ := Nat.lt_succ_of_le ht_
      refine xr_aload_n dX10_shift_16 0 rfl ?_
      refine xr_getR flX10_75 dX10_shift_17 s_62 rfl ?_
      refine xr_iload_n dX10_shift_20 1 rfl ?_
      refine xb_iald (j := d_) (v := M 83 d_) dX10_shift_21 s_83 hd_ (by decide) rfl ?_
      refine xr_if_lt (tgt := 34) dX10_shift_22 rfl (fun c3 => ?_) (fun c3 => ?_)
      · refine xr_bipush (v := -11) dX10_shift_34 rfl ?_
        exact xr_iret dX10_shift_36 rfl rfl (⟨_, rfl, rfl, (fun _ _ => rfl), Ke.rf, ⟨⟨hn, by omega, e_hn, (fun kw hkw => by rw [show M 63 (5 + kw) = M 63 (5 + kw) from rfl]; exact hw kw hkw)⟩, (by rw [show M 63 16 = M 63 16 from rfl]; exact hbt), ⟨un, wn, by omega, by omega, e_un, e_wn⟩, (fun kk hkk => by rw [show M 64 kk = M 64 kk from rfl, show M 65 kk = M 65 kk from rfl, show M 66 kk = M 66 kk from rfl]; exact hch kk hkk), ⟨n, by omega, e_n⟩, (by rw [show M 62 13 = M 62 13 from rfl]; exact htx), ⟨b, by omega, e_b⟩, (fun j hj => by obtain ⟨q, hq, eq⟩ := hkd j hj; exact ⟨q, hq, (show M 81 j = M 81 j from rfl).trans eq⟩), ⟨ra, by omega, e_ra⟩, (fun j hj => by rw [show M 83 j = M 83 j from rfl, show M 84 j = M 84 j from rfl]; exact hsl j hj), ⟨ic, by omega, e_ic⟩, (fun j hj => by obtain ⟨q, hq, eq⟩ := hS j hj; exact ⟨q, hq, (show M 75 j = M 75 j from rfl).trans eq⟩)⟩, ⟨rfl, Or.inr ⟨d_, t_, hd_, ht_, rfl, rfl, Or.inl ⟨Or.inl (by grind), rfl, rfl⟩⟩⟩⟩)
      · refine xr_aload_n dX10_shift_25 0 rfl ?_
        refine xr_getR flX10_75 dX10_shift_26 s_62 rfl ?_
        refine xr_iload_n dX10_shift_29 3 rfl ?_
        refine xb_iald (j := t_) (v := M 83 t_) dX10_shift_30 s_83 ht_ (by decide) rfl ?_
        refine xr_if_ge (tgt := 37) dX10_shift_31 rfl (fun c4 => ?_) (fun c4 => ?_)
        · refine xr_aload_n dX10_shift_37 0 rfl ?_
          refine xr_getR flX10_75 dX10_shift_38 s_62 rfl ?_
          refine xr_iload_n dX10_shift_41 1 rfl ?_
          refine xb_iald (j := d_) (v := M 83 d_) dX10_shift_42 s_83 hd_ (by decide) rfl ?_
          refine xr_bipush (v := 50) dX10_shift_43 rfl ?_
          refine xr_icmp_lt (tgt := 63) dX10_shift_45 rfl (fun c5 => ?_) (fun c5 => ?_)
          · refine xr_bipush (v := -12) dX10_shift_63 rfl ?_
            exact xr_iret dX10_shift_65 rfl rfl (⟨_, rfl, rfl, (fun _ _ => rfl), Ke.rf, ⟨⟨hn, by omega, e_hn, (fun kw hkw => by rw [show M 63 (5 + kw) = M 63 (5 + kw) from rfl]; exact hw kw hkw)⟩, (by rw [show M 63 16 = M 63 16 from rfl]; exact hbt), ⟨un, wn, by omega, by omega, e_un, e_wn⟩, (fun kk hkk => by rw [show M 64 kk = M 64 kk from rfl, show M 65 kk = M 65 kk from rfl, show M 66 kk = M 66 kk from rfl]; exact hch kk hkk), ⟨n, by omega, e_n⟩, (by rw [show M 62 13 = M 62 13 from rfl]; exact htx), ⟨b, by omega, e_b⟩, (fun j hj => by obtain ⟨q, hq, eq⟩ := hkd j hj; exact ⟨q, hq, (show M 81 j = M 81 j from rfl).trans eq⟩), ⟨ra, by omega, e_ra⟩, (fun j hj => by rw [show M 83 j = M 83 j from rfl, show M 84 j = M 84 j from rfl]; exact hsl j hj), ⟨ic, by omega, e_ic⟩, (fun j hj => by obtain ⟨q, hq, eq⟩ := hS j hj; exact ⟨q, hq, (show M 75 j = M 75 j from rfl).trans eq⟩)⟩, ⟨rfl, Or.inr ⟨d_, t_, hd_, ht_, rfl, rfl, Or.inr ⟨⟨by grind, by grind⟩, Or.inl ⟨by grind, rfl, rfl⟩⟩⟩⟩⟩)
          · refine xr_aload_n dX10_shift_48 0 rfl ?_
            refine xr_getR flX10_75 dX10_shift_49 s_62 rfl ?_
            refine xr_iload_n dX10_shift_52 1 rfl ?_
            refine xb_iald (j := d_) (v := M 83 d_) dX10_shift_53 s_83 hd_ (by decide) rfl ?_
            refine xr_aload_n dX10_shift_54 0 rfl ?_
            refine xr_getR flX10_75 dX10_shift_55 s_62 rfl ?_
            refine xr_iload_n dX10_shift_58 3 rfl ?_
            refine xb_iald (j := t_) (v := M 83 t_) dX10_shift_59 s_83 ht_ (by decide) rfl ?_
            refine xr_icmp_eq (tgt := 66) dX10_shift_60 rfl (fun c6 => ?_) (fun c6 => ?_)
            · refine xr_iload dX10_shift_66 5 rfl ?_
              refine xr_if_lt (tgt := 107) dX10_shift_68 rfl (fun c7 => ?_) (fun c7 => ?_)
              · refine xr_bipush (v := -13) dX10_shift_107 rfl ?_
                exact xr_iret dX10_shift_109 rfl rfl (⟨_, rfl, rfl, (fun _ _ => rfl), Ke.rf, ⟨⟨hn, by omega, e_hn, (fun kw hkw => by rw [show M 63 (5 + kw) = M 63 (5 + kw) from rfl]; exact hw kw hkw)⟩, (by rw [show M 63 16 = M 63 16 from rfl]; exact hbt), ⟨un, wn, by omega, by omega, e_un, e_wn⟩, (fun kk hkk => by rw [show M 64 kk = M 64 kk from rfl, show M 65 kk = M 65 kk from rfl, show M 66 kk = M 66 kk from rfl]; exact hch kk hkk), ⟨n, by omega, e_n⟩, (by rw [show M 62 13 = M 62 13 from rfl]; exact htx), ⟨b, by omega, e_b⟩, (fun j hj => by obtain ⟨q, hq, eq⟩ := hkd j hj; exact ⟨q, hq, (show M 81 j = M 81 j from rfl).trans eq⟩), ⟨ra, by omega, e_ra⟩, (fun j hj => by rw [show M 83 j = M 83 j from rfl, show M 84 j = M 84 j from rfl]; exact hsl j hj), ⟨ic, by omega, e_ic⟩, (fun j hj => by obtain ⟨q, hq, eq⟩ := hS j hj; exact ⟨q, hq, (show M 75 j = M 75 j from rfl).trans eq⟩)⟩, ⟨rfl, Or.inr ⟨d_, t_, hd_, ht_, rfl, rfl, Or.inr ⟨⟨by grind, by grind⟩, Or.inr ⟨⟨by grind, by grind⟩, Or.inl ⟨by unfold rOk; grind, rfl, rfl⟩⟩⟩⟩⟩⟩)
              · refine xr_iload_n dX10_shift_71 2 rfl ?_
                refine xr_if_lt (tgt := 107) dX10_shift_72 rfl (fun c8 => ?_) (fun c8 => ?_)
                · refine xr_bipush (v := -13) dX10_shift_107 rfl ?_
                  exact xr_iret dX10_shift_109 rfl rfl (⟨_, rfl, rfl, (fun _ _ => rfl), Ke.rf, ⟨⟨hn, by omega, e_hn, (fun kw hkw => by rw [show M 63 (5 + kw) = M 63 (5 + kw) from rfl]; exact hw kw hkw)⟩, (by rw [show M 63 16 = M 63 16 from rfl]; exact hbt), ⟨un, wn, by omega, by omega, e_un, e_wn⟩, (fun kk hkk => by rw [show M 64 kk = M 64 kk from rfl, show M 65 kk = M 65 kk from rfl, show M 66 kk = M 66 kk from rfl]; exact hch kk hkk), ⟨n, by omega, e_n⟩, (by rw [show M 62 13 = M 62 13 from rfl]; exact htx), ⟨b, by omega, e_b⟩, (fun j hj => by obtain ⟨q, hq, eq⟩ := hkd j hj; exact ⟨q, hq, (show M 81 j = M 81 j from rfl).trans eq⟩), ⟨ra, by omega, e_ra⟩, (fun j hj => by rw [show M 83 j = M 83 j from rfl, show M 84 j = M 84 j from rfl]; exact hsl j hj), ⟨ic, by omega, e_ic⟩, (fun j hj => by obtain ⟨q, hq, eq⟩ := hS j hj; exact ⟨q, hq, (show M 75 j = M 75 j from rfl).trans eq⟩)⟩, ⟨rfl, Or.inr ⟨d_, t_, hd_, ht_, rfl, rfl, Or.inr ⟨⟨by grind, by grind⟩, Or.inr ⟨⟨by grind, by grind⟩, Or.inl ⟨by unfold rOk; grind, rfl, rfl⟩⟩⟩⟩⟩⟩)
                · refine xr_iload dX10_shift_75 4 rfl ?_
                  refine xr_if_lt (tgt := 107) dX10_shift_77 rfl (fun c9 => ?_) (fun c9 => ?_)
                  · refine xr_bipush (v := -13) dX10_shift_107 rfl ?_
                    exact xr_iret dX10_shift_109 rfl rfl (⟨_, rfl, rfl, (fun _ _ => rfl), Ke.rf, ⟨⟨hn, by omega, e_hn, (fun kw hkw => by rw [show M 63 (5 + kw) = M 63 (5 + kw) from rfl]; exact hw kw hkw)⟩, (by rw [show M 63 16 = M 63 16 from rfl]; exact hbt), ⟨un, wn, by omega, by omega, e_un, e_wn⟩, (fun kk hkk => by rw [show M 64 kk = M 64 kk from rfl, show M 65 kk = M 65 kk from rfl, show M 66 kk = M 66 kk from rfl]; exact hch kk hkk), ⟨n, by omega, e_n⟩, (by rw [show M 62 13 = M 62 13 from rfl]; exact htx), ⟨b, by omega, e_b⟩, (fun j hj => by obtain ⟨q, hq, eq⟩ := hkd j hj; exact ⟨q, hq, (show M 81 j = M 81 j from rfl).trans eq⟩), ⟨ra, by omega, e_ra⟩, (fun j hj => by rw [show M 83 j = M 83 j from rfl, show M 84 j = M 84 j from rfl]; exact hsl j hj), ⟨ic, by omega, e_ic⟩, (fun j hj => by obtain ⟨q, hq, eq⟩ := hS j hj; exact ⟨q, hq, (show M 75 j = M 75 j from rfl).trans eq⟩)⟩, ⟨rfl, Or.inr ⟨d_, t_, hd_, ht_, rfl, rfl, Or.inr ⟨⟨by grind, by grind⟩, Or.inr ⟨⟨by grind, by grind⟩, Or.inl ⟨by unfold rOk; grind, rfl, rfl⟩⟩⟩⟩⟩⟩)
                  · refine xr_iload_n dX10_shift_80 2 rfl ?_
                    refine xr_aload_n dX10_shift_81 0 rfl ?_
                    refine xr_getR flX10_78 dX10_shift_82 s_62 rfl ?_
                    refine xr_iload_n dX10_shift_85 1 rfl ?_
                    refine xb_iald (j := d_) (v := M 84 d_) dX10_shift_86 s_84 hd_ (by decide) rfl ?_
                    refine xr_iload dX10_shift_87 5 rfl ?_
                    refine xr_isub dX10_shift_89 ?_
                    refine xr_icmp_gt (tgt := 107) dX10_shift_90 rfl (fun c10 => ?_) (fun c10 => ?_)
                    · refine xr_bipush (v := -13) dX10_shift_107 rfl ?_
                      exact xr_iret dX10_shift_109 rfl rfl (⟨_, rfl, rfl, (fun _ _ => rfl), Ke.rf, ⟨⟨hn, by omega, e_hn, (fun kw hkw => by rw [show M 63 (5 + kw) = M 63 (5 + kw) from rfl]; exact hw kw hkw)⟩, (by rw [show M 63 16 = M 63 16 from rfl]; exact hbt), ⟨un, wn, by omega, by omega, e_un, e_wn⟩, (fun kk hkk => by rw [show M 64 kk = M 64 kk from rfl, show M 65 kk = M 65 kk from rfl, show M 66 kk = M 66 kk from rfl]; exact hch kk hkk), ⟨n, by omega, e_n⟩, (by rw [show M 62 13 = M 62 13 from rfl]; exact htx), ⟨b, by omega, e_b⟩, (fun j hj => by obtain ⟨q, hq, eq⟩ := hkd j hj; exact ⟨q, hq, (show M 81 j = M 81 j from rfl).trans eq⟩), ⟨ra, by omega, e_ra⟩, (fun j hj => by rw [show M 83 j = M 83 j from rfl, show M 84 j = M 84 j from rfl]; exact hsl j hj), ⟨ic, by omega, e_ic⟩, (fun j hj => by obtain ⟨q, hq, eq⟩ := hS j hj; exact ⟨q, hq, (show M 75 j = M 75 j from rfl).trans eq⟩)⟩, ⟨rfl, Or.inr ⟨d_, t_, hd_, ht_, rfl, rfl, Or.inr ⟨⟨by grind, by grind⟩, Or.inr ⟨⟨by grind, by grind⟩, Or.inl ⟨by unfold rOk; grind, rfl, rfl⟩⟩⟩⟩⟩⟩)
                    · refine xr_iload dX10_shift_93 4 rfl ?_
                      refine xr_aload_n dX10_shift_95 0 rfl ?_
                      refine xr_getR flX10_78 dX10_shift_96 s_62 rfl ?_
                      refine xr_iload_n dX10_shift_99 3 rfl ?_
                      refine xb_iald (j := t_) (v := M 84 t_) dX10_shift_100 s_84 ht_ (by decide) rfl ?_
                      refine xr_iload dX10_shift_101 5 rfl ?_
                      refine xr_isub dX10_shift_103 ?_
                      refine xr_icmp_le (tgt := 110) dX10_shift_104 rfl (fun c11 => ?_) (fun c11 => ?_)
                      · obtain ⟨-, nm, hnm, e_nm⟩ := hsl d_ hd_
                        obtain ⟨-, nn_, hnn, e_nn⟩ := hsl t_ ht_
                        obtain ⟨a, m1, ha1, rfl, rfl⟩ := rs_in hnm e_nm c7 c8 c10 (rs_n hnm e_nm c7 c8 c10)
                        obtain ⟨c, m2, hc1, rfl, hm2⟩ := rs_in hnn e_nn c7 c9 (Int32.not_lt.mpr c11) (rs_n hnn e_nn c7 c9 (Int32.not_lt.mpr c11))
                        have hm3 : m1 = m2 := (nI_eq (by omega) (by omega)).mp hm2
                        subst hm3
                        refine xr_iconst (v := 0) dX10_shift_110 rfl ?_
                        refine xr_istore (ls2 := [(6, .int (0)), (0, .ref (62)), (1, .int (nI (d_))), (2, .int (nI (a))), (3, .int (nI (t_))), (4, .int (nI (c))), (5, .int (nI (m1)))]) dX10_shift_111 (by decide) rfl ?_
                        refine xb_ls (ls2 := [(6, .int (nI (0))), (5, .int (nI (m1))), (4, .int (nI (c))), (3, .int (nI (t_))), (2, .int (nI (a))), (1, .int (nI (d_))), (0, .ref (62))]) [0, 6, 5, 4, 3, 2, 1] rfl ?_
                        refine rsh_a hd_ ht_ (by omega) (by omega) (fun J8 hJ8 hZ8 => ?_) m1 0 J (by omega) (fun _ _ => rfl) (fun j hj => absurd hj (by omega))
                        refine xr_iconst (v := 0) dX10_shift_147 rfl ?_
                        refine xr_istore (ls2 := [(6, .int (0)), (5, .int (nI (m1))), (4, .int (nI (c))), (3, .int (nI (t_))), (2, .int (nI (a))), (1, .int (nI (d_))), (0, .ref (62))]) dX10_shift_148 (by decide) rfl ?_
                        refine xb_ls (ls2 := [(6, .int (nI (0))), (5, .int (nI (m1))), (4, .int (nI (c))), (3, .int (nI (t_))), (2, .int (nI (a))), (1, .int (nI (d_))), (0, .ref (62))]) [0, 1, 2, 3, 4, 5, 6] rfl ?_
                        refine rsh_b hd_ ht_ (by omega) (by omega) (fun J9 hJ9 hZ9 => ?_) m1 0 J8 (by omega) (fun _ _ => rfl) (fun j => by rw [if_neg (by omega)])
                        refine xr_iload dX10_shift_185 0 rfl ?_
                        exact xr_iret dX10_shift_187 rfl rfl (⟨_, rfl, rfl, (fun p hp => (hJ9 p (fun q => hp (Or.inl q))).trans (hJ8 p (fun q => hp (Or.inr q)))), Ke.rf, ⟨⟨hn, by omega, e_hn, (fun kw hkw => by rw [show M 63 (5 + kw) = M 63 (5 + kw) from rfl]; exact hw kw hkw)⟩, (by rw [show M 63 16 = M 63 16 from rfl]; exact hbt), ⟨un, wn, by omega, by omega, e_un, e_wn⟩, (fun kk hkk => by rw [show M 64 kk = M 64 kk from rfl, show M 65 kk = M 65 kk from rfl, show M 66 kk = M 66 kk from rfl]; exact hch kk hkk), ⟨n, by omega, e_n⟩, (by rw [show M 62 13 = M 62 13 from rfl]; exact htx), ⟨b, by omega, e_b⟩, (fun j hj => by obtain ⟨q, hq, eq⟩ := hkd j hj; exact ⟨q, hq, (show M 81 j = M 81 j from rfl).trans eq⟩), ⟨ra, by omega, e_ra⟩, (fun j hj => by rw [show M 83 j = M 83 j from rfl, show M 84 j = M 84 j from rfl]; exact hsl j hj), ⟨ic, by omega, e_ic⟩, (fun j hj => by obtain ⟨q, hq, eq⟩ := hS j hj; exact ⟨q, hq, (show M 75 j = M 75 j from rfl).trans eq⟩)⟩, ⟨rfl, Or.inr ⟨d_, t_, hd_, ht_, rfl, rfl, Or.inr ⟨⟨by grind, by grind⟩, Or.inr ⟨⟨by grind, by grind⟩, Or.inr ⟨⟨⟨c7, c8, c10⟩, ⟨c7, c9, Int32.not_lt.mpr c11⟩⟩, rfl, a, c, m1, by omega, by omega, rfl, rfl, rfl, sh_j hZ8 hJ8 hZ9⟩⟩⟩⟩⟩⟩)
                      · refine xr_bipush (v := -13) dX10_shift_107 rfl ?_
                        exact xr_iret dX10_shift_109 rfl rfl (⟨_, rfl, rfl, (fun _ _ => rfl), Ke.rf, ⟨⟨hn, by omega, e_hn, (fun kw hkw => by rw [show M 63 (5 + kw) = M 63 (5 + kw) from rfl]; exact hw kw hkw)⟩, (by rw [show M 63 16 = M 63 16 from rfl]; exact hbt), ⟨un, wn, by omega, by omega, e_un, e_wn⟩, (fun kk hkk => by rw [show M 64 kk = M 64 kk from rfl, show M 65 kk = M 65 kk from rfl, show M 66 kk = M 66 kk from rfl]; exact hch kk hkk), ⟨n, by omega, e_n⟩, (by rw [show M 62 13 = M 62 13 from rfl]; exact htx), ⟨b, by omega, e_b⟩, (fun j hj => by obtain ⟨q, hq, eq⟩ := hkd j hj; exact ⟨q, hq, (show M 81 j = M 81 j from rfl).trans eq⟩), ⟨ra, by omega, e_ra⟩, (fun j hj => by rw [show M 83 j = M 83 j from rfl, show M 84 j = M 84 j from rfl]; exact hsl j hj), ⟨ic, by omega, e_ic⟩, (fun j hj => by obtain ⟨q, hq, eq⟩ := hS j hj; exact ⟨q, hq, (show M 75 j = M 75 j from rfl).trans eq⟩)⟩, ⟨rfl, Or.inr ⟨d_, t_, hd_, ht_, rfl, rfl, Or.inr ⟨⟨by grind, by grind⟩, Or.inr ⟨⟨by grind, by grind⟩, Or.inl ⟨by unfold rOk; grind, rfl, rfl⟩⟩⟩⟩⟩⟩)
            · refine xr_bipush (v := -12) dX10_shift_63 rfl ?_
              exact xr_iret dX10_shift_65 rfl rfl (⟨_, rfl, rfl, (fun _ _ => rfl), Ke.rf, ⟨⟨hn, by omega, e_hn, (fun kw hkw => by rw [show M 63 (5 + kw) = M 63 (5 + kw) from rfl]; exact hw kw hkw)⟩, (by rw [show M 63 16 = M 63 16 from rfl]; exact hbt), ⟨un, wn, by omega, by omega, e_un, e_wn⟩, (fun kk hkk => by rw [show M 64 kk = M 64 kk from rfl, show M 65 kk = M 65 kk from rfl, show M 66 kk = M 66 kk from rfl]; exact hch kk hkk), ⟨n, by omega, e_n⟩, (by rw [show M 62 13 = M 62 13 from rfl]; exact htx), ⟨b, by omega, e_b⟩, (fun j hj => by obtain ⟨q, hq, eq⟩ := hkd j hj; exact ⟨q, hq, (show M 81 j = M 81 j from rfl).trans eq⟩), ⟨ra, by omega, e_ra⟩, (fun j hj => by rw [show M 83 j = M 83 j from rfl, show M 84 j = M 84 j from rfl]; exact hsl j hj), ⟨ic, by omega, e_ic⟩, (fun j hj => by obtain ⟨q, hq, eq⟩ := hS j hj; exact ⟨q, hq, (show M 75 j = M 75 j from rfl).trans eq⟩)⟩, ⟨rfl, Or.inr ⟨d_, t_, hd_, ht_, rfl, rfl, Or.inr ⟨⟨by grind, by grind⟩, Or.inl ⟨by grind, rfl, rfl⟩⟩⟩⟩⟩)
        · refine xr_bipush (v := -11) dX10_shift_34 rfl ?_
          exact xr_iret dX10_shift_36 rfl rfl (⟨_, rfl, rfl, (fun _ _ => rfl), Ke.rf, ⟨⟨hn, by omega, e_hn, (fun kw hkw => by rw [show M 63 (5 + kw) = M 63 (5 + kw) from rfl]; exact hw kw hkw)⟩, (by rw [show M 63 16 = M 63 16 from rfl]; exact hbt), ⟨un, wn, by omega, by omega, e_un, e_wn⟩, (fun kk hkk => by rw [show M 64 kk = M 64 kk from rfl, show M 65 kk = M 65 kk from rfl, show M 66 kk = M 66 kk from rfl]; exact hch kk hkk), ⟨n, by omega, e_n⟩, (by rw [show M 62 13 = M 62 13 from rfl]; exact htx), ⟨b, by omega, e_b⟩, (fun j hj => by obtain ⟨q, hq, eq⟩ := hkd j hj; exact ⟨q, hq, (show M 81 j = M 81 j from rfl).trans eq⟩), ⟨ra, by omega, e_ra⟩, (fun j hj => by rw [show M 83 j = M 83 j from rfl, show M 84 j = M 84 j from rfl]; exact hsl j hj), ⟨ic, by omega, e_ic⟩, (fun j hj => by obtain ⟨q, hq, eq⟩ := hS j hj; exact ⟨q, hq, (show M 75 j = M 75 j from rfl).trans eq⟩)⟩, ⟨rfl, Or.inr ⟨d_, t_, hd_, ht_, rfl, rfl, Or.inl ⟨Or.inr (by grind), rfl, rfl⟩⟩⟩⟩)
    · refine xr_iconst (v := -1) dX10_shift_14 rfl ?_
      exact xr_iret dX10_shift_15 rfl rfl (⟨_, rfl, rfl, (fun _ _ => rfl), Ke.rf, ⟨⟨hn, by omega, e_hn, (fun kw hkw => by rw [show M 63 (5 + kw) = M 63 (5 + kw) from rfl]; exact hw kw hkw)⟩, (by rw [show M 63 16 = M 63 16 from rfl]; exact hbt), ⟨un, wn, by omega, by omega, e_un, e_wn⟩, (fun kk hkk => by rw [show M 64 kk = M 64 kk from rfl, show M 65 kk = M 65 kk from rfl, show M 66 kk = M 66 kk from rfl]; exact hch kk hkk), ⟨n, by omega, e_n⟩, (by rw [show M 62 13 = M 62 13 from rfl]; exact htx), ⟨b, by omega, e_b⟩, (fun j hj => by obtain ⟨q, hq, eq⟩ := hkd j hj; exact ⟨q, hq, (show M 81 j = M 81 j from rfl).trans eq⟩), ⟨ra, by omega, e_ra⟩, (fun j hj => by rw [show M 83 j = M 83 j from rfl, show M 84 j = M 84 j from rfl]; exact hsl j hj), ⟨ic, by omega, e_ic⟩, (fun j hj => by obtain ⟨q, hq, eq⟩ := hS j hj; exact ⟨q, hq, (show M 75 j = M 75 j from rfl).trans eq⟩)⟩, ⟨rfl, Or.inl ⟨(fun q => c2 q.2), rfl, rfl⟩⟩⟩)
set_option maxRecDepth 100000 in
set_option maxHeartbeats 4000000 in
theorem gs_X9_alone (g y pa : Int32) {l : Launch} {G : xG} {M : xM} {J : xJ} (hI : InvC M) : x_M l G fX9_alone 2 0 0 [.ref (0), .int (g), .int (y), .int (pa)] x_SH M J (qPL M J (fun r => EAl ((0 ≤ g ∧ g < 25) ∧ (0 ≤ y ∧ y ≤ 8) ∧ (0 ≤ pa ∧ pa ≤ 1)) alF9 (M 36) g y pa r)) := by
  refine xb_of pX9 (Nat.le_of_ble_eq_true rfl) rfl ?_
  obtain ⟨⟨cn, h_cn, e_cn⟩, ⟨cm, h_cm, e_cm⟩, ⟨L, h_L, e_L⟩, hv, hD, ⟨n, h_n, e_n⟩, ⟨un, wn, h_uw, h_wn, e_un, e_wn⟩, ⟨b, h_b, e_b⟩, hkd, ⟨ra, h_ra, e_ra⟩, hsl, hS⟩ := hI
  refine xr_iload_n dX9_alone_0 1 rfl ?_
  refine xb_cS (As := [.int (g)]) (rest := []) mlX9_134 (c_X9_isGirl g) dX9_alone_1 rfl rfl (Nat.le_of_ble_eq_true rfl) (by decide) (by decide) ?_
  refine xb_beq (tgt := 26) dX9_alone_4 rfl (fun c1 => ?_) (fun c1 => ?_)
  · refine xr_ldc2 coX9_286 dX9_alone_26 ?_
    exact xr_lret dX9_alone_29 rfl (⟨_, rfl, rfl, rfl, rfl, (Or.inl ⟨(fun q => c1 q.1), by decide⟩)⟩)
  · obtain ⟨g_, hg_, rfl⟩ := x_nat (N := 25) (by decide) rfl c1
    refine xr_iload_n dX9_alone_7 2 rfl ?_
    refine xr_if_lt (tgt := 26) dX9_alone_8 rfl (fun c2 => ?_) (fun c2 => ?_)
    · refine xr_ldc2 coX9_286 dX9_alone_26 ?_
      exact xr_lret dX9_alone_29 rfl (⟨_, rfl, rfl, rfl, rfl, (Or.inl ⟨(fun q => absurd q.2 (by grind)), by decide⟩)⟩)
    · refine xr_iload_n dX9_alone_11 2 rfl ?_
      refine xr_bipush (v := 8) dX9_alone_12 rfl ?_
      refine xr_icmp_gt (tgt := 26) dX9_alone_14 rfl (fun c3 => ?_) (fun c3 => ?_)
      · refine xr_ldc2 coX9_286 dX9_alone_26 ?_
        exact xr_lret dX9_alone_29 rfl (⟨_, rfl, rfl, rfl, rfl, (Or.inl ⟨(fun q => absurd q.2 (by grind)), by decide⟩)⟩)
      · refine xr_iload_n dX9_alone_17 3 rfl ?_
        refine xr_if_lt (tgt := 26) dX9_alone_18 rfl (fun c4 => ?_) (fun c4 => ?_)
        · refine xr_ldc2 coX9_286 dX9_alone_26 ?_
          exact xr_lret dX9_alone_29 rfl (⟨_, rfl, rfl, rfl, rfl, (Or.inl ⟨(fun q => absurd q.2 (by grind)), by decide⟩)⟩)
        · refine xr_iload_n dX9_alone_21 3 rfl ?_
          refine xr_iconst (v := 1) dX9_alone_22 rfl ?_
          refine xr_icmp_le (tgt := 30) dX9_alone_23 rfl (fun c5 => ?_) (fun c5 => ?_)
          · obtain ⟨Y, hY, rfl⟩ := x_natle (v := y) (N := 8) (K := 8) (by decide) (by decide) ⟨by grind, by grind⟩
            obtain ⟨p, hp, rfl⟩ := x_natle (v := pa) (N := 1) (K := 1) (by decide) (by decide) ⟨by grind, by grind⟩
            obtain ⟨sk, hsk, e_sk⟩ := hS g_ hg_
            refine xr_aload_n dX9_alone_30 0 rfl ?_
            refine xr_getR flX9_47 dX9_alone_31 s_0 rfl ?_
            refine xr_getR flX9_137 dX9_alone_34 s_35 rfl ?_
            refine xr_iload_n dX9_alone_37 1 rfl ?_
            refine xb_iald (j := g_) (v := nI (sk)) dX9_alone_38 s_36 hg_ (by decide) e_sk ?_
            refine xr_istore (ls2 := [(4, .int (nI (sk))), (0, .ref (0)), (1, .int (nI (g_))), (2, .int (nI (Y))), (3, .int (nI (p)))]) dX9_alone_39 (by decide) rfl ?_
            refine xr_iload dX9_alone_41 0 rfl ?_
            refine xr_bipush (v := 12) dX9_alone_43 rfl ?_
            refine xr_callS (As := [.int (nI (sk)), .int (12)]) (rest := []) mlX9_288 (gs_X9_greatestDivisor (a := sk) hsk) dX9_alone_45 rfl rfl (Nat.le_of_ble_eq_true rfl) (by decide) ⟨by decide, by decide⟩ (fun v s2 M9 J2 hq => ?_)
            obtain ⟨r7, rfl, rfl, rfl, rfl, hx6⟩ := hq
            try dsimp only [Option.toList, List.cons_append, List.nil_append]
            subst hx6
            have hgb : gdl sk 13 ≤ 13 := gdl_b 13
            refine xr_istore (ls2 := [(5, .int (nI (gdl sk 13))), (4, .int (nI (sk))), (0, .ref (0)), (1, .int (nI (g_))), (2, .int (nI (Y))), (3, .int (nI (p)))]) dX9_alone_48 (by decide) rfl ?_
            refine xr_iload_n dX9_alone_50 5 rfl ?_
            refine xr_if_ne (tgt := 59) dX9_alone_51 rfl (fun c8 => ?_) (fun c8 => ?_)
            · have nc8 : ¬ (p = 0) := fun q => c8 ((nI_eq (a := p) (b := 0) (by omega) (by omega)).mpr q)
              refine xr_bipush (v := 12) dX9_alone_59 rfl ?_
              refine xr_iconst (v := 1) dX9_alone_61 rfl ?_
              refine xr_iload dX9_alone_62 0 rfl ?_
              refine xr_max mmX9_291 uj_max uj_mi uj_maxc dX9_alone_64 (Nat.le_of_ble_eq_true rfl) (by decide) ?_
              refine xb_top (y := nI (max 1 (gdl sk 13))) (mx_c hgb) ?_
              refine xr_idiv dX9_alone_67 (fun q => absurd ((nI_eq (a := max 1 (gdl sk 13)) (b := 0) (by omega) (by decide)).mp q) (by omega)) ?_
              refine xb_top (y := nI (12 / max 1 (gdl sk 13))) (div_n (a := 12) (b := max 1 (gdl sk 13)) (by omega) (by omega)) ?_
              have hBB : 12 / max 1 (gdl sk 13) ≤ 12 := Nat.le_trans (Nat.div_le_self _ _) (by omega)
              refine xr_istore (ls2 := [(6, .int (nI (12 / max 1 (gdl sk 13)))), (5, .int (nI (gdl sk 13))), (4, .int (nI (sk))), (0, .ref (0)), (1, .int (nI (g_))), (2, .int (nI (Y))), (3, .int (nI (p)))]) dX9_alone_68 (by decide) rfl ?_
              refine xr_lconst (v := 1) dX9_alone_70 rfl ?_
              refine xr_lstore (ls2 := [(7, .long (1)), (6, .int (nI (12 / max 1 (gdl sk 13)))), (5, .int (nI (gdl sk 13))), (4, .int (nI (sk))), (0, .ref (0)), (1, .int (nI (g_))), (2, .int (nI (Y))), (3, .int (nI (p)))]) dX9_alone_71 (by decide) rfl ?_
              refine xr_iconst (v := 0) dX9_alone_73 rfl ?_
              refine xr_istore (ls2 := [(9, .int (0)), (7, .long (1)), (6, .int (nI (12 / max 1 (gdl sk 13)))), (5, .int (nI (gdl sk 13))), (4, .int (nI (sk))), (0, .ref (0)), (1, .int (nI (g_))), (2, .int (nI (Y))), (3, .int (nI (p)))]) dX9_alone_74 (by decide) rfl ?_
              refine xb_ls (ls2 := [(9, .int (nI (0))), (7, .long (1)), (6, .int (nI (12 / max 1 (gdl sk 13)))), (2, .int (nI (Y))), (0, .ref (0))]) [0, 1, 2, 7, 5] rfl ?_
              refine alx_l (B := 12 / max 1 (gdl sk 13)) (Y := Y) hBB (by omega) ?_ Y 0 (by omega)
              refine xr_lload dX9_alone_96 0 rfl ?_
              exact xr_lret dX9_alone_98 rfl (⟨_, rfl, rfl, rfl, rfl, (Or.inr ⟨⟨c1, ⟨by grind, by grind⟩, by grind, by grind⟩, g_, Y, p, sk, hg_, by omega, by omega, hsk, rfl, rfl, rfl, e_sk, (show _ = nJ (((if p = 0 then sk else 12) / max 1 (gdl sk 13)) ^ Y) by rw [if_neg nc8])⟩)⟩)
            · have nc8 : p = 0 := (nI_eq (a := p) (b := 0) (by omega) (by omega)).mp c8
              refine xr_iload dX9_alone_54 1 rfl ?_
              refine xr_goto (tgt := 61) dX9_alone_56 rfl ?_
              refine xr_iconst (v := 1) dX9_alone_61 rfl ?_
              refine xr_iload dX9_alone_62 0 rfl ?_
              refine xr_max mmX9_291 uj_max uj_mi uj_maxc dX9_alone_64 (Nat.le_of_ble_eq_true rfl) (by decide) ?_
              refine xb_top (y := nI (max 1 (gdl sk 13))) (mx_c hgb) ?_
              refine xr_idiv dX9_alone_67 (fun q => absurd ((nI_eq (a := max 1 (gdl sk 13)) (b := 0) (by omega) (by decide)).mp q) (by omega)) ?_
              refine xb_top (y := nI (sk / max 1 (gdl sk 13))) (div_n (a := sk) (b := max 1 (gdl sk 13)) (by omega) (by omega)) ?_
              have hBB : sk / max 1 (gdl sk 13) ≤ 12 := Nat.le_trans (Nat.div_le_self _ _) (by omega)
              refine xr_istore (ls2 := [(6, .int (nI (sk / max 1 (gdl sk 13)))), (5, .int (nI (gdl sk 13))), (4, .int (nI (sk))), (0, .ref (0)), (1, .int (nI (g_))), (2, .int (nI (Y))), (3, .int (nI (p)))]) dX9_alone_68 (by decide) rfl ?_
              refine xr_lconst (v := 1) dX9_alone_70 rfl ?_
              refine xr_lstore (ls2 := [(7, .long (1)), (6, .int (nI (sk / max 1 (gdl sk 13)))), (5, .int (nI (gdl sk 13))), (4, .int (nI (sk))), (0, .ref (0)), (1, .int (nI (g_))), (2, .int (nI (Y))), (3, .int (nI (p)))]) dX9_alone_71 (by decide) rfl ?_
              refine xr_iconst (v := 0) dX9_alone_73 rfl ?_
              refine xr_istore (ls2 := [(9, .int (0)), (7, .long (1)), (6, .int (nI (sk / max 1 (gdl sk 13)))), (5, .int (nI (gdl sk 13))), (4, .int (nI (sk))), (0, .ref (0)), (1, .int (nI (g_))), (2, .int (nI (Y))), (3, .int (nI (p)))]) dX9_alone_74 (by decide) rfl ?_
              refine xb_ls (ls2 := [(9, .int (nI (0))), (7, .long (1)), (6, .int (nI (sk / max 1 (gdl sk 13)))), (2, .int (nI (Y))), (0, .ref (0))]) [0, 1, 2, 7, 5] rfl ?_
              refine alx_l (B := sk / max 1 (gdl sk 13)) (Y := Y) hBB (by omega) ?_ Y 0 (by omega)
              refine xr_lload dX9_alone_96 0 rfl ?_
              exact xr_lret dX9_alone_98 rfl (⟨_, rfl, rfl, rfl, rfl, (Or.inr ⟨⟨c1, ⟨by grind, by grind⟩, by grind, by grind⟩, g_, Y, p, sk, hg_, by omega, by omega, hsk, rfl, rfl, rfl, e_sk, (show _ = nJ (((if p = 0 then sk else 12) / max 1 (gdl sk 13)) ^ Y) by rw [if_pos nc8])⟩)⟩)
          · refine xr_ldc2 coX9_286 dX9_alone_26 ?_
            exact xr_lret dX9_alone_29 rfl (⟨_, rfl, rfl, rfl, rfl, (Or.inl ⟨(fun q => absurd q.2 (by grind)), by decide⟩)⟩)
set_option maxRecDepth 100000 in
set_option maxHeartbeats 4000000 in
theorem gs_X10_alone (g y pa : Int32) {l : Launch} {G : xG} {M : xM} {J : xJ} (hI : InvR M) : x_M l G fX10_alone 2 0 0 [.ref (62), .int (g), .int (y), .int (pa)] x_SH M J (qPL M J (fun r => EAl ((0 ≤ g ∧ g ≤ 24) ∧ (0 ≤ y ∧ y ≤ 8) ∧ (0 ≤ pa ∧ pa ≤ 1)) alF10 (M 75) g y pa r)) := by
  refine xb_of pX10 (Nat.le_of_ble_eq_true rfl) rfl ?_
  obtain ⟨⟨hn, h_hn, e_hn, hw⟩, hbt, ⟨un, wn, h_uw, h_wn, e_un, e_wn⟩, hch, ⟨n, h_n, e_n⟩, htx, ⟨b, h_b, e_b⟩, hkd, ⟨ra, h_ra, e_ra⟩, hsl, ⟨ic, h_ic, e_ic⟩, hS⟩ := hI
  refine xr_iload_n dX10_alone_0 1 rfl ?_
  refine xb_cS (As := [.int (g)]) (rest := []) mlX10_293 (c_X10_isGirl g) dX10_alone_1 rfl rfl (Nat.le_of_ble_eq_true rfl) (by decide) (by decide) ?_
  refine xb_beq (tgt := 29) dX10_alone_4 rfl (fun c1 => ?_) (fun c1 => ?_)
  · refine xr_ldc2 coX10_320 dX10_alone_29 ?_
    exact xr_lret dX10_alone_32 rfl (⟨_, rfl, rfl, rfl, rfl, (Or.inl ⟨(fun q => c1 q.1), by decide⟩)⟩)
  · obtain ⟨g_, hg_, rfl⟩ := x_natle (N := 24) (by decide) rfl c1
    replace hg_ := Nat.lt_succ_of_le hg_
    refine xr_iload_n dX10_alone_7 2 rfl ?_
    refine xr_i2l dX10_alone_8 ?_
    refine xr_lconst (v := 0) dX10_alone_9 rfl ?_
    refine xr_ldc2 coX10_316 dX10_alone_10 ?_
    refine xb_cS (As := [.long ((y).toInt64), .long (0), .long (8)]) (rest := []) mlX10_101 (c_within32 (y) (0) (8) (by decide) (by decide)) dX10_alone_13 rfl rfl (Nat.le_of_ble_eq_true rfl) (by decide) (by decide) ?_
    refine xb_beq (tgt := 29) dX10_alone_16 rfl (fun c2 => ?_) (fun c2 => ?_)
    · refine xr_ldc2 coX10_320 dX10_alone_29 ?_
      exact xr_lret dX10_alone_32 rfl (⟨_, rfl, rfl, rfl, rfl, (Or.inl ⟨(fun q => c2 q.2.1), by decide⟩)⟩)
    · refine xr_iload_n dX10_alone_19 3 rfl ?_
      refine xr_i2l dX10_alone_20 ?_
      refine xr_lconst (v := 0) dX10_alone_21 rfl ?_
      refine xr_lconst (v := 1) dX10_alone_22 rfl ?_
      refine xb_cS (As := [.long ((pa).toInt64), .long (0), .long (1)]) (rest := []) mlX10_101 (c_within32 (pa) (0) (1) (by decide) (by decide)) dX10_alone_23 rfl rfl (Nat.le_of_ble_eq_true rfl) (by decide) (by decide) ?_
      refine xb_bne (tgt := 33) dX10_alone_26 rfl (fun c3 => ?_) (fun c3 => ?_)
      · refine xr_lconst (v := 1) dX10_alone_33 rfl ?_
        refine xr_lstore (ls2 := [(4, .long (1)), (0, .ref (62)), (1, .int (nI (g_))), (2, .int (y)), (3, .int (pa))]) dX10_alone_34 (by decide) rfl ?_
        refine xr_lconst (v := 1) dX10_alone_36 rfl ?_
        refine xr_lstore (ls2 := [(6, .long (1)), (4, .long (1)), (0, .ref (62)), (1, .int (nI (g_))), (2, .int (y)), (3, .int (pa))]) dX10_alone_37 (by decide) rfl ?_
        refine xr_iconst (v := 0) dX10_alone_39 rfl ?_
        refine xr_istore (ls2 := [(8, .int (0)), (6, .long (1)), (4, .long (1)), (0, .ref (62)), (1, .int (nI (g_))), (2, .int (y)), (3, .int (pa))]) dX10_alone_40 (by decide) rfl ?_
        obtain ⟨p, hp, rfl⟩ := x_natle (v := pa) (N := 1) (K := 1) (by decide) (by decide) ⟨c3.1, c3.2⟩
        obtain ⟨Y, hY, rfl⟩ := x_natle (v := y) (N := 8) (K := 8) (by decide) (by decide) ⟨c2.1, c2.2⟩
        obtain ⟨sk, hsk, e_sk⟩ := hS g_ hg_
        refine xb_ls (ls2 := [(8, .int (nI (0))), (6, .long (1)), (4, .long (1)), (3, .int (nI (p))), (2, .int (nI (Y))), (1, .int (nI (g_))), (0, .ref (62))]) [0, 1, 2, 6, 5, 4, 3] rfl ?_
        refine ral_l (sk := sk) (pa := (nI (p))) hg_ hY hsk e_sk ?_ Y 0 (by omega)
        have hp1 : sk ^ Y < 2 ^ 31 := pw_b hsk hY
        have hp2 : 12 ^ Y < 2 ^ 31 := pw_b (by omega) hY
        have hp3 : 0 < 12 ^ Y := Nat.pow_pos (by omega)
        refine xr_lload dX10_alone_74 1 rfl ?_
        refine xr_lconst (v := 0) dX10_alone_76 rfl ?_
        refine xr_lcmp dX10_alone_77 ?_
        refine xl_ne (tgt := 84) dX10_alone_78 rfl (fun c4 => ?_) (fun c4 => ?_)
        · refine xr_lload dX10_alone_84 0 rfl ?_
          refine xr_lstore (ls2 := [(8, .long (nJ (12 ^ Y))), (6, .long (nJ (12 ^ Y))), (4, .long (nJ (sk ^ Y))), (3, .int (nI (p))), (1, .int (nI (g_))), (0, .ref (62))]) dX10_alone_86 (by decide) rfl ?_
          refine xr_lload dX10_alone_88 2 rfl ?_
          refine xr_lstore (ls2 := [(10, .long (nJ (sk ^ Y))), (8, .long (nJ (12 ^ Y))), (6, .long (nJ (12 ^ Y))), (4, .long (nJ (sk ^ Y))), (3, .int (nI (p))), (1, .int (nI (g_))), (0, .ref (62))]) dX10_alone_90 (by decide) rfl ?_
          refine xb_ls (ls2 := [(10, .long (nJ (sk ^ Y))), (8, .long (nJ (12 ^ Y))), (6, .long (nJ (12 ^ Y))), (4, .long (nJ (sk ^ Y))), (3, .int (nI (p))), (1, .int (nI (g_))), (0, .ref (62))]) [0, 1, 2, 3, 4, 5, 6] rfl ?_
          refine rgc_l (gg := Nat.gcd (12 ^ Y) (sk ^ Y)) (fun hgg => ?_) (sk ^ Y) (12 ^ Y) (sk ^ Y) (Nat.le_refl _) hp3 hp2 hp1 rfl
          have hg2 : Nat.gcd (12 ^ Y) (sk ^ Y) ≤ 12 ^ Y := Nat.le_of_dvd hp3 (Nat.gcd_dvd_left _ _)
          refine xr_iload_n dX10_alone_117 3 rfl ?_
          refine xr_if_ne (tgt := 129) dX10_alone_118 rfl (fun c5 => ?_) (fun c5 => ?_)
          · have nc5 : ¬ (p = 0) := fun q => c5 ((nI_eq (a := p) (b := 0) (by omega) (by omega)).mpr q)
            refine xr_lload dX10_alone_129 1 rfl ?_
            refine xr_lload dX10_alone_131 0 rfl ?_
            refine xr_ldiv dX10_alone_133 (fun q => absurd ((nJ_eq0 (by omega)).mp q) (by omega)) ?_
            exact xr_lret dX10_alone_134 rfl (⟨_, rfl, rfl, rfl, rfl, (Or.inr ⟨⟨c1, c2, c3⟩, g_, Y, p, sk, hg_, by omega, by omega, hsk, rfl, rfl, rfl, e_sk, (show nJ (12 ^ Y) / nJ (Nat.gcd (12 ^ Y) (sk ^ Y)) = nJ (if sk ^ Y = 0 then p else if p = 0 then _ else _) by rw [if_neg (fun q => c4 ((nJ_eq0 hp1).mpr q)), if_neg nc5]; exact nJ_div (by omega) (by omega))⟩)⟩)
          · have nc5 : p = 0 := (nI_eq (a := p) (b := 0) (by omega) (by omega)).mp c5
            refine xr_lload dX10_alone_121 2 rfl ?_
            refine xr_lload dX10_alone_123 0 rfl ?_
            refine xr_ldiv dX10_alone_125 (fun q => absurd ((nJ_eq0 (by omega)).mp q) (by omega)) ?_
            refine xr_goto (tgt := 134) dX10_alone_126 rfl ?_
            exact xr_lret dX10_alone_134 rfl (⟨_, rfl, rfl, rfl, rfl, (Or.inr ⟨⟨c1, c2, c3⟩, g_, Y, p, sk, hg_, by omega, by omega, hsk, rfl, rfl, rfl, e_sk, (show nJ (sk ^ Y) / nJ (Nat.gcd (12 ^ Y) (sk ^ Y)) = nJ (if sk ^ Y = 0 then p else if p = 0 then _ else _) by rw [if_neg (fun q => c4 ((nJ_eq0 hp1).mpr q)), if_pos nc5]; exact nJ_div (by omega) (by omega))⟩)⟩)
        · refine xr_iload_n dX10_alone_81 2 rfl ?_
          refine xr_i2l dX10_alone_82 ?_
          exact xr_lret dX10_alone_83 rfl (⟨_, rfl, rfl, rfl, rfl, (Or.inr ⟨⟨c1, c2, c3⟩, g_, Y, p, sk, hg_, by omega, by omega, hsk, rfl, rfl, rfl, e_sk, (show (nI p).toInt64 = nJ (if sk ^ Y = 0 then p else _) by rw [if_pos ((nJ_eq0 hp1).mp c4)]; exact nI_J (by omega))⟩)⟩)
      · refine xr_ldc2 coX10_320 dX10_alone_29 ?_
        exact xr_lret dX10_alone_32 rfl (⟨_, rfl, rfl, rfl, rfl, (Or.inl ⟨(fun q => c3 q.2.2), by decide⟩)⟩)
