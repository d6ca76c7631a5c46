theorem dX7_lasting_10 : decode cX7_lasting 10 = .ok (.iload_n 2, 1) := by decide +kernel
theorem dX7_lasting_11 : decode cX7_lasting 11 = .ok (.sipush 200, 3) := by decide +kernel
theorem dX7_lasting_14 : decode cX7_lasting 14 = .ok (.if_icmp .ge 26, 3) := by decide +kernel
theorem dX7_lasting_40 : decode cX7_lasting 40 = .ok (.sipush 200, 3) := by decide +kernel
theorem dX7_lasting_43 : decode cX7_lasting 43 = .ok (.ireturn, 1) := by decide +kernel
theorem dX7_lasting_17 : decode cX7_lasting 17 = .ok (.aload_n 0, 1) := by decide +kernel
theorem dX7_lasting_18 : decode cX7_lasting 18 = .ok (.invokevirtual 64, 3) := by decide +kernel
theorem dX7_lasting_21 : decode cX7_lasting 21 = .ok (.aload_n 0, 1) := by decide +kernel
theorem dX7_lasting_22 : decode cX7_lasting 22 = .ok (.getfield 15, 3) := by decide +kernel
theorem dX7_lasting_25 : decode cX7_lasting 25 = .ok (.invokevirtual 76, 3) := by decide +kernel
theorem dX7_lasting_28 : decode cX7_lasting 28 = .ok (.iload_n 1, 1) := by decide +kernel
theorem dX7_lasting_29 : decode cX7_lasting 29 = .ok (.if_icmp .ge 5, 3) := by decide +kernel
theorem dX7_lasting_34 : decode cX7_lasting 34 = .ok (.iinc 2 1, 3) := by decide +kernel
theorem dX7_lasting_37 : decode cX7_lasting 37 = .ok (.goto (-27), 3) := by decide +kernel
theorem dX7_lasting_0 : decode cX7_lasting 0 = .ok (.aload_n 0, 1) := by decide +kernel
theorem dX7_lasting_1 : decode cX7_lasting 1 = .ok (.getfield 15, 3) := by decide +kernel
theorem dX7_lasting_4 : decode cX7_lasting 4 = .ok (.invokevirtual 76, 3) := by decide +kernel
theorem dX7_lasting_7 : decode cX7_lasting 7 = .ok (.istore_n 1, 1) := by decide +kernel
theorem dX7_lasting_8 : decode cX7_lasting 8 = .ok (.iconst 0, 1) := by decide +kernel
theorem dX7_lasting_9 : decode cX7_lasting 9 = .ok (.istore_n 2, 1) := by decide +kernel
theorem dX7_caughtAgain_4 : decode cX7_caughtAgain 4 = .ok (.iload_n 2, 1) := by decide +kernel
theorem dX7_caughtAgain_5 : decode cX7_caughtAgain 5 = .ok (.sipush 200, 3) := by decide +kernel
theorem dX7_caughtAgain_8 : decode cX7_caughtAgain 8 = .ok (.if_icmp .gt 45, 3) := by decide +kernel
theorem dX7_caughtAgain_53 : decode cX7_caughtAgain 53 = .ok (.iload_n 1, 1) := by decide +kernel
theorem dX7_caughtAgain_54 : decode cX7_caughtAgain 54 = .ok (.ifCond .eq 8, 3) := by decide +kernel
theorem dX7_caughtAgain_62 : decode cX7_caughtAgain 62 = .ok (.iconst 0, 1) := by decide +kernel
theorem dX7_caughtAgain_63 : decode cX7_caughtAgain 63 = .ok (.ireturn, 1) := by decide +kernel
theorem dX7_caughtAgain_11 : decode cX7_caughtAgain 11 = .ok (.aload_n 0, 1) := by decide +kernel
theorem dX7_caughtAgain_12 : decode cX7_caughtAgain 12 = .ok (.getfield 15, 3) := by decide +kernel
theorem dX7_caughtAgain_15 : decode cX7_caughtAgain 15 = .ok (.invokevirtual 79, 3) := by decide +kernel
theorem dX7_caughtAgain_18 : decode cX7_caughtAgain 18 = .ok (.istore_n 3, 1) := by decide +kernel
theorem dX7_caughtAgain_19 : decode cX7_caughtAgain 19 = .ok (.iload_n 3, 1) := by decide +kernel
theorem dX7_caughtAgain_20 : decode cX7_caughtAgain 20 = .ok (.ifCond .eq 9, 3) := by decide +kernel
theorem dX7_caughtAgain_23 : decode cX7_caughtAgain 23 = .ok (.iload_n 1, 1) := by decide +kernel
theorem dX7_caughtAgain_24 : decode cX7_caughtAgain 24 = .ok (.ifCond .eq 5, 3) := by decide +kernel
theorem dX7_caughtAgain_29 : decode cX7_caughtAgain 29 = .ok (.iload_n 3, 1) := by decide +kernel
theorem dX7_caughtAgain_30 : decode cX7_caughtAgain 30 = .ok (.ifCond .eq 7, 3) := by decide +kernel
theorem dX7_caughtAgain_33 : decode cX7_caughtAgain 33 = .ok (.iload_n 1, 1) := by decide +kernel
theorem dX7_caughtAgain_34 : decode cX7_caughtAgain 34 = .ok (.ifCond .eq 7, 3) := by decide +kernel
theorem dX7_caughtAgain_41 : decode cX7_caughtAgain 41 = .ok (.iconst 0, 1) := by decide +kernel
theorem dX7_caughtAgain_42 : decode cX7_caughtAgain 42 = .ok (.istore_n 1, 1) := by decide +kernel
theorem dX7_caughtAgain_43 : decode cX7_caughtAgain 43 = .ok (.aload_n 0, 1) := by decide +kernel
theorem dX7_caughtAgain_44 : decode cX7_caughtAgain 44 = .ok (.invokevirtual 64, 3) := by decide +kernel
theorem dX7_caughtAgain_47 : decode cX7_caughtAgain 47 = .ok (.iinc 2 1, 3) := by decide +kernel
theorem dX7_caughtAgain_50 : decode cX7_caughtAgain 50 = .ok (.goto (-46), 3) := by decide +kernel
theorem dX7_caughtAgain_0 : decode cX7_caughtAgain 0 = .ok (.iconst 0, 1) := by decide +kernel
theorem dX7_caughtAgain_1 : decode cX7_caughtAgain 1 = .ok (.istore_n 1, 1) := by decide +kernel
theorem dX7_caughtAgain_2 : decode cX7_caughtAgain 2 = .ok (.iconst 0, 1) := by decide +kernel
theorem dX7_caughtAgain_3 : decode cX7_caughtAgain 3 = .ok (.istore_n 2, 1) := by decide +kernel
theorem dX7_leaveOut_0 : decode cX7_leaveOut 0 = .ok (.aload_n 0, 1) := by decide +kernel
theorem dX7_leaveOut_1 : decode cX7_leaveOut 1 = .ok (.iload_n 1, 1) := by decide +kernel
theorem dX7_leaveOut_2 : decode cX7_leaveOut 2 = .ok (.putfield 31, 3) := by decide +kernel
theorem dX7_leaveOut_5 : decode cX7_leaveOut 5 = .ok (.return_, 1) := by decide +kernel
theorem dX5_isFull_0 : decode cX5_isFull 0 = .ok (.aload_n 0, 1) := by decide +kernel
theorem dX5_isFull_1 : decode cX5_isFull 1 = .ok (.getfield 35, 3) := by decide +kernel
theorem dX5_isFull_4 : decode cX5_isFull 4 = .ok (.iconst 5, 1) := by decide +kernel
theorem dX5_isFull_5 : decode cX5_isFull 5 = .ok (.if_icmp .lt 7, 3) := by decide +kernel
theorem dX5_isFull_12 : decode cX5_isFull 12 = .ok (.iconst 0, 1) := by decide +kernel
theorem dX5_isFull_13 : decode cX5_isFull 13 = .ok (.ireturn, 1) := by decide +kernel
theorem dX5_isFull_8 : decode cX5_isFull 8 = .ok (.iconst 1, 1) := by decide +kernel
theorem dX5_isFull_9 : decode cX5_isFull 9 = .ok (.goto 4, 3) := by decide +kernel
theorem dX5_has_0 : decode cX5_has 0 = .ok (.iload_n 1, 1) := by decide +kernel
theorem dX5_has_1 : decode cX5_has 1 = .ok (.ifCond .lt 15, 3) := by decide +kernel
theorem dX5_has_16 : decode cX5_has 16 = .ok (.iconst 0, 1) := by decide +kernel
theorem dX5_has_17 : decode cX5_has 17 = .ok (.ireturn, 1) := by decide +kernel
theorem dX5_has_4 : decode cX5_has 4 = .ok (.iload_n 1, 1) := by decide +kernel
theorem dX5_has_5 : decode cX5_has 5 = .ok (.aload_n 0, 1) := by decide +kernel
theorem dX5_has_6 : decode cX5_has 6 = .ok (.getfield 35, 3) := by decide +kernel
theorem dX5_has_9 : decode cX5_has 9 = .ok (.if_icmp .ge 7, 3) := by decide +kernel
theorem dX5_has_12 : decode cX5_has 12 = .ok (.iconst 1, 1) := by decide +kernel
theorem dX5_has_13 : decode cX5_has 13 = .ok (.goto 4, 3) := by decide +kernel
theorem dX2_raise_0 : decode cX2_raise 0 = .ok (.aload_n 0, 1) := by decide +kernel
theorem dX2_raise_1 : decode cX2_raise 1 = .ok (.iconst 0, 1) := by decide +kernel
theorem dX2_raise_2 : decode cX2_raise 2 = .ok (.putfield 22, 3) := by decide +kernel
theorem dX2_raise_5 : decode cX2_raise 5 = .ok (.aload_n 0, 1) := by decide +kernel
theorem dX2_raise_6 : decode cX2_raise 6 = .ok (.iconst 4, 1) := by decide +kernel
theorem dX2_raise_7 : decode cX2_raise 7 = .ok (.putfield 25, 3) := by decide +kernel
theorem dX2_raise_10 : decode cX2_raise 10 = .ok (.aload_n 0, 1) := by decide +kernel
theorem dX2_raise_11 : decode cX2_raise 11 = .ok (.bipush 20, 2) := by decide +kernel
theorem dX2_raise_13 : decode cX2_raise 13 = .ok (.putfield 28, 3) := by decide +kernel
theorem dX2_raise_16 : decode cX2_raise 16 = .ok (.return_, 1) := by decide +kernel
theorem dX8_has_0 : decode cX8_has 0 = .ok (.iload_n 1, 1) := by decide +kernel
theorem dX8_has_1 : decode cX8_has 1 = .ok (.ifCond .lt 15, 3) := by decide +kernel
theorem dX8_has_16 : decode cX8_has 16 = .ok (.iconst 0, 1) := by decide +kernel
theorem dX8_has_17 : decode cX8_has 17 = .ok (.ireturn, 1) := by decide +kernel
theorem dX8_has_4 : decode cX8_has 4 = .ok (.iload_n 1, 1) := by decide +kernel
theorem dX8_has_5 : decode cX8_has 5 = .ok (.aload_n 0, 1) := by decide +kernel
theorem dX8_has_6 : decode cX8_has 6 = .ok (.getfield 18, 3) := by decide +kernel
theorem dX8_has_9 : decode cX8_has 9 = .ok (.if_icmp .ge 7, 3) := by decide +kernel
theorem dX8_has_12 : decode cX8_has 12 = .ok (.iconst 1, 1) := by decide +kernel
theorem dX8_has_13 : decode cX8_has 13 = .ok (.goto 4, 3) := by decide +kernel
theorem dX8_isFull_0 : decode cX8_isFull 0 = .ok (.aload_n 0, 1) := by decide +kernel
theorem dX8_isFull_1 : decode cX8_isFull 1 = .ok (.getfield 18, 3) := by decide +kernel
theorem dX8_isFull_4 : decode cX8_isFull 4 = .ok (.bipush 50, 2) := by decide +kernel
theorem dX8_isFull_6 : decode cX8_isFull 6 = .ok (.if_icmp .lt 7, 3) := by decide +kernel
theorem dX8_isFull_13 : decode cX8_isFull 13 = .ok (.iconst 0, 1) := by decide +kernel
theorem dX8_isFull_14 : decode cX8_isFull 14 = .ok (.ireturn, 1) := by decide +kernel
theorem dX8_isFull_9 : decode cX8_isFull 9 = .ok (.iconst 1, 1) := by decide +kernel
theorem dX8_isFull_10 : decode cX8_isFull 10 = .ok (.goto 4, 3) := by decide +kernel
set_option maxRecDepth 100000 in
set_option maxHeartbeats 4000000 in
theorem lp_lasting {l : Launch} {G : xG} {J : xJ} : ∀ (m k : Nat) (M : xM), k + m = 200 → E0 M → x_X l G fX7_lasting 3 0 0 (qE0 (some (.int 200)) J) 10 [(2, .int (nI (k))), (1, .int (0)), (0, .ref (27))] [] x_SH M J 0 0 := by
  intro m
  induction m with
  | zero =>
    intro k M hk e
    refine xr_iload_n dX7_lasting_10 0 rfl ?_
    refine xr_sipush (v := 200) dX7_lasting_11 rfl ?_
    refine xr_icmp_ge (tgt := 40) dX7_lasting_14 rfl (fun _ => ?_) (fun c => absurd (nI_le (a := 200) (b := k) (by omega) (by omega)) c)
    refine xr_sipush (v := 200) dX7_lasting_40 rfl ?_
    exact xr_iret dX7_lasting_43 rfl rfl (⟨rfl, rfl, rfl, e⟩)
  | succ m ih =>
    intro k M hk e
    refine xr_iload_n dX7_lasting_10 0 rfl ?_
    refine xr_sipush (v := 200) dX7_lasting_11 rfl ?_
    refine xr_icmp_ge (tgt := 40) dX7_lasting_14 rfl (fun c => absurd c (nI_ge (a := k) (b := 200) (by omega) (by omega))) (fun _ => ?_)
    refine xr_aload_n dX7_lasting_17 2 rfl ?_
    refine xr_callV (As := []) (rest := []) mlX7_64 (c0_step e) dX7_lasting_18 s_27 rfl rfl (Nat.le_of_ble_eq_true rfl) (by decide) ⟨by decide, by decide⟩ (fun v s2 M1 J2 hq => ?_)
    obtain ⟨rfl, rfl, rfl, e2⟩ := hq
    try dsimp only [Option.toList, List.cons_append, List.nil_append]
    refine xr_aload_n dX7_lasting_21 2 rfl ?_
    refine xr_getR flX7_15 dX7_lasting_22 s_27 rfl ?_
    refine xb_cV (As := []) (rest := []) mlX7_76 (c0_upright_28 e2) dX7_lasting_25 s_28 rfl rfl (Nat.le_of_ble_eq_true rfl) (by decide) (by decide) ?_
    refine xr_iload_n dX7_lasting_28 1 rfl ?_
    refine xr_icmp_ge (tgt := 34) dX7_lasting_29 rfl (fun _ => ?_) (fun c => absurd (by decide) c)
    refine xr_iinc (v := nI (k + 1)) (ls2 := [(2, .int (nI (k + 1))), (1, .int (0)), (0, .ref (27))]) dX7_lasting_34 0 rfl (nI_1 _) (by decide) rfl ?_
    refine xr_goto (tgt := 10) dX7_lasting_37 rfl ?_
    refine xb_ls (ls2 := [(2, .int (nI (k + 1))), (1, .int (0)), (0, .ref (27))]) [0, 1, 2] rfl ?_
    exact ih (k + 1) M1 (by omega) e2
set_option maxRecDepth 100000 in
set_option maxHeartbeats 4000000 in
theorem c0_lasting {l : Launch} {G : xG} {M : xM} {J : xJ} (e : E0 M) : x_M l G fX7_lasting 3 0 0 [.ref (27)] x_SH M J (qE0 (some (.int 200)) J) := by
  refine xb_of pX7 (Nat.le_of_ble_eq_true rfl) rfl ?_
  refine xr_aload_n dX7_lasting_0 0 rfl ?_
  refine xr_getR flX7_15 dX7_lasting_1 s_27 rfl ?_
  refine xb_cV (As := []) (rest := []) mlX7_76 (c0_upright_28 e) dX7_lasting_4 s_28 rfl rfl (Nat.le_of_ble_eq_true rfl) (by decide) (by decide) ?_
  refine xr_istore_n (ls2 := [(1, .int (0)), (0, .ref (27))]) dX7_lasting_7 (by decide) rfl ?_
  refine xr_iconst (v := 0) dX7_lasting_8 rfl ?_
  refine xr_istore_n (ls2 := [(2, .int (0)), (1, .int (0)), (0, .ref (27))]) dX7_lasting_9 (by decide) rfl ?_
  refine xb_ls (ls2 := [(2, .int (nI (0))), (1, .int (0)), (0, .ref (27))]) [0, 1, 2] rfl ?_
  exact lp_lasting 200 0 M (by omega) e
set_option maxRecDepth 100000 in
set_option maxHeartbeats 4000000 in
theorem lp_caught {l : Launch} {G : xG} {J : xJ} : ∀ (m k : Nat) (M : xM), k + m = 200 + 1 → E0 M → x_X l G fX7_caughtAgain 3 0 0 (qE0 (some (.int 0)) J) 4 [(2, .int (nI (k))), (1, .int (0)), (0, .ref (27))] [] x_SH M J 0 0 := by
  intro m
  induction m with
  | zero =>
    intro k M hk e
    refine xr_iload_n dX7_caughtAgain_4 0 rfl ?_
    refine xr_sipush (v := 200) dX7_caughtAgain_5 rfl ?_
    refine xr_icmp_gt (tgt := 53) dX7_caughtAgain_8 rfl (fun _ => ?_) (fun c => absurd (nI_lt (a := 200) (b := k) (by omega) (by omega)) c)
    refine xr_iload_n dX7_caughtAgain_53 1 rfl ?_
    refine xr_if_eq (tgt := 62) dX7_caughtAgain_54 rfl (fun _ => ?_) (fun c => absurd (by decide) c)
    refine xr_iconst (v := 0) dX7_caughtAgain_62 rfl ?_
    exact xr_iret dX7_caughtAgain_63 rfl rfl (⟨rfl, rfl, rfl, e⟩)
  | succ m ih =>
    intro k M hk e
    refine xr_iload_n dX7_caughtAgain_4 0 rfl ?_
    refine xr_sipush (v := 200) dX7_caughtAgain_5 rfl ?_
    refine xr_icmp_gt (tgt := 53) dX7_caughtAgain_8 rfl (fun c => absurd c (nI_nlt (a := 200) (b := k) (by omega) (by omega))) (fun _ => ?_)
    refine xr_aload_n dX7_caughtAgain_11 2 rfl ?_
    refine xr_getR flX7_15 dX7_caughtAgain_12 s_27 rfl ?_
    refine xb_cV (As := []) (rest := []) mlX7_79 (c0_allHighest_28 e) dX7_caughtAgain_15 s_28 rfl rfl (Nat.le_of_ble_eq_true rfl) (by decide) (by decide) ?_
    refine xr_istore_n (ls2 := [(3, .int (1)), (2, .int (nI (k))), (1, .int (0)), (0, .ref (27))]) dX7_caughtAgain_18 (by decide) rfl ?_
    refine xr_iload_n dX7_caughtAgain_19 0 rfl ?_
    refine xr_if_eq (tgt := 29) dX7_caughtAgain_20 rfl (fun c => absurd c (by decide)) (fun _ => ?_)
    refine xr_iload_n dX7_caughtAgain_23 2 rfl ?_
    refine xr_if_eq (tgt := 29) dX7_caughtAgain_24 rfl (fun _ => ?_) (fun c => absurd (by decide) c)
    refine xr_iload_n dX7_caughtAgain_29 0 rfl ?_
    refine xr_if_eq (tgt := 37) dX7_caughtAgain_30 rfl (fun c => absurd c (by decide)) (fun _ => ?_)
    refine xr_iload_n dX7_caughtAgain_33 2 rfl ?_
    refine xr_if_eq (tgt := 41) dX7_caughtAgain_34 rfl (fun _ => ?_) (fun c => absurd (by decide) c)
    refine xr_iconst (v := 0) dX7_caughtAgain_41 rfl ?_
    refine xr_istore_n (ls2 := [(1, .int (0)), (3, .int (1)), (2, .int (nI (k))), (0, .ref (27))]) dX7_caughtAgain_42 (by decide) rfl ?_
    refine xr_aload_n dX7_caughtAgain_43 3 rfl ?_
    refine xr_callV (As := []) (rest := []) mlX7_64 (c0_step e) dX7_caughtAgain_44 s_27 rfl rfl (Nat.le_of_ble_eq_true rfl) (by decide) ⟨by decide, by decide⟩ (fun v s2 M1 J2 hq => ?_)
    obtain ⟨rfl, rfl, rfl, e2⟩ := hq
    try dsimp only [Option.toList, List.cons_append, List.nil_append]
    refine xr_iinc (v := nI (k + 1)) (ls2 := [(2, .int (nI (k + 1))), (1, .int (0)), (3, .int (1)), (0, .ref (27))]) dX7_caughtAgain_47 2 rfl (nI_1 _) (by decide) rfl ?_
    refine xr_goto (tgt := 4) dX7_caughtAgain_50 rfl ?_
    refine xb_ls (ls2 := [(2, .int (nI (k + 1))), (1, .int (0)), (0, .ref (27))]) [0, 1, 3] rfl ?_
    exact ih (k + 1) M1 (by omega) e2
set_option maxRecDepth 100000 in
set_option maxHeartbeats 4000000 in
theorem c0_caught {l : Launch} {G : xG} {M : xM} {J : xJ} (e : E0 M) : x_M l G fX7_caughtAgain 3 0 0 [.ref (27)] x_SH M J (qE0 (some (.int 0)) J) := by
  refine xb_of pX7 (Nat.le_of_ble_eq_true rfl) rfl ?_
  refine xr_iconst (v := 0) dX7_caughtAgain_0 rfl ?_
  refine xr_istore_n (ls2 := [(1, .int (0)), (0, .ref (27))]) dX7_caughtAgain_1 (by decide) rfl ?_
  refine xr_iconst (v := 0) dX7_caughtAgain_2 rfl ?_
  refine xr_istore_n (ls2 := [(2, .int (0)), (1, .int (0)), (0, .ref (27))]) dX7_caughtAgain_3 (by decide) rfl ?_
  refine xb_ls (ls2 := [(2, .int (nI (0))), (1, .int (0)), (0, .ref (27))]) [0, 1, 2] rfl ?_
  exact lp_caught 201 0 M (by omega) e
set_option maxRecDepth 100000 in
set_option maxHeartbeats 4000000 in
theorem c0_leaveOut (m : Int32) {l : Launch} {G : xG} {M : xM} {J : xJ} (e : E0 M) : x_M l G fX7_leaveOut 0 0 0 [.ref (27), .int (m)] x_SH M J (qE0 (none) J) := by
  refine xb_of pX7 (Nat.le_of_ble_eq_true rfl) rfl ?_
  refine xr_aload_n dX7_leaveOut_0 0 rfl ?_
  refine xr_iload_n dX7_leaveOut_1 1 rfl ?_
  refine xr_putI fpX7_31 dX7_leaveOut_2 s_27 rfl rfl rfl ?_
  exact xr_vret dX7_leaveOut_5 rfl (⟨rfl, rfl, rfl, (E0_up (by decide) e)⟩)
set_option maxRecDepth 100000 in
set_option maxHeartbeats 4000000 in
theorem c_X5_isFull {b hp : Nat} (hb : x_SH[b]? = some (.inl (5, [some (some 1), some (some hp), none, none, none, none, none, none, none, none]))) {l : Launch} {G : xG} {M : xM} {J : xJ} : x_M l G fX5_isFull 0 0 0 [.ref (b)] x_SH M J (qE (some (.int (bI (5 ≤ M b 2)))) x_SH M J) := by
  refine xb_of pX5 (Nat.le_of_ble_eq_true rfl) rfl ?_
  refine xr_aload_n dX5_isFull_0 0 rfl ?_
  refine xb_get (v := M b 2) flX5_35 dX5_isFull_1 hb rfl rfl ?_
  refine xr_iconst (v := 5) dX5_isFull_4 rfl ?_
  refine xr_icmp_lt (tgt := 12) dX5_isFull_5 rfl (fun c1 => ?_) (fun c1 => ?_)
  · refine xr_iconst (v := 0) dX5_isFull_12 rfl ?_
    exact xr_iret dX5_isFull_13 rfl rfl (⟨congrArg (fun z => some (Value.int z)) (bI_f (by grind)).symm, rfl, rfl, rfl⟩)
  · refine xr_iconst (v := 1) dX5_isFull_8 rfl ?_
    refine xr_goto (tgt := 13) dX5_isFull_9 rfl ?_
    exact xr_iret dX5_isFull_13 rfl rfl (⟨congrArg (fun z => some (Value.int z)) (bI_t (by grind)).symm, rfl, rfl, rfl⟩)
set_option maxRecDepth 100000 in
set_option maxHeartbeats 4000000 in
theorem c_X5_has (h : Int32) {b hp : Nat} (hb : x_SH[b]? = some (.inl (5, [some (some 1), some (some hp), none, none, none, none, none, none, none, none]))) {l : Launch} {G : xG} {M : xM} {J : xJ} : x_M l G fX5_has 0 0 0 [.ref (b), .int (h)] x_SH M J (qE (some (.int (bI (0 ≤ h ∧ h < M b 2)))) x_SH M J) := by
  refine xb_of pX5 (Nat.le_of_ble_eq_true rfl) rfl ?_
  refine xr_iload_n dX5_has_0 1 rfl ?_
  refine xr_if_lt (tgt := 16) dX5_has_1 rfl (fun c1 => ?_) (fun c1 => ?_)
  · refine xr_iconst (v := 0) dX5_has_16 rfl ?_
    exact xr_iret dX5_has_17 rfl rfl (⟨congrArg (fun z => some (Value.int z)) (bI_f (by grind)).symm, rfl, rfl, rfl⟩)
  · refine xr_iload_n dX5_has_4 1 rfl ?_
    refine xr_aload_n dX5_has_5 0 rfl ?_
    refine xb_get (v := M b 2) flX5_35 dX5_has_6 hb rfl rfl ?_
    refine xr_icmp_ge (tgt := 16) dX5_has_9 rfl (fun c2 => ?_) (fun c2 => ?_)
    · refine xr_iconst (v := 0) dX5_has_16 rfl ?_
      exact xr_iret dX5_has_17 rfl rfl (⟨congrArg (fun z => some (Value.int z)) (bI_f (by grind)).symm, rfl, rfl, rfl⟩)
    · refine xr_iconst (v := 1) dX5_has_12 rfl ?_
      refine xr_goto (tgt := 17) dX5_has_13 rfl ?_
      exact xr_iret dX5_has_17 rfl rfl (⟨congrArg (fun z => some (Value.int z)) (bI_t (by grind)).symm, rfl, rfl, rfl⟩)
set_option maxRecDepth 100000 in
set_option maxHeartbeats 4000000 in
theorem c_X2_raise {h : Nat} (hh : x_SH[h]? = some (.inl (2, [none, none, none, none, none]))) {l : Launch} {G : xG} {M : xM} {J : xJ} : x_M l G fX2_raise 0 0 0 [.ref (h)] x_SH M J (qE (none) x_SH (x_up (x_up (x_up M h 2 0) h 3 4) h 4 20) J) := by
  refine xb_of pX2 (Nat.le_of_ble_eq_true rfl) rfl ?_
  refine xr_aload_n dX2_raise_0 0 rfl ?_
  refine xr_iconst (v := 0) dX2_raise_1 rfl ?_
  refine xr_putI fpX2_22 dX2_raise_2 hh rfl rfl rfl ?_
  refine xr_aload_n dX2_raise_5 0 rfl ?_
  refine xr_iconst (v := 4) dX2_raise_6 rfl ?_
  refine xr_putI fpX2_25 dX2_raise_7 hh rfl rfl rfl ?_
  refine xr_aload_n dX2_raise_10 0 rfl ?_
  refine xr_bipush (v := 20) dX2_raise_11 rfl ?_
  refine xr_putI fpX2_28 dX2_raise_13 hh rfl rfl rfl ?_
  exact xr_vret dX2_raise_16 rfl (⟨rfl, rfl, rfl, rfl⟩)
set_option maxRecDepth 100000 in
set_option maxHeartbeats 4000000 in
theorem c_X8_has (b : Int32) {l : Launch} {G : xG} {M : xM} {J : xJ} : x_M l G fX8_has 0 0 0 [.ref (46), .int (b)] x_SH M J (qE (some (.int (bI (0 ≤ b ∧ b < M 46 2)))) x_SH M J) := by
  refine xb_of pX8 (Nat.le_of_ble_eq_true rfl) rfl ?_
  refine xr_iload_n dX8_has_0 1 rfl ?_
  refine xr_if_lt (tgt := 16) dX8_has_1 rfl (fun c1 => ?_) (fun c1 => ?_)
  · refine xr_iconst (v := 0) dX8_has_16 rfl ?_
    exact xr_iret dX8_has_17 rfl rfl (⟨congrArg (fun z => some (Value.int z)) (bI_f (by grind)).symm, rfl, rfl, rfl⟩)
  · refine xr_iload_n dX8_has_4 1 rfl ?_
    refine xr_aload_n dX8_has_5 0 rfl ?_
    refine xb_get (v := M 46 2) flX8_18 dX8_has_6 s_46 rfl rfl ?_
    refine xr_icmp_ge (tgt := 16) dX8_has_9 rfl (fun c2 => ?_) (fun c2 => ?_)
    · refine xr_iconst (v := 0) dX8_has_16 rfl ?_
      exact xr_iret dX8_has_17 rfl rfl (⟨congrArg (fun z => some (Value.int z)) (bI_f (by grind)).symm, rfl, rfl, rfl⟩)
    · refine xr_iconst (v := 1) dX8_has_12 rfl ?_
      refine xr_goto (tgt := 17) dX8_has_13 rfl ?_
      exact xr_iret dX8_has_17 rfl rfl (⟨congrArg (fun z => some (Value.int z)) (bI_t (by grind)).symm, rfl, rfl, rfl⟩)
set_option maxRecDepth 100000 in
set_option maxHeartbeats 4000000 in
theorem c_X8_isFull {l : Launch} {G : xG} {M : xM} {J : xJ} : x_M l G fX8_isFull 0 0 0 [.ref (46)] x_SH M J (qE (some (.int (bI (50 ≤ M 46 2)))) x_SH M J) := by
  refine xb_of pX8 (Nat.le_of_ble_eq_true rfl) rfl ?_
  refine xr_aload_n dX8_isFull_0 0 rfl ?_
  refine xb_get (v := M 46 2) flX8_18 dX8_isFull_1 s_46 rfl rfl ?_
  refine xr_bipush (v := 50) dX8_isFull_4 rfl ?_
  refine xr_icmp_lt (tgt := 13) dX8_isFull_6 rfl (fun c1 => ?_) (fun c1 => ?_)
  · refine xr_iconst (v := 0) dX8_isFull_13 rfl ?_
    exact xr_iret dX8_isFull_14 rfl rfl (⟨congrArg (fun z => some (Value.int z)) (bI_f (by grind)).symm, rfl, rfl, rfl⟩)
  · refine xr_iconst (v := 1) dX8_isFull_9 rfl ?_
    refine xr_goto (tgt := 14) dX8_isFull_10 rfl ?_
    exact xr_iret dX8_isFull_14 rfl rfl (⟨congrArg (fun z => some (Value.int z)) (bI_t (by grind)).symm, rfl, rfl, rfl⟩)
