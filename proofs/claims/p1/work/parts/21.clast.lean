theorem dX1_howManyUp_4 : decode cX1_howManyUp 4 = .ok (.iload_n 2, 1) := by decide +kernel
theorem dX1_howManyUp_5 : decode cX1_howManyUp 5 = .ok (.bipush 25, 2) := by decide +kernel
theorem dX1_howManyUp_7 : decode cX1_howManyUp 7 = .ok (.if_icmp .ge 21, 3) := by decide +kernel
theorem dX1_howManyUp_28 : decode cX1_howManyUp 28 = .ok (.iload_n 1, 1) := by decide +kernel
theorem dX1_howManyUp_29 : decode cX1_howManyUp 29 = .ok (.ireturn, 1) := by decide +kernel
theorem dX1_howManyUp_10 : decode cX1_howManyUp 10 = .ok (.aload_n 0, 1) := by decide +kernel
theorem dX1_howManyUp_11 : decode cX1_howManyUp 11 = .ok (.getfield 18, 3) := by decide +kernel
theorem dX1_howManyUp_14 : decode cX1_howManyUp 14 = .ok (.iload_n 2, 1) := by decide +kernel
theorem dX1_howManyUp_15 : decode cX1_howManyUp 15 = .ok (.baload, 1) := by decide +kernel
theorem dX1_howManyUp_16 : decode cX1_howManyUp 16 = .ok (.ifCond .eq 6, 3) := by decide +kernel
theorem dX1_howManyUp_22 : decode cX1_howManyUp 22 = .ok (.iinc 2 1, 3) := by decide +kernel
theorem dX1_howManyUp_25 : decode cX1_howManyUp 25 = .ok (.goto (-21), 3) := by decide +kernel
theorem dX1_howManyUp_19 : decode cX1_howManyUp 19 = .ok (.iinc 1 1, 3) := by decide +kernel
theorem dX1_longest_4 : decode cX1_longest 4 = .ok (.iload_n 2, 1) := by decide +kernel
theorem dX1_longest_5 : decode cX1_longest 5 = .ok (.bipush 25, 2) := by decide +kernel
theorem dX1_longest_7 : decode cX1_longest 7 = .ok (.if_icmp .ge 26, 3) := by decide +kernel
theorem dX1_longest_33 : decode cX1_longest 33 = .ok (.iload_n 1, 1) := by decide +kernel
theorem dX1_longest_34 : decode cX1_longest 34 = .ok (.ireturn, 1) := by decide +kernel
theorem dX1_longest_10 : decode cX1_longest 10 = .ok (.aload_n 0, 1) := by decide +kernel
theorem dX1_longest_11 : decode cX1_longest 11 = .ok (.getfield 25, 3) := by decide +kernel
theorem dX1_longest_14 : decode cX1_longest 14 = .ok (.iload_n 2, 1) := by decide +kernel
theorem dX1_longest_15 : decode cX1_longest 15 = .ok (.iaload, 1) := by decide +kernel
theorem dX1_longest_16 : decode cX1_longest 16 = .ok (.aload_n 0, 1) := by decide +kernel
theorem dX1_longest_17 : decode cX1_longest 17 = .ok (.getfield 25, 3) := by decide +kernel
theorem dX1_longest_20 : decode cX1_longest 20 = .ok (.iload_n 1, 1) := by decide +kernel
theorem dX1_longest_21 : decode cX1_longest 21 = .ok (.iaload, 1) := by decide +kernel
theorem dX1_longest_22 : decode cX1_longest 22 = .ok (.if_icmp .le 5, 3) := by decide +kernel
theorem dX1_longest_27 : decode cX1_longest 27 = .ok (.iinc 2 1, 3) := by decide +kernel
theorem dX1_longest_30 : decode cX1_longest 30 = .ok (.goto (-26), 3) := by decide +kernel
theorem dX1_longest_25 : decode cX1_longest 25 = .ok (.iload_n 2, 1) := by decide +kernel
theorem dX1_longest_26 : decode cX1_longest 26 = .ok (.istore_n 1, 1) := by decide +kernel
theorem dX1_howManyUp_0 : decode cX1_howManyUp 0 = .ok (.iconst 0, 1) := by decide +kernel
theorem dX1_howManyUp_1 : decode cX1_howManyUp 1 = .ok (.istore_n 1, 1) := by decide +kernel
theorem dX1_howManyUp_2 : decode cX1_howManyUp 2 = .ok (.iconst 0, 1) := by decide +kernel
theorem dX1_howManyUp_3 : decode cX1_howManyUp 3 = .ok (.istore_n 2, 1) := by decide +kernel
theorem dX1_longest_0 : decode cX1_longest 0 = .ok (.iconst 0, 1) := by decide +kernel
theorem dX1_longest_1 : decode cX1_longest 1 = .ok (.istore_n 1, 1) := by decide +kernel
theorem dX1_longest_2 : decode cX1_longest 2 = .ok (.iconst 1, 1) := by decide +kernel
theorem dX1_longest_3 : decode cX1_longest 3 = .ok (.istore_n 2, 1) := by decide +kernel
def fu : Nat → Nat → (Nat → Int32) → Int32 → Int32
  | 0, _, _, c => c
  | m + 1, k, u, c => fu m (k + 1) u (if u k = 0 then c else c + 1)
def fl : Nat → Nat → (Nat → Int32) → Nat → Nat
  | 0, _, _, b => b
  | m + 1, k, d, b => fl m (k + 1) d (if d k ≤ d b then b else k)
theorem fl_lt (d : Nat → Int32) : ∀ m k b, k + m = 25 → b < 25 → fl m k d b < 25
  | 0, _, _, _, h => h
  | m + 1, k, b, hk, h => fl_lt d m (k + 1) _ (by omega) (by split <;> omega)
set_option maxRecDepth 100000 in
set_option maxHeartbeats 4000000 in
theorem hu_l {l : Launch} {G : xG} {M : xM} {J : xJ} : ∀ (m k : Nat) (c : Int32), k + m = 25 → x_X l G fX1_howManyUp 0 0 0 (qE (some (.int (fu m k (M 38) c))) x_SH M J) 4 [(2, .int (nI (k))), (1, .int (c)), (0, .ref (35))] [] x_SH M J 0 0 := by
  intro m
  induction m with
  | zero =>
    intro k c hk
    refine xr_iload_n dX1_howManyUp_4 0 rfl ?_
    refine xr_bipush (v := 25) dX1_howManyUp_5 rfl ?_
    refine xr_icmp_ge (tgt := 28) dX1_howManyUp_7 rfl (fun _ => ?_) (fun c => absurd (nI_le (a := 25) (b := k) (by omega) (by omega)) c)
    refine xr_iload_n dX1_howManyUp_28 1 rfl ?_
    exact xr_iret dX1_howManyUp_29 rfl rfl (⟨rfl, rfl, rfl, rfl⟩)
  | succ m ih =>
    intro k c hk
    have hk5 : k < 25 := by omega
    refine xr_iload_n dX1_howManyUp_4 0 rfl ?_
    refine xr_bipush (v := 25) dX1_howManyUp_5 rfl ?_
    refine xr_icmp_ge (tgt := 28) dX1_howManyUp_7 rfl (fun c => absurd c (nI_ge (a := k) (b := 25) (by omega) (by omega))) (fun _ => ?_)
    refine xr_aload_n dX1_howManyUp_10 2 rfl ?_
    refine xr_getR flX1_18 dX1_howManyUp_11 s_35 rfl ?_
    refine xr_iload_n dX1_howManyUp_14 0 rfl ?_
    refine xb_zald (j := k) (v := M 38 k) dX1_howManyUp_15 s_38 hk5 (by decide) rfl ?_
    refine xr_if_eq (tgt := 22) dX1_howManyUp_16 rfl (fun c1 => ?_) (fun c1 => ?_)
    · refine xr_iinc (v := nI (k + 1)) (ls2 := [(2, .int (nI (k + 1))), (1, .int (c)), (0, .ref (35))]) dX1_howManyUp_22 0 rfl (nI_1 _) (by decide) rfl ?_
      refine xr_goto (tgt := 4) dX1_howManyUp_25 rfl ?_
      refine xb_ls (ls2 := [(2, .int (nI (k + 1))), (1, .int (c)), (0, .ref (35))]) [0, 1, 2] rfl ?_
      have hT : fu m (k + 1) (M 38) (c) = fu (m + 1) k (M 38) c := congrArg (fu m (k + 1) (M 38)) (if_pos c1).symm
      rw [← hT]
      exact ih (k + 1) (c) (by omega)
    · refine xr_iinc (v := c + 1) (ls2 := [(1, .int (c + 1)), (2, .int (nI (k))), (0, .ref (35))]) dX1_howManyUp_19 1 rfl rfl (by decide) rfl ?_
      refine xr_iinc (v := nI (k + 1)) (ls2 := [(2, .int (nI (k + 1))), (1, .int (c + 1)), (0, .ref (35))]) dX1_howManyUp_22 1 rfl (nI_1 _) (by decide) rfl ?_
      refine xr_goto (tgt := 4) dX1_howManyUp_25 rfl ?_
      refine xb_ls (ls2 := [(2, .int (nI (k + 1))), (1, .int (c + 1)), (0, .ref (35))]) [0, 1, 2] rfl ?_
      have hT : fu m (k + 1) (M 38) (c + 1) = fu (m + 1) k (M 38) c := congrArg (fu m (k + 1) (M 38)) (if_neg c1).symm
      rw [← hT]
      exact ih (k + 1) (c + 1) (by omega)
set_option maxRecDepth 100000 in
set_option maxHeartbeats 4000000 in
theorem lo_l {l : Launch} {G : xG} {M : xM} {J : xJ} : ∀ (m k : Nat) (b : Nat), k + m = 25 → b < 25 → x_X l G fX1_longest 0 0 0 (qE (some (.int (nI (fl m k (M 40) b)))) x_SH M J) 4 [(2, .int (nI (k))), (1, .int (nI (b))), (0, .ref (35))] [] x_SH M J 0 0 := by
  intro m
  induction m with
  | zero =>
    intro k b hk hb
    refine xr_iload_n dX1_longest_4 0 rfl ?_
    refine xr_bipush (v := 25) dX1_longest_5 rfl ?_
    refine xr_icmp_ge (tgt := 33) dX1_longest_7 rfl (fun _ => ?_) (fun c => absurd (nI_le (a := 25) (b := k) (by omega) (by omega)) c)
    refine xr_iload_n dX1_longest_33 1 rfl ?_
    exact xr_iret dX1_longest_34 rfl rfl (⟨rfl, rfl, rfl, rfl⟩)
  | succ m ih =>
    intro k b hk hb
    have hk5 : k < 25 := by omega
    refine xr_iload_n dX1_longest_4 0 rfl ?_
    refine xr_bipush (v := 25) dX1_longest_5 rfl ?_
    refine xr_icmp_ge (tgt := 33) dX1_longest_7 rfl (fun c => absurd c (nI_ge (a := k) (b := 25) (by omega) (by omega))) (fun _ => ?_)
    refine xr_aload_n dX1_longest_10 2 rfl ?_
    refine xr_getR flX1_25 dX1_longest_11 s_35 rfl ?_
    refine xr_iload_n dX1_longest_14 0 rfl ?_
    refine xb_iald (j := k) (v := M 40 k) dX1_longest_15 s_40 hk5 (by decide) rfl ?_
    refine xr_aload_n dX1_longest_16 2 rfl ?_
    refine xr_getR flX1_25 dX1_longest_17 s_35 rfl ?_
    refine xr_iload_n dX1_longest_20 1 rfl ?_
    refine xb_iald (j := b) (v := M 40 b) dX1_longest_21 s_40 hb (by decide) rfl ?_
    refine xr_icmp_le (tgt := 27) dX1_longest_22 rfl (fun c1 => ?_) (fun c1 => ?_)
    · refine xr_iinc (v := nI (k + 1)) (ls2 := [(2, .int (nI (k + 1))), (1, .int (nI (b))), (0, .ref (35))]) dX1_longest_27 0 rfl (nI_1 _) (by decide) rfl ?_
      refine xr_goto (tgt := 4) dX1_longest_30 rfl ?_
      refine xb_ls (ls2 := [(2, .int (nI (k + 1))), (1, .int (nI (b))), (0, .ref (35))]) [0, 1, 2] rfl ?_
      have hT : fl m (k + 1) (M 40) (b) = fl (m + 1) k (M 40) b := congrArg (fl m (k + 1) (M 40)) (if_pos c1).symm
      rw [← hT]
      exact ih (k + 1) (b) (by omega) (by omega)
    · refine xr_iload_n dX1_longest_25 0 rfl ?_
      refine xr_istore_n (ls2 := [(1, .int (nI (k))), (2, .int (nI (k))), (0, .ref (35))]) dX1_longest_26 (by decide) rfl ?_
      refine xr_iinc (v := nI (k + 1)) (ls2 := [(2, .int (nI (k + 1))), (1, .int (nI (k))), (0, .ref (35))]) dX1_longest_27 1 rfl (nI_1 _) (by decide) rfl ?_
      refine xr_goto (tgt := 4) dX1_longest_30 rfl ?_
      refine xb_ls (ls2 := [(2, .int (nI (k + 1))), (1, .int (nI (k))), (0, .ref (35))]) [0, 1, 2] rfl ?_
      have hT : fl m (k + 1) (M 40) (k) = fl (m + 1) k (M 40) b := congrArg (fl m (k + 1) (M 40)) (if_neg c1).symm
      rw [← hT]
      exact ih (k + 1) (k) (by omega) (by omega)
set_option maxRecDepth 100000 in
set_option maxHeartbeats 4000000 in
theorem hu_M {l : Launch} {G : xG} {M : xM} {J : xJ} : x_M l G fX1_howManyUp 0 0 0 [.ref 35] x_SH M J (qE (some (.int (fu 25 0 (M 38) 0))) x_SH M J) := by
  refine xb_of pX1 (Nat.le_of_ble_eq_true rfl) rfl ?_
  refine xr_iconst (v := 0) dX1_howManyUp_0 rfl ?_
  refine xr_istore_n (ls2 := [(1, .int (0)), (0, .ref (35))]) dX1_howManyUp_1 (by decide) rfl ?_
  refine xr_iconst (v := 0) dX1_howManyUp_2 rfl ?_
  refine xr_istore_n (ls2 := [(2, .int (0)), (1, .int (0)), (0, .ref (35))]) dX1_howManyUp_3 (by decide) rfl ?_
  refine xb_ls (ls2 := [(2, .int (nI (0))), (1, .int (0)), (0, .ref (35))]) [0, 1, 2] rfl ?_
  exact hu_l 25 0 0 (by omega)
set_option maxRecDepth 100000 in
set_option maxHeartbeats 4000000 in
theorem lo_M {l : Launch} {G : xG} {M : xM} {J : xJ} : x_M l G fX1_longest 0 0 0 [.ref 35] x_SH M J (qE (some (.int (nI (fl 24 1 (M 40) 0)))) x_SH M J) := by
  refine xb_of pX1 (Nat.le_of_ble_eq_true rfl) rfl ?_
  refine xr_iconst (v := 0) dX1_longest_0 rfl ?_
  refine xr_istore_n (ls2 := [(1, .int (0)), (0, .ref (35))]) dX1_longest_1 (by decide) rfl ?_
  refine xr_iconst (v := 1) dX1_longest_2 rfl ?_
  refine xr_istore_n (ls2 := [(2, .int (1)), (1, .int (0)), (0, .ref (35))]) dX1_longest_3 (by decide) rfl ?_
  refine xb_ls (ls2 := [(2, .int (nI (1))), (1, .int (nI (0))), (0, .ref (35))]) [0, 1, 2] rfl ?_
  exact lo_l 24 1 0 (by omega) (by omega)
