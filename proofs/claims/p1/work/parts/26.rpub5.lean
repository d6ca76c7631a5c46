theorem dX10_last_24 : decode cX10_last 24 = .ok (.iload 4, 2) := by decide +kernel
theorem dX10_last_26 : decode cX10_last 26 = .ok (.bipush 25, 2) := by decide +kernel
theorem dX10_last_28 : decode cX10_last 28 = .ok (.if_icmp .ge 32, 3) := by decide +kernel
theorem dX10_last_31 : decode cX10_last 31 = .ok (.aload_n 0, 1) := by decide +kernel
theorem dX10_last_32 : decode cX10_last 32 = .ok (.getfield 63, 3) := by decide +kernel
theorem dX10_last_35 : decode cX10_last 35 = .ok (.iload 4, 2) := by decide +kernel
theorem dX10_last_37 : decode cX10_last 37 = .ok (.iaload, 1) := by decide +kernel
theorem dX10_last_38 : decode cX10_last 38 = .ok (.aload_n 0, 1) := by decide +kernel
theorem dX10_last_39 : decode cX10_last 39 = .ok (.getfield 63, 3) := by decide +kernel
theorem dX10_last_42 : decode cX10_last 42 = .ok (.iload_n 3, 1) := by decide +kernel
theorem dX10_last_43 : decode cX10_last 43 = .ok (.iaload, 1) := by decide +kernel
theorem dX10_last_44 : decode cX10_last 44 = .ok (.if_icmp .le 8, 3) := by decide +kernel
theorem dX10_last_52 : decode cX10_last 52 = .ok (.iload_n 3, 1) := by decide +kernel
theorem dX10_last_53 : decode cX10_last 53 = .ok (.istore_n 3, 1) := by decide +kernel
theorem dX10_last_54 : decode cX10_last 54 = .ok (.iinc 4 1, 3) := by decide +kernel
theorem dX10_last_57 : decode cX10_last 57 = .ok (.goto (-33), 3) := by decide +kernel
theorem dX10_last_47 : decode cX10_last 47 = .ok (.iload 4, 2) := by decide +kernel
theorem dX10_last_49 : decode cX10_last 49 = .ok (.goto 4, 3) := by decide +kernel
theorem dX10_left_38 : decode cX10_left 38 = .ok (.iload 5, 2) := by decide +kernel
theorem dX10_left_40 : decode cX10_left 40 = .ok (.bipush 25, 2) := by decide +kernel
theorem dX10_left_42 : decode cX10_left 42 = .ok (.if_icmp .ge 29, 3) := by decide +kernel
theorem dX10_left_45 : decode cX10_left 45 = .ok (.iload 4, 2) := by decide +kernel
theorem dX10_left_47 : decode cX10_left 47 = .ok (.aload_n 0, 1) := by decide +kernel
theorem dX10_left_48 : decode cX10_left 48 = .ok (.getfield 56, 3) := by decide +kernel
theorem dX10_left_51 : decode cX10_left 51 = .ok (.iload 5, 2) := by decide +kernel
theorem dX10_left_53 : decode cX10_left 53 = .ok (.baload, 1) := by decide +kernel
theorem dX10_left_54 : decode cX10_left 54 = .ok (.ifCond .eq 7, 3) := by decide +kernel
theorem dX10_left_61 : decode cX10_left 61 = .ok (.iconst 0, 1) := by decide +kernel
theorem dX10_left_62 : decode cX10_left 62 = .ok (.iadd, 1) := by decide +kernel
theorem dX10_left_63 : decode cX10_left 63 = .ok (.istore 4, 2) := by decide +kernel
theorem dX10_left_65 : decode cX10_left 65 = .ok (.iinc 5 1, 3) := by decide +kernel
theorem dX10_left_68 : decode cX10_left 68 = .ok (.goto (-30), 3) := by decide +kernel
theorem dX10_left_57 : decode cX10_left 57 = .ok (.iconst 1, 1) := by decide +kernel
theorem dX10_left_58 : decode cX10_left 58 = .ok (.goto 4, 3) := by decide +kernel
set_option maxRecDepth 100000 in
set_option maxHeartbeats 4000000 in
theorem ll_l {seed : Int32} {what : Int32} {l : Launch} {G : xG} {M : xM} {J : xJ} {Q : xQ} : ∀ (m k : Nat) (b : Nat), k + m = 25 → b < 25 → x_X l G fX10_last 4 0 0 Q 60 [(3, .int (nI (fl m k (M 79) b))), (2, .int (what)), (1, .int (seed)), (0, .ref (62))] [] x_SH M J 0 0 → x_X l G fX10_last 4 0 0 Q 24 [(4, .int (nI (k))), (3, .int (nI (b))), (2, .int (what)), (1, .int (seed)), (0, .ref (62))] [] x_SH M J 0 0 := by
  intro m
  induction m with
  | zero =>
    intro k b hk hb hC
    refine xr_iload dX10_last_24 0 rfl ?_
    refine xr_bipush (v := 25) dX10_last_26 rfl ?_
    refine xr_icmp_ge (tgt := 60) dX10_last_28 rfl (fun _ => ?_) (fun c => absurd (nI_le (a := 25) (b := k) (by omega) (by omega)) c)
    refine xb_ls (ls2 := [(3, .int (nI (b))), (2, .int (what)), (1, .int (seed)), (0, .ref (62))]) [1, 2, 3, 4] rfl ?_
    exact hC
  | succ m ih =>
    intro k b hk hb hC
    have hk5 : k < 25 := by omega
    refine xr_iload dX10_last_24 0 rfl ?_
    refine xr_bipush (v := 25) dX10_last_26 rfl ?_
    refine xr_icmp_ge (tgt := 60) dX10_last_28 rfl (fun c => absurd c (nI_ge (a := k) (b := 25) (by omega) (by omega))) (fun _ => ?_)
    refine xr_aload_n dX10_last_31 4 rfl ?_
    refine xr_getR flX10_63 dX10_last_32 s_62 rfl ?_
    refine xr_iload dX10_last_35 0 rfl ?_
    refine xb_iald (j := k) (v := M 79 k) dX10_last_37 s_79 hk5 (by decide) rfl ?_
    refine xr_aload_n dX10_last_38 4 rfl ?_
    refine xr_getR flX10_63 dX10_last_39 s_62 rfl ?_
    refine xr_iload_n dX10_last_42 1 rfl ?_
    refine xb_iald (j := b) (v := M 79 b) dX10_last_43 s_79 hb (by decide) rfl ?_
    refine xr_icmp_le (tgt := 52) dX10_last_44 rfl (fun c1 => ?_) (fun c1 => ?_)
    · refine xr_iload_n dX10_last_52 1 rfl ?_
      refine xr_istore_n (ls2 := [(3, .int (nI (b))), (4, .int (nI (k))), (2, .int (what)), (1, .int (seed)), (0, .ref (62))]) dX10_last_53 (by decide) rfl ?_
      refine xr_iinc (v := nI (k + 1)) (ls2 := [(4, .int (nI (k + 1))), (3, .int (nI (b))), (2, .int (what)), (1, .int (seed)), (0, .ref (62))]) dX10_last_54 1 rfl (nI_1 _) (by decide) rfl ?_
      refine xr_goto (tgt := 24) dX10_last_57 rfl ?_
      refine xb_ls (ls2 := [(4, .int (nI (k + 1))), (3, .int (nI (b))), (2, .int (what)), (1, .int (seed)), (0, .ref (62))]) [0, 1, 2, 3, 4] rfl ?_
      have hT : fl m (k + 1) (M 79) (b) = fl (m + 1) k (M 79) b := congrArg (fl m (k + 1) (M 79)) (if_pos c1).symm
      rw [← hT] at hC
      exact ih (k + 1) (b) (by omega) (by omega) hC
    · refine xr_iload dX10_last_47 0 rfl ?_
      refine xr_goto (tgt := 53) dX10_last_49 rfl ?_
      refine xr_istore_n (ls2 := [(3, .int (nI (k))), (4, .int (nI (k))), (2, .int (what)), (1, .int (seed)), (0, .ref (62))]) dX10_last_53 (by decide) rfl ?_
      refine xr_iinc (v := nI (k + 1)) (ls2 := [(4, .int (nI (k + 1))), (3, .int (nI (k))), (2, .int (what)), (1, .int (seed)), (0, .ref (62))]) dX10_last_54 1 rfl (nI_1 _) (by decide) rfl ?_
      refine xr_goto (tgt := 24) dX10_last_57 rfl ?_
      refine xb_ls (ls2 := [(4, .int (nI (k + 1))), (3, .int (nI (k))), (2, .int (what)), (1, .int (seed)), (0, .ref (62))]) [0, 1, 2, 3, 4] rfl ?_
      have hT : fl m (k + 1) (M 79) (k) = fl (m + 1) k (M 79) b := congrArg (fl m (k + 1) (M 79)) (if_neg c1).symm
      rw [← hT] at hC
      exact ih (k + 1) (k) (by omega) (by omega) hC
set_option maxRecDepth 100000 in
set_option maxHeartbeats 4000000 in
theorem lf_l {girl : Int32} {n : Int32} {seed : Int32} {l : Launch} {G : xG} {M : xM} {J : xJ} {Q : xQ} : ∀ (m k : Nat) (c : Int32), k + m = 25 → x_X l G fX10_left 4 0 0 Q 71 [(4, .int (fu m k (M 77) c)), (3, .int (girl)), (2, .int (n)), (1, .int (seed)), (0, .ref (62))] [] x_SH M J 0 0 → x_X l G fX10_left 4 0 0 Q 38 [(5, .int (nI (k))), (4, .int (c)), (3, .int (girl)), (2, .int (n)), (1, .int (seed)), (0, .ref (62))] [] x_SH M J 0 0 := by
  intro m
  induction m with
  | zero =>
    intro k c hk hC
    refine xr_iload dX10_left_38 0 rfl ?_
    refine xr_bipush (v := 25) dX10_left_40 rfl ?_
    refine xr_icmp_ge (tgt := 71) dX10_left_42 rfl (fun _ => ?_) (fun c => absurd (nI_le (a := 25) (b := k) (by omega) (by omega)) c)
    refine xb_ls (ls2 := [(4, .int (c)), (3, .int (girl)), (2, .int (n)), (1, .int (seed)), (0, .ref (62))]) [1, 2, 3, 4, 5] rfl ?_
    exact hC
  | succ m ih =>
    intro k c hk hC
    have hk5 : k < 25 := by omega
    refine xr_iload dX10_left_38 0 rfl ?_
    refine xr_bipush (v := 25) dX10_left_40 rfl ?_
    refine xr_icmp_ge (tgt := 71) dX10_left_42 rfl (fun c => absurd c (nI_ge (a := k) (b := 25) (by omega) (by omega))) (fun _ => ?_)
    refine xr_iload dX10_left_45 1 rfl ?_
    refine xr_aload_n dX10_left_47 5 rfl ?_
    refine xr_getR flX10_56 dX10_left_48 s_62 rfl ?_
    refine xr_iload dX10_left_51 0 rfl ?_
    refine xb_zald (j := k) (v := M 77 k) dX10_left_53 s_77 hk5 (by decide) rfl ?_
    refine xr_if_eq (tgt := 61) dX10_left_54 rfl (fun c1 => ?_) (fun c1 => ?_)
    · refine xr_iconst (v := 0) dX10_left_61 rfl ?_
      refine xr_iadd dX10_left_62 ?_
      refine xr_istore (ls2 := [(4, .int ((c + 0))), (5, .int (nI (k))), (3, .int (girl)), (2, .int (n)), (1, .int (seed)), (0, .ref (62))]) dX10_left_63 (by decide) rfl ?_
      refine xr_iinc (v := nI (k + 1)) (ls2 := [(5, .int (nI (k + 1))), (4, .int ((c + 0))), (3, .int (girl)), (2, .int (n)), (1, .int (seed)), (0, .ref (62))]) dX10_left_65 1 rfl (nI_1 _) (by decide) rfl ?_
      refine xr_goto (tgt := 38) dX10_left_68 rfl ?_
      refine xb_ls (ls2 := [(5, .int (nI (k + 1))), (4, .int ((c + 0))), (3, .int (girl)), (2, .int (n)), (1, .int (seed)), (0, .ref (62))]) [0, 1, 2, 3, 4, 5] rfl ?_
      have hT : fu m (k + 1) (M 77) ((c + 0)) = fu (m + 1) k (M 77) c := congrArg (fu m (k + 1) (M 77)) ((Int32.add_zero c).trans (if_pos c1).symm)
      rw [← hT] at hC
      exact ih (k + 1) ((c + 0)) (by omega) hC
    · refine xr_iconst (v := 1) dX10_left_57 rfl ?_
      refine xr_goto (tgt := 62) dX10_left_58 rfl ?_
      refine xr_iadd dX10_left_62 ?_
      refine xr_istore (ls2 := [(4, .int ((c + 1))), (5, .int (nI (k))), (3, .int (girl)), (2, .int (n)), (1, .int (seed)), (0, .ref (62))]) dX10_left_63 (by decide) rfl ?_
      refine xr_iinc (v := nI (k + 1)) (ls2 := [(5, .int (nI (k + 1))), (4, .int ((c + 1))), (3, .int (girl)), (2, .int (n)), (1, .int (seed)), (0, .ref (62))]) dX10_left_65 1 rfl (nI_1 _) (by decide) rfl ?_
      refine xr_goto (tgt := 38) dX10_left_68 rfl ?_
      refine xb_ls (ls2 := [(5, .int (nI (k + 1))), (4, .int ((c + 1))), (3, .int (girl)), (2, .int (n)), (1, .int (seed)), (0, .ref (62))]) [0, 1, 2, 3, 4, 5] rfl ?_
      have hT : fu m (k + 1) (M 77) ((c + 1)) = fu (m + 1) k (M 77) c := congrArg (fu m (k + 1) (M 77)) ((if_neg c1).symm)
      rw [← hT] at hC
      exact ih (k + 1) ((c + 1)) (by omega) hC
