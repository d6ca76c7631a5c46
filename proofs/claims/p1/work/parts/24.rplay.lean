theorem dX10_field_44 : decode cX10_field 44 = .ok (.iload_n 3, 1) := by decide +kernel
theorem dX10_field_45 : decode cX10_field 45 = .ok (.iload_n 2, 1) := by decide +kernel
theorem dX10_field_46 : decode cX10_field 46 = .ok (.if_icmp .gt 123, 3) := by decide +kernel
theorem dX10_field_169 : decode cX10_field 169 = .ok (.return_, 1) := by decide +kernel
theorem dX10_field_49 : decode cX10_field 49 = .ok (.iconst 0, 1) := by decide +kernel
theorem dX10_field_50 : decode cX10_field 50 = .ok (.istore 4, 2) := by decide +kernel
theorem dX10_field_163 : decode cX10_field 163 = .ok (.iinc 3 1, 3) := by decide +kernel
theorem dX10_field_166 : decode cX10_field 166 = .ok (.goto (-122), 3) := by decide +kernel
theorem dX10_field_7 : decode cX10_field 7 = .ok (.iload_n 3, 1) := by decide +kernel
theorem dX10_field_8 : decode cX10_field 8 = .ok (.bipush 25, 2) := by decide +kernel
theorem dX10_field_10 : decode cX10_field 10 = .ok (.if_icmp .ge 32, 3) := by decide +kernel
theorem dX10_field_42 : decode cX10_field 42 = .ok (.iconst 1, 1) := by decide +kernel
theorem dX10_field_43 : decode cX10_field 43 = .ok (.istore_n 3, 1) := by decide +kernel
theorem dX10_field_13 : decode cX10_field 13 = .ok (.aload_n 0, 1) := by decide +kernel
theorem dX10_field_14 : decode cX10_field 14 = .ok (.getfield 56, 3) := by decide +kernel
theorem dX10_field_17 : decode cX10_field 17 = .ok (.iload_n 3, 1) := by decide +kernel
theorem dX10_field_18 : decode cX10_field 18 = .ok (.iconst 1, 1) := by decide +kernel
theorem dX10_field_19 : decode cX10_field 19 = .ok (.bastore, 1) := by decide +kernel
theorem dX10_field_20 : decode cX10_field 20 = .ok (.aload_n 0, 1) := by decide +kernel
theorem dX10_field_21 : decode cX10_field 21 = .ok (.getfield 60, 3) := by decide +kernel
theorem dX10_field_24 : decode cX10_field 24 = .ok (.iload_n 3, 1) := by decide +kernel
theorem dX10_field_25 : decode cX10_field 25 = .ok (.bipush (-2), 2) := by decide +kernel
theorem dX10_field_27 : decode cX10_field 27 = .ok (.iastore, 1) := by decide +kernel
theorem dX10_field_28 : decode cX10_field 28 = .ok (.aload_n 0, 1) := by decide +kernel
theorem dX10_field_29 : decode cX10_field 29 = .ok (.getfield 63, 3) := by decide +kernel
theorem dX10_field_32 : decode cX10_field 32 = .ok (.iload_n 3, 1) := by decide +kernel
theorem dX10_field_33 : decode cX10_field 33 = .ok (.bipush 31, 2) := by decide +kernel
theorem dX10_field_35 : decode cX10_field 35 = .ok (.iastore, 1) := by decide +kernel
theorem dX10_field_36 : decode cX10_field 36 = .ok (.iinc 3 1, 3) := by decide +kernel
theorem dX10_field_39 : decode cX10_field 39 = .ok (.goto (-32), 3) := by decide +kernel
set_option maxRecDepth 100000 in
set_option maxHeartbeats 4000000 in
theorem rm_l {seed : Int32} {N : Nat} (hN : N ≤ 30) {l : Launch} {G : xG} {J : xJ} : ∀ (m k : Nat) (M : xM), k + m = N + 1 → FRr M → x_X l G fX10_field 3 0 0 (fun v s2 M2 J2 => v = none ∧ s2 = x_SH ∧ J = J2 ∧ fR M2 = fM m k (fR M) ∧ FRr M2) 44 [(3, .int (nI (k))), (2, .int (nI (N))), (1, .int (seed)), (0, .ref (62))] [] x_SH M J 0 0 := by
  intro m
  induction m with
  | zero =>
    intro k M hk e
    refine xr_iload_n dX10_field_44 0 rfl ?_
    refine xr_iload_n dX10_field_45 1 rfl ?_
    refine xr_icmp_gt (tgt := 169) dX10_field_46 rfl (fun _ => ?_) (fun c => absurd (nI_lt (a := N) (b := k) (by omega) (by omega)) c)
    exact xr_vret dX10_field_169 rfl (⟨rfl, rfl, rfl, rfl, e⟩)
  | succ m ih =>
    intro k M hk e
    refine xr_iload_n dX10_field_44 0 rfl ?_
    refine xr_iload_n dX10_field_45 1 rfl ?_
    refine xr_icmp_gt (tgt := 169) dX10_field_46 rfl (fun c => absurd c (nI_nlt (a := N) (b := k) (by omega) (by omega))) (fun _ => ?_)
    refine xr_iconst (v := 0) dX10_field_49 rfl ?_
    refine xr_istore (ls2 := [(4, .int (0)), (3, .int (nI (k))), (2, .int (nI (N))), (1, .int (seed)), (0, .ref (62))]) dX10_field_50 (by decide) rfl ?_
    refine xb_ls (ls2 := [(4, .int (nI (0))), (3, .int (nI (k))), (2, .int (nI (N))), (1, .int (seed)), (0, .ref (62))]) [0, 1, 2, 3, 4] rfl ?_
    refine rg_l 25 0 M (by omega) e (fun M3 q3 e3 => ?_)
    refine xr_iinc (v := nI (k + 1)) (ls2 := [(3, .int (nI (k + 1))), (2, .int (nI (N))), (1, .int (seed)), (0, .ref (62))]) dX10_field_163 0 rfl (nI_1 _) (by decide) rfl ?_
    refine xr_goto (tgt := 44) dX10_field_166 rfl ?_
    refine xb_ls (ls2 := [(3, .int (nI (k + 1))), (2, .int (nI (N))), (1, .int (seed)), (0, .ref (62))]) [0, 1, 2, 3] rfl ?_
    refine x_Q (Q := fun v s2 M2 J2 => v = none ∧ s2 = x_SH ∧ J = J2 ∧ fR M2 = fM m (k + 1) (fR M3) ∧ FRr M2) (by rw [q3]; rfl) ?_
    exact ih (k + 1) M3 (by omega) e3
set_option maxRecDepth 100000 in
set_option maxHeartbeats 4000000 in
theorem ri_l {seed : Int32} {N : Nat} (hN : N ≤ 30) {l : Launch} {G : xG} {J : xJ} : ∀ (m k : Nat) (M : xM), k + m = 25 → FRr M → x_X l G fX10_field 3 0 0 (fun v s2 M2 J2 => v = none ∧ s2 = x_SH ∧ J = J2 ∧ fR M2 = fM N 1 (fI m k (fR M)) ∧ FRr M2) 7 [(3, .int (nI (k))), (2, .int (nI (N))), (1, .int (seed)), (0, .ref (62))] [] x_SH M J 0 0 := by
  intro m
  induction m with
  | zero =>
    intro k M hk e
    refine xr_iload_n dX10_field_7 0 rfl ?_
    refine xr_bipush (v := 25) dX10_field_8 rfl ?_
    refine xr_icmp_ge (tgt := 42) dX10_field_10 rfl (fun _ => ?_) (fun c => absurd (nI_le (a := 25) (b := k) (by omega) (by omega)) c)
    refine xr_iconst (v := 1) dX10_field_42 rfl ?_
    refine xr_istore_n (ls2 := [(3, .int (1)), (2, .int (nI (N))), (1, .int (seed)), (0, .ref (62))]) dX10_field_43 (by decide) rfl ?_
    refine xb_ls (ls2 := [(3, .int (nI (1))), (2, .int (nI (N))), (1, .int (seed)), (0, .ref (62))]) [0, 1, 2, 3] rfl ?_
    exact rm_l hN N 1 M (by omega) e
  | succ m ih =>
    intro k M hk e
    have hk5 : k < 25 := by omega
    refine xr_iload_n dX10_field_7 0 rfl ?_
    refine xr_bipush (v := 25) dX10_field_8 rfl ?_
    refine xr_icmp_ge (tgt := 42) dX10_field_10 rfl (fun c => absurd c (nI_ge (a := k) (b := 25) (by omega) (by omega))) (fun _ => ?_)
    refine xr_aload_n dX10_field_13 3 rfl ?_
    refine xr_getR flX10_56 dX10_field_14 s_62 rfl ?_
    refine xr_iload_n dX10_field_17 0 rfl ?_
    refine xr_iconst (v := 1) dX10_field_18 rfl ?_
    refine xb_zast (j := k) (w := 1) dX10_field_19 s_77 hk5 (by decide) rfl ?_
    refine xr_aload_n dX10_field_20 3 rfl ?_
    refine xr_getR flX10_60 dX10_field_21 s_62 rfl ?_
    refine xr_iload_n dX10_field_24 0 rfl ?_
    refine xr_bipush (v := -2) dX10_field_25 rfl ?_
    refine xb_iast (j := k) dX10_field_27 s_78 hk5 (by decide) ?_
    refine xr_aload_n dX10_field_28 3 rfl ?_
    refine xr_getR flX10_63 dX10_field_29 s_62 rfl ?_
    refine xr_iload_n dX10_field_32 0 rfl ?_
    refine xr_bipush (v := 31) dX10_field_33 rfl ?_
    refine xb_iast (j := k) dX10_field_35 s_79 hk5 (by decide) ?_
    refine xr_iinc (v := nI (k + 1)) (ls2 := [(3, .int (nI (k + 1))), (2, .int (nI (N))), (1, .int (seed)), (0, .ref (62))]) dX10_field_36 0 rfl (nI_1 _) (by decide) rfl ?_
    refine xr_goto (tgt := 7) dX10_field_39 rfl ?_
    refine xb_ls (ls2 := [(3, .int (nI (k + 1))), (2, .int (nI (N))), (1, .int (seed)), (0, .ref (62))]) [0, 1, 2, 3] rfl ?_
    exact ih (k + 1) (x_up (x_up (x_up M 77 k 1) 78 k (-2)) 79 k 31) (by omega) (FRr_up (by decide) (FRr_up (by decide) (FRr_up (by decide) e)))
