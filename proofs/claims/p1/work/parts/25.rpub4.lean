theorem dX10_field_0 : decode cX10_field 0 = .ok (.aload_n 0, 1) := by decide +kernel
theorem dX10_field_1 : decode cX10_field 1 = .ok (.iload_n 1, 1) := by decide +kernel
theorem dX10_field_2 : decode cX10_field 2 = .ok (.putfield 298, 3) := by decide +kernel
theorem dX10_field_5 : decode cX10_field 5 = .ok (.iconst 0, 1) := by decide +kernel
theorem dX10_field_6 : decode cX10_field 6 = .ok (.istore_n 3, 1) := by decide +kernel
set_option maxRecDepth 100000 in
set_option maxHeartbeats 4000000 in
theorem field_M {l : Launch} {G : xG} {M : xM} {J : xJ} (seed : Int32) {N : Nat} (hN : N ≤ 30) (e : FRr M) : x_M l G fX10_field 3 0 0 [.ref 62, .int (seed), .int (nI (N))] x_SH M J (fun v s2 M2 J2 => v = none ∧ s2 = x_SH ∧ J = J2 ∧ fR M2 = fM N 1 (fI 25 0 (seed, M 77, M 78, M 79)) ∧ FRr M2) := by
  refine xb_of pX10 (Nat.le_of_ble_eq_true rfl) rfl ?_
  refine xr_aload_n dX10_field_0 0 rfl ?_
  refine xr_iload_n dX10_field_1 1 rfl ?_
  refine xr_putI fpX10_298 dX10_field_2 s_62 rfl rfl rfl ?_
  refine xr_iconst (v := 0) dX10_field_5 rfl ?_
  refine xr_istore_n (ls2 := [(3, .int (0)), (0, .ref (62)), (1, .int (seed)), (2, .int (nI (N)))]) dX10_field_6 (by decide) rfl ?_
  refine xb_ls (ls2 := [(3, .int (nI (0))), (2, .int (nI (N))), (1, .int (seed)), (0, .ref (62))]) [0, 3, 2, 1] rfl ?_
  exact ri_l hN 25 0 (x_up M 62 32 seed) (by omega) (FRr_up (by decide) e)
theorem field_z {l : Launch} {G : xG} {M : xM} {J : xJ} (hF : Fr M) (seed : Int32) {N : Nat} (hN : N ≤ 30) : x_M l G fX10_field 3 0 0 [.ref 62, .int (seed), .int (nI (N))] x_SH M J (fun v s2 M2 J2 => v = none ∧ s2 = x_SH ∧ J = J2 ∧ fR M2 = fF seed N ∧ FRr M2) := by
  have h := field_M (l := l) (G := G) (J := J) seed hN (FRr_F hF)
  rw [hF 77 (by decide), hF 78 (by decide), hF 79 (by decide), zR_77, zR_78, zR_79] at h
  exact h
