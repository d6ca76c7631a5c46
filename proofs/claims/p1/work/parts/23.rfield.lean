theorem dX10_draws_0 : decode cX10_draws 0 = .ok (.aload_n 0, 1) := by decide +kernel
theorem dX10_draws_1 : decode cX10_draws 1 = .ok (.aload_n 0, 1) := by decide +kernel
theorem dX10_draws_2 : decode cX10_draws 2 = .ok (.getfield 298, 3) := by decide +kernel
theorem dX10_draws_5 : decode cX10_draws 5 = .ok (.ldc_w 301, 3) := by decide +kernel
theorem dX10_draws_8 : decode cX10_draws 8 = .ok (.imul, 1) := by decide +kernel
theorem dX10_draws_9 : decode cX10_draws 9 = .ok (.sipush 12345, 3) := by decide +kernel
theorem dX10_draws_12 : decode cX10_draws 12 = .ok (.iadd, 1) := by decide +kernel
theorem dX10_draws_13 : decode cX10_draws 13 = .ok (.putfield 298, 3) := by decide +kernel
theorem dX10_draws_16 : decode cX10_draws 16 = .ok (.aload_n 0, 1) := by decide +kernel
theorem dX10_draws_17 : decode cX10_draws 17 = .ok (.getfield 298, 3) := by decide +kernel
theorem dX10_draws_20 : decode cX10_draws 20 = .ok (.bipush 8, 2) := by decide +kernel
theorem dX10_draws_22 : decode cX10_draws 22 = .ok (.iushr, 1) := by decide +kernel
theorem dX10_draws_23 : decode cX10_draws 23 = .ok (.bipush 12, 2) := by decide +kernel
theorem dX10_draws_25 : decode cX10_draws 25 = .ok (.irem, 1) := by decide +kernel
theorem dX10_draws_26 : decode cX10_draws 26 = .ok (.ireturn, 1) := by decide +kernel
theorem dX10_drops_0 : decode cX10_drops 0 = .ok (.aload_n 0, 1) := by decide +kernel
theorem dX10_drops_1 : decode cX10_drops 1 = .ok (.getfield 56, 3) := by decide +kernel
theorem dX10_drops_4 : decode cX10_drops 4 = .ok (.iload_n 1, 1) := by decide +kernel
theorem dX10_drops_5 : decode cX10_drops 5 = .ok (.iconst 0, 1) := by decide +kernel
theorem dX10_drops_6 : decode cX10_drops 6 = .ok (.bastore, 1) := by decide +kernel
theorem dX10_drops_7 : decode cX10_drops 7 = .ok (.aload_n 0, 1) := by decide +kernel
theorem dX10_drops_8 : decode cX10_drops 8 = .ok (.getfield 60, 3) := by decide +kernel
theorem dX10_drops_11 : decode cX10_drops 11 = .ok (.iload_n 1, 1) := by decide +kernel
theorem dX10_drops_12 : decode cX10_drops 12 = .ok (.iload_n 2, 1) := by decide +kernel
theorem dX10_drops_13 : decode cX10_drops 13 = .ok (.iastore, 1) := by decide +kernel
theorem dX10_drops_14 : decode cX10_drops 14 = .ok (.aload_n 0, 1) := by decide +kernel
theorem dX10_drops_15 : decode cX10_drops 15 = .ok (.getfield 63, 3) := by decide +kernel
theorem dX10_drops_18 : decode cX10_drops 18 = .ok (.iload_n 1, 1) := by decide +kernel
theorem dX10_drops_19 : decode cX10_drops 19 = .ok (.iload_n 3, 1) := by decide +kernel
theorem dX10_drops_20 : decode cX10_drops 20 = .ok (.iastore, 1) := by decide +kernel
theorem dX10_drops_21 : decode cX10_drops 21 = .ok (.return_, 1) := by decide +kernel
def fR (M : xM) : fS := (M 62 32, M 77, M 78, M 79)
/-- every girl's skill is 9, knock is 1 -/
def FRr (M : xM) : Prop := (∀ j, j < 25 → M 75 j = 9) ∧ M 63 19 = 1
theorem FRr_up {M : xM} {p k : Nat} {v : Int32} (h : p ≠ 75 ∧ p ≠ 63) (e : FRr M) : FRr (x_up M p k v) :=
  ⟨fun j hj => by rw [x_up_n M k v (fun q => h.1 q.symm)]; exact e.1 j hj, by rw [x_up_n M k v (fun q => h.2 q.symm)]; exact e.2⟩
theorem FRr_F {M : xM} (h : Fr M) : FRr M := ⟨mi_75 h, Fr_r h (by decide) (by decide +kernel)⟩
theorem nI_pos {a : Nat} (h : a < 25) : 0 ≤ nI a := (show ∀ a, a < 25 → 0 ≤ nI a by decide +kernel) a h
set_option maxRecDepth 100000 in
set_option maxHeartbeats 4000000 in
theorem c_X10_draws {l : Launch} {G : xG} {M : xM} {J : xJ} : x_M l G fX10_draws 0 0 0 [.ref (62)] x_SH M J (qE (some (.int (fd (fz (M 62 32))))) x_SH (x_up M 62 32 (fz (M 62 32))) J) := by
  refine xb_of pX10 (Nat.le_of_ble_eq_true rfl) rfl ?_
  refine xr_aload_n dX10_draws_0 0 rfl ?_
  refine xr_aload_n dX10_draws_1 0 rfl ?_
  refine xb_get (v := M 62 32) flX10_298 dX10_draws_2 s_62 rfl rfl ?_
  refine xr_ldcw coX10_301 dX10_draws_5 ?_
  refine xr_imul dX10_draws_8 ?_
  refine xr_sipush (v := 12345) dX10_draws_9 rfl ?_
  refine xr_iadd dX10_draws_12 ?_
  refine xr_putI fpX10_298 dX10_draws_13 s_62 rfl rfl rfl ?_
  refine xr_aload_n dX10_draws_16 0 rfl ?_
  refine xb_get (v := (((M 62 32) * 1103515245) + 12345)) flX10_298 dX10_draws_17 s_62 rfl (x_up_s _ _ _ _) ?_
  refine xr_bipush (v := 8) dX10_draws_20 rfl ?_
  refine xr_iushr dX10_draws_22 ?_
  refine xr_bipush (v := 12) dX10_draws_23 rfl ?_
  refine xr_irem dX10_draws_25 (by decide) ?_
  exact xr_iret dX10_draws_26 rfl rfl (⟨rfl, rfl, rfl, rfl⟩)
set_option maxRecDepth 100000 in
set_option maxHeartbeats 4000000 in
theorem c_X10_drops {g : Nat} (hg : g < 25) (b mi : Int32) {l : Launch} {G : xG} {M : xM} {J : xJ} : x_M l G fX10_drops 0 0 0 [.ref (62), .int (nI (g)), .int (b), .int (mi)] x_SH M J (qE (none) x_SH (x_up (x_up (x_up M 77 g 0) 78 g b) 79 g mi) J) := by
  refine xb_of pX10 (Nat.le_of_ble_eq_true rfl) rfl ?_
  refine xr_aload_n dX10_drops_0 0 rfl ?_
  refine xr_getR flX10_56 dX10_drops_1 s_62 rfl ?_
  refine xr_iload_n dX10_drops_4 1 rfl ?_
  refine xr_iconst (v := 0) dX10_drops_5 rfl ?_
  refine xb_zast (j := g) (w := 0) dX10_drops_6 s_77 hg (by decide) rfl ?_
  refine xr_aload_n dX10_drops_7 0 rfl ?_
  refine xr_getR flX10_60 dX10_drops_8 s_62 rfl ?_
  refine xr_iload_n dX10_drops_11 1 rfl ?_
  refine xr_iload_n dX10_drops_12 2 rfl ?_
  refine xb_iast (j := g) dX10_drops_13 s_78 hg (by decide) ?_
  refine xr_aload_n dX10_drops_14 0 rfl ?_
  refine xr_getR flX10_63 dX10_drops_15 s_62 rfl ?_
  refine xr_iload_n dX10_drops_18 1 rfl ?_
  refine xr_iload_n dX10_drops_19 3 rfl ?_
  refine xb_iast (j := g) dX10_drops_20 s_79 hg (by decide) ?_
  exact xr_vret dX10_drops_21 rfl (⟨rfl, rfl, rfl, rfl⟩)
