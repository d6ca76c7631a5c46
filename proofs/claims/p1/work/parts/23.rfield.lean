theorem dX10_draws_0 : decode cX10_draws 0 = .ok (.aload_n 0, 1) := by decide +kernel
theorem dX10_draws_1 : decode cX10_draws 1 = .ok (.aload_n 0, 1) := by decide +kernel
theorem dX10_draws_2 : decode cX10_draws 2 = .ok (.getfield 298, 3) := by decide +kernel
theorem dX10_draws_5 : decode cX10_draws 5 = .ok (.ldc_w 301, 3) := by decide +kernel
theorem dX10_draws_8 : decode cX10_draws 8 = .ok (.imul, 1) := by decide +kernel
theorem dX10_draws_9 : decode cX10_draws 9 = .ok (.sipush 12345, 3) := by decide +kernel
theorem dX10_draws_12 : decode cX10_draws 12 = .ok (.iadd, 1) := by decide +kernel
theorem dX10_draws_13 : decode cX10_draws 13 = .ok (.putfield 298, 3) := by decide +kernel
theorem dX10_draws_16 : decode cX10_draws 16 = .ok (.aload_n 0, 1) := by decide +kernel
theorem dX10_draws_17 : decode cX10_draws 17 = .ok (.getfield 298, 3) := by decide +kernel
theorem dX10_draws_20 : decode cX10_draws 20 = .ok (.bipush 8, 2) := by decide +kernel
theorem dX10_draws_22 : decode cX10_draws 22 = .ok (.iushr, 1) := by decide +kernel
theorem dX10_draws_23 : decode cX10_draws 23 = .ok (.bipush 12, 2) := by decide +kernel
theorem dX10_draws_25 : decode cX10_draws 25 = .ok (.irem, 1) := by decide +kernel
theorem dX10_draws_26 : decode cX10_draws 26 = .ok (.ireturn, 1) := by decide +kernel
theorem dX10_drops_0 : decode cX10_drops 0 = .ok (.aload_n 0, 1) := by decide +kernel
theorem dX10_drops_1 : decode cX10_drops 1 = .ok (.getfield 56, 3) := by decide +kernel
theorem dX10_drops_4 : decode cX10_drops 4 = .ok (.iload_n 1, 1) := by decide +kernel
theorem dX10_drops_5 : decode cX10_drops 5 = .ok (.iconst 0, 1) := by decide +kernel
theorem dX10_drops_6 : decode cX10_drops 6 = .ok (.bastore, 1) := by decide +kernel
theorem dX10_drops_7 : decode cX10_drops 7 = .ok (.aload_n 0, 1) := by decide +kernel
theorem dX10_drops_8 : decode cX10_drops 8 = .ok (.getfield 60, 3) := by decide +kernel
theorem dX10_drops_11 : decode cX10_drops 11 = .ok (.iload_n 1, 1) := by decide +kernel
theorem dX10_drops_12 : decode cX10_drops 12 = .ok (.iload_n 2, 1) := by decide +kernel
theorem dX10_drops_13 : decode cX10_drops 13 = .ok (.iastore, 1) := by decide +kernel
theorem dX10_drops_14 : decode cX10_drops 14 = .ok (.aload_n 0, 1) := by decide +kernel
theorem dX10_drops_15 : decode cX10_drops 15 = .ok (.getfield 63, 3) := by decide +kernel
theorem dX10_drops_18 : decode cX10_drops 18 = .ok (.iload_n 1, 1) := by decide +kernel
theorem dX10_drops_19 : decode cX10_drops 19 = .ok (.iload_n 3, 1) := by decide +kernel
theorem dX10_drops_20 : decode cX10_drops 20 = .ok (.iastore, 1) := by decide +kernel
theorem dX10_drops_21 : decode cX10_drops 21 = .ok (.return_, 1) := by decide +kernel
theorem dX10_field_98 : decode cX10_field 98 = .ok (.iload 5, 2) := by decide +kernel
theorem dX10_field_100 : decode cX10_field 100 = .ok (.iconst 4, 1) := by decide +kernel
theorem dX10_field_101 : decode cX10_field 101 = .ok (.if_icmp .ge 56, 3) := by decide +kernel
theorem dX10_field_104 : decode cX10_field 104 = .ok (.iload 4, 2) := by decide +kernel
theorem dX10_field_106 : decode cX10_field 106 = .ok (.iload 5, 2) := by decide +kernel
theorem dX10_field_108 : decode cX10_field 108 = .ok (.invokestatic 308, 3) := by decide +kernel
theorem dX10_field_111 : decode cX10_field 111 = .ok (.istore 6, 2) := by decide +kernel
theorem dX10_field_113 : decode cX10_field 113 = .ok (.iload 6, 2) := by decide +kernel
theorem dX10_field_115 : decode cX10_field 115 = .ok (.ifCond .lt 36, 3) := by decide +kernel
theorem dX10_field_151 : decode cX10_field 151 = .ok (.iinc 5 1, 3) := by decide +kernel
theorem dX10_field_154 : decode cX10_field 154 = .ok (.goto (-56), 3) := by decide +kernel
theorem dX10_field_118 : decode cX10_field 118 = .ok (.aload_n 0, 1) := by decide +kernel
theorem dX10_field_119 : decode cX10_field 119 = .ok (.getfield 56, 3) := by decide +kernel
theorem dX10_field_122 : decode cX10_field 122 = .ok (.iload 6, 2) := by decide +kernel
theorem dX10_field_124 : decode cX10_field 124 = .ok (.baload, 1) := by decide +kernel
theorem dX10_field_125 : decode cX10_field 125 = .ok (.ifCond .eq 26, 3) := by decide +kernel
theorem dX10_field_128 : decode cX10_field 128 = .ok (.aload_n 0, 1) := by decide +kernel
theorem dX10_field_129 : decode cX10_field 129 = .ok (.invokevirtual 302, 3) := by decide +kernel
theorem dX10_field_132 : decode cX10_field 132 = .ok (.aload_n 0, 1) := by decide +kernel
theorem dX10_field_133 : decode cX10_field 133 = .ok (.getfield 9, 3) := by decide +kernel
theorem dX10_field_136 : decode cX10_field 136 = .ok (.bipush 19, 2) := by decide +kernel
theorem dX10_field_138 : decode cX10_field 138 = .ok (.iaload, 1) := by decide +kernel
theorem dX10_field_139 : decode cX10_field 139 = .ok (.if_icmp .ge 12, 3) := by decide +kernel
theorem dX10_field_142 : decode cX10_field 142 = .ok (.aload_n 0, 1) := by decide +kernel
theorem dX10_field_143 : decode cX10_field 143 = .ok (.iload 6, 2) := by decide +kernel
theorem dX10_field_145 : decode cX10_field 145 = .ok (.iload 4, 2) := by decide +kernel
theorem dX10_field_147 : decode cX10_field 147 = .ok (.iload_n 3, 1) := by decide +kernel
theorem dX10_field_148 : decode cX10_field 148 = .ok (.invokevirtual 305, 3) := by decide +kernel
theorem dX10_field_52 : decode cX10_field 52 = .ok (.iload 4, 2) := by decide +kernel
theorem dX10_field_54 : decode cX10_field 54 = .ok (.bipush 25, 2) := by decide +kernel
theorem dX10_field_56 : decode cX10_field 56 = .ok (.if_icmp .ge 107, 3) := by decide +kernel
theorem dX10_field_59 : decode cX10_field 59 = .ok (.aload_n 0, 1) := by decide +kernel
theorem dX10_field_60 : decode cX10_field 60 = .ok (.getfield 56, 3) := by decide +kernel
theorem dX10_field_63 : decode cX10_field 63 = .ok (.iload 4, 2) := by decide +kernel
theorem dX10_field_65 : decode cX10_field 65 = .ok (.baload, 1) := by decide +kernel
theorem dX10_field_66 : decode cX10_field 66 = .ok (.ifCond .eq 91, 3) := by decide +kernel
theorem dX10_field_157 : decode cX10_field 157 = .ok (.iinc 4 1, 3) := by decide +kernel
theorem dX10_field_160 : decode cX10_field 160 = .ok (.goto (-108), 3) := by decide +kernel
theorem dX10_field_69 : decode cX10_field 69 = .ok (.aload_n 0, 1) := by decide +kernel
theorem dX10_field_70 : decode cX10_field 70 = .ok (.invokevirtual 302, 3) := by decide +kernel
theorem dX10_field_73 : decode cX10_field 73 = .ok (.aload_n 0, 1) := by decide +kernel
theorem dX10_field_74 : decode cX10_field 74 = .ok (.getfield 50, 3) := by decide +kernel
theorem dX10_field_77 : decode cX10_field 77 = .ok (.iload 4, 2) := by decide +kernel
theorem dX10_field_79 : decode cX10_field 79 = .ok (.iaload, 1) := by decide +kernel
theorem dX10_field_80 : decode cX10_field 80 = .ok (.if_icmp .ge 6, 3) := by decide +kernel
theorem dX10_field_86 : decode cX10_field 86 = .ok (.aload_n 0, 1) := by decide +kernel
theorem dX10_field_87 : decode cX10_field 87 = .ok (.iload 4, 2) := by decide +kernel
theorem dX10_field_89 : decode cX10_field 89 = .ok (.bipush (-2), 2) := by decide +kernel
theorem dX10_field_91 : decode cX10_field 91 = .ok (.iload_n 3, 1) := by decide +kernel
theorem dX10_field_92 : decode cX10_field 92 = .ok (.invokevirtual 305, 3) := by decide +kernel
theorem dX10_field_95 : decode cX10_field 95 = .ok (.iconst 0, 1) := by decide +kernel
theorem dX10_field_96 : decode cX10_field 96 = .ok (.istore 5, 2) := by decide +kernel
theorem dX10_field_83 : decode cX10_field 83 = .ok (.goto 74, 3) := by decide +kernel
def fR (M : xM) : fS := (M 62 32, M 77, M 78, M 79)
/-- every girl's skill is 9, knock is 1 -/
def FRr (M : xM) : Prop := (∀ j, j < 25 → M 75 j = 9) ∧ M 63 19 = 1
theorem FRr_up {M : xM} {p k : Nat} {v : Int32} (h : p ≠ 75 ∧ p ≠ 63) (e : FRr M) : FRr (x_up M p k v) :=
  ⟨fun j hj => by rw [x_up_n M k v (fun q => h.1 q.symm)]; exact e.1 j hj, by rw [x_up_n M k v (fun q => h.2 q.symm)]; exact e.2⟩
theorem FRr_F {M : xM} (h : Fr M) : FRr M := ⟨mi_75 h, Fr_r h (by decide) (by decide +kernel)⟩
theorem nI_nl {a : Nat} (h : a < 25) : ¬ nI a < 0 := (show ∀ a, a < 25 → ¬ nI a < 0 by decide +kernel) a h
set_option maxRecDepth 100000 in
set_option maxHeartbeats 4000000 in
theorem c_X10_draws {l : Launch} {G : xG} {M : xM} {J : xJ} : x_M l G fX10_draws 0 0 0 [.ref (62)] x_SH M J (qE (some (.int (fd (fz (M 62 32))))) x_SH (x_up M 62 32 (fz (M 62 32))) J) := by
  refine xb_of pX10 (Nat.le_of_ble_eq_true rfl) rfl ?_
  refine xr_aload_n dX10_draws_0 0 rfl ?_
  refine xr_aload_n dX10_draws_1 0 rfl ?_
  refine xb_get (v := M 62 32) flX10_298 dX10_draws_2 s_62 rfl rfl ?_
  refine xr_ldcw coX10_301 dX10_draws_5 ?_
  refine xr_imul dX10_draws_8 ?_
  refine xr_sipush (v := 12345) dX10_draws_9 rfl ?_
  refine xr_iadd dX10_draws_12 ?_
  refine xr_putI fpX10_298 dX10_draws_13 s_62 rfl rfl rfl ?_
  refine xr_aload_n dX10_draws_16 0 rfl ?_
  refine xb_get (v := (((M 62 32) * 1103515245) + 12345)) flX10_298 dX10_draws_17 s_62 rfl (x_up_s _ _ _ _) ?_
  refine xr_bipush (v := 8) dX10_draws_20 rfl ?_
  refine xr_iushr dX10_draws_22 ?_
  refine xr_bipush (v := 12) dX10_draws_23 rfl ?_
  refine xr_irem dX10_draws_25 (by decide) ?_
  exact xr_iret dX10_draws_26 rfl rfl (⟨rfl, rfl, rfl, rfl⟩)
set_option maxRecDepth 100000 in
set_option maxHeartbeats 4000000 in
theorem c_X10_drops {g : Nat} (hg : g < 25) (b mi : Int32) {l : Launch} {G : xG} {M : xM} {J : xJ} : x_M l G fX10_drops 0 0 0 [.ref (62), .int (nI (g)), .int (b), .int (mi)] x_SH M J (qE (none) x_SH (x_up (x_up (x_up M 77 g 0) 78 g b) 79 g mi) J) := by
  refine xb_of pX10 (Nat.le_of_ble_eq_true rfl) rfl ?_
  refine xr_aload_n dX10_drops_0 0 rfl ?_
  refine xr_getR flX10_56 dX10_drops_1 s_62 rfl ?_
  refine xr_iload_n dX10_drops_4 1 rfl ?_
  refine xr_iconst (v := 0) dX10_drops_5 rfl ?_
  refine xb_zast (j := g) (w := 0) dX10_drops_6 s_77 hg (by decide) rfl ?_
  refine xr_aload_n dX10_drops_7 0 rfl ?_
  refine xr_getR flX10_60 dX10_drops_8 s_62 rfl ?_
  refine xr_iload_n dX10_drops_11 1 rfl ?_
  refine xr_iload_n dX10_drops_12 2 rfl ?_
  refine xb_iast (j := g) dX10_drops_13 s_78 hg (by decide) ?_
  refine xr_aload_n dX10_drops_14 0 rfl ?_
  refine xr_getR flX10_63 dX10_drops_15 s_62 rfl ?_
  refine xr_iload_n dX10_drops_18 1 rfl ?_
  refine xr_iload_n dX10_drops_19 3 rfl ?_
  refine xb_iast (j := g) dX10_drops_20 s_79 hg (by decide) ?_
  exact xr_vret dX10_drops_21 rfl (⟨rfl, rfl, rfl, rfl⟩)
set_option maxRecDepth 100000 in
set_option maxHeartbeats 4000000 in
theorem kr_4 {l : Launch} {G : xG} {M : xM} {J : xJ} {g : Nat} (hg : g < 25) (mi n seed : Int32) (e : FRr M) {Q : xQ} (hC : ∀ M2, fR M2 = fK4 g mi (fR M) → FRr M2 → x_X l G fX10_field 3 0 0 Q 157 [(4, .int (nI (g))), (3, .int (mi)), (2, .int (n)), (1, .int (seed)), (0, .ref (62))] [] x_SH M2 J 0 0) : x_X l G fX10_field 3 0 0 Q 98 [(5, .int (4)), (4, .int (nI (g))), (3, .int (mi)), (2, .int (n)), (1, .int (seed)), (0, .ref (62))] [] x_SH M J 0 0 := by
  refine xr_iload dX10_field_98 0 rfl ?_
  refine xr_iconst (v := 4) dX10_field_100 rfl ?_
  refine xr_icmp_ge (tgt := 157) dX10_field_101 rfl (fun _ => ?_) (fun c => absurd (by decide) c)
  refine xb_ls (ls2 := [(4, .int (nI (g))), (3, .int (mi)), (2, .int (n)), (1, .int (seed)), (0, .ref (62))]) [1, 2, 3, 4, 5] rfl ?_
  exact hC M rfl e
set_option maxRecDepth 100000 in
set_option maxHeartbeats 4000000 in
theorem kr_3 {l : Launch} {G : xG} {M : xM} {J : xJ} {g : Nat} (hg : g < 25) (mi n seed : Int32) (e : FRr M) {Q : xQ} (hC : ∀ M2, fR M2 = fK3 g mi (fR M) → FRr M2 → x_X l G fX10_field 3 0 0 Q 157 [(4, .int (nI (g))), (3, .int (mi)), (2, .int (n)), (1, .int (seed)), (0, .ref (62))] [] x_SH M2 J 0 0) : x_X l G fX10_field 3 0 0 Q 98 [(5, .int (3)), (4, .int (nI (g))), (3, .int (mi)), (2, .int (n)), (1, .int (seed)), (0, .ref (62))] [] x_SH M J 0 0 := by
  refine xr_iload dX10_field_98 0 rfl ?_
  refine xr_iconst (v := 4) dX10_field_100 rfl ?_
  refine xr_icmp_ge (tgt := 157) dX10_field_101 rfl (fun c => absurd c (by decide)) (fun _ => ?_)
  refine xr_iload dX10_field_104 1 rfl ?_
  refine xr_iload dX10_field_106 0 rfl ?_
  refine xb_cS (As := [.int (nI (g)), .int (3)]) (rest := []) mlX10_308 (c_X10_besideOf_3 hg) dX10_field_108 rfl rfl (Nat.le_of_ble_eq_true rfl) (by decide) (by decide) ?_
  rcases fb_c g hg 3 (by decide) with ⟨h1, h2⟩ | ⟨h1, h2⟩
  · refine xb_top (y := -1) h2 ?_
    refine xr_istore (ls2 := [(6, .int ((-1))), (5, .int (3)), (4, .int (nI (g))), (3, .int (mi)), (2, .int (n)), (1, .int (seed)), (0, .ref (62))]) dX10_field_111 (by decide) rfl ?_
    refine xr_iload dX10_field_113 0 rfl ?_
    refine xr_if_lt (tgt := 151) dX10_field_115 rfl (fun _ => ?_) (fun c => absurd (by decide) c)
    refine xr_iinc (v := 4) (ls2 := [(5, .int (4)), (6, .int ((-1))), (4, .int (nI (g))), (3, .int (mi)), (2, .int (n)), (1, .int (seed)), (0, .ref (62))]) dX10_field_151 1 rfl rfl (by decide) rfl ?_
    refine xr_goto (tgt := 98) dX10_field_154 rfl ?_
    refine xb_ls (ls2 := [(5, .int (4)), (4, .int (nI (g))), (3, .int (mi)), (2, .int (n)), (1, .int (seed)), (0, .ref (62))]) [0, 2, 3, 4, 5, 6] rfl ?_
    have hS : fk g 3 mi (fR M) = fR M := if_pos h1
    exact kr_4 hg mi n seed e (fun M2 q e2 => hC M2 (q.trans (congrArg (fK4 g mi) hS).symm) e2)
  refine xb_top (y := nI (fb g 3)) h2 ?_
  refine xr_istore (ls2 := [(6, .int (nI (fb g 3))), (5, .int (3)), (4, .int (nI (g))), (3, .int (mi)), (2, .int (n)), (1, .int (seed)), (0, .ref (62))]) dX10_field_111 (by decide) rfl ?_
  refine xr_iload dX10_field_113 0 rfl ?_
  refine xr_if_lt (tgt := 151) dX10_field_115 rfl (fun c => absurd c (nI_nl h1)) (fun _ => ?_)
  refine xr_aload_n dX10_field_118 6 rfl ?_
  refine xr_getR flX10_56 dX10_field_119 s_62 rfl ?_
  refine xr_iload dX10_field_122 0 rfl ?_
  refine xb_zald (j := fb g 3) (v := M 77 (fb g 3)) dX10_field_124 s_77 h1 (by decide) rfl ?_
  refine xr_if_eq (tgt := 151) dX10_field_125 rfl (fun c1 => ?_) (fun c1 => ?_)
  · refine xr_iinc (v := 4) (ls2 := [(5, .int (4)), (6, .int (nI (fb g 3))), (4, .int (nI (g))), (3, .int (mi)), (2, .int (n)), (1, .int (seed)), (0, .ref (62))]) dX10_field_151 1 rfl rfl (by decide) rfl ?_
    refine xr_goto (tgt := 98) dX10_field_154 rfl ?_
    refine xb_ls (ls2 := [(5, .int (4)), (4, .int (nI (g))), (3, .int (mi)), (2, .int (n)), (1, .int (seed)), (0, .ref (62))]) [0, 2, 3, 4, 5, 6] rfl ?_
    have hS : fk g 3 mi (fR M) = fR M := (if_neg (fun q => absurd h1 (by rw [q]; decide))).trans (if_pos c1)
    exact kr_4 hg mi n seed e (fun M2 q e2 => hC M2 (q.trans (congrArg (fK4 g mi) hS).symm) e2)
  · refine xr_aload_n dX10_field_128 6 rfl ?_
    refine xb_cV (As := []) (rest := []) mlX10_302 (c_X10_draws) dX10_field_129 s_62 rfl rfl (Nat.le_of_ble_eq_true rfl) (by decide) (by decide) ?_
    refine xr_aload_n dX10_field_132 6 rfl ?_
    refine xr_getR flX10_9 dX10_field_133 s_62 rfl ?_
    refine xr_bipush (v := 19) dX10_field_136 rfl ?_
    refine xb_iald (j := 19) (v := 1) dX10_field_138 s_63 (by decide) (by decide) (Eq.trans (congrFun (x_up_n _ _ _ (by decide)) _) e.2) ?_
    refine xr_icmp_ge (tgt := 151) dX10_field_139 rfl (fun c2 => ?_) (fun c2 => ?_)
    · refine xr_iinc (v := 4) (ls2 := [(5, .int (4)), (6, .int (nI (fb g 3))), (4, .int (nI (g))), (3, .int (mi)), (2, .int (n)), (1, .int (seed)), (0, .ref (62))]) dX10_field_151 1 rfl rfl (by decide) rfl ?_
      refine xr_goto (tgt := 98) dX10_field_154 rfl ?_
      refine xb_ls (ls2 := [(5, .int (4)), (4, .int (nI (g))), (3, .int (mi)), (2, .int (n)), (1, .int (seed)), (0, .ref (62))]) [0, 2, 3, 4, 5, 6] rfl ?_
      have hS : fk g 3 mi (fR M) = fR (x_up M 62 32 (fz (M 62 32))) := (if_neg (fun q => absurd h1 (by rw [q]; decide))).trans ((if_neg c1).trans (if_pos c2))
      exact kr_4 hg mi n seed (FRr_up (by decide) e) (fun M2 q e2 => hC M2 (q.trans (congrArg (fK4 g mi) hS).symm) e2)
    · refine xr_aload_n dX10_field_142 6 rfl ?_
      refine xr_iload dX10_field_143 0 rfl ?_
      refine xr_iload dX10_field_145 2 rfl ?_
      refine xr_iload_n dX10_field_147 3 rfl ?_
      refine xb_cV (As := [.int (nI (fb g 3)), .int (nI (g)), .int (mi)]) (rest := []) mlX10_305 (c_X10_drops h1 (nI (g)) mi) dX10_field_148 s_62 rfl rfl (Nat.le_of_ble_eq_true rfl) (by decide) (by decide) ?_
      refine xr_iinc (v := 4) (ls2 := [(5, .int (4)), (6, .int (nI (fb g 3))), (4, .int (nI (g))), (3, .int (mi)), (2, .int (n)), (1, .int (seed)), (0, .ref (62))]) dX10_field_151 1 rfl rfl (by decide) rfl ?_
      refine xr_goto (tgt := 98) dX10_field_154 rfl ?_
      refine xb_ls (ls2 := [(5, .int (4)), (4, .int (nI (g))), (3, .int (mi)), (2, .int (n)), (1, .int (seed)), (0, .ref (62))]) [0, 2, 3, 4, 5, 6] rfl ?_
      have hS : fk g 3 mi (fR M) = fR (x_up (x_up (x_up (x_up M 62 32 (fz (M 62 32))) 77 (fb g 3) 0) 78 (fb g 3) (nI (g))) 79 (fb g 3) mi) := (if_neg (fun q => absurd h1 (by rw [q]; decide))).trans ((if_neg c1).trans (if_neg c2))
      exact kr_4 hg mi n seed (FRr_up (by decide) (FRr_up (by decide) (FRr_up (by decide) (FRr_up (by decide) e)))) (fun M2 q e2 => hC M2 (q.trans (congrArg (fK4 g mi) hS).symm) e2)
set_option maxRecDepth 100000 in
set_option maxHeartbeats 4000000 in
theorem kr_2 {l : Launch} {G : xG} {M : xM} {J : xJ} {g : Nat} (hg : g < 25) (mi n seed : Int32) (e : FRr M) {Q : xQ} (hC : ∀ M2, fR M2 = fK2 g mi (fR M) → FRr M2 → x_X l G fX10_field 3 0 0 Q 157 [(4, .int (nI (g))), (3, .int (mi)), (2, .int (n)), (1, .int (seed)), (0, .ref (62))] [] x_SH M2 J 0 0) : x_X l G fX10_field 3 0 0 Q 98 [(5, .int (2)), (4, .int (nI (g))), (3, .int (mi)), (2, .int (n)), (1, .int (seed)), (0, .ref (62))] [] x_SH M J 0 0 := by
  refine xr_iload dX10_field_98 0 rfl ?_
  refine xr_iconst (v := 4) dX10_field_100 rfl ?_
  refine xr_icmp_ge (tgt := 157) dX10_field_101 rfl (fun c => absurd c (by decide)) (fun _ => ?_)
  refine xr_iload dX10_field_104 1 rfl ?_
  refine xr_iload dX10_field_106 0 rfl ?_
  refine xb_cS (As := [.int (nI (g)), .int (2)]) (rest := []) mlX10_308 (c_X10_besideOf_2 hg) dX10_field_108 rfl rfl (Nat.le_of_ble_eq_true rfl) (by decide) (by decide) ?_
  rcases fb_c g hg 2 (by decide) with ⟨h1, h2⟩ | ⟨h1, h2⟩
  · refine xb_top (y := -1) h2 ?_
    refine xr_istore (ls2 := [(6, .int ((-1))), (5, .int (2)), (4, .int (nI (g))), (3, .int (mi)), (2, .int (n)), (1, .int (seed)), (0, .ref (62))]) dX10_field_111 (by decide) rfl ?_
    refine xr_iload dX10_field_113 0 rfl ?_
    refine xr_if_lt (tgt := 151) dX10_field_115 rfl (fun _ => ?_) (fun c => absurd (by decide) c)
    refine xr_iinc (v := 3) (ls2 := [(5, .int (3)), (6, .int ((-1))), (4, .int (nI (g))), (3, .int (mi)), (2, .int (n)), (1, .int (seed)), (0, .ref (62))]) dX10_field_151 1 rfl rfl (by decide) rfl ?_
    refine xr_goto (tgt := 98) dX10_field_154 rfl ?_
    refine xb_ls (ls2 := [(5, .int (3)), (4, .int (nI (g))), (3, .int (mi)), (2, .int (n)), (1, .int (seed)), (0, .ref (62))]) [0, 2, 3, 4, 5, 6] rfl ?_
    have hS : fk g 2 mi (fR M) = fR M := if_pos h1
    exact kr_3 hg mi n seed e (fun M2 q e2 => hC M2 (q.trans (congrArg (fK3 g mi) hS).symm) e2)
  refine xb_top (y := nI (fb g 2)) h2 ?_
  refine xr_istore (ls2 := [(6, .int (nI (fb g 2))), (5, .int (2)), (4, .int (nI (g))), (3, .int (mi)), (2, .int (n)), (1, .int (seed)), (0, .ref (62))]) dX10_field_111 (by decide) rfl ?_
  refine xr_iload dX10_field_113 0 rfl ?_
  refine xr_if_lt (tgt := 151) dX10_field_115 rfl (fun c => absurd c (nI_nl h1)) (fun _ => ?_)
  refine xr_aload_n dX10_field_118 6 rfl ?_
  refine xr_getR flX10_56 dX10_field_119 s_62 rfl ?_
  refine xr_iload dX10_field_122 0 rfl ?_
  refine xb_zald (j := fb g 2) (v := M 77 (fb g 2)) dX10_field_124 s_77 h1 (by decide) rfl ?_
  refine xr_if_eq (tgt := 151) dX10_field_125 rfl (fun c1 => ?_) (fun c1 => ?_)
  · refine xr_iinc (v := 3) (ls2 := [(5, .int (3)), (6, .int (nI (fb g 2))), (4, .int (nI (g))), (3, .int (mi)), (2, .int (n)), (1, .int (seed)), (0, .ref (62))]) dX10_field_151 1 rfl rfl (by decide) rfl ?_
    refine xr_goto (tgt := 98) dX10_field_154 rfl ?_
    refine xb_ls (ls2 := [(5, .int (3)), (4, .int (nI (g))), (3, .int (mi)), (2, .int (n)), (1, .int (seed)), (0, .ref (62))]) [0, 2, 3, 4, 5, 6] rfl ?_
    have hS : fk g 2 mi (fR M) = fR M := (if_neg (fun q => absurd h1 (by rw [q]; decide))).trans (if_pos c1)
    exact kr_3 hg mi n seed e (fun M2 q e2 => hC M2 (q.trans (congrArg (fK3 g mi) hS).symm) e2)
  · refine xr_aload_n dX10_field_128 6 rfl ?_
    refine xb_cV (As := []) (rest := []) mlX10_302 (c_X10_draws) dX10_field_129 s_62 rfl rfl (Nat.le_of_ble_eq_true rfl) (by decide) (by decide) ?_
    refine xr_aload_n dX10_field_132 6 rfl ?_
    refine xr_getR flX10_9 dX10_field_133 s_62 rfl ?_
    refine xr_bipush (v := 19) dX10_field_136 rfl ?_
    refine xb_iald (j := 19) (v := 1) dX10_field_138 s_63 (by decide) (by decide) (Eq.trans (congrFun (x_up_n _ _ _ (by decide)) _) e.2) ?_
    refine xr_icmp_ge (tgt := 151) dX10_field_139 rfl (fun c2 => ?_) (fun c2 => ?_)
    · refine xr_iinc (v := 3) (ls2 := [(5, .int (3)), (6, .int (nI (fb g 2))), (4, .int (nI (g))), (3, .int (mi)), (2, .int (n)), (1, .int (seed)), (0, .ref (62))]) dX10_field_151 1 rfl rfl (by decide) rfl ?_
      refine xr_goto (tgt := 98) dX10_field_154 rfl ?_
      refine xb_ls (ls2 := [(5, .int (3)), (4, .int (nI (g))), (3, .int (mi)), (2, .int (n)), (1, .int (seed)), (0, .ref (62))]) [0, 2, 3, 4, 5, 6] rfl ?_
      have hS : fk g 2 mi (fR M) = fR (x_up M 62 32 (fz (M 62 32))) := (if_neg (fun q => absurd h1 (by rw [q]; decide))).trans ((if_neg c1).trans (if_pos c2))
      exact kr_3 hg mi n seed (FRr_up (by decide) e) (fun M2 q e2 => hC M2 (q.trans (congrArg (fK3 g mi) hS).symm) e2)
    · refine xr_aload_n dX10_field_142 6 rfl ?_
      refine xr_iload dX10_field_143 0 rfl ?_
      refine xr_iload dX10_field_145 2 rfl ?_
      refine xr_iload_n dX10_field_147 3 rfl ?_
      refine xb_cV (As := [.int (nI (fb g 2)), .int (nI (g)), .int (mi)]) (rest := []) mlX10_305 (c_X10_drops h1 (nI (g)) mi) dX10_field_148 s_62 rfl rfl (Nat.le_of_ble_eq_true rfl) (by decide) (by decide) ?_
      refine xr_iinc (v := 3) (ls2 := [(5, .int (3)), (6, .int (nI (fb g 2))), (4, .int (nI (g))), (3, .int (mi)), (2, .int (n)), (1, .int (seed)), (0, .ref (62))]) dX10_field_151 1 rfl rfl (by decide) rfl ?_
      refine xr_goto (tgt := 98) dX10_field_154 rfl ?_
      refine xb_ls (ls2 := [(5, .int (3)), (4, .int (nI (g))), (3, .int (mi)), (2, .int (n)), (1, .int (seed)), (0, .ref (62))]) [0, 2, 3, 4, 5, 6] rfl ?_
      have hS : fk g 2 mi (fR M) = fR (x_up (x_up (x_up (x_up M 62 32 (fz (M 62 32))) 77 (fb g 2) 0) 78 (fb g 2) (nI (g))) 79 (fb g 2) mi) := (if_neg (fun q => absurd h1 (by rw [q]; decide))).trans ((if_neg c1).trans (if_neg c2))
      exact kr_3 hg mi n seed (FRr_up (by decide) (FRr_up (by decide) (FRr_up (by decide) (FRr_up (by decide) e)))) (fun M2 q e2 => hC M2 (q.trans (congrArg (fK3 g mi) hS).symm) e2)
set_option maxRecDepth 100000 in
set_option maxHeartbeats 4000000 in
theorem kr_1 {l : Launch} {G : xG} {M : xM} {J : xJ} {g : Nat} (hg : g < 25) (mi n seed : Int32) (e : FRr M) {Q : xQ} (hC : ∀ M2, fR M2 = fK1 g mi (fR M) → FRr M2 → x_X l G fX10_field 3 0 0 Q 157 [(4, .int (nI (g))), (3, .int (mi)), (2, .int (n)), (1, .int (seed)), (0, .ref (62))] [] x_SH M2 J 0 0) : x_X l G fX10_field 3 0 0 Q 98 [(5, .int (1)), (4, .int (nI (g))), (3, .int (mi)), (2, .int (n)), (1, .int (seed)), (0, .ref (62))] [] x_SH M J 0 0 := by
  refine xr_iload dX10_field_98 0 rfl ?_
  refine xr_iconst (v := 4) dX10_field_100 rfl ?_
  refine xr_icmp_ge (tgt := 157) dX10_field_101 rfl (fun c => absurd c (by decide)) (fun _ => ?_)
  refine xr_iload dX10_field_104 1 rfl ?_
  refine xr_iload dX10_field_106 0 rfl ?_
  refine xb_cS (As := [.int (nI (g)), .int (1)]) (rest := []) mlX10_308 (c_X10_besideOf_1 hg) dX10_field_108 rfl rfl (Nat.le_of_ble_eq_true rfl) (by decide) (by decide) ?_
  rcases fb_c g hg 1 (by decide) with ⟨h1, h2⟩ | ⟨h1, h2⟩
  · refine xb_top (y := -1) h2 ?_
    refine xr_istore (ls2 := [(6, .int ((-1))), (5, .int (1)), (4, .int (nI (g))), (3, .int (mi)), (2, .int (n)), (1, .int (seed)), (0, .ref (62))]) dX10_field_111 (by decide) rfl ?_
    refine xr_iload dX10_field_113 0 rfl ?_
    refine xr_if_lt (tgt := 151) dX10_field_115 rfl (fun _ => ?_) (fun c => absurd (by decide) c)
    refine xr_iinc (v := 2) (ls2 := [(5, .int (2)), (6, .int ((-1))), (4, .int (nI (g))), (3, .int (mi)), (2, .int (n)), (1, .int (seed)), (0, .ref (62))]) dX10_field_151 1 rfl rfl (by decide) rfl ?_
    refine xr_goto (tgt := 98) dX10_field_154 rfl ?_
    refine xb_ls (ls2 := [(5, .int (2)), (4, .int (nI (g))), (3, .int (mi)), (2, .int (n)), (1, .int (seed)), (0, .ref (62))]) [0, 2, 3, 4, 5, 6] rfl ?_
    have hS : fk g 1 mi (fR M) = fR M := if_pos h1
    exact kr_2 hg mi n seed e (fun M2 q e2 => hC M2 (q.trans (congrArg (fK2 g mi) hS).symm) e2)
  refine xb_top (y := nI (fb g 1)) h2 ?_
  refine xr_istore (ls2 := [(6, .int (nI (fb g 1))), (5, .int (1)), (4, .int (nI (g))), (3, .int (mi)), (2, .int (n)), (1, .int (seed)), (0, .ref (62))]) dX10_field_111 (by decide) rfl ?_
  refine xr_iload dX10_field_113 0 rfl ?_
  refine xr_if_lt (tgt := 151) dX10_field_115 rfl (fun c => absurd c (nI_nl h1)) (fun _ => ?_)
  refine xr_aload_n dX10_field_118 6 rfl ?_
  refine xr_getR flX10_56 dX10_field_119 s_62 rfl ?_
  refine xr_iload dX10_field_122 0 rfl ?_
  refine xb_zald (j := fb g 1) (v := M 77 (fb g 1)) dX10_field_124 s_77 h1 (by decide) rfl ?_
  refine xr_if_eq (tgt := 151) dX10_field_125 rfl (fun c1 => ?_) (fun c1 => ?_)
  · refine xr_iinc (v := 2) (ls2 := [(5, .int (2)), (6, .int (nI (fb g 1))), (4, .int (nI (g))), (3, .int (mi)), (2, .int (n)), (1, .int (seed)), (0, .ref (62))]) dX10_field_151 1 rfl rfl (by decide) rfl ?_
    refine xr_goto (tgt := 98) dX10_field_154 rfl ?_
    refine xb_ls (ls2 := [(5, .int (2)), (4, .int (nI (g))), (3, .int (mi)), (2, .int (n)), (1, .int (seed)), (0, .ref (62))]) [0, 2, 3, 4, 5, 6] rfl ?_
    have hS : fk g 1 mi (fR M) = fR M := (if_neg (fun q => absurd h1 (by rw [q]; decide))).trans (if_pos c1)
    exact kr_2 hg mi n seed e (fun M2 q e2 => hC M2 (q.trans (congrArg (fK2 g mi) hS).symm) e2)
  · refine xr_aload_n dX10_field_128 6 rfl ?_
    refine xb_cV (As := []) (rest := []) mlX10_302 (c_X10_draws) dX10_field_129 s_62 rfl rfl (Nat.le_of_ble_eq_true rfl) (by decide) (by decide) ?_
    refine xr_aload_n dX10_field_132 6 rfl ?_
    refine xr_getR flX10_9 dX10_field_133 s_62 rfl ?_
    refine xr_bipush (v := 19) dX10_field_136 rfl ?_
    refine xb_iald (j := 19) (v := 1) dX10_field_138 s_63 (by decide) (by decide) (Eq.trans (congrFun (x_up_n _ _ _ (by decide)) _) e.2) ?_
    refine xr_icmp_ge (tgt := 151) dX10_field_139 rfl (fun c2 => ?_) (fun c2 => ?_)
    · refine xr_iinc (v := 2) (ls2 := [(5, .int (2)), (6, .int (nI (fb g 1))), (4, .int (nI (g))), (3, .int (mi)), (2, .int (n)), (1, .int (seed)), (0, .ref (62))]) dX10_field_151 1 rfl rfl (by decide) rfl ?_
      refine xr_goto (tgt := 98) dX10_field_154 rfl ?_
      refine xb_ls (ls2 := [(5, .int (2)), (4, .int (nI (g))), (3, .int (mi)), (2, .int (n)), (1, .int (seed)), (0, .ref (62))]) [0, 2, 3, 4, 5, 6] rfl ?_
      have hS : fk g 1 mi (fR M) = fR (x_up M 62 32 (fz (M 62 32))) := (if_neg (fun q => absurd h1 (by rw [q]; decide))).trans ((if_neg c1).trans (if_pos c2))
      exact kr_2 hg mi n seed (FRr_up (by decide) e) (fun M2 q e2 => hC M2 (q.trans (congrArg (fK2 g mi) hS).symm) e2)
    · refine xr_aload_n dX10_field_142 6 rfl ?_
      refine xr_iload dX10_field_143 0 rfl ?_
      refine xr_iload dX10_field_145 2 rfl ?_
      refine xr_iload_n dX10_field_147 3 rfl ?_
      refine xb_cV (As := [.int (nI (fb g 1)), .int (nI (g)), .int (mi)]) (rest := []) mlX10_305 (c_X10_drops h1 (nI (g)) mi) dX10_field_148 s_62 rfl rfl (Nat.le_of_ble_eq_true rfl) (by decide) (by decide) ?_
      refine xr_iinc (v := 2) (ls2 := [(5, .int (2)), (6, .int (nI (fb g 1))), (4, .int (nI (g))), (3, .int (mi)), (2, .int (n)), (1, .int (seed)), (0, .ref (62))]) dX10_field_151 1 rfl rfl (by decide) rfl ?_
      refine xr_goto (tgt := 98) dX10_field_154 rfl ?_
      refine xb_ls (ls2 := [(5, .int (2)), (4, .int (nI (g))), (3, .int (mi)), (2, .int (n)), (1, .int (seed)), (0, .ref (62))]) [0, 2, 3, 4, 5, 6] rfl ?_
      have hS : fk g 1 mi (fR M) = fR (x_up (x_up (x_up (x_up M 62 32 (fz (M 62 32))) 77 (fb g 1) 0) 78 (fb g 1) (nI (g))) 79 (fb g 1) mi) := (if_neg (fun q => absurd h1 (by rw [q]; decide))).trans ((if_neg c1).trans (if_neg c2))
      exact kr_2 hg mi n seed (FRr_up (by decide) (FRr_up (by decide) (FRr_up (by decide) (FRr_up (by decide) e)))) (fun M2 q e2 => hC M2 (q.trans (congrArg (fK2 g mi) hS).symm) e2)
set_option maxRecDepth 100000 in
set_option maxHeartbeats 4000000 in
theorem kr_0 {l : Launch} {G : xG} {M : xM} {J : xJ} {g : Nat} (hg : g < 25) (mi n seed : Int32) (e : FRr M) {Q : xQ} (hC : ∀ M2, fR M2 = fK0 g mi (fR M) → FRr M2 → x_X l G fX10_field 3 0 0 Q 157 [(4, .int (nI (g))), (3, .int (mi)), (2, .int (n)), (1, .int (seed)), (0, .ref (62))] [] x_SH M2 J 0 0) : x_X l G fX10_field 3 0 0 Q 98 [(5, .int (0)), (4, .int (nI (g))), (3, .int (mi)), (2, .int (n)), (1, .int (seed)), (0, .ref (62))] [] x_SH M J 0 0 := by
  refine xr_iload dX10_field_98 0 rfl ?_
  refine xr_iconst (v := 4) dX10_field_100 rfl ?_
  refine xr_icmp_ge (tgt := 157) dX10_field_101 rfl (fun c => absurd c (by decide)) (fun _ => ?_)
  refine xr_iload dX10_field_104 1 rfl ?_
  refine xr_iload dX10_field_106 0 rfl ?_
  refine xb_cS (As := [.int (nI (g)), .int (0)]) (rest := []) mlX10_308 (c_X10_besideOf_0 hg) dX10_field_108 rfl rfl (Nat.le_of_ble_eq_true rfl) (by decide) (by decide) ?_
  rcases fb_c g hg 0 (by decide) with ⟨h1, h2⟩ | ⟨h1, h2⟩
  · refine xb_top (y := -1) h2 ?_
    refine xr_istore (ls2 := [(6, .int ((-1))), (5, .int (0)), (4, .int (nI (g))), (3, .int (mi)), (2, .int (n)), (1, .int (seed)), (0, .ref (62))]) dX10_field_111 (by decide) rfl ?_
    refine xr_iload dX10_field_113 0 rfl ?_
    refine xr_if_lt (tgt := 151) dX10_field_115 rfl (fun _ => ?_) (fun c => absurd (by decide) c)
    refine xr_iinc (v := 1) (ls2 := [(5, .int (1)), (6, .int ((-1))), (4, .int (nI (g))), (3, .int (mi)), (2, .int (n)), (1, .int (seed)), (0, .ref (62))]) dX10_field_151 1 rfl rfl (by decide) rfl ?_
    refine xr_goto (tgt := 98) dX10_field_154 rfl ?_
    refine xb_ls (ls2 := [(5, .int (1)), (4, .int (nI (g))), (3, .int (mi)), (2, .int (n)), (1, .int (seed)), (0, .ref (62))]) [0, 2, 3, 4, 5, 6] rfl ?_
    have hS : fk g 0 mi (fR M) = fR M := if_pos h1
    exact kr_1 hg mi n seed e (fun M2 q e2 => hC M2 (q.trans (congrArg (fK1 g mi) hS).symm) e2)
  refine xb_top (y := nI (fb g 0)) h2 ?_
  refine xr_istore (ls2 := [(6, .int (nI (fb g 0))), (5, .int (0)), (4, .int (nI (g))), (3, .int (mi)), (2, .int (n)), (1, .int (seed)), (0, .ref (62))]) dX10_field_111 (by decide) rfl ?_
  refine xr_iload dX10_field_113 0 rfl ?_
  refine xr_if_lt (tgt := 151) dX10_field_115 rfl (fun c => absurd c (nI_nl h1)) (fun _ => ?_)
  refine xr_aload_n dX10_field_118 6 rfl ?_
  refine xr_getR flX10_56 dX10_field_119 s_62 rfl ?_
  refine xr_iload dX10_field_122 0 rfl ?_
  refine xb_zald (j := fb g 0) (v := M 77 (fb g 0)) dX10_field_124 s_77 h1 (by decide) rfl ?_
  refine xr_if_eq (tgt := 151) dX10_field_125 rfl (fun c1 => ?_) (fun c1 => ?_)
  · refine xr_iinc (v := 1) (ls2 := [(5, .int (1)), (6, .int (nI (fb g 0))), (4, .int (nI (g))), (3, .int (mi)), (2, .int (n)), (1, .int (seed)), (0, .ref (62))]) dX10_field_151 1 rfl rfl (by decide) rfl ?_
    refine xr_goto (tgt := 98) dX10_field_154 rfl ?_
    refine xb_ls (ls2 := [(5, .int (1)), (4, .int (nI (g))), (3, .int (mi)), (2, .int (n)), (1, .int (seed)), (0, .ref (62))]) [0, 2, 3, 4, 5, 6] rfl ?_
    have hS : fk g 0 mi (fR M) = fR M := (if_neg (fun q => absurd h1 (by rw [q]; decide))).trans (if_pos c1)
    exact kr_1 hg mi n seed e (fun M2 q e2 => hC M2 (q.trans (congrArg (fK1 g mi) hS).symm) e2)
  · refine xr_aload_n dX10_field_128 6 rfl ?_
    refine xb_cV (As := []) (rest := []) mlX10_302 (c_X10_draws) dX10_field_129 s_62 rfl rfl (Nat.le_of_ble_eq_true rfl) (by decide) (by decide) ?_
    refine xr_aload_n dX10_field_132 6 rfl ?_
    refine xr_getR flX10_9 dX10_field_133 s_62 rfl ?_
    refine xr_bipush (v := 19) dX10_field_136 rfl ?_
    refine xb_iald (j := 19) (v := 1) dX10_field_138 s_63 (by decide) (by decide) (Eq.trans (congrFun (x_up_n _ _ _ (by decide)) _) e.2) ?_
    refine xr_icmp_ge (tgt := 151) dX10_field_139 rfl (fun c2 => ?_) (fun c2 => ?_)
    · refine xr_iinc (v := 1) (ls2 := [(5, .int (1)), (6, .int (nI (fb g 0))), (4, .int (nI (g))), (3, .int (mi)), (2, .int (n)), (1, .int (seed)), (0, .ref (62))]) dX10_field_151 1 rfl rfl (by decide) rfl ?_
      refine xr_goto (tgt := 98) dX10_field_154 rfl ?_
      refine xb_ls (ls2 := [(5, .int (1)), (4, .int (nI (g))), (3, .int (mi)), (2, .int (n)), (1, .int (seed)), (0, .ref (62))]) [0, 2, 3, 4, 5, 6] rfl ?_
      have hS : fk g 0 mi (fR M) = fR (x_up M 62 32 (fz (M 62 32))) := (if_neg (fun q => absurd h1 (by rw [q]; decide))).trans ((if_neg c1).trans (if_pos c2))
      exact kr_1 hg mi n seed (FRr_up (by decide) e) (fun M2 q e2 => hC M2 (q.trans (congrArg (fK1 g mi) hS).symm) e2)
    · refine xr_aload_n dX10_field_142 6 rfl ?_
      refine xr_iload dX10_field_143 0 rfl ?_
      refine xr_iload dX10_field_145 2 rfl ?_
      refine xr_iload_n dX10_field_147 3 rfl ?_
      refine xb_cV (As := [.int (nI (fb g 0)), .int (nI (g)), .int (mi)]) (rest := []) mlX10_305 (c_X10_drops h1 (nI (g)) mi) dX10_field_148 s_62 rfl rfl (Nat.le_of_ble_eq_true rfl) (by decide) (by decide) ?_
      refine xr_iinc (v := 1) (ls2 := [(5, .int (1)), (6, .int (nI (fb g 0))), (4, .int (nI (g))), (3, .int (mi)), (2, .int (n)), (1, .int (seed)), (0, .ref (62))]) dX10_field_151 1 rfl rfl (by decide) rfl ?_
      refine xr_goto (tgt := 98) dX10_field_154 rfl ?_
      refine xb_ls (ls2 := [(5, .int (1)), (4, .int (nI (g))), (3, .int (mi)), (2, .int (n)), (1, .int (seed)), (0, .ref (62))]) [0, 2, 3, 4, 5, 6] rfl ?_
      have hS : fk g 0 mi (fR M) = fR (x_up (x_up (x_up (x_up M 62 32 (fz (M 62 32))) 77 (fb g 0) 0) 78 (fb g 0) (nI (g))) 79 (fb g 0) mi) := (if_neg (fun q => absurd h1 (by rw [q]; decide))).trans ((if_neg c1).trans (if_neg c2))
      exact kr_1 hg mi n seed (FRr_up (by decide) (FRr_up (by decide) (FRr_up (by decide) (FRr_up (by decide) e)))) (fun M2 q e2 => hC M2 (q.trans (congrArg (fK1 g mi) hS).symm) e2)
set_option maxRecDepth 100000 in
set_option maxHeartbeats 4000000 in
theorem rg_l {mi n seed : Int32} {l : Launch} {G : xG} {J : xJ} {Q : xQ} : ∀ (m k : Nat) (M : xM), k + m = 25 → FRr M → (∀ M2, fR M2 = fG mi m k (fR M) → FRr M2 → x_X l G fX10_field 3 0 0 Q 163 [(3, .int (mi)), (2, .int (n)), (1, .int (seed)), (0, .ref (62))] [] x_SH M2 J 0 0) → x_X l G fX10_field 3 0 0 Q 52 [(4, .int (nI (k))), (3, .int (mi)), (2, .int (n)), (1, .int (seed)), (0, .ref (62))] [] x_SH M J 0 0 := by
  intro m
  induction m with
  | zero =>
    intro k M hk e hC
    refine xr_iload dX10_field_52 0 rfl ?_
    refine xr_bipush (v := 25) dX10_field_54 rfl ?_
    refine xr_icmp_ge (tgt := 163) dX10_field_56 rfl (fun _ => ?_) (fun c => absurd (nI_le (a := 25) (b := k) (by omega) (by omega)) c)
    refine xb_ls (ls2 := [(3, .int (mi)), (2, .int (n)), (1, .int (seed)), (0, .ref (62))]) [1, 2, 3, 4] rfl ?_
    exact hC M rfl e
  | succ m ih =>
    intro k M hk e hC
    have hk5 : k < 25 := by omega
    refine xr_iload dX10_field_52 0 rfl ?_
    refine xr_bipush (v := 25) dX10_field_54 rfl ?_
    refine xr_icmp_ge (tgt := 163) dX10_field_56 rfl (fun c => absurd c (nI_ge (a := k) (b := 25) (by omega) (by omega))) (fun _ => ?_)
    refine xr_aload_n dX10_field_59 4 rfl ?_
    refine xr_getR flX10_56 dX10_field_60 s_62 rfl ?_
    refine xr_iload dX10_field_63 0 rfl ?_
    refine xb_zald (j := k) (v := M 77 k) dX10_field_65 s_77 hk5 (by decide) rfl ?_
    refine xr_if_eq (tgt := 157) dX10_field_66 rfl (fun c1 => ?_) (fun c1 => ?_)
    · refine xr_iinc (v := nI (k + 1)) (ls2 := [(4, .int (nI (k + 1))), (3, .int (mi)), (2, .int (n)), (1, .int (seed)), (0, .ref (62))]) dX10_field_157 0 rfl (nI_1 _) (by decide) rfl ?_
      refine xr_goto (tgt := 52) dX10_field_160 rfl ?_
      refine xb_ls (ls2 := [(4, .int (nI (k + 1))), (3, .int (mi)), (2, .int (n)), (1, .int (seed)), (0, .ref (62))]) [0, 1, 2, 3, 4] rfl ?_
      have hS : fg k mi (fR M) = fR M := if_pos c1
      exact ih (k + 1) M (by omega) e (fun M4 q4 e4 => hC M4 (q4.trans (congrArg (fG mi m (k + 1)) hS).symm) e4)
    · refine xr_aload_n dX10_field_69 4 rfl ?_
      refine xb_cV (As := []) (rest := []) mlX10_302 (c_X10_draws) dX10_field_70 s_62 rfl rfl (Nat.le_of_ble_eq_true rfl) (by decide) (by decide) ?_
      refine xr_aload_n dX10_field_73 4 rfl ?_
      refine xr_getR flX10_50 dX10_field_74 s_62 rfl ?_
      refine xr_iload dX10_field_77 0 rfl ?_
      refine xb_iald (j := k) (v := 9) dX10_field_79 s_75 hk5 (by decide) (Eq.trans (congrFun (x_up_n _ _ _ (by decide)) _) (e.1 k hk5)) ?_
      refine xr_icmp_ge (tgt := 86) dX10_field_80 rfl (fun c2 => ?_) (fun c2 => ?_)
      · refine xr_aload_n dX10_field_86 4 rfl ?_
        refine xr_iload dX10_field_87 0 rfl ?_
        refine xr_bipush (v := -2) dX10_field_89 rfl ?_
        refine xr_iload_n dX10_field_91 1 rfl ?_
        refine xb_cV (As := [.int (nI (k)), .int ((-2)), .int (mi)]) (rest := []) mlX10_305 (c_X10_drops hk5 (-2) mi) dX10_field_92 s_62 rfl rfl (Nat.le_of_ble_eq_true rfl) (by decide) (by decide) ?_
        refine xr_iconst (v := 0) dX10_field_95 rfl ?_
        refine xr_istore (ls2 := [(5, .int (0)), (4, .int (nI (k))), (3, .int (mi)), (2, .int (n)), (1, .int (seed)), (0, .ref (62))]) dX10_field_96 (by decide) rfl ?_
        refine xb_ls (ls2 := [(5, .int (0)), (4, .int (nI (k))), (3, .int (mi)), (2, .int (n)), (1, .int (seed)), (0, .ref (62))]) [0, 1, 2, 3, 4, 5] rfl ?_
        refine kr_0 hk5 mi n seed (FRr_up (by decide) (FRr_up (by decide) (FRr_up (by decide) (FRr_up (by decide) e)))) (fun M3 q3 e3 => ?_)
        refine xr_iinc (v := nI (k + 1)) (ls2 := [(4, .int (nI (k + 1))), (3, .int (mi)), (2, .int (n)), (1, .int (seed)), (0, .ref (62))]) dX10_field_157 0 rfl (nI_1 _) (by decide) rfl ?_
        refine xr_goto (tgt := 52) dX10_field_160 rfl ?_
        refine xb_ls (ls2 := [(4, .int (nI (k + 1))), (3, .int (mi)), (2, .int (n)), (1, .int (seed)), (0, .ref (62))]) [0, 1, 2, 3, 4] rfl ?_
        have hS : fg k mi (fR M) = fR M3 := (if_neg c1).trans ((if_neg (Int32.not_lt.mpr c2)).trans q3.symm)
        exact ih (k + 1) M3 (by omega) e3 (fun M4 q4 e4 => hC M4 (q4.trans (congrArg (fG mi m (k + 1)) hS).symm) e4)
      · refine xr_goto (tgt := 157) dX10_field_83 rfl ?_
        refine xr_iinc (v := nI (k + 1)) (ls2 := [(4, .int (nI (k + 1))), (3, .int (mi)), (2, .int (n)), (1, .int (seed)), (0, .ref (62))]) dX10_field_157 0 rfl (nI_1 _) (by decide) rfl ?_
        refine xr_goto (tgt := 52) dX10_field_160 rfl ?_
        refine xb_ls (ls2 := [(4, .int (nI (k + 1))), (3, .int (mi)), (2, .int (n)), (1, .int (seed)), (0, .ref (62))]) [0, 1, 2, 3, 4] rfl ?_
        have hS : fg k mi (fR M) = fR (x_up M 62 32 (fz (M 62 32))) := (if_neg c1).trans (if_pos (Int32.not_le.mp c2))
        exact ih (k + 1) (x_up M 62 32 (fz (M 62 32))) (by omega) (FRr_up (by decide) e) (fun M4 q4 e4 => hC M4 (q4.trans (congrArg (fG mi m (k + 1)) hS).symm) e4)
