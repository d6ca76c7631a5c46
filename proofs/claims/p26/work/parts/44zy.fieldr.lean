def FRa (M : xM) (S : fiS) : Prop := M 62 32 = S.1 ∧ ∀ j, j < 25 → M 77 j = S.2.1 j ∧ M 78 j = S.2.2.1 j ∧ M 79 j = S.2.2.2 j
theorem FRa_z {M : xM} {S : fiS} {v : Int32} (h : FRa M S) : FRa (x_up M 62 32 v) (v, S.2) :=
  ⟨up_s, fun j hj => ⟨(up_n (by decide)).trans (h.2 j hj).1, (up_n (by decide)).trans (h.2 j hj).2.1, (up_n (by decide)).trans (h.2 j hj).2.2⟩⟩
theorem FRa_d {M : xM} {S : fiS} {g : Nat} {b m : Int32} (h : FRa M S) : FRa (x_up (x_up (x_up M 77 g 0) 78 g b) 79 g m) (fiDr g b m S) := by
  refine ⟨(up_n (by decide)).trans ((up_n (by decide)).trans ((up_n (by decide)).trans h.1)), fun j hj => ?_⟩
  by_cases e : j = g
  · subst e
    exact ⟨((up_n (by decide)).trans ((up_n (by decide)).trans up_s)).trans (if_pos rfl).symm, ((up_n (by decide)).trans up_s).trans (if_pos rfl).symm, up_s.trans (if_pos rfl).symm⟩
  · obtain ⟨a, b, c⟩ := h.2 j hj
    exact ⟨((up_n (by decide)).trans ((up_n (by decide)).trans ((up_k e).trans a))).trans (if_neg e).symm, ((up_n (by decide)).trans ((up_k e).trans ((up_n (by decide)).trans b))).trans (if_neg e).symm, ((up_k e).trans ((up_n (by decide)).trans ((up_n (by decide)).trans c))).trans (if_neg e).symm⟩
def FRa0 (M : xM) (se : Int32) (k : Nat) : Prop := M 62 32 = se ∧ ∀ j, j < k → M 77 j = 1 ∧ M 78 j = -2 ∧ M 79 j = 31
theorem FRa0_s {M : xM} {se : Int32} {k : Nat} (h : FRa0 M se k) : FRa0 (x_up (x_up (x_up M 77 k 1) 78 k (-2)) 79 k 31) se (k + 1) := by
  refine ⟨(up_n (by decide)).trans ((up_n (by decide)).trans ((up_n (by decide)).trans h.1)), fun j hj => ?_⟩
  by_cases e : j = k
  · subst e
    exact ⟨(up_n (by decide)).trans ((up_n (by decide)).trans up_s), (up_n (by decide)).trans up_s, up_s⟩
  · obtain ⟨a, b, c⟩ := h.2 j (by omega)
    exact ⟨(up_n (by decide)).trans ((up_n (by decide)).trans ((up_k e).trans a)), (up_n (by decide)).trans ((up_k e).trans ((up_n (by decide)).trans b)), (up_k e).trans ((up_n (by decide)).trans ((up_n (by decide)).trans c))⟩
set_option maxRecDepth 100000 in
set_option maxHeartbeats 4000000 in
theorem frw_draw {S1 : fiS} {l : Launch} {G : xG} {M : xM} {J : xJ} (hA : FRa M S1) : x_M l G fX10_draws 0 0 0 [.ref (62)] x_SH M J (qKI WFR M J (fun r M2 => r = fiD (fiZ S1.1) ∧ FRa M2 (fiZ S1.1, S1.2))) := by
  refine xb_of pX10 (Nat.le_of_ble_eq_true rfl) rfl ?_
  refine xr_aload_n dX10_draws_0 0 rfl ?_
  refine xr_aload_n dX10_draws_1 0 rfl ?_
  refine xb_get (v := S1.1) flX10_298 dX10_draws_2 s_62 rfl hA.1 ?_
  refine xr_ldcw coX10_301 dX10_draws_5 ?_
  refine xr_imul dX10_draws_8 ?_
  refine xr_sipush (v := 12345) dX10_draws_9 rfl ?_
  refine xr_iadd dX10_draws_12 ?_
  refine xr_putI fpX10_298 dX10_draws_13 s_62 rfl rfl rfl ?_
  refine xr_aload_n dX10_draws_16 0 rfl ?_
  refine xb_get (v := ((S1.1 * 1103515245) + 12345)) flX10_298 dX10_draws_17 s_62 rfl (x_up_s _ _ _ _) ?_
  refine xr_bipush (v := 8) dX10_draws_20 rfl ?_
  refine xr_iushr dX10_draws_22 ?_
  refine xr_bipush (v := 12) dX10_draws_23 rfl ?_
  refine xr_irem dX10_draws_25 (by decide) ?_
  exact xr_iret dX10_draws_26 rfl rfl (⟨_, rfl, rfl, rfl, (Ke.up (Or.inl (by omega)) Ke.rf), ⟨rfl, FRa_z hA⟩⟩)
set_option maxRecDepth 100000 in
set_option maxHeartbeats 4000000 in
theorem frw_drop {g : Nat} (hg : g < 25) (b mi : Int32) {S1 : fiS} {l : Launch} {G : xG} {M : xM} {J : xJ} (hA : FRa M S1) : x_M l G fX10_drops 0 0 0 [.ref (62), .int (nI (g)), .int (b), .int (mi)] x_SH M J (qKV WFR M J (fun M2 => FRa M2 (fiDr g b mi S1))) := by
  refine xb_of pX10 (Nat.le_of_ble_eq_true rfl) rfl ?_
  refine xr_aload_n dX10_drops_0 0 rfl ?_
  refine xr_getR flX10_56 dX10_drops_1 s_62 rfl ?_
  refine xr_iload_n dX10_drops_4 1 rfl ?_
  refine xr_iconst (v := 0) dX10_drops_5 rfl ?_
  refine xb_zast (j := g) (w := 0) dX10_drops_6 s_77 hg (by decide) rfl ?_
  refine xr_aload_n dX10_drops_7 0 rfl ?_
  refine xr_getR flX10_60 dX10_drops_8 s_62 rfl ?_
  refine xr_iload_n dX10_drops_11 1 rfl ?_
  refine xr_iload_n dX10_drops_12 2 rfl ?_
  refine xb_iast (j := g) dX10_drops_13 s_78 hg (by decide) ?_
  refine xr_aload_n dX10_drops_14 0 rfl ?_
  refine xr_getR flX10_63 dX10_drops_15 s_62 rfl ?_
  refine xr_iload_n dX10_drops_18 1 rfl ?_
  refine xr_iload_n dX10_drops_19 3 rfl ?_
  refine xb_iast (j := g) dX10_drops_20 s_79 hg (by decide) ?_
  exact xr_vret dX10_drops_21 rfl (⟨rfl, rfl, rfl, (Ke.up (Or.inr (by omega)) (Ke.up (Or.inr (by omega)) (Ke.up (Or.inr (by omega)) Ke.rf))), (FRa_d hA)⟩)
set_option maxRecDepth 100000 in
set_option maxHeartbeats 4000000 in
theorem frw_beside0 {g : Nat} (hg : g < 25) {l : Launch} {G : xG} {M : xM} {J : xJ} : x_M l G fX10_besideOf 0 0 0 [.int (nI (g)), .int (0)] x_SH M J (qPI M J (fun r => r = fiBI g 0)) := by
  refine xb_of pX10 (Nat.le_of_ble_eq_true rfl) rfl ?_
  refine xr_iload_n dX10_besideOf_0 1 rfl ?_
  refine xr_tableIn (tgt := 28) dX10_besideOf_1 (by decide) (by decide) rfl rfl ?_
  refine xr_iload_n dX10_besideOf_28 0 rfl ?_
  refine xr_iconst (v := 5) dX10_besideOf_29 rfl ?_
  refine xr_icmp_ge (tgt := 37) dX10_besideOf_30 rfl (fun c1 => ?_) (fun c1 => ?_)
  · refine xr_iload_n dX10_besideOf_37 0 rfl ?_
    refine xr_iconst (v := 5) dX10_besideOf_38 rfl ?_
    refine xr_isub dX10_besideOf_39 ?_
    exact xr_iret dX10_besideOf_40 rfl rfl (⟨_, rfl, rfl, rfl, rfl, ((show ∀ g, g < 25 → 5 ≤ (nI (g)) → (((nI (g)) - 5) : Int32) = fiBI g 0 by decide +kernel) g hg c1)⟩)
  · refine xr_iconst (v := -1) dX10_besideOf_33 rfl ?_
    refine xr_goto (tgt := 40) dX10_besideOf_34 rfl ?_
    exact xr_iret dX10_besideOf_40 rfl rfl (⟨_, rfl, rfl, rfl, rfl, ((show ∀ g, g < 25 → ¬ 5 ≤ (nI (g)) → ((-1) : Int32) = fiBI g 0 by decide +kernel) g hg c1)⟩)
set_option maxRecDepth 100000 in
set_option maxHeartbeats 4000000 in
theorem frw_beside1 {g : Nat} (hg : g < 25) {l : Launch} {G : xG} {M : xM} {J : xJ} : x_M l G fX10_besideOf 0 0 0 [.int (nI (g)), .int (1)] x_SH M J (qPI M J (fun r => r = fiBI g 1)) := by
  refine xb_of pX10 (Nat.le_of_ble_eq_true rfl) rfl ?_
  refine xr_iload_n dX10_besideOf_0 1 rfl ?_
  refine xr_tableIn (tgt := 41) dX10_besideOf_1 (by decide) (by decide) rfl rfl ?_
  refine xr_iload_n dX10_besideOf_41 0 rfl ?_
  refine xr_iconst (v := 5) dX10_besideOf_42 rfl ?_
  refine xr_irem dX10_besideOf_43 (by decide) ?_
  refine xr_iconst (v := 4) dX10_besideOf_44 rfl ?_
  refine xr_icmp_ne (tgt := 52) dX10_besideOf_45 rfl (fun c1 => ?_) (fun c1 => ?_)
  · refine xr_iload_n dX10_besideOf_52 0 rfl ?_
    refine xr_iconst (v := 1) dX10_besideOf_53 rfl ?_
    refine xr_iadd dX10_besideOf_54 ?_
    refine xb_top (y := nI (g + 1)) (nI_add (g) (1)) ?_
    exact xr_iret dX10_besideOf_55 rfl rfl (⟨_, rfl, rfl, rfl, rfl, ((show ∀ g, g < 25 → ¬ ((nI (g)) - (nI (g)) / 5 * 5) = 4 → (nI (g + 1) : Int32) = fiBI g 1 by decide +kernel) g hg c1)⟩)
  · refine xr_iconst (v := -1) dX10_besideOf_48 rfl ?_
    refine xr_goto (tgt := 55) dX10_besideOf_49 rfl ?_
    exact xr_iret dX10_besideOf_55 rfl rfl (⟨_, rfl, rfl, rfl, rfl, ((show ∀ g, g < 25 → ((nI (g)) - (nI (g)) / 5 * 5) = 4 → ((-1) : Int32) = fiBI g 1 by decide +kernel) g hg c1)⟩)
set_option maxRecDepth 100000 in
set_option maxHeartbeats 4000000 in
theorem frw_beside2 {g : Nat} (hg : g < 25) {l : Launch} {G : xG} {M : xM} {J : xJ} : x_M l G fX10_besideOf 0 0 0 [.int (nI (g)), .int (2)] x_SH M J (qPI M J (fun r => r = fiBI g 2)) := by
  refine xb_of pX10 (Nat.le_of_ble_eq_true rfl) rfl ?_
  refine xr_iload_n dX10_besideOf_0 1 rfl ?_
  refine xr_tableIn (tgt := 56) dX10_besideOf_1 (by decide) (by decide) rfl rfl ?_
  refine xr_iload_n dX10_besideOf_56 0 rfl ?_
  refine xr_bipush (v := 19) dX10_besideOf_57 rfl ?_
  refine xr_icmp_le (tgt := 66) dX10_besideOf_59 rfl (fun c1 => ?_) (fun c1 => ?_)
  · refine xr_iload_n dX10_besideOf_66 0 rfl ?_
    refine xr_iconst (v := 5) dX10_besideOf_67 rfl ?_
    refine xr_iadd dX10_besideOf_68 ?_
    refine xb_top (y := nI (g + 5)) (nI_add (g) (5)) ?_
    exact xr_iret dX10_besideOf_69 rfl rfl (⟨_, rfl, rfl, rfl, rfl, ((show ∀ g, g < 25 → (nI (g)) ≤ 19 → (nI (g + 5) : Int32) = fiBI g 2 by decide +kernel) g hg c1)⟩)
  · refine xr_iconst (v := -1) dX10_besideOf_62 rfl ?_
    refine xr_goto (tgt := 69) dX10_besideOf_63 rfl ?_
    exact xr_iret dX10_besideOf_69 rfl rfl (⟨_, rfl, rfl, rfl, rfl, ((show ∀ g, g < 25 → ¬ (nI (g)) ≤ 19 → ((-1) : Int32) = fiBI g 2 by decide +kernel) g hg c1)⟩)
set_option maxRecDepth 100000 in
set_option maxHeartbeats 4000000 in
theorem frw_beside3 {g : Nat} (hg : g < 25) {l : Launch} {G : xG} {M : xM} {J : xJ} : x_M l G fX10_besideOf 0 0 0 [.int (nI (g)), .int (3)] x_SH M J (qPI M J (fun r => r = fiBI g 3)) := by
  refine xb_of pX10 (Nat.le_of_ble_eq_true rfl) rfl ?_
  refine xr_iload_n dX10_besideOf_0 1 rfl ?_
  refine xr_tableOut (tgt := 70) dX10_besideOf_1 (by decide) rfl ?_
  refine xr_iload_n dX10_besideOf_70 0 rfl ?_
  refine xr_iconst (v := 5) dX10_besideOf_71 rfl ?_
  refine xr_irem dX10_besideOf_72 (by decide) ?_
  refine xr_if_ne (tgt := 80) dX10_besideOf_73 rfl (fun c1 => ?_) (fun c1 => ?_)
  · refine xr_iload_n dX10_besideOf_80 0 rfl ?_
    refine xr_iconst (v := 1) dX10_besideOf_81 rfl ?_
    refine xr_isub dX10_besideOf_82 ?_
    exact xr_iret dX10_besideOf_83 rfl rfl (⟨_, rfl, rfl, rfl, rfl, ((show ∀ g, g < 25 → ¬ ((nI (g)) - (nI (g)) / 5 * 5) = 0 → (((nI (g)) - 1) : Int32) = fiBI g 3 by decide +kernel) g hg c1)⟩)
  · refine xr_iconst (v := -1) dX10_besideOf_76 rfl ?_
    refine xr_goto (tgt := 83) dX10_besideOf_77 rfl ?_
    exact xr_iret dX10_besideOf_83 rfl rfl (⟨_, rfl, rfl, rfl, rfl, ((show ∀ g, g < 25 → ((nI (g)) - (nI (g)) / 5 * 5) = 0 → ((-1) : Int32) = fiBI g 3 by decide +kernel) g hg c1)⟩)
theorem frw_beside {g k : Nat} (hg : g < 25) (hk : k < 4) {l : Launch} {G : xG} {M : xM} {J : xJ} : x_M l G fX10_besideOf 0 0 0 [.int (nI g), .int (nI k)] x_SH M J (qPI M J (fun r => r = fiBI g k)) := by
  match k, hk with
  | 0, _ => exact frw_beside0 hg
  | 1, _ => exact frw_beside1 hg
  | 2, _ => exact frw_beside2 hg
  | 3, _ => exact frw_beside3 hg
set_option maxRecDepth 100000 in
set_option maxHeartbeats 4000000 in
theorem frx_k {mi se kk : Int32} {n : Nat} {T : fiS} {g : Nat} (hg : g < 25) {l : Launch} {G : xG} {M : xM} {J : xJ} {Q : xQ} (e_kk : M 63 19 = kk) (hC : ∀ (M2 : xM), Ke WFR M M2 → (FRa M2 T) → x_X l G fX10_field 1 0 0 Q 157 [(4, .int (nI (g))), (3, .int (mi)), (2, .int (nI (n))), (1, .int (se)), (0, .ref (62))] [] x_SH M2 J 0 0) : ∀ (m k : Nat) (M1 : xM), k + m = 4 → Ke WFR M M1 → (∃ S1, FRa M1 S1 ∧ fiKL kk g mi (4 - k) k S1 = T) → x_X l G fX10_field 1 0 0 Q 98 [(5, .int (nI (k))), (4, .int (nI (g))), (3, .int (mi)), (2, .int (nI (n))), (1, .int (se)), (0, .ref (62))] [] x_SH M1 J 0 0 := by
  intro m
  induction m with
  | zero =>
    intro k M1 hk hM hI
    obtain ⟨S1, hA1, hT1⟩ := hI
    refine xr_iload dX10_field_98 0 rfl ?_
    refine xr_iconst (v := 4) dX10_field_100 rfl ?_
    refine xr_icmp_ge (tgt := 157) dX10_field_101 rfl (fun _ => ?_) (fun c => absurd (nI_le (a := 4) (b := k) (by omega) (by omega)) c)
    refine xb_ls (ls2 := [(4, .int (nI (g))), (3, .int (mi)), (2, .int (nI (n))), (1, .int (se)), (0, .ref (62))]) [1, 2, 3, 4, 5] rfl ?_
    exact hC _ hM (by obtain rfl : k = 4 := (by omega); exact (show S1 = T from hT1) ▸ hA1)
  | succ m ih =>
    intro k M1 hk hM hI
    have hkN : k < 4 := by omega
    obtain ⟨S1, hA1, hT1⟩ := hI
    refine xr_iload dX10_field_98 0 rfl ?_
    refine xr_iconst (v := 4) dX10_field_100 rfl ?_
    refine xr_icmp_ge (tgt := 157) dX10_field_101 rfl (fun c => absurd c (nI_ge (a := k) (b := 4) (by omega) (by omega))) (fun _ => ?_)
    refine xr_iload dX10_field_104 1 rfl ?_
    refine xr_iload dX10_field_106 0 rfl ?_
    refine xr_callS (As := [.int (nI (g)), .int (nI (k))]) (rest := []) mlX10_308 (frw_beside hg hkN) dX10_field_108 rfl rfl (Nat.le_of_ble_eq_true rfl) (by decide) ⟨by decide, by decide⟩ (fun v s2 M9 J2 hq => ?_)
    obtain ⟨r_, rfl, rfl, rfl, rfl, hb1⟩ := hq
    try dsimp only [Option.toList, List.cons_append, List.nil_append]
    rcases fi_bc g hg k hkN with ⟨h2, h3⟩ | ⟨h2, h3⟩
    · obtain rfl : r_ = -1 := hb1.trans h2
      refine xr_istore (ls2 := [(6, .int ((-1))), (5, .int (nI (k))), (4, .int (nI (g))), (3, .int (mi)), (2, .int (nI (n))), (1, .int (se)), (0, .ref (62))]) dX10_field_111 (by decide) rfl ?_
      refine xr_iload dX10_field_113 0 rfl ?_
      refine xr_if_lt (tgt := 151) dX10_field_115 rfl (fun _ => ?_) (fun c => absurd (by decide) c)
      refine xr_iinc (v := nI (k + 1)) (ls2 := [(5, .int (nI (k + 1))), (6, .int ((-1))), (4, .int (nI (g))), (3, .int (mi)), (2, .int (nI (n))), (1, .int (se)), (0, .ref (62))]) dX10_field_151 1 rfl (nI_1 _) (by decide) rfl ?_
      refine xr_goto (tgt := 98) dX10_field_154 rfl ?_
      refine xb_ls (ls2 := [(5, .int (nI (k + 1))), (4, .int (nI (g))), (3, .int (mi)), (2, .int (nI (n))), (1, .int (se)), (0, .ref (62))]) [0, 2, 3, 4, 5, 6] rfl ?_
      exact ih (k + 1) M1 (by omega) hM ⟨_, hA1, fiKL_y hkN (if_pos h3) hT1⟩
    obtain rfl : r_ = nI (fiB g k) := hb1.trans h3
    refine xr_istore (ls2 := [(6, .int (nI (fiB g k))), (5, .int (nI (k))), (4, .int (nI (g))), (3, .int (mi)), (2, .int (nI (n))), (1, .int (se)), (0, .ref (62))]) dX10_field_111 (by decide) rfl ?_
    refine xr_iload dX10_field_113 0 rfl ?_
    refine xr_if_lt (tgt := 151) dX10_field_115 rfl (fun c => absurd c (fi_nl h2)) (fun _ => ?_)
    refine xr_aload_n dX10_field_118 6 rfl ?_
    refine xr_getR flX10_56 dX10_field_119 s_62 rfl ?_
    refine xr_iload dX10_field_122 0 rfl ?_
    refine xb_zald (j := fiB g k) (v := (S1.2.1 (fiB g k))) dX10_field_124 s_77 h2 (by decide) (hA1.2 (fiB g k) h2).1 ?_
    refine xr_if_eq (tgt := 151) dX10_field_125 rfl (fun c4 => ?_) (fun c4 => ?_)
    · refine xr_iinc (v := nI (k + 1)) (ls2 := [(5, .int (nI (k + 1))), (6, .int (nI (fiB g k))), (4, .int (nI (g))), (3, .int (mi)), (2, .int (nI (n))), (1, .int (se)), (0, .ref (62))]) dX10_field_151 1 rfl (nI_1 _) (by decide) rfl ?_
      refine xr_goto (tgt := 98) dX10_field_154 rfl ?_
      refine xb_ls (ls2 := [(5, .int (nI (k + 1))), (4, .int (nI (g))), (3, .int (mi)), (2, .int (nI (n))), (1, .int (se)), (0, .ref (62))]) [0, 2, 3, 4, 5, 6] rfl ?_
      exact ih (k + 1) M1 (by omega) hM ⟨_, hA1, fiKL_y hkN ((if_neg (fun q => absurd h2 (by rw [q]; decide))).trans (if_pos c4)) hT1⟩
    · refine xr_aload_n dX10_field_128 6 rfl ?_
      refine xr_callV (As := []) (rest := []) mlX10_302 (frw_draw hA1) dX10_field_129 s_62 rfl rfl (Nat.le_of_ble_eq_true rfl) (by decide) ⟨by decide, by decide⟩ (fun v s2 M6 J2 hq => ?_)
      obtain ⟨r8, rfl, rfl, rfl, k7, ⟨rfl, hA5⟩⟩ := hq
      try dsimp only [Option.toList, List.cons_append, List.nil_append]
      refine xr_aload_n dX10_field_132 6 rfl ?_
      refine xr_getR flX10_9 dX10_field_133 s_62 rfl ?_
      refine xr_bipush (v := 19) dX10_field_136 rfl ?_
      refine xb_iald (j := 19) (v := kk) dX10_field_138 s_63 (by decide) (by decide) (Eq.trans (k7 63 19 (by decide)) (Eq.trans (hM 63 19 (by decide)) e_kk)) ?_
      refine xr_icmp_ge (tgt := 151) dX10_field_139 rfl (fun c9 => ?_) (fun c9 => ?_)
      · refine xr_iinc (v := nI (k + 1)) (ls2 := [(5, .int (nI (k + 1))), (6, .int (nI (fiB g k))), (4, .int (nI (g))), (3, .int (mi)), (2, .int (nI (n))), (1, .int (se)), (0, .ref (62))]) dX10_field_151 1 rfl (nI_1 _) (by decide) rfl ?_
        refine xr_goto (tgt := 98) dX10_field_154 rfl ?_
        refine xb_ls (ls2 := [(5, .int (nI (k + 1))), (4, .int (nI (g))), (3, .int (mi)), (2, .int (nI (n))), (1, .int (se)), (0, .ref (62))]) [0, 2, 3, 4, 5, 6] rfl ?_
        exact ih (k + 1) M6 (by omega) (Ke.tr (fun _ _ h => h) hM k7) ⟨_, hA5, fiKL_y hkN ((if_neg (fun q => absurd h2 (by rw [q]; decide))).trans ((if_neg c4).trans (if_neg (Int32.not_lt.mpr c9)))) hT1⟩
      · refine xr_aload_n dX10_field_142 6 rfl ?_
        refine xr_iload dX10_field_143 0 rfl ?_
        refine xr_iload dX10_field_145 2 rfl ?_
        refine xr_iload_n dX10_field_147 3 rfl ?_
        refine xr_callV (As := [.int (nI (fiB g k)), .int (nI (g)), .int (mi)]) (rest := []) mlX10_305 (frw_drop (g := fiB g k) h2 (nI (g)) mi hA5) dX10_field_148 s_62 rfl rfl (Nat.le_of_ble_eq_true rfl) (by decide) ⟨by decide, by decide⟩ (fun v s2 M11 J2 hq => ?_)
        obtain ⟨rfl, rfl, rfl, k12, hA10⟩ := hq
        try dsimp only [Option.toList, List.cons_append, List.nil_append]
        refine xr_iinc (v := nI (k + 1)) (ls2 := [(5, .int (nI (k + 1))), (6, .int (nI (fiB g k))), (4, .int (nI (g))), (3, .int (mi)), (2, .int (nI (n))), (1, .int (se)), (0, .ref (62))]) dX10_field_151 1 rfl (nI_1 _) (by decide) rfl ?_
        refine xr_goto (tgt := 98) dX10_field_154 rfl ?_
        refine xb_ls (ls2 := [(5, .int (nI (k + 1))), (4, .int (nI (g))), (3, .int (mi)), (2, .int (nI (n))), (1, .int (se)), (0, .ref (62))]) [0, 2, 3, 4, 5, 6] rfl ?_
        exact ih (k + 1) M11 (by omega) (Ke.tr (fun _ _ h => h) (Ke.tr (fun _ _ h => h) hM k7) k12) ⟨_, hA10, fiKL_y hkN ((if_neg (fun q => absurd h2 (by rw [q]; decide))).trans ((if_neg c4).trans (if_pos (Int32.not_le.mp c9)))) hT1⟩
set_option maxRecDepth 100000 in
set_option maxHeartbeats 4000000 in
theorem frx_g {mi se kk : Int32} {n : Nat} {T : fiS} {sk : Nat → Int32} {l : Launch} {G : xG} {M : xM} {J : xJ} {Q : xQ} (hs : ∀ j, j < 25 → M 75 j = sk j) (e_kk : M 63 19 = kk) (hC : ∀ (M2 : xM), Ke WFR M M2 → (FRa M2 T) → x_X l G fX10_field 1 0 0 Q 163 [(3, .int (mi)), (2, .int (nI (n))), (1, .int (se)), (0, .ref (62))] [] x_SH M2 J 0 0) : ∀ (m k : Nat) (M1 : xM), k + m = 25 → Ke WFR M M1 → (∃ S1, FRa M1 S1 ∧ fiG sk kk mi (25 - k) k S1 = T) → x_X l G fX10_field 1 0 0 Q 52 [(4, .int (nI (k))), (3, .int (mi)), (2, .int (nI (n))), (1, .int (se)), (0, .ref (62))] [] x_SH M1 J 0 0 := by
  intro m
  induction m with
  | zero =>
    intro k M1 hk hM hI
    obtain ⟨S1, hA1, hT1⟩ := hI
    refine xr_iload dX10_field_52 0 rfl ?_
    refine xr_bipush (v := 25) dX10_field_54 rfl ?_
    refine xr_icmp_ge (tgt := 163) dX10_field_56 rfl (fun _ => ?_) (fun c => absurd (nI_le (a := 25) (b := k) (by omega) (by omega)) c)
    refine xb_ls (ls2 := [(3, .int (mi)), (2, .int (nI (n))), (1, .int (se)), (0, .ref (62))]) [1, 2, 3, 4] rfl ?_
    exact hC _ hM (by obtain rfl : k = 25 := (by omega); exact (show S1 = T from hT1) ▸ hA1)
  | succ m ih =>
    intro k M1 hk hM hI
    have hkN : k < 25 := by omega
    obtain ⟨S1, hA1, hT1⟩ := hI
    refine xr_iload dX10_field_52 0 rfl ?_
    refine xr_bipush (v := 25) dX10_field_54 rfl ?_
    refine xr_icmp_ge (tgt := 163) dX10_field_56 rfl (fun c => absurd c (nI_ge (a := k) (b := 25) (by omega) (by omega))) (fun _ => ?_)
    refine xr_aload_n dX10_field_59 4 rfl ?_
    refine xr_getR flX10_56 dX10_field_60 s_62 rfl ?_
    refine xr_iload dX10_field_63 0 rfl ?_
    refine xb_zald (j := k) (v := (S1.2.1 k)) dX10_field_65 s_77 hkN (by decide) (hA1.2 k hkN).1 ?_
    refine xr_if_eq (tgt := 157) dX10_field_66 rfl (fun c1 => ?_) (fun c1 => ?_)
    · refine xr_iinc (v := nI (k + 1)) (ls2 := [(4, .int (nI (k + 1))), (3, .int (mi)), (2, .int (nI (n))), (1, .int (se)), (0, .ref (62))]) dX10_field_157 0 rfl (nI_1 _) (by decide) rfl ?_
      refine xr_goto (tgt := 52) dX10_field_160 rfl ?_
      refine xb_ls (ls2 := [(4, .int (nI (k + 1))), (3, .int (mi)), (2, .int (nI (n))), (1, .int (se)), (0, .ref (62))]) [0, 1, 2, 3, 4] rfl ?_
      exact ih (k + 1) M1 (by omega) hM ⟨_, hA1, fiG_y hkN (if_pos c1) hT1⟩
    · refine xr_aload_n dX10_field_69 4 rfl ?_
      refine xr_callV (As := []) (rest := []) mlX10_302 (frw_draw hA1) dX10_field_70 s_62 rfl rfl (Nat.le_of_ble_eq_true rfl) (by decide) ⟨by decide, by decide⟩ (fun v s2 M3 J2 hq => ?_)
      obtain ⟨r5, rfl, rfl, rfl, k4, ⟨rfl, hA2⟩⟩ := hq
      try dsimp only [Option.toList, List.cons_append, List.nil_append]
      refine xr_aload_n dX10_field_73 4 rfl ?_
      refine xr_getR flX10_50 dX10_field_74 s_62 rfl ?_
      refine xr_iload dX10_field_77 0 rfl ?_
      refine xb_iald (j := k) (v := (sk k)) dX10_field_79 s_75 hkN (by decide) (Eq.trans (k4 75 k (by unfold WFR; omega)) (Eq.trans (hM 75 k (by unfold WFR; omega)) (hs k hkN))) ?_
      refine xr_icmp_ge (tgt := 86) dX10_field_80 rfl (fun c6 => ?_) (fun c6 => ?_)
      · refine xr_aload_n dX10_field_86 4 rfl ?_
        refine xr_iload dX10_field_87 0 rfl ?_
        refine xr_bipush (v := -2) dX10_field_89 rfl ?_
        refine xr_iload_n dX10_field_91 1 rfl ?_
        refine xr_callV (As := [.int (nI (k)), .int ((-2)), .int (mi)]) (rest := []) mlX10_305 (frw_drop (g := k) hkN (-2) mi hA2) dX10_field_92 s_62 rfl rfl (Nat.le_of_ble_eq_true rfl) (by decide) ⟨by decide, by decide⟩ (fun v s2 M8 J2 hq => ?_)
        obtain ⟨rfl, rfl, rfl, k9, hA7⟩ := hq
        try dsimp only [Option.toList, List.cons_append, List.nil_append]
        refine xr_iconst (v := 0) dX10_field_95 rfl ?_
        refine xr_istore (ls2 := [(5, .int (0)), (4, .int (nI (k))), (3, .int (mi)), (2, .int (nI (n))), (1, .int (se)), (0, .ref (62))]) dX10_field_96 (by decide) rfl ?_
        refine xb_ls (ls2 := [(5, .int (nI (0))), (4, .int (nI (k))), (3, .int (mi)), (2, .int (nI (n))), (1, .int (se)), (0, .ref (62))]) [0, 1, 2, 3, 4, 5] rfl ?_
        refine frx_k hkN (Eq.trans (k9 63 19 (by decide)) (Eq.trans (k4 63 19 (by decide)) (Eq.trans (hM 63 19 (by decide)) e_kk))) (fun M11 k12 hB10 => ?_) (4 - 0) 0 M8 (by omega) Ke.rf ⟨_, hA7, rfl⟩
        refine xr_iinc (v := nI (k + 1)) (ls2 := [(4, .int (nI (k + 1))), (3, .int (mi)), (2, .int (nI (n))), (1, .int (se)), (0, .ref (62))]) dX10_field_157 0 rfl (nI_1 _) (by decide) rfl ?_
        refine xr_goto (tgt := 52) dX10_field_160 rfl ?_
        refine xb_ls (ls2 := [(4, .int (nI (k + 1))), (3, .int (mi)), (2, .int (nI (n))), (1, .int (se)), (0, .ref (62))]) [0, 1, 2, 3, 4] rfl ?_
        exact ih (k + 1) M11 (by omega) (Ke.tr (fun _ _ h => h) (Ke.tr (fun _ _ h => h) (Ke.tr (fun _ _ h => h) hM k4) k9) k12) ⟨_, hB10, fiG_y hkN ((if_neg c1).trans (if_neg (Int32.not_lt.mpr c6))) hT1⟩
      · refine xr_goto (tgt := 157) dX10_field_83 rfl ?_
        refine xr_iinc (v := nI (k + 1)) (ls2 := [(4, .int (nI (k + 1))), (3, .int (mi)), (2, .int (nI (n))), (1, .int (se)), (0, .ref (62))]) dX10_field_157 0 rfl (nI_1 _) (by decide) rfl ?_
        refine xr_goto (tgt := 52) dX10_field_160 rfl ?_
        refine xb_ls (ls2 := [(4, .int (nI (k + 1))), (3, .int (mi)), (2, .int (nI (n))), (1, .int (se)), (0, .ref (62))]) [0, 1, 2, 3, 4] rfl ?_
        exact ih (k + 1) M3 (by omega) (Ke.tr (fun _ _ h => h) hM k4) ⟨_, hA2, fiG_y hkN ((if_neg c1).trans (if_pos (Int32.not_le.mp c6))) hT1⟩
set_option maxRecDepth 100000 in
set_option maxHeartbeats 4000000 in
theorem frx_i {se : Int32} {n : Nat} {l : Launch} {G : xG} {M : xM} {J : xJ} {Q : xQ} (hC : ∀ (M2 : xM), Ke WFR M M2 → (FRa0 M2 se 25) → x_X l G fX10_field 1 0 0 Q 42 [(2, .int (nI (n))), (1, .int (se)), (0, .ref (62))] [] x_SH M2 J 0 0) : ∀ (m k : Nat) (M1 : xM), k + m = 25 → Ke WFR M M1 → (FRa0 M1 se k) → x_X l G fX10_field 1 0 0 Q 7 [(3, .int (nI (k))), (2, .int (nI (n))), (1, .int (se)), (0, .ref (62))] [] x_SH M1 J 0 0 := by
  intro m
  induction m with
  | zero =>
    intro k M1 hk hM hI
    refine xr_iload_n dX10_field_7 0 rfl ?_
    refine xr_bipush (v := 25) dX10_field_8 rfl ?_
    refine xr_icmp_ge (tgt := 42) dX10_field_10 rfl (fun _ => ?_) (fun c => absurd (nI_le (a := 25) (b := k) (by omega) (by omega)) c)
    refine xb_ls (ls2 := [(2, .int (nI (n))), (1, .int (se)), (0, .ref (62))]) [1, 2, 3] rfl ?_
    exact hC _ hM (by obtain rfl : k = 25 := (by omega); exact hI)
  | succ m ih =>
    intro k M1 hk hM hI
    have hkN : k < 25 := by omega
    refine xr_iload_n dX10_field_7 0 rfl ?_
    refine xr_bipush (v := 25) dX10_field_8 rfl ?_
    refine xr_icmp_ge (tgt := 42) dX10_field_10 rfl (fun c => absurd c (nI_ge (a := k) (b := 25) (by omega) (by omega))) (fun _ => ?_)
    refine xr_aload_n dX10_field_13 3 rfl ?_
    refine xr_getR flX10_56 dX10_field_14 s_62 rfl ?_
    refine xr_iload_n dX10_field_17 0 rfl ?_
    refine xr_iconst (v := 1) dX10_field_18 rfl ?_
    refine xb_zast (j := k) (w := 1) dX10_field_19 s_77 hkN (by decide) rfl ?_
    refine xr_aload_n dX10_field_20 3 rfl ?_
    refine xr_getR flX10_60 dX10_field_21 s_62 rfl ?_
    refine xr_iload_n dX10_field_24 0 rfl ?_
    refine xr_bipush (v := -2) dX10_field_25 rfl ?_
    refine xb_iast (j := k) dX10_field_27 s_78 hkN (by decide) ?_
    refine xr_aload_n dX10_field_28 3 rfl ?_
    refine xr_getR flX10_63 dX10_field_29 s_62 rfl ?_
    refine xr_iload_n dX10_field_32 0 rfl ?_
    refine xr_bipush (v := 31) dX10_field_33 rfl ?_
    refine xb_iast (j := k) dX10_field_35 s_79 hkN (by decide) ?_
    refine xr_iinc (v := nI (k + 1)) (ls2 := [(3, .int (nI (k + 1))), (2, .int (nI (n))), (1, .int (se)), (0, .ref (62))]) dX10_field_36 0 rfl (nI_1 _) (by decide) rfl ?_
    refine xr_goto (tgt := 7) dX10_field_39 rfl ?_
    refine xb_ls (ls2 := [(3, .int (nI (k + 1))), (2, .int (nI (n))), (1, .int (se)), (0, .ref (62))]) [0, 1, 2, 3] rfl ?_
    exact ih (k + 1) (x_up (x_up (x_up M1 77 k 1) 78 k (-2)) 79 k 31) (by omega) (Ke.up (Or.inr (by omega)) (Ke.up (Or.inr (by omega)) (Ke.up (Or.inr (by omega)) hM))) (FRa0_s hI)
set_option maxRecDepth 100000 in
set_option maxHeartbeats 4000000 in
theorem frx_m {se kk : Int32} {n : Nat} (hn : n ≤ 30) {T : fiS} {sk : Nat → Int32} {l : Launch} {G : xG} {M : xM} {J : xJ} {Q : xQ} (hs : ∀ j, j < 25 → M 75 j = sk j) (e_kk : M 63 19 = kk) (hC : ∀ (M2 : xM), Ke WFR M M2 → (FRa M2 T) → x_X l G fX10_field 1 0 0 Q 169 [(2, .int (nI (n))), (1, .int (se)), (0, .ref (62))] [] x_SH M2 J 0 0) : ∀ (m k : Nat) (M1 : xM), k + m = n + 1 → Ke WFR M M1 → (∃ S1, FRa M1 S1 ∧ fiM sk kk (n + 1 - k) k S1 = T) → x_X l G fX10_field 1 0 0 Q 44 [(3, .int (nI (k))), (2, .int (nI (n))), (1, .int (se)), (0, .ref (62))] [] x_SH M1 J 0 0 := by
  intro m
  induction m with
  | zero =>
    intro k M1 hk hM hI
    obtain ⟨S1, hA1, hT1⟩ := hI
    refine xr_iload_n dX10_field_44 0 rfl ?_
    refine xr_iload_n dX10_field_45 1 rfl ?_
    refine xr_icmp_gt (tgt := 169) dX10_field_46 rfl (fun _ => ?_) (fun c => absurd (nI_lt (a := n) (b := k) (by omega) (by omega)) c)
    refine xb_ls (ls2 := [(2, .int (nI (n))), (1, .int (se)), (0, .ref (62))]) [1, 2, 3] rfl ?_
    exact hC _ hM (by obtain rfl : k = n + 1 := (by omega); rw [Nat.sub_self] at hT1; exact (show S1 = T from hT1) ▸ hA1)
  | succ m ih =>
    intro k M1 hk hM hI
    have hkN : k < n + 1 := by omega
    obtain ⟨S1, hA1, hT1⟩ := hI
    refine xr_iload_n dX10_field_44 0 rfl ?_
    refine xr_iload_n dX10_field_45 1 rfl ?_
    refine xr_icmp_gt (tgt := 169) dX10_field_46 rfl (fun c => absurd c (nI_nlt (a := n) (b := k) (by omega) (by omega))) (fun _ => ?_)
    refine xr_iconst (v := 0) dX10_field_49 rfl ?_
    refine xr_istore (ls2 := [(4, .int (0)), (3, .int (nI (k))), (2, .int (nI (n))), (1, .int (se)), (0, .ref (62))]) dX10_field_50 (by decide) rfl ?_
    refine xb_ls (ls2 := [(4, .int (nI (0))), (3, .int (nI (k))), (2, .int (nI (n))), (1, .int (se)), (0, .ref (62))]) [0, 1, 2, 3, 4] rfl ?_
    refine frx_g (fun j hj => ((Eq.trans (hM 75 j (by unfold WFR; omega)) rfl)).trans (hs j hj)) (Eq.trans (hM 63 19 (by decide)) e_kk) (fun M2 k3 hB1 => ?_) (25 - 0) 0 M1 (by omega) Ke.rf ⟨_, hA1, rfl⟩
    refine xr_iinc (v := nI (k + 1)) (ls2 := [(3, .int (nI (k + 1))), (2, .int (nI (n))), (1, .int (se)), (0, .ref (62))]) dX10_field_163 0 rfl (nI_1 _) (by decide) rfl ?_
    refine xr_goto (tgt := 44) dX10_field_166 rfl ?_
    refine xb_ls (ls2 := [(3, .int (nI (k + 1))), (2, .int (nI (n))), (1, .int (se)), (0, .ref (62))]) [0, 1, 2, 3] rfl ?_
    exact ih (k + 1) M2 (by omega) (Ke.tr (fun _ _ h => h) hM k3) ⟨_, hB1, fiM_y hkN rfl hT1⟩
set_option maxRecDepth 100000 in
set_option maxHeartbeats 4000000 in
theorem frw_play (se : Int32) {n : Nat} (hn : n ≤ 30) {kk : Int32} {sk : Nat → Int32} {l : Launch} {G : xG} {M : xM} {J : xJ} (hs : ∀ j, j < 25 → M 75 j = sk j) (e_kk : M 63 19 = kk) : x_M l G fX10_field 1 0 0 [.ref (62), .int (se), .int (nI (n))] x_SH M J (qKV WFR M J (fun M2 => FRa M2 (fiF sk kk se n))) := by
  refine xb_of pX10 (Nat.le_of_ble_eq_true rfl) rfl ?_
  refine xr_aload_n dX10_field_0 0 rfl ?_
  refine xr_iload_n dX10_field_1 1 rfl ?_
  refine xr_putI fpX10_298 dX10_field_2 s_62 rfl rfl rfl ?_
  refine xr_iconst (v := 0) dX10_field_5 rfl ?_
  refine xr_istore_n (ls2 := [(3, .int (0)), (0, .ref (62)), (1, .int (se)), (2, .int (nI (n)))]) dX10_field_6 (by decide) rfl ?_
  refine xb_ls (ls2 := [(3, .int (nI (0))), (2, .int (nI (n))), (1, .int (se)), (0, .ref (62))]) [0, 3, 2, 1] rfl ?_
  refine frx_i (fun M1 k2 hB0 => ?_) (25 - 0) 0 (x_up M 62 32 se) (by omega) Ke.rf ⟨(x_up_s _ _ _ _), fun j hj => absurd hj (Nat.not_lt_zero j)⟩
  refine xr_iconst (v := 1) dX10_field_42 rfl ?_
  refine xr_istore_n (ls2 := [(3, .int (1)), (2, .int (nI (n))), (1, .int (se)), (0, .ref (62))]) dX10_field_43 (by decide) rfl ?_
  refine xb_ls (ls2 := [(3, .int (nI (1))), (2, .int (nI (n))), (1, .int (se)), (0, .ref (62))]) [0, 1, 2, 3] rfl ?_
  refine frx_m hn (fun j hj => ((Eq.trans (k2 75 j (by unfold WFR; omega)) (Eq.trans (congrFun (x_up_n _ _ _ (by decide)) _) rfl))).trans (hs j hj)) (Eq.trans (k2 63 19 (by decide)) (Eq.trans (congrFun (x_up_n _ _ _ (by decide)) _) e_kk)) (fun M3 k4 hB => ?_) (n + 1 - 1) 1 M1 (by omega) Ke.rf ⟨fi0 se, hB0, rfl⟩
  exact xr_vret dX10_field_169 rfl (⟨rfl, rfl, rfl, (Ke.tr (fun _ _ h => h) (Ke.tr (fun _ _ h => h) (Ke.up (Or.inl (by omega)) Ke.rf) k2) k4), hB⟩)
set_option maxRecDepth 100000 in
set_option maxHeartbeats 4000000 in
theorem frx_l {U : Nat → Int32} {T : Nat} {w : Int32} {l : Launch} {G : xG} {M : xM} {J : xJ} {Q : xQ} (hU : ∀ j, j < 25 → M 79 j = U j) (hC : ∀ (b : Int32), (b = nI T ∧ T < 25) → x_X l G fX10_last 2 0 0 Q 60 [(3, .int (b)), (2, .int (w)), (0, .ref (62))] [] x_SH M J 0 0) : ∀ (m k : Nat) (b : Int32), k + m = 25 → (∃ b_ : Nat, b_ < 25 ∧ b = nI b_ ∧ fiL U (25 - k) k b_ = T) → x_X l G fX10_last 2 0 0 Q 24 [(4, .int (nI (k))), (3, .int (b)), (2, .int (w)), (0, .ref (62))] [] x_SH M J 0 0 := by
  intro m
  induction m with
  | zero =>
    intro k b hk hI
    obtain ⟨b_, hb_, rfl, hT1⟩ := hI
    refine xr_iload dX10_last_24 0 rfl ?_
    refine xr_bipush (v := 25) dX10_last_26 rfl ?_
    refine xr_icmp_ge (tgt := 60) dX10_last_28 rfl (fun _ => ?_) (fun c => absurd (nI_le (a := 25) (b := k) (by omega) (by omega)) c)
    refine xb_ls (ls2 := [(3, .int (nI (b_))), (2, .int (w)), (0, .ref (62))]) [1, 2, 3] rfl ?_
    exact hC (nI (b_)) (by obtain rfl : k = 25 := (by omega); have e : b_ = T := hT1; subst e; exact ⟨rfl, hb_⟩)
  | succ m ih =>
    intro k b hk hI
    have hkN : k < 25 := by omega
    obtain ⟨b_, hb_, rfl, hT1⟩ := hI
    refine xr_iload dX10_last_24 0 rfl ?_
    refine xr_bipush (v := 25) dX10_last_26 rfl ?_
    refine xr_icmp_ge (tgt := 60) dX10_last_28 rfl (fun c => absurd c (nI_ge (a := k) (b := 25) (by omega) (by omega))) (fun _ => ?_)
    refine xr_aload_n dX10_last_31 3 rfl ?_
    refine xr_getR flX10_63 dX10_last_32 s_62 rfl ?_
    refine xr_iload dX10_last_35 0 rfl ?_
    refine xb_iald (j := k) (v := (U k)) dX10_last_37 s_79 hkN (by decide) (hU k hkN) ?_
    refine xr_aload_n dX10_last_38 3 rfl ?_
    refine xr_getR flX10_63 dX10_last_39 s_62 rfl ?_
    refine xr_iload_n dX10_last_42 1 rfl ?_
    refine xb_iald (j := b_) (v := (U b_)) dX10_last_43 s_79 hb_ (by decide) (hU b_ hb_) ?_
    refine xr_icmp_le (tgt := 52) dX10_last_44 rfl (fun c1 => ?_) (fun c1 => ?_)
    · refine xr_iload_n dX10_last_52 1 rfl ?_
      refine xr_istore_n (ls2 := [(3, .int (nI (b_))), (4, .int (nI (k))), (2, .int (w)), (0, .ref (62))]) dX10_last_53 (by decide) rfl ?_
      refine xr_iinc (v := nI (k + 1)) (ls2 := [(4, .int (nI (k + 1))), (3, .int (nI (b_))), (2, .int (w)), (0, .ref (62))]) dX10_last_54 1 rfl (nI_1 _) (by decide) rfl ?_
      refine xr_goto (tgt := 24) dX10_last_57 rfl ?_
      refine xb_ls (ls2 := [(4, .int (nI (k + 1))), (3, .int (nI (b_))), (2, .int (w)), (0, .ref (62))]) [0, 1, 2, 3] rfl ?_
      exact ih (k + 1) (nI (b_)) (by omega) ⟨b_, hb_, rfl, fiL_y hkN (if_pos c1) hT1⟩
    · refine xr_iload dX10_last_47 0 rfl ?_
      refine xr_goto (tgt := 53) dX10_last_49 rfl ?_
      refine xr_istore_n (ls2 := [(3, .int (nI (k))), (4, .int (nI (k))), (2, .int (w)), (0, .ref (62))]) dX10_last_53 (by decide) rfl ?_
      refine xr_iinc (v := nI (k + 1)) (ls2 := [(4, .int (nI (k + 1))), (3, .int (nI (k))), (2, .int (w)), (0, .ref (62))]) dX10_last_54 1 rfl (nI_1 _) (by decide) rfl ?_
      refine xr_goto (tgt := 24) dX10_last_57 rfl ?_
      refine xb_ls (ls2 := [(4, .int (nI (k + 1))), (3, .int (nI (k))), (2, .int (w)), (0, .ref (62))]) [0, 1, 2, 3] rfl ?_
      exact ih (k + 1) (nI (k)) (by omega) ⟨k, hkN, rfl, fiL_y hkN (if_neg c1) hT1⟩
theorem lsR_a {sk : Nat → Int32} {kk se w : Int32} {F : fiS} {T : Nat} (h1 : 0 ≤ w ∧ w ≤ 1) (h2 : w = 0) (hF : fiF sk kk se 30 = F) (hT : fiL F.2.2.2 (25 - 1) 1 0 = T) : nI T = lsR sk kk se w := by
  unfold lsR; rw [if_pos h1, if_pos h2, hF, hT]
theorem lsR_b {sk : Nat → Int32} {kk se w : Int32} {F : fiS} {T : Nat} (h1 : 0 ≤ w ∧ w ≤ 1) (h2 : ¬ w = 0) (hF : fiF sk kk se 30 = F) (hT : fiL F.2.2.2 (25 - 1) 1 0 = T) : F.2.2.2 T = lsR sk kk se w := by
  unfold lsR; rw [if_pos h1, if_neg h2, hF, hT]
set_option maxRecDepth 100000 in
set_option maxHeartbeats 4000000 in
theorem gx_X10_last (se w : Int32) {sk : Nat → Int32} {kk : Int32} {l : Launch} {G : xG} {M : xM} {J : xJ} (hI : InvR M) (hs : ∀ j, j < 25 → M 75 j = sk j) (e_kk : M 63 19 = kk) : x_M l G fX10_last 2 0 0 [.ref (62), .int (se), .int (w)] x_SH M J (qKI WFR M J (fun r M2 => InvR M2 ∧ (r = lsR sk kk se w))) := by
  refine xb_of pX10 (Nat.le_of_ble_eq_true rfl) rfl ?_
  obtain ⟨⟨hn, h_hn, e_hn, hw⟩, hbt, ⟨un, wn, h_uw, h_wn, e_un, e_wn⟩, hch, ⟨n, h_n, e_n⟩, htx, ⟨b, h_b, e_b⟩, hkd, ⟨ra, h_ra, e_ra⟩, hsl, ⟨ic, h_ic, e_ic⟩, hS⟩ := hI
  refine xr_iload_n dX10_last_0 2 rfl ?_
  refine xr_i2l dX10_last_1 ?_
  refine xr_lconst (v := 0) dX10_last_2 rfl ?_
  refine xr_lconst (v := 1) dX10_last_3 rfl ?_
  refine xb_cS (As := [.long ((w).toInt64), .long (0), .long (1)]) (rest := []) mlX10_101 (c_within32 (w) (0) (1) (by decide) (by decide)) dX10_last_4 rfl rfl (Nat.le_of_ble_eq_true rfl) (by decide) (by decide) ?_
  refine xb_bne (tgt := 12) dX10_last_7 rfl (fun c1 => ?_) (fun c1 => ?_)
  · refine xr_aload_n dX10_last_12 0 rfl ?_
    refine xr_iload_n dX10_last_13 1 rfl ?_
    refine xr_bipush (v := 30) dX10_last_14 rfl ?_
    refine xr_callV (As := [.int (se), .int (30)]) (rest := []) mlX10_313 (frw_play se (n := 30) (by omega) (fun j hj => (rfl).trans (hs j hj)) e_kk) dX10_last_16 s_62 rfl rfl (Nat.le_of_ble_eq_true rfl) (by decide) ⟨by decide, by decide⟩ (fun v s2 M3 J2 hq => ?_)
    obtain ⟨rfl, rfl, rfl, k4, hA2⟩ := hq
    try dsimp only [Option.toList, List.cons_append, List.nil_append]
    refine xr_iconst (v := 0) dX10_last_19 rfl ?_
    refine xr_istore_n (ls2 := [(3, .int (0)), (0, .ref (62)), (1, .int (se)), (2, .int (w))]) dX10_last_20 (by decide) rfl ?_
    refine xr_iconst (v := 1) dX10_last_21 rfl ?_
    refine xr_istore (ls2 := [(4, .int (1)), (3, .int (0)), (0, .ref (62)), (1, .int (se)), (2, .int (w))]) dX10_last_22 (by decide) rfl ?_
    obtain ⟨F9, hF9⟩ : ∃ F9, (fiF sk kk se 30) = F9 := ⟨_, rfl⟩
    rw [hF9] at hA2
    obtain ⟨T9, hT9⟩ : ∃ T9, fiL F9.2.2.2 (25 - 1) 1 0 = T9 := ⟨_, rfl⟩
    refine xb_ls (ls2 := [(4, .int (nI (1))), (3, .int (0)), (2, .int (w)), (0, .ref (62))]) [0, 1, 4, 2] rfl ?_
    refine frx_l (U := F9.2.2.2) (T := T9) (fun j hj => (hA2.2 j hj).2.2) (fun q5 hq9 => ?_) (25 - 1) 1 0 (by omega) ⟨0, by decide, rfl, hT9⟩
    obtain ⟨rfl, hb9⟩ := hq9
    refine xr_iload_n dX10_last_60 1 rfl ?_
    refine xr_if_ne (tgt := 68) dX10_last_61 rfl (fun c8 => ?_) (fun c8 => ?_)
    · refine xr_aload_n dX10_last_68 2 rfl ?_
      refine xr_getR flX10_63 dX10_last_69 s_62 rfl ?_
      refine xr_iload_n dX10_last_72 0 rfl ?_
      refine xb_iald (j := T9) (v := (F9.2.2.2 T9)) dX10_last_73 s_79 hb9 (by decide) (hA2.2 _ hb9).2.2 ?_
      exact xr_iret dX10_last_74 rfl rfl (⟨_, rfl, rfl, rfl, (Ke.tr (fun _ _ h => h) Ke.rf k4), ⟨⟨⟨hn, by omega, (Eq.trans (k4 62 6 (by decide)) e_hn), (fun kw hkw => by rw [show M3 63 (5 + kw) = M 63 (5 + kw) from (Eq.trans (k4 63 (5 + kw) (by unfold WFR; omega)) rfl)]; exact hw kw hkw)⟩, (by rw [show M3 63 16 = M 63 16 from (Eq.trans (k4 63 16 (by unfold WFR; omega)) rfl)]; exact hbt), ⟨un, wn, by omega, by omega, (Eq.trans (k4 62 5 (by decide)) e_un), (Eq.trans (k4 62 4 (by decide)) e_wn)⟩, (fun kk hkk => by rw [show M3 64 kk = M 64 kk from (Eq.trans (k4 64 kk (by unfold WFR; omega)) rfl), show M3 65 kk = M 65 kk from (Eq.trans (k4 65 kk (by unfold WFR; omega)) rfl), show M3 66 kk = M 66 kk from (Eq.trans (k4 66 kk (by unfold WFR; omega)) rfl)]; exact hch kk hkk), ⟨n, by omega, (Eq.trans (k4 62 11 (by decide)) e_n)⟩, (by rw [show M3 62 13 = M 62 13 from (Eq.trans (k4 62 13 (by unfold WFR; omega)) rfl)]; exact htx), ⟨b, by omega, (Eq.trans (k4 62 36 (by decide)) e_b)⟩, (fun j hj => by obtain ⟨q, hq, eq⟩ := hkd j hj; exact ⟨q, hq, (show M3 81 j = M 81 j from (Eq.trans (k4 81 j (by unfold WFR; omega)) rfl)).trans eq⟩), ⟨ra, by omega, (Eq.trans (k4 62 39 (by decide)) e_ra)⟩, (fun j hj => by rw [show M3 83 j = M 83 j from (Eq.trans (k4 83 j (by unfold WFR; omega)) rfl), show M3 84 j = M 84 j from (Eq.trans (k4 84 j (by unfold WFR; omega)) rfl)]; exact hsl j hj), ⟨ic, by omega, (Eq.trans (k4 62 34 (by decide)) e_ic)⟩, (fun j hj => by obtain ⟨q, hq, eq⟩ := hS j hj; exact ⟨q, hq, (show M3 75 j = M 75 j from (Eq.trans (k4 75 j (by unfold WFR; omega)) rfl)).trans eq⟩)⟩, (lsR_b c1 c8 hF9 hT9)⟩⟩)
    · refine xr_iload_n dX10_last_64 0 rfl ?_
      refine xr_goto (tgt := 74) dX10_last_65 rfl ?_
      exact xr_iret dX10_last_74 rfl rfl (⟨_, rfl, rfl, rfl, (Ke.tr (fun _ _ h => h) Ke.rf k4), ⟨⟨⟨hn, by omega, (Eq.trans (k4 62 6 (by decide)) e_hn), (fun kw hkw => by rw [show M3 63 (5 + kw) = M 63 (5 + kw) from (Eq.trans (k4 63 (5 + kw) (by unfold WFR; omega)) rfl)]; exact hw kw hkw)⟩, (by rw [show M3 63 16 = M 63 16 from (Eq.trans (k4 63 16 (by unfold WFR; omega)) rfl)]; exact hbt), ⟨un, wn, by omega, by omega, (Eq.trans (k4 62 5 (by decide)) e_un), (Eq.trans (k4 62 4 (by decide)) e_wn)⟩, (fun kk hkk => by rw [show M3 64 kk = M 64 kk from (Eq.trans (k4 64 kk (by unfold WFR; omega)) rfl), show M3 65 kk = M 65 kk from (Eq.trans (k4 65 kk (by unfold WFR; omega)) rfl), show M3 66 kk = M 66 kk from (Eq.trans (k4 66 kk (by unfold WFR; omega)) rfl)]; exact hch kk hkk), ⟨n, by omega, (Eq.trans (k4 62 11 (by decide)) e_n)⟩, (by rw [show M3 62 13 = M 62 13 from (Eq.trans (k4 62 13 (by unfold WFR; omega)) rfl)]; exact htx), ⟨b, by omega, (Eq.trans (k4 62 36 (by decide)) e_b)⟩, (fun j hj => by obtain ⟨q, hq, eq⟩ := hkd j hj; exact ⟨q, hq, (show M3 81 j = M 81 j from (Eq.trans (k4 81 j (by unfold WFR; omega)) rfl)).trans eq⟩), ⟨ra, by omega, (Eq.trans (k4 62 39 (by decide)) e_ra)⟩, (fun j hj => by rw [show M3 83 j = M 83 j from (Eq.trans (k4 83 j (by unfold WFR; omega)) rfl), show M3 84 j = M 84 j from (Eq.trans (k4 84 j (by unfold WFR; omega)) rfl)]; exact hsl j hj), ⟨ic, by omega, (Eq.trans (k4 62 34 (by decide)) e_ic)⟩, (fun j hj => by obtain ⟨q, hq, eq⟩ := hS j hj; exact ⟨q, hq, (show M3 75 j = M 75 j from (Eq.trans (k4 75 j (by unfold WFR; omega)) rfl)).trans eq⟩)⟩, (lsR_a c1 c8 hF9 hT9)⟩⟩)
  · refine xr_iconst (v := -1) dX10_last_10 rfl ?_
    exact xr_iret dX10_last_11 rfl rfl (⟨_, rfl, rfl, rfl, Ke.rf, ⟨⟨⟨hn, by omega, e_hn, (fun kw hkw => by rw [show M 63 (5 + kw) = M 63 (5 + kw) from rfl]; exact hw kw hkw)⟩, (by rw [show M 63 16 = M 63 16 from rfl]; exact hbt), ⟨un, wn, by omega, by omega, e_un, e_wn⟩, (fun kk hkk => by rw [show M 64 kk = M 64 kk from rfl, show M 65 kk = M 65 kk from rfl, show M 66 kk = M 66 kk from rfl]; exact hch kk hkk), ⟨n, by omega, e_n⟩, (by rw [show M 62 13 = M 62 13 from rfl]; exact htx), ⟨b, by omega, e_b⟩, (fun j hj => by obtain ⟨q, hq, eq⟩ := hkd j hj; exact ⟨q, hq, (show M 81 j = M 81 j from rfl).trans eq⟩), ⟨ra, by omega, e_ra⟩, (fun j hj => by rw [show M 83 j = M 83 j from rfl, show M 84 j = M 84 j from rfl]; exact hsl j hj), ⟨ic, by omega, e_ic⟩, (fun j hj => by obtain ⟨q, hq, eq⟩ := hS j hj; exact ⟨q, hq, (show M 75 j = M 75 j from rfl).trans eq⟩)⟩, (if_neg c1).symm⟩⟩)
