def FCa (M : xM) (S : fiS) : Prop := M 35 6 = S.1 ∧ ∀ j, j < 25 → M 38 j = S.2.1 j ∧ M 39 j = S.2.2.1 j ∧ M 40 j = S.2.2.2 j
theorem FCa_z {M : xM} {S : fiS} {v : Int32} (h : FCa M S) : FCa (x_up M 35 6 v) (v, S.2) :=
  ⟨up_s, fun j hj => ⟨(up_n (by decide)).trans (h.2 j hj).1, (up_n (by decide)).trans (h.2 j hj).2.1, (up_n (by decide)).trans (h.2 j hj).2.2⟩⟩
theorem FCa_d {M : xM} {S : fiS} {g : Nat} {b m : Int32} (h : FCa M S) : FCa (x_up (x_up (x_up M 38 g 0) 39 g b) 40 g m) (fiDr g b m S) := by
  refine ⟨(up_n (by decide)).trans ((up_n (by decide)).trans ((up_n (by decide)).trans h.1)), fun j hj => ?_⟩
  by_cases e : j = g
  · subst e
    exact ⟨((up_n (by decide)).trans ((up_n (by decide)).trans up_s)).trans (if_pos rfl).symm, ((up_n (by decide)).trans up_s).trans (if_pos rfl).symm, up_s.trans (if_pos rfl).symm⟩
  · obtain ⟨a, b, c⟩ := h.2 j hj
    exact ⟨((up_n (by decide)).trans ((up_n (by decide)).trans ((up_k e).trans a))).trans (if_neg e).symm, ((up_n (by decide)).trans ((up_k e).trans ((up_n (by decide)).trans b))).trans (if_neg e).symm, ((up_k e).trans ((up_n (by decide)).trans ((up_n (by decide)).trans c))).trans (if_neg e).symm⟩
def FCa0 (M : xM) (se : Int32) (k : Nat) : Prop := M 35 6 = se ∧ ∀ j, j < k → M 38 j = 1 ∧ M 39 j = -2 ∧ M 40 j = 31
theorem FCa0_s {M : xM} {se : Int32} {k : Nat} (h : FCa0 M se k) : FCa0 (x_up (x_up (x_up M 38 k 1) 39 k (-2)) 40 k 31) se (k + 1) := by
  refine ⟨(up_n (by decide)).trans ((up_n (by decide)).trans ((up_n (by decide)).trans h.1)), fun j hj => ?_⟩
  by_cases e : j = k
  · subst e
    exact ⟨(up_n (by decide)).trans ((up_n (by decide)).trans up_s), (up_n (by decide)).trans up_s, up_s⟩
  · obtain ⟨a, b, c⟩ := h.2 j (by omega)
    exact ⟨(up_n (by decide)).trans ((up_n (by decide)).trans ((up_k e).trans a)), (up_n (by decide)).trans ((up_k e).trans ((up_n (by decide)).trans b)), (up_k e).trans ((up_n (by decide)).trans ((up_n (by decide)).trans c))⟩
set_option maxRecDepth 100000 in
set_option maxHeartbeats 4000000 in
theorem fiw_draw {S1 : fiS} {l : Launch} {G : xG} {M : xM} {J : xJ} (hA : FCa M S1) : x_M l G fX1_draw 0 0 0 [.ref (35)] x_SH M J (qKI WFD M J (fun r M2 => r = fiD (fiZ S1.1) ∧ FCa M2 (fiZ S1.1, S1.2))) := by
  refine xb_of pX1 (Nat.le_of_ble_eq_true rfl) rfl ?_
  refine xr_aload_n dX1_draw_0 0 rfl ?_
  refine xr_aload_n dX1_draw_1 0 rfl ?_
  refine xb_get (v := S1.1) flX1_46 dX1_draw_2 s_35 rfl hA.1 ?_
  refine xr_ldc coX1_67 dX1_draw_5 ?_
  refine xr_imul dX1_draw_7 ?_
  refine xr_sipush (v := 12345) dX1_draw_8 rfl ?_
  refine xr_iadd dX1_draw_11 ?_
  refine xr_putI fpX1_46 dX1_draw_12 s_35 rfl rfl rfl ?_
  refine xr_aload_n dX1_draw_15 0 rfl ?_
  refine xb_get (v := ((S1.1 * 1103515245) + 12345)) flX1_46 dX1_draw_16 s_35 rfl (x_up_s _ _ _ _) ?_
  refine xr_bipush (v := 8) dX1_draw_19 rfl ?_
  refine xr_iushr dX1_draw_21 ?_
  refine xr_bipush (v := 12) dX1_draw_22 rfl ?_
  refine xr_irem dX1_draw_24 (by decide) ?_
  exact xr_iret dX1_draw_25 rfl rfl (⟨_, rfl, rfl, rfl, (Ke.up (Or.inl (by omega)) Ke.rf), ⟨rfl, FCa_z hA⟩⟩)
set_option maxRecDepth 100000 in
set_option maxHeartbeats 4000000 in
theorem fiw_drop {g : Nat} (hg : g < 25) (b mi : Int32) {S1 : fiS} {l : Launch} {G : xG} {M : xM} {J : xJ} (hA : FCa M S1) : x_M l G fX1_drop 0 0 0 [.ref (35), .int (nI (g)), .int (b), .int (mi)] x_SH M J (qKV WFD M J (fun M2 => FCa M2 (fiDr g b mi S1))) := by
  refine xb_of pX1 (Nat.le_of_ble_eq_true rfl) rfl ?_
  refine xr_aload_n dX1_drop_0 0 rfl ?_
  refine xr_getR flX1_18 dX1_drop_1 s_35 rfl ?_
  refine xr_iload_n dX1_drop_4 1 rfl ?_
  refine xr_iconst (v := 0) dX1_drop_5 rfl ?_
  refine xb_zast (j := g) (w := 0) dX1_drop_6 s_38 hg (by decide) rfl ?_
  refine xr_aload_n dX1_drop_7 0 rfl ?_
  refine xr_getR flX1_22 dX1_drop_8 s_35 rfl ?_
  refine xr_iload_n dX1_drop_11 1 rfl ?_
  refine xr_iload_n dX1_drop_12 2 rfl ?_
  refine xb_iast (j := g) dX1_drop_13 s_39 hg (by decide) ?_
  refine xr_aload_n dX1_drop_14 0 rfl ?_
  refine xr_getR flX1_25 dX1_drop_15 s_35 rfl ?_
  refine xr_iload_n dX1_drop_18 1 rfl ?_
  refine xr_iload_n dX1_drop_19 3 rfl ?_
  refine xb_iast (j := g) dX1_drop_20 s_40 hg (by decide) ?_
  exact xr_vret dX1_drop_21 rfl (⟨rfl, rfl, rfl, (Ke.up (Or.inr (by omega)) (Ke.up (Or.inr (by omega)) (Ke.up (Or.inr (by omega)) Ke.rf))), (FCa_d hA)⟩)
set_option maxRecDepth 100000 in
set_option maxHeartbeats 4000000 in
theorem fiw_beside0 {g : Nat} (hg : g < 25) {l : Launch} {G : xG} {M : xM} {J : xJ} : x_M l G fX1_beside 0 0 0 [.int (nI (g)), .int (0)] x_SH M J (qPI M J (fun r => r = fiBI g 0)) := by
  refine xb_of pX1 (Nat.le_of_ble_eq_true rfl) rfl ?_
  refine xr_iload_n dX1_beside_0 1 rfl ?_
  refine xr_tableIn (tgt := 28) dX1_beside_1 (by decide) (by decide) rfl rfl ?_
  refine xr_iload_n dX1_beside_28 0 rfl ?_
  refine xr_iconst (v := 5) dX1_beside_29 rfl ?_
  refine xr_icmp_lt (tgt := 39) dX1_beside_30 rfl (fun c1 => ?_) (fun c1 => ?_)
  · refine xr_iconst (v := -1) dX1_beside_39 rfl ?_
    exact xr_iret dX1_beside_40 rfl rfl (⟨_, rfl, rfl, rfl, rfl, ((show ∀ g, g < 25 → (nI (g)) < 5 → ((-1) : Int32) = fiBI g 0 by decide +kernel) g hg c1)⟩)
  · refine xr_iload_n dX1_beside_33 0 rfl ?_
    refine xr_iconst (v := 5) dX1_beside_34 rfl ?_
    refine xr_isub dX1_beside_35 ?_
    refine xr_goto (tgt := 40) dX1_beside_36 rfl ?_
    exact xr_iret dX1_beside_40 rfl rfl (⟨_, rfl, rfl, rfl, rfl, ((show ∀ g, g < 25 → ¬ (nI (g)) < 5 → (((nI (g)) - 5) : Int32) = fiBI g 0 by decide +kernel) g hg c1)⟩)
set_option maxRecDepth 100000 in
set_option maxHeartbeats 4000000 in
theorem fiw_beside1 {g : Nat} (hg : g < 25) {l : Launch} {G : xG} {M : xM} {J : xJ} : x_M l G fX1_beside 0 0 0 [.int (nI (g)), .int (1)] x_SH M J (qPI M J (fun r => r = fiBI g 1)) := by
  refine xb_of pX1 (Nat.le_of_ble_eq_true rfl) rfl ?_
  refine xr_iload_n dX1_beside_0 1 rfl ?_
  refine xr_tableIn (tgt := 41) dX1_beside_1 (by decide) (by decide) rfl rfl ?_
  refine xr_iload_n dX1_beside_41 0 rfl ?_
  refine xr_iconst (v := 5) dX1_beside_42 rfl ?_
  refine xr_irem dX1_beside_43 (by decide) ?_
  refine xr_iconst (v := 4) dX1_beside_44 rfl ?_
  refine xr_icmp_ge (tgt := 54) dX1_beside_45 rfl (fun c1 => ?_) (fun c1 => ?_)
  · refine xr_iconst (v := -1) dX1_beside_54 rfl ?_
    exact xr_iret dX1_beside_55 rfl rfl (⟨_, rfl, rfl, rfl, rfl, ((show ∀ g, g < 25 → 4 ≤ ((nI (g)) - (nI (g)) / 5 * 5) → ((-1) : Int32) = fiBI g 1 by decide +kernel) g hg c1)⟩)
  · refine xr_iload_n dX1_beside_48 0 rfl ?_
    refine xr_iconst (v := 1) dX1_beside_49 rfl ?_
    refine xr_iadd dX1_beside_50 ?_
    refine xb_top (y := nI (g + 1)) (nI_add (g) (1)) ?_
    refine xr_goto (tgt := 55) dX1_beside_51 rfl ?_
    exact xr_iret dX1_beside_55 rfl rfl (⟨_, rfl, rfl, rfl, rfl, ((show ∀ g, g < 25 → ¬ 4 ≤ ((nI (g)) - (nI (g)) / 5 * 5) → (nI (g + 1) : Int32) = fiBI g 1 by decide +kernel) g hg c1)⟩)
set_option maxRecDepth 100000 in
set_option maxHeartbeats 4000000 in
theorem fiw_beside2 {g : Nat} (hg : g < 25) {l : Launch} {G : xG} {M : xM} {J : xJ} : x_M l G fX1_beside 0 0 0 [.int (nI (g)), .int (2)] x_SH M J (qPI M J (fun r => r = fiBI g 2)) := by
  refine xb_of pX1 (Nat.le_of_ble_eq_true rfl) rfl ?_
  refine xr_iload_n dX1_beside_0 1 rfl ?_
  refine xr_tableIn (tgt := 56) dX1_beside_1 (by decide) (by decide) rfl rfl ?_
  refine xr_iload_n dX1_beside_56 0 rfl ?_
  refine xr_iconst (v := 5) dX1_beside_57 rfl ?_
  refine xr_iadd dX1_beside_58 ?_
  refine xb_top (y := nI (g + 5)) (nI_add (g) (5)) ?_
  refine xr_bipush (v := 25) dX1_beside_59 rfl ?_
  refine xr_icmp_ge (tgt := 70) dX1_beside_61 rfl (fun c1 => ?_) (fun c1 => ?_)
  · refine xr_iconst (v := -1) dX1_beside_70 rfl ?_
    exact xr_iret dX1_beside_71 rfl rfl (⟨_, rfl, rfl, rfl, rfl, ((show ∀ g, g < 25 → 25 ≤ (nI (g + 5)) → ((-1) : Int32) = fiBI g 2 by decide +kernel) g hg c1)⟩)
  · refine xr_iload_n dX1_beside_64 0 rfl ?_
    refine xr_iconst (v := 5) dX1_beside_65 rfl ?_
    refine xr_iadd dX1_beside_66 ?_
    refine xb_top (y := nI (g + 5)) (nI_add (g) (5)) ?_
    refine xr_goto (tgt := 71) dX1_beside_67 rfl ?_
    exact xr_iret dX1_beside_71 rfl rfl (⟨_, rfl, rfl, rfl, rfl, ((show ∀ g, g < 25 → ¬ 25 ≤ (nI (g + 5)) → (nI (g + 5) : Int32) = fiBI g 2 by decide +kernel) g hg c1)⟩)
set_option maxRecDepth 100000 in
set_option maxHeartbeats 4000000 in
theorem fiw_beside3 {g : Nat} (hg : g < 25) {l : Launch} {G : xG} {M : xM} {J : xJ} : x_M l G fX1_beside 0 0 0 [.int (nI (g)), .int (3)] x_SH M J (qPI M J (fun r => r = fiBI g 3)) := by
  refine xb_of pX1 (Nat.le_of_ble_eq_true rfl) rfl ?_
  refine xr_iload_n dX1_beside_0 1 rfl ?_
  refine xr_tableOut (tgt := 72) dX1_beside_1 (by decide) rfl ?_
  refine xr_iload_n dX1_beside_72 0 rfl ?_
  refine xr_iconst (v := 5) dX1_beside_73 rfl ?_
  refine xr_irem dX1_beside_74 (by decide) ?_
  refine xr_if_le (tgt := 84) dX1_beside_75 rfl (fun c1 => ?_) (fun c1 => ?_)
  · refine xr_iconst (v := -1) dX1_beside_84 rfl ?_
    exact xr_iret dX1_beside_85 rfl rfl (⟨_, rfl, rfl, rfl, rfl, ((show ∀ g, g < 25 → ((nI (g)) - (nI (g)) / 5 * 5) ≤ 0 → ((-1) : Int32) = fiBI g 3 by decide +kernel) g hg c1)⟩)
  · refine xr_iload_n dX1_beside_78 0 rfl ?_
    refine xr_iconst (v := 1) dX1_beside_79 rfl ?_
    refine xr_isub dX1_beside_80 ?_
    refine xr_goto (tgt := 85) dX1_beside_81 rfl ?_
    exact xr_iret dX1_beside_85 rfl rfl (⟨_, rfl, rfl, rfl, rfl, ((show ∀ g, g < 25 → ¬ ((nI (g)) - (nI (g)) / 5 * 5) ≤ 0 → (((nI (g)) - 1) : Int32) = fiBI g 3 by decide +kernel) g hg c1)⟩)
theorem fiw_beside {g k : Nat} (hg : g < 25) (hk : k < 4) {l : Launch} {G : xG} {M : xM} {J : xJ} : x_M l G fX1_beside 0 0 0 [.int (nI g), .int (nI k)] x_SH M J (qPI M J (fun r => r = fiBI g k)) := by
  match k, hk with
  | 0, _ => exact fiw_beside0 hg
  | 1, _ => exact fiw_beside1 hg
  | 2, _ => exact fiw_beside2 hg
  | 3, _ => exact fiw_beside3 hg
set_option maxRecDepth 100000 in
set_option maxHeartbeats 4000000 in
theorem fix_k {mi kk : Int32} {T : fiS} {g : Nat} (hg : g < 25) {l : Launch} {G : xG} {M : xM} {J : xJ} {Q : xQ} (e_kk : M 35 5 = kk) (hC : ∀ (M2 : xM), Ke WFD M M2 → (FCa M2 T) → x_X l G fX1_knockFrom 1 0 0 Q 55 [(2, .int (mi)), (1, .int (nI (g))), (0, .ref (35))] [] x_SH M2 J 0 0) : ∀ (m k : Nat) (M1 : xM), k + m = 4 → Ke WFD M M1 → (∃ S1, FCa M1 S1 ∧ fiKL kk g mi (4 - k) k S1 = T) → x_X l G fX1_knockFrom 1 0 0 Q 2 [(3, .int (nI (k))), (2, .int (mi)), (1, .int (nI (g))), (0, .ref (35))] [] x_SH M1 J 0 0 := by
  intro m
  induction m with
  | zero =>
    intro k M1 hk hM hI
    obtain ⟨S1, hA1, hT1⟩ := hI
    refine xr_iload_n dX1_knockFrom_2 0 rfl ?_
    refine xr_iconst (v := 4) dX1_knockFrom_3 rfl ?_
    refine xr_icmp_ge (tgt := 55) dX1_knockFrom_4 rfl (fun _ => ?_) (fun c => absurd (nI_le (a := 4) (b := k) (by omega) (by omega)) c)
    refine xb_ls (ls2 := [(2, .int (mi)), (1, .int (nI (g))), (0, .ref (35))]) [1, 2, 3] rfl ?_
    exact hC _ hM (by obtain rfl : k = 4 := (by omega); exact (show S1 = T from hT1) ▸ hA1)
  | succ m ih =>
    intro k M1 hk hM hI
    have hkN : k < 4 := by omega
    obtain ⟨S1, hA1, hT1⟩ := hI
    refine xr_iload_n dX1_knockFrom_2 0 rfl ?_
    refine xr_iconst (v := 4) dX1_knockFrom_3 rfl ?_
    refine xr_icmp_ge (tgt := 55) dX1_knockFrom_4 rfl (fun c => absurd c (nI_ge (a := k) (b := 4) (by omega) (by omega))) (fun _ => ?_)
    refine xr_iload_n dX1_knockFrom_7 2 rfl ?_
    refine xr_iload_n dX1_knockFrom_8 0 rfl ?_
    refine xr_callS (As := [.int (nI (g)), .int (nI (k))]) (rest := []) mlX1_64 (fiw_beside hg hkN) dX1_knockFrom_9 rfl rfl (Nat.le_of_ble_eq_true rfl) (by decide) ⟨by decide, by decide⟩ (fun v s2 M9 J2 hq => ?_)
    obtain ⟨r_, rfl, rfl, rfl, rfl, hb1⟩ := hq
    try dsimp only [Option.toList, List.cons_append, List.nil_append]
    rcases fi_bc g hg k hkN with ⟨h2, h3⟩ | ⟨h2, h3⟩
    · obtain rfl : r_ = -1 := hb1.trans h2
      refine xr_istore (ls2 := [(4, .int ((-1))), (3, .int (nI (k))), (2, .int (mi)), (1, .int (nI (g))), (0, .ref (35))]) dX1_knockFrom_12 (by decide) rfl ?_
      refine xr_iload dX1_knockFrom_14 0 rfl ?_
      refine xr_iconst (v := -1) dX1_knockFrom_16 rfl ?_
      refine xr_icmp_eq (tgt := 49) dX1_knockFrom_17 rfl (fun _ => ?_) (fun c => absurd (by decide) c)
      refine xr_iinc (v := nI (k + 1)) (ls2 := [(3, .int (nI (k + 1))), (4, .int ((-1))), (2, .int (mi)), (1, .int (nI (g))), (0, .ref (35))]) dX1_knockFrom_49 1 rfl (nI_1 _) (by decide) rfl ?_
      refine xr_goto (tgt := 2) dX1_knockFrom_52 rfl ?_
      refine xb_ls (ls2 := [(3, .int (nI (k + 1))), (2, .int (mi)), (1, .int (nI (g))), (0, .ref (35))]) [0, 2, 3, 4] rfl ?_
      exact ih (k + 1) M1 (by omega) hM ⟨_, hA1, fiKL_y hkN (if_pos h3) hT1⟩
    obtain rfl : r_ = nI (fiB g k) := hb1.trans h3
    refine xr_istore (ls2 := [(4, .int (nI (fiB g k))), (3, .int (nI (k))), (2, .int (mi)), (1, .int (nI (g))), (0, .ref (35))]) dX1_knockFrom_12 (by decide) rfl ?_
    refine xr_iload dX1_knockFrom_14 0 rfl ?_
    refine xr_iconst (v := -1) dX1_knockFrom_16 rfl ?_
    refine xr_icmp_eq (tgt := 49) dX1_knockFrom_17 rfl (fun c => absurd c (fi_nm h2)) (fun _ => ?_)
    refine xr_aload_n dX1_knockFrom_20 4 rfl ?_
    refine xr_getR flX1_18 dX1_knockFrom_21 s_35 rfl ?_
    refine xr_iload dX1_knockFrom_24 0 rfl ?_
    refine xb_zald (j := fiB g k) (v := (S1.2.1 (fiB g k))) dX1_knockFrom_26 s_38 h2 (by decide) (hA1.2 (fiB g k) h2).1 ?_
    refine xr_if_eq (tgt := 49) dX1_knockFrom_27 rfl (fun c4 => ?_) (fun c4 => ?_)
    · refine xr_iinc (v := nI (k + 1)) (ls2 := [(3, .int (nI (k + 1))), (4, .int (nI (fiB g k))), (2, .int (mi)), (1, .int (nI (g))), (0, .ref (35))]) dX1_knockFrom_49 1 rfl (nI_1 _) (by decide) rfl ?_
      refine xr_goto (tgt := 2) dX1_knockFrom_52 rfl ?_
      refine xb_ls (ls2 := [(3, .int (nI (k + 1))), (2, .int (mi)), (1, .int (nI (g))), (0, .ref (35))]) [0, 2, 3, 4] rfl ?_
      exact ih (k + 1) M1 (by omega) hM ⟨_, hA1, fiKL_y hkN ((if_neg (fun q => absurd h2 (by rw [q]; decide))).trans (if_pos c4)) hT1⟩
    · refine xr_aload_n dX1_knockFrom_30 4 rfl ?_
      refine xr_callV (As := []) (rest := []) mlX1_53 (fiw_draw hA1) dX1_knockFrom_31 s_35 rfl rfl (Nat.le_of_ble_eq_true rfl) (by decide) ⟨by decide, by decide⟩ (fun v s2 M6 J2 hq => ?_)
      obtain ⟨r8, rfl, rfl, rfl, k7, ⟨rfl, hA5⟩⟩ := hq
      try dsimp only [Option.toList, List.cons_append, List.nil_append]
      refine xr_aload_n dX1_knockFrom_34 4 rfl ?_
      refine xb_get (v := kk) flX1_28 dX1_knockFrom_35 s_35 rfl (Eq.trans (k7 35 5 (by decide)) (Eq.trans (hM 35 5 (by decide)) e_kk)) ?_
      refine xr_icmp_ge (tgt := 49) dX1_knockFrom_38 rfl (fun c9 => ?_) (fun c9 => ?_)
      · refine xr_iinc (v := nI (k + 1)) (ls2 := [(3, .int (nI (k + 1))), (4, .int (nI (fiB g k))), (2, .int (mi)), (1, .int (nI (g))), (0, .ref (35))]) dX1_knockFrom_49 1 rfl (nI_1 _) (by decide) rfl ?_
        refine xr_goto (tgt := 2) dX1_knockFrom_52 rfl ?_
        refine xb_ls (ls2 := [(3, .int (nI (k + 1))), (2, .int (mi)), (1, .int (nI (g))), (0, .ref (35))]) [0, 2, 3, 4] rfl ?_
        exact ih (k + 1) M6 (by omega) (Ke.tr (fun _ _ h => h) hM k7) ⟨_, hA5, fiKL_y hkN ((if_neg (fun q => absurd h2 (by rw [q]; decide))).trans ((if_neg c4).trans (if_neg (Int32.not_lt.mpr c9)))) hT1⟩
      · refine xr_aload_n dX1_knockFrom_41 4 rfl ?_
        refine xr_iload dX1_knockFrom_42 0 rfl ?_
        refine xr_iload_n dX1_knockFrom_44 3 rfl ?_
        refine xr_iload_n dX1_knockFrom_45 2 rfl ?_
        refine xr_callV (As := [.int (nI (fiB g k)), .int (nI (g)), .int (mi)]) (rest := []) mlX1_57 (fiw_drop (g := fiB g k) h2 (nI (g)) mi hA5) dX1_knockFrom_46 s_35 rfl rfl (Nat.le_of_ble_eq_true rfl) (by decide) ⟨by decide, by decide⟩ (fun v s2 M11 J2 hq => ?_)
        obtain ⟨rfl, rfl, rfl, k12, hA10⟩ := hq
        try dsimp only [Option.toList, List.cons_append, List.nil_append]
        refine xr_iinc (v := nI (k + 1)) (ls2 := [(3, .int (nI (k + 1))), (4, .int (nI (fiB g k))), (2, .int (mi)), (1, .int (nI (g))), (0, .ref (35))]) dX1_knockFrom_49 1 rfl (nI_1 _) (by decide) rfl ?_
        refine xr_goto (tgt := 2) dX1_knockFrom_52 rfl ?_
        refine xb_ls (ls2 := [(3, .int (nI (k + 1))), (2, .int (mi)), (1, .int (nI (g))), (0, .ref (35))]) [0, 2, 3, 4] rfl ?_
        exact ih (k + 1) M11 (by omega) (Ke.tr (fun _ _ h => h) (Ke.tr (fun _ _ h => h) hM k7) k12) ⟨_, hA10, fiKL_y hkN ((if_neg (fun q => absurd h2 (by rw [q]; decide))).trans ((if_neg c4).trans (if_pos (Int32.not_le.mp c9)))) hT1⟩
set_option maxRecDepth 100000 in
set_option maxHeartbeats 4000000 in
theorem fiw_knock {g : Nat} (hg : g < 25) (mi : Int32) {S1 : fiS} {kk : Int32} {l : Launch} {G : xG} {M : xM} {J : xJ} (hA : FCa M S1) (e_kk : M 35 5 = kk) : x_M l G fX1_knockFrom 1 0 0 [.ref (35), .int (nI (g)), .int (mi)] x_SH M J (qKV WFD M J (fun M2 => FCa M2 (fiKL kk g mi (4 - 0) 0 S1))) := by
  refine xb_of pX1 (Nat.le_of_ble_eq_true rfl) rfl ?_
  refine xr_iconst (v := 0) dX1_knockFrom_0 rfl ?_
  refine xr_istore_n (ls2 := [(3, .int (0)), (0, .ref (35)), (1, .int (nI (g))), (2, .int (mi))]) dX1_knockFrom_1 (by decide) rfl ?_
  refine xb_ls (ls2 := [(3, .int (nI (0))), (2, .int (mi)), (1, .int (nI (g))), (0, .ref (35))]) [0, 3, 2, 1] rfl ?_
  refine fix_k hg e_kk (fun M1 k2 hB => ?_) (4 - 0) 0 M (by omega) Ke.rf ⟨_, hA, rfl⟩
  exact xr_vret dX1_knockFrom_55 rfl (⟨rfl, rfl, rfl, (Ke.tr (fun _ _ h => h) Ke.rf k2), hB⟩)
set_option maxRecDepth 100000 in
set_option maxHeartbeats 4000000 in
theorem fix_g {mi kk : Int32} {T : fiS} {sk : Nat → Int32} {l : Launch} {G : xG} {M : xM} {J : xJ} {Q : xQ} (hs : ∀ j, j < 25 → M 36 j = sk j) (e_kk : M 35 5 = kk) (hC : ∀ (M2 : xM), Ke WFD M M2 → (FCa M2 T) → x_X l G fX1_playMinute 2 0 0 Q 50 [(1, .int (mi)), (0, .ref (35))] [] x_SH M2 J 0 0) : ∀ (m k : Nat) (M1 : xM), k + m = 25 → Ke WFD M M1 → (∃ S1, FCa M1 S1 ∧ fiG sk kk mi (25 - k) k S1 = T) → x_X l G fX1_playMinute 2 0 0 Q 2 [(2, .int (nI (k))), (1, .int (mi)), (0, .ref (35))] [] x_SH M1 J 0 0 := by
  intro m
  induction m with
  | zero =>
    intro k M1 hk hM hI
    obtain ⟨S1, hA1, hT1⟩ := hI
    refine xr_iload_n dX1_playMinute_2 0 rfl ?_
    refine xr_bipush (v := 25) dX1_playMinute_3 rfl ?_
    refine xr_icmp_ge (tgt := 50) dX1_playMinute_5 rfl (fun _ => ?_) (fun c => absurd (nI_le (a := 25) (b := k) (by omega) (by omega)) c)
    refine xb_ls (ls2 := [(1, .int (mi)), (0, .ref (35))]) [1, 2] rfl ?_
    exact hC _ hM (by obtain rfl : k = 25 := (by omega); exact (show S1 = T from hT1) ▸ hA1)
  | succ m ih =>
    intro k M1 hk hM hI
    have hkN : k < 25 := by omega
    obtain ⟨S1, hA1, hT1⟩ := hI
    refine xr_iload_n dX1_playMinute_2 0 rfl ?_
    refine xr_bipush (v := 25) dX1_playMinute_3 rfl ?_
    refine xr_icmp_ge (tgt := 50) dX1_playMinute_5 rfl (fun c => absurd c (nI_ge (a := k) (b := 25) (by omega) (by omega))) (fun _ => ?_)
    refine xr_aload_n dX1_playMinute_8 2 rfl ?_
    refine xr_getR flX1_18 dX1_playMinute_9 s_35 rfl ?_
    refine xr_iload_n dX1_playMinute_12 0 rfl ?_
    refine xb_zald (j := k) (v := (S1.2.1 k)) dX1_playMinute_13 s_38 hkN (by decide) (hA1.2 k hkN).1 ?_
    refine xr_if_eq (tgt := 44) dX1_playMinute_14 rfl (fun c1 => ?_) (fun c1 => ?_)
    · refine xr_iinc (v := nI (k + 1)) (ls2 := [(2, .int (nI (k + 1))), (1, .int (mi)), (0, .ref (35))]) dX1_playMinute_44 0 rfl (nI_1 _) (by decide) rfl ?_
      refine xr_goto (tgt := 2) dX1_playMinute_47 rfl ?_
      refine xb_ls (ls2 := [(2, .int (nI (k + 1))), (1, .int (mi)), (0, .ref (35))]) [0, 1, 2] rfl ?_
      exact ih (k + 1) M1 (by omega) hM ⟨_, hA1, fiG_y hkN (if_pos c1) hT1⟩
    · refine xr_aload_n dX1_playMinute_17 2 rfl ?_
      refine xr_callV (As := []) (rest := []) mlX1_53 (fiw_draw hA1) dX1_playMinute_18 s_35 rfl rfl (Nat.le_of_ble_eq_true rfl) (by decide) ⟨by decide, by decide⟩ (fun v s2 M3 J2 hq => ?_)
      obtain ⟨r5, rfl, rfl, rfl, k4, ⟨rfl, hA2⟩⟩ := hq
      try dsimp only [Option.toList, List.cons_append, List.nil_append]
      refine xr_aload_n dX1_playMinute_21 2 rfl ?_
      refine xr_getR flX1_9 dX1_playMinute_22 s_35 rfl ?_
      refine xr_iload_n dX1_playMinute_25 0 rfl ?_
      refine xb_iald (j := k) (v := (sk k)) dX1_playMinute_26 s_36 hkN (by decide) (Eq.trans (k4 36 k (by unfold WFD; omega)) (Eq.trans (hM 36 k (by unfold WFD; omega)) (hs k hkN))) ?_
      refine xr_icmp_lt (tgt := 44) dX1_playMinute_27 rfl (fun c6 => ?_) (fun c6 => ?_)
      · refine xr_iinc (v := nI (k + 1)) (ls2 := [(2, .int (nI (k + 1))), (1, .int (mi)), (0, .ref (35))]) dX1_playMinute_44 0 rfl (nI_1 _) (by decide) rfl ?_
        refine xr_goto (tgt := 2) dX1_playMinute_47 rfl ?_
        refine xb_ls (ls2 := [(2, .int (nI (k + 1))), (1, .int (mi)), (0, .ref (35))]) [0, 1, 2] rfl ?_
        exact ih (k + 1) M3 (by omega) (Ke.tr (fun _ _ h => h) hM k4) ⟨_, hA2, fiG_y hkN ((if_neg c1).trans (if_pos c6)) hT1⟩
      · refine xr_aload_n dX1_playMinute_30 2 rfl ?_
        refine xr_iload_n dX1_playMinute_31 0 rfl ?_
        refine xr_bipush (v := -2) dX1_playMinute_32 rfl ?_
        refine xr_iload_n dX1_playMinute_34 1 rfl ?_
        refine xr_callV (As := [.int (nI (k)), .int ((-2)), .int (mi)]) (rest := []) mlX1_57 (fiw_drop (g := k) hkN (-2) mi hA2) dX1_playMinute_35 s_35 rfl rfl (Nat.le_of_ble_eq_true rfl) (by decide) ⟨by decide, by decide⟩ (fun v s2 M8 J2 hq => ?_)
        obtain ⟨rfl, rfl, rfl, k9, hA7⟩ := hq
        try dsimp only [Option.toList, List.cons_append, List.nil_append]
        refine xr_aload_n dX1_playMinute_38 2 rfl ?_
        refine xr_iload_n dX1_playMinute_39 0 rfl ?_
        refine xr_iload_n dX1_playMinute_40 1 rfl ?_
        refine xr_callV (As := [.int (nI (k)), .int (mi)]) (rest := []) mlX1_61 (fiw_knock (g := k) hkN mi hA7 (Eq.trans (k9 35 5 (by decide)) (Eq.trans (k4 35 5 (by decide)) (Eq.trans (hM 35 5 (by decide)) e_kk)))) dX1_playMinute_41 s_35 rfl rfl (Nat.le_of_ble_eq_true rfl) (by decide) ⟨by decide, by decide⟩ (fun v s2 M11 J2 hq => ?_)
        obtain ⟨rfl, rfl, rfl, k12, hA10⟩ := hq
        try dsimp only [Option.toList, List.cons_append, List.nil_append]
        refine xr_iinc (v := nI (k + 1)) (ls2 := [(2, .int (nI (k + 1))), (1, .int (mi)), (0, .ref (35))]) dX1_playMinute_44 0 rfl (nI_1 _) (by decide) rfl ?_
        refine xr_goto (tgt := 2) dX1_playMinute_47 rfl ?_
        refine xb_ls (ls2 := [(2, .int (nI (k + 1))), (1, .int (mi)), (0, .ref (35))]) [0, 1, 2] rfl ?_
        exact ih (k + 1) M11 (by omega) (Ke.tr (fun _ _ h => h) (Ke.tr (fun _ _ h => h) (Ke.tr (fun _ _ h => h) hM k4) k9) k12) ⟨_, hA10, fiG_y hkN ((if_neg c1).trans (if_neg c6)) hT1⟩
set_option maxRecDepth 100000 in
set_option maxHeartbeats 4000000 in
theorem fiw_minute (mi : Int32) {S1 : fiS} {kk : Int32} {sk : Nat → Int32} {l : Launch} {G : xG} {M : xM} {J : xJ} (hs : ∀ j, j < 25 → M 36 j = sk j) (hA : FCa M S1) (e_kk : M 35 5 = kk) : x_M l G fX1_playMinute 2 0 0 [.ref (35), .int (mi)] x_SH M J (qKV WFD M J (fun M2 => FCa M2 (fiG sk kk mi (25 - 0) 0 S1))) := by
  refine xb_of pX1 (Nat.le_of_ble_eq_true rfl) rfl ?_
  refine xr_iconst (v := 0) dX1_playMinute_0 rfl ?_
  refine xr_istore_n (ls2 := [(2, .int (0)), (0, .ref (35)), (1, .int (mi))]) dX1_playMinute_1 (by decide) rfl ?_
  refine xb_ls (ls2 := [(2, .int (nI (0))), (1, .int (mi)), (0, .ref (35))]) [0, 2, 1] rfl ?_
  refine fix_g hs e_kk (fun M1 k2 hB => ?_) (25 - 0) 0 M (by omega) Ke.rf ⟨_, hA, rfl⟩
  exact xr_vret dX1_playMinute_50 rfl (⟨rfl, rfl, rfl, (Ke.tr (fun _ _ h => h) Ke.rf k2), hB⟩)
set_option maxRecDepth 100000 in
set_option maxHeartbeats 4000000 in
theorem fix_i {se : Int32} {n : Nat} {l : Launch} {G : xG} {M : xM} {J : xJ} {Q : xQ} (hC : ∀ (M2 : xM), Ke WFD M M2 → (FCa0 M2 se 25) → x_X l G fX1_play 3 0 0 Q 42 [(2, .int (nI (n))), (1, .int (se)), (0, .ref (35))] [] x_SH M2 J 0 0) : ∀ (m k : Nat) (M1 : xM), k + m = 25 → Ke WFD M M1 → (FCa0 M1 se k) → x_X l G fX1_play 3 0 0 Q 7 [(3, .int (nI (k))), (2, .int (nI (n))), (1, .int (se)), (0, .ref (35))] [] x_SH M1 J 0 0 := by
  intro m
  induction m with
  | zero =>
    intro k M1 hk hM hI
    refine xr_iload_n dX1_play_7 0 rfl ?_
    refine xr_bipush (v := 25) dX1_play_8 rfl ?_
    refine xr_icmp_ge (tgt := 42) dX1_play_10 rfl (fun _ => ?_) (fun c => absurd (nI_le (a := 25) (b := k) (by omega) (by omega)) c)
    refine xb_ls (ls2 := [(2, .int (nI (n))), (1, .int (se)), (0, .ref (35))]) [1, 2, 3] rfl ?_
    exact hC _ hM (by obtain rfl : k = 25 := (by omega); exact hI)
  | succ m ih =>
    intro k M1 hk hM hI
    have hkN : k < 25 := by omega
    refine xr_iload_n dX1_play_7 0 rfl ?_
    refine xr_bipush (v := 25) dX1_play_8 rfl ?_
    refine xr_icmp_ge (tgt := 42) dX1_play_10 rfl (fun c => absurd c (nI_ge (a := k) (b := 25) (by omega) (by omega))) (fun _ => ?_)
    refine xr_aload_n dX1_play_13 3 rfl ?_
    refine xr_getR flX1_18 dX1_play_14 s_35 rfl ?_
    refine xr_iload_n dX1_play_17 0 rfl ?_
    refine xr_iconst (v := 1) dX1_play_18 rfl ?_
    refine xb_zast (j := k) (w := 1) dX1_play_19 s_38 hkN (by decide) rfl ?_
    refine xr_aload_n dX1_play_20 3 rfl ?_
    refine xr_getR flX1_22 dX1_play_21 s_35 rfl ?_
    refine xr_iload_n dX1_play_24 0 rfl ?_
    refine xr_bipush (v := -2) dX1_play_25 rfl ?_
    refine xb_iast (j := k) dX1_play_27 s_39 hkN (by decide) ?_
    refine xr_aload_n dX1_play_28 3 rfl ?_
    refine xr_getR flX1_25 dX1_play_29 s_35 rfl ?_
    refine xr_iload_n dX1_play_32 0 rfl ?_
    refine xr_bipush (v := 31) dX1_play_33 rfl ?_
    refine xb_iast (j := k) dX1_play_35 s_40 hkN (by decide) ?_
    refine xr_iinc (v := nI (k + 1)) (ls2 := [(3, .int (nI (k + 1))), (2, .int (nI (n))), (1, .int (se)), (0, .ref (35))]) dX1_play_36 0 rfl (nI_1 _) (by decide) rfl ?_
    refine xr_goto (tgt := 7) dX1_play_39 rfl ?_
    refine xb_ls (ls2 := [(3, .int (nI (k + 1))), (2, .int (nI (n))), (1, .int (se)), (0, .ref (35))]) [0, 1, 2, 3] rfl ?_
    exact ih (k + 1) (x_up (x_up (x_up M1 38 k 1) 39 k (-2)) 40 k 31) (by omega) (Ke.up (Or.inr (by omega)) (Ke.up (Or.inr (by omega)) (Ke.up (Or.inr (by omega)) hM))) (FCa0_s hI)
set_option maxRecDepth 100000 in
set_option maxHeartbeats 4000000 in
theorem fix_m {se kk : Int32} {n : Nat} (hn : n ≤ 30) {T : fiS} {sk : Nat → Int32} {l : Launch} {G : xG} {M : xM} {J : xJ} {Q : xQ} (hs : ∀ j, j < 25 → M 36 j = sk j) (e_kk : M 35 5 = kk) (hC : ∀ (M2 : xM), Ke WFD M M2 → (FCa M2 T) → x_X l G fX1_play 3 0 0 Q 60 [(2, .int (nI (n))), (1, .int (se)), (0, .ref (35))] [] x_SH M2 J 0 0) : ∀ (m k : Nat) (M1 : xM), k + m = n + 1 → Ke WFD M M1 → (∃ S1, FCa M1 S1 ∧ fiM sk kk (n + 1 - k) k S1 = T) → x_X l G fX1_play 3 0 0 Q 44 [(3, .int (nI (k))), (2, .int (nI (n))), (1, .int (se)), (0, .ref (35))] [] x_SH M1 J 0 0 := by
  intro m
  induction m with
  | zero =>
    intro k M1 hk hM hI
    obtain ⟨S1, hA1, hT1⟩ := hI
    refine xr_iload_n dX1_play_44 0 rfl ?_
    refine xr_iload_n dX1_play_45 1 rfl ?_
    refine xr_icmp_gt (tgt := 60) dX1_play_46 rfl (fun _ => ?_) (fun c => absurd (nI_lt (a := n) (b := k) (by omega) (by omega)) c)
    refine xb_ls (ls2 := [(2, .int (nI (n))), (1, .int (se)), (0, .ref (35))]) [1, 2, 3] rfl ?_
    exact hC _ hM (by obtain rfl : k = n + 1 := (by omega); rw [Nat.sub_self] at hT1; exact (show S1 = T from hT1) ▸ hA1)
  | succ m ih =>
    intro k M1 hk hM hI
    have hkN : k < n + 1 := by omega
    obtain ⟨S1, hA1, hT1⟩ := hI
    refine xr_iload_n dX1_play_44 0 rfl ?_
    refine xr_iload_n dX1_play_45 1 rfl ?_
    refine xr_icmp_gt (tgt := 60) dX1_play_46 rfl (fun c => absurd c (nI_nlt (a := n) (b := k) (by omega) (by omega))) (fun _ => ?_)
    refine xr_aload_n dX1_play_49 3 rfl ?_
    refine xr_iload_n dX1_play_50 0 rfl ?_
    refine xr_callV (As := [.int (nI (k))]) (rest := []) mlX1_49 (fiw_minute (nI (k)) (fun j hj => ((Eq.trans (hM 36 j (by unfold WFD; omega)) rfl)).trans (hs j hj)) hA1 (Eq.trans (hM 35 5 (by decide)) e_kk)) dX1_play_51 s_35 rfl rfl (Nat.le_of_ble_eq_true rfl) (by decide) ⟨by decide, by decide⟩ (fun v s2 M2 J2 hq => ?_)
    obtain ⟨rfl, rfl, rfl, k3, hA1⟩ := hq
    try dsimp only [Option.toList, List.cons_append, List.nil_append]
    refine xr_iinc (v := nI (k + 1)) (ls2 := [(3, .int (nI (k + 1))), (2, .int (nI (n))), (1, .int (se)), (0, .ref (35))]) dX1_play_54 0 rfl (nI_1 _) (by decide) rfl ?_
    refine xr_goto (tgt := 44) dX1_play_57 rfl ?_
    refine xb_ls (ls2 := [(3, .int (nI (k + 1))), (2, .int (nI (n))), (1, .int (se)), (0, .ref (35))]) [0, 1, 2, 3] rfl ?_
    exact ih (k + 1) M2 (by omega) (Ke.tr (fun _ _ h => h) hM k3) ⟨_, hA1, fiM_y hkN rfl hT1⟩
set_option maxRecDepth 100000 in
set_option maxHeartbeats 4000000 in
theorem fiw_play (se : Int32) {n : Nat} (hn : n ≤ 30) {kk : Int32} {sk : Nat → Int32} {l : Launch} {G : xG} {M : xM} {J : xJ} (hs : ∀ j, j < 25 → M 36 j = sk j) (e_kk : M 35 5 = kk) : x_M l G fX1_play 3 0 0 [.ref (35), .int (se), .int (nI (n))] x_SH M J (qKV WFD M J (fun M2 => FCa M2 (fiF sk kk se n))) := by
  refine xb_of pX1 (Nat.le_of_ble_eq_true rfl) rfl ?_
  refine xr_aload_n dX1_play_0 0 rfl ?_
  refine xr_iload_n dX1_play_1 1 rfl ?_
  refine xr_putI fpX1_46 dX1_play_2 s_35 rfl rfl rfl ?_
  refine xr_iconst (v := 0) dX1_play_5 rfl ?_
  refine xr_istore_n (ls2 := [(3, .int (0)), (0, .ref (35)), (1, .int (se)), (2, .int (nI (n)))]) dX1_play_6 (by decide) rfl ?_
  refine xb_ls (ls2 := [(3, .int (nI (0))), (2, .int (nI (n))), (1, .int (se)), (0, .ref (35))]) [0, 3, 2, 1] rfl ?_
  refine fix_i (fun M1 k2 hB0 => ?_) (25 - 0) 0 (x_up M 35 6 se) (by omega) Ke.rf ⟨(x_up_s _ _ _ _), fun j hj => absurd hj (Nat.not_lt_zero j)⟩
  refine xr_iconst (v := 1) dX1_play_42 rfl ?_
  refine xr_istore_n (ls2 := [(3, .int (1)), (2, .int (nI (n))), (1, .int (se)), (0, .ref (35))]) dX1_play_43 (by decide) rfl ?_
  refine xb_ls (ls2 := [(3, .int (nI (1))), (2, .int (nI (n))), (1, .int (se)), (0, .ref (35))]) [0, 1, 2, 3] rfl ?_
  refine fix_m hn (fun j hj => ((Eq.trans (k2 36 j (by unfold WFD; omega)) (Eq.trans (congrFun (x_up_n _ _ _ (by omega)) _) rfl))).trans (hs j hj)) (Eq.trans (k2 35 5 (by decide)) (Eq.trans (x_up_k _ _ _ (by decide)) e_kk)) (fun M3 k4 hB => ?_) (n + 1 - 1) 1 M1 (by omega) Ke.rf ⟨fi0 se, hB0, rfl⟩
  exact xr_vret dX1_play_60 rfl (⟨rfl, rfl, rfl, (Ke.tr (fun _ _ h => h) (Ke.tr (fun _ _ h => h) (Ke.up (Or.inl (by omega)) Ke.rf) k2) k4), hB⟩)
set_option maxRecDepth 100000 in
set_option maxHeartbeats 4000000 in
theorem fix_l {U : Nat → Int32} {T : Nat} {l : Launch} {G : xG} {M : xM} {J : xJ} {Q : xQ} (hU : ∀ j, j < 25 → M 40 j = U j) (hC : ∀ (b : Int32), (b = nI T ∧ T < 25) → x_X l G fX1_longest 0 0 0 Q 33 [(1, .int (b)), (0, .ref (35))] [] x_SH M J 0 0) : ∀ (m k : Nat) (b : Int32), k + m = 25 → (∃ b_ : Nat, b_ < 25 ∧ b = nI b_ ∧ fiL U (25 - k) k b_ = T) → x_X l G fX1_longest 0 0 0 Q 4 [(2, .int (nI (k))), (1, .int (b)), (0, .ref (35))] [] x_SH M J 0 0 := by
  intro m
  induction m with
  | zero =>
    intro k b hk hI
    obtain ⟨b_, hb_, rfl, hT1⟩ := hI
    refine xr_iload_n dX1_longest_4 0 rfl ?_
    refine xr_bipush (v := 25) dX1_longest_5 rfl ?_
    refine xr_icmp_ge (tgt := 33) dX1_longest_7 rfl (fun _ => ?_) (fun c => absurd (nI_le (a := 25) (b := k) (by omega) (by omega)) c)
    refine xb_ls (ls2 := [(1, .int (nI (b_))), (0, .ref (35))]) [1, 2] rfl ?_
    exact hC (nI (b_)) (by obtain rfl : k = 25 := (by omega); have e : b_ = T := hT1; subst e; exact ⟨rfl, hb_⟩)
  | succ m ih =>
    intro k b hk hI
    have hkN : k < 25 := by omega
    obtain ⟨b_, hb_, rfl, hT1⟩ := hI
    refine xr_iload_n dX1_longest_4 0 rfl ?_
    refine xr_bipush (v := 25) dX1_longest_5 rfl ?_
    refine xr_icmp_ge (tgt := 33) dX1_longest_7 rfl (fun c => absurd c (nI_ge (a := k) (b := 25) (by omega) (by omega))) (fun _ => ?_)
    refine xr_aload_n dX1_longest_10 2 rfl ?_
    refine xr_getR flX1_25 dX1_longest_11 s_35 rfl ?_
    refine xr_iload_n dX1_longest_14 0 rfl ?_
    refine xb_iald (j := k) (v := (U k)) dX1_longest_15 s_40 hkN (by decide) (hU k hkN) ?_
    refine xr_aload_n dX1_longest_16 2 rfl ?_
    refine xr_getR flX1_25 dX1_longest_17 s_35 rfl ?_
    refine xr_iload_n dX1_longest_20 1 rfl ?_
    refine xb_iald (j := b_) (v := (U b_)) dX1_longest_21 s_40 hb_ (by decide) (hU b_ hb_) ?_
    refine xr_icmp_le (tgt := 27) dX1_longest_22 rfl (fun c1 => ?_) (fun c1 => ?_)
    · refine xr_iinc (v := nI (k + 1)) (ls2 := [(2, .int (nI (k + 1))), (1, .int (nI (b_))), (0, .ref (35))]) dX1_longest_27 0 rfl (nI_1 _) (by decide) rfl ?_
      refine xr_goto (tgt := 4) dX1_longest_30 rfl ?_
      refine xb_ls (ls2 := [(2, .int (nI (k + 1))), (1, .int (nI (b_))), (0, .ref (35))]) [0, 1, 2] rfl ?_
      exact ih (k + 1) (nI (b_)) (by omega) ⟨b_, hb_, rfl, fiL_y hkN (if_pos c1) hT1⟩
    · refine xr_iload_n dX1_longest_25 0 rfl ?_
      refine xr_istore_n (ls2 := [(1, .int (nI (k))), (2, .int (nI (k))), (0, .ref (35))]) dX1_longest_26 (by decide) rfl ?_
      refine xr_iinc (v := nI (k + 1)) (ls2 := [(2, .int (nI (k + 1))), (1, .int (nI (k))), (0, .ref (35))]) dX1_longest_27 1 rfl (nI_1 _) (by decide) rfl ?_
      refine xr_goto (tgt := 4) dX1_longest_30 rfl ?_
      refine xb_ls (ls2 := [(2, .int (nI (k + 1))), (1, .int (nI (k))), (0, .ref (35))]) [0, 1, 2] rfl ?_
      exact ih (k + 1) (nI (k)) (by omega) ⟨k, hkN, rfl, fiL_y hkN (if_neg c1) hT1⟩
set_option maxRecDepth 100000 in
set_option maxHeartbeats 4000000 in
theorem fiw_long {U : Nat → Int32} {l : Launch} {G : xG} {M : xM} {J : xJ} (hU : ∀ j, j < 25 → M 40 j = U j) : x_M l G fX1_longest 0 0 0 [.ref (35)] x_SH M J (qPI M J (fun r => r = nI (fiL U (25 - 1) 1 0) ∧ fiL U (25 - 1) 1 0 < 25)) := by
  refine xb_of pX1 (Nat.le_of_ble_eq_true rfl) rfl ?_
  refine xr_iconst (v := 0) dX1_longest_0 rfl ?_
  refine xr_istore_n (ls2 := [(1, .int (0)), (0, .ref (35))]) dX1_longest_1 (by decide) rfl ?_
  refine xr_iconst (v := 1) dX1_longest_2 rfl ?_
  refine xr_istore_n (ls2 := [(2, .int (1)), (1, .int (0)), (0, .ref (35))]) dX1_longest_3 (by decide) rfl ?_
  refine xb_ls (ls2 := [(2, .int (nI (1))), (1, .int (0)), (0, .ref (35))]) [0, 1, 2] rfl ?_
  refine fix_l hU (fun q1 hB => ?_) (25 - 1) 1 0 (by omega) ⟨0, by decide, rfl, rfl⟩
  refine xr_iload_n dX1_longest_33 0 rfl ?_
  exact xr_iret dX1_longest_34 rfl rfl (⟨_, rfl, rfl, rfl, rfl, hB⟩)
set_option maxRecDepth 100000 in
set_option maxHeartbeats 4000000 in
theorem gx_X9_last (se w : Int32) {sk : Nat → Int32} {kk : Int32} {l : Launch} {G : xG} {M : xM} {J : xJ} (hI : InvC M) (hs : ∀ j, j < 25 → M 36 j = sk j) (e_kk : M 35 5 = kk) : x_M l G fX9_last 4 0 0 [.ref (0), .int (se), .int (w)] x_SH M J (qKI WFD M J (fun r M2 => InvC M2 ∧ (r = lsR sk kk se w))) := by
  refine xb_of pX9 (Nat.le_of_ble_eq_true rfl) rfl ?_
  obtain ⟨⟨cn, h_cn, e_cn⟩, ⟨cm, h_cm, e_cm⟩, ⟨L, h_L, e_L⟩, hv, hD, ⟨n, h_n, e_n⟩, ⟨un, wn, h_uw, h_wn, e_un, e_wn⟩, ⟨b, h_b, e_b⟩, hkd, ⟨ra, h_ra, e_ra⟩, hsl, hS⟩ := hI
  refine xr_iload_n dX9_last_0 2 rfl ?_
  refine xr_if_lt (tgt := 9) dX9_last_1 rfl (fun c1 => ?_) (fun c1 => ?_)
  · refine xr_iconst (v := -1) dX9_last_9 rfl ?_
    exact xr_iret dX9_last_10 rfl rfl (⟨_, rfl, rfl, rfl, Ke.rf, ⟨⟨⟨cn, by omega, e_cn⟩, ⟨cm, by omega, e_cm⟩, ⟨L, by omega, e_L⟩, (fun kk hkk => by rw [show M 3 kk = M 3 kk from rfl]; exact hv kk hkk), hD, ⟨n, by omega, e_n⟩, ⟨un, wn, by omega, by omega, e_un, e_wn⟩, ⟨b, by omega, e_b⟩, (fun j hj => by obtain ⟨q, hq, eq⟩ := hkd j hj; exact ⟨q, hq, (show M 47 j = M 47 j from rfl).trans eq⟩), ⟨ra, by omega, e_ra⟩, (fun j hj => by obtain ⟨s, hs, es⟩ := hsl j hj; exact ⟨s, hs, (show M (50 + 2 * j) 3 = M (50 + 2 * j) 3 from rfl).trans es⟩), (fun j hj => by obtain ⟨q, hq, eq⟩ := hS j hj; exact ⟨q, hq, (show M 36 j = M 36 j from rfl).trans eq⟩)⟩, (if_neg (by grind)).symm⟩⟩)
  · refine xr_iload_n dX9_last_4 2 rfl ?_
    refine xr_iconst (v := 1) dX9_last_5 rfl ?_
    refine xr_icmp_le (tgt := 11) dX9_last_6 rfl (fun c2 => ?_) (fun c2 => ?_)
    · refine xr_aload_n dX9_last_11 0 rfl ?_
      refine xr_getR flX9_47 dX9_last_12 s_0 rfl ?_
      refine xr_iload_n dX9_last_15 1 rfl ?_
      refine xr_bipush (v := 30) dX9_last_16 rfl ?_
      refine xr_callV (As := [.int (se), .int (30)]) (rest := []) mlX9_265 (fiw_play se (n := 30) (by omega) (fun j hj => (rfl).trans (hs j hj)) e_kk) dX9_last_18 s_35 rfl rfl (Nat.le_of_ble_eq_true rfl) (by decide) ⟨by decide, by decide⟩ (fun v s2 M4 J2 hq => ?_)
      obtain ⟨rfl, rfl, rfl, k5, hA3⟩ := hq
      try dsimp only [Option.toList, List.cons_append, List.nil_append]
      refine xr_aload_n dX9_last_21 0 rfl ?_
      refine xr_getR flX9_47 dX9_last_22 s_0 rfl ?_
      refine xr_callV (As := []) (rest := []) mlX9_278 (fiw_long (fun j hj => (hA3.2 j hj).2.2)) dX9_last_25 s_35 rfl rfl (Nat.le_of_ble_eq_true rfl) (by decide) ⟨by decide, by decide⟩ (fun v s2 M9 J2 hq => ?_)
      obtain ⟨r7, rfl, rfl, rfl, rfl, ⟨rfl, hu6⟩⟩ := hq
      try dsimp only [Option.toList, List.cons_append, List.nil_append]
      refine xr_istore_n (ls2 := [(3, .int (nI (fiL (fiF sk kk se 30).2.2.2 (25 - 1) 1 0))), (0, .ref (0)), (1, .int (se)), (2, .int (w))]) dX9_last_28 (by decide) rfl ?_
      refine xr_iload_n dX9_last_29 3 rfl ?_
      refine xr_if_ne (tgt := 37) dX9_last_30 rfl (fun c8 => ?_) (fun c8 => ?_)
      · refine xr_aload_n dX9_last_37 1 rfl ?_
        refine xr_getR flX9_47 dX9_last_38 s_0 rfl ?_
        refine xr_getR flX9_281 dX9_last_41 s_35 rfl ?_
        refine xr_iload_n dX9_last_44 0 rfl ?_
        refine xb_iald (j := fiL (fiF sk kk se 30).2.2.2 (25 - 1) 1 0) (v := ((fiF sk kk se 30).2.2.2 (fiL (fiF sk kk se 30).2.2.2 (25 - 1) 1 0))) dX9_last_45 s_40 hu6 (by decide) (hA3.2 _ hu6).2.2 ?_
        exact xr_iret dX9_last_46 rfl rfl (⟨_, rfl, rfl, rfl, (Ke.tr (fun _ _ h => h) Ke.rf k5), ⟨⟨⟨cn, by omega, (Eq.trans (k5 13 2 (by decide)) e_cn)⟩, ⟨cm, by omega, (Eq.trans (k5 20 2 (by decide)) e_cm)⟩, ⟨L, by omega, (Eq.trans (k5 1 4 (by decide)) e_L)⟩, (fun kk hkk => by rw [show M4 3 kk = M 3 kk from (Eq.trans (k5 3 kk (by unfold WFD; omega)) rfl)]; exact hv kk hkk), (DI_ke (by intro k; unfold WFD; omega) k5 hD), ⟨n, by omega, (Eq.trans (k5 6 2 (by decide)) e_n)⟩, ⟨un, wn, by omega, by omega, (Eq.trans (k5 41 4 (by decide)) e_un), (Eq.trans (k5 41 5 (by decide)) e_wn)⟩, ⟨b, by omega, (Eq.trans (k5 46 2 (by decide)) e_b)⟩, (fun j hj => by obtain ⟨q, hq, eq⟩ := hkd j hj; exact ⟨q, hq, (show M4 47 j = M 47 j from (Eq.trans (k5 47 j (by unfold WFD; omega)) rfl)).trans eq⟩), ⟨ra, by omega, (Eq.trans (k5 46 3 (by decide)) e_ra)⟩, (fun j hj => by obtain ⟨s, hs, es⟩ := hsl j hj; exact ⟨s, hs, (show M4 (50 + 2 * j) 3 = M (50 + 2 * j) 3 from (Eq.trans (k5 (50 + 2 * j) 3 (by unfold WFD; omega)) rfl)).trans es⟩), (fun j hj => by obtain ⟨q, hq, eq⟩ := hS j hj; exact ⟨q, hq, (show M4 36 j = M 36 j from (Eq.trans (k5 36 j (by unfold WFD; omega)) rfl)).trans eq⟩)⟩, (((if_pos (by grind)).trans (if_neg c8)).symm)⟩⟩)
      · refine xr_iload_n dX9_last_33 0 rfl ?_
        refine xr_goto (tgt := 46) dX9_last_34 rfl ?_
        exact xr_iret dX9_last_46 rfl rfl (⟨_, rfl, rfl, rfl, (Ke.tr (fun _ _ h => h) Ke.rf k5), ⟨⟨⟨cn, by omega, (Eq.trans (k5 13 2 (by decide)) e_cn)⟩, ⟨cm, by omega, (Eq.trans (k5 20 2 (by decide)) e_cm)⟩, ⟨L, by omega, (Eq.trans (k5 1 4 (by decide)) e_L)⟩, (fun kk hkk => by rw [show M4 3 kk = M 3 kk from (Eq.trans (k5 3 kk (by unfold WFD; omega)) rfl)]; exact hv kk hkk), (DI_ke (by intro k; unfold WFD; omega) k5 hD), ⟨n, by omega, (Eq.trans (k5 6 2 (by decide)) e_n)⟩, ⟨un, wn, by omega, by omega, (Eq.trans (k5 41 4 (by decide)) e_un), (Eq.trans (k5 41 5 (by decide)) e_wn)⟩, ⟨b, by omega, (Eq.trans (k5 46 2 (by decide)) e_b)⟩, (fun j hj => by obtain ⟨q, hq, eq⟩ := hkd j hj; exact ⟨q, hq, (show M4 47 j = M 47 j from (Eq.trans (k5 47 j (by unfold WFD; omega)) rfl)).trans eq⟩), ⟨ra, by omega, (Eq.trans (k5 46 3 (by decide)) e_ra)⟩, (fun j hj => by obtain ⟨s, hs, es⟩ := hsl j hj; exact ⟨s, hs, (show M4 (50 + 2 * j) 3 = M (50 + 2 * j) 3 from (Eq.trans (k5 (50 + 2 * j) 3 (by unfold WFD; omega)) rfl)).trans es⟩), (fun j hj => by obtain ⟨q, hq, eq⟩ := hS j hj; exact ⟨q, hq, (show M4 36 j = M 36 j from (Eq.trans (k5 36 j (by unfold WFD; omega)) rfl)).trans eq⟩)⟩, (((if_pos (by grind)).trans (if_pos c8)).symm)⟩⟩)
    · refine xr_iconst (v := -1) dX9_last_9 rfl ?_
      exact xr_iret dX9_last_10 rfl rfl (⟨_, rfl, rfl, rfl, Ke.rf, ⟨⟨⟨cn, by omega, e_cn⟩, ⟨cm, by omega, e_cm⟩, ⟨L, by omega, e_L⟩, (fun kk hkk => by rw [show M 3 kk = M 3 kk from rfl]; exact hv kk hkk), hD, ⟨n, by omega, e_n⟩, ⟨un, wn, by omega, by omega, e_un, e_wn⟩, ⟨b, by omega, e_b⟩, (fun j hj => by obtain ⟨q, hq, eq⟩ := hkd j hj; exact ⟨q, hq, (show M 47 j = M 47 j from rfl).trans eq⟩), ⟨ra, by omega, e_ra⟩, (fun j hj => by obtain ⟨s, hs, es⟩ := hsl j hj; exact ⟨s, hs, (show M (50 + 2 * j) 3 = M (50 + 2 * j) 3 from rfl).trans es⟩), (fun j hj => by obtain ⟨q, hq, eq⟩ := hS j hj; exact ⟨q, hq, (show M 36 j = M 36 j from rfl).trans eq⟩)⟩, (if_neg (by grind)).symm⟩⟩)
