/-- numbers laid from a place on, as far as they are kept -/
def TrA (p ra : Nat) (l : List Int32) (M M2 : xM) : Prop := ∀ j, j < 24 → (j < ra → M2 p j = M p j) ∧ (ra ≤ j → j < ra + l.length → M2 p j = l.getD (j - ra) 0)
theorem TrA_app {p ra : Nat} {l m : List Int32} {M M1 M2 : xM} (h : TrA p ra l M M1) (h2 : TrA p (ra + l.length) m M1 M2) : TrA p ra (l ++ m) M M2 := fun j hj => ⟨fun q => ((h2 j hj).1 (by omega)).trans ((h j hj).1 q), fun q1 q2 => by
  rw [List.length_append] at q2
  by_cases c : j < ra + l.length
  · rw [(h2 j hj).1 c, (h j hj).2 q1 c, List.getD_eq_getElem?_getD, List.getD_eq_getElem?_getD, List.getElem?_append_left (by omega)]
  · rw [(h2 j hj).2 (by omega) (by omega), List.getD_eq_getElem?_getD, List.getD_eq_getElem?_getD, List.getElem?_append_right (by omega), show j - ra - l.length = j - (ra + l.length) by omega]⟩
theorem TrA_a {p q k ra : Nat} {M : xM} {nu v : Int32} (hra : 24 ≤ ra) (h : p ≠ q) : TrA p ra [nu] M (x_up M q k v) := fun j hj => ⟨fun _ => up_n h, fun a _ => absurd hj (by omega)⟩
theorem TrA_b {p q k ra : Nat} {M : xM} {nu v : Int32} (h : p ≠ q) : TrA p ra [nu] M (x_up (x_up M p ra nu) q k v) := fun j hj => ⟨fun z => (up_n h).trans (up_k (by omega)), fun a b => by
  obtain rfl : j = ra := by have c : j < ra + 1 := b; omega
  rw [Nat.sub_self]
  exact (up_n h).trans up_s⟩
def TrF (p : Nat) (l : List Int32) (M2 : xM) : Prop := ∀ j, j < 24 → j < l.length → M2 p j = l.getD j 0
theorem TrA_F {p : Nat} {l : List Int32} {M M2 : xM} (h : TrA p 0 l M M2) : TrF p l M2 := fun j hj h1 => (h j hj).2 (Nat.zero_le _) (by omega)
set_option maxRecDepth 100000 in
set_option maxHeartbeats 4000000 in
theorem gt_X8_note (nu : Int32) {l : Launch} {G : xG} {M : xM} {J : xJ} {ra : Nat} (h_ra : ra ≤ 1000) (e_ra : M 46 3 = nI ra) : x_M l G fX8_note 0 0 0 [.ref (46), .int (nu)] x_SH M J (qKV WTN M J (fun M2 => M2 46 3 = nI (ra + 1) ∧ TrA 48 ra [nu] M M2)) := by
  refine xb_of pX8 (Nat.le_of_ble_eq_true rfl) rfl ?_
  refine xr_aload_n dX8_note_0 0 rfl ?_
  refine xb_get (v := nI (ra)) flX8_33 dX8_note_1 s_46 rfl e_ra ?_
  refine xr_bipush (v := 24) dX8_note_4 rfl ?_
  refine xr_icmp_ge (tgt := 19) dX8_note_6 rfl (fun c1 => ?_) (fun c1 => ?_)
  · have nc1 : 24 ≤ ra := (nI_leI (a := 24) (b := ra) (by omega) (by omega)).mp c1
    refine xr_aload_n dX8_note_19 0 rfl ?_
    refine xr_dup dX8_note_20 rfl ?_
    refine xb_get (v := nI (ra)) flX8_33 dX8_note_21 s_46 rfl e_ra ?_
    refine xr_iconst (v := 1) dX8_note_24 rfl ?_
    refine xr_iadd dX8_note_25 ?_
    refine xb_top (y := nI (ra + 1)) (nI_add (ra) (1)) ?_
    refine xr_putI fpX8_33 dX8_note_26 s_46 rfl rfl rfl ?_
    exact xr_vret dX8_note_29 rfl (⟨rfl, rfl, rfl, (Ke.up (Or.inl (by omega)) Ke.rf), ⟨(x_up_s _ _ _ _), TrA_a (by omega) (by decide)⟩⟩)
  · have nc1 : ¬ (24 ≤ ra) := fun q => c1 ((nI_leI (a := 24) (b := ra) (by omega) (by omega)).mpr q)
    have hra : ra < 24 := by omega
    refine xr_aload_n dX8_note_9 0 rfl ?_
    refine xr_getR flX8_15 dX8_note_10 s_46 rfl ?_
    refine xr_aload_n dX8_note_13 0 rfl ?_
    refine xb_get (v := nI (ra)) flX8_33 dX8_note_14 s_46 rfl e_ra ?_
    refine xr_iload_n dX8_note_17 1 rfl ?_
    refine xb_iast (j := ra) dX8_note_18 s_48 (by omega) (by decide) ?_
    refine xr_aload_n dX8_note_19 0 rfl ?_
    refine xr_dup dX8_note_20 rfl ?_
    refine xb_get (v := nI (ra)) flX8_33 dX8_note_21 s_46 rfl (Eq.trans (congrFun (x_up_n _ _ _ (by decide)) _) e_ra) ?_
    refine xr_iconst (v := 1) dX8_note_24 rfl ?_
    refine xr_iadd dX8_note_25 ?_
    refine xb_top (y := nI (ra + 1)) (nI_add (ra) (1)) ?_
    refine xr_putI fpX8_33 dX8_note_26 s_46 rfl rfl rfl ?_
    exact xr_vret dX8_note_29 rfl (⟨rfl, rfl, rfl, (Ke.up (Or.inl (by omega)) (Ke.up (Or.inr (by omega)) Ke.rf)), ⟨(x_up_s _ _ _ _), TrA_b (by decide)⟩⟩)
set_option maxRecDepth 100000 in
set_option maxHeartbeats 4000000 in
theorem gt_X10_begins (nu : Int32) {l : Launch} {G : xG} {M : xM} {J : xJ} {ra : Nat} (h_ra : ra ≤ 1000) (e_ra : M 62 39 = nI ra) : x_M l G fX10_begins 0 0 0 [.ref (62), .int (nu)] x_SH M J (qKV WRA M J (fun M2 => M2 62 39 = nI (ra + 1) ∧ TrA 82 ra [nu] M M2)) := by
  refine xb_of pX10 (Nat.le_of_ble_eq_true rfl) rfl ?_
  refine xr_aload_n dX10_begins_0 0 rfl ?_
  refine xb_get (v := nI (ra)) flX10_337 dX10_begins_1 s_62 rfl e_ra ?_
  refine xr_bipush (v := 24) dX10_begins_4 rfl ?_
  refine xr_icmp_ge (tgt := 19) dX10_begins_6 rfl (fun c1 => ?_) (fun c1 => ?_)
  · have nc1 : 24 ≤ ra := (nI_leI (a := 24) (b := ra) (by omega) (by omega)).mp c1
    refine xr_aload_n dX10_begins_19 0 rfl ?_
    refine xr_dup dX10_begins_20 rfl ?_
    refine xb_get (v := nI (ra)) flX10_337 dX10_begins_21 s_62 rfl e_ra ?_
    refine xr_iconst (v := 1) dX10_begins_24 rfl ?_
    refine xr_iadd dX10_begins_25 ?_
    refine xb_top (y := nI (ra + 1)) (nI_add (ra) (1)) ?_
    refine xr_putI fpX10_337 dX10_begins_26 s_62 rfl rfl rfl ?_
    exact xr_vret dX10_begins_29 rfl (⟨rfl, rfl, rfl, (Ke.up (Or.inl (by omega)) Ke.rf), ⟨(x_up_s _ _ _ _), TrA_a (by omega) (by decide)⟩⟩)
  · have nc1 : ¬ (24 ≤ ra) := fun q => c1 ((nI_leI (a := 24) (b := ra) (by omega) (by omega)).mpr q)
    have hra : ra < 24 := by omega
    refine xr_aload_n dX10_begins_9 0 rfl ?_
    refine xr_getR flX10_72 dX10_begins_10 s_62 rfl ?_
    refine xr_aload_n dX10_begins_13 0 rfl ?_
    refine xb_get (v := nI (ra)) flX10_337 dX10_begins_14 s_62 rfl e_ra ?_
    refine xr_iload_n dX10_begins_17 1 rfl ?_
    refine xb_iast (j := ra) dX10_begins_18 s_82 (by omega) (by decide) ?_
    refine xr_aload_n dX10_begins_19 0 rfl ?_
    refine xr_dup dX10_begins_20 rfl ?_
    refine xb_get (v := nI (ra)) flX10_337 dX10_begins_21 s_62 rfl (Eq.trans (congrFun (x_up_n _ _ _ (by decide)) _) e_ra) ?_
    refine xr_iconst (v := 1) dX10_begins_24 rfl ?_
    refine xr_iadd dX10_begins_25 ?_
    refine xb_top (y := nI (ra + 1)) (nI_add (ra) (1)) ?_
    refine xr_putI fpX10_337 dX10_begins_26 s_62 rfl rfl rfl ?_
    exact xr_vret dX10_begins_29 rfl (⟨rfl, rfl, rfl, (Ke.up (Or.inl (by omega)) (Ke.up (Or.inr (by omega)) Ke.rf)), ⟨(x_up_s _ _ _ _), TrA_b (by decide)⟩⟩)
set_option maxRecDepth 100000 in
set_option maxHeartbeats 4000000 in
theorem tv0_run_1_0 {e ac : Nat} (x : Int32) (he : e + 0 ≤ 30) {l : Launch} {G : xG} {M : xM} {J : xJ} {b ra : Nat} (h_b : b ≤ 50) (e_b : M 46 2 = nI b) (h_ra : ra + 1 ≤ 900) (e_ra : M 46 3 = nI ra) (hac : ac < b) (e_ac : M 46 4 = nI ac) (e_k : M 47 ac = 0) : x_M l G fX8_run 1 0 0 [.ref (46), .int (1), .int (0), .int (x), .int (nI (e))] x_SH M J (qKI WTN M J (fun r M2 => r = (x + (nI (ac))) ∧ M2 46 3 = nI (ra + 1) ∧ TrA 48 ra [1] M M2)) := by
  refine xb_of pX8 (Nat.le_of_ble_eq_true rfl) rfl ?_
  refine xr_aload_n dX8_run_0 0 rfl ?_
  refine xr_iload_n dX8_run_1 1 rfl ?_
  refine xr_callV (As := [.int (1)]) (rest := []) mlX8_56 (gt_X8_note 1 (by omega) e_ra) dX8_run_2 s_46 rfl rfl (Nat.le_of_ble_eq_true rfl) (by decide) ⟨by decide, by decide⟩ (fun v s2 M3 J2 hq => ?_)
  obtain ⟨rfl, rfl, rfl, k4, ⟨hx1, ht2⟩⟩ := hq
  try dsimp only [Option.toList, List.cons_append, List.nil_append]
  refine xr_iload_n dX8_run_5 1 rfl ?_
  refine xr_lookup (tgt := 120) (off := 114) dX8_run_6 (by decide) (by decide) rfl ?_
  refine xr_iload_n dX8_run_120 3 rfl ?_
  refine xr_aload_n dX8_run_121 0 rfl ?_
  refine xb_get (v := nI (ac)) flX8_36 dX8_run_122 s_46 rfl (Eq.trans (k4 46 4 (by decide)) e_ac) ?_
  refine xr_iadd dX8_run_125 ?_
  exact xr_iret dX8_run_126 rfl rfl (⟨_, rfl, rfl, rfl, (Ke.tr (fun _ _ h => h) Ke.rf k4), rfl, hx1, ht2⟩)
set_option maxRecDepth 100000 in
set_option maxHeartbeats 4000000 in
theorem tv0_runFrom_0_0 {e ac : Nat} (x : Int32) (he : e + 1 ≤ 30) {l : Launch} {G : xG} {M : xM} {J : xJ} {b ra : Nat} (h_b : b ≤ 50) (e_b : M 46 2 = nI b) (h_ra : ra + 1 ≤ 900) (e_ra : M 46 3 = nI ra) (hac : ac < b) (e_ac : M 46 4 = nI ac) (e_k : M 47 ac = 0) : x_M l G fX8_runFrom 2 0 0 [.ref (46), .int (0), .int (0), .int (x), .int (nI (e))] x_SH M J (qKI WTN M J (fun r M2 => r = (x + (nI (ac))) ∧ M2 46 3 = nI (ra + 1) ∧ TrA 48 ra [1] M M2)) := by
  refine xb_of pX8 (Nat.le_of_ble_eq_true rfl) rfl ?_
  refine xr_iload_n dX8_runFrom_0 1 rfl ?_
  refine xr_istore (ls2 := [(5, .int (0)), (0, .ref (46)), (1, .int (0)), (2, .int (0)), (3, .int (x)), (4, .int (nI (e)))]) dX8_runFrom_1 (by decide) rfl ?_
  refine xr_iconst (v := 0) dX8_runFrom_3 rfl ?_
  refine xr_istore (ls2 := [(6, .int (0)), (5, .int (0)), (0, .ref (46)), (1, .int (0)), (2, .int (0)), (3, .int (x)), (4, .int (nI (e)))]) dX8_runFrom_4 (by decide) rfl ?_
  refine xr_iload dX8_runFrom_6 0 rfl ?_
  refine xr_bipush (v := 8) dX8_runFrom_8 rfl ?_
  refine xr_icmp_ge (tgt := 81) dX8_runFrom_10 rfl (fun c => absurd c (by decide)) (fun _ => ?_)
  refine xr_iload dX8_runFrom_13 1 rfl ?_
  refine xb_cN (As := [.int (0)]) (rest := []) mlX8_26 (c_X9_isKind 0) dX8_runFrom_15 rfl rfl (Nat.le_of_ble_eq_true rfl) (by decide) (by decide) ?_
  refine xb_beq (tgt := 81) dX8_runFrom_18 rfl (fun c => absurd (by decide) c) (fun _ => ?_)
  refine xr_getsO slX8_50 dX8_runFrom_21 ?_
  refine xr_iload dX8_runFrom_24 1 rfl ?_
  refine xr_iconst (v := 4) dX8_runFrom_26 rfl ?_
  refine xr_imul dX8_runFrom_27 ?_
  refine xb_top (y := 0) (by decide) ?_
  refine xr_iload_n dX8_runFrom_28 4 rfl ?_
  refine xr_iadd dX8_runFrom_29 ?_
  refine xb_top (y := 0) (by decide) ?_
  refine xr_tabO (by unfold vp_in; decide) dX8_runFrom_30 ?_
  refine xb_top (y := 1) (by decide) ?_
  refine xr_if_eq (tgt := 67) dX8_runFrom_31 rfl (fun c => absurd c (by decide)) (fun _ => ?_)
  refine xr_iload dX8_runFrom_34 6 rfl ?_
  refine xr_bipush (v := 30) dX8_runFrom_36 rfl ?_
  refine xr_icmp_ge (tgt := 65) dX8_runFrom_38 rfl (fun c => absurd c (nI_ge (a := e) (b := 30) (by omega) (by omega))) (fun _ => ?_)
  refine xr_aload_n dX8_runFrom_41 2 rfl ?_
  refine xr_getsO slX8_50 dX8_runFrom_42 ?_
  refine xr_iload dX8_runFrom_45 1 rfl ?_
  refine xr_iconst (v := 4) dX8_runFrom_47 rfl ?_
  refine xr_imul dX8_runFrom_48 ?_
  refine xb_top (y := 0) (by decide) ?_
  refine xr_iload_n dX8_runFrom_49 4 rfl ?_
  refine xr_iadd dX8_runFrom_50 ?_
  refine xb_top (y := 0) (by decide) ?_
  refine xr_tabO (by unfold vp_in; decide) dX8_runFrom_51 ?_
  refine xb_top (y := 1) (by decide) ?_
  refine xr_iload dX8_runFrom_52 1 rfl ?_
  refine xr_iload_n dX8_runFrom_54 5 rfl ?_
  refine xr_iload dX8_runFrom_55 6 rfl ?_
  refine xr_iconst (v := 1) dX8_runFrom_57 rfl ?_
  refine xr_iadd dX8_runFrom_58 ?_
  refine xb_top (y := nI (e + 1)) (nI_add (e) (1)) ?_
  refine xr_callV (As := [.int (1), .int (0), .int (x), .int (nI (e + 1))]) (rest := []) mlX8_53 (tv0_run_1_0 (e := e + 1) (ac := ac) x (by omega) (by omega) e_b (by omega) e_ra hac e_ac e_k) dX8_runFrom_59 s_46 rfl rfl (Nat.le_of_ble_eq_true rfl) (by decide) ⟨by decide, by decide⟩ (fun v s2 M5 J2 hq => ?_)
  obtain ⟨r7, rfl, rfl, rfl, k6, ⟨hr3, hx2, ht4⟩⟩ := hq
  try dsimp only [Option.toList, List.cons_append, List.nil_append]
  subst hr3
  refine xr_goto (tgt := 66) dX8_runFrom_62 rfl ?_
  exact xr_iret dX8_runFrom_66 rfl rfl (⟨_, rfl, rfl, rfl, (Ke.tr (fun _ _ h => h) Ke.rf k6), rfl, hx2, ht4⟩)
set_option maxRecDepth 100000 in
set_option maxHeartbeats 4000000 in
theorem tv0_own_0 {e ac : Nat} (x : Int32) (he : e + 1 ≤ 30) {l : Launch} {G : xG} {M : xM} {J : xJ} {b ra : Nat} (h_b : b ≤ 50) (e_b : M 46 2 = nI b) (h_ra : ra + 1 ≤ 900) (e_ra : M 46 3 = nI ra) (hac : ac < b) (e_ac : M 46 4 = nI ac) (e_k : M 47 ac = 0) : x_M l G fX8_own 3 0 0 [.ref (46), .int (0), .int (x), .int (nI (e))] x_SH M J (qKI WTN M J (fun r M2 => r = (x + (nI (ac))) ∧ M2 46 3 = nI (ra + 1) ∧ TrA 48 ra [1] M M2)) := by
  refine xb_of pX8 (Nat.le_of_ble_eq_true rfl) rfl ?_
  refine xr_aload_n dX8_own_0 0 rfl ?_
  refine xr_aload_n dX8_own_1 0 rfl ?_
  refine xb_get (v := nI (ac)) flX8_36 dX8_own_2 s_46 rfl e_ac ?_
  refine xb_cV (As := [.int (nI (ac))]) (rest := []) mlX8_43 (c_X8_has (nI (ac)) (by omega) e_b) dX8_own_5 s_46 rfl rfl (Nat.le_of_ble_eq_true rfl) (by decide) (by decide) ?_
  refine xb_beq (tgt := 30) dX8_own_8 rfl (fun c => absurd ⟨nI_pos' (by omega), nI_lt (by omega) (by omega)⟩ c) (fun _ => ?_)
  refine xr_aload_n dX8_own_11 0 rfl ?_
  refine xr_aload_n dX8_own_12 0 rfl ?_
  refine xr_getR flX8_9 dX8_own_13 s_46 rfl ?_
  refine xr_aload_n dX8_own_16 0 rfl ?_
  refine xb_get (v := nI (ac)) flX8_36 dX8_own_17 s_46 rfl e_ac ?_
  refine xb_iald (j := ac) (v := 0) dX8_own_20 s_47 (by omega) (by decide) e_k ?_
  refine xr_iload_n dX8_own_21 1 rfl ?_
  refine xr_iload_n dX8_own_22 2 rfl ?_
  refine xr_iload_n dX8_own_23 3 rfl ?_
  refine xr_callV (As := [.int (0), .int (0), .int (x), .int (nI (e))]) (rest := []) mlX8_46 (tv0_runFrom_0_0 (e := e) (ac := ac) x (by omega) (by omega) e_b (by omega) e_ra hac e_ac e_k) dX8_own_24 s_46 rfl rfl (Nat.le_of_ble_eq_true rfl) (by decide) ⟨by decide, by decide⟩ (fun v s2 M5 J2 hq => ?_)
  obtain ⟨r7, rfl, rfl, rfl, k6, ⟨hr3, hx2, ht4⟩⟩ := hq
  try dsimp only [Option.toList, List.cons_append, List.nil_append]
  subst hr3
  refine xr_goto (tgt := 31) dX8_own_27 rfl ?_
  exact xr_iret dX8_own_31 rfl rfl (⟨_, rfl, rfl, rfl, (Ke.tr (fun _ _ h => h) Ke.rf k6), rfl, hx2, ht4⟩)
set_option maxRecDepth 100000 in
set_option maxHeartbeats 4000000 in
theorem tw0_0 {ac b : Nat} (x : Int32) {l : Launch} {G : xG} {M : xM} {J : xJ} (h_b : b ≤ 50) (e_b : M 46 2 = nI b) (hac : ac < b) (e_k : M 47 ac = 0) : x_M l G fX8_perform 4 0 0 [.ref (46), .int (nI (ac)), .int (0), .int (x)] x_SH M J (qKI WTR M J (fun r M2 => M2 46 3 = nI 1 ∧ TrF 48 [1] M2)) := by
  refine xb_of pX8 (Nat.le_of_ble_eq_true rfl) rfl ?_
  refine xr_aload_n dX8_perform_0 0 rfl ?_
  refine xr_iconst (v := 0) dX8_perform_1 rfl ?_
  refine xr_putI fpX8_33 dX8_perform_2 s_46 rfl rfl rfl ?_
  refine xr_aload_n dX8_perform_5 0 rfl ?_
  refine xr_iload_n dX8_perform_6 1 rfl ?_
  refine xr_putI fpX8_36 dX8_perform_7 s_46 rfl rfl rfl ?_
  refine xr_aload_n dX8_perform_10 0 rfl ?_
  refine xr_iload_n dX8_perform_11 2 rfl ?_
  refine xr_iload_n dX8_perform_12 3 rfl ?_
  refine xr_iconst (v := 0) dX8_perform_13 rfl ?_
  refine xr_callV (As := [.int (0), .int (x), .int (0)]) (rest := []) mlX8_39 (tv0_own_0 (e := 0) (ac := ac) (ra := 0) x (by omega) h_b (Eq.trans (x_up_k _ _ _ (by decide)) (Eq.trans (x_up_k _ _ _ (by decide)) e_b)) (by omega) (Eq.trans (x_up_k _ _ _ (by decide)) (x_up_s _ _ _ _)) hac (x_up_s _ _ _ _) (Eq.trans (congrFun (x_up_n _ _ _ (by decide)) _) (Eq.trans (congrFun (x_up_n _ _ _ (by decide)) _) e_k))) dX8_perform_14 s_46 rfl rfl (Nat.le_of_ble_eq_true rfl) (by decide) ⟨by decide, by decide⟩ (fun v s2 M4 J2 hq => ?_)
  obtain ⟨r6, rfl, rfl, rfl, k5, ⟨hr2, hx1, ht3⟩⟩ := hq
  try dsimp only [Option.toList, List.cons_append, List.nil_append]
  subst hr2
  exact xr_iret dX8_perform_17 rfl rfl (⟨_, rfl, rfl, rfl, (Ke.tr (fun pp kk => (fun hh => Or.elim hh (fun h => (Or.inl h)) (fun h => (Or.inr (Or.inr h))))) (Ke.up (Or.inr (Or.inl (by omega))) (Ke.up (Or.inl (by omega)) Ke.rf)) k5), ⟨(hx1.trans (congrArg nI (Nat.zero_add _))), TrA_F ht3⟩⟩)
set_option maxRecDepth 100000 in
set_option maxHeartbeats 4000000 in
theorem tv0_run_10_0 {e ac : Nat} (x : Int32) (he : e + 1 ≤ 30) {l : Launch} {G : xG} {M : xM} {J : xJ} {b ra : Nat} (h_b : b ≤ 50) (e_b : M 46 2 = nI b) (h_ra : ra + 2 ≤ 900) (e_ra : M 46 3 = nI ra) (hac : ac < b) (e_ac : M 46 4 = nI ac) (e_k : M 47 ac = 0) : x_M l G fX8_run 4 0 0 [.ref (46), .int (10), .int (0), .int (x), .int (nI (e))] x_SH M J (qKI WTN M J (fun r M2 => r = ((x + (nI (ac))) * 2) ∧ M2 46 3 = nI (ra + 2) ∧ TrA 48 ra [10, 1] M M2)) := by
  refine xb_of pX8 (Nat.le_of_ble_eq_true rfl) rfl ?_
  refine xr_aload_n dX8_run_0 0 rfl ?_
  refine xr_iload_n dX8_run_1 1 rfl ?_
  refine xr_callV (As := [.int (10)]) (rest := []) mlX8_56 (gt_X8_note 10 (by omega) e_ra) dX8_run_2 s_46 rfl rfl (Nat.le_of_ble_eq_true rfl) (by decide) ⟨by decide, by decide⟩ (fun v s2 M3 J2 hq => ?_)
  obtain ⟨rfl, rfl, rfl, k4, ⟨hx1, ht2⟩⟩ := hq
  try dsimp only [Option.toList, List.cons_append, List.nil_append]
  refine xr_iload_n dX8_run_5 1 rfl ?_
  refine xr_lookup (tgt := 145) (off := 139) dX8_run_6 (by decide) (by decide) rfl ?_
  refine xr_aload_n dX8_run_145 0 rfl ?_
  refine xr_iconst (v := 0) dX8_run_146 rfl ?_
  refine xr_iload_n dX8_run_147 3 rfl ?_
  refine xr_iload dX8_run_148 4 rfl ?_
  refine xr_callV (As := [.int (0), .int (x), .int (nI (e))]) (rest := []) mlX8_39 (tv0_own_0 (e := e) (ac := ac) x (by omega) (by omega) (Eq.trans (k4 46 2 (by decide)) e_b) (by omega) hx1 hac (Eq.trans (k4 46 4 (by decide)) e_ac) (Eq.trans (k4 47 ac (by unfold WTN; omega)) e_k)) dX8_run_150 s_46 rfl rfl (Nat.le_of_ble_eq_true rfl) (by decide) ⟨by decide, by decide⟩ (fun v s2 M8 J2 hq => ?_)
  obtain ⟨r10, rfl, rfl, rfl, k9, ⟨hr6, hx5, ht7⟩⟩ := hq
  try dsimp only [Option.toList, List.cons_append, List.nil_append]
  subst hr6
  refine xr_iconst (v := 2) dX8_run_153 rfl ?_
  refine xr_imul dX8_run_154 ?_
  exact xr_iret dX8_run_155 rfl rfl (⟨_, rfl, rfl, rfl, (Ke.tr (fun _ _ h => h) (Ke.tr (fun _ _ h => h) Ke.rf k4) k9), rfl, hx5, (TrA_app (l := [10]) (m := [1]) ht2 ht7)⟩)
set_option maxRecDepth 100000 in
set_option maxHeartbeats 4000000 in
theorem tv0_runFrom_0_1 {e ac : Nat} (x : Int32) (he : e + 2 ≤ 30) {l : Launch} {G : xG} {M : xM} {J : xJ} {b ra : Nat} (h_b : b ≤ 50) (e_b : M 46 2 = nI b) (h_ra : ra + 2 ≤ 900) (e_ra : M 46 3 = nI ra) (hac : ac < b) (e_ac : M 46 4 = nI ac) (e_k : M 47 ac = 0) : x_M l G fX8_runFrom 5 0 0 [.ref (46), .int (0), .int (1), .int (x), .int (nI (e))] x_SH M J (qKI WTN M J (fun r M2 => r = ((x + (nI (ac))) * 2) ∧ M2 46 3 = nI (ra + 2) ∧ TrA 48 ra [10, 1] M M2)) := by
  refine xb_of pX8 (Nat.le_of_ble_eq_true rfl) rfl ?_
  refine xr_iload_n dX8_runFrom_0 1 rfl ?_
  refine xr_istore (ls2 := [(5, .int (0)), (0, .ref (46)), (1, .int (0)), (2, .int (1)), (3, .int (x)), (4, .int (nI (e)))]) dX8_runFrom_1 (by decide) rfl ?_
  refine xr_iconst (v := 0) dX8_runFrom_3 rfl ?_
  refine xr_istore (ls2 := [(6, .int (0)), (5, .int (0)), (0, .ref (46)), (1, .int (0)), (2, .int (1)), (3, .int (x)), (4, .int (nI (e)))]) dX8_runFrom_4 (by decide) rfl ?_
  refine xr_iload dX8_runFrom_6 0 rfl ?_
  refine xr_bipush (v := 8) dX8_runFrom_8 rfl ?_
  refine xr_icmp_ge (tgt := 81) dX8_runFrom_10 rfl (fun c => absurd c (by decide)) (fun _ => ?_)
  refine xr_iload dX8_runFrom_13 1 rfl ?_
  refine xb_cN (As := [.int (0)]) (rest := []) mlX8_26 (c_X9_isKind 0) dX8_runFrom_15 rfl rfl (Nat.le_of_ble_eq_true rfl) (by decide) (by decide) ?_
  refine xb_beq (tgt := 81) dX8_runFrom_18 rfl (fun c => absurd (by decide) c) (fun _ => ?_)
  refine xr_getsO slX8_50 dX8_runFrom_21 ?_
  refine xr_iload dX8_runFrom_24 1 rfl ?_
  refine xr_iconst (v := 4) dX8_runFrom_26 rfl ?_
  refine xr_imul dX8_runFrom_27 ?_
  refine xb_top (y := 0) (by decide) ?_
  refine xr_iload_n dX8_runFrom_28 4 rfl ?_
  refine xr_iadd dX8_runFrom_29 ?_
  refine xb_top (y := 1) (by decide) ?_
  refine xr_tabO (by unfold vp_in; decide) dX8_runFrom_30 ?_
  refine xb_top (y := 10) (by decide) ?_
  refine xr_if_eq (tgt := 67) dX8_runFrom_31 rfl (fun c => absurd c (by decide)) (fun _ => ?_)
  refine xr_iload dX8_runFrom_34 6 rfl ?_
  refine xr_bipush (v := 30) dX8_runFrom_36 rfl ?_
  refine xr_icmp_ge (tgt := 65) dX8_runFrom_38 rfl (fun c => absurd c (nI_ge (a := e) (b := 30) (by omega) (by omega))) (fun _ => ?_)
  refine xr_aload_n dX8_runFrom_41 2 rfl ?_
  refine xr_getsO slX8_50 dX8_runFrom_42 ?_
  refine xr_iload dX8_runFrom_45 1 rfl ?_
  refine xr_iconst (v := 4) dX8_runFrom_47 rfl ?_
  refine xr_imul dX8_runFrom_48 ?_
  refine xb_top (y := 0) (by decide) ?_
  refine xr_iload_n dX8_runFrom_49 4 rfl ?_
  refine xr_iadd dX8_runFrom_50 ?_
  refine xb_top (y := 1) (by decide) ?_
  refine xr_tabO (by unfold vp_in; decide) dX8_runFrom_51 ?_
  refine xb_top (y := 10) (by decide) ?_
  refine xr_iload dX8_runFrom_52 1 rfl ?_
  refine xr_iload_n dX8_runFrom_54 5 rfl ?_
  refine xr_iload dX8_runFrom_55 6 rfl ?_
  refine xr_iconst (v := 1) dX8_runFrom_57 rfl ?_
  refine xr_iadd dX8_runFrom_58 ?_
  refine xb_top (y := nI (e + 1)) (nI_add (e) (1)) ?_
  refine xr_callV (As := [.int (10), .int (0), .int (x), .int (nI (e + 1))]) (rest := []) mlX8_53 (tv0_run_10_0 (e := e + 1) (ac := ac) x (by omega) (by omega) e_b (by omega) e_ra hac e_ac e_k) dX8_runFrom_59 s_46 rfl rfl (Nat.le_of_ble_eq_true rfl) (by decide) ⟨by decide, by decide⟩ (fun v s2 M5 J2 hq => ?_)
  obtain ⟨r7, rfl, rfl, rfl, k6, ⟨hr3, hx2, ht4⟩⟩ := hq
  try dsimp only [Option.toList, List.cons_append, List.nil_append]
  subst hr3
  refine xr_goto (tgt := 66) dX8_runFrom_62 rfl ?_
  exact xr_iret dX8_runFrom_66 rfl rfl (⟨_, rfl, rfl, rfl, (Ke.tr (fun _ _ h => h) Ke.rf k6), rfl, hx2, ht4⟩)
set_option maxRecDepth 100000 in
set_option maxHeartbeats 4000000 in
theorem tv0_own_1 {e ac : Nat} (x : Int32) (he : e + 2 ≤ 30) {l : Launch} {G : xG} {M : xM} {J : xJ} {b ra : Nat} (h_b : b ≤ 50) (e_b : M 46 2 = nI b) (h_ra : ra + 2 ≤ 900) (e_ra : M 46 3 = nI ra) (hac : ac < b) (e_ac : M 46 4 = nI ac) (e_k : M 47 ac = 0) : x_M l G fX8_own 6 0 0 [.ref (46), .int (1), .int (x), .int (nI (e))] x_SH M J (qKI WTN M J (fun r M2 => r = ((x + (nI (ac))) * 2) ∧ M2 46 3 = nI (ra + 2) ∧ TrA 48 ra [10, 1] M M2)) := by
  refine xb_of pX8 (Nat.le_of_ble_eq_true rfl) rfl ?_
  refine xr_aload_n dX8_own_0 0 rfl ?_
  refine xr_aload_n dX8_own_1 0 rfl ?_
  refine xb_get (v := nI (ac)) flX8_36 dX8_own_2 s_46 rfl e_ac ?_
  refine xb_cV (As := [.int (nI (ac))]) (rest := []) mlX8_43 (c_X8_has (nI (ac)) (by omega) e_b) dX8_own_5 s_46 rfl rfl (Nat.le_of_ble_eq_true rfl) (by decide) (by decide) ?_
  refine xb_beq (tgt := 30) dX8_own_8 rfl (fun c => absurd ⟨nI_pos' (by omega), nI_lt (by omega) (by omega)⟩ c) (fun _ => ?_)
  refine xr_aload_n dX8_own_11 0 rfl ?_
  refine xr_aload_n dX8_own_12 0 rfl ?_
  refine xr_getR flX8_9 dX8_own_13 s_46 rfl ?_
  refine xr_aload_n dX8_own_16 0 rfl ?_
  refine xb_get (v := nI (ac)) flX8_36 dX8_own_17 s_46 rfl e_ac ?_
  refine xb_iald (j := ac) (v := 0) dX8_own_20 s_47 (by omega) (by decide) e_k ?_
  refine xr_iload_n dX8_own_21 1 rfl ?_
  refine xr_iload_n dX8_own_22 2 rfl ?_
  refine xr_iload_n dX8_own_23 3 rfl ?_
  refine xr_callV (As := [.int (0), .int (1), .int (x), .int (nI (e))]) (rest := []) mlX8_46 (tv0_runFrom_0_1 (e := e) (ac := ac) x (by omega) (by omega) e_b (by omega) e_ra hac e_ac e_k) dX8_own_24 s_46 rfl rfl (Nat.le_of_ble_eq_true rfl) (by decide) ⟨by decide, by decide⟩ (fun v s2 M5 J2 hq => ?_)
  obtain ⟨r7, rfl, rfl, rfl, k6, ⟨hr3, hx2, ht4⟩⟩ := hq
  try dsimp only [Option.toList, List.cons_append, List.nil_append]
  subst hr3
  refine xr_goto (tgt := 31) dX8_own_27 rfl ?_
  exact xr_iret dX8_own_31 rfl rfl (⟨_, rfl, rfl, rfl, (Ke.tr (fun _ _ h => h) Ke.rf k6), rfl, hx2, ht4⟩)
set_option maxRecDepth 100000 in
set_option maxHeartbeats 4000000 in
theorem tw0_1 {ac b : Nat} (x : Int32) {l : Launch} {G : xG} {M : xM} {J : xJ} (h_b : b ≤ 50) (e_b : M 46 2 = nI b) (hac : ac < b) (e_k : M 47 ac = 0) : x_M l G fX8_perform 7 0 0 [.ref (46), .int (nI (ac)), .int (1), .int (x)] x_SH M J (qKI WTR M J (fun r M2 => M2 46 3 = nI 2 ∧ TrF 48 [10, 1] M2)) := by
  refine xb_of pX8 (Nat.le_of_ble_eq_true rfl) rfl ?_
  refine xr_aload_n dX8_perform_0 0 rfl ?_
  refine xr_iconst (v := 0) dX8_perform_1 rfl ?_
  refine xr_putI fpX8_33 dX8_perform_2 s_46 rfl rfl rfl ?_
  refine xr_aload_n dX8_perform_5 0 rfl ?_
  refine xr_iload_n dX8_perform_6 1 rfl ?_
  refine xr_putI fpX8_36 dX8_perform_7 s_46 rfl rfl rfl ?_
  refine xr_aload_n dX8_perform_10 0 rfl ?_
  refine xr_iload_n dX8_perform_11 2 rfl ?_
  refine xr_iload_n dX8_perform_12 3 rfl ?_
  refine xr_iconst (v := 0) dX8_perform_13 rfl ?_
  refine xr_callV (As := [.int (1), .int (x), .int (0)]) (rest := []) mlX8_39 (tv0_own_1 (e := 0) (ac := ac) (ra := 0) x (by omega) h_b (Eq.trans (x_up_k _ _ _ (by decide)) (Eq.trans (x_up_k _ _ _ (by decide)) e_b)) (by omega) (Eq.trans (x_up_k _ _ _ (by decide)) (x_up_s _ _ _ _)) hac (x_up_s _ _ _ _) (Eq.trans (congrFun (x_up_n _ _ _ (by decide)) _) (Eq.trans (congrFun (x_up_n _ _ _ (by decide)) _) e_k))) dX8_perform_14 s_46 rfl rfl (Nat.le_of_ble_eq_true rfl) (by decide) ⟨by decide, by decide⟩ (fun v s2 M4 J2 hq => ?_)
  obtain ⟨r6, rfl, rfl, rfl, k5, ⟨hr2, hx1, ht3⟩⟩ := hq
  try dsimp only [Option.toList, List.cons_append, List.nil_append]
  subst hr2
  exact xr_iret dX8_perform_17 rfl rfl (⟨_, rfl, rfl, rfl, (Ke.tr (fun pp kk => (fun hh => Or.elim hh (fun h => (Or.inl h)) (fun h => (Or.inr (Or.inr h))))) (Ke.up (Or.inr (Or.inl (by omega))) (Ke.up (Or.inl (by omega)) Ke.rf)) k5), ⟨(hx1.trans (congrArg nI (Nat.zero_add _))), TrA_F ht3⟩⟩)
set_option maxRecDepth 100000 in
set_option maxHeartbeats 4000000 in
theorem tv0_run_11_0 {e ac : Nat} (x : Int32) (he : e + 0 ≤ 30) {l : Launch} {G : xG} {M : xM} {J : xJ} {b ra : Nat} (h_b : b ≤ 50) (e_b : M 46 2 = nI b) (h_ra : ra + 1 ≤ 900) (e_ra : M 46 3 = nI ra) (hac : ac < b) (e_ac : M 46 4 = nI ac) (e_k : M 47 ac = 0) : x_M l G fX8_run 1 0 0 [.ref (46), .int (11), .int (0), .int (x), .int (nI (e))] x_SH M J (qKI WTN M J (fun r M2 => r = (x ^^^ (nI (ac))) ∧ M2 46 3 = nI (ra + 1) ∧ TrA 48 ra [11] M M2)) := by
  refine xb_of pX8 (Nat.le_of_ble_eq_true rfl) rfl ?_
  refine xr_aload_n dX8_run_0 0 rfl ?_
  refine xr_iload_n dX8_run_1 1 rfl ?_
  refine xr_callV (As := [.int (11)]) (rest := []) mlX8_56 (gt_X8_note 11 (by omega) e_ra) dX8_run_2 s_46 rfl rfl (Nat.le_of_ble_eq_true rfl) (by decide) ⟨by decide, by decide⟩ (fun v s2 M3 J2 hq => ?_)
  obtain ⟨rfl, rfl, rfl, k4, ⟨hx1, ht2⟩⟩ := hq
  try dsimp only [Option.toList, List.cons_append, List.nil_append]
  refine xr_iload_n dX8_run_5 1 rfl ?_
  refine xr_lookup (tgt := 156) (off := 150) dX8_run_6 (by decide) (by decide) rfl ?_
  refine xr_iload_n dX8_run_156 3 rfl ?_
  refine xr_aload_n dX8_run_157 0 rfl ?_
  refine xb_get (v := nI (ac)) flX8_36 dX8_run_158 s_46 rfl (Eq.trans (k4 46 4 (by decide)) e_ac) ?_
  refine xr_ixor dX8_run_161 ?_
  exact xr_iret dX8_run_162 rfl rfl (⟨_, rfl, rfl, rfl, (Ke.tr (fun _ _ h => h) Ke.rf k4), rfl, hx1, ht2⟩)
set_option maxRecDepth 100000 in
set_option maxHeartbeats 4000000 in
theorem tv0_runFrom_0_2 {e ac : Nat} (x : Int32) (he : e + 1 ≤ 30) {l : Launch} {G : xG} {M : xM} {J : xJ} {b ra : Nat} (h_b : b ≤ 50) (e_b : M 46 2 = nI b) (h_ra : ra + 1 ≤ 900) (e_ra : M 46 3 = nI ra) (hac : ac < b) (e_ac : M 46 4 = nI ac) (e_k : M 47 ac = 0) : x_M l G fX8_runFrom 2 0 0 [.ref (46), .int (0), .int (2), .int (x), .int (nI (e))] x_SH M J (qKI WTN M J (fun r M2 => r = (x ^^^ (nI (ac))) ∧ M2 46 3 = nI (ra + 1) ∧ TrA 48 ra [11] M M2)) := by
  refine xb_of pX8 (Nat.le_of_ble_eq_true rfl) rfl ?_
  refine xr_iload_n dX8_runFrom_0 1 rfl ?_
  refine xr_istore (ls2 := [(5, .int (0)), (0, .ref (46)), (1, .int (0)), (2, .int (2)), (3, .int (x)), (4, .int (nI (e)))]) dX8_runFrom_1 (by decide) rfl ?_
  refine xr_iconst (v := 0) dX8_runFrom_3 rfl ?_
  refine xr_istore (ls2 := [(6, .int (0)), (5, .int (0)), (0, .ref (46)), (1, .int (0)), (2, .int (2)), (3, .int (x)), (4, .int (nI (e)))]) dX8_runFrom_4 (by decide) rfl ?_
  refine xr_iload dX8_runFrom_6 0 rfl ?_
  refine xr_bipush (v := 8) dX8_runFrom_8 rfl ?_
  refine xr_icmp_ge (tgt := 81) dX8_runFrom_10 rfl (fun c => absurd c (by decide)) (fun _ => ?_)
  refine xr_iload dX8_runFrom_13 1 rfl ?_
  refine xb_cN (As := [.int (0)]) (rest := []) mlX8_26 (c_X9_isKind 0) dX8_runFrom_15 rfl rfl (Nat.le_of_ble_eq_true rfl) (by decide) (by decide) ?_
  refine xb_beq (tgt := 81) dX8_runFrom_18 rfl (fun c => absurd (by decide) c) (fun _ => ?_)
  refine xr_getsO slX8_50 dX8_runFrom_21 ?_
  refine xr_iload dX8_runFrom_24 1 rfl ?_
  refine xr_iconst (v := 4) dX8_runFrom_26 rfl ?_
  refine xr_imul dX8_runFrom_27 ?_
  refine xb_top (y := 0) (by decide) ?_
  refine xr_iload_n dX8_runFrom_28 4 rfl ?_
  refine xr_iadd dX8_runFrom_29 ?_
  refine xb_top (y := 2) (by decide) ?_
  refine xr_tabO (by unfold vp_in; decide) dX8_runFrom_30 ?_
  refine xb_top (y := 11) (by decide) ?_
  refine xr_if_eq (tgt := 67) dX8_runFrom_31 rfl (fun c => absurd c (by decide)) (fun _ => ?_)
  refine xr_iload dX8_runFrom_34 6 rfl ?_
  refine xr_bipush (v := 30) dX8_runFrom_36 rfl ?_
  refine xr_icmp_ge (tgt := 65) dX8_runFrom_38 rfl (fun c => absurd c (nI_ge (a := e) (b := 30) (by omega) (by omega))) (fun _ => ?_)
  refine xr_aload_n dX8_runFrom_41 2 rfl ?_
  refine xr_getsO slX8_50 dX8_runFrom_42 ?_
  refine xr_iload dX8_runFrom_45 1 rfl ?_
  refine xr_iconst (v := 4) dX8_runFrom_47 rfl ?_
  refine xr_imul dX8_runFrom_48 ?_
  refine xb_top (y := 0) (by decide) ?_
  refine xr_iload_n dX8_runFrom_49 4 rfl ?_
  refine xr_iadd dX8_runFrom_50 ?_
  refine xb_top (y := 2) (by decide) ?_
  refine xr_tabO (by unfold vp_in; decide) dX8_runFrom_51 ?_
  refine xb_top (y := 11) (by decide) ?_
  refine xr_iload dX8_runFrom_52 1 rfl ?_
  refine xr_iload_n dX8_runFrom_54 5 rfl ?_
  refine xr_iload dX8_runFrom_55 6 rfl ?_
  refine xr_iconst (v := 1) dX8_runFrom_57 rfl ?_
  refine xr_iadd dX8_runFrom_58 ?_
  refine xb_top (y := nI (e + 1)) (nI_add (e) (1)) ?_
  refine xr_callV (As := [.int (11), .int (0), .int (x), .int (nI (e + 1))]) (rest := []) mlX8_53 (tv0_run_11_0 (e := e + 1) (ac := ac) x (by omega) (by omega) e_b (by omega) e_ra hac e_ac e_k) dX8_runFrom_59 s_46 rfl rfl (Nat.le_of_ble_eq_true rfl) (by decide) ⟨by decide, by decide⟩ (fun v s2 M5 J2 hq => ?_)
  obtain ⟨r7, rfl, rfl, rfl, k6, ⟨hr3, hx2, ht4⟩⟩ := hq
  try dsimp only [Option.toList, List.cons_append, List.nil_append]
  subst hr3
  refine xr_goto (tgt := 66) dX8_runFrom_62 rfl ?_
  exact xr_iret dX8_runFrom_66 rfl rfl (⟨_, rfl, rfl, rfl, (Ke.tr (fun _ _ h => h) Ke.rf k6), rfl, hx2, ht4⟩)
set_option maxRecDepth 100000 in
set_option maxHeartbeats 4000000 in
theorem tv0_own_2 {e ac : Nat} (x : Int32) (he : e + 1 ≤ 30) {l : Launch} {G : xG} {M : xM} {J : xJ} {b ra : Nat} (h_b : b ≤ 50) (e_b : M 46 2 = nI b) (h_ra : ra + 1 ≤ 900) (e_ra : M 46 3 = nI ra) (hac : ac < b) (e_ac : M 46 4 = nI ac) (e_k : M 47 ac = 0) : x_M l G fX8_own 3 0 0 [.ref (46), .int (2), .int (x), .int (nI (e))] x_SH M J (qKI WTN M J (fun r M2 => r = (x ^^^ (nI (ac))) ∧ M2 46 3 = nI (ra + 1) ∧ TrA 48 ra [11] M M2)) := by
  refine xb_of pX8 (Nat.le_of_ble_eq_true rfl) rfl ?_
  refine xr_aload_n dX8_own_0 0 rfl ?_
  refine xr_aload_n dX8_own_1 0 rfl ?_
  refine xb_get (v := nI (ac)) flX8_36 dX8_own_2 s_46 rfl e_ac ?_
  refine xb_cV (As := [.int (nI (ac))]) (rest := []) mlX8_43 (c_X8_has (nI (ac)) (by omega) e_b) dX8_own_5 s_46 rfl rfl (Nat.le_of_ble_eq_true rfl) (by decide) (by decide) ?_
  refine xb_beq (tgt := 30) dX8_own_8 rfl (fun c => absurd ⟨nI_pos' (by omega), nI_lt (by omega) (by omega)⟩ c) (fun _ => ?_)
  refine xr_aload_n dX8_own_11 0 rfl ?_
  refine xr_aload_n dX8_own_12 0 rfl ?_
  refine xr_getR flX8_9 dX8_own_13 s_46 rfl ?_
  refine xr_aload_n dX8_own_16 0 rfl ?_
  refine xb_get (v := nI (ac)) flX8_36 dX8_own_17 s_46 rfl e_ac ?_
  refine xb_iald (j := ac) (v := 0) dX8_own_20 s_47 (by omega) (by decide) e_k ?_
  refine xr_iload_n dX8_own_21 1 rfl ?_
  refine xr_iload_n dX8_own_22 2 rfl ?_
  refine xr_iload_n dX8_own_23 3 rfl ?_
  refine xr_callV (As := [.int (0), .int (2), .int (x), .int (nI (e))]) (rest := []) mlX8_46 (tv0_runFrom_0_2 (e := e) (ac := ac) x (by omega) (by omega) e_b (by omega) e_ra hac e_ac e_k) dX8_own_24 s_46 rfl rfl (Nat.le_of_ble_eq_true rfl) (by decide) ⟨by decide, by decide⟩ (fun v s2 M5 J2 hq => ?_)
  obtain ⟨r7, rfl, rfl, rfl, k6, ⟨hr3, hx2, ht4⟩⟩ := hq
  try dsimp only [Option.toList, List.cons_append, List.nil_append]
  subst hr3
  refine xr_goto (tgt := 31) dX8_own_27 rfl ?_
  exact xr_iret dX8_own_31 rfl rfl (⟨_, rfl, rfl, rfl, (Ke.tr (fun _ _ h => h) Ke.rf k6), rfl, hx2, ht4⟩)
set_option maxRecDepth 100000 in
set_option maxHeartbeats 4000000 in
theorem tw0_2 {ac b : Nat} (x : Int32) {l : Launch} {G : xG} {M : xM} {J : xJ} (h_b : b ≤ 50) (e_b : M 46 2 = nI b) (hac : ac < b) (e_k : M 47 ac = 0) : x_M l G fX8_perform 4 0 0 [.ref (46), .int (nI (ac)), .int (2), .int (x)] x_SH M J (qKI WTR M J (fun r M2 => M2 46 3 = nI 1 ∧ TrF 48 [11] M2)) := by
  refine xb_of pX8 (Nat.le_of_ble_eq_true rfl) rfl ?_
  refine xr_aload_n dX8_perform_0 0 rfl ?_
  refine xr_iconst (v := 0) dX8_perform_1 rfl ?_
  refine xr_putI fpX8_33 dX8_perform_2 s_46 rfl rfl rfl ?_
  refine xr_aload_n dX8_perform_5 0 rfl ?_
  refine xr_iload_n dX8_perform_6 1 rfl ?_
  refine xr_putI fpX8_36 dX8_perform_7 s_46 rfl rfl rfl ?_
  refine xr_aload_n dX8_perform_10 0 rfl ?_
  refine xr_iload_n dX8_perform_11 2 rfl ?_
  refine xr_iload_n dX8_perform_12 3 rfl ?_
  refine xr_iconst (v := 0) dX8_perform_13 rfl ?_
  refine xr_callV (As := [.int (2), .int (x), .int (0)]) (rest := []) mlX8_39 (tv0_own_2 (e := 0) (ac := ac) (ra := 0) x (by omega) h_b (Eq.trans (x_up_k _ _ _ (by decide)) (Eq.trans (x_up_k _ _ _ (by decide)) e_b)) (by omega) (Eq.trans (x_up_k _ _ _ (by decide)) (x_up_s _ _ _ _)) hac (x_up_s _ _ _ _) (Eq.trans (congrFun (x_up_n _ _ _ (by decide)) _) (Eq.trans (congrFun (x_up_n _ _ _ (by decide)) _) e_k))) dX8_perform_14 s_46 rfl rfl (Nat.le_of_ble_eq_true rfl) (by decide) ⟨by decide, by decide⟩ (fun v s2 M4 J2 hq => ?_)
  obtain ⟨r6, rfl, rfl, rfl, k5, ⟨hr2, hx1, ht3⟩⟩ := hq
  try dsimp only [Option.toList, List.cons_append, List.nil_append]
  subst hr2
  exact xr_iret dX8_perform_17 rfl rfl (⟨_, rfl, rfl, rfl, (Ke.tr (fun pp kk => (fun hh => Or.elim hh (fun h => (Or.inl h)) (fun h => (Or.inr (Or.inr h))))) (Ke.up (Or.inr (Or.inl (by omega))) (Ke.up (Or.inl (by omega)) Ke.rf)) k5), ⟨(hx1.trans (congrArg nI (Nat.zero_add _))), TrA_F ht3⟩⟩)
set_option maxRecDepth 100000 in
set_option maxHeartbeats 4000000 in
theorem tv0_run_2_0 {e ac : Nat} (x : Int32) (he : e + 2 ≤ 30) {l : Launch} {G : xG} {M : xM} {J : xJ} {b ra : Nat} (h_b : b ≤ 50) (e_b : M 46 2 = nI b) (h_ra : ra + 4 ≤ 900) (e_ra : M 46 3 = nI ra) (hac : ac < b) (e_ac : M 46 4 = nI ac) (e_k : M 47 ac = 0) : x_M l G fX8_run 7 0 0 [.ref (46), .int (2), .int (0), .int (x), .int (nI (e))] x_SH M J (qKI WTN M J (fun r M2 => r = (((x + (nI (ac))) * 2) - (1 ^^^ (nI (ac)))) ∧ M2 46 3 = nI (ra + 4) ∧ TrA 48 ra [2, 10, 1, 11] M M2)) := by
  refine xb_of pX8 (Nat.le_of_ble_eq_true rfl) rfl ?_
  refine xr_aload_n dX8_run_0 0 rfl ?_
  refine xr_iload_n dX8_run_1 1 rfl ?_
  refine xr_callV (As := [.int (2)]) (rest := []) mlX8_56 (gt_X8_note 2 (by omega) e_ra) dX8_run_2 s_46 rfl rfl (Nat.le_of_ble_eq_true rfl) (by decide) ⟨by decide, by decide⟩ (fun v s2 M3 J2 hq => ?_)
  obtain ⟨rfl, rfl, rfl, k4, ⟨hx1, ht2⟩⟩ := hq
  try dsimp only [Option.toList, List.cons_append, List.nil_append]
  refine xr_iload_n dX8_run_5 1 rfl ?_
  refine xr_lookup (tgt := 127) (off := 121) dX8_run_6 (by decide) (by decide) rfl ?_
  refine xr_aload_n dX8_run_127 0 rfl ?_
  refine xr_iconst (v := 1) dX8_run_128 rfl ?_
  refine xr_iload_n dX8_run_129 3 rfl ?_
  refine xr_iload dX8_run_130 4 rfl ?_
  refine xr_callV (As := [.int (1), .int (x), .int (nI (e))]) (rest := []) mlX8_39 (tv0_own_1 (e := e) (ac := ac) x (by omega) (by omega) (Eq.trans (k4 46 2 (by decide)) e_b) (by omega) hx1 hac (Eq.trans (k4 46 4 (by decide)) e_ac) (Eq.trans (k4 47 ac (by unfold WTN; omega)) e_k)) dX8_run_132 s_46 rfl rfl (Nat.le_of_ble_eq_true rfl) (by decide) ⟨by decide, by decide⟩ (fun v s2 M8 J2 hq => ?_)
  obtain ⟨r10, rfl, rfl, rfl, k9, ⟨hr6, hx5, ht7⟩⟩ := hq
  try dsimp only [Option.toList, List.cons_append, List.nil_append]
  subst hr6
  refine xr_aload_n dX8_run_135 0 rfl ?_
  refine xr_iconst (v := 2) dX8_run_136 rfl ?_
  refine xr_iconst (v := 1) dX8_run_137 rfl ?_
  refine xr_iload dX8_run_138 4 rfl ?_
  refine xr_callV (As := [.int (2), .int (1), .int (nI (e))]) (rest := [.int (((x + (nI (ac))) * 2))]) mlX8_39 (tv0_own_2 (e := e) (ac := ac) 1 (by omega) (by omega) (Eq.trans (k9 46 2 (by decide)) (Eq.trans (k4 46 2 (by decide)) e_b)) (by omega) hx5 hac (Eq.trans (k9 46 4 (by decide)) (Eq.trans (k4 46 4 (by decide)) e_ac)) (Eq.trans (k9 47 ac (by unfold WTN; omega)) (Eq.trans (k4 47 ac (by unfold WTN; omega)) e_k))) dX8_run_140 s_46 rfl rfl (Nat.le_of_ble_eq_true rfl) (by decide) ⟨by decide, by decide⟩ (fun v s2 M14 J2 hq => ?_)
  obtain ⟨r16, rfl, rfl, rfl, k15, ⟨hr12, hx11, ht13⟩⟩ := hq
  try dsimp only [Option.toList, List.cons_append, List.nil_append]
  subst hr12
  refine xr_isub dX8_run_143 ?_
  exact xr_iret dX8_run_144 rfl rfl (⟨_, rfl, rfl, rfl, (Ke.tr (fun _ _ h => h) (Ke.tr (fun _ _ h => h) (Ke.tr (fun _ _ h => h) Ke.rf k4) k9) k15), rfl, hx11, (TrA_app (l := [2, 10, 1]) (m := [11]) (TrA_app (l := [2]) (m := [10, 1]) ht2 ht7) ht13)⟩)
set_option maxRecDepth 100000 in
set_option maxHeartbeats 4000000 in
theorem tv0_runFrom_0_3 {e ac : Nat} (x : Int32) (he : e + 3 ≤ 30) {l : Launch} {G : xG} {M : xM} {J : xJ} {b ra : Nat} (h_b : b ≤ 50) (e_b : M 46 2 = nI b) (h_ra : ra + 4 ≤ 900) (e_ra : M 46 3 = nI ra) (hac : ac < b) (e_ac : M 46 4 = nI ac) (e_k : M 47 ac = 0) : x_M l G fX8_runFrom 8 0 0 [.ref (46), .int (0), .int (3), .int (x), .int (nI (e))] x_SH M J (qKI WTN M J (fun r M2 => r = (((x + (nI (ac))) * 2) - (1 ^^^ (nI (ac)))) ∧ M2 46 3 = nI (ra + 4) ∧ TrA 48 ra [2, 10, 1, 11] M M2)) := by
  refine xb_of pX8 (Nat.le_of_ble_eq_true rfl) rfl ?_
  refine xr_iload_n dX8_runFrom_0 1 rfl ?_
  refine xr_istore (ls2 := [(5, .int (0)), (0, .ref (46)), (1, .int (0)), (2, .int (3)), (3, .int (x)), (4, .int (nI (e)))]) dX8_runFrom_1 (by decide) rfl ?_
  refine xr_iconst (v := 0) dX8_runFrom_3 rfl ?_
  refine xr_istore (ls2 := [(6, .int (0)), (5, .int (0)), (0, .ref (46)), (1, .int (0)), (2, .int (3)), (3, .int (x)), (4, .int (nI (e)))]) dX8_runFrom_4 (by decide) rfl ?_
  refine xr_iload dX8_runFrom_6 0 rfl ?_
  refine xr_bipush (v := 8) dX8_runFrom_8 rfl ?_
  refine xr_icmp_ge (tgt := 81) dX8_runFrom_10 rfl (fun c => absurd c (by decide)) (fun _ => ?_)
  refine xr_iload dX8_runFrom_13 1 rfl ?_
  refine xb_cN (As := [.int (0)]) (rest := []) mlX8_26 (c_X9_isKind 0) dX8_runFrom_15 rfl rfl (Nat.le_of_ble_eq_true rfl) (by decide) (by decide) ?_
  refine xb_beq (tgt := 81) dX8_runFrom_18 rfl (fun c => absurd (by decide) c) (fun _ => ?_)
  refine xr_getsO slX8_50 dX8_runFrom_21 ?_
  refine xr_iload dX8_runFrom_24 1 rfl ?_
  refine xr_iconst (v := 4) dX8_runFrom_26 rfl ?_
  refine xr_imul dX8_runFrom_27 ?_
  refine xb_top (y := 0) (by decide) ?_
  refine xr_iload_n dX8_runFrom_28 4 rfl ?_
  refine xr_iadd dX8_runFrom_29 ?_
  refine xb_top (y := 3) (by decide) ?_
  refine xr_tabO (by unfold vp_in; decide) dX8_runFrom_30 ?_
  refine xb_top (y := 2) (by decide) ?_
  refine xr_if_eq (tgt := 67) dX8_runFrom_31 rfl (fun c => absurd c (by decide)) (fun _ => ?_)
  refine xr_iload dX8_runFrom_34 6 rfl ?_
  refine xr_bipush (v := 30) dX8_runFrom_36 rfl ?_
  refine xr_icmp_ge (tgt := 65) dX8_runFrom_38 rfl (fun c => absurd c (nI_ge (a := e) (b := 30) (by omega) (by omega))) (fun _ => ?_)
  refine xr_aload_n dX8_runFrom_41 2 rfl ?_
  refine xr_getsO slX8_50 dX8_runFrom_42 ?_
  refine xr_iload dX8_runFrom_45 1 rfl ?_
  refine xr_iconst (v := 4) dX8_runFrom_47 rfl ?_
  refine xr_imul dX8_runFrom_48 ?_
  refine xb_top (y := 0) (by decide) ?_
  refine xr_iload_n dX8_runFrom_49 4 rfl ?_
  refine xr_iadd dX8_runFrom_50 ?_
  refine xb_top (y := 3) (by decide) ?_
  refine xr_tabO (by unfold vp_in; decide) dX8_runFrom_51 ?_
  refine xb_top (y := 2) (by decide) ?_
  refine xr_iload dX8_runFrom_52 1 rfl ?_
  refine xr_iload_n dX8_runFrom_54 5 rfl ?_
  refine xr_iload dX8_runFrom_55 6 rfl ?_
  refine xr_iconst (v := 1) dX8_runFrom_57 rfl ?_
  refine xr_iadd dX8_runFrom_58 ?_
  refine xb_top (y := nI (e + 1)) (nI_add (e) (1)) ?_
  refine xr_callV (As := [.int (2), .int (0), .int (x), .int (nI (e + 1))]) (rest := []) mlX8_53 (tv0_run_2_0 (e := e + 1) (ac := ac) x (by omega) (by omega) e_b (by omega) e_ra hac e_ac e_k) dX8_runFrom_59 s_46 rfl rfl (Nat.le_of_ble_eq_true rfl) (by decide) ⟨by decide, by decide⟩ (fun v s2 M5 J2 hq => ?_)
  obtain ⟨r7, rfl, rfl, rfl, k6, ⟨hr3, hx2, ht4⟩⟩ := hq
  try dsimp only [Option.toList, List.cons_append, List.nil_append]
  subst hr3
  refine xr_goto (tgt := 66) dX8_runFrom_62 rfl ?_
  exact xr_iret dX8_runFrom_66 rfl rfl (⟨_, rfl, rfl, rfl, (Ke.tr (fun _ _ h => h) Ke.rf k6), rfl, hx2, ht4⟩)
set_option maxRecDepth 100000 in
set_option maxHeartbeats 4000000 in
theorem tv0_own_3 {e ac : Nat} (x : Int32) (he : e + 3 ≤ 30) {l : Launch} {G : xG} {M : xM} {J : xJ} {b ra : Nat} (h_b : b ≤ 50) (e_b : M 46 2 = nI b) (h_ra : ra + 4 ≤ 900) (e_ra : M 46 3 = nI ra) (hac : ac < b) (e_ac : M 46 4 = nI ac) (e_k : M 47 ac = 0) : x_M l G fX8_own 9 0 0 [.ref (46), .int (3), .int (x), .int (nI (e))] x_SH M J (qKI WTN M J (fun r M2 => r = (((x + (nI (ac))) * 2) - (1 ^^^ (nI (ac)))) ∧ M2 46 3 = nI (ra + 4) ∧ TrA 48 ra [2, 10, 1, 11] M M2)) := by
  refine xb_of pX8 (Nat.le_of_ble_eq_true rfl) rfl ?_
  refine xr_aload_n dX8_own_0 0 rfl ?_
  refine xr_aload_n dX8_own_1 0 rfl ?_
  refine xb_get (v := nI (ac)) flX8_36 dX8_own_2 s_46 rfl e_ac ?_
  refine xb_cV (As := [.int (nI (ac))]) (rest := []) mlX8_43 (c_X8_has (nI (ac)) (by omega) e_b) dX8_own_5 s_46 rfl rfl (Nat.le_of_ble_eq_true rfl) (by decide) (by decide) ?_
  refine xb_beq (tgt := 30) dX8_own_8 rfl (fun c => absurd ⟨nI_pos' (by omega), nI_lt (by omega) (by omega)⟩ c) (fun _ => ?_)
  refine xr_aload_n dX8_own_11 0 rfl ?_
  refine xr_aload_n dX8_own_12 0 rfl ?_
  refine xr_getR flX8_9 dX8_own_13 s_46 rfl ?_
  refine xr_aload_n dX8_own_16 0 rfl ?_
  refine xb_get (v := nI (ac)) flX8_36 dX8_own_17 s_46 rfl e_ac ?_
  refine xb_iald (j := ac) (v := 0) dX8_own_20 s_47 (by omega) (by decide) e_k ?_
  refine xr_iload_n dX8_own_21 1 rfl ?_
  refine xr_iload_n dX8_own_22 2 rfl ?_
  refine xr_iload_n dX8_own_23 3 rfl ?_
  refine xr_callV (As := [.int (0), .int (3), .int (x), .int (nI (e))]) (rest := []) mlX8_46 (tv0_runFrom_0_3 (e := e) (ac := ac) x (by omega) (by omega) e_b (by omega) e_ra hac e_ac e_k) dX8_own_24 s_46 rfl rfl (Nat.le_of_ble_eq_true rfl) (by decide) ⟨by decide, by decide⟩ (fun v s2 M5 J2 hq => ?_)
  obtain ⟨r7, rfl, rfl, rfl, k6, ⟨hr3, hx2, ht4⟩⟩ := hq
  try dsimp only [Option.toList, List.cons_append, List.nil_append]
  subst hr3
  refine xr_goto (tgt := 31) dX8_own_27 rfl ?_
  exact xr_iret dX8_own_31 rfl rfl (⟨_, rfl, rfl, rfl, (Ke.tr (fun _ _ h => h) Ke.rf k6), rfl, hx2, ht4⟩)
set_option maxRecDepth 100000 in
set_option maxHeartbeats 4000000 in
theorem tw0_3 {ac b : Nat} (x : Int32) {l : Launch} {G : xG} {M : xM} {J : xJ} (h_b : b ≤ 50) (e_b : M 46 2 = nI b) (hac : ac < b) (e_k : M 47 ac = 0) : x_M l G fX8_perform 10 0 0 [.ref (46), .int (nI (ac)), .int (3), .int (x)] x_SH M J (qKI WTR M J (fun r M2 => M2 46 3 = nI 4 ∧ TrF 48 [2, 10, 1, 11] M2)) := by
  refine xb_of pX8 (Nat.le_of_ble_eq_true rfl) rfl ?_
  refine xr_aload_n dX8_perform_0 0 rfl ?_
  refine xr_iconst (v := 0) dX8_perform_1 rfl ?_
  refine xr_putI fpX8_33 dX8_perform_2 s_46 rfl rfl rfl ?_
  refine xr_aload_n dX8_perform_5 0 rfl ?_
  refine xr_iload_n dX8_perform_6 1 rfl ?_
  refine xr_putI fpX8_36 dX8_perform_7 s_46 rfl rfl rfl ?_
  refine xr_aload_n dX8_perform_10 0 rfl ?_
  refine xr_iload_n dX8_perform_11 2 rfl ?_
  refine xr_iload_n dX8_perform_12 3 rfl ?_
  refine xr_iconst (v := 0) dX8_perform_13 rfl ?_
  refine xr_callV (As := [.int (3), .int (x), .int (0)]) (rest := []) mlX8_39 (tv0_own_3 (e := 0) (ac := ac) (ra := 0) x (by omega) h_b (Eq.trans (x_up_k _ _ _ (by decide)) (Eq.trans (x_up_k _ _ _ (by decide)) e_b)) (by omega) (Eq.trans (x_up_k _ _ _ (by decide)) (x_up_s _ _ _ _)) hac (x_up_s _ _ _ _) (Eq.trans (congrFun (x_up_n _ _ _ (by decide)) _) (Eq.trans (congrFun (x_up_n _ _ _ (by decide)) _) e_k))) dX8_perform_14 s_46 rfl rfl (Nat.le_of_ble_eq_true rfl) (by decide) ⟨by decide, by decide⟩ (fun v s2 M4 J2 hq => ?_)
  obtain ⟨r6, rfl, rfl, rfl, k5, ⟨hr2, hx1, ht3⟩⟩ := hq
  try dsimp only [Option.toList, List.cons_append, List.nil_append]
  subst hr2
  exact xr_iret dX8_perform_17 rfl rfl (⟨_, rfl, rfl, rfl, (Ke.tr (fun pp kk => (fun hh => Or.elim hh (fun h => (Or.inl h)) (fun h => (Or.inr (Or.inr h))))) (Ke.up (Or.inr (Or.inl (by omega))) (Ke.up (Or.inl (by omega)) Ke.rf)) k5), ⟨(hx1.trans (congrArg nI (Nat.zero_add _))), TrA_F ht3⟩⟩)
set_option maxRecDepth 100000 in
set_option maxHeartbeats 4000000 in
theorem tv1_run_1_0 {e ac : Nat} (x : Int32) (he : e + 0 ≤ 30) {l : Launch} {G : xG} {M : xM} {J : xJ} {b ra : Nat} (h_b : b ≤ 50) (e_b : M 46 2 = nI b) (h_ra : ra + 1 ≤ 900) (e_ra : M 46 3 = nI ra) (hac : ac < b) (e_ac : M 46 4 = nI ac) (e_k : M 47 ac = 1) : x_M l G fX8_run 1 0 0 [.ref (46), .int (1), .int (0), .int (x), .int (nI (e))] x_SH M J (qKI WTN M J (fun r M2 => r = (x + (nI (ac))) ∧ M2 46 3 = nI (ra + 1) ∧ TrA 48 ra [1] M M2)) := by
  refine xb_of pX8 (Nat.le_of_ble_eq_true rfl) rfl ?_
  refine xr_aload_n dX8_run_0 0 rfl ?_
  refine xr_iload_n dX8_run_1 1 rfl ?_
  refine xr_callV (As := [.int (1)]) (rest := []) mlX8_56 (gt_X8_note 1 (by omega) e_ra) dX8_run_2 s_46 rfl rfl (Nat.le_of_ble_eq_true rfl) (by decide) ⟨by decide, by decide⟩ (fun v s2 M3 J2 hq => ?_)
  obtain ⟨rfl, rfl, rfl, k4, ⟨hx1, ht2⟩⟩ := hq
  try dsimp only [Option.toList, List.cons_append, List.nil_append]
  refine xr_iload_n dX8_run_5 1 rfl ?_
  refine xr_lookup (tgt := 120) (off := 114) dX8_run_6 (by decide) (by decide) rfl ?_
  refine xr_iload_n dX8_run_120 3 rfl ?_
  refine xr_aload_n dX8_run_121 0 rfl ?_
  refine xb_get (v := nI (ac)) flX8_36 dX8_run_122 s_46 rfl (Eq.trans (k4 46 4 (by decide)) e_ac) ?_
  refine xr_iadd dX8_run_125 ?_
  exact xr_iret dX8_run_126 rfl rfl (⟨_, rfl, rfl, rfl, (Ke.tr (fun _ _ h => h) Ke.rf k4), rfl, hx1, ht2⟩)
set_option maxRecDepth 100000 in
set_option maxHeartbeats 4000000 in
theorem tv1_runFrom_0_0 {e ac : Nat} (x : Int32) (he : e + 1 ≤ 30) {l : Launch} {G : xG} {M : xM} {J : xJ} {b ra : Nat} (h_b : b ≤ 50) (e_b : M 46 2 = nI b) (h_ra : ra + 1 ≤ 900) (e_ra : M 46 3 = nI ra) (hac : ac < b) (e_ac : M 46 4 = nI ac) (e_k : M 47 ac = 1) : x_M l G fX8_runFrom 2 0 0 [.ref (46), .int (0), .int (0), .int (x), .int (nI (e))] x_SH M J (qKI WTN M J (fun r M2 => r = (x + (nI (ac))) ∧ M2 46 3 = nI (ra + 1) ∧ TrA 48 ra [1] M M2)) := by
  refine xb_of pX8 (Nat.le_of_ble_eq_true rfl) rfl ?_
  refine xr_iload_n dX8_runFrom_0 1 rfl ?_
  refine xr_istore (ls2 := [(5, .int (0)), (0, .ref (46)), (1, .int (0)), (2, .int (0)), (3, .int (x)), (4, .int (nI (e)))]) dX8_runFrom_1 (by decide) rfl ?_
  refine xr_iconst (v := 0) dX8_runFrom_3 rfl ?_
  refine xr_istore (ls2 := [(6, .int (0)), (5, .int (0)), (0, .ref (46)), (1, .int (0)), (2, .int (0)), (3, .int (x)), (4, .int (nI (e)))]) dX8_runFrom_4 (by decide) rfl ?_
  refine xr_iload dX8_runFrom_6 0 rfl ?_
  refine xr_bipush (v := 8) dX8_runFrom_8 rfl ?_
  refine xr_icmp_ge (tgt := 81) dX8_runFrom_10 rfl (fun c => absurd c (by decide)) (fun _ => ?_)
  refine xr_iload dX8_runFrom_13 1 rfl ?_
  refine xb_cN (As := [.int (0)]) (rest := []) mlX8_26 (c_X9_isKind 0) dX8_runFrom_15 rfl rfl (Nat.le_of_ble_eq_true rfl) (by decide) (by decide) ?_
  refine xb_beq (tgt := 81) dX8_runFrom_18 rfl (fun c => absurd (by decide) c) (fun _ => ?_)
  refine xr_getsO slX8_50 dX8_runFrom_21 ?_
  refine xr_iload dX8_runFrom_24 1 rfl ?_
  refine xr_iconst (v := 4) dX8_runFrom_26 rfl ?_
  refine xr_imul dX8_runFrom_27 ?_
  refine xb_top (y := 0) (by decide) ?_
  refine xr_iload_n dX8_runFrom_28 4 rfl ?_
  refine xr_iadd dX8_runFrom_29 ?_
  refine xb_top (y := 0) (by decide) ?_
  refine xr_tabO (by unfold vp_in; decide) dX8_runFrom_30 ?_
  refine xb_top (y := 1) (by decide) ?_
  refine xr_if_eq (tgt := 67) dX8_runFrom_31 rfl (fun c => absurd c (by decide)) (fun _ => ?_)
  refine xr_iload dX8_runFrom_34 6 rfl ?_
  refine xr_bipush (v := 30) dX8_runFrom_36 rfl ?_
  refine xr_icmp_ge (tgt := 65) dX8_runFrom_38 rfl (fun c => absurd c (nI_ge (a := e) (b := 30) (by omega) (by omega))) (fun _ => ?_)
  refine xr_aload_n dX8_runFrom_41 2 rfl ?_
  refine xr_getsO slX8_50 dX8_runFrom_42 ?_
  refine xr_iload dX8_runFrom_45 1 rfl ?_
  refine xr_iconst (v := 4) dX8_runFrom_47 rfl ?_
  refine xr_imul dX8_runFrom_48 ?_
  refine xb_top (y := 0) (by decide) ?_
  refine xr_iload_n dX8_runFrom_49 4 rfl ?_
  refine xr_iadd dX8_runFrom_50 ?_
  refine xb_top (y := 0) (by decide) ?_
  refine xr_tabO (by unfold vp_in; decide) dX8_runFrom_51 ?_
  refine xb_top (y := 1) (by decide) ?_
  refine xr_iload dX8_runFrom_52 1 rfl ?_
  refine xr_iload_n dX8_runFrom_54 5 rfl ?_
  refine xr_iload dX8_runFrom_55 6 rfl ?_
  refine xr_iconst (v := 1) dX8_runFrom_57 rfl ?_
  refine xr_iadd dX8_runFrom_58 ?_
  refine xb_top (y := nI (e + 1)) (nI_add (e) (1)) ?_
  refine xr_callV (As := [.int (1), .int (0), .int (x), .int (nI (e + 1))]) (rest := []) mlX8_53 (tv1_run_1_0 (e := e + 1) (ac := ac) x (by omega) (by omega) e_b (by omega) e_ra hac e_ac e_k) dX8_runFrom_59 s_46 rfl rfl (Nat.le_of_ble_eq_true rfl) (by decide) ⟨by decide, by decide⟩ (fun v s2 M5 J2 hq => ?_)
  obtain ⟨r7, rfl, rfl, rfl, k6, ⟨hr3, hx2, ht4⟩⟩ := hq
  try dsimp only [Option.toList, List.cons_append, List.nil_append]
  subst hr3
  refine xr_goto (tgt := 66) dX8_runFrom_62 rfl ?_
  exact xr_iret dX8_runFrom_66 rfl rfl (⟨_, rfl, rfl, rfl, (Ke.tr (fun _ _ h => h) Ke.rf k6), rfl, hx2, ht4⟩)
set_option maxRecDepth 100000 in
set_option maxHeartbeats 4000000 in
theorem tv1_above_1_0 {e ac : Nat} (x : Int32) (he : e + 1 ≤ 30) {l : Launch} {G : xG} {M : xM} {J : xJ} {b ra : Nat} (h_b : b ≤ 50) (e_b : M 46 2 = nI b) (h_ra : ra + 1 ≤ 900) (e_ra : M 46 3 = nI ra) (hac : ac < b) (e_ac : M 46 4 = nI ac) (e_k : M 47 ac = 1) : x_M l G fX8_above 3 0 0 [.ref (46), .int (1), .int (0), .int (x), .int (nI (e))] x_SH M J (qKI WTN M J (fun r M2 => r = (x + (nI (ac))) ∧ M2 46 3 = nI (ra + 1) ∧ TrA 48 ra [1] M M2)) := by
  refine xb_of pX8 (Nat.le_of_ble_eq_true rfl) rfl ?_
  refine xr_iload_n dX8_above_0 1 rfl ?_
  refine xb_cN (As := [.int (1)]) (rest := []) mlX8_26 (c_X9_isKind 1) dX8_above_1 rfl rfl (Nat.le_of_ble_eq_true rfl) (by decide) (by decide) ?_
  refine xb_beq (tgt := 23) dX8_above_4 rfl (fun c => absurd (by decide) c) (fun _ => ?_)
  refine xr_aload_n dX8_above_7 0 rfl ?_
  refine xr_getsA slX8_30 dX8_above_8 ?_
  refine xr_iload_n dX8_above_11 1 rfl ?_
  refine xr_tabA (by unfold vp_in; decide) dX8_above_12 ?_
  refine xb_top (y := 0) (by decide) ?_
  refine xr_iload_n dX8_above_13 2 rfl ?_
  refine xr_iload_n dX8_above_14 3 rfl ?_
  refine xr_iload dX8_above_15 4 rfl ?_
  refine xr_callV (As := [.int (0), .int (0), .int (x), .int (nI (e))]) (rest := []) mlX8_46 (tv1_runFrom_0_0 (e := e) (ac := ac) x (by omega) (by omega) e_b (by omega) e_ra hac e_ac e_k) dX8_above_17 s_46 rfl rfl (Nat.le_of_ble_eq_true rfl) (by decide) ⟨by decide, by decide⟩ (fun v s2 M5 J2 hq => ?_)
  obtain ⟨r7, rfl, rfl, rfl, k6, ⟨hr3, hx2, ht4⟩⟩ := hq
  try dsimp only [Option.toList, List.cons_append, List.nil_append]
  subst hr3
  refine xr_goto (tgt := 24) dX8_above_20 rfl ?_
  exact xr_iret dX8_above_24 rfl rfl (⟨_, rfl, rfl, rfl, (Ke.tr (fun _ _ h => h) Ke.rf k6), rfl, hx2, ht4⟩)
set_option maxRecDepth 100000 in
set_option maxHeartbeats 4000000 in
theorem tv1_run_20_1 {e ac : Nat} (x : Int32) (he : e + 1 ≤ 30) {l : Launch} {G : xG} {M : xM} {J : xJ} {b ra : Nat} (h_b : b ≤ 50) (e_b : M 46 2 = nI b) (h_ra : ra + 2 ≤ 900) (e_ra : M 46 3 = nI ra) (hac : ac < b) (e_ac : M 46 4 = nI ac) (e_k : M 47 ac = 1) : x_M l G fX8_run 4 0 0 [.ref (46), .int (20), .int (1), .int (x), .int (nI (e))] x_SH M J (qKI WTN M J (fun r M2 => r = ((x + (nI (ac))) + 3) ∧ M2 46 3 = nI (ra + 2) ∧ TrA 48 ra [20, 1] M M2)) := by
  refine xb_of pX8 (Nat.le_of_ble_eq_true rfl) rfl ?_
  refine xr_aload_n dX8_run_0 0 rfl ?_
  refine xr_iload_n dX8_run_1 1 rfl ?_
  refine xr_callV (As := [.int (20)]) (rest := []) mlX8_56 (gt_X8_note 20 (by omega) e_ra) dX8_run_2 s_46 rfl rfl (Nat.le_of_ble_eq_true rfl) (by decide) ⟨by decide, by decide⟩ (fun v s2 M3 J2 hq => ?_)
  obtain ⟨rfl, rfl, rfl, k4, ⟨hx1, ht2⟩⟩ := hq
  try dsimp only [Option.toList, List.cons_append, List.nil_append]
  refine xr_iload_n dX8_run_5 1 rfl ?_
  refine xr_lookup (tgt := 163) (off := 157) dX8_run_6 (by decide) (by decide) rfl ?_
  refine xr_aload_n dX8_run_163 0 rfl ?_
  refine xr_iload_n dX8_run_164 2 rfl ?_
  refine xr_iconst (v := 0) dX8_run_165 rfl ?_
  refine xr_iload_n dX8_run_166 3 rfl ?_
  refine xr_iload dX8_run_167 4 rfl ?_
  refine xr_callV (As := [.int (1), .int (0), .int (x), .int (nI (e))]) (rest := []) mlX8_60 (tv1_above_1_0 (e := e) (ac := ac) x (by omega) (by omega) (Eq.trans (k4 46 2 (by decide)) e_b) (by omega) hx1 hac (Eq.trans (k4 46 4 (by decide)) e_ac) (Eq.trans (k4 47 ac (by unfold WTN; omega)) e_k)) dX8_run_169 s_46 rfl rfl (Nat.le_of_ble_eq_true rfl) (by decide) ⟨by decide, by decide⟩ (fun v s2 M8 J2 hq => ?_)
  obtain ⟨r10, rfl, rfl, rfl, k9, ⟨hr6, hx5, ht7⟩⟩ := hq
  try dsimp only [Option.toList, List.cons_append, List.nil_append]
  subst hr6
  refine xr_iconst (v := 3) dX8_run_172 rfl ?_
  refine xr_iadd dX8_run_173 ?_
  exact xr_iret dX8_run_174 rfl rfl (⟨_, rfl, rfl, rfl, (Ke.tr (fun _ _ h => h) (Ke.tr (fun _ _ h => h) Ke.rf k4) k9), rfl, hx5, (TrA_app (l := [20]) (m := [1]) ht2 ht7)⟩)
set_option maxRecDepth 100000 in
set_option maxHeartbeats 4000000 in
theorem tv1_runFrom_1_0 {e ac : Nat} (x : Int32) (he : e + 2 ≤ 30) {l : Launch} {G : xG} {M : xM} {J : xJ} {b ra : Nat} (h_b : b ≤ 50) (e_b : M 46 2 = nI b) (h_ra : ra + 2 ≤ 900) (e_ra : M 46 3 = nI ra) (hac : ac < b) (e_ac : M 46 4 = nI ac) (e_k : M 47 ac = 1) : x_M l G fX8_runFrom 5 0 0 [.ref (46), .int (1), .int (0), .int (x), .int (nI (e))] x_SH M J (qKI WTN M J (fun r M2 => r = ((x + (nI (ac))) + 3) ∧ M2 46 3 = nI (ra + 2) ∧ TrA 48 ra [20, 1] M M2)) := by
  refine xb_of pX8 (Nat.le_of_ble_eq_true rfl) rfl ?_
  refine xr_iload_n dX8_runFrom_0 1 rfl ?_
  refine xr_istore (ls2 := [(5, .int (1)), (0, .ref (46)), (1, .int (1)), (2, .int (0)), (3, .int (x)), (4, .int (nI (e)))]) dX8_runFrom_1 (by decide) rfl ?_
  refine xr_iconst (v := 0) dX8_runFrom_3 rfl ?_
  refine xr_istore (ls2 := [(6, .int (0)), (5, .int (1)), (0, .ref (46)), (1, .int (1)), (2, .int (0)), (3, .int (x)), (4, .int (nI (e)))]) dX8_runFrom_4 (by decide) rfl ?_
  refine xr_iload dX8_runFrom_6 0 rfl ?_
  refine xr_bipush (v := 8) dX8_runFrom_8 rfl ?_
  refine xr_icmp_ge (tgt := 81) dX8_runFrom_10 rfl (fun c => absurd c (by decide)) (fun _ => ?_)
  refine xr_iload dX8_runFrom_13 1 rfl ?_
  refine xb_cN (As := [.int (1)]) (rest := []) mlX8_26 (c_X9_isKind 1) dX8_runFrom_15 rfl rfl (Nat.le_of_ble_eq_true rfl) (by decide) (by decide) ?_
  refine xb_beq (tgt := 81) dX8_runFrom_18 rfl (fun c => absurd (by decide) c) (fun _ => ?_)
  refine xr_getsO slX8_50 dX8_runFrom_21 ?_
  refine xr_iload dX8_runFrom_24 1 rfl ?_
  refine xr_iconst (v := 4) dX8_runFrom_26 rfl ?_
  refine xr_imul dX8_runFrom_27 ?_
  refine xb_top (y := 4) (by decide) ?_
  refine xr_iload_n dX8_runFrom_28 4 rfl ?_
  refine xr_iadd dX8_runFrom_29 ?_
  refine xb_top (y := 4) (by decide) ?_
  refine xr_tabO (by unfold vp_in; decide) dX8_runFrom_30 ?_
  refine xb_top (y := 20) (by decide) ?_
  refine xr_if_eq (tgt := 67) dX8_runFrom_31 rfl (fun c => absurd c (by decide)) (fun _ => ?_)
  refine xr_iload dX8_runFrom_34 6 rfl ?_
  refine xr_bipush (v := 30) dX8_runFrom_36 rfl ?_
  refine xr_icmp_ge (tgt := 65) dX8_runFrom_38 rfl (fun c => absurd c (nI_ge (a := e) (b := 30) (by omega) (by omega))) (fun _ => ?_)
  refine xr_aload_n dX8_runFrom_41 2 rfl ?_
  refine xr_getsO slX8_50 dX8_runFrom_42 ?_
  refine xr_iload dX8_runFrom_45 1 rfl ?_
  refine xr_iconst (v := 4) dX8_runFrom_47 rfl ?_
  refine xr_imul dX8_runFrom_48 ?_
  refine xb_top (y := 4) (by decide) ?_
  refine xr_iload_n dX8_runFrom_49 4 rfl ?_
  refine xr_iadd dX8_runFrom_50 ?_
  refine xb_top (y := 4) (by decide) ?_
  refine xr_tabO (by unfold vp_in; decide) dX8_runFrom_51 ?_
  refine xb_top (y := 20) (by decide) ?_
  refine xr_iload dX8_runFrom_52 1 rfl ?_
  refine xr_iload_n dX8_runFrom_54 5 rfl ?_
  refine xr_iload dX8_runFrom_55 6 rfl ?_
  refine xr_iconst (v := 1) dX8_runFrom_57 rfl ?_
  refine xr_iadd dX8_runFrom_58 ?_
  refine xb_top (y := nI (e + 1)) (nI_add (e) (1)) ?_
  refine xr_callV (As := [.int (20), .int (1), .int (x), .int (nI (e + 1))]) (rest := []) mlX8_53 (tv1_run_20_1 (e := e + 1) (ac := ac) x (by omega) (by omega) e_b (by omega) e_ra hac e_ac e_k) dX8_runFrom_59 s_46 rfl rfl (Nat.le_of_ble_eq_true rfl) (by decide) ⟨by decide, by decide⟩ (fun v s2 M5 J2 hq => ?_)
  obtain ⟨r7, rfl, rfl, rfl, k6, ⟨hr3, hx2, ht4⟩⟩ := hq
  try dsimp only [Option.toList, List.cons_append, List.nil_append]
  subst hr3
  refine xr_goto (tgt := 66) dX8_runFrom_62 rfl ?_
  exact xr_iret dX8_runFrom_66 rfl rfl (⟨_, rfl, rfl, rfl, (Ke.tr (fun _ _ h => h) Ke.rf k6), rfl, hx2, ht4⟩)
set_option maxRecDepth 100000 in
set_option maxHeartbeats 4000000 in
theorem tv1_own_0 {e ac : Nat} (x : Int32) (he : e + 2 ≤ 30) {l : Launch} {G : xG} {M : xM} {J : xJ} {b ra : Nat} (h_b : b ≤ 50) (e_b : M 46 2 = nI b) (h_ra : ra + 2 ≤ 900) (e_ra : M 46 3 = nI ra) (hac : ac < b) (e_ac : M 46 4 = nI ac) (e_k : M 47 ac = 1) : x_M l G fX8_own 6 0 0 [.ref (46), .int (0), .int (x), .int (nI (e))] x_SH M J (qKI WTN M J (fun r M2 => r = ((x + (nI (ac))) + 3) ∧ M2 46 3 = nI (ra + 2) ∧ TrA 48 ra [20, 1] M M2)) := by
  refine xb_of pX8 (Nat.le_of_ble_eq_true rfl) rfl ?_
  refine xr_aload_n dX8_own_0 0 rfl ?_
  refine xr_aload_n dX8_own_1 0 rfl ?_
  refine xb_get (v := nI (ac)) flX8_36 dX8_own_2 s_46 rfl e_ac ?_
  refine xb_cV (As := [.int (nI (ac))]) (rest := []) mlX8_43 (c_X8_has (nI (ac)) (by omega) e_b) dX8_own_5 s_46 rfl rfl (Nat.le_of_ble_eq_true rfl) (by decide) (by decide) ?_
  refine xb_beq (tgt := 30) dX8_own_8 rfl (fun c => absurd ⟨nI_pos' (by omega), nI_lt (by omega) (by omega)⟩ c) (fun _ => ?_)
  refine xr_aload_n dX8_own_11 0 rfl ?_
  refine xr_aload_n dX8_own_12 0 rfl ?_
  refine xr_getR flX8_9 dX8_own_13 s_46 rfl ?_
  refine xr_aload_n dX8_own_16 0 rfl ?_
  refine xb_get (v := nI (ac)) flX8_36 dX8_own_17 s_46 rfl e_ac ?_
  refine xb_iald (j := ac) (v := 1) dX8_own_20 s_47 (by omega) (by decide) e_k ?_
  refine xr_iload_n dX8_own_21 1 rfl ?_
  refine xr_iload_n dX8_own_22 2 rfl ?_
  refine xr_iload_n dX8_own_23 3 rfl ?_
  refine xr_callV (As := [.int (1), .int (0), .int (x), .int (nI (e))]) (rest := []) mlX8_46 (tv1_runFrom_1_0 (e := e) (ac := ac) x (by omega) (by omega) e_b (by omega) e_ra hac e_ac e_k) dX8_own_24 s_46 rfl rfl (Nat.le_of_ble_eq_true rfl) (by decide) ⟨by decide, by decide⟩ (fun v s2 M5 J2 hq => ?_)
  obtain ⟨r7, rfl, rfl, rfl, k6, ⟨hr3, hx2, ht4⟩⟩ := hq
  try dsimp only [Option.toList, List.cons_append, List.nil_append]
  subst hr3
  refine xr_goto (tgt := 31) dX8_own_27 rfl ?_
  exact xr_iret dX8_own_31 rfl rfl (⟨_, rfl, rfl, rfl, (Ke.tr (fun _ _ h => h) Ke.rf k6), rfl, hx2, ht4⟩)
set_option maxRecDepth 100000 in
set_option maxHeartbeats 4000000 in
theorem tw1_0 {ac b : Nat} (x : Int32) {l : Launch} {G : xG} {M : xM} {J : xJ} (h_b : b ≤ 50) (e_b : M 46 2 = nI b) (hac : ac < b) (e_k : M 47 ac = 1) : x_M l G fX8_perform 7 0 0 [.ref (46), .int (nI (ac)), .int (0), .int (x)] x_SH M J (qKI WTR M J (fun r M2 => M2 46 3 = nI 2 ∧ TrF 48 [20, 1] M2)) := by
  refine xb_of pX8 (Nat.le_of_ble_eq_true rfl) rfl ?_
  refine xr_aload_n dX8_perform_0 0 rfl ?_
  refine xr_iconst (v := 0) dX8_perform_1 rfl ?_
  refine xr_putI fpX8_33 dX8_perform_2 s_46 rfl rfl rfl ?_
  refine xr_aload_n dX8_perform_5 0 rfl ?_
  refine xr_iload_n dX8_perform_6 1 rfl ?_
  refine xr_putI fpX8_36 dX8_perform_7 s_46 rfl rfl rfl ?_
  refine xr_aload_n dX8_perform_10 0 rfl ?_
  refine xr_iload_n dX8_perform_11 2 rfl ?_
  refine xr_iload_n dX8_perform_12 3 rfl ?_
  refine xr_iconst (v := 0) dX8_perform_13 rfl ?_
  refine xr_callV (As := [.int (0), .int (x), .int (0)]) (rest := []) mlX8_39 (tv1_own_0 (e := 0) (ac := ac) (ra := 0) x (by omega) h_b (Eq.trans (x_up_k _ _ _ (by decide)) (Eq.trans (x_up_k _ _ _ (by decide)) e_b)) (by omega) (Eq.trans (x_up_k _ _ _ (by decide)) (x_up_s _ _ _ _)) hac (x_up_s _ _ _ _) (Eq.trans (congrFun (x_up_n _ _ _ (by decide)) _) (Eq.trans (congrFun (x_up_n _ _ _ (by decide)) _) e_k))) dX8_perform_14 s_46 rfl rfl (Nat.le_of_ble_eq_true rfl) (by decide) ⟨by decide, by decide⟩ (fun v s2 M4 J2 hq => ?_)
  obtain ⟨r6, rfl, rfl, rfl, k5, ⟨hr2, hx1, ht3⟩⟩ := hq
  try dsimp only [Option.toList, List.cons_append, List.nil_append]
  subst hr2
  exact xr_iret dX8_perform_17 rfl rfl (⟨_, rfl, rfl, rfl, (Ke.tr (fun pp kk => (fun hh => Or.elim hh (fun h => (Or.inl h)) (fun h => (Or.inr (Or.inr h))))) (Ke.up (Or.inr (Or.inl (by omega))) (Ke.up (Or.inl (by omega)) Ke.rf)) k5), ⟨(hx1.trans (congrArg nI (Nat.zero_add _))), TrA_F ht3⟩⟩)
set_option maxRecDepth 100000 in
set_option maxHeartbeats 4000000 in
theorem tv1_run_10_0 {e ac : Nat} (x : Int32) (he : e + 2 ≤ 30) {l : Launch} {G : xG} {M : xM} {J : xJ} {b ra : Nat} (h_b : b ≤ 50) (e_b : M 46 2 = nI b) (h_ra : ra + 3 ≤ 900) (e_ra : M 46 3 = nI ra) (hac : ac < b) (e_ac : M 46 4 = nI ac) (e_k : M 47 ac = 1) : x_M l G fX8_run 7 0 0 [.ref (46), .int (10), .int (0), .int (x), .int (nI (e))] x_SH M J (qKI WTN M J (fun r M2 => r = (((x + (nI (ac))) + 3) * 2) ∧ M2 46 3 = nI (ra + 3) ∧ TrA 48 ra [10, 20, 1] M M2)) := by
  refine xb_of pX8 (Nat.le_of_ble_eq_true rfl) rfl ?_
  refine xr_aload_n dX8_run_0 0 rfl ?_
  refine xr_iload_n dX8_run_1 1 rfl ?_
  refine xr_callV (As := [.int (10)]) (rest := []) mlX8_56 (gt_X8_note 10 (by omega) e_ra) dX8_run_2 s_46 rfl rfl (Nat.le_of_ble_eq_true rfl) (by decide) ⟨by decide, by decide⟩ (fun v s2 M3 J2 hq => ?_)
  obtain ⟨rfl, rfl, rfl, k4, ⟨hx1, ht2⟩⟩ := hq
  try dsimp only [Option.toList, List.cons_append, List.nil_append]
  refine xr_iload_n dX8_run_5 1 rfl ?_
  refine xr_lookup (tgt := 145) (off := 139) dX8_run_6 (by decide) (by decide) rfl ?_
  refine xr_aload_n dX8_run_145 0 rfl ?_
  refine xr_iconst (v := 0) dX8_run_146 rfl ?_
  refine xr_iload_n dX8_run_147 3 rfl ?_
  refine xr_iload dX8_run_148 4 rfl ?_
  refine xr_callV (As := [.int (0), .int (x), .int (nI (e))]) (rest := []) mlX8_39 (tv1_own_0 (e := e) (ac := ac) x (by omega) (by omega) (Eq.trans (k4 46 2 (by decide)) e_b) (by omega) hx1 hac (Eq.trans (k4 46 4 (by decide)) e_ac) (Eq.trans (k4 47 ac (by unfold WTN; omega)) e_k)) dX8_run_150 s_46 rfl rfl (Nat.le_of_ble_eq_true rfl) (by decide) ⟨by decide, by decide⟩ (fun v s2 M8 J2 hq => ?_)
  obtain ⟨r10, rfl, rfl, rfl, k9, ⟨hr6, hx5, ht7⟩⟩ := hq
  try dsimp only [Option.toList, List.cons_append, List.nil_append]
  subst hr6
  refine xr_iconst (v := 2) dX8_run_153 rfl ?_
  refine xr_imul dX8_run_154 ?_
  exact xr_iret dX8_run_155 rfl rfl (⟨_, rfl, rfl, rfl, (Ke.tr (fun _ _ h => h) (Ke.tr (fun _ _ h => h) Ke.rf k4) k9), rfl, hx5, (TrA_app (l := [10]) (m := [20, 1]) ht2 ht7)⟩)
set_option maxRecDepth 100000 in
set_option maxHeartbeats 4000000 in
theorem tv1_runFrom_1_1 {e ac : Nat} (x : Int32) (he : e + 3 ≤ 30) {l : Launch} {G : xG} {M : xM} {J : xJ} {b ra : Nat} (h_b : b ≤ 50) (e_b : M 46 2 = nI b) (h_ra : ra + 3 ≤ 900) (e_ra : M 46 3 = nI ra) (hac : ac < b) (e_ac : M 46 4 = nI ac) (e_k : M 47 ac = 1) : x_M l G fX8_runFrom 8 0 0 [.ref (46), .int (1), .int (1), .int (x), .int (nI (e))] x_SH M J (qKI WTN M J (fun r M2 => r = (((x + (nI (ac))) + 3) * 2) ∧ M2 46 3 = nI (ra + 3) ∧ TrA 48 ra [10, 20, 1] M M2)) := by
  refine xb_of pX8 (Nat.le_of_ble_eq_true rfl) rfl ?_
  refine xr_iload_n dX8_runFrom_0 1 rfl ?_
  refine xr_istore (ls2 := [(5, .int (1)), (0, .ref (46)), (1, .int (1)), (2, .int (1)), (3, .int (x)), (4, .int (nI (e)))]) dX8_runFrom_1 (by decide) rfl ?_
  refine xr_iconst (v := 0) dX8_runFrom_3 rfl ?_
  refine xr_istore (ls2 := [(6, .int (0)), (5, .int (1)), (0, .ref (46)), (1, .int (1)), (2, .int (1)), (3, .int (x)), (4, .int (nI (e)))]) dX8_runFrom_4 (by decide) rfl ?_
  refine xr_iload dX8_runFrom_6 0 rfl ?_
  refine xr_bipush (v := 8) dX8_runFrom_8 rfl ?_
  refine xr_icmp_ge (tgt := 81) dX8_runFrom_10 rfl (fun c => absurd c (by decide)) (fun _ => ?_)
  refine xr_iload dX8_runFrom_13 1 rfl ?_
  refine xb_cN (As := [.int (1)]) (rest := []) mlX8_26 (c_X9_isKind 1) dX8_runFrom_15 rfl rfl (Nat.le_of_ble_eq_true rfl) (by decide) (by decide) ?_
  refine xb_beq (tgt := 81) dX8_runFrom_18 rfl (fun c => absurd (by decide) c) (fun _ => ?_)
  refine xr_getsO slX8_50 dX8_runFrom_21 ?_
  refine xr_iload dX8_runFrom_24 1 rfl ?_
  refine xr_iconst (v := 4) dX8_runFrom_26 rfl ?_
  refine xr_imul dX8_runFrom_27 ?_
  refine xb_top (y := 4) (by decide) ?_
  refine xr_iload_n dX8_runFrom_28 4 rfl ?_
  refine xr_iadd dX8_runFrom_29 ?_
  refine xb_top (y := 5) (by decide) ?_
  refine xr_tabO (by unfold vp_in; decide) dX8_runFrom_30 ?_
  refine xb_top (y := 0) (by decide) ?_
  refine xr_if_eq (tgt := 67) dX8_runFrom_31 rfl (fun _ => ?_) (fun c => absurd (by decide) c)
  refine xr_getsA slX8_30 dX8_runFrom_67 ?_
  refine xr_iload dX8_runFrom_70 1 rfl ?_
  refine xr_tabA (by unfold vp_in; decide) dX8_runFrom_72 ?_
  refine xb_top (y := 0) (by decide) ?_
  refine xr_istore (ls2 := [(5, .int (0)), (6, .int (0)), (0, .ref (46)), (1, .int (1)), (2, .int (1)), (3, .int (x)), (4, .int (nI (e)))]) dX8_runFrom_73 (by decide) rfl ?_
  refine xr_iinc (v := 1) (ls2 := [(6, .int (1)), (5, .int (0)), (0, .ref (46)), (1, .int (1)), (2, .int (1)), (3, .int (x)), (4, .int (nI (e)))]) dX8_runFrom_75 1 rfl rfl (by decide) rfl ?_
  refine xr_goto (tgt := 6) dX8_runFrom_78 rfl ?_
  refine xr_iload dX8_runFrom_6 0 rfl ?_
  refine xr_bipush (v := 8) dX8_runFrom_8 rfl ?_
  refine xr_icmp_ge (tgt := 81) dX8_runFrom_10 rfl (fun c => absurd c (by decide)) (fun _ => ?_)
  refine xr_iload dX8_runFrom_13 1 rfl ?_
  refine xb_cN (As := [.int (0)]) (rest := []) mlX8_26 (c_X9_isKind 0) dX8_runFrom_15 rfl rfl (Nat.le_of_ble_eq_true rfl) (by decide) (by decide) ?_
  refine xb_beq (tgt := 81) dX8_runFrom_18 rfl (fun c => absurd (by decide) c) (fun _ => ?_)
  refine xr_getsO slX8_50 dX8_runFrom_21 ?_
  refine xr_iload dX8_runFrom_24 1 rfl ?_
  refine xr_iconst (v := 4) dX8_runFrom_26 rfl ?_
  refine xr_imul dX8_runFrom_27 ?_
  refine xb_top (y := 0) (by decide) ?_
  refine xr_iload_n dX8_runFrom_28 4 rfl ?_
  refine xr_iadd dX8_runFrom_29 ?_
  refine xb_top (y := 1) (by decide) ?_
  refine xr_tabO (by unfold vp_in; decide) dX8_runFrom_30 ?_
  refine xb_top (y := 10) (by decide) ?_
  refine xr_if_eq (tgt := 67) dX8_runFrom_31 rfl (fun c => absurd c (by decide)) (fun _ => ?_)
  refine xr_iload dX8_runFrom_34 6 rfl ?_
  refine xr_bipush (v := 30) dX8_runFrom_36 rfl ?_
  refine xr_icmp_ge (tgt := 65) dX8_runFrom_38 rfl (fun c => absurd c (nI_ge (a := e) (b := 30) (by omega) (by omega))) (fun _ => ?_)
  refine xr_aload_n dX8_runFrom_41 2 rfl ?_
  refine xr_getsO slX8_50 dX8_runFrom_42 ?_
  refine xr_iload dX8_runFrom_45 1 rfl ?_
  refine xr_iconst (v := 4) dX8_runFrom_47 rfl ?_
  refine xr_imul dX8_runFrom_48 ?_
  refine xb_top (y := 0) (by decide) ?_
  refine xr_iload_n dX8_runFrom_49 4 rfl ?_
  refine xr_iadd dX8_runFrom_50 ?_
  refine xb_top (y := 1) (by decide) ?_
  refine xr_tabO (by unfold vp_in; decide) dX8_runFrom_51 ?_
  refine xb_top (y := 10) (by decide) ?_
  refine xr_iload dX8_runFrom_52 1 rfl ?_
  refine xr_iload_n dX8_runFrom_54 5 rfl ?_
  refine xr_iload dX8_runFrom_55 6 rfl ?_
  refine xr_iconst (v := 1) dX8_runFrom_57 rfl ?_
  refine xr_iadd dX8_runFrom_58 ?_
  refine xb_top (y := nI (e + 1)) (nI_add (e) (1)) ?_
  refine xr_callV (As := [.int (10), .int (0), .int (x), .int (nI (e + 1))]) (rest := []) mlX8_53 (tv1_run_10_0 (e := e + 1) (ac := ac) x (by omega) (by omega) e_b (by omega) e_ra hac e_ac e_k) dX8_runFrom_59 s_46 rfl rfl (Nat.le_of_ble_eq_true rfl) (by decide) ⟨by decide, by decide⟩ (fun v s2 M6 J2 hq => ?_)
  obtain ⟨r8, rfl, rfl, rfl, k7, ⟨hr4, hx3, ht5⟩⟩ := hq
  try dsimp only [Option.toList, List.cons_append, List.nil_append]
  subst hr4
  refine xr_goto (tgt := 66) dX8_runFrom_62 rfl ?_
  exact xr_iret dX8_runFrom_66 rfl rfl (⟨_, rfl, rfl, rfl, (Ke.tr (fun _ _ h => h) Ke.rf k7), rfl, hx3, ht5⟩)
set_option maxRecDepth 100000 in
set_option maxHeartbeats 4000000 in
theorem tv1_own_1 {e ac : Nat} (x : Int32) (he : e + 3 ≤ 30) {l : Launch} {G : xG} {M : xM} {J : xJ} {b ra : Nat} (h_b : b ≤ 50) (e_b : M 46 2 = nI b) (h_ra : ra + 3 ≤ 900) (e_ra : M 46 3 = nI ra) (hac : ac < b) (e_ac : M 46 4 = nI ac) (e_k : M 47 ac = 1) : x_M l G fX8_own 9 0 0 [.ref (46), .int (1), .int (x), .int (nI (e))] x_SH M J (qKI WTN M J (fun r M2 => r = (((x + (nI (ac))) + 3) * 2) ∧ M2 46 3 = nI (ra + 3) ∧ TrA 48 ra [10, 20, 1] M M2)) := by
  refine xb_of pX8 (Nat.le_of_ble_eq_true rfl) rfl ?_
  refine xr_aload_n dX8_own_0 0 rfl ?_
  refine xr_aload_n dX8_own_1 0 rfl ?_
  refine xb_get (v := nI (ac)) flX8_36 dX8_own_2 s_46 rfl e_ac ?_
  refine xb_cV (As := [.int (nI (ac))]) (rest := []) mlX8_43 (c_X8_has (nI (ac)) (by omega) e_b) dX8_own_5 s_46 rfl rfl (Nat.le_of_ble_eq_true rfl) (by decide) (by decide) ?_
  refine xb_beq (tgt := 30) dX8_own_8 rfl (fun c => absurd ⟨nI_pos' (by omega), nI_lt (by omega) (by omega)⟩ c) (fun _ => ?_)
  refine xr_aload_n dX8_own_11 0 rfl ?_
  refine xr_aload_n dX8_own_12 0 rfl ?_
  refine xr_getR flX8_9 dX8_own_13 s_46 rfl ?_
  refine xr_aload_n dX8_own_16 0 rfl ?_
  refine xb_get (v := nI (ac)) flX8_36 dX8_own_17 s_46 rfl e_ac ?_
  refine xb_iald (j := ac) (v := 1) dX8_own_20 s_47 (by omega) (by decide) e_k ?_
  refine xr_iload_n dX8_own_21 1 rfl ?_
  refine xr_iload_n dX8_own_22 2 rfl ?_
  refine xr_iload_n dX8_own_23 3 rfl ?_
  refine xr_callV (As := [.int (1), .int (1), .int (x), .int (nI (e))]) (rest := []) mlX8_46 (tv1_runFrom_1_1 (e := e) (ac := ac) x (by omega) (by omega) e_b (by omega) e_ra hac e_ac e_k) dX8_own_24 s_46 rfl rfl (Nat.le_of_ble_eq_true rfl) (by decide) ⟨by decide, by decide⟩ (fun v s2 M5 J2 hq => ?_)
  obtain ⟨r7, rfl, rfl, rfl, k6, ⟨hr3, hx2, ht4⟩⟩ := hq
  try dsimp only [Option.toList, List.cons_append, List.nil_append]
  subst hr3
  refine xr_goto (tgt := 31) dX8_own_27 rfl ?_
  exact xr_iret dX8_own_31 rfl rfl (⟨_, rfl, rfl, rfl, (Ke.tr (fun _ _ h => h) Ke.rf k6), rfl, hx2, ht4⟩)
set_option maxRecDepth 100000 in
set_option maxHeartbeats 4000000 in
theorem tw1_1 {ac b : Nat} (x : Int32) {l : Launch} {G : xG} {M : xM} {J : xJ} (h_b : b ≤ 50) (e_b : M 46 2 = nI b) (hac : ac < b) (e_k : M 47 ac = 1) : x_M l G fX8_perform 10 0 0 [.ref (46), .int (nI (ac)), .int (1), .int (x)] x_SH M J (qKI WTR M J (fun r M2 => M2 46 3 = nI 3 ∧ TrF 48 [10, 20, 1] M2)) := by
  refine xb_of pX8 (Nat.le_of_ble_eq_true rfl) rfl ?_
  refine xr_aload_n dX8_perform_0 0 rfl ?_
  refine xr_iconst (v := 0) dX8_perform_1 rfl ?_
  refine xr_putI fpX8_33 dX8_perform_2 s_46 rfl rfl rfl ?_
  refine xr_aload_n dX8_perform_5 0 rfl ?_
  refine xr_iload_n dX8_perform_6 1 rfl ?_
  refine xr_putI fpX8_36 dX8_perform_7 s_46 rfl rfl rfl ?_
  refine xr_aload_n dX8_perform_10 0 rfl ?_
  refine xr_iload_n dX8_perform_11 2 rfl ?_
  refine xr_iload_n dX8_perform_12 3 rfl ?_
  refine xr_iconst (v := 0) dX8_perform_13 rfl ?_
  refine xr_callV (As := [.int (1), .int (x), .int (0)]) (rest := []) mlX8_39 (tv1_own_1 (e := 0) (ac := ac) (ra := 0) x (by omega) h_b (Eq.trans (x_up_k _ _ _ (by decide)) (Eq.trans (x_up_k _ _ _ (by decide)) e_b)) (by omega) (Eq.trans (x_up_k _ _ _ (by decide)) (x_up_s _ _ _ _)) hac (x_up_s _ _ _ _) (Eq.trans (congrFun (x_up_n _ _ _ (by decide)) _) (Eq.trans (congrFun (x_up_n _ _ _ (by decide)) _) e_k))) dX8_perform_14 s_46 rfl rfl (Nat.le_of_ble_eq_true rfl) (by decide) ⟨by decide, by decide⟩ (fun v s2 M4 J2 hq => ?_)
  obtain ⟨r6, rfl, rfl, rfl, k5, ⟨hr2, hx1, ht3⟩⟩ := hq
  try dsimp only [Option.toList, List.cons_append, List.nil_append]
  subst hr2
  exact xr_iret dX8_perform_17 rfl rfl (⟨_, rfl, rfl, rfl, (Ke.tr (fun pp kk => (fun hh => Or.elim hh (fun h => (Or.inl h)) (fun h => (Or.inr (Or.inr h))))) (Ke.up (Or.inr (Or.inl (by omega))) (Ke.up (Or.inl (by omega)) Ke.rf)) k5), ⟨(hx1.trans (congrArg nI (Nat.zero_add _))), TrA_F ht3⟩⟩)
set_option maxRecDepth 100000 in
set_option maxHeartbeats 4000000 in
theorem tv1_run_11_0 {e ac : Nat} (x : Int32) (he : e + 0 ≤ 30) {l : Launch} {G : xG} {M : xM} {J : xJ} {b ra : Nat} (h_b : b ≤ 50) (e_b : M 46 2 = nI b) (h_ra : ra + 1 ≤ 900) (e_ra : M 46 3 = nI ra) (hac : ac < b) (e_ac : M 46 4 = nI ac) (e_k : M 47 ac = 1) : x_M l G fX8_run 1 0 0 [.ref (46), .int (11), .int (0), .int (x), .int (nI (e))] x_SH M J (qKI WTN M J (fun r M2 => r = (x ^^^ (nI (ac))) ∧ M2 46 3 = nI (ra + 1) ∧ TrA 48 ra [11] M M2)) := by
  refine xb_of pX8 (Nat.le_of_ble_eq_true rfl) rfl ?_
  refine xr_aload_n dX8_run_0 0 rfl ?_
  refine xr_iload_n dX8_run_1 1 rfl ?_
  refine xr_callV (As := [.int (11)]) (rest := []) mlX8_56 (gt_X8_note 11 (by omega) e_ra) dX8_run_2 s_46 rfl rfl (Nat.le_of_ble_eq_true rfl) (by decide) ⟨by decide, by decide⟩ (fun v s2 M3 J2 hq => ?_)
  obtain ⟨rfl, rfl, rfl, k4, ⟨hx1, ht2⟩⟩ := hq
  try dsimp only [Option.toList, List.cons_append, List.nil_append]
  refine xr_iload_n dX8_run_5 1 rfl ?_
  refine xr_lookup (tgt := 156) (off := 150) dX8_run_6 (by decide) (by decide) rfl ?_
  refine xr_iload_n dX8_run_156 3 rfl ?_
  refine xr_aload_n dX8_run_157 0 rfl ?_
  refine xb_get (v := nI (ac)) flX8_36 dX8_run_158 s_46 rfl (Eq.trans (k4 46 4 (by decide)) e_ac) ?_
  refine xr_ixor dX8_run_161 ?_
  exact xr_iret dX8_run_162 rfl rfl (⟨_, rfl, rfl, rfl, (Ke.tr (fun _ _ h => h) Ke.rf k4), rfl, hx1, ht2⟩)
set_option maxRecDepth 100000 in
set_option maxHeartbeats 4000000 in
theorem tv1_runFrom_1_2 {e ac : Nat} (x : Int32) (he : e + 1 ≤ 30) {l : Launch} {G : xG} {M : xM} {J : xJ} {b ra : Nat} (h_b : b ≤ 50) (e_b : M 46 2 = nI b) (h_ra : ra + 1 ≤ 900) (e_ra : M 46 3 = nI ra) (hac : ac < b) (e_ac : M 46 4 = nI ac) (e_k : M 47 ac = 1) : x_M l G fX8_runFrom 2 0 0 [.ref (46), .int (1), .int (2), .int (x), .int (nI (e))] x_SH M J (qKI WTN M J (fun r M2 => r = (x ^^^ (nI (ac))) ∧ M2 46 3 = nI (ra + 1) ∧ TrA 48 ra [11] M M2)) := by
  refine xb_of pX8 (Nat.le_of_ble_eq_true rfl) rfl ?_
  refine xr_iload_n dX8_runFrom_0 1 rfl ?_
  refine xr_istore (ls2 := [(5, .int (1)), (0, .ref (46)), (1, .int (1)), (2, .int (2)), (3, .int (x)), (4, .int (nI (e)))]) dX8_runFrom_1 (by decide) rfl ?_
  refine xr_iconst (v := 0) dX8_runFrom_3 rfl ?_
  refine xr_istore (ls2 := [(6, .int (0)), (5, .int (1)), (0, .ref (46)), (1, .int (1)), (2, .int (2)), (3, .int (x)), (4, .int (nI (e)))]) dX8_runFrom_4 (by decide) rfl ?_
  refine xr_iload dX8_runFrom_6 0 rfl ?_
  refine xr_bipush (v := 8) dX8_runFrom_8 rfl ?_
  refine xr_icmp_ge (tgt := 81) dX8_runFrom_10 rfl (fun c => absurd c (by decide)) (fun _ => ?_)
  refine xr_iload dX8_runFrom_13 1 rfl ?_
  refine xb_cN (As := [.int (1)]) (rest := []) mlX8_26 (c_X9_isKind 1) dX8_runFrom_15 rfl rfl (Nat.le_of_ble_eq_true rfl) (by decide) (by decide) ?_
  refine xb_beq (tgt := 81) dX8_runFrom_18 rfl (fun c => absurd (by decide) c) (fun _ => ?_)
  refine xr_getsO slX8_50 dX8_runFrom_21 ?_
  refine xr_iload dX8_runFrom_24 1 rfl ?_
  refine xr_iconst (v := 4) dX8_runFrom_26 rfl ?_
  refine xr_imul dX8_runFrom_27 ?_
  refine xb_top (y := 4) (by decide) ?_
  refine xr_iload_n dX8_runFrom_28 4 rfl ?_
  refine xr_iadd dX8_runFrom_29 ?_
  refine xb_top (y := 6) (by decide) ?_
  refine xr_tabO (by unfold vp_in; decide) dX8_runFrom_30 ?_
  refine xb_top (y := 0) (by decide) ?_
  refine xr_if_eq (tgt := 67) dX8_runFrom_31 rfl (fun _ => ?_) (fun c => absurd (by decide) c)
  refine xr_getsA slX8_30 dX8_runFrom_67 ?_
  refine xr_iload dX8_runFrom_70 1 rfl ?_
  refine xr_tabA (by unfold vp_in; decide) dX8_runFrom_72 ?_
  refine xb_top (y := 0) (by decide) ?_
  refine xr_istore (ls2 := [(5, .int (0)), (6, .int (0)), (0, .ref (46)), (1, .int (1)), (2, .int (2)), (3, .int (x)), (4, .int (nI (e)))]) dX8_runFrom_73 (by decide) rfl ?_
  refine xr_iinc (v := 1) (ls2 := [(6, .int (1)), (5, .int (0)), (0, .ref (46)), (1, .int (1)), (2, .int (2)), (3, .int (x)), (4, .int (nI (e)))]) dX8_runFrom_75 1 rfl rfl (by decide) rfl ?_
  refine xr_goto (tgt := 6) dX8_runFrom_78 rfl ?_
  refine xr_iload dX8_runFrom_6 0 rfl ?_
  refine xr_bipush (v := 8) dX8_runFrom_8 rfl ?_
  refine xr_icmp_ge (tgt := 81) dX8_runFrom_10 rfl (fun c => absurd c (by decide)) (fun _ => ?_)
  refine xr_iload dX8_runFrom_13 1 rfl ?_
  refine xb_cN (As := [.int (0)]) (rest := []) mlX8_26 (c_X9_isKind 0) dX8_runFrom_15 rfl rfl (Nat.le_of_ble_eq_true rfl) (by decide) (by decide) ?_
  refine xb_beq (tgt := 81) dX8_runFrom_18 rfl (fun c => absurd (by decide) c) (fun _ => ?_)
  refine xr_getsO slX8_50 dX8_runFrom_21 ?_
  refine xr_iload dX8_runFrom_24 1 rfl ?_
  refine xr_iconst (v := 4) dX8_runFrom_26 rfl ?_
  refine xr_imul dX8_runFrom_27 ?_
  refine xb_top (y := 0) (by decide) ?_
  refine xr_iload_n dX8_runFrom_28 4 rfl ?_
  refine xr_iadd dX8_runFrom_29 ?_
  refine xb_top (y := 2) (by decide) ?_
  refine xr_tabO (by unfold vp_in; decide) dX8_runFrom_30 ?_
  refine xb_top (y := 11) (by decide) ?_
  refine xr_if_eq (tgt := 67) dX8_runFrom_31 rfl (fun c => absurd c (by decide)) (fun _ => ?_)
  refine xr_iload dX8_runFrom_34 6 rfl ?_
  refine xr_bipush (v := 30) dX8_runFrom_36 rfl ?_
  refine xr_icmp_ge (tgt := 65) dX8_runFrom_38 rfl (fun c => absurd c (nI_ge (a := e) (b := 30) (by omega) (by omega))) (fun _ => ?_)
  refine xr_aload_n dX8_runFrom_41 2 rfl ?_
  refine xr_getsO slX8_50 dX8_runFrom_42 ?_
  refine xr_iload dX8_runFrom_45 1 rfl ?_
  refine xr_iconst (v := 4) dX8_runFrom_47 rfl ?_
  refine xr_imul dX8_runFrom_48 ?_
  refine xb_top (y := 0) (by decide) ?_
  refine xr_iload_n dX8_runFrom_49 4 rfl ?_
  refine xr_iadd dX8_runFrom_50 ?_
  refine xb_top (y := 2) (by decide) ?_
  refine xr_tabO (by unfold vp_in; decide) dX8_runFrom_51 ?_
  refine xb_top (y := 11) (by decide) ?_
  refine xr_iload dX8_runFrom_52 1 rfl ?_
  refine xr_iload_n dX8_runFrom_54 5 rfl ?_
  refine xr_iload dX8_runFrom_55 6 rfl ?_
  refine xr_iconst (v := 1) dX8_runFrom_57 rfl ?_
  refine xr_iadd dX8_runFrom_58 ?_
  refine xb_top (y := nI (e + 1)) (nI_add (e) (1)) ?_
  refine xr_callV (As := [.int (11), .int (0), .int (x), .int (nI (e + 1))]) (rest := []) mlX8_53 (tv1_run_11_0 (e := e + 1) (ac := ac) x (by omega) (by omega) e_b (by omega) e_ra hac e_ac e_k) dX8_runFrom_59 s_46 rfl rfl (Nat.le_of_ble_eq_true rfl) (by decide) ⟨by decide, by decide⟩ (fun v s2 M6 J2 hq => ?_)
  obtain ⟨r8, rfl, rfl, rfl, k7, ⟨hr4, hx3, ht5⟩⟩ := hq
  try dsimp only [Option.toList, List.cons_append, List.nil_append]
  subst hr4
  refine xr_goto (tgt := 66) dX8_runFrom_62 rfl ?_
  exact xr_iret dX8_runFrom_66 rfl rfl (⟨_, rfl, rfl, rfl, (Ke.tr (fun _ _ h => h) Ke.rf k7), rfl, hx3, ht5⟩)
set_option maxRecDepth 100000 in
set_option maxHeartbeats 4000000 in
theorem tv1_own_2 {e ac : Nat} (x : Int32) (he : e + 1 ≤ 30) {l : Launch} {G : xG} {M : xM} {J : xJ} {b ra : Nat} (h_b : b ≤ 50) (e_b : M 46 2 = nI b) (h_ra : ra + 1 ≤ 900) (e_ra : M 46 3 = nI ra) (hac : ac < b) (e_ac : M 46 4 = nI ac) (e_k : M 47 ac = 1) : x_M l G fX8_own 3 0 0 [.ref (46), .int (2), .int (x), .int (nI (e))] x_SH M J (qKI WTN M J (fun r M2 => r = (x ^^^ (nI (ac))) ∧ M2 46 3 = nI (ra + 1) ∧ TrA 48 ra [11] M M2)) := by
  refine xb_of pX8 (Nat.le_of_ble_eq_true rfl) rfl ?_
  refine xr_aload_n dX8_own_0 0 rfl ?_
  refine xr_aload_n dX8_own_1 0 rfl ?_
  refine xb_get (v := nI (ac)) flX8_36 dX8_own_2 s_46 rfl e_ac ?_
  refine xb_cV (As := [.int (nI (ac))]) (rest := []) mlX8_43 (c_X8_has (nI (ac)) (by omega) e_b) dX8_own_5 s_46 rfl rfl (Nat.le_of_ble_eq_true rfl) (by decide) (by decide) ?_
  refine xb_beq (tgt := 30) dX8_own_8 rfl (fun c => absurd ⟨nI_pos' (by omega), nI_lt (by omega) (by omega)⟩ c) (fun _ => ?_)
  refine xr_aload_n dX8_own_11 0 rfl ?_
  refine xr_aload_n dX8_own_12 0 rfl ?_
  refine xr_getR flX8_9 dX8_own_13 s_46 rfl ?_
  refine xr_aload_n dX8_own_16 0 rfl ?_
  refine xb_get (v := nI (ac)) flX8_36 dX8_own_17 s_46 rfl e_ac ?_
  refine xb_iald (j := ac) (v := 1) dX8_own_20 s_47 (by omega) (by decide) e_k ?_
  refine xr_iload_n dX8_own_21 1 rfl ?_
  refine xr_iload_n dX8_own_22 2 rfl ?_
  refine xr_iload_n dX8_own_23 3 rfl ?_
  refine xr_callV (As := [.int (1), .int (2), .int (x), .int (nI (e))]) (rest := []) mlX8_46 (tv1_runFrom_1_2 (e := e) (ac := ac) x (by omega) (by omega) e_b (by omega) e_ra hac e_ac e_k) dX8_own_24 s_46 rfl rfl (Nat.le_of_ble_eq_true rfl) (by decide) ⟨by decide, by decide⟩ (fun v s2 M5 J2 hq => ?_)
  obtain ⟨r7, rfl, rfl, rfl, k6, ⟨hr3, hx2, ht4⟩⟩ := hq
  try dsimp only [Option.toList, List.cons_append, List.nil_append]
  subst hr3
  refine xr_goto (tgt := 31) dX8_own_27 rfl ?_
  exact xr_iret dX8_own_31 rfl rfl (⟨_, rfl, rfl, rfl, (Ke.tr (fun _ _ h => h) Ke.rf k6), rfl, hx2, ht4⟩)
set_option maxRecDepth 100000 in
set_option maxHeartbeats 4000000 in
theorem tw1_2 {ac b : Nat} (x : Int32) {l : Launch} {G : xG} {M : xM} {J : xJ} (h_b : b ≤ 50) (e_b : M 46 2 = nI b) (hac : ac < b) (e_k : M 47 ac = 1) : x_M l G fX8_perform 4 0 0 [.ref (46), .int (nI (ac)), .int (2), .int (x)] x_SH M J (qKI WTR M J (fun r M2 => M2 46 3 = nI 1 ∧ TrF 48 [11] M2)) := by
  refine xb_of pX8 (Nat.le_of_ble_eq_true rfl) rfl ?_
  refine xr_aload_n dX8_perform_0 0 rfl ?_
  refine xr_iconst (v := 0) dX8_perform_1 rfl ?_
  refine xr_putI fpX8_33 dX8_perform_2 s_46 rfl rfl rfl ?_
  refine xr_aload_n dX8_perform_5 0 rfl ?_
  refine xr_iload_n dX8_perform_6 1 rfl ?_
  refine xr_putI fpX8_36 dX8_perform_7 s_46 rfl rfl rfl ?_
  refine xr_aload_n dX8_perform_10 0 rfl ?_
  refine xr_iload_n dX8_perform_11 2 rfl ?_
  refine xr_iload_n dX8_perform_12 3 rfl ?_
  refine xr_iconst (v := 0) dX8_perform_13 rfl ?_
  refine xr_callV (As := [.int (2), .int (x), .int (0)]) (rest := []) mlX8_39 (tv1_own_2 (e := 0) (ac := ac) (ra := 0) x (by omega) h_b (Eq.trans (x_up_k _ _ _ (by decide)) (Eq.trans (x_up_k _ _ _ (by decide)) e_b)) (by omega) (Eq.trans (x_up_k _ _ _ (by decide)) (x_up_s _ _ _ _)) hac (x_up_s _ _ _ _) (Eq.trans (congrFun (x_up_n _ _ _ (by decide)) _) (Eq.trans (congrFun (x_up_n _ _ _ (by decide)) _) e_k))) dX8_perform_14 s_46 rfl rfl (Nat.le_of_ble_eq_true rfl) (by decide) ⟨by decide, by decide⟩ (fun v s2 M4 J2 hq => ?_)
  obtain ⟨r6, rfl, rfl, rfl, k5, ⟨hr2, hx1, ht3⟩⟩ := hq
  try dsimp only [Option.toList, List.cons_append, List.nil_append]
  subst hr2
  exact xr_iret dX8_perform_17 rfl rfl (⟨_, rfl, rfl, rfl, (Ke.tr (fun pp kk => (fun hh => Or.elim hh (fun h => (Or.inl h)) (fun h => (Or.inr (Or.inr h))))) (Ke.up (Or.inr (Or.inl (by omega))) (Ke.up (Or.inl (by omega)) Ke.rf)) k5), ⟨(hx1.trans (congrArg nI (Nat.zero_add _))), TrA_F ht3⟩⟩)
set_option maxRecDepth 100000 in
set_option maxHeartbeats 4000000 in
theorem tv1_run_2_0 {e ac : Nat} (x : Int32) (he : e + 3 ≤ 30) {l : Launch} {G : xG} {M : xM} {J : xJ} {b ra : Nat} (h_b : b ≤ 50) (e_b : M 46 2 = nI b) (h_ra : ra + 5 ≤ 900) (e_ra : M 46 3 = nI ra) (hac : ac < b) (e_ac : M 46 4 = nI ac) (e_k : M 47 ac = 1) : x_M l G fX8_run 10 0 0 [.ref (46), .int (2), .int (0), .int (x), .int (nI (e))] x_SH M J (qKI WTN M J (fun r M2 => r = ((((x + (nI (ac))) + 3) * 2) - (1 ^^^ (nI (ac)))) ∧ M2 46 3 = nI (ra + 5) ∧ TrA 48 ra [2, 10, 20, 1, 11] M M2)) := by
  refine xb_of pX8 (Nat.le_of_ble_eq_true rfl) rfl ?_
  refine xr_aload_n dX8_run_0 0 rfl ?_
  refine xr_iload_n dX8_run_1 1 rfl ?_
  refine xr_callV (As := [.int (2)]) (rest := []) mlX8_56 (gt_X8_note 2 (by omega) e_ra) dX8_run_2 s_46 rfl rfl (Nat.le_of_ble_eq_true rfl) (by decide) ⟨by decide, by decide⟩ (fun v s2 M3 J2 hq => ?_)
  obtain ⟨rfl, rfl, rfl, k4, ⟨hx1, ht2⟩⟩ := hq
  try dsimp only [Option.toList, List.cons_append, List.nil_append]
  refine xr_iload_n dX8_run_5 1 rfl ?_
  refine xr_lookup (tgt := 127) (off := 121) dX8_run_6 (by decide) (by decide) rfl ?_
  refine xr_aload_n dX8_run_127 0 rfl ?_
  refine xr_iconst (v := 1) dX8_run_128 rfl ?_
  refine xr_iload_n dX8_run_129 3 rfl ?_
  refine xr_iload dX8_run_130 4 rfl ?_
  refine xr_callV (As := [.int (1), .int (x), .int (nI (e))]) (rest := []) mlX8_39 (tv1_own_1 (e := e) (ac := ac) x (by omega) (by omega) (Eq.trans (k4 46 2 (by decide)) e_b) (by omega) hx1 hac (Eq.trans (k4 46 4 (by decide)) e_ac) (Eq.trans (k4 47 ac (by unfold WTN; omega)) e_k)) dX8_run_132 s_46 rfl rfl (Nat.le_of_ble_eq_true rfl) (by decide) ⟨by decide, by decide⟩ (fun v s2 M8 J2 hq => ?_)
  obtain ⟨r10, rfl, rfl, rfl, k9, ⟨hr6, hx5, ht7⟩⟩ := hq
  try dsimp only [Option.toList, List.cons_append, List.nil_append]
  subst hr6
  refine xr_aload_n dX8_run_135 0 rfl ?_
  refine xr_iconst (v := 2) dX8_run_136 rfl ?_
  refine xr_iconst (v := 1) dX8_run_137 rfl ?_
  refine xr_iload dX8_run_138 4 rfl ?_
  refine xr_callV (As := [.int (2), .int (1), .int (nI (e))]) (rest := [.int ((((x + (nI (ac))) + 3) * 2))]) mlX8_39 (tv1_own_2 (e := e) (ac := ac) 1 (by omega) (by omega) (Eq.trans (k9 46 2 (by decide)) (Eq.trans (k4 46 2 (by decide)) e_b)) (by omega) hx5 hac (Eq.trans (k9 46 4 (by decide)) (Eq.trans (k4 46 4 (by decide)) e_ac)) (Eq.trans (k9 47 ac (by unfold WTN; omega)) (Eq.trans (k4 47 ac (by unfold WTN; omega)) e_k))) dX8_run_140 s_46 rfl rfl (Nat.le_of_ble_eq_true rfl) (by decide) ⟨by decide, by decide⟩ (fun v s2 M14 J2 hq => ?_)
  obtain ⟨r16, rfl, rfl, rfl, k15, ⟨hr12, hx11, ht13⟩⟩ := hq
  try dsimp only [Option.toList, List.cons_append, List.nil_append]
  subst hr12
  refine xr_isub dX8_run_143 ?_
  exact xr_iret dX8_run_144 rfl rfl (⟨_, rfl, rfl, rfl, (Ke.tr (fun _ _ h => h) (Ke.tr (fun _ _ h => h) (Ke.tr (fun _ _ h => h) Ke.rf k4) k9) k15), rfl, hx11, (TrA_app (l := [2, 10, 20, 1]) (m := [11]) (TrA_app (l := [2]) (m := [10, 20, 1]) ht2 ht7) ht13)⟩)
set_option maxRecDepth 100000 in
set_option maxHeartbeats 4000000 in
theorem tv1_runFrom_1_3 {e ac : Nat} (x : Int32) (he : e + 4 ≤ 30) {l : Launch} {G : xG} {M : xM} {J : xJ} {b ra : Nat} (h_b : b ≤ 50) (e_b : M 46 2 = nI b) (h_ra : ra + 5 ≤ 900) (e_ra : M 46 3 = nI ra) (hac : ac < b) (e_ac : M 46 4 = nI ac) (e_k : M 47 ac = 1) : x_M l G fX8_runFrom 11 0 0 [.ref (46), .int (1), .int (3), .int (x), .int (nI (e))] x_SH M J (qKI WTN M J (fun r M2 => r = ((((x + (nI (ac))) + 3) * 2) - (1 ^^^ (nI (ac)))) ∧ M2 46 3 = nI (ra + 5) ∧ TrA 48 ra [2, 10, 20, 1, 11] M M2)) := by
  refine xb_of pX8 (Nat.le_of_ble_eq_true rfl) rfl ?_
  refine xr_iload_n dX8_runFrom_0 1 rfl ?_
  refine xr_istore (ls2 := [(5, .int (1)), (0, .ref (46)), (1, .int (1)), (2, .int (3)), (3, .int (x)), (4, .int (nI (e)))]) dX8_runFrom_1 (by decide) rfl ?_
  refine xr_iconst (v := 0) dX8_runFrom_3 rfl ?_
  refine xr_istore (ls2 := [(6, .int (0)), (5, .int (1)), (0, .ref (46)), (1, .int (1)), (2, .int (3)), (3, .int (x)), (4, .int (nI (e)))]) dX8_runFrom_4 (by decide) rfl ?_
  refine xr_iload dX8_runFrom_6 0 rfl ?_
  refine xr_bipush (v := 8) dX8_runFrom_8 rfl ?_
  refine xr_icmp_ge (tgt := 81) dX8_runFrom_10 rfl (fun c => absurd c (by decide)) (fun _ => ?_)
  refine xr_iload dX8_runFrom_13 1 rfl ?_
  refine xb_cN (As := [.int (1)]) (rest := []) mlX8_26 (c_X9_isKind 1) dX8_runFrom_15 rfl rfl (Nat.le_of_ble_eq_true rfl) (by decide) (by decide) ?_
  refine xb_beq (tgt := 81) dX8_runFrom_18 rfl (fun c => absurd (by decide) c) (fun _ => ?_)
  refine xr_getsO slX8_50 dX8_runFrom_21 ?_
  refine xr_iload dX8_runFrom_24 1 rfl ?_
  refine xr_iconst (v := 4) dX8_runFrom_26 rfl ?_
  refine xr_imul dX8_runFrom_27 ?_
  refine xb_top (y := 4) (by decide) ?_
  refine xr_iload_n dX8_runFrom_28 4 rfl ?_
  refine xr_iadd dX8_runFrom_29 ?_
  refine xb_top (y := 7) (by decide) ?_
  refine xr_tabO (by unfold vp_in; decide) dX8_runFrom_30 ?_
  refine xb_top (y := 0) (by decide) ?_
  refine xr_if_eq (tgt := 67) dX8_runFrom_31 rfl (fun _ => ?_) (fun c => absurd (by decide) c)
  refine xr_getsA slX8_30 dX8_runFrom_67 ?_
  refine xr_iload dX8_runFrom_70 1 rfl ?_
  refine xr_tabA (by unfold vp_in; decide) dX8_runFrom_72 ?_
  refine xb_top (y := 0) (by decide) ?_
  refine xr_istore (ls2 := [(5, .int (0)), (6, .int (0)), (0, .ref (46)), (1, .int (1)), (2, .int (3)), (3, .int (x)), (4, .int (nI (e)))]) dX8_runFrom_73 (by decide) rfl ?_
  refine xr_iinc (v := 1) (ls2 := [(6, .int (1)), (5, .int (0)), (0, .ref (46)), (1, .int (1)), (2, .int (3)), (3, .int (x)), (4, .int (nI (e)))]) dX8_runFrom_75 1 rfl rfl (by decide) rfl ?_
  refine xr_goto (tgt := 6) dX8_runFrom_78 rfl ?_
  refine xr_iload dX8_runFrom_6 0 rfl ?_
  refine xr_bipush (v := 8) dX8_runFrom_8 rfl ?_
  refine xr_icmp_ge (tgt := 81) dX8_runFrom_10 rfl (fun c => absurd c (by decide)) (fun _ => ?_)
  refine xr_iload dX8_runFrom_13 1 rfl ?_
  refine xb_cN (As := [.int (0)]) (rest := []) mlX8_26 (c_X9_isKind 0) dX8_runFrom_15 rfl rfl (Nat.le_of_ble_eq_true rfl) (by decide) (by decide) ?_
  refine xb_beq (tgt := 81) dX8_runFrom_18 rfl (fun c => absurd (by decide) c) (fun _ => ?_)
  refine xr_getsO slX8_50 dX8_runFrom_21 ?_
  refine xr_iload dX8_runFrom_24 1 rfl ?_
  refine xr_iconst (v := 4) dX8_runFrom_26 rfl ?_
  refine xr_imul dX8_runFrom_27 ?_
  refine xb_top (y := 0) (by decide) ?_
  refine xr_iload_n dX8_runFrom_28 4 rfl ?_
  refine xr_iadd dX8_runFrom_29 ?_
  refine xb_top (y := 3) (by decide) ?_
  refine xr_tabO (by unfold vp_in; decide) dX8_runFrom_30 ?_
  refine xb_top (y := 2) (by decide) ?_
  refine xr_if_eq (tgt := 67) dX8_runFrom_31 rfl (fun c => absurd c (by decide)) (fun _ => ?_)
  refine xr_iload dX8_runFrom_34 6 rfl ?_
  refine xr_bipush (v := 30) dX8_runFrom_36 rfl ?_
  refine xr_icmp_ge (tgt := 65) dX8_runFrom_38 rfl (fun c => absurd c (nI_ge (a := e) (b := 30) (by omega) (by omega))) (fun _ => ?_)
  refine xr_aload_n dX8_runFrom_41 2 rfl ?_
  refine xr_getsO slX8_50 dX8_runFrom_42 ?_
  refine xr_iload dX8_runFrom_45 1 rfl ?_
  refine xr_iconst (v := 4) dX8_runFrom_47 rfl ?_
  refine xr_imul dX8_runFrom_48 ?_
  refine xb_top (y := 0) (by decide) ?_
  refine xr_iload_n dX8_runFrom_49 4 rfl ?_
  refine xr_iadd dX8_runFrom_50 ?_
  refine xb_top (y := 3) (by decide) ?_
  refine xr_tabO (by unfold vp_in; decide) dX8_runFrom_51 ?_
  refine xb_top (y := 2) (by decide) ?_
  refine xr_iload dX8_runFrom_52 1 rfl ?_
  refine xr_iload_n dX8_runFrom_54 5 rfl ?_
  refine xr_iload dX8_runFrom_55 6 rfl ?_
  refine xr_iconst (v := 1) dX8_runFrom_57 rfl ?_
  refine xr_iadd dX8_runFrom_58 ?_
  refine xb_top (y := nI (e + 1)) (nI_add (e) (1)) ?_
  refine xr_callV (As := [.int (2), .int (0), .int (x), .int (nI (e + 1))]) (rest := []) mlX8_53 (tv1_run_2_0 (e := e + 1) (ac := ac) x (by omega) (by omega) e_b (by omega) e_ra hac e_ac e_k) dX8_runFrom_59 s_46 rfl rfl (Nat.le_of_ble_eq_true rfl) (by decide) ⟨by decide, by decide⟩ (fun v s2 M6 J2 hq => ?_)
  obtain ⟨r8, rfl, rfl, rfl, k7, ⟨hr4, hx3, ht5⟩⟩ := hq
  try dsimp only [Option.toList, List.cons_append, List.nil_append]
  subst hr4
  refine xr_goto (tgt := 66) dX8_runFrom_62 rfl ?_
  exact xr_iret dX8_runFrom_66 rfl rfl (⟨_, rfl, rfl, rfl, (Ke.tr (fun _ _ h => h) Ke.rf k7), rfl, hx3, ht5⟩)
set_option maxRecDepth 100000 in
set_option maxHeartbeats 4000000 in
theorem tv1_own_3 {e ac : Nat} (x : Int32) (he : e + 4 ≤ 30) {l : Launch} {G : xG} {M : xM} {J : xJ} {b ra : Nat} (h_b : b ≤ 50) (e_b : M 46 2 = nI b) (h_ra : ra + 5 ≤ 900) (e_ra : M 46 3 = nI ra) (hac : ac < b) (e_ac : M 46 4 = nI ac) (e_k : M 47 ac = 1) : x_M l G fX8_own 12 0 0 [.ref (46), .int (3), .int (x), .int (nI (e))] x_SH M J (qKI WTN M J (fun r M2 => r = ((((x + (nI (ac))) + 3) * 2) - (1 ^^^ (nI (ac)))) ∧ M2 46 3 = nI (ra + 5) ∧ TrA 48 ra [2, 10, 20, 1, 11] M M2)) := by
  refine xb_of pX8 (Nat.le_of_ble_eq_true rfl) rfl ?_
  refine xr_aload_n dX8_own_0 0 rfl ?_
  refine xr_aload_n dX8_own_1 0 rfl ?_
  refine xb_get (v := nI (ac)) flX8_36 dX8_own_2 s_46 rfl e_ac ?_
  refine xb_cV (As := [.int (nI (ac))]) (rest := []) mlX8_43 (c_X8_has (nI (ac)) (by omega) e_b) dX8_own_5 s_46 rfl rfl (Nat.le_of_ble_eq_true rfl) (by decide) (by decide) ?_
  refine xb_beq (tgt := 30) dX8_own_8 rfl (fun c => absurd ⟨nI_pos' (by omega), nI_lt (by omega) (by omega)⟩ c) (fun _ => ?_)
  refine xr_aload_n dX8_own_11 0 rfl ?_
  refine xr_aload_n dX8_own_12 0 rfl ?_
  refine xr_getR flX8_9 dX8_own_13 s_46 rfl ?_
  refine xr_aload_n dX8_own_16 0 rfl ?_
  refine xb_get (v := nI (ac)) flX8_36 dX8_own_17 s_46 rfl e_ac ?_
  refine xb_iald (j := ac) (v := 1) dX8_own_20 s_47 (by omega) (by decide) e_k ?_
  refine xr_iload_n dX8_own_21 1 rfl ?_
  refine xr_iload_n dX8_own_22 2 rfl ?_
  refine xr_iload_n dX8_own_23 3 rfl ?_
  refine xr_callV (As := [.int (1), .int (3), .int (x), .int (nI (e))]) (rest := []) mlX8_46 (tv1_runFrom_1_3 (e := e) (ac := ac) x (by omega) (by omega) e_b (by omega) e_ra hac e_ac e_k) dX8_own_24 s_46 rfl rfl (Nat.le_of_ble_eq_true rfl) (by decide) ⟨by decide, by decide⟩ (fun v s2 M5 J2 hq => ?_)
  obtain ⟨r7, rfl, rfl, rfl, k6, ⟨hr3, hx2, ht4⟩⟩ := hq
  try dsimp only [Option.toList, List.cons_append, List.nil_append]
  subst hr3
  refine xr_goto (tgt := 31) dX8_own_27 rfl ?_
  exact xr_iret dX8_own_31 rfl rfl (⟨_, rfl, rfl, rfl, (Ke.tr (fun _ _ h => h) Ke.rf k6), rfl, hx2, ht4⟩)
set_option maxRecDepth 100000 in
set_option maxHeartbeats 4000000 in
theorem tw1_3 {ac b : Nat} (x : Int32) {l : Launch} {G : xG} {M : xM} {J : xJ} (h_b : b ≤ 50) (e_b : M 46 2 = nI b) (hac : ac < b) (e_k : M 47 ac = 1) : x_M l G fX8_perform 13 0 0 [.ref (46), .int (nI (ac)), .int (3), .int (x)] x_SH M J (qKI WTR M J (fun r M2 => M2 46 3 = nI 5 ∧ TrF 48 [2, 10, 20, 1, 11] M2)) := by
  refine xb_of pX8 (Nat.le_of_ble_eq_true rfl) rfl ?_
  refine xr_aload_n dX8_perform_0 0 rfl ?_
  refine xr_iconst (v := 0) dX8_perform_1 rfl ?_
  refine xr_putI fpX8_33 dX8_perform_2 s_46 rfl rfl rfl ?_
  refine xr_aload_n dX8_perform_5 0 rfl ?_
  refine xr_iload_n dX8_perform_6 1 rfl ?_
  refine xr_putI fpX8_36 dX8_perform_7 s_46 rfl rfl rfl ?_
  refine xr_aload_n dX8_perform_10 0 rfl ?_
  refine xr_iload_n dX8_perform_11 2 rfl ?_
  refine xr_iload_n dX8_perform_12 3 rfl ?_
  refine xr_iconst (v := 0) dX8_perform_13 rfl ?_
  refine xr_callV (As := [.int (3), .int (x), .int (0)]) (rest := []) mlX8_39 (tv1_own_3 (e := 0) (ac := ac) (ra := 0) x (by omega) h_b (Eq.trans (x_up_k _ _ _ (by decide)) (Eq.trans (x_up_k _ _ _ (by decide)) e_b)) (by omega) (Eq.trans (x_up_k _ _ _ (by decide)) (x_up_s _ _ _ _)) hac (x_up_s _ _ _ _) (Eq.trans (congrFun (x_up_n _ _ _ (by decide)) _) (Eq.trans (congrFun (x_up_n _ _ _ (by decide)) _) e_k))) dX8_perform_14 s_46 rfl rfl (Nat.le_of_ble_eq_true rfl) (by decide) ⟨by decide, by decide⟩ (fun v s2 M4 J2 hq => ?_)
  obtain ⟨r6, rfl, rfl, rfl, k5, ⟨hr2, hx1, ht3⟩⟩ := hq
  try dsimp only [Option.toList, List.cons_append, List.nil_append]
  subst hr2
  exact xr_iret dX8_perform_17 rfl rfl (⟨_, rfl, rfl, rfl, (Ke.tr (fun pp kk => (fun hh => Or.elim hh (fun h => (Or.inl h)) (fun h => (Or.inr (Or.inr h))))) (Ke.up (Or.inr (Or.inl (by omega))) (Ke.up (Or.inl (by omega)) Ke.rf)) k5), ⟨(hx1.trans (congrArg nI (Nat.zero_add _))), TrA_F ht3⟩⟩)
set_option maxRecDepth 100000 in
set_option maxHeartbeats 4000000 in
theorem tv2_run_1_0 {e ac : Nat} (x : Int32) (he : e + 0 ≤ 30) {l : Launch} {G : xG} {M : xM} {J : xJ} {b ra : Nat} (h_b : b ≤ 50) (e_b : M 46 2 = nI b) (h_ra : ra + 1 ≤ 900) (e_ra : M 46 3 = nI ra) (hac : ac < b) (e_ac : M 46 4 = nI ac) (e_k : M 47 ac = 2) : x_M l G fX8_run 1 0 0 [.ref (46), .int (1), .int (0), .int (x), .int (nI (e))] x_SH M J (qKI WTN M J (fun r M2 => r = (x + (nI (ac))) ∧ M2 46 3 = nI (ra + 1) ∧ TrA 48 ra [1] M M2)) := by
  refine xb_of pX8 (Nat.le_of_ble_eq_true rfl) rfl ?_
  refine xr_aload_n dX8_run_0 0 rfl ?_
  refine xr_iload_n dX8_run_1 1 rfl ?_
  refine xr_callV (As := [.int (1)]) (rest := []) mlX8_56 (gt_X8_note 1 (by omega) e_ra) dX8_run_2 s_46 rfl rfl (Nat.le_of_ble_eq_true rfl) (by decide) ⟨by decide, by decide⟩ (fun v s2 M3 J2 hq => ?_)
  obtain ⟨rfl, rfl, rfl, k4, ⟨hx1, ht2⟩⟩ := hq
  try dsimp only [Option.toList, List.cons_append, List.nil_append]
  refine xr_iload_n dX8_run_5 1 rfl ?_
  refine xr_lookup (tgt := 120) (off := 114) dX8_run_6 (by decide) (by decide) rfl ?_
  refine xr_iload_n dX8_run_120 3 rfl ?_
  refine xr_aload_n dX8_run_121 0 rfl ?_
  refine xb_get (v := nI (ac)) flX8_36 dX8_run_122 s_46 rfl (Eq.trans (k4 46 4 (by decide)) e_ac) ?_
  refine xr_iadd dX8_run_125 ?_
  exact xr_iret dX8_run_126 rfl rfl (⟨_, rfl, rfl, rfl, (Ke.tr (fun _ _ h => h) Ke.rf k4), rfl, hx1, ht2⟩)
set_option maxRecDepth 100000 in
set_option maxHeartbeats 4000000 in
theorem tv2_runFrom_2_0 {e ac : Nat} (x : Int32) (he : e + 1 ≤ 30) {l : Launch} {G : xG} {M : xM} {J : xJ} {b ra : Nat} (h_b : b ≤ 50) (e_b : M 46 2 = nI b) (h_ra : ra + 1 ≤ 900) (e_ra : M 46 3 = nI ra) (hac : ac < b) (e_ac : M 46 4 = nI ac) (e_k : M 47 ac = 2) : x_M l G fX8_runFrom 2 0 0 [.ref (46), .int (2), .int (0), .int (x), .int (nI (e))] x_SH M J (qKI WTN M J (fun r M2 => r = (x + (nI (ac))) ∧ M2 46 3 = nI (ra + 1) ∧ TrA 48 ra [1] M M2)) := by
  refine xb_of pX8 (Nat.le_of_ble_eq_true rfl) rfl ?_
  refine xr_iload_n dX8_runFrom_0 1 rfl ?_
  refine xr_istore (ls2 := [(5, .int (2)), (0, .ref (46)), (1, .int (2)), (2, .int (0)), (3, .int (x)), (4, .int (nI (e)))]) dX8_runFrom_1 (by decide) rfl ?_
  refine xr_iconst (v := 0) dX8_runFrom_3 rfl ?_
  refine xr_istore (ls2 := [(6, .int (0)), (5, .int (2)), (0, .ref (46)), (1, .int (2)), (2, .int (0)), (3, .int (x)), (4, .int (nI (e)))]) dX8_runFrom_4 (by decide) rfl ?_
  refine xr_iload dX8_runFrom_6 0 rfl ?_
  refine xr_bipush (v := 8) dX8_runFrom_8 rfl ?_
  refine xr_icmp_ge (tgt := 81) dX8_runFrom_10 rfl (fun c => absurd c (by decide)) (fun _ => ?_)
  refine xr_iload dX8_runFrom_13 1 rfl ?_
  refine xb_cN (As := [.int (2)]) (rest := []) mlX8_26 (c_X9_isKind 2) dX8_runFrom_15 rfl rfl (Nat.le_of_ble_eq_true rfl) (by decide) (by decide) ?_
  refine xb_beq (tgt := 81) dX8_runFrom_18 rfl (fun c => absurd (by decide) c) (fun _ => ?_)
  refine xr_getsO slX8_50 dX8_runFrom_21 ?_
  refine xr_iload dX8_runFrom_24 1 rfl ?_
  refine xr_iconst (v := 4) dX8_runFrom_26 rfl ?_
  refine xr_imul dX8_runFrom_27 ?_
  refine xb_top (y := 8) (by decide) ?_
  refine xr_iload_n dX8_runFrom_28 4 rfl ?_
  refine xr_iadd dX8_runFrom_29 ?_
  refine xb_top (y := 8) (by decide) ?_
  refine xr_tabO (by unfold vp_in; decide) dX8_runFrom_30 ?_
  refine xb_top (y := 0) (by decide) ?_
  refine xr_if_eq (tgt := 67) dX8_runFrom_31 rfl (fun _ => ?_) (fun c => absurd (by decide) c)
  refine xr_getsA slX8_30 dX8_runFrom_67 ?_
  refine xr_iload dX8_runFrom_70 1 rfl ?_
  refine xr_tabA (by unfold vp_in; decide) dX8_runFrom_72 ?_
  refine xb_top (y := 0) (by decide) ?_
  refine xr_istore (ls2 := [(5, .int (0)), (6, .int (0)), (0, .ref (46)), (1, .int (2)), (2, .int (0)), (3, .int (x)), (4, .int (nI (e)))]) dX8_runFrom_73 (by decide) rfl ?_
  refine xr_iinc (v := 1) (ls2 := [(6, .int (1)), (5, .int (0)), (0, .ref (46)), (1, .int (2)), (2, .int (0)), (3, .int (x)), (4, .int (nI (e)))]) dX8_runFrom_75 1 rfl rfl (by decide) rfl ?_
  refine xr_goto (tgt := 6) dX8_runFrom_78 rfl ?_
  refine xr_iload dX8_runFrom_6 0 rfl ?_
  refine xr_bipush (v := 8) dX8_runFrom_8 rfl ?_
  refine xr_icmp_ge (tgt := 81) dX8_runFrom_10 rfl (fun c => absurd c (by decide)) (fun _ => ?_)
  refine xr_iload dX8_runFrom_13 1 rfl ?_
  refine xb_cN (As := [.int (0)]) (rest := []) mlX8_26 (c_X9_isKind 0) dX8_runFrom_15 rfl rfl (Nat.le_of_ble_eq_true rfl) (by decide) (by decide) ?_
  refine xb_beq (tgt := 81) dX8_runFrom_18 rfl (fun c => absurd (by decide) c) (fun _ => ?_)
  refine xr_getsO slX8_50 dX8_runFrom_21 ?_
  refine xr_iload dX8_runFrom_24 1 rfl ?_
  refine xr_iconst (v := 4) dX8_runFrom_26 rfl ?_
  refine xr_imul dX8_runFrom_27 ?_
  refine xb_top (y := 0) (by decide) ?_
  refine xr_iload_n dX8_runFrom_28 4 rfl ?_
  refine xr_iadd dX8_runFrom_29 ?_
  refine xb_top (y := 0) (by decide) ?_
  refine xr_tabO (by unfold vp_in; decide) dX8_runFrom_30 ?_
  refine xb_top (y := 1) (by decide) ?_
  refine xr_if_eq (tgt := 67) dX8_runFrom_31 rfl (fun c => absurd c (by decide)) (fun _ => ?_)
  refine xr_iload dX8_runFrom_34 6 rfl ?_
  refine xr_bipush (v := 30) dX8_runFrom_36 rfl ?_
  refine xr_icmp_ge (tgt := 65) dX8_runFrom_38 rfl (fun c => absurd c (nI_ge (a := e) (b := 30) (by omega) (by omega))) (fun _ => ?_)
  refine xr_aload_n dX8_runFrom_41 2 rfl ?_
  refine xr_getsO slX8_50 dX8_runFrom_42 ?_
  refine xr_iload dX8_runFrom_45 1 rfl ?_
  refine xr_iconst (v := 4) dX8_runFrom_47 rfl ?_
  refine xr_imul dX8_runFrom_48 ?_
  refine xb_top (y := 0) (by decide) ?_
  refine xr_iload_n dX8_runFrom_49 4 rfl ?_
  refine xr_iadd dX8_runFrom_50 ?_
  refine xb_top (y := 0) (by decide) ?_
  refine xr_tabO (by unfold vp_in; decide) dX8_runFrom_51 ?_
  refine xb_top (y := 1) (by decide) ?_
  refine xr_iload dX8_runFrom_52 1 rfl ?_
  refine xr_iload_n dX8_runFrom_54 5 rfl ?_
  refine xr_iload dX8_runFrom_55 6 rfl ?_
  refine xr_iconst (v := 1) dX8_runFrom_57 rfl ?_
  refine xr_iadd dX8_runFrom_58 ?_
  refine xb_top (y := nI (e + 1)) (nI_add (e) (1)) ?_
  refine xr_callV (As := [.int (1), .int (0), .int (x), .int (nI (e + 1))]) (rest := []) mlX8_53 (tv2_run_1_0 (e := e + 1) (ac := ac) x (by omega) (by omega) e_b (by omega) e_ra hac e_ac e_k) dX8_runFrom_59 s_46 rfl rfl (Nat.le_of_ble_eq_true rfl) (by decide) ⟨by decide, by decide⟩ (fun v s2 M6 J2 hq => ?_)
  obtain ⟨r8, rfl, rfl, rfl, k7, ⟨hr4, hx3, ht5⟩⟩ := hq
  try dsimp only [Option.toList, List.cons_append, List.nil_append]
  subst hr4
  refine xr_goto (tgt := 66) dX8_runFrom_62 rfl ?_
  exact xr_iret dX8_runFrom_66 rfl rfl (⟨_, rfl, rfl, rfl, (Ke.tr (fun _ _ h => h) Ke.rf k7), rfl, hx3, ht5⟩)
set_option maxRecDepth 100000 in
set_option maxHeartbeats 4000000 in
theorem tv2_own_0 {e ac : Nat} (x : Int32) (he : e + 1 ≤ 30) {l : Launch} {G : xG} {M : xM} {J : xJ} {b ra : Nat} (h_b : b ≤ 50) (e_b : M 46 2 = nI b) (h_ra : ra + 1 ≤ 900) (e_ra : M 46 3 = nI ra) (hac : ac < b) (e_ac : M 46 4 = nI ac) (e_k : M 47 ac = 2) : x_M l G fX8_own 3 0 0 [.ref (46), .int (0), .int (x), .int (nI (e))] x_SH M J (qKI WTN M J (fun r M2 => r = (x + (nI (ac))) ∧ M2 46 3 = nI (ra + 1) ∧ TrA 48 ra [1] M M2)) := by
  refine xb_of pX8 (Nat.le_of_ble_eq_true rfl) rfl ?_
  refine xr_aload_n dX8_own_0 0 rfl ?_
  refine xr_aload_n dX8_own_1 0 rfl ?_
  refine xb_get (v := nI (ac)) flX8_36 dX8_own_2 s_46 rfl e_ac ?_
  refine xb_cV (As := [.int (nI (ac))]) (rest := []) mlX8_43 (c_X8_has (nI (ac)) (by omega) e_b) dX8_own_5 s_46 rfl rfl (Nat.le_of_ble_eq_true rfl) (by decide) (by decide) ?_
  refine xb_beq (tgt := 30) dX8_own_8 rfl (fun c => absurd ⟨nI_pos' (by omega), nI_lt (by omega) (by omega)⟩ c) (fun _ => ?_)
  refine xr_aload_n dX8_own_11 0 rfl ?_
  refine xr_aload_n dX8_own_12 0 rfl ?_
  refine xr_getR flX8_9 dX8_own_13 s_46 rfl ?_
  refine xr_aload_n dX8_own_16 0 rfl ?_
  refine xb_get (v := nI (ac)) flX8_36 dX8_own_17 s_46 rfl e_ac ?_
  refine xb_iald (j := ac) (v := 2) dX8_own_20 s_47 (by omega) (by decide) e_k ?_
  refine xr_iload_n dX8_own_21 1 rfl ?_
  refine xr_iload_n dX8_own_22 2 rfl ?_
  refine xr_iload_n dX8_own_23 3 rfl ?_
  refine xr_callV (As := [.int (2), .int (0), .int (x), .int (nI (e))]) (rest := []) mlX8_46 (tv2_runFrom_2_0 (e := e) (ac := ac) x (by omega) (by omega) e_b (by omega) e_ra hac e_ac e_k) dX8_own_24 s_46 rfl rfl (Nat.le_of_ble_eq_true rfl) (by decide) ⟨by decide, by decide⟩ (fun v s2 M5 J2 hq => ?_)
  obtain ⟨r7, rfl, rfl, rfl, k6, ⟨hr3, hx2, ht4⟩⟩ := hq
  try dsimp only [Option.toList, List.cons_append, List.nil_append]
  subst hr3
  refine xr_goto (tgt := 31) dX8_own_27 rfl ?_
  exact xr_iret dX8_own_31 rfl rfl (⟨_, rfl, rfl, rfl, (Ke.tr (fun _ _ h => h) Ke.rf k6), rfl, hx2, ht4⟩)
set_option maxRecDepth 100000 in
set_option maxHeartbeats 4000000 in
theorem tw2_0 {ac b : Nat} (x : Int32) {l : Launch} {G : xG} {M : xM} {J : xJ} (h_b : b ≤ 50) (e_b : M 46 2 = nI b) (hac : ac < b) (e_k : M 47 ac = 2) : x_M l G fX8_perform 4 0 0 [.ref (46), .int (nI (ac)), .int (0), .int (x)] x_SH M J (qKI WTR M J (fun r M2 => M2 46 3 = nI 1 ∧ TrF 48 [1] M2)) := by
  refine xb_of pX8 (Nat.le_of_ble_eq_true rfl) rfl ?_
  refine xr_aload_n dX8_perform_0 0 rfl ?_
  refine xr_iconst (v := 0) dX8_perform_1 rfl ?_
  refine xr_putI fpX8_33 dX8_perform_2 s_46 rfl rfl rfl ?_
  refine xr_aload_n dX8_perform_5 0 rfl ?_
  refine xr_iload_n dX8_perform_6 1 rfl ?_
  refine xr_putI fpX8_36 dX8_perform_7 s_46 rfl rfl rfl ?_
  refine xr_aload_n dX8_perform_10 0 rfl ?_
  refine xr_iload_n dX8_perform_11 2 rfl ?_
  refine xr_iload_n dX8_perform_12 3 rfl ?_
  refine xr_iconst (v := 0) dX8_perform_13 rfl ?_
  refine xr_callV (As := [.int (0), .int (x), .int (0)]) (rest := []) mlX8_39 (tv2_own_0 (e := 0) (ac := ac) (ra := 0) x (by omega) h_b (Eq.trans (x_up_k _ _ _ (by decide)) (Eq.trans (x_up_k _ _ _ (by decide)) e_b)) (by omega) (Eq.trans (x_up_k _ _ _ (by decide)) (x_up_s _ _ _ _)) hac (x_up_s _ _ _ _) (Eq.trans (congrFun (x_up_n _ _ _ (by decide)) _) (Eq.trans (congrFun (x_up_n _ _ _ (by decide)) _) e_k))) dX8_perform_14 s_46 rfl rfl (Nat.le_of_ble_eq_true rfl) (by decide) ⟨by decide, by decide⟩ (fun v s2 M4 J2 hq => ?_)
  obtain ⟨r6, rfl, rfl, rfl, k5, ⟨hr2, hx1, ht3⟩⟩ := hq
  try dsimp only [Option.toList, List.cons_append, List.nil_append]
  subst hr2
  exact xr_iret dX8_perform_17 rfl rfl (⟨_, rfl, rfl, rfl, (Ke.tr (fun pp kk => (fun hh => Or.elim hh (fun h => (Or.inl h)) (fun h => (Or.inr (Or.inr h))))) (Ke.up (Or.inr (Or.inl (by omega))) (Ke.up (Or.inl (by omega)) Ke.rf)) k5), ⟨(hx1.trans (congrArg nI (Nat.zero_add _))), TrA_F ht3⟩⟩)
set_option maxRecDepth 100000 in
set_option maxHeartbeats 4000000 in
theorem tv2_run_10_0 {e ac : Nat} (x : Int32) (he : e + 1 ≤ 30) {l : Launch} {G : xG} {M : xM} {J : xJ} {b ra : Nat} (h_b : b ≤ 50) (e_b : M 46 2 = nI b) (h_ra : ra + 2 ≤ 900) (e_ra : M 46 3 = nI ra) (hac : ac < b) (e_ac : M 46 4 = nI ac) (e_k : M 47 ac = 2) : x_M l G fX8_run 4 0 0 [.ref (46), .int (10), .int (0), .int (x), .int (nI (e))] x_SH M J (qKI WTN M J (fun r M2 => r = ((x + (nI (ac))) * 2) ∧ M2 46 3 = nI (ra + 2) ∧ TrA 48 ra [10, 1] M M2)) := by
  refine xb_of pX8 (Nat.le_of_ble_eq_true rfl) rfl ?_
  refine xr_aload_n dX8_run_0 0 rfl ?_
  refine xr_iload_n dX8_run_1 1 rfl ?_
  refine xr_callV (As := [.int (10)]) (rest := []) mlX8_56 (gt_X8_note 10 (by omega) e_ra) dX8_run_2 s_46 rfl rfl (Nat.le_of_ble_eq_true rfl) (by decide) ⟨by decide, by decide⟩ (fun v s2 M3 J2 hq => ?_)
  obtain ⟨rfl, rfl, rfl, k4, ⟨hx1, ht2⟩⟩ := hq
  try dsimp only [Option.toList, List.cons_append, List.nil_append]
  refine xr_iload_n dX8_run_5 1 rfl ?_
  refine xr_lookup (tgt := 145) (off := 139) dX8_run_6 (by decide) (by decide) rfl ?_
  refine xr_aload_n dX8_run_145 0 rfl ?_
  refine xr_iconst (v := 0) dX8_run_146 rfl ?_
  refine xr_iload_n dX8_run_147 3 rfl ?_
  refine xr_iload dX8_run_148 4 rfl ?_
  refine xr_callV (As := [.int (0), .int (x), .int (nI (e))]) (rest := []) mlX8_39 (tv2_own_0 (e := e) (ac := ac) x (by omega) (by omega) (Eq.trans (k4 46 2 (by decide)) e_b) (by omega) hx1 hac (Eq.trans (k4 46 4 (by decide)) e_ac) (Eq.trans (k4 47 ac (by unfold WTN; omega)) e_k)) dX8_run_150 s_46 rfl rfl (Nat.le_of_ble_eq_true rfl) (by decide) ⟨by decide, by decide⟩ (fun v s2 M8 J2 hq => ?_)
  obtain ⟨r10, rfl, rfl, rfl, k9, ⟨hr6, hx5, ht7⟩⟩ := hq
  try dsimp only [Option.toList, List.cons_append, List.nil_append]
  subst hr6
  refine xr_iconst (v := 2) dX8_run_153 rfl ?_
  refine xr_imul dX8_run_154 ?_
  exact xr_iret dX8_run_155 rfl rfl (⟨_, rfl, rfl, rfl, (Ke.tr (fun _ _ h => h) (Ke.tr (fun _ _ h => h) Ke.rf k4) k9), rfl, hx5, (TrA_app (l := [10]) (m := [1]) ht2 ht7)⟩)
set_option maxRecDepth 100000 in
set_option maxHeartbeats 4000000 in
theorem tv2_runFrom_0_1 {e ac : Nat} (x : Int32) (he : e + 2 ≤ 30) {l : Launch} {G : xG} {M : xM} {J : xJ} {b ra : Nat} (h_b : b ≤ 50) (e_b : M 46 2 = nI b) (h_ra : ra + 2 ≤ 900) (e_ra : M 46 3 = nI ra) (hac : ac < b) (e_ac : M 46 4 = nI ac) (e_k : M 47 ac = 2) : x_M l G fX8_runFrom 5 0 0 [.ref (46), .int (0), .int (1), .int (x), .int (nI (e))] x_SH M J (qKI WTN M J (fun r M2 => r = ((x + (nI (ac))) * 2) ∧ M2 46 3 = nI (ra + 2) ∧ TrA 48 ra [10, 1] M M2)) := by
  refine xb_of pX8 (Nat.le_of_ble_eq_true rfl) rfl ?_
  refine xr_iload_n dX8_runFrom_0 1 rfl ?_
  refine xr_istore (ls2 := [(5, .int (0)), (0, .ref (46)), (1, .int (0)), (2, .int (1)), (3, .int (x)), (4, .int (nI (e)))]) dX8_runFrom_1 (by decide) rfl ?_
  refine xr_iconst (v := 0) dX8_runFrom_3 rfl ?_
  refine xr_istore (ls2 := [(6, .int (0)), (5, .int (0)), (0, .ref (46)), (1, .int (0)), (2, .int (1)), (3, .int (x)), (4, .int (nI (e)))]) dX8_runFrom_4 (by decide) rfl ?_
  refine xr_iload dX8_runFrom_6 0 rfl ?_
  refine xr_bipush (v := 8) dX8_runFrom_8 rfl ?_
  refine xr_icmp_ge (tgt := 81) dX8_runFrom_10 rfl (fun c => absurd c (by decide)) (fun _ => ?_)
  refine xr_iload dX8_runFrom_13 1 rfl ?_
  refine xb_cN (As := [.int (0)]) (rest := []) mlX8_26 (c_X9_isKind 0) dX8_runFrom_15 rfl rfl (Nat.le_of_ble_eq_true rfl) (by decide) (by decide) ?_
  refine xb_beq (tgt := 81) dX8_runFrom_18 rfl (fun c => absurd (by decide) c) (fun _ => ?_)
  refine xr_getsO slX8_50 dX8_runFrom_21 ?_
  refine xr_iload dX8_runFrom_24 1 rfl ?_
  refine xr_iconst (v := 4) dX8_runFrom_26 rfl ?_
  refine xr_imul dX8_runFrom_27 ?_
  refine xb_top (y := 0) (by decide) ?_
  refine xr_iload_n dX8_runFrom_28 4 rfl ?_
  refine xr_iadd dX8_runFrom_29 ?_
  refine xb_top (y := 1) (by decide) ?_
  refine xr_tabO (by unfold vp_in; decide) dX8_runFrom_30 ?_
  refine xb_top (y := 10) (by decide) ?_
  refine xr_if_eq (tgt := 67) dX8_runFrom_31 rfl (fun c => absurd c (by decide)) (fun _ => ?_)
  refine xr_iload dX8_runFrom_34 6 rfl ?_
  refine xr_bipush (v := 30) dX8_runFrom_36 rfl ?_
  refine xr_icmp_ge (tgt := 65) dX8_runFrom_38 rfl (fun c => absurd c (nI_ge (a := e) (b := 30) (by omega) (by omega))) (fun _ => ?_)
  refine xr_aload_n dX8_runFrom_41 2 rfl ?_
  refine xr_getsO slX8_50 dX8_runFrom_42 ?_
  refine xr_iload dX8_runFrom_45 1 rfl ?_
  refine xr_iconst (v := 4) dX8_runFrom_47 rfl ?_
  refine xr_imul dX8_runFrom_48 ?_
  refine xb_top (y := 0) (by decide) ?_
  refine xr_iload_n dX8_runFrom_49 4 rfl ?_
  refine xr_iadd dX8_runFrom_50 ?_
  refine xb_top (y := 1) (by decide) ?_
  refine xr_tabO (by unfold vp_in; decide) dX8_runFrom_51 ?_
  refine xb_top (y := 10) (by decide) ?_
  refine xr_iload dX8_runFrom_52 1 rfl ?_
  refine xr_iload_n dX8_runFrom_54 5 rfl ?_
  refine xr_iload dX8_runFrom_55 6 rfl ?_
  refine xr_iconst (v := 1) dX8_runFrom_57 rfl ?_
  refine xr_iadd dX8_runFrom_58 ?_
  refine xb_top (y := nI (e + 1)) (nI_add (e) (1)) ?_
  refine xr_callV (As := [.int (10), .int (0), .int (x), .int (nI (e + 1))]) (rest := []) mlX8_53 (tv2_run_10_0 (e := e + 1) (ac := ac) x (by omega) (by omega) e_b (by omega) e_ra hac e_ac e_k) dX8_runFrom_59 s_46 rfl rfl (Nat.le_of_ble_eq_true rfl) (by decide) ⟨by decide, by decide⟩ (fun v s2 M5 J2 hq => ?_)
  obtain ⟨r7, rfl, rfl, rfl, k6, ⟨hr3, hx2, ht4⟩⟩ := hq
  try dsimp only [Option.toList, List.cons_append, List.nil_append]
  subst hr3
  refine xr_goto (tgt := 66) dX8_runFrom_62 rfl ?_
  exact xr_iret dX8_runFrom_66 rfl rfl (⟨_, rfl, rfl, rfl, (Ke.tr (fun _ _ h => h) Ke.rf k6), rfl, hx2, ht4⟩)
set_option maxRecDepth 100000 in
set_option maxHeartbeats 4000000 in
theorem tv2_above_2_1 {e ac : Nat} (x : Int32) (he : e + 2 ≤ 30) {l : Launch} {G : xG} {M : xM} {J : xJ} {b ra : Nat} (h_b : b ≤ 50) (e_b : M 46 2 = nI b) (h_ra : ra + 2 ≤ 900) (e_ra : M 46 3 = nI ra) (hac : ac < b) (e_ac : M 46 4 = nI ac) (e_k : M 47 ac = 2) : x_M l G fX8_above 6 0 0 [.ref (46), .int (2), .int (1), .int (x), .int (nI (e))] x_SH M J (qKI WTN M J (fun r M2 => r = ((x + (nI (ac))) * 2) ∧ M2 46 3 = nI (ra + 2) ∧ TrA 48 ra [10, 1] M M2)) := by
  refine xb_of pX8 (Nat.le_of_ble_eq_true rfl) rfl ?_
  refine xr_iload_n dX8_above_0 1 rfl ?_
  refine xb_cN (As := [.int (2)]) (rest := []) mlX8_26 (c_X9_isKind 2) dX8_above_1 rfl rfl (Nat.le_of_ble_eq_true rfl) (by decide) (by decide) ?_
  refine xb_beq (tgt := 23) dX8_above_4 rfl (fun c => absurd (by decide) c) (fun _ => ?_)
  refine xr_aload_n dX8_above_7 0 rfl ?_
  refine xr_getsA slX8_30 dX8_above_8 ?_
  refine xr_iload_n dX8_above_11 1 rfl ?_
  refine xr_tabA (by unfold vp_in; decide) dX8_above_12 ?_
  refine xb_top (y := 0) (by decide) ?_
  refine xr_iload_n dX8_above_13 2 rfl ?_
  refine xr_iload_n dX8_above_14 3 rfl ?_
  refine xr_iload dX8_above_15 4 rfl ?_
  refine xr_callV (As := [.int (0), .int (1), .int (x), .int (nI (e))]) (rest := []) mlX8_46 (tv2_runFrom_0_1 (e := e) (ac := ac) x (by omega) (by omega) e_b (by omega) e_ra hac e_ac e_k) dX8_above_17 s_46 rfl rfl (Nat.le_of_ble_eq_true rfl) (by decide) ⟨by decide, by decide⟩ (fun v s2 M5 J2 hq => ?_)
  obtain ⟨r7, rfl, rfl, rfl, k6, ⟨hr3, hx2, ht4⟩⟩ := hq
  try dsimp only [Option.toList, List.cons_append, List.nil_append]
  subst hr3
  refine xr_goto (tgt := 24) dX8_above_20 rfl ?_
  exact xr_iret dX8_above_24 rfl rfl (⟨_, rfl, rfl, rfl, (Ke.tr (fun _ _ h => h) Ke.rf k6), rfl, hx2, ht4⟩)
set_option maxRecDepth 100000 in
set_option maxHeartbeats 4000000 in
theorem tv2_run_30_2 {e ac : Nat} (x : Int32) (he : e + 2 ≤ 30) {l : Launch} {G : xG} {M : xM} {J : xJ} {b ra : Nat} (h_b : b ≤ 50) (e_b : M 46 2 = nI b) (h_ra : ra + 3 ≤ 900) (e_ra : M 46 3 = nI ra) (hac : ac < b) (e_ac : M 46 4 = nI ac) (e_k : M 47 ac = 2) : x_M l G fX8_run 7 0 0 [.ref (46), .int (30), .int (2), .int (x), .int (nI (e))] x_SH M J (qKI WTN M J (fun r M2 => r = (-((x + (nI (ac))) * 2)) ∧ M2 46 3 = nI (ra + 3) ∧ TrA 48 ra [30, 10, 1] M M2)) := by
  refine xb_of pX8 (Nat.le_of_ble_eq_true rfl) rfl ?_
  refine xr_aload_n dX8_run_0 0 rfl ?_
  refine xr_iload_n dX8_run_1 1 rfl ?_
  refine xr_callV (As := [.int (30)]) (rest := []) mlX8_56 (gt_X8_note 30 (by omega) e_ra) dX8_run_2 s_46 rfl rfl (Nat.le_of_ble_eq_true rfl) (by decide) ⟨by decide, by decide⟩ (fun v s2 M3 J2 hq => ?_)
  obtain ⟨rfl, rfl, rfl, k4, ⟨hx1, ht2⟩⟩ := hq
  try dsimp only [Option.toList, List.cons_append, List.nil_append]
  refine xr_iload_n dX8_run_5 1 rfl ?_
  refine xr_lookup (tgt := 175) (off := 169) dX8_run_6 (by decide) (by decide) rfl ?_
  refine xr_aload_n dX8_run_175 0 rfl ?_
  refine xr_iload_n dX8_run_176 2 rfl ?_
  refine xr_iconst (v := 1) dX8_run_177 rfl ?_
  refine xr_iload_n dX8_run_178 3 rfl ?_
  refine xr_iload dX8_run_179 4 rfl ?_
  refine xr_callV (As := [.int (2), .int (1), .int (x), .int (nI (e))]) (rest := []) mlX8_60 (tv2_above_2_1 (e := e) (ac := ac) x (by omega) (by omega) (Eq.trans (k4 46 2 (by decide)) e_b) (by omega) hx1 hac (Eq.trans (k4 46 4 (by decide)) e_ac) (Eq.trans (k4 47 ac (by unfold WTN; omega)) e_k)) dX8_run_181 s_46 rfl rfl (Nat.le_of_ble_eq_true rfl) (by decide) ⟨by decide, by decide⟩ (fun v s2 M8 J2 hq => ?_)
  obtain ⟨r10, rfl, rfl, rfl, k9, ⟨hr6, hx5, ht7⟩⟩ := hq
  try dsimp only [Option.toList, List.cons_append, List.nil_append]
  subst hr6
  refine xr_ineg dX8_run_184 ?_
  exact xr_iret dX8_run_185 rfl rfl (⟨_, rfl, rfl, rfl, (Ke.tr (fun _ _ h => h) (Ke.tr (fun _ _ h => h) Ke.rf k4) k9), rfl, hx5, (TrA_app (l := [30]) (m := [10, 1]) ht2 ht7)⟩)
set_option maxRecDepth 100000 in
set_option maxHeartbeats 4000000 in
theorem tv2_runFrom_2_1 {e ac : Nat} (x : Int32) (he : e + 3 ≤ 30) {l : Launch} {G : xG} {M : xM} {J : xJ} {b ra : Nat} (h_b : b ≤ 50) (e_b : M 46 2 = nI b) (h_ra : ra + 3 ≤ 900) (e_ra : M 46 3 = nI ra) (hac : ac < b) (e_ac : M 46 4 = nI ac) (e_k : M 47 ac = 2) : x_M l G fX8_runFrom 8 0 0 [.ref (46), .int (2), .int (1), .int (x), .int (nI (e))] x_SH M J (qKI WTN M J (fun r M2 => r = (-((x + (nI (ac))) * 2)) ∧ M2 46 3 = nI (ra + 3) ∧ TrA 48 ra [30, 10, 1] M M2)) := by
  refine xb_of pX8 (Nat.le_of_ble_eq_true rfl) rfl ?_
  refine xr_iload_n dX8_runFrom_0 1 rfl ?_
  refine xr_istore (ls2 := [(5, .int (2)), (0, .ref (46)), (1, .int (2)), (2, .int (1)), (3, .int (x)), (4, .int (nI (e)))]) dX8_runFrom_1 (by decide) rfl ?_
  refine xr_iconst (v := 0) dX8_runFrom_3 rfl ?_
  refine xr_istore (ls2 := [(6, .int (0)), (5, .int (2)), (0, .ref (46)), (1, .int (2)), (2, .int (1)), (3, .int (x)), (4, .int (nI (e)))]) dX8_runFrom_4 (by decide) rfl ?_
  refine xr_iload dX8_runFrom_6 0 rfl ?_
  refine xr_bipush (v := 8) dX8_runFrom_8 rfl ?_
  refine xr_icmp_ge (tgt := 81) dX8_runFrom_10 rfl (fun c => absurd c (by decide)) (fun _ => ?_)
  refine xr_iload dX8_runFrom_13 1 rfl ?_
  refine xb_cN (As := [.int (2)]) (rest := []) mlX8_26 (c_X9_isKind 2) dX8_runFrom_15 rfl rfl (Nat.le_of_ble_eq_true rfl) (by decide) (by decide) ?_
  refine xb_beq (tgt := 81) dX8_runFrom_18 rfl (fun c => absurd (by decide) c) (fun _ => ?_)
  refine xr_getsO slX8_50 dX8_runFrom_21 ?_
  refine xr_iload dX8_runFrom_24 1 rfl ?_
  refine xr_iconst (v := 4) dX8_runFrom_26 rfl ?_
  refine xr_imul dX8_runFrom_27 ?_
  refine xb_top (y := 8) (by decide) ?_
  refine xr_iload_n dX8_runFrom_28 4 rfl ?_
  refine xr_iadd dX8_runFrom_29 ?_
  refine xb_top (y := 9) (by decide) ?_
  refine xr_tabO (by unfold vp_in; decide) dX8_runFrom_30 ?_
  refine xb_top (y := 30) (by decide) ?_
  refine xr_if_eq (tgt := 67) dX8_runFrom_31 rfl (fun c => absurd c (by decide)) (fun _ => ?_)
  refine xr_iload dX8_runFrom_34 6 rfl ?_
  refine xr_bipush (v := 30) dX8_runFrom_36 rfl ?_
  refine xr_icmp_ge (tgt := 65) dX8_runFrom_38 rfl (fun c => absurd c (nI_ge (a := e) (b := 30) (by omega) (by omega))) (fun _ => ?_)
  refine xr_aload_n dX8_runFrom_41 2 rfl ?_
  refine xr_getsO slX8_50 dX8_runFrom_42 ?_
  refine xr_iload dX8_runFrom_45 1 rfl ?_
  refine xr_iconst (v := 4) dX8_runFrom_47 rfl ?_
  refine xr_imul dX8_runFrom_48 ?_
  refine xb_top (y := 8) (by decide) ?_
  refine xr_iload_n dX8_runFrom_49 4 rfl ?_
  refine xr_iadd dX8_runFrom_50 ?_
  refine xb_top (y := 9) (by decide) ?_
  refine xr_tabO (by unfold vp_in; decide) dX8_runFrom_51 ?_
  refine xb_top (y := 30) (by decide) ?_
  refine xr_iload dX8_runFrom_52 1 rfl ?_
  refine xr_iload_n dX8_runFrom_54 5 rfl ?_
  refine xr_iload dX8_runFrom_55 6 rfl ?_
  refine xr_iconst (v := 1) dX8_runFrom_57 rfl ?_
  refine xr_iadd dX8_runFrom_58 ?_
  refine xb_top (y := nI (e + 1)) (nI_add (e) (1)) ?_
  refine xr_callV (As := [.int (30), .int (2), .int (x), .int (nI (e + 1))]) (rest := []) mlX8_53 (tv2_run_30_2 (e := e + 1) (ac := ac) x (by omega) (by omega) e_b (by omega) e_ra hac e_ac e_k) dX8_runFrom_59 s_46 rfl rfl (Nat.le_of_ble_eq_true rfl) (by decide) ⟨by decide, by decide⟩ (fun v s2 M5 J2 hq => ?_)
  obtain ⟨r7, rfl, rfl, rfl, k6, ⟨hr3, hx2, ht4⟩⟩ := hq
  try dsimp only [Option.toList, List.cons_append, List.nil_append]
  subst hr3
  refine xr_goto (tgt := 66) dX8_runFrom_62 rfl ?_
  exact xr_iret dX8_runFrom_66 rfl rfl (⟨_, rfl, rfl, rfl, (Ke.tr (fun _ _ h => h) Ke.rf k6), rfl, hx2, ht4⟩)
set_option maxRecDepth 100000 in
set_option maxHeartbeats 4000000 in
theorem tv2_own_1 {e ac : Nat} (x : Int32) (he : e + 3 ≤ 30) {l : Launch} {G : xG} {M : xM} {J : xJ} {b ra : Nat} (h_b : b ≤ 50) (e_b : M 46 2 = nI b) (h_ra : ra + 3 ≤ 900) (e_ra : M 46 3 = nI ra) (hac : ac < b) (e_ac : M 46 4 = nI ac) (e_k : M 47 ac = 2) : x_M l G fX8_own 9 0 0 [.ref (46), .int (1), .int (x), .int (nI (e))] x_SH M J (qKI WTN M J (fun r M2 => r = (-((x + (nI (ac))) * 2)) ∧ M2 46 3 = nI (ra + 3) ∧ TrA 48 ra [30, 10, 1] M M2)) := by
  refine xb_of pX8 (Nat.le_of_ble_eq_true rfl) rfl ?_
  refine xr_aload_n dX8_own_0 0 rfl ?_
  refine xr_aload_n dX8_own_1 0 rfl ?_
  refine xb_get (v := nI (ac)) flX8_36 dX8_own_2 s_46 rfl e_ac ?_
  refine xb_cV (As := [.int (nI (ac))]) (rest := []) mlX8_43 (c_X8_has (nI (ac)) (by omega) e_b) dX8_own_5 s_46 rfl rfl (Nat.le_of_ble_eq_true rfl) (by decide) (by decide) ?_
  refine xb_beq (tgt := 30) dX8_own_8 rfl (fun c => absurd ⟨nI_pos' (by omega), nI_lt (by omega) (by omega)⟩ c) (fun _ => ?_)
  refine xr_aload_n dX8_own_11 0 rfl ?_
  refine xr_aload_n dX8_own_12 0 rfl ?_
  refine xr_getR flX8_9 dX8_own_13 s_46 rfl ?_
  refine xr_aload_n dX8_own_16 0 rfl ?_
  refine xb_get (v := nI (ac)) flX8_36 dX8_own_17 s_46 rfl e_ac ?_
  refine xb_iald (j := ac) (v := 2) dX8_own_20 s_47 (by omega) (by decide) e_k ?_
  refine xr_iload_n dX8_own_21 1 rfl ?_
  refine xr_iload_n dX8_own_22 2 rfl ?_
  refine xr_iload_n dX8_own_23 3 rfl ?_
  refine xr_callV (As := [.int (2), .int (1), .int (x), .int (nI (e))]) (rest := []) mlX8_46 (tv2_runFrom_2_1 (e := e) (ac := ac) x (by omega) (by omega) e_b (by omega) e_ra hac e_ac e_k) dX8_own_24 s_46 rfl rfl (Nat.le_of_ble_eq_true rfl) (by decide) ⟨by decide, by decide⟩ (fun v s2 M5 J2 hq => ?_)
  obtain ⟨r7, rfl, rfl, rfl, k6, ⟨hr3, hx2, ht4⟩⟩ := hq
  try dsimp only [Option.toList, List.cons_append, List.nil_append]
  subst hr3
  refine xr_goto (tgt := 31) dX8_own_27 rfl ?_
  exact xr_iret dX8_own_31 rfl rfl (⟨_, rfl, rfl, rfl, (Ke.tr (fun _ _ h => h) Ke.rf k6), rfl, hx2, ht4⟩)
set_option maxRecDepth 100000 in
set_option maxHeartbeats 4000000 in
theorem tw2_1 {ac b : Nat} (x : Int32) {l : Launch} {G : xG} {M : xM} {J : xJ} (h_b : b ≤ 50) (e_b : M 46 2 = nI b) (hac : ac < b) (e_k : M 47 ac = 2) : x_M l G fX8_perform 10 0 0 [.ref (46), .int (nI (ac)), .int (1), .int (x)] x_SH M J (qKI WTR M J (fun r M2 => M2 46 3 = nI 3 ∧ TrF 48 [30, 10, 1] M2)) := by
  refine xb_of pX8 (Nat.le_of_ble_eq_true rfl) rfl ?_
  refine xr_aload_n dX8_perform_0 0 rfl ?_
  refine xr_iconst (v := 0) dX8_perform_1 rfl ?_
  refine xr_putI fpX8_33 dX8_perform_2 s_46 rfl rfl rfl ?_
  refine xr_aload_n dX8_perform_5 0 rfl ?_
  refine xr_iload_n dX8_perform_6 1 rfl ?_
  refine xr_putI fpX8_36 dX8_perform_7 s_46 rfl rfl rfl ?_
  refine xr_aload_n dX8_perform_10 0 rfl ?_
  refine xr_iload_n dX8_perform_11 2 rfl ?_
  refine xr_iload_n dX8_perform_12 3 rfl ?_
  refine xr_iconst (v := 0) dX8_perform_13 rfl ?_
  refine xr_callV (As := [.int (1), .int (x), .int (0)]) (rest := []) mlX8_39 (tv2_own_1 (e := 0) (ac := ac) (ra := 0) x (by omega) h_b (Eq.trans (x_up_k _ _ _ (by decide)) (Eq.trans (x_up_k _ _ _ (by decide)) e_b)) (by omega) (Eq.trans (x_up_k _ _ _ (by decide)) (x_up_s _ _ _ _)) hac (x_up_s _ _ _ _) (Eq.trans (congrFun (x_up_n _ _ _ (by decide)) _) (Eq.trans (congrFun (x_up_n _ _ _ (by decide)) _) e_k))) dX8_perform_14 s_46 rfl rfl (Nat.le_of_ble_eq_true rfl) (by decide) ⟨by decide, by decide⟩ (fun v s2 M4 J2 hq => ?_)
  obtain ⟨r6, rfl, rfl, rfl, k5, ⟨hr2, hx1, ht3⟩⟩ := hq
  try dsimp only [Option.toList, List.cons_append, List.nil_append]
  subst hr2
  exact xr_iret dX8_perform_17 rfl rfl (⟨_, rfl, rfl, rfl, (Ke.tr (fun pp kk => (fun hh => Or.elim hh (fun h => (Or.inl h)) (fun h => (Or.inr (Or.inr h))))) (Ke.up (Or.inr (Or.inl (by omega))) (Ke.up (Or.inl (by omega)) Ke.rf)) k5), ⟨(hx1.trans (congrArg nI (Nat.zero_add _))), TrA_F ht3⟩⟩)
set_option maxRecDepth 100000 in
set_option maxHeartbeats 4000000 in
theorem tv2_run_11_0 {e ac : Nat} (x : Int32) (he : e + 0 ≤ 30) {l : Launch} {G : xG} {M : xM} {J : xJ} {b ra : Nat} (h_b : b ≤ 50) (e_b : M 46 2 = nI b) (h_ra : ra + 1 ≤ 900) (e_ra : M 46 3 = nI ra) (hac : ac < b) (e_ac : M 46 4 = nI ac) (e_k : M 47 ac = 2) : x_M l G fX8_run 1 0 0 [.ref (46), .int (11), .int (0), .int (x), .int (nI (e))] x_SH M J (qKI WTN M J (fun r M2 => r = (x ^^^ (nI (ac))) ∧ M2 46 3 = nI (ra + 1) ∧ TrA 48 ra [11] M M2)) := by
  refine xb_of pX8 (Nat.le_of_ble_eq_true rfl) rfl ?_
  refine xr_aload_n dX8_run_0 0 rfl ?_
  refine xr_iload_n dX8_run_1 1 rfl ?_
  refine xr_callV (As := [.int (11)]) (rest := []) mlX8_56 (gt_X8_note 11 (by omega) e_ra) dX8_run_2 s_46 rfl rfl (Nat.le_of_ble_eq_true rfl) (by decide) ⟨by decide, by decide⟩ (fun v s2 M3 J2 hq => ?_)
  obtain ⟨rfl, rfl, rfl, k4, ⟨hx1, ht2⟩⟩ := hq
  try dsimp only [Option.toList, List.cons_append, List.nil_append]
  refine xr_iload_n dX8_run_5 1 rfl ?_
  refine xr_lookup (tgt := 156) (off := 150) dX8_run_6 (by decide) (by decide) rfl ?_
  refine xr_iload_n dX8_run_156 3 rfl ?_
  refine xr_aload_n dX8_run_157 0 rfl ?_
  refine xb_get (v := nI (ac)) flX8_36 dX8_run_158 s_46 rfl (Eq.trans (k4 46 4 (by decide)) e_ac) ?_
  refine xr_ixor dX8_run_161 ?_
  exact xr_iret dX8_run_162 rfl rfl (⟨_, rfl, rfl, rfl, (Ke.tr (fun _ _ h => h) Ke.rf k4), rfl, hx1, ht2⟩)
set_option maxRecDepth 100000 in
set_option maxHeartbeats 4000000 in
theorem tv2_runFrom_2_2 {e ac : Nat} (x : Int32) (he : e + 1 ≤ 30) {l : Launch} {G : xG} {M : xM} {J : xJ} {b ra : Nat} (h_b : b ≤ 50) (e_b : M 46 2 = nI b) (h_ra : ra + 1 ≤ 900) (e_ra : M 46 3 = nI ra) (hac : ac < b) (e_ac : M 46 4 = nI ac) (e_k : M 47 ac = 2) : x_M l G fX8_runFrom 2 0 0 [.ref (46), .int (2), .int (2), .int (x), .int (nI (e))] x_SH M J (qKI WTN M J (fun r M2 => r = (x ^^^ (nI (ac))) ∧ M2 46 3 = nI (ra + 1) ∧ TrA 48 ra [11] M M2)) := by
  refine xb_of pX8 (Nat.le_of_ble_eq_true rfl) rfl ?_
  refine xr_iload_n dX8_runFrom_0 1 rfl ?_
  refine xr_istore (ls2 := [(5, .int (2)), (0, .ref (46)), (1, .int (2)), (2, .int (2)), (3, .int (x)), (4, .int (nI (e)))]) dX8_runFrom_1 (by decide) rfl ?_
  refine xr_iconst (v := 0) dX8_runFrom_3 rfl ?_
  refine xr_istore (ls2 := [(6, .int (0)), (5, .int (2)), (0, .ref (46)), (1, .int (2)), (2, .int (2)), (3, .int (x)), (4, .int (nI (e)))]) dX8_runFrom_4 (by decide) rfl ?_
  refine xr_iload dX8_runFrom_6 0 rfl ?_
  refine xr_bipush (v := 8) dX8_runFrom_8 rfl ?_
  refine xr_icmp_ge (tgt := 81) dX8_runFrom_10 rfl (fun c => absurd c (by decide)) (fun _ => ?_)
  refine xr_iload dX8_runFrom_13 1 rfl ?_
  refine xb_cN (As := [.int (2)]) (rest := []) mlX8_26 (c_X9_isKind 2) dX8_runFrom_15 rfl rfl (Nat.le_of_ble_eq_true rfl) (by decide) (by decide) ?_
  refine xb_beq (tgt := 81) dX8_runFrom_18 rfl (fun c => absurd (by decide) c) (fun _ => ?_)
  refine xr_getsO slX8_50 dX8_runFrom_21 ?_
  refine xr_iload dX8_runFrom_24 1 rfl ?_
  refine xr_iconst (v := 4) dX8_runFrom_26 rfl ?_
  refine xr_imul dX8_runFrom_27 ?_
  refine xb_top (y := 8) (by decide) ?_
  refine xr_iload_n dX8_runFrom_28 4 rfl ?_
  refine xr_iadd dX8_runFrom_29 ?_
  refine xb_top (y := 10) (by decide) ?_
  refine xr_tabO (by unfold vp_in; decide) dX8_runFrom_30 ?_
  refine xb_top (y := 0) (by decide) ?_
  refine xr_if_eq (tgt := 67) dX8_runFrom_31 rfl (fun _ => ?_) (fun c => absurd (by decide) c)
  refine xr_getsA slX8_30 dX8_runFrom_67 ?_
  refine xr_iload dX8_runFrom_70 1 rfl ?_
  refine xr_tabA (by unfold vp_in; decide) dX8_runFrom_72 ?_
  refine xb_top (y := 0) (by decide) ?_
  refine xr_istore (ls2 := [(5, .int (0)), (6, .int (0)), (0, .ref (46)), (1, .int (2)), (2, .int (2)), (3, .int (x)), (4, .int (nI (e)))]) dX8_runFrom_73 (by decide) rfl ?_
  refine xr_iinc (v := 1) (ls2 := [(6, .int (1)), (5, .int (0)), (0, .ref (46)), (1, .int (2)), (2, .int (2)), (3, .int (x)), (4, .int (nI (e)))]) dX8_runFrom_75 1 rfl rfl (by decide) rfl ?_
  refine xr_goto (tgt := 6) dX8_runFrom_78 rfl ?_
  refine xr_iload dX8_runFrom_6 0 rfl ?_
  refine xr_bipush (v := 8) dX8_runFrom_8 rfl ?_
  refine xr_icmp_ge (tgt := 81) dX8_runFrom_10 rfl (fun c => absurd c (by decide)) (fun _ => ?_)
  refine xr_iload dX8_runFrom_13 1 rfl ?_
  refine xb_cN (As := [.int (0)]) (rest := []) mlX8_26 (c_X9_isKind 0) dX8_runFrom_15 rfl rfl (Nat.le_of_ble_eq_true rfl) (by decide) (by decide) ?_
  refine xb_beq (tgt := 81) dX8_runFrom_18 rfl (fun c => absurd (by decide) c) (fun _ => ?_)
  refine xr_getsO slX8_50 dX8_runFrom_21 ?_
  refine xr_iload dX8_runFrom_24 1 rfl ?_
  refine xr_iconst (v := 4) dX8_runFrom_26 rfl ?_
  refine xr_imul dX8_runFrom_27 ?_
  refine xb_top (y := 0) (by decide) ?_
  refine xr_iload_n dX8_runFrom_28 4 rfl ?_
  refine xr_iadd dX8_runFrom_29 ?_
  refine xb_top (y := 2) (by decide) ?_
  refine xr_tabO (by unfold vp_in; decide) dX8_runFrom_30 ?_
  refine xb_top (y := 11) (by decide) ?_
  refine xr_if_eq (tgt := 67) dX8_runFrom_31 rfl (fun c => absurd c (by decide)) (fun _ => ?_)
  refine xr_iload dX8_runFrom_34 6 rfl ?_
  refine xr_bipush (v := 30) dX8_runFrom_36 rfl ?_
  refine xr_icmp_ge (tgt := 65) dX8_runFrom_38 rfl (fun c => absurd c (nI_ge (a := e) (b := 30) (by omega) (by omega))) (fun _ => ?_)
  refine xr_aload_n dX8_runFrom_41 2 rfl ?_
  refine xr_getsO slX8_50 dX8_runFrom_42 ?_
  refine xr_iload dX8_runFrom_45 1 rfl ?_
  refine xr_iconst (v := 4) dX8_runFrom_47 rfl ?_
  refine xr_imul dX8_runFrom_48 ?_
  refine xb_top (y := 0) (by decide) ?_
  refine xr_iload_n dX8_runFrom_49 4 rfl ?_
  refine xr_iadd dX8_runFrom_50 ?_
  refine xb_top (y := 2) (by decide) ?_
  refine xr_tabO (by unfold vp_in; decide) dX8_runFrom_51 ?_
  refine xb_top (y := 11) (by decide) ?_
  refine xr_iload dX8_runFrom_52 1 rfl ?_
  refine xr_iload_n dX8_runFrom_54 5 rfl ?_
  refine xr_iload dX8_runFrom_55 6 rfl ?_
  refine xr_iconst (v := 1) dX8_runFrom_57 rfl ?_
  refine xr_iadd dX8_runFrom_58 ?_
  refine xb_top (y := nI (e + 1)) (nI_add (e) (1)) ?_
  refine xr_callV (As := [.int (11), .int (0), .int (x), .int (nI (e + 1))]) (rest := []) mlX8_53 (tv2_run_11_0 (e := e + 1) (ac := ac) x (by omega) (by omega) e_b (by omega) e_ra hac e_ac e_k) dX8_runFrom_59 s_46 rfl rfl (Nat.le_of_ble_eq_true rfl) (by decide) ⟨by decide, by decide⟩ (fun v s2 M6 J2 hq => ?_)
  obtain ⟨r8, rfl, rfl, rfl, k7, ⟨hr4, hx3, ht5⟩⟩ := hq
  try dsimp only [Option.toList, List.cons_append, List.nil_append]
  subst hr4
  refine xr_goto (tgt := 66) dX8_runFrom_62 rfl ?_
  exact xr_iret dX8_runFrom_66 rfl rfl (⟨_, rfl, rfl, rfl, (Ke.tr (fun _ _ h => h) Ke.rf k7), rfl, hx3, ht5⟩)
set_option maxRecDepth 100000 in
set_option maxHeartbeats 4000000 in
theorem tv2_own_2 {e ac : Nat} (x : Int32) (he : e + 1 ≤ 30) {l : Launch} {G : xG} {M : xM} {J : xJ} {b ra : Nat} (h_b : b ≤ 50) (e_b : M 46 2 = nI b) (h_ra : ra + 1 ≤ 900) (e_ra : M 46 3 = nI ra) (hac : ac < b) (e_ac : M 46 4 = nI ac) (e_k : M 47 ac = 2) : x_M l G fX8_own 3 0 0 [.ref (46), .int (2), .int (x), .int (nI (e))] x_SH M J (qKI WTN M J (fun r M2 => r = (x ^^^ (nI (ac))) ∧ M2 46 3 = nI (ra + 1) ∧ TrA 48 ra [11] M M2)) := by
  refine xb_of pX8 (Nat.le_of_ble_eq_true rfl) rfl ?_
  refine xr_aload_n dX8_own_0 0 rfl ?_
  refine xr_aload_n dX8_own_1 0 rfl ?_
  refine xb_get (v := nI (ac)) flX8_36 dX8_own_2 s_46 rfl e_ac ?_
  refine xb_cV (As := [.int (nI (ac))]) (rest := []) mlX8_43 (c_X8_has (nI (ac)) (by omega) e_b) dX8_own_5 s_46 rfl rfl (Nat.le_of_ble_eq_true rfl) (by decide) (by decide) ?_
  refine xb_beq (tgt := 30) dX8_own_8 rfl (fun c => absurd ⟨nI_pos' (by omega), nI_lt (by omega) (by omega)⟩ c) (fun _ => ?_)
  refine xr_aload_n dX8_own_11 0 rfl ?_
  refine xr_aload_n dX8_own_12 0 rfl ?_
  refine xr_getR flX8_9 dX8_own_13 s_46 rfl ?_
  refine xr_aload_n dX8_own_16 0 rfl ?_
  refine xb_get (v := nI (ac)) flX8_36 dX8_own_17 s_46 rfl e_ac ?_
  refine xb_iald (j := ac) (v := 2) dX8_own_20 s_47 (by omega) (by decide) e_k ?_
  refine xr_iload_n dX8_own_21 1 rfl ?_
  refine xr_iload_n dX8_own_22 2 rfl ?_
  refine xr_iload_n dX8_own_23 3 rfl ?_
  refine xr_callV (As := [.int (2), .int (2), .int (x), .int (nI (e))]) (rest := []) mlX8_46 (tv2_runFrom_2_2 (e := e) (ac := ac) x (by omega) (by omega) e_b (by omega) e_ra hac e_ac e_k) dX8_own_24 s_46 rfl rfl (Nat.le_of_ble_eq_true rfl) (by decide) ⟨by decide, by decide⟩ (fun v s2 M5 J2 hq => ?_)
  obtain ⟨r7, rfl, rfl, rfl, k6, ⟨hr3, hx2, ht4⟩⟩ := hq
  try dsimp only [Option.toList, List.cons_append, List.nil_append]
  subst hr3
  refine xr_goto (tgt := 31) dX8_own_27 rfl ?_
  exact xr_iret dX8_own_31 rfl rfl (⟨_, rfl, rfl, rfl, (Ke.tr (fun _ _ h => h) Ke.rf k6), rfl, hx2, ht4⟩)
set_option maxRecDepth 100000 in
set_option maxHeartbeats 4000000 in
theorem tw2_2 {ac b : Nat} (x : Int32) {l : Launch} {G : xG} {M : xM} {J : xJ} (h_b : b ≤ 50) (e_b : M 46 2 = nI b) (hac : ac < b) (e_k : M 47 ac = 2) : x_M l G fX8_perform 4 0 0 [.ref (46), .int (nI (ac)), .int (2), .int (x)] x_SH M J (qKI WTR M J (fun r M2 => M2 46 3 = nI 1 ∧ TrF 48 [11] M2)) := by
  refine xb_of pX8 (Nat.le_of_ble_eq_true rfl) rfl ?_
  refine xr_aload_n dX8_perform_0 0 rfl ?_
  refine xr_iconst (v := 0) dX8_perform_1 rfl ?_
  refine xr_putI fpX8_33 dX8_perform_2 s_46 rfl rfl rfl ?_
  refine xr_aload_n dX8_perform_5 0 rfl ?_
  refine xr_iload_n dX8_perform_6 1 rfl ?_
  refine xr_putI fpX8_36 dX8_perform_7 s_46 rfl rfl rfl ?_
  refine xr_aload_n dX8_perform_10 0 rfl ?_
  refine xr_iload_n dX8_perform_11 2 rfl ?_
  refine xr_iload_n dX8_perform_12 3 rfl ?_
  refine xr_iconst (v := 0) dX8_perform_13 rfl ?_
  refine xr_callV (As := [.int (2), .int (x), .int (0)]) (rest := []) mlX8_39 (tv2_own_2 (e := 0) (ac := ac) (ra := 0) x (by omega) h_b (Eq.trans (x_up_k _ _ _ (by decide)) (Eq.trans (x_up_k _ _ _ (by decide)) e_b)) (by omega) (Eq.trans (x_up_k _ _ _ (by decide)) (x_up_s _ _ _ _)) hac (x_up_s _ _ _ _) (Eq.trans (congrFun (x_up_n _ _ _ (by decide)) _) (Eq.trans (congrFun (x_up_n _ _ _ (by decide)) _) e_k))) dX8_perform_14 s_46 rfl rfl (Nat.le_of_ble_eq_true rfl) (by decide) ⟨by decide, by decide⟩ (fun v s2 M4 J2 hq => ?_)
  obtain ⟨r6, rfl, rfl, rfl, k5, ⟨hr2, hx1, ht3⟩⟩ := hq
  try dsimp only [Option.toList, List.cons_append, List.nil_append]
  subst hr2
  exact xr_iret dX8_perform_17 rfl rfl (⟨_, rfl, rfl, rfl, (Ke.tr (fun pp kk => (fun hh => Or.elim hh (fun h => (Or.inl h)) (fun h => (Or.inr (Or.inr h))))) (Ke.up (Or.inr (Or.inl (by omega))) (Ke.up (Or.inl (by omega)) Ke.rf)) k5), ⟨(hx1.trans (congrArg nI (Nat.zero_add _))), TrA_F ht3⟩⟩)
set_option maxRecDepth 100000 in
set_option maxHeartbeats 4000000 in
theorem tv2_run_2_0 {e ac : Nat} (x : Int32) (he : e + 3 ≤ 30) {l : Launch} {G : xG} {M : xM} {J : xJ} {b ra : Nat} (h_b : b ≤ 50) (e_b : M 46 2 = nI b) (h_ra : ra + 5 ≤ 900) (e_ra : M 46 3 = nI ra) (hac : ac < b) (e_ac : M 46 4 = nI ac) (e_k : M 47 ac = 2) : x_M l G fX8_run 10 0 0 [.ref (46), .int (2), .int (0), .int (x), .int (nI (e))] x_SH M J (qKI WTN M J (fun r M2 => r = ((-((x + (nI (ac))) * 2)) - (1 ^^^ (nI (ac)))) ∧ M2 46 3 = nI (ra + 5) ∧ TrA 48 ra [2, 30, 10, 1, 11] M M2)) := by
  refine xb_of pX8 (Nat.le_of_ble_eq_true rfl) rfl ?_
  refine xr_aload_n dX8_run_0 0 rfl ?_
  refine xr_iload_n dX8_run_1 1 rfl ?_
  refine xr_callV (As := [.int (2)]) (rest := []) mlX8_56 (gt_X8_note 2 (by omega) e_ra) dX8_run_2 s_46 rfl rfl (Nat.le_of_ble_eq_true rfl) (by decide) ⟨by decide, by decide⟩ (fun v s2 M3 J2 hq => ?_)
  obtain ⟨rfl, rfl, rfl, k4, ⟨hx1, ht2⟩⟩ := hq
  try dsimp only [Option.toList, List.cons_append, List.nil_append]
  refine xr_iload_n dX8_run_5 1 rfl ?_
  refine xr_lookup (tgt := 127) (off := 121) dX8_run_6 (by decide) (by decide) rfl ?_
  refine xr_aload_n dX8_run_127 0 rfl ?_
  refine xr_iconst (v := 1) dX8_run_128 rfl ?_
  refine xr_iload_n dX8_run_129 3 rfl ?_
  refine xr_iload dX8_run_130 4 rfl ?_
  refine xr_callV (As := [.int (1), .int (x), .int (nI (e))]) (rest := []) mlX8_39 (tv2_own_1 (e := e) (ac := ac) x (by omega) (by omega) (Eq.trans (k4 46 2 (by decide)) e_b) (by omega) hx1 hac (Eq.trans (k4 46 4 (by decide)) e_ac) (Eq.trans (k4 47 ac (by unfold WTN; omega)) e_k)) dX8_run_132 s_46 rfl rfl (Nat.le_of_ble_eq_true rfl) (by decide) ⟨by decide, by decide⟩ (fun v s2 M8 J2 hq => ?_)
  obtain ⟨r10, rfl, rfl, rfl, k9, ⟨hr6, hx5, ht7⟩⟩ := hq
  try dsimp only [Option.toList, List.cons_append, List.nil_append]
  subst hr6
  refine xr_aload_n dX8_run_135 0 rfl ?_
  refine xr_iconst (v := 2) dX8_run_136 rfl ?_
  refine xr_iconst (v := 1) dX8_run_137 rfl ?_
  refine xr_iload dX8_run_138 4 rfl ?_
  refine xr_callV (As := [.int (2), .int (1), .int (nI (e))]) (rest := [.int ((-((x + (nI (ac))) * 2)))]) mlX8_39 (tv2_own_2 (e := e) (ac := ac) 1 (by omega) (by omega) (Eq.trans (k9 46 2 (by decide)) (Eq.trans (k4 46 2 (by decide)) e_b)) (by omega) hx5 hac (Eq.trans (k9 46 4 (by decide)) (Eq.trans (k4 46 4 (by decide)) e_ac)) (Eq.trans (k9 47 ac (by unfold WTN; omega)) (Eq.trans (k4 47 ac (by unfold WTN; omega)) e_k))) dX8_run_140 s_46 rfl rfl (Nat.le_of_ble_eq_true rfl) (by decide) ⟨by decide, by decide⟩ (fun v s2 M14 J2 hq => ?_)
  obtain ⟨r16, rfl, rfl, rfl, k15, ⟨hr12, hx11, ht13⟩⟩ := hq
  try dsimp only [Option.toList, List.cons_append, List.nil_append]
  subst hr12
  refine xr_isub dX8_run_143 ?_
  exact xr_iret dX8_run_144 rfl rfl (⟨_, rfl, rfl, rfl, (Ke.tr (fun _ _ h => h) (Ke.tr (fun _ _ h => h) (Ke.tr (fun _ _ h => h) Ke.rf k4) k9) k15), rfl, hx11, (TrA_app (l := [2, 30, 10, 1]) (m := [11]) (TrA_app (l := [2]) (m := [30, 10, 1]) ht2 ht7) ht13)⟩)
set_option maxRecDepth 100000 in
set_option maxHeartbeats 4000000 in
theorem tv2_runFrom_2_3 {e ac : Nat} (x : Int32) (he : e + 4 ≤ 30) {l : Launch} {G : xG} {M : xM} {J : xJ} {b ra : Nat} (h_b : b ≤ 50) (e_b : M 46 2 = nI b) (h_ra : ra + 5 ≤ 900) (e_ra : M 46 3 = nI ra) (hac : ac < b) (e_ac : M 46 4 = nI ac) (e_k : M 47 ac = 2) : x_M l G fX8_runFrom 11 0 0 [.ref (46), .int (2), .int (3), .int (x), .int (nI (e))] x_SH M J (qKI WTN M J (fun r M2 => r = ((-((x + (nI (ac))) * 2)) - (1 ^^^ (nI (ac)))) ∧ M2 46 3 = nI (ra + 5) ∧ TrA 48 ra [2, 30, 10, 1, 11] M M2)) := by
  refine xb_of pX8 (Nat.le_of_ble_eq_true rfl) rfl ?_
  refine xr_iload_n dX8_runFrom_0 1 rfl ?_
  refine xr_istore (ls2 := [(5, .int (2)), (0, .ref (46)), (1, .int (2)), (2, .int (3)), (3, .int (x)), (4, .int (nI (e)))]) dX8_runFrom_1 (by decide) rfl ?_
  refine xr_iconst (v := 0) dX8_runFrom_3 rfl ?_
  refine xr_istore (ls2 := [(6, .int (0)), (5, .int (2)), (0, .ref (46)), (1, .int (2)), (2, .int (3)), (3, .int (x)), (4, .int (nI (e)))]) dX8_runFrom_4 (by decide) rfl ?_
  refine xr_iload dX8_runFrom_6 0 rfl ?_
  refine xr_bipush (v := 8) dX8_runFrom_8 rfl ?_
  refine xr_icmp_ge (tgt := 81) dX8_runFrom_10 rfl (fun c => absurd c (by decide)) (fun _ => ?_)
  refine xr_iload dX8_runFrom_13 1 rfl ?_
  refine xb_cN (As := [.int (2)]) (rest := []) mlX8_26 (c_X9_isKind 2) dX8_runFrom_15 rfl rfl (Nat.le_of_ble_eq_true rfl) (by decide) (by decide) ?_
  refine xb_beq (tgt := 81) dX8_runFrom_18 rfl (fun c => absurd (by decide) c) (fun _ => ?_)
  refine xr_getsO slX8_50 dX8_runFrom_21 ?_
  refine xr_iload dX8_runFrom_24 1 rfl ?_
  refine xr_iconst (v := 4) dX8_runFrom_26 rfl ?_
  refine xr_imul dX8_runFrom_27 ?_
  refine xb_top (y := 8) (by decide) ?_
  refine xr_iload_n dX8_runFrom_28 4 rfl ?_
  refine xr_iadd dX8_runFrom_29 ?_
  refine xb_top (y := 11) (by decide) ?_
  refine xr_tabO (by unfold vp_in; decide) dX8_runFrom_30 ?_
  refine xb_top (y := 0) (by decide) ?_
  refine xr_if_eq (tgt := 67) dX8_runFrom_31 rfl (fun _ => ?_) (fun c => absurd (by decide) c)
  refine xr_getsA slX8_30 dX8_runFrom_67 ?_
  refine xr_iload dX8_runFrom_70 1 rfl ?_
  refine xr_tabA (by unfold vp_in; decide) dX8_runFrom_72 ?_
  refine xb_top (y := 0) (by decide) ?_
  refine xr_istore (ls2 := [(5, .int (0)), (6, .int (0)), (0, .ref (46)), (1, .int (2)), (2, .int (3)), (3, .int (x)), (4, .int (nI (e)))]) dX8_runFrom_73 (by decide) rfl ?_
  refine xr_iinc (v := 1) (ls2 := [(6, .int (1)), (5, .int (0)), (0, .ref (46)), (1, .int (2)), (2, .int (3)), (3, .int (x)), (4, .int (nI (e)))]) dX8_runFrom_75 1 rfl rfl (by decide) rfl ?_
  refine xr_goto (tgt := 6) dX8_runFrom_78 rfl ?_
  refine xr_iload dX8_runFrom_6 0 rfl ?_
  refine xr_bipush (v := 8) dX8_runFrom_8 rfl ?_
  refine xr_icmp_ge (tgt := 81) dX8_runFrom_10 rfl (fun c => absurd c (by decide)) (fun _ => ?_)
  refine xr_iload dX8_runFrom_13 1 rfl ?_
  refine xb_cN (As := [.int (0)]) (rest := []) mlX8_26 (c_X9_isKind 0) dX8_runFrom_15 rfl rfl (Nat.le_of_ble_eq_true rfl) (by decide) (by decide) ?_
  refine xb_beq (tgt := 81) dX8_runFrom_18 rfl (fun c => absurd (by decide) c) (fun _ => ?_)
  refine xr_getsO slX8_50 dX8_runFrom_21 ?_
  refine xr_iload dX8_runFrom_24 1 rfl ?_
  refine xr_iconst (v := 4) dX8_runFrom_26 rfl ?_
  refine xr_imul dX8_runFrom_27 ?_
  refine xb_top (y := 0) (by decide) ?_
  refine xr_iload_n dX8_runFrom_28 4 rfl ?_
  refine xr_iadd dX8_runFrom_29 ?_
  refine xb_top (y := 3) (by decide) ?_
  refine xr_tabO (by unfold vp_in; decide) dX8_runFrom_30 ?_
  refine xb_top (y := 2) (by decide) ?_
  refine xr_if_eq (tgt := 67) dX8_runFrom_31 rfl (fun c => absurd c (by decide)) (fun _ => ?_)
  refine xr_iload dX8_runFrom_34 6 rfl ?_
  refine xr_bipush (v := 30) dX8_runFrom_36 rfl ?_
  refine xr_icmp_ge (tgt := 65) dX8_runFrom_38 rfl (fun c => absurd c (nI_ge (a := e) (b := 30) (by omega) (by omega))) (fun _ => ?_)
  refine xr_aload_n dX8_runFrom_41 2 rfl ?_
  refine xr_getsO slX8_50 dX8_runFrom_42 ?_
  refine xr_iload dX8_runFrom_45 1 rfl ?_
  refine xr_iconst (v := 4) dX8_runFrom_47 rfl ?_
  refine xr_imul dX8_runFrom_48 ?_
  refine xb_top (y := 0) (by decide) ?_
  refine xr_iload_n dX8_runFrom_49 4 rfl ?_
  refine xr_iadd dX8_runFrom_50 ?_
  refine xb_top (y := 3) (by decide) ?_
  refine xr_tabO (by unfold vp_in; decide) dX8_runFrom_51 ?_
  refine xb_top (y := 2) (by decide) ?_
  refine xr_iload dX8_runFrom_52 1 rfl ?_
  refine xr_iload_n dX8_runFrom_54 5 rfl ?_
  refine xr_iload dX8_runFrom_55 6 rfl ?_
  refine xr_iconst (v := 1) dX8_runFrom_57 rfl ?_
  refine xr_iadd dX8_runFrom_58 ?_
  refine xb_top (y := nI (e + 1)) (nI_add (e) (1)) ?_
  refine xr_callV (As := [.int (2), .int (0), .int (x), .int (nI (e + 1))]) (rest := []) mlX8_53 (tv2_run_2_0 (e := e + 1) (ac := ac) x (by omega) (by omega) e_b (by omega) e_ra hac e_ac e_k) dX8_runFrom_59 s_46 rfl rfl (Nat.le_of_ble_eq_true rfl) (by decide) ⟨by decide, by decide⟩ (fun v s2 M6 J2 hq => ?_)
  obtain ⟨r8, rfl, rfl, rfl, k7, ⟨hr4, hx3, ht5⟩⟩ := hq
  try dsimp only [Option.toList, List.cons_append, List.nil_append]
  subst hr4
  refine xr_goto (tgt := 66) dX8_runFrom_62 rfl ?_
  exact xr_iret dX8_runFrom_66 rfl rfl (⟨_, rfl, rfl, rfl, (Ke.tr (fun _ _ h => h) Ke.rf k7), rfl, hx3, ht5⟩)
set_option maxRecDepth 100000 in
set_option maxHeartbeats 4000000 in
theorem tv2_own_3 {e ac : Nat} (x : Int32) (he : e + 4 ≤ 30) {l : Launch} {G : xG} {M : xM} {J : xJ} {b ra : Nat} (h_b : b ≤ 50) (e_b : M 46 2 = nI b) (h_ra : ra + 5 ≤ 900) (e_ra : M 46 3 = nI ra) (hac : ac < b) (e_ac : M 46 4 = nI ac) (e_k : M 47 ac = 2) : x_M l G fX8_own 12 0 0 [.ref (46), .int (3), .int (x), .int (nI (e))] x_SH M J (qKI WTN M J (fun r M2 => r = ((-((x + (nI (ac))) * 2)) - (1 ^^^ (nI (ac)))) ∧ M2 46 3 = nI (ra + 5) ∧ TrA 48 ra [2, 30, 10, 1, 11] M M2)) := by
  refine xb_of pX8 (Nat.le_of_ble_eq_true rfl) rfl ?_
  refine xr_aload_n dX8_own_0 0 rfl ?_
  refine xr_aload_n dX8_own_1 0 rfl ?_
  refine xb_get (v := nI (ac)) flX8_36 dX8_own_2 s_46 rfl e_ac ?_
  refine xb_cV (As := [.int (nI (ac))]) (rest := []) mlX8_43 (c_X8_has (nI (ac)) (by omega) e_b) dX8_own_5 s_46 rfl rfl (Nat.le_of_ble_eq_true rfl) (by decide) (by decide) ?_
  refine xb_beq (tgt := 30) dX8_own_8 rfl (fun c => absurd ⟨nI_pos' (by omega), nI_lt (by omega) (by omega)⟩ c) (fun _ => ?_)
  refine xr_aload_n dX8_own_11 0 rfl ?_
  refine xr_aload_n dX8_own_12 0 rfl ?_
  refine xr_getR flX8_9 dX8_own_13 s_46 rfl ?_
  refine xr_aload_n dX8_own_16 0 rfl ?_
  refine xb_get (v := nI (ac)) flX8_36 dX8_own_17 s_46 rfl e_ac ?_
  refine xb_iald (j := ac) (v := 2) dX8_own_20 s_47 (by omega) (by decide) e_k ?_
  refine xr_iload_n dX8_own_21 1 rfl ?_
  refine xr_iload_n dX8_own_22 2 rfl ?_
  refine xr_iload_n dX8_own_23 3 rfl ?_
  refine xr_callV (As := [.int (2), .int (3), .int (x), .int (nI (e))]) (rest := []) mlX8_46 (tv2_runFrom_2_3 (e := e) (ac := ac) x (by omega) (by omega) e_b (by omega) e_ra hac e_ac e_k) dX8_own_24 s_46 rfl rfl (Nat.le_of_ble_eq_true rfl) (by decide) ⟨by decide, by decide⟩ (fun v s2 M5 J2 hq => ?_)
  obtain ⟨r7, rfl, rfl, rfl, k6, ⟨hr3, hx2, ht4⟩⟩ := hq
  try dsimp only [Option.toList, List.cons_append, List.nil_append]
  subst hr3
  refine xr_goto (tgt := 31) dX8_own_27 rfl ?_
  exact xr_iret dX8_own_31 rfl rfl (⟨_, rfl, rfl, rfl, (Ke.tr (fun _ _ h => h) Ke.rf k6), rfl, hx2, ht4⟩)
set_option maxRecDepth 100000 in
set_option maxHeartbeats 4000000 in
theorem tw2_3 {ac b : Nat} (x : Int32) {l : Launch} {G : xG} {M : xM} {J : xJ} (h_b : b ≤ 50) (e_b : M 46 2 = nI b) (hac : ac < b) (e_k : M 47 ac = 2) : x_M l G fX8_perform 13 0 0 [.ref (46), .int (nI (ac)), .int (3), .int (x)] x_SH M J (qKI WTR M J (fun r M2 => M2 46 3 = nI 5 ∧ TrF 48 [2, 30, 10, 1, 11] M2)) := by
  refine xb_of pX8 (Nat.le_of_ble_eq_true rfl) rfl ?_
  refine xr_aload_n dX8_perform_0 0 rfl ?_
  refine xr_iconst (v := 0) dX8_perform_1 rfl ?_
  refine xr_putI fpX8_33 dX8_perform_2 s_46 rfl rfl rfl ?_
  refine xr_aload_n dX8_perform_5 0 rfl ?_
  refine xr_iload_n dX8_perform_6 1 rfl ?_
  refine xr_putI fpX8_36 dX8_perform_7 s_46 rfl rfl rfl ?_
  refine xr_aload_n dX8_perform_10 0 rfl ?_
  refine xr_iload_n dX8_perform_11 2 rfl ?_
  refine xr_iload_n dX8_perform_12 3 rfl ?_
  refine xr_iconst (v := 0) dX8_perform_13 rfl ?_
  refine xr_callV (As := [.int (3), .int (x), .int (0)]) (rest := []) mlX8_39 (tv2_own_3 (e := 0) (ac := ac) (ra := 0) x (by omega) h_b (Eq.trans (x_up_k _ _ _ (by decide)) (Eq.trans (x_up_k _ _ _ (by decide)) e_b)) (by omega) (Eq.trans (x_up_k _ _ _ (by decide)) (x_up_s _ _ _ _)) hac (x_up_s _ _ _ _) (Eq.trans (congrFun (x_up_n _ _ _ (by decide)) _) (Eq.trans (congrFun (x_up_n _ _ _ (by decide)) _) e_k))) dX8_perform_14 s_46 rfl rfl (Nat.le_of_ble_eq_true rfl) (by decide) ⟨by decide, by decide⟩ (fun v s2 M4 J2 hq => ?_)
  obtain ⟨r6, rfl, rfl, rfl, k5, ⟨hr2, hx1, ht3⟩⟩ := hq
  try dsimp only [Option.toList, List.cons_append, List.nil_append]
  subst hr2
  exact xr_iret dX8_perform_17 rfl rfl (⟨_, rfl, rfl, rfl, (Ke.tr (fun pp kk => (fun hh => Or.elim hh (fun h => (Or.inl h)) (fun h => (Or.inr (Or.inr h))))) (Ke.up (Or.inr (Or.inl (by omega))) (Ke.up (Or.inl (by omega)) Ke.rf)) k5), ⟨(hx1.trans (congrArg nI (Nat.zero_add _))), TrA_F ht3⟩⟩)
set_option maxRecDepth 100000 in
set_option maxHeartbeats 4000000 in
theorem tv3_run_1_0 {e ac : Nat} (x : Int32) (he : e + 0 ≤ 30) {l : Launch} {G : xG} {M : xM} {J : xJ} {b ra : Nat} (h_b : b ≤ 50) (e_b : M 46 2 = nI b) (h_ra : ra + 1 ≤ 900) (e_ra : M 46 3 = nI ra) (hac : ac < b) (e_ac : M 46 4 = nI ac) (e_k : M 47 ac = 3) : x_M l G fX8_run 1 0 0 [.ref (46), .int (1), .int (0), .int (x), .int (nI (e))] x_SH M J (qKI WTN M J (fun r M2 => r = (x + (nI (ac))) ∧ M2 46 3 = nI (ra + 1) ∧ TrA 48 ra [1] M M2)) := by
  refine xb_of pX8 (Nat.le_of_ble_eq_true rfl) rfl ?_
  refine xr_aload_n dX8_run_0 0 rfl ?_
  refine xr_iload_n dX8_run_1 1 rfl ?_
  refine xr_callV (As := [.int (1)]) (rest := []) mlX8_56 (gt_X8_note 1 (by omega) e_ra) dX8_run_2 s_46 rfl rfl (Nat.le_of_ble_eq_true rfl) (by decide) ⟨by decide, by decide⟩ (fun v s2 M3 J2 hq => ?_)
  obtain ⟨rfl, rfl, rfl, k4, ⟨hx1, ht2⟩⟩ := hq
  try dsimp only [Option.toList, List.cons_append, List.nil_append]
  refine xr_iload_n dX8_run_5 1 rfl ?_
  refine xr_lookup (tgt := 120) (off := 114) dX8_run_6 (by decide) (by decide) rfl ?_
  refine xr_iload_n dX8_run_120 3 rfl ?_
  refine xr_aload_n dX8_run_121 0 rfl ?_
  refine xb_get (v := nI (ac)) flX8_36 dX8_run_122 s_46 rfl (Eq.trans (k4 46 4 (by decide)) e_ac) ?_
  refine xr_iadd dX8_run_125 ?_
  exact xr_iret dX8_run_126 rfl rfl (⟨_, rfl, rfl, rfl, (Ke.tr (fun _ _ h => h) Ke.rf k4), rfl, hx1, ht2⟩)
set_option maxRecDepth 100000 in
set_option maxHeartbeats 4000000 in
theorem tv3_runFrom_3_0 {e ac : Nat} (x : Int32) (he : e + 1 ≤ 30) {l : Launch} {G : xG} {M : xM} {J : xJ} {b ra : Nat} (h_b : b ≤ 50) (e_b : M 46 2 = nI b) (h_ra : ra + 1 ≤ 900) (e_ra : M 46 3 = nI ra) (hac : ac < b) (e_ac : M 46 4 = nI ac) (e_k : M 47 ac = 3) : x_M l G fX8_runFrom 2 0 0 [.ref (46), .int (3), .int (0), .int (x), .int (nI (e))] x_SH M J (qKI WTN M J (fun r M2 => r = (x + (nI (ac))) ∧ M2 46 3 = nI (ra + 1) ∧ TrA 48 ra [1] M M2)) := by
  refine xb_of pX8 (Nat.le_of_ble_eq_true rfl) rfl ?_
  refine xr_iload_n dX8_runFrom_0 1 rfl ?_
  refine xr_istore (ls2 := [(5, .int (3)), (0, .ref (46)), (1, .int (3)), (2, .int (0)), (3, .int (x)), (4, .int (nI (e)))]) dX8_runFrom_1 (by decide) rfl ?_
  refine xr_iconst (v := 0) dX8_runFrom_3 rfl ?_
  refine xr_istore (ls2 := [(6, .int (0)), (5, .int (3)), (0, .ref (46)), (1, .int (3)), (2, .int (0)), (3, .int (x)), (4, .int (nI (e)))]) dX8_runFrom_4 (by decide) rfl ?_
  refine xr_iload dX8_runFrom_6 0 rfl ?_
  refine xr_bipush (v := 8) dX8_runFrom_8 rfl ?_
  refine xr_icmp_ge (tgt := 81) dX8_runFrom_10 rfl (fun c => absurd c (by decide)) (fun _ => ?_)
  refine xr_iload dX8_runFrom_13 1 rfl ?_
  refine xb_cN (As := [.int (3)]) (rest := []) mlX8_26 (c_X9_isKind 3) dX8_runFrom_15 rfl rfl (Nat.le_of_ble_eq_true rfl) (by decide) (by decide) ?_
  refine xb_beq (tgt := 81) dX8_runFrom_18 rfl (fun c => absurd (by decide) c) (fun _ => ?_)
  refine xr_getsO slX8_50 dX8_runFrom_21 ?_
  refine xr_iload dX8_runFrom_24 1 rfl ?_
  refine xr_iconst (v := 4) dX8_runFrom_26 rfl ?_
  refine xr_imul dX8_runFrom_27 ?_
  refine xb_top (y := 12) (by decide) ?_
  refine xr_iload_n dX8_runFrom_28 4 rfl ?_
  refine xr_iadd dX8_runFrom_29 ?_
  refine xb_top (y := 12) (by decide) ?_
  refine xr_tabO (by unfold vp_in; decide) dX8_runFrom_30 ?_
  refine xb_top (y := 0) (by decide) ?_
  refine xr_if_eq (tgt := 67) dX8_runFrom_31 rfl (fun _ => ?_) (fun c => absurd (by decide) c)
  refine xr_getsA slX8_30 dX8_runFrom_67 ?_
  refine xr_iload dX8_runFrom_70 1 rfl ?_
  refine xr_tabA (by unfold vp_in; decide) dX8_runFrom_72 ?_
  refine xb_top (y := 2) (by decide) ?_
  refine xr_istore (ls2 := [(5, .int (2)), (6, .int (0)), (0, .ref (46)), (1, .int (3)), (2, .int (0)), (3, .int (x)), (4, .int (nI (e)))]) dX8_runFrom_73 (by decide) rfl ?_
  refine xr_iinc (v := 1) (ls2 := [(6, .int (1)), (5, .int (2)), (0, .ref (46)), (1, .int (3)), (2, .int (0)), (3, .int (x)), (4, .int (nI (e)))]) dX8_runFrom_75 1 rfl rfl (by decide) rfl ?_
  refine xr_goto (tgt := 6) dX8_runFrom_78 rfl ?_
  refine xr_iload dX8_runFrom_6 0 rfl ?_
  refine xr_bipush (v := 8) dX8_runFrom_8 rfl ?_
  refine xr_icmp_ge (tgt := 81) dX8_runFrom_10 rfl (fun c => absurd c (by decide)) (fun _ => ?_)
  refine xr_iload dX8_runFrom_13 1 rfl ?_
  refine xb_cN (As := [.int (2)]) (rest := []) mlX8_26 (c_X9_isKind 2) dX8_runFrom_15 rfl rfl (Nat.le_of_ble_eq_true rfl) (by decide) (by decide) ?_
  refine xb_beq (tgt := 81) dX8_runFrom_18 rfl (fun c => absurd (by decide) c) (fun _ => ?_)
  refine xr_getsO slX8_50 dX8_runFrom_21 ?_
  refine xr_iload dX8_runFrom_24 1 rfl ?_
  refine xr_iconst (v := 4) dX8_runFrom_26 rfl ?_
  refine xr_imul dX8_runFrom_27 ?_
  refine xb_top (y := 8) (by decide) ?_
  refine xr_iload_n dX8_runFrom_28 4 rfl ?_
  refine xr_iadd dX8_runFrom_29 ?_
  refine xb_top (y := 8) (by decide) ?_
  refine xr_tabO (by unfold vp_in; decide) dX8_runFrom_30 ?_
  refine xb_top (y := 0) (by decide) ?_
  refine xr_if_eq (tgt := 67) dX8_runFrom_31 rfl (fun _ => ?_) (fun c => absurd (by decide) c)
  refine xr_getsA slX8_30 dX8_runFrom_67 ?_
  refine xr_iload dX8_runFrom_70 1 rfl ?_
  refine xr_tabA (by unfold vp_in; decide) dX8_runFrom_72 ?_
  refine xb_top (y := 0) (by decide) ?_
  refine xr_istore (ls2 := [(5, .int (0)), (6, .int (1)), (0, .ref (46)), (1, .int (3)), (2, .int (0)), (3, .int (x)), (4, .int (nI (e)))]) dX8_runFrom_73 (by decide) rfl ?_
  refine xr_iinc (v := 2) (ls2 := [(6, .int (2)), (5, .int (0)), (0, .ref (46)), (1, .int (3)), (2, .int (0)), (3, .int (x)), (4, .int (nI (e)))]) dX8_runFrom_75 1 rfl rfl (by decide) rfl ?_
  refine xr_goto (tgt := 6) dX8_runFrom_78 rfl ?_
  refine xr_iload dX8_runFrom_6 0 rfl ?_
  refine xr_bipush (v := 8) dX8_runFrom_8 rfl ?_
  refine xr_icmp_ge (tgt := 81) dX8_runFrom_10 rfl (fun c => absurd c (by decide)) (fun _ => ?_)
  refine xr_iload dX8_runFrom_13 1 rfl ?_
  refine xb_cN (As := [.int (0)]) (rest := []) mlX8_26 (c_X9_isKind 0) dX8_runFrom_15 rfl rfl (Nat.le_of_ble_eq_true rfl) (by decide) (by decide) ?_
  refine xb_beq (tgt := 81) dX8_runFrom_18 rfl (fun c => absurd (by decide) c) (fun _ => ?_)
  refine xr_getsO slX8_50 dX8_runFrom_21 ?_
  refine xr_iload dX8_runFrom_24 1 rfl ?_
  refine xr_iconst (v := 4) dX8_runFrom_26 rfl ?_
  refine xr_imul dX8_runFrom_27 ?_
  refine xb_top (y := 0) (by decide) ?_
  refine xr_iload_n dX8_runFrom_28 4 rfl ?_
  refine xr_iadd dX8_runFrom_29 ?_
  refine xb_top (y := 0) (by decide) ?_
  refine xr_tabO (by unfold vp_in; decide) dX8_runFrom_30 ?_
  refine xb_top (y := 1) (by decide) ?_
  refine xr_if_eq (tgt := 67) dX8_runFrom_31 rfl (fun c => absurd c (by decide)) (fun _ => ?_)
  refine xr_iload dX8_runFrom_34 6 rfl ?_
  refine xr_bipush (v := 30) dX8_runFrom_36 rfl ?_
  refine xr_icmp_ge (tgt := 65) dX8_runFrom_38 rfl (fun c => absurd c (nI_ge (a := e) (b := 30) (by omega) (by omega))) (fun _ => ?_)
  refine xr_aload_n dX8_runFrom_41 2 rfl ?_
  refine xr_getsO slX8_50 dX8_runFrom_42 ?_
  refine xr_iload dX8_runFrom_45 1 rfl ?_
  refine xr_iconst (v := 4) dX8_runFrom_47 rfl ?_
  refine xr_imul dX8_runFrom_48 ?_
  refine xb_top (y := 0) (by decide) ?_
  refine xr_iload_n dX8_runFrom_49 4 rfl ?_
  refine xr_iadd dX8_runFrom_50 ?_
  refine xb_top (y := 0) (by decide) ?_
  refine xr_tabO (by unfold vp_in; decide) dX8_runFrom_51 ?_
  refine xb_top (y := 1) (by decide) ?_
  refine xr_iload dX8_runFrom_52 1 rfl ?_
  refine xr_iload_n dX8_runFrom_54 5 rfl ?_
  refine xr_iload dX8_runFrom_55 6 rfl ?_
  refine xr_iconst (v := 1) dX8_runFrom_57 rfl ?_
  refine xr_iadd dX8_runFrom_58 ?_
  refine xb_top (y := nI (e + 1)) (nI_add (e) (1)) ?_
  refine xr_callV (As := [.int (1), .int (0), .int (x), .int (nI (e + 1))]) (rest := []) mlX8_53 (tv3_run_1_0 (e := e + 1) (ac := ac) x (by omega) (by omega) e_b (by omega) e_ra hac e_ac e_k) dX8_runFrom_59 s_46 rfl rfl (Nat.le_of_ble_eq_true rfl) (by decide) ⟨by decide, by decide⟩ (fun v s2 M7 J2 hq => ?_)
  obtain ⟨r9, rfl, rfl, rfl, k8, ⟨hr5, hx4, ht6⟩⟩ := hq
  try dsimp only [Option.toList, List.cons_append, List.nil_append]
  subst hr5
  refine xr_goto (tgt := 66) dX8_runFrom_62 rfl ?_
  exact xr_iret dX8_runFrom_66 rfl rfl (⟨_, rfl, rfl, rfl, (Ke.tr (fun _ _ h => h) Ke.rf k8), rfl, hx4, ht6⟩)
set_option maxRecDepth 100000 in
set_option maxHeartbeats 4000000 in
theorem tv3_own_0 {e ac : Nat} (x : Int32) (he : e + 1 ≤ 30) {l : Launch} {G : xG} {M : xM} {J : xJ} {b ra : Nat} (h_b : b ≤ 50) (e_b : M 46 2 = nI b) (h_ra : ra + 1 ≤ 900) (e_ra : M 46 3 = nI ra) (hac : ac < b) (e_ac : M 46 4 = nI ac) (e_k : M 47 ac = 3) : x_M l G fX8_own 3 0 0 [.ref (46), .int (0), .int (x), .int (nI (e))] x_SH M J (qKI WTN M J (fun r M2 => r = (x + (nI (ac))) ∧ M2 46 3 = nI (ra + 1) ∧ TrA 48 ra [1] M M2)) := by
  refine xb_of pX8 (Nat.le_of_ble_eq_true rfl) rfl ?_
  refine xr_aload_n dX8_own_0 0 rfl ?_
  refine xr_aload_n dX8_own_1 0 rfl ?_
  refine xb_get (v := nI (ac)) flX8_36 dX8_own_2 s_46 rfl e_ac ?_
  refine xb_cV (As := [.int (nI (ac))]) (rest := []) mlX8_43 (c_X8_has (nI (ac)) (by omega) e_b) dX8_own_5 s_46 rfl rfl (Nat.le_of_ble_eq_true rfl) (by decide) (by decide) ?_
  refine xb_beq (tgt := 30) dX8_own_8 rfl (fun c => absurd ⟨nI_pos' (by omega), nI_lt (by omega) (by omega)⟩ c) (fun _ => ?_)
  refine xr_aload_n dX8_own_11 0 rfl ?_
  refine xr_aload_n dX8_own_12 0 rfl ?_
  refine xr_getR flX8_9 dX8_own_13 s_46 rfl ?_
  refine xr_aload_n dX8_own_16 0 rfl ?_
  refine xb_get (v := nI (ac)) flX8_36 dX8_own_17 s_46 rfl e_ac ?_
  refine xb_iald (j := ac) (v := 3) dX8_own_20 s_47 (by omega) (by decide) e_k ?_
  refine xr_iload_n dX8_own_21 1 rfl ?_
  refine xr_iload_n dX8_own_22 2 rfl ?_
  refine xr_iload_n dX8_own_23 3 rfl ?_
  refine xr_callV (As := [.int (3), .int (0), .int (x), .int (nI (e))]) (rest := []) mlX8_46 (tv3_runFrom_3_0 (e := e) (ac := ac) x (by omega) (by omega) e_b (by omega) e_ra hac e_ac e_k) dX8_own_24 s_46 rfl rfl (Nat.le_of_ble_eq_true rfl) (by decide) ⟨by decide, by decide⟩ (fun v s2 M5 J2 hq => ?_)
  obtain ⟨r7, rfl, rfl, rfl, k6, ⟨hr3, hx2, ht4⟩⟩ := hq
  try dsimp only [Option.toList, List.cons_append, List.nil_append]
  subst hr3
  refine xr_goto (tgt := 31) dX8_own_27 rfl ?_
  exact xr_iret dX8_own_31 rfl rfl (⟨_, rfl, rfl, rfl, (Ke.tr (fun _ _ h => h) Ke.rf k6), rfl, hx2, ht4⟩)
set_option maxRecDepth 100000 in
set_option maxHeartbeats 4000000 in
theorem tw3_0 {ac b : Nat} (x : Int32) {l : Launch} {G : xG} {M : xM} {J : xJ} (h_b : b ≤ 50) (e_b : M 46 2 = nI b) (hac : ac < b) (e_k : M 47 ac = 3) : x_M l G fX8_perform 4 0 0 [.ref (46), .int (nI (ac)), .int (0), .int (x)] x_SH M J (qKI WTR M J (fun r M2 => M2 46 3 = nI 1 ∧ TrF 48 [1] M2)) := by
  refine xb_of pX8 (Nat.le_of_ble_eq_true rfl) rfl ?_
  refine xr_aload_n dX8_perform_0 0 rfl ?_
  refine xr_iconst (v := 0) dX8_perform_1 rfl ?_
  refine xr_putI fpX8_33 dX8_perform_2 s_46 rfl rfl rfl ?_
  refine xr_aload_n dX8_perform_5 0 rfl ?_
  refine xr_iload_n dX8_perform_6 1 rfl ?_
  refine xr_putI fpX8_36 dX8_perform_7 s_46 rfl rfl rfl ?_
  refine xr_aload_n dX8_perform_10 0 rfl ?_
  refine xr_iload_n dX8_perform_11 2 rfl ?_
  refine xr_iload_n dX8_perform_12 3 rfl ?_
  refine xr_iconst (v := 0) dX8_perform_13 rfl ?_
  refine xr_callV (As := [.int (0), .int (x), .int (0)]) (rest := []) mlX8_39 (tv3_own_0 (e := 0) (ac := ac) (ra := 0) x (by omega) h_b (Eq.trans (x_up_k _ _ _ (by decide)) (Eq.trans (x_up_k _ _ _ (by decide)) e_b)) (by omega) (Eq.trans (x_up_k _ _ _ (by decide)) (x_up_s _ _ _ _)) hac (x_up_s _ _ _ _) (Eq.trans (congrFun (x_up_n _ _ _ (by decide)) _) (Eq.trans (congrFun (x_up_n _ _ _ (by decide)) _) e_k))) dX8_perform_14 s_46 rfl rfl (Nat.le_of_ble_eq_true rfl) (by decide) ⟨by decide, by decide⟩ (fun v s2 M4 J2 hq => ?_)
  obtain ⟨r6, rfl, rfl, rfl, k5, ⟨hr2, hx1, ht3⟩⟩ := hq
  try dsimp only [Option.toList, List.cons_append, List.nil_append]
  subst hr2
  exact xr_iret dX8_perform_17 rfl rfl (⟨_, rfl, rfl, rfl, (Ke.tr (fun pp kk => (fun hh => Or.elim hh (fun h => (Or.inl h)) (fun h => (Or.inr (Or.inr h))))) (Ke.up (Or.inr (Or.inl (by omega))) (Ke.up (Or.inl (by omega)) Ke.rf)) k5), ⟨(hx1.trans (congrArg nI (Nat.zero_add _))), TrA_F ht3⟩⟩)
set_option maxRecDepth 100000 in
set_option maxHeartbeats 4000000 in
theorem tv3_run_10_0 {e ac : Nat} (x : Int32) (he : e + 1 ≤ 30) {l : Launch} {G : xG} {M : xM} {J : xJ} {b ra : Nat} (h_b : b ≤ 50) (e_b : M 46 2 = nI b) (h_ra : ra + 2 ≤ 900) (e_ra : M 46 3 = nI ra) (hac : ac < b) (e_ac : M 46 4 = nI ac) (e_k : M 47 ac = 3) : x_M l G fX8_run 4 0 0 [.ref (46), .int (10), .int (0), .int (x), .int (nI (e))] x_SH M J (qKI WTN M J (fun r M2 => r = ((x + (nI (ac))) * 2) ∧ M2 46 3 = nI (ra + 2) ∧ TrA 48 ra [10, 1] M M2)) := by
  refine xb_of pX8 (Nat.le_of_ble_eq_true rfl) rfl ?_
  refine xr_aload_n dX8_run_0 0 rfl ?_
  refine xr_iload_n dX8_run_1 1 rfl ?_
  refine xr_callV (As := [.int (10)]) (rest := []) mlX8_56 (gt_X8_note 10 (by omega) e_ra) dX8_run_2 s_46 rfl rfl (Nat.le_of_ble_eq_true rfl) (by decide) ⟨by decide, by decide⟩ (fun v s2 M3 J2 hq => ?_)
  obtain ⟨rfl, rfl, rfl, k4, ⟨hx1, ht2⟩⟩ := hq
  try dsimp only [Option.toList, List.cons_append, List.nil_append]
  refine xr_iload_n dX8_run_5 1 rfl ?_
  refine xr_lookup (tgt := 145) (off := 139) dX8_run_6 (by decide) (by decide) rfl ?_
  refine xr_aload_n dX8_run_145 0 rfl ?_
  refine xr_iconst (v := 0) dX8_run_146 rfl ?_
  refine xr_iload_n dX8_run_147 3 rfl ?_
  refine xr_iload dX8_run_148 4 rfl ?_
  refine xr_callV (As := [.int (0), .int (x), .int (nI (e))]) (rest := []) mlX8_39 (tv3_own_0 (e := e) (ac := ac) x (by omega) (by omega) (Eq.trans (k4 46 2 (by decide)) e_b) (by omega) hx1 hac (Eq.trans (k4 46 4 (by decide)) e_ac) (Eq.trans (k4 47 ac (by unfold WTN; omega)) e_k)) dX8_run_150 s_46 rfl rfl (Nat.le_of_ble_eq_true rfl) (by decide) ⟨by decide, by decide⟩ (fun v s2 M8 J2 hq => ?_)
  obtain ⟨r10, rfl, rfl, rfl, k9, ⟨hr6, hx5, ht7⟩⟩ := hq
  try dsimp only [Option.toList, List.cons_append, List.nil_append]
  subst hr6
  refine xr_iconst (v := 2) dX8_run_153 rfl ?_
  refine xr_imul dX8_run_154 ?_
  exact xr_iret dX8_run_155 rfl rfl (⟨_, rfl, rfl, rfl, (Ke.tr (fun _ _ h => h) (Ke.tr (fun _ _ h => h) Ke.rf k4) k9), rfl, hx5, (TrA_app (l := [10]) (m := [1]) ht2 ht7)⟩)
set_option maxRecDepth 100000 in
set_option maxHeartbeats 4000000 in
theorem tv3_runFrom_0_1 {e ac : Nat} (x : Int32) (he : e + 2 ≤ 30) {l : Launch} {G : xG} {M : xM} {J : xJ} {b ra : Nat} (h_b : b ≤ 50) (e_b : M 46 2 = nI b) (h_ra : ra + 2 ≤ 900) (e_ra : M 46 3 = nI ra) (hac : ac < b) (e_ac : M 46 4 = nI ac) (e_k : M 47 ac = 3) : x_M l G fX8_runFrom 5 0 0 [.ref (46), .int (0), .int (1), .int (x), .int (nI (e))] x_SH M J (qKI WTN M J (fun r M2 => r = ((x + (nI (ac))) * 2) ∧ M2 46 3 = nI (ra + 2) ∧ TrA 48 ra [10, 1] M M2)) := by
  refine xb_of pX8 (Nat.le_of_ble_eq_true rfl) rfl ?_
  refine xr_iload_n dX8_runFrom_0 1 rfl ?_
  refine xr_istore (ls2 := [(5, .int (0)), (0, .ref (46)), (1, .int (0)), (2, .int (1)), (3, .int (x)), (4, .int (nI (e)))]) dX8_runFrom_1 (by decide) rfl ?_
  refine xr_iconst (v := 0) dX8_runFrom_3 rfl ?_
  refine xr_istore (ls2 := [(6, .int (0)), (5, .int (0)), (0, .ref (46)), (1, .int (0)), (2, .int (1)), (3, .int (x)), (4, .int (nI (e)))]) dX8_runFrom_4 (by decide) rfl ?_
  refine xr_iload dX8_runFrom_6 0 rfl ?_
  refine xr_bipush (v := 8) dX8_runFrom_8 rfl ?_
  refine xr_icmp_ge (tgt := 81) dX8_runFrom_10 rfl (fun c => absurd c (by decide)) (fun _ => ?_)
  refine xr_iload dX8_runFrom_13 1 rfl ?_
  refine xb_cN (As := [.int (0)]) (rest := []) mlX8_26 (c_X9_isKind 0) dX8_runFrom_15 rfl rfl (Nat.le_of_ble_eq_true rfl) (by decide) (by decide) ?_
  refine xb_beq (tgt := 81) dX8_runFrom_18 rfl (fun c => absurd (by decide) c) (fun _ => ?_)
  refine xr_getsO slX8_50 dX8_runFrom_21 ?_
  refine xr_iload dX8_runFrom_24 1 rfl ?_
  refine xr_iconst (v := 4) dX8_runFrom_26 rfl ?_
  refine xr_imul dX8_runFrom_27 ?_
  refine xb_top (y := 0) (by decide) ?_
  refine xr_iload_n dX8_runFrom_28 4 rfl ?_
  refine xr_iadd dX8_runFrom_29 ?_
  refine xb_top (y := 1) (by decide) ?_
  refine xr_tabO (by unfold vp_in; decide) dX8_runFrom_30 ?_
  refine xb_top (y := 10) (by decide) ?_
  refine xr_if_eq (tgt := 67) dX8_runFrom_31 rfl (fun c => absurd c (by decide)) (fun _ => ?_)
  refine xr_iload dX8_runFrom_34 6 rfl ?_
  refine xr_bipush (v := 30) dX8_runFrom_36 rfl ?_
  refine xr_icmp_ge (tgt := 65) dX8_runFrom_38 rfl (fun c => absurd c (nI_ge (a := e) (b := 30) (by omega) (by omega))) (fun _ => ?_)
  refine xr_aload_n dX8_runFrom_41 2 rfl ?_
  refine xr_getsO slX8_50 dX8_runFrom_42 ?_
  refine xr_iload dX8_runFrom_45 1 rfl ?_
  refine xr_iconst (v := 4) dX8_runFrom_47 rfl ?_
  refine xr_imul dX8_runFrom_48 ?_
  refine xb_top (y := 0) (by decide) ?_
  refine xr_iload_n dX8_runFrom_49 4 rfl ?_
  refine xr_iadd dX8_runFrom_50 ?_
  refine xb_top (y := 1) (by decide) ?_
  refine xr_tabO (by unfold vp_in; decide) dX8_runFrom_51 ?_
  refine xb_top (y := 10) (by decide) ?_
  refine xr_iload dX8_runFrom_52 1 rfl ?_
  refine xr_iload_n dX8_runFrom_54 5 rfl ?_
  refine xr_iload dX8_runFrom_55 6 rfl ?_
  refine xr_iconst (v := 1) dX8_runFrom_57 rfl ?_
  refine xr_iadd dX8_runFrom_58 ?_
  refine xb_top (y := nI (e + 1)) (nI_add (e) (1)) ?_
  refine xr_callV (As := [.int (10), .int (0), .int (x), .int (nI (e + 1))]) (rest := []) mlX8_53 (tv3_run_10_0 (e := e + 1) (ac := ac) x (by omega) (by omega) e_b (by omega) e_ra hac e_ac e_k) dX8_runFrom_59 s_46 rfl rfl (Nat.le_of_ble_eq_true rfl) (by decide) ⟨by decide, by decide⟩ (fun v s2 M5 J2 hq => ?_)
  obtain ⟨r7, rfl, rfl, rfl, k6, ⟨hr3, hx2, ht4⟩⟩ := hq
  try dsimp only [Option.toList, List.cons_append, List.nil_append]
  subst hr3
  refine xr_goto (tgt := 66) dX8_runFrom_62 rfl ?_
  exact xr_iret dX8_runFrom_66 rfl rfl (⟨_, rfl, rfl, rfl, (Ke.tr (fun _ _ h => h) Ke.rf k6), rfl, hx2, ht4⟩)
set_option maxRecDepth 100000 in
set_option maxHeartbeats 4000000 in
theorem tv3_above_2_1 {e ac : Nat} (x : Int32) (he : e + 2 ≤ 30) {l : Launch} {G : xG} {M : xM} {J : xJ} {b ra : Nat} (h_b : b ≤ 50) (e_b : M 46 2 = nI b) (h_ra : ra + 2 ≤ 900) (e_ra : M 46 3 = nI ra) (hac : ac < b) (e_ac : M 46 4 = nI ac) (e_k : M 47 ac = 3) : x_M l G fX8_above 6 0 0 [.ref (46), .int (2), .int (1), .int (x), .int (nI (e))] x_SH M J (qKI WTN M J (fun r M2 => r = ((x + (nI (ac))) * 2) ∧ M2 46 3 = nI (ra + 2) ∧ TrA 48 ra [10, 1] M M2)) := by
  refine xb_of pX8 (Nat.le_of_ble_eq_true rfl) rfl ?_
  refine xr_iload_n dX8_above_0 1 rfl ?_
  refine xb_cN (As := [.int (2)]) (rest := []) mlX8_26 (c_X9_isKind 2) dX8_above_1 rfl rfl (Nat.le_of_ble_eq_true rfl) (by decide) (by decide) ?_
  refine xb_beq (tgt := 23) dX8_above_4 rfl (fun c => absurd (by decide) c) (fun _ => ?_)
  refine xr_aload_n dX8_above_7 0 rfl ?_
  refine xr_getsA slX8_30 dX8_above_8 ?_
  refine xr_iload_n dX8_above_11 1 rfl ?_
  refine xr_tabA (by unfold vp_in; decide) dX8_above_12 ?_
  refine xb_top (y := 0) (by decide) ?_
  refine xr_iload_n dX8_above_13 2 rfl ?_
  refine xr_iload_n dX8_above_14 3 rfl ?_
  refine xr_iload dX8_above_15 4 rfl ?_
  refine xr_callV (As := [.int (0), .int (1), .int (x), .int (nI (e))]) (rest := []) mlX8_46 (tv3_runFrom_0_1 (e := e) (ac := ac) x (by omega) (by omega) e_b (by omega) e_ra hac e_ac e_k) dX8_above_17 s_46 rfl rfl (Nat.le_of_ble_eq_true rfl) (by decide) ⟨by decide, by decide⟩ (fun v s2 M5 J2 hq => ?_)
  obtain ⟨r7, rfl, rfl, rfl, k6, ⟨hr3, hx2, ht4⟩⟩ := hq
  try dsimp only [Option.toList, List.cons_append, List.nil_append]
  subst hr3
  refine xr_goto (tgt := 24) dX8_above_20 rfl ?_
  exact xr_iret dX8_above_24 rfl rfl (⟨_, rfl, rfl, rfl, (Ke.tr (fun _ _ h => h) Ke.rf k6), rfl, hx2, ht4⟩)
set_option maxRecDepth 100000 in
set_option maxHeartbeats 4000000 in
theorem tv3_run_30_2 {e ac : Nat} (x : Int32) (he : e + 2 ≤ 30) {l : Launch} {G : xG} {M : xM} {J : xJ} {b ra : Nat} (h_b : b ≤ 50) (e_b : M 46 2 = nI b) (h_ra : ra + 3 ≤ 900) (e_ra : M 46 3 = nI ra) (hac : ac < b) (e_ac : M 46 4 = nI ac) (e_k : M 47 ac = 3) : x_M l G fX8_run 7 0 0 [.ref (46), .int (30), .int (2), .int (x), .int (nI (e))] x_SH M J (qKI WTN M J (fun r M2 => r = (-((x + (nI (ac))) * 2)) ∧ M2 46 3 = nI (ra + 3) ∧ TrA 48 ra [30, 10, 1] M M2)) := by
  refine xb_of pX8 (Nat.le_of_ble_eq_true rfl) rfl ?_
  refine xr_aload_n dX8_run_0 0 rfl ?_
  refine xr_iload_n dX8_run_1 1 rfl ?_
  refine xr_callV (As := [.int (30)]) (rest := []) mlX8_56 (gt_X8_note 30 (by omega) e_ra) dX8_run_2 s_46 rfl rfl (Nat.le_of_ble_eq_true rfl) (by decide) ⟨by decide, by decide⟩ (fun v s2 M3 J2 hq => ?_)
  obtain ⟨rfl, rfl, rfl, k4, ⟨hx1, ht2⟩⟩ := hq
  try dsimp only [Option.toList, List.cons_append, List.nil_append]
  refine xr_iload_n dX8_run_5 1 rfl ?_
  refine xr_lookup (tgt := 175) (off := 169) dX8_run_6 (by decide) (by decide) rfl ?_
  refine xr_aload_n dX8_run_175 0 rfl ?_
  refine xr_iload_n dX8_run_176 2 rfl ?_
  refine xr_iconst (v := 1) dX8_run_177 rfl ?_
  refine xr_iload_n dX8_run_178 3 rfl ?_
  refine xr_iload dX8_run_179 4 rfl ?_
  refine xr_callV (As := [.int (2), .int (1), .int (x), .int (nI (e))]) (rest := []) mlX8_60 (tv3_above_2_1 (e := e) (ac := ac) x (by omega) (by omega) (Eq.trans (k4 46 2 (by decide)) e_b) (by omega) hx1 hac (Eq.trans (k4 46 4 (by decide)) e_ac) (Eq.trans (k4 47 ac (by unfold WTN; omega)) e_k)) dX8_run_181 s_46 rfl rfl (Nat.le_of_ble_eq_true rfl) (by decide) ⟨by decide, by decide⟩ (fun v s2 M8 J2 hq => ?_)
  obtain ⟨r10, rfl, rfl, rfl, k9, ⟨hr6, hx5, ht7⟩⟩ := hq
  try dsimp only [Option.toList, List.cons_append, List.nil_append]
  subst hr6
  refine xr_ineg dX8_run_184 ?_
  exact xr_iret dX8_run_185 rfl rfl (⟨_, rfl, rfl, rfl, (Ke.tr (fun _ _ h => h) (Ke.tr (fun _ _ h => h) Ke.rf k4) k9), rfl, hx5, (TrA_app (l := [30]) (m := [10, 1]) ht2 ht7)⟩)
set_option maxRecDepth 100000 in
set_option maxHeartbeats 4000000 in
theorem tv3_runFrom_2_1 {e ac : Nat} (x : Int32) (he : e + 3 ≤ 30) {l : Launch} {G : xG} {M : xM} {J : xJ} {b ra : Nat} (h_b : b ≤ 50) (e_b : M 46 2 = nI b) (h_ra : ra + 3 ≤ 900) (e_ra : M 46 3 = nI ra) (hac : ac < b) (e_ac : M 46 4 = nI ac) (e_k : M 47 ac = 3) : x_M l G fX8_runFrom 8 0 0 [.ref (46), .int (2), .int (1), .int (x), .int (nI (e))] x_SH M J (qKI WTN M J (fun r M2 => r = (-((x + (nI (ac))) * 2)) ∧ M2 46 3 = nI (ra + 3) ∧ TrA 48 ra [30, 10, 1] M M2)) := by
  refine xb_of pX8 (Nat.le_of_ble_eq_true rfl) rfl ?_
  refine xr_iload_n dX8_runFrom_0 1 rfl ?_
  refine xr_istore (ls2 := [(5, .int (2)), (0, .ref (46)), (1, .int (2)), (2, .int (1)), (3, .int (x)), (4, .int (nI (e)))]) dX8_runFrom_1 (by decide) rfl ?_
  refine xr_iconst (v := 0) dX8_runFrom_3 rfl ?_
  refine xr_istore (ls2 := [(6, .int (0)), (5, .int (2)), (0, .ref (46)), (1, .int (2)), (2, .int (1)), (3, .int (x)), (4, .int (nI (e)))]) dX8_runFrom_4 (by decide) rfl ?_
  refine xr_iload dX8_runFrom_6 0 rfl ?_
  refine xr_bipush (v := 8) dX8_runFrom_8 rfl ?_
  refine xr_icmp_ge (tgt := 81) dX8_runFrom_10 rfl (fun c => absurd c (by decide)) (fun _ => ?_)
  refine xr_iload dX8_runFrom_13 1 rfl ?_
  refine xb_cN (As := [.int (2)]) (rest := []) mlX8_26 (c_X9_isKind 2) dX8_runFrom_15 rfl rfl (Nat.le_of_ble_eq_true rfl) (by decide) (by decide) ?_
  refine xb_beq (tgt := 81) dX8_runFrom_18 rfl (fun c => absurd (by decide) c) (fun _ => ?_)
  refine xr_getsO slX8_50 dX8_runFrom_21 ?_
  refine xr_iload dX8_runFrom_24 1 rfl ?_
  refine xr_iconst (v := 4) dX8_runFrom_26 rfl ?_
  refine xr_imul dX8_runFrom_27 ?_
  refine xb_top (y := 8) (by decide) ?_
  refine xr_iload_n dX8_runFrom_28 4 rfl ?_
  refine xr_iadd dX8_runFrom_29 ?_
  refine xb_top (y := 9) (by decide) ?_
  refine xr_tabO (by unfold vp_in; decide) dX8_runFrom_30 ?_
  refine xb_top (y := 30) (by decide) ?_
  refine xr_if_eq (tgt := 67) dX8_runFrom_31 rfl (fun c => absurd c (by decide)) (fun _ => ?_)
  refine xr_iload dX8_runFrom_34 6 rfl ?_
  refine xr_bipush (v := 30) dX8_runFrom_36 rfl ?_
  refine xr_icmp_ge (tgt := 65) dX8_runFrom_38 rfl (fun c => absurd c (nI_ge (a := e) (b := 30) (by omega) (by omega))) (fun _ => ?_)
  refine xr_aload_n dX8_runFrom_41 2 rfl ?_
  refine xr_getsO slX8_50 dX8_runFrom_42 ?_
  refine xr_iload dX8_runFrom_45 1 rfl ?_
  refine xr_iconst (v := 4) dX8_runFrom_47 rfl ?_
  refine xr_imul dX8_runFrom_48 ?_
  refine xb_top (y := 8) (by decide) ?_
  refine xr_iload_n dX8_runFrom_49 4 rfl ?_
  refine xr_iadd dX8_runFrom_50 ?_
  refine xb_top (y := 9) (by decide) ?_
  refine xr_tabO (by unfold vp_in; decide) dX8_runFrom_51 ?_
  refine xb_top (y := 30) (by decide) ?_
  refine xr_iload dX8_runFrom_52 1 rfl ?_
  refine xr_iload_n dX8_runFrom_54 5 rfl ?_
  refine xr_iload dX8_runFrom_55 6 rfl ?_
  refine xr_iconst (v := 1) dX8_runFrom_57 rfl ?_
  refine xr_iadd dX8_runFrom_58 ?_
  refine xb_top (y := nI (e + 1)) (nI_add (e) (1)) ?_
  refine xr_callV (As := [.int (30), .int (2), .int (x), .int (nI (e + 1))]) (rest := []) mlX8_53 (tv3_run_30_2 (e := e + 1) (ac := ac) x (by omega) (by omega) e_b (by omega) e_ra hac e_ac e_k) dX8_runFrom_59 s_46 rfl rfl (Nat.le_of_ble_eq_true rfl) (by decide) ⟨by decide, by decide⟩ (fun v s2 M5 J2 hq => ?_)
  obtain ⟨r7, rfl, rfl, rfl, k6, ⟨hr3, hx2, ht4⟩⟩ := hq
  try dsimp only [Option.toList, List.cons_append, List.nil_append]
  subst hr3
  refine xr_goto (tgt := 66) dX8_runFrom_62 rfl ?_
  exact xr_iret dX8_runFrom_66 rfl rfl (⟨_, rfl, rfl, rfl, (Ke.tr (fun _ _ h => h) Ke.rf k6), rfl, hx2, ht4⟩)
set_option maxRecDepth 100000 in
set_option maxHeartbeats 4000000 in
theorem tv3_above_3_1 {e ac : Nat} (x : Int32) (he : e + 3 ≤ 30) {l : Launch} {G : xG} {M : xM} {J : xJ} {b ra : Nat} (h_b : b ≤ 50) (e_b : M 46 2 = nI b) (h_ra : ra + 3 ≤ 900) (e_ra : M 46 3 = nI ra) (hac : ac < b) (e_ac : M 46 4 = nI ac) (e_k : M 47 ac = 3) : x_M l G fX8_above 9 0 0 [.ref (46), .int (3), .int (1), .int (x), .int (nI (e))] x_SH M J (qKI WTN M J (fun r M2 => r = (-((x + (nI (ac))) * 2)) ∧ M2 46 3 = nI (ra + 3) ∧ TrA 48 ra [30, 10, 1] M M2)) := by
  refine xb_of pX8 (Nat.le_of_ble_eq_true rfl) rfl ?_
  refine xr_iload_n dX8_above_0 1 rfl ?_
  refine xb_cN (As := [.int (3)]) (rest := []) mlX8_26 (c_X9_isKind 3) dX8_above_1 rfl rfl (Nat.le_of_ble_eq_true rfl) (by decide) (by decide) ?_
  refine xb_beq (tgt := 23) dX8_above_4 rfl (fun c => absurd (by decide) c) (fun _ => ?_)
  refine xr_aload_n dX8_above_7 0 rfl ?_
  refine xr_getsA slX8_30 dX8_above_8 ?_
  refine xr_iload_n dX8_above_11 1 rfl ?_
  refine xr_tabA (by unfold vp_in; decide) dX8_above_12 ?_
  refine xb_top (y := 2) (by decide) ?_
  refine xr_iload_n dX8_above_13 2 rfl ?_
  refine xr_iload_n dX8_above_14 3 rfl ?_
  refine xr_iload dX8_above_15 4 rfl ?_
  refine xr_callV (As := [.int (2), .int (1), .int (x), .int (nI (e))]) (rest := []) mlX8_46 (tv3_runFrom_2_1 (e := e) (ac := ac) x (by omega) (by omega) e_b (by omega) e_ra hac e_ac e_k) dX8_above_17 s_46 rfl rfl (Nat.le_of_ble_eq_true rfl) (by decide) ⟨by decide, by decide⟩ (fun v s2 M5 J2 hq => ?_)
  obtain ⟨r7, rfl, rfl, rfl, k6, ⟨hr3, hx2, ht4⟩⟩ := hq
  try dsimp only [Option.toList, List.cons_append, List.nil_append]
  subst hr3
  refine xr_goto (tgt := 24) dX8_above_20 rfl ?_
  exact xr_iret dX8_above_24 rfl rfl (⟨_, rfl, rfl, rfl, (Ke.tr (fun _ _ h => h) Ke.rf k6), rfl, hx2, ht4⟩)
set_option maxRecDepth 100000 in
set_option maxHeartbeats 4000000 in
theorem tv3_run_41_3 {e ac : Nat} (x : Int32) (he : e + 3 ≤ 30) {l : Launch} {G : xG} {M : xM} {J : xJ} {b ra : Nat} (h_b : b ≤ 50) (e_b : M 46 2 = nI b) (h_ra : ra + 4 ≤ 900) (e_ra : M 46 3 = nI ra) (hac : ac < b) (e_ac : M 46 4 = nI ac) (e_k : M 47 ac = 3) : x_M l G fX8_run 10 0 0 [.ref (46), .int (41), .int (3), .int (x), .int (nI (e))] x_SH M J (qKI WTN M J (fun r M2 => r = (-(((x + 1) + (nI (ac))) * 2)) ∧ M2 46 3 = nI (ra + 4) ∧ TrA 48 ra [41, 30, 10, 1] M M2)) := by
  refine xb_of pX8 (Nat.le_of_ble_eq_true rfl) rfl ?_
  refine xr_aload_n dX8_run_0 0 rfl ?_
  refine xr_iload_n dX8_run_1 1 rfl ?_
  refine xr_callV (As := [.int (41)]) (rest := []) mlX8_56 (gt_X8_note 41 (by omega) e_ra) dX8_run_2 s_46 rfl rfl (Nat.le_of_ble_eq_true rfl) (by decide) ⟨by decide, by decide⟩ (fun v s2 M3 J2 hq => ?_)
  obtain ⟨rfl, rfl, rfl, k4, ⟨hx1, ht2⟩⟩ := hq
  try dsimp only [Option.toList, List.cons_append, List.nil_append]
  refine xr_iload_n dX8_run_5 1 rfl ?_
  refine xr_lookup (tgt := 198) (off := 192) dX8_run_6 (by decide) (by decide) rfl ?_
  refine xr_aload_n dX8_run_198 0 rfl ?_
  refine xr_iload_n dX8_run_199 2 rfl ?_
  refine xr_iconst (v := 1) dX8_run_200 rfl ?_
  refine xr_iload_n dX8_run_201 3 rfl ?_
  refine xr_iconst (v := 1) dX8_run_202 rfl ?_
  refine xr_iadd dX8_run_203 ?_
  refine xr_iload dX8_run_204 4 rfl ?_
  refine xr_callV (As := [.int (3), .int (1), .int ((x + 1)), .int (nI (e))]) (rest := []) mlX8_60 (tv3_above_3_1 (e := e) (ac := ac) (x + 1) (by omega) (by omega) (Eq.trans (k4 46 2 (by decide)) e_b) (by omega) hx1 hac (Eq.trans (k4 46 4 (by decide)) e_ac) (Eq.trans (k4 47 ac (by unfold WTN; omega)) e_k)) dX8_run_206 s_46 rfl rfl (Nat.le_of_ble_eq_true rfl) (by decide) ⟨by decide, by decide⟩ (fun v s2 M8 J2 hq => ?_)
  obtain ⟨r10, rfl, rfl, rfl, k9, ⟨hr6, hx5, ht7⟩⟩ := hq
  try dsimp only [Option.toList, List.cons_append, List.nil_append]
  subst hr6
  exact xr_iret dX8_run_209 rfl rfl (⟨_, rfl, rfl, rfl, (Ke.tr (fun _ _ h => h) (Ke.tr (fun _ _ h => h) Ke.rf k4) k9), rfl, hx5, (TrA_app (l := [41]) (m := [30, 10, 1]) ht2 ht7)⟩)
set_option maxRecDepth 100000 in
set_option maxHeartbeats 4000000 in
theorem tv3_runFrom_3_1 {e ac : Nat} (x : Int32) (he : e + 4 ≤ 30) {l : Launch} {G : xG} {M : xM} {J : xJ} {b ra : Nat} (h_b : b ≤ 50) (e_b : M 46 2 = nI b) (h_ra : ra + 4 ≤ 900) (e_ra : M 46 3 = nI ra) (hac : ac < b) (e_ac : M 46 4 = nI ac) (e_k : M 47 ac = 3) : x_M l G fX8_runFrom 11 0 0 [.ref (46), .int (3), .int (1), .int (x), .int (nI (e))] x_SH M J (qKI WTN M J (fun r M2 => r = (-(((x + 1) + (nI (ac))) * 2)) ∧ M2 46 3 = nI (ra + 4) ∧ TrA 48 ra [41, 30, 10, 1] M M2)) := by
  refine xb_of pX8 (Nat.le_of_ble_eq_true rfl) rfl ?_
  refine xr_iload_n dX8_runFrom_0 1 rfl ?_
  refine xr_istore (ls2 := [(5, .int (3)), (0, .ref (46)), (1, .int (3)), (2, .int (1)), (3, .int (x)), (4, .int (nI (e)))]) dX8_runFrom_1 (by decide) rfl ?_
  refine xr_iconst (v := 0) dX8_runFrom_3 rfl ?_
  refine xr_istore (ls2 := [(6, .int (0)), (5, .int (3)), (0, .ref (46)), (1, .int (3)), (2, .int (1)), (3, .int (x)), (4, .int (nI (e)))]) dX8_runFrom_4 (by decide) rfl ?_
  refine xr_iload dX8_runFrom_6 0 rfl ?_
  refine xr_bipush (v := 8) dX8_runFrom_8 rfl ?_
  refine xr_icmp_ge (tgt := 81) dX8_runFrom_10 rfl (fun c => absurd c (by decide)) (fun _ => ?_)
  refine xr_iload dX8_runFrom_13 1 rfl ?_
  refine xb_cN (As := [.int (3)]) (rest := []) mlX8_26 (c_X9_isKind 3) dX8_runFrom_15 rfl rfl (Nat.le_of_ble_eq_true rfl) (by decide) (by decide) ?_
  refine xb_beq (tgt := 81) dX8_runFrom_18 rfl (fun c => absurd (by decide) c) (fun _ => ?_)
  refine xr_getsO slX8_50 dX8_runFrom_21 ?_
  refine xr_iload dX8_runFrom_24 1 rfl ?_
  refine xr_iconst (v := 4) dX8_runFrom_26 rfl ?_
  refine xr_imul dX8_runFrom_27 ?_
  refine xb_top (y := 12) (by decide) ?_
  refine xr_iload_n dX8_runFrom_28 4 rfl ?_
  refine xr_iadd dX8_runFrom_29 ?_
  refine xb_top (y := 13) (by decide) ?_
  refine xr_tabO (by unfold vp_in; decide) dX8_runFrom_30 ?_
  refine xb_top (y := 41) (by decide) ?_
  refine xr_if_eq (tgt := 67) dX8_runFrom_31 rfl (fun c => absurd c (by decide)) (fun _ => ?_)
  refine xr_iload dX8_runFrom_34 6 rfl ?_
  refine xr_bipush (v := 30) dX8_runFrom_36 rfl ?_
  refine xr_icmp_ge (tgt := 65) dX8_runFrom_38 rfl (fun c => absurd c (nI_ge (a := e) (b := 30) (by omega) (by omega))) (fun _ => ?_)
  refine xr_aload_n dX8_runFrom_41 2 rfl ?_
  refine xr_getsO slX8_50 dX8_runFrom_42 ?_
  refine xr_iload dX8_runFrom_45 1 rfl ?_
  refine xr_iconst (v := 4) dX8_runFrom_47 rfl ?_
  refine xr_imul dX8_runFrom_48 ?_
  refine xb_top (y := 12) (by decide) ?_
  refine xr_iload_n dX8_runFrom_49 4 rfl ?_
  refine xr_iadd dX8_runFrom_50 ?_
  refine xb_top (y := 13) (by decide) ?_
  refine xr_tabO (by unfold vp_in; decide) dX8_runFrom_51 ?_
  refine xb_top (y := 41) (by decide) ?_
  refine xr_iload dX8_runFrom_52 1 rfl ?_
  refine xr_iload_n dX8_runFrom_54 5 rfl ?_
  refine xr_iload dX8_runFrom_55 6 rfl ?_
  refine xr_iconst (v := 1) dX8_runFrom_57 rfl ?_
  refine xr_iadd dX8_runFrom_58 ?_
  refine xb_top (y := nI (e + 1)) (nI_add (e) (1)) ?_
  refine xr_callV (As := [.int (41), .int (3), .int (x), .int (nI (e + 1))]) (rest := []) mlX8_53 (tv3_run_41_3 (e := e + 1) (ac := ac) x (by omega) (by omega) e_b (by omega) e_ra hac e_ac e_k) dX8_runFrom_59 s_46 rfl rfl (Nat.le_of_ble_eq_true rfl) (by decide) ⟨by decide, by decide⟩ (fun v s2 M5 J2 hq => ?_)
  obtain ⟨r7, rfl, rfl, rfl, k6, ⟨hr3, hx2, ht4⟩⟩ := hq
  try dsimp only [Option.toList, List.cons_append, List.nil_append]
  subst hr3
  refine xr_goto (tgt := 66) dX8_runFrom_62 rfl ?_
  exact xr_iret dX8_runFrom_66 rfl rfl (⟨_, rfl, rfl, rfl, (Ke.tr (fun _ _ h => h) Ke.rf k6), rfl, hx2, ht4⟩)
set_option maxRecDepth 100000 in
set_option maxHeartbeats 4000000 in
theorem tv3_own_1 {e ac : Nat} (x : Int32) (he : e + 4 ≤ 30) {l : Launch} {G : xG} {M : xM} {J : xJ} {b ra : Nat} (h_b : b ≤ 50) (e_b : M 46 2 = nI b) (h_ra : ra + 4 ≤ 900) (e_ra : M 46 3 = nI ra) (hac : ac < b) (e_ac : M 46 4 = nI ac) (e_k : M 47 ac = 3) : x_M l G fX8_own 12 0 0 [.ref (46), .int (1), .int (x), .int (nI (e))] x_SH M J (qKI WTN M J (fun r M2 => r = (-(((x + 1) + (nI (ac))) * 2)) ∧ M2 46 3 = nI (ra + 4) ∧ TrA 48 ra [41, 30, 10, 1] M M2)) := by
  refine xb_of pX8 (Nat.le_of_ble_eq_true rfl) rfl ?_
  refine xr_aload_n dX8_own_0 0 rfl ?_
  refine xr_aload_n dX8_own_1 0 rfl ?_
  refine xb_get (v := nI (ac)) flX8_36 dX8_own_2 s_46 rfl e_ac ?_
  refine xb_cV (As := [.int (nI (ac))]) (rest := []) mlX8_43 (c_X8_has (nI (ac)) (by omega) e_b) dX8_own_5 s_46 rfl rfl (Nat.le_of_ble_eq_true rfl) (by decide) (by decide) ?_
  refine xb_beq (tgt := 30) dX8_own_8 rfl (fun c => absurd ⟨nI_pos' (by omega), nI_lt (by omega) (by omega)⟩ c) (fun _ => ?_)
  refine xr_aload_n dX8_own_11 0 rfl ?_
  refine xr_aload_n dX8_own_12 0 rfl ?_
  refine xr_getR flX8_9 dX8_own_13 s_46 rfl ?_
  refine xr_aload_n dX8_own_16 0 rfl ?_
  refine xb_get (v := nI (ac)) flX8_36 dX8_own_17 s_46 rfl e_ac ?_
  refine xb_iald (j := ac) (v := 3) dX8_own_20 s_47 (by omega) (by decide) e_k ?_
  refine xr_iload_n dX8_own_21 1 rfl ?_
  refine xr_iload_n dX8_own_22 2 rfl ?_
  refine xr_iload_n dX8_own_23 3 rfl ?_
  refine xr_callV (As := [.int (3), .int (1), .int (x), .int (nI (e))]) (rest := []) mlX8_46 (tv3_runFrom_3_1 (e := e) (ac := ac) x (by omega) (by omega) e_b (by omega) e_ra hac e_ac e_k) dX8_own_24 s_46 rfl rfl (Nat.le_of_ble_eq_true rfl) (by decide) ⟨by decide, by decide⟩ (fun v s2 M5 J2 hq => ?_)
  obtain ⟨r7, rfl, rfl, rfl, k6, ⟨hr3, hx2, ht4⟩⟩ := hq
  try dsimp only [Option.toList, List.cons_append, List.nil_append]
  subst hr3
  refine xr_goto (tgt := 31) dX8_own_27 rfl ?_
  exact xr_iret dX8_own_31 rfl rfl (⟨_, rfl, rfl, rfl, (Ke.tr (fun _ _ h => h) Ke.rf k6), rfl, hx2, ht4⟩)
set_option maxRecDepth 100000 in
set_option maxHeartbeats 4000000 in
theorem tw3_1 {ac b : Nat} (x : Int32) {l : Launch} {G : xG} {M : xM} {J : xJ} (h_b : b ≤ 50) (e_b : M 46 2 = nI b) (hac : ac < b) (e_k : M 47 ac = 3) : x_M l G fX8_perform 13 0 0 [.ref (46), .int (nI (ac)), .int (1), .int (x)] x_SH M J (qKI WTR M J (fun r M2 => M2 46 3 = nI 4 ∧ TrF 48 [41, 30, 10, 1] M2)) := by
  refine xb_of pX8 (Nat.le_of_ble_eq_true rfl) rfl ?_
  refine xr_aload_n dX8_perform_0 0 rfl ?_
  refine xr_iconst (v := 0) dX8_perform_1 rfl ?_
  refine xr_putI fpX8_33 dX8_perform_2 s_46 rfl rfl rfl ?_
  refine xr_aload_n dX8_perform_5 0 rfl ?_
  refine xr_iload_n dX8_perform_6 1 rfl ?_
  refine xr_putI fpX8_36 dX8_perform_7 s_46 rfl rfl rfl ?_
  refine xr_aload_n dX8_perform_10 0 rfl ?_
  refine xr_iload_n dX8_perform_11 2 rfl ?_
  refine xr_iload_n dX8_perform_12 3 rfl ?_
  refine xr_iconst (v := 0) dX8_perform_13 rfl ?_
  refine xr_callV (As := [.int (1), .int (x), .int (0)]) (rest := []) mlX8_39 (tv3_own_1 (e := 0) (ac := ac) (ra := 0) x (by omega) h_b (Eq.trans (x_up_k _ _ _ (by decide)) (Eq.trans (x_up_k _ _ _ (by decide)) e_b)) (by omega) (Eq.trans (x_up_k _ _ _ (by decide)) (x_up_s _ _ _ _)) hac (x_up_s _ _ _ _) (Eq.trans (congrFun (x_up_n _ _ _ (by decide)) _) (Eq.trans (congrFun (x_up_n _ _ _ (by decide)) _) e_k))) dX8_perform_14 s_46 rfl rfl (Nat.le_of_ble_eq_true rfl) (by decide) ⟨by decide, by decide⟩ (fun v s2 M4 J2 hq => ?_)
  obtain ⟨r6, rfl, rfl, rfl, k5, ⟨hr2, hx1, ht3⟩⟩ := hq
  try dsimp only [Option.toList, List.cons_append, List.nil_append]
  subst hr2
  exact xr_iret dX8_perform_17 rfl rfl (⟨_, rfl, rfl, rfl, (Ke.tr (fun pp kk => (fun hh => Or.elim hh (fun h => (Or.inl h)) (fun h => (Or.inr (Or.inr h))))) (Ke.up (Or.inr (Or.inl (by omega))) (Ke.up (Or.inl (by omega)) Ke.rf)) k5), ⟨(hx1.trans (congrArg nI (Nat.zero_add _))), TrA_F ht3⟩⟩)
set_option maxRecDepth 100000 in
set_option maxHeartbeats 4000000 in
theorem tv3_run_11_0 {e ac : Nat} (x : Int32) (he : e + 0 ≤ 30) {l : Launch} {G : xG} {M : xM} {J : xJ} {b ra : Nat} (h_b : b ≤ 50) (e_b : M 46 2 = nI b) (h_ra : ra + 1 ≤ 900) (e_ra : M 46 3 = nI ra) (hac : ac < b) (e_ac : M 46 4 = nI ac) (e_k : M 47 ac = 3) : x_M l G fX8_run 1 0 0 [.ref (46), .int (11), .int (0), .int (x), .int (nI (e))] x_SH M J (qKI WTN M J (fun r M2 => r = (x ^^^ (nI (ac))) ∧ M2 46 3 = nI (ra + 1) ∧ TrA 48 ra [11] M M2)) := by
  refine xb_of pX8 (Nat.le_of_ble_eq_true rfl) rfl ?_
  refine xr_aload_n dX8_run_0 0 rfl ?_
  refine xr_iload_n dX8_run_1 1 rfl ?_
  refine xr_callV (As := [.int (11)]) (rest := []) mlX8_56 (gt_X8_note 11 (by omega) e_ra) dX8_run_2 s_46 rfl rfl (Nat.le_of_ble_eq_true rfl) (by decide) ⟨by decide, by decide⟩ (fun v s2 M3 J2 hq => ?_)
  obtain ⟨rfl, rfl, rfl, k4, ⟨hx1, ht2⟩⟩ := hq
  try dsimp only [Option.toList, List.cons_append, List.nil_append]
  refine xr_iload_n dX8_run_5 1 rfl ?_
  refine xr_lookup (tgt := 156) (off := 150) dX8_run_6 (by decide) (by decide) rfl ?_
  refine xr_iload_n dX8_run_156 3 rfl ?_
  refine xr_aload_n dX8_run_157 0 rfl ?_
  refine xb_get (v := nI (ac)) flX8_36 dX8_run_158 s_46 rfl (Eq.trans (k4 46 4 (by decide)) e_ac) ?_
  refine xr_ixor dX8_run_161 ?_
  exact xr_iret dX8_run_162 rfl rfl (⟨_, rfl, rfl, rfl, (Ke.tr (fun _ _ h => h) Ke.rf k4), rfl, hx1, ht2⟩)
set_option maxRecDepth 100000 in
set_option maxHeartbeats 4000000 in
theorem tv3_runFrom_2_2 {e ac : Nat} (x : Int32) (he : e + 1 ≤ 30) {l : Launch} {G : xG} {M : xM} {J : xJ} {b ra : Nat} (h_b : b ≤ 50) (e_b : M 46 2 = nI b) (h_ra : ra + 1 ≤ 900) (e_ra : M 46 3 = nI ra) (hac : ac < b) (e_ac : M 46 4 = nI ac) (e_k : M 47 ac = 3) : x_M l G fX8_runFrom 2 0 0 [.ref (46), .int (2), .int (2), .int (x), .int (nI (e))] x_SH M J (qKI WTN M J (fun r M2 => r = (x ^^^ (nI (ac))) ∧ M2 46 3 = nI (ra + 1) ∧ TrA 48 ra [11] M M2)) := by
  refine xb_of pX8 (Nat.le_of_ble_eq_true rfl) rfl ?_
  refine xr_iload_n dX8_runFrom_0 1 rfl ?_
  refine xr_istore (ls2 := [(5, .int (2)), (0, .ref (46)), (1, .int (2)), (2, .int (2)), (3, .int (x)), (4, .int (nI (e)))]) dX8_runFrom_1 (by decide) rfl ?_
  refine xr_iconst (v := 0) dX8_runFrom_3 rfl ?_
  refine xr_istore (ls2 := [(6, .int (0)), (5, .int (2)), (0, .ref (46)), (1, .int (2)), (2, .int (2)), (3, .int (x)), (4, .int (nI (e)))]) dX8_runFrom_4 (by decide) rfl ?_
  refine xr_iload dX8_runFrom_6 0 rfl ?_
  refine xr_bipush (v := 8) dX8_runFrom_8 rfl ?_
  refine xr_icmp_ge (tgt := 81) dX8_runFrom_10 rfl (fun c => absurd c (by decide)) (fun _ => ?_)
  refine xr_iload dX8_runFrom_13 1 rfl ?_
  refine xb_cN (As := [.int (2)]) (rest := []) mlX8_26 (c_X9_isKind 2) dX8_runFrom_15 rfl rfl (Nat.le_of_ble_eq_true rfl) (by decide) (by decide) ?_
  refine xb_beq (tgt := 81) dX8_runFrom_18 rfl (fun c => absurd (by decide) c) (fun _ => ?_)
  refine xr_getsO slX8_50 dX8_runFrom_21 ?_
  refine xr_iload dX8_runFrom_24 1 rfl ?_
  refine xr_iconst (v := 4) dX8_runFrom_26 rfl ?_
  refine xr_imul dX8_runFrom_27 ?_
  refine xb_top (y := 8) (by decide) ?_
  refine xr_iload_n dX8_runFrom_28 4 rfl ?_
  refine xr_iadd dX8_runFrom_29 ?_
  refine xb_top (y := 10) (by decide) ?_
  refine xr_tabO (by unfold vp_in; decide) dX8_runFrom_30 ?_
  refine xb_top (y := 0) (by decide) ?_
  refine xr_if_eq (tgt := 67) dX8_runFrom_31 rfl (fun _ => ?_) (fun c => absurd (by decide) c)
  refine xr_getsA slX8_30 dX8_runFrom_67 ?_
  refine xr_iload dX8_runFrom_70 1 rfl ?_
  refine xr_tabA (by unfold vp_in; decide) dX8_runFrom_72 ?_
  refine xb_top (y := 0) (by decide) ?_
  refine xr_istore (ls2 := [(5, .int (0)), (6, .int (0)), (0, .ref (46)), (1, .int (2)), (2, .int (2)), (3, .int (x)), (4, .int (nI (e)))]) dX8_runFrom_73 (by decide) rfl ?_
  refine xr_iinc (v := 1) (ls2 := [(6, .int (1)), (5, .int (0)), (0, .ref (46)), (1, .int (2)), (2, .int (2)), (3, .int (x)), (4, .int (nI (e)))]) dX8_runFrom_75 1 rfl rfl (by decide) rfl ?_
  refine xr_goto (tgt := 6) dX8_runFrom_78 rfl ?_
  refine xr_iload dX8_runFrom_6 0 rfl ?_
  refine xr_bipush (v := 8) dX8_runFrom_8 rfl ?_
  refine xr_icmp_ge (tgt := 81) dX8_runFrom_10 rfl (fun c => absurd c (by decide)) (fun _ => ?_)
  refine xr_iload dX8_runFrom_13 1 rfl ?_
  refine xb_cN (As := [.int (0)]) (rest := []) mlX8_26 (c_X9_isKind 0) dX8_runFrom_15 rfl rfl (Nat.le_of_ble_eq_true rfl) (by decide) (by decide) ?_
  refine xb_beq (tgt := 81) dX8_runFrom_18 rfl (fun c => absurd (by decide) c) (fun _ => ?_)
  refine xr_getsO slX8_50 dX8_runFrom_21 ?_
  refine xr_iload dX8_runFrom_24 1 rfl ?_
  refine xr_iconst (v := 4) dX8_runFrom_26 rfl ?_
  refine xr_imul dX8_runFrom_27 ?_
  refine xb_top (y := 0) (by decide) ?_
  refine xr_iload_n dX8_runFrom_28 4 rfl ?_
  refine xr_iadd dX8_runFrom_29 ?_
  refine xb_top (y := 2) (by decide) ?_
  refine xr_tabO (by unfold vp_in; decide) dX8_runFrom_30 ?_
  refine xb_top (y := 11) (by decide) ?_
  refine xr_if_eq (tgt := 67) dX8_runFrom_31 rfl (fun c => absurd c (by decide)) (fun _ => ?_)
  refine xr_iload dX8_runFrom_34 6 rfl ?_
  refine xr_bipush (v := 30) dX8_runFrom_36 rfl ?_
  refine xr_icmp_ge (tgt := 65) dX8_runFrom_38 rfl (fun c => absurd c (nI_ge (a := e) (b := 30) (by omega) (by omega))) (fun _ => ?_)
  refine xr_aload_n dX8_runFrom_41 2 rfl ?_
  refine xr_getsO slX8_50 dX8_runFrom_42 ?_
  refine xr_iload dX8_runFrom_45 1 rfl ?_
  refine xr_iconst (v := 4) dX8_runFrom_47 rfl ?_
  refine xr_imul dX8_runFrom_48 ?_
  refine xb_top (y := 0) (by decide) ?_
  refine xr_iload_n dX8_runFrom_49 4 rfl ?_
  refine xr_iadd dX8_runFrom_50 ?_
  refine xb_top (y := 2) (by decide) ?_
  refine xr_tabO (by unfold vp_in; decide) dX8_runFrom_51 ?_
  refine xb_top (y := 11) (by decide) ?_
  refine xr_iload dX8_runFrom_52 1 rfl ?_
  refine xr_iload_n dX8_runFrom_54 5 rfl ?_
  refine xr_iload dX8_runFrom_55 6 rfl ?_
  refine xr_iconst (v := 1) dX8_runFrom_57 rfl ?_
  refine xr_iadd dX8_runFrom_58 ?_
  refine xb_top (y := nI (e + 1)) (nI_add (e) (1)) ?_
  refine xr_callV (As := [.int (11), .int (0), .int (x), .int (nI (e + 1))]) (rest := []) mlX8_53 (tv3_run_11_0 (e := e + 1) (ac := ac) x (by omega) (by omega) e_b (by omega) e_ra hac e_ac e_k) dX8_runFrom_59 s_46 rfl rfl (Nat.le_of_ble_eq_true rfl) (by decide) ⟨by decide, by decide⟩ (fun v s2 M6 J2 hq => ?_)
  obtain ⟨r8, rfl, rfl, rfl, k7, ⟨hr4, hx3, ht5⟩⟩ := hq
  try dsimp only [Option.toList, List.cons_append, List.nil_append]
  subst hr4
  refine xr_goto (tgt := 66) dX8_runFrom_62 rfl ?_
  exact xr_iret dX8_runFrom_66 rfl rfl (⟨_, rfl, rfl, rfl, (Ke.tr (fun _ _ h => h) Ke.rf k7), rfl, hx3, ht5⟩)
set_option maxRecDepth 100000 in
set_option maxHeartbeats 4000000 in
theorem tv3_above_3_2 {e ac : Nat} (x : Int32) (he : e + 1 ≤ 30) {l : Launch} {G : xG} {M : xM} {J : xJ} {b ra : Nat} (h_b : b ≤ 50) (e_b : M 46 2 = nI b) (h_ra : ra + 1 ≤ 900) (e_ra : M 46 3 = nI ra) (hac : ac < b) (e_ac : M 46 4 = nI ac) (e_k : M 47 ac = 3) : x_M l G fX8_above 3 0 0 [.ref (46), .int (3), .int (2), .int (x), .int (nI (e))] x_SH M J (qKI WTN M J (fun r M2 => r = (x ^^^ (nI (ac))) ∧ M2 46 3 = nI (ra + 1) ∧ TrA 48 ra [11] M M2)) := by
  refine xb_of pX8 (Nat.le_of_ble_eq_true rfl) rfl ?_
  refine xr_iload_n dX8_above_0 1 rfl ?_
  refine xb_cN (As := [.int (3)]) (rest := []) mlX8_26 (c_X9_isKind 3) dX8_above_1 rfl rfl (Nat.le_of_ble_eq_true rfl) (by decide) (by decide) ?_
  refine xb_beq (tgt := 23) dX8_above_4 rfl (fun c => absurd (by decide) c) (fun _ => ?_)
  refine xr_aload_n dX8_above_7 0 rfl ?_
  refine xr_getsA slX8_30 dX8_above_8 ?_
  refine xr_iload_n dX8_above_11 1 rfl ?_
  refine xr_tabA (by unfold vp_in; decide) dX8_above_12 ?_
  refine xb_top (y := 2) (by decide) ?_
  refine xr_iload_n dX8_above_13 2 rfl ?_
  refine xr_iload_n dX8_above_14 3 rfl ?_
  refine xr_iload dX8_above_15 4 rfl ?_
  refine xr_callV (As := [.int (2), .int (2), .int (x), .int (nI (e))]) (rest := []) mlX8_46 (tv3_runFrom_2_2 (e := e) (ac := ac) x (by omega) (by omega) e_b (by omega) e_ra hac e_ac e_k) dX8_above_17 s_46 rfl rfl (Nat.le_of_ble_eq_true rfl) (by decide) ⟨by decide, by decide⟩ (fun v s2 M5 J2 hq => ?_)
  obtain ⟨r7, rfl, rfl, rfl, k6, ⟨hr3, hx2, ht4⟩⟩ := hq
  try dsimp only [Option.toList, List.cons_append, List.nil_append]
  subst hr3
  refine xr_goto (tgt := 24) dX8_above_20 rfl ?_
  exact xr_iret dX8_above_24 rfl rfl (⟨_, rfl, rfl, rfl, (Ke.tr (fun _ _ h => h) Ke.rf k6), rfl, hx2, ht4⟩)
set_option maxRecDepth 100000 in
set_option maxHeartbeats 4000000 in
theorem tv3_run_40_3 {e ac : Nat} (x : Int32) (he : e + 1 ≤ 30) {l : Launch} {G : xG} {M : xM} {J : xJ} {b ra : Nat} (h_b : b ≤ 50) (e_b : M 46 2 = nI b) (h_ra : ra + 2 ≤ 900) (e_ra : M 46 3 = nI ra) (hac : ac < b) (e_ac : M 46 4 = nI ac) (e_k : M 47 ac = 3) : x_M l G fX8_run 4 0 0 [.ref (46), .int (40), .int (3), .int (x), .int (nI (e))] x_SH M J (qKI WTN M J (fun r M2 => r = ((x ^^^ (nI (ac))) * 3) ∧ M2 46 3 = nI (ra + 2) ∧ TrA 48 ra [40, 11] M M2)) := by
  refine xb_of pX8 (Nat.le_of_ble_eq_true rfl) rfl ?_
  refine xr_aload_n dX8_run_0 0 rfl ?_
  refine xr_iload_n dX8_run_1 1 rfl ?_
  refine xr_callV (As := [.int (40)]) (rest := []) mlX8_56 (gt_X8_note 40 (by omega) e_ra) dX8_run_2 s_46 rfl rfl (Nat.le_of_ble_eq_true rfl) (by decide) ⟨by decide, by decide⟩ (fun v s2 M3 J2 hq => ?_)
  obtain ⟨rfl, rfl, rfl, k4, ⟨hx1, ht2⟩⟩ := hq
  try dsimp only [Option.toList, List.cons_append, List.nil_append]
  refine xr_iload_n dX8_run_5 1 rfl ?_
  refine xr_lookup (tgt := 186) (off := 180) dX8_run_6 (by decide) (by decide) rfl ?_
  refine xr_aload_n dX8_run_186 0 rfl ?_
  refine xr_iload_n dX8_run_187 2 rfl ?_
  refine xr_iconst (v := 2) dX8_run_188 rfl ?_
  refine xr_iload_n dX8_run_189 3 rfl ?_
  refine xr_iload dX8_run_190 4 rfl ?_
  refine xr_callV (As := [.int (3), .int (2), .int (x), .int (nI (e))]) (rest := []) mlX8_60 (tv3_above_3_2 (e := e) (ac := ac) x (by omega) (by omega) (Eq.trans (k4 46 2 (by decide)) e_b) (by omega) hx1 hac (Eq.trans (k4 46 4 (by decide)) e_ac) (Eq.trans (k4 47 ac (by unfold WTN; omega)) e_k)) dX8_run_192 s_46 rfl rfl (Nat.le_of_ble_eq_true rfl) (by decide) ⟨by decide, by decide⟩ (fun v s2 M8 J2 hq => ?_)
  obtain ⟨r10, rfl, rfl, rfl, k9, ⟨hr6, hx5, ht7⟩⟩ := hq
  try dsimp only [Option.toList, List.cons_append, List.nil_append]
  subst hr6
  refine xr_iconst (v := 3) dX8_run_195 rfl ?_
  refine xr_imul dX8_run_196 ?_
  exact xr_iret dX8_run_197 rfl rfl (⟨_, rfl, rfl, rfl, (Ke.tr (fun _ _ h => h) (Ke.tr (fun _ _ h => h) Ke.rf k4) k9), rfl, hx5, (TrA_app (l := [40]) (m := [11]) ht2 ht7)⟩)
set_option maxRecDepth 100000 in
set_option maxHeartbeats 4000000 in
theorem tv3_runFrom_3_2 {e ac : Nat} (x : Int32) (he : e + 2 ≤ 30) {l : Launch} {G : xG} {M : xM} {J : xJ} {b ra : Nat} (h_b : b ≤ 50) (e_b : M 46 2 = nI b) (h_ra : ra + 2 ≤ 900) (e_ra : M 46 3 = nI ra) (hac : ac < b) (e_ac : M 46 4 = nI ac) (e_k : M 47 ac = 3) : x_M l G fX8_runFrom 5 0 0 [.ref (46), .int (3), .int (2), .int (x), .int (nI (e))] x_SH M J (qKI WTN M J (fun r M2 => r = ((x ^^^ (nI (ac))) * 3) ∧ M2 46 3 = nI (ra + 2) ∧ TrA 48 ra [40, 11] M M2)) := by
  refine xb_of pX8 (Nat.le_of_ble_eq_true rfl) rfl ?_
  refine xr_iload_n dX8_runFrom_0 1 rfl ?_
  refine xr_istore (ls2 := [(5, .int (3)), (0, .ref (46)), (1, .int (3)), (2, .int (2)), (3, .int (x)), (4, .int (nI (e)))]) dX8_runFrom_1 (by decide) rfl ?_
  refine xr_iconst (v := 0) dX8_runFrom_3 rfl ?_
  refine xr_istore (ls2 := [(6, .int (0)), (5, .int (3)), (0, .ref (46)), (1, .int (3)), (2, .int (2)), (3, .int (x)), (4, .int (nI (e)))]) dX8_runFrom_4 (by decide) rfl ?_
  refine xr_iload dX8_runFrom_6 0 rfl ?_
  refine xr_bipush (v := 8) dX8_runFrom_8 rfl ?_
  refine xr_icmp_ge (tgt := 81) dX8_runFrom_10 rfl (fun c => absurd c (by decide)) (fun _ => ?_)
  refine xr_iload dX8_runFrom_13 1 rfl ?_
  refine xb_cN (As := [.int (3)]) (rest := []) mlX8_26 (c_X9_isKind 3) dX8_runFrom_15 rfl rfl (Nat.le_of_ble_eq_true rfl) (by decide) (by decide) ?_
  refine xb_beq (tgt := 81) dX8_runFrom_18 rfl (fun c => absurd (by decide) c) (fun _ => ?_)
  refine xr_getsO slX8_50 dX8_runFrom_21 ?_
  refine xr_iload dX8_runFrom_24 1 rfl ?_
  refine xr_iconst (v := 4) dX8_runFrom_26 rfl ?_
  refine xr_imul dX8_runFrom_27 ?_
  refine xb_top (y := 12) (by decide) ?_
  refine xr_iload_n dX8_runFrom_28 4 rfl ?_
  refine xr_iadd dX8_runFrom_29 ?_
  refine xb_top (y := 14) (by decide) ?_
  refine xr_tabO (by unfold vp_in; decide) dX8_runFrom_30 ?_
  refine xb_top (y := 40) (by decide) ?_
  refine xr_if_eq (tgt := 67) dX8_runFrom_31 rfl (fun c => absurd c (by decide)) (fun _ => ?_)
  refine xr_iload dX8_runFrom_34 6 rfl ?_
  refine xr_bipush (v := 30) dX8_runFrom_36 rfl ?_
  refine xr_icmp_ge (tgt := 65) dX8_runFrom_38 rfl (fun c => absurd c (nI_ge (a := e) (b := 30) (by omega) (by omega))) (fun _ => ?_)
  refine xr_aload_n dX8_runFrom_41 2 rfl ?_
  refine xr_getsO slX8_50 dX8_runFrom_42 ?_
  refine xr_iload dX8_runFrom_45 1 rfl ?_
  refine xr_iconst (v := 4) dX8_runFrom_47 rfl ?_
  refine xr_imul dX8_runFrom_48 ?_
  refine xb_top (y := 12) (by decide) ?_
  refine xr_iload_n dX8_runFrom_49 4 rfl ?_
  refine xr_iadd dX8_runFrom_50 ?_
  refine xb_top (y := 14) (by decide) ?_
  refine xr_tabO (by unfold vp_in; decide) dX8_runFrom_51 ?_
  refine xb_top (y := 40) (by decide) ?_
  refine xr_iload dX8_runFrom_52 1 rfl ?_
  refine xr_iload_n dX8_runFrom_54 5 rfl ?_
  refine xr_iload dX8_runFrom_55 6 rfl ?_
  refine xr_iconst (v := 1) dX8_runFrom_57 rfl ?_
  refine xr_iadd dX8_runFrom_58 ?_
  refine xb_top (y := nI (e + 1)) (nI_add (e) (1)) ?_
  refine xr_callV (As := [.int (40), .int (3), .int (x), .int (nI (e + 1))]) (rest := []) mlX8_53 (tv3_run_40_3 (e := e + 1) (ac := ac) x (by omega) (by omega) e_b (by omega) e_ra hac e_ac e_k) dX8_runFrom_59 s_46 rfl rfl (Nat.le_of_ble_eq_true rfl) (by decide) ⟨by decide, by decide⟩ (fun v s2 M5 J2 hq => ?_)
  obtain ⟨r7, rfl, rfl, rfl, k6, ⟨hr3, hx2, ht4⟩⟩ := hq
  try dsimp only [Option.toList, List.cons_append, List.nil_append]
  subst hr3
  refine xr_goto (tgt := 66) dX8_runFrom_62 rfl ?_
  exact xr_iret dX8_runFrom_66 rfl rfl (⟨_, rfl, rfl, rfl, (Ke.tr (fun _ _ h => h) Ke.rf k6), rfl, hx2, ht4⟩)
set_option maxRecDepth 100000 in
set_option maxHeartbeats 4000000 in
theorem tv3_own_2 {e ac : Nat} (x : Int32) (he : e + 2 ≤ 30) {l : Launch} {G : xG} {M : xM} {J : xJ} {b ra : Nat} (h_b : b ≤ 50) (e_b : M 46 2 = nI b) (h_ra : ra + 2 ≤ 900) (e_ra : M 46 3 = nI ra) (hac : ac < b) (e_ac : M 46 4 = nI ac) (e_k : M 47 ac = 3) : x_M l G fX8_own 6 0 0 [.ref (46), .int (2), .int (x), .int (nI (e))] x_SH M J (qKI WTN M J (fun r M2 => r = ((x ^^^ (nI (ac))) * 3) ∧ M2 46 3 = nI (ra + 2) ∧ TrA 48 ra [40, 11] M M2)) := by
  refine xb_of pX8 (Nat.le_of_ble_eq_true rfl) rfl ?_
  refine xr_aload_n dX8_own_0 0 rfl ?_
  refine xr_aload_n dX8_own_1 0 rfl ?_
  refine xb_get (v := nI (ac)) flX8_36 dX8_own_2 s_46 rfl e_ac ?_
  refine xb_cV (As := [.int (nI (ac))]) (rest := []) mlX8_43 (c_X8_has (nI (ac)) (by omega) e_b) dX8_own_5 s_46 rfl rfl (Nat.le_of_ble_eq_true rfl) (by decide) (by decide) ?_
  refine xb_beq (tgt := 30) dX8_own_8 rfl (fun c => absurd ⟨nI_pos' (by omega), nI_lt (by omega) (by omega)⟩ c) (fun _ => ?_)
  refine xr_aload_n dX8_own_11 0 rfl ?_
  refine xr_aload_n dX8_own_12 0 rfl ?_
  refine xr_getR flX8_9 dX8_own_13 s_46 rfl ?_
  refine xr_aload_n dX8_own_16 0 rfl ?_
  refine xb_get (v := nI (ac)) flX8_36 dX8_own_17 s_46 rfl e_ac ?_
  refine xb_iald (j := ac) (v := 3) dX8_own_20 s_47 (by omega) (by decide) e_k ?_
  refine xr_iload_n dX8_own_21 1 rfl ?_
  refine xr_iload_n dX8_own_22 2 rfl ?_
  refine xr_iload_n dX8_own_23 3 rfl ?_
  refine xr_callV (As := [.int (3), .int (2), .int (x), .int (nI (e))]) (rest := []) mlX8_46 (tv3_runFrom_3_2 (e := e) (ac := ac) x (by omega) (by omega) e_b (by omega) e_ra hac e_ac e_k) dX8_own_24 s_46 rfl rfl (Nat.le_of_ble_eq_true rfl) (by decide) ⟨by decide, by decide⟩ (fun v s2 M5 J2 hq => ?_)
  obtain ⟨r7, rfl, rfl, rfl, k6, ⟨hr3, hx2, ht4⟩⟩ := hq
  try dsimp only [Option.toList, List.cons_append, List.nil_append]
  subst hr3
  refine xr_goto (tgt := 31) dX8_own_27 rfl ?_
  exact xr_iret dX8_own_31 rfl rfl (⟨_, rfl, rfl, rfl, (Ke.tr (fun _ _ h => h) Ke.rf k6), rfl, hx2, ht4⟩)
set_option maxRecDepth 100000 in
set_option maxHeartbeats 4000000 in
theorem tw3_2 {ac b : Nat} (x : Int32) {l : Launch} {G : xG} {M : xM} {J : xJ} (h_b : b ≤ 50) (e_b : M 46 2 = nI b) (hac : ac < b) (e_k : M 47 ac = 3) : x_M l G fX8_perform 7 0 0 [.ref (46), .int (nI (ac)), .int (2), .int (x)] x_SH M J (qKI WTR M J (fun r M2 => M2 46 3 = nI 2 ∧ TrF 48 [40, 11] M2)) := by
  refine xb_of pX8 (Nat.le_of_ble_eq_true rfl) rfl ?_
  refine xr_aload_n dX8_perform_0 0 rfl ?_
  refine xr_iconst (v := 0) dX8_perform_1 rfl ?_
  refine xr_putI fpX8_33 dX8_perform_2 s_46 rfl rfl rfl ?_
  refine xr_aload_n dX8_perform_5 0 rfl ?_
  refine xr_iload_n dX8_perform_6 1 rfl ?_
  refine xr_putI fpX8_36 dX8_perform_7 s_46 rfl rfl rfl ?_
  refine xr_aload_n dX8_perform_10 0 rfl ?_
  refine xr_iload_n dX8_perform_11 2 rfl ?_
  refine xr_iload_n dX8_perform_12 3 rfl ?_
  refine xr_iconst (v := 0) dX8_perform_13 rfl ?_
  refine xr_callV (As := [.int (2), .int (x), .int (0)]) (rest := []) mlX8_39 (tv3_own_2 (e := 0) (ac := ac) (ra := 0) x (by omega) h_b (Eq.trans (x_up_k _ _ _ (by decide)) (Eq.trans (x_up_k _ _ _ (by decide)) e_b)) (by omega) (Eq.trans (x_up_k _ _ _ (by decide)) (x_up_s _ _ _ _)) hac (x_up_s _ _ _ _) (Eq.trans (congrFun (x_up_n _ _ _ (by decide)) _) (Eq.trans (congrFun (x_up_n _ _ _ (by decide)) _) e_k))) dX8_perform_14 s_46 rfl rfl (Nat.le_of_ble_eq_true rfl) (by decide) ⟨by decide, by decide⟩ (fun v s2 M4 J2 hq => ?_)
  obtain ⟨r6, rfl, rfl, rfl, k5, ⟨hr2, hx1, ht3⟩⟩ := hq
  try dsimp only [Option.toList, List.cons_append, List.nil_append]
  subst hr2
  exact xr_iret dX8_perform_17 rfl rfl (⟨_, rfl, rfl, rfl, (Ke.tr (fun pp kk => (fun hh => Or.elim hh (fun h => (Or.inl h)) (fun h => (Or.inr (Or.inr h))))) (Ke.up (Or.inr (Or.inl (by omega))) (Ke.up (Or.inl (by omega)) Ke.rf)) k5), ⟨(hx1.trans (congrArg nI (Nat.zero_add _))), TrA_F ht3⟩⟩)
set_option maxRecDepth 100000 in
set_option maxHeartbeats 4000000 in
theorem tv3_run_2_0 {e ac : Nat} (x : Int32) (he : e + 4 ≤ 30) {l : Launch} {G : xG} {M : xM} {J : xJ} {b ra : Nat} (h_b : b ≤ 50) (e_b : M 46 2 = nI b) (h_ra : ra + 7 ≤ 900) (e_ra : M 46 3 = nI ra) (hac : ac < b) (e_ac : M 46 4 = nI ac) (e_k : M 47 ac = 3) : x_M l G fX8_run 13 0 0 [.ref (46), .int (2), .int (0), .int (x), .int (nI (e))] x_SH M J (qKI WTN M J (fun r M2 => r = ((-(((x + 1) + (nI (ac))) * 2)) - ((1 ^^^ (nI (ac))) * 3)) ∧ M2 46 3 = nI (ra + 7) ∧ TrA 48 ra [2, 41, 30, 10, 1, 40, 11] M M2)) := by
  refine xb_of pX8 (Nat.le_of_ble_eq_true rfl) rfl ?_
  refine xr_aload_n dX8_run_0 0 rfl ?_
  refine xr_iload_n dX8_run_1 1 rfl ?_
  refine xr_callV (As := [.int (2)]) (rest := []) mlX8_56 (gt_X8_note 2 (by omega) e_ra) dX8_run_2 s_46 rfl rfl (Nat.le_of_ble_eq_true rfl) (by decide) ⟨by decide, by decide⟩ (fun v s2 M3 J2 hq => ?_)
  obtain ⟨rfl, rfl, rfl, k4, ⟨hx1, ht2⟩⟩ := hq
  try dsimp only [Option.toList, List.cons_append, List.nil_append]
  refine xr_iload_n dX8_run_5 1 rfl ?_
  refine xr_lookup (tgt := 127) (off := 121) dX8_run_6 (by decide) (by decide) rfl ?_
  refine xr_aload_n dX8_run_127 0 rfl ?_
  refine xr_iconst (v := 1) dX8_run_128 rfl ?_
  refine xr_iload_n dX8_run_129 3 rfl ?_
  refine xr_iload dX8_run_130 4 rfl ?_
  refine xr_callV (As := [.int (1), .int (x), .int (nI (e))]) (rest := []) mlX8_39 (tv3_own_1 (e := e) (ac := ac) x (by omega) (by omega) (Eq.trans (k4 46 2 (by decide)) e_b) (by omega) hx1 hac (Eq.trans (k4 46 4 (by decide)) e_ac) (Eq.trans (k4 47 ac (by unfold WTN; omega)) e_k)) dX8_run_132 s_46 rfl rfl (Nat.le_of_ble_eq_true rfl) (by decide) ⟨by decide, by decide⟩ (fun v s2 M8 J2 hq => ?_)
  obtain ⟨r10, rfl, rfl, rfl, k9, ⟨hr6, hx5, ht7⟩⟩ := hq
  try dsimp only [Option.toList, List.cons_append, List.nil_append]
  subst hr6
  refine xr_aload_n dX8_run_135 0 rfl ?_
  refine xr_iconst (v := 2) dX8_run_136 rfl ?_
  refine xr_iconst (v := 1) dX8_run_137 rfl ?_
  refine xr_iload dX8_run_138 4 rfl ?_
  refine xr_callV (As := [.int (2), .int (1), .int (nI (e))]) (rest := [.int ((-(((x + 1) + (nI (ac))) * 2)))]) mlX8_39 (tv3_own_2 (e := e) (ac := ac) 1 (by omega) (by omega) (Eq.trans (k9 46 2 (by decide)) (Eq.trans (k4 46 2 (by decide)) e_b)) (by omega) hx5 hac (Eq.trans (k9 46 4 (by decide)) (Eq.trans (k4 46 4 (by decide)) e_ac)) (Eq.trans (k9 47 ac (by unfold WTN; omega)) (Eq.trans (k4 47 ac (by unfold WTN; omega)) e_k))) dX8_run_140 s_46 rfl rfl (Nat.le_of_ble_eq_true rfl) (by decide) ⟨by decide, by decide⟩ (fun v s2 M14 J2 hq => ?_)
  obtain ⟨r16, rfl, rfl, rfl, k15, ⟨hr12, hx11, ht13⟩⟩ := hq
  try dsimp only [Option.toList, List.cons_append, List.nil_append]
  subst hr12
  refine xr_isub dX8_run_143 ?_
  exact xr_iret dX8_run_144 rfl rfl (⟨_, rfl, rfl, rfl, (Ke.tr (fun _ _ h => h) (Ke.tr (fun _ _ h => h) (Ke.tr (fun _ _ h => h) Ke.rf k4) k9) k15), rfl, hx11, (TrA_app (l := [2, 41, 30, 10, 1]) (m := [40, 11]) (TrA_app (l := [2]) (m := [41, 30, 10, 1]) ht2 ht7) ht13)⟩)
set_option maxRecDepth 100000 in
set_option maxHeartbeats 4000000 in
theorem tv3_runFrom_3_3 {e ac : Nat} (x : Int32) (he : e + 5 ≤ 30) {l : Launch} {G : xG} {M : xM} {J : xJ} {b ra : Nat} (h_b : b ≤ 50) (e_b : M 46 2 = nI b) (h_ra : ra + 7 ≤ 900) (e_ra : M 46 3 = nI ra) (hac : ac < b) (e_ac : M 46 4 = nI ac) (e_k : M 47 ac = 3) : x_M l G fX8_runFrom 14 0 0 [.ref (46), .int (3), .int (3), .int (x), .int (nI (e))] x_SH M J (qKI WTN M J (fun r M2 => r = ((-(((x + 1) + (nI (ac))) * 2)) - ((1 ^^^ (nI (ac))) * 3)) ∧ M2 46 3 = nI (ra + 7) ∧ TrA 48 ra [2, 41, 30, 10, 1, 40, 11] M M2)) := by
  refine xb_of pX8 (Nat.le_of_ble_eq_true rfl) rfl ?_
  refine xr_iload_n dX8_runFrom_0 1 rfl ?_
  refine xr_istore (ls2 := [(5, .int (3)), (0, .ref (46)), (1, .int (3)), (2, .int (3)), (3, .int (x)), (4, .int (nI (e)))]) dX8_runFrom_1 (by decide) rfl ?_
  refine xr_iconst (v := 0) dX8_runFrom_3 rfl ?_
  refine xr_istore (ls2 := [(6, .int (0)), (5, .int (3)), (0, .ref (46)), (1, .int (3)), (2, .int (3)), (3, .int (x)), (4, .int (nI (e)))]) dX8_runFrom_4 (by decide) rfl ?_
  refine xr_iload dX8_runFrom_6 0 rfl ?_
  refine xr_bipush (v := 8) dX8_runFrom_8 rfl ?_
  refine xr_icmp_ge (tgt := 81) dX8_runFrom_10 rfl (fun c => absurd c (by decide)) (fun _ => ?_)
  refine xr_iload dX8_runFrom_13 1 rfl ?_
  refine xb_cN (As := [.int (3)]) (rest := []) mlX8_26 (c_X9_isKind 3) dX8_runFrom_15 rfl rfl (Nat.le_of_ble_eq_true rfl) (by decide) (by decide) ?_
  refine xb_beq (tgt := 81) dX8_runFrom_18 rfl (fun c => absurd (by decide) c) (fun _ => ?_)
  refine xr_getsO slX8_50 dX8_runFrom_21 ?_
  refine xr_iload dX8_runFrom_24 1 rfl ?_
  refine xr_iconst (v := 4) dX8_runFrom_26 rfl ?_
  refine xr_imul dX8_runFrom_27 ?_
  refine xb_top (y := 12) (by decide) ?_
  refine xr_iload_n dX8_runFrom_28 4 rfl ?_
  refine xr_iadd dX8_runFrom_29 ?_
  refine xb_top (y := 15) (by decide) ?_
  refine xr_tabO (by unfold vp_in; decide) dX8_runFrom_30 ?_
  refine xb_top (y := 0) (by decide) ?_
  refine xr_if_eq (tgt := 67) dX8_runFrom_31 rfl (fun _ => ?_) (fun c => absurd (by decide) c)
  refine xr_getsA slX8_30 dX8_runFrom_67 ?_
  refine xr_iload dX8_runFrom_70 1 rfl ?_
  refine xr_tabA (by unfold vp_in; decide) dX8_runFrom_72 ?_
  refine xb_top (y := 2) (by decide) ?_
  refine xr_istore (ls2 := [(5, .int (2)), (6, .int (0)), (0, .ref (46)), (1, .int (3)), (2, .int (3)), (3, .int (x)), (4, .int (nI (e)))]) dX8_runFrom_73 (by decide) rfl ?_
  refine xr_iinc (v := 1) (ls2 := [(6, .int (1)), (5, .int (2)), (0, .ref (46)), (1, .int (3)), (2, .int (3)), (3, .int (x)), (4, .int (nI (e)))]) dX8_runFrom_75 1 rfl rfl (by decide) rfl ?_
  refine xr_goto (tgt := 6) dX8_runFrom_78 rfl ?_
  refine xr_iload dX8_runFrom_6 0 rfl ?_
  refine xr_bipush (v := 8) dX8_runFrom_8 rfl ?_
  refine xr_icmp_ge (tgt := 81) dX8_runFrom_10 rfl (fun c => absurd c (by decide)) (fun _ => ?_)
  refine xr_iload dX8_runFrom_13 1 rfl ?_
  refine xb_cN (As := [.int (2)]) (rest := []) mlX8_26 (c_X9_isKind 2) dX8_runFrom_15 rfl rfl (Nat.le_of_ble_eq_true rfl) (by decide) (by decide) ?_
  refine xb_beq (tgt := 81) dX8_runFrom_18 rfl (fun c => absurd (by decide) c) (fun _ => ?_)
  refine xr_getsO slX8_50 dX8_runFrom_21 ?_
  refine xr_iload dX8_runFrom_24 1 rfl ?_
  refine xr_iconst (v := 4) dX8_runFrom_26 rfl ?_
  refine xr_imul dX8_runFrom_27 ?_
  refine xb_top (y := 8) (by decide) ?_
  refine xr_iload_n dX8_runFrom_28 4 rfl ?_
  refine xr_iadd dX8_runFrom_29 ?_
  refine xb_top (y := 11) (by decide) ?_
  refine xr_tabO (by unfold vp_in; decide) dX8_runFrom_30 ?_
  refine xb_top (y := 0) (by decide) ?_
  refine xr_if_eq (tgt := 67) dX8_runFrom_31 rfl (fun _ => ?_) (fun c => absurd (by decide) c)
  refine xr_getsA slX8_30 dX8_runFrom_67 ?_
  refine xr_iload dX8_runFrom_70 1 rfl ?_
  refine xr_tabA (by unfold vp_in; decide) dX8_runFrom_72 ?_
  refine xb_top (y := 0) (by decide) ?_
  refine xr_istore (ls2 := [(5, .int (0)), (6, .int (1)), (0, .ref (46)), (1, .int (3)), (2, .int (3)), (3, .int (x)), (4, .int (nI (e)))]) dX8_runFrom_73 (by decide) rfl ?_
  refine xr_iinc (v := 2) (ls2 := [(6, .int (2)), (5, .int (0)), (0, .ref (46)), (1, .int (3)), (2, .int (3)), (3, .int (x)), (4, .int (nI (e)))]) dX8_runFrom_75 1 rfl rfl (by decide) rfl ?_
  refine xr_goto (tgt := 6) dX8_runFrom_78 rfl ?_
  refine xr_iload dX8_runFrom_6 0 rfl ?_
  refine xr_bipush (v := 8) dX8_runFrom_8 rfl ?_
  refine xr_icmp_ge (tgt := 81) dX8_runFrom_10 rfl (fun c => absurd c (by decide)) (fun _ => ?_)
  refine xr_iload dX8_runFrom_13 1 rfl ?_
  refine xb_cN (As := [.int (0)]) (rest := []) mlX8_26 (c_X9_isKind 0) dX8_runFrom_15 rfl rfl (Nat.le_of_ble_eq_true rfl) (by decide) (by decide) ?_
  refine xb_beq (tgt := 81) dX8_runFrom_18 rfl (fun c => absurd (by decide) c) (fun _ => ?_)
  refine xr_getsO slX8_50 dX8_runFrom_21 ?_
  refine xr_iload dX8_runFrom_24 1 rfl ?_
  refine xr_iconst (v := 4) dX8_runFrom_26 rfl ?_
  refine xr_imul dX8_runFrom_27 ?_
  refine xb_top (y := 0) (by decide) ?_
  refine xr_iload_n dX8_runFrom_28 4 rfl ?_
  refine xr_iadd dX8_runFrom_29 ?_
  refine xb_top (y := 3) (by decide) ?_
  refine xr_tabO (by unfold vp_in; decide) dX8_runFrom_30 ?_
  refine xb_top (y := 2) (by decide) ?_
  refine xr_if_eq (tgt := 67) dX8_runFrom_31 rfl (fun c => absurd c (by decide)) (fun _ => ?_)
  refine xr_iload dX8_runFrom_34 6 rfl ?_
  refine xr_bipush (v := 30) dX8_runFrom_36 rfl ?_
  refine xr_icmp_ge (tgt := 65) dX8_runFrom_38 rfl (fun c => absurd c (nI_ge (a := e) (b := 30) (by omega) (by omega))) (fun _ => ?_)
  refine xr_aload_n dX8_runFrom_41 2 rfl ?_
  refine xr_getsO slX8_50 dX8_runFrom_42 ?_
  refine xr_iload dX8_runFrom_45 1 rfl ?_
  refine xr_iconst (v := 4) dX8_runFrom_47 rfl ?_
  refine xr_imul dX8_runFrom_48 ?_
  refine xb_top (y := 0) (by decide) ?_
  refine xr_iload_n dX8_runFrom_49 4 rfl ?_
  refine xr_iadd dX8_runFrom_50 ?_
  refine xb_top (y := 3) (by decide) ?_
  refine xr_tabO (by unfold vp_in; decide) dX8_runFrom_51 ?_
  refine xb_top (y := 2) (by decide) ?_
  refine xr_iload dX8_runFrom_52 1 rfl ?_
  refine xr_iload_n dX8_runFrom_54 5 rfl ?_
  refine xr_iload dX8_runFrom_55 6 rfl ?_
  refine xr_iconst (v := 1) dX8_runFrom_57 rfl ?_
  refine xr_iadd dX8_runFrom_58 ?_
  refine xb_top (y := nI (e + 1)) (nI_add (e) (1)) ?_
  refine xr_callV (As := [.int (2), .int (0), .int (x), .int (nI (e + 1))]) (rest := []) mlX8_53 (tv3_run_2_0 (e := e + 1) (ac := ac) x (by omega) (by omega) e_b (by omega) e_ra hac e_ac e_k) dX8_runFrom_59 s_46 rfl rfl (Nat.le_of_ble_eq_true rfl) (by decide) ⟨by decide, by decide⟩ (fun v s2 M7 J2 hq => ?_)
  obtain ⟨r9, rfl, rfl, rfl, k8, ⟨hr5, hx4, ht6⟩⟩ := hq
  try dsimp only [Option.toList, List.cons_append, List.nil_append]
  subst hr5
  refine xr_goto (tgt := 66) dX8_runFrom_62 rfl ?_
  exact xr_iret dX8_runFrom_66 rfl rfl (⟨_, rfl, rfl, rfl, (Ke.tr (fun _ _ h => h) Ke.rf k8), rfl, hx4, ht6⟩)
set_option maxRecDepth 100000 in
set_option maxHeartbeats 4000000 in
theorem tv3_own_3 {e ac : Nat} (x : Int32) (he : e + 5 ≤ 30) {l : Launch} {G : xG} {M : xM} {J : xJ} {b ra : Nat} (h_b : b ≤ 50) (e_b : M 46 2 = nI b) (h_ra : ra + 7 ≤ 900) (e_ra : M 46 3 = nI ra) (hac : ac < b) (e_ac : M 46 4 = nI ac) (e_k : M 47 ac = 3) : x_M l G fX8_own 15 0 0 [.ref (46), .int (3), .int (x), .int (nI (e))] x_SH M J (qKI WTN M J (fun r M2 => r = ((-(((x + 1) + (nI (ac))) * 2)) - ((1 ^^^ (nI (ac))) * 3)) ∧ M2 46 3 = nI (ra + 7) ∧ TrA 48 ra [2, 41, 30, 10, 1, 40, 11] M M2)) := by
  refine xb_of pX8 (Nat.le_of_ble_eq_true rfl) rfl ?_
  refine xr_aload_n dX8_own_0 0 rfl ?_
  refine xr_aload_n dX8_own_1 0 rfl ?_
  refine xb_get (v := nI (ac)) flX8_36 dX8_own_2 s_46 rfl e_ac ?_
  refine xb_cV (As := [.int (nI (ac))]) (rest := []) mlX8_43 (c_X8_has (nI (ac)) (by omega) e_b) dX8_own_5 s_46 rfl rfl (Nat.le_of_ble_eq_true rfl) (by decide) (by decide) ?_
  refine xb_beq (tgt := 30) dX8_own_8 rfl (fun c => absurd ⟨nI_pos' (by omega), nI_lt (by omega) (by omega)⟩ c) (fun _ => ?_)
  refine xr_aload_n dX8_own_11 0 rfl ?_
  refine xr_aload_n dX8_own_12 0 rfl ?_
  refine xr_getR flX8_9 dX8_own_13 s_46 rfl ?_
  refine xr_aload_n dX8_own_16 0 rfl ?_
  refine xb_get (v := nI (ac)) flX8_36 dX8_own_17 s_46 rfl e_ac ?_
  refine xb_iald (j := ac) (v := 3) dX8_own_20 s_47 (by omega) (by decide) e_k ?_
  refine xr_iload_n dX8_own_21 1 rfl ?_
  refine xr_iload_n dX8_own_22 2 rfl ?_
  refine xr_iload_n dX8_own_23 3 rfl ?_
  refine xr_callV (As := [.int (3), .int (3), .int (x), .int (nI (e))]) (rest := []) mlX8_46 (tv3_runFrom_3_3 (e := e) (ac := ac) x (by omega) (by omega) e_b (by omega) e_ra hac e_ac e_k) dX8_own_24 s_46 rfl rfl (Nat.le_of_ble_eq_true rfl) (by decide) ⟨by decide, by decide⟩ (fun v s2 M5 J2 hq => ?_)
  obtain ⟨r7, rfl, rfl, rfl, k6, ⟨hr3, hx2, ht4⟩⟩ := hq
  try dsimp only [Option.toList, List.cons_append, List.nil_append]
  subst hr3
  refine xr_goto (tgt := 31) dX8_own_27 rfl ?_
  exact xr_iret dX8_own_31 rfl rfl (⟨_, rfl, rfl, rfl, (Ke.tr (fun _ _ h => h) Ke.rf k6), rfl, hx2, ht4⟩)
set_option maxRecDepth 100000 in
set_option maxHeartbeats 4000000 in
theorem tw3_3 {ac b : Nat} (x : Int32) {l : Launch} {G : xG} {M : xM} {J : xJ} (h_b : b ≤ 50) (e_b : M 46 2 = nI b) (hac : ac < b) (e_k : M 47 ac = 3) : x_M l G fX8_perform 16 0 0 [.ref (46), .int (nI (ac)), .int (3), .int (x)] x_SH M J (qKI WTR M J (fun r M2 => M2 46 3 = nI 7 ∧ TrF 48 [2, 41, 30, 10, 1, 40, 11] M2)) := by
  refine xb_of pX8 (Nat.le_of_ble_eq_true rfl) rfl ?_
  refine xr_aload_n dX8_perform_0 0 rfl ?_
  refine xr_iconst (v := 0) dX8_perform_1 rfl ?_
  refine xr_putI fpX8_33 dX8_perform_2 s_46 rfl rfl rfl ?_
  refine xr_aload_n dX8_perform_5 0 rfl ?_
  refine xr_iload_n dX8_perform_6 1 rfl ?_
  refine xr_putI fpX8_36 dX8_perform_7 s_46 rfl rfl rfl ?_
  refine xr_aload_n dX8_perform_10 0 rfl ?_
  refine xr_iload_n dX8_perform_11 2 rfl ?_
  refine xr_iload_n dX8_perform_12 3 rfl ?_
  refine xr_iconst (v := 0) dX8_perform_13 rfl ?_
  refine xr_callV (As := [.int (3), .int (x), .int (0)]) (rest := []) mlX8_39 (tv3_own_3 (e := 0) (ac := ac) (ra := 0) x (by omega) h_b (Eq.trans (x_up_k _ _ _ (by decide)) (Eq.trans (x_up_k _ _ _ (by decide)) e_b)) (by omega) (Eq.trans (x_up_k _ _ _ (by decide)) (x_up_s _ _ _ _)) hac (x_up_s _ _ _ _) (Eq.trans (congrFun (x_up_n _ _ _ (by decide)) _) (Eq.trans (congrFun (x_up_n _ _ _ (by decide)) _) e_k))) dX8_perform_14 s_46 rfl rfl (Nat.le_of_ble_eq_true rfl) (by decide) ⟨by decide, by decide⟩ (fun v s2 M4 J2 hq => ?_)
  obtain ⟨r6, rfl, rfl, rfl, k5, ⟨hr2, hx1, ht3⟩⟩ := hq
  try dsimp only [Option.toList, List.cons_append, List.nil_append]
  subst hr2
  exact xr_iret dX8_perform_17 rfl rfl (⟨_, rfl, rfl, rfl, (Ke.tr (fun pp kk => (fun hh => Or.elim hh (fun h => (Or.inl h)) (fun h => (Or.inr (Or.inr h))))) (Ke.up (Or.inr (Or.inl (by omega))) (Ke.up (Or.inl (by omega)) Ke.rf)) k5), ⟨(hx1.trans (congrArg nI (Nat.zero_add _))), TrA_F ht3⟩⟩)
set_option maxRecDepth 100000 in
set_option maxHeartbeats 4000000 in
theorem tv4_run_1_0 {e ac : Nat} (x : Int32) (he : e + 0 ≤ 30) {l : Launch} {G : xG} {M : xM} {J : xJ} {b ra : Nat} (h_b : b ≤ 50) (e_b : M 46 2 = nI b) (h_ra : ra + 1 ≤ 900) (e_ra : M 46 3 = nI ra) (hac : ac < b) (e_ac : M 46 4 = nI ac) (e_k : M 47 ac = 4) : x_M l G fX8_run 1 0 0 [.ref (46), .int (1), .int (0), .int (x), .int (nI (e))] x_SH M J (qKI WTN M J (fun r M2 => r = (x + (nI (ac))) ∧ M2 46 3 = nI (ra + 1) ∧ TrA 48 ra [1] M M2)) := by
  refine xb_of pX8 (Nat.le_of_ble_eq_true rfl) rfl ?_
  refine xr_aload_n dX8_run_0 0 rfl ?_
  refine xr_iload_n dX8_run_1 1 rfl ?_
  refine xr_callV (As := [.int (1)]) (rest := []) mlX8_56 (gt_X8_note 1 (by omega) e_ra) dX8_run_2 s_46 rfl rfl (Nat.le_of_ble_eq_true rfl) (by decide) ⟨by decide, by decide⟩ (fun v s2 M3 J2 hq => ?_)
  obtain ⟨rfl, rfl, rfl, k4, ⟨hx1, ht2⟩⟩ := hq
  try dsimp only [Option.toList, List.cons_append, List.nil_append]
  refine xr_iload_n dX8_run_5 1 rfl ?_
  refine xr_lookup (tgt := 120) (off := 114) dX8_run_6 (by decide) (by decide) rfl ?_
  refine xr_iload_n dX8_run_120 3 rfl ?_
  refine xr_aload_n dX8_run_121 0 rfl ?_
  refine xb_get (v := nI (ac)) flX8_36 dX8_run_122 s_46 rfl (Eq.trans (k4 46 4 (by decide)) e_ac) ?_
  refine xr_iadd dX8_run_125 ?_
  exact xr_iret dX8_run_126 rfl rfl (⟨_, rfl, rfl, rfl, (Ke.tr (fun _ _ h => h) Ke.rf k4), rfl, hx1, ht2⟩)
set_option maxRecDepth 100000 in
set_option maxHeartbeats 4000000 in
theorem tv4_runFrom_0_0 {e ac : Nat} (x : Int32) (he : e + 1 ≤ 30) {l : Launch} {G : xG} {M : xM} {J : xJ} {b ra : Nat} (h_b : b ≤ 50) (e_b : M 46 2 = nI b) (h_ra : ra + 1 ≤ 900) (e_ra : M 46 3 = nI ra) (hac : ac < b) (e_ac : M 46 4 = nI ac) (e_k : M 47 ac = 4) : x_M l G fX8_runFrom 2 0 0 [.ref (46), .int (0), .int (0), .int (x), .int (nI (e))] x_SH M J (qKI WTN M J (fun r M2 => r = (x + (nI (ac))) ∧ M2 46 3 = nI (ra + 1) ∧ TrA 48 ra [1] M M2)) := by
  refine xb_of pX8 (Nat.le_of_ble_eq_true rfl) rfl ?_
  refine xr_iload_n dX8_runFrom_0 1 rfl ?_
  refine xr_istore (ls2 := [(5, .int (0)), (0, .ref (46)), (1, .int (0)), (2, .int (0)), (3, .int (x)), (4, .int (nI (e)))]) dX8_runFrom_1 (by decide) rfl ?_
  refine xr_iconst (v := 0) dX8_runFrom_3 rfl ?_
  refine xr_istore (ls2 := [(6, .int (0)), (5, .int (0)), (0, .ref (46)), (1, .int (0)), (2, .int (0)), (3, .int (x)), (4, .int (nI (e)))]) dX8_runFrom_4 (by decide) rfl ?_
  refine xr_iload dX8_runFrom_6 0 rfl ?_
  refine xr_bipush (v := 8) dX8_runFrom_8 rfl ?_
  refine xr_icmp_ge (tgt := 81) dX8_runFrom_10 rfl (fun c => absurd c (by decide)) (fun _ => ?_)
  refine xr_iload dX8_runFrom_13 1 rfl ?_
  refine xb_cN (As := [.int (0)]) (rest := []) mlX8_26 (c_X9_isKind 0) dX8_runFrom_15 rfl rfl (Nat.le_of_ble_eq_true rfl) (by decide) (by decide) ?_
  refine xb_beq (tgt := 81) dX8_runFrom_18 rfl (fun c => absurd (by decide) c) (fun _ => ?_)
  refine xr_getsO slX8_50 dX8_runFrom_21 ?_
  refine xr_iload dX8_runFrom_24 1 rfl ?_
  refine xr_iconst (v := 4) dX8_runFrom_26 rfl ?_
  refine xr_imul dX8_runFrom_27 ?_
  refine xb_top (y := 0) (by decide) ?_
  refine xr_iload_n dX8_runFrom_28 4 rfl ?_
  refine xr_iadd dX8_runFrom_29 ?_
  refine xb_top (y := 0) (by decide) ?_
  refine xr_tabO (by unfold vp_in; decide) dX8_runFrom_30 ?_
  refine xb_top (y := 1) (by decide) ?_
  refine xr_if_eq (tgt := 67) dX8_runFrom_31 rfl (fun c => absurd c (by decide)) (fun _ => ?_)
  refine xr_iload dX8_runFrom_34 6 rfl ?_
  refine xr_bipush (v := 30) dX8_runFrom_36 rfl ?_
  refine xr_icmp_ge (tgt := 65) dX8_runFrom_38 rfl (fun c => absurd c (nI_ge (a := e) (b := 30) (by omega) (by omega))) (fun _ => ?_)
  refine xr_aload_n dX8_runFrom_41 2 rfl ?_
  refine xr_getsO slX8_50 dX8_runFrom_42 ?_
  refine xr_iload dX8_runFrom_45 1 rfl ?_
  refine xr_iconst (v := 4) dX8_runFrom_47 rfl ?_
  refine xr_imul dX8_runFrom_48 ?_
  refine xb_top (y := 0) (by decide) ?_
  refine xr_iload_n dX8_runFrom_49 4 rfl ?_
  refine xr_iadd dX8_runFrom_50 ?_
  refine xb_top (y := 0) (by decide) ?_
  refine xr_tabO (by unfold vp_in; decide) dX8_runFrom_51 ?_
  refine xb_top (y := 1) (by decide) ?_
  refine xr_iload dX8_runFrom_52 1 rfl ?_
  refine xr_iload_n dX8_runFrom_54 5 rfl ?_
  refine xr_iload dX8_runFrom_55 6 rfl ?_
  refine xr_iconst (v := 1) dX8_runFrom_57 rfl ?_
  refine xr_iadd dX8_runFrom_58 ?_
  refine xb_top (y := nI (e + 1)) (nI_add (e) (1)) ?_
  refine xr_callV (As := [.int (1), .int (0), .int (x), .int (nI (e + 1))]) (rest := []) mlX8_53 (tv4_run_1_0 (e := e + 1) (ac := ac) x (by omega) (by omega) e_b (by omega) e_ra hac e_ac e_k) dX8_runFrom_59 s_46 rfl rfl (Nat.le_of_ble_eq_true rfl) (by decide) ⟨by decide, by decide⟩ (fun v s2 M5 J2 hq => ?_)
  obtain ⟨r7, rfl, rfl, rfl, k6, ⟨hr3, hx2, ht4⟩⟩ := hq
  try dsimp only [Option.toList, List.cons_append, List.nil_append]
  subst hr3
  refine xr_goto (tgt := 66) dX8_runFrom_62 rfl ?_
  exact xr_iret dX8_runFrom_66 rfl rfl (⟨_, rfl, rfl, rfl, (Ke.tr (fun _ _ h => h) Ke.rf k6), rfl, hx2, ht4⟩)
set_option maxRecDepth 100000 in
set_option maxHeartbeats 4000000 in
theorem tv4_above_1_0 {e ac : Nat} (x : Int32) (he : e + 1 ≤ 30) {l : Launch} {G : xG} {M : xM} {J : xJ} {b ra : Nat} (h_b : b ≤ 50) (e_b : M 46 2 = nI b) (h_ra : ra + 1 ≤ 900) (e_ra : M 46 3 = nI ra) (hac : ac < b) (e_ac : M 46 4 = nI ac) (e_k : M 47 ac = 4) : x_M l G fX8_above 3 0 0 [.ref (46), .int (1), .int (0), .int (x), .int (nI (e))] x_SH M J (qKI WTN M J (fun r M2 => r = (x + (nI (ac))) ∧ M2 46 3 = nI (ra + 1) ∧ TrA 48 ra [1] M M2)) := by
  refine xb_of pX8 (Nat.le_of_ble_eq_true rfl) rfl ?_
  refine xr_iload_n dX8_above_0 1 rfl ?_
  refine xb_cN (As := [.int (1)]) (rest := []) mlX8_26 (c_X9_isKind 1) dX8_above_1 rfl rfl (Nat.le_of_ble_eq_true rfl) (by decide) (by decide) ?_
  refine xb_beq (tgt := 23) dX8_above_4 rfl (fun c => absurd (by decide) c) (fun _ => ?_)
  refine xr_aload_n dX8_above_7 0 rfl ?_
  refine xr_getsA slX8_30 dX8_above_8 ?_
  refine xr_iload_n dX8_above_11 1 rfl ?_
  refine xr_tabA (by unfold vp_in; decide) dX8_above_12 ?_
  refine xb_top (y := 0) (by decide) ?_
  refine xr_iload_n dX8_above_13 2 rfl ?_
  refine xr_iload_n dX8_above_14 3 rfl ?_
  refine xr_iload dX8_above_15 4 rfl ?_
  refine xr_callV (As := [.int (0), .int (0), .int (x), .int (nI (e))]) (rest := []) mlX8_46 (tv4_runFrom_0_0 (e := e) (ac := ac) x (by omega) (by omega) e_b (by omega) e_ra hac e_ac e_k) dX8_above_17 s_46 rfl rfl (Nat.le_of_ble_eq_true rfl) (by decide) ⟨by decide, by decide⟩ (fun v s2 M5 J2 hq => ?_)
  obtain ⟨r7, rfl, rfl, rfl, k6, ⟨hr3, hx2, ht4⟩⟩ := hq
  try dsimp only [Option.toList, List.cons_append, List.nil_append]
  subst hr3
  refine xr_goto (tgt := 24) dX8_above_20 rfl ?_
  exact xr_iret dX8_above_24 rfl rfl (⟨_, rfl, rfl, rfl, (Ke.tr (fun _ _ h => h) Ke.rf k6), rfl, hx2, ht4⟩)
set_option maxRecDepth 100000 in
set_option maxHeartbeats 4000000 in
theorem tv4_run_20_1 {e ac : Nat} (x : Int32) (he : e + 1 ≤ 30) {l : Launch} {G : xG} {M : xM} {J : xJ} {b ra : Nat} (h_b : b ≤ 50) (e_b : M 46 2 = nI b) (h_ra : ra + 2 ≤ 900) (e_ra : M 46 3 = nI ra) (hac : ac < b) (e_ac : M 46 4 = nI ac) (e_k : M 47 ac = 4) : x_M l G fX8_run 4 0 0 [.ref (46), .int (20), .int (1), .int (x), .int (nI (e))] x_SH M J (qKI WTN M J (fun r M2 => r = ((x + (nI (ac))) + 3) ∧ M2 46 3 = nI (ra + 2) ∧ TrA 48 ra [20, 1] M M2)) := by
  refine xb_of pX8 (Nat.le_of_ble_eq_true rfl) rfl ?_
  refine xr_aload_n dX8_run_0 0 rfl ?_
  refine xr_iload_n dX8_run_1 1 rfl ?_
  refine xr_callV (As := [.int (20)]) (rest := []) mlX8_56 (gt_X8_note 20 (by omega) e_ra) dX8_run_2 s_46 rfl rfl (Nat.le_of_ble_eq_true rfl) (by decide) ⟨by decide, by decide⟩ (fun v s2 M3 J2 hq => ?_)
  obtain ⟨rfl, rfl, rfl, k4, ⟨hx1, ht2⟩⟩ := hq
  try dsimp only [Option.toList, List.cons_append, List.nil_append]
  refine xr_iload_n dX8_run_5 1 rfl ?_
  refine xr_lookup (tgt := 163) (off := 157) dX8_run_6 (by decide) (by decide) rfl ?_
  refine xr_aload_n dX8_run_163 0 rfl ?_
  refine xr_iload_n dX8_run_164 2 rfl ?_
  refine xr_iconst (v := 0) dX8_run_165 rfl ?_
  refine xr_iload_n dX8_run_166 3 rfl ?_
  refine xr_iload dX8_run_167 4 rfl ?_
  refine xr_callV (As := [.int (1), .int (0), .int (x), .int (nI (e))]) (rest := []) mlX8_60 (tv4_above_1_0 (e := e) (ac := ac) x (by omega) (by omega) (Eq.trans (k4 46 2 (by decide)) e_b) (by omega) hx1 hac (Eq.trans (k4 46 4 (by decide)) e_ac) (Eq.trans (k4 47 ac (by unfold WTN; omega)) e_k)) dX8_run_169 s_46 rfl rfl (Nat.le_of_ble_eq_true rfl) (by decide) ⟨by decide, by decide⟩ (fun v s2 M8 J2 hq => ?_)
  obtain ⟨r10, rfl, rfl, rfl, k9, ⟨hr6, hx5, ht7⟩⟩ := hq
  try dsimp only [Option.toList, List.cons_append, List.nil_append]
  subst hr6
  refine xr_iconst (v := 3) dX8_run_172 rfl ?_
  refine xr_iadd dX8_run_173 ?_
  exact xr_iret dX8_run_174 rfl rfl (⟨_, rfl, rfl, rfl, (Ke.tr (fun _ _ h => h) (Ke.tr (fun _ _ h => h) Ke.rf k4) k9), rfl, hx5, (TrA_app (l := [20]) (m := [1]) ht2 ht7)⟩)
set_option maxRecDepth 100000 in
set_option maxHeartbeats 4000000 in
theorem tv4_runFrom_4_0 {e ac : Nat} (x : Int32) (he : e + 2 ≤ 30) {l : Launch} {G : xG} {M : xM} {J : xJ} {b ra : Nat} (h_b : b ≤ 50) (e_b : M 46 2 = nI b) (h_ra : ra + 2 ≤ 900) (e_ra : M 46 3 = nI ra) (hac : ac < b) (e_ac : M 46 4 = nI ac) (e_k : M 47 ac = 4) : x_M l G fX8_runFrom 5 0 0 [.ref (46), .int (4), .int (0), .int (x), .int (nI (e))] x_SH M J (qKI WTN M J (fun r M2 => r = ((x + (nI (ac))) + 3) ∧ M2 46 3 = nI (ra + 2) ∧ TrA 48 ra [20, 1] M M2)) := by
  refine xb_of pX8 (Nat.le_of_ble_eq_true rfl) rfl ?_
  refine xr_iload_n dX8_runFrom_0 1 rfl ?_
  refine xr_istore (ls2 := [(5, .int (4)), (0, .ref (46)), (1, .int (4)), (2, .int (0)), (3, .int (x)), (4, .int (nI (e)))]) dX8_runFrom_1 (by decide) rfl ?_
  refine xr_iconst (v := 0) dX8_runFrom_3 rfl ?_
  refine xr_istore (ls2 := [(6, .int (0)), (5, .int (4)), (0, .ref (46)), (1, .int (4)), (2, .int (0)), (3, .int (x)), (4, .int (nI (e)))]) dX8_runFrom_4 (by decide) rfl ?_
  refine xr_iload dX8_runFrom_6 0 rfl ?_
  refine xr_bipush (v := 8) dX8_runFrom_8 rfl ?_
  refine xr_icmp_ge (tgt := 81) dX8_runFrom_10 rfl (fun c => absurd c (by decide)) (fun _ => ?_)
  refine xr_iload dX8_runFrom_13 1 rfl ?_
  refine xb_cN (As := [.int (4)]) (rest := []) mlX8_26 (c_X9_isKind 4) dX8_runFrom_15 rfl rfl (Nat.le_of_ble_eq_true rfl) (by decide) (by decide) ?_
  refine xb_beq (tgt := 81) dX8_runFrom_18 rfl (fun c => absurd (by decide) c) (fun _ => ?_)
  refine xr_getsO slX8_50 dX8_runFrom_21 ?_
  refine xr_iload dX8_runFrom_24 1 rfl ?_
  refine xr_iconst (v := 4) dX8_runFrom_26 rfl ?_
  refine xr_imul dX8_runFrom_27 ?_
  refine xb_top (y := 16) (by decide) ?_
  refine xr_iload_n dX8_runFrom_28 4 rfl ?_
  refine xr_iadd dX8_runFrom_29 ?_
  refine xb_top (y := 16) (by decide) ?_
  refine xr_tabO (by unfold vp_in; decide) dX8_runFrom_30 ?_
  refine xb_top (y := 0) (by decide) ?_
  refine xr_if_eq (tgt := 67) dX8_runFrom_31 rfl (fun _ => ?_) (fun c => absurd (by decide) c)
  refine xr_getsA slX8_30 dX8_runFrom_67 ?_
  refine xr_iload dX8_runFrom_70 1 rfl ?_
  refine xr_tabA (by unfold vp_in; decide) dX8_runFrom_72 ?_
  refine xb_top (y := 1) (by decide) ?_
  refine xr_istore (ls2 := [(5, .int (1)), (6, .int (0)), (0, .ref (46)), (1, .int (4)), (2, .int (0)), (3, .int (x)), (4, .int (nI (e)))]) dX8_runFrom_73 (by decide) rfl ?_
  refine xr_iinc (v := 1) (ls2 := [(6, .int (1)), (5, .int (1)), (0, .ref (46)), (1, .int (4)), (2, .int (0)), (3, .int (x)), (4, .int (nI (e)))]) dX8_runFrom_75 1 rfl rfl (by decide) rfl ?_
  refine xr_goto (tgt := 6) dX8_runFrom_78 rfl ?_
  refine xr_iload dX8_runFrom_6 0 rfl ?_
  refine xr_bipush (v := 8) dX8_runFrom_8 rfl ?_
  refine xr_icmp_ge (tgt := 81) dX8_runFrom_10 rfl (fun c => absurd c (by decide)) (fun _ => ?_)
  refine xr_iload dX8_runFrom_13 1 rfl ?_
  refine xb_cN (As := [.int (1)]) (rest := []) mlX8_26 (c_X9_isKind 1) dX8_runFrom_15 rfl rfl (Nat.le_of_ble_eq_true rfl) (by decide) (by decide) ?_
  refine xb_beq (tgt := 81) dX8_runFrom_18 rfl (fun c => absurd (by decide) c) (fun _ => ?_)
  refine xr_getsO slX8_50 dX8_runFrom_21 ?_
  refine xr_iload dX8_runFrom_24 1 rfl ?_
  refine xr_iconst (v := 4) dX8_runFrom_26 rfl ?_
  refine xr_imul dX8_runFrom_27 ?_
  refine xb_top (y := 4) (by decide) ?_
  refine xr_iload_n dX8_runFrom_28 4 rfl ?_
  refine xr_iadd dX8_runFrom_29 ?_
  refine xb_top (y := 4) (by decide) ?_
  refine xr_tabO (by unfold vp_in; decide) dX8_runFrom_30 ?_
  refine xb_top (y := 20) (by decide) ?_
  refine xr_if_eq (tgt := 67) dX8_runFrom_31 rfl (fun c => absurd c (by decide)) (fun _ => ?_)
  refine xr_iload dX8_runFrom_34 6 rfl ?_
  refine xr_bipush (v := 30) dX8_runFrom_36 rfl ?_
  refine xr_icmp_ge (tgt := 65) dX8_runFrom_38 rfl (fun c => absurd c (nI_ge (a := e) (b := 30) (by omega) (by omega))) (fun _ => ?_)
  refine xr_aload_n dX8_runFrom_41 2 rfl ?_
  refine xr_getsO slX8_50 dX8_runFrom_42 ?_
  refine xr_iload dX8_runFrom_45 1 rfl ?_
  refine xr_iconst (v := 4) dX8_runFrom_47 rfl ?_
  refine xr_imul dX8_runFrom_48 ?_
  refine xb_top (y := 4) (by decide) ?_
  refine xr_iload_n dX8_runFrom_49 4 rfl ?_
  refine xr_iadd dX8_runFrom_50 ?_
  refine xb_top (y := 4) (by decide) ?_
  refine xr_tabO (by unfold vp_in; decide) dX8_runFrom_51 ?_
  refine xb_top (y := 20) (by decide) ?_
  refine xr_iload dX8_runFrom_52 1 rfl ?_
  refine xr_iload_n dX8_runFrom_54 5 rfl ?_
  refine xr_iload dX8_runFrom_55 6 rfl ?_
  refine xr_iconst (v := 1) dX8_runFrom_57 rfl ?_
  refine xr_iadd dX8_runFrom_58 ?_
  refine xb_top (y := nI (e + 1)) (nI_add (e) (1)) ?_
  refine xr_callV (As := [.int (20), .int (1), .int (x), .int (nI (e + 1))]) (rest := []) mlX8_53 (tv4_run_20_1 (e := e + 1) (ac := ac) x (by omega) (by omega) e_b (by omega) e_ra hac e_ac e_k) dX8_runFrom_59 s_46 rfl rfl (Nat.le_of_ble_eq_true rfl) (by decide) ⟨by decide, by decide⟩ (fun v s2 M6 J2 hq => ?_)
  obtain ⟨r8, rfl, rfl, rfl, k7, ⟨hr4, hx3, ht5⟩⟩ := hq
  try dsimp only [Option.toList, List.cons_append, List.nil_append]
  subst hr4
  refine xr_goto (tgt := 66) dX8_runFrom_62 rfl ?_
  exact xr_iret dX8_runFrom_66 rfl rfl (⟨_, rfl, rfl, rfl, (Ke.tr (fun _ _ h => h) Ke.rf k7), rfl, hx3, ht5⟩)
set_option maxRecDepth 100000 in
set_option maxHeartbeats 4000000 in
theorem tv4_own_0 {e ac : Nat} (x : Int32) (he : e + 2 ≤ 30) {l : Launch} {G : xG} {M : xM} {J : xJ} {b ra : Nat} (h_b : b ≤ 50) (e_b : M 46 2 = nI b) (h_ra : ra + 2 ≤ 900) (e_ra : M 46 3 = nI ra) (hac : ac < b) (e_ac : M 46 4 = nI ac) (e_k : M 47 ac = 4) : x_M l G fX8_own 6 0 0 [.ref (46), .int (0), .int (x), .int (nI (e))] x_SH M J (qKI WTN M J (fun r M2 => r = ((x + (nI (ac))) + 3) ∧ M2 46 3 = nI (ra + 2) ∧ TrA 48 ra [20, 1] M M2)) := by
  refine xb_of pX8 (Nat.le_of_ble_eq_true rfl) rfl ?_
  refine xr_aload_n dX8_own_0 0 rfl ?_
  refine xr_aload_n dX8_own_1 0 rfl ?_
  refine xb_get (v := nI (ac)) flX8_36 dX8_own_2 s_46 rfl e_ac ?_
  refine xb_cV (As := [.int (nI (ac))]) (rest := []) mlX8_43 (c_X8_has (nI (ac)) (by omega) e_b) dX8_own_5 s_46 rfl rfl (Nat.le_of_ble_eq_true rfl) (by decide) (by decide) ?_
  refine xb_beq (tgt := 30) dX8_own_8 rfl (fun c => absurd ⟨nI_pos' (by omega), nI_lt (by omega) (by omega)⟩ c) (fun _ => ?_)
  refine xr_aload_n dX8_own_11 0 rfl ?_
  refine xr_aload_n dX8_own_12 0 rfl ?_
  refine xr_getR flX8_9 dX8_own_13 s_46 rfl ?_
  refine xr_aload_n dX8_own_16 0 rfl ?_
  refine xb_get (v := nI (ac)) flX8_36 dX8_own_17 s_46 rfl e_ac ?_
  refine xb_iald (j := ac) (v := 4) dX8_own_20 s_47 (by omega) (by decide) e_k ?_
  refine xr_iload_n dX8_own_21 1 rfl ?_
  refine xr_iload_n dX8_own_22 2 rfl ?_
  refine xr_iload_n dX8_own_23 3 rfl ?_
  refine xr_callV (As := [.int (4), .int (0), .int (x), .int (nI (e))]) (rest := []) mlX8_46 (tv4_runFrom_4_0 (e := e) (ac := ac) x (by omega) (by omega) e_b (by omega) e_ra hac e_ac e_k) dX8_own_24 s_46 rfl rfl (Nat.le_of_ble_eq_true rfl) (by decide) ⟨by decide, by decide⟩ (fun v s2 M5 J2 hq => ?_)
  obtain ⟨r7, rfl, rfl, rfl, k6, ⟨hr3, hx2, ht4⟩⟩ := hq
  try dsimp only [Option.toList, List.cons_append, List.nil_append]
  subst hr3
  refine xr_goto (tgt := 31) dX8_own_27 rfl ?_
  exact xr_iret dX8_own_31 rfl rfl (⟨_, rfl, rfl, rfl, (Ke.tr (fun _ _ h => h) Ke.rf k6), rfl, hx2, ht4⟩)
set_option maxRecDepth 100000 in
set_option maxHeartbeats 4000000 in
theorem tw4_0 {ac b : Nat} (x : Int32) {l : Launch} {G : xG} {M : xM} {J : xJ} (h_b : b ≤ 50) (e_b : M 46 2 = nI b) (hac : ac < b) (e_k : M 47 ac = 4) : x_M l G fX8_perform 7 0 0 [.ref (46), .int (nI (ac)), .int (0), .int (x)] x_SH M J (qKI WTR M J (fun r M2 => M2 46 3 = nI 2 ∧ TrF 48 [20, 1] M2)) := by
  refine xb_of pX8 (Nat.le_of_ble_eq_true rfl) rfl ?_
  refine xr_aload_n dX8_perform_0 0 rfl ?_
  refine xr_iconst (v := 0) dX8_perform_1 rfl ?_
  refine xr_putI fpX8_33 dX8_perform_2 s_46 rfl rfl rfl ?_
  refine xr_aload_n dX8_perform_5 0 rfl ?_
  refine xr_iload_n dX8_perform_6 1 rfl ?_
  refine xr_putI fpX8_36 dX8_perform_7 s_46 rfl rfl rfl ?_
  refine xr_aload_n dX8_perform_10 0 rfl ?_
  refine xr_iload_n dX8_perform_11 2 rfl ?_
  refine xr_iload_n dX8_perform_12 3 rfl ?_
  refine xr_iconst (v := 0) dX8_perform_13 rfl ?_
  refine xr_callV (As := [.int (0), .int (x), .int (0)]) (rest := []) mlX8_39 (tv4_own_0 (e := 0) (ac := ac) (ra := 0) x (by omega) h_b (Eq.trans (x_up_k _ _ _ (by decide)) (Eq.trans (x_up_k _ _ _ (by decide)) e_b)) (by omega) (Eq.trans (x_up_k _ _ _ (by decide)) (x_up_s _ _ _ _)) hac (x_up_s _ _ _ _) (Eq.trans (congrFun (x_up_n _ _ _ (by decide)) _) (Eq.trans (congrFun (x_up_n _ _ _ (by decide)) _) e_k))) dX8_perform_14 s_46 rfl rfl (Nat.le_of_ble_eq_true rfl) (by decide) ⟨by decide, by decide⟩ (fun v s2 M4 J2 hq => ?_)
  obtain ⟨r6, rfl, rfl, rfl, k5, ⟨hr2, hx1, ht3⟩⟩ := hq
  try dsimp only [Option.toList, List.cons_append, List.nil_append]
  subst hr2
  exact xr_iret dX8_perform_17 rfl rfl (⟨_, rfl, rfl, rfl, (Ke.tr (fun pp kk => (fun hh => Or.elim hh (fun h => (Or.inl h)) (fun h => (Or.inr (Or.inr h))))) (Ke.up (Or.inr (Or.inl (by omega))) (Ke.up (Or.inl (by omega)) Ke.rf)) k5), ⟨(hx1.trans (congrArg nI (Nat.zero_add _))), TrA_F ht3⟩⟩)
set_option maxRecDepth 100000 in
set_option maxHeartbeats 4000000 in
theorem tv4_run_10_0 {e ac : Nat} (x : Int32) (he : e + 2 ≤ 30) {l : Launch} {G : xG} {M : xM} {J : xJ} {b ra : Nat} (h_b : b ≤ 50) (e_b : M 46 2 = nI b) (h_ra : ra + 3 ≤ 900) (e_ra : M 46 3 = nI ra) (hac : ac < b) (e_ac : M 46 4 = nI ac) (e_k : M 47 ac = 4) : x_M l G fX8_run 7 0 0 [.ref (46), .int (10), .int (0), .int (x), .int (nI (e))] x_SH M J (qKI WTN M J (fun r M2 => r = (((x + (nI (ac))) + 3) * 2) ∧ M2 46 3 = nI (ra + 3) ∧ TrA 48 ra [10, 20, 1] M M2)) := by
  refine xb_of pX8 (Nat.le_of_ble_eq_true rfl) rfl ?_
  refine xr_aload_n dX8_run_0 0 rfl ?_
  refine xr_iload_n dX8_run_1 1 rfl ?_
  refine xr_callV (As := [.int (10)]) (rest := []) mlX8_56 (gt_X8_note 10 (by omega) e_ra) dX8_run_2 s_46 rfl rfl (Nat.le_of_ble_eq_true rfl) (by decide) ⟨by decide, by decide⟩ (fun v s2 M3 J2 hq => ?_)
  obtain ⟨rfl, rfl, rfl, k4, ⟨hx1, ht2⟩⟩ := hq
  try dsimp only [Option.toList, List.cons_append, List.nil_append]
  refine xr_iload_n dX8_run_5 1 rfl ?_
  refine xr_lookup (tgt := 145) (off := 139) dX8_run_6 (by decide) (by decide) rfl ?_
  refine xr_aload_n dX8_run_145 0 rfl ?_
  refine xr_iconst (v := 0) dX8_run_146 rfl ?_
  refine xr_iload_n dX8_run_147 3 rfl ?_
  refine xr_iload dX8_run_148 4 rfl ?_
  refine xr_callV (As := [.int (0), .int (x), .int (nI (e))]) (rest := []) mlX8_39 (tv4_own_0 (e := e) (ac := ac) x (by omega) (by omega) (Eq.trans (k4 46 2 (by decide)) e_b) (by omega) hx1 hac (Eq.trans (k4 46 4 (by decide)) e_ac) (Eq.trans (k4 47 ac (by unfold WTN; omega)) e_k)) dX8_run_150 s_46 rfl rfl (Nat.le_of_ble_eq_true rfl) (by decide) ⟨by decide, by decide⟩ (fun v s2 M8 J2 hq => ?_)
  obtain ⟨r10, rfl, rfl, rfl, k9, ⟨hr6, hx5, ht7⟩⟩ := hq
  try dsimp only [Option.toList, List.cons_append, List.nil_append]
  subst hr6
  refine xr_iconst (v := 2) dX8_run_153 rfl ?_
  refine xr_imul dX8_run_154 ?_
  exact xr_iret dX8_run_155 rfl rfl (⟨_, rfl, rfl, rfl, (Ke.tr (fun _ _ h => h) (Ke.tr (fun _ _ h => h) Ke.rf k4) k9), rfl, hx5, (TrA_app (l := [10]) (m := [20, 1]) ht2 ht7)⟩)
set_option maxRecDepth 100000 in
set_option maxHeartbeats 4000000 in
theorem tv4_runFrom_4_1 {e ac : Nat} (x : Int32) (he : e + 3 ≤ 30) {l : Launch} {G : xG} {M : xM} {J : xJ} {b ra : Nat} (h_b : b ≤ 50) (e_b : M 46 2 = nI b) (h_ra : ra + 3 ≤ 900) (e_ra : M 46 3 = nI ra) (hac : ac < b) (e_ac : M 46 4 = nI ac) (e_k : M 47 ac = 4) : x_M l G fX8_runFrom 8 0 0 [.ref (46), .int (4), .int (1), .int (x), .int (nI (e))] x_SH M J (qKI WTN M J (fun r M2 => r = (((x + (nI (ac))) + 3) * 2) ∧ M2 46 3 = nI (ra + 3) ∧ TrA 48 ra [10, 20, 1] M M2)) := by
  refine xb_of pX8 (Nat.le_of_ble_eq_true rfl) rfl ?_
  refine xr_iload_n dX8_runFrom_0 1 rfl ?_
  refine xr_istore (ls2 := [(5, .int (4)), (0, .ref (46)), (1, .int (4)), (2, .int (1)), (3, .int (x)), (4, .int (nI (e)))]) dX8_runFrom_1 (by decide) rfl ?_
  refine xr_iconst (v := 0) dX8_runFrom_3 rfl ?_
  refine xr_istore (ls2 := [(6, .int (0)), (5, .int (4)), (0, .ref (46)), (1, .int (4)), (2, .int (1)), (3, .int (x)), (4, .int (nI (e)))]) dX8_runFrom_4 (by decide) rfl ?_
  refine xr_iload dX8_runFrom_6 0 rfl ?_
  refine xr_bipush (v := 8) dX8_runFrom_8 rfl ?_
  refine xr_icmp_ge (tgt := 81) dX8_runFrom_10 rfl (fun c => absurd c (by decide)) (fun _ => ?_)
  refine xr_iload dX8_runFrom_13 1 rfl ?_
  refine xb_cN (As := [.int (4)]) (rest := []) mlX8_26 (c_X9_isKind 4) dX8_runFrom_15 rfl rfl (Nat.le_of_ble_eq_true rfl) (by decide) (by decide) ?_
  refine xb_beq (tgt := 81) dX8_runFrom_18 rfl (fun c => absurd (by decide) c) (fun _ => ?_)
  refine xr_getsO slX8_50 dX8_runFrom_21 ?_
  refine xr_iload dX8_runFrom_24 1 rfl ?_
  refine xr_iconst (v := 4) dX8_runFrom_26 rfl ?_
  refine xr_imul dX8_runFrom_27 ?_
  refine xb_top (y := 16) (by decide) ?_
  refine xr_iload_n dX8_runFrom_28 4 rfl ?_
  refine xr_iadd dX8_runFrom_29 ?_
  refine xb_top (y := 17) (by decide) ?_
  refine xr_tabO (by unfold vp_in; decide) dX8_runFrom_30 ?_
  refine xb_top (y := 0) (by decide) ?_
  refine xr_if_eq (tgt := 67) dX8_runFrom_31 rfl (fun _ => ?_) (fun c => absurd (by decide) c)
  refine xr_getsA slX8_30 dX8_runFrom_67 ?_
  refine xr_iload dX8_runFrom_70 1 rfl ?_
  refine xr_tabA (by unfold vp_in; decide) dX8_runFrom_72 ?_
  refine xb_top (y := 1) (by decide) ?_
  refine xr_istore (ls2 := [(5, .int (1)), (6, .int (0)), (0, .ref (46)), (1, .int (4)), (2, .int (1)), (3, .int (x)), (4, .int (nI (e)))]) dX8_runFrom_73 (by decide) rfl ?_
  refine xr_iinc (v := 1) (ls2 := [(6, .int (1)), (5, .int (1)), (0, .ref (46)), (1, .int (4)), (2, .int (1)), (3, .int (x)), (4, .int (nI (e)))]) dX8_runFrom_75 1 rfl rfl (by decide) rfl ?_
  refine xr_goto (tgt := 6) dX8_runFrom_78 rfl ?_
  refine xr_iload dX8_runFrom_6 0 rfl ?_
  refine xr_bipush (v := 8) dX8_runFrom_8 rfl ?_
  refine xr_icmp_ge (tgt := 81) dX8_runFrom_10 rfl (fun c => absurd c (by decide)) (fun _ => ?_)
  refine xr_iload dX8_runFrom_13 1 rfl ?_
  refine xb_cN (As := [.int (1)]) (rest := []) mlX8_26 (c_X9_isKind 1) dX8_runFrom_15 rfl rfl (Nat.le_of_ble_eq_true rfl) (by decide) (by decide) ?_
  refine xb_beq (tgt := 81) dX8_runFrom_18 rfl (fun c => absurd (by decide) c) (fun _ => ?_)
  refine xr_getsO slX8_50 dX8_runFrom_21 ?_
  refine xr_iload dX8_runFrom_24 1 rfl ?_
  refine xr_iconst (v := 4) dX8_runFrom_26 rfl ?_
  refine xr_imul dX8_runFrom_27 ?_
  refine xb_top (y := 4) (by decide) ?_
  refine xr_iload_n dX8_runFrom_28 4 rfl ?_
  refine xr_iadd dX8_runFrom_29 ?_
  refine xb_top (y := 5) (by decide) ?_
  refine xr_tabO (by unfold vp_in; decide) dX8_runFrom_30 ?_
  refine xb_top (y := 0) (by decide) ?_
  refine xr_if_eq (tgt := 67) dX8_runFrom_31 rfl (fun _ => ?_) (fun c => absurd (by decide) c)
  refine xr_getsA slX8_30 dX8_runFrom_67 ?_
  refine xr_iload dX8_runFrom_70 1 rfl ?_
  refine xr_tabA (by unfold vp_in; decide) dX8_runFrom_72 ?_
  refine xb_top (y := 0) (by decide) ?_
  refine xr_istore (ls2 := [(5, .int (0)), (6, .int (1)), (0, .ref (46)), (1, .int (4)), (2, .int (1)), (3, .int (x)), (4, .int (nI (e)))]) dX8_runFrom_73 (by decide) rfl ?_
  refine xr_iinc (v := 2) (ls2 := [(6, .int (2)), (5, .int (0)), (0, .ref (46)), (1, .int (4)), (2, .int (1)), (3, .int (x)), (4, .int (nI (e)))]) dX8_runFrom_75 1 rfl rfl (by decide) rfl ?_
  refine xr_goto (tgt := 6) dX8_runFrom_78 rfl ?_
  refine xr_iload dX8_runFrom_6 0 rfl ?_
  refine xr_bipush (v := 8) dX8_runFrom_8 rfl ?_
  refine xr_icmp_ge (tgt := 81) dX8_runFrom_10 rfl (fun c => absurd c (by decide)) (fun _ => ?_)
  refine xr_iload dX8_runFrom_13 1 rfl ?_
  refine xb_cN (As := [.int (0)]) (rest := []) mlX8_26 (c_X9_isKind 0) dX8_runFrom_15 rfl rfl (Nat.le_of_ble_eq_true rfl) (by decide) (by decide) ?_
  refine xb_beq (tgt := 81) dX8_runFrom_18 rfl (fun c => absurd (by decide) c) (fun _ => ?_)
  refine xr_getsO slX8_50 dX8_runFrom_21 ?_
  refine xr_iload dX8_runFrom_24 1 rfl ?_
  refine xr_iconst (v := 4) dX8_runFrom_26 rfl ?_
  refine xr_imul dX8_runFrom_27 ?_
  refine xb_top (y := 0) (by decide) ?_
  refine xr_iload_n dX8_runFrom_28 4 rfl ?_
  refine xr_iadd dX8_runFrom_29 ?_
  refine xb_top (y := 1) (by decide) ?_
  refine xr_tabO (by unfold vp_in; decide) dX8_runFrom_30 ?_
  refine xb_top (y := 10) (by decide) ?_
  refine xr_if_eq (tgt := 67) dX8_runFrom_31 rfl (fun c => absurd c (by decide)) (fun _ => ?_)
  refine xr_iload dX8_runFrom_34 6 rfl ?_
  refine xr_bipush (v := 30) dX8_runFrom_36 rfl ?_
  refine xr_icmp_ge (tgt := 65) dX8_runFrom_38 rfl (fun c => absurd c (nI_ge (a := e) (b := 30) (by omega) (by omega))) (fun _ => ?_)
  refine xr_aload_n dX8_runFrom_41 2 rfl ?_
  refine xr_getsO slX8_50 dX8_runFrom_42 ?_
  refine xr_iload dX8_runFrom_45 1 rfl ?_
  refine xr_iconst (v := 4) dX8_runFrom_47 rfl ?_
  refine xr_imul dX8_runFrom_48 ?_
  refine xb_top (y := 0) (by decide) ?_
  refine xr_iload_n dX8_runFrom_49 4 rfl ?_
  refine xr_iadd dX8_runFrom_50 ?_
  refine xb_top (y := 1) (by decide) ?_
  refine xr_tabO (by unfold vp_in; decide) dX8_runFrom_51 ?_
  refine xb_top (y := 10) (by decide) ?_
  refine xr_iload dX8_runFrom_52 1 rfl ?_
  refine xr_iload_n dX8_runFrom_54 5 rfl ?_
  refine xr_iload dX8_runFrom_55 6 rfl ?_
  refine xr_iconst (v := 1) dX8_runFrom_57 rfl ?_
  refine xr_iadd dX8_runFrom_58 ?_
  refine xb_top (y := nI (e + 1)) (nI_add (e) (1)) ?_
  refine xr_callV (As := [.int (10), .int (0), .int (x), .int (nI (e + 1))]) (rest := []) mlX8_53 (tv4_run_10_0 (e := e + 1) (ac := ac) x (by omega) (by omega) e_b (by omega) e_ra hac e_ac e_k) dX8_runFrom_59 s_46 rfl rfl (Nat.le_of_ble_eq_true rfl) (by decide) ⟨by decide, by decide⟩ (fun v s2 M7 J2 hq => ?_)
  obtain ⟨r9, rfl, rfl, rfl, k8, ⟨hr5, hx4, ht6⟩⟩ := hq
  try dsimp only [Option.toList, List.cons_append, List.nil_append]
  subst hr5
  refine xr_goto (tgt := 66) dX8_runFrom_62 rfl ?_
  exact xr_iret dX8_runFrom_66 rfl rfl (⟨_, rfl, rfl, rfl, (Ke.tr (fun _ _ h => h) Ke.rf k8), rfl, hx4, ht6⟩)
set_option maxRecDepth 100000 in
set_option maxHeartbeats 4000000 in
theorem tv4_own_1 {e ac : Nat} (x : Int32) (he : e + 3 ≤ 30) {l : Launch} {G : xG} {M : xM} {J : xJ} {b ra : Nat} (h_b : b ≤ 50) (e_b : M 46 2 = nI b) (h_ra : ra + 3 ≤ 900) (e_ra : M 46 3 = nI ra) (hac : ac < b) (e_ac : M 46 4 = nI ac) (e_k : M 47 ac = 4) : x_M l G fX8_own 9 0 0 [.ref (46), .int (1), .int (x), .int (nI (e))] x_SH M J (qKI WTN M J (fun r M2 => r = (((x + (nI (ac))) + 3) * 2) ∧ M2 46 3 = nI (ra + 3) ∧ TrA 48 ra [10, 20, 1] M M2)) := by
  refine xb_of pX8 (Nat.le_of_ble_eq_true rfl) rfl ?_
  refine xr_aload_n dX8_own_0 0 rfl ?_
  refine xr_aload_n dX8_own_1 0 rfl ?_
  refine xb_get (v := nI (ac)) flX8_36 dX8_own_2 s_46 rfl e_ac ?_
  refine xb_cV (As := [.int (nI (ac))]) (rest := []) mlX8_43 (c_X8_has (nI (ac)) (by omega) e_b) dX8_own_5 s_46 rfl rfl (Nat.le_of_ble_eq_true rfl) (by decide) (by decide) ?_
  refine xb_beq (tgt := 30) dX8_own_8 rfl (fun c => absurd ⟨nI_pos' (by omega), nI_lt (by omega) (by omega)⟩ c) (fun _ => ?_)
  refine xr_aload_n dX8_own_11 0 rfl ?_
  refine xr_aload_n dX8_own_12 0 rfl ?_
  refine xr_getR flX8_9 dX8_own_13 s_46 rfl ?_
  refine xr_aload_n dX8_own_16 0 rfl ?_
  refine xb_get (v := nI (ac)) flX8_36 dX8_own_17 s_46 rfl e_ac ?_
  refine xb_iald (j := ac) (v := 4) dX8_own_20 s_47 (by omega) (by decide) e_k ?_
  refine xr_iload_n dX8_own_21 1 rfl ?_
  refine xr_iload_n dX8_own_22 2 rfl ?_
  refine xr_iload_n dX8_own_23 3 rfl ?_
  refine xr_callV (As := [.int (4), .int (1), .int (x), .int (nI (e))]) (rest := []) mlX8_46 (tv4_runFrom_4_1 (e := e) (ac := ac) x (by omega) (by omega) e_b (by omega) e_ra hac e_ac e_k) dX8_own_24 s_46 rfl rfl (Nat.le_of_ble_eq_true rfl) (by decide) ⟨by decide, by decide⟩ (fun v s2 M5 J2 hq => ?_)
  obtain ⟨r7, rfl, rfl, rfl, k6, ⟨hr3, hx2, ht4⟩⟩ := hq
  try dsimp only [Option.toList, List.cons_append, List.nil_append]
  subst hr3
  refine xr_goto (tgt := 31) dX8_own_27 rfl ?_
  exact xr_iret dX8_own_31 rfl rfl (⟨_, rfl, rfl, rfl, (Ke.tr (fun _ _ h => h) Ke.rf k6), rfl, hx2, ht4⟩)
set_option maxRecDepth 100000 in
set_option maxHeartbeats 4000000 in
theorem tw4_1 {ac b : Nat} (x : Int32) {l : Launch} {G : xG} {M : xM} {J : xJ} (h_b : b ≤ 50) (e_b : M 46 2 = nI b) (hac : ac < b) (e_k : M 47 ac = 4) : x_M l G fX8_perform 10 0 0 [.ref (46), .int (nI (ac)), .int (1), .int (x)] x_SH M J (qKI WTR M J (fun r M2 => M2 46 3 = nI 3 ∧ TrF 48 [10, 20, 1] M2)) := by
  refine xb_of pX8 (Nat.le_of_ble_eq_true rfl) rfl ?_
  refine xr_aload_n dX8_perform_0 0 rfl ?_
  refine xr_iconst (v := 0) dX8_perform_1 rfl ?_
  refine xr_putI fpX8_33 dX8_perform_2 s_46 rfl rfl rfl ?_
  refine xr_aload_n dX8_perform_5 0 rfl ?_
  refine xr_iload_n dX8_perform_6 1 rfl ?_
  refine xr_putI fpX8_36 dX8_perform_7 s_46 rfl rfl rfl ?_
  refine xr_aload_n dX8_perform_10 0 rfl ?_
  refine xr_iload_n dX8_perform_11 2 rfl ?_
  refine xr_iload_n dX8_perform_12 3 rfl ?_
  refine xr_iconst (v := 0) dX8_perform_13 rfl ?_
  refine xr_callV (As := [.int (1), .int (x), .int (0)]) (rest := []) mlX8_39 (tv4_own_1 (e := 0) (ac := ac) (ra := 0) x (by omega) h_b (Eq.trans (x_up_k _ _ _ (by decide)) (Eq.trans (x_up_k _ _ _ (by decide)) e_b)) (by omega) (Eq.trans (x_up_k _ _ _ (by decide)) (x_up_s _ _ _ _)) hac (x_up_s _ _ _ _) (Eq.trans (congrFun (x_up_n _ _ _ (by decide)) _) (Eq.trans (congrFun (x_up_n _ _ _ (by decide)) _) e_k))) dX8_perform_14 s_46 rfl rfl (Nat.le_of_ble_eq_true rfl) (by decide) ⟨by decide, by decide⟩ (fun v s2 M4 J2 hq => ?_)
  obtain ⟨r6, rfl, rfl, rfl, k5, ⟨hr2, hx1, ht3⟩⟩ := hq
  try dsimp only [Option.toList, List.cons_append, List.nil_append]
  subst hr2
  exact xr_iret dX8_perform_17 rfl rfl (⟨_, rfl, rfl, rfl, (Ke.tr (fun pp kk => (fun hh => Or.elim hh (fun h => (Or.inl h)) (fun h => (Or.inr (Or.inr h))))) (Ke.up (Or.inr (Or.inl (by omega))) (Ke.up (Or.inl (by omega)) Ke.rf)) k5), ⟨(hx1.trans (congrArg nI (Nat.zero_add _))), TrA_F ht3⟩⟩)
set_option maxRecDepth 100000 in
set_option maxHeartbeats 4000000 in
theorem tv4_run_11_0 {e ac : Nat} (x : Int32) (he : e + 0 ≤ 30) {l : Launch} {G : xG} {M : xM} {J : xJ} {b ra : Nat} (h_b : b ≤ 50) (e_b : M 46 2 = nI b) (h_ra : ra + 1 ≤ 900) (e_ra : M 46 3 = nI ra) (hac : ac < b) (e_ac : M 46 4 = nI ac) (e_k : M 47 ac = 4) : x_M l G fX8_run 1 0 0 [.ref (46), .int (11), .int (0), .int (x), .int (nI (e))] x_SH M J (qKI WTN M J (fun r M2 => r = (x ^^^ (nI (ac))) ∧ M2 46 3 = nI (ra + 1) ∧ TrA 48 ra [11] M M2)) := by
  refine xb_of pX8 (Nat.le_of_ble_eq_true rfl) rfl ?_
  refine xr_aload_n dX8_run_0 0 rfl ?_
  refine xr_iload_n dX8_run_1 1 rfl ?_
  refine xr_callV (As := [.int (11)]) (rest := []) mlX8_56 (gt_X8_note 11 (by omega) e_ra) dX8_run_2 s_46 rfl rfl (Nat.le_of_ble_eq_true rfl) (by decide) ⟨by decide, by decide⟩ (fun v s2 M3 J2 hq => ?_)
  obtain ⟨rfl, rfl, rfl, k4, ⟨hx1, ht2⟩⟩ := hq
  try dsimp only [Option.toList, List.cons_append, List.nil_append]
  refine xr_iload_n dX8_run_5 1 rfl ?_
  refine xr_lookup (tgt := 156) (off := 150) dX8_run_6 (by decide) (by decide) rfl ?_
  refine xr_iload_n dX8_run_156 3 rfl ?_
  refine xr_aload_n dX8_run_157 0 rfl ?_
  refine xb_get (v := nI (ac)) flX8_36 dX8_run_158 s_46 rfl (Eq.trans (k4 46 4 (by decide)) e_ac) ?_
  refine xr_ixor dX8_run_161 ?_
  exact xr_iret dX8_run_162 rfl rfl (⟨_, rfl, rfl, rfl, (Ke.tr (fun _ _ h => h) Ke.rf k4), rfl, hx1, ht2⟩)
set_option maxRecDepth 100000 in
set_option maxHeartbeats 4000000 in
theorem tv4_runFrom_1_2 {e ac : Nat} (x : Int32) (he : e + 1 ≤ 30) {l : Launch} {G : xG} {M : xM} {J : xJ} {b ra : Nat} (h_b : b ≤ 50) (e_b : M 46 2 = nI b) (h_ra : ra + 1 ≤ 900) (e_ra : M 46 3 = nI ra) (hac : ac < b) (e_ac : M 46 4 = nI ac) (e_k : M 47 ac = 4) : x_M l G fX8_runFrom 2 0 0 [.ref (46), .int (1), .int (2), .int (x), .int (nI (e))] x_SH M J (qKI WTN M J (fun r M2 => r = (x ^^^ (nI (ac))) ∧ M2 46 3 = nI (ra + 1) ∧ TrA 48 ra [11] M M2)) := by
  refine xb_of pX8 (Nat.le_of_ble_eq_true rfl) rfl ?_
  refine xr_iload_n dX8_runFrom_0 1 rfl ?_
  refine xr_istore (ls2 := [(5, .int (1)), (0, .ref (46)), (1, .int (1)), (2, .int (2)), (3, .int (x)), (4, .int (nI (e)))]) dX8_runFrom_1 (by decide) rfl ?_
  refine xr_iconst (v := 0) dX8_runFrom_3 rfl ?_
  refine xr_istore (ls2 := [(6, .int (0)), (5, .int (1)), (0, .ref (46)), (1, .int (1)), (2, .int (2)), (3, .int (x)), (4, .int (nI (e)))]) dX8_runFrom_4 (by decide) rfl ?_
  refine xr_iload dX8_runFrom_6 0 rfl ?_
  refine xr_bipush (v := 8) dX8_runFrom_8 rfl ?_
  refine xr_icmp_ge (tgt := 81) dX8_runFrom_10 rfl (fun c => absurd c (by decide)) (fun _ => ?_)
  refine xr_iload dX8_runFrom_13 1 rfl ?_
  refine xb_cN (As := [.int (1)]) (rest := []) mlX8_26 (c_X9_isKind 1) dX8_runFrom_15 rfl rfl (Nat.le_of_ble_eq_true rfl) (by decide) (by decide) ?_
  refine xb_beq (tgt := 81) dX8_runFrom_18 rfl (fun c => absurd (by decide) c) (fun _ => ?_)
  refine xr_getsO slX8_50 dX8_runFrom_21 ?_
  refine xr_iload dX8_runFrom_24 1 rfl ?_
  refine xr_iconst (v := 4) dX8_runFrom_26 rfl ?_
  refine xr_imul dX8_runFrom_27 ?_
  refine xb_top (y := 4) (by decide) ?_
  refine xr_iload_n dX8_runFrom_28 4 rfl ?_
  refine xr_iadd dX8_runFrom_29 ?_
  refine xb_top (y := 6) (by decide) ?_
  refine xr_tabO (by unfold vp_in; decide) dX8_runFrom_30 ?_
  refine xb_top (y := 0) (by decide) ?_
  refine xr_if_eq (tgt := 67) dX8_runFrom_31 rfl (fun _ => ?_) (fun c => absurd (by decide) c)
  refine xr_getsA slX8_30 dX8_runFrom_67 ?_
  refine xr_iload dX8_runFrom_70 1 rfl ?_
  refine xr_tabA (by unfold vp_in; decide) dX8_runFrom_72 ?_
  refine xb_top (y := 0) (by decide) ?_
  refine xr_istore (ls2 := [(5, .int (0)), (6, .int (0)), (0, .ref (46)), (1, .int (1)), (2, .int (2)), (3, .int (x)), (4, .int (nI (e)))]) dX8_runFrom_73 (by decide) rfl ?_
  refine xr_iinc (v := 1) (ls2 := [(6, .int (1)), (5, .int (0)), (0, .ref (46)), (1, .int (1)), (2, .int (2)), (3, .int (x)), (4, .int (nI (e)))]) dX8_runFrom_75 1 rfl rfl (by decide) rfl ?_
  refine xr_goto (tgt := 6) dX8_runFrom_78 rfl ?_
  refine xr_iload dX8_runFrom_6 0 rfl ?_
  refine xr_bipush (v := 8) dX8_runFrom_8 rfl ?_
  refine xr_icmp_ge (tgt := 81) dX8_runFrom_10 rfl (fun c => absurd c (by decide)) (fun _ => ?_)
  refine xr_iload dX8_runFrom_13 1 rfl ?_
  refine xb_cN (As := [.int (0)]) (rest := []) mlX8_26 (c_X9_isKind 0) dX8_runFrom_15 rfl rfl (Nat.le_of_ble_eq_true rfl) (by decide) (by decide) ?_
  refine xb_beq (tgt := 81) dX8_runFrom_18 rfl (fun c => absurd (by decide) c) (fun _ => ?_)
  refine xr_getsO slX8_50 dX8_runFrom_21 ?_
  refine xr_iload dX8_runFrom_24 1 rfl ?_
  refine xr_iconst (v := 4) dX8_runFrom_26 rfl ?_
  refine xr_imul dX8_runFrom_27 ?_
  refine xb_top (y := 0) (by decide) ?_
  refine xr_iload_n dX8_runFrom_28 4 rfl ?_
  refine xr_iadd dX8_runFrom_29 ?_
  refine xb_top (y := 2) (by decide) ?_
  refine xr_tabO (by unfold vp_in; decide) dX8_runFrom_30 ?_
  refine xb_top (y := 11) (by decide) ?_
  refine xr_if_eq (tgt := 67) dX8_runFrom_31 rfl (fun c => absurd c (by decide)) (fun _ => ?_)
  refine xr_iload dX8_runFrom_34 6 rfl ?_
  refine xr_bipush (v := 30) dX8_runFrom_36 rfl ?_
  refine xr_icmp_ge (tgt := 65) dX8_runFrom_38 rfl (fun c => absurd c (nI_ge (a := e) (b := 30) (by omega) (by omega))) (fun _ => ?_)
  refine xr_aload_n dX8_runFrom_41 2 rfl ?_
  refine xr_getsO slX8_50 dX8_runFrom_42 ?_
  refine xr_iload dX8_runFrom_45 1 rfl ?_
  refine xr_iconst (v := 4) dX8_runFrom_47 rfl ?_
  refine xr_imul dX8_runFrom_48 ?_
  refine xb_top (y := 0) (by decide) ?_
  refine xr_iload_n dX8_runFrom_49 4 rfl ?_
  refine xr_iadd dX8_runFrom_50 ?_
  refine xb_top (y := 2) (by decide) ?_
  refine xr_tabO (by unfold vp_in; decide) dX8_runFrom_51 ?_
  refine xb_top (y := 11) (by decide) ?_
  refine xr_iload dX8_runFrom_52 1 rfl ?_
  refine xr_iload_n dX8_runFrom_54 5 rfl ?_
  refine xr_iload dX8_runFrom_55 6 rfl ?_
  refine xr_iconst (v := 1) dX8_runFrom_57 rfl ?_
  refine xr_iadd dX8_runFrom_58 ?_
  refine xb_top (y := nI (e + 1)) (nI_add (e) (1)) ?_
  refine xr_callV (As := [.int (11), .int (0), .int (x), .int (nI (e + 1))]) (rest := []) mlX8_53 (tv4_run_11_0 (e := e + 1) (ac := ac) x (by omega) (by omega) e_b (by omega) e_ra hac e_ac e_k) dX8_runFrom_59 s_46 rfl rfl (Nat.le_of_ble_eq_true rfl) (by decide) ⟨by decide, by decide⟩ (fun v s2 M6 J2 hq => ?_)
  obtain ⟨r8, rfl, rfl, rfl, k7, ⟨hr4, hx3, ht5⟩⟩ := hq
  try dsimp only [Option.toList, List.cons_append, List.nil_append]
  subst hr4
  refine xr_goto (tgt := 66) dX8_runFrom_62 rfl ?_
  exact xr_iret dX8_runFrom_66 rfl rfl (⟨_, rfl, rfl, rfl, (Ke.tr (fun _ _ h => h) Ke.rf k7), rfl, hx3, ht5⟩)
set_option maxRecDepth 100000 in
set_option maxHeartbeats 4000000 in
theorem tv4_above_4_2 {e ac : Nat} (x : Int32) (he : e + 1 ≤ 30) {l : Launch} {G : xG} {M : xM} {J : xJ} {b ra : Nat} (h_b : b ≤ 50) (e_b : M 46 2 = nI b) (h_ra : ra + 1 ≤ 900) (e_ra : M 46 3 = nI ra) (hac : ac < b) (e_ac : M 46 4 = nI ac) (e_k : M 47 ac = 4) : x_M l G fX8_above 3 0 0 [.ref (46), .int (4), .int (2), .int (x), .int (nI (e))] x_SH M J (qKI WTN M J (fun r M2 => r = (x ^^^ (nI (ac))) ∧ M2 46 3 = nI (ra + 1) ∧ TrA 48 ra [11] M M2)) := by
  refine xb_of pX8 (Nat.le_of_ble_eq_true rfl) rfl ?_
  refine xr_iload_n dX8_above_0 1 rfl ?_
  refine xb_cN (As := [.int (4)]) (rest := []) mlX8_26 (c_X9_isKind 4) dX8_above_1 rfl rfl (Nat.le_of_ble_eq_true rfl) (by decide) (by decide) ?_
  refine xb_beq (tgt := 23) dX8_above_4 rfl (fun c => absurd (by decide) c) (fun _ => ?_)
  refine xr_aload_n dX8_above_7 0 rfl ?_
  refine xr_getsA slX8_30 dX8_above_8 ?_
  refine xr_iload_n dX8_above_11 1 rfl ?_
  refine xr_tabA (by unfold vp_in; decide) dX8_above_12 ?_
  refine xb_top (y := 1) (by decide) ?_
  refine xr_iload_n dX8_above_13 2 rfl ?_
  refine xr_iload_n dX8_above_14 3 rfl ?_
  refine xr_iload dX8_above_15 4 rfl ?_
  refine xr_callV (As := [.int (1), .int (2), .int (x), .int (nI (e))]) (rest := []) mlX8_46 (tv4_runFrom_1_2 (e := e) (ac := ac) x (by omega) (by omega) e_b (by omega) e_ra hac e_ac e_k) dX8_above_17 s_46 rfl rfl (Nat.le_of_ble_eq_true rfl) (by decide) ⟨by decide, by decide⟩ (fun v s2 M5 J2 hq => ?_)
  obtain ⟨r7, rfl, rfl, rfl, k6, ⟨hr3, hx2, ht4⟩⟩ := hq
  try dsimp only [Option.toList, List.cons_append, List.nil_append]
  subst hr3
  refine xr_goto (tgt := 24) dX8_above_20 rfl ?_
  exact xr_iret dX8_above_24 rfl rfl (⟨_, rfl, rfl, rfl, (Ke.tr (fun _ _ h => h) Ke.rf k6), rfl, hx2, ht4⟩)
set_option maxRecDepth 100000 in
set_option maxHeartbeats 4000000 in
theorem tv4_run_50_4 {e ac : Nat} (x : Int32) (he : e + 2 ≤ 30) {l : Launch} {G : xG} {M : xM} {J : xJ} {b ra : Nat} (h_b : b ≤ 50) (e_b : M 46 2 = nI b) (h_ra : ra + 4 ≤ 900) (e_ra : M 46 3 = nI ra) (hac : ac < b) (e_ac : M 46 4 = nI ac) (e_k : M 47 ac = 4) : x_M l G fX8_run 7 0 0 [.ref (46), .int (50), .int (4), .int (x), .int (nI (e))] x_SH M J (qKI WTN M J (fun r M2 => r = ((x ^^^ (nI (ac))) - ((2 + (nI (ac))) + 3)) ∧ M2 46 3 = nI (ra + 4) ∧ TrA 48 ra [50, 11, 20, 1] M M2)) := by
  refine xb_of pX8 (Nat.le_of_ble_eq_true rfl) rfl ?_
  refine xr_aload_n dX8_run_0 0 rfl ?_
  refine xr_iload_n dX8_run_1 1 rfl ?_
  refine xr_callV (As := [.int (50)]) (rest := []) mlX8_56 (gt_X8_note 50 (by omega) e_ra) dX8_run_2 s_46 rfl rfl (Nat.le_of_ble_eq_true rfl) (by decide) ⟨by decide, by decide⟩ (fun v s2 M3 J2 hq => ?_)
  obtain ⟨rfl, rfl, rfl, k4, ⟨hx1, ht2⟩⟩ := hq
  try dsimp only [Option.toList, List.cons_append, List.nil_append]
  refine xr_iload_n dX8_run_5 1 rfl ?_
  refine xr_lookup (tgt := 210) (off := 204) dX8_run_6 (by decide) (by decide) rfl ?_
  refine xr_aload_n dX8_run_210 0 rfl ?_
  refine xr_iload_n dX8_run_211 2 rfl ?_
  refine xr_iconst (v := 2) dX8_run_212 rfl ?_
  refine xr_iload_n dX8_run_213 3 rfl ?_
  refine xr_iload dX8_run_214 4 rfl ?_
  refine xr_callV (As := [.int (4), .int (2), .int (x), .int (nI (e))]) (rest := []) mlX8_60 (tv4_above_4_2 (e := e) (ac := ac) x (by omega) (by omega) (Eq.trans (k4 46 2 (by decide)) e_b) (by omega) hx1 hac (Eq.trans (k4 46 4 (by decide)) e_ac) (Eq.trans (k4 47 ac (by unfold WTN; omega)) e_k)) dX8_run_216 s_46 rfl rfl (Nat.le_of_ble_eq_true rfl) (by decide) ⟨by decide, by decide⟩ (fun v s2 M8 J2 hq => ?_)
  obtain ⟨r10, rfl, rfl, rfl, k9, ⟨hr6, hx5, ht7⟩⟩ := hq
  try dsimp only [Option.toList, List.cons_append, List.nil_append]
  subst hr6
  refine xr_aload_n dX8_run_219 0 rfl ?_
  refine xr_iconst (v := 0) dX8_run_220 rfl ?_
  refine xr_iconst (v := 2) dX8_run_221 rfl ?_
  refine xr_iload dX8_run_222 4 rfl ?_
  refine xr_callV (As := [.int (0), .int (2), .int (nI (e))]) (rest := [.int ((x ^^^ (nI (ac))))]) mlX8_39 (tv4_own_0 (e := e) (ac := ac) 2 (by omega) (by omega) (Eq.trans (k9 46 2 (by decide)) (Eq.trans (k4 46 2 (by decide)) e_b)) (by omega) hx5 hac (Eq.trans (k9 46 4 (by decide)) (Eq.trans (k4 46 4 (by decide)) e_ac)) (Eq.trans (k9 47 ac (by unfold WTN; omega)) (Eq.trans (k4 47 ac (by unfold WTN; omega)) e_k))) dX8_run_224 s_46 rfl rfl (Nat.le_of_ble_eq_true rfl) (by decide) ⟨by decide, by decide⟩ (fun v s2 M14 J2 hq => ?_)
  obtain ⟨r16, rfl, rfl, rfl, k15, ⟨hr12, hx11, ht13⟩⟩ := hq
  try dsimp only [Option.toList, List.cons_append, List.nil_append]
  subst hr12
  refine xr_isub dX8_run_227 ?_
  exact xr_iret dX8_run_228 rfl rfl (⟨_, rfl, rfl, rfl, (Ke.tr (fun _ _ h => h) (Ke.tr (fun _ _ h => h) (Ke.tr (fun _ _ h => h) Ke.rf k4) k9) k15), rfl, hx11, (TrA_app (l := [50, 11]) (m := [20, 1]) (TrA_app (l := [50]) (m := [11]) ht2 ht7) ht13)⟩)
set_option maxRecDepth 100000 in
set_option maxHeartbeats 4000000 in
theorem tv4_runFrom_4_2 {e ac : Nat} (x : Int32) (he : e + 3 ≤ 30) {l : Launch} {G : xG} {M : xM} {J : xJ} {b ra : Nat} (h_b : b ≤ 50) (e_b : M 46 2 = nI b) (h_ra : ra + 4 ≤ 900) (e_ra : M 46 3 = nI ra) (hac : ac < b) (e_ac : M 46 4 = nI ac) (e_k : M 47 ac = 4) : x_M l G fX8_runFrom 8 0 0 [.ref (46), .int (4), .int (2), .int (x), .int (nI (e))] x_SH M J (qKI WTN M J (fun r M2 => r = ((x ^^^ (nI (ac))) - ((2 + (nI (ac))) + 3)) ∧ M2 46 3 = nI (ra + 4) ∧ TrA 48 ra [50, 11, 20, 1] M M2)) := by
  refine xb_of pX8 (Nat.le_of_ble_eq_true rfl) rfl ?_
  refine xr_iload_n dX8_runFrom_0 1 rfl ?_
  refine xr_istore (ls2 := [(5, .int (4)), (0, .ref (46)), (1, .int (4)), (2, .int (2)), (3, .int (x)), (4, .int (nI (e)))]) dX8_runFrom_1 (by decide) rfl ?_
  refine xr_iconst (v := 0) dX8_runFrom_3 rfl ?_
  refine xr_istore (ls2 := [(6, .int (0)), (5, .int (4)), (0, .ref (46)), (1, .int (4)), (2, .int (2)), (3, .int (x)), (4, .int (nI (e)))]) dX8_runFrom_4 (by decide) rfl ?_
  refine xr_iload dX8_runFrom_6 0 rfl ?_
  refine xr_bipush (v := 8) dX8_runFrom_8 rfl ?_
  refine xr_icmp_ge (tgt := 81) dX8_runFrom_10 rfl (fun c => absurd c (by decide)) (fun _ => ?_)
  refine xr_iload dX8_runFrom_13 1 rfl ?_
  refine xb_cN (As := [.int (4)]) (rest := []) mlX8_26 (c_X9_isKind 4) dX8_runFrom_15 rfl rfl (Nat.le_of_ble_eq_true rfl) (by decide) (by decide) ?_
  refine xb_beq (tgt := 81) dX8_runFrom_18 rfl (fun c => absurd (by decide) c) (fun _ => ?_)
  refine xr_getsO slX8_50 dX8_runFrom_21 ?_
  refine xr_iload dX8_runFrom_24 1 rfl ?_
  refine xr_iconst (v := 4) dX8_runFrom_26 rfl ?_
  refine xr_imul dX8_runFrom_27 ?_
  refine xb_top (y := 16) (by decide) ?_
  refine xr_iload_n dX8_runFrom_28 4 rfl ?_
  refine xr_iadd dX8_runFrom_29 ?_
  refine xb_top (y := 18) (by decide) ?_
  refine xr_tabO (by unfold vp_in; decide) dX8_runFrom_30 ?_
  refine xb_top (y := 50) (by decide) ?_
  refine xr_if_eq (tgt := 67) dX8_runFrom_31 rfl (fun c => absurd c (by decide)) (fun _ => ?_)
  refine xr_iload dX8_runFrom_34 6 rfl ?_
  refine xr_bipush (v := 30) dX8_runFrom_36 rfl ?_
  refine xr_icmp_ge (tgt := 65) dX8_runFrom_38 rfl (fun c => absurd c (nI_ge (a := e) (b := 30) (by omega) (by omega))) (fun _ => ?_)
  refine xr_aload_n dX8_runFrom_41 2 rfl ?_
  refine xr_getsO slX8_50 dX8_runFrom_42 ?_
  refine xr_iload dX8_runFrom_45 1 rfl ?_
  refine xr_iconst (v := 4) dX8_runFrom_47 rfl ?_
  refine xr_imul dX8_runFrom_48 ?_
  refine xb_top (y := 16) (by decide) ?_
  refine xr_iload_n dX8_runFrom_49 4 rfl ?_
  refine xr_iadd dX8_runFrom_50 ?_
  refine xb_top (y := 18) (by decide) ?_
  refine xr_tabO (by unfold vp_in; decide) dX8_runFrom_51 ?_
  refine xb_top (y := 50) (by decide) ?_
  refine xr_iload dX8_runFrom_52 1 rfl ?_
  refine xr_iload_n dX8_runFrom_54 5 rfl ?_
  refine xr_iload dX8_runFrom_55 6 rfl ?_
  refine xr_iconst (v := 1) dX8_runFrom_57 rfl ?_
  refine xr_iadd dX8_runFrom_58 ?_
  refine xb_top (y := nI (e + 1)) (nI_add (e) (1)) ?_
  refine xr_callV (As := [.int (50), .int (4), .int (x), .int (nI (e + 1))]) (rest := []) mlX8_53 (tv4_run_50_4 (e := e + 1) (ac := ac) x (by omega) (by omega) e_b (by omega) e_ra hac e_ac e_k) dX8_runFrom_59 s_46 rfl rfl (Nat.le_of_ble_eq_true rfl) (by decide) ⟨by decide, by decide⟩ (fun v s2 M5 J2 hq => ?_)
  obtain ⟨r7, rfl, rfl, rfl, k6, ⟨hr3, hx2, ht4⟩⟩ := hq
  try dsimp only [Option.toList, List.cons_append, List.nil_append]
  subst hr3
  refine xr_goto (tgt := 66) dX8_runFrom_62 rfl ?_
  exact xr_iret dX8_runFrom_66 rfl rfl (⟨_, rfl, rfl, rfl, (Ke.tr (fun _ _ h => h) Ke.rf k6), rfl, hx2, ht4⟩)
set_option maxRecDepth 100000 in
set_option maxHeartbeats 4000000 in
theorem tv4_own_2 {e ac : Nat} (x : Int32) (he : e + 3 ≤ 30) {l : Launch} {G : xG} {M : xM} {J : xJ} {b ra : Nat} (h_b : b ≤ 50) (e_b : M 46 2 = nI b) (h_ra : ra + 4 ≤ 900) (e_ra : M 46 3 = nI ra) (hac : ac < b) (e_ac : M 46 4 = nI ac) (e_k : M 47 ac = 4) : x_M l G fX8_own 9 0 0 [.ref (46), .int (2), .int (x), .int (nI (e))] x_SH M J (qKI WTN M J (fun r M2 => r = ((x ^^^ (nI (ac))) - ((2 + (nI (ac))) + 3)) ∧ M2 46 3 = nI (ra + 4) ∧ TrA 48 ra [50, 11, 20, 1] M M2)) := by
  refine xb_of pX8 (Nat.le_of_ble_eq_true rfl) rfl ?_
  refine xr_aload_n dX8_own_0 0 rfl ?_
  refine xr_aload_n dX8_own_1 0 rfl ?_
  refine xb_get (v := nI (ac)) flX8_36 dX8_own_2 s_46 rfl e_ac ?_
  refine xb_cV (As := [.int (nI (ac))]) (rest := []) mlX8_43 (c_X8_has (nI (ac)) (by omega) e_b) dX8_own_5 s_46 rfl rfl (Nat.le_of_ble_eq_true rfl) (by decide) (by decide) ?_
  refine xb_beq (tgt := 30) dX8_own_8 rfl (fun c => absurd ⟨nI_pos' (by omega), nI_lt (by omega) (by omega)⟩ c) (fun _ => ?_)
  refine xr_aload_n dX8_own_11 0 rfl ?_
  refine xr_aload_n dX8_own_12 0 rfl ?_
  refine xr_getR flX8_9 dX8_own_13 s_46 rfl ?_
  refine xr_aload_n dX8_own_16 0 rfl ?_
  refine xb_get (v := nI (ac)) flX8_36 dX8_own_17 s_46 rfl e_ac ?_
  refine xb_iald (j := ac) (v := 4) dX8_own_20 s_47 (by omega) (by decide) e_k ?_
  refine xr_iload_n dX8_own_21 1 rfl ?_
  refine xr_iload_n dX8_own_22 2 rfl ?_
  refine xr_iload_n dX8_own_23 3 rfl ?_
  refine xr_callV (As := [.int (4), .int (2), .int (x), .int (nI (e))]) (rest := []) mlX8_46 (tv4_runFrom_4_2 (e := e) (ac := ac) x (by omega) (by omega) e_b (by omega) e_ra hac e_ac e_k) dX8_own_24 s_46 rfl rfl (Nat.le_of_ble_eq_true rfl) (by decide) ⟨by decide, by decide⟩ (fun v s2 M5 J2 hq => ?_)
  obtain ⟨r7, rfl, rfl, rfl, k6, ⟨hr3, hx2, ht4⟩⟩ := hq
  try dsimp only [Option.toList, List.cons_append, List.nil_append]
  subst hr3
  refine xr_goto (tgt := 31) dX8_own_27 rfl ?_
  exact xr_iret dX8_own_31 rfl rfl (⟨_, rfl, rfl, rfl, (Ke.tr (fun _ _ h => h) Ke.rf k6), rfl, hx2, ht4⟩)
set_option maxRecDepth 100000 in
set_option maxHeartbeats 4000000 in
theorem tw4_2 {ac b : Nat} (x : Int32) {l : Launch} {G : xG} {M : xM} {J : xJ} (h_b : b ≤ 50) (e_b : M 46 2 = nI b) (hac : ac < b) (e_k : M 47 ac = 4) : x_M l G fX8_perform 10 0 0 [.ref (46), .int (nI (ac)), .int (2), .int (x)] x_SH M J (qKI WTR M J (fun r M2 => M2 46 3 = nI 4 ∧ TrF 48 [50, 11, 20, 1] M2)) := by
  refine xb_of pX8 (Nat.le_of_ble_eq_true rfl) rfl ?_
  refine xr_aload_n dX8_perform_0 0 rfl ?_
  refine xr_iconst (v := 0) dX8_perform_1 rfl ?_
  refine xr_putI fpX8_33 dX8_perform_2 s_46 rfl rfl rfl ?_
  refine xr_aload_n dX8_perform_5 0 rfl ?_
  refine xr_iload_n dX8_perform_6 1 rfl ?_
  refine xr_putI fpX8_36 dX8_perform_7 s_46 rfl rfl rfl ?_
  refine xr_aload_n dX8_perform_10 0 rfl ?_
  refine xr_iload_n dX8_perform_11 2 rfl ?_
  refine xr_iload_n dX8_perform_12 3 rfl ?_
  refine xr_iconst (v := 0) dX8_perform_13 rfl ?_
  refine xr_callV (As := [.int (2), .int (x), .int (0)]) (rest := []) mlX8_39 (tv4_own_2 (e := 0) (ac := ac) (ra := 0) x (by omega) h_b (Eq.trans (x_up_k _ _ _ (by decide)) (Eq.trans (x_up_k _ _ _ (by decide)) e_b)) (by omega) (Eq.trans (x_up_k _ _ _ (by decide)) (x_up_s _ _ _ _)) hac (x_up_s _ _ _ _) (Eq.trans (congrFun (x_up_n _ _ _ (by decide)) _) (Eq.trans (congrFun (x_up_n _ _ _ (by decide)) _) e_k))) dX8_perform_14 s_46 rfl rfl (Nat.le_of_ble_eq_true rfl) (by decide) ⟨by decide, by decide⟩ (fun v s2 M4 J2 hq => ?_)
  obtain ⟨r6, rfl, rfl, rfl, k5, ⟨hr2, hx1, ht3⟩⟩ := hq
  try dsimp only [Option.toList, List.cons_append, List.nil_append]
  subst hr2
  exact xr_iret dX8_perform_17 rfl rfl (⟨_, rfl, rfl, rfl, (Ke.tr (fun pp kk => (fun hh => Or.elim hh (fun h => (Or.inl h)) (fun h => (Or.inr (Or.inr h))))) (Ke.up (Or.inr (Or.inl (by omega))) (Ke.up (Or.inl (by omega)) Ke.rf)) k5), ⟨(hx1.trans (congrArg nI (Nat.zero_add _))), TrA_F ht3⟩⟩)
set_option maxRecDepth 100000 in
set_option maxHeartbeats 4000000 in
theorem tv4_run_2_0 {e ac : Nat} (x : Int32) (he : e + 3 ≤ 30) {l : Launch} {G : xG} {M : xM} {J : xJ} {b ra : Nat} (h_b : b ≤ 50) (e_b : M 46 2 = nI b) (h_ra : ra + 8 ≤ 900) (e_ra : M 46 3 = nI ra) (hac : ac < b) (e_ac : M 46 4 = nI ac) (e_k : M 47 ac = 4) : x_M l G fX8_run 10 0 0 [.ref (46), .int (2), .int (0), .int (x), .int (nI (e))] x_SH M J (qKI WTN M J (fun r M2 => r = ((((x + (nI (ac))) + 3) * 2) - ((1 ^^^ (nI (ac))) - ((2 + (nI (ac))) + 3))) ∧ M2 46 3 = nI (ra + 8) ∧ TrA 48 ra [2, 10, 20, 1, 50, 11, 20, 1] M M2)) := by
  refine xb_of pX8 (Nat.le_of_ble_eq_true rfl) rfl ?_
  refine xr_aload_n dX8_run_0 0 rfl ?_
  refine xr_iload_n dX8_run_1 1 rfl ?_
  refine xr_callV (As := [.int (2)]) (rest := []) mlX8_56 (gt_X8_note 2 (by omega) e_ra) dX8_run_2 s_46 rfl rfl (Nat.le_of_ble_eq_true rfl) (by decide) ⟨by decide, by decide⟩ (fun v s2 M3 J2 hq => ?_)
  obtain ⟨rfl, rfl, rfl, k4, ⟨hx1, ht2⟩⟩ := hq
  try dsimp only [Option.toList, List.cons_append, List.nil_append]
  refine xr_iload_n dX8_run_5 1 rfl ?_
  refine xr_lookup (tgt := 127) (off := 121) dX8_run_6 (by decide) (by decide) rfl ?_
  refine xr_aload_n dX8_run_127 0 rfl ?_
  refine xr_iconst (v := 1) dX8_run_128 rfl ?_
  refine xr_iload_n dX8_run_129 3 rfl ?_
  refine xr_iload dX8_run_130 4 rfl ?_
  refine xr_callV (As := [.int (1), .int (x), .int (nI (e))]) (rest := []) mlX8_39 (tv4_own_1 (e := e) (ac := ac) x (by omega) (by omega) (Eq.trans (k4 46 2 (by decide)) e_b) (by omega) hx1 hac (Eq.trans (k4 46 4 (by decide)) e_ac) (Eq.trans (k4 47 ac (by unfold WTN; omega)) e_k)) dX8_run_132 s_46 rfl rfl (Nat.le_of_ble_eq_true rfl) (by decide) ⟨by decide, by decide⟩ (fun v s2 M8 J2 hq => ?_)
  obtain ⟨r10, rfl, rfl, rfl, k9, ⟨hr6, hx5, ht7⟩⟩ := hq
  try dsimp only [Option.toList, List.cons_append, List.nil_append]
  subst hr6
  refine xr_aload_n dX8_run_135 0 rfl ?_
  refine xr_iconst (v := 2) dX8_run_136 rfl ?_
  refine xr_iconst (v := 1) dX8_run_137 rfl ?_
  refine xr_iload dX8_run_138 4 rfl ?_
  refine xr_callV (As := [.int (2), .int (1), .int (nI (e))]) (rest := [.int ((((x + (nI (ac))) + 3) * 2))]) mlX8_39 (tv4_own_2 (e := e) (ac := ac) 1 (by omega) (by omega) (Eq.trans (k9 46 2 (by decide)) (Eq.trans (k4 46 2 (by decide)) e_b)) (by omega) hx5 hac (Eq.trans (k9 46 4 (by decide)) (Eq.trans (k4 46 4 (by decide)) e_ac)) (Eq.trans (k9 47 ac (by unfold WTN; omega)) (Eq.trans (k4 47 ac (by unfold WTN; omega)) e_k))) dX8_run_140 s_46 rfl rfl (Nat.le_of_ble_eq_true rfl) (by decide) ⟨by decide, by decide⟩ (fun v s2 M14 J2 hq => ?_)
  obtain ⟨r16, rfl, rfl, rfl, k15, ⟨hr12, hx11, ht13⟩⟩ := hq
  try dsimp only [Option.toList, List.cons_append, List.nil_append]
  subst hr12
  refine xr_isub dX8_run_143 ?_
  exact xr_iret dX8_run_144 rfl rfl (⟨_, rfl, rfl, rfl, (Ke.tr (fun _ _ h => h) (Ke.tr (fun _ _ h => h) (Ke.tr (fun _ _ h => h) Ke.rf k4) k9) k15), rfl, hx11, (TrA_app (l := [2, 10, 20, 1]) (m := [50, 11, 20, 1]) (TrA_app (l := [2]) (m := [10, 20, 1]) ht2 ht7) ht13)⟩)
set_option maxRecDepth 100000 in
set_option maxHeartbeats 4000000 in
theorem tv4_runFrom_4_3 {e ac : Nat} (x : Int32) (he : e + 4 ≤ 30) {l : Launch} {G : xG} {M : xM} {J : xJ} {b ra : Nat} (h_b : b ≤ 50) (e_b : M 46 2 = nI b) (h_ra : ra + 8 ≤ 900) (e_ra : M 46 3 = nI ra) (hac : ac < b) (e_ac : M 46 4 = nI ac) (e_k : M 47 ac = 4) : x_M l G fX8_runFrom 11 0 0 [.ref (46), .int (4), .int (3), .int (x), .int (nI (e))] x_SH M J (qKI WTN M J (fun r M2 => r = ((((x + (nI (ac))) + 3) * 2) - ((1 ^^^ (nI (ac))) - ((2 + (nI (ac))) + 3))) ∧ M2 46 3 = nI (ra + 8) ∧ TrA 48 ra [2, 10, 20, 1, 50, 11, 20, 1] M M2)) := by
  refine xb_of pX8 (Nat.le_of_ble_eq_true rfl) rfl ?_
  refine xr_iload_n dX8_runFrom_0 1 rfl ?_
  refine xr_istore (ls2 := [(5, .int (4)), (0, .ref (46)), (1, .int (4)), (2, .int (3)), (3, .int (x)), (4, .int (nI (e)))]) dX8_runFrom_1 (by decide) rfl ?_
  refine xr_iconst (v := 0) dX8_runFrom_3 rfl ?_
  refine xr_istore (ls2 := [(6, .int (0)), (5, .int (4)), (0, .ref (46)), (1, .int (4)), (2, .int (3)), (3, .int (x)), (4, .int (nI (e)))]) dX8_runFrom_4 (by decide) rfl ?_
  refine xr_iload dX8_runFrom_6 0 rfl ?_
  refine xr_bipush (v := 8) dX8_runFrom_8 rfl ?_
  refine xr_icmp_ge (tgt := 81) dX8_runFrom_10 rfl (fun c => absurd c (by decide)) (fun _ => ?_)
  refine xr_iload dX8_runFrom_13 1 rfl ?_
  refine xb_cN (As := [.int (4)]) (rest := []) mlX8_26 (c_X9_isKind 4) dX8_runFrom_15 rfl rfl (Nat.le_of_ble_eq_true rfl) (by decide) (by decide) ?_
  refine xb_beq (tgt := 81) dX8_runFrom_18 rfl (fun c => absurd (by decide) c) (fun _ => ?_)
  refine xr_getsO slX8_50 dX8_runFrom_21 ?_
  refine xr_iload dX8_runFrom_24 1 rfl ?_
  refine xr_iconst (v := 4) dX8_runFrom_26 rfl ?_
  refine xr_imul dX8_runFrom_27 ?_
  refine xb_top (y := 16) (by decide) ?_
  refine xr_iload_n dX8_runFrom_28 4 rfl ?_
  refine xr_iadd dX8_runFrom_29 ?_
  refine xb_top (y := 19) (by decide) ?_
  refine xr_tabO (by unfold vp_in; decide) dX8_runFrom_30 ?_
  refine xb_top (y := 0) (by decide) ?_
  refine xr_if_eq (tgt := 67) dX8_runFrom_31 rfl (fun _ => ?_) (fun c => absurd (by decide) c)
  refine xr_getsA slX8_30 dX8_runFrom_67 ?_
  refine xr_iload dX8_runFrom_70 1 rfl ?_
  refine xr_tabA (by unfold vp_in; decide) dX8_runFrom_72 ?_
  refine xb_top (y := 1) (by decide) ?_
  refine xr_istore (ls2 := [(5, .int (1)), (6, .int (0)), (0, .ref (46)), (1, .int (4)), (2, .int (3)), (3, .int (x)), (4, .int (nI (e)))]) dX8_runFrom_73 (by decide) rfl ?_
  refine xr_iinc (v := 1) (ls2 := [(6, .int (1)), (5, .int (1)), (0, .ref (46)), (1, .int (4)), (2, .int (3)), (3, .int (x)), (4, .int (nI (e)))]) dX8_runFrom_75 1 rfl rfl (by decide) rfl ?_
  refine xr_goto (tgt := 6) dX8_runFrom_78 rfl ?_
  refine xr_iload dX8_runFrom_6 0 rfl ?_
  refine xr_bipush (v := 8) dX8_runFrom_8 rfl ?_
  refine xr_icmp_ge (tgt := 81) dX8_runFrom_10 rfl (fun c => absurd c (by decide)) (fun _ => ?_)
  refine xr_iload dX8_runFrom_13 1 rfl ?_
  refine xb_cN (As := [.int (1)]) (rest := []) mlX8_26 (c_X9_isKind 1) dX8_runFrom_15 rfl rfl (Nat.le_of_ble_eq_true rfl) (by decide) (by decide) ?_
  refine xb_beq (tgt := 81) dX8_runFrom_18 rfl (fun c => absurd (by decide) c) (fun _ => ?_)
  refine xr_getsO slX8_50 dX8_runFrom_21 ?_
  refine xr_iload dX8_runFrom_24 1 rfl ?_
  refine xr_iconst (v := 4) dX8_runFrom_26 rfl ?_
  refine xr_imul dX8_runFrom_27 ?_
  refine xb_top (y := 4) (by decide) ?_
  refine xr_iload_n dX8_runFrom_28 4 rfl ?_
  refine xr_iadd dX8_runFrom_29 ?_
  refine xb_top (y := 7) (by decide) ?_
  refine xr_tabO (by unfold vp_in; decide) dX8_runFrom_30 ?_
  refine xb_top (y := 0) (by decide) ?_
  refine xr_if_eq (tgt := 67) dX8_runFrom_31 rfl (fun _ => ?_) (fun c => absurd (by decide) c)
  refine xr_getsA slX8_30 dX8_runFrom_67 ?_
  refine xr_iload dX8_runFrom_70 1 rfl ?_
  refine xr_tabA (by unfold vp_in; decide) dX8_runFrom_72 ?_
  refine xb_top (y := 0) (by decide) ?_
  refine xr_istore (ls2 := [(5, .int (0)), (6, .int (1)), (0, .ref (46)), (1, .int (4)), (2, .int (3)), (3, .int (x)), (4, .int (nI (e)))]) dX8_runFrom_73 (by decide) rfl ?_
  refine xr_iinc (v := 2) (ls2 := [(6, .int (2)), (5, .int (0)), (0, .ref (46)), (1, .int (4)), (2, .int (3)), (3, .int (x)), (4, .int (nI (e)))]) dX8_runFrom_75 1 rfl rfl (by decide) rfl ?_
  refine xr_goto (tgt := 6) dX8_runFrom_78 rfl ?_
  refine xr_iload dX8_runFrom_6 0 rfl ?_
  refine xr_bipush (v := 8) dX8_runFrom_8 rfl ?_
  refine xr_icmp_ge (tgt := 81) dX8_runFrom_10 rfl (fun c => absurd c (by decide)) (fun _ => ?_)
  refine xr_iload dX8_runFrom_13 1 rfl ?_
  refine xb_cN (As := [.int (0)]) (rest := []) mlX8_26 (c_X9_isKind 0) dX8_runFrom_15 rfl rfl (Nat.le_of_ble_eq_true rfl) (by decide) (by decide) ?_
  refine xb_beq (tgt := 81) dX8_runFrom_18 rfl (fun c => absurd (by decide) c) (fun _ => ?_)
  refine xr_getsO slX8_50 dX8_runFrom_21 ?_
  refine xr_iload dX8_runFrom_24 1 rfl ?_
  refine xr_iconst (v := 4) dX8_runFrom_26 rfl ?_
  refine xr_imul dX8_runFrom_27 ?_
  refine xb_top (y := 0) (by decide) ?_
  refine xr_iload_n dX8_runFrom_28 4 rfl ?_
  refine xr_iadd dX8_runFrom_29 ?_
  refine xb_top (y := 3) (by decide) ?_
  refine xr_tabO (by unfold vp_in; decide) dX8_runFrom_30 ?_
  refine xb_top (y := 2) (by decide) ?_
  refine xr_if_eq (tgt := 67) dX8_runFrom_31 rfl (fun c => absurd c (by decide)) (fun _ => ?_)
  refine xr_iload dX8_runFrom_34 6 rfl ?_
  refine xr_bipush (v := 30) dX8_runFrom_36 rfl ?_
  refine xr_icmp_ge (tgt := 65) dX8_runFrom_38 rfl (fun c => absurd c (nI_ge (a := e) (b := 30) (by omega) (by omega))) (fun _ => ?_)
  refine xr_aload_n dX8_runFrom_41 2 rfl ?_
  refine xr_getsO slX8_50 dX8_runFrom_42 ?_
  refine xr_iload dX8_runFrom_45 1 rfl ?_
  refine xr_iconst (v := 4) dX8_runFrom_47 rfl ?_
  refine xr_imul dX8_runFrom_48 ?_
  refine xb_top (y := 0) (by decide) ?_
  refine xr_iload_n dX8_runFrom_49 4 rfl ?_
  refine xr_iadd dX8_runFrom_50 ?_
  refine xb_top (y := 3) (by decide) ?_
  refine xr_tabO (by unfold vp_in; decide) dX8_runFrom_51 ?_
  refine xb_top (y := 2) (by decide) ?_
  refine xr_iload dX8_runFrom_52 1 rfl ?_
  refine xr_iload_n dX8_runFrom_54 5 rfl ?_
  refine xr_iload dX8_runFrom_55 6 rfl ?_
  refine xr_iconst (v := 1) dX8_runFrom_57 rfl ?_
  refine xr_iadd dX8_runFrom_58 ?_
  refine xb_top (y := nI (e + 1)) (nI_add (e) (1)) ?_
  refine xr_callV (As := [.int (2), .int (0), .int (x), .int (nI (e + 1))]) (rest := []) mlX8_53 (tv4_run_2_0 (e := e + 1) (ac := ac) x (by omega) (by omega) e_b (by omega) e_ra hac e_ac e_k) dX8_runFrom_59 s_46 rfl rfl (Nat.le_of_ble_eq_true rfl) (by decide) ⟨by decide, by decide⟩ (fun v s2 M7 J2 hq => ?_)
  obtain ⟨r9, rfl, rfl, rfl, k8, ⟨hr5, hx4, ht6⟩⟩ := hq
  try dsimp only [Option.toList, List.cons_append, List.nil_append]
  subst hr5
  refine xr_goto (tgt := 66) dX8_runFrom_62 rfl ?_
  exact xr_iret dX8_runFrom_66 rfl rfl (⟨_, rfl, rfl, rfl, (Ke.tr (fun _ _ h => h) Ke.rf k8), rfl, hx4, ht6⟩)
set_option maxRecDepth 100000 in
set_option maxHeartbeats 4000000 in
theorem tv4_own_3 {e ac : Nat} (x : Int32) (he : e + 4 ≤ 30) {l : Launch} {G : xG} {M : xM} {J : xJ} {b ra : Nat} (h_b : b ≤ 50) (e_b : M 46 2 = nI b) (h_ra : ra + 8 ≤ 900) (e_ra : M 46 3 = nI ra) (hac : ac < b) (e_ac : M 46 4 = nI ac) (e_k : M 47 ac = 4) : x_M l G fX8_own 12 0 0 [.ref (46), .int (3), .int (x), .int (nI (e))] x_SH M J (qKI WTN M J (fun r M2 => r = ((((x + (nI (ac))) + 3) * 2) - ((1 ^^^ (nI (ac))) - ((2 + (nI (ac))) + 3))) ∧ M2 46 3 = nI (ra + 8) ∧ TrA 48 ra [2, 10, 20, 1, 50, 11, 20, 1] M M2)) := by
  refine xb_of pX8 (Nat.le_of_ble_eq_true rfl) rfl ?_
  refine xr_aload_n dX8_own_0 0 rfl ?_
  refine xr_aload_n dX8_own_1 0 rfl ?_
  refine xb_get (v := nI (ac)) flX8_36 dX8_own_2 s_46 rfl e_ac ?_
  refine xb_cV (As := [.int (nI (ac))]) (rest := []) mlX8_43 (c_X8_has (nI (ac)) (by omega) e_b) dX8_own_5 s_46 rfl rfl (Nat.le_of_ble_eq_true rfl) (by decide) (by decide) ?_
  refine xb_beq (tgt := 30) dX8_own_8 rfl (fun c => absurd ⟨nI_pos' (by omega), nI_lt (by omega) (by omega)⟩ c) (fun _ => ?_)
  refine xr_aload_n dX8_own_11 0 rfl ?_
  refine xr_aload_n dX8_own_12 0 rfl ?_
  refine xr_getR flX8_9 dX8_own_13 s_46 rfl ?_
  refine xr_aload_n dX8_own_16 0 rfl ?_
  refine xb_get (v := nI (ac)) flX8_36 dX8_own_17 s_46 rfl e_ac ?_
  refine xb_iald (j := ac) (v := 4) dX8_own_20 s_47 (by omega) (by decide) e_k ?_
  refine xr_iload_n dX8_own_21 1 rfl ?_
  refine xr_iload_n dX8_own_22 2 rfl ?_
  refine xr_iload_n dX8_own_23 3 rfl ?_
  refine xr_callV (As := [.int (4), .int (3), .int (x), .int (nI (e))]) (rest := []) mlX8_46 (tv4_runFrom_4_3 (e := e) (ac := ac) x (by omega) (by omega) e_b (by omega) e_ra hac e_ac e_k) dX8_own_24 s_46 rfl rfl (Nat.le_of_ble_eq_true rfl) (by decide) ⟨by decide, by decide⟩ (fun v s2 M5 J2 hq => ?_)
  obtain ⟨r7, rfl, rfl, rfl, k6, ⟨hr3, hx2, ht4⟩⟩ := hq
  try dsimp only [Option.toList, List.cons_append, List.nil_append]
  subst hr3
  refine xr_goto (tgt := 31) dX8_own_27 rfl ?_
  exact xr_iret dX8_own_31 rfl rfl (⟨_, rfl, rfl, rfl, (Ke.tr (fun _ _ h => h) Ke.rf k6), rfl, hx2, ht4⟩)
set_option maxRecDepth 100000 in
set_option maxHeartbeats 4000000 in
theorem tw4_3 {ac b : Nat} (x : Int32) {l : Launch} {G : xG} {M : xM} {J : xJ} (h_b : b ≤ 50) (e_b : M 46 2 = nI b) (hac : ac < b) (e_k : M 47 ac = 4) : x_M l G fX8_perform 13 0 0 [.ref (46), .int (nI (ac)), .int (3), .int (x)] x_SH M J (qKI WTR M J (fun r M2 => M2 46 3 = nI 8 ∧ TrF 48 [2, 10, 20, 1, 50, 11, 20, 1] M2)) := by
  refine xb_of pX8 (Nat.le_of_ble_eq_true rfl) rfl ?_
  refine xr_aload_n dX8_perform_0 0 rfl ?_
  refine xr_iconst (v := 0) dX8_perform_1 rfl ?_
  refine xr_putI fpX8_33 dX8_perform_2 s_46 rfl rfl rfl ?_
  refine xr_aload_n dX8_perform_5 0 rfl ?_
  refine xr_iload_n dX8_perform_6 1 rfl ?_
  refine xr_putI fpX8_36 dX8_perform_7 s_46 rfl rfl rfl ?_
  refine xr_aload_n dX8_perform_10 0 rfl ?_
  refine xr_iload_n dX8_perform_11 2 rfl ?_
  refine xr_iload_n dX8_perform_12 3 rfl ?_
  refine xr_iconst (v := 0) dX8_perform_13 rfl ?_
  refine xr_callV (As := [.int (3), .int (x), .int (0)]) (rest := []) mlX8_39 (tv4_own_3 (e := 0) (ac := ac) (ra := 0) x (by omega) h_b (Eq.trans (x_up_k _ _ _ (by decide)) (Eq.trans (x_up_k _ _ _ (by decide)) e_b)) (by omega) (Eq.trans (x_up_k _ _ _ (by decide)) (x_up_s _ _ _ _)) hac (x_up_s _ _ _ _) (Eq.trans (congrFun (x_up_n _ _ _ (by decide)) _) (Eq.trans (congrFun (x_up_n _ _ _ (by decide)) _) e_k))) dX8_perform_14 s_46 rfl rfl (Nat.le_of_ble_eq_true rfl) (by decide) ⟨by decide, by decide⟩ (fun v s2 M4 J2 hq => ?_)
  obtain ⟨r6, rfl, rfl, rfl, k5, ⟨hr2, hx1, ht3⟩⟩ := hq
  try dsimp only [Option.toList, List.cons_append, List.nil_append]
  subst hr2
  exact xr_iret dX8_perform_17 rfl rfl (⟨_, rfl, rfl, rfl, (Ke.tr (fun pp kk => (fun hh => Or.elim hh (fun h => (Or.inl h)) (fun h => (Or.inr (Or.inr h))))) (Ke.up (Or.inr (Or.inl (by omega))) (Ke.up (Or.inl (by omega)) Ke.rf)) k5), ⟨(hx1.trans (congrArg nI (Nat.zero_add _))), TrA_F ht3⟩⟩)
set_option maxRecDepth 100000 in
set_option maxHeartbeats 4000000 in
theorem tv5_run_1_0 {e ac : Nat} (x : Int32) (he : e + 0 ≤ 30) {l : Launch} {G : xG} {M : xM} {J : xJ} {b ra : Nat} (h_b : b ≤ 50) (e_b : M 46 2 = nI b) (h_ra : ra + 1 ≤ 900) (e_ra : M 46 3 = nI ra) (hac : ac < b) (e_ac : M 46 4 = nI ac) (e_k : M 47 ac = 5) : x_M l G fX8_run 1 0 0 [.ref (46), .int (1), .int (0), .int (x), .int (nI (e))] x_SH M J (qKI WTN M J (fun r M2 => r = (x + (nI (ac))) ∧ M2 46 3 = nI (ra + 1) ∧ TrA 48 ra [1] M M2)) := by
  refine xb_of pX8 (Nat.le_of_ble_eq_true rfl) rfl ?_
  refine xr_aload_n dX8_run_0 0 rfl ?_
  refine xr_iload_n dX8_run_1 1 rfl ?_
  refine xr_callV (As := [.int (1)]) (rest := []) mlX8_56 (gt_X8_note 1 (by omega) e_ra) dX8_run_2 s_46 rfl rfl (Nat.le_of_ble_eq_true rfl) (by decide) ⟨by decide, by decide⟩ (fun v s2 M3 J2 hq => ?_)
  obtain ⟨rfl, rfl, rfl, k4, ⟨hx1, ht2⟩⟩ := hq
  try dsimp only [Option.toList, List.cons_append, List.nil_append]
  refine xr_iload_n dX8_run_5 1 rfl ?_
  refine xr_lookup (tgt := 120) (off := 114) dX8_run_6 (by decide) (by decide) rfl ?_
  refine xr_iload_n dX8_run_120 3 rfl ?_
  refine xr_aload_n dX8_run_121 0 rfl ?_
  refine xb_get (v := nI (ac)) flX8_36 dX8_run_122 s_46 rfl (Eq.trans (k4 46 4 (by decide)) e_ac) ?_
  refine xr_iadd dX8_run_125 ?_
  exact xr_iret dX8_run_126 rfl rfl (⟨_, rfl, rfl, rfl, (Ke.tr (fun _ _ h => h) Ke.rf k4), rfl, hx1, ht2⟩)
set_option maxRecDepth 100000 in
set_option maxHeartbeats 4000000 in
theorem tv5_runFrom_5_0 {e ac : Nat} (x : Int32) (he : e + 1 ≤ 30) {l : Launch} {G : xG} {M : xM} {J : xJ} {b ra : Nat} (h_b : b ≤ 50) (e_b : M 46 2 = nI b) (h_ra : ra + 1 ≤ 900) (e_ra : M 46 3 = nI ra) (hac : ac < b) (e_ac : M 46 4 = nI ac) (e_k : M 47 ac = 5) : x_M l G fX8_runFrom 2 0 0 [.ref (46), .int (5), .int (0), .int (x), .int (nI (e))] x_SH M J (qKI WTN M J (fun r M2 => r = (x + (nI (ac))) ∧ M2 46 3 = nI (ra + 1) ∧ TrA 48 ra [1] M M2)) := by
  refine xb_of pX8 (Nat.le_of_ble_eq_true rfl) rfl ?_
  refine xr_iload_n dX8_runFrom_0 1 rfl ?_
  refine xr_istore (ls2 := [(5, .int (5)), (0, .ref (46)), (1, .int (5)), (2, .int (0)), (3, .int (x)), (4, .int (nI (e)))]) dX8_runFrom_1 (by decide) rfl ?_
  refine xr_iconst (v := 0) dX8_runFrom_3 rfl ?_
  refine xr_istore (ls2 := [(6, .int (0)), (5, .int (5)), (0, .ref (46)), (1, .int (5)), (2, .int (0)), (3, .int (x)), (4, .int (nI (e)))]) dX8_runFrom_4 (by decide) rfl ?_
  refine xr_iload dX8_runFrom_6 0 rfl ?_
  refine xr_bipush (v := 8) dX8_runFrom_8 rfl ?_
  refine xr_icmp_ge (tgt := 81) dX8_runFrom_10 rfl (fun c => absurd c (by decide)) (fun _ => ?_)
  refine xr_iload dX8_runFrom_13 1 rfl ?_
  refine xb_cN (As := [.int (5)]) (rest := []) mlX8_26 (c_X9_isKind 5) dX8_runFrom_15 rfl rfl (Nat.le_of_ble_eq_true rfl) (by decide) (by decide) ?_
  refine xb_beq (tgt := 81) dX8_runFrom_18 rfl (fun c => absurd (by decide) c) (fun _ => ?_)
  refine xr_getsO slX8_50 dX8_runFrom_21 ?_
  refine xr_iload dX8_runFrom_24 1 rfl ?_
  refine xr_iconst (v := 4) dX8_runFrom_26 rfl ?_
  refine xr_imul dX8_runFrom_27 ?_
  refine xb_top (y := 20) (by decide) ?_
  refine xr_iload_n dX8_runFrom_28 4 rfl ?_
  refine xr_iadd dX8_runFrom_29 ?_
  refine xb_top (y := 20) (by decide) ?_
  refine xr_tabO (by unfold vp_in; decide) dX8_runFrom_30 ?_
  refine xb_top (y := 0) (by decide) ?_
  refine xr_if_eq (tgt := 67) dX8_runFrom_31 rfl (fun _ => ?_) (fun c => absurd (by decide) c)
  refine xr_getsA slX8_30 dX8_runFrom_67 ?_
  refine xr_iload dX8_runFrom_70 1 rfl ?_
  refine xr_tabA (by unfold vp_in; decide) dX8_runFrom_72 ?_
  refine xb_top (y := 3) (by decide) ?_
  refine xr_istore (ls2 := [(5, .int (3)), (6, .int (0)), (0, .ref (46)), (1, .int (5)), (2, .int (0)), (3, .int (x)), (4, .int (nI (e)))]) dX8_runFrom_73 (by decide) rfl ?_
  refine xr_iinc (v := 1) (ls2 := [(6, .int (1)), (5, .int (3)), (0, .ref (46)), (1, .int (5)), (2, .int (0)), (3, .int (x)), (4, .int (nI (e)))]) dX8_runFrom_75 1 rfl rfl (by decide) rfl ?_
  refine xr_goto (tgt := 6) dX8_runFrom_78 rfl ?_
  refine xr_iload dX8_runFrom_6 0 rfl ?_
  refine xr_bipush (v := 8) dX8_runFrom_8 rfl ?_
  refine xr_icmp_ge (tgt := 81) dX8_runFrom_10 rfl (fun c => absurd c (by decide)) (fun _ => ?_)
  refine xr_iload dX8_runFrom_13 1 rfl ?_
  refine xb_cN (As := [.int (3)]) (rest := []) mlX8_26 (c_X9_isKind 3) dX8_runFrom_15 rfl rfl (Nat.le_of_ble_eq_true rfl) (by decide) (by decide) ?_
  refine xb_beq (tgt := 81) dX8_runFrom_18 rfl (fun c => absurd (by decide) c) (fun _ => ?_)
  refine xr_getsO slX8_50 dX8_runFrom_21 ?_
  refine xr_iload dX8_runFrom_24 1 rfl ?_
  refine xr_iconst (v := 4) dX8_runFrom_26 rfl ?_
  refine xr_imul dX8_runFrom_27 ?_
  refine xb_top (y := 12) (by decide) ?_
  refine xr_iload_n dX8_runFrom_28 4 rfl ?_
  refine xr_iadd dX8_runFrom_29 ?_
  refine xb_top (y := 12) (by decide) ?_
  refine xr_tabO (by unfold vp_in; decide) dX8_runFrom_30 ?_
  refine xb_top (y := 0) (by decide) ?_
  refine xr_if_eq (tgt := 67) dX8_runFrom_31 rfl (fun _ => ?_) (fun c => absurd (by decide) c)
  refine xr_getsA slX8_30 dX8_runFrom_67 ?_
  refine xr_iload dX8_runFrom_70 1 rfl ?_
  refine xr_tabA (by unfold vp_in; decide) dX8_runFrom_72 ?_
  refine xb_top (y := 2) (by decide) ?_
  refine xr_istore (ls2 := [(5, .int (2)), (6, .int (1)), (0, .ref (46)), (1, .int (5)), (2, .int (0)), (3, .int (x)), (4, .int (nI (e)))]) dX8_runFrom_73 (by decide) rfl ?_
  refine xr_iinc (v := 2) (ls2 := [(6, .int (2)), (5, .int (2)), (0, .ref (46)), (1, .int (5)), (2, .int (0)), (3, .int (x)), (4, .int (nI (e)))]) dX8_runFrom_75 1 rfl rfl (by decide) rfl ?_
  refine xr_goto (tgt := 6) dX8_runFrom_78 rfl ?_
  refine xr_iload dX8_runFrom_6 0 rfl ?_
  refine xr_bipush (v := 8) dX8_runFrom_8 rfl ?_
  refine xr_icmp_ge (tgt := 81) dX8_runFrom_10 rfl (fun c => absurd c (by decide)) (fun _ => ?_)
  refine xr_iload dX8_runFrom_13 1 rfl ?_
  refine xb_cN (As := [.int (2)]) (rest := []) mlX8_26 (c_X9_isKind 2) dX8_runFrom_15 rfl rfl (Nat.le_of_ble_eq_true rfl) (by decide) (by decide) ?_
  refine xb_beq (tgt := 81) dX8_runFrom_18 rfl (fun c => absurd (by decide) c) (fun _ => ?_)
  refine xr_getsO slX8_50 dX8_runFrom_21 ?_
  refine xr_iload dX8_runFrom_24 1 rfl ?_
  refine xr_iconst (v := 4) dX8_runFrom_26 rfl ?_
  refine xr_imul dX8_runFrom_27 ?_
  refine xb_top (y := 8) (by decide) ?_
  refine xr_iload_n dX8_runFrom_28 4 rfl ?_
  refine xr_iadd dX8_runFrom_29 ?_
  refine xb_top (y := 8) (by decide) ?_
  refine xr_tabO (by unfold vp_in; decide) dX8_runFrom_30 ?_
  refine xb_top (y := 0) (by decide) ?_
  refine xr_if_eq (tgt := 67) dX8_runFrom_31 rfl (fun _ => ?_) (fun c => absurd (by decide) c)
  refine xr_getsA slX8_30 dX8_runFrom_67 ?_
  refine xr_iload dX8_runFrom_70 1 rfl ?_
  refine xr_tabA (by unfold vp_in; decide) dX8_runFrom_72 ?_
  refine xb_top (y := 0) (by decide) ?_
  refine xr_istore (ls2 := [(5, .int (0)), (6, .int (2)), (0, .ref (46)), (1, .int (5)), (2, .int (0)), (3, .int (x)), (4, .int (nI (e)))]) dX8_runFrom_73 (by decide) rfl ?_
  refine xr_iinc (v := 3) (ls2 := [(6, .int (3)), (5, .int (0)), (0, .ref (46)), (1, .int (5)), (2, .int (0)), (3, .int (x)), (4, .int (nI (e)))]) dX8_runFrom_75 1 rfl rfl (by decide) rfl ?_
  refine xr_goto (tgt := 6) dX8_runFrom_78 rfl ?_
  refine xr_iload dX8_runFrom_6 0 rfl ?_
  refine xr_bipush (v := 8) dX8_runFrom_8 rfl ?_
  refine xr_icmp_ge (tgt := 81) dX8_runFrom_10 rfl (fun c => absurd c (by decide)) (fun _ => ?_)
  refine xr_iload dX8_runFrom_13 1 rfl ?_
  refine xb_cN (As := [.int (0)]) (rest := []) mlX8_26 (c_X9_isKind 0) dX8_runFrom_15 rfl rfl (Nat.le_of_ble_eq_true rfl) (by decide) (by decide) ?_
  refine xb_beq (tgt := 81) dX8_runFrom_18 rfl (fun c => absurd (by decide) c) (fun _ => ?_)
  refine xr_getsO slX8_50 dX8_runFrom_21 ?_
  refine xr_iload dX8_runFrom_24 1 rfl ?_
  refine xr_iconst (v := 4) dX8_runFrom_26 rfl ?_
  refine xr_imul dX8_runFrom_27 ?_
  refine xb_top (y := 0) (by decide) ?_
  refine xr_iload_n dX8_runFrom_28 4 rfl ?_
  refine xr_iadd dX8_runFrom_29 ?_
  refine xb_top (y := 0) (by decide) ?_
  refine xr_tabO (by unfold vp_in; decide) dX8_runFrom_30 ?_
  refine xb_top (y := 1) (by decide) ?_
  refine xr_if_eq (tgt := 67) dX8_runFrom_31 rfl (fun c => absurd c (by decide)) (fun _ => ?_)
  refine xr_iload dX8_runFrom_34 6 rfl ?_
  refine xr_bipush (v := 30) dX8_runFrom_36 rfl ?_
  refine xr_icmp_ge (tgt := 65) dX8_runFrom_38 rfl (fun c => absurd c (nI_ge (a := e) (b := 30) (by omega) (by omega))) (fun _ => ?_)
  refine xr_aload_n dX8_runFrom_41 2 rfl ?_
  refine xr_getsO slX8_50 dX8_runFrom_42 ?_
  refine xr_iload dX8_runFrom_45 1 rfl ?_
  refine xr_iconst (v := 4) dX8_runFrom_47 rfl ?_
  refine xr_imul dX8_runFrom_48 ?_
  refine xb_top (y := 0) (by decide) ?_
  refine xr_iload_n dX8_runFrom_49 4 rfl ?_
  refine xr_iadd dX8_runFrom_50 ?_
  refine xb_top (y := 0) (by decide) ?_
  refine xr_tabO (by unfold vp_in; decide) dX8_runFrom_51 ?_
  refine xb_top (y := 1) (by decide) ?_
  refine xr_iload dX8_runFrom_52 1 rfl ?_
  refine xr_iload_n dX8_runFrom_54 5 rfl ?_
  refine xr_iload dX8_runFrom_55 6 rfl ?_
  refine xr_iconst (v := 1) dX8_runFrom_57 rfl ?_
  refine xr_iadd dX8_runFrom_58 ?_
  refine xb_top (y := nI (e + 1)) (nI_add (e) (1)) ?_
  refine xr_callV (As := [.int (1), .int (0), .int (x), .int (nI (e + 1))]) (rest := []) mlX8_53 (tv5_run_1_0 (e := e + 1) (ac := ac) x (by omega) (by omega) e_b (by omega) e_ra hac e_ac e_k) dX8_runFrom_59 s_46 rfl rfl (Nat.le_of_ble_eq_true rfl) (by decide) ⟨by decide, by decide⟩ (fun v s2 M8 J2 hq => ?_)
  obtain ⟨r10, rfl, rfl, rfl, k9, ⟨hr6, hx5, ht7⟩⟩ := hq
  try dsimp only [Option.toList, List.cons_append, List.nil_append]
  subst hr6
  refine xr_goto (tgt := 66) dX8_runFrom_62 rfl ?_
  exact xr_iret dX8_runFrom_66 rfl rfl (⟨_, rfl, rfl, rfl, (Ke.tr (fun _ _ h => h) Ke.rf k9), rfl, hx5, ht7⟩)
set_option maxRecDepth 100000 in
set_option maxHeartbeats 4000000 in
theorem tv5_own_0 {e ac : Nat} (x : Int32) (he : e + 1 ≤ 30) {l : Launch} {G : xG} {M : xM} {J : xJ} {b ra : Nat} (h_b : b ≤ 50) (e_b : M 46 2 = nI b) (h_ra : ra + 1 ≤ 900) (e_ra : M 46 3 = nI ra) (hac : ac < b) (e_ac : M 46 4 = nI ac) (e_k : M 47 ac = 5) : x_M l G fX8_own 3 0 0 [.ref (46), .int (0), .int (x), .int (nI (e))] x_SH M J (qKI WTN M J (fun r M2 => r = (x + (nI (ac))) ∧ M2 46 3 = nI (ra + 1) ∧ TrA 48 ra [1] M M2)) := by
  refine xb_of pX8 (Nat.le_of_ble_eq_true rfl) rfl ?_
  refine xr_aload_n dX8_own_0 0 rfl ?_
  refine xr_aload_n dX8_own_1 0 rfl ?_
  refine xb_get (v := nI (ac)) flX8_36 dX8_own_2 s_46 rfl e_ac ?_
  refine xb_cV (As := [.int (nI (ac))]) (rest := []) mlX8_43 (c_X8_has (nI (ac)) (by omega) e_b) dX8_own_5 s_46 rfl rfl (Nat.le_of_ble_eq_true rfl) (by decide) (by decide) ?_
  refine xb_beq (tgt := 30) dX8_own_8 rfl (fun c => absurd ⟨nI_pos' (by omega), nI_lt (by omega) (by omega)⟩ c) (fun _ => ?_)
  refine xr_aload_n dX8_own_11 0 rfl ?_
  refine xr_aload_n dX8_own_12 0 rfl ?_
  refine xr_getR flX8_9 dX8_own_13 s_46 rfl ?_
  refine xr_aload_n dX8_own_16 0 rfl ?_
  refine xb_get (v := nI (ac)) flX8_36 dX8_own_17 s_46 rfl e_ac ?_
  refine xb_iald (j := ac) (v := 5) dX8_own_20 s_47 (by omega) (by decide) e_k ?_
  refine xr_iload_n dX8_own_21 1 rfl ?_
  refine xr_iload_n dX8_own_22 2 rfl ?_
  refine xr_iload_n dX8_own_23 3 rfl ?_
  refine xr_callV (As := [.int (5), .int (0), .int (x), .int (nI (e))]) (rest := []) mlX8_46 (tv5_runFrom_5_0 (e := e) (ac := ac) x (by omega) (by omega) e_b (by omega) e_ra hac e_ac e_k) dX8_own_24 s_46 rfl rfl (Nat.le_of_ble_eq_true rfl) (by decide) ⟨by decide, by decide⟩ (fun v s2 M5 J2 hq => ?_)
  obtain ⟨r7, rfl, rfl, rfl, k6, ⟨hr3, hx2, ht4⟩⟩ := hq
  try dsimp only [Option.toList, List.cons_append, List.nil_append]
  subst hr3
  refine xr_goto (tgt := 31) dX8_own_27 rfl ?_
  exact xr_iret dX8_own_31 rfl rfl (⟨_, rfl, rfl, rfl, (Ke.tr (fun _ _ h => h) Ke.rf k6), rfl, hx2, ht4⟩)
set_option maxRecDepth 100000 in
set_option maxHeartbeats 4000000 in
theorem tw5_0 {ac b : Nat} (x : Int32) {l : Launch} {G : xG} {M : xM} {J : xJ} (h_b : b ≤ 50) (e_b : M 46 2 = nI b) (hac : ac < b) (e_k : M 47 ac = 5) : x_M l G fX8_perform 4 0 0 [.ref (46), .int (nI (ac)), .int (0), .int (x)] x_SH M J (qKI WTR M J (fun r M2 => M2 46 3 = nI 1 ∧ TrF 48 [1] M2)) := by
  refine xb_of pX8 (Nat.le_of_ble_eq_true rfl) rfl ?_
  refine xr_aload_n dX8_perform_0 0 rfl ?_
  refine xr_iconst (v := 0) dX8_perform_1 rfl ?_
  refine xr_putI fpX8_33 dX8_perform_2 s_46 rfl rfl rfl ?_
  refine xr_aload_n dX8_perform_5 0 rfl ?_
  refine xr_iload_n dX8_perform_6 1 rfl ?_
  refine xr_putI fpX8_36 dX8_perform_7 s_46 rfl rfl rfl ?_
  refine xr_aload_n dX8_perform_10 0 rfl ?_
  refine xr_iload_n dX8_perform_11 2 rfl ?_
  refine xr_iload_n dX8_perform_12 3 rfl ?_
  refine xr_iconst (v := 0) dX8_perform_13 rfl ?_
  refine xr_callV (As := [.int (0), .int (x), .int (0)]) (rest := []) mlX8_39 (tv5_own_0 (e := 0) (ac := ac) (ra := 0) x (by omega) h_b (Eq.trans (x_up_k _ _ _ (by decide)) (Eq.trans (x_up_k _ _ _ (by decide)) e_b)) (by omega) (Eq.trans (x_up_k _ _ _ (by decide)) (x_up_s _ _ _ _)) hac (x_up_s _ _ _ _) (Eq.trans (congrFun (x_up_n _ _ _ (by decide)) _) (Eq.trans (congrFun (x_up_n _ _ _ (by decide)) _) e_k))) dX8_perform_14 s_46 rfl rfl (Nat.le_of_ble_eq_true rfl) (by decide) ⟨by decide, by decide⟩ (fun v s2 M4 J2 hq => ?_)
  obtain ⟨r6, rfl, rfl, rfl, k5, ⟨hr2, hx1, ht3⟩⟩ := hq
  try dsimp only [Option.toList, List.cons_append, List.nil_append]
  subst hr2
  exact xr_iret dX8_perform_17 rfl rfl (⟨_, rfl, rfl, rfl, (Ke.tr (fun pp kk => (fun hh => Or.elim hh (fun h => (Or.inl h)) (fun h => (Or.inr (Or.inr h))))) (Ke.up (Or.inr (Or.inl (by omega))) (Ke.up (Or.inl (by omega)) Ke.rf)) k5), ⟨(hx1.trans (congrArg nI (Nat.zero_add _))), TrA_F ht3⟩⟩)
set_option maxRecDepth 100000 in
set_option maxHeartbeats 4000000 in
theorem tv5_run_10_0 {e ac : Nat} (x : Int32) (he : e + 1 ≤ 30) {l : Launch} {G : xG} {M : xM} {J : xJ} {b ra : Nat} (h_b : b ≤ 50) (e_b : M 46 2 = nI b) (h_ra : ra + 2 ≤ 900) (e_ra : M 46 3 = nI ra) (hac : ac < b) (e_ac : M 46 4 = nI ac) (e_k : M 47 ac = 5) : x_M l G fX8_run 4 0 0 [.ref (46), .int (10), .int (0), .int (x), .int (nI (e))] x_SH M J (qKI WTN M J (fun r M2 => r = ((x + (nI (ac))) * 2) ∧ M2 46 3 = nI (ra + 2) ∧ TrA 48 ra [10, 1] M M2)) := by
  refine xb_of pX8 (Nat.le_of_ble_eq_true rfl) rfl ?_
  refine xr_aload_n dX8_run_0 0 rfl ?_
  refine xr_iload_n dX8_run_1 1 rfl ?_
  refine xr_callV (As := [.int (10)]) (rest := []) mlX8_56 (gt_X8_note 10 (by omega) e_ra) dX8_run_2 s_46 rfl rfl (Nat.le_of_ble_eq_true rfl) (by decide) ⟨by decide, by decide⟩ (fun v s2 M3 J2 hq => ?_)
  obtain ⟨rfl, rfl, rfl, k4, ⟨hx1, ht2⟩⟩ := hq
  try dsimp only [Option.toList, List.cons_append, List.nil_append]
  refine xr_iload_n dX8_run_5 1 rfl ?_
  refine xr_lookup (tgt := 145) (off := 139) dX8_run_6 (by decide) (by decide) rfl ?_
  refine xr_aload_n dX8_run_145 0 rfl ?_
  refine xr_iconst (v := 0) dX8_run_146 rfl ?_
  refine xr_iload_n dX8_run_147 3 rfl ?_
  refine xr_iload dX8_run_148 4 rfl ?_
  refine xr_callV (As := [.int (0), .int (x), .int (nI (e))]) (rest := []) mlX8_39 (tv5_own_0 (e := e) (ac := ac) x (by omega) (by omega) (Eq.trans (k4 46 2 (by decide)) e_b) (by omega) hx1 hac (Eq.trans (k4 46 4 (by decide)) e_ac) (Eq.trans (k4 47 ac (by unfold WTN; omega)) e_k)) dX8_run_150 s_46 rfl rfl (Nat.le_of_ble_eq_true rfl) (by decide) ⟨by decide, by decide⟩ (fun v s2 M8 J2 hq => ?_)
  obtain ⟨r10, rfl, rfl, rfl, k9, ⟨hr6, hx5, ht7⟩⟩ := hq
  try dsimp only [Option.toList, List.cons_append, List.nil_append]
  subst hr6
  refine xr_iconst (v := 2) dX8_run_153 rfl ?_
  refine xr_imul dX8_run_154 ?_
  exact xr_iret dX8_run_155 rfl rfl (⟨_, rfl, rfl, rfl, (Ke.tr (fun _ _ h => h) (Ke.tr (fun _ _ h => h) Ke.rf k4) k9), rfl, hx5, (TrA_app (l := [10]) (m := [1]) ht2 ht7)⟩)
set_option maxRecDepth 100000 in
set_option maxHeartbeats 4000000 in
theorem tv5_runFrom_0_1 {e ac : Nat} (x : Int32) (he : e + 2 ≤ 30) {l : Launch} {G : xG} {M : xM} {J : xJ} {b ra : Nat} (h_b : b ≤ 50) (e_b : M 46 2 = nI b) (h_ra : ra + 2 ≤ 900) (e_ra : M 46 3 = nI ra) (hac : ac < b) (e_ac : M 46 4 = nI ac) (e_k : M 47 ac = 5) : x_M l G fX8_runFrom 5 0 0 [.ref (46), .int (0), .int (1), .int (x), .int (nI (e))] x_SH M J (qKI WTN M J (fun r M2 => r = ((x + (nI (ac))) * 2) ∧ M2 46 3 = nI (ra + 2) ∧ TrA 48 ra [10, 1] M M2)) := by
  refine xb_of pX8 (Nat.le_of_ble_eq_true rfl) rfl ?_
  refine xr_iload_n dX8_runFrom_0 1 rfl ?_
  refine xr_istore (ls2 := [(5, .int (0)), (0, .ref (46)), (1, .int (0)), (2, .int (1)), (3, .int (x)), (4, .int (nI (e)))]) dX8_runFrom_1 (by decide) rfl ?_
  refine xr_iconst (v := 0) dX8_runFrom_3 rfl ?_
  refine xr_istore (ls2 := [(6, .int (0)), (5, .int (0)), (0, .ref (46)), (1, .int (0)), (2, .int (1)), (3, .int (x)), (4, .int (nI (e)))]) dX8_runFrom_4 (by decide) rfl ?_
  refine xr_iload dX8_runFrom_6 0 rfl ?_
  refine xr_bipush (v := 8) dX8_runFrom_8 rfl ?_
  refine xr_icmp_ge (tgt := 81) dX8_runFrom_10 rfl (fun c => absurd c (by decide)) (fun _ => ?_)
  refine xr_iload dX8_runFrom_13 1 rfl ?_
  refine xb_cN (As := [.int (0)]) (rest := []) mlX8_26 (c_X9_isKind 0) dX8_runFrom_15 rfl rfl (Nat.le_of_ble_eq_true rfl) (by decide) (by decide) ?_
  refine xb_beq (tgt := 81) dX8_runFrom_18 rfl (fun c => absurd (by decide) c) (fun _ => ?_)
  refine xr_getsO slX8_50 dX8_runFrom_21 ?_
  refine xr_iload dX8_runFrom_24 1 rfl ?_
  refine xr_iconst (v := 4) dX8_runFrom_26 rfl ?_
  refine xr_imul dX8_runFrom_27 ?_
  refine xb_top (y := 0) (by decide) ?_
  refine xr_iload_n dX8_runFrom_28 4 rfl ?_
  refine xr_iadd dX8_runFrom_29 ?_
  refine xb_top (y := 1) (by decide) ?_
  refine xr_tabO (by unfold vp_in; decide) dX8_runFrom_30 ?_
  refine xb_top (y := 10) (by decide) ?_
  refine xr_if_eq (tgt := 67) dX8_runFrom_31 rfl (fun c => absurd c (by decide)) (fun _ => ?_)
  refine xr_iload dX8_runFrom_34 6 rfl ?_
  refine xr_bipush (v := 30) dX8_runFrom_36 rfl ?_
  refine xr_icmp_ge (tgt := 65) dX8_runFrom_38 rfl (fun c => absurd c (nI_ge (a := e) (b := 30) (by omega) (by omega))) (fun _ => ?_)
  refine xr_aload_n dX8_runFrom_41 2 rfl ?_
  refine xr_getsO slX8_50 dX8_runFrom_42 ?_
  refine xr_iload dX8_runFrom_45 1 rfl ?_
  refine xr_iconst (v := 4) dX8_runFrom_47 rfl ?_
  refine xr_imul dX8_runFrom_48 ?_
  refine xb_top (y := 0) (by decide) ?_
  refine xr_iload_n dX8_runFrom_49 4 rfl ?_
  refine xr_iadd dX8_runFrom_50 ?_
  refine xb_top (y := 1) (by decide) ?_
  refine xr_tabO (by unfold vp_in; decide) dX8_runFrom_51 ?_
  refine xb_top (y := 10) (by decide) ?_
  refine xr_iload dX8_runFrom_52 1 rfl ?_
  refine xr_iload_n dX8_runFrom_54 5 rfl ?_
  refine xr_iload dX8_runFrom_55 6 rfl ?_
  refine xr_iconst (v := 1) dX8_runFrom_57 rfl ?_
  refine xr_iadd dX8_runFrom_58 ?_
  refine xb_top (y := nI (e + 1)) (nI_add (e) (1)) ?_
  refine xr_callV (As := [.int (10), .int (0), .int (x), .int (nI (e + 1))]) (rest := []) mlX8_53 (tv5_run_10_0 (e := e + 1) (ac := ac) x (by omega) (by omega) e_b (by omega) e_ra hac e_ac e_k) dX8_runFrom_59 s_46 rfl rfl (Nat.le_of_ble_eq_true rfl) (by decide) ⟨by decide, by decide⟩ (fun v s2 M5 J2 hq => ?_)
  obtain ⟨r7, rfl, rfl, rfl, k6, ⟨hr3, hx2, ht4⟩⟩ := hq
  try dsimp only [Option.toList, List.cons_append, List.nil_append]
  subst hr3
  refine xr_goto (tgt := 66) dX8_runFrom_62 rfl ?_
  exact xr_iret dX8_runFrom_66 rfl rfl (⟨_, rfl, rfl, rfl, (Ke.tr (fun _ _ h => h) Ke.rf k6), rfl, hx2, ht4⟩)
set_option maxRecDepth 100000 in
set_option maxHeartbeats 4000000 in
theorem tv5_above_2_1 {e ac : Nat} (x : Int32) (he : e + 2 ≤ 30) {l : Launch} {G : xG} {M : xM} {J : xJ} {b ra : Nat} (h_b : b ≤ 50) (e_b : M 46 2 = nI b) (h_ra : ra + 2 ≤ 900) (e_ra : M 46 3 = nI ra) (hac : ac < b) (e_ac : M 46 4 = nI ac) (e_k : M 47 ac = 5) : x_M l G fX8_above 6 0 0 [.ref (46), .int (2), .int (1), .int (x), .int (nI (e))] x_SH M J (qKI WTN M J (fun r M2 => r = ((x + (nI (ac))) * 2) ∧ M2 46 3 = nI (ra + 2) ∧ TrA 48 ra [10, 1] M M2)) := by
  refine xb_of pX8 (Nat.le_of_ble_eq_true rfl) rfl ?_
  refine xr_iload_n dX8_above_0 1 rfl ?_
  refine xb_cN (As := [.int (2)]) (rest := []) mlX8_26 (c_X9_isKind 2) dX8_above_1 rfl rfl (Nat.le_of_ble_eq_true rfl) (by decide) (by decide) ?_
  refine xb_beq (tgt := 23) dX8_above_4 rfl (fun c => absurd (by decide) c) (fun _ => ?_)
  refine xr_aload_n dX8_above_7 0 rfl ?_
  refine xr_getsA slX8_30 dX8_above_8 ?_
  refine xr_iload_n dX8_above_11 1 rfl ?_
  refine xr_tabA (by unfold vp_in; decide) dX8_above_12 ?_
  refine xb_top (y := 0) (by decide) ?_
  refine xr_iload_n dX8_above_13 2 rfl ?_
  refine xr_iload_n dX8_above_14 3 rfl ?_
  refine xr_iload dX8_above_15 4 rfl ?_
  refine xr_callV (As := [.int (0), .int (1), .int (x), .int (nI (e))]) (rest := []) mlX8_46 (tv5_runFrom_0_1 (e := e) (ac := ac) x (by omega) (by omega) e_b (by omega) e_ra hac e_ac e_k) dX8_above_17 s_46 rfl rfl (Nat.le_of_ble_eq_true rfl) (by decide) ⟨by decide, by decide⟩ (fun v s2 M5 J2 hq => ?_)
  obtain ⟨r7, rfl, rfl, rfl, k6, ⟨hr3, hx2, ht4⟩⟩ := hq
  try dsimp only [Option.toList, List.cons_append, List.nil_append]
  subst hr3
  refine xr_goto (tgt := 24) dX8_above_20 rfl ?_
  exact xr_iret dX8_above_24 rfl rfl (⟨_, rfl, rfl, rfl, (Ke.tr (fun _ _ h => h) Ke.rf k6), rfl, hx2, ht4⟩)
set_option maxRecDepth 100000 in
set_option maxHeartbeats 4000000 in
theorem tv5_run_30_2 {e ac : Nat} (x : Int32) (he : e + 2 ≤ 30) {l : Launch} {G : xG} {M : xM} {J : xJ} {b ra : Nat} (h_b : b ≤ 50) (e_b : M 46 2 = nI b) (h_ra : ra + 3 ≤ 900) (e_ra : M 46 3 = nI ra) (hac : ac < b) (e_ac : M 46 4 = nI ac) (e_k : M 47 ac = 5) : x_M l G fX8_run 7 0 0 [.ref (46), .int (30), .int (2), .int (x), .int (nI (e))] x_SH M J (qKI WTN M J (fun r M2 => r = (-((x + (nI (ac))) * 2)) ∧ M2 46 3 = nI (ra + 3) ∧ TrA 48 ra [30, 10, 1] M M2)) := by
  refine xb_of pX8 (Nat.le_of_ble_eq_true rfl) rfl ?_
  refine xr_aload_n dX8_run_0 0 rfl ?_
  refine xr_iload_n dX8_run_1 1 rfl ?_
  refine xr_callV (As := [.int (30)]) (rest := []) mlX8_56 (gt_X8_note 30 (by omega) e_ra) dX8_run_2 s_46 rfl rfl (Nat.le_of_ble_eq_true rfl) (by decide) ⟨by decide, by decide⟩ (fun v s2 M3 J2 hq => ?_)
  obtain ⟨rfl, rfl, rfl, k4, ⟨hx1, ht2⟩⟩ := hq
  try dsimp only [Option.toList, List.cons_append, List.nil_append]
  refine xr_iload_n dX8_run_5 1 rfl ?_
  refine xr_lookup (tgt := 175) (off := 169) dX8_run_6 (by decide) (by decide) rfl ?_
  refine xr_aload_n dX8_run_175 0 rfl ?_
  refine xr_iload_n dX8_run_176 2 rfl ?_
  refine xr_iconst (v := 1) dX8_run_177 rfl ?_
  refine xr_iload_n dX8_run_178 3 rfl ?_
  refine xr_iload dX8_run_179 4 rfl ?_
  refine xr_callV (As := [.int (2), .int (1), .int (x), .int (nI (e))]) (rest := []) mlX8_60 (tv5_above_2_1 (e := e) (ac := ac) x (by omega) (by omega) (Eq.trans (k4 46 2 (by decide)) e_b) (by omega) hx1 hac (Eq.trans (k4 46 4 (by decide)) e_ac) (Eq.trans (k4 47 ac (by unfold WTN; omega)) e_k)) dX8_run_181 s_46 rfl rfl (Nat.le_of_ble_eq_true rfl) (by decide) ⟨by decide, by decide⟩ (fun v s2 M8 J2 hq => ?_)
  obtain ⟨r10, rfl, rfl, rfl, k9, ⟨hr6, hx5, ht7⟩⟩ := hq
  try dsimp only [Option.toList, List.cons_append, List.nil_append]
  subst hr6
  refine xr_ineg dX8_run_184 ?_
  exact xr_iret dX8_run_185 rfl rfl (⟨_, rfl, rfl, rfl, (Ke.tr (fun _ _ h => h) (Ke.tr (fun _ _ h => h) Ke.rf k4) k9), rfl, hx5, (TrA_app (l := [30]) (m := [10, 1]) ht2 ht7)⟩)
set_option maxRecDepth 100000 in
set_option maxHeartbeats 4000000 in
theorem tv5_runFrom_2_1 {e ac : Nat} (x : Int32) (he : e + 3 ≤ 30) {l : Launch} {G : xG} {M : xM} {J : xJ} {b ra : Nat} (h_b : b ≤ 50) (e_b : M 46 2 = nI b) (h_ra : ra + 3 ≤ 900) (e_ra : M 46 3 = nI ra) (hac : ac < b) (e_ac : M 46 4 = nI ac) (e_k : M 47 ac = 5) : x_M l G fX8_runFrom 8 0 0 [.ref (46), .int (2), .int (1), .int (x), .int (nI (e))] x_SH M J (qKI WTN M J (fun r M2 => r = (-((x + (nI (ac))) * 2)) ∧ M2 46 3 = nI (ra + 3) ∧ TrA 48 ra [30, 10, 1] M M2)) := by
  refine xb_of pX8 (Nat.le_of_ble_eq_true rfl) rfl ?_
  refine xr_iload_n dX8_runFrom_0 1 rfl ?_
  refine xr_istore (ls2 := [(5, .int (2)), (0, .ref (46)), (1, .int (2)), (2, .int (1)), (3, .int (x)), (4, .int (nI (e)))]) dX8_runFrom_1 (by decide) rfl ?_
  refine xr_iconst (v := 0) dX8_runFrom_3 rfl ?_
  refine xr_istore (ls2 := [(6, .int (0)), (5, .int (2)), (0, .ref (46)), (1, .int (2)), (2, .int (1)), (3, .int (x)), (4, .int (nI (e)))]) dX8_runFrom_4 (by decide) rfl ?_
  refine xr_iload dX8_runFrom_6 0 rfl ?_
  refine xr_bipush (v := 8) dX8_runFrom_8 rfl ?_
  refine xr_icmp_ge (tgt := 81) dX8_runFrom_10 rfl (fun c => absurd c (by decide)) (fun _ => ?_)
  refine xr_iload dX8_runFrom_13 1 rfl ?_
  refine xb_cN (As := [.int (2)]) (rest := []) mlX8_26 (c_X9_isKind 2) dX8_runFrom_15 rfl rfl (Nat.le_of_ble_eq_true rfl) (by decide) (by decide) ?_
  refine xb_beq (tgt := 81) dX8_runFrom_18 rfl (fun c => absurd (by decide) c) (fun _ => ?_)
  refine xr_getsO slX8_50 dX8_runFrom_21 ?_
  refine xr_iload dX8_runFrom_24 1 rfl ?_
  refine xr_iconst (v := 4) dX8_runFrom_26 rfl ?_
  refine xr_imul dX8_runFrom_27 ?_
  refine xb_top (y := 8) (by decide) ?_
  refine xr_iload_n dX8_runFrom_28 4 rfl ?_
  refine xr_iadd dX8_runFrom_29 ?_
  refine xb_top (y := 9) (by decide) ?_
  refine xr_tabO (by unfold vp_in; decide) dX8_runFrom_30 ?_
  refine xb_top (y := 30) (by decide) ?_
  refine xr_if_eq (tgt := 67) dX8_runFrom_31 rfl (fun c => absurd c (by decide)) (fun _ => ?_)
  refine xr_iload dX8_runFrom_34 6 rfl ?_
  refine xr_bipush (v := 30) dX8_runFrom_36 rfl ?_
  refine xr_icmp_ge (tgt := 65) dX8_runFrom_38 rfl (fun c => absurd c (nI_ge (a := e) (b := 30) (by omega) (by omega))) (fun _ => ?_)
  refine xr_aload_n dX8_runFrom_41 2 rfl ?_
  refine xr_getsO slX8_50 dX8_runFrom_42 ?_
  refine xr_iload dX8_runFrom_45 1 rfl ?_
  refine xr_iconst (v := 4) dX8_runFrom_47 rfl ?_
  refine xr_imul dX8_runFrom_48 ?_
  refine xb_top (y := 8) (by decide) ?_
  refine xr_iload_n dX8_runFrom_49 4 rfl ?_
  refine xr_iadd dX8_runFrom_50 ?_
  refine xb_top (y := 9) (by decide) ?_
  refine xr_tabO (by unfold vp_in; decide) dX8_runFrom_51 ?_
  refine xb_top (y := 30) (by decide) ?_
  refine xr_iload dX8_runFrom_52 1 rfl ?_
  refine xr_iload_n dX8_runFrom_54 5 rfl ?_
  refine xr_iload dX8_runFrom_55 6 rfl ?_
  refine xr_iconst (v := 1) dX8_runFrom_57 rfl ?_
  refine xr_iadd dX8_runFrom_58 ?_
  refine xb_top (y := nI (e + 1)) (nI_add (e) (1)) ?_
  refine xr_callV (As := [.int (30), .int (2), .int (x), .int (nI (e + 1))]) (rest := []) mlX8_53 (tv5_run_30_2 (e := e + 1) (ac := ac) x (by omega) (by omega) e_b (by omega) e_ra hac e_ac e_k) dX8_runFrom_59 s_46 rfl rfl (Nat.le_of_ble_eq_true rfl) (by decide) ⟨by decide, by decide⟩ (fun v s2 M5 J2 hq => ?_)
  obtain ⟨r7, rfl, rfl, rfl, k6, ⟨hr3, hx2, ht4⟩⟩ := hq
  try dsimp only [Option.toList, List.cons_append, List.nil_append]
  subst hr3
  refine xr_goto (tgt := 66) dX8_runFrom_62 rfl ?_
  exact xr_iret dX8_runFrom_66 rfl rfl (⟨_, rfl, rfl, rfl, (Ke.tr (fun _ _ h => h) Ke.rf k6), rfl, hx2, ht4⟩)
set_option maxRecDepth 100000 in
set_option maxHeartbeats 4000000 in
theorem tv5_above_3_1 {e ac : Nat} (x : Int32) (he : e + 3 ≤ 30) {l : Launch} {G : xG} {M : xM} {J : xJ} {b ra : Nat} (h_b : b ≤ 50) (e_b : M 46 2 = nI b) (h_ra : ra + 3 ≤ 900) (e_ra : M 46 3 = nI ra) (hac : ac < b) (e_ac : M 46 4 = nI ac) (e_k : M 47 ac = 5) : x_M l G fX8_above 9 0 0 [.ref (46), .int (3), .int (1), .int (x), .int (nI (e))] x_SH M J (qKI WTN M J (fun r M2 => r = (-((x + (nI (ac))) * 2)) ∧ M2 46 3 = nI (ra + 3) ∧ TrA 48 ra [30, 10, 1] M M2)) := by
  refine xb_of pX8 (Nat.le_of_ble_eq_true rfl) rfl ?_
  refine xr_iload_n dX8_above_0 1 rfl ?_
  refine xb_cN (As := [.int (3)]) (rest := []) mlX8_26 (c_X9_isKind 3) dX8_above_1 rfl rfl (Nat.le_of_ble_eq_true rfl) (by decide) (by decide) ?_
  refine xb_beq (tgt := 23) dX8_above_4 rfl (fun c => absurd (by decide) c) (fun _ => ?_)
  refine xr_aload_n dX8_above_7 0 rfl ?_
  refine xr_getsA slX8_30 dX8_above_8 ?_
  refine xr_iload_n dX8_above_11 1 rfl ?_
  refine xr_tabA (by unfold vp_in; decide) dX8_above_12 ?_
  refine xb_top (y := 2) (by decide) ?_
  refine xr_iload_n dX8_above_13 2 rfl ?_
  refine xr_iload_n dX8_above_14 3 rfl ?_
  refine xr_iload dX8_above_15 4 rfl ?_
  refine xr_callV (As := [.int (2), .int (1), .int (x), .int (nI (e))]) (rest := []) mlX8_46 (tv5_runFrom_2_1 (e := e) (ac := ac) x (by omega) (by omega) e_b (by omega) e_ra hac e_ac e_k) dX8_above_17 s_46 rfl rfl (Nat.le_of_ble_eq_true rfl) (by decide) ⟨by decide, by decide⟩ (fun v s2 M5 J2 hq => ?_)
  obtain ⟨r7, rfl, rfl, rfl, k6, ⟨hr3, hx2, ht4⟩⟩ := hq
  try dsimp only [Option.toList, List.cons_append, List.nil_append]
  subst hr3
  refine xr_goto (tgt := 24) dX8_above_20 rfl ?_
  exact xr_iret dX8_above_24 rfl rfl (⟨_, rfl, rfl, rfl, (Ke.tr (fun _ _ h => h) Ke.rf k6), rfl, hx2, ht4⟩)
set_option maxRecDepth 100000 in
set_option maxHeartbeats 4000000 in
theorem tv5_run_41_3 {e ac : Nat} (x : Int32) (he : e + 3 ≤ 30) {l : Launch} {G : xG} {M : xM} {J : xJ} {b ra : Nat} (h_b : b ≤ 50) (e_b : M 46 2 = nI b) (h_ra : ra + 4 ≤ 900) (e_ra : M 46 3 = nI ra) (hac : ac < b) (e_ac : M 46 4 = nI ac) (e_k : M 47 ac = 5) : x_M l G fX8_run 10 0 0 [.ref (46), .int (41), .int (3), .int (x), .int (nI (e))] x_SH M J (qKI WTN M J (fun r M2 => r = (-(((x + 1) + (nI (ac))) * 2)) ∧ M2 46 3 = nI (ra + 4) ∧ TrA 48 ra [41, 30, 10, 1] M M2)) := by
  refine xb_of pX8 (Nat.le_of_ble_eq_true rfl) rfl ?_
  refine xr_aload_n dX8_run_0 0 rfl ?_
  refine xr_iload_n dX8_run_1 1 rfl ?_
  refine xr_callV (As := [.int (41)]) (rest := []) mlX8_56 (gt_X8_note 41 (by omega) e_ra) dX8_run_2 s_46 rfl rfl (Nat.le_of_ble_eq_true rfl) (by decide) ⟨by decide, by decide⟩ (fun v s2 M3 J2 hq => ?_)
  obtain ⟨rfl, rfl, rfl, k4, ⟨hx1, ht2⟩⟩ := hq
  try dsimp only [Option.toList, List.cons_append, List.nil_append]
  refine xr_iload_n dX8_run_5 1 rfl ?_
  refine xr_lookup (tgt := 198) (off := 192) dX8_run_6 (by decide) (by decide) rfl ?_
  refine xr_aload_n dX8_run_198 0 rfl ?_
  refine xr_iload_n dX8_run_199 2 rfl ?_
  refine xr_iconst (v := 1) dX8_run_200 rfl ?_
  refine xr_iload_n dX8_run_201 3 rfl ?_
  refine xr_iconst (v := 1) dX8_run_202 rfl ?_
  refine xr_iadd dX8_run_203 ?_
  refine xr_iload dX8_run_204 4 rfl ?_
  refine xr_callV (As := [.int (3), .int (1), .int ((x + 1)), .int (nI (e))]) (rest := []) mlX8_60 (tv5_above_3_1 (e := e) (ac := ac) (x + 1) (by omega) (by omega) (Eq.trans (k4 46 2 (by decide)) e_b) (by omega) hx1 hac (Eq.trans (k4 46 4 (by decide)) e_ac) (Eq.trans (k4 47 ac (by unfold WTN; omega)) e_k)) dX8_run_206 s_46 rfl rfl (Nat.le_of_ble_eq_true rfl) (by decide) ⟨by decide, by decide⟩ (fun v s2 M8 J2 hq => ?_)
  obtain ⟨r10, rfl, rfl, rfl, k9, ⟨hr6, hx5, ht7⟩⟩ := hq
  try dsimp only [Option.toList, List.cons_append, List.nil_append]
  subst hr6
  exact xr_iret dX8_run_209 rfl rfl (⟨_, rfl, rfl, rfl, (Ke.tr (fun _ _ h => h) (Ke.tr (fun _ _ h => h) Ke.rf k4) k9), rfl, hx5, (TrA_app (l := [41]) (m := [30, 10, 1]) ht2 ht7)⟩)
set_option maxRecDepth 100000 in
set_option maxHeartbeats 4000000 in
theorem tv5_runFrom_5_1 {e ac : Nat} (x : Int32) (he : e + 4 ≤ 30) {l : Launch} {G : xG} {M : xM} {J : xJ} {b ra : Nat} (h_b : b ≤ 50) (e_b : M 46 2 = nI b) (h_ra : ra + 4 ≤ 900) (e_ra : M 46 3 = nI ra) (hac : ac < b) (e_ac : M 46 4 = nI ac) (e_k : M 47 ac = 5) : x_M l G fX8_runFrom 11 0 0 [.ref (46), .int (5), .int (1), .int (x), .int (nI (e))] x_SH M J (qKI WTN M J (fun r M2 => r = (-(((x + 1) + (nI (ac))) * 2)) ∧ M2 46 3 = nI (ra + 4) ∧ TrA 48 ra [41, 30, 10, 1] M M2)) := by
  refine xb_of pX8 (Nat.le_of_ble_eq_true rfl) rfl ?_
  refine xr_iload_n dX8_runFrom_0 1 rfl ?_
  refine xr_istore (ls2 := [(5, .int (5)), (0, .ref (46)), (1, .int (5)), (2, .int (1)), (3, .int (x)), (4, .int (nI (e)))]) dX8_runFrom_1 (by decide) rfl ?_
  refine xr_iconst (v := 0) dX8_runFrom_3 rfl ?_
  refine xr_istore (ls2 := [(6, .int (0)), (5, .int (5)), (0, .ref (46)), (1, .int (5)), (2, .int (1)), (3, .int (x)), (4, .int (nI (e)))]) dX8_runFrom_4 (by decide) rfl ?_
  refine xr_iload dX8_runFrom_6 0 rfl ?_
  refine xr_bipush (v := 8) dX8_runFrom_8 rfl ?_
  refine xr_icmp_ge (tgt := 81) dX8_runFrom_10 rfl (fun c => absurd c (by decide)) (fun _ => ?_)
  refine xr_iload dX8_runFrom_13 1 rfl ?_
  refine xb_cN (As := [.int (5)]) (rest := []) mlX8_26 (c_X9_isKind 5) dX8_runFrom_15 rfl rfl (Nat.le_of_ble_eq_true rfl) (by decide) (by decide) ?_
  refine xb_beq (tgt := 81) dX8_runFrom_18 rfl (fun c => absurd (by decide) c) (fun _ => ?_)
  refine xr_getsO slX8_50 dX8_runFrom_21 ?_
  refine xr_iload dX8_runFrom_24 1 rfl ?_
  refine xr_iconst (v := 4) dX8_runFrom_26 rfl ?_
  refine xr_imul dX8_runFrom_27 ?_
  refine xb_top (y := 20) (by decide) ?_
  refine xr_iload_n dX8_runFrom_28 4 rfl ?_
  refine xr_iadd dX8_runFrom_29 ?_
  refine xb_top (y := 21) (by decide) ?_
  refine xr_tabO (by unfold vp_in; decide) dX8_runFrom_30 ?_
  refine xb_top (y := 0) (by decide) ?_
  refine xr_if_eq (tgt := 67) dX8_runFrom_31 rfl (fun _ => ?_) (fun c => absurd (by decide) c)
  refine xr_getsA slX8_30 dX8_runFrom_67 ?_
  refine xr_iload dX8_runFrom_70 1 rfl ?_
  refine xr_tabA (by unfold vp_in; decide) dX8_runFrom_72 ?_
  refine xb_top (y := 3) (by decide) ?_
  refine xr_istore (ls2 := [(5, .int (3)), (6, .int (0)), (0, .ref (46)), (1, .int (5)), (2, .int (1)), (3, .int (x)), (4, .int (nI (e)))]) dX8_runFrom_73 (by decide) rfl ?_
  refine xr_iinc (v := 1) (ls2 := [(6, .int (1)), (5, .int (3)), (0, .ref (46)), (1, .int (5)), (2, .int (1)), (3, .int (x)), (4, .int (nI (e)))]) dX8_runFrom_75 1 rfl rfl (by decide) rfl ?_
  refine xr_goto (tgt := 6) dX8_runFrom_78 rfl ?_
  refine xr_iload dX8_runFrom_6 0 rfl ?_
  refine xr_bipush (v := 8) dX8_runFrom_8 rfl ?_
  refine xr_icmp_ge (tgt := 81) dX8_runFrom_10 rfl (fun c => absurd c (by decide)) (fun _ => ?_)
  refine xr_iload dX8_runFrom_13 1 rfl ?_
  refine xb_cN (As := [.int (3)]) (rest := []) mlX8_26 (c_X9_isKind 3) dX8_runFrom_15 rfl rfl (Nat.le_of_ble_eq_true rfl) (by decide) (by decide) ?_
  refine xb_beq (tgt := 81) dX8_runFrom_18 rfl (fun c => absurd (by decide) c) (fun _ => ?_)
  refine xr_getsO slX8_50 dX8_runFrom_21 ?_
  refine xr_iload dX8_runFrom_24 1 rfl ?_
  refine xr_iconst (v := 4) dX8_runFrom_26 rfl ?_
  refine xr_imul dX8_runFrom_27 ?_
  refine xb_top (y := 12) (by decide) ?_
  refine xr_iload_n dX8_runFrom_28 4 rfl ?_
  refine xr_iadd dX8_runFrom_29 ?_
  refine xb_top (y := 13) (by decide) ?_
  refine xr_tabO (by unfold vp_in; decide) dX8_runFrom_30 ?_
  refine xb_top (y := 41) (by decide) ?_
  refine xr_if_eq (tgt := 67) dX8_runFrom_31 rfl (fun c => absurd c (by decide)) (fun _ => ?_)
  refine xr_iload dX8_runFrom_34 6 rfl ?_
  refine xr_bipush (v := 30) dX8_runFrom_36 rfl ?_
  refine xr_icmp_ge (tgt := 65) dX8_runFrom_38 rfl (fun c => absurd c (nI_ge (a := e) (b := 30) (by omega) (by omega))) (fun _ => ?_)
  refine xr_aload_n dX8_runFrom_41 2 rfl ?_
  refine xr_getsO slX8_50 dX8_runFrom_42 ?_
  refine xr_iload dX8_runFrom_45 1 rfl ?_
  refine xr_iconst (v := 4) dX8_runFrom_47 rfl ?_
  refine xr_imul dX8_runFrom_48 ?_
  refine xb_top (y := 12) (by decide) ?_
  refine xr_iload_n dX8_runFrom_49 4 rfl ?_
  refine xr_iadd dX8_runFrom_50 ?_
  refine xb_top (y := 13) (by decide) ?_
  refine xr_tabO (by unfold vp_in; decide) dX8_runFrom_51 ?_
  refine xb_top (y := 41) (by decide) ?_
  refine xr_iload dX8_runFrom_52 1 rfl ?_
  refine xr_iload_n dX8_runFrom_54 5 rfl ?_
  refine xr_iload dX8_runFrom_55 6 rfl ?_
  refine xr_iconst (v := 1) dX8_runFrom_57 rfl ?_
  refine xr_iadd dX8_runFrom_58 ?_
  refine xb_top (y := nI (e + 1)) (nI_add (e) (1)) ?_
  refine xr_callV (As := [.int (41), .int (3), .int (x), .int (nI (e + 1))]) (rest := []) mlX8_53 (tv5_run_41_3 (e := e + 1) (ac := ac) x (by omega) (by omega) e_b (by omega) e_ra hac e_ac e_k) dX8_runFrom_59 s_46 rfl rfl (Nat.le_of_ble_eq_true rfl) (by decide) ⟨by decide, by decide⟩ (fun v s2 M6 J2 hq => ?_)
  obtain ⟨r8, rfl, rfl, rfl, k7, ⟨hr4, hx3, ht5⟩⟩ := hq
  try dsimp only [Option.toList, List.cons_append, List.nil_append]
  subst hr4
  refine xr_goto (tgt := 66) dX8_runFrom_62 rfl ?_
  exact xr_iret dX8_runFrom_66 rfl rfl (⟨_, rfl, rfl, rfl, (Ke.tr (fun _ _ h => h) Ke.rf k7), rfl, hx3, ht5⟩)
set_option maxRecDepth 100000 in
set_option maxHeartbeats 4000000 in
theorem tv5_own_1 {e ac : Nat} (x : Int32) (he : e + 4 ≤ 30) {l : Launch} {G : xG} {M : xM} {J : xJ} {b ra : Nat} (h_b : b ≤ 50) (e_b : M 46 2 = nI b) (h_ra : ra + 4 ≤ 900) (e_ra : M 46 3 = nI ra) (hac : ac < b) (e_ac : M 46 4 = nI ac) (e_k : M 47 ac = 5) : x_M l G fX8_own 12 0 0 [.ref (46), .int (1), .int (x), .int (nI (e))] x_SH M J (qKI WTN M J (fun r M2 => r = (-(((x + 1) + (nI (ac))) * 2)) ∧ M2 46 3 = nI (ra + 4) ∧ TrA 48 ra [41, 30, 10, 1] M M2)) := by
  refine xb_of pX8 (Nat.le_of_ble_eq_true rfl) rfl ?_
  refine xr_aload_n dX8_own_0 0 rfl ?_
  refine xr_aload_n dX8_own_1 0 rfl ?_
  refine xb_get (v := nI (ac)) flX8_36 dX8_own_2 s_46 rfl e_ac ?_
  refine xb_cV (As := [.int (nI (ac))]) (rest := []) mlX8_43 (c_X8_has (nI (ac)) (by omega) e_b) dX8_own_5 s_46 rfl rfl (Nat.le_of_ble_eq_true rfl) (by decide) (by decide) ?_
  refine xb_beq (tgt := 30) dX8_own_8 rfl (fun c => absurd ⟨nI_pos' (by omega), nI_lt (by omega) (by omega)⟩ c) (fun _ => ?_)
  refine xr_aload_n dX8_own_11 0 rfl ?_
  refine xr_aload_n dX8_own_12 0 rfl ?_
  refine xr_getR flX8_9 dX8_own_13 s_46 rfl ?_
  refine xr_aload_n dX8_own_16 0 rfl ?_
  refine xb_get (v := nI (ac)) flX8_36 dX8_own_17 s_46 rfl e_ac ?_
  refine xb_iald (j := ac) (v := 5) dX8_own_20 s_47 (by omega) (by decide) e_k ?_
  refine xr_iload_n dX8_own_21 1 rfl ?_
  refine xr_iload_n dX8_own_22 2 rfl ?_
  refine xr_iload_n dX8_own_23 3 rfl ?_
  refine xr_callV (As := [.int (5), .int (1), .int (x), .int (nI (e))]) (rest := []) mlX8_46 (tv5_runFrom_5_1 (e := e) (ac := ac) x (by omega) (by omega) e_b (by omega) e_ra hac e_ac e_k) dX8_own_24 s_46 rfl rfl (Nat.le_of_ble_eq_true rfl) (by decide) ⟨by decide, by decide⟩ (fun v s2 M5 J2 hq => ?_)
  obtain ⟨r7, rfl, rfl, rfl, k6, ⟨hr3, hx2, ht4⟩⟩ := hq
  try dsimp only [Option.toList, List.cons_append, List.nil_append]
  subst hr3
  refine xr_goto (tgt := 31) dX8_own_27 rfl ?_
  exact xr_iret dX8_own_31 rfl rfl (⟨_, rfl, rfl, rfl, (Ke.tr (fun _ _ h => h) Ke.rf k6), rfl, hx2, ht4⟩)
set_option maxRecDepth 100000 in
set_option maxHeartbeats 4000000 in
theorem tw5_1 {ac b : Nat} (x : Int32) {l : Launch} {G : xG} {M : xM} {J : xJ} (h_b : b ≤ 50) (e_b : M 46 2 = nI b) (hac : ac < b) (e_k : M 47 ac = 5) : x_M l G fX8_perform 13 0 0 [.ref (46), .int (nI (ac)), .int (1), .int (x)] x_SH M J (qKI WTR M J (fun r M2 => M2 46 3 = nI 4 ∧ TrF 48 [41, 30, 10, 1] M2)) := by
  refine xb_of pX8 (Nat.le_of_ble_eq_true rfl) rfl ?_
  refine xr_aload_n dX8_perform_0 0 rfl ?_
  refine xr_iconst (v := 0) dX8_perform_1 rfl ?_
  refine xr_putI fpX8_33 dX8_perform_2 s_46 rfl rfl rfl ?_
  refine xr_aload_n dX8_perform_5 0 rfl ?_
  refine xr_iload_n dX8_perform_6 1 rfl ?_
  refine xr_putI fpX8_36 dX8_perform_7 s_46 rfl rfl rfl ?_
  refine xr_aload_n dX8_perform_10 0 rfl ?_
  refine xr_iload_n dX8_perform_11 2 rfl ?_
  refine xr_iload_n dX8_perform_12 3 rfl ?_
  refine xr_iconst (v := 0) dX8_perform_13 rfl ?_
  refine xr_callV (As := [.int (1), .int (x), .int (0)]) (rest := []) mlX8_39 (tv5_own_1 (e := 0) (ac := ac) (ra := 0) x (by omega) h_b (Eq.trans (x_up_k _ _ _ (by decide)) (Eq.trans (x_up_k _ _ _ (by decide)) e_b)) (by omega) (Eq.trans (x_up_k _ _ _ (by decide)) (x_up_s _ _ _ _)) hac (x_up_s _ _ _ _) (Eq.trans (congrFun (x_up_n _ _ _ (by decide)) _) (Eq.trans (congrFun (x_up_n _ _ _ (by decide)) _) e_k))) dX8_perform_14 s_46 rfl rfl (Nat.le_of_ble_eq_true rfl) (by decide) ⟨by decide, by decide⟩ (fun v s2 M4 J2 hq => ?_)
  obtain ⟨r6, rfl, rfl, rfl, k5, ⟨hr2, hx1, ht3⟩⟩ := hq
  try dsimp only [Option.toList, List.cons_append, List.nil_append]
  subst hr2
  exact xr_iret dX8_perform_17 rfl rfl (⟨_, rfl, rfl, rfl, (Ke.tr (fun pp kk => (fun hh => Or.elim hh (fun h => (Or.inl h)) (fun h => (Or.inr (Or.inr h))))) (Ke.up (Or.inr (Or.inl (by omega))) (Ke.up (Or.inl (by omega)) Ke.rf)) k5), ⟨(hx1.trans (congrArg nI (Nat.zero_add _))), TrA_F ht3⟩⟩)
set_option maxRecDepth 100000 in
set_option maxHeartbeats 4000000 in
theorem tv5_run_11_0 {e ac : Nat} (x : Int32) (he : e + 0 ≤ 30) {l : Launch} {G : xG} {M : xM} {J : xJ} {b ra : Nat} (h_b : b ≤ 50) (e_b : M 46 2 = nI b) (h_ra : ra + 1 ≤ 900) (e_ra : M 46 3 = nI ra) (hac : ac < b) (e_ac : M 46 4 = nI ac) (e_k : M 47 ac = 5) : x_M l G fX8_run 1 0 0 [.ref (46), .int (11), .int (0), .int (x), .int (nI (e))] x_SH M J (qKI WTN M J (fun r M2 => r = (x ^^^ (nI (ac))) ∧ M2 46 3 = nI (ra + 1) ∧ TrA 48 ra [11] M M2)) := by
  refine xb_of pX8 (Nat.le_of_ble_eq_true rfl) rfl ?_
  refine xr_aload_n dX8_run_0 0 rfl ?_
  refine xr_iload_n dX8_run_1 1 rfl ?_
  refine xr_callV (As := [.int (11)]) (rest := []) mlX8_56 (gt_X8_note 11 (by omega) e_ra) dX8_run_2 s_46 rfl rfl (Nat.le_of_ble_eq_true rfl) (by decide) ⟨by decide, by decide⟩ (fun v s2 M3 J2 hq => ?_)
  obtain ⟨rfl, rfl, rfl, k4, ⟨hx1, ht2⟩⟩ := hq
  try dsimp only [Option.toList, List.cons_append, List.nil_append]
  refine xr_iload_n dX8_run_5 1 rfl ?_
  refine xr_lookup (tgt := 156) (off := 150) dX8_run_6 (by decide) (by decide) rfl ?_
  refine xr_iload_n dX8_run_156 3 rfl ?_
  refine xr_aload_n dX8_run_157 0 rfl ?_
  refine xb_get (v := nI (ac)) flX8_36 dX8_run_158 s_46 rfl (Eq.trans (k4 46 4 (by decide)) e_ac) ?_
  refine xr_ixor dX8_run_161 ?_
  exact xr_iret dX8_run_162 rfl rfl (⟨_, rfl, rfl, rfl, (Ke.tr (fun _ _ h => h) Ke.rf k4), rfl, hx1, ht2⟩)
set_option maxRecDepth 100000 in
set_option maxHeartbeats 4000000 in
theorem tv5_runFrom_2_2 {e ac : Nat} (x : Int32) (he : e + 1 ≤ 30) {l : Launch} {G : xG} {M : xM} {J : xJ} {b ra : Nat} (h_b : b ≤ 50) (e_b : M 46 2 = nI b) (h_ra : ra + 1 ≤ 900) (e_ra : M 46 3 = nI ra) (hac : ac < b) (e_ac : M 46 4 = nI ac) (e_k : M 47 ac = 5) : x_M l G fX8_runFrom 2 0 0 [.ref (46), .int (2), .int (2), .int (x), .int (nI (e))] x_SH M J (qKI WTN M J (fun r M2 => r = (x ^^^ (nI (ac))) ∧ M2 46 3 = nI (ra + 1) ∧ TrA 48 ra [11] M M2)) := by
  refine xb_of pX8 (Nat.le_of_ble_eq_true rfl) rfl ?_
  refine xr_iload_n dX8_runFrom_0 1 rfl ?_
  refine xr_istore (ls2 := [(5, .int (2)), (0, .ref (46)), (1, .int (2)), (2, .int (2)), (3, .int (x)), (4, .int (nI (e)))]) dX8_runFrom_1 (by decide) rfl ?_
  refine xr_iconst (v := 0) dX8_runFrom_3 rfl ?_
  refine xr_istore (ls2 := [(6, .int (0)), (5, .int (2)), (0, .ref (46)), (1, .int (2)), (2, .int (2)), (3, .int (x)), (4, .int (nI (e)))]) dX8_runFrom_4 (by decide) rfl ?_
  refine xr_iload dX8_runFrom_6 0 rfl ?_
  refine xr_bipush (v := 8) dX8_runFrom_8 rfl ?_
  refine xr_icmp_ge (tgt := 81) dX8_runFrom_10 rfl (fun c => absurd c (by decide)) (fun _ => ?_)
  refine xr_iload dX8_runFrom_13 1 rfl ?_
  refine xb_cN (As := [.int (2)]) (rest := []) mlX8_26 (c_X9_isKind 2) dX8_runFrom_15 rfl rfl (Nat.le_of_ble_eq_true rfl) (by decide) (by decide) ?_
  refine xb_beq (tgt := 81) dX8_runFrom_18 rfl (fun c => absurd (by decide) c) (fun _ => ?_)
  refine xr_getsO slX8_50 dX8_runFrom_21 ?_
  refine xr_iload dX8_runFrom_24 1 rfl ?_
  refine xr_iconst (v := 4) dX8_runFrom_26 rfl ?_
  refine xr_imul dX8_runFrom_27 ?_
  refine xb_top (y := 8) (by decide) ?_
  refine xr_iload_n dX8_runFrom_28 4 rfl ?_
  refine xr_iadd dX8_runFrom_29 ?_
  refine xb_top (y := 10) (by decide) ?_
  refine xr_tabO (by unfold vp_in; decide) dX8_runFrom_30 ?_
  refine xb_top (y := 0) (by decide) ?_
  refine xr_if_eq (tgt := 67) dX8_runFrom_31 rfl (fun _ => ?_) (fun c => absurd (by decide) c)
  refine xr_getsA slX8_30 dX8_runFrom_67 ?_
  refine xr_iload dX8_runFrom_70 1 rfl ?_
  refine xr_tabA (by unfold vp_in; decide) dX8_runFrom_72 ?_
  refine xb_top (y := 0) (by decide) ?_
  refine xr_istore (ls2 := [(5, .int (0)), (6, .int (0)), (0, .ref (46)), (1, .int (2)), (2, .int (2)), (3, .int (x)), (4, .int (nI (e)))]) dX8_runFrom_73 (by decide) rfl ?_
  refine xr_iinc (v := 1) (ls2 := [(6, .int (1)), (5, .int (0)), (0, .ref (46)), (1, .int (2)), (2, .int (2)), (3, .int (x)), (4, .int (nI (e)))]) dX8_runFrom_75 1 rfl rfl (by decide) rfl ?_
  refine xr_goto (tgt := 6) dX8_runFrom_78 rfl ?_
  refine xr_iload dX8_runFrom_6 0 rfl ?_
  refine xr_bipush (v := 8) dX8_runFrom_8 rfl ?_
  refine xr_icmp_ge (tgt := 81) dX8_runFrom_10 rfl (fun c => absurd c (by decide)) (fun _ => ?_)
  refine xr_iload dX8_runFrom_13 1 rfl ?_
  refine xb_cN (As := [.int (0)]) (rest := []) mlX8_26 (c_X9_isKind 0) dX8_runFrom_15 rfl rfl (Nat.le_of_ble_eq_true rfl) (by decide) (by decide) ?_
  refine xb_beq (tgt := 81) dX8_runFrom_18 rfl (fun c => absurd (by decide) c) (fun _ => ?_)
  refine xr_getsO slX8_50 dX8_runFrom_21 ?_
  refine xr_iload dX8_runFrom_24 1 rfl ?_
  refine xr_iconst (v := 4) dX8_runFrom_26 rfl ?_
  refine xr_imul dX8_runFrom_27 ?_
  refine xb_top (y := 0) (by decide) ?_
  refine xr_iload_n dX8_runFrom_28 4 rfl ?_
  refine xr_iadd dX8_runFrom_29 ?_
  refine xb_top (y := 2) (by decide) ?_
  refine xr_tabO (by unfold vp_in; decide) dX8_runFrom_30 ?_
  refine xb_top (y := 11) (by decide) ?_
  refine xr_if_eq (tgt := 67) dX8_runFrom_31 rfl (fun c => absurd c (by decide)) (fun _ => ?_)
  refine xr_iload dX8_runFrom_34 6 rfl ?_
  refine xr_bipush (v := 30) dX8_runFrom_36 rfl ?_
  refine xr_icmp_ge (tgt := 65) dX8_runFrom_38 rfl (fun c => absurd c (nI_ge (a := e) (b := 30) (by omega) (by omega))) (fun _ => ?_)
  refine xr_aload_n dX8_runFrom_41 2 rfl ?_
  refine xr_getsO slX8_50 dX8_runFrom_42 ?_
  refine xr_iload dX8_runFrom_45 1 rfl ?_
  refine xr_iconst (v := 4) dX8_runFrom_47 rfl ?_
  refine xr_imul dX8_runFrom_48 ?_
  refine xb_top (y := 0) (by decide) ?_
  refine xr_iload_n dX8_runFrom_49 4 rfl ?_
  refine xr_iadd dX8_runFrom_50 ?_
  refine xb_top (y := 2) (by decide) ?_
  refine xr_tabO (by unfold vp_in; decide) dX8_runFrom_51 ?_
  refine xb_top (y := 11) (by decide) ?_
  refine xr_iload dX8_runFrom_52 1 rfl ?_
  refine xr_iload_n dX8_runFrom_54 5 rfl ?_
  refine xr_iload dX8_runFrom_55 6 rfl ?_
  refine xr_iconst (v := 1) dX8_runFrom_57 rfl ?_
  refine xr_iadd dX8_runFrom_58 ?_
  refine xb_top (y := nI (e + 1)) (nI_add (e) (1)) ?_
  refine xr_callV (As := [.int (11), .int (0), .int (x), .int (nI (e + 1))]) (rest := []) mlX8_53 (tv5_run_11_0 (e := e + 1) (ac := ac) x (by omega) (by omega) e_b (by omega) e_ra hac e_ac e_k) dX8_runFrom_59 s_46 rfl rfl (Nat.le_of_ble_eq_true rfl) (by decide) ⟨by decide, by decide⟩ (fun v s2 M6 J2 hq => ?_)
  obtain ⟨r8, rfl, rfl, rfl, k7, ⟨hr4, hx3, ht5⟩⟩ := hq
  try dsimp only [Option.toList, List.cons_append, List.nil_append]
  subst hr4
  refine xr_goto (tgt := 66) dX8_runFrom_62 rfl ?_
  exact xr_iret dX8_runFrom_66 rfl rfl (⟨_, rfl, rfl, rfl, (Ke.tr (fun _ _ h => h) Ke.rf k7), rfl, hx3, ht5⟩)
set_option maxRecDepth 100000 in
set_option maxHeartbeats 4000000 in
theorem tv5_above_3_2 {e ac : Nat} (x : Int32) (he : e + 1 ≤ 30) {l : Launch} {G : xG} {M : xM} {J : xJ} {b ra : Nat} (h_b : b ≤ 50) (e_b : M 46 2 = nI b) (h_ra : ra + 1 ≤ 900) (e_ra : M 46 3 = nI ra) (hac : ac < b) (e_ac : M 46 4 = nI ac) (e_k : M 47 ac = 5) : x_M l G fX8_above 3 0 0 [.ref (46), .int (3), .int (2), .int (x), .int (nI (e))] x_SH M J (qKI WTN M J (fun r M2 => r = (x ^^^ (nI (ac))) ∧ M2 46 3 = nI (ra + 1) ∧ TrA 48 ra [11] M M2)) := by
  refine xb_of pX8 (Nat.le_of_ble_eq_true rfl) rfl ?_
  refine xr_iload_n dX8_above_0 1 rfl ?_
  refine xb_cN (As := [.int (3)]) (rest := []) mlX8_26 (c_X9_isKind 3) dX8_above_1 rfl rfl (Nat.le_of_ble_eq_true rfl) (by decide) (by decide) ?_
  refine xb_beq (tgt := 23) dX8_above_4 rfl (fun c => absurd (by decide) c) (fun _ => ?_)
  refine xr_aload_n dX8_above_7 0 rfl ?_
  refine xr_getsA slX8_30 dX8_above_8 ?_
  refine xr_iload_n dX8_above_11 1 rfl ?_
  refine xr_tabA (by unfold vp_in; decide) dX8_above_12 ?_
  refine xb_top (y := 2) (by decide) ?_
  refine xr_iload_n dX8_above_13 2 rfl ?_
  refine xr_iload_n dX8_above_14 3 rfl ?_
  refine xr_iload dX8_above_15 4 rfl ?_
  refine xr_callV (As := [.int (2), .int (2), .int (x), .int (nI (e))]) (rest := []) mlX8_46 (tv5_runFrom_2_2 (e := e) (ac := ac) x (by omega) (by omega) e_b (by omega) e_ra hac e_ac e_k) dX8_above_17 s_46 rfl rfl (Nat.le_of_ble_eq_true rfl) (by decide) ⟨by decide, by decide⟩ (fun v s2 M5 J2 hq => ?_)
  obtain ⟨r7, rfl, rfl, rfl, k6, ⟨hr3, hx2, ht4⟩⟩ := hq
  try dsimp only [Option.toList, List.cons_append, List.nil_append]
  subst hr3
  refine xr_goto (tgt := 24) dX8_above_20 rfl ?_
  exact xr_iret dX8_above_24 rfl rfl (⟨_, rfl, rfl, rfl, (Ke.tr (fun _ _ h => h) Ke.rf k6), rfl, hx2, ht4⟩)
set_option maxRecDepth 100000 in
set_option maxHeartbeats 4000000 in
theorem tv5_run_40_3 {e ac : Nat} (x : Int32) (he : e + 1 ≤ 30) {l : Launch} {G : xG} {M : xM} {J : xJ} {b ra : Nat} (h_b : b ≤ 50) (e_b : M 46 2 = nI b) (h_ra : ra + 2 ≤ 900) (e_ra : M 46 3 = nI ra) (hac : ac < b) (e_ac : M 46 4 = nI ac) (e_k : M 47 ac = 5) : x_M l G fX8_run 4 0 0 [.ref (46), .int (40), .int (3), .int (x), .int (nI (e))] x_SH M J (qKI WTN M J (fun r M2 => r = ((x ^^^ (nI (ac))) * 3) ∧ M2 46 3 = nI (ra + 2) ∧ TrA 48 ra [40, 11] M M2)) := by
  refine xb_of pX8 (Nat.le_of_ble_eq_true rfl) rfl ?_
  refine xr_aload_n dX8_run_0 0 rfl ?_
  refine xr_iload_n dX8_run_1 1 rfl ?_
  refine xr_callV (As := [.int (40)]) (rest := []) mlX8_56 (gt_X8_note 40 (by omega) e_ra) dX8_run_2 s_46 rfl rfl (Nat.le_of_ble_eq_true rfl) (by decide) ⟨by decide, by decide⟩ (fun v s2 M3 J2 hq => ?_)
  obtain ⟨rfl, rfl, rfl, k4, ⟨hx1, ht2⟩⟩ := hq
  try dsimp only [Option.toList, List.cons_append, List.nil_append]
  refine xr_iload_n dX8_run_5 1 rfl ?_
  refine xr_lookup (tgt := 186) (off := 180) dX8_run_6 (by decide) (by decide) rfl ?_
  refine xr_aload_n dX8_run_186 0 rfl ?_
  refine xr_iload_n dX8_run_187 2 rfl ?_
  refine xr_iconst (v := 2) dX8_run_188 rfl ?_
  refine xr_iload_n dX8_run_189 3 rfl ?_
  refine xr_iload dX8_run_190 4 rfl ?_
  refine xr_callV (As := [.int (3), .int (2), .int (x), .int (nI (e))]) (rest := []) mlX8_60 (tv5_above_3_2 (e := e) (ac := ac) x (by omega) (by omega) (Eq.trans (k4 46 2 (by decide)) e_b) (by omega) hx1 hac (Eq.trans (k4 46 4 (by decide)) e_ac) (Eq.trans (k4 47 ac (by unfold WTN; omega)) e_k)) dX8_run_192 s_46 rfl rfl (Nat.le_of_ble_eq_true rfl) (by decide) ⟨by decide, by decide⟩ (fun v s2 M8 J2 hq => ?_)
  obtain ⟨r10, rfl, rfl, rfl, k9, ⟨hr6, hx5, ht7⟩⟩ := hq
  try dsimp only [Option.toList, List.cons_append, List.nil_append]
  subst hr6
  refine xr_iconst (v := 3) dX8_run_195 rfl ?_
  refine xr_imul dX8_run_196 ?_
  exact xr_iret dX8_run_197 rfl rfl (⟨_, rfl, rfl, rfl, (Ke.tr (fun _ _ h => h) (Ke.tr (fun _ _ h => h) Ke.rf k4) k9), rfl, hx5, (TrA_app (l := [40]) (m := [11]) ht2 ht7)⟩)
set_option maxRecDepth 100000 in
set_option maxHeartbeats 4000000 in
theorem tv5_runFrom_5_2 {e ac : Nat} (x : Int32) (he : e + 2 ≤ 30) {l : Launch} {G : xG} {M : xM} {J : xJ} {b ra : Nat} (h_b : b ≤ 50) (e_b : M 46 2 = nI b) (h_ra : ra + 2 ≤ 900) (e_ra : M 46 3 = nI ra) (hac : ac < b) (e_ac : M 46 4 = nI ac) (e_k : M 47 ac = 5) : x_M l G fX8_runFrom 5 0 0 [.ref (46), .int (5), .int (2), .int (x), .int (nI (e))] x_SH M J (qKI WTN M J (fun r M2 => r = ((x ^^^ (nI (ac))) * 3) ∧ M2 46 3 = nI (ra + 2) ∧ TrA 48 ra [40, 11] M M2)) := by
  refine xb_of pX8 (Nat.le_of_ble_eq_true rfl) rfl ?_
  refine xr_iload_n dX8_runFrom_0 1 rfl ?_
  refine xr_istore (ls2 := [(5, .int (5)), (0, .ref (46)), (1, .int (5)), (2, .int (2)), (3, .int (x)), (4, .int (nI (e)))]) dX8_runFrom_1 (by decide) rfl ?_
  refine xr_iconst (v := 0) dX8_runFrom_3 rfl ?_
  refine xr_istore (ls2 := [(6, .int (0)), (5, .int (5)), (0, .ref (46)), (1, .int (5)), (2, .int (2)), (3, .int (x)), (4, .int (nI (e)))]) dX8_runFrom_4 (by decide) rfl ?_
  refine xr_iload dX8_runFrom_6 0 rfl ?_
  refine xr_bipush (v := 8) dX8_runFrom_8 rfl ?_
  refine xr_icmp_ge (tgt := 81) dX8_runFrom_10 rfl (fun c => absurd c (by decide)) (fun _ => ?_)
  refine xr_iload dX8_runFrom_13 1 rfl ?_
  refine xb_cN (As := [.int (5)]) (rest := []) mlX8_26 (c_X9_isKind 5) dX8_runFrom_15 rfl rfl (Nat.le_of_ble_eq_true rfl) (by decide) (by decide) ?_
  refine xb_beq (tgt := 81) dX8_runFrom_18 rfl (fun c => absurd (by decide) c) (fun _ => ?_)
  refine xr_getsO slX8_50 dX8_runFrom_21 ?_
  refine xr_iload dX8_runFrom_24 1 rfl ?_
  refine xr_iconst (v := 4) dX8_runFrom_26 rfl ?_
  refine xr_imul dX8_runFrom_27 ?_
  refine xb_top (y := 20) (by decide) ?_
  refine xr_iload_n dX8_runFrom_28 4 rfl ?_
  refine xr_iadd dX8_runFrom_29 ?_
  refine xb_top (y := 22) (by decide) ?_
  refine xr_tabO (by unfold vp_in; decide) dX8_runFrom_30 ?_
  refine xb_top (y := 0) (by decide) ?_
  refine xr_if_eq (tgt := 67) dX8_runFrom_31 rfl (fun _ => ?_) (fun c => absurd (by decide) c)
  refine xr_getsA slX8_30 dX8_runFrom_67 ?_
  refine xr_iload dX8_runFrom_70 1 rfl ?_
  refine xr_tabA (by unfold vp_in; decide) dX8_runFrom_72 ?_
  refine xb_top (y := 3) (by decide) ?_
  refine xr_istore (ls2 := [(5, .int (3)), (6, .int (0)), (0, .ref (46)), (1, .int (5)), (2, .int (2)), (3, .int (x)), (4, .int (nI (e)))]) dX8_runFrom_73 (by decide) rfl ?_
  refine xr_iinc (v := 1) (ls2 := [(6, .int (1)), (5, .int (3)), (0, .ref (46)), (1, .int (5)), (2, .int (2)), (3, .int (x)), (4, .int (nI (e)))]) dX8_runFrom_75 1 rfl rfl (by decide) rfl ?_
  refine xr_goto (tgt := 6) dX8_runFrom_78 rfl ?_
  refine xr_iload dX8_runFrom_6 0 rfl ?_
  refine xr_bipush (v := 8) dX8_runFrom_8 rfl ?_
  refine xr_icmp_ge (tgt := 81) dX8_runFrom_10 rfl (fun c => absurd c (by decide)) (fun _ => ?_)
  refine xr_iload dX8_runFrom_13 1 rfl ?_
  refine xb_cN (As := [.int (3)]) (rest := []) mlX8_26 (c_X9_isKind 3) dX8_runFrom_15 rfl rfl (Nat.le_of_ble_eq_true rfl) (by decide) (by decide) ?_
  refine xb_beq (tgt := 81) dX8_runFrom_18 rfl (fun c => absurd (by decide) c) (fun _ => ?_)
  refine xr_getsO slX8_50 dX8_runFrom_21 ?_
  refine xr_iload dX8_runFrom_24 1 rfl ?_
  refine xr_iconst (v := 4) dX8_runFrom_26 rfl ?_
  refine xr_imul dX8_runFrom_27 ?_
  refine xb_top (y := 12) (by decide) ?_
  refine xr_iload_n dX8_runFrom_28 4 rfl ?_
  refine xr_iadd dX8_runFrom_29 ?_
  refine xb_top (y := 14) (by decide) ?_
  refine xr_tabO (by unfold vp_in; decide) dX8_runFrom_30 ?_
  refine xb_top (y := 40) (by decide) ?_
  refine xr_if_eq (tgt := 67) dX8_runFrom_31 rfl (fun c => absurd c (by decide)) (fun _ => ?_)
  refine xr_iload dX8_runFrom_34 6 rfl ?_
  refine xr_bipush (v := 30) dX8_runFrom_36 rfl ?_
  refine xr_icmp_ge (tgt := 65) dX8_runFrom_38 rfl (fun c => absurd c (nI_ge (a := e) (b := 30) (by omega) (by omega))) (fun _ => ?_)
  refine xr_aload_n dX8_runFrom_41 2 rfl ?_
  refine xr_getsO slX8_50 dX8_runFrom_42 ?_
  refine xr_iload dX8_runFrom_45 1 rfl ?_
  refine xr_iconst (v := 4) dX8_runFrom_47 rfl ?_
  refine xr_imul dX8_runFrom_48 ?_
  refine xb_top (y := 12) (by decide) ?_
  refine xr_iload_n dX8_runFrom_49 4 rfl ?_
  refine xr_iadd dX8_runFrom_50 ?_
  refine xb_top (y := 14) (by decide) ?_
  refine xr_tabO (by unfold vp_in; decide) dX8_runFrom_51 ?_
  refine xb_top (y := 40) (by decide) ?_
  refine xr_iload dX8_runFrom_52 1 rfl ?_
  refine xr_iload_n dX8_runFrom_54 5 rfl ?_
  refine xr_iload dX8_runFrom_55 6 rfl ?_
  refine xr_iconst (v := 1) dX8_runFrom_57 rfl ?_
  refine xr_iadd dX8_runFrom_58 ?_
  refine xb_top (y := nI (e + 1)) (nI_add (e) (1)) ?_
  refine xr_callV (As := [.int (40), .int (3), .int (x), .int (nI (e + 1))]) (rest := []) mlX8_53 (tv5_run_40_3 (e := e + 1) (ac := ac) x (by omega) (by omega) e_b (by omega) e_ra hac e_ac e_k) dX8_runFrom_59 s_46 rfl rfl (Nat.le_of_ble_eq_true rfl) (by decide) ⟨by decide, by decide⟩ (fun v s2 M6 J2 hq => ?_)
  obtain ⟨r8, rfl, rfl, rfl, k7, ⟨hr4, hx3, ht5⟩⟩ := hq
  try dsimp only [Option.toList, List.cons_append, List.nil_append]
  subst hr4
  refine xr_goto (tgt := 66) dX8_runFrom_62 rfl ?_
  exact xr_iret dX8_runFrom_66 rfl rfl (⟨_, rfl, rfl, rfl, (Ke.tr (fun _ _ h => h) Ke.rf k7), rfl, hx3, ht5⟩)
set_option maxRecDepth 100000 in
set_option maxHeartbeats 4000000 in
theorem tv5_own_2 {e ac : Nat} (x : Int32) (he : e + 2 ≤ 30) {l : Launch} {G : xG} {M : xM} {J : xJ} {b ra : Nat} (h_b : b ≤ 50) (e_b : M 46 2 = nI b) (h_ra : ra + 2 ≤ 900) (e_ra : M 46 3 = nI ra) (hac : ac < b) (e_ac : M 46 4 = nI ac) (e_k : M 47 ac = 5) : x_M l G fX8_own 6 0 0 [.ref (46), .int (2), .int (x), .int (nI (e))] x_SH M J (qKI WTN M J (fun r M2 => r = ((x ^^^ (nI (ac))) * 3) ∧ M2 46 3 = nI (ra + 2) ∧ TrA 48 ra [40, 11] M M2)) := by
  refine xb_of pX8 (Nat.le_of_ble_eq_true rfl) rfl ?_
  refine xr_aload_n dX8_own_0 0 rfl ?_
  refine xr_aload_n dX8_own_1 0 rfl ?_
  refine xb_get (v := nI (ac)) flX8_36 dX8_own_2 s_46 rfl e_ac ?_
  refine xb_cV (As := [.int (nI (ac))]) (rest := []) mlX8_43 (c_X8_has (nI (ac)) (by omega) e_b) dX8_own_5 s_46 rfl rfl (Nat.le_of_ble_eq_true rfl) (by decide) (by decide) ?_
  refine xb_beq (tgt := 30) dX8_own_8 rfl (fun c => absurd ⟨nI_pos' (by omega), nI_lt (by omega) (by omega)⟩ c) (fun _ => ?_)
  refine xr_aload_n dX8_own_11 0 rfl ?_
  refine xr_aload_n dX8_own_12 0 rfl ?_
  refine xr_getR flX8_9 dX8_own_13 s_46 rfl ?_
  refine xr_aload_n dX8_own_16 0 rfl ?_
  refine xb_get (v := nI (ac)) flX8_36 dX8_own_17 s_46 rfl e_ac ?_
  refine xb_iald (j := ac) (v := 5) dX8_own_20 s_47 (by omega) (by decide) e_k ?_
  refine xr_iload_n dX8_own_21 1 rfl ?_
  refine xr_iload_n dX8_own_22 2 rfl ?_
  refine xr_iload_n dX8_own_23 3 rfl ?_
  refine xr_callV (As := [.int (5), .int (2), .int (x), .int (nI (e))]) (rest := []) mlX8_46 (tv5_runFrom_5_2 (e := e) (ac := ac) x (by omega) (by omega) e_b (by omega) e_ra hac e_ac e_k) dX8_own_24 s_46 rfl rfl (Nat.le_of_ble_eq_true rfl) (by decide) ⟨by decide, by decide⟩ (fun v s2 M5 J2 hq => ?_)
  obtain ⟨r7, rfl, rfl, rfl, k6, ⟨hr3, hx2, ht4⟩⟩ := hq
  try dsimp only [Option.toList, List.cons_append, List.nil_append]
  subst hr3
  refine xr_goto (tgt := 31) dX8_own_27 rfl ?_
  exact xr_iret dX8_own_31 rfl rfl (⟨_, rfl, rfl, rfl, (Ke.tr (fun _ _ h => h) Ke.rf k6), rfl, hx2, ht4⟩)
set_option maxRecDepth 100000 in
set_option maxHeartbeats 4000000 in
theorem tw5_2 {ac b : Nat} (x : Int32) {l : Launch} {G : xG} {M : xM} {J : xJ} (h_b : b ≤ 50) (e_b : M 46 2 = nI b) (hac : ac < b) (e_k : M 47 ac = 5) : x_M l G fX8_perform 7 0 0 [.ref (46), .int (nI (ac)), .int (2), .int (x)] x_SH M J (qKI WTR M J (fun r M2 => M2 46 3 = nI 2 ∧ TrF 48 [40, 11] M2)) := by
  refine xb_of pX8 (Nat.le_of_ble_eq_true rfl) rfl ?_
  refine xr_aload_n dX8_perform_0 0 rfl ?_
  refine xr_iconst (v := 0) dX8_perform_1 rfl ?_
  refine xr_putI fpX8_33 dX8_perform_2 s_46 rfl rfl rfl ?_
  refine xr_aload_n dX8_perform_5 0 rfl ?_
  refine xr_iload_n dX8_perform_6 1 rfl ?_
  refine xr_putI fpX8_36 dX8_perform_7 s_46 rfl rfl rfl ?_
  refine xr_aload_n dX8_perform_10 0 rfl ?_
  refine xr_iload_n dX8_perform_11 2 rfl ?_
  refine xr_iload_n dX8_perform_12 3 rfl ?_
  refine xr_iconst (v := 0) dX8_perform_13 rfl ?_
  refine xr_callV (As := [.int (2), .int (x), .int (0)]) (rest := []) mlX8_39 (tv5_own_2 (e := 0) (ac := ac) (ra := 0) x (by omega) h_b (Eq.trans (x_up_k _ _ _ (by decide)) (Eq.trans (x_up_k _ _ _ (by decide)) e_b)) (by omega) (Eq.trans (x_up_k _ _ _ (by decide)) (x_up_s _ _ _ _)) hac (x_up_s _ _ _ _) (Eq.trans (congrFun (x_up_n _ _ _ (by decide)) _) (Eq.trans (congrFun (x_up_n _ _ _ (by decide)) _) e_k))) dX8_perform_14 s_46 rfl rfl (Nat.le_of_ble_eq_true rfl) (by decide) ⟨by decide, by decide⟩ (fun v s2 M4 J2 hq => ?_)
  obtain ⟨r6, rfl, rfl, rfl, k5, ⟨hr2, hx1, ht3⟩⟩ := hq
  try dsimp only [Option.toList, List.cons_append, List.nil_append]
  subst hr2
  exact xr_iret dX8_perform_17 rfl rfl (⟨_, rfl, rfl, rfl, (Ke.tr (fun pp kk => (fun hh => Or.elim hh (fun h => (Or.inl h)) (fun h => (Or.inr (Or.inr h))))) (Ke.up (Or.inr (Or.inl (by omega))) (Ke.up (Or.inl (by omega)) Ke.rf)) k5), ⟨(hx1.trans (congrArg nI (Nat.zero_add _))), TrA_F ht3⟩⟩)
set_option maxRecDepth 100000 in
set_option maxHeartbeats 4000000 in
theorem tv5_run_2_0 {e ac : Nat} (x : Int32) (he : e + 4 ≤ 30) {l : Launch} {G : xG} {M : xM} {J : xJ} {b ra : Nat} (h_b : b ≤ 50) (e_b : M 46 2 = nI b) (h_ra : ra + 7 ≤ 900) (e_ra : M 46 3 = nI ra) (hac : ac < b) (e_ac : M 46 4 = nI ac) (e_k : M 47 ac = 5) : x_M l G fX8_run 13 0 0 [.ref (46), .int (2), .int (0), .int (x), .int (nI (e))] x_SH M J (qKI WTN M J (fun r M2 => r = ((-(((x + 1) + (nI (ac))) * 2)) - ((1 ^^^ (nI (ac))) * 3)) ∧ M2 46 3 = nI (ra + 7) ∧ TrA 48 ra [2, 41, 30, 10, 1, 40, 11] M M2)) := by
  refine xb_of pX8 (Nat.le_of_ble_eq_true rfl) rfl ?_
  refine xr_aload_n dX8_run_0 0 rfl ?_
  refine xr_iload_n dX8_run_1 1 rfl ?_
  refine xr_callV (As := [.int (2)]) (rest := []) mlX8_56 (gt_X8_note 2 (by omega) e_ra) dX8_run_2 s_46 rfl rfl (Nat.le_of_ble_eq_true rfl) (by decide) ⟨by decide, by decide⟩ (fun v s2 M3 J2 hq => ?_)
  obtain ⟨rfl, rfl, rfl, k4, ⟨hx1, ht2⟩⟩ := hq
  try dsimp only [Option.toList, List.cons_append, List.nil_append]
  refine xr_iload_n dX8_run_5 1 rfl ?_
  refine xr_lookup (tgt := 127) (off := 121) dX8_run_6 (by decide) (by decide) rfl ?_
  refine xr_aload_n dX8_run_127 0 rfl ?_
  refine xr_iconst (v := 1) dX8_run_128 rfl ?_
  refine xr_iload_n dX8_run_129 3 rfl ?_
  refine xr_iload dX8_run_130 4 rfl ?_
  refine xr_callV (As := [.int (1), .int (x), .int (nI (e))]) (rest := []) mlX8_39 (tv5_own_1 (e := e) (ac := ac) x (by omega) (by omega) (Eq.trans (k4 46 2 (by decide)) e_b) (by omega) hx1 hac (Eq.trans (k4 46 4 (by decide)) e_ac) (Eq.trans (k4 47 ac (by unfold WTN; omega)) e_k)) dX8_run_132 s_46 rfl rfl (Nat.le_of_ble_eq_true rfl) (by decide) ⟨by decide, by decide⟩ (fun v s2 M8 J2 hq => ?_)
  obtain ⟨r10, rfl, rfl, rfl, k9, ⟨hr6, hx5, ht7⟩⟩ := hq
  try dsimp only [Option.toList, List.cons_append, List.nil_append]
  subst hr6
  refine xr_aload_n dX8_run_135 0 rfl ?_
  refine xr_iconst (v := 2) dX8_run_136 rfl ?_
  refine xr_iconst (v := 1) dX8_run_137 rfl ?_
  refine xr_iload dX8_run_138 4 rfl ?_
  refine xr_callV (As := [.int (2), .int (1), .int (nI (e))]) (rest := [.int ((-(((x + 1) + (nI (ac))) * 2)))]) mlX8_39 (tv5_own_2 (e := e) (ac := ac) 1 (by omega) (by omega) (Eq.trans (k9 46 2 (by decide)) (Eq.trans (k4 46 2 (by decide)) e_b)) (by omega) hx5 hac (Eq.trans (k9 46 4 (by decide)) (Eq.trans (k4 46 4 (by decide)) e_ac)) (Eq.trans (k9 47 ac (by unfold WTN; omega)) (Eq.trans (k4 47 ac (by unfold WTN; omega)) e_k))) dX8_run_140 s_46 rfl rfl (Nat.le_of_ble_eq_true rfl) (by decide) ⟨by decide, by decide⟩ (fun v s2 M14 J2 hq => ?_)
  obtain ⟨r16, rfl, rfl, rfl, k15, ⟨hr12, hx11, ht13⟩⟩ := hq
  try dsimp only [Option.toList, List.cons_append, List.nil_append]
  subst hr12
  refine xr_isub dX8_run_143 ?_
  exact xr_iret dX8_run_144 rfl rfl (⟨_, rfl, rfl, rfl, (Ke.tr (fun _ _ h => h) (Ke.tr (fun _ _ h => h) (Ke.tr (fun _ _ h => h) Ke.rf k4) k9) k15), rfl, hx11, (TrA_app (l := [2, 41, 30, 10, 1]) (m := [40, 11]) (TrA_app (l := [2]) (m := [41, 30, 10, 1]) ht2 ht7) ht13)⟩)
set_option maxRecDepth 100000 in
set_option maxHeartbeats 4000000 in
theorem tv5_runFrom_3_3 {e ac : Nat} (x : Int32) (he : e + 5 ≤ 30) {l : Launch} {G : xG} {M : xM} {J : xJ} {b ra : Nat} (h_b : b ≤ 50) (e_b : M 46 2 = nI b) (h_ra : ra + 7 ≤ 900) (e_ra : M 46 3 = nI ra) (hac : ac < b) (e_ac : M 46 4 = nI ac) (e_k : M 47 ac = 5) : x_M l G fX8_runFrom 14 0 0 [.ref (46), .int (3), .int (3), .int (x), .int (nI (e))] x_SH M J (qKI WTN M J (fun r M2 => r = ((-(((x + 1) + (nI (ac))) * 2)) - ((1 ^^^ (nI (ac))) * 3)) ∧ M2 46 3 = nI (ra + 7) ∧ TrA 48 ra [2, 41, 30, 10, 1, 40, 11] M M2)) := by
  refine xb_of pX8 (Nat.le_of_ble_eq_true rfl) rfl ?_
  refine xr_iload_n dX8_runFrom_0 1 rfl ?_
  refine xr_istore (ls2 := [(5, .int (3)), (0, .ref (46)), (1, .int (3)), (2, .int (3)), (3, .int (x)), (4, .int (nI (e)))]) dX8_runFrom_1 (by decide) rfl ?_
  refine xr_iconst (v := 0) dX8_runFrom_3 rfl ?_
  refine xr_istore (ls2 := [(6, .int (0)), (5, .int (3)), (0, .ref (46)), (1, .int (3)), (2, .int (3)), (3, .int (x)), (4, .int (nI (e)))]) dX8_runFrom_4 (by decide) rfl ?_
  refine xr_iload dX8_runFrom_6 0 rfl ?_
  refine xr_bipush (v := 8) dX8_runFrom_8 rfl ?_
  refine xr_icmp_ge (tgt := 81) dX8_runFrom_10 rfl (fun c => absurd c (by decide)) (fun _ => ?_)
  refine xr_iload dX8_runFrom_13 1 rfl ?_
  refine xb_cN (As := [.int (3)]) (rest := []) mlX8_26 (c_X9_isKind 3) dX8_runFrom_15 rfl rfl (Nat.le_of_ble_eq_true rfl) (by decide) (by decide) ?_
  refine xb_beq (tgt := 81) dX8_runFrom_18 rfl (fun c => absurd (by decide) c) (fun _ => ?_)
  refine xr_getsO slX8_50 dX8_runFrom_21 ?_
  refine xr_iload dX8_runFrom_24 1 rfl ?_
  refine xr_iconst (v := 4) dX8_runFrom_26 rfl ?_
  refine xr_imul dX8_runFrom_27 ?_
  refine xb_top (y := 12) (by decide) ?_
  refine xr_iload_n dX8_runFrom_28 4 rfl ?_
  refine xr_iadd dX8_runFrom_29 ?_
  refine xb_top (y := 15) (by decide) ?_
  refine xr_tabO (by unfold vp_in; decide) dX8_runFrom_30 ?_
  refine xb_top (y := 0) (by decide) ?_
  refine xr_if_eq (tgt := 67) dX8_runFrom_31 rfl (fun _ => ?_) (fun c => absurd (by decide) c)
  refine xr_getsA slX8_30 dX8_runFrom_67 ?_
  refine xr_iload dX8_runFrom_70 1 rfl ?_
  refine xr_tabA (by unfold vp_in; decide) dX8_runFrom_72 ?_
  refine xb_top (y := 2) (by decide) ?_
  refine xr_istore (ls2 := [(5, .int (2)), (6, .int (0)), (0, .ref (46)), (1, .int (3)), (2, .int (3)), (3, .int (x)), (4, .int (nI (e)))]) dX8_runFrom_73 (by decide) rfl ?_
  refine xr_iinc (v := 1) (ls2 := [(6, .int (1)), (5, .int (2)), (0, .ref (46)), (1, .int (3)), (2, .int (3)), (3, .int (x)), (4, .int (nI (e)))]) dX8_runFrom_75 1 rfl rfl (by decide) rfl ?_
  refine xr_goto (tgt := 6) dX8_runFrom_78 rfl ?_
  refine xr_iload dX8_runFrom_6 0 rfl ?_
  refine xr_bipush (v := 8) dX8_runFrom_8 rfl ?_
  refine xr_icmp_ge (tgt := 81) dX8_runFrom_10 rfl (fun c => absurd c (by decide)) (fun _ => ?_)
  refine xr_iload dX8_runFrom_13 1 rfl ?_
  refine xb_cN (As := [.int (2)]) (rest := []) mlX8_26 (c_X9_isKind 2) dX8_runFrom_15 rfl rfl (Nat.le_of_ble_eq_true rfl) (by decide) (by decide) ?_
  refine xb_beq (tgt := 81) dX8_runFrom_18 rfl (fun c => absurd (by decide) c) (fun _ => ?_)
  refine xr_getsO slX8_50 dX8_runFrom_21 ?_
  refine xr_iload dX8_runFrom_24 1 rfl ?_
  refine xr_iconst (v := 4) dX8_runFrom_26 rfl ?_
  refine xr_imul dX8_runFrom_27 ?_
  refine xb_top (y := 8) (by decide) ?_
  refine xr_iload_n dX8_runFrom_28 4 rfl ?_
  refine xr_iadd dX8_runFrom_29 ?_
  refine xb_top (y := 11) (by decide) ?_
  refine xr_tabO (by unfold vp_in; decide) dX8_runFrom_30 ?_
  refine xb_top (y := 0) (by decide) ?_
  refine xr_if_eq (tgt := 67) dX8_runFrom_31 rfl (fun _ => ?_) (fun c => absurd (by decide) c)
  refine xr_getsA slX8_30 dX8_runFrom_67 ?_
  refine xr_iload dX8_runFrom_70 1 rfl ?_
  refine xr_tabA (by unfold vp_in; decide) dX8_runFrom_72 ?_
  refine xb_top (y := 0) (by decide) ?_
  refine xr_istore (ls2 := [(5, .int (0)), (6, .int (1)), (0, .ref (46)), (1, .int (3)), (2, .int (3)), (3, .int (x)), (4, .int (nI (e)))]) dX8_runFrom_73 (by decide) rfl ?_
  refine xr_iinc (v := 2) (ls2 := [(6, .int (2)), (5, .int (0)), (0, .ref (46)), (1, .int (3)), (2, .int (3)), (3, .int (x)), (4, .int (nI (e)))]) dX8_runFrom_75 1 rfl rfl (by decide) rfl ?_
  refine xr_goto (tgt := 6) dX8_runFrom_78 rfl ?_
  refine xr_iload dX8_runFrom_6 0 rfl ?_
  refine xr_bipush (v := 8) dX8_runFrom_8 rfl ?_
  refine xr_icmp_ge (tgt := 81) dX8_runFrom_10 rfl (fun c => absurd c (by decide)) (fun _ => ?_)
  refine xr_iload dX8_runFrom_13 1 rfl ?_
  refine xb_cN (As := [.int (0)]) (rest := []) mlX8_26 (c_X9_isKind 0) dX8_runFrom_15 rfl rfl (Nat.le_of_ble_eq_true rfl) (by decide) (by decide) ?_
  refine xb_beq (tgt := 81) dX8_runFrom_18 rfl (fun c => absurd (by decide) c) (fun _ => ?_)
  refine xr_getsO slX8_50 dX8_runFrom_21 ?_
  refine xr_iload dX8_runFrom_24 1 rfl ?_
  refine xr_iconst (v := 4) dX8_runFrom_26 rfl ?_
  refine xr_imul dX8_runFrom_27 ?_
  refine xb_top (y := 0) (by decide) ?_
  refine xr_iload_n dX8_runFrom_28 4 rfl ?_
  refine xr_iadd dX8_runFrom_29 ?_
  refine xb_top (y := 3) (by decide) ?_
  refine xr_tabO (by unfold vp_in; decide) dX8_runFrom_30 ?_
  refine xb_top (y := 2) (by decide) ?_
  refine xr_if_eq (tgt := 67) dX8_runFrom_31 rfl (fun c => absurd c (by decide)) (fun _ => ?_)
  refine xr_iload dX8_runFrom_34 6 rfl ?_
  refine xr_bipush (v := 30) dX8_runFrom_36 rfl ?_
  refine xr_icmp_ge (tgt := 65) dX8_runFrom_38 rfl (fun c => absurd c (nI_ge (a := e) (b := 30) (by omega) (by omega))) (fun _ => ?_)
  refine xr_aload_n dX8_runFrom_41 2 rfl ?_
  refine xr_getsO slX8_50 dX8_runFrom_42 ?_
  refine xr_iload dX8_runFrom_45 1 rfl ?_
  refine xr_iconst (v := 4) dX8_runFrom_47 rfl ?_
  refine xr_imul dX8_runFrom_48 ?_
  refine xb_top (y := 0) (by decide) ?_
  refine xr_iload_n dX8_runFrom_49 4 rfl ?_
  refine xr_iadd dX8_runFrom_50 ?_
  refine xb_top (y := 3) (by decide) ?_
  refine xr_tabO (by unfold vp_in; decide) dX8_runFrom_51 ?_
  refine xb_top (y := 2) (by decide) ?_
  refine xr_iload dX8_runFrom_52 1 rfl ?_
  refine xr_iload_n dX8_runFrom_54 5 rfl ?_
  refine xr_iload dX8_runFrom_55 6 rfl ?_
  refine xr_iconst (v := 1) dX8_runFrom_57 rfl ?_
  refine xr_iadd dX8_runFrom_58 ?_
  refine xb_top (y := nI (e + 1)) (nI_add (e) (1)) ?_
  refine xr_callV (As := [.int (2), .int (0), .int (x), .int (nI (e + 1))]) (rest := []) mlX8_53 (tv5_run_2_0 (e := e + 1) (ac := ac) x (by omega) (by omega) e_b (by omega) e_ra hac e_ac e_k) dX8_runFrom_59 s_46 rfl rfl (Nat.le_of_ble_eq_true rfl) (by decide) ⟨by decide, by decide⟩ (fun v s2 M7 J2 hq => ?_)
  obtain ⟨r9, rfl, rfl, rfl, k8, ⟨hr5, hx4, ht6⟩⟩ := hq
  try dsimp only [Option.toList, List.cons_append, List.nil_append]
  subst hr5
  refine xr_goto (tgt := 66) dX8_runFrom_62 rfl ?_
  exact xr_iret dX8_runFrom_66 rfl rfl (⟨_, rfl, rfl, rfl, (Ke.tr (fun _ _ h => h) Ke.rf k8), rfl, hx4, ht6⟩)
set_option maxRecDepth 100000 in
set_option maxHeartbeats 4000000 in
theorem tv5_above_5_3 {e ac : Nat} (x : Int32) (he : e + 5 ≤ 30) {l : Launch} {G : xG} {M : xM} {J : xJ} {b ra : Nat} (h_b : b ≤ 50) (e_b : M 46 2 = nI b) (h_ra : ra + 7 ≤ 900) (e_ra : M 46 3 = nI ra) (hac : ac < b) (e_ac : M 46 4 = nI ac) (e_k : M 47 ac = 5) : x_M l G fX8_above 15 0 0 [.ref (46), .int (5), .int (3), .int (x), .int (nI (e))] x_SH M J (qKI WTN M J (fun r M2 => r = ((-(((x + 1) + (nI (ac))) * 2)) - ((1 ^^^ (nI (ac))) * 3)) ∧ M2 46 3 = nI (ra + 7) ∧ TrA 48 ra [2, 41, 30, 10, 1, 40, 11] M M2)) := by
  refine xb_of pX8 (Nat.le_of_ble_eq_true rfl) rfl ?_
  refine xr_iload_n dX8_above_0 1 rfl ?_
  refine xb_cN (As := [.int (5)]) (rest := []) mlX8_26 (c_X9_isKind 5) dX8_above_1 rfl rfl (Nat.le_of_ble_eq_true rfl) (by decide) (by decide) ?_
  refine xb_beq (tgt := 23) dX8_above_4 rfl (fun c => absurd (by decide) c) (fun _ => ?_)
  refine xr_aload_n dX8_above_7 0 rfl ?_
  refine xr_getsA slX8_30 dX8_above_8 ?_
  refine xr_iload_n dX8_above_11 1 rfl ?_
  refine xr_tabA (by unfold vp_in; decide) dX8_above_12 ?_
  refine xb_top (y := 3) (by decide) ?_
  refine xr_iload_n dX8_above_13 2 rfl ?_
  refine xr_iload_n dX8_above_14 3 rfl ?_
  refine xr_iload dX8_above_15 4 rfl ?_
  refine xr_callV (As := [.int (3), .int (3), .int (x), .int (nI (e))]) (rest := []) mlX8_46 (tv5_runFrom_3_3 (e := e) (ac := ac) x (by omega) (by omega) e_b (by omega) e_ra hac e_ac e_k) dX8_above_17 s_46 rfl rfl (Nat.le_of_ble_eq_true rfl) (by decide) ⟨by decide, by decide⟩ (fun v s2 M5 J2 hq => ?_)
  obtain ⟨r7, rfl, rfl, rfl, k6, ⟨hr3, hx2, ht4⟩⟩ := hq
  try dsimp only [Option.toList, List.cons_append, List.nil_append]
  subst hr3
  refine xr_goto (tgt := 24) dX8_above_20 rfl ?_
  exact xr_iret dX8_above_24 rfl rfl (⟨_, rfl, rfl, rfl, (Ke.tr (fun _ _ h => h) Ke.rf k6), rfl, hx2, ht4⟩)
set_option maxRecDepth 100000 in
set_option maxHeartbeats 4000000 in
theorem tv5_run_60_5 {e ac : Nat} (x : Int32) (he : e + 5 ≤ 30) {l : Launch} {G : xG} {M : xM} {J : xJ} {b ra : Nat} (h_b : b ≤ 50) (e_b : M 46 2 = nI b) (h_ra : ra + 8 ≤ 900) (e_ra : M 46 3 = nI ra) (hac : ac < b) (e_ac : M 46 4 = nI ac) (e_k : M 47 ac = 5) : x_M l G fX8_run 16 0 0 [.ref (46), .int (60), .int (5), .int (x), .int (nI (e))] x_SH M J (qKI WTN M J (fun r M2 => r = (((-(((x + 1) + (nI (ac))) * 2)) - ((1 ^^^ (nI (ac))) * 3)) ^^^ 5) ∧ M2 46 3 = nI (ra + 8) ∧ TrA 48 ra [60, 2, 41, 30, 10, 1, 40, 11] M M2)) := by
  refine xb_of pX8 (Nat.le_of_ble_eq_true rfl) rfl ?_
  refine xr_aload_n dX8_run_0 0 rfl ?_
  refine xr_iload_n dX8_run_1 1 rfl ?_
  refine xr_callV (As := [.int (60)]) (rest := []) mlX8_56 (gt_X8_note 60 (by omega) e_ra) dX8_run_2 s_46 rfl rfl (Nat.le_of_ble_eq_true rfl) (by decide) ⟨by decide, by decide⟩ (fun v s2 M3 J2 hq => ?_)
  obtain ⟨rfl, rfl, rfl, k4, ⟨hx1, ht2⟩⟩ := hq
  try dsimp only [Option.toList, List.cons_append, List.nil_append]
  refine xr_iload_n dX8_run_5 1 rfl ?_
  refine xr_lookup (tgt := 229) (off := 223) dX8_run_6 (by decide) (by decide) rfl ?_
  refine xr_aload_n dX8_run_229 0 rfl ?_
  refine xr_iload_n dX8_run_230 2 rfl ?_
  refine xr_iconst (v := 3) dX8_run_231 rfl ?_
  refine xr_iload_n dX8_run_232 3 rfl ?_
  refine xr_iload dX8_run_233 4 rfl ?_
  refine xr_callV (As := [.int (5), .int (3), .int (x), .int (nI (e))]) (rest := []) mlX8_60 (tv5_above_5_3 (e := e) (ac := ac) x (by omega) (by omega) (Eq.trans (k4 46 2 (by decide)) e_b) (by omega) hx1 hac (Eq.trans (k4 46 4 (by decide)) e_ac) (Eq.trans (k4 47 ac (by unfold WTN; omega)) e_k)) dX8_run_235 s_46 rfl rfl (Nat.le_of_ble_eq_true rfl) (by decide) ⟨by decide, by decide⟩ (fun v s2 M8 J2 hq => ?_)
  obtain ⟨r10, rfl, rfl, rfl, k9, ⟨hr6, hx5, ht7⟩⟩ := hq
  try dsimp only [Option.toList, List.cons_append, List.nil_append]
  subst hr6
  refine xr_iconst (v := 5) dX8_run_238 rfl ?_
  refine xr_ixor dX8_run_239 ?_
  exact xr_iret dX8_run_240 rfl rfl (⟨_, rfl, rfl, rfl, (Ke.tr (fun _ _ h => h) (Ke.tr (fun _ _ h => h) Ke.rf k4) k9), rfl, hx5, (TrA_app (l := [60]) (m := [2, 41, 30, 10, 1, 40, 11]) ht2 ht7)⟩)
set_option maxRecDepth 100000 in
set_option maxHeartbeats 4000000 in
theorem tv5_runFrom_5_3 {e ac : Nat} (x : Int32) (he : e + 6 ≤ 30) {l : Launch} {G : xG} {M : xM} {J : xJ} {b ra : Nat} (h_b : b ≤ 50) (e_b : M 46 2 = nI b) (h_ra : ra + 8 ≤ 900) (e_ra : M 46 3 = nI ra) (hac : ac < b) (e_ac : M 46 4 = nI ac) (e_k : M 47 ac = 5) : x_M l G fX8_runFrom 17 0 0 [.ref (46), .int (5), .int (3), .int (x), .int (nI (e))] x_SH M J (qKI WTN M J (fun r M2 => r = (((-(((x + 1) + (nI (ac))) * 2)) - ((1 ^^^ (nI (ac))) * 3)) ^^^ 5) ∧ M2 46 3 = nI (ra + 8) ∧ TrA 48 ra [60, 2, 41, 30, 10, 1, 40, 11] M M2)) := by
  refine xb_of pX8 (Nat.le_of_ble_eq_true rfl) rfl ?_
  refine xr_iload_n dX8_runFrom_0 1 rfl ?_
  refine xr_istore (ls2 := [(5, .int (5)), (0, .ref (46)), (1, .int (5)), (2, .int (3)), (3, .int (x)), (4, .int (nI (e)))]) dX8_runFrom_1 (by decide) rfl ?_
  refine xr_iconst (v := 0) dX8_runFrom_3 rfl ?_
  refine xr_istore (ls2 := [(6, .int (0)), (5, .int (5)), (0, .ref (46)), (1, .int (5)), (2, .int (3)), (3, .int (x)), (4, .int (nI (e)))]) dX8_runFrom_4 (by decide) rfl ?_
  refine xr_iload dX8_runFrom_6 0 rfl ?_
  refine xr_bipush (v := 8) dX8_runFrom_8 rfl ?_
  refine xr_icmp_ge (tgt := 81) dX8_runFrom_10 rfl (fun c => absurd c (by decide)) (fun _ => ?_)
  refine xr_iload dX8_runFrom_13 1 rfl ?_
  refine xb_cN (As := [.int (5)]) (rest := []) mlX8_26 (c_X9_isKind 5) dX8_runFrom_15 rfl rfl (Nat.le_of_ble_eq_true rfl) (by decide) (by decide) ?_
  refine xb_beq (tgt := 81) dX8_runFrom_18 rfl (fun c => absurd (by decide) c) (fun _ => ?_)
  refine xr_getsO slX8_50 dX8_runFrom_21 ?_
  refine xr_iload dX8_runFrom_24 1 rfl ?_
  refine xr_iconst (v := 4) dX8_runFrom_26 rfl ?_
  refine xr_imul dX8_runFrom_27 ?_
  refine xb_top (y := 20) (by decide) ?_
  refine xr_iload_n dX8_runFrom_28 4 rfl ?_
  refine xr_iadd dX8_runFrom_29 ?_
  refine xb_top (y := 23) (by decide) ?_
  refine xr_tabO (by unfold vp_in; decide) dX8_runFrom_30 ?_
  refine xb_top (y := 60) (by decide) ?_
  refine xr_if_eq (tgt := 67) dX8_runFrom_31 rfl (fun c => absurd c (by decide)) (fun _ => ?_)
  refine xr_iload dX8_runFrom_34 6 rfl ?_
  refine xr_bipush (v := 30) dX8_runFrom_36 rfl ?_
  refine xr_icmp_ge (tgt := 65) dX8_runFrom_38 rfl (fun c => absurd c (nI_ge (a := e) (b := 30) (by omega) (by omega))) (fun _ => ?_)
  refine xr_aload_n dX8_runFrom_41 2 rfl ?_
  refine xr_getsO slX8_50 dX8_runFrom_42 ?_
  refine xr_iload dX8_runFrom_45 1 rfl ?_
  refine xr_iconst (v := 4) dX8_runFrom_47 rfl ?_
  refine xr_imul dX8_runFrom_48 ?_
  refine xb_top (y := 20) (by decide) ?_
  refine xr_iload_n dX8_runFrom_49 4 rfl ?_
  refine xr_iadd dX8_runFrom_50 ?_
  refine xb_top (y := 23) (by decide) ?_
  refine xr_tabO (by unfold vp_in; decide) dX8_runFrom_51 ?_
  refine xb_top (y := 60) (by decide) ?_
  refine xr_iload dX8_runFrom_52 1 rfl ?_
  refine xr_iload_n dX8_runFrom_54 5 rfl ?_
  refine xr_iload dX8_runFrom_55 6 rfl ?_
  refine xr_iconst (v := 1) dX8_runFrom_57 rfl ?_
  refine xr_iadd dX8_runFrom_58 ?_
  refine xb_top (y := nI (e + 1)) (nI_add (e) (1)) ?_
  refine xr_callV (As := [.int (60), .int (5), .int (x), .int (nI (e + 1))]) (rest := []) mlX8_53 (tv5_run_60_5 (e := e + 1) (ac := ac) x (by omega) (by omega) e_b (by omega) e_ra hac e_ac e_k) dX8_runFrom_59 s_46 rfl rfl (Nat.le_of_ble_eq_true rfl) (by decide) ⟨by decide, by decide⟩ (fun v s2 M5 J2 hq => ?_)
  obtain ⟨r7, rfl, rfl, rfl, k6, ⟨hr3, hx2, ht4⟩⟩ := hq
  try dsimp only [Option.toList, List.cons_append, List.nil_append]
  subst hr3
  refine xr_goto (tgt := 66) dX8_runFrom_62 rfl ?_
  exact xr_iret dX8_runFrom_66 rfl rfl (⟨_, rfl, rfl, rfl, (Ke.tr (fun _ _ h => h) Ke.rf k6), rfl, hx2, ht4⟩)
set_option maxRecDepth 100000 in
set_option maxHeartbeats 4000000 in
theorem tv5_own_3 {e ac : Nat} (x : Int32) (he : e + 6 ≤ 30) {l : Launch} {G : xG} {M : xM} {J : xJ} {b ra : Nat} (h_b : b ≤ 50) (e_b : M 46 2 = nI b) (h_ra : ra + 8 ≤ 900) (e_ra : M 46 3 = nI ra) (hac : ac < b) (e_ac : M 46 4 = nI ac) (e_k : M 47 ac = 5) : x_M l G fX8_own 18 0 0 [.ref (46), .int (3), .int (x), .int (nI (e))] x_SH M J (qKI WTN M J (fun r M2 => r = (((-(((x + 1) + (nI (ac))) * 2)) - ((1 ^^^ (nI (ac))) * 3)) ^^^ 5) ∧ M2 46 3 = nI (ra + 8) ∧ TrA 48 ra [60, 2, 41, 30, 10, 1, 40, 11] M M2)) := by
  refine xb_of pX8 (Nat.le_of_ble_eq_true rfl) rfl ?_
  refine xr_aload_n dX8_own_0 0 rfl ?_
  refine xr_aload_n dX8_own_1 0 rfl ?_
  refine xb_get (v := nI (ac)) flX8_36 dX8_own_2 s_46 rfl e_ac ?_
  refine xb_cV (As := [.int (nI (ac))]) (rest := []) mlX8_43 (c_X8_has (nI (ac)) (by omega) e_b) dX8_own_5 s_46 rfl rfl (Nat.le_of_ble_eq_true rfl) (by decide) (by decide) ?_
  refine xb_beq (tgt := 30) dX8_own_8 rfl (fun c => absurd ⟨nI_pos' (by omega), nI_lt (by omega) (by omega)⟩ c) (fun _ => ?_)
  refine xr_aload_n dX8_own_11 0 rfl ?_
  refine xr_aload_n dX8_own_12 0 rfl ?_
  refine xr_getR flX8_9 dX8_own_13 s_46 rfl ?_
  refine xr_aload_n dX8_own_16 0 rfl ?_
  refine xb_get (v := nI (ac)) flX8_36 dX8_own_17 s_46 rfl e_ac ?_
  refine xb_iald (j := ac) (v := 5) dX8_own_20 s_47 (by omega) (by decide) e_k ?_
  refine xr_iload_n dX8_own_21 1 rfl ?_
  refine xr_iload_n dX8_own_22 2 rfl ?_
  refine xr_iload_n dX8_own_23 3 rfl ?_
  refine xr_callV (As := [.int (5), .int (3), .int (x), .int (nI (e))]) (rest := []) mlX8_46 (tv5_runFrom_5_3 (e := e) (ac := ac) x (by omega) (by omega) e_b (by omega) e_ra hac e_ac e_k) dX8_own_24 s_46 rfl rfl (Nat.le_of_ble_eq_true rfl) (by decide) ⟨by decide, by decide⟩ (fun v s2 M5 J2 hq => ?_)
  obtain ⟨r7, rfl, rfl, rfl, k6, ⟨hr3, hx2, ht4⟩⟩ := hq
  try dsimp only [Option.toList, List.cons_append, List.nil_append]
  subst hr3
  refine xr_goto (tgt := 31) dX8_own_27 rfl ?_
  exact xr_iret dX8_own_31 rfl rfl (⟨_, rfl, rfl, rfl, (Ke.tr (fun _ _ h => h) Ke.rf k6), rfl, hx2, ht4⟩)
set_option maxRecDepth 100000 in
set_option maxHeartbeats 4000000 in
theorem tw5_3 {ac b : Nat} (x : Int32) {l : Launch} {G : xG} {M : xM} {J : xJ} (h_b : b ≤ 50) (e_b : M 46 2 = nI b) (hac : ac < b) (e_k : M 47 ac = 5) : x_M l G fX8_perform 19 0 0 [.ref (46), .int (nI (ac)), .int (3), .int (x)] x_SH M J (qKI WTR M J (fun r M2 => M2 46 3 = nI 8 ∧ TrF 48 [60, 2, 41, 30, 10, 1, 40, 11] M2)) := by
  refine xb_of pX8 (Nat.le_of_ble_eq_true rfl) rfl ?_
  refine xr_aload_n dX8_perform_0 0 rfl ?_
  refine xr_iconst (v := 0) dX8_perform_1 rfl ?_
  refine xr_putI fpX8_33 dX8_perform_2 s_46 rfl rfl rfl ?_
  refine xr_aload_n dX8_perform_5 0 rfl ?_
  refine xr_iload_n dX8_perform_6 1 rfl ?_
  refine xr_putI fpX8_36 dX8_perform_7 s_46 rfl rfl rfl ?_
  refine xr_aload_n dX8_perform_10 0 rfl ?_
  refine xr_iload_n dX8_perform_11 2 rfl ?_
  refine xr_iload_n dX8_perform_12 3 rfl ?_
  refine xr_iconst (v := 0) dX8_perform_13 rfl ?_
  refine xr_callV (As := [.int (3), .int (x), .int (0)]) (rest := []) mlX8_39 (tv5_own_3 (e := 0) (ac := ac) (ra := 0) x (by omega) h_b (Eq.trans (x_up_k _ _ _ (by decide)) (Eq.trans (x_up_k _ _ _ (by decide)) e_b)) (by omega) (Eq.trans (x_up_k _ _ _ (by decide)) (x_up_s _ _ _ _)) hac (x_up_s _ _ _ _) (Eq.trans (congrFun (x_up_n _ _ _ (by decide)) _) (Eq.trans (congrFun (x_up_n _ _ _ (by decide)) _) e_k))) dX8_perform_14 s_46 rfl rfl (Nat.le_of_ble_eq_true rfl) (by decide) ⟨by decide, by decide⟩ (fun v s2 M4 J2 hq => ?_)
  obtain ⟨r6, rfl, rfl, rfl, k5, ⟨hr2, hx1, ht3⟩⟩ := hq
  try dsimp only [Option.toList, List.cons_append, List.nil_append]
  subst hr2
  exact xr_iret dX8_perform_17 rfl rfl (⟨_, rfl, rfl, rfl, (Ke.tr (fun pp kk => (fun hh => Or.elim hh (fun h => (Or.inl h)) (fun h => (Or.inr (Or.inr h))))) (Ke.up (Or.inr (Or.inl (by omega))) (Ke.up (Or.inl (by omega)) Ke.rf)) k5), ⟨(hx1.trans (congrArg nI (Nat.zero_add _))), TrA_F ht3⟩⟩)
set_option maxRecDepth 100000 in
set_option maxHeartbeats 4000000 in
theorem tv6_run_1_0 {e ac : Nat} (x : Int32) (he : e + 0 ≤ 30) {l : Launch} {G : xG} {M : xM} {J : xJ} {b ra : Nat} (h_b : b ≤ 50) (e_b : M 46 2 = nI b) (h_ra : ra + 1 ≤ 900) (e_ra : M 46 3 = nI ra) (hac : ac < b) (e_ac : M 46 4 = nI ac) (e_k : M 47 ac = 6) : x_M l G fX8_run 1 0 0 [.ref (46), .int (1), .int (0), .int (x), .int (nI (e))] x_SH M J (qKI WTN M J (fun r M2 => r = (x + (nI (ac))) ∧ M2 46 3 = nI (ra + 1) ∧ TrA 48 ra [1] M M2)) := by
  refine xb_of pX8 (Nat.le_of_ble_eq_true rfl) rfl ?_
  refine xr_aload_n dX8_run_0 0 rfl ?_
  refine xr_iload_n dX8_run_1 1 rfl ?_
  refine xr_callV (As := [.int (1)]) (rest := []) mlX8_56 (gt_X8_note 1 (by omega) e_ra) dX8_run_2 s_46 rfl rfl (Nat.le_of_ble_eq_true rfl) (by decide) ⟨by decide, by decide⟩ (fun v s2 M3 J2 hq => ?_)
  obtain ⟨rfl, rfl, rfl, k4, ⟨hx1, ht2⟩⟩ := hq
  try dsimp only [Option.toList, List.cons_append, List.nil_append]
  refine xr_iload_n dX8_run_5 1 rfl ?_
  refine xr_lookup (tgt := 120) (off := 114) dX8_run_6 (by decide) (by decide) rfl ?_
  refine xr_iload_n dX8_run_120 3 rfl ?_
  refine xr_aload_n dX8_run_121 0 rfl ?_
  refine xb_get (v := nI (ac)) flX8_36 dX8_run_122 s_46 rfl (Eq.trans (k4 46 4 (by decide)) e_ac) ?_
  refine xr_iadd dX8_run_125 ?_
  exact xr_iret dX8_run_126 rfl rfl (⟨_, rfl, rfl, rfl, (Ke.tr (fun _ _ h => h) Ke.rf k4), rfl, hx1, ht2⟩)
set_option maxRecDepth 100000 in
set_option maxHeartbeats 4000000 in
theorem tv6_runFrom_0_0 {e ac : Nat} (x : Int32) (he : e + 1 ≤ 30) {l : Launch} {G : xG} {M : xM} {J : xJ} {b ra : Nat} (h_b : b ≤ 50) (e_b : M 46 2 = nI b) (h_ra : ra + 1 ≤ 900) (e_ra : M 46 3 = nI ra) (hac : ac < b) (e_ac : M 46 4 = nI ac) (e_k : M 47 ac = 6) : x_M l G fX8_runFrom 2 0 0 [.ref (46), .int (0), .int (0), .int (x), .int (nI (e))] x_SH M J (qKI WTN M J (fun r M2 => r = (x + (nI (ac))) ∧ M2 46 3 = nI (ra + 1) ∧ TrA 48 ra [1] M M2)) := by
  refine xb_of pX8 (Nat.le_of_ble_eq_true rfl) rfl ?_
  refine xr_iload_n dX8_runFrom_0 1 rfl ?_
  refine xr_istore (ls2 := [(5, .int (0)), (0, .ref (46)), (1, .int (0)), (2, .int (0)), (3, .int (x)), (4, .int (nI (e)))]) dX8_runFrom_1 (by decide) rfl ?_
  refine xr_iconst (v := 0) dX8_runFrom_3 rfl ?_
  refine xr_istore (ls2 := [(6, .int (0)), (5, .int (0)), (0, .ref (46)), (1, .int (0)), (2, .int (0)), (3, .int (x)), (4, .int (nI (e)))]) dX8_runFrom_4 (by decide) rfl ?_
  refine xr_iload dX8_runFrom_6 0 rfl ?_
  refine xr_bipush (v := 8) dX8_runFrom_8 rfl ?_
  refine xr_icmp_ge (tgt := 81) dX8_runFrom_10 rfl (fun c => absurd c (by decide)) (fun _ => ?_)
  refine xr_iload dX8_runFrom_13 1 rfl ?_
  refine xb_cN (As := [.int (0)]) (rest := []) mlX8_26 (c_X9_isKind 0) dX8_runFrom_15 rfl rfl (Nat.le_of_ble_eq_true rfl) (by decide) (by decide) ?_
  refine xb_beq (tgt := 81) dX8_runFrom_18 rfl (fun c => absurd (by decide) c) (fun _ => ?_)
  refine xr_getsO slX8_50 dX8_runFrom_21 ?_
  refine xr_iload dX8_runFrom_24 1 rfl ?_
  refine xr_iconst (v := 4) dX8_runFrom_26 rfl ?_
  refine xr_imul dX8_runFrom_27 ?_
  refine xb_top (y := 0) (by decide) ?_
  refine xr_iload_n dX8_runFrom_28 4 rfl ?_
  refine xr_iadd dX8_runFrom_29 ?_
  refine xb_top (y := 0) (by decide) ?_
  refine xr_tabO (by unfold vp_in; decide) dX8_runFrom_30 ?_
  refine xb_top (y := 1) (by decide) ?_
  refine xr_if_eq (tgt := 67) dX8_runFrom_31 rfl (fun c => absurd c (by decide)) (fun _ => ?_)
  refine xr_iload dX8_runFrom_34 6 rfl ?_
  refine xr_bipush (v := 30) dX8_runFrom_36 rfl ?_
  refine xr_icmp_ge (tgt := 65) dX8_runFrom_38 rfl (fun c => absurd c (nI_ge (a := e) (b := 30) (by omega) (by omega))) (fun _ => ?_)
  refine xr_aload_n dX8_runFrom_41 2 rfl ?_
  refine xr_getsO slX8_50 dX8_runFrom_42 ?_
  refine xr_iload dX8_runFrom_45 1 rfl ?_
  refine xr_iconst (v := 4) dX8_runFrom_47 rfl ?_
  refine xr_imul dX8_runFrom_48 ?_
  refine xb_top (y := 0) (by decide) ?_
  refine xr_iload_n dX8_runFrom_49 4 rfl ?_
  refine xr_iadd dX8_runFrom_50 ?_
  refine xb_top (y := 0) (by decide) ?_
  refine xr_tabO (by unfold vp_in; decide) dX8_runFrom_51 ?_
  refine xb_top (y := 1) (by decide) ?_
  refine xr_iload dX8_runFrom_52 1 rfl ?_
  refine xr_iload_n dX8_runFrom_54 5 rfl ?_
  refine xr_iload dX8_runFrom_55 6 rfl ?_
  refine xr_iconst (v := 1) dX8_runFrom_57 rfl ?_
  refine xr_iadd dX8_runFrom_58 ?_
  refine xb_top (y := nI (e + 1)) (nI_add (e) (1)) ?_
  refine xr_callV (As := [.int (1), .int (0), .int (x), .int (nI (e + 1))]) (rest := []) mlX8_53 (tv6_run_1_0 (e := e + 1) (ac := ac) x (by omega) (by omega) e_b (by omega) e_ra hac e_ac e_k) dX8_runFrom_59 s_46 rfl rfl (Nat.le_of_ble_eq_true rfl) (by decide) ⟨by decide, by decide⟩ (fun v s2 M5 J2 hq => ?_)
  obtain ⟨r7, rfl, rfl, rfl, k6, ⟨hr3, hx2, ht4⟩⟩ := hq
  try dsimp only [Option.toList, List.cons_append, List.nil_append]
  subst hr3
  refine xr_goto (tgt := 66) dX8_runFrom_62 rfl ?_
  exact xr_iret dX8_runFrom_66 rfl rfl (⟨_, rfl, rfl, rfl, (Ke.tr (fun _ _ h => h) Ke.rf k6), rfl, hx2, ht4⟩)
set_option maxRecDepth 100000 in
set_option maxHeartbeats 4000000 in
theorem tv6_above_6_0 {e ac : Nat} (x : Int32) (he : e + 1 ≤ 30) {l : Launch} {G : xG} {M : xM} {J : xJ} {b ra : Nat} (h_b : b ≤ 50) (e_b : M 46 2 = nI b) (h_ra : ra + 1 ≤ 900) (e_ra : M 46 3 = nI ra) (hac : ac < b) (e_ac : M 46 4 = nI ac) (e_k : M 47 ac = 6) : x_M l G fX8_above 3 0 0 [.ref (46), .int (6), .int (0), .int (x), .int (nI (e))] x_SH M J (qKI WTN M J (fun r M2 => r = (x + (nI (ac))) ∧ M2 46 3 = nI (ra + 1) ∧ TrA 48 ra [1] M M2)) := by
  refine xb_of pX8 (Nat.le_of_ble_eq_true rfl) rfl ?_
  refine xr_iload_n dX8_above_0 1 rfl ?_
  refine xb_cN (As := [.int (6)]) (rest := []) mlX8_26 (c_X9_isKind 6) dX8_above_1 rfl rfl (Nat.le_of_ble_eq_true rfl) (by decide) (by decide) ?_
  refine xb_beq (tgt := 23) dX8_above_4 rfl (fun c => absurd (by decide) c) (fun _ => ?_)
  refine xr_aload_n dX8_above_7 0 rfl ?_
  refine xr_getsA slX8_30 dX8_above_8 ?_
  refine xr_iload_n dX8_above_11 1 rfl ?_
  refine xr_tabA (by unfold vp_in; decide) dX8_above_12 ?_
  refine xb_top (y := 0) (by decide) ?_
  refine xr_iload_n dX8_above_13 2 rfl ?_
  refine xr_iload_n dX8_above_14 3 rfl ?_
  refine xr_iload dX8_above_15 4 rfl ?_
  refine xr_callV (As := [.int (0), .int (0), .int (x), .int (nI (e))]) (rest := []) mlX8_46 (tv6_runFrom_0_0 (e := e) (ac := ac) x (by omega) (by omega) e_b (by omega) e_ra hac e_ac e_k) dX8_above_17 s_46 rfl rfl (Nat.le_of_ble_eq_true rfl) (by decide) ⟨by decide, by decide⟩ (fun v s2 M5 J2 hq => ?_)
  obtain ⟨r7, rfl, rfl, rfl, k6, ⟨hr3, hx2, ht4⟩⟩ := hq
  try dsimp only [Option.toList, List.cons_append, List.nil_append]
  subst hr3
  refine xr_goto (tgt := 24) dX8_above_20 rfl ?_
  exact xr_iret dX8_above_24 rfl rfl (⟨_, rfl, rfl, rfl, (Ke.tr (fun _ _ h => h) Ke.rf k6), rfl, hx2, ht4⟩)
set_option maxRecDepth 100000 in
set_option maxHeartbeats 4000000 in
theorem tv6_run_70_6 {e ac : Nat} (x : Int32) (he : e + 1 ≤ 30) {l : Launch} {G : xG} {M : xM} {J : xJ} {b ra : Nat} (h_b : b ≤ 50) (e_b : M 46 2 = nI b) (h_ra : ra + 2 ≤ 900) (e_ra : M 46 3 = nI ra) (hac : ac < b) (e_ac : M 46 4 = nI ac) (e_k : M 47 ac = 6) : x_M l G fX8_run 4 0 0 [.ref (46), .int (70), .int (6), .int (x), .int (nI (e))] x_SH M J (qKI WTN M J (fun r M2 => r = ((x + (nI (ac))) * 2) ∧ M2 46 3 = nI (ra + 2) ∧ TrA 48 ra [70, 1] M M2)) := by
  refine xb_of pX8 (Nat.le_of_ble_eq_true rfl) rfl ?_
  refine xr_aload_n dX8_run_0 0 rfl ?_
  refine xr_iload_n dX8_run_1 1 rfl ?_
  refine xr_callV (As := [.int (70)]) (rest := []) mlX8_56 (gt_X8_note 70 (by omega) e_ra) dX8_run_2 s_46 rfl rfl (Nat.le_of_ble_eq_true rfl) (by decide) ⟨by decide, by decide⟩ (fun v s2 M3 J2 hq => ?_)
  obtain ⟨rfl, rfl, rfl, k4, ⟨hx1, ht2⟩⟩ := hq
  try dsimp only [Option.toList, List.cons_append, List.nil_append]
  refine xr_iload_n dX8_run_5 1 rfl ?_
  refine xr_lookup (tgt := 241) (off := 235) dX8_run_6 (by decide) (by decide) rfl ?_
  refine xr_aload_n dX8_run_241 0 rfl ?_
  refine xr_iload_n dX8_run_242 2 rfl ?_
  refine xr_iconst (v := 0) dX8_run_243 rfl ?_
  refine xr_iload_n dX8_run_244 3 rfl ?_
  refine xr_iload dX8_run_245 4 rfl ?_
  refine xr_callV (As := [.int (6), .int (0), .int (x), .int (nI (e))]) (rest := []) mlX8_60 (tv6_above_6_0 (e := e) (ac := ac) x (by omega) (by omega) (Eq.trans (k4 46 2 (by decide)) e_b) (by omega) hx1 hac (Eq.trans (k4 46 4 (by decide)) e_ac) (Eq.trans (k4 47 ac (by unfold WTN; omega)) e_k)) dX8_run_247 s_46 rfl rfl (Nat.le_of_ble_eq_true rfl) (by decide) ⟨by decide, by decide⟩ (fun v s2 M8 J2 hq => ?_)
  obtain ⟨r10, rfl, rfl, rfl, k9, ⟨hr6, hx5, ht7⟩⟩ := hq
  try dsimp only [Option.toList, List.cons_append, List.nil_append]
  subst hr6
  refine xr_iconst (v := 2) dX8_run_250 rfl ?_
  refine xr_imul dX8_run_251 ?_
  exact xr_iret dX8_run_252 rfl rfl (⟨_, rfl, rfl, rfl, (Ke.tr (fun _ _ h => h) (Ke.tr (fun _ _ h => h) Ke.rf k4) k9), rfl, hx5, (TrA_app (l := [70]) (m := [1]) ht2 ht7)⟩)
set_option maxRecDepth 100000 in
set_option maxHeartbeats 4000000 in
theorem tv6_runFrom_6_0 {e ac : Nat} (x : Int32) (he : e + 2 ≤ 30) {l : Launch} {G : xG} {M : xM} {J : xJ} {b ra : Nat} (h_b : b ≤ 50) (e_b : M 46 2 = nI b) (h_ra : ra + 2 ≤ 900) (e_ra : M 46 3 = nI ra) (hac : ac < b) (e_ac : M 46 4 = nI ac) (e_k : M 47 ac = 6) : x_M l G fX8_runFrom 5 0 0 [.ref (46), .int (6), .int (0), .int (x), .int (nI (e))] x_SH M J (qKI WTN M J (fun r M2 => r = ((x + (nI (ac))) * 2) ∧ M2 46 3 = nI (ra + 2) ∧ TrA 48 ra [70, 1] M M2)) := by
  refine xb_of pX8 (Nat.le_of_ble_eq_true rfl) rfl ?_
  refine xr_iload_n dX8_runFrom_0 1 rfl ?_
  refine xr_istore (ls2 := [(5, .int (6)), (0, .ref (46)), (1, .int (6)), (2, .int (0)), (3, .int (x)), (4, .int (nI (e)))]) dX8_runFrom_1 (by decide) rfl ?_
  refine xr_iconst (v := 0) dX8_runFrom_3 rfl ?_
  refine xr_istore (ls2 := [(6, .int (0)), (5, .int (6)), (0, .ref (46)), (1, .int (6)), (2, .int (0)), (3, .int (x)), (4, .int (nI (e)))]) dX8_runFrom_4 (by decide) rfl ?_
  refine xr_iload dX8_runFrom_6 0 rfl ?_
  refine xr_bipush (v := 8) dX8_runFrom_8 rfl ?_
  refine xr_icmp_ge (tgt := 81) dX8_runFrom_10 rfl (fun c => absurd c (by decide)) (fun _ => ?_)
  refine xr_iload dX8_runFrom_13 1 rfl ?_
  refine xb_cN (As := [.int (6)]) (rest := []) mlX8_26 (c_X9_isKind 6) dX8_runFrom_15 rfl rfl (Nat.le_of_ble_eq_true rfl) (by decide) (by decide) ?_
  refine xb_beq (tgt := 81) dX8_runFrom_18 rfl (fun c => absurd (by decide) c) (fun _ => ?_)
  refine xr_getsO slX8_50 dX8_runFrom_21 ?_
  refine xr_iload dX8_runFrom_24 1 rfl ?_
  refine xr_iconst (v := 4) dX8_runFrom_26 rfl ?_
  refine xr_imul dX8_runFrom_27 ?_
  refine xb_top (y := 24) (by decide) ?_
  refine xr_iload_n dX8_runFrom_28 4 rfl ?_
  refine xr_iadd dX8_runFrom_29 ?_
  refine xb_top (y := 24) (by decide) ?_
  refine xr_tabO (by unfold vp_in; decide) dX8_runFrom_30 ?_
  refine xb_top (y := 70) (by decide) ?_
  refine xr_if_eq (tgt := 67) dX8_runFrom_31 rfl (fun c => absurd c (by decide)) (fun _ => ?_)
  refine xr_iload dX8_runFrom_34 6 rfl ?_
  refine xr_bipush (v := 30) dX8_runFrom_36 rfl ?_
  refine xr_icmp_ge (tgt := 65) dX8_runFrom_38 rfl (fun c => absurd c (nI_ge (a := e) (b := 30) (by omega) (by omega))) (fun _ => ?_)
  refine xr_aload_n dX8_runFrom_41 2 rfl ?_
  refine xr_getsO slX8_50 dX8_runFrom_42 ?_
  refine xr_iload dX8_runFrom_45 1 rfl ?_
  refine xr_iconst (v := 4) dX8_runFrom_47 rfl ?_
  refine xr_imul dX8_runFrom_48 ?_
  refine xb_top (y := 24) (by decide) ?_
  refine xr_iload_n dX8_runFrom_49 4 rfl ?_
  refine xr_iadd dX8_runFrom_50 ?_
  refine xb_top (y := 24) (by decide) ?_
  refine xr_tabO (by unfold vp_in; decide) dX8_runFrom_51 ?_
  refine xb_top (y := 70) (by decide) ?_
  refine xr_iload dX8_runFrom_52 1 rfl ?_
  refine xr_iload_n dX8_runFrom_54 5 rfl ?_
  refine xr_iload dX8_runFrom_55 6 rfl ?_
  refine xr_iconst (v := 1) dX8_runFrom_57 rfl ?_
  refine xr_iadd dX8_runFrom_58 ?_
  refine xb_top (y := nI (e + 1)) (nI_add (e) (1)) ?_
  refine xr_callV (As := [.int (70), .int (6), .int (x), .int (nI (e + 1))]) (rest := []) mlX8_53 (tv6_run_70_6 (e := e + 1) (ac := ac) x (by omega) (by omega) e_b (by omega) e_ra hac e_ac e_k) dX8_runFrom_59 s_46 rfl rfl (Nat.le_of_ble_eq_true rfl) (by decide) ⟨by decide, by decide⟩ (fun v s2 M5 J2 hq => ?_)
  obtain ⟨r7, rfl, rfl, rfl, k6, ⟨hr3, hx2, ht4⟩⟩ := hq
  try dsimp only [Option.toList, List.cons_append, List.nil_append]
  subst hr3
  refine xr_goto (tgt := 66) dX8_runFrom_62 rfl ?_
  exact xr_iret dX8_runFrom_66 rfl rfl (⟨_, rfl, rfl, rfl, (Ke.tr (fun _ _ h => h) Ke.rf k6), rfl, hx2, ht4⟩)
set_option maxRecDepth 100000 in
set_option maxHeartbeats 4000000 in
theorem tv6_own_0 {e ac : Nat} (x : Int32) (he : e + 2 ≤ 30) {l : Launch} {G : xG} {M : xM} {J : xJ} {b ra : Nat} (h_b : b ≤ 50) (e_b : M 46 2 = nI b) (h_ra : ra + 2 ≤ 900) (e_ra : M 46 3 = nI ra) (hac : ac < b) (e_ac : M 46 4 = nI ac) (e_k : M 47 ac = 6) : x_M l G fX8_own 6 0 0 [.ref (46), .int (0), .int (x), .int (nI (e))] x_SH M J (qKI WTN M J (fun r M2 => r = ((x + (nI (ac))) * 2) ∧ M2 46 3 = nI (ra + 2) ∧ TrA 48 ra [70, 1] M M2)) := by
  refine xb_of pX8 (Nat.le_of_ble_eq_true rfl) rfl ?_
  refine xr_aload_n dX8_own_0 0 rfl ?_
  refine xr_aload_n dX8_own_1 0 rfl ?_
  refine xb_get (v := nI (ac)) flX8_36 dX8_own_2 s_46 rfl e_ac ?_
  refine xb_cV (As := [.int (nI (ac))]) (rest := []) mlX8_43 (c_X8_has (nI (ac)) (by omega) e_b) dX8_own_5 s_46 rfl rfl (Nat.le_of_ble_eq_true rfl) (by decide) (by decide) ?_
  refine xb_beq (tgt := 30) dX8_own_8 rfl (fun c => absurd ⟨nI_pos' (by omega), nI_lt (by omega) (by omega)⟩ c) (fun _ => ?_)
  refine xr_aload_n dX8_own_11 0 rfl ?_
  refine xr_aload_n dX8_own_12 0 rfl ?_
  refine xr_getR flX8_9 dX8_own_13 s_46 rfl ?_
  refine xr_aload_n dX8_own_16 0 rfl ?_
  refine xb_get (v := nI (ac)) flX8_36 dX8_own_17 s_46 rfl e_ac ?_
  refine xb_iald (j := ac) (v := 6) dX8_own_20 s_47 (by omega) (by decide) e_k ?_
  refine xr_iload_n dX8_own_21 1 rfl ?_
  refine xr_iload_n dX8_own_22 2 rfl ?_
  refine xr_iload_n dX8_own_23 3 rfl ?_
  refine xr_callV (As := [.int (6), .int (0), .int (x), .int (nI (e))]) (rest := []) mlX8_46 (tv6_runFrom_6_0 (e := e) (ac := ac) x (by omega) (by omega) e_b (by omega) e_ra hac e_ac e_k) dX8_own_24 s_46 rfl rfl (Nat.le_of_ble_eq_true rfl) (by decide) ⟨by decide, by decide⟩ (fun v s2 M5 J2 hq => ?_)
  obtain ⟨r7, rfl, rfl, rfl, k6, ⟨hr3, hx2, ht4⟩⟩ := hq
  try dsimp only [Option.toList, List.cons_append, List.nil_append]
  subst hr3
  refine xr_goto (tgt := 31) dX8_own_27 rfl ?_
  exact xr_iret dX8_own_31 rfl rfl (⟨_, rfl, rfl, rfl, (Ke.tr (fun _ _ h => h) Ke.rf k6), rfl, hx2, ht4⟩)
set_option maxRecDepth 100000 in
set_option maxHeartbeats 4000000 in
theorem tw6_0 {ac b : Nat} (x : Int32) {l : Launch} {G : xG} {M : xM} {J : xJ} (h_b : b ≤ 50) (e_b : M 46 2 = nI b) (hac : ac < b) (e_k : M 47 ac = 6) : x_M l G fX8_perform 7 0 0 [.ref (46), .int (nI (ac)), .int (0), .int (x)] x_SH M J (qKI WTR M J (fun r M2 => M2 46 3 = nI 2 ∧ TrF 48 [70, 1] M2)) := by
  refine xb_of pX8 (Nat.le_of_ble_eq_true rfl) rfl ?_
  refine xr_aload_n dX8_perform_0 0 rfl ?_
  refine xr_iconst (v := 0) dX8_perform_1 rfl ?_
  refine xr_putI fpX8_33 dX8_perform_2 s_46 rfl rfl rfl ?_
  refine xr_aload_n dX8_perform_5 0 rfl ?_
  refine xr_iload_n dX8_perform_6 1 rfl ?_
  refine xr_putI fpX8_36 dX8_perform_7 s_46 rfl rfl rfl ?_
  refine xr_aload_n dX8_perform_10 0 rfl ?_
  refine xr_iload_n dX8_perform_11 2 rfl ?_
  refine xr_iload_n dX8_perform_12 3 rfl ?_
  refine xr_iconst (v := 0) dX8_perform_13 rfl ?_
  refine xr_callV (As := [.int (0), .int (x), .int (0)]) (rest := []) mlX8_39 (tv6_own_0 (e := 0) (ac := ac) (ra := 0) x (by omega) h_b (Eq.trans (x_up_k _ _ _ (by decide)) (Eq.trans (x_up_k _ _ _ (by decide)) e_b)) (by omega) (Eq.trans (x_up_k _ _ _ (by decide)) (x_up_s _ _ _ _)) hac (x_up_s _ _ _ _) (Eq.trans (congrFun (x_up_n _ _ _ (by decide)) _) (Eq.trans (congrFun (x_up_n _ _ _ (by decide)) _) e_k))) dX8_perform_14 s_46 rfl rfl (Nat.le_of_ble_eq_true rfl) (by decide) ⟨by decide, by decide⟩ (fun v s2 M4 J2 hq => ?_)
  obtain ⟨r6, rfl, rfl, rfl, k5, ⟨hr2, hx1, ht3⟩⟩ := hq
  try dsimp only [Option.toList, List.cons_append, List.nil_append]
  subst hr2
  exact xr_iret dX8_perform_17 rfl rfl (⟨_, rfl, rfl, rfl, (Ke.tr (fun pp kk => (fun hh => Or.elim hh (fun h => (Or.inl h)) (fun h => (Or.inr (Or.inr h))))) (Ke.up (Or.inr (Or.inl (by omega))) (Ke.up (Or.inl (by omega)) Ke.rf)) k5), ⟨(hx1.trans (congrArg nI (Nat.zero_add _))), TrA_F ht3⟩⟩)
set_option maxRecDepth 100000 in
set_option maxHeartbeats 4000000 in
theorem tv6_run_10_0 {e ac : Nat} (x : Int32) (he : e + 2 ≤ 30) {l : Launch} {G : xG} {M : xM} {J : xJ} {b ra : Nat} (h_b : b ≤ 50) (e_b : M 46 2 = nI b) (h_ra : ra + 3 ≤ 900) (e_ra : M 46 3 = nI ra) (hac : ac < b) (e_ac : M 46 4 = nI ac) (e_k : M 47 ac = 6) : x_M l G fX8_run 7 0 0 [.ref (46), .int (10), .int (0), .int (x), .int (nI (e))] x_SH M J (qKI WTN M J (fun r M2 => r = (((x + (nI (ac))) * 2) * 2) ∧ M2 46 3 = nI (ra + 3) ∧ TrA 48 ra [10, 70, 1] M M2)) := by
  refine xb_of pX8 (Nat.le_of_ble_eq_true rfl) rfl ?_
  refine xr_aload_n dX8_run_0 0 rfl ?_
  refine xr_iload_n dX8_run_1 1 rfl ?_
  refine xr_callV (As := [.int (10)]) (rest := []) mlX8_56 (gt_X8_note 10 (by omega) e_ra) dX8_run_2 s_46 rfl rfl (Nat.le_of_ble_eq_true rfl) (by decide) ⟨by decide, by decide⟩ (fun v s2 M3 J2 hq => ?_)
  obtain ⟨rfl, rfl, rfl, k4, ⟨hx1, ht2⟩⟩ := hq
  try dsimp only [Option.toList, List.cons_append, List.nil_append]
  refine xr_iload_n dX8_run_5 1 rfl ?_
  refine xr_lookup (tgt := 145) (off := 139) dX8_run_6 (by decide) (by decide) rfl ?_
  refine xr_aload_n dX8_run_145 0 rfl ?_
  refine xr_iconst (v := 0) dX8_run_146 rfl ?_
  refine xr_iload_n dX8_run_147 3 rfl ?_
  refine xr_iload dX8_run_148 4 rfl ?_
  refine xr_callV (As := [.int (0), .int (x), .int (nI (e))]) (rest := []) mlX8_39 (tv6_own_0 (e := e) (ac := ac) x (by omega) (by omega) (Eq.trans (k4 46 2 (by decide)) e_b) (by omega) hx1 hac (Eq.trans (k4 46 4 (by decide)) e_ac) (Eq.trans (k4 47 ac (by unfold WTN; omega)) e_k)) dX8_run_150 s_46 rfl rfl (Nat.le_of_ble_eq_true rfl) (by decide) ⟨by decide, by decide⟩ (fun v s2 M8 J2 hq => ?_)
  obtain ⟨r10, rfl, rfl, rfl, k9, ⟨hr6, hx5, ht7⟩⟩ := hq
  try dsimp only [Option.toList, List.cons_append, List.nil_append]
  subst hr6
  refine xr_iconst (v := 2) dX8_run_153 rfl ?_
  refine xr_imul dX8_run_154 ?_
  exact xr_iret dX8_run_155 rfl rfl (⟨_, rfl, rfl, rfl, (Ke.tr (fun _ _ h => h) (Ke.tr (fun _ _ h => h) Ke.rf k4) k9), rfl, hx5, (TrA_app (l := [10]) (m := [70, 1]) ht2 ht7)⟩)
set_option maxRecDepth 100000 in
set_option maxHeartbeats 4000000 in
theorem tv6_runFrom_6_1 {e ac : Nat} (x : Int32) (he : e + 3 ≤ 30) {l : Launch} {G : xG} {M : xM} {J : xJ} {b ra : Nat} (h_b : b ≤ 50) (e_b : M 46 2 = nI b) (h_ra : ra + 3 ≤ 900) (e_ra : M 46 3 = nI ra) (hac : ac < b) (e_ac : M 46 4 = nI ac) (e_k : M 47 ac = 6) : x_M l G fX8_runFrom 8 0 0 [.ref (46), .int (6), .int (1), .int (x), .int (nI (e))] x_SH M J (qKI WTN M J (fun r M2 => r = (((x + (nI (ac))) * 2) * 2) ∧ M2 46 3 = nI (ra + 3) ∧ TrA 48 ra [10, 70, 1] M M2)) := by
  refine xb_of pX8 (Nat.le_of_ble_eq_true rfl) rfl ?_
  refine xr_iload_n dX8_runFrom_0 1 rfl ?_
  refine xr_istore (ls2 := [(5, .int (6)), (0, .ref (46)), (1, .int (6)), (2, .int (1)), (3, .int (x)), (4, .int (nI (e)))]) dX8_runFrom_1 (by decide) rfl ?_
  refine xr_iconst (v := 0) dX8_runFrom_3 rfl ?_
  refine xr_istore (ls2 := [(6, .int (0)), (5, .int (6)), (0, .ref (46)), (1, .int (6)), (2, .int (1)), (3, .int (x)), (4, .int (nI (e)))]) dX8_runFrom_4 (by decide) rfl ?_
  refine xr_iload dX8_runFrom_6 0 rfl ?_
  refine xr_bipush (v := 8) dX8_runFrom_8 rfl ?_
  refine xr_icmp_ge (tgt := 81) dX8_runFrom_10 rfl (fun c => absurd c (by decide)) (fun _ => ?_)
  refine xr_iload dX8_runFrom_13 1 rfl ?_
  refine xb_cN (As := [.int (6)]) (rest := []) mlX8_26 (c_X9_isKind 6) dX8_runFrom_15 rfl rfl (Nat.le_of_ble_eq_true rfl) (by decide) (by decide) ?_
  refine xb_beq (tgt := 81) dX8_runFrom_18 rfl (fun c => absurd (by decide) c) (fun _ => ?_)
  refine xr_getsO slX8_50 dX8_runFrom_21 ?_
  refine xr_iload dX8_runFrom_24 1 rfl ?_
  refine xr_iconst (v := 4) dX8_runFrom_26 rfl ?_
  refine xr_imul dX8_runFrom_27 ?_
  refine xb_top (y := 24) (by decide) ?_
  refine xr_iload_n dX8_runFrom_28 4 rfl ?_
  refine xr_iadd dX8_runFrom_29 ?_
  refine xb_top (y := 25) (by decide) ?_
  refine xr_tabO (by unfold vp_in; decide) dX8_runFrom_30 ?_
  refine xb_top (y := 0) (by decide) ?_
  refine xr_if_eq (tgt := 67) dX8_runFrom_31 rfl (fun _ => ?_) (fun c => absurd (by decide) c)
  refine xr_getsA slX8_30 dX8_runFrom_67 ?_
  refine xr_iload dX8_runFrom_70 1 rfl ?_
  refine xr_tabA (by unfold vp_in; decide) dX8_runFrom_72 ?_
  refine xb_top (y := 0) (by decide) ?_
  refine xr_istore (ls2 := [(5, .int (0)), (6, .int (0)), (0, .ref (46)), (1, .int (6)), (2, .int (1)), (3, .int (x)), (4, .int (nI (e)))]) dX8_runFrom_73 (by decide) rfl ?_
  refine xr_iinc (v := 1) (ls2 := [(6, .int (1)), (5, .int (0)), (0, .ref (46)), (1, .int (6)), (2, .int (1)), (3, .int (x)), (4, .int (nI (e)))]) dX8_runFrom_75 1 rfl rfl (by decide) rfl ?_
  refine xr_goto (tgt := 6) dX8_runFrom_78 rfl ?_
  refine xr_iload dX8_runFrom_6 0 rfl ?_
  refine xr_bipush (v := 8) dX8_runFrom_8 rfl ?_
  refine xr_icmp_ge (tgt := 81) dX8_runFrom_10 rfl (fun c => absurd c (by decide)) (fun _ => ?_)
  refine xr_iload dX8_runFrom_13 1 rfl ?_
  refine xb_cN (As := [.int (0)]) (rest := []) mlX8_26 (c_X9_isKind 0) dX8_runFrom_15 rfl rfl (Nat.le_of_ble_eq_true rfl) (by decide) (by decide) ?_
  refine xb_beq (tgt := 81) dX8_runFrom_18 rfl (fun c => absurd (by decide) c) (fun _ => ?_)
  refine xr_getsO slX8_50 dX8_runFrom_21 ?_
  refine xr_iload dX8_runFrom_24 1 rfl ?_
  refine xr_iconst (v := 4) dX8_runFrom_26 rfl ?_
  refine xr_imul dX8_runFrom_27 ?_
  refine xb_top (y := 0) (by decide) ?_
  refine xr_iload_n dX8_runFrom_28 4 rfl ?_
  refine xr_iadd dX8_runFrom_29 ?_
  refine xb_top (y := 1) (by decide) ?_
  refine xr_tabO (by unfold vp_in; decide) dX8_runFrom_30 ?_
  refine xb_top (y := 10) (by decide) ?_
  refine xr_if_eq (tgt := 67) dX8_runFrom_31 rfl (fun c => absurd c (by decide)) (fun _ => ?_)
  refine xr_iload dX8_runFrom_34 6 rfl ?_
  refine xr_bipush (v := 30) dX8_runFrom_36 rfl ?_
  refine xr_icmp_ge (tgt := 65) dX8_runFrom_38 rfl (fun c => absurd c (nI_ge (a := e) (b := 30) (by omega) (by omega))) (fun _ => ?_)
  refine xr_aload_n dX8_runFrom_41 2 rfl ?_
  refine xr_getsO slX8_50 dX8_runFrom_42 ?_
  refine xr_iload dX8_runFrom_45 1 rfl ?_
  refine xr_iconst (v := 4) dX8_runFrom_47 rfl ?_
  refine xr_imul dX8_runFrom_48 ?_
  refine xb_top (y := 0) (by decide) ?_
  refine xr_iload_n dX8_runFrom_49 4 rfl ?_
  refine xr_iadd dX8_runFrom_50 ?_
  refine xb_top (y := 1) (by decide) ?_
  refine xr_tabO (by unfold vp_in; decide) dX8_runFrom_51 ?_
  refine xb_top (y := 10) (by decide) ?_
  refine xr_iload dX8_runFrom_52 1 rfl ?_
  refine xr_iload_n dX8_runFrom_54 5 rfl ?_
  refine xr_iload dX8_runFrom_55 6 rfl ?_
  refine xr_iconst (v := 1) dX8_runFrom_57 rfl ?_
  refine xr_iadd dX8_runFrom_58 ?_
  refine xb_top (y := nI (e + 1)) (nI_add (e) (1)) ?_
  refine xr_callV (As := [.int (10), .int (0), .int (x), .int (nI (e + 1))]) (rest := []) mlX8_53 (tv6_run_10_0 (e := e + 1) (ac := ac) x (by omega) (by omega) e_b (by omega) e_ra hac e_ac e_k) dX8_runFrom_59 s_46 rfl rfl (Nat.le_of_ble_eq_true rfl) (by decide) ⟨by decide, by decide⟩ (fun v s2 M6 J2 hq => ?_)
  obtain ⟨r8, rfl, rfl, rfl, k7, ⟨hr4, hx3, ht5⟩⟩ := hq
  try dsimp only [Option.toList, List.cons_append, List.nil_append]
  subst hr4
  refine xr_goto (tgt := 66) dX8_runFrom_62 rfl ?_
  exact xr_iret dX8_runFrom_66 rfl rfl (⟨_, rfl, rfl, rfl, (Ke.tr (fun _ _ h => h) Ke.rf k7), rfl, hx3, ht5⟩)
set_option maxRecDepth 100000 in
set_option maxHeartbeats 4000000 in
theorem tv6_own_1 {e ac : Nat} (x : Int32) (he : e + 3 ≤ 30) {l : Launch} {G : xG} {M : xM} {J : xJ} {b ra : Nat} (h_b : b ≤ 50) (e_b : M 46 2 = nI b) (h_ra : ra + 3 ≤ 900) (e_ra : M 46 3 = nI ra) (hac : ac < b) (e_ac : M 46 4 = nI ac) (e_k : M 47 ac = 6) : x_M l G fX8_own 9 0 0 [.ref (46), .int (1), .int (x), .int (nI (e))] x_SH M J (qKI WTN M J (fun r M2 => r = (((x + (nI (ac))) * 2) * 2) ∧ M2 46 3 = nI (ra + 3) ∧ TrA 48 ra [10, 70, 1] M M2)) := by
  refine xb_of pX8 (Nat.le_of_ble_eq_true rfl) rfl ?_
  refine xr_aload_n dX8_own_0 0 rfl ?_
  refine xr_aload_n dX8_own_1 0 rfl ?_
  refine xb_get (v := nI (ac)) flX8_36 dX8_own_2 s_46 rfl e_ac ?_
  refine xb_cV (As := [.int (nI (ac))]) (rest := []) mlX8_43 (c_X8_has (nI (ac)) (by omega) e_b) dX8_own_5 s_46 rfl rfl (Nat.le_of_ble_eq_true rfl) (by decide) (by decide) ?_
  refine xb_beq (tgt := 30) dX8_own_8 rfl (fun c => absurd ⟨nI_pos' (by omega), nI_lt (by omega) (by omega)⟩ c) (fun _ => ?_)
  refine xr_aload_n dX8_own_11 0 rfl ?_
  refine xr_aload_n dX8_own_12 0 rfl ?_
  refine xr_getR flX8_9 dX8_own_13 s_46 rfl ?_
  refine xr_aload_n dX8_own_16 0 rfl ?_
  refine xb_get (v := nI (ac)) flX8_36 dX8_own_17 s_46 rfl e_ac ?_
  refine xb_iald (j := ac) (v := 6) dX8_own_20 s_47 (by omega) (by decide) e_k ?_
  refine xr_iload_n dX8_own_21 1 rfl ?_
  refine xr_iload_n dX8_own_22 2 rfl ?_
  refine xr_iload_n dX8_own_23 3 rfl ?_
  refine xr_callV (As := [.int (6), .int (1), .int (x), .int (nI (e))]) (rest := []) mlX8_46 (tv6_runFrom_6_1 (e := e) (ac := ac) x (by omega) (by omega) e_b (by omega) e_ra hac e_ac e_k) dX8_own_24 s_46 rfl rfl (Nat.le_of_ble_eq_true rfl) (by decide) ⟨by decide, by decide⟩ (fun v s2 M5 J2 hq => ?_)
  obtain ⟨r7, rfl, rfl, rfl, k6, ⟨hr3, hx2, ht4⟩⟩ := hq
  try dsimp only [Option.toList, List.cons_append, List.nil_append]
  subst hr3
  refine xr_goto (tgt := 31) dX8_own_27 rfl ?_
  exact xr_iret dX8_own_31 rfl rfl (⟨_, rfl, rfl, rfl, (Ke.tr (fun _ _ h => h) Ke.rf k6), rfl, hx2, ht4⟩)
set_option maxRecDepth 100000 in
set_option maxHeartbeats 4000000 in
theorem tw6_1 {ac b : Nat} (x : Int32) {l : Launch} {G : xG} {M : xM} {J : xJ} (h_b : b ≤ 50) (e_b : M 46 2 = nI b) (hac : ac < b) (e_k : M 47 ac = 6) : x_M l G fX8_perform 10 0 0 [.ref (46), .int (nI (ac)), .int (1), .int (x)] x_SH M J (qKI WTR M J (fun r M2 => M2 46 3 = nI 3 ∧ TrF 48 [10, 70, 1] M2)) := by
  refine xb_of pX8 (Nat.le_of_ble_eq_true rfl) rfl ?_
  refine xr_aload_n dX8_perform_0 0 rfl ?_
  refine xr_iconst (v := 0) dX8_perform_1 rfl ?_
  refine xr_putI fpX8_33 dX8_perform_2 s_46 rfl rfl rfl ?_
  refine xr_aload_n dX8_perform_5 0 rfl ?_
  refine xr_iload_n dX8_perform_6 1 rfl ?_
  refine xr_putI fpX8_36 dX8_perform_7 s_46 rfl rfl rfl ?_
  refine xr_aload_n dX8_perform_10 0 rfl ?_
  refine xr_iload_n dX8_perform_11 2 rfl ?_
  refine xr_iload_n dX8_perform_12 3 rfl ?_
  refine xr_iconst (v := 0) dX8_perform_13 rfl ?_
  refine xr_callV (As := [.int (1), .int (x), .int (0)]) (rest := []) mlX8_39 (tv6_own_1 (e := 0) (ac := ac) (ra := 0) x (by omega) h_b (Eq.trans (x_up_k _ _ _ (by decide)) (Eq.trans (x_up_k _ _ _ (by decide)) e_b)) (by omega) (Eq.trans (x_up_k _ _ _ (by decide)) (x_up_s _ _ _ _)) hac (x_up_s _ _ _ _) (Eq.trans (congrFun (x_up_n _ _ _ (by decide)) _) (Eq.trans (congrFun (x_up_n _ _ _ (by decide)) _) e_k))) dX8_perform_14 s_46 rfl rfl (Nat.le_of_ble_eq_true rfl) (by decide) ⟨by decide, by decide⟩ (fun v s2 M4 J2 hq => ?_)
  obtain ⟨r6, rfl, rfl, rfl, k5, ⟨hr2, hx1, ht3⟩⟩ := hq
  try dsimp only [Option.toList, List.cons_append, List.nil_append]
  subst hr2
  exact xr_iret dX8_perform_17 rfl rfl (⟨_, rfl, rfl, rfl, (Ke.tr (fun pp kk => (fun hh => Or.elim hh (fun h => (Or.inl h)) (fun h => (Or.inr (Or.inr h))))) (Ke.up (Or.inr (Or.inl (by omega))) (Ke.up (Or.inl (by omega)) Ke.rf)) k5), ⟨(hx1.trans (congrArg nI (Nat.zero_add _))), TrA_F ht3⟩⟩)
set_option maxRecDepth 100000 in
set_option maxHeartbeats 4000000 in
theorem tv6_run_11_0 {e ac : Nat} (x : Int32) (he : e + 0 ≤ 30) {l : Launch} {G : xG} {M : xM} {J : xJ} {b ra : Nat} (h_b : b ≤ 50) (e_b : M 46 2 = nI b) (h_ra : ra + 1 ≤ 900) (e_ra : M 46 3 = nI ra) (hac : ac < b) (e_ac : M 46 4 = nI ac) (e_k : M 47 ac = 6) : x_M l G fX8_run 1 0 0 [.ref (46), .int (11), .int (0), .int (x), .int (nI (e))] x_SH M J (qKI WTN M J (fun r M2 => r = (x ^^^ (nI (ac))) ∧ M2 46 3 = nI (ra + 1) ∧ TrA 48 ra [11] M M2)) := by
  refine xb_of pX8 (Nat.le_of_ble_eq_true rfl) rfl ?_
  refine xr_aload_n dX8_run_0 0 rfl ?_
  refine xr_iload_n dX8_run_1 1 rfl ?_
  refine xr_callV (As := [.int (11)]) (rest := []) mlX8_56 (gt_X8_note 11 (by omega) e_ra) dX8_run_2 s_46 rfl rfl (Nat.le_of_ble_eq_true rfl) (by decide) ⟨by decide, by decide⟩ (fun v s2 M3 J2 hq => ?_)
  obtain ⟨rfl, rfl, rfl, k4, ⟨hx1, ht2⟩⟩ := hq
  try dsimp only [Option.toList, List.cons_append, List.nil_append]
  refine xr_iload_n dX8_run_5 1 rfl ?_
  refine xr_lookup (tgt := 156) (off := 150) dX8_run_6 (by decide) (by decide) rfl ?_
  refine xr_iload_n dX8_run_156 3 rfl ?_
  refine xr_aload_n dX8_run_157 0 rfl ?_
  refine xb_get (v := nI (ac)) flX8_36 dX8_run_158 s_46 rfl (Eq.trans (k4 46 4 (by decide)) e_ac) ?_
  refine xr_ixor dX8_run_161 ?_
  exact xr_iret dX8_run_162 rfl rfl (⟨_, rfl, rfl, rfl, (Ke.tr (fun _ _ h => h) Ke.rf k4), rfl, hx1, ht2⟩)
set_option maxRecDepth 100000 in
set_option maxHeartbeats 4000000 in
theorem tv6_runFrom_6_2 {e ac : Nat} (x : Int32) (he : e + 1 ≤ 30) {l : Launch} {G : xG} {M : xM} {J : xJ} {b ra : Nat} (h_b : b ≤ 50) (e_b : M 46 2 = nI b) (h_ra : ra + 1 ≤ 900) (e_ra : M 46 3 = nI ra) (hac : ac < b) (e_ac : M 46 4 = nI ac) (e_k : M 47 ac = 6) : x_M l G fX8_runFrom 2 0 0 [.ref (46), .int (6), .int (2), .int (x), .int (nI (e))] x_SH M J (qKI WTN M J (fun r M2 => r = (x ^^^ (nI (ac))) ∧ M2 46 3 = nI (ra + 1) ∧ TrA 48 ra [11] M M2)) := by
  refine xb_of pX8 (Nat.le_of_ble_eq_true rfl) rfl ?_
  refine xr_iload_n dX8_runFrom_0 1 rfl ?_
  refine xr_istore (ls2 := [(5, .int (6)), (0, .ref (46)), (1, .int (6)), (2, .int (2)), (3, .int (x)), (4, .int (nI (e)))]) dX8_runFrom_1 (by decide) rfl ?_
  refine xr_iconst (v := 0) dX8_runFrom_3 rfl ?_
  refine xr_istore (ls2 := [(6, .int (0)), (5, .int (6)), (0, .ref (46)), (1, .int (6)), (2, .int (2)), (3, .int (x)), (4, .int (nI (e)))]) dX8_runFrom_4 (by decide) rfl ?_
  refine xr_iload dX8_runFrom_6 0 rfl ?_
  refine xr_bipush (v := 8) dX8_runFrom_8 rfl ?_
  refine xr_icmp_ge (tgt := 81) dX8_runFrom_10 rfl (fun c => absurd c (by decide)) (fun _ => ?_)
  refine xr_iload dX8_runFrom_13 1 rfl ?_
  refine xb_cN (As := [.int (6)]) (rest := []) mlX8_26 (c_X9_isKind 6) dX8_runFrom_15 rfl rfl (Nat.le_of_ble_eq_true rfl) (by decide) (by decide) ?_
  refine xb_beq (tgt := 81) dX8_runFrom_18 rfl (fun c => absurd (by decide) c) (fun _ => ?_)
  refine xr_getsO slX8_50 dX8_runFrom_21 ?_
  refine xr_iload dX8_runFrom_24 1 rfl ?_
  refine xr_iconst (v := 4) dX8_runFrom_26 rfl ?_
  refine xr_imul dX8_runFrom_27 ?_
  refine xb_top (y := 24) (by decide) ?_
  refine xr_iload_n dX8_runFrom_28 4 rfl ?_
  refine xr_iadd dX8_runFrom_29 ?_
  refine xb_top (y := 26) (by decide) ?_
  refine xr_tabO (by unfold vp_in; decide) dX8_runFrom_30 ?_
  refine xb_top (y := 0) (by decide) ?_
  refine xr_if_eq (tgt := 67) dX8_runFrom_31 rfl (fun _ => ?_) (fun c => absurd (by decide) c)
  refine xr_getsA slX8_30 dX8_runFrom_67 ?_
  refine xr_iload dX8_runFrom_70 1 rfl ?_
  refine xr_tabA (by unfold vp_in; decide) dX8_runFrom_72 ?_
  refine xb_top (y := 0) (by decide) ?_
  refine xr_istore (ls2 := [(5, .int (0)), (6, .int (0)), (0, .ref (46)), (1, .int (6)), (2, .int (2)), (3, .int (x)), (4, .int (nI (e)))]) dX8_runFrom_73 (by decide) rfl ?_
  refine xr_iinc (v := 1) (ls2 := [(6, .int (1)), (5, .int (0)), (0, .ref (46)), (1, .int (6)), (2, .int (2)), (3, .int (x)), (4, .int (nI (e)))]) dX8_runFrom_75 1 rfl rfl (by decide) rfl ?_
  refine xr_goto (tgt := 6) dX8_runFrom_78 rfl ?_
  refine xr_iload dX8_runFrom_6 0 rfl ?_
  refine xr_bipush (v := 8) dX8_runFrom_8 rfl ?_
  refine xr_icmp_ge (tgt := 81) dX8_runFrom_10 rfl (fun c => absurd c (by decide)) (fun _ => ?_)
  refine xr_iload dX8_runFrom_13 1 rfl ?_
  refine xb_cN (As := [.int (0)]) (rest := []) mlX8_26 (c_X9_isKind 0) dX8_runFrom_15 rfl rfl (Nat.le_of_ble_eq_true rfl) (by decide) (by decide) ?_
  refine xb_beq (tgt := 81) dX8_runFrom_18 rfl (fun c => absurd (by decide) c) (fun _ => ?_)
  refine xr_getsO slX8_50 dX8_runFrom_21 ?_
  refine xr_iload dX8_runFrom_24 1 rfl ?_
  refine xr_iconst (v := 4) dX8_runFrom_26 rfl ?_
  refine xr_imul dX8_runFrom_27 ?_
  refine xb_top (y := 0) (by decide) ?_
  refine xr_iload_n dX8_runFrom_28 4 rfl ?_
  refine xr_iadd dX8_runFrom_29 ?_
  refine xb_top (y := 2) (by decide) ?_
  refine xr_tabO (by unfold vp_in; decide) dX8_runFrom_30 ?_
  refine xb_top (y := 11) (by decide) ?_
  refine xr_if_eq (tgt := 67) dX8_runFrom_31 rfl (fun c => absurd c (by decide)) (fun _ => ?_)
  refine xr_iload dX8_runFrom_34 6 rfl ?_
  refine xr_bipush (v := 30) dX8_runFrom_36 rfl ?_
  refine xr_icmp_ge (tgt := 65) dX8_runFrom_38 rfl (fun c => absurd c (nI_ge (a := e) (b := 30) (by omega) (by omega))) (fun _ => ?_)
  refine xr_aload_n dX8_runFrom_41 2 rfl ?_
  refine xr_getsO slX8_50 dX8_runFrom_42 ?_
  refine xr_iload dX8_runFrom_45 1 rfl ?_
  refine xr_iconst (v := 4) dX8_runFrom_47 rfl ?_
  refine xr_imul dX8_runFrom_48 ?_
  refine xb_top (y := 0) (by decide) ?_
  refine xr_iload_n dX8_runFrom_49 4 rfl ?_
  refine xr_iadd dX8_runFrom_50 ?_
  refine xb_top (y := 2) (by decide) ?_
  refine xr_tabO (by unfold vp_in; decide) dX8_runFrom_51 ?_
  refine xb_top (y := 11) (by decide) ?_
  refine xr_iload dX8_runFrom_52 1 rfl ?_
  refine xr_iload_n dX8_runFrom_54 5 rfl ?_
  refine xr_iload dX8_runFrom_55 6 rfl ?_
  refine xr_iconst (v := 1) dX8_runFrom_57 rfl ?_
  refine xr_iadd dX8_runFrom_58 ?_
  refine xb_top (y := nI (e + 1)) (nI_add (e) (1)) ?_
  refine xr_callV (As := [.int (11), .int (0), .int (x), .int (nI (e + 1))]) (rest := []) mlX8_53 (tv6_run_11_0 (e := e + 1) (ac := ac) x (by omega) (by omega) e_b (by omega) e_ra hac e_ac e_k) dX8_runFrom_59 s_46 rfl rfl (Nat.le_of_ble_eq_true rfl) (by decide) ⟨by decide, by decide⟩ (fun v s2 M6 J2 hq => ?_)
  obtain ⟨r8, rfl, rfl, rfl, k7, ⟨hr4, hx3, ht5⟩⟩ := hq
  try dsimp only [Option.toList, List.cons_append, List.nil_append]
  subst hr4
  refine xr_goto (tgt := 66) dX8_runFrom_62 rfl ?_
  exact xr_iret dX8_runFrom_66 rfl rfl (⟨_, rfl, rfl, rfl, (Ke.tr (fun _ _ h => h) Ke.rf k7), rfl, hx3, ht5⟩)
set_option maxRecDepth 100000 in
set_option maxHeartbeats 4000000 in
theorem tv6_own_2 {e ac : Nat} (x : Int32) (he : e + 1 ≤ 30) {l : Launch} {G : xG} {M : xM} {J : xJ} {b ra : Nat} (h_b : b ≤ 50) (e_b : M 46 2 = nI b) (h_ra : ra + 1 ≤ 900) (e_ra : M 46 3 = nI ra) (hac : ac < b) (e_ac : M 46 4 = nI ac) (e_k : M 47 ac = 6) : x_M l G fX8_own 3 0 0 [.ref (46), .int (2), .int (x), .int (nI (e))] x_SH M J (qKI WTN M J (fun r M2 => r = (x ^^^ (nI (ac))) ∧ M2 46 3 = nI (ra + 1) ∧ TrA 48 ra [11] M M2)) := by
  refine xb_of pX8 (Nat.le_of_ble_eq_true rfl) rfl ?_
  refine xr_aload_n dX8_own_0 0 rfl ?_
  refine xr_aload_n dX8_own_1 0 rfl ?_
  refine xb_get (v := nI (ac)) flX8_36 dX8_own_2 s_46 rfl e_ac ?_
  refine xb_cV (As := [.int (nI (ac))]) (rest := []) mlX8_43 (c_X8_has (nI (ac)) (by omega) e_b) dX8_own_5 s_46 rfl rfl (Nat.le_of_ble_eq_true rfl) (by decide) (by decide) ?_
  refine xb_beq (tgt := 30) dX8_own_8 rfl (fun c => absurd ⟨nI_pos' (by omega), nI_lt (by omega) (by omega)⟩ c) (fun _ => ?_)
  refine xr_aload_n dX8_own_11 0 rfl ?_
  refine xr_aload_n dX8_own_12 0 rfl ?_
  refine xr_getR flX8_9 dX8_own_13 s_46 rfl ?_
  refine xr_aload_n dX8_own_16 0 rfl ?_
  refine xb_get (v := nI (ac)) flX8_36 dX8_own_17 s_46 rfl e_ac ?_
  refine xb_iald (j := ac) (v := 6) dX8_own_20 s_47 (by omega) (by decide) e_k ?_
  refine xr_iload_n dX8_own_21 1 rfl ?_
  refine xr_iload_n dX8_own_22 2 rfl ?_
  refine xr_iload_n dX8_own_23 3 rfl ?_
  refine xr_callV (As := [.int (6), .int (2), .int (x), .int (nI (e))]) (rest := []) mlX8_46 (tv6_runFrom_6_2 (e := e) (ac := ac) x (by omega) (by omega) e_b (by omega) e_ra hac e_ac e_k) dX8_own_24 s_46 rfl rfl (Nat.le_of_ble_eq_true rfl) (by decide) ⟨by decide, by decide⟩ (fun v s2 M5 J2 hq => ?_)
  obtain ⟨r7, rfl, rfl, rfl, k6, ⟨hr3, hx2, ht4⟩⟩ := hq
  try dsimp only [Option.toList, List.cons_append, List.nil_append]
  subst hr3
  refine xr_goto (tgt := 31) dX8_own_27 rfl ?_
  exact xr_iret dX8_own_31 rfl rfl (⟨_, rfl, rfl, rfl, (Ke.tr (fun _ _ h => h) Ke.rf k6), rfl, hx2, ht4⟩)
set_option maxRecDepth 100000 in
set_option maxHeartbeats 4000000 in
theorem tw6_2 {ac b : Nat} (x : Int32) {l : Launch} {G : xG} {M : xM} {J : xJ} (h_b : b ≤ 50) (e_b : M 46 2 = nI b) (hac : ac < b) (e_k : M 47 ac = 6) : x_M l G fX8_perform 4 0 0 [.ref (46), .int (nI (ac)), .int (2), .int (x)] x_SH M J (qKI WTR M J (fun r M2 => M2 46 3 = nI 1 ∧ TrF 48 [11] M2)) := by
  refine xb_of pX8 (Nat.le_of_ble_eq_true rfl) rfl ?_
  refine xr_aload_n dX8_perform_0 0 rfl ?_
  refine xr_iconst (v := 0) dX8_perform_1 rfl ?_
  refine xr_putI fpX8_33 dX8_perform_2 s_46 rfl rfl rfl ?_
  refine xr_aload_n dX8_perform_5 0 rfl ?_
  refine xr_iload_n dX8_perform_6 1 rfl ?_
  refine xr_putI fpX8_36 dX8_perform_7 s_46 rfl rfl rfl ?_
  refine xr_aload_n dX8_perform_10 0 rfl ?_
  refine xr_iload_n dX8_perform_11 2 rfl ?_
  refine xr_iload_n dX8_perform_12 3 rfl ?_
  refine xr_iconst (v := 0) dX8_perform_13 rfl ?_
  refine xr_callV (As := [.int (2), .int (x), .int (0)]) (rest := []) mlX8_39 (tv6_own_2 (e := 0) (ac := ac) (ra := 0) x (by omega) h_b (Eq.trans (x_up_k _ _ _ (by decide)) (Eq.trans (x_up_k _ _ _ (by decide)) e_b)) (by omega) (Eq.trans (x_up_k _ _ _ (by decide)) (x_up_s _ _ _ _)) hac (x_up_s _ _ _ _) (Eq.trans (congrFun (x_up_n _ _ _ (by decide)) _) (Eq.trans (congrFun (x_up_n _ _ _ (by decide)) _) e_k))) dX8_perform_14 s_46 rfl rfl (Nat.le_of_ble_eq_true rfl) (by decide) ⟨by decide, by decide⟩ (fun v s2 M4 J2 hq => ?_)
  obtain ⟨r6, rfl, rfl, rfl, k5, ⟨hr2, hx1, ht3⟩⟩ := hq
  try dsimp only [Option.toList, List.cons_append, List.nil_append]
  subst hr2
  exact xr_iret dX8_perform_17 rfl rfl (⟨_, rfl, rfl, rfl, (Ke.tr (fun pp kk => (fun hh => Or.elim hh (fun h => (Or.inl h)) (fun h => (Or.inr (Or.inr h))))) (Ke.up (Or.inr (Or.inl (by omega))) (Ke.up (Or.inl (by omega)) Ke.rf)) k5), ⟨(hx1.trans (congrArg nI (Nat.zero_add _))), TrA_F ht3⟩⟩)
set_option maxRecDepth 100000 in
set_option maxHeartbeats 4000000 in
theorem tv6_run_2_0 {e ac : Nat} (x : Int32) (he : e + 3 ≤ 30) {l : Launch} {G : xG} {M : xM} {J : xJ} {b ra : Nat} (h_b : b ≤ 50) (e_b : M 46 2 = nI b) (h_ra : ra + 5 ≤ 900) (e_ra : M 46 3 = nI ra) (hac : ac < b) (e_ac : M 46 4 = nI ac) (e_k : M 47 ac = 6) : x_M l G fX8_run 10 0 0 [.ref (46), .int (2), .int (0), .int (x), .int (nI (e))] x_SH M J (qKI WTN M J (fun r M2 => r = ((((x + (nI (ac))) * 2) * 2) - (1 ^^^ (nI (ac)))) ∧ M2 46 3 = nI (ra + 5) ∧ TrA 48 ra [2, 10, 70, 1, 11] M M2)) := by
  refine xb_of pX8 (Nat.le_of_ble_eq_true rfl) rfl ?_
  refine xr_aload_n dX8_run_0 0 rfl ?_
  refine xr_iload_n dX8_run_1 1 rfl ?_
  refine xr_callV (As := [.int (2)]) (rest := []) mlX8_56 (gt_X8_note 2 (by omega) e_ra) dX8_run_2 s_46 rfl rfl (Nat.le_of_ble_eq_true rfl) (by decide) ⟨by decide, by decide⟩ (fun v s2 M3 J2 hq => ?_)
  obtain ⟨rfl, rfl, rfl, k4, ⟨hx1, ht2⟩⟩ := hq
  try dsimp only [Option.toList, List.cons_append, List.nil_append]
  refine xr_iload_n dX8_run_5 1 rfl ?_
  refine xr_lookup (tgt := 127) (off := 121) dX8_run_6 (by decide) (by decide) rfl ?_
  refine xr_aload_n dX8_run_127 0 rfl ?_
  refine xr_iconst (v := 1) dX8_run_128 rfl ?_
  refine xr_iload_n dX8_run_129 3 rfl ?_
  refine xr_iload dX8_run_130 4 rfl ?_
  refine xr_callV (As := [.int (1), .int (x), .int (nI (e))]) (rest := []) mlX8_39 (tv6_own_1 (e := e) (ac := ac) x (by omega) (by omega) (Eq.trans (k4 46 2 (by decide)) e_b) (by omega) hx1 hac (Eq.trans (k4 46 4 (by decide)) e_ac) (Eq.trans (k4 47 ac (by unfold WTN; omega)) e_k)) dX8_run_132 s_46 rfl rfl (Nat.le_of_ble_eq_true rfl) (by decide) ⟨by decide, by decide⟩ (fun v s2 M8 J2 hq => ?_)
  obtain ⟨r10, rfl, rfl, rfl, k9, ⟨hr6, hx5, ht7⟩⟩ := hq
  try dsimp only [Option.toList, List.cons_append, List.nil_append]
  subst hr6
  refine xr_aload_n dX8_run_135 0 rfl ?_
  refine xr_iconst (v := 2) dX8_run_136 rfl ?_
  refine xr_iconst (v := 1) dX8_run_137 rfl ?_
  refine xr_iload dX8_run_138 4 rfl ?_
  refine xr_callV (As := [.int (2), .int (1), .int (nI (e))]) (rest := [.int ((((x + (nI (ac))) * 2) * 2))]) mlX8_39 (tv6_own_2 (e := e) (ac := ac) 1 (by omega) (by omega) (Eq.trans (k9 46 2 (by decide)) (Eq.trans (k4 46 2 (by decide)) e_b)) (by omega) hx5 hac (Eq.trans (k9 46 4 (by decide)) (Eq.trans (k4 46 4 (by decide)) e_ac)) (Eq.trans (k9 47 ac (by unfold WTN; omega)) (Eq.trans (k4 47 ac (by unfold WTN; omega)) e_k))) dX8_run_140 s_46 rfl rfl (Nat.le_of_ble_eq_true rfl) (by decide) ⟨by decide, by decide⟩ (fun v s2 M14 J2 hq => ?_)
  obtain ⟨r16, rfl, rfl, rfl, k15, ⟨hr12, hx11, ht13⟩⟩ := hq
  try dsimp only [Option.toList, List.cons_append, List.nil_append]
  subst hr12
  refine xr_isub dX8_run_143 ?_
  exact xr_iret dX8_run_144 rfl rfl (⟨_, rfl, rfl, rfl, (Ke.tr (fun _ _ h => h) (Ke.tr (fun _ _ h => h) (Ke.tr (fun _ _ h => h) Ke.rf k4) k9) k15), rfl, hx11, (TrA_app (l := [2, 10, 70, 1]) (m := [11]) (TrA_app (l := [2]) (m := [10, 70, 1]) ht2 ht7) ht13)⟩)
set_option maxRecDepth 100000 in
set_option maxHeartbeats 4000000 in
theorem tv6_runFrom_6_3 {e ac : Nat} (x : Int32) (he : e + 4 ≤ 30) {l : Launch} {G : xG} {M : xM} {J : xJ} {b ra : Nat} (h_b : b ≤ 50) (e_b : M 46 2 = nI b) (h_ra : ra + 5 ≤ 900) (e_ra : M 46 3 = nI ra) (hac : ac < b) (e_ac : M 46 4 = nI ac) (e_k : M 47 ac = 6) : x_M l G fX8_runFrom 11 0 0 [.ref (46), .int (6), .int (3), .int (x), .int (nI (e))] x_SH M J (qKI WTN M J (fun r M2 => r = ((((x + (nI (ac))) * 2) * 2) - (1 ^^^ (nI (ac)))) ∧ M2 46 3 = nI (ra + 5) ∧ TrA 48 ra [2, 10, 70, 1, 11] M M2)) := by
  refine xb_of pX8 (Nat.le_of_ble_eq_true rfl) rfl ?_
  refine xr_iload_n dX8_runFrom_0 1 rfl ?_
  refine xr_istore (ls2 := [(5, .int (6)), (0, .ref (46)), (1, .int (6)), (2, .int (3)), (3, .int (x)), (4, .int (nI (e)))]) dX8_runFrom_1 (by decide) rfl ?_
  refine xr_iconst (v := 0) dX8_runFrom_3 rfl ?_
  refine xr_istore (ls2 := [(6, .int (0)), (5, .int (6)), (0, .ref (46)), (1, .int (6)), (2, .int (3)), (3, .int (x)), (4, .int (nI (e)))]) dX8_runFrom_4 (by decide) rfl ?_
  refine xr_iload dX8_runFrom_6 0 rfl ?_
  refine xr_bipush (v := 8) dX8_runFrom_8 rfl ?_
  refine xr_icmp_ge (tgt := 81) dX8_runFrom_10 rfl (fun c => absurd c (by decide)) (fun _ => ?_)
  refine xr_iload dX8_runFrom_13 1 rfl ?_
  refine xb_cN (As := [.int (6)]) (rest := []) mlX8_26 (c_X9_isKind 6) dX8_runFrom_15 rfl rfl (Nat.le_of_ble_eq_true rfl) (by decide) (by decide) ?_
  refine xb_beq (tgt := 81) dX8_runFrom_18 rfl (fun c => absurd (by decide) c) (fun _ => ?_)
  refine xr_getsO slX8_50 dX8_runFrom_21 ?_
  refine xr_iload dX8_runFrom_24 1 rfl ?_
  refine xr_iconst (v := 4) dX8_runFrom_26 rfl ?_
  refine xr_imul dX8_runFrom_27 ?_
  refine xb_top (y := 24) (by decide) ?_
  refine xr_iload_n dX8_runFrom_28 4 rfl ?_
  refine xr_iadd dX8_runFrom_29 ?_
  refine xb_top (y := 27) (by decide) ?_
  refine xr_tabO (by unfold vp_in; decide) dX8_runFrom_30 ?_
  refine xb_top (y := 0) (by decide) ?_
  refine xr_if_eq (tgt := 67) dX8_runFrom_31 rfl (fun _ => ?_) (fun c => absurd (by decide) c)
  refine xr_getsA slX8_30 dX8_runFrom_67 ?_
  refine xr_iload dX8_runFrom_70 1 rfl ?_
  refine xr_tabA (by unfold vp_in; decide) dX8_runFrom_72 ?_
  refine xb_top (y := 0) (by decide) ?_
  refine xr_istore (ls2 := [(5, .int (0)), (6, .int (0)), (0, .ref (46)), (1, .int (6)), (2, .int (3)), (3, .int (x)), (4, .int (nI (e)))]) dX8_runFrom_73 (by decide) rfl ?_
  refine xr_iinc (v := 1) (ls2 := [(6, .int (1)), (5, .int (0)), (0, .ref (46)), (1, .int (6)), (2, .int (3)), (3, .int (x)), (4, .int (nI (e)))]) dX8_runFrom_75 1 rfl rfl (by decide) rfl ?_
  refine xr_goto (tgt := 6) dX8_runFrom_78 rfl ?_
  refine xr_iload dX8_runFrom_6 0 rfl ?_
  refine xr_bipush (v := 8) dX8_runFrom_8 rfl ?_
  refine xr_icmp_ge (tgt := 81) dX8_runFrom_10 rfl (fun c => absurd c (by decide)) (fun _ => ?_)
  refine xr_iload dX8_runFrom_13 1 rfl ?_
  refine xb_cN (As := [.int (0)]) (rest := []) mlX8_26 (c_X9_isKind 0) dX8_runFrom_15 rfl rfl (Nat.le_of_ble_eq_true rfl) (by decide) (by decide) ?_
  refine xb_beq (tgt := 81) dX8_runFrom_18 rfl (fun c => absurd (by decide) c) (fun _ => ?_)
  refine xr_getsO slX8_50 dX8_runFrom_21 ?_
  refine xr_iload dX8_runFrom_24 1 rfl ?_
  refine xr_iconst (v := 4) dX8_runFrom_26 rfl ?_
  refine xr_imul dX8_runFrom_27 ?_
  refine xb_top (y := 0) (by decide) ?_
  refine xr_iload_n dX8_runFrom_28 4 rfl ?_
  refine xr_iadd dX8_runFrom_29 ?_
  refine xb_top (y := 3) (by decide) ?_
  refine xr_tabO (by unfold vp_in; decide) dX8_runFrom_30 ?_
  refine xb_top (y := 2) (by decide) ?_
  refine xr_if_eq (tgt := 67) dX8_runFrom_31 rfl (fun c => absurd c (by decide)) (fun _ => ?_)
  refine xr_iload dX8_runFrom_34 6 rfl ?_
  refine xr_bipush (v := 30) dX8_runFrom_36 rfl ?_
  refine xr_icmp_ge (tgt := 65) dX8_runFrom_38 rfl (fun c => absurd c (nI_ge (a := e) (b := 30) (by omega) (by omega))) (fun _ => ?_)
  refine xr_aload_n dX8_runFrom_41 2 rfl ?_
  refine xr_getsO slX8_50 dX8_runFrom_42 ?_
  refine xr_iload dX8_runFrom_45 1 rfl ?_
  refine xr_iconst (v := 4) dX8_runFrom_47 rfl ?_
  refine xr_imul dX8_runFrom_48 ?_
  refine xb_top (y := 0) (by decide) ?_
  refine xr_iload_n dX8_runFrom_49 4 rfl ?_
  refine xr_iadd dX8_runFrom_50 ?_
  refine xb_top (y := 3) (by decide) ?_
  refine xr_tabO (by unfold vp_in; decide) dX8_runFrom_51 ?_
  refine xb_top (y := 2) (by decide) ?_
  refine xr_iload dX8_runFrom_52 1 rfl ?_
  refine xr_iload_n dX8_runFrom_54 5 rfl ?_
  refine xr_iload dX8_runFrom_55 6 rfl ?_
  refine xr_iconst (v := 1) dX8_runFrom_57 rfl ?_
  refine xr_iadd dX8_runFrom_58 ?_
  refine xb_top (y := nI (e + 1)) (nI_add (e) (1)) ?_
  refine xr_callV (As := [.int (2), .int (0), .int (x), .int (nI (e + 1))]) (rest := []) mlX8_53 (tv6_run_2_0 (e := e + 1) (ac := ac) x (by omega) (by omega) e_b (by omega) e_ra hac e_ac e_k) dX8_runFrom_59 s_46 rfl rfl (Nat.le_of_ble_eq_true rfl) (by decide) ⟨by decide, by decide⟩ (fun v s2 M6 J2 hq => ?_)
  obtain ⟨r8, rfl, rfl, rfl, k7, ⟨hr4, hx3, ht5⟩⟩ := hq
  try dsimp only [Option.toList, List.cons_append, List.nil_append]
  subst hr4
  refine xr_goto (tgt := 66) dX8_runFrom_62 rfl ?_
  exact xr_iret dX8_runFrom_66 rfl rfl (⟨_, rfl, rfl, rfl, (Ke.tr (fun _ _ h => h) Ke.rf k7), rfl, hx3, ht5⟩)
set_option maxRecDepth 100000 in
set_option maxHeartbeats 4000000 in
theorem tv6_own_3 {e ac : Nat} (x : Int32) (he : e + 4 ≤ 30) {l : Launch} {G : xG} {M : xM} {J : xJ} {b ra : Nat} (h_b : b ≤ 50) (e_b : M 46 2 = nI b) (h_ra : ra + 5 ≤ 900) (e_ra : M 46 3 = nI ra) (hac : ac < b) (e_ac : M 46 4 = nI ac) (e_k : M 47 ac = 6) : x_M l G fX8_own 12 0 0 [.ref (46), .int (3), .int (x), .int (nI (e))] x_SH M J (qKI WTN M J (fun r M2 => r = ((((x + (nI (ac))) * 2) * 2) - (1 ^^^ (nI (ac)))) ∧ M2 46 3 = nI (ra + 5) ∧ TrA 48 ra [2, 10, 70, 1, 11] M M2)) := by
  refine xb_of pX8 (Nat.le_of_ble_eq_true rfl) rfl ?_
  refine xr_aload_n dX8_own_0 0 rfl ?_
  refine xr_aload_n dX8_own_1 0 rfl ?_
  refine xb_get (v := nI (ac)) flX8_36 dX8_own_2 s_46 rfl e_ac ?_
  refine xb_cV (As := [.int (nI (ac))]) (rest := []) mlX8_43 (c_X8_has (nI (ac)) (by omega) e_b) dX8_own_5 s_46 rfl rfl (Nat.le_of_ble_eq_true rfl) (by decide) (by decide) ?_
  refine xb_beq (tgt := 30) dX8_own_8 rfl (fun c => absurd ⟨nI_pos' (by omega), nI_lt (by omega) (by omega)⟩ c) (fun _ => ?_)
  refine xr_aload_n dX8_own_11 0 rfl ?_
  refine xr_aload_n dX8_own_12 0 rfl ?_
  refine xr_getR flX8_9 dX8_own_13 s_46 rfl ?_
  refine xr_aload_n dX8_own_16 0 rfl ?_
  refine xb_get (v := nI (ac)) flX8_36 dX8_own_17 s_46 rfl e_ac ?_
  refine xb_iald (j := ac) (v := 6) dX8_own_20 s_47 (by omega) (by decide) e_k ?_
  refine xr_iload_n dX8_own_21 1 rfl ?_
  refine xr_iload_n dX8_own_22 2 rfl ?_
  refine xr_iload_n dX8_own_23 3 rfl ?_
  refine xr_callV (As := [.int (6), .int (3), .int (x), .int (nI (e))]) (rest := []) mlX8_46 (tv6_runFrom_6_3 (e := e) (ac := ac) x (by omega) (by omega) e_b (by omega) e_ra hac e_ac e_k) dX8_own_24 s_46 rfl rfl (Nat.le_of_ble_eq_true rfl) (by decide) ⟨by decide, by decide⟩ (fun v s2 M5 J2 hq => ?_)
  obtain ⟨r7, rfl, rfl, rfl, k6, ⟨hr3, hx2, ht4⟩⟩ := hq
  try dsimp only [Option.toList, List.cons_append, List.nil_append]
  subst hr3
  refine xr_goto (tgt := 31) dX8_own_27 rfl ?_
  exact xr_iret dX8_own_31 rfl rfl (⟨_, rfl, rfl, rfl, (Ke.tr (fun _ _ h => h) Ke.rf k6), rfl, hx2, ht4⟩)
set_option maxRecDepth 100000 in
set_option maxHeartbeats 4000000 in
theorem tw6_3 {ac b : Nat} (x : Int32) {l : Launch} {G : xG} {M : xM} {J : xJ} (h_b : b ≤ 50) (e_b : M 46 2 = nI b) (hac : ac < b) (e_k : M 47 ac = 6) : x_M l G fX8_perform 13 0 0 [.ref (46), .int (nI (ac)), .int (3), .int (x)] x_SH M J (qKI WTR M J (fun r M2 => M2 46 3 = nI 5 ∧ TrF 48 [2, 10, 70, 1, 11] M2)) := by
  refine xb_of pX8 (Nat.le_of_ble_eq_true rfl) rfl ?_
  refine xr_aload_n dX8_perform_0 0 rfl ?_
  refine xr_iconst (v := 0) dX8_perform_1 rfl ?_
  refine xr_putI fpX8_33 dX8_perform_2 s_46 rfl rfl rfl ?_
  refine xr_aload_n dX8_perform_5 0 rfl ?_
  refine xr_iload_n dX8_perform_6 1 rfl ?_
  refine xr_putI fpX8_36 dX8_perform_7 s_46 rfl rfl rfl ?_
  refine xr_aload_n dX8_perform_10 0 rfl ?_
  refine xr_iload_n dX8_perform_11 2 rfl ?_
  refine xr_iload_n dX8_perform_12 3 rfl ?_
  refine xr_iconst (v := 0) dX8_perform_13 rfl ?_
  refine xr_callV (As := [.int (3), .int (x), .int (0)]) (rest := []) mlX8_39 (tv6_own_3 (e := 0) (ac := ac) (ra := 0) x (by omega) h_b (Eq.trans (x_up_k _ _ _ (by decide)) (Eq.trans (x_up_k _ _ _ (by decide)) e_b)) (by omega) (Eq.trans (x_up_k _ _ _ (by decide)) (x_up_s _ _ _ _)) hac (x_up_s _ _ _ _) (Eq.trans (congrFun (x_up_n _ _ _ (by decide)) _) (Eq.trans (congrFun (x_up_n _ _ _ (by decide)) _) e_k))) dX8_perform_14 s_46 rfl rfl (Nat.le_of_ble_eq_true rfl) (by decide) ⟨by decide, by decide⟩ (fun v s2 M4 J2 hq => ?_)
  obtain ⟨r6, rfl, rfl, rfl, k5, ⟨hr2, hx1, ht3⟩⟩ := hq
  try dsimp only [Option.toList, List.cons_append, List.nil_append]
  subst hr2
  exact xr_iret dX8_perform_17 rfl rfl (⟨_, rfl, rfl, rfl, (Ke.tr (fun pp kk => (fun hh => Or.elim hh (fun h => (Or.inl h)) (fun h => (Or.inr (Or.inr h))))) (Ke.up (Or.inr (Or.inl (by omega))) (Ke.up (Or.inl (by omega)) Ke.rf)) k5), ⟨(hx1.trans (congrArg nI (Nat.zero_add _))), TrA_F ht3⟩⟩)
set_option maxRecDepth 100000 in
set_option maxHeartbeats 4000000 in
theorem tv7_run_1_0 {e ac : Nat} (x : Int32) (he : e + 0 ≤ 30) {l : Launch} {G : xG} {M : xM} {J : xJ} {b ra : Nat} (h_b : b ≤ 50) (e_b : M 46 2 = nI b) (h_ra : ra + 1 ≤ 900) (e_ra : M 46 3 = nI ra) (hac : ac < b) (e_ac : M 46 4 = nI ac) (e_k : M 47 ac = 7) : x_M l G fX8_run 1 0 0 [.ref (46), .int (1), .int (0), .int (x), .int (nI (e))] x_SH M J (qKI WTN M J (fun r M2 => r = (x + (nI (ac))) ∧ M2 46 3 = nI (ra + 1) ∧ TrA 48 ra [1] M M2)) := by
  refine xb_of pX8 (Nat.le_of_ble_eq_true rfl) rfl ?_
  refine xr_aload_n dX8_run_0 0 rfl ?_
  refine xr_iload_n dX8_run_1 1 rfl ?_
  refine xr_callV (As := [.int (1)]) (rest := []) mlX8_56 (gt_X8_note 1 (by omega) e_ra) dX8_run_2 s_46 rfl rfl (Nat.le_of_ble_eq_true rfl) (by decide) ⟨by decide, by decide⟩ (fun v s2 M3 J2 hq => ?_)
  obtain ⟨rfl, rfl, rfl, k4, ⟨hx1, ht2⟩⟩ := hq
  try dsimp only [Option.toList, List.cons_append, List.nil_append]
  refine xr_iload_n dX8_run_5 1 rfl ?_
  refine xr_lookup (tgt := 120) (off := 114) dX8_run_6 (by decide) (by decide) rfl ?_
  refine xr_iload_n dX8_run_120 3 rfl ?_
  refine xr_aload_n dX8_run_121 0 rfl ?_
  refine xb_get (v := nI (ac)) flX8_36 dX8_run_122 s_46 rfl (Eq.trans (k4 46 4 (by decide)) e_ac) ?_
  refine xr_iadd dX8_run_125 ?_
  exact xr_iret dX8_run_126 rfl rfl (⟨_, rfl, rfl, rfl, (Ke.tr (fun _ _ h => h) Ke.rf k4), rfl, hx1, ht2⟩)
set_option maxRecDepth 100000 in
set_option maxHeartbeats 4000000 in
theorem tv7_runFrom_0_0 {e ac : Nat} (x : Int32) (he : e + 1 ≤ 30) {l : Launch} {G : xG} {M : xM} {J : xJ} {b ra : Nat} (h_b : b ≤ 50) (e_b : M 46 2 = nI b) (h_ra : ra + 1 ≤ 900) (e_ra : M 46 3 = nI ra) (hac : ac < b) (e_ac : M 46 4 = nI ac) (e_k : M 47 ac = 7) : x_M l G fX8_runFrom 2 0 0 [.ref (46), .int (0), .int (0), .int (x), .int (nI (e))] x_SH M J (qKI WTN M J (fun r M2 => r = (x + (nI (ac))) ∧ M2 46 3 = nI (ra + 1) ∧ TrA 48 ra [1] M M2)) := by
  refine xb_of pX8 (Nat.le_of_ble_eq_true rfl) rfl ?_
  refine xr_iload_n dX8_runFrom_0 1 rfl ?_
  refine xr_istore (ls2 := [(5, .int (0)), (0, .ref (46)), (1, .int (0)), (2, .int (0)), (3, .int (x)), (4, .int (nI (e)))]) dX8_runFrom_1 (by decide) rfl ?_
  refine xr_iconst (v := 0) dX8_runFrom_3 rfl ?_
  refine xr_istore (ls2 := [(6, .int (0)), (5, .int (0)), (0, .ref (46)), (1, .int (0)), (2, .int (0)), (3, .int (x)), (4, .int (nI (e)))]) dX8_runFrom_4 (by decide) rfl ?_
  refine xr_iload dX8_runFrom_6 0 rfl ?_
  refine xr_bipush (v := 8) dX8_runFrom_8 rfl ?_
  refine xr_icmp_ge (tgt := 81) dX8_runFrom_10 rfl (fun c => absurd c (by decide)) (fun _ => ?_)
  refine xr_iload dX8_runFrom_13 1 rfl ?_
  refine xb_cN (As := [.int (0)]) (rest := []) mlX8_26 (c_X9_isKind 0) dX8_runFrom_15 rfl rfl (Nat.le_of_ble_eq_true rfl) (by decide) (by decide) ?_
  refine xb_beq (tgt := 81) dX8_runFrom_18 rfl (fun c => absurd (by decide) c) (fun _ => ?_)
  refine xr_getsO slX8_50 dX8_runFrom_21 ?_
  refine xr_iload dX8_runFrom_24 1 rfl ?_
  refine xr_iconst (v := 4) dX8_runFrom_26 rfl ?_
  refine xr_imul dX8_runFrom_27 ?_
  refine xb_top (y := 0) (by decide) ?_
  refine xr_iload_n dX8_runFrom_28 4 rfl ?_
  refine xr_iadd dX8_runFrom_29 ?_
  refine xb_top (y := 0) (by decide) ?_
  refine xr_tabO (by unfold vp_in; decide) dX8_runFrom_30 ?_
  refine xb_top (y := 1) (by decide) ?_
  refine xr_if_eq (tgt := 67) dX8_runFrom_31 rfl (fun c => absurd c (by decide)) (fun _ => ?_)
  refine xr_iload dX8_runFrom_34 6 rfl ?_
  refine xr_bipush (v := 30) dX8_runFrom_36 rfl ?_
  refine xr_icmp_ge (tgt := 65) dX8_runFrom_38 rfl (fun c => absurd c (nI_ge (a := e) (b := 30) (by omega) (by omega))) (fun _ => ?_)
  refine xr_aload_n dX8_runFrom_41 2 rfl ?_
  refine xr_getsO slX8_50 dX8_runFrom_42 ?_
  refine xr_iload dX8_runFrom_45 1 rfl ?_
  refine xr_iconst (v := 4) dX8_runFrom_47 rfl ?_
  refine xr_imul dX8_runFrom_48 ?_
  refine xb_top (y := 0) (by decide) ?_
  refine xr_iload_n dX8_runFrom_49 4 rfl ?_
  refine xr_iadd dX8_runFrom_50 ?_
  refine xb_top (y := 0) (by decide) ?_
  refine xr_tabO (by unfold vp_in; decide) dX8_runFrom_51 ?_
  refine xb_top (y := 1) (by decide) ?_
  refine xr_iload dX8_runFrom_52 1 rfl ?_
  refine xr_iload_n dX8_runFrom_54 5 rfl ?_
  refine xr_iload dX8_runFrom_55 6 rfl ?_
  refine xr_iconst (v := 1) dX8_runFrom_57 rfl ?_
  refine xr_iadd dX8_runFrom_58 ?_
  refine xb_top (y := nI (e + 1)) (nI_add (e) (1)) ?_
  refine xr_callV (As := [.int (1), .int (0), .int (x), .int (nI (e + 1))]) (rest := []) mlX8_53 (tv7_run_1_0 (e := e + 1) (ac := ac) x (by omega) (by omega) e_b (by omega) e_ra hac e_ac e_k) dX8_runFrom_59 s_46 rfl rfl (Nat.le_of_ble_eq_true rfl) (by decide) ⟨by decide, by decide⟩ (fun v s2 M5 J2 hq => ?_)
  obtain ⟨r7, rfl, rfl, rfl, k6, ⟨hr3, hx2, ht4⟩⟩ := hq
  try dsimp only [Option.toList, List.cons_append, List.nil_append]
  subst hr3
  refine xr_goto (tgt := 66) dX8_runFrom_62 rfl ?_
  exact xr_iret dX8_runFrom_66 rfl rfl (⟨_, rfl, rfl, rfl, (Ke.tr (fun _ _ h => h) Ke.rf k6), rfl, hx2, ht4⟩)
set_option maxRecDepth 100000 in
set_option maxHeartbeats 4000000 in
theorem tv7_above_1_0 {e ac : Nat} (x : Int32) (he : e + 1 ≤ 30) {l : Launch} {G : xG} {M : xM} {J : xJ} {b ra : Nat} (h_b : b ≤ 50) (e_b : M 46 2 = nI b) (h_ra : ra + 1 ≤ 900) (e_ra : M 46 3 = nI ra) (hac : ac < b) (e_ac : M 46 4 = nI ac) (e_k : M 47 ac = 7) : x_M l G fX8_above 3 0 0 [.ref (46), .int (1), .int (0), .int (x), .int (nI (e))] x_SH M J (qKI WTN M J (fun r M2 => r = (x + (nI (ac))) ∧ M2 46 3 = nI (ra + 1) ∧ TrA 48 ra [1] M M2)) := by
  refine xb_of pX8 (Nat.le_of_ble_eq_true rfl) rfl ?_
  refine xr_iload_n dX8_above_0 1 rfl ?_
  refine xb_cN (As := [.int (1)]) (rest := []) mlX8_26 (c_X9_isKind 1) dX8_above_1 rfl rfl (Nat.le_of_ble_eq_true rfl) (by decide) (by decide) ?_
  refine xb_beq (tgt := 23) dX8_above_4 rfl (fun c => absurd (by decide) c) (fun _ => ?_)
  refine xr_aload_n dX8_above_7 0 rfl ?_
  refine xr_getsA slX8_30 dX8_above_8 ?_
  refine xr_iload_n dX8_above_11 1 rfl ?_
  refine xr_tabA (by unfold vp_in; decide) dX8_above_12 ?_
  refine xb_top (y := 0) (by decide) ?_
  refine xr_iload_n dX8_above_13 2 rfl ?_
  refine xr_iload_n dX8_above_14 3 rfl ?_
  refine xr_iload dX8_above_15 4 rfl ?_
  refine xr_callV (As := [.int (0), .int (0), .int (x), .int (nI (e))]) (rest := []) mlX8_46 (tv7_runFrom_0_0 (e := e) (ac := ac) x (by omega) (by omega) e_b (by omega) e_ra hac e_ac e_k) dX8_above_17 s_46 rfl rfl (Nat.le_of_ble_eq_true rfl) (by decide) ⟨by decide, by decide⟩ (fun v s2 M5 J2 hq => ?_)
  obtain ⟨r7, rfl, rfl, rfl, k6, ⟨hr3, hx2, ht4⟩⟩ := hq
  try dsimp only [Option.toList, List.cons_append, List.nil_append]
  subst hr3
  refine xr_goto (tgt := 24) dX8_above_20 rfl ?_
  exact xr_iret dX8_above_24 rfl rfl (⟨_, rfl, rfl, rfl, (Ke.tr (fun _ _ h => h) Ke.rf k6), rfl, hx2, ht4⟩)
set_option maxRecDepth 100000 in
set_option maxHeartbeats 4000000 in
theorem tv7_run_20_1 {e ac : Nat} (x : Int32) (he : e + 1 ≤ 30) {l : Launch} {G : xG} {M : xM} {J : xJ} {b ra : Nat} (h_b : b ≤ 50) (e_b : M 46 2 = nI b) (h_ra : ra + 2 ≤ 900) (e_ra : M 46 3 = nI ra) (hac : ac < b) (e_ac : M 46 4 = nI ac) (e_k : M 47 ac = 7) : x_M l G fX8_run 4 0 0 [.ref (46), .int (20), .int (1), .int (x), .int (nI (e))] x_SH M J (qKI WTN M J (fun r M2 => r = ((x + (nI (ac))) + 3) ∧ M2 46 3 = nI (ra + 2) ∧ TrA 48 ra [20, 1] M M2)) := by
  refine xb_of pX8 (Nat.le_of_ble_eq_true rfl) rfl ?_
  refine xr_aload_n dX8_run_0 0 rfl ?_
  refine xr_iload_n dX8_run_1 1 rfl ?_
  refine xr_callV (As := [.int (20)]) (rest := []) mlX8_56 (gt_X8_note 20 (by omega) e_ra) dX8_run_2 s_46 rfl rfl (Nat.le_of_ble_eq_true rfl) (by decide) ⟨by decide, by decide⟩ (fun v s2 M3 J2 hq => ?_)
  obtain ⟨rfl, rfl, rfl, k4, ⟨hx1, ht2⟩⟩ := hq
  try dsimp only [Option.toList, List.cons_append, List.nil_append]
  refine xr_iload_n dX8_run_5 1 rfl ?_
  refine xr_lookup (tgt := 163) (off := 157) dX8_run_6 (by decide) (by decide) rfl ?_
  refine xr_aload_n dX8_run_163 0 rfl ?_
  refine xr_iload_n dX8_run_164 2 rfl ?_
  refine xr_iconst (v := 0) dX8_run_165 rfl ?_
  refine xr_iload_n dX8_run_166 3 rfl ?_
  refine xr_iload dX8_run_167 4 rfl ?_
  refine xr_callV (As := [.int (1), .int (0), .int (x), .int (nI (e))]) (rest := []) mlX8_60 (tv7_above_1_0 (e := e) (ac := ac) x (by omega) (by omega) (Eq.trans (k4 46 2 (by decide)) e_b) (by omega) hx1 hac (Eq.trans (k4 46 4 (by decide)) e_ac) (Eq.trans (k4 47 ac (by unfold WTN; omega)) e_k)) dX8_run_169 s_46 rfl rfl (Nat.le_of_ble_eq_true rfl) (by decide) ⟨by decide, by decide⟩ (fun v s2 M8 J2 hq => ?_)
  obtain ⟨r10, rfl, rfl, rfl, k9, ⟨hr6, hx5, ht7⟩⟩ := hq
  try dsimp only [Option.toList, List.cons_append, List.nil_append]
  subst hr6
  refine xr_iconst (v := 3) dX8_run_172 rfl ?_
  refine xr_iadd dX8_run_173 ?_
  exact xr_iret dX8_run_174 rfl rfl (⟨_, rfl, rfl, rfl, (Ke.tr (fun _ _ h => h) (Ke.tr (fun _ _ h => h) Ke.rf k4) k9), rfl, hx5, (TrA_app (l := [20]) (m := [1]) ht2 ht7)⟩)
set_option maxRecDepth 100000 in
set_option maxHeartbeats 4000000 in
theorem tv7_runFrom_7_0 {e ac : Nat} (x : Int32) (he : e + 2 ≤ 30) {l : Launch} {G : xG} {M : xM} {J : xJ} {b ra : Nat} (h_b : b ≤ 50) (e_b : M 46 2 = nI b) (h_ra : ra + 2 ≤ 900) (e_ra : M 46 3 = nI ra) (hac : ac < b) (e_ac : M 46 4 = nI ac) (e_k : M 47 ac = 7) : x_M l G fX8_runFrom 5 0 0 [.ref (46), .int (7), .int (0), .int (x), .int (nI (e))] x_SH M J (qKI WTN M J (fun r M2 => r = ((x + (nI (ac))) + 3) ∧ M2 46 3 = nI (ra + 2) ∧ TrA 48 ra [20, 1] M M2)) := by
  refine xb_of pX8 (Nat.le_of_ble_eq_true rfl) rfl ?_
  refine xr_iload_n dX8_runFrom_0 1 rfl ?_
  refine xr_istore (ls2 := [(5, .int (7)), (0, .ref (46)), (1, .int (7)), (2, .int (0)), (3, .int (x)), (4, .int (nI (e)))]) dX8_runFrom_1 (by decide) rfl ?_
  refine xr_iconst (v := 0) dX8_runFrom_3 rfl ?_
  refine xr_istore (ls2 := [(6, .int (0)), (5, .int (7)), (0, .ref (46)), (1, .int (7)), (2, .int (0)), (3, .int (x)), (4, .int (nI (e)))]) dX8_runFrom_4 (by decide) rfl ?_
  refine xr_iload dX8_runFrom_6 0 rfl ?_
  refine xr_bipush (v := 8) dX8_runFrom_8 rfl ?_
  refine xr_icmp_ge (tgt := 81) dX8_runFrom_10 rfl (fun c => absurd c (by decide)) (fun _ => ?_)
  refine xr_iload dX8_runFrom_13 1 rfl ?_
  refine xb_cN (As := [.int (7)]) (rest := []) mlX8_26 (c_X9_isKind 7) dX8_runFrom_15 rfl rfl (Nat.le_of_ble_eq_true rfl) (by decide) (by decide) ?_
  refine xb_beq (tgt := 81) dX8_runFrom_18 rfl (fun c => absurd (by decide) c) (fun _ => ?_)
  refine xr_getsO slX8_50 dX8_runFrom_21 ?_
  refine xr_iload dX8_runFrom_24 1 rfl ?_
  refine xr_iconst (v := 4) dX8_runFrom_26 rfl ?_
  refine xr_imul dX8_runFrom_27 ?_
  refine xb_top (y := 28) (by decide) ?_
  refine xr_iload_n dX8_runFrom_28 4 rfl ?_
  refine xr_iadd dX8_runFrom_29 ?_
  refine xb_top (y := 28) (by decide) ?_
  refine xr_tabO (by unfold vp_in; decide) dX8_runFrom_30 ?_
  refine xb_top (y := 0) (by decide) ?_
  refine xr_if_eq (tgt := 67) dX8_runFrom_31 rfl (fun _ => ?_) (fun c => absurd (by decide) c)
  refine xr_getsA slX8_30 dX8_runFrom_67 ?_
  refine xr_iload dX8_runFrom_70 1 rfl ?_
  refine xr_tabA (by unfold vp_in; decide) dX8_runFrom_72 ?_
  refine xb_top (y := 4) (by decide) ?_
  refine xr_istore (ls2 := [(5, .int (4)), (6, .int (0)), (0, .ref (46)), (1, .int (7)), (2, .int (0)), (3, .int (x)), (4, .int (nI (e)))]) dX8_runFrom_73 (by decide) rfl ?_
  refine xr_iinc (v := 1) (ls2 := [(6, .int (1)), (5, .int (4)), (0, .ref (46)), (1, .int (7)), (2, .int (0)), (3, .int (x)), (4, .int (nI (e)))]) dX8_runFrom_75 1 rfl rfl (by decide) rfl ?_
  refine xr_goto (tgt := 6) dX8_runFrom_78 rfl ?_
  refine xr_iload dX8_runFrom_6 0 rfl ?_
  refine xr_bipush (v := 8) dX8_runFrom_8 rfl ?_
  refine xr_icmp_ge (tgt := 81) dX8_runFrom_10 rfl (fun c => absurd c (by decide)) (fun _ => ?_)
  refine xr_iload dX8_runFrom_13 1 rfl ?_
  refine xb_cN (As := [.int (4)]) (rest := []) mlX8_26 (c_X9_isKind 4) dX8_runFrom_15 rfl rfl (Nat.le_of_ble_eq_true rfl) (by decide) (by decide) ?_
  refine xb_beq (tgt := 81) dX8_runFrom_18 rfl (fun c => absurd (by decide) c) (fun _ => ?_)
  refine xr_getsO slX8_50 dX8_runFrom_21 ?_
  refine xr_iload dX8_runFrom_24 1 rfl ?_
  refine xr_iconst (v := 4) dX8_runFrom_26 rfl ?_
  refine xr_imul dX8_runFrom_27 ?_
  refine xb_top (y := 16) (by decide) ?_
  refine xr_iload_n dX8_runFrom_28 4 rfl ?_
  refine xr_iadd dX8_runFrom_29 ?_
  refine xb_top (y := 16) (by decide) ?_
  refine xr_tabO (by unfold vp_in; decide) dX8_runFrom_30 ?_
  refine xb_top (y := 0) (by decide) ?_
  refine xr_if_eq (tgt := 67) dX8_runFrom_31 rfl (fun _ => ?_) (fun c => absurd (by decide) c)
  refine xr_getsA slX8_30 dX8_runFrom_67 ?_
  refine xr_iload dX8_runFrom_70 1 rfl ?_
  refine xr_tabA (by unfold vp_in; decide) dX8_runFrom_72 ?_
  refine xb_top (y := 1) (by decide) ?_
  refine xr_istore (ls2 := [(5, .int (1)), (6, .int (1)), (0, .ref (46)), (1, .int (7)), (2, .int (0)), (3, .int (x)), (4, .int (nI (e)))]) dX8_runFrom_73 (by decide) rfl ?_
  refine xr_iinc (v := 2) (ls2 := [(6, .int (2)), (5, .int (1)), (0, .ref (46)), (1, .int (7)), (2, .int (0)), (3, .int (x)), (4, .int (nI (e)))]) dX8_runFrom_75 1 rfl rfl (by decide) rfl ?_
  refine xr_goto (tgt := 6) dX8_runFrom_78 rfl ?_
  refine xr_iload dX8_runFrom_6 0 rfl ?_
  refine xr_bipush (v := 8) dX8_runFrom_8 rfl ?_
  refine xr_icmp_ge (tgt := 81) dX8_runFrom_10 rfl (fun c => absurd c (by decide)) (fun _ => ?_)
  refine xr_iload dX8_runFrom_13 1 rfl ?_
  refine xb_cN (As := [.int (1)]) (rest := []) mlX8_26 (c_X9_isKind 1) dX8_runFrom_15 rfl rfl (Nat.le_of_ble_eq_true rfl) (by decide) (by decide) ?_
  refine xb_beq (tgt := 81) dX8_runFrom_18 rfl (fun c => absurd (by decide) c) (fun _ => ?_)
  refine xr_getsO slX8_50 dX8_runFrom_21 ?_
  refine xr_iload dX8_runFrom_24 1 rfl ?_
  refine xr_iconst (v := 4) dX8_runFrom_26 rfl ?_
  refine xr_imul dX8_runFrom_27 ?_
  refine xb_top (y := 4) (by decide) ?_
  refine xr_iload_n dX8_runFrom_28 4 rfl ?_
  refine xr_iadd dX8_runFrom_29 ?_
  refine xb_top (y := 4) (by decide) ?_
  refine xr_tabO (by unfold vp_in; decide) dX8_runFrom_30 ?_
  refine xb_top (y := 20) (by decide) ?_
  refine xr_if_eq (tgt := 67) dX8_runFrom_31 rfl (fun c => absurd c (by decide)) (fun _ => ?_)
  refine xr_iload dX8_runFrom_34 6 rfl ?_
  refine xr_bipush (v := 30) dX8_runFrom_36 rfl ?_
  refine xr_icmp_ge (tgt := 65) dX8_runFrom_38 rfl (fun c => absurd c (nI_ge (a := e) (b := 30) (by omega) (by omega))) (fun _ => ?_)
  refine xr_aload_n dX8_runFrom_41 2 rfl ?_
  refine xr_getsO slX8_50 dX8_runFrom_42 ?_
  refine xr_iload dX8_runFrom_45 1 rfl ?_
  refine xr_iconst (v := 4) dX8_runFrom_47 rfl ?_
  refine xr_imul dX8_runFrom_48 ?_
  refine xb_top (y := 4) (by decide) ?_
  refine xr_iload_n dX8_runFrom_49 4 rfl ?_
  refine xr_iadd dX8_runFrom_50 ?_
  refine xb_top (y := 4) (by decide) ?_
  refine xr_tabO (by unfold vp_in; decide) dX8_runFrom_51 ?_
  refine xb_top (y := 20) (by decide) ?_
  refine xr_iload dX8_runFrom_52 1 rfl ?_
  refine xr_iload_n dX8_runFrom_54 5 rfl ?_
  refine xr_iload dX8_runFrom_55 6 rfl ?_
  refine xr_iconst (v := 1) dX8_runFrom_57 rfl ?_
  refine xr_iadd dX8_runFrom_58 ?_
  refine xb_top (y := nI (e + 1)) (nI_add (e) (1)) ?_
  refine xr_callV (As := [.int (20), .int (1), .int (x), .int (nI (e + 1))]) (rest := []) mlX8_53 (tv7_run_20_1 (e := e + 1) (ac := ac) x (by omega) (by omega) e_b (by omega) e_ra hac e_ac e_k) dX8_runFrom_59 s_46 rfl rfl (Nat.le_of_ble_eq_true rfl) (by decide) ⟨by decide, by decide⟩ (fun v s2 M7 J2 hq => ?_)
  obtain ⟨r9, rfl, rfl, rfl, k8, ⟨hr5, hx4, ht6⟩⟩ := hq
  try dsimp only [Option.toList, List.cons_append, List.nil_append]
  subst hr5
  refine xr_goto (tgt := 66) dX8_runFrom_62 rfl ?_
  exact xr_iret dX8_runFrom_66 rfl rfl (⟨_, rfl, rfl, rfl, (Ke.tr (fun _ _ h => h) Ke.rf k8), rfl, hx4, ht6⟩)
set_option maxRecDepth 100000 in
set_option maxHeartbeats 4000000 in
theorem tv7_own_0 {e ac : Nat} (x : Int32) (he : e + 2 ≤ 30) {l : Launch} {G : xG} {M : xM} {J : xJ} {b ra : Nat} (h_b : b ≤ 50) (e_b : M 46 2 = nI b) (h_ra : ra + 2 ≤ 900) (e_ra : M 46 3 = nI ra) (hac : ac < b) (e_ac : M 46 4 = nI ac) (e_k : M 47 ac = 7) : x_M l G fX8_own 6 0 0 [.ref (46), .int (0), .int (x), .int (nI (e))] x_SH M J (qKI WTN M J (fun r M2 => r = ((x + (nI (ac))) + 3) ∧ M2 46 3 = nI (ra + 2) ∧ TrA 48 ra [20, 1] M M2)) := by
  refine xb_of pX8 (Nat.le_of_ble_eq_true rfl) rfl ?_
  refine xr_aload_n dX8_own_0 0 rfl ?_
  refine xr_aload_n dX8_own_1 0 rfl ?_
  refine xb_get (v := nI (ac)) flX8_36 dX8_own_2 s_46 rfl e_ac ?_
  refine xb_cV (As := [.int (nI (ac))]) (rest := []) mlX8_43 (c_X8_has (nI (ac)) (by omega) e_b) dX8_own_5 s_46 rfl rfl (Nat.le_of_ble_eq_true rfl) (by decide) (by decide) ?_
  refine xb_beq (tgt := 30) dX8_own_8 rfl (fun c => absurd ⟨nI_pos' (by omega), nI_lt (by omega) (by omega)⟩ c) (fun _ => ?_)
  refine xr_aload_n dX8_own_11 0 rfl ?_
  refine xr_aload_n dX8_own_12 0 rfl ?_
  refine xr_getR flX8_9 dX8_own_13 s_46 rfl ?_
  refine xr_aload_n dX8_own_16 0 rfl ?_
  refine xb_get (v := nI (ac)) flX8_36 dX8_own_17 s_46 rfl e_ac ?_
  refine xb_iald (j := ac) (v := 7) dX8_own_20 s_47 (by omega) (by decide) e_k ?_
  refine xr_iload_n dX8_own_21 1 rfl ?_
  refine xr_iload_n dX8_own_22 2 rfl ?_
  refine xr_iload_n dX8_own_23 3 rfl ?_
  refine xr_callV (As := [.int (7), .int (0), .int (x), .int (nI (e))]) (rest := []) mlX8_46 (tv7_runFrom_7_0 (e := e) (ac := ac) x (by omega) (by omega) e_b (by omega) e_ra hac e_ac e_k) dX8_own_24 s_46 rfl rfl (Nat.le_of_ble_eq_true rfl) (by decide) ⟨by decide, by decide⟩ (fun v s2 M5 J2 hq => ?_)
  obtain ⟨r7, rfl, rfl, rfl, k6, ⟨hr3, hx2, ht4⟩⟩ := hq
  try dsimp only [Option.toList, List.cons_append, List.nil_append]
  subst hr3
  refine xr_goto (tgt := 31) dX8_own_27 rfl ?_
  exact xr_iret dX8_own_31 rfl rfl (⟨_, rfl, rfl, rfl, (Ke.tr (fun _ _ h => h) Ke.rf k6), rfl, hx2, ht4⟩)
set_option maxRecDepth 100000 in
set_option maxHeartbeats 4000000 in
theorem tw7_0 {ac b : Nat} (x : Int32) {l : Launch} {G : xG} {M : xM} {J : xJ} (h_b : b ≤ 50) (e_b : M 46 2 = nI b) (hac : ac < b) (e_k : M 47 ac = 7) : x_M l G fX8_perform 7 0 0 [.ref (46), .int (nI (ac)), .int (0), .int (x)] x_SH M J (qKI WTR M J (fun r M2 => M2 46 3 = nI 2 ∧ TrF 48 [20, 1] M2)) := by
  refine xb_of pX8 (Nat.le_of_ble_eq_true rfl) rfl ?_
  refine xr_aload_n dX8_perform_0 0 rfl ?_
  refine xr_iconst (v := 0) dX8_perform_1 rfl ?_
  refine xr_putI fpX8_33 dX8_perform_2 s_46 rfl rfl rfl ?_
  refine xr_aload_n dX8_perform_5 0 rfl ?_
  refine xr_iload_n dX8_perform_6 1 rfl ?_
  refine xr_putI fpX8_36 dX8_perform_7 s_46 rfl rfl rfl ?_
  refine xr_aload_n dX8_perform_10 0 rfl ?_
  refine xr_iload_n dX8_perform_11 2 rfl ?_
  refine xr_iload_n dX8_perform_12 3 rfl ?_
  refine xr_iconst (v := 0) dX8_perform_13 rfl ?_
  refine xr_callV (As := [.int (0), .int (x), .int (0)]) (rest := []) mlX8_39 (tv7_own_0 (e := 0) (ac := ac) (ra := 0) x (by omega) h_b (Eq.trans (x_up_k _ _ _ (by decide)) (Eq.trans (x_up_k _ _ _ (by decide)) e_b)) (by omega) (Eq.trans (x_up_k _ _ _ (by decide)) (x_up_s _ _ _ _)) hac (x_up_s _ _ _ _) (Eq.trans (congrFun (x_up_n _ _ _ (by decide)) _) (Eq.trans (congrFun (x_up_n _ _ _ (by decide)) _) e_k))) dX8_perform_14 s_46 rfl rfl (Nat.le_of_ble_eq_true rfl) (by decide) ⟨by decide, by decide⟩ (fun v s2 M4 J2 hq => ?_)
  obtain ⟨r6, rfl, rfl, rfl, k5, ⟨hr2, hx1, ht3⟩⟩ := hq
  try dsimp only [Option.toList, List.cons_append, List.nil_append]
  subst hr2
  exact xr_iret dX8_perform_17 rfl rfl (⟨_, rfl, rfl, rfl, (Ke.tr (fun pp kk => (fun hh => Or.elim hh (fun h => (Or.inl h)) (fun h => (Or.inr (Or.inr h))))) (Ke.up (Or.inr (Or.inl (by omega))) (Ke.up (Or.inl (by omega)) Ke.rf)) k5), ⟨(hx1.trans (congrArg nI (Nat.zero_add _))), TrA_F ht3⟩⟩)
set_option maxRecDepth 100000 in
set_option maxHeartbeats 4000000 in
theorem tv7_run_10_0 {e ac : Nat} (x : Int32) (he : e + 2 ≤ 30) {l : Launch} {G : xG} {M : xM} {J : xJ} {b ra : Nat} (h_b : b ≤ 50) (e_b : M 46 2 = nI b) (h_ra : ra + 3 ≤ 900) (e_ra : M 46 3 = nI ra) (hac : ac < b) (e_ac : M 46 4 = nI ac) (e_k : M 47 ac = 7) : x_M l G fX8_run 7 0 0 [.ref (46), .int (10), .int (0), .int (x), .int (nI (e))] x_SH M J (qKI WTN M J (fun r M2 => r = (((x + (nI (ac))) + 3) * 2) ∧ M2 46 3 = nI (ra + 3) ∧ TrA 48 ra [10, 20, 1] M M2)) := by
  refine xb_of pX8 (Nat.le_of_ble_eq_true rfl) rfl ?_
  refine xr_aload_n dX8_run_0 0 rfl ?_
  refine xr_iload_n dX8_run_1 1 rfl ?_
  refine xr_callV (As := [.int (10)]) (rest := []) mlX8_56 (gt_X8_note 10 (by omega) e_ra) dX8_run_2 s_46 rfl rfl (Nat.le_of_ble_eq_true rfl) (by decide) ⟨by decide, by decide⟩ (fun v s2 M3 J2 hq => ?_)
  obtain ⟨rfl, rfl, rfl, k4, ⟨hx1, ht2⟩⟩ := hq
  try dsimp only [Option.toList, List.cons_append, List.nil_append]
  refine xr_iload_n dX8_run_5 1 rfl ?_
  refine xr_lookup (tgt := 145) (off := 139) dX8_run_6 (by decide) (by decide) rfl ?_
  refine xr_aload_n dX8_run_145 0 rfl ?_
  refine xr_iconst (v := 0) dX8_run_146 rfl ?_
  refine xr_iload_n dX8_run_147 3 rfl ?_
  refine xr_iload dX8_run_148 4 rfl ?_
  refine xr_callV (As := [.int (0), .int (x), .int (nI (e))]) (rest := []) mlX8_39 (tv7_own_0 (e := e) (ac := ac) x (by omega) (by omega) (Eq.trans (k4 46 2 (by decide)) e_b) (by omega) hx1 hac (Eq.trans (k4 46 4 (by decide)) e_ac) (Eq.trans (k4 47 ac (by unfold WTN; omega)) e_k)) dX8_run_150 s_46 rfl rfl (Nat.le_of_ble_eq_true rfl) (by decide) ⟨by decide, by decide⟩ (fun v s2 M8 J2 hq => ?_)
  obtain ⟨r10, rfl, rfl, rfl, k9, ⟨hr6, hx5, ht7⟩⟩ := hq
  try dsimp only [Option.toList, List.cons_append, List.nil_append]
  subst hr6
  refine xr_iconst (v := 2) dX8_run_153 rfl ?_
  refine xr_imul dX8_run_154 ?_
  exact xr_iret dX8_run_155 rfl rfl (⟨_, rfl, rfl, rfl, (Ke.tr (fun _ _ h => h) (Ke.tr (fun _ _ h => h) Ke.rf k4) k9), rfl, hx5, (TrA_app (l := [10]) (m := [20, 1]) ht2 ht7)⟩)
set_option maxRecDepth 100000 in
set_option maxHeartbeats 4000000 in
theorem tv7_runFrom_4_1 {e ac : Nat} (x : Int32) (he : e + 3 ≤ 30) {l : Launch} {G : xG} {M : xM} {J : xJ} {b ra : Nat} (h_b : b ≤ 50) (e_b : M 46 2 = nI b) (h_ra : ra + 3 ≤ 900) (e_ra : M 46 3 = nI ra) (hac : ac < b) (e_ac : M 46 4 = nI ac) (e_k : M 47 ac = 7) : x_M l G fX8_runFrom 8 0 0 [.ref (46), .int (4), .int (1), .int (x), .int (nI (e))] x_SH M J (qKI WTN M J (fun r M2 => r = (((x + (nI (ac))) + 3) * 2) ∧ M2 46 3 = nI (ra + 3) ∧ TrA 48 ra [10, 20, 1] M M2)) := by
  refine xb_of pX8 (Nat.le_of_ble_eq_true rfl) rfl ?_
  refine xr_iload_n dX8_runFrom_0 1 rfl ?_
  refine xr_istore (ls2 := [(5, .int (4)), (0, .ref (46)), (1, .int (4)), (2, .int (1)), (3, .int (x)), (4, .int (nI (e)))]) dX8_runFrom_1 (by decide) rfl ?_
  refine xr_iconst (v := 0) dX8_runFrom_3 rfl ?_
  refine xr_istore (ls2 := [(6, .int (0)), (5, .int (4)), (0, .ref (46)), (1, .int (4)), (2, .int (1)), (3, .int (x)), (4, .int (nI (e)))]) dX8_runFrom_4 (by decide) rfl ?_
  refine xr_iload dX8_runFrom_6 0 rfl ?_
  refine xr_bipush (v := 8) dX8_runFrom_8 rfl ?_
  refine xr_icmp_ge (tgt := 81) dX8_runFrom_10 rfl (fun c => absurd c (by decide)) (fun _ => ?_)
  refine xr_iload dX8_runFrom_13 1 rfl ?_
  refine xb_cN (As := [.int (4)]) (rest := []) mlX8_26 (c_X9_isKind 4) dX8_runFrom_15 rfl rfl (Nat.le_of_ble_eq_true rfl) (by decide) (by decide) ?_
  refine xb_beq (tgt := 81) dX8_runFrom_18 rfl (fun c => absurd (by decide) c) (fun _ => ?_)
  refine xr_getsO slX8_50 dX8_runFrom_21 ?_
  refine xr_iload dX8_runFrom_24 1 rfl ?_
  refine xr_iconst (v := 4) dX8_runFrom_26 rfl ?_
  refine xr_imul dX8_runFrom_27 ?_
  refine xb_top (y := 16) (by decide) ?_
  refine xr_iload_n dX8_runFrom_28 4 rfl ?_
  refine xr_iadd dX8_runFrom_29 ?_
  refine xb_top (y := 17) (by decide) ?_
  refine xr_tabO (by unfold vp_in; decide) dX8_runFrom_30 ?_
  refine xb_top (y := 0) (by decide) ?_
  refine xr_if_eq (tgt := 67) dX8_runFrom_31 rfl (fun _ => ?_) (fun c => absurd (by decide) c)
  refine xr_getsA slX8_30 dX8_runFrom_67 ?_
  refine xr_iload dX8_runFrom_70 1 rfl ?_
  refine xr_tabA (by unfold vp_in; decide) dX8_runFrom_72 ?_
  refine xb_top (y := 1) (by decide) ?_
  refine xr_istore (ls2 := [(5, .int (1)), (6, .int (0)), (0, .ref (46)), (1, .int (4)), (2, .int (1)), (3, .int (x)), (4, .int (nI (e)))]) dX8_runFrom_73 (by decide) rfl ?_
  refine xr_iinc (v := 1) (ls2 := [(6, .int (1)), (5, .int (1)), (0, .ref (46)), (1, .int (4)), (2, .int (1)), (3, .int (x)), (4, .int (nI (e)))]) dX8_runFrom_75 1 rfl rfl (by decide) rfl ?_
  refine xr_goto (tgt := 6) dX8_runFrom_78 rfl ?_
  refine xr_iload dX8_runFrom_6 0 rfl ?_
  refine xr_bipush (v := 8) dX8_runFrom_8 rfl ?_
  refine xr_icmp_ge (tgt := 81) dX8_runFrom_10 rfl (fun c => absurd c (by decide)) (fun _ => ?_)
  refine xr_iload dX8_runFrom_13 1 rfl ?_
  refine xb_cN (As := [.int (1)]) (rest := []) mlX8_26 (c_X9_isKind 1) dX8_runFrom_15 rfl rfl (Nat.le_of_ble_eq_true rfl) (by decide) (by decide) ?_
  refine xb_beq (tgt := 81) dX8_runFrom_18 rfl (fun c => absurd (by decide) c) (fun _ => ?_)
  refine xr_getsO slX8_50 dX8_runFrom_21 ?_
  refine xr_iload dX8_runFrom_24 1 rfl ?_
  refine xr_iconst (v := 4) dX8_runFrom_26 rfl ?_
  refine xr_imul dX8_runFrom_27 ?_
  refine xb_top (y := 4) (by decide) ?_
  refine xr_iload_n dX8_runFrom_28 4 rfl ?_
  refine xr_iadd dX8_runFrom_29 ?_
  refine xb_top (y := 5) (by decide) ?_
  refine xr_tabO (by unfold vp_in; decide) dX8_runFrom_30 ?_
  refine xb_top (y := 0) (by decide) ?_
  refine xr_if_eq (tgt := 67) dX8_runFrom_31 rfl (fun _ => ?_) (fun c => absurd (by decide) c)
  refine xr_getsA slX8_30 dX8_runFrom_67 ?_
  refine xr_iload dX8_runFrom_70 1 rfl ?_
  refine xr_tabA (by unfold vp_in; decide) dX8_runFrom_72 ?_
  refine xb_top (y := 0) (by decide) ?_
  refine xr_istore (ls2 := [(5, .int (0)), (6, .int (1)), (0, .ref (46)), (1, .int (4)), (2, .int (1)), (3, .int (x)), (4, .int (nI (e)))]) dX8_runFrom_73 (by decide) rfl ?_
  refine xr_iinc (v := 2) (ls2 := [(6, .int (2)), (5, .int (0)), (0, .ref (46)), (1, .int (4)), (2, .int (1)), (3, .int (x)), (4, .int (nI (e)))]) dX8_runFrom_75 1 rfl rfl (by decide) rfl ?_
  refine xr_goto (tgt := 6) dX8_runFrom_78 rfl ?_
  refine xr_iload dX8_runFrom_6 0 rfl ?_
  refine xr_bipush (v := 8) dX8_runFrom_8 rfl ?_
  refine xr_icmp_ge (tgt := 81) dX8_runFrom_10 rfl (fun c => absurd c (by decide)) (fun _ => ?_)
  refine xr_iload dX8_runFrom_13 1 rfl ?_
  refine xb_cN (As := [.int (0)]) (rest := []) mlX8_26 (c_X9_isKind 0) dX8_runFrom_15 rfl rfl (Nat.le_of_ble_eq_true rfl) (by decide) (by decide) ?_
  refine xb_beq (tgt := 81) dX8_runFrom_18 rfl (fun c => absurd (by decide) c) (fun _ => ?_)
  refine xr_getsO slX8_50 dX8_runFrom_21 ?_
  refine xr_iload dX8_runFrom_24 1 rfl ?_
  refine xr_iconst (v := 4) dX8_runFrom_26 rfl ?_
  refine xr_imul dX8_runFrom_27 ?_
  refine xb_top (y := 0) (by decide) ?_
  refine xr_iload_n dX8_runFrom_28 4 rfl ?_
  refine xr_iadd dX8_runFrom_29 ?_
  refine xb_top (y := 1) (by decide) ?_
  refine xr_tabO (by unfold vp_in; decide) dX8_runFrom_30 ?_
  refine xb_top (y := 10) (by decide) ?_
  refine xr_if_eq (tgt := 67) dX8_runFrom_31 rfl (fun c => absurd c (by decide)) (fun _ => ?_)
  refine xr_iload dX8_runFrom_34 6 rfl ?_
  refine xr_bipush (v := 30) dX8_runFrom_36 rfl ?_
  refine xr_icmp_ge (tgt := 65) dX8_runFrom_38 rfl (fun c => absurd c (nI_ge (a := e) (b := 30) (by omega) (by omega))) (fun _ => ?_)
  refine xr_aload_n dX8_runFrom_41 2 rfl ?_
  refine xr_getsO slX8_50 dX8_runFrom_42 ?_
  refine xr_iload dX8_runFrom_45 1 rfl ?_
  refine xr_iconst (v := 4) dX8_runFrom_47 rfl ?_
  refine xr_imul dX8_runFrom_48 ?_
  refine xb_top (y := 0) (by decide) ?_
  refine xr_iload_n dX8_runFrom_49 4 rfl ?_
  refine xr_iadd dX8_runFrom_50 ?_
  refine xb_top (y := 1) (by decide) ?_
  refine xr_tabO (by unfold vp_in; decide) dX8_runFrom_51 ?_
  refine xb_top (y := 10) (by decide) ?_
  refine xr_iload dX8_runFrom_52 1 rfl ?_
  refine xr_iload_n dX8_runFrom_54 5 rfl ?_
  refine xr_iload dX8_runFrom_55 6 rfl ?_
  refine xr_iconst (v := 1) dX8_runFrom_57 rfl ?_
  refine xr_iadd dX8_runFrom_58 ?_
  refine xb_top (y := nI (e + 1)) (nI_add (e) (1)) ?_
  refine xr_callV (As := [.int (10), .int (0), .int (x), .int (nI (e + 1))]) (rest := []) mlX8_53 (tv7_run_10_0 (e := e + 1) (ac := ac) x (by omega) (by omega) e_b (by omega) e_ra hac e_ac e_k) dX8_runFrom_59 s_46 rfl rfl (Nat.le_of_ble_eq_true rfl) (by decide) ⟨by decide, by decide⟩ (fun v s2 M7 J2 hq => ?_)
  obtain ⟨r9, rfl, rfl, rfl, k8, ⟨hr5, hx4, ht6⟩⟩ := hq
  try dsimp only [Option.toList, List.cons_append, List.nil_append]
  subst hr5
  refine xr_goto (tgt := 66) dX8_runFrom_62 rfl ?_
  exact xr_iret dX8_runFrom_66 rfl rfl (⟨_, rfl, rfl, rfl, (Ke.tr (fun _ _ h => h) Ke.rf k8), rfl, hx4, ht6⟩)
set_option maxRecDepth 100000 in
set_option maxHeartbeats 4000000 in
theorem tv7_above_7_1 {e ac : Nat} (x : Int32) (he : e + 3 ≤ 30) {l : Launch} {G : xG} {M : xM} {J : xJ} {b ra : Nat} (h_b : b ≤ 50) (e_b : M 46 2 = nI b) (h_ra : ra + 3 ≤ 900) (e_ra : M 46 3 = nI ra) (hac : ac < b) (e_ac : M 46 4 = nI ac) (e_k : M 47 ac = 7) : x_M l G fX8_above 9 0 0 [.ref (46), .int (7), .int (1), .int (x), .int (nI (e))] x_SH M J (qKI WTN M J (fun r M2 => r = (((x + (nI (ac))) + 3) * 2) ∧ M2 46 3 = nI (ra + 3) ∧ TrA 48 ra [10, 20, 1] M M2)) := by
  refine xb_of pX8 (Nat.le_of_ble_eq_true rfl) rfl ?_
  refine xr_iload_n dX8_above_0 1 rfl ?_
  refine xb_cN (As := [.int (7)]) (rest := []) mlX8_26 (c_X9_isKind 7) dX8_above_1 rfl rfl (Nat.le_of_ble_eq_true rfl) (by decide) (by decide) ?_
  refine xb_beq (tgt := 23) dX8_above_4 rfl (fun c => absurd (by decide) c) (fun _ => ?_)
  refine xr_aload_n dX8_above_7 0 rfl ?_
  refine xr_getsA slX8_30 dX8_above_8 ?_
  refine xr_iload_n dX8_above_11 1 rfl ?_
  refine xr_tabA (by unfold vp_in; decide) dX8_above_12 ?_
  refine xb_top (y := 4) (by decide) ?_
  refine xr_iload_n dX8_above_13 2 rfl ?_
  refine xr_iload_n dX8_above_14 3 rfl ?_
  refine xr_iload dX8_above_15 4 rfl ?_
  refine xr_callV (As := [.int (4), .int (1), .int (x), .int (nI (e))]) (rest := []) mlX8_46 (tv7_runFrom_4_1 (e := e) (ac := ac) x (by omega) (by omega) e_b (by omega) e_ra hac e_ac e_k) dX8_above_17 s_46 rfl rfl (Nat.le_of_ble_eq_true rfl) (by decide) ⟨by decide, by decide⟩ (fun v s2 M5 J2 hq => ?_)
  obtain ⟨r7, rfl, rfl, rfl, k6, ⟨hr3, hx2, ht4⟩⟩ := hq
  try dsimp only [Option.toList, List.cons_append, List.nil_append]
  subst hr3
  refine xr_goto (tgt := 24) dX8_above_20 rfl ?_
  exact xr_iret dX8_above_24 rfl rfl (⟨_, rfl, rfl, rfl, (Ke.tr (fun _ _ h => h) Ke.rf k6), rfl, hx2, ht4⟩)
set_option maxRecDepth 100000 in
set_option maxHeartbeats 4000000 in
theorem tv7_run_11_0 {e ac : Nat} (x : Int32) (he : e + 0 ≤ 30) {l : Launch} {G : xG} {M : xM} {J : xJ} {b ra : Nat} (h_b : b ≤ 50) (e_b : M 46 2 = nI b) (h_ra : ra + 1 ≤ 900) (e_ra : M 46 3 = nI ra) (hac : ac < b) (e_ac : M 46 4 = nI ac) (e_k : M 47 ac = 7) : x_M l G fX8_run 1 0 0 [.ref (46), .int (11), .int (0), .int (x), .int (nI (e))] x_SH M J (qKI WTN M J (fun r M2 => r = (x ^^^ (nI (ac))) ∧ M2 46 3 = nI (ra + 1) ∧ TrA 48 ra [11] M M2)) := by
  refine xb_of pX8 (Nat.le_of_ble_eq_true rfl) rfl ?_
  refine xr_aload_n dX8_run_0 0 rfl ?_
  refine xr_iload_n dX8_run_1 1 rfl ?_
  refine xr_callV (As := [.int (11)]) (rest := []) mlX8_56 (gt_X8_note 11 (by omega) e_ra) dX8_run_2 s_46 rfl rfl (Nat.le_of_ble_eq_true rfl) (by decide) ⟨by decide, by decide⟩ (fun v s2 M3 J2 hq => ?_)
  obtain ⟨rfl, rfl, rfl, k4, ⟨hx1, ht2⟩⟩ := hq
  try dsimp only [Option.toList, List.cons_append, List.nil_append]
  refine xr_iload_n dX8_run_5 1 rfl ?_
  refine xr_lookup (tgt := 156) (off := 150) dX8_run_6 (by decide) (by decide) rfl ?_
  refine xr_iload_n dX8_run_156 3 rfl ?_
  refine xr_aload_n dX8_run_157 0 rfl ?_
  refine xb_get (v := nI (ac)) flX8_36 dX8_run_158 s_46 rfl (Eq.trans (k4 46 4 (by decide)) e_ac) ?_
  refine xr_ixor dX8_run_161 ?_
  exact xr_iret dX8_run_162 rfl rfl (⟨_, rfl, rfl, rfl, (Ke.tr (fun _ _ h => h) Ke.rf k4), rfl, hx1, ht2⟩)
set_option maxRecDepth 100000 in
set_option maxHeartbeats 4000000 in
theorem tv7_runFrom_1_2 {e ac : Nat} (x : Int32) (he : e + 1 ≤ 30) {l : Launch} {G : xG} {M : xM} {J : xJ} {b ra : Nat} (h_b : b ≤ 50) (e_b : M 46 2 = nI b) (h_ra : ra + 1 ≤ 900) (e_ra : M 46 3 = nI ra) (hac : ac < b) (e_ac : M 46 4 = nI ac) (e_k : M 47 ac = 7) : x_M l G fX8_runFrom 2 0 0 [.ref (46), .int (1), .int (2), .int (x), .int (nI (e))] x_SH M J (qKI WTN M J (fun r M2 => r = (x ^^^ (nI (ac))) ∧ M2 46 3 = nI (ra + 1) ∧ TrA 48 ra [11] M M2)) := by
  refine xb_of pX8 (Nat.le_of_ble_eq_true rfl) rfl ?_
  refine xr_iload_n dX8_runFrom_0 1 rfl ?_
  refine xr_istore (ls2 := [(5, .int (1)), (0, .ref (46)), (1, .int (1)), (2, .int (2)), (3, .int (x)), (4, .int (nI (e)))]) dX8_runFrom_1 (by decide) rfl ?_
  refine xr_iconst (v := 0) dX8_runFrom_3 rfl ?_
  refine xr_istore (ls2 := [(6, .int (0)), (5, .int (1)), (0, .ref (46)), (1, .int (1)), (2, .int (2)), (3, .int (x)), (4, .int (nI (e)))]) dX8_runFrom_4 (by decide) rfl ?_
  refine xr_iload dX8_runFrom_6 0 rfl ?_
  refine xr_bipush (v := 8) dX8_runFrom_8 rfl ?_
  refine xr_icmp_ge (tgt := 81) dX8_runFrom_10 rfl (fun c => absurd c (by decide)) (fun _ => ?_)
  refine xr_iload dX8_runFrom_13 1 rfl ?_
  refine xb_cN (As := [.int (1)]) (rest := []) mlX8_26 (c_X9_isKind 1) dX8_runFrom_15 rfl rfl (Nat.le_of_ble_eq_true rfl) (by decide) (by decide) ?_
  refine xb_beq (tgt := 81) dX8_runFrom_18 rfl (fun c => absurd (by decide) c) (fun _ => ?_)
  refine xr_getsO slX8_50 dX8_runFrom_21 ?_
  refine xr_iload dX8_runFrom_24 1 rfl ?_
  refine xr_iconst (v := 4) dX8_runFrom_26 rfl ?_
  refine xr_imul dX8_runFrom_27 ?_
  refine xb_top (y := 4) (by decide) ?_
  refine xr_iload_n dX8_runFrom_28 4 rfl ?_
  refine xr_iadd dX8_runFrom_29 ?_
  refine xb_top (y := 6) (by decide) ?_
  refine xr_tabO (by unfold vp_in; decide) dX8_runFrom_30 ?_
  refine xb_top (y := 0) (by decide) ?_
  refine xr_if_eq (tgt := 67) dX8_runFrom_31 rfl (fun _ => ?_) (fun c => absurd (by decide) c)
  refine xr_getsA slX8_30 dX8_runFrom_67 ?_
  refine xr_iload dX8_runFrom_70 1 rfl ?_
  refine xr_tabA (by unfold vp_in; decide) dX8_runFrom_72 ?_
  refine xb_top (y := 0) (by decide) ?_
  refine xr_istore (ls2 := [(5, .int (0)), (6, .int (0)), (0, .ref (46)), (1, .int (1)), (2, .int (2)), (3, .int (x)), (4, .int (nI (e)))]) dX8_runFrom_73 (by decide) rfl ?_
  refine xr_iinc (v := 1) (ls2 := [(6, .int (1)), (5, .int (0)), (0, .ref (46)), (1, .int (1)), (2, .int (2)), (3, .int (x)), (4, .int (nI (e)))]) dX8_runFrom_75 1 rfl rfl (by decide) rfl ?_
  refine xr_goto (tgt := 6) dX8_runFrom_78 rfl ?_
  refine xr_iload dX8_runFrom_6 0 rfl ?_
  refine xr_bipush (v := 8) dX8_runFrom_8 rfl ?_
  refine xr_icmp_ge (tgt := 81) dX8_runFrom_10 rfl (fun c => absurd c (by decide)) (fun _ => ?_)
  refine xr_iload dX8_runFrom_13 1 rfl ?_
  refine xb_cN (As := [.int (0)]) (rest := []) mlX8_26 (c_X9_isKind 0) dX8_runFrom_15 rfl rfl (Nat.le_of_ble_eq_true rfl) (by decide) (by decide) ?_
  refine xb_beq (tgt := 81) dX8_runFrom_18 rfl (fun c => absurd (by decide) c) (fun _ => ?_)
  refine xr_getsO slX8_50 dX8_runFrom_21 ?_
  refine xr_iload dX8_runFrom_24 1 rfl ?_
  refine xr_iconst (v := 4) dX8_runFrom_26 rfl ?_
  refine xr_imul dX8_runFrom_27 ?_
  refine xb_top (y := 0) (by decide) ?_
  refine xr_iload_n dX8_runFrom_28 4 rfl ?_
  refine xr_iadd dX8_runFrom_29 ?_
  refine xb_top (y := 2) (by decide) ?_
  refine xr_tabO (by unfold vp_in; decide) dX8_runFrom_30 ?_
  refine xb_top (y := 11) (by decide) ?_
  refine xr_if_eq (tgt := 67) dX8_runFrom_31 rfl (fun c => absurd c (by decide)) (fun _ => ?_)
  refine xr_iload dX8_runFrom_34 6 rfl ?_
  refine xr_bipush (v := 30) dX8_runFrom_36 rfl ?_
  refine xr_icmp_ge (tgt := 65) dX8_runFrom_38 rfl (fun c => absurd c (nI_ge (a := e) (b := 30) (by omega) (by omega))) (fun _ => ?_)
  refine xr_aload_n dX8_runFrom_41 2 rfl ?_
  refine xr_getsO slX8_50 dX8_runFrom_42 ?_
  refine xr_iload dX8_runFrom_45 1 rfl ?_
  refine xr_iconst (v := 4) dX8_runFrom_47 rfl ?_
  refine xr_imul dX8_runFrom_48 ?_
  refine xb_top (y := 0) (by decide) ?_
  refine xr_iload_n dX8_runFrom_49 4 rfl ?_
  refine xr_iadd dX8_runFrom_50 ?_
  refine xb_top (y := 2) (by decide) ?_
  refine xr_tabO (by unfold vp_in; decide) dX8_runFrom_51 ?_
  refine xb_top (y := 11) (by decide) ?_
  refine xr_iload dX8_runFrom_52 1 rfl ?_
  refine xr_iload_n dX8_runFrom_54 5 rfl ?_
  refine xr_iload dX8_runFrom_55 6 rfl ?_
  refine xr_iconst (v := 1) dX8_runFrom_57 rfl ?_
  refine xr_iadd dX8_runFrom_58 ?_
  refine xb_top (y := nI (e + 1)) (nI_add (e) (1)) ?_
  refine xr_callV (As := [.int (11), .int (0), .int (x), .int (nI (e + 1))]) (rest := []) mlX8_53 (tv7_run_11_0 (e := e + 1) (ac := ac) x (by omega) (by omega) e_b (by omega) e_ra hac e_ac e_k) dX8_runFrom_59 s_46 rfl rfl (Nat.le_of_ble_eq_true rfl) (by decide) ⟨by decide, by decide⟩ (fun v s2 M6 J2 hq => ?_)
  obtain ⟨r8, rfl, rfl, rfl, k7, ⟨hr4, hx3, ht5⟩⟩ := hq
  try dsimp only [Option.toList, List.cons_append, List.nil_append]
  subst hr4
  refine xr_goto (tgt := 66) dX8_runFrom_62 rfl ?_
  exact xr_iret dX8_runFrom_66 rfl rfl (⟨_, rfl, rfl, rfl, (Ke.tr (fun _ _ h => h) Ke.rf k7), rfl, hx3, ht5⟩)
set_option maxRecDepth 100000 in
set_option maxHeartbeats 4000000 in
theorem tv7_above_4_2 {e ac : Nat} (x : Int32) (he : e + 1 ≤ 30) {l : Launch} {G : xG} {M : xM} {J : xJ} {b ra : Nat} (h_b : b ≤ 50) (e_b : M 46 2 = nI b) (h_ra : ra + 1 ≤ 900) (e_ra : M 46 3 = nI ra) (hac : ac < b) (e_ac : M 46 4 = nI ac) (e_k : M 47 ac = 7) : x_M l G fX8_above 3 0 0 [.ref (46), .int (4), .int (2), .int (x), .int (nI (e))] x_SH M J (qKI WTN M J (fun r M2 => r = (x ^^^ (nI (ac))) ∧ M2 46 3 = nI (ra + 1) ∧ TrA 48 ra [11] M M2)) := by
  refine xb_of pX8 (Nat.le_of_ble_eq_true rfl) rfl ?_
  refine xr_iload_n dX8_above_0 1 rfl ?_
  refine xb_cN (As := [.int (4)]) (rest := []) mlX8_26 (c_X9_isKind 4) dX8_above_1 rfl rfl (Nat.le_of_ble_eq_true rfl) (by decide) (by decide) ?_
  refine xb_beq (tgt := 23) dX8_above_4 rfl (fun c => absurd (by decide) c) (fun _ => ?_)
  refine xr_aload_n dX8_above_7 0 rfl ?_
  refine xr_getsA slX8_30 dX8_above_8 ?_
  refine xr_iload_n dX8_above_11 1 rfl ?_
  refine xr_tabA (by unfold vp_in; decide) dX8_above_12 ?_
  refine xb_top (y := 1) (by decide) ?_
  refine xr_iload_n dX8_above_13 2 rfl ?_
  refine xr_iload_n dX8_above_14 3 rfl ?_
  refine xr_iload dX8_above_15 4 rfl ?_
  refine xr_callV (As := [.int (1), .int (2), .int (x), .int (nI (e))]) (rest := []) mlX8_46 (tv7_runFrom_1_2 (e := e) (ac := ac) x (by omega) (by omega) e_b (by omega) e_ra hac e_ac e_k) dX8_above_17 s_46 rfl rfl (Nat.le_of_ble_eq_true rfl) (by decide) ⟨by decide, by decide⟩ (fun v s2 M5 J2 hq => ?_)
  obtain ⟨r7, rfl, rfl, rfl, k6, ⟨hr3, hx2, ht4⟩⟩ := hq
  try dsimp only [Option.toList, List.cons_append, List.nil_append]
  subst hr3
  refine xr_goto (tgt := 24) dX8_above_20 rfl ?_
  exact xr_iret dX8_above_24 rfl rfl (⟨_, rfl, rfl, rfl, (Ke.tr (fun _ _ h => h) Ke.rf k6), rfl, hx2, ht4⟩)
set_option maxRecDepth 100000 in
set_option maxHeartbeats 4000000 in
theorem tv7_run_50_4 {e ac : Nat} (x : Int32) (he : e + 2 ≤ 30) {l : Launch} {G : xG} {M : xM} {J : xJ} {b ra : Nat} (h_b : b ≤ 50) (e_b : M 46 2 = nI b) (h_ra : ra + 4 ≤ 900) (e_ra : M 46 3 = nI ra) (hac : ac < b) (e_ac : M 46 4 = nI ac) (e_k : M 47 ac = 7) : x_M l G fX8_run 7 0 0 [.ref (46), .int (50), .int (4), .int (x), .int (nI (e))] x_SH M J (qKI WTN M J (fun r M2 => r = ((x ^^^ (nI (ac))) - ((2 + (nI (ac))) + 3)) ∧ M2 46 3 = nI (ra + 4) ∧ TrA 48 ra [50, 11, 20, 1] M M2)) := by
  refine xb_of pX8 (Nat.le_of_ble_eq_true rfl) rfl ?_
  refine xr_aload_n dX8_run_0 0 rfl ?_
  refine xr_iload_n dX8_run_1 1 rfl ?_
  refine xr_callV (As := [.int (50)]) (rest := []) mlX8_56 (gt_X8_note 50 (by omega) e_ra) dX8_run_2 s_46 rfl rfl (Nat.le_of_ble_eq_true rfl) (by decide) ⟨by decide, by decide⟩ (fun v s2 M3 J2 hq => ?_)
  obtain ⟨rfl, rfl, rfl, k4, ⟨hx1, ht2⟩⟩ := hq
  try dsimp only [Option.toList, List.cons_append, List.nil_append]
  refine xr_iload_n dX8_run_5 1 rfl ?_
  refine xr_lookup (tgt := 210) (off := 204) dX8_run_6 (by decide) (by decide) rfl ?_
  refine xr_aload_n dX8_run_210 0 rfl ?_
  refine xr_iload_n dX8_run_211 2 rfl ?_
  refine xr_iconst (v := 2) dX8_run_212 rfl ?_
  refine xr_iload_n dX8_run_213 3 rfl ?_
  refine xr_iload dX8_run_214 4 rfl ?_
  refine xr_callV (As := [.int (4), .int (2), .int (x), .int (nI (e))]) (rest := []) mlX8_60 (tv7_above_4_2 (e := e) (ac := ac) x (by omega) (by omega) (Eq.trans (k4 46 2 (by decide)) e_b) (by omega) hx1 hac (Eq.trans (k4 46 4 (by decide)) e_ac) (Eq.trans (k4 47 ac (by unfold WTN; omega)) e_k)) dX8_run_216 s_46 rfl rfl (Nat.le_of_ble_eq_true rfl) (by decide) ⟨by decide, by decide⟩ (fun v s2 M8 J2 hq => ?_)
  obtain ⟨r10, rfl, rfl, rfl, k9, ⟨hr6, hx5, ht7⟩⟩ := hq
  try dsimp only [Option.toList, List.cons_append, List.nil_append]
  subst hr6
  refine xr_aload_n dX8_run_219 0 rfl ?_
  refine xr_iconst (v := 0) dX8_run_220 rfl ?_
  refine xr_iconst (v := 2) dX8_run_221 rfl ?_
  refine xr_iload dX8_run_222 4 rfl ?_
  refine xr_callV (As := [.int (0), .int (2), .int (nI (e))]) (rest := [.int ((x ^^^ (nI (ac))))]) mlX8_39 (tv7_own_0 (e := e) (ac := ac) 2 (by omega) (by omega) (Eq.trans (k9 46 2 (by decide)) (Eq.trans (k4 46 2 (by decide)) e_b)) (by omega) hx5 hac (Eq.trans (k9 46 4 (by decide)) (Eq.trans (k4 46 4 (by decide)) e_ac)) (Eq.trans (k9 47 ac (by unfold WTN; omega)) (Eq.trans (k4 47 ac (by unfold WTN; omega)) e_k))) dX8_run_224 s_46 rfl rfl (Nat.le_of_ble_eq_true rfl) (by decide) ⟨by decide, by decide⟩ (fun v s2 M14 J2 hq => ?_)
  obtain ⟨r16, rfl, rfl, rfl, k15, ⟨hr12, hx11, ht13⟩⟩ := hq
  try dsimp only [Option.toList, List.cons_append, List.nil_append]
  subst hr12
  refine xr_isub dX8_run_227 ?_
  exact xr_iret dX8_run_228 rfl rfl (⟨_, rfl, rfl, rfl, (Ke.tr (fun _ _ h => h) (Ke.tr (fun _ _ h => h) (Ke.tr (fun _ _ h => h) Ke.rf k4) k9) k15), rfl, hx11, (TrA_app (l := [50, 11]) (m := [20, 1]) (TrA_app (l := [50]) (m := [11]) ht2 ht7) ht13)⟩)
set_option maxRecDepth 100000 in
set_option maxHeartbeats 4000000 in
theorem tv7_runFrom_7_2 {e ac : Nat} (x : Int32) (he : e + 3 ≤ 30) {l : Launch} {G : xG} {M : xM} {J : xJ} {b ra : Nat} (h_b : b ≤ 50) (e_b : M 46 2 = nI b) (h_ra : ra + 4 ≤ 900) (e_ra : M 46 3 = nI ra) (hac : ac < b) (e_ac : M 46 4 = nI ac) (e_k : M 47 ac = 7) : x_M l G fX8_runFrom 8 0 0 [.ref (46), .int (7), .int (2), .int (x), .int (nI (e))] x_SH M J (qKI WTN M J (fun r M2 => r = ((x ^^^ (nI (ac))) - ((2 + (nI (ac))) + 3)) ∧ M2 46 3 = nI (ra + 4) ∧ TrA 48 ra [50, 11, 20, 1] M M2)) := by
  refine xb_of pX8 (Nat.le_of_ble_eq_true rfl) rfl ?_
  refine xr_iload_n dX8_runFrom_0 1 rfl ?_
  refine xr_istore (ls2 := [(5, .int (7)), (0, .ref (46)), (1, .int (7)), (2, .int (2)), (3, .int (x)), (4, .int (nI (e)))]) dX8_runFrom_1 (by decide) rfl ?_
  refine xr_iconst (v := 0) dX8_runFrom_3 rfl ?_
  refine xr_istore (ls2 := [(6, .int (0)), (5, .int (7)), (0, .ref (46)), (1, .int (7)), (2, .int (2)), (3, .int (x)), (4, .int (nI (e)))]) dX8_runFrom_4 (by decide) rfl ?_
  refine xr_iload dX8_runFrom_6 0 rfl ?_
  refine xr_bipush (v := 8) dX8_runFrom_8 rfl ?_
  refine xr_icmp_ge (tgt := 81) dX8_runFrom_10 rfl (fun c => absurd c (by decide)) (fun _ => ?_)
  refine xr_iload dX8_runFrom_13 1 rfl ?_
  refine xb_cN (As := [.int (7)]) (rest := []) mlX8_26 (c_X9_isKind 7) dX8_runFrom_15 rfl rfl (Nat.le_of_ble_eq_true rfl) (by decide) (by decide) ?_
  refine xb_beq (tgt := 81) dX8_runFrom_18 rfl (fun c => absurd (by decide) c) (fun _ => ?_)
  refine xr_getsO slX8_50 dX8_runFrom_21 ?_
  refine xr_iload dX8_runFrom_24 1 rfl ?_
  refine xr_iconst (v := 4) dX8_runFrom_26 rfl ?_
  refine xr_imul dX8_runFrom_27 ?_
  refine xb_top (y := 28) (by decide) ?_
  refine xr_iload_n dX8_runFrom_28 4 rfl ?_
  refine xr_iadd dX8_runFrom_29 ?_
  refine xb_top (y := 30) (by decide) ?_
  refine xr_tabO (by unfold vp_in; decide) dX8_runFrom_30 ?_
  refine xb_top (y := 0) (by decide) ?_
  refine xr_if_eq (tgt := 67) dX8_runFrom_31 rfl (fun _ => ?_) (fun c => absurd (by decide) c)
  refine xr_getsA slX8_30 dX8_runFrom_67 ?_
  refine xr_iload dX8_runFrom_70 1 rfl ?_
  refine xr_tabA (by unfold vp_in; decide) dX8_runFrom_72 ?_
  refine xb_top (y := 4) (by decide) ?_
  refine xr_istore (ls2 := [(5, .int (4)), (6, .int (0)), (0, .ref (46)), (1, .int (7)), (2, .int (2)), (3, .int (x)), (4, .int (nI (e)))]) dX8_runFrom_73 (by decide) rfl ?_
  refine xr_iinc (v := 1) (ls2 := [(6, .int (1)), (5, .int (4)), (0, .ref (46)), (1, .int (7)), (2, .int (2)), (3, .int (x)), (4, .int (nI (e)))]) dX8_runFrom_75 1 rfl rfl (by decide) rfl ?_
  refine xr_goto (tgt := 6) dX8_runFrom_78 rfl ?_
  refine xr_iload dX8_runFrom_6 0 rfl ?_
  refine xr_bipush (v := 8) dX8_runFrom_8 rfl ?_
  refine xr_icmp_ge (tgt := 81) dX8_runFrom_10 rfl (fun c => absurd c (by decide)) (fun _ => ?_)
  refine xr_iload dX8_runFrom_13 1 rfl ?_
  refine xb_cN (As := [.int (4)]) (rest := []) mlX8_26 (c_X9_isKind 4) dX8_runFrom_15 rfl rfl (Nat.le_of_ble_eq_true rfl) (by decide) (by decide) ?_
  refine xb_beq (tgt := 81) dX8_runFrom_18 rfl (fun c => absurd (by decide) c) (fun _ => ?_)
  refine xr_getsO slX8_50 dX8_runFrom_21 ?_
  refine xr_iload dX8_runFrom_24 1 rfl ?_
  refine xr_iconst (v := 4) dX8_runFrom_26 rfl ?_
  refine xr_imul dX8_runFrom_27 ?_
  refine xb_top (y := 16) (by decide) ?_
  refine xr_iload_n dX8_runFrom_28 4 rfl ?_
  refine xr_iadd dX8_runFrom_29 ?_
  refine xb_top (y := 18) (by decide) ?_
  refine xr_tabO (by unfold vp_in; decide) dX8_runFrom_30 ?_
  refine xb_top (y := 50) (by decide) ?_
  refine xr_if_eq (tgt := 67) dX8_runFrom_31 rfl (fun c => absurd c (by decide)) (fun _ => ?_)
  refine xr_iload dX8_runFrom_34 6 rfl ?_
  refine xr_bipush (v := 30) dX8_runFrom_36 rfl ?_
  refine xr_icmp_ge (tgt := 65) dX8_runFrom_38 rfl (fun c => absurd c (nI_ge (a := e) (b := 30) (by omega) (by omega))) (fun _ => ?_)
  refine xr_aload_n dX8_runFrom_41 2 rfl ?_
  refine xr_getsO slX8_50 dX8_runFrom_42 ?_
  refine xr_iload dX8_runFrom_45 1 rfl ?_
  refine xr_iconst (v := 4) dX8_runFrom_47 rfl ?_
  refine xr_imul dX8_runFrom_48 ?_
  refine xb_top (y := 16) (by decide) ?_
  refine xr_iload_n dX8_runFrom_49 4 rfl ?_
  refine xr_iadd dX8_runFrom_50 ?_
  refine xb_top (y := 18) (by decide) ?_
  refine xr_tabO (by unfold vp_in; decide) dX8_runFrom_51 ?_
  refine xb_top (y := 50) (by decide) ?_
  refine xr_iload dX8_runFrom_52 1 rfl ?_
  refine xr_iload_n dX8_runFrom_54 5 rfl ?_
  refine xr_iload dX8_runFrom_55 6 rfl ?_
  refine xr_iconst (v := 1) dX8_runFrom_57 rfl ?_
  refine xr_iadd dX8_runFrom_58 ?_
  refine xb_top (y := nI (e + 1)) (nI_add (e) (1)) ?_
  refine xr_callV (As := [.int (50), .int (4), .int (x), .int (nI (e + 1))]) (rest := []) mlX8_53 (tv7_run_50_4 (e := e + 1) (ac := ac) x (by omega) (by omega) e_b (by omega) e_ra hac e_ac e_k) dX8_runFrom_59 s_46 rfl rfl (Nat.le_of_ble_eq_true rfl) (by decide) ⟨by decide, by decide⟩ (fun v s2 M6 J2 hq => ?_)
  obtain ⟨r8, rfl, rfl, rfl, k7, ⟨hr4, hx3, ht5⟩⟩ := hq
  try dsimp only [Option.toList, List.cons_append, List.nil_append]
  subst hr4
  refine xr_goto (tgt := 66) dX8_runFrom_62 rfl ?_
  exact xr_iret dX8_runFrom_66 rfl rfl (⟨_, rfl, rfl, rfl, (Ke.tr (fun _ _ h => h) Ke.rf k7), rfl, hx3, ht5⟩)
set_option maxRecDepth 100000 in
set_option maxHeartbeats 4000000 in
theorem tv7_own_2 {e ac : Nat} (x : Int32) (he : e + 3 ≤ 30) {l : Launch} {G : xG} {M : xM} {J : xJ} {b ra : Nat} (h_b : b ≤ 50) (e_b : M 46 2 = nI b) (h_ra : ra + 4 ≤ 900) (e_ra : M 46 3 = nI ra) (hac : ac < b) (e_ac : M 46 4 = nI ac) (e_k : M 47 ac = 7) : x_M l G fX8_own 9 0 0 [.ref (46), .int (2), .int (x), .int (nI (e))] x_SH M J (qKI WTN M J (fun r M2 => r = ((x ^^^ (nI (ac))) - ((2 + (nI (ac))) + 3)) ∧ M2 46 3 = nI (ra + 4) ∧ TrA 48 ra [50, 11, 20, 1] M M2)) := by
  refine xb_of pX8 (Nat.le_of_ble_eq_true rfl) rfl ?_
  refine xr_aload_n dX8_own_0 0 rfl ?_
  refine xr_aload_n dX8_own_1 0 rfl ?_
  refine xb_get (v := nI (ac)) flX8_36 dX8_own_2 s_46 rfl e_ac ?_
  refine xb_cV (As := [.int (nI (ac))]) (rest := []) mlX8_43 (c_X8_has (nI (ac)) (by omega) e_b) dX8_own_5 s_46 rfl rfl (Nat.le_of_ble_eq_true rfl) (by decide) (by decide) ?_
  refine xb_beq (tgt := 30) dX8_own_8 rfl (fun c => absurd ⟨nI_pos' (by omega), nI_lt (by omega) (by omega)⟩ c) (fun _ => ?_)
  refine xr_aload_n dX8_own_11 0 rfl ?_
  refine xr_aload_n dX8_own_12 0 rfl ?_
  refine xr_getR flX8_9 dX8_own_13 s_46 rfl ?_
  refine xr_aload_n dX8_own_16 0 rfl ?_
  refine xb_get (v := nI (ac)) flX8_36 dX8_own_17 s_46 rfl e_ac ?_
  refine xb_iald (j := ac) (v := 7) dX8_own_20 s_47 (by omega) (by decide) e_k ?_
  refine xr_iload_n dX8_own_21 1 rfl ?_
  refine xr_iload_n dX8_own_22 2 rfl ?_
  refine xr_iload_n dX8_own_23 3 rfl ?_
  refine xr_callV (As := [.int (7), .int (2), .int (x), .int (nI (e))]) (rest := []) mlX8_46 (tv7_runFrom_7_2 (e := e) (ac := ac) x (by omega) (by omega) e_b (by omega) e_ra hac e_ac e_k) dX8_own_24 s_46 rfl rfl (Nat.le_of_ble_eq_true rfl) (by decide) ⟨by decide, by decide⟩ (fun v s2 M5 J2 hq => ?_)
  obtain ⟨r7, rfl, rfl, rfl, k6, ⟨hr3, hx2, ht4⟩⟩ := hq
  try dsimp only [Option.toList, List.cons_append, List.nil_append]
  subst hr3
  refine xr_goto (tgt := 31) dX8_own_27 rfl ?_
  exact xr_iret dX8_own_31 rfl rfl (⟨_, rfl, rfl, rfl, (Ke.tr (fun _ _ h => h) Ke.rf k6), rfl, hx2, ht4⟩)
set_option maxRecDepth 100000 in
set_option maxHeartbeats 4000000 in
theorem tv7_run_80_7 {e ac : Nat} (x : Int32) (he : e + 3 ≤ 30) {l : Launch} {G : xG} {M : xM} {J : xJ} {b ra : Nat} (h_b : b ≤ 50) (e_b : M 46 2 = nI b) (h_ra : ra + 8 ≤ 900) (e_ra : M 46 3 = nI ra) (hac : ac < b) (e_ac : M 46 4 = nI ac) (e_k : M 47 ac = 7) : x_M l G fX8_run 10 0 0 [.ref (46), .int (80), .int (7), .int (x), .int (nI (e))] x_SH M J (qKI WTN M J (fun r M2 => r = ((((x + (nI (ac))) + 3) * 2) + ((2 ^^^ (nI (ac))) - ((2 + (nI (ac))) + 3))) ∧ M2 46 3 = nI (ra + 8) ∧ TrA 48 ra [80, 10, 20, 1, 50, 11, 20, 1] M M2)) := by
  refine xb_of pX8 (Nat.le_of_ble_eq_true rfl) rfl ?_
  refine xr_aload_n dX8_run_0 0 rfl ?_
  refine xr_iload_n dX8_run_1 1 rfl ?_
  refine xr_callV (As := [.int (80)]) (rest := []) mlX8_56 (gt_X8_note 80 (by omega) e_ra) dX8_run_2 s_46 rfl rfl (Nat.le_of_ble_eq_true rfl) (by decide) ⟨by decide, by decide⟩ (fun v s2 M3 J2 hq => ?_)
  obtain ⟨rfl, rfl, rfl, k4, ⟨hx1, ht2⟩⟩ := hq
  try dsimp only [Option.toList, List.cons_append, List.nil_append]
  refine xr_iload_n dX8_run_5 1 rfl ?_
  refine xr_lookup (tgt := 253) (off := 247) dX8_run_6 (by decide) (by decide) rfl ?_
  refine xr_aload_n dX8_run_253 0 rfl ?_
  refine xr_iload_n dX8_run_254 2 rfl ?_
  refine xr_iconst (v := 1) dX8_run_255 rfl ?_
  refine xr_iload_n dX8_run_256 3 rfl ?_
  refine xr_iload dX8_run_257 4 rfl ?_
  refine xr_callV (As := [.int (7), .int (1), .int (x), .int (nI (e))]) (rest := []) mlX8_60 (tv7_above_7_1 (e := e) (ac := ac) x (by omega) (by omega) (Eq.trans (k4 46 2 (by decide)) e_b) (by omega) hx1 hac (Eq.trans (k4 46 4 (by decide)) e_ac) (Eq.trans (k4 47 ac (by unfold WTN; omega)) e_k)) dX8_run_259 s_46 rfl rfl (Nat.le_of_ble_eq_true rfl) (by decide) ⟨by decide, by decide⟩ (fun v s2 M8 J2 hq => ?_)
  obtain ⟨r10, rfl, rfl, rfl, k9, ⟨hr6, hx5, ht7⟩⟩ := hq
  try dsimp only [Option.toList, List.cons_append, List.nil_append]
  subst hr6
  refine xr_aload_n dX8_run_262 0 rfl ?_
  refine xr_iconst (v := 2) dX8_run_263 rfl ?_
  refine xr_iconst (v := 2) dX8_run_264 rfl ?_
  refine xr_iload dX8_run_265 4 rfl ?_
  refine xr_callV (As := [.int (2), .int (2), .int (nI (e))]) (rest := [.int ((((x + (nI (ac))) + 3) * 2))]) mlX8_39 (tv7_own_2 (e := e) (ac := ac) 2 (by omega) (by omega) (Eq.trans (k9 46 2 (by decide)) (Eq.trans (k4 46 2 (by decide)) e_b)) (by omega) hx5 hac (Eq.trans (k9 46 4 (by decide)) (Eq.trans (k4 46 4 (by decide)) e_ac)) (Eq.trans (k9 47 ac (by unfold WTN; omega)) (Eq.trans (k4 47 ac (by unfold WTN; omega)) e_k))) dX8_run_267 s_46 rfl rfl (Nat.le_of_ble_eq_true rfl) (by decide) ⟨by decide, by decide⟩ (fun v s2 M14 J2 hq => ?_)
  obtain ⟨r16, rfl, rfl, rfl, k15, ⟨hr12, hx11, ht13⟩⟩ := hq
  try dsimp only [Option.toList, List.cons_append, List.nil_append]
  subst hr12
  refine xr_iadd dX8_run_270 ?_
  exact xr_iret dX8_run_271 rfl rfl (⟨_, rfl, rfl, rfl, (Ke.tr (fun _ _ h => h) (Ke.tr (fun _ _ h => h) (Ke.tr (fun _ _ h => h) Ke.rf k4) k9) k15), rfl, hx11, (TrA_app (l := [80, 10, 20, 1]) (m := [50, 11, 20, 1]) (TrA_app (l := [80]) (m := [10, 20, 1]) ht2 ht7) ht13)⟩)
set_option maxRecDepth 100000 in
set_option maxHeartbeats 4000000 in
theorem tv7_runFrom_7_1 {e ac : Nat} (x : Int32) (he : e + 4 ≤ 30) {l : Launch} {G : xG} {M : xM} {J : xJ} {b ra : Nat} (h_b : b ≤ 50) (e_b : M 46 2 = nI b) (h_ra : ra + 8 ≤ 900) (e_ra : M 46 3 = nI ra) (hac : ac < b) (e_ac : M 46 4 = nI ac) (e_k : M 47 ac = 7) : x_M l G fX8_runFrom 11 0 0 [.ref (46), .int (7), .int (1), .int (x), .int (nI (e))] x_SH M J (qKI WTN M J (fun r M2 => r = ((((x + (nI (ac))) + 3) * 2) + ((2 ^^^ (nI (ac))) - ((2 + (nI (ac))) + 3))) ∧ M2 46 3 = nI (ra + 8) ∧ TrA 48 ra [80, 10, 20, 1, 50, 11, 20, 1] M M2)) := by
  refine xb_of pX8 (Nat.le_of_ble_eq_true rfl) rfl ?_
  refine xr_iload_n dX8_runFrom_0 1 rfl ?_
  refine xr_istore (ls2 := [(5, .int (7)), (0, .ref (46)), (1, .int (7)), (2, .int (1)), (3, .int (x)), (4, .int (nI (e)))]) dX8_runFrom_1 (by decide) rfl ?_
  refine xr_iconst (v := 0) dX8_runFrom_3 rfl ?_
  refine xr_istore (ls2 := [(6, .int (0)), (5, .int (7)), (0, .ref (46)), (1, .int (7)), (2, .int (1)), (3, .int (x)), (4, .int (nI (e)))]) dX8_runFrom_4 (by decide) rfl ?_
  refine xr_iload dX8_runFrom_6 0 rfl ?_
  refine xr_bipush (v := 8) dX8_runFrom_8 rfl ?_
  refine xr_icmp_ge (tgt := 81) dX8_runFrom_10 rfl (fun c => absurd c (by decide)) (fun _ => ?_)
  refine xr_iload dX8_runFrom_13 1 rfl ?_
  refine xb_cN (As := [.int (7)]) (rest := []) mlX8_26 (c_X9_isKind 7) dX8_runFrom_15 rfl rfl (Nat.le_of_ble_eq_true rfl) (by decide) (by decide) ?_
  refine xb_beq (tgt := 81) dX8_runFrom_18 rfl (fun c => absurd (by decide) c) (fun _ => ?_)
  refine xr_getsO slX8_50 dX8_runFrom_21 ?_
  refine xr_iload dX8_runFrom_24 1 rfl ?_
  refine xr_iconst (v := 4) dX8_runFrom_26 rfl ?_
  refine xr_imul dX8_runFrom_27 ?_
  refine xb_top (y := 28) (by decide) ?_
  refine xr_iload_n dX8_runFrom_28 4 rfl ?_
  refine xr_iadd dX8_runFrom_29 ?_
  refine xb_top (y := 29) (by decide) ?_
  refine xr_tabO (by unfold vp_in; decide) dX8_runFrom_30 ?_
  refine xb_top (y := 80) (by decide) ?_
  refine xr_if_eq (tgt := 67) dX8_runFrom_31 rfl (fun c => absurd c (by decide)) (fun _ => ?_)
  refine xr_iload dX8_runFrom_34 6 rfl ?_
  refine xr_bipush (v := 30) dX8_runFrom_36 rfl ?_
  refine xr_icmp_ge (tgt := 65) dX8_runFrom_38 rfl (fun c => absurd c (nI_ge (a := e) (b := 30) (by omega) (by omega))) (fun _ => ?_)
  refine xr_aload_n dX8_runFrom_41 2 rfl ?_
  refine xr_getsO slX8_50 dX8_runFrom_42 ?_
  refine xr_iload dX8_runFrom_45 1 rfl ?_
  refine xr_iconst (v := 4) dX8_runFrom_47 rfl ?_
  refine xr_imul dX8_runFrom_48 ?_
  refine xb_top (y := 28) (by decide) ?_
  refine xr_iload_n dX8_runFrom_49 4 rfl ?_
  refine xr_iadd dX8_runFrom_50 ?_
  refine xb_top (y := 29) (by decide) ?_
  refine xr_tabO (by unfold vp_in; decide) dX8_runFrom_51 ?_
  refine xb_top (y := 80) (by decide) ?_
  refine xr_iload dX8_runFrom_52 1 rfl ?_
  refine xr_iload_n dX8_runFrom_54 5 rfl ?_
  refine xr_iload dX8_runFrom_55 6 rfl ?_
  refine xr_iconst (v := 1) dX8_runFrom_57 rfl ?_
  refine xr_iadd dX8_runFrom_58 ?_
  refine xb_top (y := nI (e + 1)) (nI_add (e) (1)) ?_
  refine xr_callV (As := [.int (80), .int (7), .int (x), .int (nI (e + 1))]) (rest := []) mlX8_53 (tv7_run_80_7 (e := e + 1) (ac := ac) x (by omega) (by omega) e_b (by omega) e_ra hac e_ac e_k) dX8_runFrom_59 s_46 rfl rfl (Nat.le_of_ble_eq_true rfl) (by decide) ⟨by decide, by decide⟩ (fun v s2 M5 J2 hq => ?_)
  obtain ⟨r7, rfl, rfl, rfl, k6, ⟨hr3, hx2, ht4⟩⟩ := hq
  try dsimp only [Option.toList, List.cons_append, List.nil_append]
  subst hr3
  refine xr_goto (tgt := 66) dX8_runFrom_62 rfl ?_
  exact xr_iret dX8_runFrom_66 rfl rfl (⟨_, rfl, rfl, rfl, (Ke.tr (fun _ _ h => h) Ke.rf k6), rfl, hx2, ht4⟩)
set_option maxRecDepth 100000 in
set_option maxHeartbeats 4000000 in
theorem tv7_own_1 {e ac : Nat} (x : Int32) (he : e + 4 ≤ 30) {l : Launch} {G : xG} {M : xM} {J : xJ} {b ra : Nat} (h_b : b ≤ 50) (e_b : M 46 2 = nI b) (h_ra : ra + 8 ≤ 900) (e_ra : M 46 3 = nI ra) (hac : ac < b) (e_ac : M 46 4 = nI ac) (e_k : M 47 ac = 7) : x_M l G fX8_own 12 0 0 [.ref (46), .int (1), .int (x), .int (nI (e))] x_SH M J (qKI WTN M J (fun r M2 => r = ((((x + (nI (ac))) + 3) * 2) + ((2 ^^^ (nI (ac))) - ((2 + (nI (ac))) + 3))) ∧ M2 46 3 = nI (ra + 8) ∧ TrA 48 ra [80, 10, 20, 1, 50, 11, 20, 1] M M2)) := by
  refine xb_of pX8 (Nat.le_of_ble_eq_true rfl) rfl ?_
  refine xr_aload_n dX8_own_0 0 rfl ?_
  refine xr_aload_n dX8_own_1 0 rfl ?_
  refine xb_get (v := nI (ac)) flX8_36 dX8_own_2 s_46 rfl e_ac ?_
  refine xb_cV (As := [.int (nI (ac))]) (rest := []) mlX8_43 (c_X8_has (nI (ac)) (by omega) e_b) dX8_own_5 s_46 rfl rfl (Nat.le_of_ble_eq_true rfl) (by decide) (by decide) ?_
  refine xb_beq (tgt := 30) dX8_own_8 rfl (fun c => absurd ⟨nI_pos' (by omega), nI_lt (by omega) (by omega)⟩ c) (fun _ => ?_)
  refine xr_aload_n dX8_own_11 0 rfl ?_
  refine xr_aload_n dX8_own_12 0 rfl ?_
  refine xr_getR flX8_9 dX8_own_13 s_46 rfl ?_
  refine xr_aload_n dX8_own_16 0 rfl ?_
  refine xb_get (v := nI (ac)) flX8_36 dX8_own_17 s_46 rfl e_ac ?_
  refine xb_iald (j := ac) (v := 7) dX8_own_20 s_47 (by omega) (by decide) e_k ?_
  refine xr_iload_n dX8_own_21 1 rfl ?_
  refine xr_iload_n dX8_own_22 2 rfl ?_
  refine xr_iload_n dX8_own_23 3 rfl ?_
  refine xr_callV (As := [.int (7), .int (1), .int (x), .int (nI (e))]) (rest := []) mlX8_46 (tv7_runFrom_7_1 (e := e) (ac := ac) x (by omega) (by omega) e_b (by omega) e_ra hac e_ac e_k) dX8_own_24 s_46 rfl rfl (Nat.le_of_ble_eq_true rfl) (by decide) ⟨by decide, by decide⟩ (fun v s2 M5 J2 hq => ?_)
  obtain ⟨r7, rfl, rfl, rfl, k6, ⟨hr3, hx2, ht4⟩⟩ := hq
  try dsimp only [Option.toList, List.cons_append, List.nil_append]
  subst hr3
  refine xr_goto (tgt := 31) dX8_own_27 rfl ?_
  exact xr_iret dX8_own_31 rfl rfl (⟨_, rfl, rfl, rfl, (Ke.tr (fun _ _ h => h) Ke.rf k6), rfl, hx2, ht4⟩)
set_option maxRecDepth 100000 in
set_option maxHeartbeats 4000000 in
theorem tw7_1 {ac b : Nat} (x : Int32) {l : Launch} {G : xG} {M : xM} {J : xJ} (h_b : b ≤ 50) (e_b : M 46 2 = nI b) (hac : ac < b) (e_k : M 47 ac = 7) : x_M l G fX8_perform 13 0 0 [.ref (46), .int (nI (ac)), .int (1), .int (x)] x_SH M J (qKI WTR M J (fun r M2 => M2 46 3 = nI 8 ∧ TrF 48 [80, 10, 20, 1, 50, 11, 20, 1] M2)) := by
  refine xb_of pX8 (Nat.le_of_ble_eq_true rfl) rfl ?_
  refine xr_aload_n dX8_perform_0 0 rfl ?_
  refine xr_iconst (v := 0) dX8_perform_1 rfl ?_
  refine xr_putI fpX8_33 dX8_perform_2 s_46 rfl rfl rfl ?_
  refine xr_aload_n dX8_perform_5 0 rfl ?_
  refine xr_iload_n dX8_perform_6 1 rfl ?_
  refine xr_putI fpX8_36 dX8_perform_7 s_46 rfl rfl rfl ?_
  refine xr_aload_n dX8_perform_10 0 rfl ?_
  refine xr_iload_n dX8_perform_11 2 rfl ?_
  refine xr_iload_n dX8_perform_12 3 rfl ?_
  refine xr_iconst (v := 0) dX8_perform_13 rfl ?_
  refine xr_callV (As := [.int (1), .int (x), .int (0)]) (rest := []) mlX8_39 (tv7_own_1 (e := 0) (ac := ac) (ra := 0) x (by omega) h_b (Eq.trans (x_up_k _ _ _ (by decide)) (Eq.trans (x_up_k _ _ _ (by decide)) e_b)) (by omega) (Eq.trans (x_up_k _ _ _ (by decide)) (x_up_s _ _ _ _)) hac (x_up_s _ _ _ _) (Eq.trans (congrFun (x_up_n _ _ _ (by decide)) _) (Eq.trans (congrFun (x_up_n _ _ _ (by decide)) _) e_k))) dX8_perform_14 s_46 rfl rfl (Nat.le_of_ble_eq_true rfl) (by decide) ⟨by decide, by decide⟩ (fun v s2 M4 J2 hq => ?_)
  obtain ⟨r6, rfl, rfl, rfl, k5, ⟨hr2, hx1, ht3⟩⟩ := hq
  try dsimp only [Option.toList, List.cons_append, List.nil_append]
  subst hr2
  exact xr_iret dX8_perform_17 rfl rfl (⟨_, rfl, rfl, rfl, (Ke.tr (fun pp kk => (fun hh => Or.elim hh (fun h => (Or.inl h)) (fun h => (Or.inr (Or.inr h))))) (Ke.up (Or.inr (Or.inl (by omega))) (Ke.up (Or.inl (by omega)) Ke.rf)) k5), ⟨(hx1.trans (congrArg nI (Nat.zero_add _))), TrA_F ht3⟩⟩)
set_option maxRecDepth 100000 in
set_option maxHeartbeats 4000000 in
theorem tw7_2 {ac b : Nat} (x : Int32) {l : Launch} {G : xG} {M : xM} {J : xJ} (h_b : b ≤ 50) (e_b : M 46 2 = nI b) (hac : ac < b) (e_k : M 47 ac = 7) : x_M l G fX8_perform 10 0 0 [.ref (46), .int (nI (ac)), .int (2), .int (x)] x_SH M J (qKI WTR M J (fun r M2 => M2 46 3 = nI 4 ∧ TrF 48 [50, 11, 20, 1] M2)) := by
  refine xb_of pX8 (Nat.le_of_ble_eq_true rfl) rfl ?_
  refine xr_aload_n dX8_perform_0 0 rfl ?_
  refine xr_iconst (v := 0) dX8_perform_1 rfl ?_
  refine xr_putI fpX8_33 dX8_perform_2 s_46 rfl rfl rfl ?_
  refine xr_aload_n dX8_perform_5 0 rfl ?_
  refine xr_iload_n dX8_perform_6 1 rfl ?_
  refine xr_putI fpX8_36 dX8_perform_7 s_46 rfl rfl rfl ?_
  refine xr_aload_n dX8_perform_10 0 rfl ?_
  refine xr_iload_n dX8_perform_11 2 rfl ?_
  refine xr_iload_n dX8_perform_12 3 rfl ?_
  refine xr_iconst (v := 0) dX8_perform_13 rfl ?_
  refine xr_callV (As := [.int (2), .int (x), .int (0)]) (rest := []) mlX8_39 (tv7_own_2 (e := 0) (ac := ac) (ra := 0) x (by omega) h_b (Eq.trans (x_up_k _ _ _ (by decide)) (Eq.trans (x_up_k _ _ _ (by decide)) e_b)) (by omega) (Eq.trans (x_up_k _ _ _ (by decide)) (x_up_s _ _ _ _)) hac (x_up_s _ _ _ _) (Eq.trans (congrFun (x_up_n _ _ _ (by decide)) _) (Eq.trans (congrFun (x_up_n _ _ _ (by decide)) _) e_k))) dX8_perform_14 s_46 rfl rfl (Nat.le_of_ble_eq_true rfl) (by decide) ⟨by decide, by decide⟩ (fun v s2 M4 J2 hq => ?_)
  obtain ⟨r6, rfl, rfl, rfl, k5, ⟨hr2, hx1, ht3⟩⟩ := hq
  try dsimp only [Option.toList, List.cons_append, List.nil_append]
  subst hr2
  exact xr_iret dX8_perform_17 rfl rfl (⟨_, rfl, rfl, rfl, (Ke.tr (fun pp kk => (fun hh => Or.elim hh (fun h => (Or.inl h)) (fun h => (Or.inr (Or.inr h))))) (Ke.up (Or.inr (Or.inl (by omega))) (Ke.up (Or.inl (by omega)) Ke.rf)) k5), ⟨(hx1.trans (congrArg nI (Nat.zero_add _))), TrA_F ht3⟩⟩)
set_option maxRecDepth 100000 in
set_option maxHeartbeats 4000000 in
theorem tv7_run_2_0 {e ac : Nat} (x : Int32) (he : e + 4 ≤ 30) {l : Launch} {G : xG} {M : xM} {J : xJ} {b ra : Nat} (h_b : b ≤ 50) (e_b : M 46 2 = nI b) (h_ra : ra + 13 ≤ 900) (e_ra : M 46 3 = nI ra) (hac : ac < b) (e_ac : M 46 4 = nI ac) (e_k : M 47 ac = 7) : x_M l G fX8_run 13 0 0 [.ref (46), .int (2), .int (0), .int (x), .int (nI (e))] x_SH M J (qKI WTN M J (fun r M2 => r = (((((x + (nI (ac))) + 3) * 2) + ((2 ^^^ (nI (ac))) - ((2 + (nI (ac))) + 3))) - ((1 ^^^ (nI (ac))) - ((2 + (nI (ac))) + 3))) ∧ M2 46 3 = nI (ra + 13) ∧ TrA 48 ra [2, 80, 10, 20, 1, 50, 11, 20, 1, 50, 11, 20, 1] M M2)) := by
  refine xb_of pX8 (Nat.le_of_ble_eq_true rfl) rfl ?_
  refine xr_aload_n dX8_run_0 0 rfl ?_
  refine xr_iload_n dX8_run_1 1 rfl ?_
  refine xr_callV (As := [.int (2)]) (rest := []) mlX8_56 (gt_X8_note 2 (by omega) e_ra) dX8_run_2 s_46 rfl rfl (Nat.le_of_ble_eq_true rfl) (by decide) ⟨by decide, by decide⟩ (fun v s2 M3 J2 hq => ?_)
  obtain ⟨rfl, rfl, rfl, k4, ⟨hx1, ht2⟩⟩ := hq
  try dsimp only [Option.toList, List.cons_append, List.nil_append]
  refine xr_iload_n dX8_run_5 1 rfl ?_
  refine xr_lookup (tgt := 127) (off := 121) dX8_run_6 (by decide) (by decide) rfl ?_
  refine xr_aload_n dX8_run_127 0 rfl ?_
  refine xr_iconst (v := 1) dX8_run_128 rfl ?_
  refine xr_iload_n dX8_run_129 3 rfl ?_
  refine xr_iload dX8_run_130 4 rfl ?_
  refine xr_callV (As := [.int (1), .int (x), .int (nI (e))]) (rest := []) mlX8_39 (tv7_own_1 (e := e) (ac := ac) x (by omega) (by omega) (Eq.trans (k4 46 2 (by decide)) e_b) (by omega) hx1 hac (Eq.trans (k4 46 4 (by decide)) e_ac) (Eq.trans (k4 47 ac (by unfold WTN; omega)) e_k)) dX8_run_132 s_46 rfl rfl (Nat.le_of_ble_eq_true rfl) (by decide) ⟨by decide, by decide⟩ (fun v s2 M8 J2 hq => ?_)
  obtain ⟨r10, rfl, rfl, rfl, k9, ⟨hr6, hx5, ht7⟩⟩ := hq
  try dsimp only [Option.toList, List.cons_append, List.nil_append]
  subst hr6
  refine xr_aload_n dX8_run_135 0 rfl ?_
  refine xr_iconst (v := 2) dX8_run_136 rfl ?_
  refine xr_iconst (v := 1) dX8_run_137 rfl ?_
  refine xr_iload dX8_run_138 4 rfl ?_
  refine xr_callV (As := [.int (2), .int (1), .int (nI (e))]) (rest := [.int (((((x + (nI (ac))) + 3) * 2) + ((2 ^^^ (nI (ac))) - ((2 + (nI (ac))) + 3))))]) mlX8_39 (tv7_own_2 (e := e) (ac := ac) 1 (by omega) (by omega) (Eq.trans (k9 46 2 (by decide)) (Eq.trans (k4 46 2 (by decide)) e_b)) (by omega) hx5 hac (Eq.trans (k9 46 4 (by decide)) (Eq.trans (k4 46 4 (by decide)) e_ac)) (Eq.trans (k9 47 ac (by unfold WTN; omega)) (Eq.trans (k4 47 ac (by unfold WTN; omega)) e_k))) dX8_run_140 s_46 rfl rfl (Nat.le_of_ble_eq_true rfl) (by decide) ⟨by decide, by decide⟩ (fun v s2 M14 J2 hq => ?_)
  obtain ⟨r16, rfl, rfl, rfl, k15, ⟨hr12, hx11, ht13⟩⟩ := hq
  try dsimp only [Option.toList, List.cons_append, List.nil_append]
  subst hr12
  refine xr_isub dX8_run_143 ?_
  exact xr_iret dX8_run_144 rfl rfl (⟨_, rfl, rfl, rfl, (Ke.tr (fun _ _ h => h) (Ke.tr (fun _ _ h => h) (Ke.tr (fun _ _ h => h) Ke.rf k4) k9) k15), rfl, hx11, (TrA_app (l := [2, 80, 10, 20, 1, 50, 11, 20, 1]) (m := [50, 11, 20, 1]) (TrA_app (l := [2]) (m := [80, 10, 20, 1, 50, 11, 20, 1]) ht2 ht7) ht13)⟩)
set_option maxRecDepth 100000 in
set_option maxHeartbeats 4000000 in
theorem tv7_runFrom_4_3 {e ac : Nat} (x : Int32) (he : e + 5 ≤ 30) {l : Launch} {G : xG} {M : xM} {J : xJ} {b ra : Nat} (h_b : b ≤ 50) (e_b : M 46 2 = nI b) (h_ra : ra + 13 ≤ 900) (e_ra : M 46 3 = nI ra) (hac : ac < b) (e_ac : M 46 4 = nI ac) (e_k : M 47 ac = 7) : x_M l G fX8_runFrom 14 0 0 [.ref (46), .int (4), .int (3), .int (x), .int (nI (e))] x_SH M J (qKI WTN M J (fun r M2 => r = (((((x + (nI (ac))) + 3) * 2) + ((2 ^^^ (nI (ac))) - ((2 + (nI (ac))) + 3))) - ((1 ^^^ (nI (ac))) - ((2 + (nI (ac))) + 3))) ∧ M2 46 3 = nI (ra + 13) ∧ TrA 48 ra [2, 80, 10, 20, 1, 50, 11, 20, 1, 50, 11, 20, 1] M M2)) := by
  refine xb_of pX8 (Nat.le_of_ble_eq_true rfl) rfl ?_
  refine xr_iload_n dX8_runFrom_0 1 rfl ?_
  refine xr_istore (ls2 := [(5, .int (4)), (0, .ref (46)), (1, .int (4)), (2, .int (3)), (3, .int (x)), (4, .int (nI (e)))]) dX8_runFrom_1 (by decide) rfl ?_
  refine xr_iconst (v := 0) dX8_runFrom_3 rfl ?_
  refine xr_istore (ls2 := [(6, .int (0)), (5, .int (4)), (0, .ref (46)), (1, .int (4)), (2, .int (3)), (3, .int (x)), (4, .int (nI (e)))]) dX8_runFrom_4 (by decide) rfl ?_
  refine xr_iload dX8_runFrom_6 0 rfl ?_
  refine xr_bipush (v := 8) dX8_runFrom_8 rfl ?_
  refine xr_icmp_ge (tgt := 81) dX8_runFrom_10 rfl (fun c => absurd c (by decide)) (fun _ => ?_)
  refine xr_iload dX8_runFrom_13 1 rfl ?_
  refine xb_cN (As := [.int (4)]) (rest := []) mlX8_26 (c_X9_isKind 4) dX8_runFrom_15 rfl rfl (Nat.le_of_ble_eq_true rfl) (by decide) (by decide) ?_
  refine xb_beq (tgt := 81) dX8_runFrom_18 rfl (fun c => absurd (by decide) c) (fun _ => ?_)
  refine xr_getsO slX8_50 dX8_runFrom_21 ?_
  refine xr_iload dX8_runFrom_24 1 rfl ?_
  refine xr_iconst (v := 4) dX8_runFrom_26 rfl ?_
  refine xr_imul dX8_runFrom_27 ?_
  refine xb_top (y := 16) (by decide) ?_
  refine xr_iload_n dX8_runFrom_28 4 rfl ?_
  refine xr_iadd dX8_runFrom_29 ?_
  refine xb_top (y := 19) (by decide) ?_
  refine xr_tabO (by unfold vp_in; decide) dX8_runFrom_30 ?_
  refine xb_top (y := 0) (by decide) ?_
  refine xr_if_eq (tgt := 67) dX8_runFrom_31 rfl (fun _ => ?_) (fun c => absurd (by decide) c)
  refine xr_getsA slX8_30 dX8_runFrom_67 ?_
  refine xr_iload dX8_runFrom_70 1 rfl ?_
  refine xr_tabA (by unfold vp_in; decide) dX8_runFrom_72 ?_
  refine xb_top (y := 1) (by decide) ?_
  refine xr_istore (ls2 := [(5, .int (1)), (6, .int (0)), (0, .ref (46)), (1, .int (4)), (2, .int (3)), (3, .int (x)), (4, .int (nI (e)))]) dX8_runFrom_73 (by decide) rfl ?_
  refine xr_iinc (v := 1) (ls2 := [(6, .int (1)), (5, .int (1)), (0, .ref (46)), (1, .int (4)), (2, .int (3)), (3, .int (x)), (4, .int (nI (e)))]) dX8_runFrom_75 1 rfl rfl (by decide) rfl ?_
  refine xr_goto (tgt := 6) dX8_runFrom_78 rfl ?_
  refine xr_iload dX8_runFrom_6 0 rfl ?_
  refine xr_bipush (v := 8) dX8_runFrom_8 rfl ?_
  refine xr_icmp_ge (tgt := 81) dX8_runFrom_10 rfl (fun c => absurd c (by decide)) (fun _ => ?_)
  refine xr_iload dX8_runFrom_13 1 rfl ?_
  refine xb_cN (As := [.int (1)]) (rest := []) mlX8_26 (c_X9_isKind 1) dX8_runFrom_15 rfl rfl (Nat.le_of_ble_eq_true rfl) (by decide) (by decide) ?_
  refine xb_beq (tgt := 81) dX8_runFrom_18 rfl (fun c => absurd (by decide) c) (fun _ => ?_)
  refine xr_getsO slX8_50 dX8_runFrom_21 ?_
  refine xr_iload dX8_runFrom_24 1 rfl ?_
  refine xr_iconst (v := 4) dX8_runFrom_26 rfl ?_
  refine xr_imul dX8_runFrom_27 ?_
  refine xb_top (y := 4) (by decide) ?_
  refine xr_iload_n dX8_runFrom_28 4 rfl ?_
  refine xr_iadd dX8_runFrom_29 ?_
  refine xb_top (y := 7) (by decide) ?_
  refine xr_tabO (by unfold vp_in; decide) dX8_runFrom_30 ?_
  refine xb_top (y := 0) (by decide) ?_
  refine xr_if_eq (tgt := 67) dX8_runFrom_31 rfl (fun _ => ?_) (fun c => absurd (by decide) c)
  refine xr_getsA slX8_30 dX8_runFrom_67 ?_
  refine xr_iload dX8_runFrom_70 1 rfl ?_
  refine xr_tabA (by unfold vp_in; decide) dX8_runFrom_72 ?_
  refine xb_top (y := 0) (by decide) ?_
  refine xr_istore (ls2 := [(5, .int (0)), (6, .int (1)), (0, .ref (46)), (1, .int (4)), (2, .int (3)), (3, .int (x)), (4, .int (nI (e)))]) dX8_runFrom_73 (by decide) rfl ?_
  refine xr_iinc (v := 2) (ls2 := [(6, .int (2)), (5, .int (0)), (0, .ref (46)), (1, .int (4)), (2, .int (3)), (3, .int (x)), (4, .int (nI (e)))]) dX8_runFrom_75 1 rfl rfl (by decide) rfl ?_
  refine xr_goto (tgt := 6) dX8_runFrom_78 rfl ?_
  refine xr_iload dX8_runFrom_6 0 rfl ?_
  refine xr_bipush (v := 8) dX8_runFrom_8 rfl ?_
  refine xr_icmp_ge (tgt := 81) dX8_runFrom_10 rfl (fun c => absurd c (by decide)) (fun _ => ?_)
  refine xr_iload dX8_runFrom_13 1 rfl ?_
  refine xb_cN (As := [.int (0)]) (rest := []) mlX8_26 (c_X9_isKind 0) dX8_runFrom_15 rfl rfl (Nat.le_of_ble_eq_true rfl) (by decide) (by decide) ?_
  refine xb_beq (tgt := 81) dX8_runFrom_18 rfl (fun c => absurd (by decide) c) (fun _ => ?_)
  refine xr_getsO slX8_50 dX8_runFrom_21 ?_
  refine xr_iload dX8_runFrom_24 1 rfl ?_
  refine xr_iconst (v := 4) dX8_runFrom_26 rfl ?_
  refine xr_imul dX8_runFrom_27 ?_
  refine xb_top (y := 0) (by decide) ?_
  refine xr_iload_n dX8_runFrom_28 4 rfl ?_
  refine xr_iadd dX8_runFrom_29 ?_
  refine xb_top (y := 3) (by decide) ?_
  refine xr_tabO (by unfold vp_in; decide) dX8_runFrom_30 ?_
  refine xb_top (y := 2) (by decide) ?_
  refine xr_if_eq (tgt := 67) dX8_runFrom_31 rfl (fun c => absurd c (by decide)) (fun _ => ?_)
  refine xr_iload dX8_runFrom_34 6 rfl ?_
  refine xr_bipush (v := 30) dX8_runFrom_36 rfl ?_
  refine xr_icmp_ge (tgt := 65) dX8_runFrom_38 rfl (fun c => absurd c (nI_ge (a := e) (b := 30) (by omega) (by omega))) (fun _ => ?_)
  refine xr_aload_n dX8_runFrom_41 2 rfl ?_
  refine xr_getsO slX8_50 dX8_runFrom_42 ?_
  refine xr_iload dX8_runFrom_45 1 rfl ?_
  refine xr_iconst (v := 4) dX8_runFrom_47 rfl ?_
  refine xr_imul dX8_runFrom_48 ?_
  refine xb_top (y := 0) (by decide) ?_
  refine xr_iload_n dX8_runFrom_49 4 rfl ?_
  refine xr_iadd dX8_runFrom_50 ?_
  refine xb_top (y := 3) (by decide) ?_
  refine xr_tabO (by unfold vp_in; decide) dX8_runFrom_51 ?_
  refine xb_top (y := 2) (by decide) ?_
  refine xr_iload dX8_runFrom_52 1 rfl ?_
  refine xr_iload_n dX8_runFrom_54 5 rfl ?_
  refine xr_iload dX8_runFrom_55 6 rfl ?_
  refine xr_iconst (v := 1) dX8_runFrom_57 rfl ?_
  refine xr_iadd dX8_runFrom_58 ?_
  refine xb_top (y := nI (e + 1)) (nI_add (e) (1)) ?_
  refine xr_callV (As := [.int (2), .int (0), .int (x), .int (nI (e + 1))]) (rest := []) mlX8_53 (tv7_run_2_0 (e := e + 1) (ac := ac) x (by omega) (by omega) e_b (by omega) e_ra hac e_ac e_k) dX8_runFrom_59 s_46 rfl rfl (Nat.le_of_ble_eq_true rfl) (by decide) ⟨by decide, by decide⟩ (fun v s2 M7 J2 hq => ?_)
  obtain ⟨r9, rfl, rfl, rfl, k8, ⟨hr5, hx4, ht6⟩⟩ := hq
  try dsimp only [Option.toList, List.cons_append, List.nil_append]
  subst hr5
  refine xr_goto (tgt := 66) dX8_runFrom_62 rfl ?_
  exact xr_iret dX8_runFrom_66 rfl rfl (⟨_, rfl, rfl, rfl, (Ke.tr (fun _ _ h => h) Ke.rf k8), rfl, hx4, ht6⟩)
set_option maxRecDepth 100000 in
set_option maxHeartbeats 4000000 in
theorem tv7_above_7_3 {e ac : Nat} (x : Int32) (he : e + 5 ≤ 30) {l : Launch} {G : xG} {M : xM} {J : xJ} {b ra : Nat} (h_b : b ≤ 50) (e_b : M 46 2 = nI b) (h_ra : ra + 13 ≤ 900) (e_ra : M 46 3 = nI ra) (hac : ac < b) (e_ac : M 46 4 = nI ac) (e_k : M 47 ac = 7) : x_M l G fX8_above 15 0 0 [.ref (46), .int (7), .int (3), .int (x), .int (nI (e))] x_SH M J (qKI WTN M J (fun r M2 => r = (((((x + (nI (ac))) + 3) * 2) + ((2 ^^^ (nI (ac))) - ((2 + (nI (ac))) + 3))) - ((1 ^^^ (nI (ac))) - ((2 + (nI (ac))) + 3))) ∧ M2 46 3 = nI (ra + 13) ∧ TrA 48 ra [2, 80, 10, 20, 1, 50, 11, 20, 1, 50, 11, 20, 1] M M2)) := by
  refine xb_of pX8 (Nat.le_of_ble_eq_true rfl) rfl ?_
  refine xr_iload_n dX8_above_0 1 rfl ?_
  refine xb_cN (As := [.int (7)]) (rest := []) mlX8_26 (c_X9_isKind 7) dX8_above_1 rfl rfl (Nat.le_of_ble_eq_true rfl) (by decide) (by decide) ?_
  refine xb_beq (tgt := 23) dX8_above_4 rfl (fun c => absurd (by decide) c) (fun _ => ?_)
  refine xr_aload_n dX8_above_7 0 rfl ?_
  refine xr_getsA slX8_30 dX8_above_8 ?_
  refine xr_iload_n dX8_above_11 1 rfl ?_
  refine xr_tabA (by unfold vp_in; decide) dX8_above_12 ?_
  refine xb_top (y := 4) (by decide) ?_
  refine xr_iload_n dX8_above_13 2 rfl ?_
  refine xr_iload_n dX8_above_14 3 rfl ?_
  refine xr_iload dX8_above_15 4 rfl ?_
  refine xr_callV (As := [.int (4), .int (3), .int (x), .int (nI (e))]) (rest := []) mlX8_46 (tv7_runFrom_4_3 (e := e) (ac := ac) x (by omega) (by omega) e_b (by omega) e_ra hac e_ac e_k) dX8_above_17 s_46 rfl rfl (Nat.le_of_ble_eq_true rfl) (by decide) ⟨by decide, by decide⟩ (fun v s2 M5 J2 hq => ?_)
  obtain ⟨r7, rfl, rfl, rfl, k6, ⟨hr3, hx2, ht4⟩⟩ := hq
  try dsimp only [Option.toList, List.cons_append, List.nil_append]
  subst hr3
  refine xr_goto (tgt := 24) dX8_above_20 rfl ?_
  exact xr_iret dX8_above_24 rfl rfl (⟨_, rfl, rfl, rfl, (Ke.tr (fun _ _ h => h) Ke.rf k6), rfl, hx2, ht4⟩)
set_option maxRecDepth 100000 in
set_option maxHeartbeats 4000000 in
theorem tv7_run_81_7 {e ac : Nat} (x : Int32) (he : e + 5 ≤ 30) {l : Launch} {G : xG} {M : xM} {J : xJ} {b ra : Nat} (h_b : b ≤ 50) (e_b : M 46 2 = nI b) (h_ra : ra + 14 ≤ 900) (e_ra : M 46 3 = nI ra) (hac : ac < b) (e_ac : M 46 4 = nI ac) (e_k : M 47 ac = 7) : x_M l G fX8_run 16 0 0 [.ref (46), .int (81), .int (7), .int (x), .int (nI (e))] x_SH M J (qKI WTN M J (fun r M2 => r = ((((((x + (nI (ac))) + 3) * 2) + ((2 ^^^ (nI (ac))) - ((2 + (nI (ac))) + 3))) - ((1 ^^^ (nI (ac))) - ((2 + (nI (ac))) + 3))) - 1) ∧ M2 46 3 = nI (ra + 14) ∧ TrA 48 ra [81, 2, 80, 10, 20, 1, 50, 11, 20, 1, 50, 11, 20, 1] M M2)) := by
  refine xb_of pX8 (Nat.le_of_ble_eq_true rfl) rfl ?_
  refine xr_aload_n dX8_run_0 0 rfl ?_
  refine xr_iload_n dX8_run_1 1 rfl ?_
  refine xr_callV (As := [.int (81)]) (rest := []) mlX8_56 (gt_X8_note 81 (by omega) e_ra) dX8_run_2 s_46 rfl rfl (Nat.le_of_ble_eq_true rfl) (by decide) ⟨by decide, by decide⟩ (fun v s2 M3 J2 hq => ?_)
  obtain ⟨rfl, rfl, rfl, k4, ⟨hx1, ht2⟩⟩ := hq
  try dsimp only [Option.toList, List.cons_append, List.nil_append]
  refine xr_iload_n dX8_run_5 1 rfl ?_
  refine xr_lookup (tgt := 272) (off := 266) dX8_run_6 (by decide) (by decide) rfl ?_
  refine xr_aload_n dX8_run_272 0 rfl ?_
  refine xr_iload_n dX8_run_273 2 rfl ?_
  refine xr_iconst (v := 3) dX8_run_274 rfl ?_
  refine xr_iload_n dX8_run_275 3 rfl ?_
  refine xr_iload dX8_run_276 4 rfl ?_
  refine xr_callV (As := [.int (7), .int (3), .int (x), .int (nI (e))]) (rest := []) mlX8_60 (tv7_above_7_3 (e := e) (ac := ac) x (by omega) (by omega) (Eq.trans (k4 46 2 (by decide)) e_b) (by omega) hx1 hac (Eq.trans (k4 46 4 (by decide)) e_ac) (Eq.trans (k4 47 ac (by unfold WTN; omega)) e_k)) dX8_run_278 s_46 rfl rfl (Nat.le_of_ble_eq_true rfl) (by decide) ⟨by decide, by decide⟩ (fun v s2 M8 J2 hq => ?_)
  obtain ⟨r10, rfl, rfl, rfl, k9, ⟨hr6, hx5, ht7⟩⟩ := hq
  try dsimp only [Option.toList, List.cons_append, List.nil_append]
  subst hr6
  refine xr_iconst (v := 1) dX8_run_281 rfl ?_
  refine xr_isub dX8_run_282 ?_
  exact xr_iret dX8_run_283 rfl rfl (⟨_, rfl, rfl, rfl, (Ke.tr (fun _ _ h => h) (Ke.tr (fun _ _ h => h) Ke.rf k4) k9), rfl, hx5, (TrA_app (l := [81]) (m := [2, 80, 10, 20, 1, 50, 11, 20, 1, 50, 11, 20, 1]) ht2 ht7)⟩)
set_option maxRecDepth 100000 in
set_option maxHeartbeats 4000000 in
theorem tv7_runFrom_7_3 {e ac : Nat} (x : Int32) (he : e + 6 ≤ 30) {l : Launch} {G : xG} {M : xM} {J : xJ} {b ra : Nat} (h_b : b ≤ 50) (e_b : M 46 2 = nI b) (h_ra : ra + 14 ≤ 900) (e_ra : M 46 3 = nI ra) (hac : ac < b) (e_ac : M 46 4 = nI ac) (e_k : M 47 ac = 7) : x_M l G fX8_runFrom 17 0 0 [.ref (46), .int (7), .int (3), .int (x), .int (nI (e))] x_SH M J (qKI WTN M J (fun r M2 => r = ((((((x + (nI (ac))) + 3) * 2) + ((2 ^^^ (nI (ac))) - ((2 + (nI (ac))) + 3))) - ((1 ^^^ (nI (ac))) - ((2 + (nI (ac))) + 3))) - 1) ∧ M2 46 3 = nI (ra + 14) ∧ TrA 48 ra [81, 2, 80, 10, 20, 1, 50, 11, 20, 1, 50, 11, 20, 1] M M2)) := by
  refine xb_of pX8 (Nat.le_of_ble_eq_true rfl) rfl ?_
  refine xr_iload_n dX8_runFrom_0 1 rfl ?_
  refine xr_istore (ls2 := [(5, .int (7)), (0, .ref (46)), (1, .int (7)), (2, .int (3)), (3, .int (x)), (4, .int (nI (e)))]) dX8_runFrom_1 (by decide) rfl ?_
  refine xr_iconst (v := 0) dX8_runFrom_3 rfl ?_
  refine xr_istore (ls2 := [(6, .int (0)), (5, .int (7)), (0, .ref (46)), (1, .int (7)), (2, .int (3)), (3, .int (x)), (4, .int (nI (e)))]) dX8_runFrom_4 (by decide) rfl ?_
  refine xr_iload dX8_runFrom_6 0 rfl ?_
  refine xr_bipush (v := 8) dX8_runFrom_8 rfl ?_
  refine xr_icmp_ge (tgt := 81) dX8_runFrom_10 rfl (fun c => absurd c (by decide)) (fun _ => ?_)
  refine xr_iload dX8_runFrom_13 1 rfl ?_
  refine xb_cN (As := [.int (7)]) (rest := []) mlX8_26 (c_X9_isKind 7) dX8_runFrom_15 rfl rfl (Nat.le_of_ble_eq_true rfl) (by decide) (by decide) ?_
  refine xb_beq (tgt := 81) dX8_runFrom_18 rfl (fun c => absurd (by decide) c) (fun _ => ?_)
  refine xr_getsO slX8_50 dX8_runFrom_21 ?_
  refine xr_iload dX8_runFrom_24 1 rfl ?_
  refine xr_iconst (v := 4) dX8_runFrom_26 rfl ?_
  refine xr_imul dX8_runFrom_27 ?_
  refine xb_top (y := 28) (by decide) ?_
  refine xr_iload_n dX8_runFrom_28 4 rfl ?_
  refine xr_iadd dX8_runFrom_29 ?_
  refine xb_top (y := 31) (by decide) ?_
  refine xr_tabO (by unfold vp_in; decide) dX8_runFrom_30 ?_
  refine xb_top (y := 81) (by decide) ?_
  refine xr_if_eq (tgt := 67) dX8_runFrom_31 rfl (fun c => absurd c (by decide)) (fun _ => ?_)
  refine xr_iload dX8_runFrom_34 6 rfl ?_
  refine xr_bipush (v := 30) dX8_runFrom_36 rfl ?_
  refine xr_icmp_ge (tgt := 65) dX8_runFrom_38 rfl (fun c => absurd c (nI_ge (a := e) (b := 30) (by omega) (by omega))) (fun _ => ?_)
  refine xr_aload_n dX8_runFrom_41 2 rfl ?_
  refine xr_getsO slX8_50 dX8_runFrom_42 ?_
  refine xr_iload dX8_runFrom_45 1 rfl ?_
  refine xr_iconst (v := 4) dX8_runFrom_47 rfl ?_
  refine xr_imul dX8_runFrom_48 ?_
  refine xb_top (y := 28) (by decide) ?_
  refine xr_iload_n dX8_runFrom_49 4 rfl ?_
  refine xr_iadd dX8_runFrom_50 ?_
  refine xb_top (y := 31) (by decide) ?_
  refine xr_tabO (by unfold vp_in; decide) dX8_runFrom_51 ?_
  refine xb_top (y := 81) (by decide) ?_
  refine xr_iload dX8_runFrom_52 1 rfl ?_
  refine xr_iload_n dX8_runFrom_54 5 rfl ?_
  refine xr_iload dX8_runFrom_55 6 rfl ?_
  refine xr_iconst (v := 1) dX8_runFrom_57 rfl ?_
  refine xr_iadd dX8_runFrom_58 ?_
  refine xb_top (y := nI (e + 1)) (nI_add (e) (1)) ?_
  refine xr_callV (As := [.int (81), .int (7), .int (x), .int (nI (e + 1))]) (rest := []) mlX8_53 (tv7_run_81_7 (e := e + 1) (ac := ac) x (by omega) (by omega) e_b (by omega) e_ra hac e_ac e_k) dX8_runFrom_59 s_46 rfl rfl (Nat.le_of_ble_eq_true rfl) (by decide) ⟨by decide, by decide⟩ (fun v s2 M5 J2 hq => ?_)
  obtain ⟨r7, rfl, rfl, rfl, k6, ⟨hr3, hx2, ht4⟩⟩ := hq
  try dsimp only [Option.toList, List.cons_append, List.nil_append]
  subst hr3
  refine xr_goto (tgt := 66) dX8_runFrom_62 rfl ?_
  exact xr_iret dX8_runFrom_66 rfl rfl (⟨_, rfl, rfl, rfl, (Ke.tr (fun _ _ h => h) Ke.rf k6), rfl, hx2, ht4⟩)
set_option maxRecDepth 100000 in
set_option maxHeartbeats 4000000 in
theorem tv7_own_3 {e ac : Nat} (x : Int32) (he : e + 6 ≤ 30) {l : Launch} {G : xG} {M : xM} {J : xJ} {b ra : Nat} (h_b : b ≤ 50) (e_b : M 46 2 = nI b) (h_ra : ra + 14 ≤ 900) (e_ra : M 46 3 = nI ra) (hac : ac < b) (e_ac : M 46 4 = nI ac) (e_k : M 47 ac = 7) : x_M l G fX8_own 18 0 0 [.ref (46), .int (3), .int (x), .int (nI (e))] x_SH M J (qKI WTN M J (fun r M2 => r = ((((((x + (nI (ac))) + 3) * 2) + ((2 ^^^ (nI (ac))) - ((2 + (nI (ac))) + 3))) - ((1 ^^^ (nI (ac))) - ((2 + (nI (ac))) + 3))) - 1) ∧ M2 46 3 = nI (ra + 14) ∧ TrA 48 ra [81, 2, 80, 10, 20, 1, 50, 11, 20, 1, 50, 11, 20, 1] M M2)) := by
  refine xb_of pX8 (Nat.le_of_ble_eq_true rfl) rfl ?_
  refine xr_aload_n dX8_own_0 0 rfl ?_
  refine xr_aload_n dX8_own_1 0 rfl ?_
  refine xb_get (v := nI (ac)) flX8_36 dX8_own_2 s_46 rfl e_ac ?_
  refine xb_cV (As := [.int (nI (ac))]) (rest := []) mlX8_43 (c_X8_has (nI (ac)) (by omega) e_b) dX8_own_5 s_46 rfl rfl (Nat.le_of_ble_eq_true rfl) (by decide) (by decide) ?_
  refine xb_beq (tgt := 30) dX8_own_8 rfl (fun c => absurd ⟨nI_pos' (by omega), nI_lt (by omega) (by omega)⟩ c) (fun _ => ?_)
  refine xr_aload_n dX8_own_11 0 rfl ?_
  refine xr_aload_n dX8_own_12 0 rfl ?_
  refine xr_getR flX8_9 dX8_own_13 s_46 rfl ?_
  refine xr_aload_n dX8_own_16 0 rfl ?_
  refine xb_get (v := nI (ac)) flX8_36 dX8_own_17 s_46 rfl e_ac ?_
  refine xb_iald (j := ac) (v := 7) dX8_own_20 s_47 (by omega) (by decide) e_k ?_
  refine xr_iload_n dX8_own_21 1 rfl ?_
  refine xr_iload_n dX8_own_22 2 rfl ?_
  refine xr_iload_n dX8_own_23 3 rfl ?_
  refine xr_callV (As := [.int (7), .int (3), .int (x), .int (nI (e))]) (rest := []) mlX8_46 (tv7_runFrom_7_3 (e := e) (ac := ac) x (by omega) (by omega) e_b (by omega) e_ra hac e_ac e_k) dX8_own_24 s_46 rfl rfl (Nat.le_of_ble_eq_true rfl) (by decide) ⟨by decide, by decide⟩ (fun v s2 M5 J2 hq => ?_)
  obtain ⟨r7, rfl, rfl, rfl, k6, ⟨hr3, hx2, ht4⟩⟩ := hq
  try dsimp only [Option.toList, List.cons_append, List.nil_append]
  subst hr3
  refine xr_goto (tgt := 31) dX8_own_27 rfl ?_
  exact xr_iret dX8_own_31 rfl rfl (⟨_, rfl, rfl, rfl, (Ke.tr (fun _ _ h => h) Ke.rf k6), rfl, hx2, ht4⟩)
set_option maxRecDepth 100000 in
set_option maxHeartbeats 4000000 in
theorem tw7_3 {ac b : Nat} (x : Int32) {l : Launch} {G : xG} {M : xM} {J : xJ} (h_b : b ≤ 50) (e_b : M 46 2 = nI b) (hac : ac < b) (e_k : M 47 ac = 7) : x_M l G fX8_perform 19 0 0 [.ref (46), .int (nI (ac)), .int (3), .int (x)] x_SH M J (qKI WTR M J (fun r M2 => M2 46 3 = nI 14 ∧ TrF 48 [81, 2, 80, 10, 20, 1, 50, 11, 20, 1, 50, 11, 20, 1] M2)) := by
  refine xb_of pX8 (Nat.le_of_ble_eq_true rfl) rfl ?_
  refine xr_aload_n dX8_perform_0 0 rfl ?_
  refine xr_iconst (v := 0) dX8_perform_1 rfl ?_
  refine xr_putI fpX8_33 dX8_perform_2 s_46 rfl rfl rfl ?_
  refine xr_aload_n dX8_perform_5 0 rfl ?_
  refine xr_iload_n dX8_perform_6 1 rfl ?_
  refine xr_putI fpX8_36 dX8_perform_7 s_46 rfl rfl rfl ?_
  refine xr_aload_n dX8_perform_10 0 rfl ?_
  refine xr_iload_n dX8_perform_11 2 rfl ?_
  refine xr_iload_n dX8_perform_12 3 rfl ?_
  refine xr_iconst (v := 0) dX8_perform_13 rfl ?_
  refine xr_callV (As := [.int (3), .int (x), .int (0)]) (rest := []) mlX8_39 (tv7_own_3 (e := 0) (ac := ac) (ra := 0) x (by omega) h_b (Eq.trans (x_up_k _ _ _ (by decide)) (Eq.trans (x_up_k _ _ _ (by decide)) e_b)) (by omega) (Eq.trans (x_up_k _ _ _ (by decide)) (x_up_s _ _ _ _)) hac (x_up_s _ _ _ _) (Eq.trans (congrFun (x_up_n _ _ _ (by decide)) _) (Eq.trans (congrFun (x_up_n _ _ _ (by decide)) _) e_k))) dX8_perform_14 s_46 rfl rfl (Nat.le_of_ble_eq_true rfl) (by decide) ⟨by decide, by decide⟩ (fun v s2 M4 J2 hq => ?_)
  obtain ⟨r6, rfl, rfl, rfl, k5, ⟨hr2, hx1, ht3⟩⟩ := hq
  try dsimp only [Option.toList, List.cons_append, List.nil_append]
  subst hr2
  exact xr_iret dX8_perform_17 rfl rfl (⟨_, rfl, rfl, rfl, (Ke.tr (fun pp kk => (fun hh => Or.elim hh (fun h => (Or.inl h)) (fun h => (Or.inr (Or.inr h))))) (Ke.up (Or.inr (Or.inl (by omega))) (Ke.up (Or.inl (by omega)) Ke.rf)) k5), ⟨(hx1.trans (congrArg nI (Nat.zero_add _))), TrA_F ht3⟩⟩)
set_option maxRecDepth 100000 in
set_option maxHeartbeats 4000000 in
theorem rv0_pushesAs_0 {ac : Nat} (x : Int32) {l : Launch} {G : xG} {M : xM} {J : xJ} {ra : Nat} (h_ra : ra + 1 ≤ 900) (e_ra : M 62 39 = nI ra) (e_k : M 62 40 = 0) (e_ac : M 62 41 = nI ac) : x_M l G fX10_pushesAs 1 0 0 [.ref (62), .int (0), .int (x)] x_SH M J (qKI WRA M J (fun r M2 => r = (x + (nI (ac))) ∧ M2 62 39 = nI (ra + 1) ∧ TrA 82 ra [1] M M2)) := by
  refine xb_of pX10 (Nat.le_of_ble_eq_true rfl) rfl ?_
  refine xr_iload_n dX10_pushesAs_0 1 rfl ?_
  refine xr_iconst (v := 1) dX10_pushesAs_1 rfl ?_
  refine xr_icmp_eq (tgt := 16) dX10_pushesAs_2 rfl (fun c => absurd c (by decide)) (fun _ => ?_)
  refine xr_iload_n dX10_pushesAs_5 1 rfl ?_
  refine xr_iconst (v := 4) dX10_pushesAs_6 rfl ?_
  refine xr_icmp_eq (tgt := 16) dX10_pushesAs_7 rfl (fun c => absurd c (by decide)) (fun _ => ?_)
  refine xr_iload_n dX10_pushesAs_10 1 rfl ?_
  refine xr_bipush (v := 7) dX10_pushesAs_11 rfl ?_
  refine xr_icmp_ne (tgt := 31) dX10_pushesAs_13 rfl (fun _ => ?_) (fun c => absurd c (by decide))
  refine xr_iload_n dX10_pushesAs_31 1 rfl ?_
  refine xr_bipush (v := 6) dX10_pushesAs_32 rfl ?_
  refine xr_icmp_ne (tgt := 52) dX10_pushesAs_34 rfl (fun _ => ?_) (fun c => absurd c (by decide))
  refine xr_aload_n dX10_pushesAs_52 0 rfl ?_
  refine xr_iconst (v := 1) dX10_pushesAs_53 rfl ?_
  refine xr_callV (As := [.int (1)]) (rest := []) mlX10_340 (gt_X10_begins 1 (by omega) e_ra) dX10_pushesAs_54 s_62 rfl rfl (Nat.le_of_ble_eq_true rfl) (by decide) ⟨by decide, by decide⟩ (fun v s2 M3 J2 hq => ?_)
  obtain ⟨rfl, rfl, rfl, k4, ⟨hx1, ht2⟩⟩ := hq
  try dsimp only [Option.toList, List.cons_append, List.nil_append]
  refine xr_iload_n dX10_pushesAs_57 2 rfl ?_
  refine xr_aload_n dX10_pushesAs_58 0 rfl ?_
  refine xb_get (v := nI (ac)) flX10_346 dX10_pushesAs_59 s_62 rfl (Eq.trans (k4 62 41 (by decide)) e_ac) ?_
  refine xr_iadd dX10_pushesAs_62 ?_
  exact xr_iret dX10_pushesAs_63 rfl rfl (⟨_, rfl, rfl, rfl, (Ke.tr (fun _ _ h => h) Ke.rf k4), rfl, hx1, ht2⟩)
set_option maxRecDepth 100000 in
set_option maxHeartbeats 4000000 in
theorem rv0_turnsAs_0 {ac : Nat} (x : Int32) {l : Launch} {G : xG} {M : xM} {J : xJ} {ra : Nat} (h_ra : ra + 2 ≤ 900) (e_ra : M 62 39 = nI ra) (e_k : M 62 40 = 0) (e_ac : M 62 41 = nI ac) : x_M l G fX10_turnsAs 2 0 0 [.ref (62), .int (0), .int (x)] x_SH M J (qKI WRA M J (fun r M2 => r = ((x + (nI (ac))) * 2) ∧ M2 62 39 = nI (ra + 2) ∧ TrA 82 ra [10, 1] M M2)) := by
  refine xb_of pX10 (Nat.le_of_ble_eq_true rfl) rfl ?_
  refine xr_iload_n dX10_turnsAs_0 1 rfl ?_
  refine xr_iconst (v := 3) dX10_turnsAs_1 rfl ?_
  refine xr_icmp_eq (tgt := 10) dX10_turnsAs_2 rfl (fun c => absurd c (by decide)) (fun _ => ?_)
  refine xr_iload_n dX10_turnsAs_5 1 rfl ?_
  refine xr_iconst (v := 5) dX10_turnsAs_6 rfl ?_
  refine xr_icmp_ne (tgt := 25) dX10_turnsAs_7 rfl (fun _ => ?_) (fun c => absurd c (by decide))
  refine xr_iload_n dX10_turnsAs_25 1 rfl ?_
  refine xr_iconst (v := 2) dX10_turnsAs_26 rfl ?_
  refine xr_icmp_ne (tgt := 44) dX10_turnsAs_27 rfl (fun _ => ?_) (fun c => absurd c (by decide))
  refine xr_iload_n dX10_turnsAs_44 1 rfl ?_
  refine xr_bipush (v := 7) dX10_turnsAs_45 rfl ?_
  refine xr_icmp_ne (tgt := 75) dX10_turnsAs_47 rfl (fun _ => ?_) (fun c => absurd c (by decide))
  refine xr_aload_n dX10_turnsAs_75 0 rfl ?_
  refine xr_bipush (v := 10) dX10_turnsAs_76 rfl ?_
  refine xr_callV (As := [.int (10)]) (rest := []) mlX10_340 (gt_X10_begins 10 (by omega) e_ra) dX10_turnsAs_78 s_62 rfl rfl (Nat.le_of_ble_eq_true rfl) (by decide) ⟨by decide, by decide⟩ (fun v s2 M3 J2 hq => ?_)
  obtain ⟨rfl, rfl, rfl, k4, ⟨hx1, ht2⟩⟩ := hq
  try dsimp only [Option.toList, List.cons_append, List.nil_append]
  refine xr_aload_n dX10_turnsAs_81 0 rfl ?_
  refine xr_aload_n dX10_turnsAs_82 0 rfl ?_
  refine xb_get (v := 0) flX10_352 dX10_turnsAs_83 s_62 rfl (Eq.trans (k4 62 40 (by decide)) e_k) ?_
  refine xr_iload_n dX10_turnsAs_86 2 rfl ?_
  refine xr_callV (As := [.int (0), .int (x)]) (rest := []) mlX10_343 (rv0_pushesAs_0 x (by omega) hx1 (Eq.trans (k4 62 40 (by decide)) e_k) (Eq.trans (k4 62 41 (by decide)) e_ac)) dX10_turnsAs_87 s_62 rfl rfl (Nat.le_of_ble_eq_true rfl) (by decide) ⟨by decide, by decide⟩ (fun v s2 M8 J2 hq => ?_)
  obtain ⟨r10, rfl, rfl, rfl, k9, ⟨hr6, hx5, ht7⟩⟩ := hq
  try dsimp only [Option.toList, List.cons_append, List.nil_append]
  subst hr6
  refine xr_iconst (v := 2) dX10_turnsAs_90 rfl ?_
  refine xr_imul dX10_turnsAs_91 ?_
  exact xr_iret dX10_turnsAs_92 rfl rfl (⟨_, rfl, rfl, rfl, (Ke.tr (fun _ _ h => h) (Ke.tr (fun _ _ h => h) Ke.rf k4) k9), rfl, hx5, (TrA_app (l := [10]) (m := [1]) ht2 ht7)⟩)
set_option maxRecDepth 100000 in
set_option maxHeartbeats 4000000 in
theorem rv0_sinksAs_0 {ac : Nat} (x : Int32) {l : Launch} {G : xG} {M : xM} {J : xJ} {ra : Nat} (h_ra : ra + 1 ≤ 900) (e_ra : M 62 39 = nI ra) (e_k : M 62 40 = 0) (e_ac : M 62 41 = nI ac) : x_M l G fX10_sinksAs 1 0 0 [.ref (62), .int (0), .int (x)] x_SH M J (qKI WRA M J (fun r M2 => r = (x ^^^ (nI (ac))) ∧ M2 62 39 = nI (ra + 1) ∧ TrA 82 ra [11] M M2)) := by
  refine xb_of pX10 (Nat.le_of_ble_eq_true rfl) rfl ?_
  refine xr_iload_n dX10_sinksAs_0 1 rfl ?_
  refine xr_iconst (v := 3) dX10_sinksAs_1 rfl ?_
  refine xr_icmp_eq (tgt := 10) dX10_sinksAs_2 rfl (fun c => absurd c (by decide)) (fun _ => ?_)
  refine xr_iload_n dX10_sinksAs_5 1 rfl ?_
  refine xr_iconst (v := 5) dX10_sinksAs_6 rfl ?_
  refine xr_icmp_ne (tgt := 25) dX10_sinksAs_7 rfl (fun _ => ?_) (fun c => absurd c (by decide))
  refine xr_iload_n dX10_sinksAs_25 1 rfl ?_
  refine xr_iconst (v := 4) dX10_sinksAs_26 rfl ?_
  refine xr_icmp_eq (tgt := 36) dX10_sinksAs_27 rfl (fun c => absurd c (by decide)) (fun _ => ?_)
  refine xr_iload_n dX10_sinksAs_30 1 rfl ?_
  refine xr_bipush (v := 7) dX10_sinksAs_31 rfl ?_
  refine xr_icmp_ne (tgt := 61) dX10_sinksAs_33 rfl (fun _ => ?_) (fun c => absurd c (by decide))
  refine xr_aload_n dX10_sinksAs_61 0 rfl ?_
  refine xr_bipush (v := 11) dX10_sinksAs_62 rfl ?_
  refine xr_callV (As := [.int (11)]) (rest := []) mlX10_340 (gt_X10_begins 11 (by omega) e_ra) dX10_sinksAs_64 s_62 rfl rfl (Nat.le_of_ble_eq_true rfl) (by decide) ⟨by decide, by decide⟩ (fun v s2 M3 J2 hq => ?_)
  obtain ⟨rfl, rfl, rfl, k4, ⟨hx1, ht2⟩⟩ := hq
  try dsimp only [Option.toList, List.cons_append, List.nil_append]
  refine xr_iload_n dX10_sinksAs_67 2 rfl ?_
  refine xr_aload_n dX10_sinksAs_68 0 rfl ?_
  refine xb_get (v := nI (ac)) flX10_346 dX10_sinksAs_69 s_62 rfl (Eq.trans (k4 62 41 (by decide)) e_ac) ?_
  refine xr_ixor dX10_sinksAs_72 ?_
  exact xr_iret dX10_sinksAs_73 rfl rfl (⟨_, rfl, rfl, rfl, (Ke.tr (fun _ _ h => h) Ke.rf k4), rfl, hx1, ht2⟩)
set_option maxRecDepth 100000 in
set_option maxHeartbeats 4000000 in
theorem rv0_tellsAs_0 {ac : Nat} (x : Int32) {l : Launch} {G : xG} {M : xM} {J : xJ} {ra : Nat} (h_ra : ra + 4 ≤ 900) (e_ra : M 62 39 = nI ra) (e_k : M 62 40 = 0) (e_ac : M 62 41 = nI ac) : x_M l G fX10_tellsAs 3 0 0 [.ref (62), .int (0), .int (x)] x_SH M J (qKI WRA M J (fun r M2 => r = (((x + (nI (ac))) * 2) - (1 ^^^ (nI (ac)))) ∧ M2 62 39 = nI (ra + 4) ∧ TrA 82 ra [2, 10, 1, 11] M M2)) := by
  refine xb_of pX10 (Nat.le_of_ble_eq_true rfl) rfl ?_
  refine xr_iload_n dX10_tellsAs_0 1 rfl ?_
  refine xr_iconst (v := 5) dX10_tellsAs_1 rfl ?_
  refine xr_icmp_ne (tgt := 20) dX10_tellsAs_2 rfl (fun _ => ?_) (fun c => absurd c (by decide))
  refine xr_iload_n dX10_tellsAs_20 1 rfl ?_
  refine xr_bipush (v := 7) dX10_tellsAs_21 rfl ?_
  refine xr_icmp_ne (tgt := 41) dX10_tellsAs_23 rfl (fun _ => ?_) (fun c => absurd c (by decide))
  refine xr_aload_n dX10_tellsAs_41 0 rfl ?_
  refine xr_iconst (v := 2) dX10_tellsAs_42 rfl ?_
  refine xr_callV (As := [.int (2)]) (rest := []) mlX10_340 (gt_X10_begins 2 (by omega) e_ra) dX10_tellsAs_43 s_62 rfl rfl (Nat.le_of_ble_eq_true rfl) (by decide) ⟨by decide, by decide⟩ (fun v s2 M3 J2 hq => ?_)
  obtain ⟨rfl, rfl, rfl, k4, ⟨hx1, ht2⟩⟩ := hq
  try dsimp only [Option.toList, List.cons_append, List.nil_append]
  refine xr_aload_n dX10_tellsAs_46 0 rfl ?_
  refine xr_aload_n dX10_tellsAs_47 0 rfl ?_
  refine xb_get (v := 0) flX10_352 dX10_tellsAs_48 s_62 rfl (Eq.trans (k4 62 40 (by decide)) e_k) ?_
  refine xr_iload_n dX10_tellsAs_51 2 rfl ?_
  refine xr_callV (As := [.int (0), .int (x)]) (rest := []) mlX10_349 (rv0_turnsAs_0 x (by omega) hx1 (Eq.trans (k4 62 40 (by decide)) e_k) (Eq.trans (k4 62 41 (by decide)) e_ac)) dX10_tellsAs_52 s_62 rfl rfl (Nat.le_of_ble_eq_true rfl) (by decide) ⟨by decide, by decide⟩ (fun v s2 M8 J2 hq => ?_)
  obtain ⟨r10, rfl, rfl, rfl, k9, ⟨hr6, hx5, ht7⟩⟩ := hq
  try dsimp only [Option.toList, List.cons_append, List.nil_append]
  subst hr6
  refine xr_istore_n (ls2 := [(3, .int (((x + (nI (ac))) * 2))), (0, .ref (62)), (1, .int (0)), (2, .int (x))]) dX10_tellsAs_55 (by decide) rfl ?_
  refine xr_iload_n dX10_tellsAs_56 0 rfl ?_
  refine xr_aload_n dX10_tellsAs_57 1 rfl ?_
  refine xr_aload_n dX10_tellsAs_58 1 rfl ?_
  refine xb_get (v := 0) flX10_352 dX10_tellsAs_59 s_62 rfl (Eq.trans (k9 62 40 (by decide)) (Eq.trans (k4 62 40 (by decide)) e_k)) ?_
  refine xr_iconst (v := 1) dX10_tellsAs_62 rfl ?_
  refine xr_callV (As := [.int (0), .int (1)]) (rest := [.int (((x + (nI (ac))) * 2))]) mlX10_355 (rv0_sinksAs_0 1 (by omega) hx5 (Eq.trans (k9 62 40 (by decide)) (Eq.trans (k4 62 40 (by decide)) e_k)) (Eq.trans (k9 62 41 (by decide)) (Eq.trans (k4 62 41 (by decide)) e_ac))) dX10_tellsAs_63 s_62 rfl rfl (Nat.le_of_ble_eq_true rfl) (by decide) ⟨by decide, by decide⟩ (fun v s2 M14 J2 hq => ?_)
  obtain ⟨r16, rfl, rfl, rfl, k15, ⟨hr12, hx11, ht13⟩⟩ := hq
  try dsimp only [Option.toList, List.cons_append, List.nil_append]
  subst hr12
  refine xr_isub dX10_tellsAs_66 ?_
  exact xr_iret dX10_tellsAs_67 rfl rfl (⟨_, rfl, rfl, rfl, (Ke.tr (fun _ _ h => h) (Ke.tr (fun _ _ h => h) (Ke.tr (fun _ _ h => h) Ke.rf k4) k9) k15), rfl, hx11, (TrA_app (l := [2, 10, 1]) (m := [11]) (TrA_app (l := [2]) (m := [10, 1]) ht2 ht7) ht13)⟩)
set_option maxRecDepth 100000 in
set_option maxHeartbeats 4000000 in
theorem rv1_pushesAs_0 {ac : Nat} (x : Int32) {l : Launch} {G : xG} {M : xM} {J : xJ} {ra : Nat} (h_ra : ra + 1 ≤ 900) (e_ra : M 62 39 = nI ra) (e_k : M 62 40 = 1) (e_ac : M 62 41 = nI ac) : x_M l G fX10_pushesAs 1 0 0 [.ref (62), .int (0), .int (x)] x_SH M J (qKI WRA M J (fun r M2 => r = (x + (nI (ac))) ∧ M2 62 39 = nI (ra + 1) ∧ TrA 82 ra [1] M M2)) := by
  refine xb_of pX10 (Nat.le_of_ble_eq_true rfl) rfl ?_
  refine xr_iload_n dX10_pushesAs_0 1 rfl ?_
  refine xr_iconst (v := 1) dX10_pushesAs_1 rfl ?_
  refine xr_icmp_eq (tgt := 16) dX10_pushesAs_2 rfl (fun c => absurd c (by decide)) (fun _ => ?_)
  refine xr_iload_n dX10_pushesAs_5 1 rfl ?_
  refine xr_iconst (v := 4) dX10_pushesAs_6 rfl ?_
  refine xr_icmp_eq (tgt := 16) dX10_pushesAs_7 rfl (fun c => absurd c (by decide)) (fun _ => ?_)
  refine xr_iload_n dX10_pushesAs_10 1 rfl ?_
  refine xr_bipush (v := 7) dX10_pushesAs_11 rfl ?_
  refine xr_icmp_ne (tgt := 31) dX10_pushesAs_13 rfl (fun _ => ?_) (fun c => absurd c (by decide))
  refine xr_iload_n dX10_pushesAs_31 1 rfl ?_
  refine xr_bipush (v := 6) dX10_pushesAs_32 rfl ?_
  refine xr_icmp_ne (tgt := 52) dX10_pushesAs_34 rfl (fun _ => ?_) (fun c => absurd c (by decide))
  refine xr_aload_n dX10_pushesAs_52 0 rfl ?_
  refine xr_iconst (v := 1) dX10_pushesAs_53 rfl ?_
  refine xr_callV (As := [.int (1)]) (rest := []) mlX10_340 (gt_X10_begins 1 (by omega) e_ra) dX10_pushesAs_54 s_62 rfl rfl (Nat.le_of_ble_eq_true rfl) (by decide) ⟨by decide, by decide⟩ (fun v s2 M3 J2 hq => ?_)
  obtain ⟨rfl, rfl, rfl, k4, ⟨hx1, ht2⟩⟩ := hq
  try dsimp only [Option.toList, List.cons_append, List.nil_append]
  refine xr_iload_n dX10_pushesAs_57 2 rfl ?_
  refine xr_aload_n dX10_pushesAs_58 0 rfl ?_
  refine xb_get (v := nI (ac)) flX10_346 dX10_pushesAs_59 s_62 rfl (Eq.trans (k4 62 41 (by decide)) e_ac) ?_
  refine xr_iadd dX10_pushesAs_62 ?_
  exact xr_iret dX10_pushesAs_63 rfl rfl (⟨_, rfl, rfl, rfl, (Ke.tr (fun _ _ h => h) Ke.rf k4), rfl, hx1, ht2⟩)
set_option maxRecDepth 100000 in
set_option maxHeartbeats 4000000 in
theorem rv1_pushesAs_1 {ac : Nat} (x : Int32) {l : Launch} {G : xG} {M : xM} {J : xJ} {ra : Nat} (h_ra : ra + 2 ≤ 900) (e_ra : M 62 39 = nI ra) (e_k : M 62 40 = 1) (e_ac : M 62 41 = nI ac) : x_M l G fX10_pushesAs 2 0 0 [.ref (62), .int (1), .int (x)] x_SH M J (qKI WRA M J (fun r M2 => r = ((x + (nI (ac))) + 3) ∧ M2 62 39 = nI (ra + 2) ∧ TrA 82 ra [20, 1] M M2)) := by
  refine xb_of pX10 (Nat.le_of_ble_eq_true rfl) rfl ?_
  refine xr_iload_n dX10_pushesAs_0 1 rfl ?_
  refine xr_iconst (v := 1) dX10_pushesAs_1 rfl ?_
  refine xr_icmp_eq (tgt := 16) dX10_pushesAs_2 rfl (fun _ => ?_) (fun c => absurd (by decide) c)
  refine xr_aload_n dX10_pushesAs_16 0 rfl ?_
  refine xr_bipush (v := 20) dX10_pushesAs_17 rfl ?_
  refine xr_callV (As := [.int (20)]) (rest := []) mlX10_340 (gt_X10_begins 20 (by omega) e_ra) dX10_pushesAs_19 s_62 rfl rfl (Nat.le_of_ble_eq_true rfl) (by decide) ⟨by decide, by decide⟩ (fun v s2 M3 J2 hq => ?_)
  obtain ⟨rfl, rfl, rfl, k4, ⟨hx1, ht2⟩⟩ := hq
  try dsimp only [Option.toList, List.cons_append, List.nil_append]
  refine xr_aload_n dX10_pushesAs_22 0 rfl ?_
  refine xr_iconst (v := 0) dX10_pushesAs_23 rfl ?_
  refine xr_iload_n dX10_pushesAs_24 2 rfl ?_
  refine xr_callV (As := [.int (0), .int (x)]) (rest := []) mlX10_343 (rv1_pushesAs_0 x (by omega) hx1 (Eq.trans (k4 62 40 (by decide)) e_k) (Eq.trans (k4 62 41 (by decide)) e_ac)) dX10_pushesAs_25 s_62 rfl rfl (Nat.le_of_ble_eq_true rfl) (by decide) ⟨by decide, by decide⟩ (fun v s2 M8 J2 hq => ?_)
  obtain ⟨r10, rfl, rfl, rfl, k9, ⟨hr6, hx5, ht7⟩⟩ := hq
  try dsimp only [Option.toList, List.cons_append, List.nil_append]
  subst hr6
  refine xr_iconst (v := 3) dX10_pushesAs_28 rfl ?_
  refine xr_iadd dX10_pushesAs_29 ?_
  exact xr_iret dX10_pushesAs_30 rfl rfl (⟨_, rfl, rfl, rfl, (Ke.tr (fun _ _ h => h) (Ke.tr (fun _ _ h => h) Ke.rf k4) k9), rfl, hx5, (TrA_app (l := [20]) (m := [1]) ht2 ht7)⟩)
set_option maxRecDepth 100000 in
set_option maxHeartbeats 4000000 in
theorem rv1_turnsAs_1 {ac : Nat} (x : Int32) {l : Launch} {G : xG} {M : xM} {J : xJ} {ra : Nat} (h_ra : ra + 3 ≤ 900) (e_ra : M 62 39 = nI ra) (e_k : M 62 40 = 1) (e_ac : M 62 41 = nI ac) : x_M l G fX10_turnsAs 3 0 0 [.ref (62), .int (1), .int (x)] x_SH M J (qKI WRA M J (fun r M2 => r = (((x + (nI (ac))) + 3) * 2) ∧ M2 62 39 = nI (ra + 3) ∧ TrA 82 ra [10, 20, 1] M M2)) := by
  refine xb_of pX10 (Nat.le_of_ble_eq_true rfl) rfl ?_
  refine xr_iload_n dX10_turnsAs_0 1 rfl ?_
  refine xr_iconst (v := 3) dX10_turnsAs_1 rfl ?_
  refine xr_icmp_eq (tgt := 10) dX10_turnsAs_2 rfl (fun c => absurd c (by decide)) (fun _ => ?_)
  refine xr_iload_n dX10_turnsAs_5 1 rfl ?_
  refine xr_iconst (v := 5) dX10_turnsAs_6 rfl ?_
  refine xr_icmp_ne (tgt := 25) dX10_turnsAs_7 rfl (fun _ => ?_) (fun c => absurd c (by decide))
  refine xr_iload_n dX10_turnsAs_25 1 rfl ?_
  refine xr_iconst (v := 2) dX10_turnsAs_26 rfl ?_
  refine xr_icmp_ne (tgt := 44) dX10_turnsAs_27 rfl (fun _ => ?_) (fun c => absurd c (by decide))
  refine xr_iload_n dX10_turnsAs_44 1 rfl ?_
  refine xr_bipush (v := 7) dX10_turnsAs_45 rfl ?_
  refine xr_icmp_ne (tgt := 75) dX10_turnsAs_47 rfl (fun _ => ?_) (fun c => absurd c (by decide))
  refine xr_aload_n dX10_turnsAs_75 0 rfl ?_
  refine xr_bipush (v := 10) dX10_turnsAs_76 rfl ?_
  refine xr_callV (As := [.int (10)]) (rest := []) mlX10_340 (gt_X10_begins 10 (by omega) e_ra) dX10_turnsAs_78 s_62 rfl rfl (Nat.le_of_ble_eq_true rfl) (by decide) ⟨by decide, by decide⟩ (fun v s2 M3 J2 hq => ?_)
  obtain ⟨rfl, rfl, rfl, k4, ⟨hx1, ht2⟩⟩ := hq
  try dsimp only [Option.toList, List.cons_append, List.nil_append]
  refine xr_aload_n dX10_turnsAs_81 0 rfl ?_
  refine xr_aload_n dX10_turnsAs_82 0 rfl ?_
  refine xb_get (v := 1) flX10_352 dX10_turnsAs_83 s_62 rfl (Eq.trans (k4 62 40 (by decide)) e_k) ?_
  refine xr_iload_n dX10_turnsAs_86 2 rfl ?_
  refine xr_callV (As := [.int (1), .int (x)]) (rest := []) mlX10_343 (rv1_pushesAs_1 x (by omega) hx1 (Eq.trans (k4 62 40 (by decide)) e_k) (Eq.trans (k4 62 41 (by decide)) e_ac)) dX10_turnsAs_87 s_62 rfl rfl (Nat.le_of_ble_eq_true rfl) (by decide) ⟨by decide, by decide⟩ (fun v s2 M8 J2 hq => ?_)
  obtain ⟨r10, rfl, rfl, rfl, k9, ⟨hr6, hx5, ht7⟩⟩ := hq
  try dsimp only [Option.toList, List.cons_append, List.nil_append]
  subst hr6
  refine xr_iconst (v := 2) dX10_turnsAs_90 rfl ?_
  refine xr_imul dX10_turnsAs_91 ?_
  exact xr_iret dX10_turnsAs_92 rfl rfl (⟨_, rfl, rfl, rfl, (Ke.tr (fun _ _ h => h) (Ke.tr (fun _ _ h => h) Ke.rf k4) k9), rfl, hx5, (TrA_app (l := [10]) (m := [20, 1]) ht2 ht7)⟩)
set_option maxRecDepth 100000 in
set_option maxHeartbeats 4000000 in
theorem rv1_sinksAs_1 {ac : Nat} (x : Int32) {l : Launch} {G : xG} {M : xM} {J : xJ} {ra : Nat} (h_ra : ra + 1 ≤ 900) (e_ra : M 62 39 = nI ra) (e_k : M 62 40 = 1) (e_ac : M 62 41 = nI ac) : x_M l G fX10_sinksAs 1 0 0 [.ref (62), .int (1), .int (x)] x_SH M J (qKI WRA M J (fun r M2 => r = (x ^^^ (nI (ac))) ∧ M2 62 39 = nI (ra + 1) ∧ TrA 82 ra [11] M M2)) := by
  refine xb_of pX10 (Nat.le_of_ble_eq_true rfl) rfl ?_
  refine xr_iload_n dX10_sinksAs_0 1 rfl ?_
  refine xr_iconst (v := 3) dX10_sinksAs_1 rfl ?_
  refine xr_icmp_eq (tgt := 10) dX10_sinksAs_2 rfl (fun c => absurd c (by decide)) (fun _ => ?_)
  refine xr_iload_n dX10_sinksAs_5 1 rfl ?_
  refine xr_iconst (v := 5) dX10_sinksAs_6 rfl ?_
  refine xr_icmp_ne (tgt := 25) dX10_sinksAs_7 rfl (fun _ => ?_) (fun c => absurd c (by decide))
  refine xr_iload_n dX10_sinksAs_25 1 rfl ?_
  refine xr_iconst (v := 4) dX10_sinksAs_26 rfl ?_
  refine xr_icmp_eq (tgt := 36) dX10_sinksAs_27 rfl (fun c => absurd c (by decide)) (fun _ => ?_)
  refine xr_iload_n dX10_sinksAs_30 1 rfl ?_
  refine xr_bipush (v := 7) dX10_sinksAs_31 rfl ?_
  refine xr_icmp_ne (tgt := 61) dX10_sinksAs_33 rfl (fun _ => ?_) (fun c => absurd c (by decide))
  refine xr_aload_n dX10_sinksAs_61 0 rfl ?_
  refine xr_bipush (v := 11) dX10_sinksAs_62 rfl ?_
  refine xr_callV (As := [.int (11)]) (rest := []) mlX10_340 (gt_X10_begins 11 (by omega) e_ra) dX10_sinksAs_64 s_62 rfl rfl (Nat.le_of_ble_eq_true rfl) (by decide) ⟨by decide, by decide⟩ (fun v s2 M3 J2 hq => ?_)
  obtain ⟨rfl, rfl, rfl, k4, ⟨hx1, ht2⟩⟩ := hq
  try dsimp only [Option.toList, List.cons_append, List.nil_append]
  refine xr_iload_n dX10_sinksAs_67 2 rfl ?_
  refine xr_aload_n dX10_sinksAs_68 0 rfl ?_
  refine xb_get (v := nI (ac)) flX10_346 dX10_sinksAs_69 s_62 rfl (Eq.trans (k4 62 41 (by decide)) e_ac) ?_
  refine xr_ixor dX10_sinksAs_72 ?_
  exact xr_iret dX10_sinksAs_73 rfl rfl (⟨_, rfl, rfl, rfl, (Ke.tr (fun _ _ h => h) Ke.rf k4), rfl, hx1, ht2⟩)
set_option maxRecDepth 100000 in
set_option maxHeartbeats 4000000 in
theorem rv1_tellsAs_1 {ac : Nat} (x : Int32) {l : Launch} {G : xG} {M : xM} {J : xJ} {ra : Nat} (h_ra : ra + 5 ≤ 900) (e_ra : M 62 39 = nI ra) (e_k : M 62 40 = 1) (e_ac : M 62 41 = nI ac) : x_M l G fX10_tellsAs 4 0 0 [.ref (62), .int (1), .int (x)] x_SH M J (qKI WRA M J (fun r M2 => r = ((((x + (nI (ac))) + 3) * 2) - (1 ^^^ (nI (ac)))) ∧ M2 62 39 = nI (ra + 5) ∧ TrA 82 ra [2, 10, 20, 1, 11] M M2)) := by
  refine xb_of pX10 (Nat.le_of_ble_eq_true rfl) rfl ?_
  refine xr_iload_n dX10_tellsAs_0 1 rfl ?_
  refine xr_iconst (v := 5) dX10_tellsAs_1 rfl ?_
  refine xr_icmp_ne (tgt := 20) dX10_tellsAs_2 rfl (fun _ => ?_) (fun c => absurd c (by decide))
  refine xr_iload_n dX10_tellsAs_20 1 rfl ?_
  refine xr_bipush (v := 7) dX10_tellsAs_21 rfl ?_
  refine xr_icmp_ne (tgt := 41) dX10_tellsAs_23 rfl (fun _ => ?_) (fun c => absurd c (by decide))
  refine xr_aload_n dX10_tellsAs_41 0 rfl ?_
  refine xr_iconst (v := 2) dX10_tellsAs_42 rfl ?_
  refine xr_callV (As := [.int (2)]) (rest := []) mlX10_340 (gt_X10_begins 2 (by omega) e_ra) dX10_tellsAs_43 s_62 rfl rfl (Nat.le_of_ble_eq_true rfl) (by decide) ⟨by decide, by decide⟩ (fun v s2 M3 J2 hq => ?_)
  obtain ⟨rfl, rfl, rfl, k4, ⟨hx1, ht2⟩⟩ := hq
  try dsimp only [Option.toList, List.cons_append, List.nil_append]
  refine xr_aload_n dX10_tellsAs_46 0 rfl ?_
  refine xr_aload_n dX10_tellsAs_47 0 rfl ?_
  refine xb_get (v := 1) flX10_352 dX10_tellsAs_48 s_62 rfl (Eq.trans (k4 62 40 (by decide)) e_k) ?_
  refine xr_iload_n dX10_tellsAs_51 2 rfl ?_
  refine xr_callV (As := [.int (1), .int (x)]) (rest := []) mlX10_349 (rv1_turnsAs_1 x (by omega) hx1 (Eq.trans (k4 62 40 (by decide)) e_k) (Eq.trans (k4 62 41 (by decide)) e_ac)) dX10_tellsAs_52 s_62 rfl rfl (Nat.le_of_ble_eq_true rfl) (by decide) ⟨by decide, by decide⟩ (fun v s2 M8 J2 hq => ?_)
  obtain ⟨r10, rfl, rfl, rfl, k9, ⟨hr6, hx5, ht7⟩⟩ := hq
  try dsimp only [Option.toList, List.cons_append, List.nil_append]
  subst hr6
  refine xr_istore_n (ls2 := [(3, .int ((((x + (nI (ac))) + 3) * 2))), (0, .ref (62)), (1, .int (1)), (2, .int (x))]) dX10_tellsAs_55 (by decide) rfl ?_
  refine xr_iload_n dX10_tellsAs_56 0 rfl ?_
  refine xr_aload_n dX10_tellsAs_57 1 rfl ?_
  refine xr_aload_n dX10_tellsAs_58 1 rfl ?_
  refine xb_get (v := 1) flX10_352 dX10_tellsAs_59 s_62 rfl (Eq.trans (k9 62 40 (by decide)) (Eq.trans (k4 62 40 (by decide)) e_k)) ?_
  refine xr_iconst (v := 1) dX10_tellsAs_62 rfl ?_
  refine xr_callV (As := [.int (1), .int (1)]) (rest := [.int ((((x + (nI (ac))) + 3) * 2))]) mlX10_355 (rv1_sinksAs_1 1 (by omega) hx5 (Eq.trans (k9 62 40 (by decide)) (Eq.trans (k4 62 40 (by decide)) e_k)) (Eq.trans (k9 62 41 (by decide)) (Eq.trans (k4 62 41 (by decide)) e_ac))) dX10_tellsAs_63 s_62 rfl rfl (Nat.le_of_ble_eq_true rfl) (by decide) ⟨by decide, by decide⟩ (fun v s2 M14 J2 hq => ?_)
  obtain ⟨r16, rfl, rfl, rfl, k15, ⟨hr12, hx11, ht13⟩⟩ := hq
  try dsimp only [Option.toList, List.cons_append, List.nil_append]
  subst hr12
  refine xr_isub dX10_tellsAs_66 ?_
  exact xr_iret dX10_tellsAs_67 rfl rfl (⟨_, rfl, rfl, rfl, (Ke.tr (fun _ _ h => h) (Ke.tr (fun _ _ h => h) (Ke.tr (fun _ _ h => h) Ke.rf k4) k9) k15), rfl, hx11, (TrA_app (l := [2, 10, 20, 1]) (m := [11]) (TrA_app (l := [2]) (m := [10, 20, 1]) ht2 ht7) ht13)⟩)
set_option maxRecDepth 100000 in
set_option maxHeartbeats 4000000 in
theorem rv2_pushesAs_2 {ac : Nat} (x : Int32) {l : Launch} {G : xG} {M : xM} {J : xJ} {ra : Nat} (h_ra : ra + 1 ≤ 900) (e_ra : M 62 39 = nI ra) (e_k : M 62 40 = 2) (e_ac : M 62 41 = nI ac) : x_M l G fX10_pushesAs 1 0 0 [.ref (62), .int (2), .int (x)] x_SH M J (qKI WRA M J (fun r M2 => r = (x + (nI (ac))) ∧ M2 62 39 = nI (ra + 1) ∧ TrA 82 ra [1] M M2)) := by
  refine xb_of pX10 (Nat.le_of_ble_eq_true rfl) rfl ?_
  refine xr_iload_n dX10_pushesAs_0 1 rfl ?_
  refine xr_iconst (v := 1) dX10_pushesAs_1 rfl ?_
  refine xr_icmp_eq (tgt := 16) dX10_pushesAs_2 rfl (fun c => absurd c (by decide)) (fun _ => ?_)
  refine xr_iload_n dX10_pushesAs_5 1 rfl ?_
  refine xr_iconst (v := 4) dX10_pushesAs_6 rfl ?_
  refine xr_icmp_eq (tgt := 16) dX10_pushesAs_7 rfl (fun c => absurd c (by decide)) (fun _ => ?_)
  refine xr_iload_n dX10_pushesAs_10 1 rfl ?_
  refine xr_bipush (v := 7) dX10_pushesAs_11 rfl ?_
  refine xr_icmp_ne (tgt := 31) dX10_pushesAs_13 rfl (fun _ => ?_) (fun c => absurd c (by decide))
  refine xr_iload_n dX10_pushesAs_31 1 rfl ?_
  refine xr_bipush (v := 6) dX10_pushesAs_32 rfl ?_
  refine xr_icmp_ne (tgt := 52) dX10_pushesAs_34 rfl (fun _ => ?_) (fun c => absurd c (by decide))
  refine xr_aload_n dX10_pushesAs_52 0 rfl ?_
  refine xr_iconst (v := 1) dX10_pushesAs_53 rfl ?_
  refine xr_callV (As := [.int (1)]) (rest := []) mlX10_340 (gt_X10_begins 1 (by omega) e_ra) dX10_pushesAs_54 s_62 rfl rfl (Nat.le_of_ble_eq_true rfl) (by decide) ⟨by decide, by decide⟩ (fun v s2 M3 J2 hq => ?_)
  obtain ⟨rfl, rfl, rfl, k4, ⟨hx1, ht2⟩⟩ := hq
  try dsimp only [Option.toList, List.cons_append, List.nil_append]
  refine xr_iload_n dX10_pushesAs_57 2 rfl ?_
  refine xr_aload_n dX10_pushesAs_58 0 rfl ?_
  refine xb_get (v := nI (ac)) flX10_346 dX10_pushesAs_59 s_62 rfl (Eq.trans (k4 62 41 (by decide)) e_ac) ?_
  refine xr_iadd dX10_pushesAs_62 ?_
  exact xr_iret dX10_pushesAs_63 rfl rfl (⟨_, rfl, rfl, rfl, (Ke.tr (fun _ _ h => h) Ke.rf k4), rfl, hx1, ht2⟩)
set_option maxRecDepth 100000 in
set_option maxHeartbeats 4000000 in
theorem rv2_turnsAs_0 {ac : Nat} (x : Int32) {l : Launch} {G : xG} {M : xM} {J : xJ} {ra : Nat} (h_ra : ra + 2 ≤ 900) (e_ra : M 62 39 = nI ra) (e_k : M 62 40 = 2) (e_ac : M 62 41 = nI ac) : x_M l G fX10_turnsAs 2 0 0 [.ref (62), .int (0), .int (x)] x_SH M J (qKI WRA M J (fun r M2 => r = ((x + (nI (ac))) * 2) ∧ M2 62 39 = nI (ra + 2) ∧ TrA 82 ra [10, 1] M M2)) := by
  refine xb_of pX10 (Nat.le_of_ble_eq_true rfl) rfl ?_
  refine xr_iload_n dX10_turnsAs_0 1 rfl ?_
  refine xr_iconst (v := 3) dX10_turnsAs_1 rfl ?_
  refine xr_icmp_eq (tgt := 10) dX10_turnsAs_2 rfl (fun c => absurd c (by decide)) (fun _ => ?_)
  refine xr_iload_n dX10_turnsAs_5 1 rfl ?_
  refine xr_iconst (v := 5) dX10_turnsAs_6 rfl ?_
  refine xr_icmp_ne (tgt := 25) dX10_turnsAs_7 rfl (fun _ => ?_) (fun c => absurd c (by decide))
  refine xr_iload_n dX10_turnsAs_25 1 rfl ?_
  refine xr_iconst (v := 2) dX10_turnsAs_26 rfl ?_
  refine xr_icmp_ne (tgt := 44) dX10_turnsAs_27 rfl (fun _ => ?_) (fun c => absurd c (by decide))
  refine xr_iload_n dX10_turnsAs_44 1 rfl ?_
  refine xr_bipush (v := 7) dX10_turnsAs_45 rfl ?_
  refine xr_icmp_ne (tgt := 75) dX10_turnsAs_47 rfl (fun _ => ?_) (fun c => absurd c (by decide))
  refine xr_aload_n dX10_turnsAs_75 0 rfl ?_
  refine xr_bipush (v := 10) dX10_turnsAs_76 rfl ?_
  refine xr_callV (As := [.int (10)]) (rest := []) mlX10_340 (gt_X10_begins 10 (by omega) e_ra) dX10_turnsAs_78 s_62 rfl rfl (Nat.le_of_ble_eq_true rfl) (by decide) ⟨by decide, by decide⟩ (fun v s2 M3 J2 hq => ?_)
  obtain ⟨rfl, rfl, rfl, k4, ⟨hx1, ht2⟩⟩ := hq
  try dsimp only [Option.toList, List.cons_append, List.nil_append]
  refine xr_aload_n dX10_turnsAs_81 0 rfl ?_
  refine xr_aload_n dX10_turnsAs_82 0 rfl ?_
  refine xb_get (v := 2) flX10_352 dX10_turnsAs_83 s_62 rfl (Eq.trans (k4 62 40 (by decide)) e_k) ?_
  refine xr_iload_n dX10_turnsAs_86 2 rfl ?_
  refine xr_callV (As := [.int (2), .int (x)]) (rest := []) mlX10_343 (rv2_pushesAs_2 x (by omega) hx1 (Eq.trans (k4 62 40 (by decide)) e_k) (Eq.trans (k4 62 41 (by decide)) e_ac)) dX10_turnsAs_87 s_62 rfl rfl (Nat.le_of_ble_eq_true rfl) (by decide) ⟨by decide, by decide⟩ (fun v s2 M8 J2 hq => ?_)
  obtain ⟨r10, rfl, rfl, rfl, k9, ⟨hr6, hx5, ht7⟩⟩ := hq
  try dsimp only [Option.toList, List.cons_append, List.nil_append]
  subst hr6
  refine xr_iconst (v := 2) dX10_turnsAs_90 rfl ?_
  refine xr_imul dX10_turnsAs_91 ?_
  exact xr_iret dX10_turnsAs_92 rfl rfl (⟨_, rfl, rfl, rfl, (Ke.tr (fun _ _ h => h) (Ke.tr (fun _ _ h => h) Ke.rf k4) k9), rfl, hx5, (TrA_app (l := [10]) (m := [1]) ht2 ht7)⟩)
set_option maxRecDepth 100000 in
set_option maxHeartbeats 4000000 in
theorem rv2_turnsAs_2 {ac : Nat} (x : Int32) {l : Launch} {G : xG} {M : xM} {J : xJ} {ra : Nat} (h_ra : ra + 3 ≤ 900) (e_ra : M 62 39 = nI ra) (e_k : M 62 40 = 2) (e_ac : M 62 41 = nI ac) : x_M l G fX10_turnsAs 3 0 0 [.ref (62), .int (2), .int (x)] x_SH M J (qKI WRA M J (fun r M2 => r = (-((x + (nI (ac))) * 2)) ∧ M2 62 39 = nI (ra + 3) ∧ TrA 82 ra [30, 10, 1] M M2)) := by
  refine xb_of pX10 (Nat.le_of_ble_eq_true rfl) rfl ?_
  refine xr_iload_n dX10_turnsAs_0 1 rfl ?_
  refine xr_iconst (v := 3) dX10_turnsAs_1 rfl ?_
  refine xr_icmp_eq (tgt := 10) dX10_turnsAs_2 rfl (fun c => absurd c (by decide)) (fun _ => ?_)
  refine xr_iload_n dX10_turnsAs_5 1 rfl ?_
  refine xr_iconst (v := 5) dX10_turnsAs_6 rfl ?_
  refine xr_icmp_ne (tgt := 25) dX10_turnsAs_7 rfl (fun _ => ?_) (fun c => absurd c (by decide))
  refine xr_iload_n dX10_turnsAs_25 1 rfl ?_
  refine xr_iconst (v := 2) dX10_turnsAs_26 rfl ?_
  refine xr_icmp_ne (tgt := 44) dX10_turnsAs_27 rfl (fun c => absurd (by decide) c) (fun _ => ?_)
  refine xr_aload_n dX10_turnsAs_30 0 rfl ?_
  refine xr_bipush (v := 30) dX10_turnsAs_31 rfl ?_
  refine xr_callV (As := [.int (30)]) (rest := []) mlX10_340 (gt_X10_begins 30 (by omega) e_ra) dX10_turnsAs_33 s_62 rfl rfl (Nat.le_of_ble_eq_true rfl) (by decide) ⟨by decide, by decide⟩ (fun v s2 M3 J2 hq => ?_)
  obtain ⟨rfl, rfl, rfl, k4, ⟨hx1, ht2⟩⟩ := hq
  try dsimp only [Option.toList, List.cons_append, List.nil_append]
  refine xr_aload_n dX10_turnsAs_36 0 rfl ?_
  refine xr_iconst (v := 0) dX10_turnsAs_37 rfl ?_
  refine xr_iload_n dX10_turnsAs_38 2 rfl ?_
  refine xr_callV (As := [.int (0), .int (x)]) (rest := []) mlX10_349 (rv2_turnsAs_0 x (by omega) hx1 (Eq.trans (k4 62 40 (by decide)) e_k) (Eq.trans (k4 62 41 (by decide)) e_ac)) dX10_turnsAs_39 s_62 rfl rfl (Nat.le_of_ble_eq_true rfl) (by decide) ⟨by decide, by decide⟩ (fun v s2 M8 J2 hq => ?_)
  obtain ⟨r10, rfl, rfl, rfl, k9, ⟨hr6, hx5, ht7⟩⟩ := hq
  try dsimp only [Option.toList, List.cons_append, List.nil_append]
  subst hr6
  refine xr_ineg dX10_turnsAs_42 ?_
  exact xr_iret dX10_turnsAs_43 rfl rfl (⟨_, rfl, rfl, rfl, (Ke.tr (fun _ _ h => h) (Ke.tr (fun _ _ h => h) Ke.rf k4) k9), rfl, hx5, (TrA_app (l := [30]) (m := [10, 1]) ht2 ht7)⟩)
set_option maxRecDepth 100000 in
set_option maxHeartbeats 4000000 in
theorem rv2_sinksAs_2 {ac : Nat} (x : Int32) {l : Launch} {G : xG} {M : xM} {J : xJ} {ra : Nat} (h_ra : ra + 1 ≤ 900) (e_ra : M 62 39 = nI ra) (e_k : M 62 40 = 2) (e_ac : M 62 41 = nI ac) : x_M l G fX10_sinksAs 1 0 0 [.ref (62), .int (2), .int (x)] x_SH M J (qKI WRA M J (fun r M2 => r = (x ^^^ (nI (ac))) ∧ M2 62 39 = nI (ra + 1) ∧ TrA 82 ra [11] M M2)) := by
  refine xb_of pX10 (Nat.le_of_ble_eq_true rfl) rfl ?_
  refine xr_iload_n dX10_sinksAs_0 1 rfl ?_
  refine xr_iconst (v := 3) dX10_sinksAs_1 rfl ?_
  refine xr_icmp_eq (tgt := 10) dX10_sinksAs_2 rfl (fun c => absurd c (by decide)) (fun _ => ?_)
  refine xr_iload_n dX10_sinksAs_5 1 rfl ?_
  refine xr_iconst (v := 5) dX10_sinksAs_6 rfl ?_
  refine xr_icmp_ne (tgt := 25) dX10_sinksAs_7 rfl (fun _ => ?_) (fun c => absurd c (by decide))
  refine xr_iload_n dX10_sinksAs_25 1 rfl ?_
  refine xr_iconst (v := 4) dX10_sinksAs_26 rfl ?_
  refine xr_icmp_eq (tgt := 36) dX10_sinksAs_27 rfl (fun c => absurd c (by decide)) (fun _ => ?_)
  refine xr_iload_n dX10_sinksAs_30 1 rfl ?_
  refine xr_bipush (v := 7) dX10_sinksAs_31 rfl ?_
  refine xr_icmp_ne (tgt := 61) dX10_sinksAs_33 rfl (fun _ => ?_) (fun c => absurd c (by decide))
  refine xr_aload_n dX10_sinksAs_61 0 rfl ?_
  refine xr_bipush (v := 11) dX10_sinksAs_62 rfl ?_
  refine xr_callV (As := [.int (11)]) (rest := []) mlX10_340 (gt_X10_begins 11 (by omega) e_ra) dX10_sinksAs_64 s_62 rfl rfl (Nat.le_of_ble_eq_true rfl) (by decide) ⟨by decide, by decide⟩ (fun v s2 M3 J2 hq => ?_)
  obtain ⟨rfl, rfl, rfl, k4, ⟨hx1, ht2⟩⟩ := hq
  try dsimp only [Option.toList, List.cons_append, List.nil_append]
  refine xr_iload_n dX10_sinksAs_67 2 rfl ?_
  refine xr_aload_n dX10_sinksAs_68 0 rfl ?_
  refine xb_get (v := nI (ac)) flX10_346 dX10_sinksAs_69 s_62 rfl (Eq.trans (k4 62 41 (by decide)) e_ac) ?_
  refine xr_ixor dX10_sinksAs_72 ?_
  exact xr_iret dX10_sinksAs_73 rfl rfl (⟨_, rfl, rfl, rfl, (Ke.tr (fun _ _ h => h) Ke.rf k4), rfl, hx1, ht2⟩)
set_option maxRecDepth 100000 in
set_option maxHeartbeats 4000000 in
theorem rv2_tellsAs_2 {ac : Nat} (x : Int32) {l : Launch} {G : xG} {M : xM} {J : xJ} {ra : Nat} (h_ra : ra + 5 ≤ 900) (e_ra : M 62 39 = nI ra) (e_k : M 62 40 = 2) (e_ac : M 62 41 = nI ac) : x_M l G fX10_tellsAs 4 0 0 [.ref (62), .int (2), .int (x)] x_SH M J (qKI WRA M J (fun r M2 => r = ((-((x + (nI (ac))) * 2)) - (1 ^^^ (nI (ac)))) ∧ M2 62 39 = nI (ra + 5) ∧ TrA 82 ra [2, 30, 10, 1, 11] M M2)) := by
  refine xb_of pX10 (Nat.le_of_ble_eq_true rfl) rfl ?_
  refine xr_iload_n dX10_tellsAs_0 1 rfl ?_
  refine xr_iconst (v := 5) dX10_tellsAs_1 rfl ?_
  refine xr_icmp_ne (tgt := 20) dX10_tellsAs_2 rfl (fun _ => ?_) (fun c => absurd c (by decide))
  refine xr_iload_n dX10_tellsAs_20 1 rfl ?_
  refine xr_bipush (v := 7) dX10_tellsAs_21 rfl ?_
  refine xr_icmp_ne (tgt := 41) dX10_tellsAs_23 rfl (fun _ => ?_) (fun c => absurd c (by decide))
  refine xr_aload_n dX10_tellsAs_41 0 rfl ?_
  refine xr_iconst (v := 2) dX10_tellsAs_42 rfl ?_
  refine xr_callV (As := [.int (2)]) (rest := []) mlX10_340 (gt_X10_begins 2 (by omega) e_ra) dX10_tellsAs_43 s_62 rfl rfl (Nat.le_of_ble_eq_true rfl) (by decide) ⟨by decide, by decide⟩ (fun v s2 M3 J2 hq => ?_)
  obtain ⟨rfl, rfl, rfl, k4, ⟨hx1, ht2⟩⟩ := hq
  try dsimp only [Option.toList, List.cons_append, List.nil_append]
  refine xr_aload_n dX10_tellsAs_46 0 rfl ?_
  refine xr_aload_n dX10_tellsAs_47 0 rfl ?_
  refine xb_get (v := 2) flX10_352 dX10_tellsAs_48 s_62 rfl (Eq.trans (k4 62 40 (by decide)) e_k) ?_
  refine xr_iload_n dX10_tellsAs_51 2 rfl ?_
  refine xr_callV (As := [.int (2), .int (x)]) (rest := []) mlX10_349 (rv2_turnsAs_2 x (by omega) hx1 (Eq.trans (k4 62 40 (by decide)) e_k) (Eq.trans (k4 62 41 (by decide)) e_ac)) dX10_tellsAs_52 s_62 rfl rfl (Nat.le_of_ble_eq_true rfl) (by decide) ⟨by decide, by decide⟩ (fun v s2 M8 J2 hq => ?_)
  obtain ⟨r10, rfl, rfl, rfl, k9, ⟨hr6, hx5, ht7⟩⟩ := hq
  try dsimp only [Option.toList, List.cons_append, List.nil_append]
  subst hr6
  refine xr_istore_n (ls2 := [(3, .int ((-((x + (nI (ac))) * 2)))), (0, .ref (62)), (1, .int (2)), (2, .int (x))]) dX10_tellsAs_55 (by decide) rfl ?_
  refine xr_iload_n dX10_tellsAs_56 0 rfl ?_
  refine xr_aload_n dX10_tellsAs_57 1 rfl ?_
  refine xr_aload_n dX10_tellsAs_58 1 rfl ?_
  refine xb_get (v := 2) flX10_352 dX10_tellsAs_59 s_62 rfl (Eq.trans (k9 62 40 (by decide)) (Eq.trans (k4 62 40 (by decide)) e_k)) ?_
  refine xr_iconst (v := 1) dX10_tellsAs_62 rfl ?_
  refine xr_callV (As := [.int (2), .int (1)]) (rest := [.int ((-((x + (nI (ac))) * 2)))]) mlX10_355 (rv2_sinksAs_2 1 (by omega) hx5 (Eq.trans (k9 62 40 (by decide)) (Eq.trans (k4 62 40 (by decide)) e_k)) (Eq.trans (k9 62 41 (by decide)) (Eq.trans (k4 62 41 (by decide)) e_ac))) dX10_tellsAs_63 s_62 rfl rfl (Nat.le_of_ble_eq_true rfl) (by decide) ⟨by decide, by decide⟩ (fun v s2 M14 J2 hq => ?_)
  obtain ⟨r16, rfl, rfl, rfl, k15, ⟨hr12, hx11, ht13⟩⟩ := hq
  try dsimp only [Option.toList, List.cons_append, List.nil_append]
  subst hr12
  refine xr_isub dX10_tellsAs_66 ?_
  exact xr_iret dX10_tellsAs_67 rfl rfl (⟨_, rfl, rfl, rfl, (Ke.tr (fun _ _ h => h) (Ke.tr (fun _ _ h => h) (Ke.tr (fun _ _ h => h) Ke.rf k4) k9) k15), rfl, hx11, (TrA_app (l := [2, 30, 10, 1]) (m := [11]) (TrA_app (l := [2]) (m := [30, 10, 1]) ht2 ht7) ht13)⟩)
set_option maxRecDepth 100000 in
set_option maxHeartbeats 4000000 in
theorem rv3_pushesAs_3 {ac : Nat} (x : Int32) {l : Launch} {G : xG} {M : xM} {J : xJ} {ra : Nat} (h_ra : ra + 1 ≤ 900) (e_ra : M 62 39 = nI ra) (e_k : M 62 40 = 3) (e_ac : M 62 41 = nI ac) : x_M l G fX10_pushesAs 1 0 0 [.ref (62), .int (3), .int (x)] x_SH M J (qKI WRA M J (fun r M2 => r = (x + (nI (ac))) ∧ M2 62 39 = nI (ra + 1) ∧ TrA 82 ra [1] M M2)) := by
  refine xb_of pX10 (Nat.le_of_ble_eq_true rfl) rfl ?_
  refine xr_iload_n dX10_pushesAs_0 1 rfl ?_
  refine xr_iconst (v := 1) dX10_pushesAs_1 rfl ?_
  refine xr_icmp_eq (tgt := 16) dX10_pushesAs_2 rfl (fun c => absurd c (by decide)) (fun _ => ?_)
  refine xr_iload_n dX10_pushesAs_5 1 rfl ?_
  refine xr_iconst (v := 4) dX10_pushesAs_6 rfl ?_
  refine xr_icmp_eq (tgt := 16) dX10_pushesAs_7 rfl (fun c => absurd c (by decide)) (fun _ => ?_)
  refine xr_iload_n dX10_pushesAs_10 1 rfl ?_
  refine xr_bipush (v := 7) dX10_pushesAs_11 rfl ?_
  refine xr_icmp_ne (tgt := 31) dX10_pushesAs_13 rfl (fun _ => ?_) (fun c => absurd c (by decide))
  refine xr_iload_n dX10_pushesAs_31 1 rfl ?_
  refine xr_bipush (v := 6) dX10_pushesAs_32 rfl ?_
  refine xr_icmp_ne (tgt := 52) dX10_pushesAs_34 rfl (fun _ => ?_) (fun c => absurd c (by decide))
  refine xr_aload_n dX10_pushesAs_52 0 rfl ?_
  refine xr_iconst (v := 1) dX10_pushesAs_53 rfl ?_
  refine xr_callV (As := [.int (1)]) (rest := []) mlX10_340 (gt_X10_begins 1 (by omega) e_ra) dX10_pushesAs_54 s_62 rfl rfl (Nat.le_of_ble_eq_true rfl) (by decide) ⟨by decide, by decide⟩ (fun v s2 M3 J2 hq => ?_)
  obtain ⟨rfl, rfl, rfl, k4, ⟨hx1, ht2⟩⟩ := hq
  try dsimp only [Option.toList, List.cons_append, List.nil_append]
  refine xr_iload_n dX10_pushesAs_57 2 rfl ?_
  refine xr_aload_n dX10_pushesAs_58 0 rfl ?_
  refine xb_get (v := nI (ac)) flX10_346 dX10_pushesAs_59 s_62 rfl (Eq.trans (k4 62 41 (by decide)) e_ac) ?_
  refine xr_iadd dX10_pushesAs_62 ?_
  exact xr_iret dX10_pushesAs_63 rfl rfl (⟨_, rfl, rfl, rfl, (Ke.tr (fun _ _ h => h) Ke.rf k4), rfl, hx1, ht2⟩)
set_option maxRecDepth 100000 in
set_option maxHeartbeats 4000000 in
theorem rv3_turnsAs_0 {ac : Nat} (x : Int32) {l : Launch} {G : xG} {M : xM} {J : xJ} {ra : Nat} (h_ra : ra + 2 ≤ 900) (e_ra : M 62 39 = nI ra) (e_k : M 62 40 = 3) (e_ac : M 62 41 = nI ac) : x_M l G fX10_turnsAs 2 0 0 [.ref (62), .int (0), .int (x)] x_SH M J (qKI WRA M J (fun r M2 => r = ((x + (nI (ac))) * 2) ∧ M2 62 39 = nI (ra + 2) ∧ TrA 82 ra [10, 1] M M2)) := by
  refine xb_of pX10 (Nat.le_of_ble_eq_true rfl) rfl ?_
  refine xr_iload_n dX10_turnsAs_0 1 rfl ?_
  refine xr_iconst (v := 3) dX10_turnsAs_1 rfl ?_
  refine xr_icmp_eq (tgt := 10) dX10_turnsAs_2 rfl (fun c => absurd c (by decide)) (fun _ => ?_)
  refine xr_iload_n dX10_turnsAs_5 1 rfl ?_
  refine xr_iconst (v := 5) dX10_turnsAs_6 rfl ?_
  refine xr_icmp_ne (tgt := 25) dX10_turnsAs_7 rfl (fun _ => ?_) (fun c => absurd c (by decide))
  refine xr_iload_n dX10_turnsAs_25 1 rfl ?_
  refine xr_iconst (v := 2) dX10_turnsAs_26 rfl ?_
  refine xr_icmp_ne (tgt := 44) dX10_turnsAs_27 rfl (fun _ => ?_) (fun c => absurd c (by decide))
  refine xr_iload_n dX10_turnsAs_44 1 rfl ?_
  refine xr_bipush (v := 7) dX10_turnsAs_45 rfl ?_
  refine xr_icmp_ne (tgt := 75) dX10_turnsAs_47 rfl (fun _ => ?_) (fun c => absurd c (by decide))
  refine xr_aload_n dX10_turnsAs_75 0 rfl ?_
  refine xr_bipush (v := 10) dX10_turnsAs_76 rfl ?_
  refine xr_callV (As := [.int (10)]) (rest := []) mlX10_340 (gt_X10_begins 10 (by omega) e_ra) dX10_turnsAs_78 s_62 rfl rfl (Nat.le_of_ble_eq_true rfl) (by decide) ⟨by decide, by decide⟩ (fun v s2 M3 J2 hq => ?_)
  obtain ⟨rfl, rfl, rfl, k4, ⟨hx1, ht2⟩⟩ := hq
  try dsimp only [Option.toList, List.cons_append, List.nil_append]
  refine xr_aload_n dX10_turnsAs_81 0 rfl ?_
  refine xr_aload_n dX10_turnsAs_82 0 rfl ?_
  refine xb_get (v := 3) flX10_352 dX10_turnsAs_83 s_62 rfl (Eq.trans (k4 62 40 (by decide)) e_k) ?_
  refine xr_iload_n dX10_turnsAs_86 2 rfl ?_
  refine xr_callV (As := [.int (3), .int (x)]) (rest := []) mlX10_343 (rv3_pushesAs_3 x (by omega) hx1 (Eq.trans (k4 62 40 (by decide)) e_k) (Eq.trans (k4 62 41 (by decide)) e_ac)) dX10_turnsAs_87 s_62 rfl rfl (Nat.le_of_ble_eq_true rfl) (by decide) ⟨by decide, by decide⟩ (fun v s2 M8 J2 hq => ?_)
  obtain ⟨r10, rfl, rfl, rfl, k9, ⟨hr6, hx5, ht7⟩⟩ := hq
  try dsimp only [Option.toList, List.cons_append, List.nil_append]
  subst hr6
  refine xr_iconst (v := 2) dX10_turnsAs_90 rfl ?_
  refine xr_imul dX10_turnsAs_91 ?_
  exact xr_iret dX10_turnsAs_92 rfl rfl (⟨_, rfl, rfl, rfl, (Ke.tr (fun _ _ h => h) (Ke.tr (fun _ _ h => h) Ke.rf k4) k9), rfl, hx5, (TrA_app (l := [10]) (m := [1]) ht2 ht7)⟩)
set_option maxRecDepth 100000 in
set_option maxHeartbeats 4000000 in
theorem rv3_turnsAs_2 {ac : Nat} (x : Int32) {l : Launch} {G : xG} {M : xM} {J : xJ} {ra : Nat} (h_ra : ra + 3 ≤ 900) (e_ra : M 62 39 = nI ra) (e_k : M 62 40 = 3) (e_ac : M 62 41 = nI ac) : x_M l G fX10_turnsAs 3 0 0 [.ref (62), .int (2), .int (x)] x_SH M J (qKI WRA M J (fun r M2 => r = (-((x + (nI (ac))) * 2)) ∧ M2 62 39 = nI (ra + 3) ∧ TrA 82 ra [30, 10, 1] M M2)) := by
  refine xb_of pX10 (Nat.le_of_ble_eq_true rfl) rfl ?_
  refine xr_iload_n dX10_turnsAs_0 1 rfl ?_
  refine xr_iconst (v := 3) dX10_turnsAs_1 rfl ?_
  refine xr_icmp_eq (tgt := 10) dX10_turnsAs_2 rfl (fun c => absurd c (by decide)) (fun _ => ?_)
  refine xr_iload_n dX10_turnsAs_5 1 rfl ?_
  refine xr_iconst (v := 5) dX10_turnsAs_6 rfl ?_
  refine xr_icmp_ne (tgt := 25) dX10_turnsAs_7 rfl (fun _ => ?_) (fun c => absurd c (by decide))
  refine xr_iload_n dX10_turnsAs_25 1 rfl ?_
  refine xr_iconst (v := 2) dX10_turnsAs_26 rfl ?_
  refine xr_icmp_ne (tgt := 44) dX10_turnsAs_27 rfl (fun c => absurd (by decide) c) (fun _ => ?_)
  refine xr_aload_n dX10_turnsAs_30 0 rfl ?_
  refine xr_bipush (v := 30) dX10_turnsAs_31 rfl ?_
  refine xr_callV (As := [.int (30)]) (rest := []) mlX10_340 (gt_X10_begins 30 (by omega) e_ra) dX10_turnsAs_33 s_62 rfl rfl (Nat.le_of_ble_eq_true rfl) (by decide) ⟨by decide, by decide⟩ (fun v s2 M3 J2 hq => ?_)
  obtain ⟨rfl, rfl, rfl, k4, ⟨hx1, ht2⟩⟩ := hq
  try dsimp only [Option.toList, List.cons_append, List.nil_append]
  refine xr_aload_n dX10_turnsAs_36 0 rfl ?_
  refine xr_iconst (v := 0) dX10_turnsAs_37 rfl ?_
  refine xr_iload_n dX10_turnsAs_38 2 rfl ?_
  refine xr_callV (As := [.int (0), .int (x)]) (rest := []) mlX10_349 (rv3_turnsAs_0 x (by omega) hx1 (Eq.trans (k4 62 40 (by decide)) e_k) (Eq.trans (k4 62 41 (by decide)) e_ac)) dX10_turnsAs_39 s_62 rfl rfl (Nat.le_of_ble_eq_true rfl) (by decide) ⟨by decide, by decide⟩ (fun v s2 M8 J2 hq => ?_)
  obtain ⟨r10, rfl, rfl, rfl, k9, ⟨hr6, hx5, ht7⟩⟩ := hq
  try dsimp only [Option.toList, List.cons_append, List.nil_append]
  subst hr6
  refine xr_ineg dX10_turnsAs_42 ?_
  exact xr_iret dX10_turnsAs_43 rfl rfl (⟨_, rfl, rfl, rfl, (Ke.tr (fun _ _ h => h) (Ke.tr (fun _ _ h => h) Ke.rf k4) k9), rfl, hx5, (TrA_app (l := [30]) (m := [10, 1]) ht2 ht7)⟩)
set_option maxRecDepth 100000 in
set_option maxHeartbeats 4000000 in
theorem rv3_turnsAs_3 {ac : Nat} (x : Int32) {l : Launch} {G : xG} {M : xM} {J : xJ} {ra : Nat} (h_ra : ra + 4 ≤ 900) (e_ra : M 62 39 = nI ra) (e_k : M 62 40 = 3) (e_ac : M 62 41 = nI ac) : x_M l G fX10_turnsAs 4 0 0 [.ref (62), .int (3), .int (x)] x_SH M J (qKI WRA M J (fun r M2 => r = (-(((x + 1) + (nI (ac))) * 2)) ∧ M2 62 39 = nI (ra + 4) ∧ TrA 82 ra [41, 30, 10, 1] M M2)) := by
  refine xb_of pX10 (Nat.le_of_ble_eq_true rfl) rfl ?_
  refine xr_iload_n dX10_turnsAs_0 1 rfl ?_
  refine xr_iconst (v := 3) dX10_turnsAs_1 rfl ?_
  refine xr_icmp_eq (tgt := 10) dX10_turnsAs_2 rfl (fun _ => ?_) (fun c => absurd (by decide) c)
  refine xr_aload_n dX10_turnsAs_10 0 rfl ?_
  refine xr_bipush (v := 41) dX10_turnsAs_11 rfl ?_
  refine xr_callV (As := [.int (41)]) (rest := []) mlX10_340 (gt_X10_begins 41 (by omega) e_ra) dX10_turnsAs_13 s_62 rfl rfl (Nat.le_of_ble_eq_true rfl) (by decide) ⟨by decide, by decide⟩ (fun v s2 M3 J2 hq => ?_)
  obtain ⟨rfl, rfl, rfl, k4, ⟨hx1, ht2⟩⟩ := hq
  try dsimp only [Option.toList, List.cons_append, List.nil_append]
  refine xr_aload_n dX10_turnsAs_16 0 rfl ?_
  refine xr_iconst (v := 2) dX10_turnsAs_17 rfl ?_
  refine xr_iload_n dX10_turnsAs_18 2 rfl ?_
  refine xr_iconst (v := 1) dX10_turnsAs_19 rfl ?_
  refine xr_iadd dX10_turnsAs_20 ?_
  refine xr_callV (As := [.int (2), .int ((x + 1))]) (rest := []) mlX10_349 (rv3_turnsAs_2 (x + 1) (by omega) hx1 (Eq.trans (k4 62 40 (by decide)) e_k) (Eq.trans (k4 62 41 (by decide)) e_ac)) dX10_turnsAs_21 s_62 rfl rfl (Nat.le_of_ble_eq_true rfl) (by decide) ⟨by decide, by decide⟩ (fun v s2 M8 J2 hq => ?_)
  obtain ⟨r10, rfl, rfl, rfl, k9, ⟨hr6, hx5, ht7⟩⟩ := hq
  try dsimp only [Option.toList, List.cons_append, List.nil_append]
  subst hr6
  exact xr_iret dX10_turnsAs_24 rfl rfl (⟨_, rfl, rfl, rfl, (Ke.tr (fun _ _ h => h) (Ke.tr (fun _ _ h => h) Ke.rf k4) k9), rfl, hx5, (TrA_app (l := [41]) (m := [30, 10, 1]) ht2 ht7)⟩)
set_option maxRecDepth 100000 in
set_option maxHeartbeats 4000000 in
theorem rv3_sinksAs_2 {ac : Nat} (x : Int32) {l : Launch} {G : xG} {M : xM} {J : xJ} {ra : Nat} (h_ra : ra + 1 ≤ 900) (e_ra : M 62 39 = nI ra) (e_k : M 62 40 = 3) (e_ac : M 62 41 = nI ac) : x_M l G fX10_sinksAs 1 0 0 [.ref (62), .int (2), .int (x)] x_SH M J (qKI WRA M J (fun r M2 => r = (x ^^^ (nI (ac))) ∧ M2 62 39 = nI (ra + 1) ∧ TrA 82 ra [11] M M2)) := by
  refine xb_of pX10 (Nat.le_of_ble_eq_true rfl) rfl ?_
  refine xr_iload_n dX10_sinksAs_0 1 rfl ?_
  refine xr_iconst (v := 3) dX10_sinksAs_1 rfl ?_
  refine xr_icmp_eq (tgt := 10) dX10_sinksAs_2 rfl (fun c => absurd c (by decide)) (fun _ => ?_)
  refine xr_iload_n dX10_sinksAs_5 1 rfl ?_
  refine xr_iconst (v := 5) dX10_sinksAs_6 rfl ?_
  refine xr_icmp_ne (tgt := 25) dX10_sinksAs_7 rfl (fun _ => ?_) (fun c => absurd c (by decide))
  refine xr_iload_n dX10_sinksAs_25 1 rfl ?_
  refine xr_iconst (v := 4) dX10_sinksAs_26 rfl ?_
  refine xr_icmp_eq (tgt := 36) dX10_sinksAs_27 rfl (fun c => absurd c (by decide)) (fun _ => ?_)
  refine xr_iload_n dX10_sinksAs_30 1 rfl ?_
  refine xr_bipush (v := 7) dX10_sinksAs_31 rfl ?_
  refine xr_icmp_ne (tgt := 61) dX10_sinksAs_33 rfl (fun _ => ?_) (fun c => absurd c (by decide))
  refine xr_aload_n dX10_sinksAs_61 0 rfl ?_
  refine xr_bipush (v := 11) dX10_sinksAs_62 rfl ?_
  refine xr_callV (As := [.int (11)]) (rest := []) mlX10_340 (gt_X10_begins 11 (by omega) e_ra) dX10_sinksAs_64 s_62 rfl rfl (Nat.le_of_ble_eq_true rfl) (by decide) ⟨by decide, by decide⟩ (fun v s2 M3 J2 hq => ?_)
  obtain ⟨rfl, rfl, rfl, k4, ⟨hx1, ht2⟩⟩ := hq
  try dsimp only [Option.toList, List.cons_append, List.nil_append]
  refine xr_iload_n dX10_sinksAs_67 2 rfl ?_
  refine xr_aload_n dX10_sinksAs_68 0 rfl ?_
  refine xb_get (v := nI (ac)) flX10_346 dX10_sinksAs_69 s_62 rfl (Eq.trans (k4 62 41 (by decide)) e_ac) ?_
  refine xr_ixor dX10_sinksAs_72 ?_
  exact xr_iret dX10_sinksAs_73 rfl rfl (⟨_, rfl, rfl, rfl, (Ke.tr (fun _ _ h => h) Ke.rf k4), rfl, hx1, ht2⟩)
set_option maxRecDepth 100000 in
set_option maxHeartbeats 4000000 in
theorem rv3_sinksAs_3 {ac : Nat} (x : Int32) {l : Launch} {G : xG} {M : xM} {J : xJ} {ra : Nat} (h_ra : ra + 2 ≤ 900) (e_ra : M 62 39 = nI ra) (e_k : M 62 40 = 3) (e_ac : M 62 41 = nI ac) : x_M l G fX10_sinksAs 2 0 0 [.ref (62), .int (3), .int (x)] x_SH M J (qKI WRA M J (fun r M2 => r = ((x ^^^ (nI (ac))) * 3) ∧ M2 62 39 = nI (ra + 2) ∧ TrA 82 ra [40, 11] M M2)) := by
  refine xb_of pX10 (Nat.le_of_ble_eq_true rfl) rfl ?_
  refine xr_iload_n dX10_sinksAs_0 1 rfl ?_
  refine xr_iconst (v := 3) dX10_sinksAs_1 rfl ?_
  refine xr_icmp_eq (tgt := 10) dX10_sinksAs_2 rfl (fun _ => ?_) (fun c => absurd (by decide) c)
  refine xr_aload_n dX10_sinksAs_10 0 rfl ?_
  refine xr_bipush (v := 40) dX10_sinksAs_11 rfl ?_
  refine xr_callV (As := [.int (40)]) (rest := []) mlX10_340 (gt_X10_begins 40 (by omega) e_ra) dX10_sinksAs_13 s_62 rfl rfl (Nat.le_of_ble_eq_true rfl) (by decide) ⟨by decide, by decide⟩ (fun v s2 M3 J2 hq => ?_)
  obtain ⟨rfl, rfl, rfl, k4, ⟨hx1, ht2⟩⟩ := hq
  try dsimp only [Option.toList, List.cons_append, List.nil_append]
  refine xr_aload_n dX10_sinksAs_16 0 rfl ?_
  refine xr_iconst (v := 2) dX10_sinksAs_17 rfl ?_
  refine xr_iload_n dX10_sinksAs_18 2 rfl ?_
  refine xr_callV (As := [.int (2), .int (x)]) (rest := []) mlX10_355 (rv3_sinksAs_2 x (by omega) hx1 (Eq.trans (k4 62 40 (by decide)) e_k) (Eq.trans (k4 62 41 (by decide)) e_ac)) dX10_sinksAs_19 s_62 rfl rfl (Nat.le_of_ble_eq_true rfl) (by decide) ⟨by decide, by decide⟩ (fun v s2 M8 J2 hq => ?_)
  obtain ⟨r10, rfl, rfl, rfl, k9, ⟨hr6, hx5, ht7⟩⟩ := hq
  try dsimp only [Option.toList, List.cons_append, List.nil_append]
  subst hr6
  refine xr_iconst (v := 3) dX10_sinksAs_22 rfl ?_
  refine xr_imul dX10_sinksAs_23 ?_
  exact xr_iret dX10_sinksAs_24 rfl rfl (⟨_, rfl, rfl, rfl, (Ke.tr (fun _ _ h => h) (Ke.tr (fun _ _ h => h) Ke.rf k4) k9), rfl, hx5, (TrA_app (l := [40]) (m := [11]) ht2 ht7)⟩)
set_option maxRecDepth 100000 in
set_option maxHeartbeats 4000000 in
theorem rv3_tellsAs_3 {ac : Nat} (x : Int32) {l : Launch} {G : xG} {M : xM} {J : xJ} {ra : Nat} (h_ra : ra + 7 ≤ 900) (e_ra : M 62 39 = nI ra) (e_k : M 62 40 = 3) (e_ac : M 62 41 = nI ac) : x_M l G fX10_tellsAs 5 0 0 [.ref (62), .int (3), .int (x)] x_SH M J (qKI WRA M J (fun r M2 => r = ((-(((x + 1) + (nI (ac))) * 2)) - ((1 ^^^ (nI (ac))) * 3)) ∧ M2 62 39 = nI (ra + 7) ∧ TrA 82 ra [2, 41, 30, 10, 1, 40, 11] M M2)) := by
  refine xb_of pX10 (Nat.le_of_ble_eq_true rfl) rfl ?_
  refine xr_iload_n dX10_tellsAs_0 1 rfl ?_
  refine xr_iconst (v := 5) dX10_tellsAs_1 rfl ?_
  refine xr_icmp_ne (tgt := 20) dX10_tellsAs_2 rfl (fun _ => ?_) (fun c => absurd c (by decide))
  refine xr_iload_n dX10_tellsAs_20 1 rfl ?_
  refine xr_bipush (v := 7) dX10_tellsAs_21 rfl ?_
  refine xr_icmp_ne (tgt := 41) dX10_tellsAs_23 rfl (fun _ => ?_) (fun c => absurd c (by decide))
  refine xr_aload_n dX10_tellsAs_41 0 rfl ?_
  refine xr_iconst (v := 2) dX10_tellsAs_42 rfl ?_
  refine xr_callV (As := [.int (2)]) (rest := []) mlX10_340 (gt_X10_begins 2 (by omega) e_ra) dX10_tellsAs_43 s_62 rfl rfl (Nat.le_of_ble_eq_true rfl) (by decide) ⟨by decide, by decide⟩ (fun v s2 M3 J2 hq => ?_)
  obtain ⟨rfl, rfl, rfl, k4, ⟨hx1, ht2⟩⟩ := hq
  try dsimp only [Option.toList, List.cons_append, List.nil_append]
  refine xr_aload_n dX10_tellsAs_46 0 rfl ?_
  refine xr_aload_n dX10_tellsAs_47 0 rfl ?_
  refine xb_get (v := 3) flX10_352 dX10_tellsAs_48 s_62 rfl (Eq.trans (k4 62 40 (by decide)) e_k) ?_
  refine xr_iload_n dX10_tellsAs_51 2 rfl ?_
  refine xr_callV (As := [.int (3), .int (x)]) (rest := []) mlX10_349 (rv3_turnsAs_3 x (by omega) hx1 (Eq.trans (k4 62 40 (by decide)) e_k) (Eq.trans (k4 62 41 (by decide)) e_ac)) dX10_tellsAs_52 s_62 rfl rfl (Nat.le_of_ble_eq_true rfl) (by decide) ⟨by decide, by decide⟩ (fun v s2 M8 J2 hq => ?_)
  obtain ⟨r10, rfl, rfl, rfl, k9, ⟨hr6, hx5, ht7⟩⟩ := hq
  try dsimp only [Option.toList, List.cons_append, List.nil_append]
  subst hr6
  refine xr_istore_n (ls2 := [(3, .int ((-(((x + 1) + (nI (ac))) * 2)))), (0, .ref (62)), (1, .int (3)), (2, .int (x))]) dX10_tellsAs_55 (by decide) rfl ?_
  refine xr_iload_n dX10_tellsAs_56 0 rfl ?_
  refine xr_aload_n dX10_tellsAs_57 1 rfl ?_
  refine xr_aload_n dX10_tellsAs_58 1 rfl ?_
  refine xb_get (v := 3) flX10_352 dX10_tellsAs_59 s_62 rfl (Eq.trans (k9 62 40 (by decide)) (Eq.trans (k4 62 40 (by decide)) e_k)) ?_
  refine xr_iconst (v := 1) dX10_tellsAs_62 rfl ?_
  refine xr_callV (As := [.int (3), .int (1)]) (rest := [.int ((-(((x + 1) + (nI (ac))) * 2)))]) mlX10_355 (rv3_sinksAs_3 1 (by omega) hx5 (Eq.trans (k9 62 40 (by decide)) (Eq.trans (k4 62 40 (by decide)) e_k)) (Eq.trans (k9 62 41 (by decide)) (Eq.trans (k4 62 41 (by decide)) e_ac))) dX10_tellsAs_63 s_62 rfl rfl (Nat.le_of_ble_eq_true rfl) (by decide) ⟨by decide, by decide⟩ (fun v s2 M14 J2 hq => ?_)
  obtain ⟨r16, rfl, rfl, rfl, k15, ⟨hr12, hx11, ht13⟩⟩ := hq
  try dsimp only [Option.toList, List.cons_append, List.nil_append]
  subst hr12
  refine xr_isub dX10_tellsAs_66 ?_
  exact xr_iret dX10_tellsAs_67 rfl rfl (⟨_, rfl, rfl, rfl, (Ke.tr (fun _ _ h => h) (Ke.tr (fun _ _ h => h) (Ke.tr (fun _ _ h => h) Ke.rf k4) k9) k15), rfl, hx11, (TrA_app (l := [2, 41, 30, 10, 1]) (m := [40, 11]) (TrA_app (l := [2]) (m := [41, 30, 10, 1]) ht2 ht7) ht13)⟩)
set_option maxRecDepth 100000 in
set_option maxHeartbeats 4000000 in
theorem rv4_pushesAs_0 {ac : Nat} (x : Int32) {l : Launch} {G : xG} {M : xM} {J : xJ} {ra : Nat} (h_ra : ra + 1 ≤ 900) (e_ra : M 62 39 = nI ra) (e_k : M 62 40 = 4) (e_ac : M 62 41 = nI ac) : x_M l G fX10_pushesAs 1 0 0 [.ref (62), .int (0), .int (x)] x_SH M J (qKI WRA M J (fun r M2 => r = (x + (nI (ac))) ∧ M2 62 39 = nI (ra + 1) ∧ TrA 82 ra [1] M M2)) := by
  refine xb_of pX10 (Nat.le_of_ble_eq_true rfl) rfl ?_
  refine xr_iload_n dX10_pushesAs_0 1 rfl ?_
  refine xr_iconst (v := 1) dX10_pushesAs_1 rfl ?_
  refine xr_icmp_eq (tgt := 16) dX10_pushesAs_2 rfl (fun c => absurd c (by decide)) (fun _ => ?_)
  refine xr_iload_n dX10_pushesAs_5 1 rfl ?_
  refine xr_iconst (v := 4) dX10_pushesAs_6 rfl ?_
  refine xr_icmp_eq (tgt := 16) dX10_pushesAs_7 rfl (fun c => absurd c (by decide)) (fun _ => ?_)
  refine xr_iload_n dX10_pushesAs_10 1 rfl ?_
  refine xr_bipush (v := 7) dX10_pushesAs_11 rfl ?_
  refine xr_icmp_ne (tgt := 31) dX10_pushesAs_13 rfl (fun _ => ?_) (fun c => absurd c (by decide))
  refine xr_iload_n dX10_pushesAs_31 1 rfl ?_
  refine xr_bipush (v := 6) dX10_pushesAs_32 rfl ?_
  refine xr_icmp_ne (tgt := 52) dX10_pushesAs_34 rfl (fun _ => ?_) (fun c => absurd c (by decide))
  refine xr_aload_n dX10_pushesAs_52 0 rfl ?_
  refine xr_iconst (v := 1) dX10_pushesAs_53 rfl ?_
  refine xr_callV (As := [.int (1)]) (rest := []) mlX10_340 (gt_X10_begins 1 (by omega) e_ra) dX10_pushesAs_54 s_62 rfl rfl (Nat.le_of_ble_eq_true rfl) (by decide) ⟨by decide, by decide⟩ (fun v s2 M3 J2 hq => ?_)
  obtain ⟨rfl, rfl, rfl, k4, ⟨hx1, ht2⟩⟩ := hq
  try dsimp only [Option.toList, List.cons_append, List.nil_append]
  refine xr_iload_n dX10_pushesAs_57 2 rfl ?_
  refine xr_aload_n dX10_pushesAs_58 0 rfl ?_
  refine xb_get (v := nI (ac)) flX10_346 dX10_pushesAs_59 s_62 rfl (Eq.trans (k4 62 41 (by decide)) e_ac) ?_
  refine xr_iadd dX10_pushesAs_62 ?_
  exact xr_iret dX10_pushesAs_63 rfl rfl (⟨_, rfl, rfl, rfl, (Ke.tr (fun _ _ h => h) Ke.rf k4), rfl, hx1, ht2⟩)
set_option maxRecDepth 100000 in
set_option maxHeartbeats 4000000 in
theorem rv4_pushesAs_4 {ac : Nat} (x : Int32) {l : Launch} {G : xG} {M : xM} {J : xJ} {ra : Nat} (h_ra : ra + 2 ≤ 900) (e_ra : M 62 39 = nI ra) (e_k : M 62 40 = 4) (e_ac : M 62 41 = nI ac) : x_M l G fX10_pushesAs 2 0 0 [.ref (62), .int (4), .int (x)] x_SH M J (qKI WRA M J (fun r M2 => r = ((x + (nI (ac))) + 3) ∧ M2 62 39 = nI (ra + 2) ∧ TrA 82 ra [20, 1] M M2)) := by
  refine xb_of pX10 (Nat.le_of_ble_eq_true rfl) rfl ?_
  refine xr_iload_n dX10_pushesAs_0 1 rfl ?_
  refine xr_iconst (v := 1) dX10_pushesAs_1 rfl ?_
  refine xr_icmp_eq (tgt := 16) dX10_pushesAs_2 rfl (fun c => absurd c (by decide)) (fun _ => ?_)
  refine xr_iload_n dX10_pushesAs_5 1 rfl ?_
  refine xr_iconst (v := 4) dX10_pushesAs_6 rfl ?_
  refine xr_icmp_eq (tgt := 16) dX10_pushesAs_7 rfl (fun _ => ?_) (fun c => absurd (by decide) c)
  refine xr_aload_n dX10_pushesAs_16 0 rfl ?_
  refine xr_bipush (v := 20) dX10_pushesAs_17 rfl ?_
  refine xr_callV (As := [.int (20)]) (rest := []) mlX10_340 (gt_X10_begins 20 (by omega) e_ra) dX10_pushesAs_19 s_62 rfl rfl (Nat.le_of_ble_eq_true rfl) (by decide) ⟨by decide, by decide⟩ (fun v s2 M3 J2 hq => ?_)
  obtain ⟨rfl, rfl, rfl, k4, ⟨hx1, ht2⟩⟩ := hq
  try dsimp only [Option.toList, List.cons_append, List.nil_append]
  refine xr_aload_n dX10_pushesAs_22 0 rfl ?_
  refine xr_iconst (v := 0) dX10_pushesAs_23 rfl ?_
  refine xr_iload_n dX10_pushesAs_24 2 rfl ?_
  refine xr_callV (As := [.int (0), .int (x)]) (rest := []) mlX10_343 (rv4_pushesAs_0 x (by omega) hx1 (Eq.trans (k4 62 40 (by decide)) e_k) (Eq.trans (k4 62 41 (by decide)) e_ac)) dX10_pushesAs_25 s_62 rfl rfl (Nat.le_of_ble_eq_true rfl) (by decide) ⟨by decide, by decide⟩ (fun v s2 M8 J2 hq => ?_)
  obtain ⟨r10, rfl, rfl, rfl, k9, ⟨hr6, hx5, ht7⟩⟩ := hq
  try dsimp only [Option.toList, List.cons_append, List.nil_append]
  subst hr6
  refine xr_iconst (v := 3) dX10_pushesAs_28 rfl ?_
  refine xr_iadd dX10_pushesAs_29 ?_
  exact xr_iret dX10_pushesAs_30 rfl rfl (⟨_, rfl, rfl, rfl, (Ke.tr (fun _ _ h => h) (Ke.tr (fun _ _ h => h) Ke.rf k4) k9), rfl, hx5, (TrA_app (l := [20]) (m := [1]) ht2 ht7)⟩)
set_option maxRecDepth 100000 in
set_option maxHeartbeats 4000000 in
theorem rv4_turnsAs_4 {ac : Nat} (x : Int32) {l : Launch} {G : xG} {M : xM} {J : xJ} {ra : Nat} (h_ra : ra + 3 ≤ 900) (e_ra : M 62 39 = nI ra) (e_k : M 62 40 = 4) (e_ac : M 62 41 = nI ac) : x_M l G fX10_turnsAs 3 0 0 [.ref (62), .int (4), .int (x)] x_SH M J (qKI WRA M J (fun r M2 => r = (((x + (nI (ac))) + 3) * 2) ∧ M2 62 39 = nI (ra + 3) ∧ TrA 82 ra [10, 20, 1] M M2)) := by
  refine xb_of pX10 (Nat.le_of_ble_eq_true rfl) rfl ?_
  refine xr_iload_n dX10_turnsAs_0 1 rfl ?_
  refine xr_iconst (v := 3) dX10_turnsAs_1 rfl ?_
  refine xr_icmp_eq (tgt := 10) dX10_turnsAs_2 rfl (fun c => absurd c (by decide)) (fun _ => ?_)
  refine xr_iload_n dX10_turnsAs_5 1 rfl ?_
  refine xr_iconst (v := 5) dX10_turnsAs_6 rfl ?_
  refine xr_icmp_ne (tgt := 25) dX10_turnsAs_7 rfl (fun _ => ?_) (fun c => absurd c (by decide))
  refine xr_iload_n dX10_turnsAs_25 1 rfl ?_
  refine xr_iconst (v := 2) dX10_turnsAs_26 rfl ?_
  refine xr_icmp_ne (tgt := 44) dX10_turnsAs_27 rfl (fun _ => ?_) (fun c => absurd c (by decide))
  refine xr_iload_n dX10_turnsAs_44 1 rfl ?_
  refine xr_bipush (v := 7) dX10_turnsAs_45 rfl ?_
  refine xr_icmp_ne (tgt := 75) dX10_turnsAs_47 rfl (fun _ => ?_) (fun c => absurd c (by decide))
  refine xr_aload_n dX10_turnsAs_75 0 rfl ?_
  refine xr_bipush (v := 10) dX10_turnsAs_76 rfl ?_
  refine xr_callV (As := [.int (10)]) (rest := []) mlX10_340 (gt_X10_begins 10 (by omega) e_ra) dX10_turnsAs_78 s_62 rfl rfl (Nat.le_of_ble_eq_true rfl) (by decide) ⟨by decide, by decide⟩ (fun v s2 M3 J2 hq => ?_)
  obtain ⟨rfl, rfl, rfl, k4, ⟨hx1, ht2⟩⟩ := hq
  try dsimp only [Option.toList, List.cons_append, List.nil_append]
  refine xr_aload_n dX10_turnsAs_81 0 rfl ?_
  refine xr_aload_n dX10_turnsAs_82 0 rfl ?_
  refine xb_get (v := 4) flX10_352 dX10_turnsAs_83 s_62 rfl (Eq.trans (k4 62 40 (by decide)) e_k) ?_
  refine xr_iload_n dX10_turnsAs_86 2 rfl ?_
  refine xr_callV (As := [.int (4), .int (x)]) (rest := []) mlX10_343 (rv4_pushesAs_4 x (by omega) hx1 (Eq.trans (k4 62 40 (by decide)) e_k) (Eq.trans (k4 62 41 (by decide)) e_ac)) dX10_turnsAs_87 s_62 rfl rfl (Nat.le_of_ble_eq_true rfl) (by decide) ⟨by decide, by decide⟩ (fun v s2 M8 J2 hq => ?_)
  obtain ⟨r10, rfl, rfl, rfl, k9, ⟨hr6, hx5, ht7⟩⟩ := hq
  try dsimp only [Option.toList, List.cons_append, List.nil_append]
  subst hr6
  refine xr_iconst (v := 2) dX10_turnsAs_90 rfl ?_
  refine xr_imul dX10_turnsAs_91 ?_
  exact xr_iret dX10_turnsAs_92 rfl rfl (⟨_, rfl, rfl, rfl, (Ke.tr (fun _ _ h => h) (Ke.tr (fun _ _ h => h) Ke.rf k4) k9), rfl, hx5, (TrA_app (l := [10]) (m := [20, 1]) ht2 ht7)⟩)
set_option maxRecDepth 100000 in
set_option maxHeartbeats 4000000 in
theorem rv4_sinksAs_1 {ac : Nat} (x : Int32) {l : Launch} {G : xG} {M : xM} {J : xJ} {ra : Nat} (h_ra : ra + 1 ≤ 900) (e_ra : M 62 39 = nI ra) (e_k : M 62 40 = 4) (e_ac : M 62 41 = nI ac) : x_M l G fX10_sinksAs 1 0 0 [.ref (62), .int (1), .int (x)] x_SH M J (qKI WRA M J (fun r M2 => r = (x ^^^ (nI (ac))) ∧ M2 62 39 = nI (ra + 1) ∧ TrA 82 ra [11] M M2)) := by
  refine xb_of pX10 (Nat.le_of_ble_eq_true rfl) rfl ?_
  refine xr_iload_n dX10_sinksAs_0 1 rfl ?_
  refine xr_iconst (v := 3) dX10_sinksAs_1 rfl ?_
  refine xr_icmp_eq (tgt := 10) dX10_sinksAs_2 rfl (fun c => absurd c (by decide)) (fun _ => ?_)
  refine xr_iload_n dX10_sinksAs_5 1 rfl ?_
  refine xr_iconst (v := 5) dX10_sinksAs_6 rfl ?_
  refine xr_icmp_ne (tgt := 25) dX10_sinksAs_7 rfl (fun _ => ?_) (fun c => absurd c (by decide))
  refine xr_iload_n dX10_sinksAs_25 1 rfl ?_
  refine xr_iconst (v := 4) dX10_sinksAs_26 rfl ?_
  refine xr_icmp_eq (tgt := 36) dX10_sinksAs_27 rfl (fun c => absurd c (by decide)) (fun _ => ?_)
  refine xr_iload_n dX10_sinksAs_30 1 rfl ?_
  refine xr_bipush (v := 7) dX10_sinksAs_31 rfl ?_
  refine xr_icmp_ne (tgt := 61) dX10_sinksAs_33 rfl (fun _ => ?_) (fun c => absurd c (by decide))
  refine xr_aload_n dX10_sinksAs_61 0 rfl ?_
  refine xr_bipush (v := 11) dX10_sinksAs_62 rfl ?_
  refine xr_callV (As := [.int (11)]) (rest := []) mlX10_340 (gt_X10_begins 11 (by omega) e_ra) dX10_sinksAs_64 s_62 rfl rfl (Nat.le_of_ble_eq_true rfl) (by decide) ⟨by decide, by decide⟩ (fun v s2 M3 J2 hq => ?_)
  obtain ⟨rfl, rfl, rfl, k4, ⟨hx1, ht2⟩⟩ := hq
  try dsimp only [Option.toList, List.cons_append, List.nil_append]
  refine xr_iload_n dX10_sinksAs_67 2 rfl ?_
  refine xr_aload_n dX10_sinksAs_68 0 rfl ?_
  refine xb_get (v := nI (ac)) flX10_346 dX10_sinksAs_69 s_62 rfl (Eq.trans (k4 62 41 (by decide)) e_ac) ?_
  refine xr_ixor dX10_sinksAs_72 ?_
  exact xr_iret dX10_sinksAs_73 rfl rfl (⟨_, rfl, rfl, rfl, (Ke.tr (fun _ _ h => h) Ke.rf k4), rfl, hx1, ht2⟩)
set_option maxRecDepth 100000 in
set_option maxHeartbeats 4000000 in
theorem rv4_sinksAs_4 {ac : Nat} (x : Int32) {l : Launch} {G : xG} {M : xM} {J : xJ} {ra : Nat} (h_ra : ra + 4 ≤ 900) (e_ra : M 62 39 = nI ra) (e_k : M 62 40 = 4) (e_ac : M 62 41 = nI ac) : x_M l G fX10_sinksAs 3 0 0 [.ref (62), .int (4), .int (x)] x_SH M J (qKI WRA M J (fun r M2 => r = ((x ^^^ (nI (ac))) - ((2 + (nI (ac))) + 3)) ∧ M2 62 39 = nI (ra + 4) ∧ TrA 82 ra [50, 11, 20, 1] M M2)) := by
  refine xb_of pX10 (Nat.le_of_ble_eq_true rfl) rfl ?_
  refine xr_iload_n dX10_sinksAs_0 1 rfl ?_
  refine xr_iconst (v := 3) dX10_sinksAs_1 rfl ?_
  refine xr_icmp_eq (tgt := 10) dX10_sinksAs_2 rfl (fun c => absurd c (by decide)) (fun _ => ?_)
  refine xr_iload_n dX10_sinksAs_5 1 rfl ?_
  refine xr_iconst (v := 5) dX10_sinksAs_6 rfl ?_
  refine xr_icmp_ne (tgt := 25) dX10_sinksAs_7 rfl (fun _ => ?_) (fun c => absurd c (by decide))
  refine xr_iload_n dX10_sinksAs_25 1 rfl ?_
  refine xr_iconst (v := 4) dX10_sinksAs_26 rfl ?_
  refine xr_icmp_eq (tgt := 36) dX10_sinksAs_27 rfl (fun _ => ?_) (fun c => absurd (by decide) c)
  refine xr_aload_n dX10_sinksAs_36 0 rfl ?_
  refine xr_bipush (v := 50) dX10_sinksAs_37 rfl ?_
  refine xr_callV (As := [.int (50)]) (rest := []) mlX10_340 (gt_X10_begins 50 (by omega) e_ra) dX10_sinksAs_39 s_62 rfl rfl (Nat.le_of_ble_eq_true rfl) (by decide) ⟨by decide, by decide⟩ (fun v s2 M3 J2 hq => ?_)
  obtain ⟨rfl, rfl, rfl, k4, ⟨hx1, ht2⟩⟩ := hq
  try dsimp only [Option.toList, List.cons_append, List.nil_append]
  refine xr_aload_n dX10_sinksAs_42 0 rfl ?_
  refine xr_iconst (v := 1) dX10_sinksAs_43 rfl ?_
  refine xr_iload_n dX10_sinksAs_44 2 rfl ?_
  refine xr_callV (As := [.int (1), .int (x)]) (rest := []) mlX10_355 (rv4_sinksAs_1 x (by omega) hx1 (Eq.trans (k4 62 40 (by decide)) e_k) (Eq.trans (k4 62 41 (by decide)) e_ac)) dX10_sinksAs_45 s_62 rfl rfl (Nat.le_of_ble_eq_true rfl) (by decide) ⟨by decide, by decide⟩ (fun v s2 M8 J2 hq => ?_)
  obtain ⟨r10, rfl, rfl, rfl, k9, ⟨hr6, hx5, ht7⟩⟩ := hq
  try dsimp only [Option.toList, List.cons_append, List.nil_append]
  subst hr6
  refine xr_istore_n (ls2 := [(3, .int ((x ^^^ (nI (ac))))), (0, .ref (62)), (1, .int (4)), (2, .int (x))]) dX10_sinksAs_48 (by decide) rfl ?_
  refine xr_iload_n dX10_sinksAs_49 0 rfl ?_
  refine xr_aload_n dX10_sinksAs_50 1 rfl ?_
  refine xr_aload_n dX10_sinksAs_51 1 rfl ?_
  refine xb_get (v := 4) flX10_352 dX10_sinksAs_52 s_62 rfl (Eq.trans (k9 62 40 (by decide)) (Eq.trans (k4 62 40 (by decide)) e_k)) ?_
  refine xr_iconst (v := 2) dX10_sinksAs_55 rfl ?_
  refine xr_callV (As := [.int (4), .int (2)]) (rest := [.int ((x ^^^ (nI (ac))))]) mlX10_343 (rv4_pushesAs_4 2 (by omega) hx5 (Eq.trans (k9 62 40 (by decide)) (Eq.trans (k4 62 40 (by decide)) e_k)) (Eq.trans (k9 62 41 (by decide)) (Eq.trans (k4 62 41 (by decide)) e_ac))) dX10_sinksAs_56 s_62 rfl rfl (Nat.le_of_ble_eq_true rfl) (by decide) ⟨by decide, by decide⟩ (fun v s2 M14 J2 hq => ?_)
  obtain ⟨r16, rfl, rfl, rfl, k15, ⟨hr12, hx11, ht13⟩⟩ := hq
  try dsimp only [Option.toList, List.cons_append, List.nil_append]
  subst hr12
  refine xr_isub dX10_sinksAs_59 ?_
  exact xr_iret dX10_sinksAs_60 rfl rfl (⟨_, rfl, rfl, rfl, (Ke.tr (fun _ _ h => h) (Ke.tr (fun _ _ h => h) (Ke.tr (fun _ _ h => h) Ke.rf k4) k9) k15), rfl, hx11, (TrA_app (l := [50, 11]) (m := [20, 1]) (TrA_app (l := [50]) (m := [11]) ht2 ht7) ht13)⟩)
set_option maxRecDepth 100000 in
set_option maxHeartbeats 4000000 in
theorem rv4_tellsAs_4 {ac : Nat} (x : Int32) {l : Launch} {G : xG} {M : xM} {J : xJ} {ra : Nat} (h_ra : ra + 8 ≤ 900) (e_ra : M 62 39 = nI ra) (e_k : M 62 40 = 4) (e_ac : M 62 41 = nI ac) : x_M l G fX10_tellsAs 4 0 0 [.ref (62), .int (4), .int (x)] x_SH M J (qKI WRA M J (fun r M2 => r = ((((x + (nI (ac))) + 3) * 2) - ((1 ^^^ (nI (ac))) - ((2 + (nI (ac))) + 3))) ∧ M2 62 39 = nI (ra + 8) ∧ TrA 82 ra [2, 10, 20, 1, 50, 11, 20, 1] M M2)) := by
  refine xb_of pX10 (Nat.le_of_ble_eq_true rfl) rfl ?_
  refine xr_iload_n dX10_tellsAs_0 1 rfl ?_
  refine xr_iconst (v := 5) dX10_tellsAs_1 rfl ?_
  refine xr_icmp_ne (tgt := 20) dX10_tellsAs_2 rfl (fun _ => ?_) (fun c => absurd c (by decide))
  refine xr_iload_n dX10_tellsAs_20 1 rfl ?_
  refine xr_bipush (v := 7) dX10_tellsAs_21 rfl ?_
  refine xr_icmp_ne (tgt := 41) dX10_tellsAs_23 rfl (fun _ => ?_) (fun c => absurd c (by decide))
  refine xr_aload_n dX10_tellsAs_41 0 rfl ?_
  refine xr_iconst (v := 2) dX10_tellsAs_42 rfl ?_
  refine xr_callV (As := [.int (2)]) (rest := []) mlX10_340 (gt_X10_begins 2 (by omega) e_ra) dX10_tellsAs_43 s_62 rfl rfl (Nat.le_of_ble_eq_true rfl) (by decide) ⟨by decide, by decide⟩ (fun v s2 M3 J2 hq => ?_)
  obtain ⟨rfl, rfl, rfl, k4, ⟨hx1, ht2⟩⟩ := hq
  try dsimp only [Option.toList, List.cons_append, List.nil_append]
  refine xr_aload_n dX10_tellsAs_46 0 rfl ?_
  refine xr_aload_n dX10_tellsAs_47 0 rfl ?_
  refine xb_get (v := 4) flX10_352 dX10_tellsAs_48 s_62 rfl (Eq.trans (k4 62 40 (by decide)) e_k) ?_
  refine xr_iload_n dX10_tellsAs_51 2 rfl ?_
  refine xr_callV (As := [.int (4), .int (x)]) (rest := []) mlX10_349 (rv4_turnsAs_4 x (by omega) hx1 (Eq.trans (k4 62 40 (by decide)) e_k) (Eq.trans (k4 62 41 (by decide)) e_ac)) dX10_tellsAs_52 s_62 rfl rfl (Nat.le_of_ble_eq_true rfl) (by decide) ⟨by decide, by decide⟩ (fun v s2 M8 J2 hq => ?_)
  obtain ⟨r10, rfl, rfl, rfl, k9, ⟨hr6, hx5, ht7⟩⟩ := hq
  try dsimp only [Option.toList, List.cons_append, List.nil_append]
  subst hr6
  refine xr_istore_n (ls2 := [(3, .int ((((x + (nI (ac))) + 3) * 2))), (0, .ref (62)), (1, .int (4)), (2, .int (x))]) dX10_tellsAs_55 (by decide) rfl ?_
  refine xr_iload_n dX10_tellsAs_56 0 rfl ?_
  refine xr_aload_n dX10_tellsAs_57 1 rfl ?_
  refine xr_aload_n dX10_tellsAs_58 1 rfl ?_
  refine xb_get (v := 4) flX10_352 dX10_tellsAs_59 s_62 rfl (Eq.trans (k9 62 40 (by decide)) (Eq.trans (k4 62 40 (by decide)) e_k)) ?_
  refine xr_iconst (v := 1) dX10_tellsAs_62 rfl ?_
  refine xr_callV (As := [.int (4), .int (1)]) (rest := [.int ((((x + (nI (ac))) + 3) * 2))]) mlX10_355 (rv4_sinksAs_4 1 (by omega) hx5 (Eq.trans (k9 62 40 (by decide)) (Eq.trans (k4 62 40 (by decide)) e_k)) (Eq.trans (k9 62 41 (by decide)) (Eq.trans (k4 62 41 (by decide)) e_ac))) dX10_tellsAs_63 s_62 rfl rfl (Nat.le_of_ble_eq_true rfl) (by decide) ⟨by decide, by decide⟩ (fun v s2 M14 J2 hq => ?_)
  obtain ⟨r16, rfl, rfl, rfl, k15, ⟨hr12, hx11, ht13⟩⟩ := hq
  try dsimp only [Option.toList, List.cons_append, List.nil_append]
  subst hr12
  refine xr_isub dX10_tellsAs_66 ?_
  exact xr_iret dX10_tellsAs_67 rfl rfl (⟨_, rfl, rfl, rfl, (Ke.tr (fun _ _ h => h) (Ke.tr (fun _ _ h => h) (Ke.tr (fun _ _ h => h) Ke.rf k4) k9) k15), rfl, hx11, (TrA_app (l := [2, 10, 20, 1]) (m := [50, 11, 20, 1]) (TrA_app (l := [2]) (m := [10, 20, 1]) ht2 ht7) ht13)⟩)
set_option maxRecDepth 100000 in
set_option maxHeartbeats 4000000 in
theorem rv5_pushesAs_5 {ac : Nat} (x : Int32) {l : Launch} {G : xG} {M : xM} {J : xJ} {ra : Nat} (h_ra : ra + 1 ≤ 900) (e_ra : M 62 39 = nI ra) (e_k : M 62 40 = 5) (e_ac : M 62 41 = nI ac) : x_M l G fX10_pushesAs 1 0 0 [.ref (62), .int (5), .int (x)] x_SH M J (qKI WRA M J (fun r M2 => r = (x + (nI (ac))) ∧ M2 62 39 = nI (ra + 1) ∧ TrA 82 ra [1] M M2)) := by
  refine xb_of pX10 (Nat.le_of_ble_eq_true rfl) rfl ?_
  refine xr_iload_n dX10_pushesAs_0 1 rfl ?_
  refine xr_iconst (v := 1) dX10_pushesAs_1 rfl ?_
  refine xr_icmp_eq (tgt := 16) dX10_pushesAs_2 rfl (fun c => absurd c (by decide)) (fun _ => ?_)
  refine xr_iload_n dX10_pushesAs_5 1 rfl ?_
  refine xr_iconst (v := 4) dX10_pushesAs_6 rfl ?_
  refine xr_icmp_eq (tgt := 16) dX10_pushesAs_7 rfl (fun c => absurd c (by decide)) (fun _ => ?_)
  refine xr_iload_n dX10_pushesAs_10 1 rfl ?_
  refine xr_bipush (v := 7) dX10_pushesAs_11 rfl ?_
  refine xr_icmp_ne (tgt := 31) dX10_pushesAs_13 rfl (fun _ => ?_) (fun c => absurd c (by decide))
  refine xr_iload_n dX10_pushesAs_31 1 rfl ?_
  refine xr_bipush (v := 6) dX10_pushesAs_32 rfl ?_
  refine xr_icmp_ne (tgt := 52) dX10_pushesAs_34 rfl (fun _ => ?_) (fun c => absurd c (by decide))
  refine xr_aload_n dX10_pushesAs_52 0 rfl ?_
  refine xr_iconst (v := 1) dX10_pushesAs_53 rfl ?_
  refine xr_callV (As := [.int (1)]) (rest := []) mlX10_340 (gt_X10_begins 1 (by omega) e_ra) dX10_pushesAs_54 s_62 rfl rfl (Nat.le_of_ble_eq_true rfl) (by decide) ⟨by decide, by decide⟩ (fun v s2 M3 J2 hq => ?_)
  obtain ⟨rfl, rfl, rfl, k4, ⟨hx1, ht2⟩⟩ := hq
  try dsimp only [Option.toList, List.cons_append, List.nil_append]
  refine xr_iload_n dX10_pushesAs_57 2 rfl ?_
  refine xr_aload_n dX10_pushesAs_58 0 rfl ?_
  refine xb_get (v := nI (ac)) flX10_346 dX10_pushesAs_59 s_62 rfl (Eq.trans (k4 62 41 (by decide)) e_ac) ?_
  refine xr_iadd dX10_pushesAs_62 ?_
  exact xr_iret dX10_pushesAs_63 rfl rfl (⟨_, rfl, rfl, rfl, (Ke.tr (fun _ _ h => h) Ke.rf k4), rfl, hx1, ht2⟩)
set_option maxRecDepth 100000 in
set_option maxHeartbeats 4000000 in
theorem rv5_turnsAs_0 {ac : Nat} (x : Int32) {l : Launch} {G : xG} {M : xM} {J : xJ} {ra : Nat} (h_ra : ra + 2 ≤ 900) (e_ra : M 62 39 = nI ra) (e_k : M 62 40 = 5) (e_ac : M 62 41 = nI ac) : x_M l G fX10_turnsAs 2 0 0 [.ref (62), .int (0), .int (x)] x_SH M J (qKI WRA M J (fun r M2 => r = ((x + (nI (ac))) * 2) ∧ M2 62 39 = nI (ra + 2) ∧ TrA 82 ra [10, 1] M M2)) := by
  refine xb_of pX10 (Nat.le_of_ble_eq_true rfl) rfl ?_
  refine xr_iload_n dX10_turnsAs_0 1 rfl ?_
  refine xr_iconst (v := 3) dX10_turnsAs_1 rfl ?_
  refine xr_icmp_eq (tgt := 10) dX10_turnsAs_2 rfl (fun c => absurd c (by decide)) (fun _ => ?_)
  refine xr_iload_n dX10_turnsAs_5 1 rfl ?_
  refine xr_iconst (v := 5) dX10_turnsAs_6 rfl ?_
  refine xr_icmp_ne (tgt := 25) dX10_turnsAs_7 rfl (fun _ => ?_) (fun c => absurd c (by decide))
  refine xr_iload_n dX10_turnsAs_25 1 rfl ?_
  refine xr_iconst (v := 2) dX10_turnsAs_26 rfl ?_
  refine xr_icmp_ne (tgt := 44) dX10_turnsAs_27 rfl (fun _ => ?_) (fun c => absurd c (by decide))
  refine xr_iload_n dX10_turnsAs_44 1 rfl ?_
  refine xr_bipush (v := 7) dX10_turnsAs_45 rfl ?_
  refine xr_icmp_ne (tgt := 75) dX10_turnsAs_47 rfl (fun _ => ?_) (fun c => absurd c (by decide))
  refine xr_aload_n dX10_turnsAs_75 0 rfl ?_
  refine xr_bipush (v := 10) dX10_turnsAs_76 rfl ?_
  refine xr_callV (As := [.int (10)]) (rest := []) mlX10_340 (gt_X10_begins 10 (by omega) e_ra) dX10_turnsAs_78 s_62 rfl rfl (Nat.le_of_ble_eq_true rfl) (by decide) ⟨by decide, by decide⟩ (fun v s2 M3 J2 hq => ?_)
  obtain ⟨rfl, rfl, rfl, k4, ⟨hx1, ht2⟩⟩ := hq
  try dsimp only [Option.toList, List.cons_append, List.nil_append]
  refine xr_aload_n dX10_turnsAs_81 0 rfl ?_
  refine xr_aload_n dX10_turnsAs_82 0 rfl ?_
  refine xb_get (v := 5) flX10_352 dX10_turnsAs_83 s_62 rfl (Eq.trans (k4 62 40 (by decide)) e_k) ?_
  refine xr_iload_n dX10_turnsAs_86 2 rfl ?_
  refine xr_callV (As := [.int (5), .int (x)]) (rest := []) mlX10_343 (rv5_pushesAs_5 x (by omega) hx1 (Eq.trans (k4 62 40 (by decide)) e_k) (Eq.trans (k4 62 41 (by decide)) e_ac)) dX10_turnsAs_87 s_62 rfl rfl (Nat.le_of_ble_eq_true rfl) (by decide) ⟨by decide, by decide⟩ (fun v s2 M8 J2 hq => ?_)
  obtain ⟨r10, rfl, rfl, rfl, k9, ⟨hr6, hx5, ht7⟩⟩ := hq
  try dsimp only [Option.toList, List.cons_append, List.nil_append]
  subst hr6
  refine xr_iconst (v := 2) dX10_turnsAs_90 rfl ?_
  refine xr_imul dX10_turnsAs_91 ?_
  exact xr_iret dX10_turnsAs_92 rfl rfl (⟨_, rfl, rfl, rfl, (Ke.tr (fun _ _ h => h) (Ke.tr (fun _ _ h => h) Ke.rf k4) k9), rfl, hx5, (TrA_app (l := [10]) (m := [1]) ht2 ht7)⟩)
set_option maxRecDepth 100000 in
set_option maxHeartbeats 4000000 in
theorem rv5_turnsAs_2 {ac : Nat} (x : Int32) {l : Launch} {G : xG} {M : xM} {J : xJ} {ra : Nat} (h_ra : ra + 3 ≤ 900) (e_ra : M 62 39 = nI ra) (e_k : M 62 40 = 5) (e_ac : M 62 41 = nI ac) : x_M l G fX10_turnsAs 3 0 0 [.ref (62), .int (2), .int (x)] x_SH M J (qKI WRA M J (fun r M2 => r = (-((x + (nI (ac))) * 2)) ∧ M2 62 39 = nI (ra + 3) ∧ TrA 82 ra [30, 10, 1] M M2)) := by
  refine xb_of pX10 (Nat.le_of_ble_eq_true rfl) rfl ?_
  refine xr_iload_n dX10_turnsAs_0 1 rfl ?_
  refine xr_iconst (v := 3) dX10_turnsAs_1 rfl ?_
  refine xr_icmp_eq (tgt := 10) dX10_turnsAs_2 rfl (fun c => absurd c (by decide)) (fun _ => ?_)
  refine xr_iload_n dX10_turnsAs_5 1 rfl ?_
  refine xr_iconst (v := 5) dX10_turnsAs_6 rfl ?_
  refine xr_icmp_ne (tgt := 25) dX10_turnsAs_7 rfl (fun _ => ?_) (fun c => absurd c (by decide))
  refine xr_iload_n dX10_turnsAs_25 1 rfl ?_
  refine xr_iconst (v := 2) dX10_turnsAs_26 rfl ?_
  refine xr_icmp_ne (tgt := 44) dX10_turnsAs_27 rfl (fun c => absurd (by decide) c) (fun _ => ?_)
  refine xr_aload_n dX10_turnsAs_30 0 rfl ?_
  refine xr_bipush (v := 30) dX10_turnsAs_31 rfl ?_
  refine xr_callV (As := [.int (30)]) (rest := []) mlX10_340 (gt_X10_begins 30 (by omega) e_ra) dX10_turnsAs_33 s_62 rfl rfl (Nat.le_of_ble_eq_true rfl) (by decide) ⟨by decide, by decide⟩ (fun v s2 M3 J2 hq => ?_)
  obtain ⟨rfl, rfl, rfl, k4, ⟨hx1, ht2⟩⟩ := hq
  try dsimp only [Option.toList, List.cons_append, List.nil_append]
  refine xr_aload_n dX10_turnsAs_36 0 rfl ?_
  refine xr_iconst (v := 0) dX10_turnsAs_37 rfl ?_
  refine xr_iload_n dX10_turnsAs_38 2 rfl ?_
  refine xr_callV (As := [.int (0), .int (x)]) (rest := []) mlX10_349 (rv5_turnsAs_0 x (by omega) hx1 (Eq.trans (k4 62 40 (by decide)) e_k) (Eq.trans (k4 62 41 (by decide)) e_ac)) dX10_turnsAs_39 s_62 rfl rfl (Nat.le_of_ble_eq_true rfl) (by decide) ⟨by decide, by decide⟩ (fun v s2 M8 J2 hq => ?_)
  obtain ⟨r10, rfl, rfl, rfl, k9, ⟨hr6, hx5, ht7⟩⟩ := hq
  try dsimp only [Option.toList, List.cons_append, List.nil_append]
  subst hr6
  refine xr_ineg dX10_turnsAs_42 ?_
  exact xr_iret dX10_turnsAs_43 rfl rfl (⟨_, rfl, rfl, rfl, (Ke.tr (fun _ _ h => h) (Ke.tr (fun _ _ h => h) Ke.rf k4) k9), rfl, hx5, (TrA_app (l := [30]) (m := [10, 1]) ht2 ht7)⟩)
set_option maxRecDepth 100000 in
set_option maxHeartbeats 4000000 in
theorem rv5_turnsAs_5 {ac : Nat} (x : Int32) {l : Launch} {G : xG} {M : xM} {J : xJ} {ra : Nat} (h_ra : ra + 4 ≤ 900) (e_ra : M 62 39 = nI ra) (e_k : M 62 40 = 5) (e_ac : M 62 41 = nI ac) : x_M l G fX10_turnsAs 4 0 0 [.ref (62), .int (5), .int (x)] x_SH M J (qKI WRA M J (fun r M2 => r = (-(((x + 1) + (nI (ac))) * 2)) ∧ M2 62 39 = nI (ra + 4) ∧ TrA 82 ra [41, 30, 10, 1] M M2)) := by
  refine xb_of pX10 (Nat.le_of_ble_eq_true rfl) rfl ?_
  refine xr_iload_n dX10_turnsAs_0 1 rfl ?_
  refine xr_iconst (v := 3) dX10_turnsAs_1 rfl ?_
  refine xr_icmp_eq (tgt := 10) dX10_turnsAs_2 rfl (fun c => absurd c (by decide)) (fun _ => ?_)
  refine xr_iload_n dX10_turnsAs_5 1 rfl ?_
  refine xr_iconst (v := 5) dX10_turnsAs_6 rfl ?_
  refine xr_icmp_ne (tgt := 25) dX10_turnsAs_7 rfl (fun c => absurd (by decide) c) (fun _ => ?_)
  refine xr_aload_n dX10_turnsAs_10 0 rfl ?_
  refine xr_bipush (v := 41) dX10_turnsAs_11 rfl ?_
  refine xr_callV (As := [.int (41)]) (rest := []) mlX10_340 (gt_X10_begins 41 (by omega) e_ra) dX10_turnsAs_13 s_62 rfl rfl (Nat.le_of_ble_eq_true rfl) (by decide) ⟨by decide, by decide⟩ (fun v s2 M3 J2 hq => ?_)
  obtain ⟨rfl, rfl, rfl, k4, ⟨hx1, ht2⟩⟩ := hq
  try dsimp only [Option.toList, List.cons_append, List.nil_append]
  refine xr_aload_n dX10_turnsAs_16 0 rfl ?_
  refine xr_iconst (v := 2) dX10_turnsAs_17 rfl ?_
  refine xr_iload_n dX10_turnsAs_18 2 rfl ?_
  refine xr_iconst (v := 1) dX10_turnsAs_19 rfl ?_
  refine xr_iadd dX10_turnsAs_20 ?_
  refine xr_callV (As := [.int (2), .int ((x + 1))]) (rest := []) mlX10_349 (rv5_turnsAs_2 (x + 1) (by omega) hx1 (Eq.trans (k4 62 40 (by decide)) e_k) (Eq.trans (k4 62 41 (by decide)) e_ac)) dX10_turnsAs_21 s_62 rfl rfl (Nat.le_of_ble_eq_true rfl) (by decide) ⟨by decide, by decide⟩ (fun v s2 M8 J2 hq => ?_)
  obtain ⟨r10, rfl, rfl, rfl, k9, ⟨hr6, hx5, ht7⟩⟩ := hq
  try dsimp only [Option.toList, List.cons_append, List.nil_append]
  subst hr6
  exact xr_iret dX10_turnsAs_24 rfl rfl (⟨_, rfl, rfl, rfl, (Ke.tr (fun _ _ h => h) (Ke.tr (fun _ _ h => h) Ke.rf k4) k9), rfl, hx5, (TrA_app (l := [41]) (m := [30, 10, 1]) ht2 ht7)⟩)
set_option maxRecDepth 100000 in
set_option maxHeartbeats 4000000 in
theorem rv5_sinksAs_2 {ac : Nat} (x : Int32) {l : Launch} {G : xG} {M : xM} {J : xJ} {ra : Nat} (h_ra : ra + 1 ≤ 900) (e_ra : M 62 39 = nI ra) (e_k : M 62 40 = 5) (e_ac : M 62 41 = nI ac) : x_M l G fX10_sinksAs 1 0 0 [.ref (62), .int (2), .int (x)] x_SH M J (qKI WRA M J (fun r M2 => r = (x ^^^ (nI (ac))) ∧ M2 62 39 = nI (ra + 1) ∧ TrA 82 ra [11] M M2)) := by
  refine xb_of pX10 (Nat.le_of_ble_eq_true rfl) rfl ?_
  refine xr_iload_n dX10_sinksAs_0 1 rfl ?_
  refine xr_iconst (v := 3) dX10_sinksAs_1 rfl ?_
  refine xr_icmp_eq (tgt := 10) dX10_sinksAs_2 rfl (fun c => absurd c (by decide)) (fun _ => ?_)
  refine xr_iload_n dX10_sinksAs_5 1 rfl ?_
  refine xr_iconst (v := 5) dX10_sinksAs_6 rfl ?_
  refine xr_icmp_ne (tgt := 25) dX10_sinksAs_7 rfl (fun _ => ?_) (fun c => absurd c (by decide))
  refine xr_iload_n dX10_sinksAs_25 1 rfl ?_
  refine xr_iconst (v := 4) dX10_sinksAs_26 rfl ?_
  refine xr_icmp_eq (tgt := 36) dX10_sinksAs_27 rfl (fun c => absurd c (by decide)) (fun _ => ?_)
  refine xr_iload_n dX10_sinksAs_30 1 rfl ?_
  refine xr_bipush (v := 7) dX10_sinksAs_31 rfl ?_
  refine xr_icmp_ne (tgt := 61) dX10_sinksAs_33 rfl (fun _ => ?_) (fun c => absurd c (by decide))
  refine xr_aload_n dX10_sinksAs_61 0 rfl ?_
  refine xr_bipush (v := 11) dX10_sinksAs_62 rfl ?_
  refine xr_callV (As := [.int (11)]) (rest := []) mlX10_340 (gt_X10_begins 11 (by omega) e_ra) dX10_sinksAs_64 s_62 rfl rfl (Nat.le_of_ble_eq_true rfl) (by decide) ⟨by decide, by decide⟩ (fun v s2 M3 J2 hq => ?_)
  obtain ⟨rfl, rfl, rfl, k4, ⟨hx1, ht2⟩⟩ := hq
  try dsimp only [Option.toList, List.cons_append, List.nil_append]
  refine xr_iload_n dX10_sinksAs_67 2 rfl ?_
  refine xr_aload_n dX10_sinksAs_68 0 rfl ?_
  refine xb_get (v := nI (ac)) flX10_346 dX10_sinksAs_69 s_62 rfl (Eq.trans (k4 62 41 (by decide)) e_ac) ?_
  refine xr_ixor dX10_sinksAs_72 ?_
  exact xr_iret dX10_sinksAs_73 rfl rfl (⟨_, rfl, rfl, rfl, (Ke.tr (fun _ _ h => h) Ke.rf k4), rfl, hx1, ht2⟩)
set_option maxRecDepth 100000 in
set_option maxHeartbeats 4000000 in
theorem rv5_sinksAs_5 {ac : Nat} (x : Int32) {l : Launch} {G : xG} {M : xM} {J : xJ} {ra : Nat} (h_ra : ra + 2 ≤ 900) (e_ra : M 62 39 = nI ra) (e_k : M 62 40 = 5) (e_ac : M 62 41 = nI ac) : x_M l G fX10_sinksAs 2 0 0 [.ref (62), .int (5), .int (x)] x_SH M J (qKI WRA M J (fun r M2 => r = ((x ^^^ (nI (ac))) * 3) ∧ M2 62 39 = nI (ra + 2) ∧ TrA 82 ra [40, 11] M M2)) := by
  refine xb_of pX10 (Nat.le_of_ble_eq_true rfl) rfl ?_
  refine xr_iload_n dX10_sinksAs_0 1 rfl ?_
  refine xr_iconst (v := 3) dX10_sinksAs_1 rfl ?_
  refine xr_icmp_eq (tgt := 10) dX10_sinksAs_2 rfl (fun c => absurd c (by decide)) (fun _ => ?_)
  refine xr_iload_n dX10_sinksAs_5 1 rfl ?_
  refine xr_iconst (v := 5) dX10_sinksAs_6 rfl ?_
  refine xr_icmp_ne (tgt := 25) dX10_sinksAs_7 rfl (fun c => absurd (by decide) c) (fun _ => ?_)
  refine xr_aload_n dX10_sinksAs_10 0 rfl ?_
  refine xr_bipush (v := 40) dX10_sinksAs_11 rfl ?_
  refine xr_callV (As := [.int (40)]) (rest := []) mlX10_340 (gt_X10_begins 40 (by omega) e_ra) dX10_sinksAs_13 s_62 rfl rfl (Nat.le_of_ble_eq_true rfl) (by decide) ⟨by decide, by decide⟩ (fun v s2 M3 J2 hq => ?_)
  obtain ⟨rfl, rfl, rfl, k4, ⟨hx1, ht2⟩⟩ := hq
  try dsimp only [Option.toList, List.cons_append, List.nil_append]
  refine xr_aload_n dX10_sinksAs_16 0 rfl ?_
  refine xr_iconst (v := 2) dX10_sinksAs_17 rfl ?_
  refine xr_iload_n dX10_sinksAs_18 2 rfl ?_
  refine xr_callV (As := [.int (2), .int (x)]) (rest := []) mlX10_355 (rv5_sinksAs_2 x (by omega) hx1 (Eq.trans (k4 62 40 (by decide)) e_k) (Eq.trans (k4 62 41 (by decide)) e_ac)) dX10_sinksAs_19 s_62 rfl rfl (Nat.le_of_ble_eq_true rfl) (by decide) ⟨by decide, by decide⟩ (fun v s2 M8 J2 hq => ?_)
  obtain ⟨r10, rfl, rfl, rfl, k9, ⟨hr6, hx5, ht7⟩⟩ := hq
  try dsimp only [Option.toList, List.cons_append, List.nil_append]
  subst hr6
  refine xr_iconst (v := 3) dX10_sinksAs_22 rfl ?_
  refine xr_imul dX10_sinksAs_23 ?_
  exact xr_iret dX10_sinksAs_24 rfl rfl (⟨_, rfl, rfl, rfl, (Ke.tr (fun _ _ h => h) (Ke.tr (fun _ _ h => h) Ke.rf k4) k9), rfl, hx5, (TrA_app (l := [40]) (m := [11]) ht2 ht7)⟩)
set_option maxRecDepth 100000 in
set_option maxHeartbeats 4000000 in
theorem rv5_tellsAs_3 {ac : Nat} (x : Int32) {l : Launch} {G : xG} {M : xM} {J : xJ} {ra : Nat} (h_ra : ra + 7 ≤ 900) (e_ra : M 62 39 = nI ra) (e_k : M 62 40 = 5) (e_ac : M 62 41 = nI ac) : x_M l G fX10_tellsAs 5 0 0 [.ref (62), .int (3), .int (x)] x_SH M J (qKI WRA M J (fun r M2 => r = ((-(((x + 1) + (nI (ac))) * 2)) - ((1 ^^^ (nI (ac))) * 3)) ∧ M2 62 39 = nI (ra + 7) ∧ TrA 82 ra [2, 41, 30, 10, 1, 40, 11] M M2)) := by
  refine xb_of pX10 (Nat.le_of_ble_eq_true rfl) rfl ?_
  refine xr_iload_n dX10_tellsAs_0 1 rfl ?_
  refine xr_iconst (v := 5) dX10_tellsAs_1 rfl ?_
  refine xr_icmp_ne (tgt := 20) dX10_tellsAs_2 rfl (fun _ => ?_) (fun c => absurd c (by decide))
  refine xr_iload_n dX10_tellsAs_20 1 rfl ?_
  refine xr_bipush (v := 7) dX10_tellsAs_21 rfl ?_
  refine xr_icmp_ne (tgt := 41) dX10_tellsAs_23 rfl (fun _ => ?_) (fun c => absurd c (by decide))
  refine xr_aload_n dX10_tellsAs_41 0 rfl ?_
  refine xr_iconst (v := 2) dX10_tellsAs_42 rfl ?_
  refine xr_callV (As := [.int (2)]) (rest := []) mlX10_340 (gt_X10_begins 2 (by omega) e_ra) dX10_tellsAs_43 s_62 rfl rfl (Nat.le_of_ble_eq_true rfl) (by decide) ⟨by decide, by decide⟩ (fun v s2 M3 J2 hq => ?_)
  obtain ⟨rfl, rfl, rfl, k4, ⟨hx1, ht2⟩⟩ := hq
  try dsimp only [Option.toList, List.cons_append, List.nil_append]
  refine xr_aload_n dX10_tellsAs_46 0 rfl ?_
  refine xr_aload_n dX10_tellsAs_47 0 rfl ?_
  refine xb_get (v := 5) flX10_352 dX10_tellsAs_48 s_62 rfl (Eq.trans (k4 62 40 (by decide)) e_k) ?_
  refine xr_iload_n dX10_tellsAs_51 2 rfl ?_
  refine xr_callV (As := [.int (5), .int (x)]) (rest := []) mlX10_349 (rv5_turnsAs_5 x (by omega) hx1 (Eq.trans (k4 62 40 (by decide)) e_k) (Eq.trans (k4 62 41 (by decide)) e_ac)) dX10_tellsAs_52 s_62 rfl rfl (Nat.le_of_ble_eq_true rfl) (by decide) ⟨by decide, by decide⟩ (fun v s2 M8 J2 hq => ?_)
  obtain ⟨r10, rfl, rfl, rfl, k9, ⟨hr6, hx5, ht7⟩⟩ := hq
  try dsimp only [Option.toList, List.cons_append, List.nil_append]
  subst hr6
  refine xr_istore_n (ls2 := [(3, .int ((-(((x + 1) + (nI (ac))) * 2)))), (0, .ref (62)), (1, .int (3)), (2, .int (x))]) dX10_tellsAs_55 (by decide) rfl ?_
  refine xr_iload_n dX10_tellsAs_56 0 rfl ?_
  refine xr_aload_n dX10_tellsAs_57 1 rfl ?_
  refine xr_aload_n dX10_tellsAs_58 1 rfl ?_
  refine xb_get (v := 5) flX10_352 dX10_tellsAs_59 s_62 rfl (Eq.trans (k9 62 40 (by decide)) (Eq.trans (k4 62 40 (by decide)) e_k)) ?_
  refine xr_iconst (v := 1) dX10_tellsAs_62 rfl ?_
  refine xr_callV (As := [.int (5), .int (1)]) (rest := [.int ((-(((x + 1) + (nI (ac))) * 2)))]) mlX10_355 (rv5_sinksAs_5 1 (by omega) hx5 (Eq.trans (k9 62 40 (by decide)) (Eq.trans (k4 62 40 (by decide)) e_k)) (Eq.trans (k9 62 41 (by decide)) (Eq.trans (k4 62 41 (by decide)) e_ac))) dX10_tellsAs_63 s_62 rfl rfl (Nat.le_of_ble_eq_true rfl) (by decide) ⟨by decide, by decide⟩ (fun v s2 M14 J2 hq => ?_)
  obtain ⟨r16, rfl, rfl, rfl, k15, ⟨hr12, hx11, ht13⟩⟩ := hq
  try dsimp only [Option.toList, List.cons_append, List.nil_append]
  subst hr12
  refine xr_isub dX10_tellsAs_66 ?_
  exact xr_iret dX10_tellsAs_67 rfl rfl (⟨_, rfl, rfl, rfl, (Ke.tr (fun _ _ h => h) (Ke.tr (fun _ _ h => h) (Ke.tr (fun _ _ h => h) Ke.rf k4) k9) k15), rfl, hx11, (TrA_app (l := [2, 41, 30, 10, 1]) (m := [40, 11]) (TrA_app (l := [2]) (m := [41, 30, 10, 1]) ht2 ht7) ht13)⟩)
set_option maxRecDepth 100000 in
set_option maxHeartbeats 4000000 in
theorem rv5_tellsAs_5 {ac : Nat} (x : Int32) {l : Launch} {G : xG} {M : xM} {J : xJ} {ra : Nat} (h_ra : ra + 8 ≤ 900) (e_ra : M 62 39 = nI ra) (e_k : M 62 40 = 5) (e_ac : M 62 41 = nI ac) : x_M l G fX10_tellsAs 6 0 0 [.ref (62), .int (5), .int (x)] x_SH M J (qKI WRA M J (fun r M2 => r = (((-(((x + 1) + (nI (ac))) * 2)) - ((1 ^^^ (nI (ac))) * 3)) ^^^ 5) ∧ M2 62 39 = nI (ra + 8) ∧ TrA 82 ra [60, 2, 41, 30, 10, 1, 40, 11] M M2)) := by
  refine xb_of pX10 (Nat.le_of_ble_eq_true rfl) rfl ?_
  refine xr_iload_n dX10_tellsAs_0 1 rfl ?_
  refine xr_iconst (v := 5) dX10_tellsAs_1 rfl ?_
  refine xr_icmp_ne (tgt := 20) dX10_tellsAs_2 rfl (fun c => absurd (by decide) c) (fun _ => ?_)
  refine xr_aload_n dX10_tellsAs_5 0 rfl ?_
  refine xr_bipush (v := 60) dX10_tellsAs_6 rfl ?_
  refine xr_callV (As := [.int (60)]) (rest := []) mlX10_340 (gt_X10_begins 60 (by omega) e_ra) dX10_tellsAs_8 s_62 rfl rfl (Nat.le_of_ble_eq_true rfl) (by decide) ⟨by decide, by decide⟩ (fun v s2 M3 J2 hq => ?_)
  obtain ⟨rfl, rfl, rfl, k4, ⟨hx1, ht2⟩⟩ := hq
  try dsimp only [Option.toList, List.cons_append, List.nil_append]
  refine xr_aload_n dX10_tellsAs_11 0 rfl ?_
  refine xr_iconst (v := 3) dX10_tellsAs_12 rfl ?_
  refine xr_iload_n dX10_tellsAs_13 2 rfl ?_
  refine xr_callV (As := [.int (3), .int (x)]) (rest := []) mlX10_358 (rv5_tellsAs_3 x (by omega) hx1 (Eq.trans (k4 62 40 (by decide)) e_k) (Eq.trans (k4 62 41 (by decide)) e_ac)) dX10_tellsAs_14 s_62 rfl rfl (Nat.le_of_ble_eq_true rfl) (by decide) ⟨by decide, by decide⟩ (fun v s2 M8 J2 hq => ?_)
  obtain ⟨r10, rfl, rfl, rfl, k9, ⟨hr6, hx5, ht7⟩⟩ := hq
  try dsimp only [Option.toList, List.cons_append, List.nil_append]
  subst hr6
  refine xr_iconst (v := 5) dX10_tellsAs_17 rfl ?_
  refine xr_ixor dX10_tellsAs_18 ?_
  exact xr_iret dX10_tellsAs_19 rfl rfl (⟨_, rfl, rfl, rfl, (Ke.tr (fun _ _ h => h) (Ke.tr (fun _ _ h => h) Ke.rf k4) k9), rfl, hx5, (TrA_app (l := [60]) (m := [2, 41, 30, 10, 1, 40, 11]) ht2 ht7)⟩)
set_option maxRecDepth 100000 in
set_option maxHeartbeats 4000000 in
theorem rv6_pushesAs_0 {ac : Nat} (x : Int32) {l : Launch} {G : xG} {M : xM} {J : xJ} {ra : Nat} (h_ra : ra + 1 ≤ 900) (e_ra : M 62 39 = nI ra) (e_k : M 62 40 = 6) (e_ac : M 62 41 = nI ac) : x_M l G fX10_pushesAs 1 0 0 [.ref (62), .int (0), .int (x)] x_SH M J (qKI WRA M J (fun r M2 => r = (x + (nI (ac))) ∧ M2 62 39 = nI (ra + 1) ∧ TrA 82 ra [1] M M2)) := by
  refine xb_of pX10 (Nat.le_of_ble_eq_true rfl) rfl ?_
  refine xr_iload_n dX10_pushesAs_0 1 rfl ?_
  refine xr_iconst (v := 1) dX10_pushesAs_1 rfl ?_
  refine xr_icmp_eq (tgt := 16) dX10_pushesAs_2 rfl (fun c => absurd c (by decide)) (fun _ => ?_)
  refine xr_iload_n dX10_pushesAs_5 1 rfl ?_
  refine xr_iconst (v := 4) dX10_pushesAs_6 rfl ?_
  refine xr_icmp_eq (tgt := 16) dX10_pushesAs_7 rfl (fun c => absurd c (by decide)) (fun _ => ?_)
  refine xr_iload_n dX10_pushesAs_10 1 rfl ?_
  refine xr_bipush (v := 7) dX10_pushesAs_11 rfl ?_
  refine xr_icmp_ne (tgt := 31) dX10_pushesAs_13 rfl (fun _ => ?_) (fun c => absurd c (by decide))
  refine xr_iload_n dX10_pushesAs_31 1 rfl ?_
  refine xr_bipush (v := 6) dX10_pushesAs_32 rfl ?_
  refine xr_icmp_ne (tgt := 52) dX10_pushesAs_34 rfl (fun _ => ?_) (fun c => absurd c (by decide))
  refine xr_aload_n dX10_pushesAs_52 0 rfl ?_
  refine xr_iconst (v := 1) dX10_pushesAs_53 rfl ?_
  refine xr_callV (As := [.int (1)]) (rest := []) mlX10_340 (gt_X10_begins 1 (by omega) e_ra) dX10_pushesAs_54 s_62 rfl rfl (Nat.le_of_ble_eq_true rfl) (by decide) ⟨by decide, by decide⟩ (fun v s2 M3 J2 hq => ?_)
  obtain ⟨rfl, rfl, rfl, k4, ⟨hx1, ht2⟩⟩ := hq
  try dsimp only [Option.toList, List.cons_append, List.nil_append]
  refine xr_iload_n dX10_pushesAs_57 2 rfl ?_
  refine xr_aload_n dX10_pushesAs_58 0 rfl ?_
  refine xb_get (v := nI (ac)) flX10_346 dX10_pushesAs_59 s_62 rfl (Eq.trans (k4 62 41 (by decide)) e_ac) ?_
  refine xr_iadd dX10_pushesAs_62 ?_
  exact xr_iret dX10_pushesAs_63 rfl rfl (⟨_, rfl, rfl, rfl, (Ke.tr (fun _ _ h => h) Ke.rf k4), rfl, hx1, ht2⟩)
set_option maxRecDepth 100000 in
set_option maxHeartbeats 4000000 in
theorem rv6_pushesAs_6 {ac : Nat} (x : Int32) {l : Launch} {G : xG} {M : xM} {J : xJ} {ra : Nat} (h_ra : ra + 2 ≤ 900) (e_ra : M 62 39 = nI ra) (e_k : M 62 40 = 6) (e_ac : M 62 41 = nI ac) : x_M l G fX10_pushesAs 2 0 0 [.ref (62), .int (6), .int (x)] x_SH M J (qKI WRA M J (fun r M2 => r = ((x + (nI (ac))) * 2) ∧ M2 62 39 = nI (ra + 2) ∧ TrA 82 ra [70, 1] M M2)) := by
  refine xb_of pX10 (Nat.le_of_ble_eq_true rfl) rfl ?_
  refine xr_iload_n dX10_pushesAs_0 1 rfl ?_
  refine xr_iconst (v := 1) dX10_pushesAs_1 rfl ?_
  refine xr_icmp_eq (tgt := 16) dX10_pushesAs_2 rfl (fun c => absurd c (by decide)) (fun _ => ?_)
  refine xr_iload_n dX10_pushesAs_5 1 rfl ?_
  refine xr_iconst (v := 4) dX10_pushesAs_6 rfl ?_
  refine xr_icmp_eq (tgt := 16) dX10_pushesAs_7 rfl (fun c => absurd c (by decide)) (fun _ => ?_)
  refine xr_iload_n dX10_pushesAs_10 1 rfl ?_
  refine xr_bipush (v := 7) dX10_pushesAs_11 rfl ?_
  refine xr_icmp_ne (tgt := 31) dX10_pushesAs_13 rfl (fun _ => ?_) (fun c => absurd c (by decide))
  refine xr_iload_n dX10_pushesAs_31 1 rfl ?_
  refine xr_bipush (v := 6) dX10_pushesAs_32 rfl ?_
  refine xr_icmp_ne (tgt := 52) dX10_pushesAs_34 rfl (fun c => absurd (by decide) c) (fun _ => ?_)
  refine xr_aload_n dX10_pushesAs_37 0 rfl ?_
  refine xr_bipush (v := 70) dX10_pushesAs_38 rfl ?_
  refine xr_callV (As := [.int (70)]) (rest := []) mlX10_340 (gt_X10_begins 70 (by omega) e_ra) dX10_pushesAs_40 s_62 rfl rfl (Nat.le_of_ble_eq_true rfl) (by decide) ⟨by decide, by decide⟩ (fun v s2 M3 J2 hq => ?_)
  obtain ⟨rfl, rfl, rfl, k4, ⟨hx1, ht2⟩⟩ := hq
  try dsimp only [Option.toList, List.cons_append, List.nil_append]
  refine xr_aload_n dX10_pushesAs_43 0 rfl ?_
  refine xr_iconst (v := 0) dX10_pushesAs_44 rfl ?_
  refine xr_iload_n dX10_pushesAs_45 2 rfl ?_
  refine xr_callV (As := [.int (0), .int (x)]) (rest := []) mlX10_343 (rv6_pushesAs_0 x (by omega) hx1 (Eq.trans (k4 62 40 (by decide)) e_k) (Eq.trans (k4 62 41 (by decide)) e_ac)) dX10_pushesAs_46 s_62 rfl rfl (Nat.le_of_ble_eq_true rfl) (by decide) ⟨by decide, by decide⟩ (fun v s2 M8 J2 hq => ?_)
  obtain ⟨r10, rfl, rfl, rfl, k9, ⟨hr6, hx5, ht7⟩⟩ := hq
  try dsimp only [Option.toList, List.cons_append, List.nil_append]
  subst hr6
  refine xr_iconst (v := 2) dX10_pushesAs_49 rfl ?_
  refine xr_imul dX10_pushesAs_50 ?_
  exact xr_iret dX10_pushesAs_51 rfl rfl (⟨_, rfl, rfl, rfl, (Ke.tr (fun _ _ h => h) (Ke.tr (fun _ _ h => h) Ke.rf k4) k9), rfl, hx5, (TrA_app (l := [70]) (m := [1]) ht2 ht7)⟩)
set_option maxRecDepth 100000 in
set_option maxHeartbeats 4000000 in
theorem rv6_turnsAs_6 {ac : Nat} (x : Int32) {l : Launch} {G : xG} {M : xM} {J : xJ} {ra : Nat} (h_ra : ra + 3 ≤ 900) (e_ra : M 62 39 = nI ra) (e_k : M 62 40 = 6) (e_ac : M 62 41 = nI ac) : x_M l G fX10_turnsAs 3 0 0 [.ref (62), .int (6), .int (x)] x_SH M J (qKI WRA M J (fun r M2 => r = (((x + (nI (ac))) * 2) * 2) ∧ M2 62 39 = nI (ra + 3) ∧ TrA 82 ra [10, 70, 1] M M2)) := by
  refine xb_of pX10 (Nat.le_of_ble_eq_true rfl) rfl ?_
  refine xr_iload_n dX10_turnsAs_0 1 rfl ?_
  refine xr_iconst (v := 3) dX10_turnsAs_1 rfl ?_
  refine xr_icmp_eq (tgt := 10) dX10_turnsAs_2 rfl (fun c => absurd c (by decide)) (fun _ => ?_)
  refine xr_iload_n dX10_turnsAs_5 1 rfl ?_
  refine xr_iconst (v := 5) dX10_turnsAs_6 rfl ?_
  refine xr_icmp_ne (tgt := 25) dX10_turnsAs_7 rfl (fun _ => ?_) (fun c => absurd c (by decide))
  refine xr_iload_n dX10_turnsAs_25 1 rfl ?_
  refine xr_iconst (v := 2) dX10_turnsAs_26 rfl ?_
  refine xr_icmp_ne (tgt := 44) dX10_turnsAs_27 rfl (fun _ => ?_) (fun c => absurd c (by decide))
  refine xr_iload_n dX10_turnsAs_44 1 rfl ?_
  refine xr_bipush (v := 7) dX10_turnsAs_45 rfl ?_
  refine xr_icmp_ne (tgt := 75) dX10_turnsAs_47 rfl (fun _ => ?_) (fun c => absurd c (by decide))
  refine xr_aload_n dX10_turnsAs_75 0 rfl ?_
  refine xr_bipush (v := 10) dX10_turnsAs_76 rfl ?_
  refine xr_callV (As := [.int (10)]) (rest := []) mlX10_340 (gt_X10_begins 10 (by omega) e_ra) dX10_turnsAs_78 s_62 rfl rfl (Nat.le_of_ble_eq_true rfl) (by decide) ⟨by decide, by decide⟩ (fun v s2 M3 J2 hq => ?_)
  obtain ⟨rfl, rfl, rfl, k4, ⟨hx1, ht2⟩⟩ := hq
  try dsimp only [Option.toList, List.cons_append, List.nil_append]
  refine xr_aload_n dX10_turnsAs_81 0 rfl ?_
  refine xr_aload_n dX10_turnsAs_82 0 rfl ?_
  refine xb_get (v := 6) flX10_352 dX10_turnsAs_83 s_62 rfl (Eq.trans (k4 62 40 (by decide)) e_k) ?_
  refine xr_iload_n dX10_turnsAs_86 2 rfl ?_
  refine xr_callV (As := [.int (6), .int (x)]) (rest := []) mlX10_343 (rv6_pushesAs_6 x (by omega) hx1 (Eq.trans (k4 62 40 (by decide)) e_k) (Eq.trans (k4 62 41 (by decide)) e_ac)) dX10_turnsAs_87 s_62 rfl rfl (Nat.le_of_ble_eq_true rfl) (by decide) ⟨by decide, by decide⟩ (fun v s2 M8 J2 hq => ?_)
  obtain ⟨r10, rfl, rfl, rfl, k9, ⟨hr6, hx5, ht7⟩⟩ := hq
  try dsimp only [Option.toList, List.cons_append, List.nil_append]
  subst hr6
  refine xr_iconst (v := 2) dX10_turnsAs_90 rfl ?_
  refine xr_imul dX10_turnsAs_91 ?_
  exact xr_iret dX10_turnsAs_92 rfl rfl (⟨_, rfl, rfl, rfl, (Ke.tr (fun _ _ h => h) (Ke.tr (fun _ _ h => h) Ke.rf k4) k9), rfl, hx5, (TrA_app (l := [10]) (m := [70, 1]) ht2 ht7)⟩)
set_option maxRecDepth 100000 in
set_option maxHeartbeats 4000000 in
theorem rv6_sinksAs_6 {ac : Nat} (x : Int32) {l : Launch} {G : xG} {M : xM} {J : xJ} {ra : Nat} (h_ra : ra + 1 ≤ 900) (e_ra : M 62 39 = nI ra) (e_k : M 62 40 = 6) (e_ac : M 62 41 = nI ac) : x_M l G fX10_sinksAs 1 0 0 [.ref (62), .int (6), .int (x)] x_SH M J (qKI WRA M J (fun r M2 => r = (x ^^^ (nI (ac))) ∧ M2 62 39 = nI (ra + 1) ∧ TrA 82 ra [11] M M2)) := by
  refine xb_of pX10 (Nat.le_of_ble_eq_true rfl) rfl ?_
  refine xr_iload_n dX10_sinksAs_0 1 rfl ?_
  refine xr_iconst (v := 3) dX10_sinksAs_1 rfl ?_
  refine xr_icmp_eq (tgt := 10) dX10_sinksAs_2 rfl (fun c => absurd c (by decide)) (fun _ => ?_)
  refine xr_iload_n dX10_sinksAs_5 1 rfl ?_
  refine xr_iconst (v := 5) dX10_sinksAs_6 rfl ?_
  refine xr_icmp_ne (tgt := 25) dX10_sinksAs_7 rfl (fun _ => ?_) (fun c => absurd c (by decide))
  refine xr_iload_n dX10_sinksAs_25 1 rfl ?_
  refine xr_iconst (v := 4) dX10_sinksAs_26 rfl ?_
  refine xr_icmp_eq (tgt := 36) dX10_sinksAs_27 rfl (fun c => absurd c (by decide)) (fun _ => ?_)
  refine xr_iload_n dX10_sinksAs_30 1 rfl ?_
  refine xr_bipush (v := 7) dX10_sinksAs_31 rfl ?_
  refine xr_icmp_ne (tgt := 61) dX10_sinksAs_33 rfl (fun _ => ?_) (fun c => absurd c (by decide))
  refine xr_aload_n dX10_sinksAs_61 0 rfl ?_
  refine xr_bipush (v := 11) dX10_sinksAs_62 rfl ?_
  refine xr_callV (As := [.int (11)]) (rest := []) mlX10_340 (gt_X10_begins 11 (by omega) e_ra) dX10_sinksAs_64 s_62 rfl rfl (Nat.le_of_ble_eq_true rfl) (by decide) ⟨by decide, by decide⟩ (fun v s2 M3 J2 hq => ?_)
  obtain ⟨rfl, rfl, rfl, k4, ⟨hx1, ht2⟩⟩ := hq
  try dsimp only [Option.toList, List.cons_append, List.nil_append]
  refine xr_iload_n dX10_sinksAs_67 2 rfl ?_
  refine xr_aload_n dX10_sinksAs_68 0 rfl ?_
  refine xb_get (v := nI (ac)) flX10_346 dX10_sinksAs_69 s_62 rfl (Eq.trans (k4 62 41 (by decide)) e_ac) ?_
  refine xr_ixor dX10_sinksAs_72 ?_
  exact xr_iret dX10_sinksAs_73 rfl rfl (⟨_, rfl, rfl, rfl, (Ke.tr (fun _ _ h => h) Ke.rf k4), rfl, hx1, ht2⟩)
set_option maxRecDepth 100000 in
set_option maxHeartbeats 4000000 in
theorem rv6_tellsAs_6 {ac : Nat} (x : Int32) {l : Launch} {G : xG} {M : xM} {J : xJ} {ra : Nat} (h_ra : ra + 5 ≤ 900) (e_ra : M 62 39 = nI ra) (e_k : M 62 40 = 6) (e_ac : M 62 41 = nI ac) : x_M l G fX10_tellsAs 4 0 0 [.ref (62), .int (6), .int (x)] x_SH M J (qKI WRA M J (fun r M2 => r = ((((x + (nI (ac))) * 2) * 2) - (1 ^^^ (nI (ac)))) ∧ M2 62 39 = nI (ra + 5) ∧ TrA 82 ra [2, 10, 70, 1, 11] M M2)) := by
  refine xb_of pX10 (Nat.le_of_ble_eq_true rfl) rfl ?_
  refine xr_iload_n dX10_tellsAs_0 1 rfl ?_
  refine xr_iconst (v := 5) dX10_tellsAs_1 rfl ?_
  refine xr_icmp_ne (tgt := 20) dX10_tellsAs_2 rfl (fun _ => ?_) (fun c => absurd c (by decide))
  refine xr_iload_n dX10_tellsAs_20 1 rfl ?_
  refine xr_bipush (v := 7) dX10_tellsAs_21 rfl ?_
  refine xr_icmp_ne (tgt := 41) dX10_tellsAs_23 rfl (fun _ => ?_) (fun c => absurd c (by decide))
  refine xr_aload_n dX10_tellsAs_41 0 rfl ?_
  refine xr_iconst (v := 2) dX10_tellsAs_42 rfl ?_
  refine xr_callV (As := [.int (2)]) (rest := []) mlX10_340 (gt_X10_begins 2 (by omega) e_ra) dX10_tellsAs_43 s_62 rfl rfl (Nat.le_of_ble_eq_true rfl) (by decide) ⟨by decide, by decide⟩ (fun v s2 M3 J2 hq => ?_)
  obtain ⟨rfl, rfl, rfl, k4, ⟨hx1, ht2⟩⟩ := hq
  try dsimp only [Option.toList, List.cons_append, List.nil_append]
  refine xr_aload_n dX10_tellsAs_46 0 rfl ?_
  refine xr_aload_n dX10_tellsAs_47 0 rfl ?_
  refine xb_get (v := 6) flX10_352 dX10_tellsAs_48 s_62 rfl (Eq.trans (k4 62 40 (by decide)) e_k) ?_
  refine xr_iload_n dX10_tellsAs_51 2 rfl ?_
  refine xr_callV (As := [.int (6), .int (x)]) (rest := []) mlX10_349 (rv6_turnsAs_6 x (by omega) hx1 (Eq.trans (k4 62 40 (by decide)) e_k) (Eq.trans (k4 62 41 (by decide)) e_ac)) dX10_tellsAs_52 s_62 rfl rfl (Nat.le_of_ble_eq_true rfl) (by decide) ⟨by decide, by decide⟩ (fun v s2 M8 J2 hq => ?_)
  obtain ⟨r10, rfl, rfl, rfl, k9, ⟨hr6, hx5, ht7⟩⟩ := hq
  try dsimp only [Option.toList, List.cons_append, List.nil_append]
  subst hr6
  refine xr_istore_n (ls2 := [(3, .int ((((x + (nI (ac))) * 2) * 2))), (0, .ref (62)), (1, .int (6)), (2, .int (x))]) dX10_tellsAs_55 (by decide) rfl ?_
  refine xr_iload_n dX10_tellsAs_56 0 rfl ?_
  refine xr_aload_n dX10_tellsAs_57 1 rfl ?_
  refine xr_aload_n dX10_tellsAs_58 1 rfl ?_
  refine xb_get (v := 6) flX10_352 dX10_tellsAs_59 s_62 rfl (Eq.trans (k9 62 40 (by decide)) (Eq.trans (k4 62 40 (by decide)) e_k)) ?_
  refine xr_iconst (v := 1) dX10_tellsAs_62 rfl ?_
  refine xr_callV (As := [.int (6), .int (1)]) (rest := [.int ((((x + (nI (ac))) * 2) * 2))]) mlX10_355 (rv6_sinksAs_6 1 (by omega) hx5 (Eq.trans (k9 62 40 (by decide)) (Eq.trans (k4 62 40 (by decide)) e_k)) (Eq.trans (k9 62 41 (by decide)) (Eq.trans (k4 62 41 (by decide)) e_ac))) dX10_tellsAs_63 s_62 rfl rfl (Nat.le_of_ble_eq_true rfl) (by decide) ⟨by decide, by decide⟩ (fun v s2 M14 J2 hq => ?_)
  obtain ⟨r16, rfl, rfl, rfl, k15, ⟨hr12, hx11, ht13⟩⟩ := hq
  try dsimp only [Option.toList, List.cons_append, List.nil_append]
  subst hr12
  refine xr_isub dX10_tellsAs_66 ?_
  exact xr_iret dX10_tellsAs_67 rfl rfl (⟨_, rfl, rfl, rfl, (Ke.tr (fun _ _ h => h) (Ke.tr (fun _ _ h => h) (Ke.tr (fun _ _ h => h) Ke.rf k4) k9) k15), rfl, hx11, (TrA_app (l := [2, 10, 70, 1]) (m := [11]) (TrA_app (l := [2]) (m := [10, 70, 1]) ht2 ht7) ht13)⟩)
set_option maxRecDepth 100000 in
set_option maxHeartbeats 4000000 in
theorem rv7_pushesAs_0 {ac : Nat} (x : Int32) {l : Launch} {G : xG} {M : xM} {J : xJ} {ra : Nat} (h_ra : ra + 1 ≤ 900) (e_ra : M 62 39 = nI ra) (e_k : M 62 40 = 7) (e_ac : M 62 41 = nI ac) : x_M l G fX10_pushesAs 1 0 0 [.ref (62), .int (0), .int (x)] x_SH M J (qKI WRA M J (fun r M2 => r = (x + (nI (ac))) ∧ M2 62 39 = nI (ra + 1) ∧ TrA 82 ra [1] M M2)) := by
  refine xb_of pX10 (Nat.le_of_ble_eq_true rfl) rfl ?_
  refine xr_iload_n dX10_pushesAs_0 1 rfl ?_
  refine xr_iconst (v := 1) dX10_pushesAs_1 rfl ?_
  refine xr_icmp_eq (tgt := 16) dX10_pushesAs_2 rfl (fun c => absurd c (by decide)) (fun _ => ?_)
  refine xr_iload_n dX10_pushesAs_5 1 rfl ?_
  refine xr_iconst (v := 4) dX10_pushesAs_6 rfl ?_
  refine xr_icmp_eq (tgt := 16) dX10_pushesAs_7 rfl (fun c => absurd c (by decide)) (fun _ => ?_)
  refine xr_iload_n dX10_pushesAs_10 1 rfl ?_
  refine xr_bipush (v := 7) dX10_pushesAs_11 rfl ?_
  refine xr_icmp_ne (tgt := 31) dX10_pushesAs_13 rfl (fun _ => ?_) (fun c => absurd c (by decide))
  refine xr_iload_n dX10_pushesAs_31 1 rfl ?_
  refine xr_bipush (v := 6) dX10_pushesAs_32 rfl ?_
  refine xr_icmp_ne (tgt := 52) dX10_pushesAs_34 rfl (fun _ => ?_) (fun c => absurd c (by decide))
  refine xr_aload_n dX10_pushesAs_52 0 rfl ?_
  refine xr_iconst (v := 1) dX10_pushesAs_53 rfl ?_
  refine xr_callV (As := [.int (1)]) (rest := []) mlX10_340 (gt_X10_begins 1 (by omega) e_ra) dX10_pushesAs_54 s_62 rfl rfl (Nat.le_of_ble_eq_true rfl) (by decide) ⟨by decide, by decide⟩ (fun v s2 M3 J2 hq => ?_)
  obtain ⟨rfl, rfl, rfl, k4, ⟨hx1, ht2⟩⟩ := hq
  try dsimp only [Option.toList, List.cons_append, List.nil_append]
  refine xr_iload_n dX10_pushesAs_57 2 rfl ?_
  refine xr_aload_n dX10_pushesAs_58 0 rfl ?_
  refine xb_get (v := nI (ac)) flX10_346 dX10_pushesAs_59 s_62 rfl (Eq.trans (k4 62 41 (by decide)) e_ac) ?_
  refine xr_iadd dX10_pushesAs_62 ?_
  exact xr_iret dX10_pushesAs_63 rfl rfl (⟨_, rfl, rfl, rfl, (Ke.tr (fun _ _ h => h) Ke.rf k4), rfl, hx1, ht2⟩)
set_option maxRecDepth 100000 in
set_option maxHeartbeats 4000000 in
theorem rv7_pushesAs_7 {ac : Nat} (x : Int32) {l : Launch} {G : xG} {M : xM} {J : xJ} {ra : Nat} (h_ra : ra + 2 ≤ 900) (e_ra : M 62 39 = nI ra) (e_k : M 62 40 = 7) (e_ac : M 62 41 = nI ac) : x_M l G fX10_pushesAs 2 0 0 [.ref (62), .int (7), .int (x)] x_SH M J (qKI WRA M J (fun r M2 => r = ((x + (nI (ac))) + 3) ∧ M2 62 39 = nI (ra + 2) ∧ TrA 82 ra [20, 1] M M2)) := by
  refine xb_of pX10 (Nat.le_of_ble_eq_true rfl) rfl ?_
  refine xr_iload_n dX10_pushesAs_0 1 rfl ?_
  refine xr_iconst (v := 1) dX10_pushesAs_1 rfl ?_
  refine xr_icmp_eq (tgt := 16) dX10_pushesAs_2 rfl (fun c => absurd c (by decide)) (fun _ => ?_)
  refine xr_iload_n dX10_pushesAs_5 1 rfl ?_
  refine xr_iconst (v := 4) dX10_pushesAs_6 rfl ?_
  refine xr_icmp_eq (tgt := 16) dX10_pushesAs_7 rfl (fun c => absurd c (by decide)) (fun _ => ?_)
  refine xr_iload_n dX10_pushesAs_10 1 rfl ?_
  refine xr_bipush (v := 7) dX10_pushesAs_11 rfl ?_
  refine xr_icmp_ne (tgt := 31) dX10_pushesAs_13 rfl (fun c => absurd (by decide) c) (fun _ => ?_)
  refine xr_aload_n dX10_pushesAs_16 0 rfl ?_
  refine xr_bipush (v := 20) dX10_pushesAs_17 rfl ?_
  refine xr_callV (As := [.int (20)]) (rest := []) mlX10_340 (gt_X10_begins 20 (by omega) e_ra) dX10_pushesAs_19 s_62 rfl rfl (Nat.le_of_ble_eq_true rfl) (by decide) ⟨by decide, by decide⟩ (fun v s2 M3 J2 hq => ?_)
  obtain ⟨rfl, rfl, rfl, k4, ⟨hx1, ht2⟩⟩ := hq
  try dsimp only [Option.toList, List.cons_append, List.nil_append]
  refine xr_aload_n dX10_pushesAs_22 0 rfl ?_
  refine xr_iconst (v := 0) dX10_pushesAs_23 rfl ?_
  refine xr_iload_n dX10_pushesAs_24 2 rfl ?_
  refine xr_callV (As := [.int (0), .int (x)]) (rest := []) mlX10_343 (rv7_pushesAs_0 x (by omega) hx1 (Eq.trans (k4 62 40 (by decide)) e_k) (Eq.trans (k4 62 41 (by decide)) e_ac)) dX10_pushesAs_25 s_62 rfl rfl (Nat.le_of_ble_eq_true rfl) (by decide) ⟨by decide, by decide⟩ (fun v s2 M8 J2 hq => ?_)
  obtain ⟨r10, rfl, rfl, rfl, k9, ⟨hr6, hx5, ht7⟩⟩ := hq
  try dsimp only [Option.toList, List.cons_append, List.nil_append]
  subst hr6
  refine xr_iconst (v := 3) dX10_pushesAs_28 rfl ?_
  refine xr_iadd dX10_pushesAs_29 ?_
  exact xr_iret dX10_pushesAs_30 rfl rfl (⟨_, rfl, rfl, rfl, (Ke.tr (fun _ _ h => h) (Ke.tr (fun _ _ h => h) Ke.rf k4) k9), rfl, hx5, (TrA_app (l := [20]) (m := [1]) ht2 ht7)⟩)
set_option maxRecDepth 100000 in
set_option maxHeartbeats 4000000 in
theorem rv7_turnsAs_4 {ac : Nat} (x : Int32) {l : Launch} {G : xG} {M : xM} {J : xJ} {ra : Nat} (h_ra : ra + 3 ≤ 900) (e_ra : M 62 39 = nI ra) (e_k : M 62 40 = 7) (e_ac : M 62 41 = nI ac) : x_M l G fX10_turnsAs 3 0 0 [.ref (62), .int (4), .int (x)] x_SH M J (qKI WRA M J (fun r M2 => r = (((x + (nI (ac))) + 3) * 2) ∧ M2 62 39 = nI (ra + 3) ∧ TrA 82 ra [10, 20, 1] M M2)) := by
  refine xb_of pX10 (Nat.le_of_ble_eq_true rfl) rfl ?_
  refine xr_iload_n dX10_turnsAs_0 1 rfl ?_
  refine xr_iconst (v := 3) dX10_turnsAs_1 rfl ?_
  refine xr_icmp_eq (tgt := 10) dX10_turnsAs_2 rfl (fun c => absurd c (by decide)) (fun _ => ?_)
  refine xr_iload_n dX10_turnsAs_5 1 rfl ?_
  refine xr_iconst (v := 5) dX10_turnsAs_6 rfl ?_
  refine xr_icmp_ne (tgt := 25) dX10_turnsAs_7 rfl (fun _ => ?_) (fun c => absurd c (by decide))
  refine xr_iload_n dX10_turnsAs_25 1 rfl ?_
  refine xr_iconst (v := 2) dX10_turnsAs_26 rfl ?_
  refine xr_icmp_ne (tgt := 44) dX10_turnsAs_27 rfl (fun _ => ?_) (fun c => absurd c (by decide))
  refine xr_iload_n dX10_turnsAs_44 1 rfl ?_
  refine xr_bipush (v := 7) dX10_turnsAs_45 rfl ?_
  refine xr_icmp_ne (tgt := 75) dX10_turnsAs_47 rfl (fun _ => ?_) (fun c => absurd c (by decide))
  refine xr_aload_n dX10_turnsAs_75 0 rfl ?_
  refine xr_bipush (v := 10) dX10_turnsAs_76 rfl ?_
  refine xr_callV (As := [.int (10)]) (rest := []) mlX10_340 (gt_X10_begins 10 (by omega) e_ra) dX10_turnsAs_78 s_62 rfl rfl (Nat.le_of_ble_eq_true rfl) (by decide) ⟨by decide, by decide⟩ (fun v s2 M3 J2 hq => ?_)
  obtain ⟨rfl, rfl, rfl, k4, ⟨hx1, ht2⟩⟩ := hq
  try dsimp only [Option.toList, List.cons_append, List.nil_append]
  refine xr_aload_n dX10_turnsAs_81 0 rfl ?_
  refine xr_aload_n dX10_turnsAs_82 0 rfl ?_
  refine xb_get (v := 7) flX10_352 dX10_turnsAs_83 s_62 rfl (Eq.trans (k4 62 40 (by decide)) e_k) ?_
  refine xr_iload_n dX10_turnsAs_86 2 rfl ?_
  refine xr_callV (As := [.int (7), .int (x)]) (rest := []) mlX10_343 (rv7_pushesAs_7 x (by omega) hx1 (Eq.trans (k4 62 40 (by decide)) e_k) (Eq.trans (k4 62 41 (by decide)) e_ac)) dX10_turnsAs_87 s_62 rfl rfl (Nat.le_of_ble_eq_true rfl) (by decide) ⟨by decide, by decide⟩ (fun v s2 M8 J2 hq => ?_)
  obtain ⟨r10, rfl, rfl, rfl, k9, ⟨hr6, hx5, ht7⟩⟩ := hq
  try dsimp only [Option.toList, List.cons_append, List.nil_append]
  subst hr6
  refine xr_iconst (v := 2) dX10_turnsAs_90 rfl ?_
  refine xr_imul dX10_turnsAs_91 ?_
  exact xr_iret dX10_turnsAs_92 rfl rfl (⟨_, rfl, rfl, rfl, (Ke.tr (fun _ _ h => h) (Ke.tr (fun _ _ h => h) Ke.rf k4) k9), rfl, hx5, (TrA_app (l := [10]) (m := [20, 1]) ht2 ht7)⟩)
set_option maxRecDepth 100000 in
set_option maxHeartbeats 4000000 in
theorem rv7_sinksAs_1 {ac : Nat} (x : Int32) {l : Launch} {G : xG} {M : xM} {J : xJ} {ra : Nat} (h_ra : ra + 1 ≤ 900) (e_ra : M 62 39 = nI ra) (e_k : M 62 40 = 7) (e_ac : M 62 41 = nI ac) : x_M l G fX10_sinksAs 1 0 0 [.ref (62), .int (1), .int (x)] x_SH M J (qKI WRA M J (fun r M2 => r = (x ^^^ (nI (ac))) ∧ M2 62 39 = nI (ra + 1) ∧ TrA 82 ra [11] M M2)) := by
  refine xb_of pX10 (Nat.le_of_ble_eq_true rfl) rfl ?_
  refine xr_iload_n dX10_sinksAs_0 1 rfl ?_
  refine xr_iconst (v := 3) dX10_sinksAs_1 rfl ?_
  refine xr_icmp_eq (tgt := 10) dX10_sinksAs_2 rfl (fun c => absurd c (by decide)) (fun _ => ?_)
  refine xr_iload_n dX10_sinksAs_5 1 rfl ?_
  refine xr_iconst (v := 5) dX10_sinksAs_6 rfl ?_
  refine xr_icmp_ne (tgt := 25) dX10_sinksAs_7 rfl (fun _ => ?_) (fun c => absurd c (by decide))
  refine xr_iload_n dX10_sinksAs_25 1 rfl ?_
  refine xr_iconst (v := 4) dX10_sinksAs_26 rfl ?_
  refine xr_icmp_eq (tgt := 36) dX10_sinksAs_27 rfl (fun c => absurd c (by decide)) (fun _ => ?_)
  refine xr_iload_n dX10_sinksAs_30 1 rfl ?_
  refine xr_bipush (v := 7) dX10_sinksAs_31 rfl ?_
  refine xr_icmp_ne (tgt := 61) dX10_sinksAs_33 rfl (fun _ => ?_) (fun c => absurd c (by decide))
  refine xr_aload_n dX10_sinksAs_61 0 rfl ?_
  refine xr_bipush (v := 11) dX10_sinksAs_62 rfl ?_
  refine xr_callV (As := [.int (11)]) (rest := []) mlX10_340 (gt_X10_begins 11 (by omega) e_ra) dX10_sinksAs_64 s_62 rfl rfl (Nat.le_of_ble_eq_true rfl) (by decide) ⟨by decide, by decide⟩ (fun v s2 M3 J2 hq => ?_)
  obtain ⟨rfl, rfl, rfl, k4, ⟨hx1, ht2⟩⟩ := hq
  try dsimp only [Option.toList, List.cons_append, List.nil_append]
  refine xr_iload_n dX10_sinksAs_67 2 rfl ?_
  refine xr_aload_n dX10_sinksAs_68 0 rfl ?_
  refine xb_get (v := nI (ac)) flX10_346 dX10_sinksAs_69 s_62 rfl (Eq.trans (k4 62 41 (by decide)) e_ac) ?_
  refine xr_ixor dX10_sinksAs_72 ?_
  exact xr_iret dX10_sinksAs_73 rfl rfl (⟨_, rfl, rfl, rfl, (Ke.tr (fun _ _ h => h) Ke.rf k4), rfl, hx1, ht2⟩)
set_option maxRecDepth 100000 in
set_option maxHeartbeats 4000000 in
theorem rv7_sinksAs_7 {ac : Nat} (x : Int32) {l : Launch} {G : xG} {M : xM} {J : xJ} {ra : Nat} (h_ra : ra + 4 ≤ 900) (e_ra : M 62 39 = nI ra) (e_k : M 62 40 = 7) (e_ac : M 62 41 = nI ac) : x_M l G fX10_sinksAs 3 0 0 [.ref (62), .int (7), .int (x)] x_SH M J (qKI WRA M J (fun r M2 => r = ((x ^^^ (nI (ac))) - ((2 + (nI (ac))) + 3)) ∧ M2 62 39 = nI (ra + 4) ∧ TrA 82 ra [50, 11, 20, 1] M M2)) := by
  refine xb_of pX10 (Nat.le_of_ble_eq_true rfl) rfl ?_
  refine xr_iload_n dX10_sinksAs_0 1 rfl ?_
  refine xr_iconst (v := 3) dX10_sinksAs_1 rfl ?_
  refine xr_icmp_eq (tgt := 10) dX10_sinksAs_2 rfl (fun c => absurd c (by decide)) (fun _ => ?_)
  refine xr_iload_n dX10_sinksAs_5 1 rfl ?_
  refine xr_iconst (v := 5) dX10_sinksAs_6 rfl ?_
  refine xr_icmp_ne (tgt := 25) dX10_sinksAs_7 rfl (fun _ => ?_) (fun c => absurd c (by decide))
  refine xr_iload_n dX10_sinksAs_25 1 rfl ?_
  refine xr_iconst (v := 4) dX10_sinksAs_26 rfl ?_
  refine xr_icmp_eq (tgt := 36) dX10_sinksAs_27 rfl (fun c => absurd c (by decide)) (fun _ => ?_)
  refine xr_iload_n dX10_sinksAs_30 1 rfl ?_
  refine xr_bipush (v := 7) dX10_sinksAs_31 rfl ?_
  refine xr_icmp_ne (tgt := 61) dX10_sinksAs_33 rfl (fun c => absurd (by decide) c) (fun _ => ?_)
  refine xr_aload_n dX10_sinksAs_36 0 rfl ?_
  refine xr_bipush (v := 50) dX10_sinksAs_37 rfl ?_
  refine xr_callV (As := [.int (50)]) (rest := []) mlX10_340 (gt_X10_begins 50 (by omega) e_ra) dX10_sinksAs_39 s_62 rfl rfl (Nat.le_of_ble_eq_true rfl) (by decide) ⟨by decide, by decide⟩ (fun v s2 M3 J2 hq => ?_)
  obtain ⟨rfl, rfl, rfl, k4, ⟨hx1, ht2⟩⟩ := hq
  try dsimp only [Option.toList, List.cons_append, List.nil_append]
  refine xr_aload_n dX10_sinksAs_42 0 rfl ?_
  refine xr_iconst (v := 1) dX10_sinksAs_43 rfl ?_
  refine xr_iload_n dX10_sinksAs_44 2 rfl ?_
  refine xr_callV (As := [.int (1), .int (x)]) (rest := []) mlX10_355 (rv7_sinksAs_1 x (by omega) hx1 (Eq.trans (k4 62 40 (by decide)) e_k) (Eq.trans (k4 62 41 (by decide)) e_ac)) dX10_sinksAs_45 s_62 rfl rfl (Nat.le_of_ble_eq_true rfl) (by decide) ⟨by decide, by decide⟩ (fun v s2 M8 J2 hq => ?_)
  obtain ⟨r10, rfl, rfl, rfl, k9, ⟨hr6, hx5, ht7⟩⟩ := hq
  try dsimp only [Option.toList, List.cons_append, List.nil_append]
  subst hr6
  refine xr_istore_n (ls2 := [(3, .int ((x ^^^ (nI (ac))))), (0, .ref (62)), (1, .int (7)), (2, .int (x))]) dX10_sinksAs_48 (by decide) rfl ?_
  refine xr_iload_n dX10_sinksAs_49 0 rfl ?_
  refine xr_aload_n dX10_sinksAs_50 1 rfl ?_
  refine xr_aload_n dX10_sinksAs_51 1 rfl ?_
  refine xb_get (v := 7) flX10_352 dX10_sinksAs_52 s_62 rfl (Eq.trans (k9 62 40 (by decide)) (Eq.trans (k4 62 40 (by decide)) e_k)) ?_
  refine xr_iconst (v := 2) dX10_sinksAs_55 rfl ?_
  refine xr_callV (As := [.int (7), .int (2)]) (rest := [.int ((x ^^^ (nI (ac))))]) mlX10_343 (rv7_pushesAs_7 2 (by omega) hx5 (Eq.trans (k9 62 40 (by decide)) (Eq.trans (k4 62 40 (by decide)) e_k)) (Eq.trans (k9 62 41 (by decide)) (Eq.trans (k4 62 41 (by decide)) e_ac))) dX10_sinksAs_56 s_62 rfl rfl (Nat.le_of_ble_eq_true rfl) (by decide) ⟨by decide, by decide⟩ (fun v s2 M14 J2 hq => ?_)
  obtain ⟨r16, rfl, rfl, rfl, k15, ⟨hr12, hx11, ht13⟩⟩ := hq
  try dsimp only [Option.toList, List.cons_append, List.nil_append]
  subst hr12
  refine xr_isub dX10_sinksAs_59 ?_
  exact xr_iret dX10_sinksAs_60 rfl rfl (⟨_, rfl, rfl, rfl, (Ke.tr (fun _ _ h => h) (Ke.tr (fun _ _ h => h) (Ke.tr (fun _ _ h => h) Ke.rf k4) k9) k15), rfl, hx11, (TrA_app (l := [50, 11]) (m := [20, 1]) (TrA_app (l := [50]) (m := [11]) ht2 ht7) ht13)⟩)
set_option maxRecDepth 100000 in
set_option maxHeartbeats 4000000 in
theorem rv7_turnsAs_7 {ac : Nat} (x : Int32) {l : Launch} {G : xG} {M : xM} {J : xJ} {ra : Nat} (h_ra : ra + 8 ≤ 900) (e_ra : M 62 39 = nI ra) (e_k : M 62 40 = 7) (e_ac : M 62 41 = nI ac) : x_M l G fX10_turnsAs 4 0 0 [.ref (62), .int (7), .int (x)] x_SH M J (qKI WRA M J (fun r M2 => r = ((((x + (nI (ac))) + 3) * 2) + ((2 ^^^ (nI (ac))) - ((2 + (nI (ac))) + 3))) ∧ M2 62 39 = nI (ra + 8) ∧ TrA 82 ra [80, 10, 20, 1, 50, 11, 20, 1] M M2)) := by
  refine xb_of pX10 (Nat.le_of_ble_eq_true rfl) rfl ?_
  refine xr_iload_n dX10_turnsAs_0 1 rfl ?_
  refine xr_iconst (v := 3) dX10_turnsAs_1 rfl ?_
  refine xr_icmp_eq (tgt := 10) dX10_turnsAs_2 rfl (fun c => absurd c (by decide)) (fun _ => ?_)
  refine xr_iload_n dX10_turnsAs_5 1 rfl ?_
  refine xr_iconst (v := 5) dX10_turnsAs_6 rfl ?_
  refine xr_icmp_ne (tgt := 25) dX10_turnsAs_7 rfl (fun _ => ?_) (fun c => absurd c (by decide))
  refine xr_iload_n dX10_turnsAs_25 1 rfl ?_
  refine xr_iconst (v := 2) dX10_turnsAs_26 rfl ?_
  refine xr_icmp_ne (tgt := 44) dX10_turnsAs_27 rfl (fun _ => ?_) (fun c => absurd c (by decide))
  refine xr_iload_n dX10_turnsAs_44 1 rfl ?_
  refine xr_bipush (v := 7) dX10_turnsAs_45 rfl ?_
  refine xr_icmp_ne (tgt := 75) dX10_turnsAs_47 rfl (fun c => absurd (by decide) c) (fun _ => ?_)
  refine xr_aload_n dX10_turnsAs_50 0 rfl ?_
  refine xr_bipush (v := 80) dX10_turnsAs_51 rfl ?_
  refine xr_callV (As := [.int (80)]) (rest := []) mlX10_340 (gt_X10_begins 80 (by omega) e_ra) dX10_turnsAs_53 s_62 rfl rfl (Nat.le_of_ble_eq_true rfl) (by decide) ⟨by decide, by decide⟩ (fun v s2 M3 J2 hq => ?_)
  obtain ⟨rfl, rfl, rfl, k4, ⟨hx1, ht2⟩⟩ := hq
  try dsimp only [Option.toList, List.cons_append, List.nil_append]
  refine xr_aload_n dX10_turnsAs_56 0 rfl ?_
  refine xr_iconst (v := 4) dX10_turnsAs_57 rfl ?_
  refine xr_iload_n dX10_turnsAs_58 2 rfl ?_
  refine xr_callV (As := [.int (4), .int (x)]) (rest := []) mlX10_349 (rv7_turnsAs_4 x (by omega) hx1 (Eq.trans (k4 62 40 (by decide)) e_k) (Eq.trans (k4 62 41 (by decide)) e_ac)) dX10_turnsAs_59 s_62 rfl rfl (Nat.le_of_ble_eq_true rfl) (by decide) ⟨by decide, by decide⟩ (fun v s2 M8 J2 hq => ?_)
  obtain ⟨r10, rfl, rfl, rfl, k9, ⟨hr6, hx5, ht7⟩⟩ := hq
  try dsimp only [Option.toList, List.cons_append, List.nil_append]
  subst hr6
  refine xr_istore_n (ls2 := [(3, .int ((((x + (nI (ac))) + 3) * 2))), (0, .ref (62)), (1, .int (7)), (2, .int (x))]) dX10_turnsAs_62 (by decide) rfl ?_
  refine xr_iload_n dX10_turnsAs_63 0 rfl ?_
  refine xr_aload_n dX10_turnsAs_64 1 rfl ?_
  refine xr_aload_n dX10_turnsAs_65 1 rfl ?_
  refine xb_get (v := 7) flX10_352 dX10_turnsAs_66 s_62 rfl (Eq.trans (k9 62 40 (by decide)) (Eq.trans (k4 62 40 (by decide)) e_k)) ?_
  refine xr_iconst (v := 2) dX10_turnsAs_69 rfl ?_
  refine xr_callV (As := [.int (7), .int (2)]) (rest := [.int ((((x + (nI (ac))) + 3) * 2))]) mlX10_355 (rv7_sinksAs_7 2 (by omega) hx5 (Eq.trans (k9 62 40 (by decide)) (Eq.trans (k4 62 40 (by decide)) e_k)) (Eq.trans (k9 62 41 (by decide)) (Eq.trans (k4 62 41 (by decide)) e_ac))) dX10_turnsAs_70 s_62 rfl rfl (Nat.le_of_ble_eq_true rfl) (by decide) ⟨by decide, by decide⟩ (fun v s2 M14 J2 hq => ?_)
  obtain ⟨r16, rfl, rfl, rfl, k15, ⟨hr12, hx11, ht13⟩⟩ := hq
  try dsimp only [Option.toList, List.cons_append, List.nil_append]
  subst hr12
  refine xr_iadd dX10_turnsAs_73 ?_
  exact xr_iret dX10_turnsAs_74 rfl rfl (⟨_, rfl, rfl, rfl, (Ke.tr (fun _ _ h => h) (Ke.tr (fun _ _ h => h) (Ke.tr (fun _ _ h => h) Ke.rf k4) k9) k15), rfl, hx11, (TrA_app (l := [80, 10, 20, 1]) (m := [50, 11, 20, 1]) (TrA_app (l := [80]) (m := [10, 20, 1]) ht2 ht7) ht13)⟩)
set_option maxRecDepth 100000 in
set_option maxHeartbeats 4000000 in
theorem rv7_tellsAs_4 {ac : Nat} (x : Int32) {l : Launch} {G : xG} {M : xM} {J : xJ} {ra : Nat} (h_ra : ra + 13 ≤ 900) (e_ra : M 62 39 = nI ra) (e_k : M 62 40 = 7) (e_ac : M 62 41 = nI ac) : x_M l G fX10_tellsAs 5 0 0 [.ref (62), .int (4), .int (x)] x_SH M J (qKI WRA M J (fun r M2 => r = (((((x + (nI (ac))) + 3) * 2) + ((2 ^^^ (nI (ac))) - ((2 + (nI (ac))) + 3))) - ((1 ^^^ (nI (ac))) - ((2 + (nI (ac))) + 3))) ∧ M2 62 39 = nI (ra + 13) ∧ TrA 82 ra [2, 80, 10, 20, 1, 50, 11, 20, 1, 50, 11, 20, 1] M M2)) := by
  refine xb_of pX10 (Nat.le_of_ble_eq_true rfl) rfl ?_
  refine xr_iload_n dX10_tellsAs_0 1 rfl ?_
  refine xr_iconst (v := 5) dX10_tellsAs_1 rfl ?_
  refine xr_icmp_ne (tgt := 20) dX10_tellsAs_2 rfl (fun _ => ?_) (fun c => absurd c (by decide))
  refine xr_iload_n dX10_tellsAs_20 1 rfl ?_
  refine xr_bipush (v := 7) dX10_tellsAs_21 rfl ?_
  refine xr_icmp_ne (tgt := 41) dX10_tellsAs_23 rfl (fun _ => ?_) (fun c => absurd c (by decide))
  refine xr_aload_n dX10_tellsAs_41 0 rfl ?_
  refine xr_iconst (v := 2) dX10_tellsAs_42 rfl ?_
  refine xr_callV (As := [.int (2)]) (rest := []) mlX10_340 (gt_X10_begins 2 (by omega) e_ra) dX10_tellsAs_43 s_62 rfl rfl (Nat.le_of_ble_eq_true rfl) (by decide) ⟨by decide, by decide⟩ (fun v s2 M3 J2 hq => ?_)
  obtain ⟨rfl, rfl, rfl, k4, ⟨hx1, ht2⟩⟩ := hq
  try dsimp only [Option.toList, List.cons_append, List.nil_append]
  refine xr_aload_n dX10_tellsAs_46 0 rfl ?_
  refine xr_aload_n dX10_tellsAs_47 0 rfl ?_
  refine xb_get (v := 7) flX10_352 dX10_tellsAs_48 s_62 rfl (Eq.trans (k4 62 40 (by decide)) e_k) ?_
  refine xr_iload_n dX10_tellsAs_51 2 rfl ?_
  refine xr_callV (As := [.int (7), .int (x)]) (rest := []) mlX10_349 (rv7_turnsAs_7 x (by omega) hx1 (Eq.trans (k4 62 40 (by decide)) e_k) (Eq.trans (k4 62 41 (by decide)) e_ac)) dX10_tellsAs_52 s_62 rfl rfl (Nat.le_of_ble_eq_true rfl) (by decide) ⟨by decide, by decide⟩ (fun v s2 M8 J2 hq => ?_)
  obtain ⟨r10, rfl, rfl, rfl, k9, ⟨hr6, hx5, ht7⟩⟩ := hq
  try dsimp only [Option.toList, List.cons_append, List.nil_append]
  subst hr6
  refine xr_istore_n (ls2 := [(3, .int (((((x + (nI (ac))) + 3) * 2) + ((2 ^^^ (nI (ac))) - ((2 + (nI (ac))) + 3))))), (0, .ref (62)), (1, .int (4)), (2, .int (x))]) dX10_tellsAs_55 (by decide) rfl ?_
  refine xr_iload_n dX10_tellsAs_56 0 rfl ?_
  refine xr_aload_n dX10_tellsAs_57 1 rfl ?_
  refine xr_aload_n dX10_tellsAs_58 1 rfl ?_
  refine xb_get (v := 7) flX10_352 dX10_tellsAs_59 s_62 rfl (Eq.trans (k9 62 40 (by decide)) (Eq.trans (k4 62 40 (by decide)) e_k)) ?_
  refine xr_iconst (v := 1) dX10_tellsAs_62 rfl ?_
  refine xr_callV (As := [.int (7), .int (1)]) (rest := [.int (((((x + (nI (ac))) + 3) * 2) + ((2 ^^^ (nI (ac))) - ((2 + (nI (ac))) + 3))))]) mlX10_355 (rv7_sinksAs_7 1 (by omega) hx5 (Eq.trans (k9 62 40 (by decide)) (Eq.trans (k4 62 40 (by decide)) e_k)) (Eq.trans (k9 62 41 (by decide)) (Eq.trans (k4 62 41 (by decide)) e_ac))) dX10_tellsAs_63 s_62 rfl rfl (Nat.le_of_ble_eq_true rfl) (by decide) ⟨by decide, by decide⟩ (fun v s2 M14 J2 hq => ?_)
  obtain ⟨r16, rfl, rfl, rfl, k15, ⟨hr12, hx11, ht13⟩⟩ := hq
  try dsimp only [Option.toList, List.cons_append, List.nil_append]
  subst hr12
  refine xr_isub dX10_tellsAs_66 ?_
  exact xr_iret dX10_tellsAs_67 rfl rfl (⟨_, rfl, rfl, rfl, (Ke.tr (fun _ _ h => h) (Ke.tr (fun _ _ h => h) (Ke.tr (fun _ _ h => h) Ke.rf k4) k9) k15), rfl, hx11, (TrA_app (l := [2, 80, 10, 20, 1, 50, 11, 20, 1]) (m := [50, 11, 20, 1]) (TrA_app (l := [2]) (m := [80, 10, 20, 1, 50, 11, 20, 1]) ht2 ht7) ht13)⟩)
set_option maxRecDepth 100000 in
set_option maxHeartbeats 4000000 in
theorem rv7_tellsAs_7 {ac : Nat} (x : Int32) {l : Launch} {G : xG} {M : xM} {J : xJ} {ra : Nat} (h_ra : ra + 14 ≤ 900) (e_ra : M 62 39 = nI ra) (e_k : M 62 40 = 7) (e_ac : M 62 41 = nI ac) : x_M l G fX10_tellsAs 6 0 0 [.ref (62), .int (7), .int (x)] x_SH M J (qKI WRA M J (fun r M2 => r = ((((((x + (nI (ac))) + 3) * 2) + ((2 ^^^ (nI (ac))) - ((2 + (nI (ac))) + 3))) - ((1 ^^^ (nI (ac))) - ((2 + (nI (ac))) + 3))) - 1) ∧ M2 62 39 = nI (ra + 14) ∧ TrA 82 ra [81, 2, 80, 10, 20, 1, 50, 11, 20, 1, 50, 11, 20, 1] M M2)) := by
  refine xb_of pX10 (Nat.le_of_ble_eq_true rfl) rfl ?_
  refine xr_iload_n dX10_tellsAs_0 1 rfl ?_
  refine xr_iconst (v := 5) dX10_tellsAs_1 rfl ?_
  refine xr_icmp_ne (tgt := 20) dX10_tellsAs_2 rfl (fun _ => ?_) (fun c => absurd c (by decide))
  refine xr_iload_n dX10_tellsAs_20 1 rfl ?_
  refine xr_bipush (v := 7) dX10_tellsAs_21 rfl ?_
  refine xr_icmp_ne (tgt := 41) dX10_tellsAs_23 rfl (fun c => absurd (by decide) c) (fun _ => ?_)
  refine xr_aload_n dX10_tellsAs_26 0 rfl ?_
  refine xr_bipush (v := 81) dX10_tellsAs_27 rfl ?_
  refine xr_callV (As := [.int (81)]) (rest := []) mlX10_340 (gt_X10_begins 81 (by omega) e_ra) dX10_tellsAs_29 s_62 rfl rfl (Nat.le_of_ble_eq_true rfl) (by decide) ⟨by decide, by decide⟩ (fun v s2 M3 J2 hq => ?_)
  obtain ⟨rfl, rfl, rfl, k4, ⟨hx1, ht2⟩⟩ := hq
  try dsimp only [Option.toList, List.cons_append, List.nil_append]
  refine xr_aload_n dX10_tellsAs_32 0 rfl ?_
  refine xr_iconst (v := 4) dX10_tellsAs_33 rfl ?_
  refine xr_iload_n dX10_tellsAs_34 2 rfl ?_
  refine xr_callV (As := [.int (4), .int (x)]) (rest := []) mlX10_358 (rv7_tellsAs_4 x (by omega) hx1 (Eq.trans (k4 62 40 (by decide)) e_k) (Eq.trans (k4 62 41 (by decide)) e_ac)) dX10_tellsAs_35 s_62 rfl rfl (Nat.le_of_ble_eq_true rfl) (by decide) ⟨by decide, by decide⟩ (fun v s2 M8 J2 hq => ?_)
  obtain ⟨r10, rfl, rfl, rfl, k9, ⟨hr6, hx5, ht7⟩⟩ := hq
  try dsimp only [Option.toList, List.cons_append, List.nil_append]
  subst hr6
  refine xr_iconst (v := 1) dX10_tellsAs_38 rfl ?_
  refine xr_isub dX10_tellsAs_39 ?_
  exact xr_iret dX10_tellsAs_40 rfl rfl (⟨_, rfl, rfl, rfl, (Ke.tr (fun _ _ h => h) (Ke.tr (fun _ _ h => h) Ke.rf k4) k9), rfl, hx5, (TrA_app (l := [81]) (m := [2, 80, 10, 20, 1, 50, 11, 20, 1, 50, 11, 20, 1]) ht2 ht7)⟩)
def trL (K a : Nat) : List Int32 :=
  match K, a with
  | 0, 0 => [1]
  | 0, 1 => [10, 1]
  | 0, 2 => [11]
  | 0, 3 => [2, 10, 1, 11]
  | 1, 0 => [20, 1]
  | 1, 1 => [10, 20, 1]
  | 1, 2 => [11]
  | 1, 3 => [2, 10, 20, 1, 11]
  | 2, 0 => [1]
  | 2, 1 => [30, 10, 1]
  | 2, 2 => [11]
  | 2, 3 => [2, 30, 10, 1, 11]
  | 3, 0 => [1]
  | 3, 1 => [41, 30, 10, 1]
  | 3, 2 => [40, 11]
  | 3, 3 => [2, 41, 30, 10, 1, 40, 11]
  | 4, 0 => [20, 1]
  | 4, 1 => [10, 20, 1]
  | 4, 2 => [50, 11, 20, 1]
  | 4, 3 => [2, 10, 20, 1, 50, 11, 20, 1]
  | 5, 0 => [1]
  | 5, 1 => [41, 30, 10, 1]
  | 5, 2 => [40, 11]
  | 5, 3 => [60, 2, 41, 30, 10, 1, 40, 11]
  | 6, 0 => [70, 1]
  | 6, 1 => [10, 70, 1]
  | 6, 2 => [11]
  | 6, 3 => [2, 10, 70, 1, 11]
  | 7, 0 => [20, 1]
  | 7, 1 => [80, 10, 20, 1, 50, 11, 20, 1]
  | 7, 2 => [50, 11, 20, 1]
  | 7, 3 => [81, 2, 80, 10, 20, 1, 50, 11, 20, 1, 50, 11, 20, 1]
  | _, _ => []
/-- what an act leaves in the trace -/
def ETr (cnt : Int32) (kd : Nat → Int32) (h ac ran : Int32) (f : Nat → Int32) : Prop := ¬ ((0 ≤ h ∧ h < cnt) ∧ (0 ≤ ac ∧ ac ≤ 3)) ∧ ran = 0 ∨ ((0 ≤ h ∧ h < cnt) ∧ (0 ≤ ac ∧ ac ≤ 3)) ∧ ∃ j K a : Nat, j < 50 ∧ K < 8 ∧ a < 4 ∧ h = nI j ∧ kd j = nI K ∧ ac = nI a ∧ ran = nI (trL K a).length ∧ ∀ i, i < 24 → i < (trL K a).length → f i = (trL K a).getD i 0
/-- what the trace answers -/
def ETc (ran : Int32) (f : Nat → Int32) (i r : Int32) : Prop := ¬ (0 ≤ i ∧ i < ran ∧ i < 24) ∧ r = -1 ∨ (0 ≤ i ∧ i < ran ∧ i < 24) ∧ ∃ j : Nat, j < 24 ∧ i = nI j ∧ r = f j
set_option maxRecDepth 100000 in
set_option maxHeartbeats 4000000 in
theorem gt_X9_act (h ac_ x : Int32) {l : Launch} {G : xG} {M : xM} {J : xJ} (hI : InvC M) : x_M l G fX9_act 30 0 0 [.ref (0), .int (h), .int (ac_), .int (x)] x_SH M J (qKI WTR M J (fun r M2 => InvC M2 ∧ (ETr (M 46 2) (M 47) h ac_ (M2 46 3) (M2 48)))) := by
  refine xb_of pX9 (Nat.le_of_ble_eq_true rfl) rfl ?_
  obtain ⟨⟨cn, h_cn, e_cn⟩, ⟨cm, h_cm, e_cm⟩, ⟨L, h_L, e_L⟩, hv, hD, ⟨n, h_n, e_n⟩, ⟨un, wn, h_uw, h_wn, e_un, e_wn⟩, ⟨b, h_b, e_b⟩, hkd, ⟨ra, h_ra, e_ra⟩, hsl, hS⟩ := hI
  refine xr_aload_n dX9_act_0 0 rfl ?_
  refine xr_getR flX9_61 dX9_act_1 s_0 rfl ?_
  refine xr_iconst (v := 0) dX9_act_4 rfl ?_
  refine xr_putI fpX9_334 dX9_act_5 s_46 rfl rfl rfl ?_
  refine xr_aload_n dX9_act_8 0 rfl ?_
  refine xr_getR flX9_61 dX9_act_9 s_0 rfl ?_
  refine xr_iload_n dX9_act_12 1 rfl ?_
  refine xb_cV (As := [.int (h)]) (rest := []) mlX9_337 (c_X8_has h (by omega) (Eq.trans (x_up_k _ _ _ (by decide)) e_b)) dX9_act_13 s_46 rfl rfl (Nat.le_of_ble_eq_true rfl) (by decide) (by decide) ?_
  refine xb_beq (tgt := 28) dX9_act_16 rfl (fun c1 => ?_) (fun c1 => ?_)
  · refine xr_iconst (v := 0) dX9_act_28 rfl ?_
    exact xr_iret dX9_act_29 rfl rfl (⟨_, rfl, rfl, rfl, (Ke.up (Or.inl (by omega)) Ke.rf), ⟨⟨⟨cn, by omega, (Eq.trans (congrFun (x_up_n _ _ _ (by decide)) _) e_cn)⟩, ⟨cm, by omega, (Eq.trans (congrFun (x_up_n _ _ _ (by decide)) _) e_cm)⟩, ⟨L, by omega, (Eq.trans (congrFun (x_up_n _ _ _ (by decide)) _) e_L)⟩, (fun kk hkk => by rw [show (x_up M 46 3 0) 3 kk = M 3 kk from (Eq.trans (congrFun (x_up_n _ _ _ (by omega)) _) rfl)]; exact hv kk hkk), (DI_up (by decide) hD), ⟨n, by omega, (Eq.trans (congrFun (x_up_n _ _ _ (by decide)) _) e_n)⟩, ⟨un, wn, by omega, by omega, (Eq.trans (congrFun (x_up_n _ _ _ (by decide)) _) e_un), (Eq.trans (congrFun (x_up_n _ _ _ (by decide)) _) e_wn)⟩, ⟨b, by omega, (Eq.trans (x_up_k _ _ _ (by decide)) e_b)⟩, (fun j hj => by obtain ⟨q, hq, eq⟩ := hkd j hj; exact ⟨q, hq, (show (x_up M 46 3 0) 47 j = M 47 j from (Eq.trans (congrFun (x_up_n _ _ _ (by omega)) _) rfl)).trans eq⟩), ⟨0, by omega, (x_up_s _ _ _ _)⟩, (fun j hj => by obtain ⟨s, hs, es⟩ := hsl j hj; exact ⟨s, hs, (show (x_up M 46 3 0) (50 + 2 * j) 3 = M (50 + 2 * j) 3 from (Eq.trans (congrFun (x_up_n _ _ _ (by omega)) _) rfl)).trans es⟩), (fun j hj => by obtain ⟨q, hq, eq⟩ := hS j hj; exact ⟨q, hq, (show (x_up M 46 3 0) 36 j = M 36 j from (Eq.trans (congrFun (x_up_n _ _ _ (by omega)) _) rfl)).trans eq⟩)⟩, (Or.inl ⟨(fun q => c1 (by have q1 := q.1; rw [e_b] at q1; exact q1)), (x_up_s _ _ _ _)⟩)⟩⟩)
  · obtain ⟨h_, hh_, rfl⟩ := x_nat (N := b) (by omega) rfl c1
    refine xr_iload_n dX9_act_19 2 rfl ?_
    refine xr_if_lt (tgt := 28) dX9_act_20 rfl (fun c2 => ?_) (fun c2 => ?_)
    · refine xr_iconst (v := 0) dX9_act_28 rfl ?_
      exact xr_iret dX9_act_29 rfl rfl (⟨_, rfl, rfl, rfl, (Ke.up (Or.inl (by omega)) Ke.rf), ⟨⟨⟨cn, by omega, (Eq.trans (congrFun (x_up_n _ _ _ (by decide)) _) e_cn)⟩, ⟨cm, by omega, (Eq.trans (congrFun (x_up_n _ _ _ (by decide)) _) e_cm)⟩, ⟨L, by omega, (Eq.trans (congrFun (x_up_n _ _ _ (by decide)) _) e_L)⟩, (fun kk hkk => by rw [show (x_up M 46 3 0) 3 kk = M 3 kk from (Eq.trans (congrFun (x_up_n _ _ _ (by omega)) _) rfl)]; exact hv kk hkk), (DI_up (by decide) hD), ⟨n, by omega, (Eq.trans (congrFun (x_up_n _ _ _ (by decide)) _) e_n)⟩, ⟨un, wn, by omega, by omega, (Eq.trans (congrFun (x_up_n _ _ _ (by decide)) _) e_un), (Eq.trans (congrFun (x_up_n _ _ _ (by decide)) _) e_wn)⟩, ⟨b, by omega, (Eq.trans (x_up_k _ _ _ (by decide)) e_b)⟩, (fun j hj => by obtain ⟨q, hq, eq⟩ := hkd j hj; exact ⟨q, hq, (show (x_up M 46 3 0) 47 j = M 47 j from (Eq.trans (congrFun (x_up_n _ _ _ (by omega)) _) rfl)).trans eq⟩), ⟨0, by omega, (x_up_s _ _ _ _)⟩, (fun j hj => by obtain ⟨s, hs, es⟩ := hsl j hj; exact ⟨s, hs, (show (x_up M 46 3 0) (50 + 2 * j) 3 = M (50 + 2 * j) 3 from (Eq.trans (congrFun (x_up_n _ _ _ (by omega)) _) rfl)).trans es⟩), (fun j hj => by obtain ⟨q, hq, eq⟩ := hS j hj; exact ⟨q, hq, (show (x_up M 46 3 0) 36 j = M 36 j from (Eq.trans (congrFun (x_up_n _ _ _ (by omega)) _) rfl)).trans eq⟩)⟩, (Or.inl ⟨(fun q => absurd q.2.1 (by grind)), (x_up_s _ _ _ _)⟩)⟩⟩)
    · refine xr_iload_n dX9_act_23 2 rfl ?_
      refine xr_iconst (v := 4) dX9_act_24 rfl ?_
      refine xr_icmp_lt (tgt := 30) dX9_act_25 rfl (fun c3 => ?_) (fun c3 => ?_)
      · obtain ⟨A, hA, rfl⟩ := x_natle (v := ac_) (N := 3) (K := 3) (by decide) (by decide) ⟨by grind, by grind⟩
        refine xr_aload_n dX9_act_30 0 rfl ?_
        refine xr_getR flX9_61 dX9_act_31 s_0 rfl ?_
        refine xr_iload_n dX9_act_34 1 rfl ?_
        refine xr_iload_n dX9_act_35 2 rfl ?_
        refine xr_iload_n dX9_act_36 3 rfl ?_
        obtain ⟨q9, hq9, eq9⟩ := hkd h_ (by omega)
        have hA4 : A = 0 ∨ A = 1 ∨ A = 2 ∨ A = 3 := by omega
        have hq8 : q9 = 0 ∨ q9 = 1 ∨ q9 = 2 ∨ q9 = 3 ∨ q9 = 4 ∨ q9 = 5 ∨ q9 = 6 ∨ q9 = 7 := by omega
        rcases hA4 with rfl | rfl | rfl | rfl
        · rcases hq8 with rfl | rfl | rfl | rfl | rfl | rfl | rfl | rfl
          · refine xr_callV (As := [.int (nI (h_)), .int (0), .int (x)]) (rest := []) mlX9_338 (tw0_0 (ac := h_) x h_b (Eq.trans (x_up_k _ _ _ (by decide)) e_b) (by omega) ((Eq.trans (congrFun (x_up_n _ _ _ (by omega)) _) rfl).trans eq9)) dX9_act_37 s_46 rfl rfl (Nat.le_of_ble_eq_true rfl) (by decide) ⟨by decide, by decide⟩ (fun v s2 M6 J2 hq => ?_)
            obtain ⟨r8, rfl, rfl, rfl, k7, ⟨hx4, ht5⟩⟩ := hq
            try dsimp only [Option.toList, List.cons_append, List.nil_append]
            exact xr_iret dX9_act_40 rfl rfl (⟨_, rfl, rfl, rfl, (Ke.tr (fun _ _ h => h) (Ke.up (Or.inl (by omega)) Ke.rf) k7), ⟨⟨⟨cn, by omega, (Eq.trans (k7 13 2 (by decide)) (Eq.trans (congrFun (x_up_n _ _ _ (by decide)) _) e_cn))⟩, ⟨cm, by omega, (Eq.trans (k7 20 2 (by decide)) (Eq.trans (congrFun (x_up_n _ _ _ (by decide)) _) e_cm))⟩, ⟨L, by omega, (Eq.trans (k7 1 4 (by decide)) (Eq.trans (congrFun (x_up_n _ _ _ (by decide)) _) e_L))⟩, (fun kk hkk => by rw [show M6 3 kk = M 3 kk from (Eq.trans (k7 3 kk (by unfold WTR; omega)) (Eq.trans (congrFun (x_up_n _ _ _ (by omega)) _) rfl))]; exact hv kk hkk), (DI_ke (by intro k; unfold WTR; omega) k7 (DI_up (by decide) hD)), ⟨n, by omega, (Eq.trans (k7 6 2 (by decide)) (Eq.trans (congrFun (x_up_n _ _ _ (by decide)) _) e_n))⟩, ⟨un, wn, by omega, by omega, (Eq.trans (k7 41 4 (by decide)) (Eq.trans (congrFun (x_up_n _ _ _ (by decide)) _) e_un)), (Eq.trans (k7 41 5 (by decide)) (Eq.trans (congrFun (x_up_n _ _ _ (by decide)) _) e_wn))⟩, ⟨b, by omega, (Eq.trans (k7 46 2 (by decide)) (Eq.trans (x_up_k _ _ _ (by decide)) e_b))⟩, (fun j hj => by obtain ⟨q, hq, eq⟩ := hkd j hj; exact ⟨q, hq, (show M6 47 j = M 47 j from (Eq.trans (k7 47 j (by unfold WTR; omega)) (Eq.trans (congrFun (x_up_n _ _ _ (by omega)) _) rfl))).trans eq⟩), ⟨1, by omega, hx4⟩, (fun j hj => by obtain ⟨s, hs, es⟩ := hsl j hj; exact ⟨s, hs, (show M6 (50 + 2 * j) 3 = M (50 + 2 * j) 3 from (Eq.trans (k7 (50 + 2 * j) 3 (by unfold WTR; omega)) (Eq.trans (congrFun (x_up_n _ _ _ (by omega)) _) rfl))).trans es⟩), (fun j hj => by obtain ⟨q, hq, eq⟩ := hS j hj; exact ⟨q, hq, (show M6 36 j = M 36 j from (Eq.trans (k7 36 j (by unfold WTR; omega)) (Eq.trans (congrFun (x_up_n _ _ _ (by omega)) _) rfl))).trans eq⟩)⟩, (Or.inr ⟨⟨by rw [e_b]; exact c1, by grind, by grind⟩, h_, 0, 0, by omega, by decide, by decide, rfl, eq9, rfl, hx4, ht5⟩)⟩⟩)
          · refine xr_callV (As := [.int (nI (h_)), .int (0), .int (x)]) (rest := []) mlX9_338 (tw1_0 (ac := h_) x h_b (Eq.trans (x_up_k _ _ _ (by decide)) e_b) (by omega) ((Eq.trans (congrFun (x_up_n _ _ _ (by omega)) _) rfl).trans eq9)) dX9_act_37 s_46 rfl rfl (Nat.le_of_ble_eq_true rfl) (by decide) ⟨by decide, by decide⟩ (fun v s2 M11 J2 hq => ?_)
            obtain ⟨r13, rfl, rfl, rfl, k12, ⟨hx9, ht10⟩⟩ := hq
            try dsimp only [Option.toList, List.cons_append, List.nil_append]
            exact xr_iret dX9_act_40 rfl rfl (⟨_, rfl, rfl, rfl, (Ke.tr (fun _ _ h => h) (Ke.up (Or.inl (by omega)) Ke.rf) k12), ⟨⟨⟨cn, by omega, (Eq.trans (k12 13 2 (by decide)) (Eq.trans (congrFun (x_up_n _ _ _ (by decide)) _) e_cn))⟩, ⟨cm, by omega, (Eq.trans (k12 20 2 (by decide)) (Eq.trans (congrFun (x_up_n _ _ _ (by decide)) _) e_cm))⟩, ⟨L, by omega, (Eq.trans (k12 1 4 (by decide)) (Eq.trans (congrFun (x_up_n _ _ _ (by decide)) _) e_L))⟩, (fun kk hkk => by rw [show M11 3 kk = M 3 kk from (Eq.trans (k12 3 kk (by unfold WTR; omega)) (Eq.trans (congrFun (x_up_n _ _ _ (by omega)) _) rfl))]; exact hv kk hkk), (DI_ke (by intro k; unfold WTR; omega) k12 (DI_up (by decide) hD)), ⟨n, by omega, (Eq.trans (k12 6 2 (by decide)) (Eq.trans (congrFun (x_up_n _ _ _ (by decide)) _) e_n))⟩, ⟨un, wn, by omega, by omega, (Eq.trans (k12 41 4 (by decide)) (Eq.trans (congrFun (x_up_n _ _ _ (by decide)) _) e_un)), (Eq.trans (k12 41 5 (by decide)) (Eq.trans (congrFun (x_up_n _ _ _ (by decide)) _) e_wn))⟩, ⟨b, by omega, (Eq.trans (k12 46 2 (by decide)) (Eq.trans (x_up_k _ _ _ (by decide)) e_b))⟩, (fun j hj => by obtain ⟨q, hq, eq⟩ := hkd j hj; exact ⟨q, hq, (show M11 47 j = M 47 j from (Eq.trans (k12 47 j (by unfold WTR; omega)) (Eq.trans (congrFun (x_up_n _ _ _ (by omega)) _) rfl))).trans eq⟩), ⟨2, by omega, hx9⟩, (fun j hj => by obtain ⟨s, hs, es⟩ := hsl j hj; exact ⟨s, hs, (show M11 (50 + 2 * j) 3 = M (50 + 2 * j) 3 from (Eq.trans (k12 (50 + 2 * j) 3 (by unfold WTR; omega)) (Eq.trans (congrFun (x_up_n _ _ _ (by omega)) _) rfl))).trans es⟩), (fun j hj => by obtain ⟨q, hq, eq⟩ := hS j hj; exact ⟨q, hq, (show M11 36 j = M 36 j from (Eq.trans (k12 36 j (by unfold WTR; omega)) (Eq.trans (congrFun (x_up_n _ _ _ (by omega)) _) rfl))).trans eq⟩)⟩, (Or.inr ⟨⟨by rw [e_b]; exact c1, by grind, by grind⟩, h_, 1, 0, by omega, by decide, by decide, rfl, eq9, rfl, hx9, ht10⟩)⟩⟩)
          · refine xr_callV (As := [.int (nI (h_)), .int (0), .int (x)]) (rest := []) mlX9_338 (tw2_0 (ac := h_) x h_b (Eq.trans (x_up_k _ _ _ (by decide)) e_b) (by omega) ((Eq.trans (congrFun (x_up_n _ _ _ (by omega)) _) rfl).trans eq9)) dX9_act_37 s_46 rfl rfl (Nat.le_of_ble_eq_true rfl) (by decide) ⟨by decide, by decide⟩ (fun v s2 M16 J2 hq => ?_)
            obtain ⟨r18, rfl, rfl, rfl, k17, ⟨hx14, ht15⟩⟩ := hq
            try dsimp only [Option.toList, List.cons_append, List.nil_append]
            exact xr_iret dX9_act_40 rfl rfl (⟨_, rfl, rfl, rfl, (Ke.tr (fun _ _ h => h) (Ke.up (Or.inl (by omega)) Ke.rf) k17), ⟨⟨⟨cn, by omega, (Eq.trans (k17 13 2 (by decide)) (Eq.trans (congrFun (x_up_n _ _ _ (by decide)) _) e_cn))⟩, ⟨cm, by omega, (Eq.trans (k17 20 2 (by decide)) (Eq.trans (congrFun (x_up_n _ _ _ (by decide)) _) e_cm))⟩, ⟨L, by omega, (Eq.trans (k17 1 4 (by decide)) (Eq.trans (congrFun (x_up_n _ _ _ (by decide)) _) e_L))⟩, (fun kk hkk => by rw [show M16 3 kk = M 3 kk from (Eq.trans (k17 3 kk (by unfold WTR; omega)) (Eq.trans (congrFun (x_up_n _ _ _ (by omega)) _) rfl))]; exact hv kk hkk), (DI_ke (by intro k; unfold WTR; omega) k17 (DI_up (by decide) hD)), ⟨n, by omega, (Eq.trans (k17 6 2 (by decide)) (Eq.trans (congrFun (x_up_n _ _ _ (by decide)) _) e_n))⟩, ⟨un, wn, by omega, by omega, (Eq.trans (k17 41 4 (by decide)) (Eq.trans (congrFun (x_up_n _ _ _ (by decide)) _) e_un)), (Eq.trans (k17 41 5 (by decide)) (Eq.trans (congrFun (x_up_n _ _ _ (by decide)) _) e_wn))⟩, ⟨b, by omega, (Eq.trans (k17 46 2 (by decide)) (Eq.trans (x_up_k _ _ _ (by decide)) e_b))⟩, (fun j hj => by obtain ⟨q, hq, eq⟩ := hkd j hj; exact ⟨q, hq, (show M16 47 j = M 47 j from (Eq.trans (k17 47 j (by unfold WTR; omega)) (Eq.trans (congrFun (x_up_n _ _ _ (by omega)) _) rfl))).trans eq⟩), ⟨1, by omega, hx14⟩, (fun j hj => by obtain ⟨s, hs, es⟩ := hsl j hj; exact ⟨s, hs, (show M16 (50 + 2 * j) 3 = M (50 + 2 * j) 3 from (Eq.trans (k17 (50 + 2 * j) 3 (by unfold WTR; omega)) (Eq.trans (congrFun (x_up_n _ _ _ (by omega)) _) rfl))).trans es⟩), (fun j hj => by obtain ⟨q, hq, eq⟩ := hS j hj; exact ⟨q, hq, (show M16 36 j = M 36 j from (Eq.trans (k17 36 j (by unfold WTR; omega)) (Eq.trans (congrFun (x_up_n _ _ _ (by omega)) _) rfl))).trans eq⟩)⟩, (Or.inr ⟨⟨by rw [e_b]; exact c1, by grind, by grind⟩, h_, 2, 0, by omega, by decide, by decide, rfl, eq9, rfl, hx14, ht15⟩)⟩⟩)
          · refine xr_callV (As := [.int (nI (h_)), .int (0), .int (x)]) (rest := []) mlX9_338 (tw3_0 (ac := h_) x h_b (Eq.trans (x_up_k _ _ _ (by decide)) e_b) (by omega) ((Eq.trans (congrFun (x_up_n _ _ _ (by omega)) _) rfl).trans eq9)) dX9_act_37 s_46 rfl rfl (Nat.le_of_ble_eq_true rfl) (by decide) ⟨by decide, by decide⟩ (fun v s2 M21 J2 hq => ?_)
            obtain ⟨r23, rfl, rfl, rfl, k22, ⟨hx19, ht20⟩⟩ := hq
            try dsimp only [Option.toList, List.cons_append, List.nil_append]
            exact xr_iret dX9_act_40 rfl rfl (⟨_, rfl, rfl, rfl, (Ke.tr (fun _ _ h => h) (Ke.up (Or.inl (by omega)) Ke.rf) k22), ⟨⟨⟨cn, by omega, (Eq.trans (k22 13 2 (by decide)) (Eq.trans (congrFun (x_up_n _ _ _ (by decide)) _) e_cn))⟩, ⟨cm, by omega, (Eq.trans (k22 20 2 (by decide)) (Eq.trans (congrFun (x_up_n _ _ _ (by decide)) _) e_cm))⟩, ⟨L, by omega, (Eq.trans (k22 1 4 (by decide)) (Eq.trans (congrFun (x_up_n _ _ _ (by decide)) _) e_L))⟩, (fun kk hkk => by rw [show M21 3 kk = M 3 kk from (Eq.trans (k22 3 kk (by unfold WTR; omega)) (Eq.trans (congrFun (x_up_n _ _ _ (by omega)) _) rfl))]; exact hv kk hkk), (DI_ke (by intro k; unfold WTR; omega) k22 (DI_up (by decide) hD)), ⟨n, by omega, (Eq.trans (k22 6 2 (by decide)) (Eq.trans (congrFun (x_up_n _ _ _ (by decide)) _) e_n))⟩, ⟨un, wn, by omega, by omega, (Eq.trans (k22 41 4 (by decide)) (Eq.trans (congrFun (x_up_n _ _ _ (by decide)) _) e_un)), (Eq.trans (k22 41 5 (by decide)) (Eq.trans (congrFun (x_up_n _ _ _ (by decide)) _) e_wn))⟩, ⟨b, by omega, (Eq.trans (k22 46 2 (by decide)) (Eq.trans (x_up_k _ _ _ (by decide)) e_b))⟩, (fun j hj => by obtain ⟨q, hq, eq⟩ := hkd j hj; exact ⟨q, hq, (show M21 47 j = M 47 j from (Eq.trans (k22 47 j (by unfold WTR; omega)) (Eq.trans (congrFun (x_up_n _ _ _ (by omega)) _) rfl))).trans eq⟩), ⟨1, by omega, hx19⟩, (fun j hj => by obtain ⟨s, hs, es⟩ := hsl j hj; exact ⟨s, hs, (show M21 (50 + 2 * j) 3 = M (50 + 2 * j) 3 from (Eq.trans (k22 (50 + 2 * j) 3 (by unfold WTR; omega)) (Eq.trans (congrFun (x_up_n _ _ _ (by omega)) _) rfl))).trans es⟩), (fun j hj => by obtain ⟨q, hq, eq⟩ := hS j hj; exact ⟨q, hq, (show M21 36 j = M 36 j from (Eq.trans (k22 36 j (by unfold WTR; omega)) (Eq.trans (congrFun (x_up_n _ _ _ (by omega)) _) rfl))).trans eq⟩)⟩, (Or.inr ⟨⟨by rw [e_b]; exact c1, by grind, by grind⟩, h_, 3, 0, by omega, by decide, by decide, rfl, eq9, rfl, hx19, ht20⟩)⟩⟩)
          · refine xr_callV (As := [.int (nI (h_)), .int (0), .int (x)]) (rest := []) mlX9_338 (tw4_0 (ac := h_) x h_b (Eq.trans (x_up_k _ _ _ (by decide)) e_b) (by omega) ((Eq.trans (congrFun (x_up_n _ _ _ (by omega)) _) rfl).trans eq9)) dX9_act_37 s_46 rfl rfl (Nat.le_of_ble_eq_true rfl) (by decide) ⟨by decide, by decide⟩ (fun v s2 M26 J2 hq => ?_)
            obtain ⟨r28, rfl, rfl, rfl, k27, ⟨hx24, ht25⟩⟩ := hq
            try dsimp only [Option.toList, List.cons_append, List.nil_append]
            exact xr_iret dX9_act_40 rfl rfl (⟨_, rfl, rfl, rfl, (Ke.tr (fun _ _ h => h) (Ke.up (Or.inl (by omega)) Ke.rf) k27), ⟨⟨⟨cn, by omega, (Eq.trans (k27 13 2 (by decide)) (Eq.trans (congrFun (x_up_n _ _ _ (by decide)) _) e_cn))⟩, ⟨cm, by omega, (Eq.trans (k27 20 2 (by decide)) (Eq.trans (congrFun (x_up_n _ _ _ (by decide)) _) e_cm))⟩, ⟨L, by omega, (Eq.trans (k27 1 4 (by decide)) (Eq.trans (congrFun (x_up_n _ _ _ (by decide)) _) e_L))⟩, (fun kk hkk => by rw [show M26 3 kk = M 3 kk from (Eq.trans (k27 3 kk (by unfold WTR; omega)) (Eq.trans (congrFun (x_up_n _ _ _ (by omega)) _) rfl))]; exact hv kk hkk), (DI_ke (by intro k; unfold WTR; omega) k27 (DI_up (by decide) hD)), ⟨n, by omega, (Eq.trans (k27 6 2 (by decide)) (Eq.trans (congrFun (x_up_n _ _ _ (by decide)) _) e_n))⟩, ⟨un, wn, by omega, by omega, (Eq.trans (k27 41 4 (by decide)) (Eq.trans (congrFun (x_up_n _ _ _ (by decide)) _) e_un)), (Eq.trans (k27 41 5 (by decide)) (Eq.trans (congrFun (x_up_n _ _ _ (by decide)) _) e_wn))⟩, ⟨b, by omega, (Eq.trans (k27 46 2 (by decide)) (Eq.trans (x_up_k _ _ _ (by decide)) e_b))⟩, (fun j hj => by obtain ⟨q, hq, eq⟩ := hkd j hj; exact ⟨q, hq, (show M26 47 j = M 47 j from (Eq.trans (k27 47 j (by unfold WTR; omega)) (Eq.trans (congrFun (x_up_n _ _ _ (by omega)) _) rfl))).trans eq⟩), ⟨2, by omega, hx24⟩, (fun j hj => by obtain ⟨s, hs, es⟩ := hsl j hj; exact ⟨s, hs, (show M26 (50 + 2 * j) 3 = M (50 + 2 * j) 3 from (Eq.trans (k27 (50 + 2 * j) 3 (by unfold WTR; omega)) (Eq.trans (congrFun (x_up_n _ _ _ (by omega)) _) rfl))).trans es⟩), (fun j hj => by obtain ⟨q, hq, eq⟩ := hS j hj; exact ⟨q, hq, (show M26 36 j = M 36 j from (Eq.trans (k27 36 j (by unfold WTR; omega)) (Eq.trans (congrFun (x_up_n _ _ _ (by omega)) _) rfl))).trans eq⟩)⟩, (Or.inr ⟨⟨by rw [e_b]; exact c1, by grind, by grind⟩, h_, 4, 0, by omega, by decide, by decide, rfl, eq9, rfl, hx24, ht25⟩)⟩⟩)
          · refine xr_callV (As := [.int (nI (h_)), .int (0), .int (x)]) (rest := []) mlX9_338 (tw5_0 (ac := h_) x h_b (Eq.trans (x_up_k _ _ _ (by decide)) e_b) (by omega) ((Eq.trans (congrFun (x_up_n _ _ _ (by omega)) _) rfl).trans eq9)) dX9_act_37 s_46 rfl rfl (Nat.le_of_ble_eq_true rfl) (by decide) ⟨by decide, by decide⟩ (fun v s2 M31 J2 hq => ?_)
            obtain ⟨r33, rfl, rfl, rfl, k32, ⟨hx29, ht30⟩⟩ := hq
            try dsimp only [Option.toList, List.cons_append, List.nil_append]
            exact xr_iret dX9_act_40 rfl rfl (⟨_, rfl, rfl, rfl, (Ke.tr (fun _ _ h => h) (Ke.up (Or.inl (by omega)) Ke.rf) k32), ⟨⟨⟨cn, by omega, (Eq.trans (k32 13 2 (by decide)) (Eq.trans (congrFun (x_up_n _ _ _ (by decide)) _) e_cn))⟩, ⟨cm, by omega, (Eq.trans (k32 20 2 (by decide)) (Eq.trans (congrFun (x_up_n _ _ _ (by decide)) _) e_cm))⟩, ⟨L, by omega, (Eq.trans (k32 1 4 (by decide)) (Eq.trans (congrFun (x_up_n _ _ _ (by decide)) _) e_L))⟩, (fun kk hkk => by rw [show M31 3 kk = M 3 kk from (Eq.trans (k32 3 kk (by unfold WTR; omega)) (Eq.trans (congrFun (x_up_n _ _ _ (by omega)) _) rfl))]; exact hv kk hkk), (DI_ke (by intro k; unfold WTR; omega) k32 (DI_up (by decide) hD)), ⟨n, by omega, (Eq.trans (k32 6 2 (by decide)) (Eq.trans (congrFun (x_up_n _ _ _ (by decide)) _) e_n))⟩, ⟨un, wn, by omega, by omega, (Eq.trans (k32 41 4 (by decide)) (Eq.trans (congrFun (x_up_n _ _ _ (by decide)) _) e_un)), (Eq.trans (k32 41 5 (by decide)) (Eq.trans (congrFun (x_up_n _ _ _ (by decide)) _) e_wn))⟩, ⟨b, by omega, (Eq.trans (k32 46 2 (by decide)) (Eq.trans (x_up_k _ _ _ (by decide)) e_b))⟩, (fun j hj => by obtain ⟨q, hq, eq⟩ := hkd j hj; exact ⟨q, hq, (show M31 47 j = M 47 j from (Eq.trans (k32 47 j (by unfold WTR; omega)) (Eq.trans (congrFun (x_up_n _ _ _ (by omega)) _) rfl))).trans eq⟩), ⟨1, by omega, hx29⟩, (fun j hj => by obtain ⟨s, hs, es⟩ := hsl j hj; exact ⟨s, hs, (show M31 (50 + 2 * j) 3 = M (50 + 2 * j) 3 from (Eq.trans (k32 (50 + 2 * j) 3 (by unfold WTR; omega)) (Eq.trans (congrFun (x_up_n _ _ _ (by omega)) _) rfl))).trans es⟩), (fun j hj => by obtain ⟨q, hq, eq⟩ := hS j hj; exact ⟨q, hq, (show M31 36 j = M 36 j from (Eq.trans (k32 36 j (by unfold WTR; omega)) (Eq.trans (congrFun (x_up_n _ _ _ (by omega)) _) rfl))).trans eq⟩)⟩, (Or.inr ⟨⟨by rw [e_b]; exact c1, by grind, by grind⟩, h_, 5, 0, by omega, by decide, by decide, rfl, eq9, rfl, hx29, ht30⟩)⟩⟩)
          · refine xr_callV (As := [.int (nI (h_)), .int (0), .int (x)]) (rest := []) mlX9_338 (tw6_0 (ac := h_) x h_b (Eq.trans (x_up_k _ _ _ (by decide)) e_b) (by omega) ((Eq.trans (congrFun (x_up_n _ _ _ (by omega)) _) rfl).trans eq9)) dX9_act_37 s_46 rfl rfl (Nat.le_of_ble_eq_true rfl) (by decide) ⟨by decide, by decide⟩ (fun v s2 M36 J2 hq => ?_)
            obtain ⟨r38, rfl, rfl, rfl, k37, ⟨hx34, ht35⟩⟩ := hq
            try dsimp only [Option.toList, List.cons_append, List.nil_append]
            exact xr_iret dX9_act_40 rfl rfl (⟨_, rfl, rfl, rfl, (Ke.tr (fun _ _ h => h) (Ke.up (Or.inl (by omega)) Ke.rf) k37), ⟨⟨⟨cn, by omega, (Eq.trans (k37 13 2 (by decide)) (Eq.trans (congrFun (x_up_n _ _ _ (by decide)) _) e_cn))⟩, ⟨cm, by omega, (Eq.trans (k37 20 2 (by decide)) (Eq.trans (congrFun (x_up_n _ _ _ (by decide)) _) e_cm))⟩, ⟨L, by omega, (Eq.trans (k37 1 4 (by decide)) (Eq.trans (congrFun (x_up_n _ _ _ (by decide)) _) e_L))⟩, (fun kk hkk => by rw [show M36 3 kk = M 3 kk from (Eq.trans (k37 3 kk (by unfold WTR; omega)) (Eq.trans (congrFun (x_up_n _ _ _ (by omega)) _) rfl))]; exact hv kk hkk), (DI_ke (by intro k; unfold WTR; omega) k37 (DI_up (by decide) hD)), ⟨n, by omega, (Eq.trans (k37 6 2 (by decide)) (Eq.trans (congrFun (x_up_n _ _ _ (by decide)) _) e_n))⟩, ⟨un, wn, by omega, by omega, (Eq.trans (k37 41 4 (by decide)) (Eq.trans (congrFun (x_up_n _ _ _ (by decide)) _) e_un)), (Eq.trans (k37 41 5 (by decide)) (Eq.trans (congrFun (x_up_n _ _ _ (by decide)) _) e_wn))⟩, ⟨b, by omega, (Eq.trans (k37 46 2 (by decide)) (Eq.trans (x_up_k _ _ _ (by decide)) e_b))⟩, (fun j hj => by obtain ⟨q, hq, eq⟩ := hkd j hj; exact ⟨q, hq, (show M36 47 j = M 47 j from (Eq.trans (k37 47 j (by unfold WTR; omega)) (Eq.trans (congrFun (x_up_n _ _ _ (by omega)) _) rfl))).trans eq⟩), ⟨2, by omega, hx34⟩, (fun j hj => by obtain ⟨s, hs, es⟩ := hsl j hj; exact ⟨s, hs, (show M36 (50 + 2 * j) 3 = M (50 + 2 * j) 3 from (Eq.trans (k37 (50 + 2 * j) 3 (by unfold WTR; omega)) (Eq.trans (congrFun (x_up_n _ _ _ (by omega)) _) rfl))).trans es⟩), (fun j hj => by obtain ⟨q, hq, eq⟩ := hS j hj; exact ⟨q, hq, (show M36 36 j = M 36 j from (Eq.trans (k37 36 j (by unfold WTR; omega)) (Eq.trans (congrFun (x_up_n _ _ _ (by omega)) _) rfl))).trans eq⟩)⟩, (Or.inr ⟨⟨by rw [e_b]; exact c1, by grind, by grind⟩, h_, 6, 0, by omega, by decide, by decide, rfl, eq9, rfl, hx34, ht35⟩)⟩⟩)
          · refine xr_callV (As := [.int (nI (h_)), .int (0), .int (x)]) (rest := []) mlX9_338 (tw7_0 (ac := h_) x h_b (Eq.trans (x_up_k _ _ _ (by decide)) e_b) (by omega) ((Eq.trans (congrFun (x_up_n _ _ _ (by omega)) _) rfl).trans eq9)) dX9_act_37 s_46 rfl rfl (Nat.le_of_ble_eq_true rfl) (by decide) ⟨by decide, by decide⟩ (fun v s2 M41 J2 hq => ?_)
            obtain ⟨r43, rfl, rfl, rfl, k42, ⟨hx39, ht40⟩⟩ := hq
            try dsimp only [Option.toList, List.cons_append, List.nil_append]
            exact xr_iret dX9_act_40 rfl rfl (⟨_, rfl, rfl, rfl, (Ke.tr (fun _ _ h => h) (Ke.up (Or.inl (by omega)) Ke.rf) k42), ⟨⟨⟨cn, by omega, (Eq.trans (k42 13 2 (by decide)) (Eq.trans (congrFun (x_up_n _ _ _ (by decide)) _) e_cn))⟩, ⟨cm, by omega, (Eq.trans (k42 20 2 (by decide)) (Eq.trans (congrFun (x_up_n _ _ _ (by decide)) _) e_cm))⟩, ⟨L, by omega, (Eq.trans (k42 1 4 (by decide)) (Eq.trans (congrFun (x_up_n _ _ _ (by decide)) _) e_L))⟩, (fun kk hkk => by rw [show M41 3 kk = M 3 kk from (Eq.trans (k42 3 kk (by unfold WTR; omega)) (Eq.trans (congrFun (x_up_n _ _ _ (by omega)) _) rfl))]; exact hv kk hkk), (DI_ke (by intro k; unfold WTR; omega) k42 (DI_up (by decide) hD)), ⟨n, by omega, (Eq.trans (k42 6 2 (by decide)) (Eq.trans (congrFun (x_up_n _ _ _ (by decide)) _) e_n))⟩, ⟨un, wn, by omega, by omega, (Eq.trans (k42 41 4 (by decide)) (Eq.trans (congrFun (x_up_n _ _ _ (by decide)) _) e_un)), (Eq.trans (k42 41 5 (by decide)) (Eq.trans (congrFun (x_up_n _ _ _ (by decide)) _) e_wn))⟩, ⟨b, by omega, (Eq.trans (k42 46 2 (by decide)) (Eq.trans (x_up_k _ _ _ (by decide)) e_b))⟩, (fun j hj => by obtain ⟨q, hq, eq⟩ := hkd j hj; exact ⟨q, hq, (show M41 47 j = M 47 j from (Eq.trans (k42 47 j (by unfold WTR; omega)) (Eq.trans (congrFun (x_up_n _ _ _ (by omega)) _) rfl))).trans eq⟩), ⟨2, by omega, hx39⟩, (fun j hj => by obtain ⟨s, hs, es⟩ := hsl j hj; exact ⟨s, hs, (show M41 (50 + 2 * j) 3 = M (50 + 2 * j) 3 from (Eq.trans (k42 (50 + 2 * j) 3 (by unfold WTR; omega)) (Eq.trans (congrFun (x_up_n _ _ _ (by omega)) _) rfl))).trans es⟩), (fun j hj => by obtain ⟨q, hq, eq⟩ := hS j hj; exact ⟨q, hq, (show M41 36 j = M 36 j from (Eq.trans (k42 36 j (by unfold WTR; omega)) (Eq.trans (congrFun (x_up_n _ _ _ (by omega)) _) rfl))).trans eq⟩)⟩, (Or.inr ⟨⟨by rw [e_b]; exact c1, by grind, by grind⟩, h_, 7, 0, by omega, by decide, by decide, rfl, eq9, rfl, hx39, ht40⟩)⟩⟩)
        · rcases hq8 with rfl | rfl | rfl | rfl | rfl | rfl | rfl | rfl
          · refine xr_callV (As := [.int (nI (h_)), .int (1), .int (x)]) (rest := []) mlX9_338 (tw0_1 (ac := h_) x h_b (Eq.trans (x_up_k _ _ _ (by decide)) e_b) (by omega) ((Eq.trans (congrFun (x_up_n _ _ _ (by omega)) _) rfl).trans eq9)) dX9_act_37 s_46 rfl rfl (Nat.le_of_ble_eq_true rfl) (by decide) ⟨by decide, by decide⟩ (fun v s2 M46 J2 hq => ?_)
            obtain ⟨r48, rfl, rfl, rfl, k47, ⟨hx44, ht45⟩⟩ := hq
            try dsimp only [Option.toList, List.cons_append, List.nil_append]
            exact xr_iret dX9_act_40 rfl rfl (⟨_, rfl, rfl, rfl, (Ke.tr (fun _ _ h => h) (Ke.up (Or.inl (by omega)) Ke.rf) k47), ⟨⟨⟨cn, by omega, (Eq.trans (k47 13 2 (by decide)) (Eq.trans (congrFun (x_up_n _ _ _ (by decide)) _) e_cn))⟩, ⟨cm, by omega, (Eq.trans (k47 20 2 (by decide)) (Eq.trans (congrFun (x_up_n _ _ _ (by decide)) _) e_cm))⟩, ⟨L, by omega, (Eq.trans (k47 1 4 (by decide)) (Eq.trans (congrFun (x_up_n _ _ _ (by decide)) _) e_L))⟩, (fun kk hkk => by rw [show M46 3 kk = M 3 kk from (Eq.trans (k47 3 kk (by unfold WTR; omega)) (Eq.trans (congrFun (x_up_n _ _ _ (by omega)) _) rfl))]; exact hv kk hkk), (DI_ke (by intro k; unfold WTR; omega) k47 (DI_up (by decide) hD)), ⟨n, by omega, (Eq.trans (k47 6 2 (by decide)) (Eq.trans (congrFun (x_up_n _ _ _ (by decide)) _) e_n))⟩, ⟨un, wn, by omega, by omega, (Eq.trans (k47 41 4 (by decide)) (Eq.trans (congrFun (x_up_n _ _ _ (by decide)) _) e_un)), (Eq.trans (k47 41 5 (by decide)) (Eq.trans (congrFun (x_up_n _ _ _ (by decide)) _) e_wn))⟩, ⟨b, by omega, (Eq.trans (k47 46 2 (by decide)) (Eq.trans (x_up_k _ _ _ (by decide)) e_b))⟩, (fun j hj => by obtain ⟨q, hq, eq⟩ := hkd j hj; exact ⟨q, hq, (show M46 47 j = M 47 j from (Eq.trans (k47 47 j (by unfold WTR; omega)) (Eq.trans (congrFun (x_up_n _ _ _ (by omega)) _) rfl))).trans eq⟩), ⟨2, by omega, hx44⟩, (fun j hj => by obtain ⟨s, hs, es⟩ := hsl j hj; exact ⟨s, hs, (show M46 (50 + 2 * j) 3 = M (50 + 2 * j) 3 from (Eq.trans (k47 (50 + 2 * j) 3 (by unfold WTR; omega)) (Eq.trans (congrFun (x_up_n _ _ _ (by omega)) _) rfl))).trans es⟩), (fun j hj => by obtain ⟨q, hq, eq⟩ := hS j hj; exact ⟨q, hq, (show M46 36 j = M 36 j from (Eq.trans (k47 36 j (by unfold WTR; omega)) (Eq.trans (congrFun (x_up_n _ _ _ (by omega)) _) rfl))).trans eq⟩)⟩, (Or.inr ⟨⟨by rw [e_b]; exact c1, by grind, by grind⟩, h_, 0, 1, by omega, by decide, by decide, rfl, eq9, rfl, hx44, ht45⟩)⟩⟩)
          · refine xr_callV (As := [.int (nI (h_)), .int (1), .int (x)]) (rest := []) mlX9_338 (tw1_1 (ac := h_) x h_b (Eq.trans (x_up_k _ _ _ (by decide)) e_b) (by omega) ((Eq.trans (congrFun (x_up_n _ _ _ (by omega)) _) rfl).trans eq9)) dX9_act_37 s_46 rfl rfl (Nat.le_of_ble_eq_true rfl) (by decide) ⟨by decide, by decide⟩ (fun v s2 M51 J2 hq => ?_)
            obtain ⟨r53, rfl, rfl, rfl, k52, ⟨hx49, ht50⟩⟩ := hq
            try dsimp only [Option.toList, List.cons_append, List.nil_append]
            exact xr_iret dX9_act_40 rfl rfl (⟨_, rfl, rfl, rfl, (Ke.tr (fun _ _ h => h) (Ke.up (Or.inl (by omega)) Ke.rf) k52), ⟨⟨⟨cn, by omega, (Eq.trans (k52 13 2 (by decide)) (Eq.trans (congrFun (x_up_n _ _ _ (by decide)) _) e_cn))⟩, ⟨cm, by omega, (Eq.trans (k52 20 2 (by decide)) (Eq.trans (congrFun (x_up_n _ _ _ (by decide)) _) e_cm))⟩, ⟨L, by omega, (Eq.trans (k52 1 4 (by decide)) (Eq.trans (congrFun (x_up_n _ _ _ (by decide)) _) e_L))⟩, (fun kk hkk => by rw [show M51 3 kk = M 3 kk from (Eq.trans (k52 3 kk (by unfold WTR; omega)) (Eq.trans (congrFun (x_up_n _ _ _ (by omega)) _) rfl))]; exact hv kk hkk), (DI_ke (by intro k; unfold WTR; omega) k52 (DI_up (by decide) hD)), ⟨n, by omega, (Eq.trans (k52 6 2 (by decide)) (Eq.trans (congrFun (x_up_n _ _ _ (by decide)) _) e_n))⟩, ⟨un, wn, by omega, by omega, (Eq.trans (k52 41 4 (by decide)) (Eq.trans (congrFun (x_up_n _ _ _ (by decide)) _) e_un)), (Eq.trans (k52 41 5 (by decide)) (Eq.trans (congrFun (x_up_n _ _ _ (by decide)) _) e_wn))⟩, ⟨b, by omega, (Eq.trans (k52 46 2 (by decide)) (Eq.trans (x_up_k _ _ _ (by decide)) e_b))⟩, (fun j hj => by obtain ⟨q, hq, eq⟩ := hkd j hj; exact ⟨q, hq, (show M51 47 j = M 47 j from (Eq.trans (k52 47 j (by unfold WTR; omega)) (Eq.trans (congrFun (x_up_n _ _ _ (by omega)) _) rfl))).trans eq⟩), ⟨3, by omega, hx49⟩, (fun j hj => by obtain ⟨s, hs, es⟩ := hsl j hj; exact ⟨s, hs, (show M51 (50 + 2 * j) 3 = M (50 + 2 * j) 3 from (Eq.trans (k52 (50 + 2 * j) 3 (by unfold WTR; omega)) (Eq.trans (congrFun (x_up_n _ _ _ (by omega)) _) rfl))).trans es⟩), (fun j hj => by obtain ⟨q, hq, eq⟩ := hS j hj; exact ⟨q, hq, (show M51 36 j = M 36 j from (Eq.trans (k52 36 j (by unfold WTR; omega)) (Eq.trans (congrFun (x_up_n _ _ _ (by omega)) _) rfl))).trans eq⟩)⟩, (Or.inr ⟨⟨by rw [e_b]; exact c1, by grind, by grind⟩, h_, 1, 1, by omega, by decide, by decide, rfl, eq9, rfl, hx49, ht50⟩)⟩⟩)
          · refine xr_callV (As := [.int (nI (h_)), .int (1), .int (x)]) (rest := []) mlX9_338 (tw2_1 (ac := h_) x h_b (Eq.trans (x_up_k _ _ _ (by decide)) e_b) (by omega) ((Eq.trans (congrFun (x_up_n _ _ _ (by omega)) _) rfl).trans eq9)) dX9_act_37 s_46 rfl rfl (Nat.le_of_ble_eq_true rfl) (by decide) ⟨by decide, by decide⟩ (fun v s2 M56 J2 hq => ?_)
            obtain ⟨r58, rfl, rfl, rfl, k57, ⟨hx54, ht55⟩⟩ := hq
            try dsimp only [Option.toList, List.cons_append, List.nil_append]
            exact xr_iret dX9_act_40 rfl rfl (⟨_, rfl, rfl, rfl, (Ke.tr (fun _ _ h => h) (Ke.up (Or.inl (by omega)) Ke.rf) k57), ⟨⟨⟨cn, by omega, (Eq.trans (k57 13 2 (by decide)) (Eq.trans (congrFun (x_up_n _ _ _ (by decide)) _) e_cn))⟩, ⟨cm, by omega, (Eq.trans (k57 20 2 (by decide)) (Eq.trans (congrFun (x_up_n _ _ _ (by decide)) _) e_cm))⟩, ⟨L, by omega, (Eq.trans (k57 1 4 (by decide)) (Eq.trans (congrFun (x_up_n _ _ _ (by decide)) _) e_L))⟩, (fun kk hkk => by rw [show M56 3 kk = M 3 kk from (Eq.trans (k57 3 kk (by unfold WTR; omega)) (Eq.trans (congrFun (x_up_n _ _ _ (by omega)) _) rfl))]; exact hv kk hkk), (DI_ke (by intro k; unfold WTR; omega) k57 (DI_up (by decide) hD)), ⟨n, by omega, (Eq.trans (k57 6 2 (by decide)) (Eq.trans (congrFun (x_up_n _ _ _ (by decide)) _) e_n))⟩, ⟨un, wn, by omega, by omega, (Eq.trans (k57 41 4 (by decide)) (Eq.trans (congrFun (x_up_n _ _ _ (by decide)) _) e_un)), (Eq.trans (k57 41 5 (by decide)) (Eq.trans (congrFun (x_up_n _ _ _ (by decide)) _) e_wn))⟩, ⟨b, by omega, (Eq.trans (k57 46 2 (by decide)) (Eq.trans (x_up_k _ _ _ (by decide)) e_b))⟩, (fun j hj => by obtain ⟨q, hq, eq⟩ := hkd j hj; exact ⟨q, hq, (show M56 47 j = M 47 j from (Eq.trans (k57 47 j (by unfold WTR; omega)) (Eq.trans (congrFun (x_up_n _ _ _ (by omega)) _) rfl))).trans eq⟩), ⟨3, by omega, hx54⟩, (fun j hj => by obtain ⟨s, hs, es⟩ := hsl j hj; exact ⟨s, hs, (show M56 (50 + 2 * j) 3 = M (50 + 2 * j) 3 from (Eq.trans (k57 (50 + 2 * j) 3 (by unfold WTR; omega)) (Eq.trans (congrFun (x_up_n _ _ _ (by omega)) _) rfl))).trans es⟩), (fun j hj => by obtain ⟨q, hq, eq⟩ := hS j hj; exact ⟨q, hq, (show M56 36 j = M 36 j from (Eq.trans (k57 36 j (by unfold WTR; omega)) (Eq.trans (congrFun (x_up_n _ _ _ (by omega)) _) rfl))).trans eq⟩)⟩, (Or.inr ⟨⟨by rw [e_b]; exact c1, by grind, by grind⟩, h_, 2, 1, by omega, by decide, by decide, rfl, eq9, rfl, hx54, ht55⟩)⟩⟩)
          · refine xr_callV (As := [.int (nI (h_)), .int (1), .int (x)]) (rest := []) mlX9_338 (tw3_1 (ac := h_) x h_b (Eq.trans (x_up_k _ _ _ (by decide)) e_b) (by omega) ((Eq.trans (congrFun (x_up_n _ _ _ (by omega)) _) rfl).trans eq9)) dX9_act_37 s_46 rfl rfl (Nat.le_of_ble_eq_true rfl) (by decide) ⟨by decide, by decide⟩ (fun v s2 M61 J2 hq => ?_)
            obtain ⟨r63, rfl, rfl, rfl, k62, ⟨hx59, ht60⟩⟩ := hq
            try dsimp only [Option.toList, List.cons_append, List.nil_append]
            exact xr_iret dX9_act_40 rfl rfl (⟨_, rfl, rfl, rfl, (Ke.tr (fun _ _ h => h) (Ke.up (Or.inl (by omega)) Ke.rf) k62), ⟨⟨⟨cn, by omega, (Eq.trans (k62 13 2 (by decide)) (Eq.trans (congrFun (x_up_n _ _ _ (by decide)) _) e_cn))⟩, ⟨cm, by omega, (Eq.trans (k62 20 2 (by decide)) (Eq.trans (congrFun (x_up_n _ _ _ (by decide)) _) e_cm))⟩, ⟨L, by omega, (Eq.trans (k62 1 4 (by decide)) (Eq.trans (congrFun (x_up_n _ _ _ (by decide)) _) e_L))⟩, (fun kk hkk => by rw [show M61 3 kk = M 3 kk from (Eq.trans (k62 3 kk (by unfold WTR; omega)) (Eq.trans (congrFun (x_up_n _ _ _ (by omega)) _) rfl))]; exact hv kk hkk), (DI_ke (by intro k; unfold WTR; omega) k62 (DI_up (by decide) hD)), ⟨n, by omega, (Eq.trans (k62 6 2 (by decide)) (Eq.trans (congrFun (x_up_n _ _ _ (by decide)) _) e_n))⟩, ⟨un, wn, by omega, by omega, (Eq.trans (k62 41 4 (by decide)) (Eq.trans (congrFun (x_up_n _ _ _ (by decide)) _) e_un)), (Eq.trans (k62 41 5 (by decide)) (Eq.trans (congrFun (x_up_n _ _ _ (by decide)) _) e_wn))⟩, ⟨b, by omega, (Eq.trans (k62 46 2 (by decide)) (Eq.trans (x_up_k _ _ _ (by decide)) e_b))⟩, (fun j hj => by obtain ⟨q, hq, eq⟩ := hkd j hj; exact ⟨q, hq, (show M61 47 j = M 47 j from (Eq.trans (k62 47 j (by unfold WTR; omega)) (Eq.trans (congrFun (x_up_n _ _ _ (by omega)) _) rfl))).trans eq⟩), ⟨4, by omega, hx59⟩, (fun j hj => by obtain ⟨s, hs, es⟩ := hsl j hj; exact ⟨s, hs, (show M61 (50 + 2 * j) 3 = M (50 + 2 * j) 3 from (Eq.trans (k62 (50 + 2 * j) 3 (by unfold WTR; omega)) (Eq.trans (congrFun (x_up_n _ _ _ (by omega)) _) rfl))).trans es⟩), (fun j hj => by obtain ⟨q, hq, eq⟩ := hS j hj; exact ⟨q, hq, (show M61 36 j = M 36 j from (Eq.trans (k62 36 j (by unfold WTR; omega)) (Eq.trans (congrFun (x_up_n _ _ _ (by omega)) _) rfl))).trans eq⟩)⟩, (Or.inr ⟨⟨by rw [e_b]; exact c1, by grind, by grind⟩, h_, 3, 1, by omega, by decide, by decide, rfl, eq9, rfl, hx59, ht60⟩)⟩⟩)
          · refine xr_callV (As := [.int (nI (h_)), .int (1), .int (x)]) (rest := []) mlX9_338 (tw4_1 (ac := h_) x h_b (Eq.trans (x_up_k _ _ _ (by decide)) e_b) (by omega) ((Eq.trans (congrFun (x_up_n _ _ _ (by omega)) _) rfl).trans eq9)) dX9_act_37 s_46 rfl rfl (Nat.le_of_ble_eq_true rfl) (by decide) ⟨by decide, by decide⟩ (fun v s2 M66 J2 hq => ?_)
            obtain ⟨r68, rfl, rfl, rfl, k67, ⟨hx64, ht65⟩⟩ := hq
            try dsimp only [Option.toList, List.cons_append, List.nil_append]
            exact xr_iret dX9_act_40 rfl rfl (⟨_, rfl, rfl, rfl, (Ke.tr (fun _ _ h => h) (Ke.up (Or.inl (by omega)) Ke.rf) k67), ⟨⟨⟨cn, by omega, (Eq.trans (k67 13 2 (by decide)) (Eq.trans (congrFun (x_up_n _ _ _ (by decide)) _) e_cn))⟩, ⟨cm, by omega, (Eq.trans (k67 20 2 (by decide)) (Eq.trans (congrFun (x_up_n _ _ _ (by decide)) _) e_cm))⟩, ⟨L, by omega, (Eq.trans (k67 1 4 (by decide)) (Eq.trans (congrFun (x_up_n _ _ _ (by decide)) _) e_L))⟩, (fun kk hkk => by rw [show M66 3 kk = M 3 kk from (Eq.trans (k67 3 kk (by unfold WTR; omega)) (Eq.trans (congrFun (x_up_n _ _ _ (by omega)) _) rfl))]; exact hv kk hkk), (DI_ke (by intro k; unfold WTR; omega) k67 (DI_up (by decide) hD)), ⟨n, by omega, (Eq.trans (k67 6 2 (by decide)) (Eq.trans (congrFun (x_up_n _ _ _ (by decide)) _) e_n))⟩, ⟨un, wn, by omega, by omega, (Eq.trans (k67 41 4 (by decide)) (Eq.trans (congrFun (x_up_n _ _ _ (by decide)) _) e_un)), (Eq.trans (k67 41 5 (by decide)) (Eq.trans (congrFun (x_up_n _ _ _ (by decide)) _) e_wn))⟩, ⟨b, by omega, (Eq.trans (k67 46 2 (by decide)) (Eq.trans (x_up_k _ _ _ (by decide)) e_b))⟩, (fun j hj => by obtain ⟨q, hq, eq⟩ := hkd j hj; exact ⟨q, hq, (show M66 47 j = M 47 j from (Eq.trans (k67 47 j (by unfold WTR; omega)) (Eq.trans (congrFun (x_up_n _ _ _ (by omega)) _) rfl))).trans eq⟩), ⟨3, by omega, hx64⟩, (fun j hj => by obtain ⟨s, hs, es⟩ := hsl j hj; exact ⟨s, hs, (show M66 (50 + 2 * j) 3 = M (50 + 2 * j) 3 from (Eq.trans (k67 (50 + 2 * j) 3 (by unfold WTR; omega)) (Eq.trans (congrFun (x_up_n _ _ _ (by omega)) _) rfl))).trans es⟩), (fun j hj => by obtain ⟨q, hq, eq⟩ := hS j hj; exact ⟨q, hq, (show M66 36 j = M 36 j from (Eq.trans (k67 36 j (by unfold WTR; omega)) (Eq.trans (congrFun (x_up_n _ _ _ (by omega)) _) rfl))).trans eq⟩)⟩, (Or.inr ⟨⟨by rw [e_b]; exact c1, by grind, by grind⟩, h_, 4, 1, by omega, by decide, by decide, rfl, eq9, rfl, hx64, ht65⟩)⟩⟩)
          · refine xr_callV (As := [.int (nI (h_)), .int (1), .int (x)]) (rest := []) mlX9_338 (tw5_1 (ac := h_) x h_b (Eq.trans (x_up_k _ _ _ (by decide)) e_b) (by omega) ((Eq.trans (congrFun (x_up_n _ _ _ (by omega)) _) rfl).trans eq9)) dX9_act_37 s_46 rfl rfl (Nat.le_of_ble_eq_true rfl) (by decide) ⟨by decide, by decide⟩ (fun v s2 M71 J2 hq => ?_)
            obtain ⟨r73, rfl, rfl, rfl, k72, ⟨hx69, ht70⟩⟩ := hq
            try dsimp only [Option.toList, List.cons_append, List.nil_append]
            exact xr_iret dX9_act_40 rfl rfl (⟨_, rfl, rfl, rfl, (Ke.tr (fun _ _ h => h) (Ke.up (Or.inl (by omega)) Ke.rf) k72), ⟨⟨⟨cn, by omega, (Eq.trans (k72 13 2 (by decide)) (Eq.trans (congrFun (x_up_n _ _ _ (by decide)) _) e_cn))⟩, ⟨cm, by omega, (Eq.trans (k72 20 2 (by decide)) (Eq.trans (congrFun (x_up_n _ _ _ (by decide)) _) e_cm))⟩, ⟨L, by omega, (Eq.trans (k72 1 4 (by decide)) (Eq.trans (congrFun (x_up_n _ _ _ (by decide)) _) e_L))⟩, (fun kk hkk => by rw [show M71 3 kk = M 3 kk from (Eq.trans (k72 3 kk (by unfold WTR; omega)) (Eq.trans (congrFun (x_up_n _ _ _ (by omega)) _) rfl))]; exact hv kk hkk), (DI_ke (by intro k; unfold WTR; omega) k72 (DI_up (by decide) hD)), ⟨n, by omega, (Eq.trans (k72 6 2 (by decide)) (Eq.trans (congrFun (x_up_n _ _ _ (by decide)) _) e_n))⟩, ⟨un, wn, by omega, by omega, (Eq.trans (k72 41 4 (by decide)) (Eq.trans (congrFun (x_up_n _ _ _ (by decide)) _) e_un)), (Eq.trans (k72 41 5 (by decide)) (Eq.trans (congrFun (x_up_n _ _ _ (by decide)) _) e_wn))⟩, ⟨b, by omega, (Eq.trans (k72 46 2 (by decide)) (Eq.trans (x_up_k _ _ _ (by decide)) e_b))⟩, (fun j hj => by obtain ⟨q, hq, eq⟩ := hkd j hj; exact ⟨q, hq, (show M71 47 j = M 47 j from (Eq.trans (k72 47 j (by unfold WTR; omega)) (Eq.trans (congrFun (x_up_n _ _ _ (by omega)) _) rfl))).trans eq⟩), ⟨4, by omega, hx69⟩, (fun j hj => by obtain ⟨s, hs, es⟩ := hsl j hj; exact ⟨s, hs, (show M71 (50 + 2 * j) 3 = M (50 + 2 * j) 3 from (Eq.trans (k72 (50 + 2 * j) 3 (by unfold WTR; omega)) (Eq.trans (congrFun (x_up_n _ _ _ (by omega)) _) rfl))).trans es⟩), (fun j hj => by obtain ⟨q, hq, eq⟩ := hS j hj; exact ⟨q, hq, (show M71 36 j = M 36 j from (Eq.trans (k72 36 j (by unfold WTR; omega)) (Eq.trans (congrFun (x_up_n _ _ _ (by omega)) _) rfl))).trans eq⟩)⟩, (Or.inr ⟨⟨by rw [e_b]; exact c1, by grind, by grind⟩, h_, 5, 1, by omega, by decide, by decide, rfl, eq9, rfl, hx69, ht70⟩)⟩⟩)
          · refine xr_callV (As := [.int (nI (h_)), .int (1), .int (x)]) (rest := []) mlX9_338 (tw6_1 (ac := h_) x h_b (Eq.trans (x_up_k _ _ _ (by decide)) e_b) (by omega) ((Eq.trans (congrFun (x_up_n _ _ _ (by omega)) _) rfl).trans eq9)) dX9_act_37 s_46 rfl rfl (Nat.le_of_ble_eq_true rfl) (by decide) ⟨by decide, by decide⟩ (fun v s2 M76 J2 hq => ?_)
            obtain ⟨r78, rfl, rfl, rfl, k77, ⟨hx74, ht75⟩⟩ := hq
            try dsimp only [Option.toList, List.cons_append, List.nil_append]
            exact xr_iret dX9_act_40 rfl rfl (⟨_, rfl, rfl, rfl, (Ke.tr (fun _ _ h => h) (Ke.up (Or.inl (by omega)) Ke.rf) k77), ⟨⟨⟨cn, by omega, (Eq.trans (k77 13 2 (by decide)) (Eq.trans (congrFun (x_up_n _ _ _ (by decide)) _) e_cn))⟩, ⟨cm, by omega, (Eq.trans (k77 20 2 (by decide)) (Eq.trans (congrFun (x_up_n _ _ _ (by decide)) _) e_cm))⟩, ⟨L, by omega, (Eq.trans (k77 1 4 (by decide)) (Eq.trans (congrFun (x_up_n _ _ _ (by decide)) _) e_L))⟩, (fun kk hkk => by rw [show M76 3 kk = M 3 kk from (Eq.trans (k77 3 kk (by unfold WTR; omega)) (Eq.trans (congrFun (x_up_n _ _ _ (by omega)) _) rfl))]; exact hv kk hkk), (DI_ke (by intro k; unfold WTR; omega) k77 (DI_up (by decide) hD)), ⟨n, by omega, (Eq.trans (k77 6 2 (by decide)) (Eq.trans (congrFun (x_up_n _ _ _ (by decide)) _) e_n))⟩, ⟨un, wn, by omega, by omega, (Eq.trans (k77 41 4 (by decide)) (Eq.trans (congrFun (x_up_n _ _ _ (by decide)) _) e_un)), (Eq.trans (k77 41 5 (by decide)) (Eq.trans (congrFun (x_up_n _ _ _ (by decide)) _) e_wn))⟩, ⟨b, by omega, (Eq.trans (k77 46 2 (by decide)) (Eq.trans (x_up_k _ _ _ (by decide)) e_b))⟩, (fun j hj => by obtain ⟨q, hq, eq⟩ := hkd j hj; exact ⟨q, hq, (show M76 47 j = M 47 j from (Eq.trans (k77 47 j (by unfold WTR; omega)) (Eq.trans (congrFun (x_up_n _ _ _ (by omega)) _) rfl))).trans eq⟩), ⟨3, by omega, hx74⟩, (fun j hj => by obtain ⟨s, hs, es⟩ := hsl j hj; exact ⟨s, hs, (show M76 (50 + 2 * j) 3 = M (50 + 2 * j) 3 from (Eq.trans (k77 (50 + 2 * j) 3 (by unfold WTR; omega)) (Eq.trans (congrFun (x_up_n _ _ _ (by omega)) _) rfl))).trans es⟩), (fun j hj => by obtain ⟨q, hq, eq⟩ := hS j hj; exact ⟨q, hq, (show M76 36 j = M 36 j from (Eq.trans (k77 36 j (by unfold WTR; omega)) (Eq.trans (congrFun (x_up_n _ _ _ (by omega)) _) rfl))).trans eq⟩)⟩, (Or.inr ⟨⟨by rw [e_b]; exact c1, by grind, by grind⟩, h_, 6, 1, by omega, by decide, by decide, rfl, eq9, rfl, hx74, ht75⟩)⟩⟩)
          · refine xr_callV (As := [.int (nI (h_)), .int (1), .int (x)]) (rest := []) mlX9_338 (tw7_1 (ac := h_) x h_b (Eq.trans (x_up_k _ _ _ (by decide)) e_b) (by omega) ((Eq.trans (congrFun (x_up_n _ _ _ (by omega)) _) rfl).trans eq9)) dX9_act_37 s_46 rfl rfl (Nat.le_of_ble_eq_true rfl) (by decide) ⟨by decide, by decide⟩ (fun v s2 M81 J2 hq => ?_)
            obtain ⟨r83, rfl, rfl, rfl, k82, ⟨hx79, ht80⟩⟩ := hq
            try dsimp only [Option.toList, List.cons_append, List.nil_append]
            exact xr_iret dX9_act_40 rfl rfl (⟨_, rfl, rfl, rfl, (Ke.tr (fun _ _ h => h) (Ke.up (Or.inl (by omega)) Ke.rf) k82), ⟨⟨⟨cn, by omega, (Eq.trans (k82 13 2 (by decide)) (Eq.trans (congrFun (x_up_n _ _ _ (by decide)) _) e_cn))⟩, ⟨cm, by omega, (Eq.trans (k82 20 2 (by decide)) (Eq.trans (congrFun (x_up_n _ _ _ (by decide)) _) e_cm))⟩, ⟨L, by omega, (Eq.trans (k82 1 4 (by decide)) (Eq.trans (congrFun (x_up_n _ _ _ (by decide)) _) e_L))⟩, (fun kk hkk => by rw [show M81 3 kk = M 3 kk from (Eq.trans (k82 3 kk (by unfold WTR; omega)) (Eq.trans (congrFun (x_up_n _ _ _ (by omega)) _) rfl))]; exact hv kk hkk), (DI_ke (by intro k; unfold WTR; omega) k82 (DI_up (by decide) hD)), ⟨n, by omega, (Eq.trans (k82 6 2 (by decide)) (Eq.trans (congrFun (x_up_n _ _ _ (by decide)) _) e_n))⟩, ⟨un, wn, by omega, by omega, (Eq.trans (k82 41 4 (by decide)) (Eq.trans (congrFun (x_up_n _ _ _ (by decide)) _) e_un)), (Eq.trans (k82 41 5 (by decide)) (Eq.trans (congrFun (x_up_n _ _ _ (by decide)) _) e_wn))⟩, ⟨b, by omega, (Eq.trans (k82 46 2 (by decide)) (Eq.trans (x_up_k _ _ _ (by decide)) e_b))⟩, (fun j hj => by obtain ⟨q, hq, eq⟩ := hkd j hj; exact ⟨q, hq, (show M81 47 j = M 47 j from (Eq.trans (k82 47 j (by unfold WTR; omega)) (Eq.trans (congrFun (x_up_n _ _ _ (by omega)) _) rfl))).trans eq⟩), ⟨8, by omega, hx79⟩, (fun j hj => by obtain ⟨s, hs, es⟩ := hsl j hj; exact ⟨s, hs, (show M81 (50 + 2 * j) 3 = M (50 + 2 * j) 3 from (Eq.trans (k82 (50 + 2 * j) 3 (by unfold WTR; omega)) (Eq.trans (congrFun (x_up_n _ _ _ (by omega)) _) rfl))).trans es⟩), (fun j hj => by obtain ⟨q, hq, eq⟩ := hS j hj; exact ⟨q, hq, (show M81 36 j = M 36 j from (Eq.trans (k82 36 j (by unfold WTR; omega)) (Eq.trans (congrFun (x_up_n _ _ _ (by omega)) _) rfl))).trans eq⟩)⟩, (Or.inr ⟨⟨by rw [e_b]; exact c1, by grind, by grind⟩, h_, 7, 1, by omega, by decide, by decide, rfl, eq9, rfl, hx79, ht80⟩)⟩⟩)
        · rcases hq8 with rfl | rfl | rfl | rfl | rfl | rfl | rfl | rfl
          · refine xr_callV (As := [.int (nI (h_)), .int (2), .int (x)]) (rest := []) mlX9_338 (tw0_2 (ac := h_) x h_b (Eq.trans (x_up_k _ _ _ (by decide)) e_b) (by omega) ((Eq.trans (congrFun (x_up_n _ _ _ (by omega)) _) rfl).trans eq9)) dX9_act_37 s_46 rfl rfl (Nat.le_of_ble_eq_true rfl) (by decide) ⟨by decide, by decide⟩ (fun v s2 M86 J2 hq => ?_)
            obtain ⟨r88, rfl, rfl, rfl, k87, ⟨hx84, ht85⟩⟩ := hq
            try dsimp only [Option.toList, List.cons_append, List.nil_append]
            exact xr_iret dX9_act_40 rfl rfl (⟨_, rfl, rfl, rfl, (Ke.tr (fun _ _ h => h) (Ke.up (Or.inl (by omega)) Ke.rf) k87), ⟨⟨⟨cn, by omega, (Eq.trans (k87 13 2 (by decide)) (Eq.trans (congrFun (x_up_n _ _ _ (by decide)) _) e_cn))⟩, ⟨cm, by omega, (Eq.trans (k87 20 2 (by decide)) (Eq.trans (congrFun (x_up_n _ _ _ (by decide)) _) e_cm))⟩, ⟨L, by omega, (Eq.trans (k87 1 4 (by decide)) (Eq.trans (congrFun (x_up_n _ _ _ (by decide)) _) e_L))⟩, (fun kk hkk => by rw [show M86 3 kk = M 3 kk from (Eq.trans (k87 3 kk (by unfold WTR; omega)) (Eq.trans (congrFun (x_up_n _ _ _ (by omega)) _) rfl))]; exact hv kk hkk), (DI_ke (by intro k; unfold WTR; omega) k87 (DI_up (by decide) hD)), ⟨n, by omega, (Eq.trans (k87 6 2 (by decide)) (Eq.trans (congrFun (x_up_n _ _ _ (by decide)) _) e_n))⟩, ⟨un, wn, by omega, by omega, (Eq.trans (k87 41 4 (by decide)) (Eq.trans (congrFun (x_up_n _ _ _ (by decide)) _) e_un)), (Eq.trans (k87 41 5 (by decide)) (Eq.trans (congrFun (x_up_n _ _ _ (by decide)) _) e_wn))⟩, ⟨b, by omega, (Eq.trans (k87 46 2 (by decide)) (Eq.trans (x_up_k _ _ _ (by decide)) e_b))⟩, (fun j hj => by obtain ⟨q, hq, eq⟩ := hkd j hj; exact ⟨q, hq, (show M86 47 j = M 47 j from (Eq.trans (k87 47 j (by unfold WTR; omega)) (Eq.trans (congrFun (x_up_n _ _ _ (by omega)) _) rfl))).trans eq⟩), ⟨1, by omega, hx84⟩, (fun j hj => by obtain ⟨s, hs, es⟩ := hsl j hj; exact ⟨s, hs, (show M86 (50 + 2 * j) 3 = M (50 + 2 * j) 3 from (Eq.trans (k87 (50 + 2 * j) 3 (by unfold WTR; omega)) (Eq.trans (congrFun (x_up_n _ _ _ (by omega)) _) rfl))).trans es⟩), (fun j hj => by obtain ⟨q, hq, eq⟩ := hS j hj; exact ⟨q, hq, (show M86 36 j = M 36 j from (Eq.trans (k87 36 j (by unfold WTR; omega)) (Eq.trans (congrFun (x_up_n _ _ _ (by omega)) _) rfl))).trans eq⟩)⟩, (Or.inr ⟨⟨by rw [e_b]; exact c1, by grind, by grind⟩, h_, 0, 2, by omega, by decide, by decide, rfl, eq9, rfl, hx84, ht85⟩)⟩⟩)
          · refine xr_callV (As := [.int (nI (h_)), .int (2), .int (x)]) (rest := []) mlX9_338 (tw1_2 (ac := h_) x h_b (Eq.trans (x_up_k _ _ _ (by decide)) e_b) (by omega) ((Eq.trans (congrFun (x_up_n _ _ _ (by omega)) _) rfl).trans eq9)) dX9_act_37 s_46 rfl rfl (Nat.le_of_ble_eq_true rfl) (by decide) ⟨by decide, by decide⟩ (fun v s2 M91 J2 hq => ?_)
            obtain ⟨r93, rfl, rfl, rfl, k92, ⟨hx89, ht90⟩⟩ := hq
            try dsimp only [Option.toList, List.cons_append, List.nil_append]
            exact xr_iret dX9_act_40 rfl rfl (⟨_, rfl, rfl, rfl, (Ke.tr (fun _ _ h => h) (Ke.up (Or.inl (by omega)) Ke.rf) k92), ⟨⟨⟨cn, by omega, (Eq.trans (k92 13 2 (by decide)) (Eq.trans (congrFun (x_up_n _ _ _ (by decide)) _) e_cn))⟩, ⟨cm, by omega, (Eq.trans (k92 20 2 (by decide)) (Eq.trans (congrFun (x_up_n _ _ _ (by decide)) _) e_cm))⟩, ⟨L, by omega, (Eq.trans (k92 1 4 (by decide)) (Eq.trans (congrFun (x_up_n _ _ _ (by decide)) _) e_L))⟩, (fun kk hkk => by rw [show M91 3 kk = M 3 kk from (Eq.trans (k92 3 kk (by unfold WTR; omega)) (Eq.trans (congrFun (x_up_n _ _ _ (by omega)) _) rfl))]; exact hv kk hkk), (DI_ke (by intro k; unfold WTR; omega) k92 (DI_up (by decide) hD)), ⟨n, by omega, (Eq.trans (k92 6 2 (by decide)) (Eq.trans (congrFun (x_up_n _ _ _ (by decide)) _) e_n))⟩, ⟨un, wn, by omega, by omega, (Eq.trans (k92 41 4 (by decide)) (Eq.trans (congrFun (x_up_n _ _ _ (by decide)) _) e_un)), (Eq.trans (k92 41 5 (by decide)) (Eq.trans (congrFun (x_up_n _ _ _ (by decide)) _) e_wn))⟩, ⟨b, by omega, (Eq.trans (k92 46 2 (by decide)) (Eq.trans (x_up_k _ _ _ (by decide)) e_b))⟩, (fun j hj => by obtain ⟨q, hq, eq⟩ := hkd j hj; exact ⟨q, hq, (show M91 47 j = M 47 j from (Eq.trans (k92 47 j (by unfold WTR; omega)) (Eq.trans (congrFun (x_up_n _ _ _ (by omega)) _) rfl))).trans eq⟩), ⟨1, by omega, hx89⟩, (fun j hj => by obtain ⟨s, hs, es⟩ := hsl j hj; exact ⟨s, hs, (show M91 (50 + 2 * j) 3 = M (50 + 2 * j) 3 from (Eq.trans (k92 (50 + 2 * j) 3 (by unfold WTR; omega)) (Eq.trans (congrFun (x_up_n _ _ _ (by omega)) _) rfl))).trans es⟩), (fun j hj => by obtain ⟨q, hq, eq⟩ := hS j hj; exact ⟨q, hq, (show M91 36 j = M 36 j from (Eq.trans (k92 36 j (by unfold WTR; omega)) (Eq.trans (congrFun (x_up_n _ _ _ (by omega)) _) rfl))).trans eq⟩)⟩, (Or.inr ⟨⟨by rw [e_b]; exact c1, by grind, by grind⟩, h_, 1, 2, by omega, by decide, by decide, rfl, eq9, rfl, hx89, ht90⟩)⟩⟩)
          · refine xr_callV (As := [.int (nI (h_)), .int (2), .int (x)]) (rest := []) mlX9_338 (tw2_2 (ac := h_) x h_b (Eq.trans (x_up_k _ _ _ (by decide)) e_b) (by omega) ((Eq.trans (congrFun (x_up_n _ _ _ (by omega)) _) rfl).trans eq9)) dX9_act_37 s_46 rfl rfl (Nat.le_of_ble_eq_true rfl) (by decide) ⟨by decide, by decide⟩ (fun v s2 M96 J2 hq => ?_)
            obtain ⟨r98, rfl, rfl, rfl, k97, ⟨hx94, ht95⟩⟩ := hq
            try dsimp only [Option.toList, List.cons_append, List.nil_append]
            exact xr_iret dX9_act_40 rfl rfl (⟨_, rfl, rfl, rfl, (Ke.tr (fun _ _ h => h) (Ke.up (Or.inl (by omega)) Ke.rf) k97), ⟨⟨⟨cn, by omega, (Eq.trans (k97 13 2 (by decide)) (Eq.trans (congrFun (x_up_n _ _ _ (by decide)) _) e_cn))⟩, ⟨cm, by omega, (Eq.trans (k97 20 2 (by decide)) (Eq.trans (congrFun (x_up_n _ _ _ (by decide)) _) e_cm))⟩, ⟨L, by omega, (Eq.trans (k97 1 4 (by decide)) (Eq.trans (congrFun (x_up_n _ _ _ (by decide)) _) e_L))⟩, (fun kk hkk => by rw [show M96 3 kk = M 3 kk from (Eq.trans (k97 3 kk (by unfold WTR; omega)) (Eq.trans (congrFun (x_up_n _ _ _ (by omega)) _) rfl))]; exact hv kk hkk), (DI_ke (by intro k; unfold WTR; omega) k97 (DI_up (by decide) hD)), ⟨n, by omega, (Eq.trans (k97 6 2 (by decide)) (Eq.trans (congrFun (x_up_n _ _ _ (by decide)) _) e_n))⟩, ⟨un, wn, by omega, by omega, (Eq.trans (k97 41 4 (by decide)) (Eq.trans (congrFun (x_up_n _ _ _ (by decide)) _) e_un)), (Eq.trans (k97 41 5 (by decide)) (Eq.trans (congrFun (x_up_n _ _ _ (by decide)) _) e_wn))⟩, ⟨b, by omega, (Eq.trans (k97 46 2 (by decide)) (Eq.trans (x_up_k _ _ _ (by decide)) e_b))⟩, (fun j hj => by obtain ⟨q, hq, eq⟩ := hkd j hj; exact ⟨q, hq, (show M96 47 j = M 47 j from (Eq.trans (k97 47 j (by unfold WTR; omega)) (Eq.trans (congrFun (x_up_n _ _ _ (by omega)) _) rfl))).trans eq⟩), ⟨1, by omega, hx94⟩, (fun j hj => by obtain ⟨s, hs, es⟩ := hsl j hj; exact ⟨s, hs, (show M96 (50 + 2 * j) 3 = M (50 + 2 * j) 3 from (Eq.trans (k97 (50 + 2 * j) 3 (by unfold WTR; omega)) (Eq.trans (congrFun (x_up_n _ _ _ (by omega)) _) rfl))).trans es⟩), (fun j hj => by obtain ⟨q, hq, eq⟩ := hS j hj; exact ⟨q, hq, (show M96 36 j = M 36 j from (Eq.trans (k97 36 j (by unfold WTR; omega)) (Eq.trans (congrFun (x_up_n _ _ _ (by omega)) _) rfl))).trans eq⟩)⟩, (Or.inr ⟨⟨by rw [e_b]; exact c1, by grind, by grind⟩, h_, 2, 2, by omega, by decide, by decide, rfl, eq9, rfl, hx94, ht95⟩)⟩⟩)
          · refine xr_callV (As := [.int (nI (h_)), .int (2), .int (x)]) (rest := []) mlX9_338 (tw3_2 (ac := h_) x h_b (Eq.trans (x_up_k _ _ _ (by decide)) e_b) (by omega) ((Eq.trans (congrFun (x_up_n _ _ _ (by omega)) _) rfl).trans eq9)) dX9_act_37 s_46 rfl rfl (Nat.le_of_ble_eq_true rfl) (by decide) ⟨by decide, by decide⟩ (fun v s2 M101 J2 hq => ?_)
            obtain ⟨r103, rfl, rfl, rfl, k102, ⟨hx99, ht100⟩⟩ := hq
            try dsimp only [Option.toList, List.cons_append, List.nil_append]
            exact xr_iret dX9_act_40 rfl rfl (⟨_, rfl, rfl, rfl, (Ke.tr (fun _ _ h => h) (Ke.up (Or.inl (by omega)) Ke.rf) k102), ⟨⟨⟨cn, by omega, (Eq.trans (k102 13 2 (by decide)) (Eq.trans (congrFun (x_up_n _ _ _ (by decide)) _) e_cn))⟩, ⟨cm, by omega, (Eq.trans (k102 20 2 (by decide)) (Eq.trans (congrFun (x_up_n _ _ _ (by decide)) _) e_cm))⟩, ⟨L, by omega, (Eq.trans (k102 1 4 (by decide)) (Eq.trans (congrFun (x_up_n _ _ _ (by decide)) _) e_L))⟩, (fun kk hkk => by rw [show M101 3 kk = M 3 kk from (Eq.trans (k102 3 kk (by unfold WTR; omega)) (Eq.trans (congrFun (x_up_n _ _ _ (by omega)) _) rfl))]; exact hv kk hkk), (DI_ke (by intro k; unfold WTR; omega) k102 (DI_up (by decide) hD)), ⟨n, by omega, (Eq.trans (k102 6 2 (by decide)) (Eq.trans (congrFun (x_up_n _ _ _ (by decide)) _) e_n))⟩, ⟨un, wn, by omega, by omega, (Eq.trans (k102 41 4 (by decide)) (Eq.trans (congrFun (x_up_n _ _ _ (by decide)) _) e_un)), (Eq.trans (k102 41 5 (by decide)) (Eq.trans (congrFun (x_up_n _ _ _ (by decide)) _) e_wn))⟩, ⟨b, by omega, (Eq.trans (k102 46 2 (by decide)) (Eq.trans (x_up_k _ _ _ (by decide)) e_b))⟩, (fun j hj => by obtain ⟨q, hq, eq⟩ := hkd j hj; exact ⟨q, hq, (show M101 47 j = M 47 j from (Eq.trans (k102 47 j (by unfold WTR; omega)) (Eq.trans (congrFun (x_up_n _ _ _ (by omega)) _) rfl))).trans eq⟩), ⟨2, by omega, hx99⟩, (fun j hj => by obtain ⟨s, hs, es⟩ := hsl j hj; exact ⟨s, hs, (show M101 (50 + 2 * j) 3 = M (50 + 2 * j) 3 from (Eq.trans (k102 (50 + 2 * j) 3 (by unfold WTR; omega)) (Eq.trans (congrFun (x_up_n _ _ _ (by omega)) _) rfl))).trans es⟩), (fun j hj => by obtain ⟨q, hq, eq⟩ := hS j hj; exact ⟨q, hq, (show M101 36 j = M 36 j from (Eq.trans (k102 36 j (by unfold WTR; omega)) (Eq.trans (congrFun (x_up_n _ _ _ (by omega)) _) rfl))).trans eq⟩)⟩, (Or.inr ⟨⟨by rw [e_b]; exact c1, by grind, by grind⟩, h_, 3, 2, by omega, by decide, by decide, rfl, eq9, rfl, hx99, ht100⟩)⟩⟩)
          · refine xr_callV (As := [.int (nI (h_)), .int (2), .int (x)]) (rest := []) mlX9_338 (tw4_2 (ac := h_) x h_b (Eq.trans (x_up_k _ _ _ (by decide)) e_b) (by omega) ((Eq.trans (congrFun (x_up_n _ _ _ (by omega)) _) rfl).trans eq9)) dX9_act_37 s_46 rfl rfl (Nat.le_of_ble_eq_true rfl) (by decide) ⟨by decide, by decide⟩ (fun v s2 M106 J2 hq => ?_)
            obtain ⟨r108, rfl, rfl, rfl, k107, ⟨hx104, ht105⟩⟩ := hq
            try dsimp only [Option.toList, List.cons_append, List.nil_append]
            exact xr_iret dX9_act_40 rfl rfl (⟨_, rfl, rfl, rfl, (Ke.tr (fun _ _ h => h) (Ke.up (Or.inl (by omega)) Ke.rf) k107), ⟨⟨⟨cn, by omega, (Eq.trans (k107 13 2 (by decide)) (Eq.trans (congrFun (x_up_n _ _ _ (by decide)) _) e_cn))⟩, ⟨cm, by omega, (Eq.trans (k107 20 2 (by decide)) (Eq.trans (congrFun (x_up_n _ _ _ (by decide)) _) e_cm))⟩, ⟨L, by omega, (Eq.trans (k107 1 4 (by decide)) (Eq.trans (congrFun (x_up_n _ _ _ (by decide)) _) e_L))⟩, (fun kk hkk => by rw [show M106 3 kk = M 3 kk from (Eq.trans (k107 3 kk (by unfold WTR; omega)) (Eq.trans (congrFun (x_up_n _ _ _ (by omega)) _) rfl))]; exact hv kk hkk), (DI_ke (by intro k; unfold WTR; omega) k107 (DI_up (by decide) hD)), ⟨n, by omega, (Eq.trans (k107 6 2 (by decide)) (Eq.trans (congrFun (x_up_n _ _ _ (by decide)) _) e_n))⟩, ⟨un, wn, by omega, by omega, (Eq.trans (k107 41 4 (by decide)) (Eq.trans (congrFun (x_up_n _ _ _ (by decide)) _) e_un)), (Eq.trans (k107 41 5 (by decide)) (Eq.trans (congrFun (x_up_n _ _ _ (by decide)) _) e_wn))⟩, ⟨b, by omega, (Eq.trans (k107 46 2 (by decide)) (Eq.trans (x_up_k _ _ _ (by decide)) e_b))⟩, (fun j hj => by obtain ⟨q, hq, eq⟩ := hkd j hj; exact ⟨q, hq, (show M106 47 j = M 47 j from (Eq.trans (k107 47 j (by unfold WTR; omega)) (Eq.trans (congrFun (x_up_n _ _ _ (by omega)) _) rfl))).trans eq⟩), ⟨4, by omega, hx104⟩, (fun j hj => by obtain ⟨s, hs, es⟩ := hsl j hj; exact ⟨s, hs, (show M106 (50 + 2 * j) 3 = M (50 + 2 * j) 3 from (Eq.trans (k107 (50 + 2 * j) 3 (by unfold WTR; omega)) (Eq.trans (congrFun (x_up_n _ _ _ (by omega)) _) rfl))).trans es⟩), (fun j hj => by obtain ⟨q, hq, eq⟩ := hS j hj; exact ⟨q, hq, (show M106 36 j = M 36 j from (Eq.trans (k107 36 j (by unfold WTR; omega)) (Eq.trans (congrFun (x_up_n _ _ _ (by omega)) _) rfl))).trans eq⟩)⟩, (Or.inr ⟨⟨by rw [e_b]; exact c1, by grind, by grind⟩, h_, 4, 2, by omega, by decide, by decide, rfl, eq9, rfl, hx104, ht105⟩)⟩⟩)
          · refine xr_callV (As := [.int (nI (h_)), .int (2), .int (x)]) (rest := []) mlX9_338 (tw5_2 (ac := h_) x h_b (Eq.trans (x_up_k _ _ _ (by decide)) e_b) (by omega) ((Eq.trans (congrFun (x_up_n _ _ _ (by omega)) _) rfl).trans eq9)) dX9_act_37 s_46 rfl rfl (Nat.le_of_ble_eq_true rfl) (by decide) ⟨by decide, by decide⟩ (fun v s2 M111 J2 hq => ?_)
            obtain ⟨r113, rfl, rfl, rfl, k112, ⟨hx109, ht110⟩⟩ := hq
            try dsimp only [Option.toList, List.cons_append, List.nil_append]
            exact xr_iret dX9_act_40 rfl rfl (⟨_, rfl, rfl, rfl, (Ke.tr (fun _ _ h => h) (Ke.up (Or.inl (by omega)) Ke.rf) k112), ⟨⟨⟨cn, by omega, (Eq.trans (k112 13 2 (by decide)) (Eq.trans (congrFun (x_up_n _ _ _ (by decide)) _) e_cn))⟩, ⟨cm, by omega, (Eq.trans (k112 20 2 (by decide)) (Eq.trans (congrFun (x_up_n _ _ _ (by decide)) _) e_cm))⟩, ⟨L, by omega, (Eq.trans (k112 1 4 (by decide)) (Eq.trans (congrFun (x_up_n _ _ _ (by decide)) _) e_L))⟩, (fun kk hkk => by rw [show M111 3 kk = M 3 kk from (Eq.trans (k112 3 kk (by unfold WTR; omega)) (Eq.trans (congrFun (x_up_n _ _ _ (by omega)) _) rfl))]; exact hv kk hkk), (DI_ke (by intro k; unfold WTR; omega) k112 (DI_up (by decide) hD)), ⟨n, by omega, (Eq.trans (k112 6 2 (by decide)) (Eq.trans (congrFun (x_up_n _ _ _ (by decide)) _) e_n))⟩, ⟨un, wn, by omega, by omega, (Eq.trans (k112 41 4 (by decide)) (Eq.trans (congrFun (x_up_n _ _ _ (by decide)) _) e_un)), (Eq.trans (k112 41 5 (by decide)) (Eq.trans (congrFun (x_up_n _ _ _ (by decide)) _) e_wn))⟩, ⟨b, by omega, (Eq.trans (k112 46 2 (by decide)) (Eq.trans (x_up_k _ _ _ (by decide)) e_b))⟩, (fun j hj => by obtain ⟨q, hq, eq⟩ := hkd j hj; exact ⟨q, hq, (show M111 47 j = M 47 j from (Eq.trans (k112 47 j (by unfold WTR; omega)) (Eq.trans (congrFun (x_up_n _ _ _ (by omega)) _) rfl))).trans eq⟩), ⟨2, by omega, hx109⟩, (fun j hj => by obtain ⟨s, hs, es⟩ := hsl j hj; exact ⟨s, hs, (show M111 (50 + 2 * j) 3 = M (50 + 2 * j) 3 from (Eq.trans (k112 (50 + 2 * j) 3 (by unfold WTR; omega)) (Eq.trans (congrFun (x_up_n _ _ _ (by omega)) _) rfl))).trans es⟩), (fun j hj => by obtain ⟨q, hq, eq⟩ := hS j hj; exact ⟨q, hq, (show M111 36 j = M 36 j from (Eq.trans (k112 36 j (by unfold WTR; omega)) (Eq.trans (congrFun (x_up_n _ _ _ (by omega)) _) rfl))).trans eq⟩)⟩, (Or.inr ⟨⟨by rw [e_b]; exact c1, by grind, by grind⟩, h_, 5, 2, by omega, by decide, by decide, rfl, eq9, rfl, hx109, ht110⟩)⟩⟩)
          · refine xr_callV (As := [.int (nI (h_)), .int (2), .int (x)]) (rest := []) mlX9_338 (tw6_2 (ac := h_) x h_b (Eq.trans (x_up_k _ _ _ (by decide)) e_b) (by omega) ((Eq.trans (congrFun (x_up_n _ _ _ (by omega)) _) rfl).trans eq9)) dX9_act_37 s_46 rfl rfl (Nat.le_of_ble_eq_true rfl) (by decide) ⟨by decide, by decide⟩ (fun v s2 M116 J2 hq => ?_)
            obtain ⟨r118, rfl, rfl, rfl, k117, ⟨hx114, ht115⟩⟩ := hq
            try dsimp only [Option.toList, List.cons_append, List.nil_append]
            exact xr_iret dX9_act_40 rfl rfl (⟨_, rfl, rfl, rfl, (Ke.tr (fun _ _ h => h) (Ke.up (Or.inl (by omega)) Ke.rf) k117), ⟨⟨⟨cn, by omega, (Eq.trans (k117 13 2 (by decide)) (Eq.trans (congrFun (x_up_n _ _ _ (by decide)) _) e_cn))⟩, ⟨cm, by omega, (Eq.trans (k117 20 2 (by decide)) (Eq.trans (congrFun (x_up_n _ _ _ (by decide)) _) e_cm))⟩, ⟨L, by omega, (Eq.trans (k117 1 4 (by decide)) (Eq.trans (congrFun (x_up_n _ _ _ (by decide)) _) e_L))⟩, (fun kk hkk => by rw [show M116 3 kk = M 3 kk from (Eq.trans (k117 3 kk (by unfold WTR; omega)) (Eq.trans (congrFun (x_up_n _ _ _ (by omega)) _) rfl))]; exact hv kk hkk), (DI_ke (by intro k; unfold WTR; omega) k117 (DI_up (by decide) hD)), ⟨n, by omega, (Eq.trans (k117 6 2 (by decide)) (Eq.trans (congrFun (x_up_n _ _ _ (by decide)) _) e_n))⟩, ⟨un, wn, by omega, by omega, (Eq.trans (k117 41 4 (by decide)) (Eq.trans (congrFun (x_up_n _ _ _ (by decide)) _) e_un)), (Eq.trans (k117 41 5 (by decide)) (Eq.trans (congrFun (x_up_n _ _ _ (by decide)) _) e_wn))⟩, ⟨b, by omega, (Eq.trans (k117 46 2 (by decide)) (Eq.trans (x_up_k _ _ _ (by decide)) e_b))⟩, (fun j hj => by obtain ⟨q, hq, eq⟩ := hkd j hj; exact ⟨q, hq, (show M116 47 j = M 47 j from (Eq.trans (k117 47 j (by unfold WTR; omega)) (Eq.trans (congrFun (x_up_n _ _ _ (by omega)) _) rfl))).trans eq⟩), ⟨1, by omega, hx114⟩, (fun j hj => by obtain ⟨s, hs, es⟩ := hsl j hj; exact ⟨s, hs, (show M116 (50 + 2 * j) 3 = M (50 + 2 * j) 3 from (Eq.trans (k117 (50 + 2 * j) 3 (by unfold WTR; omega)) (Eq.trans (congrFun (x_up_n _ _ _ (by omega)) _) rfl))).trans es⟩), (fun j hj => by obtain ⟨q, hq, eq⟩ := hS j hj; exact ⟨q, hq, (show M116 36 j = M 36 j from (Eq.trans (k117 36 j (by unfold WTR; omega)) (Eq.trans (congrFun (x_up_n _ _ _ (by omega)) _) rfl))).trans eq⟩)⟩, (Or.inr ⟨⟨by rw [e_b]; exact c1, by grind, by grind⟩, h_, 6, 2, by omega, by decide, by decide, rfl, eq9, rfl, hx114, ht115⟩)⟩⟩)
          · refine xr_callV (As := [.int (nI (h_)), .int (2), .int (x)]) (rest := []) mlX9_338 (tw7_2 (ac := h_) x h_b (Eq.trans (x_up_k _ _ _ (by decide)) e_b) (by omega) ((Eq.trans (congrFun (x_up_n _ _ _ (by omega)) _) rfl).trans eq9)) dX9_act_37 s_46 rfl rfl (Nat.le_of_ble_eq_true rfl) (by decide) ⟨by decide, by decide⟩ (fun v s2 M121 J2 hq => ?_)
            obtain ⟨r123, rfl, rfl, rfl, k122, ⟨hx119, ht120⟩⟩ := hq
            try dsimp only [Option.toList, List.cons_append, List.nil_append]
            exact xr_iret dX9_act_40 rfl rfl (⟨_, rfl, rfl, rfl, (Ke.tr (fun _ _ h => h) (Ke.up (Or.inl (by omega)) Ke.rf) k122), ⟨⟨⟨cn, by omega, (Eq.trans (k122 13 2 (by decide)) (Eq.trans (congrFun (x_up_n _ _ _ (by decide)) _) e_cn))⟩, ⟨cm, by omega, (Eq.trans (k122 20 2 (by decide)) (Eq.trans (congrFun (x_up_n _ _ _ (by decide)) _) e_cm))⟩, ⟨L, by omega, (Eq.trans (k122 1 4 (by decide)) (Eq.trans (congrFun (x_up_n _ _ _ (by decide)) _) e_L))⟩, (fun kk hkk => by rw [show M121 3 kk = M 3 kk from (Eq.trans (k122 3 kk (by unfold WTR; omega)) (Eq.trans (congrFun (x_up_n _ _ _ (by omega)) _) rfl))]; exact hv kk hkk), (DI_ke (by intro k; unfold WTR; omega) k122 (DI_up (by decide) hD)), ⟨n, by omega, (Eq.trans (k122 6 2 (by decide)) (Eq.trans (congrFun (x_up_n _ _ _ (by decide)) _) e_n))⟩, ⟨un, wn, by omega, by omega, (Eq.trans (k122 41 4 (by decide)) (Eq.trans (congrFun (x_up_n _ _ _ (by decide)) _) e_un)), (Eq.trans (k122 41 5 (by decide)) (Eq.trans (congrFun (x_up_n _ _ _ (by decide)) _) e_wn))⟩, ⟨b, by omega, (Eq.trans (k122 46 2 (by decide)) (Eq.trans (x_up_k _ _ _ (by decide)) e_b))⟩, (fun j hj => by obtain ⟨q, hq, eq⟩ := hkd j hj; exact ⟨q, hq, (show M121 47 j = M 47 j from (Eq.trans (k122 47 j (by unfold WTR; omega)) (Eq.trans (congrFun (x_up_n _ _ _ (by omega)) _) rfl))).trans eq⟩), ⟨4, by omega, hx119⟩, (fun j hj => by obtain ⟨s, hs, es⟩ := hsl j hj; exact ⟨s, hs, (show M121 (50 + 2 * j) 3 = M (50 + 2 * j) 3 from (Eq.trans (k122 (50 + 2 * j) 3 (by unfold WTR; omega)) (Eq.trans (congrFun (x_up_n _ _ _ (by omega)) _) rfl))).trans es⟩), (fun j hj => by obtain ⟨q, hq, eq⟩ := hS j hj; exact ⟨q, hq, (show M121 36 j = M 36 j from (Eq.trans (k122 36 j (by unfold WTR; omega)) (Eq.trans (congrFun (x_up_n _ _ _ (by omega)) _) rfl))).trans eq⟩)⟩, (Or.inr ⟨⟨by rw [e_b]; exact c1, by grind, by grind⟩, h_, 7, 2, by omega, by decide, by decide, rfl, eq9, rfl, hx119, ht120⟩)⟩⟩)
        · rcases hq8 with rfl | rfl | rfl | rfl | rfl | rfl | rfl | rfl
          · refine xr_callV (As := [.int (nI (h_)), .int (3), .int (x)]) (rest := []) mlX9_338 (tw0_3 (ac := h_) x h_b (Eq.trans (x_up_k _ _ _ (by decide)) e_b) (by omega) ((Eq.trans (congrFun (x_up_n _ _ _ (by omega)) _) rfl).trans eq9)) dX9_act_37 s_46 rfl rfl (Nat.le_of_ble_eq_true rfl) (by decide) ⟨by decide, by decide⟩ (fun v s2 M126 J2 hq => ?_)
            obtain ⟨r128, rfl, rfl, rfl, k127, ⟨hx124, ht125⟩⟩ := hq
            try dsimp only [Option.toList, List.cons_append, List.nil_append]
            exact xr_iret dX9_act_40 rfl rfl (⟨_, rfl, rfl, rfl, (Ke.tr (fun _ _ h => h) (Ke.up (Or.inl (by omega)) Ke.rf) k127), ⟨⟨⟨cn, by omega, (Eq.trans (k127 13 2 (by decide)) (Eq.trans (congrFun (x_up_n _ _ _ (by decide)) _) e_cn))⟩, ⟨cm, by omega, (Eq.trans (k127 20 2 (by decide)) (Eq.trans (congrFun (x_up_n _ _ _ (by decide)) _) e_cm))⟩, ⟨L, by omega, (Eq.trans (k127 1 4 (by decide)) (Eq.trans (congrFun (x_up_n _ _ _ (by decide)) _) e_L))⟩, (fun kk hkk => by rw [show M126 3 kk = M 3 kk from (Eq.trans (k127 3 kk (by unfold WTR; omega)) (Eq.trans (congrFun (x_up_n _ _ _ (by omega)) _) rfl))]; exact hv kk hkk), (DI_ke (by intro k; unfold WTR; omega) k127 (DI_up (by decide) hD)), ⟨n, by omega, (Eq.trans (k127 6 2 (by decide)) (Eq.trans (congrFun (x_up_n _ _ _ (by decide)) _) e_n))⟩, ⟨un, wn, by omega, by omega, (Eq.trans (k127 41 4 (by decide)) (Eq.trans (congrFun (x_up_n _ _ _ (by decide)) _) e_un)), (Eq.trans (k127 41 5 (by decide)) (Eq.trans (congrFun (x_up_n _ _ _ (by decide)) _) e_wn))⟩, ⟨b, by omega, (Eq.trans (k127 46 2 (by decide)) (Eq.trans (x_up_k _ _ _ (by decide)) e_b))⟩, (fun j hj => by obtain ⟨q, hq, eq⟩ := hkd j hj; exact ⟨q, hq, (show M126 47 j = M 47 j from (Eq.trans (k127 47 j (by unfold WTR; omega)) (Eq.trans (congrFun (x_up_n _ _ _ (by omega)) _) rfl))).trans eq⟩), ⟨4, by omega, hx124⟩, (fun j hj => by obtain ⟨s, hs, es⟩ := hsl j hj; exact ⟨s, hs, (show M126 (50 + 2 * j) 3 = M (50 + 2 * j) 3 from (Eq.trans (k127 (50 + 2 * j) 3 (by unfold WTR; omega)) (Eq.trans (congrFun (x_up_n _ _ _ (by omega)) _) rfl))).trans es⟩), (fun j hj => by obtain ⟨q, hq, eq⟩ := hS j hj; exact ⟨q, hq, (show M126 36 j = M 36 j from (Eq.trans (k127 36 j (by unfold WTR; omega)) (Eq.trans (congrFun (x_up_n _ _ _ (by omega)) _) rfl))).trans eq⟩)⟩, (Or.inr ⟨⟨by rw [e_b]; exact c1, by grind, by grind⟩, h_, 0, 3, by omega, by decide, by decide, rfl, eq9, rfl, hx124, ht125⟩)⟩⟩)
          · refine xr_callV (As := [.int (nI (h_)), .int (3), .int (x)]) (rest := []) mlX9_338 (tw1_3 (ac := h_) x h_b (Eq.trans (x_up_k _ _ _ (by decide)) e_b) (by omega) ((Eq.trans (congrFun (x_up_n _ _ _ (by omega)) _) rfl).trans eq9)) dX9_act_37 s_46 rfl rfl (Nat.le_of_ble_eq_true rfl) (by decide) ⟨by decide, by decide⟩ (fun v s2 M131 J2 hq => ?_)
            obtain ⟨r133, rfl, rfl, rfl, k132, ⟨hx129, ht130⟩⟩ := hq
            try dsimp only [Option.toList, List.cons_append, List.nil_append]
            exact xr_iret dX9_act_40 rfl rfl (⟨_, rfl, rfl, rfl, (Ke.tr (fun _ _ h => h) (Ke.up (Or.inl (by omega)) Ke.rf) k132), ⟨⟨⟨cn, by omega, (Eq.trans (k132 13 2 (by decide)) (Eq.trans (congrFun (x_up_n _ _ _ (by decide)) _) e_cn))⟩, ⟨cm, by omega, (Eq.trans (k132 20 2 (by decide)) (Eq.trans (congrFun (x_up_n _ _ _ (by decide)) _) e_cm))⟩, ⟨L, by omega, (Eq.trans (k132 1 4 (by decide)) (Eq.trans (congrFun (x_up_n _ _ _ (by decide)) _) e_L))⟩, (fun kk hkk => by rw [show M131 3 kk = M 3 kk from (Eq.trans (k132 3 kk (by unfold WTR; omega)) (Eq.trans (congrFun (x_up_n _ _ _ (by omega)) _) rfl))]; exact hv kk hkk), (DI_ke (by intro k; unfold WTR; omega) k132 (DI_up (by decide) hD)), ⟨n, by omega, (Eq.trans (k132 6 2 (by decide)) (Eq.trans (congrFun (x_up_n _ _ _ (by decide)) _) e_n))⟩, ⟨un, wn, by omega, by omega, (Eq.trans (k132 41 4 (by decide)) (Eq.trans (congrFun (x_up_n _ _ _ (by decide)) _) e_un)), (Eq.trans (k132 41 5 (by decide)) (Eq.trans (congrFun (x_up_n _ _ _ (by decide)) _) e_wn))⟩, ⟨b, by omega, (Eq.trans (k132 46 2 (by decide)) (Eq.trans (x_up_k _ _ _ (by decide)) e_b))⟩, (fun j hj => by obtain ⟨q, hq, eq⟩ := hkd j hj; exact ⟨q, hq, (show M131 47 j = M 47 j from (Eq.trans (k132 47 j (by unfold WTR; omega)) (Eq.trans (congrFun (x_up_n _ _ _ (by omega)) _) rfl))).trans eq⟩), ⟨5, by omega, hx129⟩, (fun j hj => by obtain ⟨s, hs, es⟩ := hsl j hj; exact ⟨s, hs, (show M131 (50 + 2 * j) 3 = M (50 + 2 * j) 3 from (Eq.trans (k132 (50 + 2 * j) 3 (by unfold WTR; omega)) (Eq.trans (congrFun (x_up_n _ _ _ (by omega)) _) rfl))).trans es⟩), (fun j hj => by obtain ⟨q, hq, eq⟩ := hS j hj; exact ⟨q, hq, (show M131 36 j = M 36 j from (Eq.trans (k132 36 j (by unfold WTR; omega)) (Eq.trans (congrFun (x_up_n _ _ _ (by omega)) _) rfl))).trans eq⟩)⟩, (Or.inr ⟨⟨by rw [e_b]; exact c1, by grind, by grind⟩, h_, 1, 3, by omega, by decide, by decide, rfl, eq9, rfl, hx129, ht130⟩)⟩⟩)
          · refine xr_callV (As := [.int (nI (h_)), .int (3), .int (x)]) (rest := []) mlX9_338 (tw2_3 (ac := h_) x h_b (Eq.trans (x_up_k _ _ _ (by decide)) e_b) (by omega) ((Eq.trans (congrFun (x_up_n _ _ _ (by omega)) _) rfl).trans eq9)) dX9_act_37 s_46 rfl rfl (Nat.le_of_ble_eq_true rfl) (by decide) ⟨by decide, by decide⟩ (fun v s2 M136 J2 hq => ?_)
            obtain ⟨r138, rfl, rfl, rfl, k137, ⟨hx134, ht135⟩⟩ := hq
            try dsimp only [Option.toList, List.cons_append, List.nil_append]
            exact xr_iret dX9_act_40 rfl rfl (⟨_, rfl, rfl, rfl, (Ke.tr (fun _ _ h => h) (Ke.up (Or.inl (by omega)) Ke.rf) k137), ⟨⟨⟨cn, by omega, (Eq.trans (k137 13 2 (by decide)) (Eq.trans (congrFun (x_up_n _ _ _ (by decide)) _) e_cn))⟩, ⟨cm, by omega, (Eq.trans (k137 20 2 (by decide)) (Eq.trans (congrFun (x_up_n _ _ _ (by decide)) _) e_cm))⟩, ⟨L, by omega, (Eq.trans (k137 1 4 (by decide)) (Eq.trans (congrFun (x_up_n _ _ _ (by decide)) _) e_L))⟩, (fun kk hkk => by rw [show M136 3 kk = M 3 kk from (Eq.trans (k137 3 kk (by unfold WTR; omega)) (Eq.trans (congrFun (x_up_n _ _ _ (by omega)) _) rfl))]; exact hv kk hkk), (DI_ke (by intro k; unfold WTR; omega) k137 (DI_up (by decide) hD)), ⟨n, by omega, (Eq.trans (k137 6 2 (by decide)) (Eq.trans (congrFun (x_up_n _ _ _ (by decide)) _) e_n))⟩, ⟨un, wn, by omega, by omega, (Eq.trans (k137 41 4 (by decide)) (Eq.trans (congrFun (x_up_n _ _ _ (by decide)) _) e_un)), (Eq.trans (k137 41 5 (by decide)) (Eq.trans (congrFun (x_up_n _ _ _ (by decide)) _) e_wn))⟩, ⟨b, by omega, (Eq.trans (k137 46 2 (by decide)) (Eq.trans (x_up_k _ _ _ (by decide)) e_b))⟩, (fun j hj => by obtain ⟨q, hq, eq⟩ := hkd j hj; exact ⟨q, hq, (show M136 47 j = M 47 j from (Eq.trans (k137 47 j (by unfold WTR; omega)) (Eq.trans (congrFun (x_up_n _ _ _ (by omega)) _) rfl))).trans eq⟩), ⟨5, by omega, hx134⟩, (fun j hj => by obtain ⟨s, hs, es⟩ := hsl j hj; exact ⟨s, hs, (show M136 (50 + 2 * j) 3 = M (50 + 2 * j) 3 from (Eq.trans (k137 (50 + 2 * j) 3 (by unfold WTR; omega)) (Eq.trans (congrFun (x_up_n _ _ _ (by omega)) _) rfl))).trans es⟩), (fun j hj => by obtain ⟨q, hq, eq⟩ := hS j hj; exact ⟨q, hq, (show M136 36 j = M 36 j from (Eq.trans (k137 36 j (by unfold WTR; omega)) (Eq.trans (congrFun (x_up_n _ _ _ (by omega)) _) rfl))).trans eq⟩)⟩, (Or.inr ⟨⟨by rw [e_b]; exact c1, by grind, by grind⟩, h_, 2, 3, by omega, by decide, by decide, rfl, eq9, rfl, hx134, ht135⟩)⟩⟩)
          · refine xr_callV (As := [.int (nI (h_)), .int (3), .int (x)]) (rest := []) mlX9_338 (tw3_3 (ac := h_) x h_b (Eq.trans (x_up_k _ _ _ (by decide)) e_b) (by omega) ((Eq.trans (congrFun (x_up_n _ _ _ (by omega)) _) rfl).trans eq9)) dX9_act_37 s_46 rfl rfl (Nat.le_of_ble_eq_true rfl) (by decide) ⟨by decide, by decide⟩ (fun v s2 M141 J2 hq => ?_)
            obtain ⟨r143, rfl, rfl, rfl, k142, ⟨hx139, ht140⟩⟩ := hq
            try dsimp only [Option.toList, List.cons_append, List.nil_append]
            exact xr_iret dX9_act_40 rfl rfl (⟨_, rfl, rfl, rfl, (Ke.tr (fun _ _ h => h) (Ke.up (Or.inl (by omega)) Ke.rf) k142), ⟨⟨⟨cn, by omega, (Eq.trans (k142 13 2 (by decide)) (Eq.trans (congrFun (x_up_n _ _ _ (by decide)) _) e_cn))⟩, ⟨cm, by omega, (Eq.trans (k142 20 2 (by decide)) (Eq.trans (congrFun (x_up_n _ _ _ (by decide)) _) e_cm))⟩, ⟨L, by omega, (Eq.trans (k142 1 4 (by decide)) (Eq.trans (congrFun (x_up_n _ _ _ (by decide)) _) e_L))⟩, (fun kk hkk => by rw [show M141 3 kk = M 3 kk from (Eq.trans (k142 3 kk (by unfold WTR; omega)) (Eq.trans (congrFun (x_up_n _ _ _ (by omega)) _) rfl))]; exact hv kk hkk), (DI_ke (by intro k; unfold WTR; omega) k142 (DI_up (by decide) hD)), ⟨n, by omega, (Eq.trans (k142 6 2 (by decide)) (Eq.trans (congrFun (x_up_n _ _ _ (by decide)) _) e_n))⟩, ⟨un, wn, by omega, by omega, (Eq.trans (k142 41 4 (by decide)) (Eq.trans (congrFun (x_up_n _ _ _ (by decide)) _) e_un)), (Eq.trans (k142 41 5 (by decide)) (Eq.trans (congrFun (x_up_n _ _ _ (by decide)) _) e_wn))⟩, ⟨b, by omega, (Eq.trans (k142 46 2 (by decide)) (Eq.trans (x_up_k _ _ _ (by decide)) e_b))⟩, (fun j hj => by obtain ⟨q, hq, eq⟩ := hkd j hj; exact ⟨q, hq, (show M141 47 j = M 47 j from (Eq.trans (k142 47 j (by unfold WTR; omega)) (Eq.trans (congrFun (x_up_n _ _ _ (by omega)) _) rfl))).trans eq⟩), ⟨7, by omega, hx139⟩, (fun j hj => by obtain ⟨s, hs, es⟩ := hsl j hj; exact ⟨s, hs, (show M141 (50 + 2 * j) 3 = M (50 + 2 * j) 3 from (Eq.trans (k142 (50 + 2 * j) 3 (by unfold WTR; omega)) (Eq.trans (congrFun (x_up_n _ _ _ (by omega)) _) rfl))).trans es⟩), (fun j hj => by obtain ⟨q, hq, eq⟩ := hS j hj; exact ⟨q, hq, (show M141 36 j = M 36 j from (Eq.trans (k142 36 j (by unfold WTR; omega)) (Eq.trans (congrFun (x_up_n _ _ _ (by omega)) _) rfl))).trans eq⟩)⟩, (Or.inr ⟨⟨by rw [e_b]; exact c1, by grind, by grind⟩, h_, 3, 3, by omega, by decide, by decide, rfl, eq9, rfl, hx139, ht140⟩)⟩⟩)
          · refine xr_callV (As := [.int (nI (h_)), .int (3), .int (x)]) (rest := []) mlX9_338 (tw4_3 (ac := h_) x h_b (Eq.trans (x_up_k _ _ _ (by decide)) e_b) (by omega) ((Eq.trans (congrFun (x_up_n _ _ _ (by omega)) _) rfl).trans eq9)) dX9_act_37 s_46 rfl rfl (Nat.le_of_ble_eq_true rfl) (by decide) ⟨by decide, by decide⟩ (fun v s2 M146 J2 hq => ?_)
            obtain ⟨r148, rfl, rfl, rfl, k147, ⟨hx144, ht145⟩⟩ := hq
            try dsimp only [Option.toList, List.cons_append, List.nil_append]
            exact xr_iret dX9_act_40 rfl rfl (⟨_, rfl, rfl, rfl, (Ke.tr (fun _ _ h => h) (Ke.up (Or.inl (by omega)) Ke.rf) k147), ⟨⟨⟨cn, by omega, (Eq.trans (k147 13 2 (by decide)) (Eq.trans (congrFun (x_up_n _ _ _ (by decide)) _) e_cn))⟩, ⟨cm, by omega, (Eq.trans (k147 20 2 (by decide)) (Eq.trans (congrFun (x_up_n _ _ _ (by decide)) _) e_cm))⟩, ⟨L, by omega, (Eq.trans (k147 1 4 (by decide)) (Eq.trans (congrFun (x_up_n _ _ _ (by decide)) _) e_L))⟩, (fun kk hkk => by rw [show M146 3 kk = M 3 kk from (Eq.trans (k147 3 kk (by unfold WTR; omega)) (Eq.trans (congrFun (x_up_n _ _ _ (by omega)) _) rfl))]; exact hv kk hkk), (DI_ke (by intro k; unfold WTR; omega) k147 (DI_up (by decide) hD)), ⟨n, by omega, (Eq.trans (k147 6 2 (by decide)) (Eq.trans (congrFun (x_up_n _ _ _ (by decide)) _) e_n))⟩, ⟨un, wn, by omega, by omega, (Eq.trans (k147 41 4 (by decide)) (Eq.trans (congrFun (x_up_n _ _ _ (by decide)) _) e_un)), (Eq.trans (k147 41 5 (by decide)) (Eq.trans (congrFun (x_up_n _ _ _ (by decide)) _) e_wn))⟩, ⟨b, by omega, (Eq.trans (k147 46 2 (by decide)) (Eq.trans (x_up_k _ _ _ (by decide)) e_b))⟩, (fun j hj => by obtain ⟨q, hq, eq⟩ := hkd j hj; exact ⟨q, hq, (show M146 47 j = M 47 j from (Eq.trans (k147 47 j (by unfold WTR; omega)) (Eq.trans (congrFun (x_up_n _ _ _ (by omega)) _) rfl))).trans eq⟩), ⟨8, by omega, hx144⟩, (fun j hj => by obtain ⟨s, hs, es⟩ := hsl j hj; exact ⟨s, hs, (show M146 (50 + 2 * j) 3 = M (50 + 2 * j) 3 from (Eq.trans (k147 (50 + 2 * j) 3 (by unfold WTR; omega)) (Eq.trans (congrFun (x_up_n _ _ _ (by omega)) _) rfl))).trans es⟩), (fun j hj => by obtain ⟨q, hq, eq⟩ := hS j hj; exact ⟨q, hq, (show M146 36 j = M 36 j from (Eq.trans (k147 36 j (by unfold WTR; omega)) (Eq.trans (congrFun (x_up_n _ _ _ (by omega)) _) rfl))).trans eq⟩)⟩, (Or.inr ⟨⟨by rw [e_b]; exact c1, by grind, by grind⟩, h_, 4, 3, by omega, by decide, by decide, rfl, eq9, rfl, hx144, ht145⟩)⟩⟩)
          · refine xr_callV (As := [.int (nI (h_)), .int (3), .int (x)]) (rest := []) mlX9_338 (tw5_3 (ac := h_) x h_b (Eq.trans (x_up_k _ _ _ (by decide)) e_b) (by omega) ((Eq.trans (congrFun (x_up_n _ _ _ (by omega)) _) rfl).trans eq9)) dX9_act_37 s_46 rfl rfl (Nat.le_of_ble_eq_true rfl) (by decide) ⟨by decide, by decide⟩ (fun v s2 M151 J2 hq => ?_)
            obtain ⟨r153, rfl, rfl, rfl, k152, ⟨hx149, ht150⟩⟩ := hq
            try dsimp only [Option.toList, List.cons_append, List.nil_append]
            exact xr_iret dX9_act_40 rfl rfl (⟨_, rfl, rfl, rfl, (Ke.tr (fun _ _ h => h) (Ke.up (Or.inl (by omega)) Ke.rf) k152), ⟨⟨⟨cn, by omega, (Eq.trans (k152 13 2 (by decide)) (Eq.trans (congrFun (x_up_n _ _ _ (by decide)) _) e_cn))⟩, ⟨cm, by omega, (Eq.trans (k152 20 2 (by decide)) (Eq.trans (congrFun (x_up_n _ _ _ (by decide)) _) e_cm))⟩, ⟨L, by omega, (Eq.trans (k152 1 4 (by decide)) (Eq.trans (congrFun (x_up_n _ _ _ (by decide)) _) e_L))⟩, (fun kk hkk => by rw [show M151 3 kk = M 3 kk from (Eq.trans (k152 3 kk (by unfold WTR; omega)) (Eq.trans (congrFun (x_up_n _ _ _ (by omega)) _) rfl))]; exact hv kk hkk), (DI_ke (by intro k; unfold WTR; omega) k152 (DI_up (by decide) hD)), ⟨n, by omega, (Eq.trans (k152 6 2 (by decide)) (Eq.trans (congrFun (x_up_n _ _ _ (by decide)) _) e_n))⟩, ⟨un, wn, by omega, by omega, (Eq.trans (k152 41 4 (by decide)) (Eq.trans (congrFun (x_up_n _ _ _ (by decide)) _) e_un)), (Eq.trans (k152 41 5 (by decide)) (Eq.trans (congrFun (x_up_n _ _ _ (by decide)) _) e_wn))⟩, ⟨b, by omega, (Eq.trans (k152 46 2 (by decide)) (Eq.trans (x_up_k _ _ _ (by decide)) e_b))⟩, (fun j hj => by obtain ⟨q, hq, eq⟩ := hkd j hj; exact ⟨q, hq, (show M151 47 j = M 47 j from (Eq.trans (k152 47 j (by unfold WTR; omega)) (Eq.trans (congrFun (x_up_n _ _ _ (by omega)) _) rfl))).trans eq⟩), ⟨8, by omega, hx149⟩, (fun j hj => by obtain ⟨s, hs, es⟩ := hsl j hj; exact ⟨s, hs, (show M151 (50 + 2 * j) 3 = M (50 + 2 * j) 3 from (Eq.trans (k152 (50 + 2 * j) 3 (by unfold WTR; omega)) (Eq.trans (congrFun (x_up_n _ _ _ (by omega)) _) rfl))).trans es⟩), (fun j hj => by obtain ⟨q, hq, eq⟩ := hS j hj; exact ⟨q, hq, (show M151 36 j = M 36 j from (Eq.trans (k152 36 j (by unfold WTR; omega)) (Eq.trans (congrFun (x_up_n _ _ _ (by omega)) _) rfl))).trans eq⟩)⟩, (Or.inr ⟨⟨by rw [e_b]; exact c1, by grind, by grind⟩, h_, 5, 3, by omega, by decide, by decide, rfl, eq9, rfl, hx149, ht150⟩)⟩⟩)
          · refine xr_callV (As := [.int (nI (h_)), .int (3), .int (x)]) (rest := []) mlX9_338 (tw6_3 (ac := h_) x h_b (Eq.trans (x_up_k _ _ _ (by decide)) e_b) (by omega) ((Eq.trans (congrFun (x_up_n _ _ _ (by omega)) _) rfl).trans eq9)) dX9_act_37 s_46 rfl rfl (Nat.le_of_ble_eq_true rfl) (by decide) ⟨by decide, by decide⟩ (fun v s2 M156 J2 hq => ?_)
            obtain ⟨r158, rfl, rfl, rfl, k157, ⟨hx154, ht155⟩⟩ := hq
            try dsimp only [Option.toList, List.cons_append, List.nil_append]
            exact xr_iret dX9_act_40 rfl rfl (⟨_, rfl, rfl, rfl, (Ke.tr (fun _ _ h => h) (Ke.up (Or.inl (by omega)) Ke.rf) k157), ⟨⟨⟨cn, by omega, (Eq.trans (k157 13 2 (by decide)) (Eq.trans (congrFun (x_up_n _ _ _ (by decide)) _) e_cn))⟩, ⟨cm, by omega, (Eq.trans (k157 20 2 (by decide)) (Eq.trans (congrFun (x_up_n _ _ _ (by decide)) _) e_cm))⟩, ⟨L, by omega, (Eq.trans (k157 1 4 (by decide)) (Eq.trans (congrFun (x_up_n _ _ _ (by decide)) _) e_L))⟩, (fun kk hkk => by rw [show M156 3 kk = M 3 kk from (Eq.trans (k157 3 kk (by unfold WTR; omega)) (Eq.trans (congrFun (x_up_n _ _ _ (by omega)) _) rfl))]; exact hv kk hkk), (DI_ke (by intro k; unfold WTR; omega) k157 (DI_up (by decide) hD)), ⟨n, by omega, (Eq.trans (k157 6 2 (by decide)) (Eq.trans (congrFun (x_up_n _ _ _ (by decide)) _) e_n))⟩, ⟨un, wn, by omega, by omega, (Eq.trans (k157 41 4 (by decide)) (Eq.trans (congrFun (x_up_n _ _ _ (by decide)) _) e_un)), (Eq.trans (k157 41 5 (by decide)) (Eq.trans (congrFun (x_up_n _ _ _ (by decide)) _) e_wn))⟩, ⟨b, by omega, (Eq.trans (k157 46 2 (by decide)) (Eq.trans (x_up_k _ _ _ (by decide)) e_b))⟩, (fun j hj => by obtain ⟨q, hq, eq⟩ := hkd j hj; exact ⟨q, hq, (show M156 47 j = M 47 j from (Eq.trans (k157 47 j (by unfold WTR; omega)) (Eq.trans (congrFun (x_up_n _ _ _ (by omega)) _) rfl))).trans eq⟩), ⟨5, by omega, hx154⟩, (fun j hj => by obtain ⟨s, hs, es⟩ := hsl j hj; exact ⟨s, hs, (show M156 (50 + 2 * j) 3 = M (50 + 2 * j) 3 from (Eq.trans (k157 (50 + 2 * j) 3 (by unfold WTR; omega)) (Eq.trans (congrFun (x_up_n _ _ _ (by omega)) _) rfl))).trans es⟩), (fun j hj => by obtain ⟨q, hq, eq⟩ := hS j hj; exact ⟨q, hq, (show M156 36 j = M 36 j from (Eq.trans (k157 36 j (by unfold WTR; omega)) (Eq.trans (congrFun (x_up_n _ _ _ (by omega)) _) rfl))).trans eq⟩)⟩, (Or.inr ⟨⟨by rw [e_b]; exact c1, by grind, by grind⟩, h_, 6, 3, by omega, by decide, by decide, rfl, eq9, rfl, hx154, ht155⟩)⟩⟩)
          · refine xr_callV (As := [.int (nI (h_)), .int (3), .int (x)]) (rest := []) mlX9_338 (tw7_3 (ac := h_) x h_b (Eq.trans (x_up_k _ _ _ (by decide)) e_b) (by omega) ((Eq.trans (congrFun (x_up_n _ _ _ (by omega)) _) rfl).trans eq9)) dX9_act_37 s_46 rfl rfl (Nat.le_of_ble_eq_true rfl) (by decide) ⟨by decide, by decide⟩ (fun v s2 M161 J2 hq => ?_)
            obtain ⟨r163, rfl, rfl, rfl, k162, ⟨hx159, ht160⟩⟩ := hq
            try dsimp only [Option.toList, List.cons_append, List.nil_append]
            exact xr_iret dX9_act_40 rfl rfl (⟨_, rfl, rfl, rfl, (Ke.tr (fun _ _ h => h) (Ke.up (Or.inl (by omega)) Ke.rf) k162), ⟨⟨⟨cn, by omega, (Eq.trans (k162 13 2 (by decide)) (Eq.trans (congrFun (x_up_n _ _ _ (by decide)) _) e_cn))⟩, ⟨cm, by omega, (Eq.trans (k162 20 2 (by decide)) (Eq.trans (congrFun (x_up_n _ _ _ (by decide)) _) e_cm))⟩, ⟨L, by omega, (Eq.trans (k162 1 4 (by decide)) (Eq.trans (congrFun (x_up_n _ _ _ (by decide)) _) e_L))⟩, (fun kk hkk => by rw [show M161 3 kk = M 3 kk from (Eq.trans (k162 3 kk (by unfold WTR; omega)) (Eq.trans (congrFun (x_up_n _ _ _ (by omega)) _) rfl))]; exact hv kk hkk), (DI_ke (by intro k; unfold WTR; omega) k162 (DI_up (by decide) hD)), ⟨n, by omega, (Eq.trans (k162 6 2 (by decide)) (Eq.trans (congrFun (x_up_n _ _ _ (by decide)) _) e_n))⟩, ⟨un, wn, by omega, by omega, (Eq.trans (k162 41 4 (by decide)) (Eq.trans (congrFun (x_up_n _ _ _ (by decide)) _) e_un)), (Eq.trans (k162 41 5 (by decide)) (Eq.trans (congrFun (x_up_n _ _ _ (by decide)) _) e_wn))⟩, ⟨b, by omega, (Eq.trans (k162 46 2 (by decide)) (Eq.trans (x_up_k _ _ _ (by decide)) e_b))⟩, (fun j hj => by obtain ⟨q, hq, eq⟩ := hkd j hj; exact ⟨q, hq, (show M161 47 j = M 47 j from (Eq.trans (k162 47 j (by unfold WTR; omega)) (Eq.trans (congrFun (x_up_n _ _ _ (by omega)) _) rfl))).trans eq⟩), ⟨14, by omega, hx159⟩, (fun j hj => by obtain ⟨s, hs, es⟩ := hsl j hj; exact ⟨s, hs, (show M161 (50 + 2 * j) 3 = M (50 + 2 * j) 3 from (Eq.trans (k162 (50 + 2 * j) 3 (by unfold WTR; omega)) (Eq.trans (congrFun (x_up_n _ _ _ (by omega)) _) rfl))).trans es⟩), (fun j hj => by obtain ⟨q, hq, eq⟩ := hS j hj; exact ⟨q, hq, (show M161 36 j = M 36 j from (Eq.trans (k162 36 j (by unfold WTR; omega)) (Eq.trans (congrFun (x_up_n _ _ _ (by omega)) _) rfl))).trans eq⟩)⟩, (Or.inr ⟨⟨by rw [e_b]; exact c1, by grind, by grind⟩, h_, 7, 3, by omega, by decide, by decide, rfl, eq9, rfl, hx159, ht160⟩)⟩⟩)
      · refine xr_iconst (v := 0) dX9_act_28 rfl ?_
        exact xr_iret dX9_act_29 rfl rfl (⟨_, rfl, rfl, rfl, (Ke.up (Or.inl (by omega)) Ke.rf), ⟨⟨⟨cn, by omega, (Eq.trans (congrFun (x_up_n _ _ _ (by decide)) _) e_cn)⟩, ⟨cm, by omega, (Eq.trans (congrFun (x_up_n _ _ _ (by decide)) _) e_cm)⟩, ⟨L, by omega, (Eq.trans (congrFun (x_up_n _ _ _ (by decide)) _) e_L)⟩, (fun kk hkk => by rw [show (x_up M 46 3 0) 3 kk = M 3 kk from (Eq.trans (congrFun (x_up_n _ _ _ (by omega)) _) rfl)]; exact hv kk hkk), (DI_up (by decide) hD), ⟨n, by omega, (Eq.trans (congrFun (x_up_n _ _ _ (by decide)) _) e_n)⟩, ⟨un, wn, by omega, by omega, (Eq.trans (congrFun (x_up_n _ _ _ (by decide)) _) e_un), (Eq.trans (congrFun (x_up_n _ _ _ (by decide)) _) e_wn)⟩, ⟨b, by omega, (Eq.trans (x_up_k _ _ _ (by decide)) e_b)⟩, (fun j hj => by obtain ⟨q, hq, eq⟩ := hkd j hj; exact ⟨q, hq, (show (x_up M 46 3 0) 47 j = M 47 j from (Eq.trans (congrFun (x_up_n _ _ _ (by omega)) _) rfl)).trans eq⟩), ⟨0, by omega, (x_up_s _ _ _ _)⟩, (fun j hj => by obtain ⟨s, hs, es⟩ := hsl j hj; exact ⟨s, hs, (show (x_up M 46 3 0) (50 + 2 * j) 3 = M (50 + 2 * j) 3 from (Eq.trans (congrFun (x_up_n _ _ _ (by omega)) _) rfl)).trans es⟩), (fun j hj => by obtain ⟨q, hq, eq⟩ := hS j hj; exact ⟨q, hq, (show (x_up M 46 3 0) 36 j = M 36 j from (Eq.trans (congrFun (x_up_n _ _ _ (by omega)) _) rfl)).trans eq⟩)⟩, (Or.inl ⟨(fun q => absurd q.2.2 (by grind)), (x_up_s _ _ _ _)⟩)⟩⟩)
set_option maxRecDepth 100000 in
set_option maxHeartbeats 4000000 in
theorem gt_X10_act (h ac_ x : Int32) {l : Launch} {G : xG} {M : xM} {J : xJ} (hI : InvR M) : x_M l G fX10_act 21 0 0 [.ref (62), .int (h), .int (ac_), .int (x)] x_SH M J (qKI WRC M J (fun r M2 => InvR M2 ∧ (ETr (M 62 36) (M 81) h ac_ (M2 62 39) (M2 82)))) := by
  refine xb_of pX10 (Nat.le_of_ble_eq_true rfl) rfl ?_
  obtain ⟨⟨hn, h_hn, e_hn, hw⟩, hbt, ⟨un, wn, h_uw, h_wn, e_un, e_wn⟩, hch, ⟨n, h_n, e_n⟩, htx, ⟨b, h_b, e_b⟩, hkd, ⟨ra, h_ra, e_ra⟩, hsl, ⟨ic, h_ic, e_ic⟩, hS⟩ := hI
  refine xr_aload_n dX10_act_0 0 rfl ?_
  refine xr_iconst (v := 0) dX10_act_1 rfl ?_
  refine xr_putI fpX10_337 dX10_act_2 s_62 rfl rfl rfl ?_
  refine xr_aload_n dX10_act_5 0 rfl ?_
  refine xr_iload_n dX10_act_6 1 rfl ?_
  refine xb_cV (As := [.int (h)]) (rest := []) mlX10_361 (c_X10_isBody h (by omega) (Eq.trans (x_up_k _ _ _ (by decide)) e_b)) dX10_act_7 s_62 rfl rfl (Nat.le_of_ble_eq_true rfl) (by decide) (by decide) ?_
  refine xb_bne (tgt := 15) dX10_act_10 rfl (fun c1 => ?_) (fun c1 => ?_)
  · obtain ⟨h_, hh_, rfl⟩ := x_nat (N := b) (by omega) rfl c1
    obtain ⟨q9, hq9, eq9⟩ := hkd h_ (by omega)
    have hq8 : q9 = 0 ∨ q9 = 1 ∨ q9 = 2 ∨ q9 = 3 ∨ q9 = 4 ∨ q9 = 5 ∨ q9 = 6 ∨ q9 = 7 := by omega
    rcases hq8 with rfl | rfl | rfl | rfl | rfl | rfl | rfl | rfl
    · refine xr_aload_n dX10_act_15 0 rfl ?_
      refine xr_aload_n dX10_act_16 0 rfl ?_
      refine xr_getR flX10_69 dX10_act_17 s_62 rfl ?_
      refine xr_iload_n dX10_act_20 1 rfl ?_
      refine xb_iald (j := h_) (v := 0) dX10_act_21 s_81 (by omega) (by decide) (Eq.trans (congrFun (x_up_n _ _ _ (by decide)) _) eq9) ?_
      refine xr_putI fpX10_352 dX10_act_22 s_62 rfl rfl rfl ?_
      refine xr_aload_n dX10_act_25 0 rfl ?_
      refine xr_iload_n dX10_act_26 1 rfl ?_
      refine xr_putI fpX10_346 dX10_act_27 s_62 rfl rfl rfl ?_
      refine xr_iload_n dX10_act_30 2 rfl ?_
      refine xg_eq 0 (fun w2 => ?_) (fun w2 => ?_)
      · refine xr_tableIn (tgt := 60) dX10_act_31 (by decide) (by decide) rfl rfl ?_
        refine xr_aload_n dX10_act_60 0 rfl ?_
        refine xr_aload_n dX10_act_61 0 rfl ?_
        refine xb_get (v := 0) flX10_352 dX10_act_62 s_62 rfl (Eq.trans (x_up_k _ _ _ (by decide)) (x_up_s _ _ _ _)) ?_
        refine xr_iload_n dX10_act_65 3 rfl ?_
        refine xr_callV (As := [.int (0), .int (x)]) (rest := []) mlX10_343 (rv0_pushesAs_0 (ac := h_) (ra := 0) x (by omega) (Eq.trans (x_up_k _ _ _ (by decide)) (Eq.trans (x_up_k _ _ _ (by decide)) (x_up_s _ _ _ _))) (Eq.trans (x_up_k _ _ _ (by decide)) (x_up_s _ _ _ _)) (x_up_s _ _ _ _)) dX10_act_66 s_62 rfl rfl (Nat.le_of_ble_eq_true rfl) (by decide) ⟨by decide, by decide⟩ (fun v s2 M6 J2 hq => ?_)
        obtain ⟨r8, rfl, rfl, rfl, k7, ⟨hr4, hx3, ht5⟩⟩ := hq
        try dsimp only [Option.toList, List.cons_append, List.nil_append]
        exact xr_iret dX10_act_69 rfl rfl (⟨_, rfl, rfl, rfl, (Ke.tr (fun pp kk => (fun hh => Or.elim hh (fun h => (Or.inl h)) (fun h => (Or.inr (Or.inr (Or.inr h)))))) (Ke.up (Or.inr (Or.inr (Or.inl (by omega)))) (Ke.up (Or.inr (Or.inl (by omega))) (Ke.up (Or.inl (by omega)) Ke.rf))) k7), ⟨⟨⟨hn, by omega, (Eq.trans (k7 62 6 (by decide)) (Eq.trans (x_up_k _ _ _ (by decide)) (Eq.trans (x_up_k _ _ _ (by decide)) (Eq.trans (x_up_k _ _ _ (by decide)) e_hn)))), (fun kw hkw => by rw [show M6 63 (5 + kw) = M 63 (5 + kw) from (Eq.trans (k7 63 (5 + kw) (by unfold WRA; omega)) (Eq.trans (congrFun (x_up_n _ _ _ (by omega)) _) (Eq.trans (congrFun (x_up_n _ _ _ (by omega)) _) (Eq.trans (congrFun (x_up_n _ _ _ (by omega)) _) rfl))))]; exact hw kw hkw)⟩, (by rw [show M6 63 16 = M 63 16 from (Eq.trans (k7 63 16 (by unfold WRA; omega)) (Eq.trans (congrFun (x_up_n _ _ _ (by omega)) _) (Eq.trans (congrFun (x_up_n _ _ _ (by omega)) _) (Eq.trans (congrFun (x_up_n _ _ _ (by omega)) _) rfl))))]; exact hbt), ⟨un, wn, by omega, by omega, (Eq.trans (k7 62 5 (by decide)) (Eq.trans (x_up_k _ _ _ (by decide)) (Eq.trans (x_up_k _ _ _ (by decide)) (Eq.trans (x_up_k _ _ _ (by decide)) e_un)))), (Eq.trans (k7 62 4 (by decide)) (Eq.trans (x_up_k _ _ _ (by decide)) (Eq.trans (x_up_k _ _ _ (by decide)) (Eq.trans (x_up_k _ _ _ (by decide)) e_wn))))⟩, (fun kk hkk => by rw [show M6 64 kk = M 64 kk from (Eq.trans (k7 64 kk (by unfold WRA; omega)) (Eq.trans (congrFun (x_up_n _ _ _ (by omega)) _) (Eq.trans (congrFun (x_up_n _ _ _ (by omega)) _) (Eq.trans (congrFun (x_up_n _ _ _ (by omega)) _) rfl)))), show M6 65 kk = M 65 kk from (Eq.trans (k7 65 kk (by unfold WRA; omega)) (Eq.trans (congrFun (x_up_n _ _ _ (by omega)) _) (Eq.trans (congrFun (x_up_n _ _ _ (by omega)) _) (Eq.trans (congrFun (x_up_n _ _ _ (by omega)) _) rfl)))), show M6 66 kk = M 66 kk from (Eq.trans (k7 66 kk (by unfold WRA; omega)) (Eq.trans (congrFun (x_up_n _ _ _ (by omega)) _) (Eq.trans (congrFun (x_up_n _ _ _ (by omega)) _) (Eq.trans (congrFun (x_up_n _ _ _ (by omega)) _) rfl))))]; exact hch kk hkk), ⟨n, by omega, (Eq.trans (k7 62 11 (by decide)) (Eq.trans (x_up_k _ _ _ (by decide)) (Eq.trans (x_up_k _ _ _ (by decide)) (Eq.trans (x_up_k _ _ _ (by decide)) e_n))))⟩, (by rw [show M6 62 13 = M 62 13 from (Eq.trans (k7 62 13 (by unfold WRA; omega)) (Eq.trans (x_up_k _ _ _ (by omega)) (Eq.trans (x_up_k _ _ _ (by omega)) (Eq.trans (x_up_k _ _ _ (by omega)) rfl))))]; exact htx), ⟨b, by omega, (Eq.trans (k7 62 36 (by decide)) (Eq.trans (x_up_k _ _ _ (by decide)) (Eq.trans (x_up_k _ _ _ (by decide)) (Eq.trans (x_up_k _ _ _ (by decide)) e_b))))⟩, (fun j hj => by obtain ⟨q, hq, eq⟩ := hkd j hj; exact ⟨q, hq, (show M6 81 j = M 81 j from (Eq.trans (k7 81 j (by unfold WRA; omega)) (Eq.trans (congrFun (x_up_n _ _ _ (by omega)) _) (Eq.trans (congrFun (x_up_n _ _ _ (by omega)) _) (Eq.trans (congrFun (x_up_n _ _ _ (by omega)) _) rfl))))).trans eq⟩), ⟨0 + 1, by omega, hx3⟩, (fun j hj => by rw [show M6 83 j = M 83 j from (Eq.trans (k7 83 j (by unfold WRA; omega)) (Eq.trans (congrFun (x_up_n _ _ _ (by omega)) _) (Eq.trans (congrFun (x_up_n _ _ _ (by omega)) _) (Eq.trans (congrFun (x_up_n _ _ _ (by omega)) _) rfl)))), show M6 84 j = M 84 j from (Eq.trans (k7 84 j (by unfold WRA; omega)) (Eq.trans (congrFun (x_up_n _ _ _ (by omega)) _) (Eq.trans (congrFun (x_up_n _ _ _ (by omega)) _) (Eq.trans (congrFun (x_up_n _ _ _ (by omega)) _) rfl))))]; exact hsl j hj), ⟨ic, by omega, (Eq.trans (k7 62 34 (by decide)) (Eq.trans (x_up_k _ _ _ (by decide)) (Eq.trans (x_up_k _ _ _ (by decide)) (Eq.trans (x_up_k _ _ _ (by decide)) e_ic))))⟩, (fun j hj => by obtain ⟨q, hq, eq⟩ := hS j hj; exact ⟨q, hq, (show M6 75 j = M 75 j from (Eq.trans (k7 75 j (by unfold WRA; omega)) (Eq.trans (congrFun (x_up_n _ _ _ (by omega)) _) (Eq.trans (congrFun (x_up_n _ _ _ (by omega)) _) (Eq.trans (congrFun (x_up_n _ _ _ (by omega)) _) rfl))))).trans eq⟩)⟩, (Or.inr ⟨⟨by rw [e_b]; exact c1, by grind, by grind⟩, h_, 0, 0, by omega, by decide, by decide, rfl, eq9, w2, (hx3.trans (congrArg nI (Nat.zero_add _))), (TrA_F ht5)⟩)⟩⟩)
      refine xg_eq 1 (fun w9 => ?_) (fun w9 => ?_)
      · refine xr_tableIn (tgt := 70) dX10_act_31 (by decide) (by decide) rfl rfl ?_
        refine xr_aload_n dX10_act_70 0 rfl ?_
        refine xr_aload_n dX10_act_71 0 rfl ?_
        refine xb_get (v := 0) flX10_352 dX10_act_72 s_62 rfl (Eq.trans (x_up_k _ _ _ (by decide)) (x_up_s _ _ _ _)) ?_
        refine xr_iload_n dX10_act_75 3 rfl ?_
        refine xr_callV (As := [.int (0), .int (x)]) (rest := []) mlX10_349 (rv0_turnsAs_0 (ac := h_) (ra := 0) x (by omega) (Eq.trans (x_up_k _ _ _ (by decide)) (Eq.trans (x_up_k _ _ _ (by decide)) (x_up_s _ _ _ _))) (Eq.trans (x_up_k _ _ _ (by decide)) (x_up_s _ _ _ _)) (x_up_s _ _ _ _)) dX10_act_76 s_62 rfl rfl (Nat.le_of_ble_eq_true rfl) (by decide) ⟨by decide, by decide⟩ (fun v s2 M13 J2 hq => ?_)
        obtain ⟨r15, rfl, rfl, rfl, k14, ⟨hr11, hx10, ht12⟩⟩ := hq
        try dsimp only [Option.toList, List.cons_append, List.nil_append]
        exact xr_iret dX10_act_79 rfl rfl (⟨_, rfl, rfl, rfl, (Ke.tr (fun pp kk => (fun hh => Or.elim hh (fun h => (Or.inl h)) (fun h => (Or.inr (Or.inr (Or.inr h)))))) (Ke.up (Or.inr (Or.inr (Or.inl (by omega)))) (Ke.up (Or.inr (Or.inl (by omega))) (Ke.up (Or.inl (by omega)) Ke.rf))) k14), ⟨⟨⟨hn, by omega, (Eq.trans (k14 62 6 (by decide)) (Eq.trans (x_up_k _ _ _ (by decide)) (Eq.trans (x_up_k _ _ _ (by decide)) (Eq.trans (x_up_k _ _ _ (by decide)) e_hn)))), (fun kw hkw => by rw [show M13 63 (5 + kw) = M 63 (5 + kw) from (Eq.trans (k14 63 (5 + kw) (by unfold WRA; omega)) (Eq.trans (congrFun (x_up_n _ _ _ (by omega)) _) (Eq.trans (congrFun (x_up_n _ _ _ (by omega)) _) (Eq.trans (congrFun (x_up_n _ _ _ (by omega)) _) rfl))))]; exact hw kw hkw)⟩, (by rw [show M13 63 16 = M 63 16 from (Eq.trans (k14 63 16 (by unfold WRA; omega)) (Eq.trans (congrFun (x_up_n _ _ _ (by omega)) _) (Eq.trans (congrFun (x_up_n _ _ _ (by omega)) _) (Eq.trans (congrFun (x_up_n _ _ _ (by omega)) _) rfl))))]; exact hbt), ⟨un, wn, by omega, by omega, (Eq.trans (k14 62 5 (by decide)) (Eq.trans (x_up_k _ _ _ (by decide)) (Eq.trans (x_up_k _ _ _ (by decide)) (Eq.trans (x_up_k _ _ _ (by decide)) e_un)))), (Eq.trans (k14 62 4 (by decide)) (Eq.trans (x_up_k _ _ _ (by decide)) (Eq.trans (x_up_k _ _ _ (by decide)) (Eq.trans (x_up_k _ _ _ (by decide)) e_wn))))⟩, (fun kk hkk => by rw [show M13 64 kk = M 64 kk from (Eq.trans (k14 64 kk (by unfold WRA; omega)) (Eq.trans (congrFun (x_up_n _ _ _ (by omega)) _) (Eq.trans (congrFun (x_up_n _ _ _ (by omega)) _) (Eq.trans (congrFun (x_up_n _ _ _ (by omega)) _) rfl)))), show M13 65 kk = M 65 kk from (Eq.trans (k14 65 kk (by unfold WRA; omega)) (Eq.trans (congrFun (x_up_n _ _ _ (by omega)) _) (Eq.trans (congrFun (x_up_n _ _ _ (by omega)) _) (Eq.trans (congrFun (x_up_n _ _ _ (by omega)) _) rfl)))), show M13 66 kk = M 66 kk from (Eq.trans (k14 66 kk (by unfold WRA; omega)) (Eq.trans (congrFun (x_up_n _ _ _ (by omega)) _) (Eq.trans (congrFun (x_up_n _ _ _ (by omega)) _) (Eq.trans (congrFun (x_up_n _ _ _ (by omega)) _) rfl))))]; exact hch kk hkk), ⟨n, by omega, (Eq.trans (k14 62 11 (by decide)) (Eq.trans (x_up_k _ _ _ (by decide)) (Eq.trans (x_up_k _ _ _ (by decide)) (Eq.trans (x_up_k _ _ _ (by decide)) e_n))))⟩, (by rw [show M13 62 13 = M 62 13 from (Eq.trans (k14 62 13 (by unfold WRA; omega)) (Eq.trans (x_up_k _ _ _ (by omega)) (Eq.trans (x_up_k _ _ _ (by omega)) (Eq.trans (x_up_k _ _ _ (by omega)) rfl))))]; exact htx), ⟨b, by omega, (Eq.trans (k14 62 36 (by decide)) (Eq.trans (x_up_k _ _ _ (by decide)) (Eq.trans (x_up_k _ _ _ (by decide)) (Eq.trans (x_up_k _ _ _ (by decide)) e_b))))⟩, (fun j hj => by obtain ⟨q, hq, eq⟩ := hkd j hj; exact ⟨q, hq, (show M13 81 j = M 81 j from (Eq.trans (k14 81 j (by unfold WRA; omega)) (Eq.trans (congrFun (x_up_n _ _ _ (by omega)) _) (Eq.trans (congrFun (x_up_n _ _ _ (by omega)) _) (Eq.trans (congrFun (x_up_n _ _ _ (by omega)) _) rfl))))).trans eq⟩), ⟨0 + 2, by omega, hx10⟩, (fun j hj => by rw [show M13 83 j = M 83 j from (Eq.trans (k14 83 j (by unfold WRA; omega)) (Eq.trans (congrFun (x_up_n _ _ _ (by omega)) _) (Eq.trans (congrFun (x_up_n _ _ _ (by omega)) _) (Eq.trans (congrFun (x_up_n _ _ _ (by omega)) _) rfl)))), show M13 84 j = M 84 j from (Eq.trans (k14 84 j (by unfold WRA; omega)) (Eq.trans (congrFun (x_up_n _ _ _ (by omega)) _) (Eq.trans (congrFun (x_up_n _ _ _ (by omega)) _) (Eq.trans (congrFun (x_up_n _ _ _ (by omega)) _) rfl))))]; exact hsl j hj), ⟨ic, by omega, (Eq.trans (k14 62 34 (by decide)) (Eq.trans (x_up_k _ _ _ (by decide)) (Eq.trans (x_up_k _ _ _ (by decide)) (Eq.trans (x_up_k _ _ _ (by decide)) e_ic))))⟩, (fun j hj => by obtain ⟨q, hq, eq⟩ := hS j hj; exact ⟨q, hq, (show M13 75 j = M 75 j from (Eq.trans (k14 75 j (by unfold WRA; omega)) (Eq.trans (congrFun (x_up_n _ _ _ (by omega)) _) (Eq.trans (congrFun (x_up_n _ _ _ (by omega)) _) (Eq.trans (congrFun (x_up_n _ _ _ (by omega)) _) rfl))))).trans eq⟩)⟩, (Or.inr ⟨⟨by rw [e_b]; exact c1, by grind, by grind⟩, h_, 0, 1, by omega, by decide, by decide, rfl, eq9, w9, (hx10.trans (congrArg nI (Nat.zero_add _))), (TrA_F ht12)⟩)⟩⟩)
      refine xg_eq 2 (fun w16 => ?_) (fun w16 => ?_)
      · refine xr_tableIn (tgt := 80) dX10_act_31 (by decide) (by decide) rfl rfl ?_
        refine xr_aload_n dX10_act_80 0 rfl ?_
        refine xr_aload_n dX10_act_81 0 rfl ?_
        refine xb_get (v := 0) flX10_352 dX10_act_82 s_62 rfl (Eq.trans (x_up_k _ _ _ (by decide)) (x_up_s _ _ _ _)) ?_
        refine xr_iload_n dX10_act_85 3 rfl ?_
        refine xr_callV (As := [.int (0), .int (x)]) (rest := []) mlX10_355 (rv0_sinksAs_0 (ac := h_) (ra := 0) x (by omega) (Eq.trans (x_up_k _ _ _ (by decide)) (Eq.trans (x_up_k _ _ _ (by decide)) (x_up_s _ _ _ _))) (Eq.trans (x_up_k _ _ _ (by decide)) (x_up_s _ _ _ _)) (x_up_s _ _ _ _)) dX10_act_86 s_62 rfl rfl (Nat.le_of_ble_eq_true rfl) (by decide) ⟨by decide, by decide⟩ (fun v s2 M20 J2 hq => ?_)
        obtain ⟨r22, rfl, rfl, rfl, k21, ⟨hr18, hx17, ht19⟩⟩ := hq
        try dsimp only [Option.toList, List.cons_append, List.nil_append]
        exact xr_iret dX10_act_89 rfl rfl (⟨_, rfl, rfl, rfl, (Ke.tr (fun pp kk => (fun hh => Or.elim hh (fun h => (Or.inl h)) (fun h => (Or.inr (Or.inr (Or.inr h)))))) (Ke.up (Or.inr (Or.inr (Or.inl (by omega)))) (Ke.up (Or.inr (Or.inl (by omega))) (Ke.up (Or.inl (by omega)) Ke.rf))) k21), ⟨⟨⟨hn, by omega, (Eq.trans (k21 62 6 (by decide)) (Eq.trans (x_up_k _ _ _ (by decide)) (Eq.trans (x_up_k _ _ _ (by decide)) (Eq.trans (x_up_k _ _ _ (by decide)) e_hn)))), (fun kw hkw => by rw [show M20 63 (5 + kw) = M 63 (5 + kw) from (Eq.trans (k21 63 (5 + kw) (by unfold WRA; omega)) (Eq.trans (congrFun (x_up_n _ _ _ (by omega)) _) (Eq.trans (congrFun (x_up_n _ _ _ (by omega)) _) (Eq.trans (congrFun (x_up_n _ _ _ (by omega)) _) rfl))))]; exact hw kw hkw)⟩, (by rw [show M20 63 16 = M 63 16 from (Eq.trans (k21 63 16 (by unfold WRA; omega)) (Eq.trans (congrFun (x_up_n _ _ _ (by omega)) _) (Eq.trans (congrFun (x_up_n _ _ _ (by omega)) _) (Eq.trans (congrFun (x_up_n _ _ _ (by omega)) _) rfl))))]; exact hbt), ⟨un, wn, by omega, by omega, (Eq.trans (k21 62 5 (by decide)) (Eq.trans (x_up_k _ _ _ (by decide)) (Eq.trans (x_up_k _ _ _ (by decide)) (Eq.trans (x_up_k _ _ _ (by decide)) e_un)))), (Eq.trans (k21 62 4 (by decide)) (Eq.trans (x_up_k _ _ _ (by decide)) (Eq.trans (x_up_k _ _ _ (by decide)) (Eq.trans (x_up_k _ _ _ (by decide)) e_wn))))⟩, (fun kk hkk => by rw [show M20 64 kk = M 64 kk from (Eq.trans (k21 64 kk (by unfold WRA; omega)) (Eq.trans (congrFun (x_up_n _ _ _ (by omega)) _) (Eq.trans (congrFun (x_up_n _ _ _ (by omega)) _) (Eq.trans (congrFun (x_up_n _ _ _ (by omega)) _) rfl)))), show M20 65 kk = M 65 kk from (Eq.trans (k21 65 kk (by unfold WRA; omega)) (Eq.trans (congrFun (x_up_n _ _ _ (by omega)) _) (Eq.trans (congrFun (x_up_n _ _ _ (by omega)) _) (Eq.trans (congrFun (x_up_n _ _ _ (by omega)) _) rfl)))), show M20 66 kk = M 66 kk from (Eq.trans (k21 66 kk (by unfold WRA; omega)) (Eq.trans (congrFun (x_up_n _ _ _ (by omega)) _) (Eq.trans (congrFun (x_up_n _ _ _ (by omega)) _) (Eq.trans (congrFun (x_up_n _ _ _ (by omega)) _) rfl))))]; exact hch kk hkk), ⟨n, by omega, (Eq.trans (k21 62 11 (by decide)) (Eq.trans (x_up_k _ _ _ (by decide)) (Eq.trans (x_up_k _ _ _ (by decide)) (Eq.trans (x_up_k _ _ _ (by decide)) e_n))))⟩, (by rw [show M20 62 13 = M 62 13 from (Eq.trans (k21 62 13 (by unfold WRA; omega)) (Eq.trans (x_up_k _ _ _ (by omega)) (Eq.trans (x_up_k _ _ _ (by omega)) (Eq.trans (x_up_k _ _ _ (by omega)) rfl))))]; exact htx), ⟨b, by omega, (Eq.trans (k21 62 36 (by decide)) (Eq.trans (x_up_k _ _ _ (by decide)) (Eq.trans (x_up_k _ _ _ (by decide)) (Eq.trans (x_up_k _ _ _ (by decide)) e_b))))⟩, (fun j hj => by obtain ⟨q, hq, eq⟩ := hkd j hj; exact ⟨q, hq, (show M20 81 j = M 81 j from (Eq.trans (k21 81 j (by unfold WRA; omega)) (Eq.trans (congrFun (x_up_n _ _ _ (by omega)) _) (Eq.trans (congrFun (x_up_n _ _ _ (by omega)) _) (Eq.trans (congrFun (x_up_n _ _ _ (by omega)) _) rfl))))).trans eq⟩), ⟨0 + 1, by omega, hx17⟩, (fun j hj => by rw [show M20 83 j = M 83 j from (Eq.trans (k21 83 j (by unfold WRA; omega)) (Eq.trans (congrFun (x_up_n _ _ _ (by omega)) _) (Eq.trans (congrFun (x_up_n _ _ _ (by omega)) _) (Eq.trans (congrFun (x_up_n _ _ _ (by omega)) _) rfl)))), show M20 84 j = M 84 j from (Eq.trans (k21 84 j (by unfold WRA; omega)) (Eq.trans (congrFun (x_up_n _ _ _ (by omega)) _) (Eq.trans (congrFun (x_up_n _ _ _ (by omega)) _) (Eq.trans (congrFun (x_up_n _ _ _ (by omega)) _) rfl))))]; exact hsl j hj), ⟨ic, by omega, (Eq.trans (k21 62 34 (by decide)) (Eq.trans (x_up_k _ _ _ (by decide)) (Eq.trans (x_up_k _ _ _ (by decide)) (Eq.trans (x_up_k _ _ _ (by decide)) e_ic))))⟩, (fun j hj => by obtain ⟨q, hq, eq⟩ := hS j hj; exact ⟨q, hq, (show M20 75 j = M 75 j from (Eq.trans (k21 75 j (by unfold WRA; omega)) (Eq.trans (congrFun (x_up_n _ _ _ (by omega)) _) (Eq.trans (congrFun (x_up_n _ _ _ (by omega)) _) (Eq.trans (congrFun (x_up_n _ _ _ (by omega)) _) rfl))))).trans eq⟩)⟩, (Or.inr ⟨⟨by rw [e_b]; exact c1, by grind, by grind⟩, h_, 0, 2, by omega, by decide, by decide, rfl, eq9, w16, (hx17.trans (congrArg nI (Nat.zero_add _))), (TrA_F ht19)⟩)⟩⟩)
      refine xg_eq 3 (fun w23 => ?_) (fun w23 => ?_)
      · refine xr_tableIn (tgt := 90) dX10_act_31 (by decide) (by decide) rfl rfl ?_
        refine xr_aload_n dX10_act_90 0 rfl ?_
        refine xr_aload_n dX10_act_91 0 rfl ?_
        refine xb_get (v := 0) flX10_352 dX10_act_92 s_62 rfl (Eq.trans (x_up_k _ _ _ (by decide)) (x_up_s _ _ _ _)) ?_
        refine xr_iload_n dX10_act_95 3 rfl ?_
        refine xr_callV (As := [.int (0), .int (x)]) (rest := []) mlX10_358 (rv0_tellsAs_0 (ac := h_) (ra := 0) x (by omega) (Eq.trans (x_up_k _ _ _ (by decide)) (Eq.trans (x_up_k _ _ _ (by decide)) (x_up_s _ _ _ _))) (Eq.trans (x_up_k _ _ _ (by decide)) (x_up_s _ _ _ _)) (x_up_s _ _ _ _)) dX10_act_96 s_62 rfl rfl (Nat.le_of_ble_eq_true rfl) (by decide) ⟨by decide, by decide⟩ (fun v s2 M27 J2 hq => ?_)
        obtain ⟨r29, rfl, rfl, rfl, k28, ⟨hr25, hx24, ht26⟩⟩ := hq
        try dsimp only [Option.toList, List.cons_append, List.nil_append]
        exact xr_iret dX10_act_99 rfl rfl (⟨_, rfl, rfl, rfl, (Ke.tr (fun pp kk => (fun hh => Or.elim hh (fun h => (Or.inl h)) (fun h => (Or.inr (Or.inr (Or.inr h)))))) (Ke.up (Or.inr (Or.inr (Or.inl (by omega)))) (Ke.up (Or.inr (Or.inl (by omega))) (Ke.up (Or.inl (by omega)) Ke.rf))) k28), ⟨⟨⟨hn, by omega, (Eq.trans (k28 62 6 (by decide)) (Eq.trans (x_up_k _ _ _ (by decide)) (Eq.trans (x_up_k _ _ _ (by decide)) (Eq.trans (x_up_k _ _ _ (by decide)) e_hn)))), (fun kw hkw => by rw [show M27 63 (5 + kw) = M 63 (5 + kw) from (Eq.trans (k28 63 (5 + kw) (by unfold WRA; omega)) (Eq.trans (congrFun (x_up_n _ _ _ (by omega)) _) (Eq.trans (congrFun (x_up_n _ _ _ (by omega)) _) (Eq.trans (congrFun (x_up_n _ _ _ (by omega)) _) rfl))))]; exact hw kw hkw)⟩, (by rw [show M27 63 16 = M 63 16 from (Eq.trans (k28 63 16 (by unfold WRA; omega)) (Eq.trans (congrFun (x_up_n _ _ _ (by omega)) _) (Eq.trans (congrFun (x_up_n _ _ _ (by omega)) _) (Eq.trans (congrFun (x_up_n _ _ _ (by omega)) _) rfl))))]; exact hbt), ⟨un, wn, by omega, by omega, (Eq.trans (k28 62 5 (by decide)) (Eq.trans (x_up_k _ _ _ (by decide)) (Eq.trans (x_up_k _ _ _ (by decide)) (Eq.trans (x_up_k _ _ _ (by decide)) e_un)))), (Eq.trans (k28 62 4 (by decide)) (Eq.trans (x_up_k _ _ _ (by decide)) (Eq.trans (x_up_k _ _ _ (by decide)) (Eq.trans (x_up_k _ _ _ (by decide)) e_wn))))⟩, (fun kk hkk => by rw [show M27 64 kk = M 64 kk from (Eq.trans (k28 64 kk (by unfold WRA; omega)) (Eq.trans (congrFun (x_up_n _ _ _ (by omega)) _) (Eq.trans (congrFun (x_up_n _ _ _ (by omega)) _) (Eq.trans (congrFun (x_up_n _ _ _ (by omega)) _) rfl)))), show M27 65 kk = M 65 kk from (Eq.trans (k28 65 kk (by unfold WRA; omega)) (Eq.trans (congrFun (x_up_n _ _ _ (by omega)) _) (Eq.trans (congrFun (x_up_n _ _ _ (by omega)) _) (Eq.trans (congrFun (x_up_n _ _ _ (by omega)) _) rfl)))), show M27 66 kk = M 66 kk from (Eq.trans (k28 66 kk (by unfold WRA; omega)) (Eq.trans (congrFun (x_up_n _ _ _ (by omega)) _) (Eq.trans (congrFun (x_up_n _ _ _ (by omega)) _) (Eq.trans (congrFun (x_up_n _ _ _ (by omega)) _) rfl))))]; exact hch kk hkk), ⟨n, by omega, (Eq.trans (k28 62 11 (by decide)) (Eq.trans (x_up_k _ _ _ (by decide)) (Eq.trans (x_up_k _ _ _ (by decide)) (Eq.trans (x_up_k _ _ _ (by decide)) e_n))))⟩, (by rw [show M27 62 13 = M 62 13 from (Eq.trans (k28 62 13 (by unfold WRA; omega)) (Eq.trans (x_up_k _ _ _ (by omega)) (Eq.trans (x_up_k _ _ _ (by omega)) (Eq.trans (x_up_k _ _ _ (by omega)) rfl))))]; exact htx), ⟨b, by omega, (Eq.trans (k28 62 36 (by decide)) (Eq.trans (x_up_k _ _ _ (by decide)) (Eq.trans (x_up_k _ _ _ (by decide)) (Eq.trans (x_up_k _ _ _ (by decide)) e_b))))⟩, (fun j hj => by obtain ⟨q, hq, eq⟩ := hkd j hj; exact ⟨q, hq, (show M27 81 j = M 81 j from (Eq.trans (k28 81 j (by unfold WRA; omega)) (Eq.trans (congrFun (x_up_n _ _ _ (by omega)) _) (Eq.trans (congrFun (x_up_n _ _ _ (by omega)) _) (Eq.trans (congrFun (x_up_n _ _ _ (by omega)) _) rfl))))).trans eq⟩), ⟨0 + 4, by omega, hx24⟩, (fun j hj => by rw [show M27 83 j = M 83 j from (Eq.trans (k28 83 j (by unfold WRA; omega)) (Eq.trans (congrFun (x_up_n _ _ _ (by omega)) _) (Eq.trans (congrFun (x_up_n _ _ _ (by omega)) _) (Eq.trans (congrFun (x_up_n _ _ _ (by omega)) _) rfl)))), show M27 84 j = M 84 j from (Eq.trans (k28 84 j (by unfold WRA; omega)) (Eq.trans (congrFun (x_up_n _ _ _ (by omega)) _) (Eq.trans (congrFun (x_up_n _ _ _ (by omega)) _) (Eq.trans (congrFun (x_up_n _ _ _ (by omega)) _) rfl))))]; exact hsl j hj), ⟨ic, by omega, (Eq.trans (k28 62 34 (by decide)) (Eq.trans (x_up_k _ _ _ (by decide)) (Eq.trans (x_up_k _ _ _ (by decide)) (Eq.trans (x_up_k _ _ _ (by decide)) e_ic))))⟩, (fun j hj => by obtain ⟨q, hq, eq⟩ := hS j hj; exact ⟨q, hq, (show M27 75 j = M 75 j from (Eq.trans (k28 75 j (by unfold WRA; omega)) (Eq.trans (congrFun (x_up_n _ _ _ (by omega)) _) (Eq.trans (congrFun (x_up_n _ _ _ (by omega)) _) (Eq.trans (congrFun (x_up_n _ _ _ (by omega)) _) rfl))))).trans eq⟩)⟩, (Or.inr ⟨⟨by rw [e_b]; exact c1, by grind, by grind⟩, h_, 0, 3, by omega, by decide, by decide, rfl, eq9, w23, (hx24.trans (congrArg nI (Nat.zero_add _))), (TrA_F ht26)⟩)⟩⟩)
      refine xr_tableOut (tgt := 100) dX10_act_31 (xg_out (lo := 0) (hi := 3) (by decide) (fun j h1 h2 qq => by have h3 : j = 0 ∨ j = 1 ∨ j = 2 ∨ j = 3 := (by omega); rcases h3 with rfl | rfl | rfl | rfl <;> first | exact absurd qq w2 | exact absurd qq w9 | exact absurd qq w16 | exact absurd qq w23)) rfl ?_
      refine xr_iconst (v := 0) dX10_act_100 rfl ?_
      exact xr_iret dX10_act_101 rfl rfl (⟨_, rfl, rfl, rfl, (Ke.up (Or.inr (Or.inr (Or.inl (by omega)))) (Ke.up (Or.inr (Or.inl (by omega))) (Ke.up (Or.inl (by omega)) Ke.rf))), ⟨⟨⟨hn, by omega, (Eq.trans (x_up_k _ _ _ (by decide)) (Eq.trans (x_up_k _ _ _ (by decide)) (Eq.trans (x_up_k _ _ _ (by decide)) e_hn))), (fun kw hkw => by rw [show (x_up (x_up (x_up M 62 39 0) 62 40 0) 62 41 (nI (h_))) 63 (5 + kw) = M 63 (5 + kw) from (Eq.trans (congrFun (x_up_n _ _ _ (by omega)) _) (Eq.trans (congrFun (x_up_n _ _ _ (by omega)) _) (Eq.trans (congrFun (x_up_n _ _ _ (by omega)) _) rfl)))]; exact hw kw hkw)⟩, (by rw [show (x_up (x_up (x_up M 62 39 0) 62 40 0) 62 41 (nI (h_))) 63 16 = M 63 16 from (Eq.trans (congrFun (x_up_n _ _ _ (by omega)) _) (Eq.trans (congrFun (x_up_n _ _ _ (by omega)) _) (Eq.trans (congrFun (x_up_n _ _ _ (by omega)) _) rfl)))]; exact hbt), ⟨un, wn, by omega, by omega, (Eq.trans (x_up_k _ _ _ (by decide)) (Eq.trans (x_up_k _ _ _ (by decide)) (Eq.trans (x_up_k _ _ _ (by decide)) e_un))), (Eq.trans (x_up_k _ _ _ (by decide)) (Eq.trans (x_up_k _ _ _ (by decide)) (Eq.trans (x_up_k _ _ _ (by decide)) e_wn)))⟩, (fun kk hkk => by rw [show (x_up (x_up (x_up M 62 39 0) 62 40 0) 62 41 (nI (h_))) 64 kk = M 64 kk from (Eq.trans (congrFun (x_up_n _ _ _ (by omega)) _) (Eq.trans (congrFun (x_up_n _ _ _ (by omega)) _) (Eq.trans (congrFun (x_up_n _ _ _ (by omega)) _) rfl))), show (x_up (x_up (x_up M 62 39 0) 62 40 0) 62 41 (nI (h_))) 65 kk = M 65 kk from (Eq.trans (congrFun (x_up_n _ _ _ (by omega)) _) (Eq.trans (congrFun (x_up_n _ _ _ (by omega)) _) (Eq.trans (congrFun (x_up_n _ _ _ (by omega)) _) rfl))), show (x_up (x_up (x_up M 62 39 0) 62 40 0) 62 41 (nI (h_))) 66 kk = M 66 kk from (Eq.trans (congrFun (x_up_n _ _ _ (by omega)) _) (Eq.trans (congrFun (x_up_n _ _ _ (by omega)) _) (Eq.trans (congrFun (x_up_n _ _ _ (by omega)) _) rfl)))]; exact hch kk hkk), ⟨n, by omega, (Eq.trans (x_up_k _ _ _ (by decide)) (Eq.trans (x_up_k _ _ _ (by decide)) (Eq.trans (x_up_k _ _ _ (by decide)) e_n)))⟩, (by rw [show (x_up (x_up (x_up M 62 39 0) 62 40 0) 62 41 (nI (h_))) 62 13 = M 62 13 from (Eq.trans (x_up_k _ _ _ (by omega)) (Eq.trans (x_up_k _ _ _ (by omega)) (Eq.trans (x_up_k _ _ _ (by omega)) rfl)))]; exact htx), ⟨b, by omega, (Eq.trans (x_up_k _ _ _ (by decide)) (Eq.trans (x_up_k _ _ _ (by decide)) (Eq.trans (x_up_k _ _ _ (by decide)) e_b)))⟩, (fun j hj => by obtain ⟨q, hq, eq⟩ := hkd j hj; exact ⟨q, hq, (show (x_up (x_up (x_up M 62 39 0) 62 40 0) 62 41 (nI (h_))) 81 j = M 81 j from (Eq.trans (congrFun (x_up_n _ _ _ (by omega)) _) (Eq.trans (congrFun (x_up_n _ _ _ (by omega)) _) (Eq.trans (congrFun (x_up_n _ _ _ (by omega)) _) rfl)))).trans eq⟩), ⟨0, by omega, (Eq.trans (x_up_k _ _ _ (by decide)) (Eq.trans (x_up_k _ _ _ (by decide)) (x_up_s _ _ _ _)))⟩, (fun j hj => by rw [show (x_up (x_up (x_up M 62 39 0) 62 40 0) 62 41 (nI (h_))) 83 j = M 83 j from (Eq.trans (congrFun (x_up_n _ _ _ (by omega)) _) (Eq.trans (congrFun (x_up_n _ _ _ (by omega)) _) (Eq.trans (congrFun (x_up_n _ _ _ (by omega)) _) rfl))), show (x_up (x_up (x_up M 62 39 0) 62 40 0) 62 41 (nI (h_))) 84 j = M 84 j from (Eq.trans (congrFun (x_up_n _ _ _ (by omega)) _) (Eq.trans (congrFun (x_up_n _ _ _ (by omega)) _) (Eq.trans (congrFun (x_up_n _ _ _ (by omega)) _) rfl)))]; exact hsl j hj), ⟨ic, by omega, (Eq.trans (x_up_k _ _ _ (by decide)) (Eq.trans (x_up_k _ _ _ (by decide)) (Eq.trans (x_up_k _ _ _ (by decide)) e_ic)))⟩, (fun j hj => by obtain ⟨q, hq, eq⟩ := hS j hj; exact ⟨q, hq, (show (x_up (x_up (x_up M 62 39 0) 62 40 0) 62 41 (nI (h_))) 75 j = M 75 j from (Eq.trans (congrFun (x_up_n _ _ _ (by omega)) _) (Eq.trans (congrFun (x_up_n _ _ _ (by omega)) _) (Eq.trans (congrFun (x_up_n _ _ _ (by omega)) _) rfl)))).trans eq⟩)⟩, (Or.inl ⟨(fun q => absurd q.2 (by grind)), (Eq.trans (x_up_k _ _ _ (by decide)) (Eq.trans (x_up_k _ _ _ (by decide)) (x_up_s _ _ _ _)))⟩)⟩⟩)
    · refine xr_aload_n dX10_act_15 0 rfl ?_
      refine xr_aload_n dX10_act_16 0 rfl ?_
      refine xr_getR flX10_69 dX10_act_17 s_62 rfl ?_
      refine xr_iload_n dX10_act_20 1 rfl ?_
      refine xb_iald (j := h_) (v := 1) dX10_act_21 s_81 (by omega) (by decide) (Eq.trans (congrFun (x_up_n _ _ _ (by decide)) _) eq9) ?_
      refine xr_putI fpX10_352 dX10_act_22 s_62 rfl rfl rfl ?_
      refine xr_aload_n dX10_act_25 0 rfl ?_
      refine xr_iload_n dX10_act_26 1 rfl ?_
      refine xr_putI fpX10_346 dX10_act_27 s_62 rfl rfl rfl ?_
      refine xr_iload_n dX10_act_30 2 rfl ?_
      refine xg_eq 0 (fun w30 => ?_) (fun w30 => ?_)
      · refine xr_tableIn (tgt := 60) dX10_act_31 (by decide) (by decide) rfl rfl ?_
        refine xr_aload_n dX10_act_60 0 rfl ?_
        refine xr_aload_n dX10_act_61 0 rfl ?_
        refine xb_get (v := 1) flX10_352 dX10_act_62 s_62 rfl (Eq.trans (x_up_k _ _ _ (by decide)) (x_up_s _ _ _ _)) ?_
        refine xr_iload_n dX10_act_65 3 rfl ?_
        refine xr_callV (As := [.int (1), .int (x)]) (rest := []) mlX10_343 (rv1_pushesAs_1 (ac := h_) (ra := 0) x (by omega) (Eq.trans (x_up_k _ _ _ (by decide)) (Eq.trans (x_up_k _ _ _ (by decide)) (x_up_s _ _ _ _))) (Eq.trans (x_up_k _ _ _ (by decide)) (x_up_s _ _ _ _)) (x_up_s _ _ _ _)) dX10_act_66 s_62 rfl rfl (Nat.le_of_ble_eq_true rfl) (by decide) ⟨by decide, by decide⟩ (fun v s2 M34 J2 hq => ?_)
        obtain ⟨r36, rfl, rfl, rfl, k35, ⟨hr32, hx31, ht33⟩⟩ := hq
        try dsimp only [Option.toList, List.cons_append, List.nil_append]
        exact xr_iret dX10_act_69 rfl rfl (⟨_, rfl, rfl, rfl, (Ke.tr (fun pp kk => (fun hh => Or.elim hh (fun h => (Or.inl h)) (fun h => (Or.inr (Or.inr (Or.inr h)))))) (Ke.up (Or.inr (Or.inr (Or.inl (by omega)))) (Ke.up (Or.inr (Or.inl (by omega))) (Ke.up (Or.inl (by omega)) Ke.rf))) k35), ⟨⟨⟨hn, by omega, (Eq.trans (k35 62 6 (by decide)) (Eq.trans (x_up_k _ _ _ (by decide)) (Eq.trans (x_up_k _ _ _ (by decide)) (Eq.trans (x_up_k _ _ _ (by decide)) e_hn)))), (fun kw hkw => by rw [show M34 63 (5 + kw) = M 63 (5 + kw) from (Eq.trans (k35 63 (5 + kw) (by unfold WRA; omega)) (Eq.trans (congrFun (x_up_n _ _ _ (by omega)) _) (Eq.trans (congrFun (x_up_n _ _ _ (by omega)) _) (Eq.trans (congrFun (x_up_n _ _ _ (by omega)) _) rfl))))]; exact hw kw hkw)⟩, (by rw [show M34 63 16 = M 63 16 from (Eq.trans (k35 63 16 (by unfold WRA; omega)) (Eq.trans (congrFun (x_up_n _ _ _ (by omega)) _) (Eq.trans (congrFun (x_up_n _ _ _ (by omega)) _) (Eq.trans (congrFun (x_up_n _ _ _ (by omega)) _) rfl))))]; exact hbt), ⟨un, wn, by omega, by omega, (Eq.trans (k35 62 5 (by decide)) (Eq.trans (x_up_k _ _ _ (by decide)) (Eq.trans (x_up_k _ _ _ (by decide)) (Eq.trans (x_up_k _ _ _ (by decide)) e_un)))), (Eq.trans (k35 62 4 (by decide)) (Eq.trans (x_up_k _ _ _ (by decide)) (Eq.trans (x_up_k _ _ _ (by decide)) (Eq.trans (x_up_k _ _ _ (by decide)) e_wn))))⟩, (fun kk hkk => by rw [show M34 64 kk = M 64 kk from (Eq.trans (k35 64 kk (by unfold WRA; omega)) (Eq.trans (congrFun (x_up_n _ _ _ (by omega)) _) (Eq.trans (congrFun (x_up_n _ _ _ (by omega)) _) (Eq.trans (congrFun (x_up_n _ _ _ (by omega)) _) rfl)))), show M34 65 kk = M 65 kk from (Eq.trans (k35 65 kk (by unfold WRA; omega)) (Eq.trans (congrFun (x_up_n _ _ _ (by omega)) _) (Eq.trans (congrFun (x_up_n _ _ _ (by omega)) _) (Eq.trans (congrFun (x_up_n _ _ _ (by omega)) _) rfl)))), show M34 66 kk = M 66 kk from (Eq.trans (k35 66 kk (by unfold WRA; omega)) (Eq.trans (congrFun (x_up_n _ _ _ (by omega)) _) (Eq.trans (congrFun (x_up_n _ _ _ (by omega)) _) (Eq.trans (congrFun (x_up_n _ _ _ (by omega)) _) rfl))))]; exact hch kk hkk), ⟨n, by omega, (Eq.trans (k35 62 11 (by decide)) (Eq.trans (x_up_k _ _ _ (by decide)) (Eq.trans (x_up_k _ _ _ (by decide)) (Eq.trans (x_up_k _ _ _ (by decide)) e_n))))⟩, (by rw [show M34 62 13 = M 62 13 from (Eq.trans (k35 62 13 (by unfold WRA; omega)) (Eq.trans (x_up_k _ _ _ (by omega)) (Eq.trans (x_up_k _ _ _ (by omega)) (Eq.trans (x_up_k _ _ _ (by omega)) rfl))))]; exact htx), ⟨b, by omega, (Eq.trans (k35 62 36 (by decide)) (Eq.trans (x_up_k _ _ _ (by decide)) (Eq.trans (x_up_k _ _ _ (by decide)) (Eq.trans (x_up_k _ _ _ (by decide)) e_b))))⟩, (fun j hj => by obtain ⟨q, hq, eq⟩ := hkd j hj; exact ⟨q, hq, (show M34 81 j = M 81 j from (Eq.trans (k35 81 j (by unfold WRA; omega)) (Eq.trans (congrFun (x_up_n _ _ _ (by omega)) _) (Eq.trans (congrFun (x_up_n _ _ _ (by omega)) _) (Eq.trans (congrFun (x_up_n _ _ _ (by omega)) _) rfl))))).trans eq⟩), ⟨0 + 2, by omega, hx31⟩, (fun j hj => by rw [show M34 83 j = M 83 j from (Eq.trans (k35 83 j (by unfold WRA; omega)) (Eq.trans (congrFun (x_up_n _ _ _ (by omega)) _) (Eq.trans (congrFun (x_up_n _ _ _ (by omega)) _) (Eq.trans (congrFun (x_up_n _ _ _ (by omega)) _) rfl)))), show M34 84 j = M 84 j from (Eq.trans (k35 84 j (by unfold WRA; omega)) (Eq.trans (congrFun (x_up_n _ _ _ (by omega)) _) (Eq.trans (congrFun (x_up_n _ _ _ (by omega)) _) (Eq.trans (congrFun (x_up_n _ _ _ (by omega)) _) rfl))))]; exact hsl j hj), ⟨ic, by omega, (Eq.trans (k35 62 34 (by decide)) (Eq.trans (x_up_k _ _ _ (by decide)) (Eq.trans (x_up_k _ _ _ (by decide)) (Eq.trans (x_up_k _ _ _ (by decide)) e_ic))))⟩, (fun j hj => by obtain ⟨q, hq, eq⟩ := hS j hj; exact ⟨q, hq, (show M34 75 j = M 75 j from (Eq.trans (k35 75 j (by unfold WRA; omega)) (Eq.trans (congrFun (x_up_n _ _ _ (by omega)) _) (Eq.trans (congrFun (x_up_n _ _ _ (by omega)) _) (Eq.trans (congrFun (x_up_n _ _ _ (by omega)) _) rfl))))).trans eq⟩)⟩, (Or.inr ⟨⟨by rw [e_b]; exact c1, by grind, by grind⟩, h_, 1, 0, by omega, by decide, by decide, rfl, eq9, w30, (hx31.trans (congrArg nI (Nat.zero_add _))), (TrA_F ht33)⟩)⟩⟩)
      refine xg_eq 1 (fun w37 => ?_) (fun w37 => ?_)
      · refine xr_tableIn (tgt := 70) dX10_act_31 (by decide) (by decide) rfl rfl ?_
        refine xr_aload_n dX10_act_70 0 rfl ?_
        refine xr_aload_n dX10_act_71 0 rfl ?_
        refine xb_get (v := 1) flX10_352 dX10_act_72 s_62 rfl (Eq.trans (x_up_k _ _ _ (by decide)) (x_up_s _ _ _ _)) ?_
        refine xr_iload_n dX10_act_75 3 rfl ?_
        refine xr_callV (As := [.int (1), .int (x)]) (rest := []) mlX10_349 (rv1_turnsAs_1 (ac := h_) (ra := 0) x (by omega) (Eq.trans (x_up_k _ _ _ (by decide)) (Eq.trans (x_up_k _ _ _ (by decide)) (x_up_s _ _ _ _))) (Eq.trans (x_up_k _ _ _ (by decide)) (x_up_s _ _ _ _)) (x_up_s _ _ _ _)) dX10_act_76 s_62 rfl rfl (Nat.le_of_ble_eq_true rfl) (by decide) ⟨by decide, by decide⟩ (fun v s2 M41 J2 hq => ?_)
        obtain ⟨r43, rfl, rfl, rfl, k42, ⟨hr39, hx38, ht40⟩⟩ := hq
        try dsimp only [Option.toList, List.cons_append, List.nil_append]
        exact xr_iret dX10_act_79 rfl rfl (⟨_, rfl, rfl, rfl, (Ke.tr (fun pp kk => (fun hh => Or.elim hh (fun h => (Or.inl h)) (fun h => (Or.inr (Or.inr (Or.inr h)))))) (Ke.up (Or.inr (Or.inr (Or.inl (by omega)))) (Ke.up (Or.inr (Or.inl (by omega))) (Ke.up (Or.inl (by omega)) Ke.rf))) k42), ⟨⟨⟨hn, by omega, (Eq.trans (k42 62 6 (by decide)) (Eq.trans (x_up_k _ _ _ (by decide)) (Eq.trans (x_up_k _ _ _ (by decide)) (Eq.trans (x_up_k _ _ _ (by decide)) e_hn)))), (fun kw hkw => by rw [show M41 63 (5 + kw) = M 63 (5 + kw) from (Eq.trans (k42 63 (5 + kw) (by unfold WRA; omega)) (Eq.trans (congrFun (x_up_n _ _ _ (by omega)) _) (Eq.trans (congrFun (x_up_n _ _ _ (by omega)) _) (Eq.trans (congrFun (x_up_n _ _ _ (by omega)) _) rfl))))]; exact hw kw hkw)⟩, (by rw [show M41 63 16 = M 63 16 from (Eq.trans (k42 63 16 (by unfold WRA; omega)) (Eq.trans (congrFun (x_up_n _ _ _ (by omega)) _) (Eq.trans (congrFun (x_up_n _ _ _ (by omega)) _) (Eq.trans (congrFun (x_up_n _ _ _ (by omega)) _) rfl))))]; exact hbt), ⟨un, wn, by omega, by omega, (Eq.trans (k42 62 5 (by decide)) (Eq.trans (x_up_k _ _ _ (by decide)) (Eq.trans (x_up_k _ _ _ (by decide)) (Eq.trans (x_up_k _ _ _ (by decide)) e_un)))), (Eq.trans (k42 62 4 (by decide)) (Eq.trans (x_up_k _ _ _ (by decide)) (Eq.trans (x_up_k _ _ _ (by decide)) (Eq.trans (x_up_k _ _ _ (by decide)) e_wn))))⟩, (fun kk hkk => by rw [show M41 64 kk = M 64 kk from (Eq.trans (k42 64 kk (by unfold WRA; omega)) (Eq.trans (congrFun (x_up_n _ _ _ (by omega)) _) (Eq.trans (congrFun (x_up_n _ _ _ (by omega)) _) (Eq.trans (congrFun (x_up_n _ _ _ (by omega)) _) rfl)))), show M41 65 kk = M 65 kk from (Eq.trans (k42 65 kk (by unfold WRA; omega)) (Eq.trans (congrFun (x_up_n _ _ _ (by omega)) _) (Eq.trans (congrFun (x_up_n _ _ _ (by omega)) _) (Eq.trans (congrFun (x_up_n _ _ _ (by omega)) _) rfl)))), show M41 66 kk = M 66 kk from (Eq.trans (k42 66 kk (by unfold WRA; omega)) (Eq.trans (congrFun (x_up_n _ _ _ (by omega)) _) (Eq.trans (congrFun (x_up_n _ _ _ (by omega)) _) (Eq.trans (congrFun (x_up_n _ _ _ (by omega)) _) rfl))))]; exact hch kk hkk), ⟨n, by omega, (Eq.trans (k42 62 11 (by decide)) (Eq.trans (x_up_k _ _ _ (by decide)) (Eq.trans (x_up_k _ _ _ (by decide)) (Eq.trans (x_up_k _ _ _ (by decide)) e_n))))⟩, (by rw [show M41 62 13 = M 62 13 from (Eq.trans (k42 62 13 (by unfold WRA; omega)) (Eq.trans (x_up_k _ _ _ (by omega)) (Eq.trans (x_up_k _ _ _ (by omega)) (Eq.trans (x_up_k _ _ _ (by omega)) rfl))))]; exact htx), ⟨b, by omega, (Eq.trans (k42 62 36 (by decide)) (Eq.trans (x_up_k _ _ _ (by decide)) (Eq.trans (x_up_k _ _ _ (by decide)) (Eq.trans (x_up_k _ _ _ (by decide)) e_b))))⟩, (fun j hj => by obtain ⟨q, hq, eq⟩ := hkd j hj; exact ⟨q, hq, (show M41 81 j = M 81 j from (Eq.trans (k42 81 j (by unfold WRA; omega)) (Eq.trans (congrFun (x_up_n _ _ _ (by omega)) _) (Eq.trans (congrFun (x_up_n _ _ _ (by omega)) _) (Eq.trans (congrFun (x_up_n _ _ _ (by omega)) _) rfl))))).trans eq⟩), ⟨0 + 3, by omega, hx38⟩, (fun j hj => by rw [show M41 83 j = M 83 j from (Eq.trans (k42 83 j (by unfold WRA; omega)) (Eq.trans (congrFun (x_up_n _ _ _ (by omega)) _) (Eq.trans (congrFun (x_up_n _ _ _ (by omega)) _) (Eq.trans (congrFun (x_up_n _ _ _ (by omega)) _) rfl)))), show M41 84 j = M 84 j from (Eq.trans (k42 84 j (by unfold WRA; omega)) (Eq.trans (congrFun (x_up_n _ _ _ (by omega)) _) (Eq.trans (congrFun (x_up_n _ _ _ (by omega)) _) (Eq.trans (congrFun (x_up_n _ _ _ (by omega)) _) rfl))))]; exact hsl j hj), ⟨ic, by omega, (Eq.trans (k42 62 34 (by decide)) (Eq.trans (x_up_k _ _ _ (by decide)) (Eq.trans (x_up_k _ _ _ (by decide)) (Eq.trans (x_up_k _ _ _ (by decide)) e_ic))))⟩, (fun j hj => by obtain ⟨q, hq, eq⟩ := hS j hj; exact ⟨q, hq, (show M41 75 j = M 75 j from (Eq.trans (k42 75 j (by unfold WRA; omega)) (Eq.trans (congrFun (x_up_n _ _ _ (by omega)) _) (Eq.trans (congrFun (x_up_n _ _ _ (by omega)) _) (Eq.trans (congrFun (x_up_n _ _ _ (by omega)) _) rfl))))).trans eq⟩)⟩, (Or.inr ⟨⟨by rw [e_b]; exact c1, by grind, by grind⟩, h_, 1, 1, by omega, by decide, by decide, rfl, eq9, w37, (hx38.trans (congrArg nI (Nat.zero_add _))), (TrA_F ht40)⟩)⟩⟩)
      refine xg_eq 2 (fun w44 => ?_) (fun w44 => ?_)
      · refine xr_tableIn (tgt := 80) dX10_act_31 (by decide) (by decide) rfl rfl ?_
        refine xr_aload_n dX10_act_80 0 rfl ?_
        refine xr_aload_n dX10_act_81 0 rfl ?_
        refine xb_get (v := 1) flX10_352 dX10_act_82 s_62 rfl (Eq.trans (x_up_k _ _ _ (by decide)) (x_up_s _ _ _ _)) ?_
        refine xr_iload_n dX10_act_85 3 rfl ?_
        refine xr_callV (As := [.int (1), .int (x)]) (rest := []) mlX10_355 (rv1_sinksAs_1 (ac := h_) (ra := 0) x (by omega) (Eq.trans (x_up_k _ _ _ (by decide)) (Eq.trans (x_up_k _ _ _ (by decide)) (x_up_s _ _ _ _))) (Eq.trans (x_up_k _ _ _ (by decide)) (x_up_s _ _ _ _)) (x_up_s _ _ _ _)) dX10_act_86 s_62 rfl rfl (Nat.le_of_ble_eq_true rfl) (by decide) ⟨by decide, by decide⟩ (fun v s2 M48 J2 hq => ?_)
        obtain ⟨r50, rfl, rfl, rfl, k49, ⟨hr46, hx45, ht47⟩⟩ := hq
        try dsimp only [Option.toList, List.cons_append, List.nil_append]
        exact xr_iret dX10_act_89 rfl rfl (⟨_, rfl, rfl, rfl, (Ke.tr (fun pp kk => (fun hh => Or.elim hh (fun h => (Or.inl h)) (fun h => (Or.inr (Or.inr (Or.inr h)))))) (Ke.up (Or.inr (Or.inr (Or.inl (by omega)))) (Ke.up (Or.inr (Or.inl (by omega))) (Ke.up (Or.inl (by omega)) Ke.rf))) k49), ⟨⟨⟨hn, by omega, (Eq.trans (k49 62 6 (by decide)) (Eq.trans (x_up_k _ _ _ (by decide)) (Eq.trans (x_up_k _ _ _ (by decide)) (Eq.trans (x_up_k _ _ _ (by decide)) e_hn)))), (fun kw hkw => by rw [show M48 63 (5 + kw) = M 63 (5 + kw) from (Eq.trans (k49 63 (5 + kw) (by unfold WRA; omega)) (Eq.trans (congrFun (x_up_n _ _ _ (by omega)) _) (Eq.trans (congrFun (x_up_n _ _ _ (by omega)) _) (Eq.trans (congrFun (x_up_n _ _ _ (by omega)) _) rfl))))]; exact hw kw hkw)⟩, (by rw [show M48 63 16 = M 63 16 from (Eq.trans (k49 63 16 (by unfold WRA; omega)) (Eq.trans (congrFun (x_up_n _ _ _ (by omega)) _) (Eq.trans (congrFun (x_up_n _ _ _ (by omega)) _) (Eq.trans (congrFun (x_up_n _ _ _ (by omega)) _) rfl))))]; exact hbt), ⟨un, wn, by omega, by omega, (Eq.trans (k49 62 5 (by decide)) (Eq.trans (x_up_k _ _ _ (by decide)) (Eq.trans (x_up_k _ _ _ (by decide)) (Eq.trans (x_up_k _ _ _ (by decide)) e_un)))), (Eq.trans (k49 62 4 (by decide)) (Eq.trans (x_up_k _ _ _ (by decide)) (Eq.trans (x_up_k _ _ _ (by decide)) (Eq.trans (x_up_k _ _ _ (by decide)) e_wn))))⟩, (fun kk hkk => by rw [show M48 64 kk = M 64 kk from (Eq.trans (k49 64 kk (by unfold WRA; omega)) (Eq.trans (congrFun (x_up_n _ _ _ (by omega)) _) (Eq.trans (congrFun (x_up_n _ _ _ (by omega)) _) (Eq.trans (congrFun (x_up_n _ _ _ (by omega)) _) rfl)))), show M48 65 kk = M 65 kk from (Eq.trans (k49 65 kk (by unfold WRA; omega)) (Eq.trans (congrFun (x_up_n _ _ _ (by omega)) _) (Eq.trans (congrFun (x_up_n _ _ _ (by omega)) _) (Eq.trans (congrFun (x_up_n _ _ _ (by omega)) _) rfl)))), show M48 66 kk = M 66 kk from (Eq.trans (k49 66 kk (by unfold WRA; omega)) (Eq.trans (congrFun (x_up_n _ _ _ (by omega)) _) (Eq.trans (congrFun (x_up_n _ _ _ (by omega)) _) (Eq.trans (congrFun (x_up_n _ _ _ (by omega)) _) rfl))))]; exact hch kk hkk), ⟨n, by omega, (Eq.trans (k49 62 11 (by decide)) (Eq.trans (x_up_k _ _ _ (by decide)) (Eq.trans (x_up_k _ _ _ (by decide)) (Eq.trans (x_up_k _ _ _ (by decide)) e_n))))⟩, (by rw [show M48 62 13 = M 62 13 from (Eq.trans (k49 62 13 (by unfold WRA; omega)) (Eq.trans (x_up_k _ _ _ (by omega)) (Eq.trans (x_up_k _ _ _ (by omega)) (Eq.trans (x_up_k _ _ _ (by omega)) rfl))))]; exact htx), ⟨b, by omega, (Eq.trans (k49 62 36 (by decide)) (Eq.trans (x_up_k _ _ _ (by decide)) (Eq.trans (x_up_k _ _ _ (by decide)) (Eq.trans (x_up_k _ _ _ (by decide)) e_b))))⟩, (fun j hj => by obtain ⟨q, hq, eq⟩ := hkd j hj; exact ⟨q, hq, (show M48 81 j = M 81 j from (Eq.trans (k49 81 j (by unfold WRA; omega)) (Eq.trans (congrFun (x_up_n _ _ _ (by omega)) _) (Eq.trans (congrFun (x_up_n _ _ _ (by omega)) _) (Eq.trans (congrFun (x_up_n _ _ _ (by omega)) _) rfl))))).trans eq⟩), ⟨0 + 1, by omega, hx45⟩, (fun j hj => by rw [show M48 83 j = M 83 j from (Eq.trans (k49 83 j (by unfold WRA; omega)) (Eq.trans (congrFun (x_up_n _ _ _ (by omega)) _) (Eq.trans (congrFun (x_up_n _ _ _ (by omega)) _) (Eq.trans (congrFun (x_up_n _ _ _ (by omega)) _) rfl)))), show M48 84 j = M 84 j from (Eq.trans (k49 84 j (by unfold WRA; omega)) (Eq.trans (congrFun (x_up_n _ _ _ (by omega)) _) (Eq.trans (congrFun (x_up_n _ _ _ (by omega)) _) (Eq.trans (congrFun (x_up_n _ _ _ (by omega)) _) rfl))))]; exact hsl j hj), ⟨ic, by omega, (Eq.trans (k49 62 34 (by decide)) (Eq.trans (x_up_k _ _ _ (by decide)) (Eq.trans (x_up_k _ _ _ (by decide)) (Eq.trans (x_up_k _ _ _ (by decide)) e_ic))))⟩, (fun j hj => by obtain ⟨q, hq, eq⟩ := hS j hj; exact ⟨q, hq, (show M48 75 j = M 75 j from (Eq.trans (k49 75 j (by unfold WRA; omega)) (Eq.trans (congrFun (x_up_n _ _ _ (by omega)) _) (Eq.trans (congrFun (x_up_n _ _ _ (by omega)) _) (Eq.trans (congrFun (x_up_n _ _ _ (by omega)) _) rfl))))).trans eq⟩)⟩, (Or.inr ⟨⟨by rw [e_b]; exact c1, by grind, by grind⟩, h_, 1, 2, by omega, by decide, by decide, rfl, eq9, w44, (hx45.trans (congrArg nI (Nat.zero_add _))), (TrA_F ht47)⟩)⟩⟩)
      refine xg_eq 3 (fun w51 => ?_) (fun w51 => ?_)
      · refine xr_tableIn (tgt := 90) dX10_act_31 (by decide) (by decide) rfl rfl ?_
        refine xr_aload_n dX10_act_90 0 rfl ?_
        refine xr_aload_n dX10_act_91 0 rfl ?_
        refine xb_get (v := 1) flX10_352 dX10_act_92 s_62 rfl (Eq.trans (x_up_k _ _ _ (by decide)) (x_up_s _ _ _ _)) ?_
        refine xr_iload_n dX10_act_95 3 rfl ?_
        refine xr_callV (As := [.int (1), .int (x)]) (rest := []) mlX10_358 (rv1_tellsAs_1 (ac := h_) (ra := 0) x (by omega) (Eq.trans (x_up_k _ _ _ (by decide)) (Eq.trans (x_up_k _ _ _ (by decide)) (x_up_s _ _ _ _))) (Eq.trans (x_up_k _ _ _ (by decide)) (x_up_s _ _ _ _)) (x_up_s _ _ _ _)) dX10_act_96 s_62 rfl rfl (Nat.le_of_ble_eq_true rfl) (by decide) ⟨by decide, by decide⟩ (fun v s2 M55 J2 hq => ?_)
        obtain ⟨r57, rfl, rfl, rfl, k56, ⟨hr53, hx52, ht54⟩⟩ := hq
        try dsimp only [Option.toList, List.cons_append, List.nil_append]
        exact xr_iret dX10_act_99 rfl rfl (⟨_, rfl, rfl, rfl, (Ke.tr (fun pp kk => (fun hh => Or.elim hh (fun h => (Or.inl h)) (fun h => (Or.inr (Or.inr (Or.inr h)))))) (Ke.up (Or.inr (Or.inr (Or.inl (by omega)))) (Ke.up (Or.inr (Or.inl (by omega))) (Ke.up (Or.inl (by omega)) Ke.rf))) k56), ⟨⟨⟨hn, by omega, (Eq.trans (k56 62 6 (by decide)) (Eq.trans (x_up_k _ _ _ (by decide)) (Eq.trans (x_up_k _ _ _ (by decide)) (Eq.trans (x_up_k _ _ _ (by decide)) e_hn)))), (fun kw hkw => by rw [show M55 63 (5 + kw) = M 63 (5 + kw) from (Eq.trans (k56 63 (5 + kw) (by unfold WRA; omega)) (Eq.trans (congrFun (x_up_n _ _ _ (by omega)) _) (Eq.trans (congrFun (x_up_n _ _ _ (by omega)) _) (Eq.trans (congrFun (x_up_n _ _ _ (by omega)) _) rfl))))]; exact hw kw hkw)⟩, (by rw [show M55 63 16 = M 63 16 from (Eq.trans (k56 63 16 (by unfold WRA; omega)) (Eq.trans (congrFun (x_up_n _ _ _ (by omega)) _) (Eq.trans (congrFun (x_up_n _ _ _ (by omega)) _) (Eq.trans (congrFun (x_up_n _ _ _ (by omega)) _) rfl))))]; exact hbt), ⟨un, wn, by omega, by omega, (Eq.trans (k56 62 5 (by decide)) (Eq.trans (x_up_k _ _ _ (by decide)) (Eq.trans (x_up_k _ _ _ (by decide)) (Eq.trans (x_up_k _ _ _ (by decide)) e_un)))), (Eq.trans (k56 62 4 (by decide)) (Eq.trans (x_up_k _ _ _ (by decide)) (Eq.trans (x_up_k _ _ _ (by decide)) (Eq.trans (x_up_k _ _ _ (by decide)) e_wn))))⟩, (fun kk hkk => by rw [show M55 64 kk = M 64 kk from (Eq.trans (k56 64 kk (by unfold WRA; omega)) (Eq.trans (congrFun (x_up_n _ _ _ (by omega)) _) (Eq.trans (congrFun (x_up_n _ _ _ (by omega)) _) (Eq.trans (congrFun (x_up_n _ _ _ (by omega)) _) rfl)))), show M55 65 kk = M 65 kk from (Eq.trans (k56 65 kk (by unfold WRA; omega)) (Eq.trans (congrFun (x_up_n _ _ _ (by omega)) _) (Eq.trans (congrFun (x_up_n _ _ _ (by omega)) _) (Eq.trans (congrFun (x_up_n _ _ _ (by omega)) _) rfl)))), show M55 66 kk = M 66 kk from (Eq.trans (k56 66 kk (by unfold WRA; omega)) (Eq.trans (congrFun (x_up_n _ _ _ (by omega)) _) (Eq.trans (congrFun (x_up_n _ _ _ (by omega)) _) (Eq.trans (congrFun (x_up_n _ _ _ (by omega)) _) rfl))))]; exact hch kk hkk), ⟨n, by omega, (Eq.trans (k56 62 11 (by decide)) (Eq.trans (x_up_k _ _ _ (by decide)) (Eq.trans (x_up_k _ _ _ (by decide)) (Eq.trans (x_up_k _ _ _ (by decide)) e_n))))⟩, (by rw [show M55 62 13 = M 62 13 from (Eq.trans (k56 62 13 (by unfold WRA; omega)) (Eq.trans (x_up_k _ _ _ (by omega)) (Eq.trans (x_up_k _ _ _ (by omega)) (Eq.trans (x_up_k _ _ _ (by omega)) rfl))))]; exact htx), ⟨b, by omega, (Eq.trans (k56 62 36 (by decide)) (Eq.trans (x_up_k _ _ _ (by decide)) (Eq.trans (x_up_k _ _ _ (by decide)) (Eq.trans (x_up_k _ _ _ (by decide)) e_b))))⟩, (fun j hj => by obtain ⟨q, hq, eq⟩ := hkd j hj; exact ⟨q, hq, (show M55 81 j = M 81 j from (Eq.trans (k56 81 j (by unfold WRA; omega)) (Eq.trans (congrFun (x_up_n _ _ _ (by omega)) _) (Eq.trans (congrFun (x_up_n _ _ _ (by omega)) _) (Eq.trans (congrFun (x_up_n _ _ _ (by omega)) _) rfl))))).trans eq⟩), ⟨0 + 5, by omega, hx52⟩, (fun j hj => by rw [show M55 83 j = M 83 j from (Eq.trans (k56 83 j (by unfold WRA; omega)) (Eq.trans (congrFun (x_up_n _ _ _ (by omega)) _) (Eq.trans (congrFun (x_up_n _ _ _ (by omega)) _) (Eq.trans (congrFun (x_up_n _ _ _ (by omega)) _) rfl)))), show M55 84 j = M 84 j from (Eq.trans (k56 84 j (by unfold WRA; omega)) (Eq.trans (congrFun (x_up_n _ _ _ (by omega)) _) (Eq.trans (congrFun (x_up_n _ _ _ (by omega)) _) (Eq.trans (congrFun (x_up_n _ _ _ (by omega)) _) rfl))))]; exact hsl j hj), ⟨ic, by omega, (Eq.trans (k56 62 34 (by decide)) (Eq.trans (x_up_k _ _ _ (by decide)) (Eq.trans (x_up_k _ _ _ (by decide)) (Eq.trans (x_up_k _ _ _ (by decide)) e_ic))))⟩, (fun j hj => by obtain ⟨q, hq, eq⟩ := hS j hj; exact ⟨q, hq, (show M55 75 j = M 75 j from (Eq.trans (k56 75 j (by unfold WRA; omega)) (Eq.trans (congrFun (x_up_n _ _ _ (by omega)) _) (Eq.trans (congrFun (x_up_n _ _ _ (by omega)) _) (Eq.trans (congrFun (x_up_n _ _ _ (by omega)) _) rfl))))).trans eq⟩)⟩, (Or.inr ⟨⟨by rw [e_b]; exact c1, by grind, by grind⟩, h_, 1, 3, by omega, by decide, by decide, rfl, eq9, w51, (hx52.trans (congrArg nI (Nat.zero_add _))), (TrA_F ht54)⟩)⟩⟩)
      refine xr_tableOut (tgt := 100) dX10_act_31 (xg_out (lo := 0) (hi := 3) (by decide) (fun j h1 h2 qq => by have h3 : j = 0 ∨ j = 1 ∨ j = 2 ∨ j = 3 := (by omega); rcases h3 with rfl | rfl | rfl | rfl <;> first | exact absurd qq w30 | exact absurd qq w37 | exact absurd qq w44 | exact absurd qq w51)) rfl ?_
      refine xr_iconst (v := 0) dX10_act_100 rfl ?_
      exact xr_iret dX10_act_101 rfl rfl (⟨_, rfl, rfl, rfl, (Ke.up (Or.inr (Or.inr (Or.inl (by omega)))) (Ke.up (Or.inr (Or.inl (by omega))) (Ke.up (Or.inl (by omega)) Ke.rf))), ⟨⟨⟨hn, by omega, (Eq.trans (x_up_k _ _ _ (by decide)) (Eq.trans (x_up_k _ _ _ (by decide)) (Eq.trans (x_up_k _ _ _ (by decide)) e_hn))), (fun kw hkw => by rw [show (x_up (x_up (x_up M 62 39 0) 62 40 1) 62 41 (nI (h_))) 63 (5 + kw) = M 63 (5 + kw) from (Eq.trans (congrFun (x_up_n _ _ _ (by omega)) _) (Eq.trans (congrFun (x_up_n _ _ _ (by omega)) _) (Eq.trans (congrFun (x_up_n _ _ _ (by omega)) _) rfl)))]; exact hw kw hkw)⟩, (by rw [show (x_up (x_up (x_up M 62 39 0) 62 40 1) 62 41 (nI (h_))) 63 16 = M 63 16 from (Eq.trans (congrFun (x_up_n _ _ _ (by omega)) _) (Eq.trans (congrFun (x_up_n _ _ _ (by omega)) _) (Eq.trans (congrFun (x_up_n _ _ _ (by omega)) _) rfl)))]; exact hbt), ⟨un, wn, by omega, by omega, (Eq.trans (x_up_k _ _ _ (by decide)) (Eq.trans (x_up_k _ _ _ (by decide)) (Eq.trans (x_up_k _ _ _ (by decide)) e_un))), (Eq.trans (x_up_k _ _ _ (by decide)) (Eq.trans (x_up_k _ _ _ (by decide)) (Eq.trans (x_up_k _ _ _ (by decide)) e_wn)))⟩, (fun kk hkk => by rw [show (x_up (x_up (x_up M 62 39 0) 62 40 1) 62 41 (nI (h_))) 64 kk = M 64 kk from (Eq.trans (congrFun (x_up_n _ _ _ (by omega)) _) (Eq.trans (congrFun (x_up_n _ _ _ (by omega)) _) (Eq.trans (congrFun (x_up_n _ _ _ (by omega)) _) rfl))), show (x_up (x_up (x_up M 62 39 0) 62 40 1) 62 41 (nI (h_))) 65 kk = M 65 kk from (Eq.trans (congrFun (x_up_n _ _ _ (by omega)) _) (Eq.trans (congrFun (x_up_n _ _ _ (by omega)) _) (Eq.trans (congrFun (x_up_n _ _ _ (by omega)) _) rfl))), show (x_up (x_up (x_up M 62 39 0) 62 40 1) 62 41 (nI (h_))) 66 kk = M 66 kk from (Eq.trans (congrFun (x_up_n _ _ _ (by omega)) _) (Eq.trans (congrFun (x_up_n _ _ _ (by omega)) _) (Eq.trans (congrFun (x_up_n _ _ _ (by omega)) _) rfl)))]; exact hch kk hkk), ⟨n, by omega, (Eq.trans (x_up_k _ _ _ (by decide)) (Eq.trans (x_up_k _ _ _ (by decide)) (Eq.trans (x_up_k _ _ _ (by decide)) e_n)))⟩, (by rw [show (x_up (x_up (x_up M 62 39 0) 62 40 1) 62 41 (nI (h_))) 62 13 = M 62 13 from (Eq.trans (x_up_k _ _ _ (by omega)) (Eq.trans (x_up_k _ _ _ (by omega)) (Eq.trans (x_up_k _ _ _ (by omega)) rfl)))]; exact htx), ⟨b, by omega, (Eq.trans (x_up_k _ _ _ (by decide)) (Eq.trans (x_up_k _ _ _ (by decide)) (Eq.trans (x_up_k _ _ _ (by decide)) e_b)))⟩, (fun j hj => by obtain ⟨q, hq, eq⟩ := hkd j hj; exact ⟨q, hq, (show (x_up (x_up (x_up M 62 39 0) 62 40 1) 62 41 (nI (h_))) 81 j = M 81 j from (Eq.trans (congrFun (x_up_n _ _ _ (by omega)) _) (Eq.trans (congrFun (x_up_n _ _ _ (by omega)) _) (Eq.trans (congrFun (x_up_n _ _ _ (by omega)) _) rfl)))).trans eq⟩), ⟨0, by omega, (Eq.trans (x_up_k _ _ _ (by decide)) (Eq.trans (x_up_k _ _ _ (by decide)) (x_up_s _ _ _ _)))⟩, (fun j hj => by rw [show (x_up (x_up (x_up M 62 39 0) 62 40 1) 62 41 (nI (h_))) 83 j = M 83 j from (Eq.trans (congrFun (x_up_n _ _ _ (by omega)) _) (Eq.trans (congrFun (x_up_n _ _ _ (by omega)) _) (Eq.trans (congrFun (x_up_n _ _ _ (by omega)) _) rfl))), show (x_up (x_up (x_up M 62 39 0) 62 40 1) 62 41 (nI (h_))) 84 j = M 84 j from (Eq.trans (congrFun (x_up_n _ _ _ (by omega)) _) (Eq.trans (congrFun (x_up_n _ _ _ (by omega)) _) (Eq.trans (congrFun (x_up_n _ _ _ (by omega)) _) rfl)))]; exact hsl j hj), ⟨ic, by omega, (Eq.trans (x_up_k _ _ _ (by decide)) (Eq.trans (x_up_k _ _ _ (by decide)) (Eq.trans (x_up_k _ _ _ (by decide)) e_ic)))⟩, (fun j hj => by obtain ⟨q, hq, eq⟩ := hS j hj; exact ⟨q, hq, (show (x_up (x_up (x_up M 62 39 0) 62 40 1) 62 41 (nI (h_))) 75 j = M 75 j from (Eq.trans (congrFun (x_up_n _ _ _ (by omega)) _) (Eq.trans (congrFun (x_up_n _ _ _ (by omega)) _) (Eq.trans (congrFun (x_up_n _ _ _ (by omega)) _) rfl)))).trans eq⟩)⟩, (Or.inl ⟨(fun q => absurd q.2 (by grind)), (Eq.trans (x_up_k _ _ _ (by decide)) (Eq.trans (x_up_k _ _ _ (by decide)) (x_up_s _ _ _ _)))⟩)⟩⟩)
    · refine xr_aload_n dX10_act_15 0 rfl ?_
      refine xr_aload_n dX10_act_16 0 rfl ?_
      refine xr_getR flX10_69 dX10_act_17 s_62 rfl ?_
      refine xr_iload_n dX10_act_20 1 rfl ?_
      refine xb_iald (j := h_) (v := 2) dX10_act_21 s_81 (by omega) (by decide) (Eq.trans (congrFun (x_up_n _ _ _ (by decide)) _) eq9) ?_
      refine xr_putI fpX10_352 dX10_act_22 s_62 rfl rfl rfl ?_
      refine xr_aload_n dX10_act_25 0 rfl ?_
      refine xr_iload_n dX10_act_26 1 rfl ?_
      refine xr_putI fpX10_346 dX10_act_27 s_62 rfl rfl rfl ?_
      refine xr_iload_n dX10_act_30 2 rfl ?_
      refine xg_eq 0 (fun w58 => ?_) (fun w58 => ?_)
      · refine xr_tableIn (tgt := 60) dX10_act_31 (by decide) (by decide) rfl rfl ?_
        refine xr_aload_n dX10_act_60 0 rfl ?_
        refine xr_aload_n dX10_act_61 0 rfl ?_
        refine xb_get (v := 2) flX10_352 dX10_act_62 s_62 rfl (Eq.trans (x_up_k _ _ _ (by decide)) (x_up_s _ _ _ _)) ?_
        refine xr_iload_n dX10_act_65 3 rfl ?_
        refine xr_callV (As := [.int (2), .int (x)]) (rest := []) mlX10_343 (rv2_pushesAs_2 (ac := h_) (ra := 0) x (by omega) (Eq.trans (x_up_k _ _ _ (by decide)) (Eq.trans (x_up_k _ _ _ (by decide)) (x_up_s _ _ _ _))) (Eq.trans (x_up_k _ _ _ (by decide)) (x_up_s _ _ _ _)) (x_up_s _ _ _ _)) dX10_act_66 s_62 rfl rfl (Nat.le_of_ble_eq_true rfl) (by decide) ⟨by decide, by decide⟩ (fun v s2 M62 J2 hq => ?_)
        obtain ⟨r64, rfl, rfl, rfl, k63, ⟨hr60, hx59, ht61⟩⟩ := hq
        try dsimp only [Option.toList, List.cons_append, List.nil_append]
        exact xr_iret dX10_act_69 rfl rfl (⟨_, rfl, rfl, rfl, (Ke.tr (fun pp kk => (fun hh => Or.elim hh (fun h => (Or.inl h)) (fun h => (Or.inr (Or.inr (Or.inr h)))))) (Ke.up (Or.inr (Or.inr (Or.inl (by omega)))) (Ke.up (Or.inr (Or.inl (by omega))) (Ke.up (Or.inl (by omega)) Ke.rf))) k63), ⟨⟨⟨hn, by omega, (Eq.trans (k63 62 6 (by decide)) (Eq.trans (x_up_k _ _ _ (by decide)) (Eq.trans (x_up_k _ _ _ (by decide)) (Eq.trans (x_up_k _ _ _ (by decide)) e_hn)))), (fun kw hkw => by rw [show M62 63 (5 + kw) = M 63 (5 + kw) from (Eq.trans (k63 63 (5 + kw) (by unfold WRA; omega)) (Eq.trans (congrFun (x_up_n _ _ _ (by omega)) _) (Eq.trans (congrFun (x_up_n _ _ _ (by omega)) _) (Eq.trans (congrFun (x_up_n _ _ _ (by omega)) _) rfl))))]; exact hw kw hkw)⟩, (by rw [show M62 63 16 = M 63 16 from (Eq.trans (k63 63 16 (by unfold WRA; omega)) (Eq.trans (congrFun (x_up_n _ _ _ (by omega)) _) (Eq.trans (congrFun (x_up_n _ _ _ (by omega)) _) (Eq.trans (congrFun (x_up_n _ _ _ (by omega)) _) rfl))))]; exact hbt), ⟨un, wn, by omega, by omega, (Eq.trans (k63 62 5 (by decide)) (Eq.trans (x_up_k _ _ _ (by decide)) (Eq.trans (x_up_k _ _ _ (by decide)) (Eq.trans (x_up_k _ _ _ (by decide)) e_un)))), (Eq.trans (k63 62 4 (by decide)) (Eq.trans (x_up_k _ _ _ (by decide)) (Eq.trans (x_up_k _ _ _ (by decide)) (Eq.trans (x_up_k _ _ _ (by decide)) e_wn))))⟩, (fun kk hkk => by rw [show M62 64 kk = M 64 kk from (Eq.trans (k63 64 kk (by unfold WRA; omega)) (Eq.trans (congrFun (x_up_n _ _ _ (by omega)) _) (Eq.trans (congrFun (x_up_n _ _ _ (by omega)) _) (Eq.trans (congrFun (x_up_n _ _ _ (by omega)) _) rfl)))), show M62 65 kk = M 65 kk from (Eq.trans (k63 65 kk (by unfold WRA; omega)) (Eq.trans (congrFun (x_up_n _ _ _ (by omega)) _) (Eq.trans (congrFun (x_up_n _ _ _ (by omega)) _) (Eq.trans (congrFun (x_up_n _ _ _ (by omega)) _) rfl)))), show M62 66 kk = M 66 kk from (Eq.trans (k63 66 kk (by unfold WRA; omega)) (Eq.trans (congrFun (x_up_n _ _ _ (by omega)) _) (Eq.trans (congrFun (x_up_n _ _ _ (by omega)) _) (Eq.trans (congrFun (x_up_n _ _ _ (by omega)) _) rfl))))]; exact hch kk hkk), ⟨n, by omega, (Eq.trans (k63 62 11 (by decide)) (Eq.trans (x_up_k _ _ _ (by decide)) (Eq.trans (x_up_k _ _ _ (by decide)) (Eq.trans (x_up_k _ _ _ (by decide)) e_n))))⟩, (by rw [show M62 62 13 = M 62 13 from (Eq.trans (k63 62 13 (by unfold WRA; omega)) (Eq.trans (x_up_k _ _ _ (by omega)) (Eq.trans (x_up_k _ _ _ (by omega)) (Eq.trans (x_up_k _ _ _ (by omega)) rfl))))]; exact htx), ⟨b, by omega, (Eq.trans (k63 62 36 (by decide)) (Eq.trans (x_up_k _ _ _ (by decide)) (Eq.trans (x_up_k _ _ _ (by decide)) (Eq.trans (x_up_k _ _ _ (by decide)) e_b))))⟩, (fun j hj => by obtain ⟨q, hq, eq⟩ := hkd j hj; exact ⟨q, hq, (show M62 81 j = M 81 j from (Eq.trans (k63 81 j (by unfold WRA; omega)) (Eq.trans (congrFun (x_up_n _ _ _ (by omega)) _) (Eq.trans (congrFun (x_up_n _ _ _ (by omega)) _) (Eq.trans (congrFun (x_up_n _ _ _ (by omega)) _) rfl))))).trans eq⟩), ⟨0 + 1, by omega, hx59⟩, (fun j hj => by rw [show M62 83 j = M 83 j from (Eq.trans (k63 83 j (by unfold WRA; omega)) (Eq.trans (congrFun (x_up_n _ _ _ (by omega)) _) (Eq.trans (congrFun (x_up_n _ _ _ (by omega)) _) (Eq.trans (congrFun (x_up_n _ _ _ (by omega)) _) rfl)))), show M62 84 j = M 84 j from (Eq.trans (k63 84 j (by unfold WRA; omega)) (Eq.trans (congrFun (x_up_n _ _ _ (by omega)) _) (Eq.trans (congrFun (x_up_n _ _ _ (by omega)) _) (Eq.trans (congrFun (x_up_n _ _ _ (by omega)) _) rfl))))]; exact hsl j hj), ⟨ic, by omega, (Eq.trans (k63 62 34 (by decide)) (Eq.trans (x_up_k _ _ _ (by decide)) (Eq.trans (x_up_k _ _ _ (by decide)) (Eq.trans (x_up_k _ _ _ (by decide)) e_ic))))⟩, (fun j hj => by obtain ⟨q, hq, eq⟩ := hS j hj; exact ⟨q, hq, (show M62 75 j = M 75 j from (Eq.trans (k63 75 j (by unfold WRA; omega)) (Eq.trans (congrFun (x_up_n _ _ _ (by omega)) _) (Eq.trans (congrFun (x_up_n _ _ _ (by omega)) _) (Eq.trans (congrFun (x_up_n _ _ _ (by omega)) _) rfl))))).trans eq⟩)⟩, (Or.inr ⟨⟨by rw [e_b]; exact c1, by grind, by grind⟩, h_, 2, 0, by omega, by decide, by decide, rfl, eq9, w58, (hx59.trans (congrArg nI (Nat.zero_add _))), (TrA_F ht61)⟩)⟩⟩)
      refine xg_eq 1 (fun w65 => ?_) (fun w65 => ?_)
      · refine xr_tableIn (tgt := 70) dX10_act_31 (by decide) (by decide) rfl rfl ?_
        refine xr_aload_n dX10_act_70 0 rfl ?_
        refine xr_aload_n dX10_act_71 0 rfl ?_
        refine xb_get (v := 2) flX10_352 dX10_act_72 s_62 rfl (Eq.trans (x_up_k _ _ _ (by decide)) (x_up_s _ _ _ _)) ?_
        refine xr_iload_n dX10_act_75 3 rfl ?_
        refine xr_callV (As := [.int (2), .int (x)]) (rest := []) mlX10_349 (rv2_turnsAs_2 (ac := h_) (ra := 0) x (by omega) (Eq.trans (x_up_k _ _ _ (by decide)) (Eq.trans (x_up_k _ _ _ (by decide)) (x_up_s _ _ _ _))) (Eq.trans (x_up_k _ _ _ (by decide)) (x_up_s _ _ _ _)) (x_up_s _ _ _ _)) dX10_act_76 s_62 rfl rfl (Nat.le_of_ble_eq_true rfl) (by decide) ⟨by decide, by decide⟩ (fun v s2 M69 J2 hq => ?_)
        obtain ⟨r71, rfl, rfl, rfl, k70, ⟨hr67, hx66, ht68⟩⟩ := hq
        try dsimp only [Option.toList, List.cons_append, List.nil_append]
        exact xr_iret dX10_act_79 rfl rfl (⟨_, rfl, rfl, rfl, (Ke.tr (fun pp kk => (fun hh => Or.elim hh (fun h => (Or.inl h)) (fun h => (Or.inr (Or.inr (Or.inr h)))))) (Ke.up (Or.inr (Or.inr (Or.inl (by omega)))) (Ke.up (Or.inr (Or.inl (by omega))) (Ke.up (Or.inl (by omega)) Ke.rf))) k70), ⟨⟨⟨hn, by omega, (Eq.trans (k70 62 6 (by decide)) (Eq.trans (x_up_k _ _ _ (by decide)) (Eq.trans (x_up_k _ _ _ (by decide)) (Eq.trans (x_up_k _ _ _ (by decide)) e_hn)))), (fun kw hkw => by rw [show M69 63 (5 + kw) = M 63 (5 + kw) from (Eq.trans (k70 63 (5 + kw) (by unfold WRA; omega)) (Eq.trans (congrFun (x_up_n _ _ _ (by omega)) _) (Eq.trans (congrFun (x_up_n _ _ _ (by omega)) _) (Eq.trans (congrFun (x_up_n _ _ _ (by omega)) _) rfl))))]; exact hw kw hkw)⟩, (by rw [show M69 63 16 = M 63 16 from (Eq.trans (k70 63 16 (by unfold WRA; omega)) (Eq.trans (congrFun (x_up_n _ _ _ (by omega)) _) (Eq.trans (congrFun (x_up_n _ _ _ (by omega)) _) (Eq.trans (congrFun (x_up_n _ _ _ (by omega)) _) rfl))))]; exact hbt), ⟨un, wn, by omega, by omega, (Eq.trans (k70 62 5 (by decide)) (Eq.trans (x_up_k _ _ _ (by decide)) (Eq.trans (x_up_k _ _ _ (by decide)) (Eq.trans (x_up_k _ _ _ (by decide)) e_un)))), (Eq.trans (k70 62 4 (by decide)) (Eq.trans (x_up_k _ _ _ (by decide)) (Eq.trans (x_up_k _ _ _ (by decide)) (Eq.trans (x_up_k _ _ _ (by decide)) e_wn))))⟩, (fun kk hkk => by rw [show M69 64 kk = M 64 kk from (Eq.trans (k70 64 kk (by unfold WRA; omega)) (Eq.trans (congrFun (x_up_n _ _ _ (by omega)) _) (Eq.trans (congrFun (x_up_n _ _ _ (by omega)) _) (Eq.trans (congrFun (x_up_n _ _ _ (by omega)) _) rfl)))), show M69 65 kk = M 65 kk from (Eq.trans (k70 65 kk (by unfold WRA; omega)) (Eq.trans (congrFun (x_up_n _ _ _ (by omega)) _) (Eq.trans (congrFun (x_up_n _ _ _ (by omega)) _) (Eq.trans (congrFun (x_up_n _ _ _ (by omega)) _) rfl)))), show M69 66 kk = M 66 kk from (Eq.trans (k70 66 kk (by unfold WRA; omega)) (Eq.trans (congrFun (x_up_n _ _ _ (by omega)) _) (Eq.trans (congrFun (x_up_n _ _ _ (by omega)) _) (Eq.trans (congrFun (x_up_n _ _ _ (by omega)) _) rfl))))]; exact hch kk hkk), ⟨n, by omega, (Eq.trans (k70 62 11 (by decide)) (Eq.trans (x_up_k _ _ _ (by decide)) (Eq.trans (x_up_k _ _ _ (by decide)) (Eq.trans (x_up_k _ _ _ (by decide)) e_n))))⟩, (by rw [show M69 62 13 = M 62 13 from (Eq.trans (k70 62 13 (by unfold WRA; omega)) (Eq.trans (x_up_k _ _ _ (by omega)) (Eq.trans (x_up_k _ _ _ (by omega)) (Eq.trans (x_up_k _ _ _ (by omega)) rfl))))]; exact htx), ⟨b, by omega, (Eq.trans (k70 62 36 (by decide)) (Eq.trans (x_up_k _ _ _ (by decide)) (Eq.trans (x_up_k _ _ _ (by decide)) (Eq.trans (x_up_k _ _ _ (by decide)) e_b))))⟩, (fun j hj => by obtain ⟨q, hq, eq⟩ := hkd j hj; exact ⟨q, hq, (show M69 81 j = M 81 j from (Eq.trans (k70 81 j (by unfold WRA; omega)) (Eq.trans (congrFun (x_up_n _ _ _ (by omega)) _) (Eq.trans (congrFun (x_up_n _ _ _ (by omega)) _) (Eq.trans (congrFun (x_up_n _ _ _ (by omega)) _) rfl))))).trans eq⟩), ⟨0 + 3, by omega, hx66⟩, (fun j hj => by rw [show M69 83 j = M 83 j from (Eq.trans (k70 83 j (by unfold WRA; omega)) (Eq.trans (congrFun (x_up_n _ _ _ (by omega)) _) (Eq.trans (congrFun (x_up_n _ _ _ (by omega)) _) (Eq.trans (congrFun (x_up_n _ _ _ (by omega)) _) rfl)))), show M69 84 j = M 84 j from (Eq.trans (k70 84 j (by unfold WRA; omega)) (Eq.trans (congrFun (x_up_n _ _ _ (by omega)) _) (Eq.trans (congrFun (x_up_n _ _ _ (by omega)) _) (Eq.trans (congrFun (x_up_n _ _ _ (by omega)) _) rfl))))]; exact hsl j hj), ⟨ic, by omega, (Eq.trans (k70 62 34 (by decide)) (Eq.trans (x_up_k _ _ _ (by decide)) (Eq.trans (x_up_k _ _ _ (by decide)) (Eq.trans (x_up_k _ _ _ (by decide)) e_ic))))⟩, (fun j hj => by obtain ⟨q, hq, eq⟩ := hS j hj; exact ⟨q, hq, (show M69 75 j = M 75 j from (Eq.trans (k70 75 j (by unfold WRA; omega)) (Eq.trans (congrFun (x_up_n _ _ _ (by omega)) _) (Eq.trans (congrFun (x_up_n _ _ _ (by omega)) _) (Eq.trans (congrFun (x_up_n _ _ _ (by omega)) _) rfl))))).trans eq⟩)⟩, (Or.inr ⟨⟨by rw [e_b]; exact c1, by grind, by grind⟩, h_, 2, 1, by omega, by decide, by decide, rfl, eq9, w65, (hx66.trans (congrArg nI (Nat.zero_add _))), (TrA_F ht68)⟩)⟩⟩)
      refine xg_eq 2 (fun w72 => ?_) (fun w72 => ?_)
      · refine xr_tableIn (tgt := 80) dX10_act_31 (by decide) (by decide) rfl rfl ?_
        refine xr_aload_n dX10_act_80 0 rfl ?_
        refine xr_aload_n dX10_act_81 0 rfl ?_
        refine xb_get (v := 2) flX10_352 dX10_act_82 s_62 rfl (Eq.trans (x_up_k _ _ _ (by decide)) (x_up_s _ _ _ _)) ?_
        refine xr_iload_n dX10_act_85 3 rfl ?_
        refine xr_callV (As := [.int (2), .int (x)]) (rest := []) mlX10_355 (rv2_sinksAs_2 (ac := h_) (ra := 0) x (by omega) (Eq.trans (x_up_k _ _ _ (by decide)) (Eq.trans (x_up_k _ _ _ (by decide)) (x_up_s _ _ _ _))) (Eq.trans (x_up_k _ _ _ (by decide)) (x_up_s _ _ _ _)) (x_up_s _ _ _ _)) dX10_act_86 s_62 rfl rfl (Nat.le_of_ble_eq_true rfl) (by decide) ⟨by decide, by decide⟩ (fun v s2 M76 J2 hq => ?_)
        obtain ⟨r78, rfl, rfl, rfl, k77, ⟨hr74, hx73, ht75⟩⟩ := hq
        try dsimp only [Option.toList, List.cons_append, List.nil_append]
        exact xr_iret dX10_act_89 rfl rfl (⟨_, rfl, rfl, rfl, (Ke.tr (fun pp kk => (fun hh => Or.elim hh (fun h => (Or.inl h)) (fun h => (Or.inr (Or.inr (Or.inr h)))))) (Ke.up (Or.inr (Or.inr (Or.inl (by omega)))) (Ke.up (Or.inr (Or.inl (by omega))) (Ke.up (Or.inl (by omega)) Ke.rf))) k77), ⟨⟨⟨hn, by omega, (Eq.trans (k77 62 6 (by decide)) (Eq.trans (x_up_k _ _ _ (by decide)) (Eq.trans (x_up_k _ _ _ (by decide)) (Eq.trans (x_up_k _ _ _ (by decide)) e_hn)))), (fun kw hkw => by rw [show M76 63 (5 + kw) = M 63 (5 + kw) from (Eq.trans (k77 63 (5 + kw) (by unfold WRA; omega)) (Eq.trans (congrFun (x_up_n _ _ _ (by omega)) _) (Eq.trans (congrFun (x_up_n _ _ _ (by omega)) _) (Eq.trans (congrFun (x_up_n _ _ _ (by omega)) _) rfl))))]; exact hw kw hkw)⟩, (by rw [show M76 63 16 = M 63 16 from (Eq.trans (k77 63 16 (by unfold WRA; omega)) (Eq.trans (congrFun (x_up_n _ _ _ (by omega)) _) (Eq.trans (congrFun (x_up_n _ _ _ (by omega)) _) (Eq.trans (congrFun (x_up_n _ _ _ (by omega)) _) rfl))))]; exact hbt), ⟨un, wn, by omega, by omega, (Eq.trans (k77 62 5 (by decide)) (Eq.trans (x_up_k _ _ _ (by decide)) (Eq.trans (x_up_k _ _ _ (by decide)) (Eq.trans (x_up_k _ _ _ (by decide)) e_un)))), (Eq.trans (k77 62 4 (by decide)) (Eq.trans (x_up_k _ _ _ (by decide)) (Eq.trans (x_up_k _ _ _ (by decide)) (Eq.trans (x_up_k _ _ _ (by decide)) e_wn))))⟩, (fun kk hkk => by rw [show M76 64 kk = M 64 kk from (Eq.trans (k77 64 kk (by unfold WRA; omega)) (Eq.trans (congrFun (x_up_n _ _ _ (by omega)) _) (Eq.trans (congrFun (x_up_n _ _ _ (by omega)) _) (Eq.trans (congrFun (x_up_n _ _ _ (by omega)) _) rfl)))), show M76 65 kk = M 65 kk from (Eq.trans (k77 65 kk (by unfold WRA; omega)) (Eq.trans (congrFun (x_up_n _ _ _ (by omega)) _) (Eq.trans (congrFun (x_up_n _ _ _ (by omega)) _) (Eq.trans (congrFun (x_up_n _ _ _ (by omega)) _) rfl)))), show M76 66 kk = M 66 kk from (Eq.trans (k77 66 kk (by unfold WRA; omega)) (Eq.trans (congrFun (x_up_n _ _ _ (by omega)) _) (Eq.trans (congrFun (x_up_n _ _ _ (by omega)) _) (Eq.trans (congrFun (x_up_n _ _ _ (by omega)) _) rfl))))]; exact hch kk hkk), ⟨n, by omega, (Eq.trans (k77 62 11 (by decide)) (Eq.trans (x_up_k _ _ _ (by decide)) (Eq.trans (x_up_k _ _ _ (by decide)) (Eq.trans (x_up_k _ _ _ (by decide)) e_n))))⟩, (by rw [show M76 62 13 = M 62 13 from (Eq.trans (k77 62 13 (by unfold WRA; omega)) (Eq.trans (x_up_k _ _ _ (by omega)) (Eq.trans (x_up_k _ _ _ (by omega)) (Eq.trans (x_up_k _ _ _ (by omega)) rfl))))]; exact htx), ⟨b, by omega, (Eq.trans (k77 62 36 (by decide)) (Eq.trans (x_up_k _ _ _ (by decide)) (Eq.trans (x_up_k _ _ _ (by decide)) (Eq.trans (x_up_k _ _ _ (by decide)) e_b))))⟩, (fun j hj => by obtain ⟨q, hq, eq⟩ := hkd j hj; exact ⟨q, hq, (show M76 81 j = M 81 j from (Eq.trans (k77 81 j (by unfold WRA; omega)) (Eq.trans (congrFun (x_up_n _ _ _ (by omega)) _) (Eq.trans (congrFun (x_up_n _ _ _ (by omega)) _) (Eq.trans (congrFun (x_up_n _ _ _ (by omega)) _) rfl))))).trans eq⟩), ⟨0 + 1, by omega, hx73⟩, (fun j hj => by rw [show M76 83 j = M 83 j from (Eq.trans (k77 83 j (by unfold WRA; omega)) (Eq.trans (congrFun (x_up_n _ _ _ (by omega)) _) (Eq.trans (congrFun (x_up_n _ _ _ (by omega)) _) (Eq.trans (congrFun (x_up_n _ _ _ (by omega)) _) rfl)))), show M76 84 j = M 84 j from (Eq.trans (k77 84 j (by unfold WRA; omega)) (Eq.trans (congrFun (x_up_n _ _ _ (by omega)) _) (Eq.trans (congrFun (x_up_n _ _ _ (by omega)) _) (Eq.trans (congrFun (x_up_n _ _ _ (by omega)) _) rfl))))]; exact hsl j hj), ⟨ic, by omega, (Eq.trans (k77 62 34 (by decide)) (Eq.trans (x_up_k _ _ _ (by decide)) (Eq.trans (x_up_k _ _ _ (by decide)) (Eq.trans (x_up_k _ _ _ (by decide)) e_ic))))⟩, (fun j hj => by obtain ⟨q, hq, eq⟩ := hS j hj; exact ⟨q, hq, (show M76 75 j = M 75 j from (Eq.trans (k77 75 j (by unfold WRA; omega)) (Eq.trans (congrFun (x_up_n _ _ _ (by omega)) _) (Eq.trans (congrFun (x_up_n _ _ _ (by omega)) _) (Eq.trans (congrFun (x_up_n _ _ _ (by omega)) _) rfl))))).trans eq⟩)⟩, (Or.inr ⟨⟨by rw [e_b]; exact c1, by grind, by grind⟩, h_, 2, 2, by omega, by decide, by decide, rfl, eq9, w72, (hx73.trans (congrArg nI (Nat.zero_add _))), (TrA_F ht75)⟩)⟩⟩)
      refine xg_eq 3 (fun w79 => ?_) (fun w79 => ?_)
      · refine xr_tableIn (tgt := 90) dX10_act_31 (by decide) (by decide) rfl rfl ?_
        refine xr_aload_n dX10_act_90 0 rfl ?_
        refine xr_aload_n dX10_act_91 0 rfl ?_
        refine xb_get (v := 2) flX10_352 dX10_act_92 s_62 rfl (Eq.trans (x_up_k _ _ _ (by decide)) (x_up_s _ _ _ _)) ?_
        refine xr_iload_n dX10_act_95 3 rfl ?_
        refine xr_callV (As := [.int (2), .int (x)]) (rest := []) mlX10_358 (rv2_tellsAs_2 (ac := h_) (ra := 0) x (by omega) (Eq.trans (x_up_k _ _ _ (by decide)) (Eq.trans (x_up_k _ _ _ (by decide)) (x_up_s _ _ _ _))) (Eq.trans (x_up_k _ _ _ (by decide)) (x_up_s _ _ _ _)) (x_up_s _ _ _ _)) dX10_act_96 s_62 rfl rfl (Nat.le_of_ble_eq_true rfl) (by decide) ⟨by decide, by decide⟩ (fun v s2 M83 J2 hq => ?_)
        obtain ⟨r85, rfl, rfl, rfl, k84, ⟨hr81, hx80, ht82⟩⟩ := hq
        try dsimp only [Option.toList, List.cons_append, List.nil_append]
        exact xr_iret dX10_act_99 rfl rfl (⟨_, rfl, rfl, rfl, (Ke.tr (fun pp kk => (fun hh => Or.elim hh (fun h => (Or.inl h)) (fun h => (Or.inr (Or.inr (Or.inr h)))))) (Ke.up (Or.inr (Or.inr (Or.inl (by omega)))) (Ke.up (Or.inr (Or.inl (by omega))) (Ke.up (Or.inl (by omega)) Ke.rf))) k84), ⟨⟨⟨hn, by omega, (Eq.trans (k84 62 6 (by decide)) (Eq.trans (x_up_k _ _ _ (by decide)) (Eq.trans (x_up_k _ _ _ (by decide)) (Eq.trans (x_up_k _ _ _ (by decide)) e_hn)))), (fun kw hkw => by rw [show M83 63 (5 + kw) = M 63 (5 + kw) from (Eq.trans (k84 63 (5 + kw) (by unfold WRA; omega)) (Eq.trans (congrFun (x_up_n _ _ _ (by omega)) _) (Eq.trans (congrFun (x_up_n _ _ _ (by omega)) _) (Eq.trans (congrFun (x_up_n _ _ _ (by omega)) _) rfl))))]; exact hw kw hkw)⟩, (by rw [show M83 63 16 = M 63 16 from (Eq.trans (k84 63 16 (by unfold WRA; omega)) (Eq.trans (congrFun (x_up_n _ _ _ (by omega)) _) (Eq.trans (congrFun (x_up_n _ _ _ (by omega)) _) (Eq.trans (congrFun (x_up_n _ _ _ (by omega)) _) rfl))))]; exact hbt), ⟨un, wn, by omega, by omega, (Eq.trans (k84 62 5 (by decide)) (Eq.trans (x_up_k _ _ _ (by decide)) (Eq.trans (x_up_k _ _ _ (by decide)) (Eq.trans (x_up_k _ _ _ (by decide)) e_un)))), (Eq.trans (k84 62 4 (by decide)) (Eq.trans (x_up_k _ _ _ (by decide)) (Eq.trans (x_up_k _ _ _ (by decide)) (Eq.trans (x_up_k _ _ _ (by decide)) e_wn))))⟩, (fun kk hkk => by rw [show M83 64 kk = M 64 kk from (Eq.trans (k84 64 kk (by unfold WRA; omega)) (Eq.trans (congrFun (x_up_n _ _ _ (by omega)) _) (Eq.trans (congrFun (x_up_n _ _ _ (by omega)) _) (Eq.trans (congrFun (x_up_n _ _ _ (by omega)) _) rfl)))), show M83 65 kk = M 65 kk from (Eq.trans (k84 65 kk (by unfold WRA; omega)) (Eq.trans (congrFun (x_up_n _ _ _ (by omega)) _) (Eq.trans (congrFun (x_up_n _ _ _ (by omega)) _) (Eq.trans (congrFun (x_up_n _ _ _ (by omega)) _) rfl)))), show M83 66 kk = M 66 kk from (Eq.trans (k84 66 kk (by unfold WRA; omega)) (Eq.trans (congrFun (x_up_n _ _ _ (by omega)) _) (Eq.trans (congrFun (x_up_n _ _ _ (by omega)) _) (Eq.trans (congrFun (x_up_n _ _ _ (by omega)) _) rfl))))]; exact hch kk hkk), ⟨n, by omega, (Eq.trans (k84 62 11 (by decide)) (Eq.trans (x_up_k _ _ _ (by decide)) (Eq.trans (x_up_k _ _ _ (by decide)) (Eq.trans (x_up_k _ _ _ (by decide)) e_n))))⟩, (by rw [show M83 62 13 = M 62 13 from (Eq.trans (k84 62 13 (by unfold WRA; omega)) (Eq.trans (x_up_k _ _ _ (by omega)) (Eq.trans (x_up_k _ _ _ (by omega)) (Eq.trans (x_up_k _ _ _ (by omega)) rfl))))]; exact htx), ⟨b, by omega, (Eq.trans (k84 62 36 (by decide)) (Eq.trans (x_up_k _ _ _ (by decide)) (Eq.trans (x_up_k _ _ _ (by decide)) (Eq.trans (x_up_k _ _ _ (by decide)) e_b))))⟩, (fun j hj => by obtain ⟨q, hq, eq⟩ := hkd j hj; exact ⟨q, hq, (show M83 81 j = M 81 j from (Eq.trans (k84 81 j (by unfold WRA; omega)) (Eq.trans (congrFun (x_up_n _ _ _ (by omega)) _) (Eq.trans (congrFun (x_up_n _ _ _ (by omega)) _) (Eq.trans (congrFun (x_up_n _ _ _ (by omega)) _) rfl))))).trans eq⟩), ⟨0 + 5, by omega, hx80⟩, (fun j hj => by rw [show M83 83 j = M 83 j from (Eq.trans (k84 83 j (by unfold WRA; omega)) (Eq.trans (congrFun (x_up_n _ _ _ (by omega)) _) (Eq.trans (congrFun (x_up_n _ _ _ (by omega)) _) (Eq.trans (congrFun (x_up_n _ _ _ (by omega)) _) rfl)))), show M83 84 j = M 84 j from (Eq.trans (k84 84 j (by unfold WRA; omega)) (Eq.trans (congrFun (x_up_n _ _ _ (by omega)) _) (Eq.trans (congrFun (x_up_n _ _ _ (by omega)) _) (Eq.trans (congrFun (x_up_n _ _ _ (by omega)) _) rfl))))]; exact hsl j hj), ⟨ic, by omega, (Eq.trans (k84 62 34 (by decide)) (Eq.trans (x_up_k _ _ _ (by decide)) (Eq.trans (x_up_k _ _ _ (by decide)) (Eq.trans (x_up_k _ _ _ (by decide)) e_ic))))⟩, (fun j hj => by obtain ⟨q, hq, eq⟩ := hS j hj; exact ⟨q, hq, (show M83 75 j = M 75 j from (Eq.trans (k84 75 j (by unfold WRA; omega)) (Eq.trans (congrFun (x_up_n _ _ _ (by omega)) _) (Eq.trans (congrFun (x_up_n _ _ _ (by omega)) _) (Eq.trans (congrFun (x_up_n _ _ _ (by omega)) _) rfl))))).trans eq⟩)⟩, (Or.inr ⟨⟨by rw [e_b]; exact c1, by grind, by grind⟩, h_, 2, 3, by omega, by decide, by decide, rfl, eq9, w79, (hx80.trans (congrArg nI (Nat.zero_add _))), (TrA_F ht82)⟩)⟩⟩)
      refine xr_tableOut (tgt := 100) dX10_act_31 (xg_out (lo := 0) (hi := 3) (by decide) (fun j h1 h2 qq => by have h3 : j = 0 ∨ j = 1 ∨ j = 2 ∨ j = 3 := (by omega); rcases h3 with rfl | rfl | rfl | rfl <;> first | exact absurd qq w58 | exact absurd qq w65 | exact absurd qq w72 | exact absurd qq w79)) rfl ?_
      refine xr_iconst (v := 0) dX10_act_100 rfl ?_
      exact xr_iret dX10_act_101 rfl rfl (⟨_, rfl, rfl, rfl, (Ke.up (Or.inr (Or.inr (Or.inl (by omega)))) (Ke.up (Or.inr (Or.inl (by omega))) (Ke.up (Or.inl (by omega)) Ke.rf))), ⟨⟨⟨hn, by omega, (Eq.trans (x_up_k _ _ _ (by decide)) (Eq.trans (x_up_k _ _ _ (by decide)) (Eq.trans (x_up_k _ _ _ (by decide)) e_hn))), (fun kw hkw => by rw [show (x_up (x_up (x_up M 62 39 0) 62 40 2) 62 41 (nI (h_))) 63 (5 + kw) = M 63 (5 + kw) from (Eq.trans (congrFun (x_up_n _ _ _ (by omega)) _) (Eq.trans (congrFun (x_up_n _ _ _ (by omega)) _) (Eq.trans (congrFun (x_up_n _ _ _ (by omega)) _) rfl)))]; exact hw kw hkw)⟩, (by rw [show (x_up (x_up (x_up M 62 39 0) 62 40 2) 62 41 (nI (h_))) 63 16 = M 63 16 from (Eq.trans (congrFun (x_up_n _ _ _ (by omega)) _) (Eq.trans (congrFun (x_up_n _ _ _ (by omega)) _) (Eq.trans (congrFun (x_up_n _ _ _ (by omega)) _) rfl)))]; exact hbt), ⟨un, wn, by omega, by omega, (Eq.trans (x_up_k _ _ _ (by decide)) (Eq.trans (x_up_k _ _ _ (by decide)) (Eq.trans (x_up_k _ _ _ (by decide)) e_un))), (Eq.trans (x_up_k _ _ _ (by decide)) (Eq.trans (x_up_k _ _ _ (by decide)) (Eq.trans (x_up_k _ _ _ (by decide)) e_wn)))⟩, (fun kk hkk => by rw [show (x_up (x_up (x_up M 62 39 0) 62 40 2) 62 41 (nI (h_))) 64 kk = M 64 kk from (Eq.trans (congrFun (x_up_n _ _ _ (by omega)) _) (Eq.trans (congrFun (x_up_n _ _ _ (by omega)) _) (Eq.trans (congrFun (x_up_n _ _ _ (by omega)) _) rfl))), show (x_up (x_up (x_up M 62 39 0) 62 40 2) 62 41 (nI (h_))) 65 kk = M 65 kk from (Eq.trans (congrFun (x_up_n _ _ _ (by omega)) _) (Eq.trans (congrFun (x_up_n _ _ _ (by omega)) _) (Eq.trans (congrFun (x_up_n _ _ _ (by omega)) _) rfl))), show (x_up (x_up (x_up M 62 39 0) 62 40 2) 62 41 (nI (h_))) 66 kk = M 66 kk from (Eq.trans (congrFun (x_up_n _ _ _ (by omega)) _) (Eq.trans (congrFun (x_up_n _ _ _ (by omega)) _) (Eq.trans (congrFun (x_up_n _ _ _ (by omega)) _) rfl)))]; exact hch kk hkk), ⟨n, by omega, (Eq.trans (x_up_k _ _ _ (by decide)) (Eq.trans (x_up_k _ _ _ (by decide)) (Eq.trans (x_up_k _ _ _ (by decide)) e_n)))⟩, (by rw [show (x_up (x_up (x_up M 62 39 0) 62 40 2) 62 41 (nI (h_))) 62 13 = M 62 13 from (Eq.trans (x_up_k _ _ _ (by omega)) (Eq.trans (x_up_k _ _ _ (by omega)) (Eq.trans (x_up_k _ _ _ (by omega)) rfl)))]; exact htx), ⟨b, by omega, (Eq.trans (x_up_k _ _ _ (by decide)) (Eq.trans (x_up_k _ _ _ (by decide)) (Eq.trans (x_up_k _ _ _ (by decide)) e_b)))⟩, (fun j hj => by obtain ⟨q, hq, eq⟩ := hkd j hj; exact ⟨q, hq, (show (x_up (x_up (x_up M 62 39 0) 62 40 2) 62 41 (nI (h_))) 81 j = M 81 j from (Eq.trans (congrFun (x_up_n _ _ _ (by omega)) _) (Eq.trans (congrFun (x_up_n _ _ _ (by omega)) _) (Eq.trans (congrFun (x_up_n _ _ _ (by omega)) _) rfl)))).trans eq⟩), ⟨0, by omega, (Eq.trans (x_up_k _ _ _ (by decide)) (Eq.trans (x_up_k _ _ _ (by decide)) (x_up_s _ _ _ _)))⟩, (fun j hj => by rw [show (x_up (x_up (x_up M 62 39 0) 62 40 2) 62 41 (nI (h_))) 83 j = M 83 j from (Eq.trans (congrFun (x_up_n _ _ _ (by omega)) _) (Eq.trans (congrFun (x_up_n _ _ _ (by omega)) _) (Eq.trans (congrFun (x_up_n _ _ _ (by omega)) _) rfl))), show (x_up (x_up (x_up M 62 39 0) 62 40 2) 62 41 (nI (h_))) 84 j = M 84 j from (Eq.trans (congrFun (x_up_n _ _ _ (by omega)) _) (Eq.trans (congrFun (x_up_n _ _ _ (by omega)) _) (Eq.trans (congrFun (x_up_n _ _ _ (by omega)) _) rfl)))]; exact hsl j hj), ⟨ic, by omega, (Eq.trans (x_up_k _ _ _ (by decide)) (Eq.trans (x_up_k _ _ _ (by decide)) (Eq.trans (x_up_k _ _ _ (by decide)) e_ic)))⟩, (fun j hj => by obtain ⟨q, hq, eq⟩ := hS j hj; exact ⟨q, hq, (show (x_up (x_up (x_up M 62 39 0) 62 40 2) 62 41 (nI (h_))) 75 j = M 75 j from (Eq.trans (congrFun (x_up_n _ _ _ (by omega)) _) (Eq.trans (congrFun (x_up_n _ _ _ (by omega)) _) (Eq.trans (congrFun (x_up_n _ _ _ (by omega)) _) rfl)))).trans eq⟩)⟩, (Or.inl ⟨(fun q => absurd q.2 (by grind)), (Eq.trans (x_up_k _ _ _ (by decide)) (Eq.trans (x_up_k _ _ _ (by decide)) (x_up_s _ _ _ _)))⟩)⟩⟩)
    · refine xr_aload_n dX10_act_15 0 rfl ?_
      refine xr_aload_n dX10_act_16 0 rfl ?_
      refine xr_getR flX10_69 dX10_act_17 s_62 rfl ?_
      refine xr_iload_n dX10_act_20 1 rfl ?_
      refine xb_iald (j := h_) (v := 3) dX10_act_21 s_81 (by omega) (by decide) (Eq.trans (congrFun (x_up_n _ _ _ (by decide)) _) eq9) ?_
      refine xr_putI fpX10_352 dX10_act_22 s_62 rfl rfl rfl ?_
      refine xr_aload_n dX10_act_25 0 rfl ?_
      refine xr_iload_n dX10_act_26 1 rfl ?_
      refine xr_putI fpX10_346 dX10_act_27 s_62 rfl rfl rfl ?_
      refine xr_iload_n dX10_act_30 2 rfl ?_
      refine xg_eq 0 (fun w86 => ?_) (fun w86 => ?_)
      · refine xr_tableIn (tgt := 60) dX10_act_31 (by decide) (by decide) rfl rfl ?_
        refine xr_aload_n dX10_act_60 0 rfl ?_
        refine xr_aload_n dX10_act_61 0 rfl ?_
        refine xb_get (v := 3) flX10_352 dX10_act_62 s_62 rfl (Eq.trans (x_up_k _ _ _ (by decide)) (x_up_s _ _ _ _)) ?_
        refine xr_iload_n dX10_act_65 3 rfl ?_
        refine xr_callV (As := [.int (3), .int (x)]) (rest := []) mlX10_343 (rv3_pushesAs_3 (ac := h_) (ra := 0) x (by omega) (Eq.trans (x_up_k _ _ _ (by decide)) (Eq.trans (x_up_k _ _ _ (by decide)) (x_up_s _ _ _ _))) (Eq.trans (x_up_k _ _ _ (by decide)) (x_up_s _ _ _ _)) (x_up_s _ _ _ _)) dX10_act_66 s_62 rfl rfl (Nat.le_of_ble_eq_true rfl) (by decide) ⟨by decide, by decide⟩ (fun v s2 M90 J2 hq => ?_)
        obtain ⟨r92, rfl, rfl, rfl, k91, ⟨hr88, hx87, ht89⟩⟩ := hq
        try dsimp only [Option.toList, List.cons_append, List.nil_append]
        exact xr_iret dX10_act_69 rfl rfl (⟨_, rfl, rfl, rfl, (Ke.tr (fun pp kk => (fun hh => Or.elim hh (fun h => (Or.inl h)) (fun h => (Or.inr (Or.inr (Or.inr h)))))) (Ke.up (Or.inr (Or.inr (Or.inl (by omega)))) (Ke.up (Or.inr (Or.inl (by omega))) (Ke.up (Or.inl (by omega)) Ke.rf))) k91), ⟨⟨⟨hn, by omega, (Eq.trans (k91 62 6 (by decide)) (Eq.trans (x_up_k _ _ _ (by decide)) (Eq.trans (x_up_k _ _ _ (by decide)) (Eq.trans (x_up_k _ _ _ (by decide)) e_hn)))), (fun kw hkw => by rw [show M90 63 (5 + kw) = M 63 (5 + kw) from (Eq.trans (k91 63 (5 + kw) (by unfold WRA; omega)) (Eq.trans (congrFun (x_up_n _ _ _ (by omega)) _) (Eq.trans (congrFun (x_up_n _ _ _ (by omega)) _) (Eq.trans (congrFun (x_up_n _ _ _ (by omega)) _) rfl))))]; exact hw kw hkw)⟩, (by rw [show M90 63 16 = M 63 16 from (Eq.trans (k91 63 16 (by unfold WRA; omega)) (Eq.trans (congrFun (x_up_n _ _ _ (by omega)) _) (Eq.trans (congrFun (x_up_n _ _ _ (by omega)) _) (Eq.trans (congrFun (x_up_n _ _ _ (by omega)) _) rfl))))]; exact hbt), ⟨un, wn, by omega, by omega, (Eq.trans (k91 62 5 (by decide)) (Eq.trans (x_up_k _ _ _ (by decide)) (Eq.trans (x_up_k _ _ _ (by decide)) (Eq.trans (x_up_k _ _ _ (by decide)) e_un)))), (Eq.trans (k91 62 4 (by decide)) (Eq.trans (x_up_k _ _ _ (by decide)) (Eq.trans (x_up_k _ _ _ (by decide)) (Eq.trans (x_up_k _ _ _ (by decide)) e_wn))))⟩, (fun kk hkk => by rw [show M90 64 kk = M 64 kk from (Eq.trans (k91 64 kk (by unfold WRA; omega)) (Eq.trans (congrFun (x_up_n _ _ _ (by omega)) _) (Eq.trans (congrFun (x_up_n _ _ _ (by omega)) _) (Eq.trans (congrFun (x_up_n _ _ _ (by omega)) _) rfl)))), show M90 65 kk = M 65 kk from (Eq.trans (k91 65 kk (by unfold WRA; omega)) (Eq.trans (congrFun (x_up_n _ _ _ (by omega)) _) (Eq.trans (congrFun (x_up_n _ _ _ (by omega)) _) (Eq.trans (congrFun (x_up_n _ _ _ (by omega)) _) rfl)))), show M90 66 kk = M 66 kk from (Eq.trans (k91 66 kk (by unfold WRA; omega)) (Eq.trans (congrFun (x_up_n _ _ _ (by omega)) _) (Eq.trans (congrFun (x_up_n _ _ _ (by omega)) _) (Eq.trans (congrFun (x_up_n _ _ _ (by omega)) _) rfl))))]; exact hch kk hkk), ⟨n, by omega, (Eq.trans (k91 62 11 (by decide)) (Eq.trans (x_up_k _ _ _ (by decide)) (Eq.trans (x_up_k _ _ _ (by decide)) (Eq.trans (x_up_k _ _ _ (by decide)) e_n))))⟩, (by rw [show M90 62 13 = M 62 13 from (Eq.trans (k91 62 13 (by unfold WRA; omega)) (Eq.trans (x_up_k _ _ _ (by omega)) (Eq.trans (x_up_k _ _ _ (by omega)) (Eq.trans (x_up_k _ _ _ (by omega)) rfl))))]; exact htx), ⟨b, by omega, (Eq.trans (k91 62 36 (by decide)) (Eq.trans (x_up_k _ _ _ (by decide)) (Eq.trans (x_up_k _ _ _ (by decide)) (Eq.trans (x_up_k _ _ _ (by decide)) e_b))))⟩, (fun j hj => by obtain ⟨q, hq, eq⟩ := hkd j hj; exact ⟨q, hq, (show M90 81 j = M 81 j from (Eq.trans (k91 81 j (by unfold WRA; omega)) (Eq.trans (congrFun (x_up_n _ _ _ (by omega)) _) (Eq.trans (congrFun (x_up_n _ _ _ (by omega)) _) (Eq.trans (congrFun (x_up_n _ _ _ (by omega)) _) rfl))))).trans eq⟩), ⟨0 + 1, by omega, hx87⟩, (fun j hj => by rw [show M90 83 j = M 83 j from (Eq.trans (k91 83 j (by unfold WRA; omega)) (Eq.trans (congrFun (x_up_n _ _ _ (by omega)) _) (Eq.trans (congrFun (x_up_n _ _ _ (by omega)) _) (Eq.trans (congrFun (x_up_n _ _ _ (by omega)) _) rfl)))), show M90 84 j = M 84 j from (Eq.trans (k91 84 j (by unfold WRA; omega)) (Eq.trans (congrFun (x_up_n _ _ _ (by omega)) _) (Eq.trans (congrFun (x_up_n _ _ _ (by omega)) _) (Eq.trans (congrFun (x_up_n _ _ _ (by omega)) _) rfl))))]; exact hsl j hj), ⟨ic, by omega, (Eq.trans (k91 62 34 (by decide)) (Eq.trans (x_up_k _ _ _ (by decide)) (Eq.trans (x_up_k _ _ _ (by decide)) (Eq.trans (x_up_k _ _ _ (by decide)) e_ic))))⟩, (fun j hj => by obtain ⟨q, hq, eq⟩ := hS j hj; exact ⟨q, hq, (show M90 75 j = M 75 j from (Eq.trans (k91 75 j (by unfold WRA; omega)) (Eq.trans (congrFun (x_up_n _ _ _ (by omega)) _) (Eq.trans (congrFun (x_up_n _ _ _ (by omega)) _) (Eq.trans (congrFun (x_up_n _ _ _ (by omega)) _) rfl))))).trans eq⟩)⟩, (Or.inr ⟨⟨by rw [e_b]; exact c1, by grind, by grind⟩, h_, 3, 0, by omega, by decide, by decide, rfl, eq9, w86, (hx87.trans (congrArg nI (Nat.zero_add _))), (TrA_F ht89)⟩)⟩⟩)
      refine xg_eq 1 (fun w93 => ?_) (fun w93 => ?_)
      · refine xr_tableIn (tgt := 70) dX10_act_31 (by decide) (by decide) rfl rfl ?_
        refine xr_aload_n dX10_act_70 0 rfl ?_
        refine xr_aload_n dX10_act_71 0 rfl ?_
        refine xb_get (v := 3) flX10_352 dX10_act_72 s_62 rfl (Eq.trans (x_up_k _ _ _ (by decide)) (x_up_s _ _ _ _)) ?_
        refine xr_iload_n dX10_act_75 3 rfl ?_
        refine xr_callV (As := [.int (3), .int (x)]) (rest := []) mlX10_349 (rv3_turnsAs_3 (ac := h_) (ra := 0) x (by omega) (Eq.trans (x_up_k _ _ _ (by decide)) (Eq.trans (x_up_k _ _ _ (by decide)) (x_up_s _ _ _ _))) (Eq.trans (x_up_k _ _ _ (by decide)) (x_up_s _ _ _ _)) (x_up_s _ _ _ _)) dX10_act_76 s_62 rfl rfl (Nat.le_of_ble_eq_true rfl) (by decide) ⟨by decide, by decide⟩ (fun v s2 M97 J2 hq => ?_)
        obtain ⟨r99, rfl, rfl, rfl, k98, ⟨hr95, hx94, ht96⟩⟩ := hq
        try dsimp only [Option.toList, List.cons_append, List.nil_append]
        exact xr_iret dX10_act_79 rfl rfl (⟨_, rfl, rfl, rfl, (Ke.tr (fun pp kk => (fun hh => Or.elim hh (fun h => (Or.inl h)) (fun h => (Or.inr (Or.inr (Or.inr h)))))) (Ke.up (Or.inr (Or.inr (Or.inl (by omega)))) (Ke.up (Or.inr (Or.inl (by omega))) (Ke.up (Or.inl (by omega)) Ke.rf))) k98), ⟨⟨⟨hn, by omega, (Eq.trans (k98 62 6 (by decide)) (Eq.trans (x_up_k _ _ _ (by decide)) (Eq.trans (x_up_k _ _ _ (by decide)) (Eq.trans (x_up_k _ _ _ (by decide)) e_hn)))), (fun kw hkw => by rw [show M97 63 (5 + kw) = M 63 (5 + kw) from (Eq.trans (k98 63 (5 + kw) (by unfold WRA; omega)) (Eq.trans (congrFun (x_up_n _ _ _ (by omega)) _) (Eq.trans (congrFun (x_up_n _ _ _ (by omega)) _) (Eq.trans (congrFun (x_up_n _ _ _ (by omega)) _) rfl))))]; exact hw kw hkw)⟩, (by rw [show M97 63 16 = M 63 16 from (Eq.trans (k98 63 16 (by unfold WRA; omega)) (Eq.trans (congrFun (x_up_n _ _ _ (by omega)) _) (Eq.trans (congrFun (x_up_n _ _ _ (by omega)) _) (Eq.trans (congrFun (x_up_n _ _ _ (by omega)) _) rfl))))]; exact hbt), ⟨un, wn, by omega, by omega, (Eq.trans (k98 62 5 (by decide)) (Eq.trans (x_up_k _ _ _ (by decide)) (Eq.trans (x_up_k _ _ _ (by decide)) (Eq.trans (x_up_k _ _ _ (by decide)) e_un)))), (Eq.trans (k98 62 4 (by decide)) (Eq.trans (x_up_k _ _ _ (by decide)) (Eq.trans (x_up_k _ _ _ (by decide)) (Eq.trans (x_up_k _ _ _ (by decide)) e_wn))))⟩, (fun kk hkk => by rw [show M97 64 kk = M 64 kk from (Eq.trans (k98 64 kk (by unfold WRA; omega)) (Eq.trans (congrFun (x_up_n _ _ _ (by omega)) _) (Eq.trans (congrFun (x_up_n _ _ _ (by omega)) _) (Eq.trans (congrFun (x_up_n _ _ _ (by omega)) _) rfl)))), show M97 65 kk = M 65 kk from (Eq.trans (k98 65 kk (by unfold WRA; omega)) (Eq.trans (congrFun (x_up_n _ _ _ (by omega)) _) (Eq.trans (congrFun (x_up_n _ _ _ (by omega)) _) (Eq.trans (congrFun (x_up_n _ _ _ (by omega)) _) rfl)))), show M97 66 kk = M 66 kk from (Eq.trans (k98 66 kk (by unfold WRA; omega)) (Eq.trans (congrFun (x_up_n _ _ _ (by omega)) _) (Eq.trans (congrFun (x_up_n _ _ _ (by omega)) _) (Eq.trans (congrFun (x_up_n _ _ _ (by omega)) _) rfl))))]; exact hch kk hkk), ⟨n, by omega, (Eq.trans (k98 62 11 (by decide)) (Eq.trans (x_up_k _ _ _ (by decide)) (Eq.trans (x_up_k _ _ _ (by decide)) (Eq.trans (x_up_k _ _ _ (by decide)) e_n))))⟩, (by rw [show M97 62 13 = M 62 13 from (Eq.trans (k98 62 13 (by unfold WRA; omega)) (Eq.trans (x_up_k _ _ _ (by omega)) (Eq.trans (x_up_k _ _ _ (by omega)) (Eq.trans (x_up_k _ _ _ (by omega)) rfl))))]; exact htx), ⟨b, by omega, (Eq.trans (k98 62 36 (by decide)) (Eq.trans (x_up_k _ _ _ (by decide)) (Eq.trans (x_up_k _ _ _ (by decide)) (Eq.trans (x_up_k _ _ _ (by decide)) e_b))))⟩, (fun j hj => by obtain ⟨q, hq, eq⟩ := hkd j hj; exact ⟨q, hq, (show M97 81 j = M 81 j from (Eq.trans (k98 81 j (by unfold WRA; omega)) (Eq.trans (congrFun (x_up_n _ _ _ (by omega)) _) (Eq.trans (congrFun (x_up_n _ _ _ (by omega)) _) (Eq.trans (congrFun (x_up_n _ _ _ (by omega)) _) rfl))))).trans eq⟩), ⟨0 + 4, by omega, hx94⟩, (fun j hj => by rw [show M97 83 j = M 83 j from (Eq.trans (k98 83 j (by unfold WRA; omega)) (Eq.trans (congrFun (x_up_n _ _ _ (by omega)) _) (Eq.trans (congrFun (x_up_n _ _ _ (by omega)) _) (Eq.trans (congrFun (x_up_n _ _ _ (by omega)) _) rfl)))), show M97 84 j = M 84 j from (Eq.trans (k98 84 j (by unfold WRA; omega)) (Eq.trans (congrFun (x_up_n _ _ _ (by omega)) _) (Eq.trans (congrFun (x_up_n _ _ _ (by omega)) _) (Eq.trans (congrFun (x_up_n _ _ _ (by omega)) _) rfl))))]; exact hsl j hj), ⟨ic, by omega, (Eq.trans (k98 62 34 (by decide)) (Eq.trans (x_up_k _ _ _ (by decide)) (Eq.trans (x_up_k _ _ _ (by decide)) (Eq.trans (x_up_k _ _ _ (by decide)) e_ic))))⟩, (fun j hj => by obtain ⟨q, hq, eq⟩ := hS j hj; exact ⟨q, hq, (show M97 75 j = M 75 j from (Eq.trans (k98 75 j (by unfold WRA; omega)) (Eq.trans (congrFun (x_up_n _ _ _ (by omega)) _) (Eq.trans (congrFun (x_up_n _ _ _ (by omega)) _) (Eq.trans (congrFun (x_up_n _ _ _ (by omega)) _) rfl))))).trans eq⟩)⟩, (Or.inr ⟨⟨by rw [e_b]; exact c1, by grind, by grind⟩, h_, 3, 1, by omega, by decide, by decide, rfl, eq9, w93, (hx94.trans (congrArg nI (Nat.zero_add _))), (TrA_F ht96)⟩)⟩⟩)
      refine xg_eq 2 (fun w100 => ?_) (fun w100 => ?_)
      · refine xr_tableIn (tgt := 80) dX10_act_31 (by decide) (by decide) rfl rfl ?_
        refine xr_aload_n dX10_act_80 0 rfl ?_
        refine xr_aload_n dX10_act_81 0 rfl ?_
        refine xb_get (v := 3) flX10_352 dX10_act_82 s_62 rfl (Eq.trans (x_up_k _ _ _ (by decide)) (x_up_s _ _ _ _)) ?_
        refine xr_iload_n dX10_act_85 3 rfl ?_
        refine xr_callV (As := [.int (3), .int (x)]) (rest := []) mlX10_355 (rv3_sinksAs_3 (ac := h_) (ra := 0) x (by omega) (Eq.trans (x_up_k _ _ _ (by decide)) (Eq.trans (x_up_k _ _ _ (by decide)) (x_up_s _ _ _ _))) (Eq.trans (x_up_k _ _ _ (by decide)) (x_up_s _ _ _ _)) (x_up_s _ _ _ _)) dX10_act_86 s_62 rfl rfl (Nat.le_of_ble_eq_true rfl) (by decide) ⟨by decide, by decide⟩ (fun v s2 M104 J2 hq => ?_)
        obtain ⟨r106, rfl, rfl, rfl, k105, ⟨hr102, hx101, ht103⟩⟩ := hq
        try dsimp only [Option.toList, List.cons_append, List.nil_append]
        exact xr_iret dX10_act_89 rfl rfl (⟨_, rfl, rfl, rfl, (Ke.tr (fun pp kk => (fun hh => Or.elim hh (fun h => (Or.inl h)) (fun h => (Or.inr (Or.inr (Or.inr h)))))) (Ke.up (Or.inr (Or.inr (Or.inl (by omega)))) (Ke.up (Or.inr (Or.inl (by omega))) (Ke.up (Or.inl (by omega)) Ke.rf))) k105), ⟨⟨⟨hn, by omega, (Eq.trans (k105 62 6 (by decide)) (Eq.trans (x_up_k _ _ _ (by decide)) (Eq.trans (x_up_k _ _ _ (by decide)) (Eq.trans (x_up_k _ _ _ (by decide)) e_hn)))), (fun kw hkw => by rw [show M104 63 (5 + kw) = M 63 (5 + kw) from (Eq.trans (k105 63 (5 + kw) (by unfold WRA; omega)) (Eq.trans (congrFun (x_up_n _ _ _ (by omega)) _) (Eq.trans (congrFun (x_up_n _ _ _ (by omega)) _) (Eq.trans (congrFun (x_up_n _ _ _ (by omega)) _) rfl))))]; exact hw kw hkw)⟩, (by rw [show M104 63 16 = M 63 16 from (Eq.trans (k105 63 16 (by unfold WRA; omega)) (Eq.trans (congrFun (x_up_n _ _ _ (by omega)) _) (Eq.trans (congrFun (x_up_n _ _ _ (by omega)) _) (Eq.trans (congrFun (x_up_n _ _ _ (by omega)) _) rfl))))]; exact hbt), ⟨un, wn, by omega, by omega, (Eq.trans (k105 62 5 (by decide)) (Eq.trans (x_up_k _ _ _ (by decide)) (Eq.trans (x_up_k _ _ _ (by decide)) (Eq.trans (x_up_k _ _ _ (by decide)) e_un)))), (Eq.trans (k105 62 4 (by decide)) (Eq.trans (x_up_k _ _ _ (by decide)) (Eq.trans (x_up_k _ _ _ (by decide)) (Eq.trans (x_up_k _ _ _ (by decide)) e_wn))))⟩, (fun kk hkk => by rw [show M104 64 kk = M 64 kk from (Eq.trans (k105 64 kk (by unfold WRA; omega)) (Eq.trans (congrFun (x_up_n _ _ _ (by omega)) _) (Eq.trans (congrFun (x_up_n _ _ _ (by omega)) _) (Eq.trans (congrFun (x_up_n _ _ _ (by omega)) _) rfl)))), show M104 65 kk = M 65 kk from (Eq.trans (k105 65 kk (by unfold WRA; omega)) (Eq.trans (congrFun (x_up_n _ _ _ (by omega)) _) (Eq.trans (congrFun (x_up_n _ _ _ (by omega)) _) (Eq.trans (congrFun (x_up_n _ _ _ (by omega)) _) rfl)))), show M104 66 kk = M 66 kk from (Eq.trans (k105 66 kk (by unfold WRA; omega)) (Eq.trans (congrFun (x_up_n _ _ _ (by omega)) _) (Eq.trans (congrFun (x_up_n _ _ _ (by omega)) _) (Eq.trans (congrFun (x_up_n _ _ _ (by omega)) _) rfl))))]; exact hch kk hkk), ⟨n, by omega, (Eq.trans (k105 62 11 (by decide)) (Eq.trans (x_up_k _ _ _ (by decide)) (Eq.trans (x_up_k _ _ _ (by decide)) (Eq.trans (x_up_k _ _ _ (by decide)) e_n))))⟩, (by rw [show M104 62 13 = M 62 13 from (Eq.trans (k105 62 13 (by unfold WRA; omega)) (Eq.trans (x_up_k _ _ _ (by omega)) (Eq.trans (x_up_k _ _ _ (by omega)) (Eq.trans (x_up_k _ _ _ (by omega)) rfl))))]; exact htx), ⟨b, by omega, (Eq.trans (k105 62 36 (by decide)) (Eq.trans (x_up_k _ _ _ (by decide)) (Eq.trans (x_up_k _ _ _ (by decide)) (Eq.trans (x_up_k _ _ _ (by decide)) e_b))))⟩, (fun j hj => by obtain ⟨q, hq, eq⟩ := hkd j hj; exact ⟨q, hq, (show M104 81 j = M 81 j from (Eq.trans (k105 81 j (by unfold WRA; omega)) (Eq.trans (congrFun (x_up_n _ _ _ (by omega)) _) (Eq.trans (congrFun (x_up_n _ _ _ (by omega)) _) (Eq.trans (congrFun (x_up_n _ _ _ (by omega)) _) rfl))))).trans eq⟩), ⟨0 + 2, by omega, hx101⟩, (fun j hj => by rw [show M104 83 j = M 83 j from (Eq.trans (k105 83 j (by unfold WRA; omega)) (Eq.trans (congrFun (x_up_n _ _ _ (by omega)) _) (Eq.trans (congrFun (x_up_n _ _ _ (by omega)) _) (Eq.trans (congrFun (x_up_n _ _ _ (by omega)) _) rfl)))), show M104 84 j = M 84 j from (Eq.trans (k105 84 j (by unfold WRA; omega)) (Eq.trans (congrFun (x_up_n _ _ _ (by omega)) _) (Eq.trans (congrFun (x_up_n _ _ _ (by omega)) _) (Eq.trans (congrFun (x_up_n _ _ _ (by omega)) _) rfl))))]; exact hsl j hj), ⟨ic, by omega, (Eq.trans (k105 62 34 (by decide)) (Eq.trans (x_up_k _ _ _ (by decide)) (Eq.trans (x_up_k _ _ _ (by decide)) (Eq.trans (x_up_k _ _ _ (by decide)) e_ic))))⟩, (fun j hj => by obtain ⟨q, hq, eq⟩ := hS j hj; exact ⟨q, hq, (show M104 75 j = M 75 j from (Eq.trans (k105 75 j (by unfold WRA; omega)) (Eq.trans (congrFun (x_up_n _ _ _ (by omega)) _) (Eq.trans (congrFun (x_up_n _ _ _ (by omega)) _) (Eq.trans (congrFun (x_up_n _ _ _ (by omega)) _) rfl))))).trans eq⟩)⟩, (Or.inr ⟨⟨by rw [e_b]; exact c1, by grind, by grind⟩, h_, 3, 2, by omega, by decide, by decide, rfl, eq9, w100, (hx101.trans (congrArg nI (Nat.zero_add _))), (TrA_F ht103)⟩)⟩⟩)
      refine xg_eq 3 (fun w107 => ?_) (fun w107 => ?_)
      · refine xr_tableIn (tgt := 90) dX10_act_31 (by decide) (by decide) rfl rfl ?_
        refine xr_aload_n dX10_act_90 0 rfl ?_
        refine xr_aload_n dX10_act_91 0 rfl ?_
        refine xb_get (v := 3) flX10_352 dX10_act_92 s_62 rfl (Eq.trans (x_up_k _ _ _ (by decide)) (x_up_s _ _ _ _)) ?_
        refine xr_iload_n dX10_act_95 3 rfl ?_
        refine xr_callV (As := [.int (3), .int (x)]) (rest := []) mlX10_358 (rv3_tellsAs_3 (ac := h_) (ra := 0) x (by omega) (Eq.trans (x_up_k _ _ _ (by decide)) (Eq.trans (x_up_k _ _ _ (by decide)) (x_up_s _ _ _ _))) (Eq.trans (x_up_k _ _ _ (by decide)) (x_up_s _ _ _ _)) (x_up_s _ _ _ _)) dX10_act_96 s_62 rfl rfl (Nat.le_of_ble_eq_true rfl) (by decide) ⟨by decide, by decide⟩ (fun v s2 M111 J2 hq => ?_)
        obtain ⟨r113, rfl, rfl, rfl, k112, ⟨hr109, hx108, ht110⟩⟩ := hq
        try dsimp only [Option.toList, List.cons_append, List.nil_append]
        exact xr_iret dX10_act_99 rfl rfl (⟨_, rfl, rfl, rfl, (Ke.tr (fun pp kk => (fun hh => Or.elim hh (fun h => (Or.inl h)) (fun h => (Or.inr (Or.inr (Or.inr h)))))) (Ke.up (Or.inr (Or.inr (Or.inl (by omega)))) (Ke.up (Or.inr (Or.inl (by omega))) (Ke.up (Or.inl (by omega)) Ke.rf))) k112), ⟨⟨⟨hn, by omega, (Eq.trans (k112 62 6 (by decide)) (Eq.trans (x_up_k _ _ _ (by decide)) (Eq.trans (x_up_k _ _ _ (by decide)) (Eq.trans (x_up_k _ _ _ (by decide)) e_hn)))), (fun kw hkw => by rw [show M111 63 (5 + kw) = M 63 (5 + kw) from (Eq.trans (k112 63 (5 + kw) (by unfold WRA; omega)) (Eq.trans (congrFun (x_up_n _ _ _ (by omega)) _) (Eq.trans (congrFun (x_up_n _ _ _ (by omega)) _) (Eq.trans (congrFun (x_up_n _ _ _ (by omega)) _) rfl))))]; exact hw kw hkw)⟩, (by rw [show M111 63 16 = M 63 16 from (Eq.trans (k112 63 16 (by unfold WRA; omega)) (Eq.trans (congrFun (x_up_n _ _ _ (by omega)) _) (Eq.trans (congrFun (x_up_n _ _ _ (by omega)) _) (Eq.trans (congrFun (x_up_n _ _ _ (by omega)) _) rfl))))]; exact hbt), ⟨un, wn, by omega, by omega, (Eq.trans (k112 62 5 (by decide)) (Eq.trans (x_up_k _ _ _ (by decide)) (Eq.trans (x_up_k _ _ _ (by decide)) (Eq.trans (x_up_k _ _ _ (by decide)) e_un)))), (Eq.trans (k112 62 4 (by decide)) (Eq.trans (x_up_k _ _ _ (by decide)) (Eq.trans (x_up_k _ _ _ (by decide)) (Eq.trans (x_up_k _ _ _ (by decide)) e_wn))))⟩, (fun kk hkk => by rw [show M111 64 kk = M 64 kk from (Eq.trans (k112 64 kk (by unfold WRA; omega)) (Eq.trans (congrFun (x_up_n _ _ _ (by omega)) _) (Eq.trans (congrFun (x_up_n _ _ _ (by omega)) _) (Eq.trans (congrFun (x_up_n _ _ _ (by omega)) _) rfl)))), show M111 65 kk = M 65 kk from (Eq.trans (k112 65 kk (by unfold WRA; omega)) (Eq.trans (congrFun (x_up_n _ _ _ (by omega)) _) (Eq.trans (congrFun (x_up_n _ _ _ (by omega)) _) (Eq.trans (congrFun (x_up_n _ _ _ (by omega)) _) rfl)))), show M111 66 kk = M 66 kk from (Eq.trans (k112 66 kk (by unfold WRA; omega)) (Eq.trans (congrFun (x_up_n _ _ _ (by omega)) _) (Eq.trans (congrFun (x_up_n _ _ _ (by omega)) _) (Eq.trans (congrFun (x_up_n _ _ _ (by omega)) _) rfl))))]; exact hch kk hkk), ⟨n, by omega, (Eq.trans (k112 62 11 (by decide)) (Eq.trans (x_up_k _ _ _ (by decide)) (Eq.trans (x_up_k _ _ _ (by decide)) (Eq.trans (x_up_k _ _ _ (by decide)) e_n))))⟩, (by rw [show M111 62 13 = M 62 13 from (Eq.trans (k112 62 13 (by unfold WRA; omega)) (Eq.trans (x_up_k _ _ _ (by omega)) (Eq.trans (x_up_k _ _ _ (by omega)) (Eq.trans (x_up_k _ _ _ (by omega)) rfl))))]; exact htx), ⟨b, by omega, (Eq.trans (k112 62 36 (by decide)) (Eq.trans (x_up_k _ _ _ (by decide)) (Eq.trans (x_up_k _ _ _ (by decide)) (Eq.trans (x_up_k _ _ _ (by decide)) e_b))))⟩, (fun j hj => by obtain ⟨q, hq, eq⟩ := hkd j hj; exact ⟨q, hq, (show M111 81 j = M 81 j from (Eq.trans (k112 81 j (by unfold WRA; omega)) (Eq.trans (congrFun (x_up_n _ _ _ (by omega)) _) (Eq.trans (congrFun (x_up_n _ _ _ (by omega)) _) (Eq.trans (congrFun (x_up_n _ _ _ (by omega)) _) rfl))))).trans eq⟩), ⟨0 + 7, by omega, hx108⟩, (fun j hj => by rw [show M111 83 j = M 83 j from (Eq.trans (k112 83 j (by unfold WRA; omega)) (Eq.trans (congrFun (x_up_n _ _ _ (by omega)) _) (Eq.trans (congrFun (x_up_n _ _ _ (by omega)) _) (Eq.trans (congrFun (x_up_n _ _ _ (by omega)) _) rfl)))), show M111 84 j = M 84 j from (Eq.trans (k112 84 j (by unfold WRA; omega)) (Eq.trans (congrFun (x_up_n _ _ _ (by omega)) _) (Eq.trans (congrFun (x_up_n _ _ _ (by omega)) _) (Eq.trans (congrFun (x_up_n _ _ _ (by omega)) _) rfl))))]; exact hsl j hj), ⟨ic, by omega, (Eq.trans (k112 62 34 (by decide)) (Eq.trans (x_up_k _ _ _ (by decide)) (Eq.trans (x_up_k _ _ _ (by decide)) (Eq.trans (x_up_k _ _ _ (by decide)) e_ic))))⟩, (fun j hj => by obtain ⟨q, hq, eq⟩ := hS j hj; exact ⟨q, hq, (show M111 75 j = M 75 j from (Eq.trans (k112 75 j (by unfold WRA; omega)) (Eq.trans (congrFun (x_up_n _ _ _ (by omega)) _) (Eq.trans (congrFun (x_up_n _ _ _ (by omega)) _) (Eq.trans (congrFun (x_up_n _ _ _ (by omega)) _) rfl))))).trans eq⟩)⟩, (Or.inr ⟨⟨by rw [e_b]; exact c1, by grind, by grind⟩, h_, 3, 3, by omega, by decide, by decide, rfl, eq9, w107, (hx108.trans (congrArg nI (Nat.zero_add _))), (TrA_F ht110)⟩)⟩⟩)
      refine xr_tableOut (tgt := 100) dX10_act_31 (xg_out (lo := 0) (hi := 3) (by decide) (fun j h1 h2 qq => by have h3 : j = 0 ∨ j = 1 ∨ j = 2 ∨ j = 3 := (by omega); rcases h3 with rfl | rfl | rfl | rfl <;> first | exact absurd qq w86 | exact absurd qq w93 | exact absurd qq w100 | exact absurd qq w107)) rfl ?_
      refine xr_iconst (v := 0) dX10_act_100 rfl ?_
      exact xr_iret dX10_act_101 rfl rfl (⟨_, rfl, rfl, rfl, (Ke.up (Or.inr (Or.inr (Or.inl (by omega)))) (Ke.up (Or.inr (Or.inl (by omega))) (Ke.up (Or.inl (by omega)) Ke.rf))), ⟨⟨⟨hn, by omega, (Eq.trans (x_up_k _ _ _ (by decide)) (Eq.trans (x_up_k _ _ _ (by decide)) (Eq.trans (x_up_k _ _ _ (by decide)) e_hn))), (fun kw hkw => by rw [show (x_up (x_up (x_up M 62 39 0) 62 40 3) 62 41 (nI (h_))) 63 (5 + kw) = M 63 (5 + kw) from (Eq.trans (congrFun (x_up_n _ _ _ (by omega)) _) (Eq.trans (congrFun (x_up_n _ _ _ (by omega)) _) (Eq.trans (congrFun (x_up_n _ _ _ (by omega)) _) rfl)))]; exact hw kw hkw)⟩, (by rw [show (x_up (x_up (x_up M 62 39 0) 62 40 3) 62 41 (nI (h_))) 63 16 = M 63 16 from (Eq.trans (congrFun (x_up_n _ _ _ (by omega)) _) (Eq.trans (congrFun (x_up_n _ _ _ (by omega)) _) (Eq.trans (congrFun (x_up_n _ _ _ (by omega)) _) rfl)))]; exact hbt), ⟨un, wn, by omega, by omega, (Eq.trans (x_up_k _ _ _ (by decide)) (Eq.trans (x_up_k _ _ _ (by decide)) (Eq.trans (x_up_k _ _ _ (by decide)) e_un))), (Eq.trans (x_up_k _ _ _ (by decide)) (Eq.trans (x_up_k _ _ _ (by decide)) (Eq.trans (x_up_k _ _ _ (by decide)) e_wn)))⟩, (fun kk hkk => by rw [show (x_up (x_up (x_up M 62 39 0) 62 40 3) 62 41 (nI (h_))) 64 kk = M 64 kk from (Eq.trans (congrFun (x_up_n _ _ _ (by omega)) _) (Eq.trans (congrFun (x_up_n _ _ _ (by omega)) _) (Eq.trans (congrFun (x_up_n _ _ _ (by omega)) _) rfl))), show (x_up (x_up (x_up M 62 39 0) 62 40 3) 62 41 (nI (h_))) 65 kk = M 65 kk from (Eq.trans (congrFun (x_up_n _ _ _ (by omega)) _) (Eq.trans (congrFun (x_up_n _ _ _ (by omega)) _) (Eq.trans (congrFun (x_up_n _ _ _ (by omega)) _) rfl))), show (x_up (x_up (x_up M 62 39 0) 62 40 3) 62 41 (nI (h_))) 66 kk = M 66 kk from (Eq.trans (congrFun (x_up_n _ _ _ (by omega)) _) (Eq.trans (congrFun (x_up_n _ _ _ (by omega)) _) (Eq.trans (congrFun (x_up_n _ _ _ (by omega)) _) rfl)))]; exact hch kk hkk), ⟨n, by omega, (Eq.trans (x_up_k _ _ _ (by decide)) (Eq.trans (x_up_k _ _ _ (by decide)) (Eq.trans (x_up_k _ _ _ (by decide)) e_n)))⟩, (by rw [show (x_up (x_up (x_up M 62 39 0) 62 40 3) 62 41 (nI (h_))) 62 13 = M 62 13 from (Eq.trans (x_up_k _ _ _ (by omega)) (Eq.trans (x_up_k _ _ _ (by omega)) (Eq.trans (x_up_k _ _ _ (by omega)) rfl)))]; exact htx), ⟨b, by omega, (Eq.trans (x_up_k _ _ _ (by decide)) (Eq.trans (x_up_k _ _ _ (by decide)) (Eq.trans (x_up_k _ _ _ (by decide)) e_b)))⟩, (fun j hj => by obtain ⟨q, hq, eq⟩ := hkd j hj; exact ⟨q, hq, (show (x_up (x_up (x_up M 62 39 0) 62 40 3) 62 41 (nI (h_))) 81 j = M 81 j from (Eq.trans (congrFun (x_up_n _ _ _ (by omega)) _) (Eq.trans (congrFun (x_up_n _ _ _ (by omega)) _) (Eq.trans (congrFun (x_up_n _ _ _ (by omega)) _) rfl)))).trans eq⟩), ⟨0, by omega, (Eq.trans (x_up_k _ _ _ (by decide)) (Eq.trans (x_up_k _ _ _ (by decide)) (x_up_s _ _ _ _)))⟩, (fun j hj => by rw [show (x_up (x_up (x_up M 62 39 0) 62 40 3) 62 41 (nI (h_))) 83 j = M 83 j from (Eq.trans (congrFun (x_up_n _ _ _ (by omega)) _) (Eq.trans (congrFun (x_up_n _ _ _ (by omega)) _) (Eq.trans (congrFun (x_up_n _ _ _ (by omega)) _) rfl))), show (x_up (x_up (x_up M 62 39 0) 62 40 3) 62 41 (nI (h_))) 84 j = M 84 j from (Eq.trans (congrFun (x_up_n _ _ _ (by omega)) _) (Eq.trans (congrFun (x_up_n _ _ _ (by omega)) _) (Eq.trans (congrFun (x_up_n _ _ _ (by omega)) _) rfl)))]; exact hsl j hj), ⟨ic, by omega, (Eq.trans (x_up_k _ _ _ (by decide)) (Eq.trans (x_up_k _ _ _ (by decide)) (Eq.trans (x_up_k _ _ _ (by decide)) e_ic)))⟩, (fun j hj => by obtain ⟨q, hq, eq⟩ := hS j hj; exact ⟨q, hq, (show (x_up (x_up (x_up M 62 39 0) 62 40 3) 62 41 (nI (h_))) 75 j = M 75 j from (Eq.trans (congrFun (x_up_n _ _ _ (by omega)) _) (Eq.trans (congrFun (x_up_n _ _ _ (by omega)) _) (Eq.trans (congrFun (x_up_n _ _ _ (by omega)) _) rfl)))).trans eq⟩)⟩, (Or.inl ⟨(fun q => absurd q.2 (by grind)), (Eq.trans (x_up_k _ _ _ (by decide)) (Eq.trans (x_up_k _ _ _ (by decide)) (x_up_s _ _ _ _)))⟩)⟩⟩)
    · refine xr_aload_n dX10_act_15 0 rfl ?_
      refine xr_aload_n dX10_act_16 0 rfl ?_
      refine xr_getR flX10_69 dX10_act_17 s_62 rfl ?_
      refine xr_iload_n dX10_act_20 1 rfl ?_
      refine xb_iald (j := h_) (v := 4) dX10_act_21 s_81 (by omega) (by decide) (Eq.trans (congrFun (x_up_n _ _ _ (by decide)) _) eq9) ?_
      refine xr_putI fpX10_352 dX10_act_22 s_62 rfl rfl rfl ?_
      refine xr_aload_n dX10_act_25 0 rfl ?_
      refine xr_iload_n dX10_act_26 1 rfl ?_
      refine xr_putI fpX10_346 dX10_act_27 s_62 rfl rfl rfl ?_
      refine xr_iload_n dX10_act_30 2 rfl ?_
      refine xg_eq 0 (fun w114 => ?_) (fun w114 => ?_)
      · refine xr_tableIn (tgt := 60) dX10_act_31 (by decide) (by decide) rfl rfl ?_
        refine xr_aload_n dX10_act_60 0 rfl ?_
        refine xr_aload_n dX10_act_61 0 rfl ?_
        refine xb_get (v := 4) flX10_352 dX10_act_62 s_62 rfl (Eq.trans (x_up_k _ _ _ (by decide)) (x_up_s _ _ _ _)) ?_
        refine xr_iload_n dX10_act_65 3 rfl ?_
        refine xr_callV (As := [.int (4), .int (x)]) (rest := []) mlX10_343 (rv4_pushesAs_4 (ac := h_) (ra := 0) x (by omega) (Eq.trans (x_up_k _ _ _ (by decide)) (Eq.trans (x_up_k _ _ _ (by decide)) (x_up_s _ _ _ _))) (Eq.trans (x_up_k _ _ _ (by decide)) (x_up_s _ _ _ _)) (x_up_s _ _ _ _)) dX10_act_66 s_62 rfl rfl (Nat.le_of_ble_eq_true rfl) (by decide) ⟨by decide, by decide⟩ (fun v s2 M118 J2 hq => ?_)
        obtain ⟨r120, rfl, rfl, rfl, k119, ⟨hr116, hx115, ht117⟩⟩ := hq
        try dsimp only [Option.toList, List.cons_append, List.nil_append]
        exact xr_iret dX10_act_69 rfl rfl (⟨_, rfl, rfl, rfl, (Ke.tr (fun pp kk => (fun hh => Or.elim hh (fun h => (Or.inl h)) (fun h => (Or.inr (Or.inr (Or.inr h)))))) (Ke.up (Or.inr (Or.inr (Or.inl (by omega)))) (Ke.up (Or.inr (Or.inl (by omega))) (Ke.up (Or.inl (by omega)) Ke.rf))) k119), ⟨⟨⟨hn, by omega, (Eq.trans (k119 62 6 (by decide)) (Eq.trans (x_up_k _ _ _ (by decide)) (Eq.trans (x_up_k _ _ _ (by decide)) (Eq.trans (x_up_k _ _ _ (by decide)) e_hn)))), (fun kw hkw => by rw [show M118 63 (5 + kw) = M 63 (5 + kw) from (Eq.trans (k119 63 (5 + kw) (by unfold WRA; omega)) (Eq.trans (congrFun (x_up_n _ _ _ (by omega)) _) (Eq.trans (congrFun (x_up_n _ _ _ (by omega)) _) (Eq.trans (congrFun (x_up_n _ _ _ (by omega)) _) rfl))))]; exact hw kw hkw)⟩, (by rw [show M118 63 16 = M 63 16 from (Eq.trans (k119 63 16 (by unfold WRA; omega)) (Eq.trans (congrFun (x_up_n _ _ _ (by omega)) _) (Eq.trans (congrFun (x_up_n _ _ _ (by omega)) _) (Eq.trans (congrFun (x_up_n _ _ _ (by omega)) _) rfl))))]; exact hbt), ⟨un, wn, by omega, by omega, (Eq.trans (k119 62 5 (by decide)) (Eq.trans (x_up_k _ _ _ (by decide)) (Eq.trans (x_up_k _ _ _ (by decide)) (Eq.trans (x_up_k _ _ _ (by decide)) e_un)))), (Eq.trans (k119 62 4 (by decide)) (Eq.trans (x_up_k _ _ _ (by decide)) (Eq.trans (x_up_k _ _ _ (by decide)) (Eq.trans (x_up_k _ _ _ (by decide)) e_wn))))⟩, (fun kk hkk => by rw [show M118 64 kk = M 64 kk from (Eq.trans (k119 64 kk (by unfold WRA; omega)) (Eq.trans (congrFun (x_up_n _ _ _ (by omega)) _) (Eq.trans (congrFun (x_up_n _ _ _ (by omega)) _) (Eq.trans (congrFun (x_up_n _ _ _ (by omega)) _) rfl)))), show M118 65 kk = M 65 kk from (Eq.trans (k119 65 kk (by unfold WRA; omega)) (Eq.trans (congrFun (x_up_n _ _ _ (by omega)) _) (Eq.trans (congrFun (x_up_n _ _ _ (by omega)) _) (Eq.trans (congrFun (x_up_n _ _ _ (by omega)) _) rfl)))), show M118 66 kk = M 66 kk from (Eq.trans (k119 66 kk (by unfold WRA; omega)) (Eq.trans (congrFun (x_up_n _ _ _ (by omega)) _) (Eq.trans (congrFun (x_up_n _ _ _ (by omega)) _) (Eq.trans (congrFun (x_up_n _ _ _ (by omega)) _) rfl))))]; exact hch kk hkk), ⟨n, by omega, (Eq.trans (k119 62 11 (by decide)) (Eq.trans (x_up_k _ _ _ (by decide)) (Eq.trans (x_up_k _ _ _ (by decide)) (Eq.trans (x_up_k _ _ _ (by decide)) e_n))))⟩, (by rw [show M118 62 13 = M 62 13 from (Eq.trans (k119 62 13 (by unfold WRA; omega)) (Eq.trans (x_up_k _ _ _ (by omega)) (Eq.trans (x_up_k _ _ _ (by omega)) (Eq.trans (x_up_k _ _ _ (by omega)) rfl))))]; exact htx), ⟨b, by omega, (Eq.trans (k119 62 36 (by decide)) (Eq.trans (x_up_k _ _ _ (by decide)) (Eq.trans (x_up_k _ _ _ (by decide)) (Eq.trans (x_up_k _ _ _ (by decide)) e_b))))⟩, (fun j hj => by obtain ⟨q, hq, eq⟩ := hkd j hj; exact ⟨q, hq, (show M118 81 j = M 81 j from (Eq.trans (k119 81 j (by unfold WRA; omega)) (Eq.trans (congrFun (x_up_n _ _ _ (by omega)) _) (Eq.trans (congrFun (x_up_n _ _ _ (by omega)) _) (Eq.trans (congrFun (x_up_n _ _ _ (by omega)) _) rfl))))).trans eq⟩), ⟨0 + 2, by omega, hx115⟩, (fun j hj => by rw [show M118 83 j = M 83 j from (Eq.trans (k119 83 j (by unfold WRA; omega)) (Eq.trans (congrFun (x_up_n _ _ _ (by omega)) _) (Eq.trans (congrFun (x_up_n _ _ _ (by omega)) _) (Eq.trans (congrFun (x_up_n _ _ _ (by omega)) _) rfl)))), show M118 84 j = M 84 j from (Eq.trans (k119 84 j (by unfold WRA; omega)) (Eq.trans (congrFun (x_up_n _ _ _ (by omega)) _) (Eq.trans (congrFun (x_up_n _ _ _ (by omega)) _) (Eq.trans (congrFun (x_up_n _ _ _ (by omega)) _) rfl))))]; exact hsl j hj), ⟨ic, by omega, (Eq.trans (k119 62 34 (by decide)) (Eq.trans (x_up_k _ _ _ (by decide)) (Eq.trans (x_up_k _ _ _ (by decide)) (Eq.trans (x_up_k _ _ _ (by decide)) e_ic))))⟩, (fun j hj => by obtain ⟨q, hq, eq⟩ := hS j hj; exact ⟨q, hq, (show M118 75 j = M 75 j from (Eq.trans (k119 75 j (by unfold WRA; omega)) (Eq.trans (congrFun (x_up_n _ _ _ (by omega)) _) (Eq.trans (congrFun (x_up_n _ _ _ (by omega)) _) (Eq.trans (congrFun (x_up_n _ _ _ (by omega)) _) rfl))))).trans eq⟩)⟩, (Or.inr ⟨⟨by rw [e_b]; exact c1, by grind, by grind⟩, h_, 4, 0, by omega, by decide, by decide, rfl, eq9, w114, (hx115.trans (congrArg nI (Nat.zero_add _))), (TrA_F ht117)⟩)⟩⟩)
      refine xg_eq 1 (fun w121 => ?_) (fun w121 => ?_)
      · refine xr_tableIn (tgt := 70) dX10_act_31 (by decide) (by decide) rfl rfl ?_
        refine xr_aload_n dX10_act_70 0 rfl ?_
        refine xr_aload_n dX10_act_71 0 rfl ?_
        refine xb_get (v := 4) flX10_352 dX10_act_72 s_62 rfl (Eq.trans (x_up_k _ _ _ (by decide)) (x_up_s _ _ _ _)) ?_
        refine xr_iload_n dX10_act_75 3 rfl ?_
        refine xr_callV (As := [.int (4), .int (x)]) (rest := []) mlX10_349 (rv4_turnsAs_4 (ac := h_) (ra := 0) x (by omega) (Eq.trans (x_up_k _ _ _ (by decide)) (Eq.trans (x_up_k _ _ _ (by decide)) (x_up_s _ _ _ _))) (Eq.trans (x_up_k _ _ _ (by decide)) (x_up_s _ _ _ _)) (x_up_s _ _ _ _)) dX10_act_76 s_62 rfl rfl (Nat.le_of_ble_eq_true rfl) (by decide) ⟨by decide, by decide⟩ (fun v s2 M125 J2 hq => ?_)
        obtain ⟨r127, rfl, rfl, rfl, k126, ⟨hr123, hx122, ht124⟩⟩ := hq
        try dsimp only [Option.toList, List.cons_append, List.nil_append]
        exact xr_iret dX10_act_79 rfl rfl (⟨_, rfl, rfl, rfl, (Ke.tr (fun pp kk => (fun hh => Or.elim hh (fun h => (Or.inl h)) (fun h => (Or.inr (Or.inr (Or.inr h)))))) (Ke.up (Or.inr (Or.inr (Or.inl (by omega)))) (Ke.up (Or.inr (Or.inl (by omega))) (Ke.up (Or.inl (by omega)) Ke.rf))) k126), ⟨⟨⟨hn, by omega, (Eq.trans (k126 62 6 (by decide)) (Eq.trans (x_up_k _ _ _ (by decide)) (Eq.trans (x_up_k _ _ _ (by decide)) (Eq.trans (x_up_k _ _ _ (by decide)) e_hn)))), (fun kw hkw => by rw [show M125 63 (5 + kw) = M 63 (5 + kw) from (Eq.trans (k126 63 (5 + kw) (by unfold WRA; omega)) (Eq.trans (congrFun (x_up_n _ _ _ (by omega)) _) (Eq.trans (congrFun (x_up_n _ _ _ (by omega)) _) (Eq.trans (congrFun (x_up_n _ _ _ (by omega)) _) rfl))))]; exact hw kw hkw)⟩, (by rw [show M125 63 16 = M 63 16 from (Eq.trans (k126 63 16 (by unfold WRA; omega)) (Eq.trans (congrFun (x_up_n _ _ _ (by omega)) _) (Eq.trans (congrFun (x_up_n _ _ _ (by omega)) _) (Eq.trans (congrFun (x_up_n _ _ _ (by omega)) _) rfl))))]; exact hbt), ⟨un, wn, by omega, by omega, (Eq.trans (k126 62 5 (by decide)) (Eq.trans (x_up_k _ _ _ (by decide)) (Eq.trans (x_up_k _ _ _ (by decide)) (Eq.trans (x_up_k _ _ _ (by decide)) e_un)))), (Eq.trans (k126 62 4 (by decide)) (Eq.trans (x_up_k _ _ _ (by decide)) (Eq.trans (x_up_k _ _ _ (by decide)) (Eq.trans (x_up_k _ _ _ (by decide)) e_wn))))⟩, (fun kk hkk => by rw [show M125 64 kk = M 64 kk from (Eq.trans (k126 64 kk (by unfold WRA; omega)) (Eq.trans (congrFun (x_up_n _ _ _ (by omega)) _) (Eq.trans (congrFun (x_up_n _ _ _ (by omega)) _) (Eq.trans (congrFun (x_up_n _ _ _ (by omega)) _) rfl)))), show M125 65 kk = M 65 kk from (Eq.trans (k126 65 kk (by unfold WRA; omega)) (Eq.trans (congrFun (x_up_n _ _ _ (by omega)) _) (Eq.trans (congrFun (x_up_n _ _ _ (by omega)) _) (Eq.trans (congrFun (x_up_n _ _ _ (by omega)) _) rfl)))), show M125 66 kk = M 66 kk from (Eq.trans (k126 66 kk (by unfold WRA; omega)) (Eq.trans (congrFun (x_up_n _ _ _ (by omega)) _) (Eq.trans (congrFun (x_up_n _ _ _ (by omega)) _) (Eq.trans (congrFun (x_up_n _ _ _ (by omega)) _) rfl))))]; exact hch kk hkk), ⟨n, by omega, (Eq.trans (k126 62 11 (by decide)) (Eq.trans (x_up_k _ _ _ (by decide)) (Eq.trans (x_up_k _ _ _ (by decide)) (Eq.trans (x_up_k _ _ _ (by decide)) e_n))))⟩, (by rw [show M125 62 13 = M 62 13 from (Eq.trans (k126 62 13 (by unfold WRA; omega)) (Eq.trans (x_up_k _ _ _ (by omega)) (Eq.trans (x_up_k _ _ _ (by omega)) (Eq.trans (x_up_k _ _ _ (by omega)) rfl))))]; exact htx), ⟨b, by omega, (Eq.trans (k126 62 36 (by decide)) (Eq.trans (x_up_k _ _ _ (by decide)) (Eq.trans (x_up_k _ _ _ (by decide)) (Eq.trans (x_up_k _ _ _ (by decide)) e_b))))⟩, (fun j hj => by obtain ⟨q, hq, eq⟩ := hkd j hj; exact ⟨q, hq, (show M125 81 j = M 81 j from (Eq.trans (k126 81 j (by unfold WRA; omega)) (Eq.trans (congrFun (x_up_n _ _ _ (by omega)) _) (Eq.trans (congrFun (x_up_n _ _ _ (by omega)) _) (Eq.trans (congrFun (x_up_n _ _ _ (by omega)) _) rfl))))).trans eq⟩), ⟨0 + 3, by omega, hx122⟩, (fun j hj => by rw [show M125 83 j = M 83 j from (Eq.trans (k126 83 j (by unfold WRA; omega)) (Eq.trans (congrFun (x_up_n _ _ _ (by omega)) _) (Eq.trans (congrFun (x_up_n _ _ _ (by omega)) _) (Eq.trans (congrFun (x_up_n _ _ _ (by omega)) _) rfl)))), show M125 84 j = M 84 j from (Eq.trans (k126 84 j (by unfold WRA; omega)) (Eq.trans (congrFun (x_up_n _ _ _ (by omega)) _) (Eq.trans (congrFun (x_up_n _ _ _ (by omega)) _) (Eq.trans (congrFun (x_up_n _ _ _ (by omega)) _) rfl))))]; exact hsl j hj), ⟨ic, by omega, (Eq.trans (k126 62 34 (by decide)) (Eq.trans (x_up_k _ _ _ (by decide)) (Eq.trans (x_up_k _ _ _ (by decide)) (Eq.trans (x_up_k _ _ _ (by decide)) e_ic))))⟩, (fun j hj => by obtain ⟨q, hq, eq⟩ := hS j hj; exact ⟨q, hq, (show M125 75 j = M 75 j from (Eq.trans (k126 75 j (by unfold WRA; omega)) (Eq.trans (congrFun (x_up_n _ _ _ (by omega)) _) (Eq.trans (congrFun (x_up_n _ _ _ (by omega)) _) (Eq.trans (congrFun (x_up_n _ _ _ (by omega)) _) rfl))))).trans eq⟩)⟩, (Or.inr ⟨⟨by rw [e_b]; exact c1, by grind, by grind⟩, h_, 4, 1, by omega, by decide, by decide, rfl, eq9, w121, (hx122.trans (congrArg nI (Nat.zero_add _))), (TrA_F ht124)⟩)⟩⟩)
      refine xg_eq 2 (fun w128 => ?_) (fun w128 => ?_)
      · refine xr_tableIn (tgt := 80) dX10_act_31 (by decide) (by decide) rfl rfl ?_
        refine xr_aload_n dX10_act_80 0 rfl ?_
        refine xr_aload_n dX10_act_81 0 rfl ?_
        refine xb_get (v := 4) flX10_352 dX10_act_82 s_62 rfl (Eq.trans (x_up_k _ _ _ (by decide)) (x_up_s _ _ _ _)) ?_
        refine xr_iload_n dX10_act_85 3 rfl ?_
        refine xr_callV (As := [.int (4), .int (x)]) (rest := []) mlX10_355 (rv4_sinksAs_4 (ac := h_) (ra := 0) x (by omega) (Eq.trans (x_up_k _ _ _ (by decide)) (Eq.trans (x_up_k _ _ _ (by decide)) (x_up_s _ _ _ _))) (Eq.trans (x_up_k _ _ _ (by decide)) (x_up_s _ _ _ _)) (x_up_s _ _ _ _)) dX10_act_86 s_62 rfl rfl (Nat.le_of_ble_eq_true rfl) (by decide) ⟨by decide, by decide⟩ (fun v s2 M132 J2 hq => ?_)
        obtain ⟨r134, rfl, rfl, rfl, k133, ⟨hr130, hx129, ht131⟩⟩ := hq
        try dsimp only [Option.toList, List.cons_append, List.nil_append]
        exact xr_iret dX10_act_89 rfl rfl (⟨_, rfl, rfl, rfl, (Ke.tr (fun pp kk => (fun hh => Or.elim hh (fun h => (Or.inl h)) (fun h => (Or.inr (Or.inr (Or.inr h)))))) (Ke.up (Or.inr (Or.inr (Or.inl (by omega)))) (Ke.up (Or.inr (Or.inl (by omega))) (Ke.up (Or.inl (by omega)) Ke.rf))) k133), ⟨⟨⟨hn, by omega, (Eq.trans (k133 62 6 (by decide)) (Eq.trans (x_up_k _ _ _ (by decide)) (Eq.trans (x_up_k _ _ _ (by decide)) (Eq.trans (x_up_k _ _ _ (by decide)) e_hn)))), (fun kw hkw => by rw [show M132 63 (5 + kw) = M 63 (5 + kw) from (Eq.trans (k133 63 (5 + kw) (by unfold WRA; omega)) (Eq.trans (congrFun (x_up_n _ _ _ (by omega)) _) (Eq.trans (congrFun (x_up_n _ _ _ (by omega)) _) (Eq.trans (congrFun (x_up_n _ _ _ (by omega)) _) rfl))))]; exact hw kw hkw)⟩, (by rw [show M132 63 16 = M 63 16 from (Eq.trans (k133 63 16 (by unfold WRA; omega)) (Eq.trans (congrFun (x_up_n _ _ _ (by omega)) _) (Eq.trans (congrFun (x_up_n _ _ _ (by omega)) _) (Eq.trans (congrFun (x_up_n _ _ _ (by omega)) _) rfl))))]; exact hbt), ⟨un, wn, by omega, by omega, (Eq.trans (k133 62 5 (by decide)) (Eq.trans (x_up_k _ _ _ (by decide)) (Eq.trans (x_up_k _ _ _ (by decide)) (Eq.trans (x_up_k _ _ _ (by decide)) e_un)))), (Eq.trans (k133 62 4 (by decide)) (Eq.trans (x_up_k _ _ _ (by decide)) (Eq.trans (x_up_k _ _ _ (by decide)) (Eq.trans (x_up_k _ _ _ (by decide)) e_wn))))⟩, (fun kk hkk => by rw [show M132 64 kk = M 64 kk from (Eq.trans (k133 64 kk (by unfold WRA; omega)) (Eq.trans (congrFun (x_up_n _ _ _ (by omega)) _) (Eq.trans (congrFun (x_up_n _ _ _ (by omega)) _) (Eq.trans (congrFun (x_up_n _ _ _ (by omega)) _) rfl)))), show M132 65 kk = M 65 kk from (Eq.trans (k133 65 kk (by unfold WRA; omega)) (Eq.trans (congrFun (x_up_n _ _ _ (by omega)) _) (Eq.trans (congrFun (x_up_n _ _ _ (by omega)) _) (Eq.trans (congrFun (x_up_n _ _ _ (by omega)) _) rfl)))), show M132 66 kk = M 66 kk from (Eq.trans (k133 66 kk (by unfold WRA; omega)) (Eq.trans (congrFun (x_up_n _ _ _ (by omega)) _) (Eq.trans (congrFun (x_up_n _ _ _ (by omega)) _) (Eq.trans (congrFun (x_up_n _ _ _ (by omega)) _) rfl))))]; exact hch kk hkk), ⟨n, by omega, (Eq.trans (k133 62 11 (by decide)) (Eq.trans (x_up_k _ _ _ (by decide)) (Eq.trans (x_up_k _ _ _ (by decide)) (Eq.trans (x_up_k _ _ _ (by decide)) e_n))))⟩, (by rw [show M132 62 13 = M 62 13 from (Eq.trans (k133 62 13 (by unfold WRA; omega)) (Eq.trans (x_up_k _ _ _ (by omega)) (Eq.trans (x_up_k _ _ _ (by omega)) (Eq.trans (x_up_k _ _ _ (by omega)) rfl))))]; exact htx), ⟨b, by omega, (Eq.trans (k133 62 36 (by decide)) (Eq.trans (x_up_k _ _ _ (by decide)) (Eq.trans (x_up_k _ _ _ (by decide)) (Eq.trans (x_up_k _ _ _ (by decide)) e_b))))⟩, (fun j hj => by obtain ⟨q, hq, eq⟩ := hkd j hj; exact ⟨q, hq, (show M132 81 j = M 81 j from (Eq.trans (k133 81 j (by unfold WRA; omega)) (Eq.trans (congrFun (x_up_n _ _ _ (by omega)) _) (Eq.trans (congrFun (x_up_n _ _ _ (by omega)) _) (Eq.trans (congrFun (x_up_n _ _ _ (by omega)) _) rfl))))).trans eq⟩), ⟨0 + 4, by omega, hx129⟩, (fun j hj => by rw [show M132 83 j = M 83 j from (Eq.trans (k133 83 j (by unfold WRA; omega)) (Eq.trans (congrFun (x_up_n _ _ _ (by omega)) _) (Eq.trans (congrFun (x_up_n _ _ _ (by omega)) _) (Eq.trans (congrFun (x_up_n _ _ _ (by omega)) _) rfl)))), show M132 84 j = M 84 j from (Eq.trans (k133 84 j (by unfold WRA; omega)) (Eq.trans (congrFun (x_up_n _ _ _ (by omega)) _) (Eq.trans (congrFun (x_up_n _ _ _ (by omega)) _) (Eq.trans (congrFun (x_up_n _ _ _ (by omega)) _) rfl))))]; exact hsl j hj), ⟨ic, by omega, (Eq.trans (k133 62 34 (by decide)) (Eq.trans (x_up_k _ _ _ (by decide)) (Eq.trans (x_up_k _ _ _ (by decide)) (Eq.trans (x_up_k _ _ _ (by decide)) e_ic))))⟩, (fun j hj => by obtain ⟨q, hq, eq⟩ := hS j hj; exact ⟨q, hq, (show M132 75 j = M 75 j from (Eq.trans (k133 75 j (by unfold WRA; omega)) (Eq.trans (congrFun (x_up_n _ _ _ (by omega)) _) (Eq.trans (congrFun (x_up_n _ _ _ (by omega)) _) (Eq.trans (congrFun (x_up_n _ _ _ (by omega)) _) rfl))))).trans eq⟩)⟩, (Or.inr ⟨⟨by rw [e_b]; exact c1, by grind, by grind⟩, h_, 4, 2, by omega, by decide, by decide, rfl, eq9, w128, (hx129.trans (congrArg nI (Nat.zero_add _))), (TrA_F ht131)⟩)⟩⟩)
      refine xg_eq 3 (fun w135 => ?_) (fun w135 => ?_)
      · refine xr_tableIn (tgt := 90) dX10_act_31 (by decide) (by decide) rfl rfl ?_
        refine xr_aload_n dX10_act_90 0 rfl ?_
        refine xr_aload_n dX10_act_91 0 rfl ?_
        refine xb_get (v := 4) flX10_352 dX10_act_92 s_62 rfl (Eq.trans (x_up_k _ _ _ (by decide)) (x_up_s _ _ _ _)) ?_
        refine xr_iload_n dX10_act_95 3 rfl ?_
        refine xr_callV (As := [.int (4), .int (x)]) (rest := []) mlX10_358 (rv4_tellsAs_4 (ac := h_) (ra := 0) x (by omega) (Eq.trans (x_up_k _ _ _ (by decide)) (Eq.trans (x_up_k _ _ _ (by decide)) (x_up_s _ _ _ _))) (Eq.trans (x_up_k _ _ _ (by decide)) (x_up_s _ _ _ _)) (x_up_s _ _ _ _)) dX10_act_96 s_62 rfl rfl (Nat.le_of_ble_eq_true rfl) (by decide) ⟨by decide, by decide⟩ (fun v s2 M139 J2 hq => ?_)
        obtain ⟨r141, rfl, rfl, rfl, k140, ⟨hr137, hx136, ht138⟩⟩ := hq
        try dsimp only [Option.toList, List.cons_append, List.nil_append]
        exact xr_iret dX10_act_99 rfl rfl (⟨_, rfl, rfl, rfl, (Ke.tr (fun pp kk => (fun hh => Or.elim hh (fun h => (Or.inl h)) (fun h => (Or.inr (Or.inr (Or.inr h)))))) (Ke.up (Or.inr (Or.inr (Or.inl (by omega)))) (Ke.up (Or.inr (Or.inl (by omega))) (Ke.up (Or.inl (by omega)) Ke.rf))) k140), ⟨⟨⟨hn, by omega, (Eq.trans (k140 62 6 (by decide)) (Eq.trans (x_up_k _ _ _ (by decide)) (Eq.trans (x_up_k _ _ _ (by decide)) (Eq.trans (x_up_k _ _ _ (by decide)) e_hn)))), (fun kw hkw => by rw [show M139 63 (5 + kw) = M 63 (5 + kw) from (Eq.trans (k140 63 (5 + kw) (by unfold WRA; omega)) (Eq.trans (congrFun (x_up_n _ _ _ (by omega)) _) (Eq.trans (congrFun (x_up_n _ _ _ (by omega)) _) (Eq.trans (congrFun (x_up_n _ _ _ (by omega)) _) rfl))))]; exact hw kw hkw)⟩, (by rw [show M139 63 16 = M 63 16 from (Eq.trans (k140 63 16 (by unfold WRA; omega)) (Eq.trans (congrFun (x_up_n _ _ _ (by omega)) _) (Eq.trans (congrFun (x_up_n _ _ _ (by omega)) _) (Eq.trans (congrFun (x_up_n _ _ _ (by omega)) _) rfl))))]; exact hbt), ⟨un, wn, by omega, by omega, (Eq.trans (k140 62 5 (by decide)) (Eq.trans (x_up_k _ _ _ (by decide)) (Eq.trans (x_up_k _ _ _ (by decide)) (Eq.trans (x_up_k _ _ _ (by decide)) e_un)))), (Eq.trans (k140 62 4 (by decide)) (Eq.trans (x_up_k _ _ _ (by decide)) (Eq.trans (x_up_k _ _ _ (by decide)) (Eq.trans (x_up_k _ _ _ (by decide)) e_wn))))⟩, (fun kk hkk => by rw [show M139 64 kk = M 64 kk from (Eq.trans (k140 64 kk (by unfold WRA; omega)) (Eq.trans (congrFun (x_up_n _ _ _ (by omega)) _) (Eq.trans (congrFun (x_up_n _ _ _ (by omega)) _) (Eq.trans (congrFun (x_up_n _ _ _ (by omega)) _) rfl)))), show M139 65 kk = M 65 kk from (Eq.trans (k140 65 kk (by unfold WRA; omega)) (Eq.trans (congrFun (x_up_n _ _ _ (by omega)) _) (Eq.trans (congrFun (x_up_n _ _ _ (by omega)) _) (Eq.trans (congrFun (x_up_n _ _ _ (by omega)) _) rfl)))), show M139 66 kk = M 66 kk from (Eq.trans (k140 66 kk (by unfold WRA; omega)) (Eq.trans (congrFun (x_up_n _ _ _ (by omega)) _) (Eq.trans (congrFun (x_up_n _ _ _ (by omega)) _) (Eq.trans (congrFun (x_up_n _ _ _ (by omega)) _) rfl))))]; exact hch kk hkk), ⟨n, by omega, (Eq.trans (k140 62 11 (by decide)) (Eq.trans (x_up_k _ _ _ (by decide)) (Eq.trans (x_up_k _ _ _ (by decide)) (Eq.trans (x_up_k _ _ _ (by decide)) e_n))))⟩, (by rw [show M139 62 13 = M 62 13 from (Eq.trans (k140 62 13 (by unfold WRA; omega)) (Eq.trans (x_up_k _ _ _ (by omega)) (Eq.trans (x_up_k _ _ _ (by omega)) (Eq.trans (x_up_k _ _ _ (by omega)) rfl))))]; exact htx), ⟨b, by omega, (Eq.trans (k140 62 36 (by decide)) (Eq.trans (x_up_k _ _ _ (by decide)) (Eq.trans (x_up_k _ _ _ (by decide)) (Eq.trans (x_up_k _ _ _ (by decide)) e_b))))⟩, (fun j hj => by obtain ⟨q, hq, eq⟩ := hkd j hj; exact ⟨q, hq, (show M139 81 j = M 81 j from (Eq.trans (k140 81 j (by unfold WRA; omega)) (Eq.trans (congrFun (x_up_n _ _ _ (by omega)) _) (Eq.trans (congrFun (x_up_n _ _ _ (by omega)) _) (Eq.trans (congrFun (x_up_n _ _ _ (by omega)) _) rfl))))).trans eq⟩), ⟨0 + 8, by omega, hx136⟩, (fun j hj => by rw [show M139 83 j = M 83 j from (Eq.trans (k140 83 j (by unfold WRA; omega)) (Eq.trans (congrFun (x_up_n _ _ _ (by omega)) _) (Eq.trans (congrFun (x_up_n _ _ _ (by omega)) _) (Eq.trans (congrFun (x_up_n _ _ _ (by omega)) _) rfl)))), show M139 84 j = M 84 j from (Eq.trans (k140 84 j (by unfold WRA; omega)) (Eq.trans (congrFun (x_up_n _ _ _ (by omega)) _) (Eq.trans (congrFun (x_up_n _ _ _ (by omega)) _) (Eq.trans (congrFun (x_up_n _ _ _ (by omega)) _) rfl))))]; exact hsl j hj), ⟨ic, by omega, (Eq.trans (k140 62 34 (by decide)) (Eq.trans (x_up_k _ _ _ (by decide)) (Eq.trans (x_up_k _ _ _ (by decide)) (Eq.trans (x_up_k _ _ _ (by decide)) e_ic))))⟩, (fun j hj => by obtain ⟨q, hq, eq⟩ := hS j hj; exact ⟨q, hq, (show M139 75 j = M 75 j from (Eq.trans (k140 75 j (by unfold WRA; omega)) (Eq.trans (congrFun (x_up_n _ _ _ (by omega)) _) (Eq.trans (congrFun (x_up_n _ _ _ (by omega)) _) (Eq.trans (congrFun (x_up_n _ _ _ (by omega)) _) rfl))))).trans eq⟩)⟩, (Or.inr ⟨⟨by rw [e_b]; exact c1, by grind, by grind⟩, h_, 4, 3, by omega, by decide, by decide, rfl, eq9, w135, (hx136.trans (congrArg nI (Nat.zero_add _))), (TrA_F ht138)⟩)⟩⟩)
      refine xr_tableOut (tgt := 100) dX10_act_31 (xg_out (lo := 0) (hi := 3) (by decide) (fun j h1 h2 qq => by have h3 : j = 0 ∨ j = 1 ∨ j = 2 ∨ j = 3 := (by omega); rcases h3 with rfl | rfl | rfl | rfl <;> first | exact absurd qq w114 | exact absurd qq w121 | exact absurd qq w128 | exact absurd qq w135)) rfl ?_
      refine xr_iconst (v := 0) dX10_act_100 rfl ?_
      exact xr_iret dX10_act_101 rfl rfl (⟨_, rfl, rfl, rfl, (Ke.up (Or.inr (Or.inr (Or.inl (by omega)))) (Ke.up (Or.inr (Or.inl (by omega))) (Ke.up (Or.inl (by omega)) Ke.rf))), ⟨⟨⟨hn, by omega, (Eq.trans (x_up_k _ _ _ (by decide)) (Eq.trans (x_up_k _ _ _ (by decide)) (Eq.trans (x_up_k _ _ _ (by decide)) e_hn))), (fun kw hkw => by rw [show (x_up (x_up (x_up M 62 39 0) 62 40 4) 62 41 (nI (h_))) 63 (5 + kw) = M 63 (5 + kw) from (Eq.trans (congrFun (x_up_n _ _ _ (by omega)) _) (Eq.trans (congrFun (x_up_n _ _ _ (by omega)) _) (Eq.trans (congrFun (x_up_n _ _ _ (by omega)) _) rfl)))]; exact hw kw hkw)⟩, (by rw [show (x_up (x_up (x_up M 62 39 0) 62 40 4) 62 41 (nI (h_))) 63 16 = M 63 16 from (Eq.trans (congrFun (x_up_n _ _ _ (by omega)) _) (Eq.trans (congrFun (x_up_n _ _ _ (by omega)) _) (Eq.trans (congrFun (x_up_n _ _ _ (by omega)) _) rfl)))]; exact hbt), ⟨un, wn, by omega, by omega, (Eq.trans (x_up_k _ _ _ (by decide)) (Eq.trans (x_up_k _ _ _ (by decide)) (Eq.trans (x_up_k _ _ _ (by decide)) e_un))), (Eq.trans (x_up_k _ _ _ (by decide)) (Eq.trans (x_up_k _ _ _ (by decide)) (Eq.trans (x_up_k _ _ _ (by decide)) e_wn)))⟩, (fun kk hkk => by rw [show (x_up (x_up (x_up M 62 39 0) 62 40 4) 62 41 (nI (h_))) 64 kk = M 64 kk from (Eq.trans (congrFun (x_up_n _ _ _ (by omega)) _) (Eq.trans (congrFun (x_up_n _ _ _ (by omega)) _) (Eq.trans (congrFun (x_up_n _ _ _ (by omega)) _) rfl))), show (x_up (x_up (x_up M 62 39 0) 62 40 4) 62 41 (nI (h_))) 65 kk = M 65 kk from (Eq.trans (congrFun (x_up_n _ _ _ (by omega)) _) (Eq.trans (congrFun (x_up_n _ _ _ (by omega)) _) (Eq.trans (congrFun (x_up_n _ _ _ (by omega)) _) rfl))), show (x_up (x_up (x_up M 62 39 0) 62 40 4) 62 41 (nI (h_))) 66 kk = M 66 kk from (Eq.trans (congrFun (x_up_n _ _ _ (by omega)) _) (Eq.trans (congrFun (x_up_n _ _ _ (by omega)) _) (Eq.trans (congrFun (x_up_n _ _ _ (by omega)) _) rfl)))]; exact hch kk hkk), ⟨n, by omega, (Eq.trans (x_up_k _ _ _ (by decide)) (Eq.trans (x_up_k _ _ _ (by decide)) (Eq.trans (x_up_k _ _ _ (by decide)) e_n)))⟩, (by rw [show (x_up (x_up (x_up M 62 39 0) 62 40 4) 62 41 (nI (h_))) 62 13 = M 62 13 from (Eq.trans (x_up_k _ _ _ (by omega)) (Eq.trans (x_up_k _ _ _ (by omega)) (Eq.trans (x_up_k _ _ _ (by omega)) rfl)))]; exact htx), ⟨b, by omega, (Eq.trans (x_up_k _ _ _ (by decide)) (Eq.trans (x_up_k _ _ _ (by decide)) (Eq.trans (x_up_k _ _ _ (by decide)) e_b)))⟩, (fun j hj => by obtain ⟨q, hq, eq⟩ := hkd j hj; exact ⟨q, hq, (show (x_up (x_up (x_up M 62 39 0) 62 40 4) 62 41 (nI (h_))) 81 j = M 81 j from (Eq.trans (congrFun (x_up_n _ _ _ (by omega)) _) (Eq.trans (congrFun (x_up_n _ _ _ (by omega)) _) (Eq.trans (congrFun (x_up_n _ _ _ (by omega)) _) rfl)))).trans eq⟩), ⟨0, by omega, (Eq.trans (x_up_k _ _ _ (by decide)) (Eq.trans (x_up_k _ _ _ (by decide)) (x_up_s _ _ _ _)))⟩, (fun j hj => by rw [show (x_up (x_up (x_up M 62 39 0) 62 40 4) 62 41 (nI (h_))) 83 j = M 83 j from (Eq.trans (congrFun (x_up_n _ _ _ (by omega)) _) (Eq.trans (congrFun (x_up_n _ _ _ (by omega)) _) (Eq.trans (congrFun (x_up_n _ _ _ (by omega)) _) rfl))), show (x_up (x_up (x_up M 62 39 0) 62 40 4) 62 41 (nI (h_))) 84 j = M 84 j from (Eq.trans (congrFun (x_up_n _ _ _ (by omega)) _) (Eq.trans (congrFun (x_up_n _ _ _ (by omega)) _) (Eq.trans (congrFun (x_up_n _ _ _ (by omega)) _) rfl)))]; exact hsl j hj), ⟨ic, by omega, (Eq.trans (x_up_k _ _ _ (by decide)) (Eq.trans (x_up_k _ _ _ (by decide)) (Eq.trans (x_up_k _ _ _ (by decide)) e_ic)))⟩, (fun j hj => by obtain ⟨q, hq, eq⟩ := hS j hj; exact ⟨q, hq, (show (x_up (x_up (x_up M 62 39 0) 62 40 4) 62 41 (nI (h_))) 75 j = M 75 j from (Eq.trans (congrFun (x_up_n _ _ _ (by omega)) _) (Eq.trans (congrFun (x_up_n _ _ _ (by omega)) _) (Eq.trans (congrFun (x_up_n _ _ _ (by omega)) _) rfl)))).trans eq⟩)⟩, (Or.inl ⟨(fun q => absurd q.2 (by grind)), (Eq.trans (x_up_k _ _ _ (by decide)) (Eq.trans (x_up_k _ _ _ (by decide)) (x_up_s _ _ _ _)))⟩)⟩⟩)
    · refine xr_aload_n dX10_act_15 0 rfl ?_
      refine xr_aload_n dX10_act_16 0 rfl ?_
      refine xr_getR flX10_69 dX10_act_17 s_62 rfl ?_
      refine xr_iload_n dX10_act_20 1 rfl ?_
      refine xb_iald (j := h_) (v := 5) dX10_act_21 s_81 (by omega) (by decide) (Eq.trans (congrFun (x_up_n _ _ _ (by decide)) _) eq9) ?_
      refine xr_putI fpX10_352 dX10_act_22 s_62 rfl rfl rfl ?_
      refine xr_aload_n dX10_act_25 0 rfl ?_
      refine xr_iload_n dX10_act_26 1 rfl ?_
      refine xr_putI fpX10_346 dX10_act_27 s_62 rfl rfl rfl ?_
      refine xr_iload_n dX10_act_30 2 rfl ?_
      refine xg_eq 0 (fun w142 => ?_) (fun w142 => ?_)
      · refine xr_tableIn (tgt := 60) dX10_act_31 (by decide) (by decide) rfl rfl ?_
        refine xr_aload_n dX10_act_60 0 rfl ?_
        refine xr_aload_n dX10_act_61 0 rfl ?_
        refine xb_get (v := 5) flX10_352 dX10_act_62 s_62 rfl (Eq.trans (x_up_k _ _ _ (by decide)) (x_up_s _ _ _ _)) ?_
        refine xr_iload_n dX10_act_65 3 rfl ?_
        refine xr_callV (As := [.int (5), .int (x)]) (rest := []) mlX10_343 (rv5_pushesAs_5 (ac := h_) (ra := 0) x (by omega) (Eq.trans (x_up_k _ _ _ (by decide)) (Eq.trans (x_up_k _ _ _ (by decide)) (x_up_s _ _ _ _))) (Eq.trans (x_up_k _ _ _ (by decide)) (x_up_s _ _ _ _)) (x_up_s _ _ _ _)) dX10_act_66 s_62 rfl rfl (Nat.le_of_ble_eq_true rfl) (by decide) ⟨by decide, by decide⟩ (fun v s2 M146 J2 hq => ?_)
        obtain ⟨r148, rfl, rfl, rfl, k147, ⟨hr144, hx143, ht145⟩⟩ := hq
        try dsimp only [Option.toList, List.cons_append, List.nil_append]
        exact xr_iret dX10_act_69 rfl rfl (⟨_, rfl, rfl, rfl, (Ke.tr (fun pp kk => (fun hh => Or.elim hh (fun h => (Or.inl h)) (fun h => (Or.inr (Or.inr (Or.inr h)))))) (Ke.up (Or.inr (Or.inr (Or.inl (by omega)))) (Ke.up (Or.inr (Or.inl (by omega))) (Ke.up (Or.inl (by omega)) Ke.rf))) k147), ⟨⟨⟨hn, by omega, (Eq.trans (k147 62 6 (by decide)) (Eq.trans (x_up_k _ _ _ (by decide)) (Eq.trans (x_up_k _ _ _ (by decide)) (Eq.trans (x_up_k _ _ _ (by decide)) e_hn)))), (fun kw hkw => by rw [show M146 63 (5 + kw) = M 63 (5 + kw) from (Eq.trans (k147 63 (5 + kw) (by unfold WRA; omega)) (Eq.trans (congrFun (x_up_n _ _ _ (by omega)) _) (Eq.trans (congrFun (x_up_n _ _ _ (by omega)) _) (Eq.trans (congrFun (x_up_n _ _ _ (by omega)) _) rfl))))]; exact hw kw hkw)⟩, (by rw [show M146 63 16 = M 63 16 from (Eq.trans (k147 63 16 (by unfold WRA; omega)) (Eq.trans (congrFun (x_up_n _ _ _ (by omega)) _) (Eq.trans (congrFun (x_up_n _ _ _ (by omega)) _) (Eq.trans (congrFun (x_up_n _ _ _ (by omega)) _) rfl))))]; exact hbt), ⟨un, wn, by omega, by omega, (Eq.trans (k147 62 5 (by decide)) (Eq.trans (x_up_k _ _ _ (by decide)) (Eq.trans (x_up_k _ _ _ (by decide)) (Eq.trans (x_up_k _ _ _ (by decide)) e_un)))), (Eq.trans (k147 62 4 (by decide)) (Eq.trans (x_up_k _ _ _ (by decide)) (Eq.trans (x_up_k _ _ _ (by decide)) (Eq.trans (x_up_k _ _ _ (by decide)) e_wn))))⟩, (fun kk hkk => by rw [show M146 64 kk = M 64 kk from (Eq.trans (k147 64 kk (by unfold WRA; omega)) (Eq.trans (congrFun (x_up_n _ _ _ (by omega)) _) (Eq.trans (congrFun (x_up_n _ _ _ (by omega)) _) (Eq.trans (congrFun (x_up_n _ _ _ (by omega)) _) rfl)))), show M146 65 kk = M 65 kk from (Eq.trans (k147 65 kk (by unfold WRA; omega)) (Eq.trans (congrFun (x_up_n _ _ _ (by omega)) _) (Eq.trans (congrFun (x_up_n _ _ _ (by omega)) _) (Eq.trans (congrFun (x_up_n _ _ _ (by omega)) _) rfl)))), show M146 66 kk = M 66 kk from (Eq.trans (k147 66 kk (by unfold WRA; omega)) (Eq.trans (congrFun (x_up_n _ _ _ (by omega)) _) (Eq.trans (congrFun (x_up_n _ _ _ (by omega)) _) (Eq.trans (congrFun (x_up_n _ _ _ (by omega)) _) rfl))))]; exact hch kk hkk), ⟨n, by omega, (Eq.trans (k147 62 11 (by decide)) (Eq.trans (x_up_k _ _ _ (by decide)) (Eq.trans (x_up_k _ _ _ (by decide)) (Eq.trans (x_up_k _ _ _ (by decide)) e_n))))⟩, (by rw [show M146 62 13 = M 62 13 from (Eq.trans (k147 62 13 (by unfold WRA; omega)) (Eq.trans (x_up_k _ _ _ (by omega)) (Eq.trans (x_up_k _ _ _ (by omega)) (Eq.trans (x_up_k _ _ _ (by omega)) rfl))))]; exact htx), ⟨b, by omega, (Eq.trans (k147 62 36 (by decide)) (Eq.trans (x_up_k _ _ _ (by decide)) (Eq.trans (x_up_k _ _ _ (by decide)) (Eq.trans (x_up_k _ _ _ (by decide)) e_b))))⟩, (fun j hj => by obtain ⟨q, hq, eq⟩ := hkd j hj; exact ⟨q, hq, (show M146 81 j = M 81 j from (Eq.trans (k147 81 j (by unfold WRA; omega)) (Eq.trans (congrFun (x_up_n _ _ _ (by omega)) _) (Eq.trans (congrFun (x_up_n _ _ _ (by omega)) _) (Eq.trans (congrFun (x_up_n _ _ _ (by omega)) _) rfl))))).trans eq⟩), ⟨0 + 1, by omega, hx143⟩, (fun j hj => by rw [show M146 83 j = M 83 j from (Eq.trans (k147 83 j (by unfold WRA; omega)) (Eq.trans (congrFun (x_up_n _ _ _ (by omega)) _) (Eq.trans (congrFun (x_up_n _ _ _ (by omega)) _) (Eq.trans (congrFun (x_up_n _ _ _ (by omega)) _) rfl)))), show M146 84 j = M 84 j from (Eq.trans (k147 84 j (by unfold WRA; omega)) (Eq.trans (congrFun (x_up_n _ _ _ (by omega)) _) (Eq.trans (congrFun (x_up_n _ _ _ (by omega)) _) (Eq.trans (congrFun (x_up_n _ _ _ (by omega)) _) rfl))))]; exact hsl j hj), ⟨ic, by omega, (Eq.trans (k147 62 34 (by decide)) (Eq.trans (x_up_k _ _ _ (by decide)) (Eq.trans (x_up_k _ _ _ (by decide)) (Eq.trans (x_up_k _ _ _ (by decide)) e_ic))))⟩, (fun j hj => by obtain ⟨q, hq, eq⟩ := hS j hj; exact ⟨q, hq, (show M146 75 j = M 75 j from (Eq.trans (k147 75 j (by unfold WRA; omega)) (Eq.trans (congrFun (x_up_n _ _ _ (by omega)) _) (Eq.trans (congrFun (x_up_n _ _ _ (by omega)) _) (Eq.trans (congrFun (x_up_n _ _ _ (by omega)) _) rfl))))).trans eq⟩)⟩, (Or.inr ⟨⟨by rw [e_b]; exact c1, by grind, by grind⟩, h_, 5, 0, by omega, by decide, by decide, rfl, eq9, w142, (hx143.trans (congrArg nI (Nat.zero_add _))), (TrA_F ht145)⟩)⟩⟩)
      refine xg_eq 1 (fun w149 => ?_) (fun w149 => ?_)
      · refine xr_tableIn (tgt := 70) dX10_act_31 (by decide) (by decide) rfl rfl ?_
        refine xr_aload_n dX10_act_70 0 rfl ?_
        refine xr_aload_n dX10_act_71 0 rfl ?_
        refine xb_get (v := 5) flX10_352 dX10_act_72 s_62 rfl (Eq.trans (x_up_k _ _ _ (by decide)) (x_up_s _ _ _ _)) ?_
        refine xr_iload_n dX10_act_75 3 rfl ?_
        refine xr_callV (As := [.int (5), .int (x)]) (rest := []) mlX10_349 (rv5_turnsAs_5 (ac := h_) (ra := 0) x (by omega) (Eq.trans (x_up_k _ _ _ (by decide)) (Eq.trans (x_up_k _ _ _ (by decide)) (x_up_s _ _ _ _))) (Eq.trans (x_up_k _ _ _ (by decide)) (x_up_s _ _ _ _)) (x_up_s _ _ _ _)) dX10_act_76 s_62 rfl rfl (Nat.le_of_ble_eq_true rfl) (by decide) ⟨by decide, by decide⟩ (fun v s2 M153 J2 hq => ?_)
        obtain ⟨r155, rfl, rfl, rfl, k154, ⟨hr151, hx150, ht152⟩⟩ := hq
        try dsimp only [Option.toList, List.cons_append, List.nil_append]
        exact xr_iret dX10_act_79 rfl rfl (⟨_, rfl, rfl, rfl, (Ke.tr (fun pp kk => (fun hh => Or.elim hh (fun h => (Or.inl h)) (fun h => (Or.inr (Or.inr (Or.inr h)))))) (Ke.up (Or.inr (Or.inr (Or.inl (by omega)))) (Ke.up (Or.inr (Or.inl (by omega))) (Ke.up (Or.inl (by omega)) Ke.rf))) k154), ⟨⟨⟨hn, by omega, (Eq.trans (k154 62 6 (by decide)) (Eq.trans (x_up_k _ _ _ (by decide)) (Eq.trans (x_up_k _ _ _ (by decide)) (Eq.trans (x_up_k _ _ _ (by decide)) e_hn)))), (fun kw hkw => by rw [show M153 63 (5 + kw) = M 63 (5 + kw) from (Eq.trans (k154 63 (5 + kw) (by unfold WRA; omega)) (Eq.trans (congrFun (x_up_n _ _ _ (by omega)) _) (Eq.trans (congrFun (x_up_n _ _ _ (by omega)) _) (Eq.trans (congrFun (x_up_n _ _ _ (by omega)) _) rfl))))]; exact hw kw hkw)⟩, (by rw [show M153 63 16 = M 63 16 from (Eq.trans (k154 63 16 (by unfold WRA; omega)) (Eq.trans (congrFun (x_up_n _ _ _ (by omega)) _) (Eq.trans (congrFun (x_up_n _ _ _ (by omega)) _) (Eq.trans (congrFun (x_up_n _ _ _ (by omega)) _) rfl))))]; exact hbt), ⟨un, wn, by omega, by omega, (Eq.trans (k154 62 5 (by decide)) (Eq.trans (x_up_k _ _ _ (by decide)) (Eq.trans (x_up_k _ _ _ (by decide)) (Eq.trans (x_up_k _ _ _ (by decide)) e_un)))), (Eq.trans (k154 62 4 (by decide)) (Eq.trans (x_up_k _ _ _ (by decide)) (Eq.trans (x_up_k _ _ _ (by decide)) (Eq.trans (x_up_k _ _ _ (by decide)) e_wn))))⟩, (fun kk hkk => by rw [show M153 64 kk = M 64 kk from (Eq.trans (k154 64 kk (by unfold WRA; omega)) (Eq.trans (congrFun (x_up_n _ _ _ (by omega)) _) (Eq.trans (congrFun (x_up_n _ _ _ (by omega)) _) (Eq.trans (congrFun (x_up_n _ _ _ (by omega)) _) rfl)))), show M153 65 kk = M 65 kk from (Eq.trans (k154 65 kk (by unfold WRA; omega)) (Eq.trans (congrFun (x_up_n _ _ _ (by omega)) _) (Eq.trans (congrFun (x_up_n _ _ _ (by omega)) _) (Eq.trans (congrFun (x_up_n _ _ _ (by omega)) _) rfl)))), show M153 66 kk = M 66 kk from (Eq.trans (k154 66 kk (by unfold WRA; omega)) (Eq.trans (congrFun (x_up_n _ _ _ (by omega)) _) (Eq.trans (congrFun (x_up_n _ _ _ (by omega)) _) (Eq.trans (congrFun (x_up_n _ _ _ (by omega)) _) rfl))))]; exact hch kk hkk), ⟨n, by omega, (Eq.trans (k154 62 11 (by decide)) (Eq.trans (x_up_k _ _ _ (by decide)) (Eq.trans (x_up_k _ _ _ (by decide)) (Eq.trans (x_up_k _ _ _ (by decide)) e_n))))⟩, (by rw [show M153 62 13 = M 62 13 from (Eq.trans (k154 62 13 (by unfold WRA; omega)) (Eq.trans (x_up_k _ _ _ (by omega)) (Eq.trans (x_up_k _ _ _ (by omega)) (Eq.trans (x_up_k _ _ _ (by omega)) rfl))))]; exact htx), ⟨b, by omega, (Eq.trans (k154 62 36 (by decide)) (Eq.trans (x_up_k _ _ _ (by decide)) (Eq.trans (x_up_k _ _ _ (by decide)) (Eq.trans (x_up_k _ _ _ (by decide)) e_b))))⟩, (fun j hj => by obtain ⟨q, hq, eq⟩ := hkd j hj; exact ⟨q, hq, (show M153 81 j = M 81 j from (Eq.trans (k154 81 j (by unfold WRA; omega)) (Eq.trans (congrFun (x_up_n _ _ _ (by omega)) _) (Eq.trans (congrFun (x_up_n _ _ _ (by omega)) _) (Eq.trans (congrFun (x_up_n _ _ _ (by omega)) _) rfl))))).trans eq⟩), ⟨0 + 4, by omega, hx150⟩, (fun j hj => by rw [show M153 83 j = M 83 j from (Eq.trans (k154 83 j (by unfold WRA; omega)) (Eq.trans (congrFun (x_up_n _ _ _ (by omega)) _) (Eq.trans (congrFun (x_up_n _ _ _ (by omega)) _) (Eq.trans (congrFun (x_up_n _ _ _ (by omega)) _) rfl)))), show M153 84 j = M 84 j from (Eq.trans (k154 84 j (by unfold WRA; omega)) (Eq.trans (congrFun (x_up_n _ _ _ (by omega)) _) (Eq.trans (congrFun (x_up_n _ _ _ (by omega)) _) (Eq.trans (congrFun (x_up_n _ _ _ (by omega)) _) rfl))))]; exact hsl j hj), ⟨ic, by omega, (Eq.trans (k154 62 34 (by decide)) (Eq.trans (x_up_k _ _ _ (by decide)) (Eq.trans (x_up_k _ _ _ (by decide)) (Eq.trans (x_up_k _ _ _ (by decide)) e_ic))))⟩, (fun j hj => by obtain ⟨q, hq, eq⟩ := hS j hj; exact ⟨q, hq, (show M153 75 j = M 75 j from (Eq.trans (k154 75 j (by unfold WRA; omega)) (Eq.trans (congrFun (x_up_n _ _ _ (by omega)) _) (Eq.trans (congrFun (x_up_n _ _ _ (by omega)) _) (Eq.trans (congrFun (x_up_n _ _ _ (by omega)) _) rfl))))).trans eq⟩)⟩, (Or.inr ⟨⟨by rw [e_b]; exact c1, by grind, by grind⟩, h_, 5, 1, by omega, by decide, by decide, rfl, eq9, w149, (hx150.trans (congrArg nI (Nat.zero_add _))), (TrA_F ht152)⟩)⟩⟩)
      refine xg_eq 2 (fun w156 => ?_) (fun w156 => ?_)
      · refine xr_tableIn (tgt := 80) dX10_act_31 (by decide) (by decide) rfl rfl ?_
        refine xr_aload_n dX10_act_80 0 rfl ?_
        refine xr_aload_n dX10_act_81 0 rfl ?_
        refine xb_get (v := 5) flX10_352 dX10_act_82 s_62 rfl (Eq.trans (x_up_k _ _ _ (by decide)) (x_up_s _ _ _ _)) ?_
        refine xr_iload_n dX10_act_85 3 rfl ?_
        refine xr_callV (As := [.int (5), .int (x)]) (rest := []) mlX10_355 (rv5_sinksAs_5 (ac := h_) (ra := 0) x (by omega) (Eq.trans (x_up_k _ _ _ (by decide)) (Eq.trans (x_up_k _ _ _ (by decide)) (x_up_s _ _ _ _))) (Eq.trans (x_up_k _ _ _ (by decide)) (x_up_s _ _ _ _)) (x_up_s _ _ _ _)) dX10_act_86 s_62 rfl rfl (Nat.le_of_ble_eq_true rfl) (by decide) ⟨by decide, by decide⟩ (fun v s2 M160 J2 hq => ?_)
        obtain ⟨r162, rfl, rfl, rfl, k161, ⟨hr158, hx157, ht159⟩⟩ := hq
        try dsimp only [Option.toList, List.cons_append, List.nil_append]
        exact xr_iret dX10_act_89 rfl rfl (⟨_, rfl, rfl, rfl, (Ke.tr (fun pp kk => (fun hh => Or.elim hh (fun h => (Or.inl h)) (fun h => (Or.inr (Or.inr (Or.inr h)))))) (Ke.up (Or.inr (Or.inr (Or.inl (by omega)))) (Ke.up (Or.inr (Or.inl (by omega))) (Ke.up (Or.inl (by omega)) Ke.rf))) k161), ⟨⟨⟨hn, by omega, (Eq.trans (k161 62 6 (by decide)) (Eq.trans (x_up_k _ _ _ (by decide)) (Eq.trans (x_up_k _ _ _ (by decide)) (Eq.trans (x_up_k _ _ _ (by decide)) e_hn)))), (fun kw hkw => by rw [show M160 63 (5 + kw) = M 63 (5 + kw) from (Eq.trans (k161 63 (5 + kw) (by unfold WRA; omega)) (Eq.trans (congrFun (x_up_n _ _ _ (by omega)) _) (Eq.trans (congrFun (x_up_n _ _ _ (by omega)) _) (Eq.trans (congrFun (x_up_n _ _ _ (by omega)) _) rfl))))]; exact hw kw hkw)⟩, (by rw [show M160 63 16 = M 63 16 from (Eq.trans (k161 63 16 (by unfold WRA; omega)) (Eq.trans (congrFun (x_up_n _ _ _ (by omega)) _) (Eq.trans (congrFun (x_up_n _ _ _ (by omega)) _) (Eq.trans (congrFun (x_up_n _ _ _ (by omega)) _) rfl))))]; exact hbt), ⟨un, wn, by omega, by omega, (Eq.trans (k161 62 5 (by decide)) (Eq.trans (x_up_k _ _ _ (by decide)) (Eq.trans (x_up_k _ _ _ (by decide)) (Eq.trans (x_up_k _ _ _ (by decide)) e_un)))), (Eq.trans (k161 62 4 (by decide)) (Eq.trans (x_up_k _ _ _ (by decide)) (Eq.trans (x_up_k _ _ _ (by decide)) (Eq.trans (x_up_k _ _ _ (by decide)) e_wn))))⟩, (fun kk hkk => by rw [show M160 64 kk = M 64 kk from (Eq.trans (k161 64 kk (by unfold WRA; omega)) (Eq.trans (congrFun (x_up_n _ _ _ (by omega)) _) (Eq.trans (congrFun (x_up_n _ _ _ (by omega)) _) (Eq.trans (congrFun (x_up_n _ _ _ (by omega)) _) rfl)))), show M160 65 kk = M 65 kk from (Eq.trans (k161 65 kk (by unfold WRA; omega)) (Eq.trans (congrFun (x_up_n _ _ _ (by omega)) _) (Eq.trans (congrFun (x_up_n _ _ _ (by omega)) _) (Eq.trans (congrFun (x_up_n _ _ _ (by omega)) _) rfl)))), show M160 66 kk = M 66 kk from (Eq.trans (k161 66 kk (by unfold WRA; omega)) (Eq.trans (congrFun (x_up_n _ _ _ (by omega)) _) (Eq.trans (congrFun (x_up_n _ _ _ (by omega)) _) (Eq.trans (congrFun (x_up_n _ _ _ (by omega)) _) rfl))))]; exact hch kk hkk), ⟨n, by omega, (Eq.trans (k161 62 11 (by decide)) (Eq.trans (x_up_k _ _ _ (by decide)) (Eq.trans (x_up_k _ _ _ (by decide)) (Eq.trans (x_up_k _ _ _ (by decide)) e_n))))⟩, (by rw [show M160 62 13 = M 62 13 from (Eq.trans (k161 62 13 (by unfold WRA; omega)) (Eq.trans (x_up_k _ _ _ (by omega)) (Eq.trans (x_up_k _ _ _ (by omega)) (Eq.trans (x_up_k _ _ _ (by omega)) rfl))))]; exact htx), ⟨b, by omega, (Eq.trans (k161 62 36 (by decide)) (Eq.trans (x_up_k _ _ _ (by decide)) (Eq.trans (x_up_k _ _ _ (by decide)) (Eq.trans (x_up_k _ _ _ (by decide)) e_b))))⟩, (fun j hj => by obtain ⟨q, hq, eq⟩ := hkd j hj; exact ⟨q, hq, (show M160 81 j = M 81 j from (Eq.trans (k161 81 j (by unfold WRA; omega)) (Eq.trans (congrFun (x_up_n _ _ _ (by omega)) _) (Eq.trans (congrFun (x_up_n _ _ _ (by omega)) _) (Eq.trans (congrFun (x_up_n _ _ _ (by omega)) _) rfl))))).trans eq⟩), ⟨0 + 2, by omega, hx157⟩, (fun j hj => by rw [show M160 83 j = M 83 j from (Eq.trans (k161 83 j (by unfold WRA; omega)) (Eq.trans (congrFun (x_up_n _ _ _ (by omega)) _) (Eq.trans (congrFun (x_up_n _ _ _ (by omega)) _) (Eq.trans (congrFun (x_up_n _ _ _ (by omega)) _) rfl)))), show M160 84 j = M 84 j from (Eq.trans (k161 84 j (by unfold WRA; omega)) (Eq.trans (congrFun (x_up_n _ _ _ (by omega)) _) (Eq.trans (congrFun (x_up_n _ _ _ (by omega)) _) (Eq.trans (congrFun (x_up_n _ _ _ (by omega)) _) rfl))))]; exact hsl j hj), ⟨ic, by omega, (Eq.trans (k161 62 34 (by decide)) (Eq.trans (x_up_k _ _ _ (by decide)) (Eq.trans (x_up_k _ _ _ (by decide)) (Eq.trans (x_up_k _ _ _ (by decide)) e_ic))))⟩, (fun j hj => by obtain ⟨q, hq, eq⟩ := hS j hj; exact ⟨q, hq, (show M160 75 j = M 75 j from (Eq.trans (k161 75 j (by unfold WRA; omega)) (Eq.trans (congrFun (x_up_n _ _ _ (by omega)) _) (Eq.trans (congrFun (x_up_n _ _ _ (by omega)) _) (Eq.trans (congrFun (x_up_n _ _ _ (by omega)) _) rfl))))).trans eq⟩)⟩, (Or.inr ⟨⟨by rw [e_b]; exact c1, by grind, by grind⟩, h_, 5, 2, by omega, by decide, by decide, rfl, eq9, w156, (hx157.trans (congrArg nI (Nat.zero_add _))), (TrA_F ht159)⟩)⟩⟩)
      refine xg_eq 3 (fun w163 => ?_) (fun w163 => ?_)
      · refine xr_tableIn (tgt := 90) dX10_act_31 (by decide) (by decide) rfl rfl ?_
        refine xr_aload_n dX10_act_90 0 rfl ?_
        refine xr_aload_n dX10_act_91 0 rfl ?_
        refine xb_get (v := 5) flX10_352 dX10_act_92 s_62 rfl (Eq.trans (x_up_k _ _ _ (by decide)) (x_up_s _ _ _ _)) ?_
        refine xr_iload_n dX10_act_95 3 rfl ?_
        refine xr_callV (As := [.int (5), .int (x)]) (rest := []) mlX10_358 (rv5_tellsAs_5 (ac := h_) (ra := 0) x (by omega) (Eq.trans (x_up_k _ _ _ (by decide)) (Eq.trans (x_up_k _ _ _ (by decide)) (x_up_s _ _ _ _))) (Eq.trans (x_up_k _ _ _ (by decide)) (x_up_s _ _ _ _)) (x_up_s _ _ _ _)) dX10_act_96 s_62 rfl rfl (Nat.le_of_ble_eq_true rfl) (by decide) ⟨by decide, by decide⟩ (fun v s2 M167 J2 hq => ?_)
        obtain ⟨r169, rfl, rfl, rfl, k168, ⟨hr165, hx164, ht166⟩⟩ := hq
        try dsimp only [Option.toList, List.cons_append, List.nil_append]
        exact xr_iret dX10_act_99 rfl rfl (⟨_, rfl, rfl, rfl, (Ke.tr (fun pp kk => (fun hh => Or.elim hh (fun h => (Or.inl h)) (fun h => (Or.inr (Or.inr (Or.inr h)))))) (Ke.up (Or.inr (Or.inr (Or.inl (by omega)))) (Ke.up (Or.inr (Or.inl (by omega))) (Ke.up (Or.inl (by omega)) Ke.rf))) k168), ⟨⟨⟨hn, by omega, (Eq.trans (k168 62 6 (by decide)) (Eq.trans (x_up_k _ _ _ (by decide)) (Eq.trans (x_up_k _ _ _ (by decide)) (Eq.trans (x_up_k _ _ _ (by decide)) e_hn)))), (fun kw hkw => by rw [show M167 63 (5 + kw) = M 63 (5 + kw) from (Eq.trans (k168 63 (5 + kw) (by unfold WRA; omega)) (Eq.trans (congrFun (x_up_n _ _ _ (by omega)) _) (Eq.trans (congrFun (x_up_n _ _ _ (by omega)) _) (Eq.trans (congrFun (x_up_n _ _ _ (by omega)) _) rfl))))]; exact hw kw hkw)⟩, (by rw [show M167 63 16 = M 63 16 from (Eq.trans (k168 63 16 (by unfold WRA; omega)) (Eq.trans (congrFun (x_up_n _ _ _ (by omega)) _) (Eq.trans (congrFun (x_up_n _ _ _ (by omega)) _) (Eq.trans (congrFun (x_up_n _ _ _ (by omega)) _) rfl))))]; exact hbt), ⟨un, wn, by omega, by omega, (Eq.trans (k168 62 5 (by decide)) (Eq.trans (x_up_k _ _ _ (by decide)) (Eq.trans (x_up_k _ _ _ (by decide)) (Eq.trans (x_up_k _ _ _ (by decide)) e_un)))), (Eq.trans (k168 62 4 (by decide)) (Eq.trans (x_up_k _ _ _ (by decide)) (Eq.trans (x_up_k _ _ _ (by decide)) (Eq.trans (x_up_k _ _ _ (by decide)) e_wn))))⟩, (fun kk hkk => by rw [show M167 64 kk = M 64 kk from (Eq.trans (k168 64 kk (by unfold WRA; omega)) (Eq.trans (congrFun (x_up_n _ _ _ (by omega)) _) (Eq.trans (congrFun (x_up_n _ _ _ (by omega)) _) (Eq.trans (congrFun (x_up_n _ _ _ (by omega)) _) rfl)))), show M167 65 kk = M 65 kk from (Eq.trans (k168 65 kk (by unfold WRA; omega)) (Eq.trans (congrFun (x_up_n _ _ _ (by omega)) _) (Eq.trans (congrFun (x_up_n _ _ _ (by omega)) _) (Eq.trans (congrFun (x_up_n _ _ _ (by omega)) _) rfl)))), show M167 66 kk = M 66 kk from (Eq.trans (k168 66 kk (by unfold WRA; omega)) (Eq.trans (congrFun (x_up_n _ _ _ (by omega)) _) (Eq.trans (congrFun (x_up_n _ _ _ (by omega)) _) (Eq.trans (congrFun (x_up_n _ _ _ (by omega)) _) rfl))))]; exact hch kk hkk), ⟨n, by omega, (Eq.trans (k168 62 11 (by decide)) (Eq.trans (x_up_k _ _ _ (by decide)) (Eq.trans (x_up_k _ _ _ (by decide)) (Eq.trans (x_up_k _ _ _ (by decide)) e_n))))⟩, (by rw [show M167 62 13 = M 62 13 from (Eq.trans (k168 62 13 (by unfold WRA; omega)) (Eq.trans (x_up_k _ _ _ (by omega)) (Eq.trans (x_up_k _ _ _ (by omega)) (Eq.trans (x_up_k _ _ _ (by omega)) rfl))))]; exact htx), ⟨b, by omega, (Eq.trans (k168 62 36 (by decide)) (Eq.trans (x_up_k _ _ _ (by decide)) (Eq.trans (x_up_k _ _ _ (by decide)) (Eq.trans (x_up_k _ _ _ (by decide)) e_b))))⟩, (fun j hj => by obtain ⟨q, hq, eq⟩ := hkd j hj; exact ⟨q, hq, (show M167 81 j = M 81 j from (Eq.trans (k168 81 j (by unfold WRA; omega)) (Eq.trans (congrFun (x_up_n _ _ _ (by omega)) _) (Eq.trans (congrFun (x_up_n _ _ _ (by omega)) _) (Eq.trans (congrFun (x_up_n _ _ _ (by omega)) _) rfl))))).trans eq⟩), ⟨0 + 8, by omega, hx164⟩, (fun j hj => by rw [show M167 83 j = M 83 j from (Eq.trans (k168 83 j (by unfold WRA; omega)) (Eq.trans (congrFun (x_up_n _ _ _ (by omega)) _) (Eq.trans (congrFun (x_up_n _ _ _ (by omega)) _) (Eq.trans (congrFun (x_up_n _ _ _ (by omega)) _) rfl)))), show M167 84 j = M 84 j from (Eq.trans (k168 84 j (by unfold WRA; omega)) (Eq.trans (congrFun (x_up_n _ _ _ (by omega)) _) (Eq.trans (congrFun (x_up_n _ _ _ (by omega)) _) (Eq.trans (congrFun (x_up_n _ _ _ (by omega)) _) rfl))))]; exact hsl j hj), ⟨ic, by omega, (Eq.trans (k168 62 34 (by decide)) (Eq.trans (x_up_k _ _ _ (by decide)) (Eq.trans (x_up_k _ _ _ (by decide)) (Eq.trans (x_up_k _ _ _ (by decide)) e_ic))))⟩, (fun j hj => by obtain ⟨q, hq, eq⟩ := hS j hj; exact ⟨q, hq, (show M167 75 j = M 75 j from (Eq.trans (k168 75 j (by unfold WRA; omega)) (Eq.trans (congrFun (x_up_n _ _ _ (by omega)) _) (Eq.trans (congrFun (x_up_n _ _ _ (by omega)) _) (Eq.trans (congrFun (x_up_n _ _ _ (by omega)) _) rfl))))).trans eq⟩)⟩, (Or.inr ⟨⟨by rw [e_b]; exact c1, by grind, by grind⟩, h_, 5, 3, by omega, by decide, by decide, rfl, eq9, w163, (hx164.trans (congrArg nI (Nat.zero_add _))), (TrA_F ht166)⟩)⟩⟩)
      refine xr_tableOut (tgt := 100) dX10_act_31 (xg_out (lo := 0) (hi := 3) (by decide) (fun j h1 h2 qq => by have h3 : j = 0 ∨ j = 1 ∨ j = 2 ∨ j = 3 := (by omega); rcases h3 with rfl | rfl | rfl | rfl <;> first | exact absurd qq w142 | exact absurd qq w149 | exact absurd qq w156 | exact absurd qq w163)) rfl ?_
      refine xr_iconst (v := 0) dX10_act_100 rfl ?_
      exact xr_iret dX10_act_101 rfl rfl (⟨_, rfl, rfl, rfl, (Ke.up (Or.inr (Or.inr (Or.inl (by omega)))) (Ke.up (Or.inr (Or.inl (by omega))) (Ke.up (Or.inl (by omega)) Ke.rf))), ⟨⟨⟨hn, by omega, (Eq.trans (x_up_k _ _ _ (by decide)) (Eq.trans (x_up_k _ _ _ (by decide)) (Eq.trans (x_up_k _ _ _ (by decide)) e_hn))), (fun kw hkw => by rw [show (x_up (x_up (x_up M 62 39 0) 62 40 5) 62 41 (nI (h_))) 63 (5 + kw) = M 63 (5 + kw) from (Eq.trans (congrFun (x_up_n _ _ _ (by omega)) _) (Eq.trans (congrFun (x_up_n _ _ _ (by omega)) _) (Eq.trans (congrFun (x_up_n _ _ _ (by omega)) _) rfl)))]; exact hw kw hkw)⟩, (by rw [show (x_up (x_up (x_up M 62 39 0) 62 40 5) 62 41 (nI (h_))) 63 16 = M 63 16 from (Eq.trans (congrFun (x_up_n _ _ _ (by omega)) _) (Eq.trans (congrFun (x_up_n _ _ _ (by omega)) _) (Eq.trans (congrFun (x_up_n _ _ _ (by omega)) _) rfl)))]; exact hbt), ⟨un, wn, by omega, by omega, (Eq.trans (x_up_k _ _ _ (by decide)) (Eq.trans (x_up_k _ _ _ (by decide)) (Eq.trans (x_up_k _ _ _ (by decide)) e_un))), (Eq.trans (x_up_k _ _ _ (by decide)) (Eq.trans (x_up_k _ _ _ (by decide)) (Eq.trans (x_up_k _ _ _ (by decide)) e_wn)))⟩, (fun kk hkk => by rw [show (x_up (x_up (x_up M 62 39 0) 62 40 5) 62 41 (nI (h_))) 64 kk = M 64 kk from (Eq.trans (congrFun (x_up_n _ _ _ (by omega)) _) (Eq.trans (congrFun (x_up_n _ _ _ (by omega)) _) (Eq.trans (congrFun (x_up_n _ _ _ (by omega)) _) rfl))), show (x_up (x_up (x_up M 62 39 0) 62 40 5) 62 41 (nI (h_))) 65 kk = M 65 kk from (Eq.trans (congrFun (x_up_n _ _ _ (by omega)) _) (Eq.trans (congrFun (x_up_n _ _ _ (by omega)) _) (Eq.trans (congrFun (x_up_n _ _ _ (by omega)) _) rfl))), show (x_up (x_up (x_up M 62 39 0) 62 40 5) 62 41 (nI (h_))) 66 kk = M 66 kk from (Eq.trans (congrFun (x_up_n _ _ _ (by omega)) _) (Eq.trans (congrFun (x_up_n _ _ _ (by omega)) _) (Eq.trans (congrFun (x_up_n _ _ _ (by omega)) _) rfl)))]; exact hch kk hkk), ⟨n, by omega, (Eq.trans (x_up_k _ _ _ (by decide)) (Eq.trans (x_up_k _ _ _ (by decide)) (Eq.trans (x_up_k _ _ _ (by decide)) e_n)))⟩, (by rw [show (x_up (x_up (x_up M 62 39 0) 62 40 5) 62 41 (nI (h_))) 62 13 = M 62 13 from (Eq.trans (x_up_k _ _ _ (by omega)) (Eq.trans (x_up_k _ _ _ (by omega)) (Eq.trans (x_up_k _ _ _ (by omega)) rfl)))]; exact htx), ⟨b, by omega, (Eq.trans (x_up_k _ _ _ (by decide)) (Eq.trans (x_up_k _ _ _ (by decide)) (Eq.trans (x_up_k _ _ _ (by decide)) e_b)))⟩, (fun j hj => by obtain ⟨q, hq, eq⟩ := hkd j hj; exact ⟨q, hq, (show (x_up (x_up (x_up M 62 39 0) 62 40 5) 62 41 (nI (h_))) 81 j = M 81 j from (Eq.trans (congrFun (x_up_n _ _ _ (by omega)) _) (Eq.trans (congrFun (x_up_n _ _ _ (by omega)) _) (Eq.trans (congrFun (x_up_n _ _ _ (by omega)) _) rfl)))).trans eq⟩), ⟨0, by omega, (Eq.trans (x_up_k _ _ _ (by decide)) (Eq.trans (x_up_k _ _ _ (by decide)) (x_up_s _ _ _ _)))⟩, (fun j hj => by rw [show (x_up (x_up (x_up M 62 39 0) 62 40 5) 62 41 (nI (h_))) 83 j = M 83 j from (Eq.trans (congrFun (x_up_n _ _ _ (by omega)) _) (Eq.trans (congrFun (x_up_n _ _ _ (by omega)) _) (Eq.trans (congrFun (x_up_n _ _ _ (by omega)) _) rfl))), show (x_up (x_up (x_up M 62 39 0) 62 40 5) 62 41 (nI (h_))) 84 j = M 84 j from (Eq.trans (congrFun (x_up_n _ _ _ (by omega)) _) (Eq.trans (congrFun (x_up_n _ _ _ (by omega)) _) (Eq.trans (congrFun (x_up_n _ _ _ (by omega)) _) rfl)))]; exact hsl j hj), ⟨ic, by omega, (Eq.trans (x_up_k _ _ _ (by decide)) (Eq.trans (x_up_k _ _ _ (by decide)) (Eq.trans (x_up_k _ _ _ (by decide)) e_ic)))⟩, (fun j hj => by obtain ⟨q, hq, eq⟩ := hS j hj; exact ⟨q, hq, (show (x_up (x_up (x_up M 62 39 0) 62 40 5) 62 41 (nI (h_))) 75 j = M 75 j from (Eq.trans (congrFun (x_up_n _ _ _ (by omega)) _) (Eq.trans (congrFun (x_up_n _ _ _ (by omega)) _) (Eq.trans (congrFun (x_up_n _ _ _ (by omega)) _) rfl)))).trans eq⟩)⟩, (Or.inl ⟨(fun q => absurd q.2 (by grind)), (Eq.trans (x_up_k _ _ _ (by decide)) (Eq.trans (x_up_k _ _ _ (by decide)) (x_up_s _ _ _ _)))⟩)⟩⟩)
    · refine xr_aload_n dX10_act_15 0 rfl ?_
      refine xr_aload_n dX10_act_16 0 rfl ?_
      refine xr_getR flX10_69 dX10_act_17 s_62 rfl ?_
      refine xr_iload_n dX10_act_20 1 rfl ?_
      refine xb_iald (j := h_) (v := 6) dX10_act_21 s_81 (by omega) (by decide) (Eq.trans (congrFun (x_up_n _ _ _ (by decide)) _) eq9) ?_
      refine xr_putI fpX10_352 dX10_act_22 s_62 rfl rfl rfl ?_
      refine xr_aload_n dX10_act_25 0 rfl ?_
      refine xr_iload_n dX10_act_26 1 rfl ?_
      refine xr_putI fpX10_346 dX10_act_27 s_62 rfl rfl rfl ?_
      refine xr_iload_n dX10_act_30 2 rfl ?_
      refine xg_eq 0 (fun w170 => ?_) (fun w170 => ?_)
      · refine xr_tableIn (tgt := 60) dX10_act_31 (by decide) (by decide) rfl rfl ?_
        refine xr_aload_n dX10_act_60 0 rfl ?_
        refine xr_aload_n dX10_act_61 0 rfl ?_
        refine xb_get (v := 6) flX10_352 dX10_act_62 s_62 rfl (Eq.trans (x_up_k _ _ _ (by decide)) (x_up_s _ _ _ _)) ?_
        refine xr_iload_n dX10_act_65 3 rfl ?_
        refine xr_callV (As := [.int (6), .int (x)]) (rest := []) mlX10_343 (rv6_pushesAs_6 (ac := h_) (ra := 0) x (by omega) (Eq.trans (x_up_k _ _ _ (by decide)) (Eq.trans (x_up_k _ _ _ (by decide)) (x_up_s _ _ _ _))) (Eq.trans (x_up_k _ _ _ (by decide)) (x_up_s _ _ _ _)) (x_up_s _ _ _ _)) dX10_act_66 s_62 rfl rfl (Nat.le_of_ble_eq_true rfl) (by decide) ⟨by decide, by decide⟩ (fun v s2 M174 J2 hq => ?_)
        obtain ⟨r176, rfl, rfl, rfl, k175, ⟨hr172, hx171, ht173⟩⟩ := hq
        try dsimp only [Option.toList, List.cons_append, List.nil_append]
        exact xr_iret dX10_act_69 rfl rfl (⟨_, rfl, rfl, rfl, (Ke.tr (fun pp kk => (fun hh => Or.elim hh (fun h => (Or.inl h)) (fun h => (Or.inr (Or.inr (Or.inr h)))))) (Ke.up (Or.inr (Or.inr (Or.inl (by omega)))) (Ke.up (Or.inr (Or.inl (by omega))) (Ke.up (Or.inl (by omega)) Ke.rf))) k175), ⟨⟨⟨hn, by omega, (Eq.trans (k175 62 6 (by decide)) (Eq.trans (x_up_k _ _ _ (by decide)) (Eq.trans (x_up_k _ _ _ (by decide)) (Eq.trans (x_up_k _ _ _ (by decide)) e_hn)))), (fun kw hkw => by rw [show M174 63 (5 + kw) = M 63 (5 + kw) from (Eq.trans (k175 63 (5 + kw) (by unfold WRA; omega)) (Eq.trans (congrFun (x_up_n _ _ _ (by omega)) _) (Eq.trans (congrFun (x_up_n _ _ _ (by omega)) _) (Eq.trans (congrFun (x_up_n _ _ _ (by omega)) _) rfl))))]; exact hw kw hkw)⟩, (by rw [show M174 63 16 = M 63 16 from (Eq.trans (k175 63 16 (by unfold WRA; omega)) (Eq.trans (congrFun (x_up_n _ _ _ (by omega)) _) (Eq.trans (congrFun (x_up_n _ _ _ (by omega)) _) (Eq.trans (congrFun (x_up_n _ _ _ (by omega)) _) rfl))))]; exact hbt), ⟨un, wn, by omega, by omega, (Eq.trans (k175 62 5 (by decide)) (Eq.trans (x_up_k _ _ _ (by decide)) (Eq.trans (x_up_k _ _ _ (by decide)) (Eq.trans (x_up_k _ _ _ (by decide)) e_un)))), (Eq.trans (k175 62 4 (by decide)) (Eq.trans (x_up_k _ _ _ (by decide)) (Eq.trans (x_up_k _ _ _ (by decide)) (Eq.trans (x_up_k _ _ _ (by decide)) e_wn))))⟩, (fun kk hkk => by rw [show M174 64 kk = M 64 kk from (Eq.trans (k175 64 kk (by unfold WRA; omega)) (Eq.trans (congrFun (x_up_n _ _ _ (by omega)) _) (Eq.trans (congrFun (x_up_n _ _ _ (by omega)) _) (Eq.trans (congrFun (x_up_n _ _ _ (by omega)) _) rfl)))), show M174 65 kk = M 65 kk from (Eq.trans (k175 65 kk (by unfold WRA; omega)) (Eq.trans (congrFun (x_up_n _ _ _ (by omega)) _) (Eq.trans (congrFun (x_up_n _ _ _ (by omega)) _) (Eq.trans (congrFun (x_up_n _ _ _ (by omega)) _) rfl)))), show M174 66 kk = M 66 kk from (Eq.trans (k175 66 kk (by unfold WRA; omega)) (Eq.trans (congrFun (x_up_n _ _ _ (by omega)) _) (Eq.trans (congrFun (x_up_n _ _ _ (by omega)) _) (Eq.trans (congrFun (x_up_n _ _ _ (by omega)) _) rfl))))]; exact hch kk hkk), ⟨n, by omega, (Eq.trans (k175 62 11 (by decide)) (Eq.trans (x_up_k _ _ _ (by decide)) (Eq.trans (x_up_k _ _ _ (by decide)) (Eq.trans (x_up_k _ _ _ (by decide)) e_n))))⟩, (by rw [show M174 62 13 = M 62 13 from (Eq.trans (k175 62 13 (by unfold WRA; omega)) (Eq.trans (x_up_k _ _ _ (by omega)) (Eq.trans (x_up_k _ _ _ (by omega)) (Eq.trans (x_up_k _ _ _ (by omega)) rfl))))]; exact htx), ⟨b, by omega, (Eq.trans (k175 62 36 (by decide)) (Eq.trans (x_up_k _ _ _ (by decide)) (Eq.trans (x_up_k _ _ _ (by decide)) (Eq.trans (x_up_k _ _ _ (by decide)) e_b))))⟩, (fun j hj => by obtain ⟨q, hq, eq⟩ := hkd j hj; exact ⟨q, hq, (show M174 81 j = M 81 j from (Eq.trans (k175 81 j (by unfold WRA; omega)) (Eq.trans (congrFun (x_up_n _ _ _ (by omega)) _) (Eq.trans (congrFun (x_up_n _ _ _ (by omega)) _) (Eq.trans (congrFun (x_up_n _ _ _ (by omega)) _) rfl))))).trans eq⟩), ⟨0 + 2, by omega, hx171⟩, (fun j hj => by rw [show M174 83 j = M 83 j from (Eq.trans (k175 83 j (by unfold WRA; omega)) (Eq.trans (congrFun (x_up_n _ _ _ (by omega)) _) (Eq.trans (congrFun (x_up_n _ _ _ (by omega)) _) (Eq.trans (congrFun (x_up_n _ _ _ (by omega)) _) rfl)))), show M174 84 j = M 84 j from (Eq.trans (k175 84 j (by unfold WRA; omega)) (Eq.trans (congrFun (x_up_n _ _ _ (by omega)) _) (Eq.trans (congrFun (x_up_n _ _ _ (by omega)) _) (Eq.trans (congrFun (x_up_n _ _ _ (by omega)) _) rfl))))]; exact hsl j hj), ⟨ic, by omega, (Eq.trans (k175 62 34 (by decide)) (Eq.trans (x_up_k _ _ _ (by decide)) (Eq.trans (x_up_k _ _ _ (by decide)) (Eq.trans (x_up_k _ _ _ (by decide)) e_ic))))⟩, (fun j hj => by obtain ⟨q, hq, eq⟩ := hS j hj; exact ⟨q, hq, (show M174 75 j = M 75 j from (Eq.trans (k175 75 j (by unfold WRA; omega)) (Eq.trans (congrFun (x_up_n _ _ _ (by omega)) _) (Eq.trans (congrFun (x_up_n _ _ _ (by omega)) _) (Eq.trans (congrFun (x_up_n _ _ _ (by omega)) _) rfl))))).trans eq⟩)⟩, (Or.inr ⟨⟨by rw [e_b]; exact c1, by grind, by grind⟩, h_, 6, 0, by omega, by decide, by decide, rfl, eq9, w170, (hx171.trans (congrArg nI (Nat.zero_add _))), (TrA_F ht173)⟩)⟩⟩)
      refine xg_eq 1 (fun w177 => ?_) (fun w177 => ?_)
      · refine xr_tableIn (tgt := 70) dX10_act_31 (by decide) (by decide) rfl rfl ?_
        refine xr_aload_n dX10_act_70 0 rfl ?_
        refine xr_aload_n dX10_act_71 0 rfl ?_
        refine xb_get (v := 6) flX10_352 dX10_act_72 s_62 rfl (Eq.trans (x_up_k _ _ _ (by decide)) (x_up_s _ _ _ _)) ?_
        refine xr_iload_n dX10_act_75 3 rfl ?_
        refine xr_callV (As := [.int (6), .int (x)]) (rest := []) mlX10_349 (rv6_turnsAs_6 (ac := h_) (ra := 0) x (by omega) (Eq.trans (x_up_k _ _ _ (by decide)) (Eq.trans (x_up_k _ _ _ (by decide)) (x_up_s _ _ _ _))) (Eq.trans (x_up_k _ _ _ (by decide)) (x_up_s _ _ _ _)) (x_up_s _ _ _ _)) dX10_act_76 s_62 rfl rfl (Nat.le_of_ble_eq_true rfl) (by decide) ⟨by decide, by decide⟩ (fun v s2 M181 J2 hq => ?_)
        obtain ⟨r183, rfl, rfl, rfl, k182, ⟨hr179, hx178, ht180⟩⟩ := hq
        try dsimp only [Option.toList, List.cons_append, List.nil_append]
        exact xr_iret dX10_act_79 rfl rfl (⟨_, rfl, rfl, rfl, (Ke.tr (fun pp kk => (fun hh => Or.elim hh (fun h => (Or.inl h)) (fun h => (Or.inr (Or.inr (Or.inr h)))))) (Ke.up (Or.inr (Or.inr (Or.inl (by omega)))) (Ke.up (Or.inr (Or.inl (by omega))) (Ke.up (Or.inl (by omega)) Ke.rf))) k182), ⟨⟨⟨hn, by omega, (Eq.trans (k182 62 6 (by decide)) (Eq.trans (x_up_k _ _ _ (by decide)) (Eq.trans (x_up_k _ _ _ (by decide)) (Eq.trans (x_up_k _ _ _ (by decide)) e_hn)))), (fun kw hkw => by rw [show M181 63 (5 + kw) = M 63 (5 + kw) from (Eq.trans (k182 63 (5 + kw) (by unfold WRA; omega)) (Eq.trans (congrFun (x_up_n _ _ _ (by omega)) _) (Eq.trans (congrFun (x_up_n _ _ _ (by omega)) _) (Eq.trans (congrFun (x_up_n _ _ _ (by omega)) _) rfl))))]; exact hw kw hkw)⟩, (by rw [show M181 63 16 = M 63 16 from (Eq.trans (k182 63 16 (by unfold WRA; omega)) (Eq.trans (congrFun (x_up_n _ _ _ (by omega)) _) (Eq.trans (congrFun (x_up_n _ _ _ (by omega)) _) (Eq.trans (congrFun (x_up_n _ _ _ (by omega)) _) rfl))))]; exact hbt), ⟨un, wn, by omega, by omega, (Eq.trans (k182 62 5 (by decide)) (Eq.trans (x_up_k _ _ _ (by decide)) (Eq.trans (x_up_k _ _ _ (by decide)) (Eq.trans (x_up_k _ _ _ (by decide)) e_un)))), (Eq.trans (k182 62 4 (by decide)) (Eq.trans (x_up_k _ _ _ (by decide)) (Eq.trans (x_up_k _ _ _ (by decide)) (Eq.trans (x_up_k _ _ _ (by decide)) e_wn))))⟩, (fun kk hkk => by rw [show M181 64 kk = M 64 kk from (Eq.trans (k182 64 kk (by unfold WRA; omega)) (Eq.trans (congrFun (x_up_n _ _ _ (by omega)) _) (Eq.trans (congrFun (x_up_n _ _ _ (by omega)) _) (Eq.trans (congrFun (x_up_n _ _ _ (by omega)) _) rfl)))), show M181 65 kk = M 65 kk from (Eq.trans (k182 65 kk (by unfold WRA; omega)) (Eq.trans (congrFun (x_up_n _ _ _ (by omega)) _) (Eq.trans (congrFun (x_up_n _ _ _ (by omega)) _) (Eq.trans (congrFun (x_up_n _ _ _ (by omega)) _) rfl)))), show M181 66 kk = M 66 kk from (Eq.trans (k182 66 kk (by unfold WRA; omega)) (Eq.trans (congrFun (x_up_n _ _ _ (by omega)) _) (Eq.trans (congrFun (x_up_n _ _ _ (by omega)) _) (Eq.trans (congrFun (x_up_n _ _ _ (by omega)) _) rfl))))]; exact hch kk hkk), ⟨n, by omega, (Eq.trans (k182 62 11 (by decide)) (Eq.trans (x_up_k _ _ _ (by decide)) (Eq.trans (x_up_k _ _ _ (by decide)) (Eq.trans (x_up_k _ _ _ (by decide)) e_n))))⟩, (by rw [show M181 62 13 = M 62 13 from (Eq.trans (k182 62 13 (by unfold WRA; omega)) (Eq.trans (x_up_k _ _ _ (by omega)) (Eq.trans (x_up_k _ _ _ (by omega)) (Eq.trans (x_up_k _ _ _ (by omega)) rfl))))]; exact htx), ⟨b, by omega, (Eq.trans (k182 62 36 (by decide)) (Eq.trans (x_up_k _ _ _ (by decide)) (Eq.trans (x_up_k _ _ _ (by decide)) (Eq.trans (x_up_k _ _ _ (by decide)) e_b))))⟩, (fun j hj => by obtain ⟨q, hq, eq⟩ := hkd j hj; exact ⟨q, hq, (show M181 81 j = M 81 j from (Eq.trans (k182 81 j (by unfold WRA; omega)) (Eq.trans (congrFun (x_up_n _ _ _ (by omega)) _) (Eq.trans (congrFun (x_up_n _ _ _ (by omega)) _) (Eq.trans (congrFun (x_up_n _ _ _ (by omega)) _) rfl))))).trans eq⟩), ⟨0 + 3, by omega, hx178⟩, (fun j hj => by rw [show M181 83 j = M 83 j from (Eq.trans (k182 83 j (by unfold WRA; omega)) (Eq.trans (congrFun (x_up_n _ _ _ (by omega)) _) (Eq.trans (congrFun (x_up_n _ _ _ (by omega)) _) (Eq.trans (congrFun (x_up_n _ _ _ (by omega)) _) rfl)))), show M181 84 j = M 84 j from (Eq.trans (k182 84 j (by unfold WRA; omega)) (Eq.trans (congrFun (x_up_n _ _ _ (by omega)) _) (Eq.trans (congrFun (x_up_n _ _ _ (by omega)) _) (Eq.trans (congrFun (x_up_n _ _ _ (by omega)) _) rfl))))]; exact hsl j hj), ⟨ic, by omega, (Eq.trans (k182 62 34 (by decide)) (Eq.trans (x_up_k _ _ _ (by decide)) (Eq.trans (x_up_k _ _ _ (by decide)) (Eq.trans (x_up_k _ _ _ (by decide)) e_ic))))⟩, (fun j hj => by obtain ⟨q, hq, eq⟩ := hS j hj; exact ⟨q, hq, (show M181 75 j = M 75 j from (Eq.trans (k182 75 j (by unfold WRA; omega)) (Eq.trans (congrFun (x_up_n _ _ _ (by omega)) _) (Eq.trans (congrFun (x_up_n _ _ _ (by omega)) _) (Eq.trans (congrFun (x_up_n _ _ _ (by omega)) _) rfl))))).trans eq⟩)⟩, (Or.inr ⟨⟨by rw [e_b]; exact c1, by grind, by grind⟩, h_, 6, 1, by omega, by decide, by decide, rfl, eq9, w177, (hx178.trans (congrArg nI (Nat.zero_add _))), (TrA_F ht180)⟩)⟩⟩)
      refine xg_eq 2 (fun w184 => ?_) (fun w184 => ?_)
      · refine xr_tableIn (tgt := 80) dX10_act_31 (by decide) (by decide) rfl rfl ?_
        refine xr_aload_n dX10_act_80 0 rfl ?_
        refine xr_aload_n dX10_act_81 0 rfl ?_
        refine xb_get (v := 6) flX10_352 dX10_act_82 s_62 rfl (Eq.trans (x_up_k _ _ _ (by decide)) (x_up_s _ _ _ _)) ?_
        refine xr_iload_n dX10_act_85 3 rfl ?_
        refine xr_callV (As := [.int (6), .int (x)]) (rest := []) mlX10_355 (rv6_sinksAs_6 (ac := h_) (ra := 0) x (by omega) (Eq.trans (x_up_k _ _ _ (by decide)) (Eq.trans (x_up_k _ _ _ (by decide)) (x_up_s _ _ _ _))) (Eq.trans (x_up_k _ _ _ (by decide)) (x_up_s _ _ _ _)) (x_up_s _ _ _ _)) dX10_act_86 s_62 rfl rfl (Nat.le_of_ble_eq_true rfl) (by decide) ⟨by decide, by decide⟩ (fun v s2 M188 J2 hq => ?_)
        obtain ⟨r190, rfl, rfl, rfl, k189, ⟨hr186, hx185, ht187⟩⟩ := hq
        try dsimp only [Option.toList, List.cons_append, List.nil_append]
        exact xr_iret dX10_act_89 rfl rfl (⟨_, rfl, rfl, rfl, (Ke.tr (fun pp kk => (fun hh => Or.elim hh (fun h => (Or.inl h)) (fun h => (Or.inr (Or.inr (Or.inr h)))))) (Ke.up (Or.inr (Or.inr (Or.inl (by omega)))) (Ke.up (Or.inr (Or.inl (by omega))) (Ke.up (Or.inl (by omega)) Ke.rf))) k189), ⟨⟨⟨hn, by omega, (Eq.trans (k189 62 6 (by decide)) (Eq.trans (x_up_k _ _ _ (by decide)) (Eq.trans (x_up_k _ _ _ (by decide)) (Eq.trans (x_up_k _ _ _ (by decide)) e_hn)))), (fun kw hkw => by rw [show M188 63 (5 + kw) = M 63 (5 + kw) from (Eq.trans (k189 63 (5 + kw) (by unfold WRA; omega)) (Eq.trans (congrFun (x_up_n _ _ _ (by omega)) _) (Eq.trans (congrFun (x_up_n _ _ _ (by omega)) _) (Eq.trans (congrFun (x_up_n _ _ _ (by omega)) _) rfl))))]; exact hw kw hkw)⟩, (by rw [show M188 63 16 = M 63 16 from (Eq.trans (k189 63 16 (by unfold WRA; omega)) (Eq.trans (congrFun (x_up_n _ _ _ (by omega)) _) (Eq.trans (congrFun (x_up_n _ _ _ (by omega)) _) (Eq.trans (congrFun (x_up_n _ _ _ (by omega)) _) rfl))))]; exact hbt), ⟨un, wn, by omega, by omega, (Eq.trans (k189 62 5 (by decide)) (Eq.trans (x_up_k _ _ _ (by decide)) (Eq.trans (x_up_k _ _ _ (by decide)) (Eq.trans (x_up_k _ _ _ (by decide)) e_un)))), (Eq.trans (k189 62 4 (by decide)) (Eq.trans (x_up_k _ _ _ (by decide)) (Eq.trans (x_up_k _ _ _ (by decide)) (Eq.trans (x_up_k _ _ _ (by decide)) e_wn))))⟩, (fun kk hkk => by rw [show M188 64 kk = M 64 kk from (Eq.trans (k189 64 kk (by unfold WRA; omega)) (Eq.trans (congrFun (x_up_n _ _ _ (by omega)) _) (Eq.trans (congrFun (x_up_n _ _ _ (by omega)) _) (Eq.trans (congrFun (x_up_n _ _ _ (by omega)) _) rfl)))), show M188 65 kk = M 65 kk from (Eq.trans (k189 65 kk (by unfold WRA; omega)) (Eq.trans (congrFun (x_up_n _ _ _ (by omega)) _) (Eq.trans (congrFun (x_up_n _ _ _ (by omega)) _) (Eq.trans (congrFun (x_up_n _ _ _ (by omega)) _) rfl)))), show M188 66 kk = M 66 kk from (Eq.trans (k189 66 kk (by unfold WRA; omega)) (Eq.trans (congrFun (x_up_n _ _ _ (by omega)) _) (Eq.trans (congrFun (x_up_n _ _ _ (by omega)) _) (Eq.trans (congrFun (x_up_n _ _ _ (by omega)) _) rfl))))]; exact hch kk hkk), ⟨n, by omega, (Eq.trans (k189 62 11 (by decide)) (Eq.trans (x_up_k _ _ _ (by decide)) (Eq.trans (x_up_k _ _ _ (by decide)) (Eq.trans (x_up_k _ _ _ (by decide)) e_n))))⟩, (by rw [show M188 62 13 = M 62 13 from (Eq.trans (k189 62 13 (by unfold WRA; omega)) (Eq.trans (x_up_k _ _ _ (by omega)) (Eq.trans (x_up_k _ _ _ (by omega)) (Eq.trans (x_up_k _ _ _ (by omega)) rfl))))]; exact htx), ⟨b, by omega, (Eq.trans (k189 62 36 (by decide)) (Eq.trans (x_up_k _ _ _ (by decide)) (Eq.trans (x_up_k _ _ _ (by decide)) (Eq.trans (x_up_k _ _ _ (by decide)) e_b))))⟩, (fun j hj => by obtain ⟨q, hq, eq⟩ := hkd j hj; exact ⟨q, hq, (show M188 81 j = M 81 j from (Eq.trans (k189 81 j (by unfold WRA; omega)) (Eq.trans (congrFun (x_up_n _ _ _ (by omega)) _) (Eq.trans (congrFun (x_up_n _ _ _ (by omega)) _) (Eq.trans (congrFun (x_up_n _ _ _ (by omega)) _) rfl))))).trans eq⟩), ⟨0 + 1, by omega, hx185⟩, (fun j hj => by rw [show M188 83 j = M 83 j from (Eq.trans (k189 83 j (by unfold WRA; omega)) (Eq.trans (congrFun (x_up_n _ _ _ (by omega)) _) (Eq.trans (congrFun (x_up_n _ _ _ (by omega)) _) (Eq.trans (congrFun (x_up_n _ _ _ (by omega)) _) rfl)))), show M188 84 j = M 84 j from (Eq.trans (k189 84 j (by unfold WRA; omega)) (Eq.trans (congrFun (x_up_n _ _ _ (by omega)) _) (Eq.trans (congrFun (x_up_n _ _ _ (by omega)) _) (Eq.trans (congrFun (x_up_n _ _ _ (by omega)) _) rfl))))]; exact hsl j hj), ⟨ic, by omega, (Eq.trans (k189 62 34 (by decide)) (Eq.trans (x_up_k _ _ _ (by decide)) (Eq.trans (x_up_k _ _ _ (by decide)) (Eq.trans (x_up_k _ _ _ (by decide)) e_ic))))⟩, (fun j hj => by obtain ⟨q, hq, eq⟩ := hS j hj; exact ⟨q, hq, (show M188 75 j = M 75 j from (Eq.trans (k189 75 j (by unfold WRA; omega)) (Eq.trans (congrFun (x_up_n _ _ _ (by omega)) _) (Eq.trans (congrFun (x_up_n _ _ _ (by omega)) _) (Eq.trans (congrFun (x_up_n _ _ _ (by omega)) _) rfl))))).trans eq⟩)⟩, (Or.inr ⟨⟨by rw [e_b]; exact c1, by grind, by grind⟩, h_, 6, 2, by omega, by decide, by decide, rfl, eq9, w184, (hx185.trans (congrArg nI (Nat.zero_add _))), (TrA_F ht187)⟩)⟩⟩)
      refine xg_eq 3 (fun w191 => ?_) (fun w191 => ?_)
      · refine xr_tableIn (tgt := 90) dX10_act_31 (by decide) (by decide) rfl rfl ?_
        refine xr_aload_n dX10_act_90 0 rfl ?_
        refine xr_aload_n dX10_act_91 0 rfl ?_
        refine xb_get (v := 6) flX10_352 dX10_act_92 s_62 rfl (Eq.trans (x_up_k _ _ _ (by decide)) (x_up_s _ _ _ _)) ?_
        refine xr_iload_n dX10_act_95 3 rfl ?_
        refine xr_callV (As := [.int (6), .int (x)]) (rest := []) mlX10_358 (rv6_tellsAs_6 (ac := h_) (ra := 0) x (by omega) (Eq.trans (x_up_k _ _ _ (by decide)) (Eq.trans (x_up_k _ _ _ (by decide)) (x_up_s _ _ _ _))) (Eq.trans (x_up_k _ _ _ (by decide)) (x_up_s _ _ _ _)) (x_up_s _ _ _ _)) dX10_act_96 s_62 rfl rfl (Nat.le_of_ble_eq_true rfl) (by decide) ⟨by decide, by decide⟩ (fun v s2 M195 J2 hq => ?_)
        obtain ⟨r197, rfl, rfl, rfl, k196, ⟨hr193, hx192, ht194⟩⟩ := hq
        try dsimp only [Option.toList, List.cons_append, List.nil_append]
        exact xr_iret dX10_act_99 rfl rfl (⟨_, rfl, rfl, rfl, (Ke.tr (fun pp kk => (fun hh => Or.elim hh (fun h => (Or.inl h)) (fun h => (Or.inr (Or.inr (Or.inr h)))))) (Ke.up (Or.inr (Or.inr (Or.inl (by omega)))) (Ke.up (Or.inr (Or.inl (by omega))) (Ke.up (Or.inl (by omega)) Ke.rf))) k196), ⟨⟨⟨hn, by omega, (Eq.trans (k196 62 6 (by decide)) (Eq.trans (x_up_k _ _ _ (by decide)) (Eq.trans (x_up_k _ _ _ (by decide)) (Eq.trans (x_up_k _ _ _ (by decide)) e_hn)))), (fun kw hkw => by rw [show M195 63 (5 + kw) = M 63 (5 + kw) from (Eq.trans (k196 63 (5 + kw) (by unfold WRA; omega)) (Eq.trans (congrFun (x_up_n _ _ _ (by omega)) _) (Eq.trans (congrFun (x_up_n _ _ _ (by omega)) _) (Eq.trans (congrFun (x_up_n _ _ _ (by omega)) _) rfl))))]; exact hw kw hkw)⟩, (by rw [show M195 63 16 = M 63 16 from (Eq.trans (k196 63 16 (by unfold WRA; omega)) (Eq.trans (congrFun (x_up_n _ _ _ (by omega)) _) (Eq.trans (congrFun (x_up_n _ _ _ (by omega)) _) (Eq.trans (congrFun (x_up_n _ _ _ (by omega)) _) rfl))))]; exact hbt), ⟨un, wn, by omega, by omega, (Eq.trans (k196 62 5 (by decide)) (Eq.trans (x_up_k _ _ _ (by decide)) (Eq.trans (x_up_k _ _ _ (by decide)) (Eq.trans (x_up_k _ _ _ (by decide)) e_un)))), (Eq.trans (k196 62 4 (by decide)) (Eq.trans (x_up_k _ _ _ (by decide)) (Eq.trans (x_up_k _ _ _ (by decide)) (Eq.trans (x_up_k _ _ _ (by decide)) e_wn))))⟩, (fun kk hkk => by rw [show M195 64 kk = M 64 kk from (Eq.trans (k196 64 kk (by unfold WRA; omega)) (Eq.trans (congrFun (x_up_n _ _ _ (by omega)) _) (Eq.trans (congrFun (x_up_n _ _ _ (by omega)) _) (Eq.trans (congrFun (x_up_n _ _ _ (by omega)) _) rfl)))), show M195 65 kk = M 65 kk from (Eq.trans (k196 65 kk (by unfold WRA; omega)) (Eq.trans (congrFun (x_up_n _ _ _ (by omega)) _) (Eq.trans (congrFun (x_up_n _ _ _ (by omega)) _) (Eq.trans (congrFun (x_up_n _ _ _ (by omega)) _) rfl)))), show M195 66 kk = M 66 kk from (Eq.trans (k196 66 kk (by unfold WRA; omega)) (Eq.trans (congrFun (x_up_n _ _ _ (by omega)) _) (Eq.trans (congrFun (x_up_n _ _ _ (by omega)) _) (Eq.trans (congrFun (x_up_n _ _ _ (by omega)) _) rfl))))]; exact hch kk hkk), ⟨n, by omega, (Eq.trans (k196 62 11 (by decide)) (Eq.trans (x_up_k _ _ _ (by decide)) (Eq.trans (x_up_k _ _ _ (by decide)) (Eq.trans (x_up_k _ _ _ (by decide)) e_n))))⟩, (by rw [show M195 62 13 = M 62 13 from (Eq.trans (k196 62 13 (by unfold WRA; omega)) (Eq.trans (x_up_k _ _ _ (by omega)) (Eq.trans (x_up_k _ _ _ (by omega)) (Eq.trans (x_up_k _ _ _ (by omega)) rfl))))]; exact htx), ⟨b, by omega, (Eq.trans (k196 62 36 (by decide)) (Eq.trans (x_up_k _ _ _ (by decide)) (Eq.trans (x_up_k _ _ _ (by decide)) (Eq.trans (x_up_k _ _ _ (by decide)) e_b))))⟩, (fun j hj => by obtain ⟨q, hq, eq⟩ := hkd j hj; exact ⟨q, hq, (show M195 81 j = M 81 j from (Eq.trans (k196 81 j (by unfold WRA; omega)) (Eq.trans (congrFun (x_up_n _ _ _ (by omega)) _) (Eq.trans (congrFun (x_up_n _ _ _ (by omega)) _) (Eq.trans (congrFun (x_up_n _ _ _ (by omega)) _) rfl))))).trans eq⟩), ⟨0 + 5, by omega, hx192⟩, (fun j hj => by rw [show M195 83 j = M 83 j from (Eq.trans (k196 83 j (by unfold WRA; omega)) (Eq.trans (congrFun (x_up_n _ _ _ (by omega)) _) (Eq.trans (congrFun (x_up_n _ _ _ (by omega)) _) (Eq.trans (congrFun (x_up_n _ _ _ (by omega)) _) rfl)))), show M195 84 j = M 84 j from (Eq.trans (k196 84 j (by unfold WRA; omega)) (Eq.trans (congrFun (x_up_n _ _ _ (by omega)) _) (Eq.trans (congrFun (x_up_n _ _ _ (by omega)) _) (Eq.trans (congrFun (x_up_n _ _ _ (by omega)) _) rfl))))]; exact hsl j hj), ⟨ic, by omega, (Eq.trans (k196 62 34 (by decide)) (Eq.trans (x_up_k _ _ _ (by decide)) (Eq.trans (x_up_k _ _ _ (by decide)) (Eq.trans (x_up_k _ _ _ (by decide)) e_ic))))⟩, (fun j hj => by obtain ⟨q, hq, eq⟩ := hS j hj; exact ⟨q, hq, (show M195 75 j = M 75 j from (Eq.trans (k196 75 j (by unfold WRA; omega)) (Eq.trans (congrFun (x_up_n _ _ _ (by omega)) _) (Eq.trans (congrFun (x_up_n _ _ _ (by omega)) _) (Eq.trans (congrFun (x_up_n _ _ _ (by omega)) _) rfl))))).trans eq⟩)⟩, (Or.inr ⟨⟨by rw [e_b]; exact c1, by grind, by grind⟩, h_, 6, 3, by omega, by decide, by decide, rfl, eq9, w191, (hx192.trans (congrArg nI (Nat.zero_add _))), (TrA_F ht194)⟩)⟩⟩)
      refine xr_tableOut (tgt := 100) dX10_act_31 (xg_out (lo := 0) (hi := 3) (by decide) (fun j h1 h2 qq => by have h3 : j = 0 ∨ j = 1 ∨ j = 2 ∨ j = 3 := (by omega); rcases h3 with rfl | rfl | rfl | rfl <;> first | exact absurd qq w170 | exact absurd qq w177 | exact absurd qq w184 | exact absurd qq w191)) rfl ?_
      refine xr_iconst (v := 0) dX10_act_100 rfl ?_
      exact xr_iret dX10_act_101 rfl rfl (⟨_, rfl, rfl, rfl, (Ke.up (Or.inr (Or.inr (Or.inl (by omega)))) (Ke.up (Or.inr (Or.inl (by omega))) (Ke.up (Or.inl (by omega)) Ke.rf))), ⟨⟨⟨hn, by omega, (Eq.trans (x_up_k _ _ _ (by decide)) (Eq.trans (x_up_k _ _ _ (by decide)) (Eq.trans (x_up_k _ _ _ (by decide)) e_hn))), (fun kw hkw => by rw [show (x_up (x_up (x_up M 62 39 0) 62 40 6) 62 41 (nI (h_))) 63 (5 + kw) = M 63 (5 + kw) from (Eq.trans (congrFun (x_up_n _ _ _ (by omega)) _) (Eq.trans (congrFun (x_up_n _ _ _ (by omega)) _) (Eq.trans (congrFun (x_up_n _ _ _ (by omega)) _) rfl)))]; exact hw kw hkw)⟩, (by rw [show (x_up (x_up (x_up M 62 39 0) 62 40 6) 62 41 (nI (h_))) 63 16 = M 63 16 from (Eq.trans (congrFun (x_up_n _ _ _ (by omega)) _) (Eq.trans (congrFun (x_up_n _ _ _ (by omega)) _) (Eq.trans (congrFun (x_up_n _ _ _ (by omega)) _) rfl)))]; exact hbt), ⟨un, wn, by omega, by omega, (Eq.trans (x_up_k _ _ _ (by decide)) (Eq.trans (x_up_k _ _ _ (by decide)) (Eq.trans (x_up_k _ _ _ (by decide)) e_un))), (Eq.trans (x_up_k _ _ _ (by decide)) (Eq.trans (x_up_k _ _ _ (by decide)) (Eq.trans (x_up_k _ _ _ (by decide)) e_wn)))⟩, (fun kk hkk => by rw [show (x_up (x_up (x_up M 62 39 0) 62 40 6) 62 41 (nI (h_))) 64 kk = M 64 kk from (Eq.trans (congrFun (x_up_n _ _ _ (by omega)) _) (Eq.trans (congrFun (x_up_n _ _ _ (by omega)) _) (Eq.trans (congrFun (x_up_n _ _ _ (by omega)) _) rfl))), show (x_up (x_up (x_up M 62 39 0) 62 40 6) 62 41 (nI (h_))) 65 kk = M 65 kk from (Eq.trans (congrFun (x_up_n _ _ _ (by omega)) _) (Eq.trans (congrFun (x_up_n _ _ _ (by omega)) _) (Eq.trans (congrFun (x_up_n _ _ _ (by omega)) _) rfl))), show (x_up (x_up (x_up M 62 39 0) 62 40 6) 62 41 (nI (h_))) 66 kk = M 66 kk from (Eq.trans (congrFun (x_up_n _ _ _ (by omega)) _) (Eq.trans (congrFun (x_up_n _ _ _ (by omega)) _) (Eq.trans (congrFun (x_up_n _ _ _ (by omega)) _) rfl)))]; exact hch kk hkk), ⟨n, by omega, (Eq.trans (x_up_k _ _ _ (by decide)) (Eq.trans (x_up_k _ _ _ (by decide)) (Eq.trans (x_up_k _ _ _ (by decide)) e_n)))⟩, (by rw [show (x_up (x_up (x_up M 62 39 0) 62 40 6) 62 41 (nI (h_))) 62 13 = M 62 13 from (Eq.trans (x_up_k _ _ _ (by omega)) (Eq.trans (x_up_k _ _ _ (by omega)) (Eq.trans (x_up_k _ _ _ (by omega)) rfl)))]; exact htx), ⟨b, by omega, (Eq.trans (x_up_k _ _ _ (by decide)) (Eq.trans (x_up_k _ _ _ (by decide)) (Eq.trans (x_up_k _ _ _ (by decide)) e_b)))⟩, (fun j hj => by obtain ⟨q, hq, eq⟩ := hkd j hj; exact ⟨q, hq, (show (x_up (x_up (x_up M 62 39 0) 62 40 6) 62 41 (nI (h_))) 81 j = M 81 j from (Eq.trans (congrFun (x_up_n _ _ _ (by omega)) _) (Eq.trans (congrFun (x_up_n _ _ _ (by omega)) _) (Eq.trans (congrFun (x_up_n _ _ _ (by omega)) _) rfl)))).trans eq⟩), ⟨0, by omega, (Eq.trans (x_up_k _ _ _ (by decide)) (Eq.trans (x_up_k _ _ _ (by decide)) (x_up_s _ _ _ _)))⟩, (fun j hj => by rw [show (x_up (x_up (x_up M 62 39 0) 62 40 6) 62 41 (nI (h_))) 83 j = M 83 j from (Eq.trans (congrFun (x_up_n _ _ _ (by omega)) _) (Eq.trans (congrFun (x_up_n _ _ _ (by omega)) _) (Eq.trans (congrFun (x_up_n _ _ _ (by omega)) _) rfl))), show (x_up (x_up (x_up M 62 39 0) 62 40 6) 62 41 (nI (h_))) 84 j = M 84 j from (Eq.trans (congrFun (x_up_n _ _ _ (by omega)) _) (Eq.trans (congrFun (x_up_n _ _ _ (by omega)) _) (Eq.trans (congrFun (x_up_n _ _ _ (by omega)) _) rfl)))]; exact hsl j hj), ⟨ic, by omega, (Eq.trans (x_up_k _ _ _ (by decide)) (Eq.trans (x_up_k _ _ _ (by decide)) (Eq.trans (x_up_k _ _ _ (by decide)) e_ic)))⟩, (fun j hj => by obtain ⟨q, hq, eq⟩ := hS j hj; exact ⟨q, hq, (show (x_up (x_up (x_up M 62 39 0) 62 40 6) 62 41 (nI (h_))) 75 j = M 75 j from (Eq.trans (congrFun (x_up_n _ _ _ (by omega)) _) (Eq.trans (congrFun (x_up_n _ _ _ (by omega)) _) (Eq.trans (congrFun (x_up_n _ _ _ (by omega)) _) rfl)))).trans eq⟩)⟩, (Or.inl ⟨(fun q => absurd q.2 (by grind)), (Eq.trans (x_up_k _ _ _ (by decide)) (Eq.trans (x_up_k _ _ _ (by decide)) (x_up_s _ _ _ _)))⟩)⟩⟩)
    · refine xr_aload_n dX10_act_15 0 rfl ?_
      refine xr_aload_n dX10_act_16 0 rfl ?_
      refine xr_getR flX10_69 dX10_act_17 s_62 rfl ?_
      refine xr_iload_n dX10_act_20 1 rfl ?_
      refine xb_iald (j := h_) (v := 7) dX10_act_21 s_81 (by omega) (by decide) (Eq.trans (congrFun (x_up_n _ _ _ (by decide)) _) eq9) ?_
      refine xr_putI fpX10_352 dX10_act_22 s_62 rfl rfl rfl ?_
      refine xr_aload_n dX10_act_25 0 rfl ?_
      refine xr_iload_n dX10_act_26 1 rfl ?_
      refine xr_putI fpX10_346 dX10_act_27 s_62 rfl rfl rfl ?_
      refine xr_iload_n dX10_act_30 2 rfl ?_
      refine xg_eq 0 (fun w198 => ?_) (fun w198 => ?_)
      · refine xr_tableIn (tgt := 60) dX10_act_31 (by decide) (by decide) rfl rfl ?_
        refine xr_aload_n dX10_act_60 0 rfl ?_
        refine xr_aload_n dX10_act_61 0 rfl ?_
        refine xb_get (v := 7) flX10_352 dX10_act_62 s_62 rfl (Eq.trans (x_up_k _ _ _ (by decide)) (x_up_s _ _ _ _)) ?_
        refine xr_iload_n dX10_act_65 3 rfl ?_
        refine xr_callV (As := [.int (7), .int (x)]) (rest := []) mlX10_343 (rv7_pushesAs_7 (ac := h_) (ra := 0) x (by omega) (Eq.trans (x_up_k _ _ _ (by decide)) (Eq.trans (x_up_k _ _ _ (by decide)) (x_up_s _ _ _ _))) (Eq.trans (x_up_k _ _ _ (by decide)) (x_up_s _ _ _ _)) (x_up_s _ _ _ _)) dX10_act_66 s_62 rfl rfl (Nat.le_of_ble_eq_true rfl) (by decide) ⟨by decide, by decide⟩ (fun v s2 M202 J2 hq => ?_)
        obtain ⟨r204, rfl, rfl, rfl, k203, ⟨hr200, hx199, ht201⟩⟩ := hq
        try dsimp only [Option.toList, List.cons_append, List.nil_append]
        exact xr_iret dX10_act_69 rfl rfl (⟨_, rfl, rfl, rfl, (Ke.tr (fun pp kk => (fun hh => Or.elim hh (fun h => (Or.inl h)) (fun h => (Or.inr (Or.inr (Or.inr h)))))) (Ke.up (Or.inr (Or.inr (Or.inl (by omega)))) (Ke.up (Or.inr (Or.inl (by omega))) (Ke.up (Or.inl (by omega)) Ke.rf))) k203), ⟨⟨⟨hn, by omega, (Eq.trans (k203 62 6 (by decide)) (Eq.trans (x_up_k _ _ _ (by decide)) (Eq.trans (x_up_k _ _ _ (by decide)) (Eq.trans (x_up_k _ _ _ (by decide)) e_hn)))), (fun kw hkw => by rw [show M202 63 (5 + kw) = M 63 (5 + kw) from (Eq.trans (k203 63 (5 + kw) (by unfold WRA; omega)) (Eq.trans (congrFun (x_up_n _ _ _ (by omega)) _) (Eq.trans (congrFun (x_up_n _ _ _ (by omega)) _) (Eq.trans (congrFun (x_up_n _ _ _ (by omega)) _) rfl))))]; exact hw kw hkw)⟩, (by rw [show M202 63 16 = M 63 16 from (Eq.trans (k203 63 16 (by unfold WRA; omega)) (Eq.trans (congrFun (x_up_n _ _ _ (by omega)) _) (Eq.trans (congrFun (x_up_n _ _ _ (by omega)) _) (Eq.trans (congrFun (x_up_n _ _ _ (by omega)) _) rfl))))]; exact hbt), ⟨un, wn, by omega, by omega, (Eq.trans (k203 62 5 (by decide)) (Eq.trans (x_up_k _ _ _ (by decide)) (Eq.trans (x_up_k _ _ _ (by decide)) (Eq.trans (x_up_k _ _ _ (by decide)) e_un)))), (Eq.trans (k203 62 4 (by decide)) (Eq.trans (x_up_k _ _ _ (by decide)) (Eq.trans (x_up_k _ _ _ (by decide)) (Eq.trans (x_up_k _ _ _ (by decide)) e_wn))))⟩, (fun kk hkk => by rw [show M202 64 kk = M 64 kk from (Eq.trans (k203 64 kk (by unfold WRA; omega)) (Eq.trans (congrFun (x_up_n _ _ _ (by omega)) _) (Eq.trans (congrFun (x_up_n _ _ _ (by omega)) _) (Eq.trans (congrFun (x_up_n _ _ _ (by omega)) _) rfl)))), show M202 65 kk = M 65 kk from (Eq.trans (k203 65 kk (by unfold WRA; omega)) (Eq.trans (congrFun (x_up_n _ _ _ (by omega)) _) (Eq.trans (congrFun (x_up_n _ _ _ (by omega)) _) (Eq.trans (congrFun (x_up_n _ _ _ (by omega)) _) rfl)))), show M202 66 kk = M 66 kk from (Eq.trans (k203 66 kk (by unfold WRA; omega)) (Eq.trans (congrFun (x_up_n _ _ _ (by omega)) _) (Eq.trans (congrFun (x_up_n _ _ _ (by omega)) _) (Eq.trans (congrFun (x_up_n _ _ _ (by omega)) _) rfl))))]; exact hch kk hkk), ⟨n, by omega, (Eq.trans (k203 62 11 (by decide)) (Eq.trans (x_up_k _ _ _ (by decide)) (Eq.trans (x_up_k _ _ _ (by decide)) (Eq.trans (x_up_k _ _ _ (by decide)) e_n))))⟩, (by rw [show M202 62 13 = M 62 13 from (Eq.trans (k203 62 13 (by unfold WRA; omega)) (Eq.trans (x_up_k _ _ _ (by omega)) (Eq.trans (x_up_k _ _ _ (by omega)) (Eq.trans (x_up_k _ _ _ (by omega)) rfl))))]; exact htx), ⟨b, by omega, (Eq.trans (k203 62 36 (by decide)) (Eq.trans (x_up_k _ _ _ (by decide)) (Eq.trans (x_up_k _ _ _ (by decide)) (Eq.trans (x_up_k _ _ _ (by decide)) e_b))))⟩, (fun j hj => by obtain ⟨q, hq, eq⟩ := hkd j hj; exact ⟨q, hq, (show M202 81 j = M 81 j from (Eq.trans (k203 81 j (by unfold WRA; omega)) (Eq.trans (congrFun (x_up_n _ _ _ (by omega)) _) (Eq.trans (congrFun (x_up_n _ _ _ (by omega)) _) (Eq.trans (congrFun (x_up_n _ _ _ (by omega)) _) rfl))))).trans eq⟩), ⟨0 + 2, by omega, hx199⟩, (fun j hj => by rw [show M202 83 j = M 83 j from (Eq.trans (k203 83 j (by unfold WRA; omega)) (Eq.trans (congrFun (x_up_n _ _ _ (by omega)) _) (Eq.trans (congrFun (x_up_n _ _ _ (by omega)) _) (Eq.trans (congrFun (x_up_n _ _ _ (by omega)) _) rfl)))), show M202 84 j = M 84 j from (Eq.trans (k203 84 j (by unfold WRA; omega)) (Eq.trans (congrFun (x_up_n _ _ _ (by omega)) _) (Eq.trans (congrFun (x_up_n _ _ _ (by omega)) _) (Eq.trans (congrFun (x_up_n _ _ _ (by omega)) _) rfl))))]; exact hsl j hj), ⟨ic, by omega, (Eq.trans (k203 62 34 (by decide)) (Eq.trans (x_up_k _ _ _ (by decide)) (Eq.trans (x_up_k _ _ _ (by decide)) (Eq.trans (x_up_k _ _ _ (by decide)) e_ic))))⟩, (fun j hj => by obtain ⟨q, hq, eq⟩ := hS j hj; exact ⟨q, hq, (show M202 75 j = M 75 j from (Eq.trans (k203 75 j (by unfold WRA; omega)) (Eq.trans (congrFun (x_up_n _ _ _ (by omega)) _) (Eq.trans (congrFun (x_up_n _ _ _ (by omega)) _) (Eq.trans (congrFun (x_up_n _ _ _ (by omega)) _) rfl))))).trans eq⟩)⟩, (Or.inr ⟨⟨by rw [e_b]; exact c1, by grind, by grind⟩, h_, 7, 0, by omega, by decide, by decide, rfl, eq9, w198, (hx199.trans (congrArg nI (Nat.zero_add _))), (TrA_F ht201)⟩)⟩⟩)
      refine xg_eq 1 (fun w205 => ?_) (fun w205 => ?_)
      · refine xr_tableIn (tgt := 70) dX10_act_31 (by decide) (by decide) rfl rfl ?_
        refine xr_aload_n dX10_act_70 0 rfl ?_
        refine xr_aload_n dX10_act_71 0 rfl ?_
        refine xb_get (v := 7) flX10_352 dX10_act_72 s_62 rfl (Eq.trans (x_up_k _ _ _ (by decide)) (x_up_s _ _ _ _)) ?_
        refine xr_iload_n dX10_act_75 3 rfl ?_
        refine xr_callV (As := [.int (7), .int (x)]) (rest := []) mlX10_349 (rv7_turnsAs_7 (ac := h_) (ra := 0) x (by omega) (Eq.trans (x_up_k _ _ _ (by decide)) (Eq.trans (x_up_k _ _ _ (by decide)) (x_up_s _ _ _ _))) (Eq.trans (x_up_k _ _ _ (by decide)) (x_up_s _ _ _ _)) (x_up_s _ _ _ _)) dX10_act_76 s_62 rfl rfl (Nat.le_of_ble_eq_true rfl) (by decide) ⟨by decide, by decide⟩ (fun v s2 M209 J2 hq => ?_)
        obtain ⟨r211, rfl, rfl, rfl, k210, ⟨hr207, hx206, ht208⟩⟩ := hq
        try dsimp only [Option.toList, List.cons_append, List.nil_append]
        exact xr_iret dX10_act_79 rfl rfl (⟨_, rfl, rfl, rfl, (Ke.tr (fun pp kk => (fun hh => Or.elim hh (fun h => (Or.inl h)) (fun h => (Or.inr (Or.inr (Or.inr h)))))) (Ke.up (Or.inr (Or.inr (Or.inl (by omega)))) (Ke.up (Or.inr (Or.inl (by omega))) (Ke.up (Or.inl (by omega)) Ke.rf))) k210), ⟨⟨⟨hn, by omega, (Eq.trans (k210 62 6 (by decide)) (Eq.trans (x_up_k _ _ _ (by decide)) (Eq.trans (x_up_k _ _ _ (by decide)) (Eq.trans (x_up_k _ _ _ (by decide)) e_hn)))), (fun kw hkw => by rw [show M209 63 (5 + kw) = M 63 (5 + kw) from (Eq.trans (k210 63 (5 + kw) (by unfold WRA; omega)) (Eq.trans (congrFun (x_up_n _ _ _ (by omega)) _) (Eq.trans (congrFun (x_up_n _ _ _ (by omega)) _) (Eq.trans (congrFun (x_up_n _ _ _ (by omega)) _) rfl))))]; exact hw kw hkw)⟩, (by rw [show M209 63 16 = M 63 16 from (Eq.trans (k210 63 16 (by unfold WRA; omega)) (Eq.trans (congrFun (x_up_n _ _ _ (by omega)) _) (Eq.trans (congrFun (x_up_n _ _ _ (by omega)) _) (Eq.trans (congrFun (x_up_n _ _ _ (by omega)) _) rfl))))]; exact hbt), ⟨un, wn, by omega, by omega, (Eq.trans (k210 62 5 (by decide)) (Eq.trans (x_up_k _ _ _ (by decide)) (Eq.trans (x_up_k _ _ _ (by decide)) (Eq.trans (x_up_k _ _ _ (by decide)) e_un)))), (Eq.trans (k210 62 4 (by decide)) (Eq.trans (x_up_k _ _ _ (by decide)) (Eq.trans (x_up_k _ _ _ (by decide)) (Eq.trans (x_up_k _ _ _ (by decide)) e_wn))))⟩, (fun kk hkk => by rw [show M209 64 kk = M 64 kk from (Eq.trans (k210 64 kk (by unfold WRA; omega)) (Eq.trans (congrFun (x_up_n _ _ _ (by omega)) _) (Eq.trans (congrFun (x_up_n _ _ _ (by omega)) _) (Eq.trans (congrFun (x_up_n _ _ _ (by omega)) _) rfl)))), show M209 65 kk = M 65 kk from (Eq.trans (k210 65 kk (by unfold WRA; omega)) (Eq.trans (congrFun (x_up_n _ _ _ (by omega)) _) (Eq.trans (congrFun (x_up_n _ _ _ (by omega)) _) (Eq.trans (congrFun (x_up_n _ _ _ (by omega)) _) rfl)))), show M209 66 kk = M 66 kk from (Eq.trans (k210 66 kk (by unfold WRA; omega)) (Eq.trans (congrFun (x_up_n _ _ _ (by omega)) _) (Eq.trans (congrFun (x_up_n _ _ _ (by omega)) _) (Eq.trans (congrFun (x_up_n _ _ _ (by omega)) _) rfl))))]; exact hch kk hkk), ⟨n, by omega, (Eq.trans (k210 62 11 (by decide)) (Eq.trans (x_up_k _ _ _ (by decide)) (Eq.trans (x_up_k _ _ _ (by decide)) (Eq.trans (x_up_k _ _ _ (by decide)) e_n))))⟩, (by rw [show M209 62 13 = M 62 13 from (Eq.trans (k210 62 13 (by unfold WRA; omega)) (Eq.trans (x_up_k _ _ _ (by omega)) (Eq.trans (x_up_k _ _ _ (by omega)) (Eq.trans (x_up_k _ _ _ (by omega)) rfl))))]; exact htx), ⟨b, by omega, (Eq.trans (k210 62 36 (by decide)) (Eq.trans (x_up_k _ _ _ (by decide)) (Eq.trans (x_up_k _ _ _ (by decide)) (Eq.trans (x_up_k _ _ _ (by decide)) e_b))))⟩, (fun j hj => by obtain ⟨q, hq, eq⟩ := hkd j hj; exact ⟨q, hq, (show M209 81 j = M 81 j from (Eq.trans (k210 81 j (by unfold WRA; omega)) (Eq.trans (congrFun (x_up_n _ _ _ (by omega)) _) (Eq.trans (congrFun (x_up_n _ _ _ (by omega)) _) (Eq.trans (congrFun (x_up_n _ _ _ (by omega)) _) rfl))))).trans eq⟩), ⟨0 + 8, by omega, hx206⟩, (fun j hj => by rw [show M209 83 j = M 83 j from (Eq.trans (k210 83 j (by unfold WRA; omega)) (Eq.trans (congrFun (x_up_n _ _ _ (by omega)) _) (Eq.trans (congrFun (x_up_n _ _ _ (by omega)) _) (Eq.trans (congrFun (x_up_n _ _ _ (by omega)) _) rfl)))), show M209 84 j = M 84 j from (Eq.trans (k210 84 j (by unfold WRA; omega)) (Eq.trans (congrFun (x_up_n _ _ _ (by omega)) _) (Eq.trans (congrFun (x_up_n _ _ _ (by omega)) _) (Eq.trans (congrFun (x_up_n _ _ _ (by omega)) _) rfl))))]; exact hsl j hj), ⟨ic, by omega, (Eq.trans (k210 62 34 (by decide)) (Eq.trans (x_up_k _ _ _ (by decide)) (Eq.trans (x_up_k _ _ _ (by decide)) (Eq.trans (x_up_k _ _ _ (by decide)) e_ic))))⟩, (fun j hj => by obtain ⟨q, hq, eq⟩ := hS j hj; exact ⟨q, hq, (show M209 75 j = M 75 j from (Eq.trans (k210 75 j (by unfold WRA; omega)) (Eq.trans (congrFun (x_up_n _ _ _ (by omega)) _) (Eq.trans (congrFun (x_up_n _ _ _ (by omega)) _) (Eq.trans (congrFun (x_up_n _ _ _ (by omega)) _) rfl))))).trans eq⟩)⟩, (Or.inr ⟨⟨by rw [e_b]; exact c1, by grind, by grind⟩, h_, 7, 1, by omega, by decide, by decide, rfl, eq9, w205, (hx206.trans (congrArg nI (Nat.zero_add _))), (TrA_F ht208)⟩)⟩⟩)
      refine xg_eq 2 (fun w212 => ?_) (fun w212 => ?_)
      · refine xr_tableIn (tgt := 80) dX10_act_31 (by decide) (by decide) rfl rfl ?_
        refine xr_aload_n dX10_act_80 0 rfl ?_
        refine xr_aload_n dX10_act_81 0 rfl ?_
        refine xb_get (v := 7) flX10_352 dX10_act_82 s_62 rfl (Eq.trans (x_up_k _ _ _ (by decide)) (x_up_s _ _ _ _)) ?_
        refine xr_iload_n dX10_act_85 3 rfl ?_
        refine xr_callV (As := [.int (7), .int (x)]) (rest := []) mlX10_355 (rv7_sinksAs_7 (ac := h_) (ra := 0) x (by omega) (Eq.trans (x_up_k _ _ _ (by decide)) (Eq.trans (x_up_k _ _ _ (by decide)) (x_up_s _ _ _ _))) (Eq.trans (x_up_k _ _ _ (by decide)) (x_up_s _ _ _ _)) (x_up_s _ _ _ _)) dX10_act_86 s_62 rfl rfl (Nat.le_of_ble_eq_true rfl) (by decide) ⟨by decide, by decide⟩ (fun v s2 M216 J2 hq => ?_)
        obtain ⟨r218, rfl, rfl, rfl, k217, ⟨hr214, hx213, ht215⟩⟩ := hq
        try dsimp only [Option.toList, List.cons_append, List.nil_append]
        exact xr_iret dX10_act_89 rfl rfl (⟨_, rfl, rfl, rfl, (Ke.tr (fun pp kk => (fun hh => Or.elim hh (fun h => (Or.inl h)) (fun h => (Or.inr (Or.inr (Or.inr h)))))) (Ke.up (Or.inr (Or.inr (Or.inl (by omega)))) (Ke.up (Or.inr (Or.inl (by omega))) (Ke.up (Or.inl (by omega)) Ke.rf))) k217), ⟨⟨⟨hn, by omega, (Eq.trans (k217 62 6 (by decide)) (Eq.trans (x_up_k _ _ _ (by decide)) (Eq.trans (x_up_k _ _ _ (by decide)) (Eq.trans (x_up_k _ _ _ (by decide)) e_hn)))), (fun kw hkw => by rw [show M216 63 (5 + kw) = M 63 (5 + kw) from (Eq.trans (k217 63 (5 + kw) (by unfold WRA; omega)) (Eq.trans (congrFun (x_up_n _ _ _ (by omega)) _) (Eq.trans (congrFun (x_up_n _ _ _ (by omega)) _) (Eq.trans (congrFun (x_up_n _ _ _ (by omega)) _) rfl))))]; exact hw kw hkw)⟩, (by rw [show M216 63 16 = M 63 16 from (Eq.trans (k217 63 16 (by unfold WRA; omega)) (Eq.trans (congrFun (x_up_n _ _ _ (by omega)) _) (Eq.trans (congrFun (x_up_n _ _ _ (by omega)) _) (Eq.trans (congrFun (x_up_n _ _ _ (by omega)) _) rfl))))]; exact hbt), ⟨un, wn, by omega, by omega, (Eq.trans (k217 62 5 (by decide)) (Eq.trans (x_up_k _ _ _ (by decide)) (Eq.trans (x_up_k _ _ _ (by decide)) (Eq.trans (x_up_k _ _ _ (by decide)) e_un)))), (Eq.trans (k217 62 4 (by decide)) (Eq.trans (x_up_k _ _ _ (by decide)) (Eq.trans (x_up_k _ _ _ (by decide)) (Eq.trans (x_up_k _ _ _ (by decide)) e_wn))))⟩, (fun kk hkk => by rw [show M216 64 kk = M 64 kk from (Eq.trans (k217 64 kk (by unfold WRA; omega)) (Eq.trans (congrFun (x_up_n _ _ _ (by omega)) _) (Eq.trans (congrFun (x_up_n _ _ _ (by omega)) _) (Eq.trans (congrFun (x_up_n _ _ _ (by omega)) _) rfl)))), show M216 65 kk = M 65 kk from (Eq.trans (k217 65 kk (by unfold WRA; omega)) (Eq.trans (congrFun (x_up_n _ _ _ (by omega)) _) (Eq.trans (congrFun (x_up_n _ _ _ (by omega)) _) (Eq.trans (congrFun (x_up_n _ _ _ (by omega)) _) rfl)))), show M216 66 kk = M 66 kk from (Eq.trans (k217 66 kk (by unfold WRA; omega)) (Eq.trans (congrFun (x_up_n _ _ _ (by omega)) _) (Eq.trans (congrFun (x_up_n _ _ _ (by omega)) _) (Eq.trans (congrFun (x_up_n _ _ _ (by omega)) _) rfl))))]; exact hch kk hkk), ⟨n, by omega, (Eq.trans (k217 62 11 (by decide)) (Eq.trans (x_up_k _ _ _ (by decide)) (Eq.trans (x_up_k _ _ _ (by decide)) (Eq.trans (x_up_k _ _ _ (by decide)) e_n))))⟩, (by rw [show M216 62 13 = M 62 13 from (Eq.trans (k217 62 13 (by unfold WRA; omega)) (Eq.trans (x_up_k _ _ _ (by omega)) (Eq.trans (x_up_k _ _ _ (by omega)) (Eq.trans (x_up_k _ _ _ (by omega)) rfl))))]; exact htx), ⟨b, by omega, (Eq.trans (k217 62 36 (by decide)) (Eq.trans (x_up_k _ _ _ (by decide)) (Eq.trans (x_up_k _ _ _ (by decide)) (Eq.trans (x_up_k _ _ _ (by decide)) e_b))))⟩, (fun j hj => by obtain ⟨q, hq, eq⟩ := hkd j hj; exact ⟨q, hq, (show M216 81 j = M 81 j from (Eq.trans (k217 81 j (by unfold WRA; omega)) (Eq.trans (congrFun (x_up_n _ _ _ (by omega)) _) (Eq.trans (congrFun (x_up_n _ _ _ (by omega)) _) (Eq.trans (congrFun (x_up_n _ _ _ (by omega)) _) rfl))))).trans eq⟩), ⟨0 + 4, by omega, hx213⟩, (fun j hj => by rw [show M216 83 j = M 83 j from (Eq.trans (k217 83 j (by unfold WRA; omega)) (Eq.trans (congrFun (x_up_n _ _ _ (by omega)) _) (Eq.trans (congrFun (x_up_n _ _ _ (by omega)) _) (Eq.trans (congrFun (x_up_n _ _ _ (by omega)) _) rfl)))), show M216 84 j = M 84 j from (Eq.trans (k217 84 j (by unfold WRA; omega)) (Eq.trans (congrFun (x_up_n _ _ _ (by omega)) _) (Eq.trans (congrFun (x_up_n _ _ _ (by omega)) _) (Eq.trans (congrFun (x_up_n _ _ _ (by omega)) _) rfl))))]; exact hsl j hj), ⟨ic, by omega, (Eq.trans (k217 62 34 (by decide)) (Eq.trans (x_up_k _ _ _ (by decide)) (Eq.trans (x_up_k _ _ _ (by decide)) (Eq.trans (x_up_k _ _ _ (by decide)) e_ic))))⟩, (fun j hj => by obtain ⟨q, hq, eq⟩ := hS j hj; exact ⟨q, hq, (show M216 75 j = M 75 j from (Eq.trans (k217 75 j (by unfold WRA; omega)) (Eq.trans (congrFun (x_up_n _ _ _ (by omega)) _) (Eq.trans (congrFun (x_up_n _ _ _ (by omega)) _) (Eq.trans (congrFun (x_up_n _ _ _ (by omega)) _) rfl))))).trans eq⟩)⟩, (Or.inr ⟨⟨by rw [e_b]; exact c1, by grind, by grind⟩, h_, 7, 2, by omega, by decide, by decide, rfl, eq9, w212, (hx213.trans (congrArg nI (Nat.zero_add _))), (TrA_F ht215)⟩)⟩⟩)
      refine xg_eq 3 (fun w219 => ?_) (fun w219 => ?_)
      · refine xr_tableIn (tgt := 90) dX10_act_31 (by decide) (by decide) rfl rfl ?_
        refine xr_aload_n dX10_act_90 0 rfl ?_
        refine xr_aload_n dX10_act_91 0 rfl ?_
        refine xb_get (v := 7) flX10_352 dX10_act_92 s_62 rfl (Eq.trans (x_up_k _ _ _ (by decide)) (x_up_s _ _ _ _)) ?_
        refine xr_iload_n dX10_act_95 3 rfl ?_
        refine xr_callV (As := [.int (7), .int (x)]) (rest := []) mlX10_358 (rv7_tellsAs_7 (ac := h_) (ra := 0) x (by omega) (Eq.trans (x_up_k _ _ _ (by decide)) (Eq.trans (x_up_k _ _ _ (by decide)) (x_up_s _ _ _ _))) (Eq.trans (x_up_k _ _ _ (by decide)) (x_up_s _ _ _ _)) (x_up_s _ _ _ _)) dX10_act_96 s_62 rfl rfl (Nat.le_of_ble_eq_true rfl) (by decide) ⟨by decide, by decide⟩ (fun v s2 M223 J2 hq => ?_)
        obtain ⟨r225, rfl, rfl, rfl, k224, ⟨hr221, hx220, ht222⟩⟩ := hq
        try dsimp only [Option.toList, List.cons_append, List.nil_append]
        exact xr_iret dX10_act_99 rfl rfl (⟨_, rfl, rfl, rfl, (Ke.tr (fun pp kk => (fun hh => Or.elim hh (fun h => (Or.inl h)) (fun h => (Or.inr (Or.inr (Or.inr h)))))) (Ke.up (Or.inr (Or.inr (Or.inl (by omega)))) (Ke.up (Or.inr (Or.inl (by omega))) (Ke.up (Or.inl (by omega)) Ke.rf))) k224), ⟨⟨⟨hn, by omega, (Eq.trans (k224 62 6 (by decide)) (Eq.trans (x_up_k _ _ _ (by decide)) (Eq.trans (x_up_k _ _ _ (by decide)) (Eq.trans (x_up_k _ _ _ (by decide)) e_hn)))), (fun kw hkw => by rw [show M223 63 (5 + kw) = M 63 (5 + kw) from (Eq.trans (k224 63 (5 + kw) (by unfold WRA; omega)) (Eq.trans (congrFun (x_up_n _ _ _ (by omega)) _) (Eq.trans (congrFun (x_up_n _ _ _ (by omega)) _) (Eq.trans (congrFun (x_up_n _ _ _ (by omega)) _) rfl))))]; exact hw kw hkw)⟩, (by rw [show M223 63 16 = M 63 16 from (Eq.trans (k224 63 16 (by unfold WRA; omega)) (Eq.trans (congrFun (x_up_n _ _ _ (by omega)) _) (Eq.trans (congrFun (x_up_n _ _ _ (by omega)) _) (Eq.trans (congrFun (x_up_n _ _ _ (by omega)) _) rfl))))]; exact hbt), ⟨un, wn, by omega, by omega, (Eq.trans (k224 62 5 (by decide)) (Eq.trans (x_up_k _ _ _ (by decide)) (Eq.trans (x_up_k _ _ _ (by decide)) (Eq.trans (x_up_k _ _ _ (by decide)) e_un)))), (Eq.trans (k224 62 4 (by decide)) (Eq.trans (x_up_k _ _ _ (by decide)) (Eq.trans (x_up_k _ _ _ (by decide)) (Eq.trans (x_up_k _ _ _ (by decide)) e_wn))))⟩, (fun kk hkk => by rw [show M223 64 kk = M 64 kk from (Eq.trans (k224 64 kk (by unfold WRA; omega)) (Eq.trans (congrFun (x_up_n _ _ _ (by omega)) _) (Eq.trans (congrFun (x_up_n _ _ _ (by omega)) _) (Eq.trans (congrFun (x_up_n _ _ _ (by omega)) _) rfl)))), show M223 65 kk = M 65 kk from (Eq.trans (k224 65 kk (by unfold WRA; omega)) (Eq.trans (congrFun (x_up_n _ _ _ (by omega)) _) (Eq.trans (congrFun (x_up_n _ _ _ (by omega)) _) (Eq.trans (congrFun (x_up_n _ _ _ (by omega)) _) rfl)))), show M223 66 kk = M 66 kk from (Eq.trans (k224 66 kk (by unfold WRA; omega)) (Eq.trans (congrFun (x_up_n _ _ _ (by omega)) _) (Eq.trans (congrFun (x_up_n _ _ _ (by omega)) _) (Eq.trans (congrFun (x_up_n _ _ _ (by omega)) _) rfl))))]; exact hch kk hkk), ⟨n, by omega, (Eq.trans (k224 62 11 (by decide)) (Eq.trans (x_up_k _ _ _ (by decide)) (Eq.trans (x_up_k _ _ _ (by decide)) (Eq.trans (x_up_k _ _ _ (by decide)) e_n))))⟩, (by rw [show M223 62 13 = M 62 13 from (Eq.trans (k224 62 13 (by unfold WRA; omega)) (Eq.trans (x_up_k _ _ _ (by omega)) (Eq.trans (x_up_k _ _ _ (by omega)) (Eq.trans (x_up_k _ _ _ (by omega)) rfl))))]; exact htx), ⟨b, by omega, (Eq.trans (k224 62 36 (by decide)) (Eq.trans (x_up_k _ _ _ (by decide)) (Eq.trans (x_up_k _ _ _ (by decide)) (Eq.trans (x_up_k _ _ _ (by decide)) e_b))))⟩, (fun j hj => by obtain ⟨q, hq, eq⟩ := hkd j hj; exact ⟨q, hq, (show M223 81 j = M 81 j from (Eq.trans (k224 81 j (by unfold WRA; omega)) (Eq.trans (congrFun (x_up_n _ _ _ (by omega)) _) (Eq.trans (congrFun (x_up_n _ _ _ (by omega)) _) (Eq.trans (congrFun (x_up_n _ _ _ (by omega)) _) rfl))))).trans eq⟩), ⟨0 + 14, by omega, hx220⟩, (fun j hj => by rw [show M223 83 j = M 83 j from (Eq.trans (k224 83 j (by unfold WRA; omega)) (Eq.trans (congrFun (x_up_n _ _ _ (by omega)) _) (Eq.trans (congrFun (x_up_n _ _ _ (by omega)) _) (Eq.trans (congrFun (x_up_n _ _ _ (by omega)) _) rfl)))), show M223 84 j = M 84 j from (Eq.trans (k224 84 j (by unfold WRA; omega)) (Eq.trans (congrFun (x_up_n _ _ _ (by omega)) _) (Eq.trans (congrFun (x_up_n _ _ _ (by omega)) _) (Eq.trans (congrFun (x_up_n _ _ _ (by omega)) _) rfl))))]; exact hsl j hj), ⟨ic, by omega, (Eq.trans (k224 62 34 (by decide)) (Eq.trans (x_up_k _ _ _ (by decide)) (Eq.trans (x_up_k _ _ _ (by decide)) (Eq.trans (x_up_k _ _ _ (by decide)) e_ic))))⟩, (fun j hj => by obtain ⟨q, hq, eq⟩ := hS j hj; exact ⟨q, hq, (show M223 75 j = M 75 j from (Eq.trans (k224 75 j (by unfold WRA; omega)) (Eq.trans (congrFun (x_up_n _ _ _ (by omega)) _) (Eq.trans (congrFun (x_up_n _ _ _ (by omega)) _) (Eq.trans (congrFun (x_up_n _ _ _ (by omega)) _) rfl))))).trans eq⟩)⟩, (Or.inr ⟨⟨by rw [e_b]; exact c1, by grind, by grind⟩, h_, 7, 3, by omega, by decide, by decide, rfl, eq9, w219, (hx220.trans (congrArg nI (Nat.zero_add _))), (TrA_F ht222)⟩)⟩⟩)
      refine xr_tableOut (tgt := 100) dX10_act_31 (xg_out (lo := 0) (hi := 3) (by decide) (fun j h1 h2 qq => by have h3 : j = 0 ∨ j = 1 ∨ j = 2 ∨ j = 3 := (by omega); rcases h3 with rfl | rfl | rfl | rfl <;> first | exact absurd qq w198 | exact absurd qq w205 | exact absurd qq w212 | exact absurd qq w219)) rfl ?_
      refine xr_iconst (v := 0) dX10_act_100 rfl ?_
      exact xr_iret dX10_act_101 rfl rfl (⟨_, rfl, rfl, rfl, (Ke.up (Or.inr (Or.inr (Or.inl (by omega)))) (Ke.up (Or.inr (Or.inl (by omega))) (Ke.up (Or.inl (by omega)) Ke.rf))), ⟨⟨⟨hn, by omega, (Eq.trans (x_up_k _ _ _ (by decide)) (Eq.trans (x_up_k _ _ _ (by decide)) (Eq.trans (x_up_k _ _ _ (by decide)) e_hn))), (fun kw hkw => by rw [show (x_up (x_up (x_up M 62 39 0) 62 40 7) 62 41 (nI (h_))) 63 (5 + kw) = M 63 (5 + kw) from (Eq.trans (congrFun (x_up_n _ _ _ (by omega)) _) (Eq.trans (congrFun (x_up_n _ _ _ (by omega)) _) (Eq.trans (congrFun (x_up_n _ _ _ (by omega)) _) rfl)))]; exact hw kw hkw)⟩, (by rw [show (x_up (x_up (x_up M 62 39 0) 62 40 7) 62 41 (nI (h_))) 63 16 = M 63 16 from (Eq.trans (congrFun (x_up_n _ _ _ (by omega)) _) (Eq.trans (congrFun (x_up_n _ _ _ (by omega)) _) (Eq.trans (congrFun (x_up_n _ _ _ (by omega)) _) rfl)))]; exact hbt), ⟨un, wn, by omega, by omega, (Eq.trans (x_up_k _ _ _ (by decide)) (Eq.trans (x_up_k _ _ _ (by decide)) (Eq.trans (x_up_k _ _ _ (by decide)) e_un))), (Eq.trans (x_up_k _ _ _ (by decide)) (Eq.trans (x_up_k _ _ _ (by decide)) (Eq.trans (x_up_k _ _ _ (by decide)) e_wn)))⟩, (fun kk hkk => by rw [show (x_up (x_up (x_up M 62 39 0) 62 40 7) 62 41 (nI (h_))) 64 kk = M 64 kk from (Eq.trans (congrFun (x_up_n _ _ _ (by omega)) _) (Eq.trans (congrFun (x_up_n _ _ _ (by omega)) _) (Eq.trans (congrFun (x_up_n _ _ _ (by omega)) _) rfl))), show (x_up (x_up (x_up M 62 39 0) 62 40 7) 62 41 (nI (h_))) 65 kk = M 65 kk from (Eq.trans (congrFun (x_up_n _ _ _ (by omega)) _) (Eq.trans (congrFun (x_up_n _ _ _ (by omega)) _) (Eq.trans (congrFun (x_up_n _ _ _ (by omega)) _) rfl))), show (x_up (x_up (x_up M 62 39 0) 62 40 7) 62 41 (nI (h_))) 66 kk = M 66 kk from (Eq.trans (congrFun (x_up_n _ _ _ (by omega)) _) (Eq.trans (congrFun (x_up_n _ _ _ (by omega)) _) (Eq.trans (congrFun (x_up_n _ _ _ (by omega)) _) rfl)))]; exact hch kk hkk), ⟨n, by omega, (Eq.trans (x_up_k _ _ _ (by decide)) (Eq.trans (x_up_k _ _ _ (by decide)) (Eq.trans (x_up_k _ _ _ (by decide)) e_n)))⟩, (by rw [show (x_up (x_up (x_up M 62 39 0) 62 40 7) 62 41 (nI (h_))) 62 13 = M 62 13 from (Eq.trans (x_up_k _ _ _ (by omega)) (Eq.trans (x_up_k _ _ _ (by omega)) (Eq.trans (x_up_k _ _ _ (by omega)) rfl)))]; exact htx), ⟨b, by omega, (Eq.trans (x_up_k _ _ _ (by decide)) (Eq.trans (x_up_k _ _ _ (by decide)) (Eq.trans (x_up_k _ _ _ (by decide)) e_b)))⟩, (fun j hj => by obtain ⟨q, hq, eq⟩ := hkd j hj; exact ⟨q, hq, (show (x_up (x_up (x_up M 62 39 0) 62 40 7) 62 41 (nI (h_))) 81 j = M 81 j from (Eq.trans (congrFun (x_up_n _ _ _ (by omega)) _) (Eq.trans (congrFun (x_up_n _ _ _ (by omega)) _) (Eq.trans (congrFun (x_up_n _ _ _ (by omega)) _) rfl)))).trans eq⟩), ⟨0, by omega, (Eq.trans (x_up_k _ _ _ (by decide)) (Eq.trans (x_up_k _ _ _ (by decide)) (x_up_s _ _ _ _)))⟩, (fun j hj => by rw [show (x_up (x_up (x_up M 62 39 0) 62 40 7) 62 41 (nI (h_))) 83 j = M 83 j from (Eq.trans (congrFun (x_up_n _ _ _ (by omega)) _) (Eq.trans (congrFun (x_up_n _ _ _ (by omega)) _) (Eq.trans (congrFun (x_up_n _ _ _ (by omega)) _) rfl))), show (x_up (x_up (x_up M 62 39 0) 62 40 7) 62 41 (nI (h_))) 84 j = M 84 j from (Eq.trans (congrFun (x_up_n _ _ _ (by omega)) _) (Eq.trans (congrFun (x_up_n _ _ _ (by omega)) _) (Eq.trans (congrFun (x_up_n _ _ _ (by omega)) _) rfl)))]; exact hsl j hj), ⟨ic, by omega, (Eq.trans (x_up_k _ _ _ (by decide)) (Eq.trans (x_up_k _ _ _ (by decide)) (Eq.trans (x_up_k _ _ _ (by decide)) e_ic)))⟩, (fun j hj => by obtain ⟨q, hq, eq⟩ := hS j hj; exact ⟨q, hq, (show (x_up (x_up (x_up M 62 39 0) 62 40 7) 62 41 (nI (h_))) 75 j = M 75 j from (Eq.trans (congrFun (x_up_n _ _ _ (by omega)) _) (Eq.trans (congrFun (x_up_n _ _ _ (by omega)) _) (Eq.trans (congrFun (x_up_n _ _ _ (by omega)) _) rfl)))).trans eq⟩)⟩, (Or.inl ⟨(fun q => absurd q.2 (by grind)), (Eq.trans (x_up_k _ _ _ (by decide)) (Eq.trans (x_up_k _ _ _ (by decide)) (x_up_s _ _ _ _)))⟩)⟩⟩)
  · refine xr_iconst (v := 0) dX10_act_13 rfl ?_
    exact xr_iret dX10_act_14 rfl rfl (⟨_, rfl, rfl, rfl, (Ke.up (Or.inl (by omega)) Ke.rf), ⟨⟨⟨hn, by omega, (Eq.trans (x_up_k _ _ _ (by decide)) e_hn), (fun kw hkw => by rw [show (x_up M 62 39 0) 63 (5 + kw) = M 63 (5 + kw) from (Eq.trans (congrFun (x_up_n _ _ _ (by omega)) _) rfl)]; exact hw kw hkw)⟩, (by rw [show (x_up M 62 39 0) 63 16 = M 63 16 from (Eq.trans (congrFun (x_up_n _ _ _ (by omega)) _) rfl)]; exact hbt), ⟨un, wn, by omega, by omega, (Eq.trans (x_up_k _ _ _ (by decide)) e_un), (Eq.trans (x_up_k _ _ _ (by decide)) e_wn)⟩, (fun kk hkk => by rw [show (x_up M 62 39 0) 64 kk = M 64 kk from (Eq.trans (congrFun (x_up_n _ _ _ (by omega)) _) rfl), show (x_up M 62 39 0) 65 kk = M 65 kk from (Eq.trans (congrFun (x_up_n _ _ _ (by omega)) _) rfl), show (x_up M 62 39 0) 66 kk = M 66 kk from (Eq.trans (congrFun (x_up_n _ _ _ (by omega)) _) rfl)]; exact hch kk hkk), ⟨n, by omega, (Eq.trans (x_up_k _ _ _ (by decide)) e_n)⟩, (by rw [show (x_up M 62 39 0) 62 13 = M 62 13 from (Eq.trans (x_up_k _ _ _ (by omega)) rfl)]; exact htx), ⟨b, by omega, (Eq.trans (x_up_k _ _ _ (by decide)) e_b)⟩, (fun j hj => by obtain ⟨q, hq, eq⟩ := hkd j hj; exact ⟨q, hq, (show (x_up M 62 39 0) 81 j = M 81 j from (Eq.trans (congrFun (x_up_n _ _ _ (by omega)) _) rfl)).trans eq⟩), ⟨0, by omega, (x_up_s _ _ _ _)⟩, (fun j hj => by rw [show (x_up M 62 39 0) 83 j = M 83 j from (Eq.trans (congrFun (x_up_n _ _ _ (by omega)) _) rfl), show (x_up M 62 39 0) 84 j = M 84 j from (Eq.trans (congrFun (x_up_n _ _ _ (by omega)) _) rfl)]; exact hsl j hj), ⟨ic, by omega, (Eq.trans (x_up_k _ _ _ (by decide)) e_ic)⟩, (fun j hj => by obtain ⟨q, hq, eq⟩ := hS j hj; exact ⟨q, hq, (show (x_up M 62 39 0) 75 j = M 75 j from (Eq.trans (congrFun (x_up_n _ _ _ (by omega)) _) rfl)).trans eq⟩)⟩, (Or.inl ⟨(fun q => c1 (by have q1 := q.1; rw [e_b] at q1; exact q1)), (x_up_s _ _ _ _)⟩)⟩⟩)
set_option maxRecDepth 100000 in
set_option maxHeartbeats 4000000 in
theorem gs_X9_trace (i : Int32) {l : Launch} {G : xG} {M : xM} {J : xJ} (hI : InvC M) : x_M l G fX9_trace 0 0 0 [.ref (0), .int (i)] x_SH M J (qPI M J (fun r => ETc (M 46 3) (M 48) i r)) := by
  refine xb_of pX9 (Nat.le_of_ble_eq_true rfl) rfl ?_
  obtain ⟨⟨cn, h_cn, e_cn⟩, ⟨cm, h_cm, e_cm⟩, ⟨L, h_L, e_L⟩, hv, hD, ⟨n, h_n, e_n⟩, ⟨un, wn, h_uw, h_wn, e_un, e_wn⟩, ⟨b, h_b, e_b⟩, hkd, ⟨ra, h_ra, e_ra⟩, hsl, hS⟩ := hI
  refine xr_iload_n dX9_trace_0 1 rfl ?_
  refine xr_if_lt (tgt := 21) dX9_trace_1 rfl (fun c1 => ?_) (fun c1 => ?_)
  · refine xr_iconst (v := -1) dX9_trace_21 rfl ?_
    exact xr_iret dX9_trace_22 rfl rfl (⟨_, rfl, rfl, rfl, rfl, (Or.inl ⟨by grind, rfl⟩)⟩)
  · refine xr_iload_n dX9_trace_4 1 rfl ?_
    refine xr_aload_n dX9_trace_5 0 rfl ?_
    refine xr_getR flX9_61 dX9_trace_6 s_0 rfl ?_
    refine xb_get (v := nI (ra)) flX9_334 dX9_trace_9 s_46 rfl e_ra ?_
    refine xr_icmp_ge (tgt := 21) dX9_trace_12 rfl (fun c2 => ?_) (fun c2 => ?_)
    · refine xr_iconst (v := -1) dX9_trace_21 rfl ?_
      exact xr_iret dX9_trace_22 rfl rfl (⟨_, rfl, rfl, rfl, rfl, (Or.inl ⟨by grind, rfl⟩)⟩)
    · refine xr_iload_n dX9_trace_15 1 rfl ?_
      refine xr_bipush (v := 24) dX9_trace_16 rfl ?_
      refine xr_icmp_lt (tgt := 23) dX9_trace_18 rfl (fun c3 => ?_) (fun c3 => ?_)
      · obtain ⟨i_, hi_, rfl⟩ := x_natle (v := i) (N := 23) (K := 23) (by decide) (by decide) ⟨by grind, by grind⟩
        refine xr_aload_n dX9_trace_23 0 rfl ?_
        refine xr_getR flX9_61 dX9_trace_24 s_0 rfl ?_
        refine xr_getR flX9_341 dX9_trace_27 s_46 rfl ?_
        refine xr_iload_n dX9_trace_30 1 rfl ?_
        refine xb_iald (j := i_) (v := M 48 i_) dX9_trace_31 s_48 (by omega) (by decide) rfl ?_
        exact xr_iret dX9_trace_32 rfl rfl (⟨_, rfl, rfl, rfl, rfl, (Or.inr ⟨by grind, i_, by omega, rfl, rfl⟩)⟩)
      · refine xr_iconst (v := -1) dX9_trace_21 rfl ?_
        exact xr_iret dX9_trace_22 rfl rfl (⟨_, rfl, rfl, rfl, rfl, (Or.inl ⟨by grind, rfl⟩)⟩)
set_option maxRecDepth 100000 in
set_option maxHeartbeats 4000000 in
theorem gs_X10_trace (i : Int32) {l : Launch} {G : xG} {M : xM} {J : xJ} (hI : InvR M) : x_M l G fX10_trace 0 0 0 [.ref (62), .int (i)] x_SH M J (qPI M J (fun r => ETc (M 62 39) (M 82) i r)) := by
  refine xb_of pX10 (Nat.le_of_ble_eq_true rfl) rfl ?_
  obtain ⟨⟨hn, h_hn, e_hn, hw⟩, hbt, ⟨un, wn, h_uw, h_wn, e_un, e_wn⟩, hch, ⟨n, h_n, e_n⟩, htx, ⟨b, h_b, e_b⟩, hkd, ⟨ra, h_ra, e_ra⟩, hsl, ⟨ic, h_ic, e_ic⟩, hS⟩ := hI
  refine xr_iload_n dX10_trace_0 1 rfl ?_
  refine xr_if_lt (tgt := 27) dX10_trace_1 rfl (fun c1 => ?_) (fun c1 => ?_)
  · refine xr_iconst (v := -1) dX10_trace_27 rfl ?_
    exact xr_iret dX10_trace_28 rfl rfl (⟨_, rfl, rfl, rfl, rfl, (Or.inl ⟨by grind, rfl⟩)⟩)
  · refine xr_iload_n dX10_trace_4 1 rfl ?_
    refine xr_aload_n dX10_trace_5 0 rfl ?_
    refine xb_get (v := nI (ra)) flX10_337 dX10_trace_6 s_62 rfl e_ra ?_
    refine xr_icmp_ge (tgt := 27) dX10_trace_9 rfl (fun c2 => ?_) (fun c2 => ?_)
    · refine xr_iconst (v := -1) dX10_trace_27 rfl ?_
      exact xr_iret dX10_trace_28 rfl rfl (⟨_, rfl, rfl, rfl, rfl, (Or.inl ⟨by grind, rfl⟩)⟩)
    · refine xr_iload_n dX10_trace_12 1 rfl ?_
      refine xr_bipush (v := 24) dX10_trace_13 rfl ?_
      refine xr_icmp_ge (tgt := 27) dX10_trace_15 rfl (fun c3 => ?_) (fun c3 => ?_)
      · refine xr_iconst (v := -1) dX10_trace_27 rfl ?_
        exact xr_iret dX10_trace_28 rfl rfl (⟨_, rfl, rfl, rfl, rfl, (Or.inl ⟨by grind, rfl⟩)⟩)
      · obtain ⟨i_, hi_, rfl⟩ := x_natle (v := i) (N := 23) (K := 23) (by decide) (by decide) ⟨by grind, by grind⟩
        refine xr_aload_n dX10_trace_18 0 rfl ?_
        refine xr_getR flX10_72 dX10_trace_19 s_62 rfl ?_
        refine xr_iload_n dX10_trace_22 1 rfl ?_
        refine xb_iald (j := i_) (v := M 82 i_) dX10_trace_23 s_82 (by omega) (by decide) rfl ?_
        refine xr_goto (tgt := 28) dX10_trace_24 rfl ?_
        exact xr_iret dX10_trace_28 rfl rfl (⟨_, rfl, rfl, rfl, rfl, (Or.inr ⟨by grind, i_, by omega, rfl, rfl⟩)⟩)
def RA (M : xM) : Prop := M 46 3 = M 62 39 ∧ ∀ j, j < 24 → nI j < M 46 3 → M 48 j = M 82 j
theorem trL_n : ∀ K, K < 8 → ∀ a, a < 4 → (trL K a).length ≤ 900 := by decide
theorem jA_actT {M M1 M2 : xM} {h ac : Int32} (h9 : ETr (M 46 2) (M 47) h ac (M1 46 3) (M1 48)) (h10 : ETr (M1 62 36) (M1 81) h ac (M2 62 39) (M2 82)) (k9 : ∀ p k, 62 ≤ p → M1 p k = M p k) (k10 : ∀ p k, p < 62 → M2 p k = M1 p k) (hB : RB M) : RA M2 := by
  have e3 : M2 46 3 = M1 46 3 := k10 46 3 (by decide)
  have e8 : ∀ j, M2 48 j = M1 48 j := fun j => k10 48 j (by decide)
  rw [k9 62 36 (by decide), ← hB.1] at h10
  rcases h9 with ⟨h1, h3⟩ | ⟨h1, j, K, a, hj, hK, ha, e1, e2, e4, h3, h4⟩ <;> rcases h10 with ⟨g1, g3⟩ | ⟨g1, j2, K2, a2, hj2, hK2, ha2, f1, f2, f4, g3, g4⟩
  · exact ⟨e3.trans (h3.trans g3.symm), fun i hi q => absurd q (by rw [e3, h3]; exact nI_nlt (a := i) (b := 0) (by omega) (by omega))⟩
  · exact absurd g1 h1
  · exact absurd h1 g1
  · have ej : j = j2 := (nI_eq (by omega) (by omega)).mp (e1.symm.trans f1)
    subst ej
    have ea : a = a2 := (nI_eq (by omega) (by omega)).mp (e4.symm.trans f4)
    subst ea
    have eK : K = K2 := (nI_eq (by omega) (by omega)).mp (e2.symm.trans ((hB.2 j hj).trans ((k9 81 j (by decide)).symm.trans f2)))
    subst eK
    refine ⟨e3.trans (h3.trans g3.symm), fun i hi q => ?_⟩
    rw [e3, h3] at q
    have hn := trL_n K hK a ha
    have hi2 := (nI_ltI (a := i) (b := (trL K a).length) (by omega) (by omega)).mp q
    rw [e8, h4 i hi hi2, g4 i hi hi2]
