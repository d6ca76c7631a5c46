theorem nx_nb {M : xM} {T : Nat → Int32} {a E : Nat} (h7 : M 7 = T) (h3 : M 6 3 = nI a) (h2 : M 6 2 = nI E) (hE : E ≤ 120) (ha : a ≤ 121) : nx M = nb T E a := by
  unfold nx nb
  rw [h7, h3, h2]
  by_cases c : a < E
  · rw [if_pos ⟨nI_pos' (by omega), nI_lt (by omega) (by omega), nI_lt (a := a) (b := 120) (by omega) (by decide)⟩, if_pos c, nI_clamp (by omega)]
  · rw [if_neg (fun q => absurd ((nI_ltI (by omega) (by omega)).mp q.2.1) c), if_neg c]
/-- signs laid from a place on -/
def CAt (M : xM) (n : Nat) (cd : zC) : Prop := ∀ j, j < cd.length → M 9 (n + j) = (cd.getD j (0, 0)).1 ∧ M 10 (n + j) = (cd.getD j (0, 0)).2
def CBe (M M2 : xM) (n : Nat) : Prop := ∀ j, j < n → M2 9 j = M 9 j ∧ M2 10 j = M 10 j
theorem CBe.rf {M : xM} {n : Nat} : CBe M M n := fun _ _ => ⟨rfl, rfl⟩
theorem CBe.tr {M M1 M2 : xM} {n m : Nat} (h : CBe M M1 n) (h2 : CBe M1 M2 m) (hnm : n ≤ m) : CBe M M2 n := fun j hj => ⟨(h2 j (by omega)).1.trans (h j hj).1, (h2 j (by omega)).2.trans (h j hj).2⟩
theorem CAt_nil {M : xM} {n : Nat} : CAt M n [] := fun j hj => absurd hj (by show ¬ j < 0; omega)
theorem CAt_be {M M2 : xM} {n m : Nat} {cd : zC} (h : CAt M n cd) (h2 : CBe M M2 m) (hm : n + cd.length ≤ m) : CAt M2 n cd := fun j hj => ⟨(h2 (n + j) (by omega)).1.trans (h j hj).1, (h2 (n + j) (by omega)).2.trans (h j hj).2⟩
theorem CAt_app {M : xM} {n : Nat} {c d : zC} (h : CAt M n c) (h2 : CAt M (n + c.length) d) : CAt M n (c ++ d) := fun j hj => by
  by_cases q : j < c.length
  · rw [List.getD_eq_getElem?_getD, List.getElem?_append_left q, ← List.getD_eq_getElem?_getD]; exact h j q
  · rw [List.length_append] at hj
    have := h2 (j - c.length) (by omega)
    rw [List.getD_eq_getElem?_getD, List.getElem?_append_right (by omega), ← List.getD_eq_getElem?_getD]
    rw [show n + c.length + (j - c.length) = n + j by omega] at this
    exact this
theorem CAt_1 {M : xM} {n : Nat} {g v : Int32} (h1 : M 9 n = g) (h2 : M 10 n = v) : CAt M n [(g, v)] := fun j hj => by
  have e : j = 0 := by have : j < 1 := hj; omega
  subst e; exact ⟨h1, h2⟩
theorem CAt_up10 {M : xM} {n p : Nat} {cd : zC} {v : Int32} (h : CAt M n cd) (hp : p < n ∨ n + cd.length ≤ p) : CAt (x_up M 10 p v) n cd := fun j hj => ⟨(up_n (by decide)).trans (h j hj).1, (up_k (by omega)).trans (h j hj).2⟩
/-- one sign more -/
abbrev uA (M : xM) (n : Nat) (g v : Int32) : xM := x_up (x_up (x_up M 9 n g) 10 n v) 8 4 (nI (n + 1))
theorem uA_be {M : xM} {n : Nat} {g v : Int32} : CBe M (uA M n g v) n := fun j hj => ⟨(up_n (by decide)).trans ((up_n (by decide)).trans (up_k (by omega))), (up_n (by decide)).trans ((up_k (by omega)).trans (up_n (by decide)))⟩
theorem uA_1 {M : xM} {n : Nat} {g v : Int32} : CAt (uA M n g v) n [(g, v)] := CAt_1 ((up_n (by decide)).trans ((up_n (by decide)).trans up_s)) ((up_n (by decide)).trans up_s)
theorem DI_uA {M : xM} {n : Nat} {g v : Int32} (hn : n < 128) (hv : v ≤ 100000) (h : DI M) : DI (uA M n g v) := ⟨⟨n + 1, by omega, up_s⟩, fun k hk => di_add hv h.2 k hk⟩
set_option maxRecDepth 100000 in
set_option maxHeartbeats 4000000 in
theorem c_X3_add (si v : Int32) {n : Nat} (hn : n < 128) {l : Launch} {G : xG} {M : xM} {J : xJ} (e_n : M 8 4 = nI n) : x_M l G fX3_add 0 0 0 [.ref (8), .int (si), .int (v)] x_SH M J (qE (some (.int (nI n))) x_SH (uA M n si v) J) := by
  refine xb_of pX3 (Nat.le_of_ble_eq_true rfl) rfl ?_
  refine xr_aload_n dX3_add_0 0 rfl ?_
  refine xb_get (v := nI (n)) flX3_24 dX3_add_1 s_8 rfl e_n ?_
  refine xr_sipush (v := 128) dX3_add_4 rfl ?_
  refine xr_icmp_lt (tgt := 13) dX3_add_7 rfl (fun _ => ?_) (fun c => absurd (nI_lt (a := n) (b := 128) (by omega) (by decide)) c)
  refine xr_aload_n dX3_add_13 0 rfl ?_
  refine xr_getR flX3_11 dX3_add_14 s_8 rfl ?_
  refine xr_aload_n dX3_add_17 0 rfl ?_
  refine xb_get (v := nI (n)) flX3_24 dX3_add_18 s_8 rfl e_n ?_
  refine xr_iload_n dX3_add_21 1 rfl ?_
  refine xb_iast (j := n) dX3_add_22 s_9 (by omega) (by decide) ?_
  refine xr_aload_n dX3_add_23 0 rfl ?_
  refine xr_getR flX3_15 dX3_add_24 s_8 rfl ?_
  refine xr_aload_n dX3_add_27 0 rfl ?_
  refine xb_get (v := nI (n)) flX3_24 dX3_add_28 s_8 rfl (Eq.trans (congrFun (x_up_n _ _ _ (by decide)) _) e_n) ?_
  refine xr_iload_n dX3_add_31 2 rfl ?_
  refine xb_iast (j := n) dX3_add_32 s_10 (by omega) (by decide) ?_
  refine xr_aload_n dX3_add_33 0 rfl ?_
  refine xr_dup dX3_add_34 rfl ?_
  refine xb_get (v := nI (n)) flX3_24 dX3_add_35 s_8 rfl (Eq.trans (congrFun (x_up_n _ _ _ (by decide)) _) (Eq.trans (congrFun (x_up_n _ _ _ (by decide)) _) e_n)) ?_
  refine xr_iconst (v := 1) dX3_add_38 rfl ?_
  refine xr_iadd dX3_add_39 ?_
  refine xb_top (y := nI (n + 1)) (nI_add (n) (1)) ?_
  refine xr_putI fpX3_24 dX3_add_40 s_8 rfl rfl rfl ?_
  refine xr_aload_n dX3_add_43 0 rfl ?_
  refine xb_get (v := nI (n + 1)) flX3_24 dX3_add_44 s_8 rfl (x_up_s _ _ _ _) ?_
  refine xr_iconst (v := 1) dX3_add_47 rfl ?_
  refine xr_isub dX3_add_48 ?_
  refine xb_top (y := nI n) (nI_pred n) ?_
  exact xr_iret dX3_add_49 rfl rfl (⟨rfl, rfl, rfl, rfl⟩)
set_option maxRecDepth 100000 in
set_option maxHeartbeats 4000000 in
theorem gs_X4_takes (si : Int32) {l : Launch} {G : xG} {M : xM} {J : xJ} {a E : Nat} (hE : E ≤ 120) (ha : a ≤ 121) (e_a : M 6 3 = nI a) (e_E : M 6 2 = nI E) : x_M l G fX4_takes 1 0 0 [.ref (6), .int (si)] x_SH M J (qKI WAT M J (fun r M2 => r = 1 ∧ (M 6 4 = 0 ∧ nb (M 7) E a = si) ∧ M2 6 3 = nI (a + 1) ∨ r = 0 ∧ ¬ (M 6 4 = 0 ∧ nb (M 7) E a = si) ∧ M2 6 3 = nI a)) := by
  refine xb_of pX4 (Nat.le_of_ble_eq_true rfl) rfl ?_
  refine xr_aload_n dX4_takes_0 0 rfl ?_
  refine xb_get (v := (M 6 4)) flX4_27 dX4_takes_1 s_6 rfl rfl ?_
  refine xr_if_ne (tgt := 15) dX4_takes_4 rfl (fun c1 => ?_) (fun c1 => ?_)
  · refine xr_iconst (v := 0) dX4_takes_15 rfl ?_
    exact xr_iret dX4_takes_16 rfl rfl (⟨_, rfl, rfl, rfl, Ke.rf, (Or.inr ⟨rfl, fun q => c1 q.1, e_a⟩)⟩)
  · refine xr_aload_n dX4_takes_7 0 rfl ?_
    refine xb_cV (As := []) (rest := []) mlX4_57 (c_X4_next) dX4_takes_8 s_6 rfl rfl (Nat.le_of_ble_eq_true rfl) (by decide) (by decide) ?_
    refine xb_top (y := nb (M 7) E a) (nx_nb rfl e_a e_E hE (by omega)) ?_
    refine xr_iload_n dX4_takes_11 1 rfl ?_
    refine xr_icmp_eq (tgt := 17) dX4_takes_12 rfl (fun c2 => ?_) (fun c2 => ?_)
    · refine xr_aload_n dX4_takes_17 0 rfl ?_
      refine xr_dup dX4_takes_18 rfl ?_
      refine xb_get (v := nI (a)) flX4_24 dX4_takes_19 s_6 rfl e_a ?_
      refine xr_iconst (v := 1) dX4_takes_22 rfl ?_
      refine xr_iadd dX4_takes_23 ?_
      refine xb_top (y := nI (a + 1)) (nI_add (a) (1)) ?_
      refine xr_putI fpX4_24 dX4_takes_24 s_6 rfl rfl rfl ?_
      refine xr_iconst (v := 1) dX4_takes_27 rfl ?_
      exact xr_iret dX4_takes_28 rfl rfl (⟨_, rfl, rfl, rfl, (Ke.up (by omega) Ke.rf), (Or.inl ⟨rfl, ⟨c1, c2⟩, (x_up_s _ _ _ _)⟩)⟩)
    · refine xr_iconst (v := 0) dX4_takes_15 rfl ?_
      exact xr_iret dX4_takes_16 rfl rfl (⟨_, rfl, rfl, rfl, Ke.rf, (Or.inr ⟨rfl, fun q => c2 q.2, e_a⟩)⟩)
set_option maxRecDepth 100000 in
set_option maxHeartbeats 4000000 in
theorem gs_X4_isJoin {L : Nat} (hL : L < 5) {l : Launch} {G : xG} {M : xM} {J : xJ} {a E : Nat} (hE : E ≤ 120) (ha : a ≤ 121) (e_a : M 6 3 = nI a) (e_E : M 6 2 = nI E) : x_M l G fX4_isJoin 1 0 0 [.ref (6), .int (nI (L))] x_SH M J (qPI M J (fun r => r = 1 ∧ M 6 4 = 0 ∧ isJ L (nb (M 7) E a) = true ∨ r = 0 ∧ ¬ (M 6 4 = 0 ∧ isJ L (nb (M 7) E a) = true))) := by
  refine xb_of pX4 (Nat.le_of_ble_eq_true rfl) rfl ?_
  have hL5 : L = 0 ∨ L = 1 ∨ L = 2 ∨ L = 3 ∨ L = 4 := by omega
  rcases hL5 with rfl | rfl | rfl | rfl | rfl
  · refine xb_ls (ls2 := [(1, .int (0)), (0, .ref (6))]) [1, 0] rfl ?_
    refine xr_aload_n dX4_isJoin_0 1 rfl ?_
    refine xb_get (v := (M 6 4)) flX4_27 dX4_isJoin_1 s_6 rfl rfl ?_
    refine xr_if_eq (tgt := 11) dX4_isJoin_4 rfl (fun c1 => ?_) (fun c1 => ?_)
    · refine xr_aload_n dX4_isJoin_11 1 rfl ?_
      refine xb_cV (As := []) (rest := []) mlX4_57 (c_X4_next) dX4_isJoin_12 s_6 rfl rfl (Nat.le_of_ble_eq_true rfl) (by decide) (by decide) ?_
      refine xb_top (y := nb (M 7) E a) (nx_nb rfl e_a e_E hE (by omega)) ?_
      refine xr_istore_n (ls2 := [(2, .int ((nb (M 7) E a))), (1, .int (0)), (0, .ref (6))]) dX4_isJoin_15 (by decide) rfl ?_
      refine xr_iload_n dX4_isJoin_16 1 rfl ?_
      refine xr_tableIn (tgt := 52) dX4_isJoin_17 (by decide) (by decide) rfl rfl ?_
      refine xr_iload_n dX4_isJoin_52 0 rfl ?_
      refine xr_bipush (v := 124) dX4_isJoin_53 rfl ?_
      refine xr_icmp_ne (tgt := 62) dX4_isJoin_55 rfl (fun c2 => ?_) (fun c2 => ?_)
      · refine xr_iconst (v := 0) dX4_isJoin_62 rfl ?_
        exact xr_iret dX4_isJoin_63 rfl rfl (⟨_, rfl, rfl, rfl, rfl, (Or.inr ⟨rfl, fun q => absurd (of_decide_eq_true (p := nb (M 7) E a = 124) q.2) (by grind)⟩)⟩)
      · refine xr_iconst (v := 1) dX4_isJoin_58 rfl ?_
        refine xr_goto (tgt := 63) dX4_isJoin_59 rfl ?_
        exact xr_iret dX4_isJoin_63 rfl rfl (⟨_, rfl, rfl, rfl, rfl, (Or.inl ⟨rfl, c1, decide_eq_true (show nb (M 7) E a = 124 by grind)⟩)⟩)
    · refine xr_iconst (v := -1) dX4_isJoin_7 rfl ?_
      refine xr_goto (tgt := 15) dX4_isJoin_8 rfl ?_
      refine xr_istore_n (ls2 := [(2, .int ((-1))), (1, .int (0)), (0, .ref (6))]) dX4_isJoin_15 (by decide) rfl ?_
      refine xr_iload_n dX4_isJoin_16 1 rfl ?_
      refine xr_tableIn (tgt := 52) dX4_isJoin_17 (by decide) (by decide) rfl rfl ?_
      refine xr_iload_n dX4_isJoin_52 0 rfl ?_
      refine xr_bipush (v := 124) dX4_isJoin_53 rfl ?_
      refine xr_icmp_ne (tgt := 62) dX4_isJoin_55 rfl (fun _ => ?_) (fun c => absurd c (by decide))
      refine xr_iconst (v := 0) dX4_isJoin_62 rfl ?_
      exact xr_iret dX4_isJoin_63 rfl rfl (⟨_, rfl, rfl, rfl, rfl, (Or.inr ⟨rfl, fun q => c1 q.1⟩)⟩)
  · refine xb_ls (ls2 := [(1, .int (1)), (0, .ref (6))]) [1, 0] rfl ?_
    refine xr_aload_n dX4_isJoin_0 1 rfl ?_
    refine xb_get (v := (M 6 4)) flX4_27 dX4_isJoin_1 s_6 rfl rfl ?_
    refine xr_if_eq (tgt := 11) dX4_isJoin_4 rfl (fun c3 => ?_) (fun c3 => ?_)
    · refine xr_aload_n dX4_isJoin_11 1 rfl ?_
      refine xb_cV (As := []) (rest := []) mlX4_57 (c_X4_next) dX4_isJoin_12 s_6 rfl rfl (Nat.le_of_ble_eq_true rfl) (by decide) (by decide) ?_
      refine xb_top (y := nb (M 7) E a) (nx_nb rfl e_a e_E hE (by omega)) ?_
      refine xr_istore_n (ls2 := [(2, .int ((nb (M 7) E a))), (1, .int (1)), (0, .ref (6))]) dX4_isJoin_15 (by decide) rfl ?_
      refine xr_iload_n dX4_isJoin_16 1 rfl ?_
      refine xr_tableIn (tgt := 64) dX4_isJoin_17 (by decide) (by decide) rfl rfl ?_
      refine xr_iload_n dX4_isJoin_64 0 rfl ?_
      refine xr_bipush (v := 38) dX4_isJoin_65 rfl ?_
      refine xr_icmp_ne (tgt := 74) dX4_isJoin_67 rfl (fun c4 => ?_) (fun c4 => ?_)
      · refine xr_iconst (v := 0) dX4_isJoin_74 rfl ?_
        exact xr_iret dX4_isJoin_75 rfl rfl (⟨_, rfl, rfl, rfl, rfl, (Or.inr ⟨rfl, fun q => absurd (of_decide_eq_true (p := nb (M 7) E a = 38) q.2) (by grind)⟩)⟩)
      · refine xr_iconst (v := 1) dX4_isJoin_70 rfl ?_
        refine xr_goto (tgt := 75) dX4_isJoin_71 rfl ?_
        exact xr_iret dX4_isJoin_75 rfl rfl (⟨_, rfl, rfl, rfl, rfl, (Or.inl ⟨rfl, c3, decide_eq_true (show nb (M 7) E a = 38 by grind)⟩)⟩)
    · refine xr_iconst (v := -1) dX4_isJoin_7 rfl ?_
      refine xr_goto (tgt := 15) dX4_isJoin_8 rfl ?_
      refine xr_istore_n (ls2 := [(2, .int ((-1))), (1, .int (1)), (0, .ref (6))]) dX4_isJoin_15 (by decide) rfl ?_
      refine xr_iload_n dX4_isJoin_16 1 rfl ?_
      refine xr_tableIn (tgt := 64) dX4_isJoin_17 (by decide) (by decide) rfl rfl ?_
      refine xr_iload_n dX4_isJoin_64 0 rfl ?_
      refine xr_bipush (v := 38) dX4_isJoin_65 rfl ?_
      refine xr_icmp_ne (tgt := 74) dX4_isJoin_67 rfl (fun _ => ?_) (fun c => absurd c (by decide))
      refine xr_iconst (v := 0) dX4_isJoin_74 rfl ?_
      exact xr_iret dX4_isJoin_75 rfl rfl (⟨_, rfl, rfl, rfl, rfl, (Or.inr ⟨rfl, fun q => c3 q.1⟩)⟩)
  · refine xb_ls (ls2 := [(1, .int (2)), (0, .ref (6))]) [1, 0] rfl ?_
    refine xr_aload_n dX4_isJoin_0 1 rfl ?_
    refine xb_get (v := (M 6 4)) flX4_27 dX4_isJoin_1 s_6 rfl rfl ?_
    refine xr_if_eq (tgt := 11) dX4_isJoin_4 rfl (fun c5 => ?_) (fun c5 => ?_)
    · refine xr_aload_n dX4_isJoin_11 1 rfl ?_
      refine xb_cV (As := []) (rest := []) mlX4_57 (c_X4_next) dX4_isJoin_12 s_6 rfl rfl (Nat.le_of_ble_eq_true rfl) (by decide) (by decide) ?_
      refine xb_top (y := nb (M 7) E a) (nx_nb rfl e_a e_E hE (by omega)) ?_
      refine xr_istore_n (ls2 := [(2, .int ((nb (M 7) E a))), (1, .int (2)), (0, .ref (6))]) dX4_isJoin_15 (by decide) rfl ?_
      refine xr_iload_n dX4_isJoin_16 1 rfl ?_
      refine xr_tableIn (tgt := 76) dX4_isJoin_17 (by decide) (by decide) rfl rfl ?_
      refine xr_iload_n dX4_isJoin_76 0 rfl ?_
      refine xr_bipush (v := 60) dX4_isJoin_77 rfl ?_
      refine xr_icmp_eq (tgt := 94) dX4_isJoin_79 rfl (fun c6 => ?_) (fun c6 => ?_)
      · refine xr_iconst (v := 1) dX4_isJoin_94 rfl ?_
        refine xr_goto (tgt := 99) dX4_isJoin_95 rfl ?_
        exact xr_iret dX4_isJoin_99 rfl rfl (⟨_, rfl, rfl, rfl, rfl, (Or.inl ⟨rfl, c5, decide_eq_true (show nb (M 7) E a = 60 ∨ nb (M 7) E a = 61 ∨ nb (M 7) E a = 62 by grind)⟩)⟩)
      · refine xr_iload_n dX4_isJoin_82 0 rfl ?_
        refine xr_bipush (v := 61) dX4_isJoin_83 rfl ?_
        refine xr_icmp_eq (tgt := 94) dX4_isJoin_85 rfl (fun c7 => ?_) (fun c7 => ?_)
        · refine xr_iconst (v := 1) dX4_isJoin_94 rfl ?_
          refine xr_goto (tgt := 99) dX4_isJoin_95 rfl ?_
          exact xr_iret dX4_isJoin_99 rfl rfl (⟨_, rfl, rfl, rfl, rfl, (Or.inl ⟨rfl, c5, decide_eq_true (show nb (M 7) E a = 60 ∨ nb (M 7) E a = 61 ∨ nb (M 7) E a = 62 by grind)⟩)⟩)
        · refine xr_iload_n dX4_isJoin_88 0 rfl ?_
          refine xr_bipush (v := 62) dX4_isJoin_89 rfl ?_
          refine xr_icmp_ne (tgt := 98) dX4_isJoin_91 rfl (fun c8 => ?_) (fun c8 => ?_)
          · refine xr_iconst (v := 0) dX4_isJoin_98 rfl ?_
            exact xr_iret dX4_isJoin_99 rfl rfl (⟨_, rfl, rfl, rfl, rfl, (Or.inr ⟨rfl, fun q => absurd (of_decide_eq_true (p := nb (M 7) E a = 60 ∨ nb (M 7) E a = 61 ∨ nb (M 7) E a = 62) q.2) (by grind)⟩)⟩)
          · refine xr_iconst (v := 1) dX4_isJoin_94 rfl ?_
            refine xr_goto (tgt := 99) dX4_isJoin_95 rfl ?_
            exact xr_iret dX4_isJoin_99 rfl rfl (⟨_, rfl, rfl, rfl, rfl, (Or.inl ⟨rfl, c5, decide_eq_true (show nb (M 7) E a = 60 ∨ nb (M 7) E a = 61 ∨ nb (M 7) E a = 62 by grind)⟩)⟩)
    · refine xr_iconst (v := -1) dX4_isJoin_7 rfl ?_
      refine xr_goto (tgt := 15) dX4_isJoin_8 rfl ?_
      refine xr_istore_n (ls2 := [(2, .int ((-1))), (1, .int (2)), (0, .ref (6))]) dX4_isJoin_15 (by decide) rfl ?_
      refine xr_iload_n dX4_isJoin_16 1 rfl ?_
      refine xr_tableIn (tgt := 76) dX4_isJoin_17 (by decide) (by decide) rfl rfl ?_
      refine xr_iload_n dX4_isJoin_76 0 rfl ?_
      refine xr_bipush (v := 60) dX4_isJoin_77 rfl ?_
      refine xr_icmp_eq (tgt := 94) dX4_isJoin_79 rfl (fun c => absurd c (by decide)) (fun _ => ?_)
      refine xr_iload_n dX4_isJoin_82 0 rfl ?_
      refine xr_bipush (v := 61) dX4_isJoin_83 rfl ?_
      refine xr_icmp_eq (tgt := 94) dX4_isJoin_85 rfl (fun c => absurd c (by decide)) (fun _ => ?_)
      refine xr_iload_n dX4_isJoin_88 0 rfl ?_
      refine xr_bipush (v := 62) dX4_isJoin_89 rfl ?_
      refine xr_icmp_ne (tgt := 98) dX4_isJoin_91 rfl (fun _ => ?_) (fun c => absurd c (by decide))
      refine xr_iconst (v := 0) dX4_isJoin_98 rfl ?_
      exact xr_iret dX4_isJoin_99 rfl rfl (⟨_, rfl, rfl, rfl, rfl, (Or.inr ⟨rfl, fun q => c5 q.1⟩)⟩)
  · refine xb_ls (ls2 := [(1, .int (3)), (0, .ref (6))]) [1, 0] rfl ?_
    refine xr_aload_n dX4_isJoin_0 1 rfl ?_
    refine xb_get (v := (M 6 4)) flX4_27 dX4_isJoin_1 s_6 rfl rfl ?_
    refine xr_if_eq (tgt := 11) dX4_isJoin_4 rfl (fun c9 => ?_) (fun c9 => ?_)
    · refine xr_aload_n dX4_isJoin_11 1 rfl ?_
      refine xb_cV (As := []) (rest := []) mlX4_57 (c_X4_next) dX4_isJoin_12 s_6 rfl rfl (Nat.le_of_ble_eq_true rfl) (by decide) (by decide) ?_
      refine xb_top (y := nb (M 7) E a) (nx_nb rfl e_a e_E hE (by omega)) ?_
      refine xr_istore_n (ls2 := [(2, .int ((nb (M 7) E a))), (1, .int (3)), (0, .ref (6))]) dX4_isJoin_15 (by decide) rfl ?_
      refine xr_iload_n dX4_isJoin_16 1 rfl ?_
      refine xr_tableIn (tgt := 100) dX4_isJoin_17 (by decide) (by decide) rfl rfl ?_
      refine xr_iload_n dX4_isJoin_100 0 rfl ?_
      refine xr_bipush (v := 43) dX4_isJoin_101 rfl ?_
      refine xr_icmp_eq (tgt := 112) dX4_isJoin_103 rfl (fun c10 => ?_) (fun c10 => ?_)
      · refine xr_iconst (v := 1) dX4_isJoin_112 rfl ?_
        refine xr_goto (tgt := 117) dX4_isJoin_113 rfl ?_
        exact xr_iret dX4_isJoin_117 rfl rfl (⟨_, rfl, rfl, rfl, rfl, (Or.inl ⟨rfl, c9, decide_eq_true (show nb (M 7) E a = 43 ∨ nb (M 7) E a = 45 by grind)⟩)⟩)
      · refine xr_iload_n dX4_isJoin_106 0 rfl ?_
        refine xr_bipush (v := 45) dX4_isJoin_107 rfl ?_
        refine xr_icmp_ne (tgt := 116) dX4_isJoin_109 rfl (fun c11 => ?_) (fun c11 => ?_)
        · refine xr_iconst (v := 0) dX4_isJoin_116 rfl ?_
          exact xr_iret dX4_isJoin_117 rfl rfl (⟨_, rfl, rfl, rfl, rfl, (Or.inr ⟨rfl, fun q => absurd (of_decide_eq_true (p := nb (M 7) E a = 43 ∨ nb (M 7) E a = 45) q.2) (by grind)⟩)⟩)
        · refine xr_iconst (v := 1) dX4_isJoin_112 rfl ?_
          refine xr_goto (tgt := 117) dX4_isJoin_113 rfl ?_
          exact xr_iret dX4_isJoin_117 rfl rfl (⟨_, rfl, rfl, rfl, rfl, (Or.inl ⟨rfl, c9, decide_eq_true (show nb (M 7) E a = 43 ∨ nb (M 7) E a = 45 by grind)⟩)⟩)
    · refine xr_iconst (v := -1) dX4_isJoin_7 rfl ?_
      refine xr_goto (tgt := 15) dX4_isJoin_8 rfl ?_
      refine xr_istore_n (ls2 := [(2, .int ((-1))), (1, .int (3)), (0, .ref (6))]) dX4_isJoin_15 (by decide) rfl ?_
      refine xr_iload_n dX4_isJoin_16 1 rfl ?_
      refine xr_tableIn (tgt := 100) dX4_isJoin_17 (by decide) (by decide) rfl rfl ?_
      refine xr_iload_n dX4_isJoin_100 0 rfl ?_
      refine xr_bipush (v := 43) dX4_isJoin_101 rfl ?_
      refine xr_icmp_eq (tgt := 112) dX4_isJoin_103 rfl (fun c => absurd c (by decide)) (fun _ => ?_)
      refine xr_iload_n dX4_isJoin_106 0 rfl ?_
      refine xr_bipush (v := 45) dX4_isJoin_107 rfl ?_
      refine xr_icmp_ne (tgt := 116) dX4_isJoin_109 rfl (fun _ => ?_) (fun c => absurd c (by decide))
      refine xr_iconst (v := 0) dX4_isJoin_116 rfl ?_
      exact xr_iret dX4_isJoin_117 rfl rfl (⟨_, rfl, rfl, rfl, rfl, (Or.inr ⟨rfl, fun q => c9 q.1⟩)⟩)
  · refine xb_ls (ls2 := [(1, .int (4)), (0, .ref (6))]) [1, 0] rfl ?_
    refine xr_aload_n dX4_isJoin_0 1 rfl ?_
    refine xb_get (v := (M 6 4)) flX4_27 dX4_isJoin_1 s_6 rfl rfl ?_
    refine xr_if_eq (tgt := 11) dX4_isJoin_4 rfl (fun c12 => ?_) (fun c12 => ?_)
    · refine xr_aload_n dX4_isJoin_11 1 rfl ?_
      refine xb_cV (As := []) (rest := []) mlX4_57 (c_X4_next) dX4_isJoin_12 s_6 rfl rfl (Nat.le_of_ble_eq_true rfl) (by decide) (by decide) ?_
      refine xb_top (y := nb (M 7) E a) (nx_nb rfl e_a e_E hE (by omega)) ?_
      refine xr_istore_n (ls2 := [(2, .int ((nb (M 7) E a))), (1, .int (4)), (0, .ref (6))]) dX4_isJoin_15 (by decide) rfl ?_
      refine xr_iload_n dX4_isJoin_16 1 rfl ?_
      refine xr_tableIn (tgt := 118) dX4_isJoin_17 (by decide) (by decide) rfl rfl ?_
      refine xr_iload_n dX4_isJoin_118 0 rfl ?_
      refine xr_bipush (v := 42) dX4_isJoin_119 rfl ?_
      refine xr_icmp_eq (tgt := 136) dX4_isJoin_121 rfl (fun c13 => ?_) (fun c13 => ?_)
      · refine xr_iconst (v := 1) dX4_isJoin_136 rfl ?_
        refine xr_goto (tgt := 141) dX4_isJoin_137 rfl ?_
        exact xr_iret dX4_isJoin_141 rfl rfl (⟨_, rfl, rfl, rfl, rfl, (Or.inl ⟨rfl, c12, decide_eq_true (show nb (M 7) E a = 42 ∨ nb (M 7) E a = 47 ∨ nb (M 7) E a = 37 by grind)⟩)⟩)
      · refine xr_iload_n dX4_isJoin_124 0 rfl ?_
        refine xr_bipush (v := 47) dX4_isJoin_125 rfl ?_
        refine xr_icmp_eq (tgt := 136) dX4_isJoin_127 rfl (fun c14 => ?_) (fun c14 => ?_)
        · refine xr_iconst (v := 1) dX4_isJoin_136 rfl ?_
          refine xr_goto (tgt := 141) dX4_isJoin_137 rfl ?_
          exact xr_iret dX4_isJoin_141 rfl rfl (⟨_, rfl, rfl, rfl, rfl, (Or.inl ⟨rfl, c12, decide_eq_true (show nb (M 7) E a = 42 ∨ nb (M 7) E a = 47 ∨ nb (M 7) E a = 37 by grind)⟩)⟩)
        · refine xr_iload_n dX4_isJoin_130 0 rfl ?_
          refine xr_bipush (v := 37) dX4_isJoin_131 rfl ?_
          refine xr_icmp_ne (tgt := 140) dX4_isJoin_133 rfl (fun c15 => ?_) (fun c15 => ?_)
          · refine xr_iconst (v := 0) dX4_isJoin_140 rfl ?_
            exact xr_iret dX4_isJoin_141 rfl rfl (⟨_, rfl, rfl, rfl, rfl, (Or.inr ⟨rfl, fun q => absurd (of_decide_eq_true (p := nb (M 7) E a = 42 ∨ nb (M 7) E a = 47 ∨ nb (M 7) E a = 37) q.2) (by grind)⟩)⟩)
          · refine xr_iconst (v := 1) dX4_isJoin_136 rfl ?_
            refine xr_goto (tgt := 141) dX4_isJoin_137 rfl ?_
            exact xr_iret dX4_isJoin_141 rfl rfl (⟨_, rfl, rfl, rfl, rfl, (Or.inl ⟨rfl, c12, decide_eq_true (show nb (M 7) E a = 42 ∨ nb (M 7) E a = 47 ∨ nb (M 7) E a = 37 by grind)⟩)⟩)
    · refine xr_iconst (v := -1) dX4_isJoin_7 rfl ?_
      refine xr_goto (tgt := 15) dX4_isJoin_8 rfl ?_
      refine xr_istore_n (ls2 := [(2, .int ((-1))), (1, .int (4)), (0, .ref (6))]) dX4_isJoin_15 (by decide) rfl ?_
      refine xr_iload_n dX4_isJoin_16 1 rfl ?_
      refine xr_tableIn (tgt := 118) dX4_isJoin_17 (by decide) (by decide) rfl rfl ?_
      refine xr_iload_n dX4_isJoin_118 0 rfl ?_
      refine xr_bipush (v := 42) dX4_isJoin_119 rfl ?_
      refine xr_icmp_eq (tgt := 136) dX4_isJoin_121 rfl (fun c => absurd c (by decide)) (fun _ => ?_)
      refine xr_iload_n dX4_isJoin_124 0 rfl ?_
      refine xr_bipush (v := 47) dX4_isJoin_125 rfl ?_
      refine xr_icmp_eq (tgt := 136) dX4_isJoin_127 rfl (fun c => absurd c (by decide)) (fun _ => ?_)
      refine xr_iload_n dX4_isJoin_130 0 rfl ?_
      refine xr_bipush (v := 37) dX4_isJoin_131 rfl ?_
      refine xr_icmp_ne (tgt := 140) dX4_isJoin_133 rfl (fun _ => ?_) (fun c => absurd c (by decide))
      refine xr_iconst (v := 0) dX4_isJoin_140 rfl ?_
      exact xr_iret dX4_isJoin_141 rfl rfl (⟨_, rfl, rfl, rfl, rfl, (Or.inr ⟨rfl, fun q => c12 q.1⟩)⟩)
set_option maxRecDepth 100000 in
set_option maxHeartbeats 4000000 in
theorem rns_l {a E : Nat} (hE : E ≤ 120) {l : Launch} {G : xG} {M : xM} {J : xJ} {Q : xQ} (e_E : M 6 2 = nI E) (hC : ∀ (w a1 : Nat) (M1 : xM), w < 10 ^ 4 → a1 ≤ E → Ke WAT M M1 → M1 6 3 = nI a1 → (a1, nI w) = numF (M 7) E 4 a 0 → x_X l G fX4_readNumber 1 0 0 Q 48 [(1, .int (nI w)), (0, .ref 6)] [] x_SH M1 J 0 0) : ∀ (m k w a1 : Nat) (M1 : xM), k + m = 4 → w < 10 ^ k → a1 ≤ E → Ke WAT M M1 → M1 6 3 = nI a1 → numF (M 7) E m a1 (nI w) = numF (M 7) E 4 a 0 → x_X l G fX4_readNumber 1 0 0 Q 4 [(2, .int (nI (k))), (1, .int (nI (w))), (0, .ref (6))] [] x_SH M1 J 0 0 := by
  intro m
  induction m with
  | zero =>
    intro k w a1 M1 hk hw ha1 hM e_a1 hn
    refine xr_iload_n dX4_readNumber_4 0 rfl ?_
    refine xr_iconst (v := 4) dX4_readNumber_5 rfl ?_
    refine xr_icmp_ge (tgt := 48) dX4_readNumber_6 rfl (fun _ => ?_) (fun c => absurd (nI_le (a := 4) (b := k) (by omega) (by omega)) c)
    refine xb_ls (ls2 := [(1, .int (nI (w))), (0, .ref (6))]) [1, 2] rfl ?_
    exact hC w a1 M1 (by rw [show 4 = k by omega]; exact hw) (by omega) hM e_a1 hn
  | succ m ih =>
    intro k w a1 M1 hk hw ha1 hM e_a1 hn
    refine xr_iload_n dX4_readNumber_4 0 rfl ?_
    refine xr_iconst (v := 4) dX4_readNumber_5 rfl ?_
    refine xr_icmp_ge (tgt := 48) dX4_readNumber_6 rfl (fun c => absurd c (nI_ge (a := k) (b := 4) (by omega) (by omega))) (fun _ => ?_)
    refine xr_aload_n dX4_readNumber_9 2 rfl ?_
    refine xb_cV (As := []) (rest := []) mlX4_57 (c_X4_next) dX4_readNumber_10 s_6 rfl rfl (Nat.le_of_ble_eq_true rfl) (by decide) (by decide) ?_
    refine xb_top (y := nb (M 7) E a1) (nx_nb (Eq.trans (funext fun kk => hM 7 kk (by unfold WAT; omega)) rfl) e_a1 (Eq.trans (hM 6 2 (by decide)) e_E) hE (by omega)) ?_
    refine xb_cS (As := [.int ((nb (M 7) E a1))]) (rest := []) mlX4_61 (c_X4_isDigit (nb (M 7) E a1)) dX4_readNumber_13 rfl rfl (Nat.le_of_ble_eq_true rfl) (by decide) (by decide) ?_
    refine xb_beq (tgt := 48) dX4_readNumber_16 rfl (fun c1 => ?_) (fun c1 => ?_)
    · refine xb_ls (ls2 := [(1, .int (nI (w))), (0, .ref (6))]) [1, 2] rfl ?_
      exact hC w a1 M1 (Nat.lt_of_lt_of_le hw (Nat.pow_le_pow_right (n := 10) (by decide) (by omega))) (by omega) hM e_a1 (by rw [← hn]; exact (if_neg c1).symm)
    · refine xr_bipush (v := 10) dX4_readNumber_19 rfl ?_
      refine xr_iload_n dX4_readNumber_21 1 rfl ?_
      refine xr_imul dX4_readNumber_22 ?_
      refine xr_aload_n dX4_readNumber_23 2 rfl ?_
      refine xb_cV (As := []) (rest := [.int ((10 * (nI (w))))]) mlX4_57 (c_X4_next) dX4_readNumber_24 s_6 rfl rfl (Nat.le_of_ble_eq_true rfl) (by decide) (by decide) ?_
      refine xb_top (y := nb (M 7) E a1) (nx_nb (Eq.trans (funext fun kk => hM 7 kk (by unfold WAT; omega)) rfl) e_a1 (Eq.trans (hM 6 2 (by decide)) e_E) hE (by omega)) ?_
      refine xr_iadd dX4_readNumber_27 ?_
      refine xr_bipush (v := 48) dX4_readNumber_28 rfl ?_
      refine xr_isub dX4_readNumber_30 ?_
      obtain ⟨w2, hw2, ew2⟩ := sx_dig (k := k) (w := w) (by omega) hw c1
      refine xb_top (y := nI w2) ew2 ?_
      refine xr_istore_n (ls2 := [(1, .int (nI (w2))), (2, .int (nI (k))), (0, .ref (6))]) dX4_readNumber_31 (by decide) rfl ?_
      refine xr_aload_n dX4_readNumber_32 2 rfl ?_
      refine xr_dup dX4_readNumber_33 rfl ?_
      refine xb_get (v := nI (a1)) flX4_24 dX4_readNumber_34 s_6 rfl e_a1 ?_
      refine xr_iconst (v := 1) dX4_readNumber_37 rfl ?_
      refine xr_iadd dX4_readNumber_38 ?_
      refine xb_top (y := nI (a1 + 1)) (nI_add (a1) (1)) ?_
      refine xr_putI fpX4_24 dX4_readNumber_39 s_6 rfl rfl rfl ?_
      refine xr_iinc (v := nI (k + 1)) (ls2 := [(2, .int (nI (k + 1))), (1, .int (nI (w2))), (0, .ref (6))]) dX4_readNumber_42 1 rfl (nI_1 _) (by decide) rfl ?_
      refine xr_goto (tgt := 4) dX4_readNumber_45 rfl ?_
      refine xb_ls (ls2 := [(2, .int (nI (k + 1))), (1, .int (nI (w2))), (0, .ref (6))]) [0, 1, 2] rfl ?_
      have hl : a1 < E := nb_lt (T := M 7) (fun q => by have h1 := c1.1; rw [q] at h1; exact absurd h1 (by decide))
      exact ih (k + 1) w2 (a1 + 1) (x_up M1 6 3 (nI (a1 + 1))) (by omega) hw2 (by omega) (Ke.up (by omega) hM) (x_up_s _ _ _ _) (by rw [← hn, ← ew2]; exact (show numF (M 7) E (m + 1) a1 (nI w) = numF (M 7) E m (a1 + 1) (10 * nI w + nb (M 7) E a1 - 48) from if_pos c1).symm)
/-- what a number's reading leaves -/
def NMC (M M2 : xM) (E a n : Nat) : Prop := M2 6 3 = nI (numF (M 7) E 4 a 0).1 ∧ M2 6 4 = 0 ∧ M2 8 4 = nI (n + 1) ∧ CAt M2 n [(0, (numF (M 7) E 4 a 0).2)] ∧ CBe M M2 n
set_option maxRecDepth 100000 in
set_option maxHeartbeats 4000000 in
theorem gs_X4_readNumber {l : Launch} {G : xG} {M : xM} {J : xJ} {a E n : Nat} (hE : E ≤ 120) (ha : a ≤ E) (hn : n ≤ a) (hD : DI M) (e_a : M 6 3 = nI a) (e_E : M 6 2 = nI E) (e_0 : M 6 4 = 0) (e_n : M 8 4 = nI n) : x_M l G fX4_readNumber 1 0 0 [.ref (6)] x_SH M J (qKV WRD M J (fun M2 => DI M2 ∧ NMC M M2 E a n)) := by
  refine xb_of pX4 (Nat.le_of_ble_eq_true rfl) rfl ?_
  refine xr_iconst (v := 0) dX4_readNumber_0 rfl ?_
  refine xr_istore_n (ls2 := [(1, .int (0)), (0, .ref (6))]) dX4_readNumber_1 (by decide) rfl ?_
  refine xr_iconst (v := 0) dX4_readNumber_2 rfl ?_
  refine xr_istore_n (ls2 := [(2, .int (0)), (1, .int (0)), (0, .ref (6))]) dX4_readNumber_3 (by decide) rfl ?_
  refine xb_ls (ls2 := [(2, .int (nI (0))), (1, .int (nI (0))), (0, .ref (6))]) [0, 1, 2] rfl ?_
  refine rns_l (a := a) hE e_E (fun w a1 M1 hw4 ha1 k2 e_a1 hnum => ?_) 4 0 0 a M (by omega) (by decide) ha Ke.rf e_a rfl
  refine xr_aload_n dX4_readNumber_48 1 rfl ?_
  refine xr_getR flX4_16 dX4_readNumber_49 s_6 rfl ?_
  refine xr_iconst (v := 0) dX4_readNumber_52 rfl ?_
  refine xr_iload_n dX4_readNumber_53 0 rfl ?_
  refine xb_cV (As := [.int (0), .int (nI (w))]) (rest := []) mlX4_43 (c_X3_add 0 (nI (w)) (n := n) (by omega) (Eq.trans (k2 8 4 (by decide)) e_n)) dX4_readNumber_54 s_8 rfl rfl (Nat.le_of_ble_eq_true rfl) (by decide) (by decide) ?_
  refine xr_pop dX4_readNumber_57 rfl ?_
  exact xr_vret dX4_readNumber_58 rfl (⟨rfl, rfl, rfl, (Ke.up (Or.inr (Or.inr (by omega))) (Ke.up (Or.inr (Or.inr (by omega))) (Ke.up (Or.inr (Or.inr (by omega))) (Ke.tr (fun pp kk h => (Or.inl h)) Ke.rf k2)))), ⟨(DI_uA (by omega) (sx_w4 hw4 (by decide)) (DI_ke (by intro k; unfold WAT; omega) k2 hD)), (by rw [← hnum]; exact (Eq.trans (congrFun (x_up_n _ _ _ (by decide)) _) (Eq.trans (congrFun (x_up_n _ _ _ (by decide)) _) (Eq.trans (congrFun (x_up_n _ _ _ (by decide)) _) e_a1)))), (Eq.trans (congrFun (x_up_n _ _ _ (by decide)) _) (Eq.trans (congrFun (x_up_n _ _ _ (by decide)) _) (Eq.trans (congrFun (x_up_n _ _ _ (by decide)) _) (Eq.trans (k2 6 4 (by decide)) e_0)))), (x_up_s _ _ _ _), (by rw [← hnum]; exact uA_1), fun j hj => ⟨(uA_be j hj).1.trans (k2 9 j (by unfold WAT; omega)), (uA_be j hj).2.trans (k2 10 j (by unfold WAT; omega))⟩⟩⟩)
set_option maxRecDepth 100000 in
set_option maxHeartbeats 4000000 in
theorem c_X4_nameOf (v : Int32) {l : Launch} {G : xG} {sh : List xS} {M : xM} {J : xJ} : x_M l G fX4_nameOf 0 0 0 [.int (v)] sh M J (qE (some (.int (nameK v))) sh M J) := by
  refine xb_of pX4 (Nat.le_of_ble_eq_true rfl) rfl ?_
  refine xr_iload_n dX4_nameOf_0 0 rfl ?_
  refine xg_eq 102 (fun w1 => ?_) (fun w1 => ?_)
  · refine xr_tableIn (tgt := 104) dX4_nameOf_1 (by decide) (by decide) rfl rfl ?_
    refine xr_iconst (v := 4) dX4_nameOf_104 rfl ?_
    exact xr_iret dX4_nameOf_105 rfl rfl (⟨congrArg (fun z => some (Value.int z)) (by unfold nameK; grind), rfl, rfl, rfl⟩)
  refine xg_eq 103 (fun w2 => ?_) (fun w2 => ?_)
  · refine xr_tableIn (tgt := 108) dX4_nameOf_1 (by decide) (by decide) rfl rfl ?_
    refine xr_iconst (v := -1) dX4_nameOf_108 rfl ?_
    exact xr_iret dX4_nameOf_109 rfl rfl (⟨congrArg (fun z => some (Value.int z)) (by unfold nameK; grind), rfl, rfl, rfl⟩)
  refine xg_eq 104 (fun w3 => ?_) (fun w3 => ?_)
  · refine xr_tableIn (tgt := 102) dX4_nameOf_1 (by decide) (by decide) rfl rfl ?_
    refine xr_iconst (v := 3) dX4_nameOf_102 rfl ?_
    exact xr_iret dX4_nameOf_103 rfl rfl (⟨congrArg (fun z => some (Value.int z)) (by unfold nameK; grind), rfl, rfl, rfl⟩)
  refine xg_eq 105 (fun w4 => ?_) (fun w4 => ?_)
  · refine xr_tableIn (tgt := 108) dX4_nameOf_1 (by decide) (by decide) rfl rfl ?_
    refine xr_iconst (v := -1) dX4_nameOf_108 rfl ?_
    exact xr_iret dX4_nameOf_109 rfl rfl (⟨congrArg (fun z => some (Value.int z)) (by unfold nameK; grind), rfl, rfl, rfl⟩)
  refine xg_eq 106 (fun w5 => ?_) (fun w5 => ?_)
  · refine xr_tableIn (tgt := 108) dX4_nameOf_1 (by decide) (by decide) rfl rfl ?_
    refine xr_iconst (v := -1) dX4_nameOf_108 rfl ?_
    exact xr_iret dX4_nameOf_109 rfl rfl (⟨congrArg (fun z => some (Value.int z)) (by unfold nameK; grind), rfl, rfl, rfl⟩)
  refine xg_eq 107 (fun w6 => ?_) (fun w6 => ?_)
  · refine xr_tableIn (tgt := 108) dX4_nameOf_1 (by decide) (by decide) rfl rfl ?_
    refine xr_iconst (v := -1) dX4_nameOf_108 rfl ?_
    exact xr_iret dX4_nameOf_109 rfl rfl (⟨congrArg (fun z => some (Value.int z)) (by unfold nameK; grind), rfl, rfl, rfl⟩)
  refine xg_eq 108 (fun w7 => ?_) (fun w7 => ?_)
  · refine xr_tableIn (tgt := 108) dX4_nameOf_1 (by decide) (by decide) rfl rfl ?_
    refine xr_iconst (v := -1) dX4_nameOf_108 rfl ?_
    exact xr_iret dX4_nameOf_109 rfl rfl (⟨congrArg (fun z => some (Value.int z)) (by unfold nameK; grind), rfl, rfl, rfl⟩)
  refine xg_eq 109 (fun w8 => ?_) (fun w8 => ?_)
  · refine xr_tableIn (tgt := 108) dX4_nameOf_1 (by decide) (by decide) rfl rfl ?_
    refine xr_iconst (v := -1) dX4_nameOf_108 rfl ?_
    exact xr_iret dX4_nameOf_109 rfl rfl (⟨congrArg (fun z => some (Value.int z)) (by unfold nameK; grind), rfl, rfl, rfl⟩)
  refine xg_eq 110 (fun w9 => ?_) (fun w9 => ?_)
  · refine xr_tableIn (tgt := 96) dX4_nameOf_1 (by decide) (by decide) rfl rfl ?_
    refine xr_iconst (v := 0) dX4_nameOf_96 rfl ?_
    exact xr_iret dX4_nameOf_97 rfl rfl (⟨congrArg (fun z => some (Value.int z)) (by unfold nameK; grind), rfl, rfl, rfl⟩)
  refine xg_eq 111 (fun w10 => ?_) (fun w10 => ?_)
  · refine xr_tableIn (tgt := 108) dX4_nameOf_1 (by decide) (by decide) rfl rfl ?_
    refine xr_iconst (v := -1) dX4_nameOf_108 rfl ?_
    exact xr_iret dX4_nameOf_109 rfl rfl (⟨congrArg (fun z => some (Value.int z)) (by unfold nameK; grind), rfl, rfl, rfl⟩)
  refine xg_eq 112 (fun w11 => ?_) (fun w11 => ?_)
  · refine xr_tableIn (tgt := 108) dX4_nameOf_1 (by decide) (by decide) rfl rfl ?_
    refine xr_iconst (v := -1) dX4_nameOf_108 rfl ?_
    exact xr_iret dX4_nameOf_109 rfl rfl (⟨congrArg (fun z => some (Value.int z)) (by unfold nameK; grind), rfl, rfl, rfl⟩)
  refine xg_eq 113 (fun w12 => ?_) (fun w12 => ?_)
  · refine xr_tableIn (tgt := 108) dX4_nameOf_1 (by decide) (by decide) rfl rfl ?_
    refine xr_iconst (v := -1) dX4_nameOf_108 rfl ?_
    exact xr_iret dX4_nameOf_109 rfl rfl (⟨congrArg (fun z => some (Value.int z)) (by unfold nameK; grind), rfl, rfl, rfl⟩)
  refine xg_eq 114 (fun w13 => ?_) (fun w13 => ?_)
  · refine xr_tableIn (tgt := 108) dX4_nameOf_1 (by decide) (by decide) rfl rfl ?_
    refine xr_iconst (v := -1) dX4_nameOf_108 rfl ?_
    exact xr_iret dX4_nameOf_109 rfl rfl (⟨congrArg (fun z => some (Value.int z)) (by unfold nameK; grind), rfl, rfl, rfl⟩)
  refine xg_eq 115 (fun w14 => ?_) (fun w14 => ?_)
  · refine xr_tableIn (tgt := 100) dX4_nameOf_1 (by decide) (by decide) rfl rfl ?_
    refine xr_iconst (v := 2) dX4_nameOf_100 rfl ?_
    exact xr_iret dX4_nameOf_101 rfl rfl (⟨congrArg (fun z => some (Value.int z)) (by unfold nameK; grind), rfl, rfl, rfl⟩)
  refine xg_eq 116 (fun w15 => ?_) (fun w15 => ?_)
  · refine xr_tableIn (tgt := 108) dX4_nameOf_1 (by decide) (by decide) rfl rfl ?_
    refine xr_iconst (v := -1) dX4_nameOf_108 rfl ?_
    exact xr_iret dX4_nameOf_109 rfl rfl (⟨congrArg (fun z => some (Value.int z)) (by unfold nameK; grind), rfl, rfl, rfl⟩)
  refine xg_eq 117 (fun w16 => ?_) (fun w16 => ?_)
  · refine xr_tableIn (tgt := 108) dX4_nameOf_1 (by decide) (by decide) rfl rfl ?_
    refine xr_iconst (v := -1) dX4_nameOf_108 rfl ?_
    exact xr_iret dX4_nameOf_109 rfl rfl (⟨congrArg (fun z => some (Value.int z)) (by unfold nameK; grind), rfl, rfl, rfl⟩)
  refine xg_eq 118 (fun w17 => ?_) (fun w17 => ?_)
  · refine xr_tableIn (tgt := 98) dX4_nameOf_1 (by decide) (by decide) rfl rfl ?_
    refine xr_iconst (v := 1) dX4_nameOf_98 rfl ?_
    exact xr_iret dX4_nameOf_99 rfl rfl (⟨congrArg (fun z => some (Value.int z)) (by unfold nameK; grind), rfl, rfl, rfl⟩)
  refine xg_eq 119 (fun w18 => ?_) (fun w18 => ?_)
  · refine xr_tableIn (tgt := 108) dX4_nameOf_1 (by decide) (by decide) rfl rfl ?_
    refine xr_iconst (v := -1) dX4_nameOf_108 rfl ?_
    exact xr_iret dX4_nameOf_109 rfl rfl (⟨congrArg (fun z => some (Value.int z)) (by unfold nameK; grind), rfl, rfl, rfl⟩)
  refine xg_eq 120 (fun w19 => ?_) (fun w19 => ?_)
  · refine xr_tableIn (tgt := 108) dX4_nameOf_1 (by decide) (by decide) rfl rfl ?_
    refine xr_iconst (v := -1) dX4_nameOf_108 rfl ?_
    exact xr_iret dX4_nameOf_109 rfl rfl (⟨congrArg (fun z => some (Value.int z)) (by unfold nameK; grind), rfl, rfl, rfl⟩)
  refine xg_eq 121 (fun w20 => ?_) (fun w20 => ?_)
  · refine xr_tableIn (tgt := 106) dX4_nameOf_1 (by decide) (by decide) rfl rfl ?_
    refine xr_iconst (v := 5) dX4_nameOf_106 rfl ?_
    exact xr_iret dX4_nameOf_107 rfl rfl (⟨congrArg (fun z => some (Value.int z)) (by unfold nameK; grind), rfl, rfl, rfl⟩)
  refine xr_tableOut (tgt := 108) dX4_nameOf_1 (xg_out (lo := 102) (hi := 121) (by decide) (fun j h1 h2 qq => by have h3 : j = 102 ∨ j = 103 ∨ j = 104 ∨ j = 105 ∨ j = 106 ∨ j = 107 ∨ j = 108 ∨ j = 109 ∨ j = 110 ∨ j = 111 ∨ j = 112 ∨ j = 113 ∨ j = 114 ∨ j = 115 ∨ j = 116 ∨ j = 117 ∨ j = 118 ∨ j = 119 ∨ j = 120 ∨ j = 121 := (by omega); rcases h3 with rfl | rfl | rfl | rfl | rfl | rfl | rfl | rfl | rfl | rfl | rfl | rfl | rfl | rfl | rfl | rfl | rfl | rfl | rfl | rfl <;> first | exact absurd qq w1 | exact absurd qq w2 | exact absurd qq w3 | exact absurd qq w4 | exact absurd qq w5 | exact absurd qq w6 | exact absurd qq w7 | exact absurd qq w8 | exact absurd qq w9 | exact absurd qq w10 | exact absurd qq w11 | exact absurd qq w12 | exact absurd qq w13 | exact absurd qq w14 | exact absurd qq w15 | exact absurd qq w16 | exact absurd qq w17 | exact absurd qq w18 | exact absurd qq w19 | exact absurd qq w20)) rfl ?_
  refine xr_iconst (v := -1) dX4_nameOf_108 rfl ?_
  exact xr_iret dX4_nameOf_109 rfl rfl (⟨congrArg (fun z => some (Value.int z)) (by unfold nameK; grind), rfl, rfl, rfl⟩)
/-- what reading leaves, from a place on, where so many signs lay -/
def PZC (M M2 : xM) (E lv o a n : Nat) : Prop := ∃ (f a2 : Nat) (ok : Bool) (cd : zC), pz (M 7) E f false lv o a true [] = some (a2, ok, cd) ∧ M2 6 3 = nI a2 ∧ M2 6 4 = (if ok = true then 0 else 1) ∧ M2 8 4 = nI (n + cd.length) ∧ CAt M2 n cd ∧ CBe M M2 n
def RDS (u : Nat) : Prop := ∀ (l : Launch) (G : xG) (M : xM) (J : xJ) (o a E n : Nat), o + u = 6 → E ≤ 120 → a ≤ E → n ≤ a → DI M → M 6 3 = nI a → M 6 2 = nI E → M 6 4 = 0 → M 8 4 = nI n → x_M l G fX4_readOperand (20 * u + 10) 0 0 [.ref 6, .int (nI o)] x_SH M J (qKV WRD M J (fun M2 => DI M2 ∧ PZC M M2 E 5 o a n))
def RCS (L u : Nat) : Prop := ∀ (l : Launch) (G : xG) (M : xM) (J : xJ) (o a E n : Nat), o + u = 6 → E ≤ 120 → a ≤ E → n ≤ a → DI M → M 6 3 = nI a → M 6 2 = nI E → M 6 4 = 0 → M 8 4 = nI n → x_M l G fX4_readChain (20 * u + 18 - L) 0 0 [.ref 6, .int (nI L), .int (nI o)] x_SH M J (qKV WRD M J (fun M2 => DI M2 ∧ PZC M M2 E L o a n))
/-- behind a sign that opens -/
def opB (T : Nat → Int32) (E f : Nat) (c : Int32) (o a : Nat) : Option (Nat × Bool × zC) := if c = 40 then (pz T E f false 0 o a true []).bind fun r => if r.2.1 = true ∧ nb T E r.1 = 41 then some (r.1 + 1, true, r.2.2) else some (r.1, false, r.2.2) else (pz T E f false 5 o a true []).bind fun r => some (r.1, r.2.1, r.2.2 ++ [(if c = 33 then 4 else 5, 0)])
def OPC (M M2 : xM) (E : Nat) (c : Int32) (o a n : Nat) : Prop := ∃ (f a2 : Nat) (ok : Bool) (cd : zC), opB (M 7) E f c o a = some (a2, ok, cd) ∧ M2 6 3 = nI a2 ∧ M2 6 4 = (if ok = true then 0 else 1) ∧ M2 8 4 = nI (n + cd.length) ∧ CAt M2 n cd ∧ CBe M M2 n
