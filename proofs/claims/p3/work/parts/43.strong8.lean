def el9 (el : Nat → Int64) (j : Nat) : Prop := (1 ≤ (el j).toInt32 ∧ (el j).toInt32 ≤ 9) ∧ (1 ≤ (el (j + 1)).toInt32 ∧ (el (j + 1)).toInt32 ≤ 9) ∧ (-9 ≤ (el (j + 2)).toInt32 ∧ (el (j + 2)).toInt32 ≤ 9)
def el10 (el : Nat → Int64) (j : Nat) : Prop := (1 ≤ el j ∧ el j ≤ 9) ∧ (1 ≤ el (j + 1) ∧ el (j + 1) ≤ 9) ∧ (-9 ≤ el (j + 2) ∧ el (j + 2) ≤ 9)
def oC (L : Int32) (el : Nat → Int64) (a : Int32) : Prop := ∃ j s : Nat, s ≤ 60 ∧ L = nI s ∧ a = nI j ∧ j + 3 ≤ s ∧ el9 el j
def oR (L : Int32) (el : Nat → Int64) (i : Int32) (k : Nat) : Prop := ∃ j s : Nat, s ≤ 60 ∧ L = nI s ∧ i = nI j ∧ j + 3 * k + 3 ≤ s ∧ el10 el (j + 3 * k)
def ECame (ok : Prop) (c c2 r : Int32) : Prop := ∃ n : Nat, n ≤ 5 ∧ c = nI n ∧ (r = 1 ∧ ok ∧ n < 5 ∧ c2 = nI (n + 1) ∨ r = 0 ∧ ¬ (ok ∧ n < 5) ∧ c2 = nI n)
theorem oC_lt {s j : Nat} {L a : Int32} (hs : s ≤ 60) (hL : L = nI s) (ha : a = nI j) (hj : j + 3 ≤ s) : ¬ L - 3 < a ∧ ¬ 57 < a ∧ ¬ a < 0 := by
  subst hL; subst ha
  have e : (nI s - 3).toInt = (s : Int) - 3 := (show ∀ s, s ≤ 60 → (nI s - 3).toInt = (s : Int) - 3 by decide +kernel) s hs
  refine ⟨fun q => ?_, nI_nlt (a := 57) (b := j) (by omega) (by decide), nI_nlt (a := j) (b := 0) (by omega) (by omega)⟩
  rw [Int32.lt_iff_toInt_lt, e, nI_toInt (by omega)] at q
  omega
theorem oC_in {s : Nat} {L a : Int32} (hs : s ≤ 60) (hL : L = nI s) (h1 : ¬ a < 0) (h2 : ¬ L - 3 < a) (h3 : ¬ 57 < a) : ∃ j : Nat, j + 3 ≤ s ∧ a = nI j := by
  subst hL
  obtain ⟨j, hj, rfl⟩ := x_natle (v := a) (N := 57) (K := 57) (by decide) (by decide) ⟨by grind, by grind⟩
  have e : (nI s - 3).toInt = (s : Int) - 3 := (show ∀ s, s ≤ 60 → (nI s - 3).toInt = (s : Int) - 3 by decide +kernel) s hs
  rw [Int32.lt_iff_toInt_lt, e, nI_toInt (by omega)] at h2
  exact ⟨j, by omega, rfl⟩
set_option maxRecDepth 100000 in
set_option maxHeartbeats 4000000 in
theorem gs_X9_hoopCame (a : Int32) {sq el : Nat} (hs : x_SH[sq]? = some (.inl (6, [none, none, none, none, some (some el)]))) (hel : x_SH[el]? = some (.inr (2, 60, fun _ => none))) {s : Nat} (h_s : s ≤ 60) {l : Launch} {G : xG} {M : xM} {J : xJ} {cn : Nat} (h_cn : cn ≤ 5) (e_cn : M 13 2 = nI cn) (e_s : M sq 3 = nI s) : x_M l G fX9_hoopCame 2 0 0 [.ref (0), .ref (sq), .int (a)] x_SH M J (qKI WAH M J (fun r M2 => ECame (oC (M sq 3) (J el) a) (M 13 2) (M2 13 2) r)) := by
  refine xb_of pX9 (Nat.le_of_ble_eq_true rfl) rfl ?_
  refine xr_iload_n dX9_hoopCame_0 2 rfl ?_
  refine xr_if_lt (tgt := 30) dX9_hoopCame_1 rfl (fun c1 => ?_) (fun c1 => ?_)
  · refine xr_iconst (v := 0) dX9_hoopCame_30 rfl ?_
    exact xr_iret dX9_hoopCame_31 rfl rfl (⟨_, rfl, rfl, rfl, Ke.rf, ⟨cn, h_cn, e_cn, Or.inr ⟨rfl, fun q => by obtain ⟨⟨j, s2, hs2, hL2, ha2, hj2, h9⟩, h5⟩ := q; exact (oC_lt hs2 hL2 ha2 hj2).2.2 c1, e_cn⟩⟩⟩)
  · refine xr_iload_n dX9_hoopCame_4 2 rfl ?_
    refine xr_aload_n dX9_hoopCame_5 1 rfl ?_
    refine xb_get (v := (M sq 3)) flX9_399 dX9_hoopCame_6 hs rfl rfl ?_
    refine xr_iconst (v := 3) dX9_hoopCame_9 rfl ?_
    refine xr_isub dX9_hoopCame_10 ?_
    refine xr_icmp_gt (tgt := 30) dX9_hoopCame_11 rfl (fun c2 => ?_) (fun c2 => ?_)
    · refine xr_iconst (v := 0) dX9_hoopCame_30 rfl ?_
      exact xr_iret dX9_hoopCame_31 rfl rfl (⟨_, rfl, rfl, rfl, Ke.rf, ⟨cn, h_cn, e_cn, Or.inr ⟨rfl, fun q => by obtain ⟨⟨j, s2, hs2, hL2, ha2, hj2, h9⟩, h5⟩ := q; exact (oC_lt hs2 hL2 ha2 hj2).1 c2, e_cn⟩⟩⟩)
    · refine xr_iload_n dX9_hoopCame_14 2 rfl ?_
      refine xr_bipush (v := 57) dX9_hoopCame_15 rfl ?_
      refine xr_icmp_gt (tgt := 30) dX9_hoopCame_17 rfl (fun c3 => ?_) (fun c3 => ?_)
      · refine xr_iconst (v := 0) dX9_hoopCame_30 rfl ?_
        exact xr_iret dX9_hoopCame_31 rfl rfl (⟨_, rfl, rfl, rfl, Ke.rf, ⟨cn, h_cn, e_cn, Or.inr ⟨rfl, fun q => by obtain ⟨⟨j, s2, hs2, hL2, ha2, hj2, h9⟩, h5⟩ := q; exact (oC_lt hs2 hL2 ha2 hj2).2.1 c3, e_cn⟩⟩⟩)
      · refine xr_aload_n dX9_hoopCame_20 0 rfl ?_
        refine xr_getR flX9_28 dX9_hoopCame_21 s_0 rfl ?_
        refine xb_cV (As := []) (rest := []) mlX9_80 (c_X5_isFull (by omega) e_cn) dX9_hoopCame_24 s_13 rfl rfl (Nat.le_of_ble_eq_true rfl) (by decide) (by decide) ?_
        refine xb_beq (tgt := 32) dX9_hoopCame_27 rfl (fun c4 => ?_) (fun c4 => ?_)
        · obtain ⟨at_, hat_, rfl⟩ := oC_in h_s e_s c1 c2 c3
          refine xr_aload_n dX9_hoopCame_32 1 rfl ?_
          refine xr_getR flX9_362 dX9_hoopCame_33 hs rfl ?_
          refine xr_iload_n dX9_hoopCame_36 2 rfl ?_
          refine xb_lald (j := at_) (v := J el at_) dX9_hoopCame_37 hel (by omega) (by decide) rfl ?_
          refine xr_l2i dX9_hoopCame_38 ?_
          refine xr_istore_n (ls2 := [(3, .int ((J el at_).toInt32)), (0, .ref (0)), (1, .ref (sq)), (2, .int (nI (at_)))]) dX9_hoopCame_39 (by decide) rfl ?_
          refine xr_aload_n dX9_hoopCame_40 2 rfl ?_
          refine xr_getR flX9_362 dX9_hoopCame_41 hs rfl ?_
          refine xr_iload_n dX9_hoopCame_44 3 rfl ?_
          refine xr_iconst (v := 1) dX9_hoopCame_45 rfl ?_
          refine xr_iadd dX9_hoopCame_46 ?_
          refine xb_top (y := nI (at_ + 1)) (nI_add (at_) (1)) ?_
          refine xb_lald (j := at_ + 1) (v := J el (at_ + 1)) dX9_hoopCame_47 hel (by omega) (by decide) rfl ?_
          refine xr_l2i dX9_hoopCame_48 ?_
          refine xr_istore (ls2 := [(4, .int ((J el (at_ + 1)).toInt32)), (3, .int ((J el at_).toInt32)), (0, .ref (0)), (1, .ref (sq)), (2, .int (nI (at_)))]) dX9_hoopCame_49 (by decide) rfl ?_
          refine xr_aload_n dX9_hoopCame_51 3 rfl ?_
          refine xr_getR flX9_362 dX9_hoopCame_52 hs rfl ?_
          refine xr_iload_n dX9_hoopCame_55 4 rfl ?_
          refine xr_iconst (v := 2) dX9_hoopCame_56 rfl ?_
          refine xr_iadd dX9_hoopCame_57 ?_
          refine xb_top (y := nI (at_ + 2)) (nI_add (at_) (2)) ?_
          refine xb_lald (j := at_ + 2) (v := J el (at_ + 2)) dX9_hoopCame_58 hel (by omega) (by decide) rfl ?_
          refine xr_l2i dX9_hoopCame_59 ?_
          refine xr_istore (ls2 := [(5, .int ((J el (at_ + 2)).toInt32)), (4, .int ((J el (at_ + 1)).toInt32)), (3, .int ((J el at_).toInt32)), (0, .ref (0)), (1, .ref (sq)), (2, .int (nI (at_)))]) dX9_hoopCame_60 (by decide) rfl ?_
          refine xr_iload_n dX9_hoopCame_62 2 rfl ?_
          refine xb_cS (As := [.int ((J el at_).toInt32)]) (rest := []) mlX9_76 (c_X9_isWeight ((J el at_).toInt32)) dX9_hoopCame_63 rfl rfl (Nat.le_of_ble_eq_true rfl) (by decide) (by decide) ?_
          refine xb_beq (tgt := 85) dX9_hoopCame_66 rfl (fun c5 => ?_) (fun c5 => ?_)
          · refine xr_iconst (v := 0) dX9_hoopCame_85 rfl ?_
            exact xr_iret dX9_hoopCame_86 rfl rfl (⟨_, rfl, rfl, rfl, Ke.rf, ⟨cn, h_cn, e_cn, Or.inr ⟨rfl, fun q => by obtain ⟨⟨j, s2, hs2, hL2, ha2, hj2, h9⟩, h5⟩ := q; rw [← (nI_eq (a := at_) (b := j) (by omega) (by omega)).mp ha2] at h9; exact c5 h9.1, e_cn⟩⟩⟩)
          · refine xr_iload dX9_hoopCame_69 1 rfl ?_
            refine xb_cS (As := [.int ((J el (at_ + 1)).toInt32)]) (rest := []) mlX9_76 (c_X9_isWeight ((J el (at_ + 1)).toInt32)) dX9_hoopCame_71 rfl rfl (Nat.le_of_ble_eq_true rfl) (by decide) (by decide) ?_
            refine xb_beq (tgt := 85) dX9_hoopCame_74 rfl (fun c6 => ?_) (fun c6 => ?_)
            · refine xr_iconst (v := 0) dX9_hoopCame_85 rfl ?_
              exact xr_iret dX9_hoopCame_86 rfl rfl (⟨_, rfl, rfl, rfl, Ke.rf, ⟨cn, h_cn, e_cn, Or.inr ⟨rfl, fun q => by obtain ⟨⟨j, s2, hs2, hL2, ha2, hj2, h9⟩, h5⟩ := q; rw [← (nI_eq (a := at_) (b := j) (by omega) (by omega)).mp ha2] at h9; exact c6 h9.2.1, e_cn⟩⟩⟩)
            · refine xr_iload dX9_hoopCame_77 0 rfl ?_
              refine xb_cS (As := [.int ((J el (at_ + 2)).toInt32)]) (rest := []) mlX9_400 (c_X9_isPace ((J el (at_ + 2)).toInt32)) dX9_hoopCame_79 rfl rfl (Nat.le_of_ble_eq_true rfl) (by decide) (by decide) ?_
              refine xb_bne (tgt := 87) dX9_hoopCame_82 rfl (fun c7 => ?_) (fun c7 => ?_)
              · refine xr_aload_n dX9_hoopCame_87 3 rfl ?_
                refine xr_getR flX9_28 dX9_hoopCame_88 s_0 rfl ?_
                refine xr_iload_n dX9_hoopCame_91 2 rfl ?_
                refine xr_iload dX9_hoopCame_92 1 rfl ?_
                refine xr_iload dX9_hoopCame_94 0 rfl ?_
                refine xr_callV (As := [.int ((J el at_).toInt32), .int ((J el (at_ + 1)).toInt32), .int ((J el (at_ + 2)).toInt32)]) (rest := []) mlX9_84 (g_X5_addHoop ((J el at_).toInt32) ((J el (at_ + 1)).toInt32) ((J el (at_ + 2)).toInt32) (by omega) e_cn) dX9_hoopCame_96 s_13 rfl rfl (Nat.le_of_ble_eq_true rfl) (by decide) ⟨by decide, by decide⟩ (fun v s2 M9 J2 hq => ?_)
                obtain ⟨r11, rfl, rfl, rfl, k10, hx8⟩ := hq
                try dsimp only [Option.toList, List.cons_append, List.nil_append]
                obtain ⟨hr9, hc9, e_c9⟩ := Or.resolve_left hx8 (fun q => c4 q.2.1)
                refine xr_pop dX9_hoopCame_99 rfl ?_
                refine xr_iconst (v := 1) dX9_hoopCame_100 rfl ?_
                exact xr_iret dX9_hoopCame_101 rfl rfl (⟨_, rfl, rfl, rfl, (Ke.tr (fun _ _ h => h) Ke.rf k10), ⟨cn, h_cn, e_cn, Or.inl ⟨rfl, ⟨at_, s, h_s, e_s, rfl, hat_, c5, c6, c7⟩, hc9, e_c9⟩⟩⟩)
              · refine xr_iconst (v := 0) dX9_hoopCame_85 rfl ?_
                exact xr_iret dX9_hoopCame_86 rfl rfl (⟨_, rfl, rfl, rfl, Ke.rf, ⟨cn, h_cn, e_cn, Or.inr ⟨rfl, fun q => by obtain ⟨⟨j, s2, hs2, hL2, ha2, hj2, h9⟩, h5⟩ := q; rw [← (nI_eq (a := at_) (b := j) (by omega) (by omega)).mp ha2] at h9; exact c7 h9.2.2, e_cn⟩⟩⟩)
        · refine xr_iconst (v := 0) dX9_hoopCame_30 rfl ?_
          exact xr_iret dX9_hoopCame_31 rfl rfl (⟨_, rfl, rfl, rfl, Ke.rf, ⟨cn, h_cn, e_cn, Or.inr ⟨rfl, fun q => absurd q.2 (by omega), e_cn⟩⟩⟩)
set_option maxRecDepth 100000 in
set_option maxHeartbeats 4000000 in
theorem hos_l {i : Int32} {N s cn : Nat} (hN : N ≤ 5) (h_s : s ≤ 60) (h_cn : cn ≤ 5) {sq el : Nat} (hs : x_SH[sq]? = some (.inl (6, [none, none, none, none, some (some el)]))) (hel : x_SH[el]? = some (.inr (2, 60, fun _ => none))) (hsq : ∀ k, ¬ WAH sq k) {l : Launch} {G : xG} {M : xM} {J : xJ} {Q : xQ} (e_s : M sq 3 = nI s) (hC : ∀ (t : Nat) (M2 : xM), Ke WAH M M2 → t ≤ N → M2 13 2 = nI (cn + t) → (∀ k, k < t → oC (M sq 3) (J el) (i + nI (3 * k)) ∧ cn + k < 5) → (t < N → ¬ (oC (M sq 3) (J el) (i + nI (3 * t)) ∧ cn + t < 5)) → Q (some (.int (nI t))) x_SH M2 J) : ∀ (m k : Nat) (M1 : xM), k + m = N → Ke WAH M M1 → M1 13 2 = nI (cn + k) → (∀ k2, k2 < k → oC (M sq 3) (J el) (i + nI (3 * k2)) ∧ cn + k2 < 5) → x_X l G fX9_hoops 3 0 0 Q 49 [(5, .int (nI (k))), (4, .ref (sq)), (3, .int (nI (N))), (2, .int (i)), (0, .ref (0))] [] x_SH M1 J 0 0 := by
  intro m
  induction m with
  | zero =>
    intro k M1 hk hM hc hok
    refine xr_iload dX9_hoops_49 0 rfl ?_
    refine xr_iload_n dX9_hoops_51 2 rfl ?_
    refine xr_icmp_ge (tgt := 76) dX9_hoops_52 rfl (fun _ => ?_) (fun c => absurd (nI_le (a := N) (b := k) (by omega) (by omega)) c)
    refine xr_iload dX9_hoops_76 0 rfl ?_
    exact xr_iret dX9_hoops_78 rfl rfl ((by obtain rfl : k = N := (by omega); exact hC k _ hM (by omega) hc hok (fun q => absurd q (by omega))))
  | succ m ih =>
    intro k M1 hk hM hc hok
    have hcn5 : cn + k ≤ 5 := by
      cases k with
      | zero => omega
      | succ k0 => have := (hok k0 (by omega)).2; omega
    have hs3 : M1 sq 3 = M sq 3 := hM sq 3 (hsq 3)
    refine xr_iload dX9_hoops_49 0 rfl ?_
    refine xr_iload_n dX9_hoops_51 2 rfl ?_
    refine xr_icmp_ge (tgt := 76) dX9_hoops_52 rfl (fun c => absurd c (nI_ge (a := k) (b := N) (by omega) (by omega))) (fun _ => ?_)
    refine xr_aload_n dX9_hoops_55 4 rfl ?_
    refine xr_aload dX9_hoops_56 1 rfl ?_
    refine xr_iload_n dX9_hoops_58 3 rfl ?_
    refine xr_iconst (v := 3) dX9_hoops_59 rfl ?_
    refine xr_iload dX9_hoops_60 0 rfl ?_
    refine xr_imul dX9_hoops_62 ?_
    refine xb_top (y := nI (3 * k)) (nI_mulc 3 k) ?_
    refine xr_iadd dX9_hoops_63 ?_
    refine xr_callV (As := [.ref (sq), .int ((i + (nI (3 * k))))]) (rest := []) mlX9_97 (gs_X9_hoopCame (i + (nI (3 * k))) hs hel (s := s) h_s (cn := cn + k) hcn5 hc (hs3.trans e_s)) dX9_hoops_64 s_0 rfl rfl (Nat.le_of_ble_eq_true rfl) (by decide) ⟨by decide, by decide⟩ (fun v s2 M2 J2 hq => ?_)
    obtain ⟨r4, rfl, rfl, rfl, k3, hx1⟩ := hq
    try dsimp only [Option.toList, List.cons_append, List.nil_append]
    obtain ⟨n9, hn9, en9, hx9⟩ := hx1
    obtain rfl : cn + k = n9 := (nI_eq (by omega) (by omega)).mp (hc.symm.trans en9)
    rcases hx9 with ⟨rfl, hyes, hlt, hc2⟩ | ⟨rfl, hno, hc2⟩
    · refine xr_if_eq (tgt := 76) dX9_hoops_67 rfl (fun c => absurd c (by decide)) (fun _ => ?_)
      refine xr_iinc (v := nI (k + 1)) (ls2 := [(5, .int (nI (k + 1))), (4, .ref (sq)), (3, .int (nI (N))), (2, .int (i)), (0, .ref (0))]) dX9_hoops_70 0 rfl (nI_1 _) (by decide) rfl ?_
      refine xr_goto (tgt := 49) dX9_hoops_73 rfl ?_
      refine xb_ls (ls2 := [(5, .int (nI (k + 1))), (4, .ref (sq)), (3, .int (nI (N))), (2, .int (i)), (0, .ref (0))]) [0, 1, 2, 3, 4] rfl ?_
      exact ih (k + 1) M2 (by omega) (Ke.tr (fun _ _ h => h) hM k3) hc2 (fun k2 hk2 => by
        by_cases q : k2 = k
        · subst q; rw [← hs3]; exact ⟨hyes, hlt⟩
        · exact hok k2 (by omega))
    · refine xr_if_eq (tgt := 76) dX9_hoops_67 rfl (fun _ => ?_) (fun c => absurd (by decide) c)
      refine xr_iload dX9_hoops_76 0 rfl ?_
      exact xr_iret dX9_hoops_78 rfl rfl ((hC k _ (Ke.tr (fun _ _ h => h) hM k3) (by omega) hc2 hok (fun _ => by rw [← hs3]; exact hno)))
def EHs9 (M : xM) (J : xJ) (d i n c2 r : Int32) : Prop := ¬ ((0 ≤ d ∧ d < 6) ∧ (1 ≤ n ∧ n ≤ 5)) ∧ r = -1 ∧ c2 = M 13 2 ∨ (∃ q : Nat, q < 6 ∧ d = nI q ∧ ((0 ≤ d ∧ d < 6) ∧ (1 ≤ n ∧ n ≤ 5)) ∧ (¬ M (50 + 2 * q) 0 = 0 ∧ ¬ (M (50 + 2 * q) 0 = 2 ∧ M (50 + 2 * q) 2 = 0)) ∧ r = -12 ∧ c2 = M 13 2) ∨ (((0 ≤ d ∧ d < 6) ∧ (1 ≤ n ∧ n ≤ 5)) ∧ ∃ q : Nat, q < 6 ∧ d = nI q ∧ ¬ (¬ M (50 + 2 * q) 0 = 0 ∧ ¬ (M (50 + 2 * q) 0 = 2 ∧ M (50 + 2 * q) 2 = 0)) ∧ ∃ N h t : Nat, N ≤ 5 ∧ n = nI N ∧ h ≤ 5 ∧ M 13 2 = nI h ∧ t ≤ N ∧ (∀ k, k < t → oC (M (50 + 2 * q) 3) (J (51 + 2 * q)) (i + nI (3 * k)) ∧ h + k < 5) ∧ (t < N → ¬ (oC (M (50 + 2 * q) 3) (J (51 + 2 * q)) (i + nI (3 * t)) ∧ h + t < 5)) ∧ r = nI t ∧ c2 = nI (h + t))
set_option maxRecDepth 100000 in
set_option maxHeartbeats 4000000 in
theorem gs_X9_hoops (sh i nn : Int32) {l : Launch} {G : xG} {M : xM} {J : xJ} (hI : InvC M) : x_M l G fX9_hoops 3 0 0 [.ref (0), .int (sh), .int (i), .int (nn)] x_SH M J (qKI WAH M J (fun r M2 => InvC M2 ∧ (EHs9 M J sh i nn (M2 13 2) r))) := by
  refine xb_of pX9 (Nat.le_of_ble_eq_true rfl) rfl ?_
  obtain ⟨⟨cn, h_cn, e_cn⟩, ⟨cm, h_cm, e_cm⟩, ⟨L, h_L, e_L⟩, hv, hD, ⟨n, h_n, e_n⟩, ⟨un, wn, h_uw, h_wn, e_un, e_wn⟩, ⟨b, h_b, e_b⟩, hkd, ⟨ra, h_ra, e_ra⟩, hsl, hS⟩ := hI
  refine xr_iload_n dX9_hoops_0 1 rfl ?_
  refine xb_cS (As := [.int (sh)]) (rest := []) mlX9_88 (c_X9_isShelf sh) dX9_hoops_1 rfl rfl (Nat.le_of_ble_eq_true rfl) (by decide) (by decide) ?_
  refine xb_beq (tgt := 17) dX9_hoops_4 rfl (fun c1 => ?_) (fun c1 => ?_)
  · refine xr_iconst (v := -1) dX9_hoops_17 rfl ?_
    exact xr_iret dX9_hoops_18 rfl rfl (⟨_, rfl, rfl, rfl, Ke.rf, ⟨⟨⟨cn, by omega, e_cn⟩, ⟨cm, by omega, e_cm⟩, ⟨L, by omega, e_L⟩, (fun kk hkk => by rw [show M 3 kk = M 3 kk from rfl]; exact hv kk hkk), hD, ⟨n, by omega, e_n⟩, ⟨un, wn, by omega, by omega, e_un, e_wn⟩, ⟨b, by omega, e_b⟩, (fun j hj => by obtain ⟨q, hq, eq⟩ := hkd j hj; exact ⟨q, hq, (show M 47 j = M 47 j from rfl).trans eq⟩), ⟨ra, by omega, e_ra⟩, (fun j hj => by obtain ⟨s, hs, es⟩ := hsl j hj; exact ⟨s, hs, (show M (50 + 2 * j) 3 = M (50 + 2 * j) 3 from rfl).trans es⟩), (fun j hj => by obtain ⟨q, hq, eq⟩ := hS j hj; exact ⟨q, hq, (show M 36 j = M 36 j from rfl).trans eq⟩)⟩, (Or.inl ⟨(fun q => c1 q.1), rfl, rfl⟩)⟩⟩)
  · obtain ⟨s_, hs_, rfl⟩ := x_nat (N := 6) (by decide) rfl c1
    refine xr_iload_n dX9_hoops_7 3 rfl ?_
    refine xr_iconst (v := 1) dX9_hoops_8 rfl ?_
    refine xr_icmp_lt (tgt := 17) dX9_hoops_9 rfl (fun c2 => ?_) (fun c2 => ?_)
    · refine xr_iconst (v := -1) dX9_hoops_17 rfl ?_
      exact xr_iret dX9_hoops_18 rfl rfl (⟨_, rfl, rfl, rfl, Ke.rf, ⟨⟨⟨cn, by omega, e_cn⟩, ⟨cm, by omega, e_cm⟩, ⟨L, by omega, e_L⟩, (fun kk hkk => by rw [show M 3 kk = M 3 kk from rfl]; exact hv kk hkk), hD, ⟨n, by omega, e_n⟩, ⟨un, wn, by omega, by omega, e_un, e_wn⟩, ⟨b, by omega, e_b⟩, (fun j hj => by obtain ⟨q, hq, eq⟩ := hkd j hj; exact ⟨q, hq, (show M 47 j = M 47 j from rfl).trans eq⟩), ⟨ra, by omega, e_ra⟩, (fun j hj => by obtain ⟨s, hs, es⟩ := hsl j hj; exact ⟨s, hs, (show M (50 + 2 * j) 3 = M (50 + 2 * j) 3 from rfl).trans es⟩), (fun j hj => by obtain ⟨q, hq, eq⟩ := hS j hj; exact ⟨q, hq, (show M 36 j = M 36 j from rfl).trans eq⟩)⟩, (Or.inl ⟨(fun q => absurd q.2 (by grind)), rfl, rfl⟩)⟩⟩)
    · refine xr_iload_n dX9_hoops_12 3 rfl ?_
      refine xr_iconst (v := 5) dX9_hoops_13 rfl ?_
      refine xr_icmp_le (tgt := 19) dX9_hoops_14 rfl (fun c3 => ?_) (fun c3 => ?_)
      · refine xr_aload_n dX9_hoops_19 0 rfl ?_
        refine xr_getR flX9_67 dX9_hoops_20 s_0 rfl ?_
        refine xr_iload_n dX9_hoops_23 1 rfl ?_
        refine xb_aald (j := s_) (q := 50 + 2 * s_) (by decide) dX9_hoops_24 s_49 hs_ (by decide) (if_pos hs_) ?_
        refine xr_astore (ls2 := [(4, .ref (50 + 2 * s_)), (0, .ref (0)), (1, .int (nI (s_))), (2, .int (i)), (3, .int (nn))]) dX9_hoops_25 (by decide) rfl ?_
        refine xr_aload dX9_hoops_27 0 rfl ?_
        refine xb_cV (As := []) (rest := []) mlX9_91 (c_X6_isEmpty (s_shelf hs_) (s_elem hs_)) dX9_hoops_29 (s_shelf hs_) rfl rfl (Nat.le_of_ble_eq_true rfl) (by decide) (by decide) ?_
        refine xb_bne (tgt := 46) dX9_hoops_32 rfl (fun c4 => ?_) (fun c4 => ?_)
        · refine xr_iconst (v := 0) dX9_hoops_46 rfl ?_
          refine xr_istore (ls2 := [(5, .int (0)), (4, .ref (50 + 2 * s_)), (0, .ref (0)), (1, .int (nI (s_))), (2, .int (i)), (3, .int (nn))]) dX9_hoops_47 (by decide) rfl ?_
          obtain ⟨N, hN, rfl⟩ := x_natle (v := nn) (N := 5) (K := 5) (by decide) (by decide) ⟨by grind, by grind⟩
          refine xb_ls (ls2 := [(5, .int (nI (0))), (4, .ref (50 + 2 * s_)), (3, .int (nI (N))), (2, .int (i)), (0, .ref (0))]) [0, 1, 5, 4, 2] rfl ?_
          obtain ⟨s, h_s, e_s⟩ := hsl s_ hs_
          refine hos_l (i := i) (by omega) h_s h_cn (s_shelf hs_) (s_elem hs_) (fun k => by unfold WAH; omega) e_s (fun t M2 hk ht hc2 hok hno => ⟨_, rfl, rfl, rfl, hk, ?_⟩) N 0 M (by omega) Ke.rf e_cn (fun _ q => absurd q (by omega))
          exact ⟨⟨⟨cn + t, (by cases t with
            | zero => omega
            | succ t0 => have := (hok t0 (by omega)).2; omega), hc2⟩, ⟨cm, by omega, (Eq.trans (hk 20 2 (by decide)) e_cm)⟩, ⟨L, by omega, (Eq.trans (hk 1 4 (by decide)) e_L)⟩, (fun kk hkk => by rw [show M2 3 kk = M 3 kk from (Eq.trans (hk 3 kk (by unfold WAH; omega)) rfl)]; exact hv kk hkk), (DI_ke (by intro k; unfold WAH; omega) hk hD), ⟨n, by omega, (Eq.trans (hk 6 2 (by decide)) e_n)⟩, ⟨un, wn, by omega, by omega, (Eq.trans (hk 41 4 (by decide)) e_un), (Eq.trans (hk 41 5 (by decide)) e_wn)⟩, ⟨b, by omega, (Eq.trans (hk 46 2 (by decide)) e_b)⟩, (fun j hj => by obtain ⟨q, hq, eq⟩ := hkd j hj; exact ⟨q, hq, (show M2 47 j = M 47 j from (Eq.trans (hk 47 j (by unfold WAH; omega)) rfl)).trans eq⟩), ⟨ra, by omega, (Eq.trans (hk 46 3 (by decide)) e_ra)⟩, (fun j hj => by obtain ⟨s, hs, es⟩ := hsl j hj; exact ⟨s, hs, (show M2 (50 + 2 * j) 3 = M (50 + 2 * j) 3 from (Eq.trans (hk (50 + 2 * j) 3 (by unfold WAH; omega)) rfl)).trans es⟩), (fun j hj => by obtain ⟨q, hq, eq⟩ := hS j hj; exact ⟨q, hq, (show M2 36 j = M 36 j from (Eq.trans (hk 36 j (by unfold WAH; omega)) rfl)).trans eq⟩)⟩, Or.inr (Or.inr ⟨⟨c1, by grind, by grind⟩, s_, hs_, rfl, (fun q => absurd c4 q.1), N, cn, t, by omega, rfl, h_cn, e_cn, ht, hok, hno, rfl, hc2⟩)⟩
        · refine xr_aload dX9_hoops_35 0 rfl ?_
          refine xb_cV (As := []) (rest := []) mlX9_94 (c_X6_hasBytes (s_shelf hs_) (s_elem hs_)) dX9_hoops_37 (s_shelf hs_) rfl rfl (Nat.le_of_ble_eq_true rfl) (by decide) (by decide) ?_
          refine xb_bne (tgt := 46) dX9_hoops_40 rfl (fun c5 => ?_) (fun c5 => ?_)
          · refine xr_iconst (v := 0) dX9_hoops_46 rfl ?_
            refine xr_istore (ls2 := [(5, .int (0)), (4, .ref (50 + 2 * s_)), (0, .ref (0)), (1, .int (nI (s_))), (2, .int (i)), (3, .int (nn))]) dX9_hoops_47 (by decide) rfl ?_
            obtain ⟨N, hN, rfl⟩ := x_natle (v := nn) (N := 5) (K := 5) (by decide) (by decide) ⟨by grind, by grind⟩
            refine xb_ls (ls2 := [(5, .int (nI (0))), (4, .ref (50 + 2 * s_)), (3, .int (nI (N))), (2, .int (i)), (0, .ref (0))]) [0, 1, 5, 4, 2] rfl ?_
            obtain ⟨s, h_s, e_s⟩ := hsl s_ hs_
            refine hos_l (i := i) (by omega) h_s h_cn (s_shelf hs_) (s_elem hs_) (fun k => by unfold WAH; omega) e_s (fun t M2 hk ht hc2 hok hno => ⟨_, rfl, rfl, rfl, hk, ?_⟩) N 0 M (by omega) Ke.rf e_cn (fun _ q => absurd q (by omega))
            exact ⟨⟨⟨cn + t, (by cases t with
              | zero => omega
              | succ t0 => have := (hok t0 (by omega)).2; omega), hc2⟩, ⟨cm, by omega, (Eq.trans (hk 20 2 (by decide)) e_cm)⟩, ⟨L, by omega, (Eq.trans (hk 1 4 (by decide)) e_L)⟩, (fun kk hkk => by rw [show M2 3 kk = M 3 kk from (Eq.trans (hk 3 kk (by unfold WAH; omega)) rfl)]; exact hv kk hkk), (DI_ke (by intro k; unfold WAH; omega) hk hD), ⟨n, by omega, (Eq.trans (hk 6 2 (by decide)) e_n)⟩, ⟨un, wn, by omega, by omega, (Eq.trans (hk 41 4 (by decide)) e_un), (Eq.trans (hk 41 5 (by decide)) e_wn)⟩, ⟨b, by omega, (Eq.trans (hk 46 2 (by decide)) e_b)⟩, (fun j hj => by obtain ⟨q, hq, eq⟩ := hkd j hj; exact ⟨q, hq, (show M2 47 j = M 47 j from (Eq.trans (hk 47 j (by unfold WAH; omega)) rfl)).trans eq⟩), ⟨ra, by omega, (Eq.trans (hk 46 3 (by decide)) e_ra)⟩, (fun j hj => by obtain ⟨s, hs, es⟩ := hsl j hj; exact ⟨s, hs, (show M2 (50 + 2 * j) 3 = M (50 + 2 * j) 3 from (Eq.trans (hk (50 + 2 * j) 3 (by unfold WAH; omega)) rfl)).trans es⟩), (fun j hj => by obtain ⟨q, hq, eq⟩ := hS j hj; exact ⟨q, hq, (show M2 36 j = M 36 j from (Eq.trans (hk 36 j (by unfold WAH; omega)) rfl)).trans eq⟩)⟩, Or.inr (Or.inr ⟨⟨c1, by grind, by grind⟩, s_, hs_, rfl, (fun q => q.2 c5), N, cn, t, by omega, rfl, h_cn, e_cn, ht, hok, hno, rfl, hc2⟩)⟩
          · refine xr_bipush (v := -12) dX9_hoops_43 rfl ?_
            exact xr_iret dX9_hoops_45 rfl rfl (⟨_, rfl, rfl, rfl, Ke.rf, ⟨⟨⟨cn, by omega, e_cn⟩, ⟨cm, by omega, e_cm⟩, ⟨L, by omega, e_L⟩, (fun kk hkk => by rw [show M 3 kk = M 3 kk from rfl]; exact hv kk hkk), hD, ⟨n, by omega, e_n⟩, ⟨un, wn, by omega, by omega, e_un, e_wn⟩, ⟨b, by omega, e_b⟩, (fun j hj => by obtain ⟨q, hq, eq⟩ := hkd j hj; exact ⟨q, hq, (show M 47 j = M 47 j from rfl).trans eq⟩), ⟨ra, by omega, e_ra⟩, (fun j hj => by obtain ⟨s, hs, es⟩ := hsl j hj; exact ⟨s, hs, (show M (50 + 2 * j) 3 = M (50 + 2 * j) 3 from rfl).trans es⟩), (fun j hj => by obtain ⟨q, hq, eq⟩ := hS j hj; exact ⟨q, hq, (show M 36 j = M 36 j from rfl).trans eq⟩)⟩, (Or.inr (Or.inl ⟨s_, hs_, rfl, ⟨c1, by grind, by grind⟩, ⟨c4, c5⟩, rfl, rfl⟩))⟩⟩)
      · refine xr_iconst (v := -1) dX9_hoops_17 rfl ?_
        exact xr_iret dX9_hoops_18 rfl rfl (⟨_, rfl, rfl, rfl, Ke.rf, ⟨⟨⟨cn, by omega, e_cn⟩, ⟨cm, by omega, e_cm⟩, ⟨L, by omega, e_L⟩, (fun kk hkk => by rw [show M 3 kk = M 3 kk from rfl]; exact hv kk hkk), hD, ⟨n, by omega, e_n⟩, ⟨un, wn, by omega, by omega, e_un, e_wn⟩, ⟨b, by omega, e_b⟩, (fun j hj => by obtain ⟨q, hq, eq⟩ := hkd j hj; exact ⟨q, hq, (show M 47 j = M 47 j from rfl).trans eq⟩), ⟨ra, by omega, e_ra⟩, (fun j hj => by obtain ⟨s, hs, es⟩ := hsl j hj; exact ⟨s, hs, (show M (50 + 2 * j) 3 = M (50 + 2 * j) 3 from rfl).trans es⟩), (fun j hj => by obtain ⟨q, hq, eq⟩ := hS j hj; exact ⟨q, hq, (show M 36 j = M 36 j from rfl).trans eq⟩)⟩, (Or.inl ⟨(fun q => absurd q.2 (by grind)), rfl, rfl⟩)⟩⟩)
def EHs10 (M : xM) (J : xJ) (d i n c2 r : Int32) : Prop := ¬ ((0 ≤ d ∧ d ≤ 5) ∧ (1 ≤ n ∧ n ≤ 5)) ∧ r = -1 ∧ c2 = M 62 6 ∨ (∃ q : Nat, q < 6 ∧ d = nI q ∧ ((0 ≤ d ∧ d ≤ 5) ∧ (1 ≤ n ∧ n ≤ 5)) ∧ (¬ M 83 q < 0 ∧ ¬ M 83 q = 50) ∧ r = -12 ∧ c2 = M 62 6) ∨ (((0 ≤ d ∧ d ≤ 5) ∧ (1 ≤ n ∧ n ≤ 5)) ∧ ∃ q : Nat, q < 6 ∧ d = nI q ∧ ¬ (¬ M 83 q < 0 ∧ ¬ M 83 q = 50) ∧ ∃ N h t : Nat, N ≤ 5 ∧ n = nI N ∧ h ≤ 5 ∧ M 62 6 = nI h ∧ t ≤ N ∧ (∀ k, k < t → (M 83 q = 50 ∧ oR (M 84 q) (fun j => J 85 (60 * q + j)) i k) ∧ h + k < 5) ∧ (t < N → ¬ ((M 83 q = 50 ∧ oR (M 84 q) (fun j => J 85 (60 * q + j)) i t) ∧ h + t < 5)) ∧ r = nI t ∧ c2 = nI (h + t))
theorem sx_hpn {nm i k : Nat} (hnm : nm ≤ 60) (h : i + 3 * k + 3 ≤ nm) : ¬ nI nm - 3 - nI (3 * k) < nI i := by
  have e : (nI nm - 3 - nI (3 * k)).toInt = (nm : Int) - 3 - 3 * k := (show ∀ nm, nm ≤ 60 → ∀ k, k ≤ 20 → (nI nm - 3 - nI (3 * k)).toInt = (nm : Int) - 3 - 3 * k by decide +kernel) nm hnm k (by omega)
  rw [Int32.lt_iff_toInt_lt, e, nI_toInt (by omega)]
  omega
set_option maxRecDepth 100000 in
set_option maxHeartbeats 4000000 in
theorem rhos_l {d nm N i hn : Nat} (hd : d < 6) (hnm : nm ≤ 60) (hN : N ≤ 5) (hi : i < 2 ^ 31) (h_hn : hn ≤ 5) {l : Launch} {G : xG} {M : xM} {J : xJ} {Q : xQ} (e_nm : M 84 d = nI nm) (hC : ∀ (t : Nat) (M2 : xM), Ke WAD M M2 → t ≤ N → (M2 62 6 = nI (hn + t) ∧ (∀ k2, k2 < hn + t → M2 63 (5 + k2) ≠ 0) ∧ M2 63 16 ≠ 0) → (∀ k, k < t → oR (M 84 d) (fun j => J 85 (60 * d + j)) (nI i) k ∧ hn + k < 5) → (t < N → ¬ (oR (M 84 d) (fun j => J 85 (60 * d + j)) (nI i) t ∧ hn + t < 5)) → Q (some (.int (nI t))) x_SH M2 J) : ∀ (m k : Nat) (M1 : xM), k + m = N → Ke WAD M M1 → (M1 62 6 = nI (hn + k) ∧ (∀ k2, k2 < hn + k → M1 63 (5 + k2) ≠ 0) ∧ M1 63 16 ≠ 0) → (∀ k2, k2 < k → oR (M 84 d) (fun j => J 85 (60 * d + j)) (nI i) k2 ∧ hn + k2 < 5) → x_X l G fX10_hoops 2 0 0 Q 69 [(5, .int (1)), (4, .int (nI (k))), (3, .int (nI (N))), (2, .int (nI (i))), (1, .int (nI (d))), (0, .ref (62))] [] x_SH M1 J 0 0 := by
  intro m
  induction m with
  | zero =>
    intro k M1 hk hM hI1 hok
    obtain ⟨e_hn, hw, hbt⟩ := hI1
    have hcn5 : hn + k ≤ 5 := by
      cases k with
      | zero => omega
      | succ k0 => have := (hok k0 (by omega)).2; omega
    refine xr_iload dX10_hoops_69 0 rfl ?_
    refine xr_if_eq (tgt := 211) dX10_hoops_71 rfl (fun c => absurd c (by decide)) (fun _ => ?_)
    refine xr_iload dX10_hoops_74 1 rfl ?_
    refine xr_iload_n dX10_hoops_76 2 rfl ?_
    refine xr_icmp_ge (tgt := 211) dX10_hoops_77 rfl (fun _ => ?_) (fun c => absurd (nI_le (a := N) (b := k) (by omega) (by omega)) c)
    refine xr_iload dX10_hoops_211 1 rfl ?_
    exact xr_iret dX10_hoops_213 rfl rfl ((by obtain rfl : k = N := (by omega); exact hC k _ hM (by omega) ⟨e_hn, hw, hbt⟩ hok (fun q => absurd q (by omega))))
  | succ m ih =>
    intro k M1 hk hM hI1 hok
    obtain ⟨e_hn, hw, hbt⟩ := hI1
    have hcn5 : hn + k ≤ 5 := by
      cases k with
      | zero => omega
      | succ k0 => have := (hok k0 (by omega)).2; omega
    refine xr_iload dX10_hoops_69 0 rfl ?_
    refine xr_if_eq (tgt := 211) dX10_hoops_71 rfl (fun c => absurd c (by decide)) (fun _ => ?_)
    refine xr_iload dX10_hoops_74 1 rfl ?_
    refine xr_iload_n dX10_hoops_76 2 rfl ?_
    refine xr_icmp_ge (tgt := 211) dX10_hoops_77 rfl (fun c => absurd c (nI_ge (a := k) (b := N) (by omega) (by omega))) (fun _ => ?_)
    refine xr_iload_n dX10_hoops_80 3 rfl ?_
    refine xr_aload_n dX10_hoops_81 5 rfl ?_
    refine xr_getR flX10_78 dX10_hoops_82 s_62 rfl ?_
    refine xr_iload_n dX10_hoops_85 4 rfl ?_
    refine xb_iald (j := d) (v := nI (nm)) dX10_hoops_86 s_84 hd (by decide) (Eq.trans (hM 84 d (by unfold WAD; omega)) e_nm) ?_
    refine xr_iconst (v := 3) dX10_hoops_87 rfl ?_
    refine xr_isub dX10_hoops_88 ?_
    refine xr_iconst (v := 3) dX10_hoops_89 rfl ?_
    refine xr_iload dX10_hoops_90 1 rfl ?_
    refine xr_imul dX10_hoops_92 ?_
    refine xb_top (y := nI (3 * k)) (nI_mulc 3 k) ?_
    refine xr_isub dX10_hoops_93 ?_
    refine xr_icmp_gt (tgt := 109) dX10_hoops_94 rfl (fun c1 => ?_) (fun c1 => ?_)
    · refine xr_iconst (v := 0) dX10_hoops_109 rfl ?_
      refine xr_istore (ls2 := [(5, .int (0)), (4, .int (nI (k))), (3, .int (nI (N))), (2, .int (nI (i))), (1, .int (nI (d))), (0, .ref (62))]) dX10_hoops_110 (by decide) rfl ?_
      refine xr_bipush (v := 60) dX10_hoops_112 rfl ?_
      refine xr_iload_n dX10_hoops_114 4 rfl ?_
      refine xr_imul dX10_hoops_115 ?_
      refine xb_top (y := nI (60 * d)) (nI_mulc 60 d) ?_
      refine xr_iload_n dX10_hoops_116 3 rfl ?_
      refine xr_iadd dX10_hoops_117 ?_
      refine xb_top (y := nI (60 * d + i)) (nI_add (60 * d) (i)) ?_
      refine xr_iconst (v := 3) dX10_hoops_118 rfl ?_
      refine xr_iload dX10_hoops_119 1 rfl ?_
      refine xr_imul dX10_hoops_121 ?_
      refine xb_top (y := nI (3 * k)) (nI_mulc 3 k) ?_
      refine xr_iadd dX10_hoops_122 ?_
      refine xb_top (y := nI (60 * d + i + 3 * k)) (nI_add (60 * d + i) (3 * k)) ?_
      refine xr_istore (ls2 := [(6, .int (nI (60 * d + i + 3 * k))), (5, .int (0)), (4, .int (nI (k))), (3, .int (nI (N))), (2, .int (nI (i))), (1, .int (nI (d))), (0, .ref (62))]) dX10_hoops_123 (by decide) rfl ?_
      refine xr_iload dX10_hoops_125 1 rfl ?_
      refine xr_if_eq (tgt := 165) dX10_hoops_127 rfl (fun _ => ?_) (fun c => absurd (by decide) c)
      refine xr_iconst (v := 0) dX10_hoops_165 rfl ?_
      refine xr_istore (ls2 := [(5, .int (0)), (6, .int (nI (60 * d + i + 3 * k))), (4, .int (nI (k))), (3, .int (nI (N))), (2, .int (nI (i))), (1, .int (nI (d))), (0, .ref (62))]) dX10_hoops_166 (by decide) rfl ?_
      refine xr_iload dX10_hoops_168 0 rfl ?_
      refine xr_if_eq (tgt := 208) dX10_hoops_170 rfl (fun _ => ?_) (fun c => absurd (by decide) c)
      refine xr_goto (tgt := 69) dX10_hoops_208 rfl ?_
      refine xr_iload dX10_hoops_69 0 rfl ?_
      refine xr_if_eq (tgt := 211) dX10_hoops_71 rfl (fun _ => ?_) (fun c => absurd (by decide) c)
      refine xr_iload dX10_hoops_211 2 rfl ?_
      exact xr_iret dX10_hoops_213 rfl rfl ((hC k _ hM (by omega) ⟨e_hn, hw, hbt⟩ hok (fun _ q => by obtain ⟨⟨j, s2, hs2, hL2, ha2, hj2, h9⟩, h5⟩ := q; have ej := (nI_eq (a := i) (b := j) hi (by omega)).mp ha2; have es := (nI_eq (a := nm) (b := s2) (by omega) (by omega)).mp (e_nm.symm.trans hL2); exact absurd c1 (sx_hpn hnm (by omega)))))
    · refine xr_aload_n dX10_hoops_97 5 rfl ?_
      refine xb_get (v := nI (hn + k)) flX10_109 dX10_hoops_98 s_62 rfl e_hn ?_
      refine xr_iconst (v := 5) dX10_hoops_101 rfl ?_
      refine xr_icmp_ge (tgt := 109) dX10_hoops_102 rfl (fun c2 => ?_) (fun c2 => ?_)
      · refine xr_iconst (v := 0) dX10_hoops_109 rfl ?_
        refine xr_istore (ls2 := [(5, .int (0)), (4, .int (nI (k))), (3, .int (nI (N))), (2, .int (nI (i))), (1, .int (nI (d))), (0, .ref (62))]) dX10_hoops_110 (by decide) rfl ?_
        refine xr_bipush (v := 60) dX10_hoops_112 rfl ?_
        refine xr_iload_n dX10_hoops_114 4 rfl ?_
        refine xr_imul dX10_hoops_115 ?_
        refine xb_top (y := nI (60 * d)) (nI_mulc 60 d) ?_
        refine xr_iload_n dX10_hoops_116 3 rfl ?_
        refine xr_iadd dX10_hoops_117 ?_
        refine xb_top (y := nI (60 * d + i)) (nI_add (60 * d) (i)) ?_
        refine xr_iconst (v := 3) dX10_hoops_118 rfl ?_
        refine xr_iload dX10_hoops_119 1 rfl ?_
        refine xr_imul dX10_hoops_121 ?_
        refine xb_top (y := nI (3 * k)) (nI_mulc 3 k) ?_
        refine xr_iadd dX10_hoops_122 ?_
        refine xb_top (y := nI (60 * d + i + 3 * k)) (nI_add (60 * d + i) (3 * k)) ?_
        refine xr_istore (ls2 := [(6, .int (nI (60 * d + i + 3 * k))), (5, .int (0)), (4, .int (nI (k))), (3, .int (nI (N))), (2, .int (nI (i))), (1, .int (nI (d))), (0, .ref (62))]) dX10_hoops_123 (by decide) rfl ?_
        refine xr_iload dX10_hoops_125 1 rfl ?_
        refine xr_if_eq (tgt := 165) dX10_hoops_127 rfl (fun _ => ?_) (fun c => absurd (by decide) c)
        refine xr_iconst (v := 0) dX10_hoops_165 rfl ?_
        refine xr_istore (ls2 := [(5, .int (0)), (6, .int (nI (60 * d + i + 3 * k))), (4, .int (nI (k))), (3, .int (nI (N))), (2, .int (nI (i))), (1, .int (nI (d))), (0, .ref (62))]) dX10_hoops_166 (by decide) rfl ?_
        refine xr_iload dX10_hoops_168 0 rfl ?_
        refine xr_if_eq (tgt := 208) dX10_hoops_170 rfl (fun _ => ?_) (fun c => absurd (by decide) c)
        refine xr_goto (tgt := 69) dX10_hoops_208 rfl ?_
        refine xr_iload dX10_hoops_69 0 rfl ?_
        refine xr_if_eq (tgt := 211) dX10_hoops_71 rfl (fun _ => ?_) (fun c => absurd (by decide) c)
        refine xr_iload dX10_hoops_211 2 rfl ?_
        exact xr_iret dX10_hoops_213 rfl rfl ((hC k _ hM (by omega) ⟨e_hn, hw, hbt⟩ hok (fun _ q => absurd q.2 (by have h6 := (nI_leI (a := 5) (b := hn + k) (by decide) (by omega)).mp c2; omega))))
      · have hin := sx_hps hnm hi (by omega) c1
        have h5 : hn + k < 5 := by
          have h6 : ¬ 5 ≤ hn + k := fun q => c2 ((nI_leI (a := 5) (b := hn + k) (by decide) (by omega)).mpr q)
          omega
        refine xr_iconst (v := 1) dX10_hoops_105 rfl ?_
        refine xr_goto (tgt := 110) dX10_hoops_106 rfl ?_
        refine xr_istore (ls2 := [(5, .int (1)), (4, .int (nI (k))), (3, .int (nI (N))), (2, .int (nI (i))), (1, .int (nI (d))), (0, .ref (62))]) dX10_hoops_110 (by decide) rfl ?_
        refine xr_bipush (v := 60) dX10_hoops_112 rfl ?_
        refine xr_iload_n dX10_hoops_114 4 rfl ?_
        refine xr_imul dX10_hoops_115 ?_
        refine xb_top (y := nI (60 * d)) (nI_mulc 60 d) ?_
        refine xr_iload_n dX10_hoops_116 3 rfl ?_
        refine xr_iadd dX10_hoops_117 ?_
        refine xb_top (y := nI (60 * d + i)) (nI_add (60 * d) (i)) ?_
        refine xr_iconst (v := 3) dX10_hoops_118 rfl ?_
        refine xr_iload dX10_hoops_119 1 rfl ?_
        refine xr_imul dX10_hoops_121 ?_
        refine xb_top (y := nI (3 * k)) (nI_mulc 3 k) ?_
        refine xr_iadd dX10_hoops_122 ?_
        refine xb_top (y := nI (60 * d + i + 3 * k)) (nI_add (60 * d + i) (3 * k)) ?_
        refine xr_istore (ls2 := [(6, .int (nI (60 * d + i + 3 * k))), (5, .int (1)), (4, .int (nI (k))), (3, .int (nI (N))), (2, .int (nI (i))), (1, .int (nI (d))), (0, .ref (62))]) dX10_hoops_123 (by decide) rfl ?_
        refine xr_iload dX10_hoops_125 1 rfl ?_
        refine xr_if_eq (tgt := 165) dX10_hoops_127 rfl (fun c => absurd c (by decide)) (fun _ => ?_)
        refine xr_aload_n dX10_hoops_130 6 rfl ?_
        refine xr_getR flX10_81 dX10_hoops_131 s_62 rfl ?_
        refine xr_iload dX10_hoops_134 0 rfl ?_
        refine xb_lald (j := 60 * d + i + 3 * k) (v := J 85 (60 * d + i + 3 * k)) dX10_hoops_136 s_85 (by omega) (by decide) rfl ?_
        refine xr_aload_n dX10_hoops_137 6 rfl ?_
        refine xr_getR flX10_81 dX10_hoops_138 s_62 rfl ?_
        refine xr_iload dX10_hoops_141 0 rfl ?_
        refine xr_iconst (v := 1) dX10_hoops_143 rfl ?_
        refine xr_iadd dX10_hoops_144 ?_
        refine xb_top (y := nI (60 * d + i + 3 * k + 1)) (nI_add (60 * d + i + 3 * k) (1)) ?_
        refine xb_lald (j := 60 * d + i + 3 * k + 1) (v := J 85 (60 * d + i + 3 * k + 1)) dX10_hoops_145 s_85 (by omega) (by decide) rfl ?_
        refine xr_aload_n dX10_hoops_146 6 rfl ?_
        refine xr_getR flX10_81 dX10_hoops_147 s_62 rfl ?_
        refine xr_iload dX10_hoops_150 0 rfl ?_
        refine xr_iconst (v := 2) dX10_hoops_152 rfl ?_
        refine xr_iadd dX10_hoops_153 ?_
        refine xb_top (y := nI (60 * d + i + 3 * k + 2)) (nI_add (60 * d + i + 3 * k) (2)) ?_
        refine xb_lald (j := 60 * d + i + 3 * k + 2) (v := J 85 (60 * d + i + 3 * k + 2)) dX10_hoops_154 s_85 (by omega) (by decide) rfl ?_
        refine xr_callS (As := [.long (J 85 (60 * d + i + 3 * k)), .long (J 85 (60 * d + i + 3 * k + 1)), .long (J 85 (60 * d + i + 3 * k + 2))]) (rest := []) mlX10_118 (gs_X10_isOne (J 85 (60 * d + i + 3 * k)) (J 85 (60 * d + i + 3 * k + 1)) (J 85 (60 * d + i + 3 * k + 2))) dX10_hoops_155 rfl rfl (Nat.le_of_ble_eq_true rfl) (by decide) ⟨by decide, by decide⟩ (fun v s2 M9 J2 hq => ?_)
        obtain ⟨r4, rfl, rfl, rfl, rfl, hx3⟩ := hq
        try dsimp only [Option.toList, List.cons_append, List.nil_append]
        refine xr_if_eq (tgt := 165) dX10_hoops_158 rfl (fun c5 => ?_) (fun c5 => ?_)
        · refine xr_iconst (v := 0) dX10_hoops_165 rfl ?_
          refine xr_istore (ls2 := [(5, .int (0)), (6, .int (nI (60 * d + i + 3 * k))), (4, .int (nI (k))), (3, .int (nI (N))), (2, .int (nI (i))), (1, .int (nI (d))), (0, .ref (62))]) dX10_hoops_166 (by decide) rfl ?_
          refine xr_iload dX10_hoops_168 0 rfl ?_
          refine xr_if_eq (tgt := 208) dX10_hoops_170 rfl (fun _ => ?_) (fun c => absurd (by decide) c)
          refine xr_goto (tgt := 69) dX10_hoops_208 rfl ?_
          refine xr_iload dX10_hoops_69 0 rfl ?_
          refine xr_if_eq (tgt := 211) dX10_hoops_71 rfl (fun _ => ?_) (fun c => absurd (by decide) c)
          refine xr_iload dX10_hoops_211 2 rfl ?_
          exact xr_iret dX10_hoops_213 rfl rfl ((hC k _ hM (by omega) ⟨e_hn, hw, hbt⟩ hok (fun _ q => by obtain ⟨⟨j, s2, hs2, hL2, ha2, hj2, h9⟩, h5⟩ := q; have ej := (nI_eq (a := i) (b := j) hi (by omega)).mp ha2; subst ej; exact one_n hx3 c5 (by simpa only [el10, Nat.add_assoc] using h9))))
        · refine xr_iconst (v := 1) dX10_hoops_161 rfl ?_
          refine xr_goto (tgt := 166) dX10_hoops_162 rfl ?_
          refine xr_istore (ls2 := [(5, .int (1)), (6, .int (nI (60 * d + i + 3 * k))), (4, .int (nI (k))), (3, .int (nI (N))), (2, .int (nI (i))), (1, .int (nI (d))), (0, .ref (62))]) dX10_hoops_166 (by decide) rfl ?_
          refine xr_iload dX10_hoops_168 0 rfl ?_
          refine xr_if_eq (tgt := 208) dX10_hoops_170 rfl (fun c => absurd c (by decide)) (fun _ => ?_)
          refine xr_aload_n dX10_hoops_173 6 rfl ?_
          refine xr_aload_n dX10_hoops_174 6 rfl ?_
          refine xr_getR flX10_81 dX10_hoops_175 s_62 rfl ?_
          refine xr_iload dX10_hoops_178 1 rfl ?_
          refine xb_lald (j := 60 * d + i + 3 * k) (v := J 85 (60 * d + i + 3 * k)) dX10_hoops_180 s_85 (by omega) (by decide) rfl ?_
          refine xr_l2i dX10_hoops_181 ?_
          refine xr_aload_n dX10_hoops_182 6 rfl ?_
          refine xr_getR flX10_81 dX10_hoops_183 s_62 rfl ?_
          refine xr_iload dX10_hoops_186 1 rfl ?_
          refine xr_iconst (v := 1) dX10_hoops_188 rfl ?_
          refine xr_iadd dX10_hoops_189 ?_
          refine xb_top (y := nI (60 * d + i + 3 * k + 1)) (nI_add (60 * d + i + 3 * k) (1)) ?_
          refine xb_lald (j := 60 * d + i + 3 * k + 1) (v := J 85 (60 * d + i + 3 * k + 1)) dX10_hoops_190 s_85 (by omega) (by decide) rfl ?_
          refine xr_l2i dX10_hoops_191 ?_
          refine xr_aload_n dX10_hoops_192 6 rfl ?_
          refine xr_getR flX10_81 dX10_hoops_193 s_62 rfl ?_
          refine xr_iload dX10_hoops_196 1 rfl ?_
          refine xr_iconst (v := 2) dX10_hoops_198 rfl ?_
          refine xr_iadd dX10_hoops_199 ?_
          refine xb_top (y := nI (60 * d + i + 3 * k + 2)) (nI_add (60 * d + i + 3 * k) (2)) ?_
          refine xb_lald (j := 60 * d + i + 3 * k + 2) (v := J 85 (60 * d + i + 3 * k + 2)) dX10_hoops_200 s_85 (by omega) (by decide) rfl ?_
          refine xr_l2i dX10_hoops_201 ?_
          refine xr_callV (As := [.int ((J 85 (60 * d + i + 3 * k)).toInt32), .int ((J 85 (60 * d + i + 3 * k + 1)).toInt32), .int ((J 85 (60 * d + i + 3 * k + 2)).toInt32)]) (rest := []) mlX10_121 (g_X10_adds ((J 85 (60 * d + i + 3 * k)).toInt32) ((J 85 (60 * d + i + 3 * k + 1)).toInt32) ((J 85 (60 * d + i + 3 * k + 2)).toInt32) (by omega) e_hn (sx_n0J (one_y hx3 c5).2.1) hw hbt) dX10_hoops_202 s_62 rfl rfl (Nat.le_of_ble_eq_true rfl) (by decide) ⟨by decide, by decide⟩ (fun v s2 M7 J2 hq => ?_)
          obtain ⟨rfl, rfl, rfl, k8, hx6⟩ := hq
          try dsimp only [Option.toList, List.cons_append, List.nil_append]
          refine xr_iinc (v := nI (k + 1)) (ls2 := [(4, .int (nI (k + 1))), (5, .int (1)), (6, .int (nI (60 * d + i + 3 * k))), (3, .int (nI (N))), (2, .int (nI (i))), (1, .int (nI (d))), (0, .ref (62))]) dX10_hoops_205 2 rfl (nI_1 _) (by decide) rfl ?_
          refine xr_goto (tgt := 69) dX10_hoops_208 rfl ?_
          refine xb_ls (ls2 := [(5, .int (1)), (4, .int (nI (k + 1))), (3, .int (nI (N))), (2, .int (nI (i))), (1, .int (nI (d))), (0, .ref (62))]) [1, 0, 3, 4, 5, 6] rfl ?_
          exact ih (k + 1) M7 (by omega) (Ke.tr (fun _ _ h => h) hM k8) ⟨hx6.1, hx6.2⟩ (fun k2 hk2 => by
            by_cases q : k2 = k
            · subst q; exact ⟨⟨i, nm, hnm, e_nm, rfl, by omega, by simpa only [el10, Nat.add_assoc] using one_y hx3 c5⟩, h5⟩
            · exact hok k2 (by omega))
set_option maxRecDepth 100000 in
set_option maxHeartbeats 4000000 in
theorem gs_X10_hoops (d i nn : Int32) {l : Launch} {G : xG} {M : xM} {J : xJ} (hI : InvR M) : x_M l G fX10_hoops 2 0 0 [.ref (62), .int (d), .int (i), .int (nn)] x_SH M J (qKI WAD M J (fun r M2 => InvR M2 ∧ (EHs10 M J d i nn (M2 62 6) r))) := by
  refine xb_of pX10 (Nat.le_of_ble_eq_true rfl) rfl ?_
  obtain ⟨⟨hn, h_hn, e_hn, hw⟩, hbt, ⟨un, wn, h_uw, h_wn, e_un, e_wn⟩, hch, ⟨n, h_n, e_n⟩, htx, ⟨b, h_b, e_b⟩, hkd, ⟨ra, h_ra, e_ra⟩, hsl, ⟨ic, h_ic, e_ic⟩, hS⟩ := hI
  refine xr_iload_n dX10_hoops_0 1 rfl ?_
  refine xb_cS (As := [.int (d)]) (rest := []) mlX10_125 (c_X10_isShelf d) dX10_hoops_1 rfl rfl (Nat.le_of_ble_eq_true rfl) (by decide) (by decide) ?_
  refine xb_beq (tgt := 19) dX10_hoops_4 rfl (fun c1 => ?_) (fun c1 => ?_)
  · refine xr_iconst (v := -1) dX10_hoops_19 rfl ?_
    exact xr_iret dX10_hoops_20 rfl rfl (⟨_, rfl, rfl, rfl, Ke.rf, ⟨⟨⟨hn, by omega, e_hn, (fun kw hkw => by rw [show M 63 (5 + kw) = M 63 (5 + kw) from rfl]; exact hw kw hkw)⟩, (by rw [show M 63 16 = M 63 16 from rfl]; exact hbt), ⟨un, wn, by omega, by omega, e_un, e_wn⟩, (fun kk hkk => by rw [show M 64 kk = M 64 kk from rfl, show M 65 kk = M 65 kk from rfl, show M 66 kk = M 66 kk from rfl]; exact hch kk hkk), ⟨n, by omega, e_n⟩, (by rw [show M 62 13 = M 62 13 from rfl]; exact htx), ⟨b, by omega, e_b⟩, (fun j hj => by obtain ⟨q, hq, eq⟩ := hkd j hj; exact ⟨q, hq, (show M 81 j = M 81 j from rfl).trans eq⟩), ⟨ra, by omega, e_ra⟩, (fun j hj => by rw [show M 83 j = M 83 j from rfl, show M 84 j = M 84 j from rfl]; exact hsl j hj), ⟨ic, by omega, e_ic⟩, (fun j hj => by obtain ⟨q, hq, eq⟩ := hS j hj; exact ⟨q, hq, (show M 75 j = M 75 j from rfl).trans eq⟩)⟩, (Or.inl ⟨(fun q => c1 q.1), rfl, rfl⟩)⟩⟩)
  · obtain ⟨d_, hd_, rfl⟩ := x_natle (N := 5) (by decide) rfl c1
    replace hd_ := Nat.lt_succ_of_le hd_
    refine xr_iload_n dX10_hoops_7 3 rfl ?_
    refine xr_i2l dX10_hoops_8 ?_
    refine xr_lconst (v := 1) dX10_hoops_9 rfl ?_
    refine xr_ldc2 coX10_129 dX10_hoops_10 ?_
    refine xb_cS (As := [.long ((nn).toInt64), .long (1), .long (5)]) (rest := []) mlX10_101 (c_within32 (nn) (1) (5) (by decide) (by decide)) dX10_hoops_13 rfl rfl (Nat.le_of_ble_eq_true rfl) (by decide) (by decide) ?_
    refine xb_bne (tgt := 21) dX10_hoops_16 rfl (fun c2 => ?_) (fun c2 => ?_)
    · obtain ⟨hd83, nm, hnm, e_nm⟩ := hsl d_ hd_
      obtain ⟨N, hN, rfl⟩ := x_natle (v := nn) (N := 5) (K := 5) (by decide) (by decide) ⟨by grind, c2.2⟩
      refine xr_aload_n dX10_hoops_21 0 rfl ?_
      refine xr_getR flX10_75 dX10_hoops_22 s_62 rfl ?_
      refine xr_iload_n dX10_hoops_25 1 rfl ?_
      refine xb_iald (j := d_) (v := M 83 d_) dX10_hoops_26 s_83 hd_ (by decide) rfl ?_
      refine xr_if_lt (tgt := 44) dX10_hoops_27 rfl (fun c3 => ?_) (fun c3 => ?_)
      · refine xr_iconst (v := 0) dX10_hoops_44 rfl ?_
        refine xr_istore (ls2 := [(4, .int (0)), (0, .ref (62)), (1, .int (nI (d_))), (2, .int (i)), (3, .int (nI (N)))]) dX10_hoops_45 (by decide) rfl ?_
        refine xr_aload_n dX10_hoops_47 1 rfl ?_
        refine xr_getR flX10_75 dX10_hoops_48 s_62 rfl ?_
        refine xr_iload_n dX10_hoops_51 2 rfl ?_
        refine xb_iald (j := d_) (v := M 83 d_) dX10_hoops_52 s_83 hd_ (by decide) rfl ?_
        refine xr_bipush (v := 50) dX10_hoops_53 rfl ?_
        refine xr_icmp_ne (tgt := 66) dX10_hoops_55 rfl (fun c4 => ?_) (fun c4 => ?_)
        · refine xr_iconst (v := 0) dX10_hoops_66 rfl ?_
          refine xr_istore (ls2 := [(5, .int (0)), (4, .int (0)), (0, .ref (62)), (1, .int (nI (d_))), (2, .int (i)), (3, .int (nI (N)))]) dX10_hoops_67 (by decide) rfl ?_
          refine xr_iload dX10_hoops_69 0 rfl ?_
          refine xr_if_eq (tgt := 211) dX10_hoops_71 rfl (fun _ => ?_) (fun c => absurd (by decide) c)
          refine xr_iload dX10_hoops_211 1 rfl ?_
          exact xr_iret dX10_hoops_213 rfl rfl (⟨_, rfl, rfl, rfl, Ke.rf, ⟨⟨⟨hn, by omega, e_hn, (fun kw hkw => by rw [show M 63 (5 + kw) = M 63 (5 + kw) from rfl]; exact hw kw hkw)⟩, (by rw [show M 63 16 = M 63 16 from rfl]; exact hbt), ⟨un, wn, by omega, by omega, e_un, e_wn⟩, (fun kk hkk => by rw [show M 64 kk = M 64 kk from rfl, show M 65 kk = M 65 kk from rfl, show M 66 kk = M 66 kk from rfl]; exact hch kk hkk), ⟨n, by omega, e_n⟩, (by rw [show M 62 13 = M 62 13 from rfl]; exact htx), ⟨b, by omega, e_b⟩, (fun j hj => by obtain ⟨q, hq, eq⟩ := hkd j hj; exact ⟨q, hq, (show M 81 j = M 81 j from rfl).trans eq⟩), ⟨ra, by omega, e_ra⟩, (fun j hj => by rw [show M 83 j = M 83 j from rfl, show M 84 j = M 84 j from rfl]; exact hsl j hj), ⟨ic, by omega, e_ic⟩, (fun j hj => by obtain ⟨q, hq, eq⟩ := hS j hj; exact ⟨q, hq, (show M 75 j = M 75 j from rfl).trans eq⟩)⟩, (Or.inr (Or.inr ⟨⟨c1, c2⟩, d_, hd_, rfl, (fun q => by grind), N, hn, 0, by omega, rfl, h_hn, e_hn, Nat.zero_le _, (fun _ q => absurd q (by omega)), (fun _ q => absurd q.1.1 (by grind)), rfl, e_hn⟩))⟩⟩)
        · refine xr_iload_n dX10_hoops_58 3 rfl ?_
          refine xr_if_lt (tgt := 66) dX10_hoops_59 rfl (fun c5 => ?_) (fun c5 => ?_)
          · refine xr_iconst (v := 0) dX10_hoops_66 rfl ?_
            refine xr_istore (ls2 := [(5, .int (0)), (4, .int (0)), (0, .ref (62)), (1, .int (nI (d_))), (2, .int (i)), (3, .int (nI (N)))]) dX10_hoops_67 (by decide) rfl ?_
            refine xr_iload dX10_hoops_69 0 rfl ?_
            refine xr_if_eq (tgt := 211) dX10_hoops_71 rfl (fun _ => ?_) (fun c => absurd (by decide) c)
            refine xr_iload dX10_hoops_211 1 rfl ?_
            exact xr_iret dX10_hoops_213 rfl rfl (⟨_, rfl, rfl, rfl, Ke.rf, ⟨⟨⟨hn, by omega, e_hn, (fun kw hkw => by rw [show M 63 (5 + kw) = M 63 (5 + kw) from rfl]; exact hw kw hkw)⟩, (by rw [show M 63 16 = M 63 16 from rfl]; exact hbt), ⟨un, wn, by omega, by omega, e_un, e_wn⟩, (fun kk hkk => by rw [show M 64 kk = M 64 kk from rfl, show M 65 kk = M 65 kk from rfl, show M 66 kk = M 66 kk from rfl]; exact hch kk hkk), ⟨n, by omega, e_n⟩, (by rw [show M 62 13 = M 62 13 from rfl]; exact htx), ⟨b, by omega, e_b⟩, (fun j hj => by obtain ⟨q, hq, eq⟩ := hkd j hj; exact ⟨q, hq, (show M 81 j = M 81 j from rfl).trans eq⟩), ⟨ra, by omega, e_ra⟩, (fun j hj => by rw [show M 83 j = M 83 j from rfl, show M 84 j = M 84 j from rfl]; exact hsl j hj), ⟨ic, by omega, e_ic⟩, (fun j hj => by obtain ⟨q, hq, eq⟩ := hS j hj; exact ⟨q, hq, (show M 75 j = M 75 j from rfl).trans eq⟩)⟩, (Or.inr (Or.inr ⟨⟨c1, c2⟩, d_, hd_, rfl, (fun q => by grind), N, hn, 0, by omega, rfl, h_hn, e_hn, Nat.zero_le _, (fun _ q => absurd q (by omega)), (fun _ q => by obtain ⟨⟨-, j, s2, hs2, hL2, ha2, hj2, h9⟩, h5⟩ := q; exact absurd c5 (by rw [ha2]; exact nI_nlt (a := j) (b := 0) (by omega) (by omega))), rfl, e_hn⟩))⟩⟩)
          · refine xr_iconst (v := 1) dX10_hoops_62 rfl ?_
            refine xr_goto (tgt := 67) dX10_hoops_63 rfl ?_
            refine xr_istore (ls2 := [(5, .int (1)), (4, .int (0)), (0, .ref (62)), (1, .int (nI (d_))), (2, .int (i)), (3, .int (nI (N)))]) dX10_hoops_67 (by decide) rfl ?_
            obtain ⟨i_, hi_, rfl⟩ := sx_nat0 c5
            refine xb_ls (ls2 := [(5, .int (1)), (4, .int (nI (0))), (3, .int (nI (N))), (2, .int (nI (i_))), (1, .int (nI (d_))), (0, .ref (62))]) [0, 1, 5, 4, 3, 2] rfl ?_
            refine rhos_l hd_ hnm (by omega) hi_ h_hn e_nm (fun t M2 hk ht hI2 hok hno => ⟨_, rfl, rfl, rfl, hk, ?_⟩) N 0 M (by omega) Ke.rf ⟨e_hn, hw, hbt⟩ (fun _ q => absurd q (by omega))
            exact ⟨⟨⟨hn + t, (by cases t with
              | zero => omega
              | succ t0 => have := (hok t0 (by omega)).2; omega), hI2.1, hI2.2.1⟩, hI2.2.2, ⟨un, wn, by omega, by omega, (Eq.trans (hk 62 5 (by decide)) e_un), (Eq.trans (hk 62 4 (by decide)) e_wn)⟩, (fun kk hkk => by rw [show M2 64 kk = M 64 kk from (Eq.trans (hk 64 kk (by unfold WAD; omega)) rfl), show M2 65 kk = M 65 kk from (Eq.trans (hk 65 kk (by unfold WAD; omega)) rfl), show M2 66 kk = M 66 kk from (Eq.trans (hk 66 kk (by unfold WAD; omega)) rfl)]; exact hch kk hkk), ⟨n, by omega, (Eq.trans (hk 62 11 (by decide)) e_n)⟩, (by rw [show M2 62 13 = M 62 13 from (Eq.trans (hk 62 13 (by unfold WAD; omega)) rfl)]; exact htx), ⟨b, by omega, (Eq.trans (hk 62 36 (by decide)) e_b)⟩, (fun j hj => by obtain ⟨q, hq, eq⟩ := hkd j hj; exact ⟨q, hq, (show M2 81 j = M 81 j from (Eq.trans (hk 81 j (by unfold WAD; omega)) rfl)).trans eq⟩), ⟨ra, by omega, (Eq.trans (hk 62 39 (by decide)) e_ra)⟩, (fun j hj => by rw [show M2 83 j = M 83 j from (Eq.trans (hk 83 j (by unfold WAD; omega)) rfl), show M2 84 j = M 84 j from (Eq.trans (hk 84 j (by unfold WAD; omega)) rfl)]; exact hsl j hj), ⟨ic, by omega, (Eq.trans (hk 62 34 (by decide)) e_ic)⟩, (fun j hj => by obtain ⟨q, hq, eq⟩ := hS j hj; exact ⟨q, hq, (show M2 75 j = M 75 j from (Eq.trans (hk 75 j (by unfold WAD; omega)) rfl)).trans eq⟩)⟩, Or.inr (Or.inr ⟨⟨c1, c2⟩, d_, hd_, rfl, (fun q => q.2 (by grind)), N, hn, t, by omega, rfl, h_hn, e_hn, ht, fun k hk => ⟨⟨by grind, (hok k hk).1⟩, (hok k hk).2⟩, fun h q => hno h ⟨q.1.2, q.2⟩, rfl, hI2.1⟩)⟩
      · refine xr_aload_n dX10_hoops_30 0 rfl ?_
        refine xr_getR flX10_75 dX10_hoops_31 s_62 rfl ?_
        refine xr_iload_n dX10_hoops_34 1 rfl ?_
        refine xb_iald (j := d_) (v := M 83 d_) dX10_hoops_35 s_83 hd_ (by decide) rfl ?_
        refine xr_bipush (v := 50) dX10_hoops_36 rfl ?_
        refine xr_icmp_eq (tgt := 44) dX10_hoops_38 rfl (fun c6 => ?_) (fun c6 => ?_)
        · refine xr_iconst (v := 0) dX10_hoops_44 rfl ?_
          refine xr_istore (ls2 := [(4, .int (0)), (0, .ref (62)), (1, .int (nI (d_))), (2, .int (i)), (3, .int (nI (N)))]) dX10_hoops_45 (by decide) rfl ?_
          refine xr_aload_n dX10_hoops_47 1 rfl ?_
          refine xr_getR flX10_75 dX10_hoops_48 s_62 rfl ?_
          refine xr_iload_n dX10_hoops_51 2 rfl ?_
          refine xb_iald (j := d_) (v := M 83 d_) dX10_hoops_52 s_83 hd_ (by decide) rfl ?_
          refine xr_bipush (v := 50) dX10_hoops_53 rfl ?_
          refine xr_icmp_ne (tgt := 66) dX10_hoops_55 rfl (fun c7 => ?_) (fun c7 => ?_)
          · refine xr_iconst (v := 0) dX10_hoops_66 rfl ?_
            refine xr_istore (ls2 := [(5, .int (0)), (4, .int (0)), (0, .ref (62)), (1, .int (nI (d_))), (2, .int (i)), (3, .int (nI (N)))]) dX10_hoops_67 (by decide) rfl ?_
            refine xr_iload dX10_hoops_69 0 rfl ?_
            refine xr_if_eq (tgt := 211) dX10_hoops_71 rfl (fun _ => ?_) (fun c => absurd (by decide) c)
            refine xr_iload dX10_hoops_211 1 rfl ?_
            exact xr_iret dX10_hoops_213 rfl rfl (⟨_, rfl, rfl, rfl, Ke.rf, ⟨⟨⟨hn, by omega, e_hn, (fun kw hkw => by rw [show M 63 (5 + kw) = M 63 (5 + kw) from rfl]; exact hw kw hkw)⟩, (by rw [show M 63 16 = M 63 16 from rfl]; exact hbt), ⟨un, wn, by omega, by omega, e_un, e_wn⟩, (fun kk hkk => by rw [show M 64 kk = M 64 kk from rfl, show M 65 kk = M 65 kk from rfl, show M 66 kk = M 66 kk from rfl]; exact hch kk hkk), ⟨n, by omega, e_n⟩, (by rw [show M 62 13 = M 62 13 from rfl]; exact htx), ⟨b, by omega, e_b⟩, (fun j hj => by obtain ⟨q, hq, eq⟩ := hkd j hj; exact ⟨q, hq, (show M 81 j = M 81 j from rfl).trans eq⟩), ⟨ra, by omega, e_ra⟩, (fun j hj => by rw [show M 83 j = M 83 j from rfl, show M 84 j = M 84 j from rfl]; exact hsl j hj), ⟨ic, by omega, e_ic⟩, (fun j hj => by obtain ⟨q, hq, eq⟩ := hS j hj; exact ⟨q, hq, (show M 75 j = M 75 j from rfl).trans eq⟩)⟩, (Or.inr (Or.inr ⟨⟨c1, c2⟩, d_, hd_, rfl, (fun q => by grind), N, hn, 0, by omega, rfl, h_hn, e_hn, Nat.zero_le _, (fun _ q => absurd q (by omega)), (fun _ q => absurd q.1.1 (by grind)), rfl, e_hn⟩))⟩⟩)
          · refine xr_iload_n dX10_hoops_58 3 rfl ?_
            refine xr_if_lt (tgt := 66) dX10_hoops_59 rfl (fun c8 => ?_) (fun c8 => ?_)
            · refine xr_iconst (v := 0) dX10_hoops_66 rfl ?_
              refine xr_istore (ls2 := [(5, .int (0)), (4, .int (0)), (0, .ref (62)), (1, .int (nI (d_))), (2, .int (i)), (3, .int (nI (N)))]) dX10_hoops_67 (by decide) rfl ?_
              refine xr_iload dX10_hoops_69 0 rfl ?_
              refine xr_if_eq (tgt := 211) dX10_hoops_71 rfl (fun _ => ?_) (fun c => absurd (by decide) c)
              refine xr_iload dX10_hoops_211 1 rfl ?_
              exact xr_iret dX10_hoops_213 rfl rfl (⟨_, rfl, rfl, rfl, Ke.rf, ⟨⟨⟨hn, by omega, e_hn, (fun kw hkw => by rw [show M 63 (5 + kw) = M 63 (5 + kw) from rfl]; exact hw kw hkw)⟩, (by rw [show M 63 16 = M 63 16 from rfl]; exact hbt), ⟨un, wn, by omega, by omega, e_un, e_wn⟩, (fun kk hkk => by rw [show M 64 kk = M 64 kk from rfl, show M 65 kk = M 65 kk from rfl, show M 66 kk = M 66 kk from rfl]; exact hch kk hkk), ⟨n, by omega, e_n⟩, (by rw [show M 62 13 = M 62 13 from rfl]; exact htx), ⟨b, by omega, e_b⟩, (fun j hj => by obtain ⟨q, hq, eq⟩ := hkd j hj; exact ⟨q, hq, (show M 81 j = M 81 j from rfl).trans eq⟩), ⟨ra, by omega, e_ra⟩, (fun j hj => by rw [show M 83 j = M 83 j from rfl, show M 84 j = M 84 j from rfl]; exact hsl j hj), ⟨ic, by omega, e_ic⟩, (fun j hj => by obtain ⟨q, hq, eq⟩ := hS j hj; exact ⟨q, hq, (show M 75 j = M 75 j from rfl).trans eq⟩)⟩, (Or.inr (Or.inr ⟨⟨c1, c2⟩, d_, hd_, rfl, (fun q => by grind), N, hn, 0, by omega, rfl, h_hn, e_hn, Nat.zero_le _, (fun _ q => absurd q (by omega)), (fun _ q => by obtain ⟨⟨-, j, s2, hs2, hL2, ha2, hj2, h9⟩, h5⟩ := q; exact absurd c8 (by rw [ha2]; exact nI_nlt (a := j) (b := 0) (by omega) (by omega))), rfl, e_hn⟩))⟩⟩)
            · refine xr_iconst (v := 1) dX10_hoops_62 rfl ?_
              refine xr_goto (tgt := 67) dX10_hoops_63 rfl ?_
              refine xr_istore (ls2 := [(5, .int (1)), (4, .int (0)), (0, .ref (62)), (1, .int (nI (d_))), (2, .int (i)), (3, .int (nI (N)))]) dX10_hoops_67 (by decide) rfl ?_
              obtain ⟨i_, hi_, rfl⟩ := sx_nat0 c8
              refine xb_ls (ls2 := [(5, .int (1)), (4, .int (nI (0))), (3, .int (nI (N))), (2, .int (nI (i_))), (1, .int (nI (d_))), (0, .ref (62))]) [0, 1, 5, 4, 3, 2] rfl ?_
              refine rhos_l hd_ hnm (by omega) hi_ h_hn e_nm (fun t M2 hk ht hI2 hok hno => ⟨_, rfl, rfl, rfl, hk, ?_⟩) N 0 M (by omega) Ke.rf ⟨e_hn, hw, hbt⟩ (fun _ q => absurd q (by omega))
              exact ⟨⟨⟨hn + t, (by cases t with
                | zero => omega
                | succ t0 => have := (hok t0 (by omega)).2; omega), hI2.1, hI2.2.1⟩, hI2.2.2, ⟨un, wn, by omega, by omega, (Eq.trans (hk 62 5 (by decide)) e_un), (Eq.trans (hk 62 4 (by decide)) e_wn)⟩, (fun kk hkk => by rw [show M2 64 kk = M 64 kk from (Eq.trans (hk 64 kk (by unfold WAD; omega)) rfl), show M2 65 kk = M 65 kk from (Eq.trans (hk 65 kk (by unfold WAD; omega)) rfl), show M2 66 kk = M 66 kk from (Eq.trans (hk 66 kk (by unfold WAD; omega)) rfl)]; exact hch kk hkk), ⟨n, by omega, (Eq.trans (hk 62 11 (by decide)) e_n)⟩, (by rw [show M2 62 13 = M 62 13 from (Eq.trans (hk 62 13 (by unfold WAD; omega)) rfl)]; exact htx), ⟨b, by omega, (Eq.trans (hk 62 36 (by decide)) e_b)⟩, (fun j hj => by obtain ⟨q, hq, eq⟩ := hkd j hj; exact ⟨q, hq, (show M2 81 j = M 81 j from (Eq.trans (hk 81 j (by unfold WAD; omega)) rfl)).trans eq⟩), ⟨ra, by omega, (Eq.trans (hk 62 39 (by decide)) e_ra)⟩, (fun j hj => by rw [show M2 83 j = M 83 j from (Eq.trans (hk 83 j (by unfold WAD; omega)) rfl), show M2 84 j = M 84 j from (Eq.trans (hk 84 j (by unfold WAD; omega)) rfl)]; exact hsl j hj), ⟨ic, by omega, (Eq.trans (hk 62 34 (by decide)) e_ic)⟩, (fun j hj => by obtain ⟨q, hq, eq⟩ := hS j hj; exact ⟨q, hq, (show M2 75 j = M 75 j from (Eq.trans (hk 75 j (by unfold WAD; omega)) rfl)).trans eq⟩)⟩, Or.inr (Or.inr ⟨⟨c1, c2⟩, d_, hd_, rfl, (fun q => q.2 (by grind)), N, hn, t, by omega, rfl, h_hn, e_hn, ht, fun k hk => ⟨⟨by grind, (hok k hk).1⟩, (hok k hk).2⟩, fun h q => hno h ⟨q.1.2, q.2⟩, rfl, hI2.1⟩)⟩
        · refine xr_bipush (v := -12) dX10_hoops_41 rfl ?_
          exact xr_iret dX10_hoops_43 rfl rfl (⟨_, rfl, rfl, rfl, Ke.rf, ⟨⟨⟨hn, by omega, e_hn, (fun kw hkw => by rw [show M 63 (5 + kw) = M 63 (5 + kw) from rfl]; exact hw kw hkw)⟩, (by rw [show M 63 16 = M 63 16 from rfl]; exact hbt), ⟨un, wn, by omega, by omega, e_un, e_wn⟩, (fun kk hkk => by rw [show M 64 kk = M 64 kk from rfl, show M 65 kk = M 65 kk from rfl, show M 66 kk = M 66 kk from rfl]; exact hch kk hkk), ⟨n, by omega, e_n⟩, (by rw [show M 62 13 = M 62 13 from rfl]; exact htx), ⟨b, by omega, e_b⟩, (fun j hj => by obtain ⟨q, hq, eq⟩ := hkd j hj; exact ⟨q, hq, (show M 81 j = M 81 j from rfl).trans eq⟩), ⟨ra, by omega, e_ra⟩, (fun j hj => by rw [show M 83 j = M 83 j from rfl, show M 84 j = M 84 j from rfl]; exact hsl j hj), ⟨ic, by omega, e_ic⟩, (fun j hj => by obtain ⟨q, hq, eq⟩ := hS j hj; exact ⟨q, hq, (show M 75 j = M 75 j from rfl).trans eq⟩)⟩, (Or.inr (Or.inl ⟨d_, hd_, rfl, ⟨c1, c2⟩, ⟨by grind, by grind⟩, rfl, rfl⟩))⟩⟩)
    · refine xr_iconst (v := -1) dX10_hoops_19 rfl ?_
      exact xr_iret dX10_hoops_20 rfl rfl (⟨_, rfl, rfl, rfl, Ke.rf, ⟨⟨⟨hn, by omega, e_hn, (fun kw hkw => by rw [show M 63 (5 + kw) = M 63 (5 + kw) from rfl]; exact hw kw hkw)⟩, (by rw [show M 63 16 = M 63 16 from rfl]; exact hbt), ⟨un, wn, by omega, by omega, e_un, e_wn⟩, (fun kk hkk => by rw [show M 64 kk = M 64 kk from rfl, show M 65 kk = M 65 kk from rfl, show M 66 kk = M 66 kk from rfl]; exact hch kk hkk), ⟨n, by omega, e_n⟩, (by rw [show M 62 13 = M 62 13 from rfl]; exact htx), ⟨b, by omega, e_b⟩, (fun j hj => by obtain ⟨q, hq, eq⟩ := hkd j hj; exact ⟨q, hq, (show M 81 j = M 81 j from rfl).trans eq⟩), ⟨ra, by omega, e_ra⟩, (fun j hj => by rw [show M 83 j = M 83 j from rfl, show M 84 j = M 84 j from rfl]; exact hsl j hj), ⟨ic, by omega, e_ic⟩, (fun j hj => by obtain ⟨q, hq, eq⟩ := hS j hj; exact ⟨q, hq, (show M 75 j = M 75 j from rfl).trans eq⟩)⟩, (Or.inl ⟨(fun q => c2 q.2), rfl, rfl⟩)⟩⟩)
