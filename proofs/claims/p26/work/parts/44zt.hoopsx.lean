abbrev okA (E : Nat → Int64) (L j : Nat) : Prop := j + 3 ≤ L ∧ (1 ≤ E j ∧ E j ≤ 9) ∧ (1 ≤ E (j + 1) ∧ E (j + 1) ≤ 9) ∧ (-9 ≤ E (j + 2) ∧ E (j + 2) ≤ 9)
/-- hoops that come one by one -/
def hsA (E : Nat → Int64) (L n i : Nat) : Nat → Nat → xM → Nat × xM
  | 0, t, D => (t, D)
  | m + 1, t, D => if okA E L (i + 3 * t) ∧ n + t < 5 then hsA E L n i m (t + 1) (adD D (n + t) (E (i + 3 * t)).toInt32 (E (i + 3 * t + 1)).toInt32 (E (i + 3 * t + 2)).toInt32) else (t, D)
theorem hsA_y {E : Nat → Int64} {L n i N k : Nat} {D : xM} (hk : k < N) (c : okA E L (i + 3 * k) ∧ n + k < 5) : hsA E L n i (N - (k + 1)) (k + 1) (adD D (n + k) (E (i + 3 * k)).toInt32 (E (i + 3 * k + 1)).toInt32 (E (i + 3 * k + 2)).toInt32) = hsA E L n i (N - k) k D := by
  rw [show N - k = (N - (k + 1)) + 1 by omega]; exact (if_pos c).symm
theorem hsA_n {E : Nat → Int64} {L n i N k : Nat} {D : xM} (hk : k < N) (c : ¬ (okA E L (i + 3 * k) ∧ n + k < 5)) : hsA E L n i (N - k) k D = (k, D) := by
  rw [show N - k = (N - (k + 1)) + 1 by omega]; exact if_neg c
def hsT (G : xQs) (n : Nat) (D : xM) (q : Nat) (i : Int32) (N : Nat) : Nat × xM := if (G q).1 = 1 ∧ 0 ≤ i then hsA (G q).2.2 (G q).2.1 n (w_ix i) N 0 D else (0, D)
theorem hsT_y {G : xQs} {n q i N : Nat} {D : xM} (hi : i < 2 ^ 31) (h : (G q).1 = 1) : hsT G n D q (nI i) N = hsA (G q).2.2 (G q).2.1 n i N 0 D := by
  unfold hsT
  rw [if_pos ⟨h, nI_pos' hi⟩, w_ix_n hi]
theorem hsT_n {G : xQs} {n q N : Nat} {i : Int32} {D : xM} (h : ¬ ((G q).1 = 1 ∧ 0 ≤ i)) : hsT G n D q i N = (0, D) := if_neg h
theorem i64_32 {x : Int64} {a b : Int32} (h : a.toInt64 ≤ x ∧ x ≤ b.toInt64) : a ≤ x.toInt32 ∧ x.toInt32 ≤ b := by
  have h1 := Int64.le_iff_toInt_le.mp h.1
  have h2 := Int64.le_iff_toInt_le.mp h.2
  rw [Int32.toInt_toInt64] at h1 h2
  have e : x.toInt32.toInt = x.toInt := by rw [Int64.toInt_toInt32]; exact Int.bmod_eq_of_le (by have := a.le_toInt; omega) (by have := b.toInt_lt; omega)
  exact ⟨Int32.le_iff_toInt_le.mpr (by rw [e]; exact h1), Int32.le_iff_toInt_le.mpr (by rw [e]; exact h2)⟩
theorem hsA_w {E : Nat → Int64} {L n i : Nat} : ∀ (m t : Nat) (D : xM), n + t ≤ 5 → WF (n + t) D → n + (hsA E L n i m t D).1 ≤ 5 ∧ WF (n + (hsA E L n i m t D).1) (hsA E L n i m t D).2 := by
  intro m
  induction m with
  | zero => exact fun t D h hw => ⟨h, hw⟩
  | succ m ih =>
    intro t D h hw
    by_cases c : okA E L (i + 3 * t) ∧ n + t < 5
    · have e : hsA E L n i (m + 1) t D = hsA E L n i m (t + 1) (adD D (n + t) (E (i + 3 * t)).toInt32 (E (i + 3 * t + 1)).toInt32 (E (i + 3 * t + 2)).toInt32) := if_pos c
      rw [e]
      exact ih _ _ (by omega) (WF_ad hw (i64_32 (a := 1) (b := 9) c.1.2.1) (i64_32 (a := 1) (b := 9) c.1.2.2.1) (i64_32 (a := -9) (b := 9) c.1.2.2.2))
    · have e : hsA E L n i (m + 1) t D = (t, D) := if_neg c
      rw [e]; exact ⟨h, hw⟩
theorem hsT_w {G : xQs} {n q N : Nat} {i : Int32} {D : xM} (h : n ≤ 5) (hw : WF n D) : n + (hsT G n D q i N).1 ≤ 5 ∧ WF (n + (hsT G n D q i N).1) (hsT G n D q i N).2 := by
  unfold hsT; split
  · exact hsA_w N 0 D h hw
  · exact ⟨h, hw⟩
def EHs (G : xM → Nat → xM → Option zL → (Nat → Int32) → Prop) (n : Nat) (D : xM) (t : Option zL) (S : Nat → Int32) (g : xQs) (M2 : xM) (sh i nn r : Int32) : Prop := ¬ ((0 ≤ sh ∧ sh ≤ 5) ∧ (1 ≤ nn ∧ nn ≤ 5)) ∧ r = -1 ∧ G M2 n D t S ∨ ∃ q N : Nat, q < 6 ∧ N ≤ 5 ∧ ((0 ≤ sh ∧ sh ≤ 5) ∧ (1 ≤ nn ∧ nn ≤ 5)) ∧ sh = nI q ∧ nn = nI N ∧ ((g q).1 = 2 ∧ r = -12 ∧ G M2 n D t S ∨ ¬ (g q).1 = 2 ∧ r = nI (hsT g n D q i N).1 ∧ G M2 (n + (hsT g n D q i N).1) (hsT g n D q i N).2 t S)
theorem el9_10 {E : Nat → Int64} {j : Nat} (hw : ∀ j, j < 60 → ∃ w : Int32, E j = w.toInt64) (hj : j + 3 ≤ 60) : el9 E j ↔ (1 ≤ E j ∧ E j ≤ 9) ∧ (1 ≤ E (j + 1) ∧ E (j + 1) ≤ 9) ∧ (-9 ≤ E (j + 2) ∧ E (j + 2) ≤ 9) := by
  unfold el9
  obtain ⟨w0, h0⟩ := hw j (by omega)
  obtain ⟨w1, h1⟩ := hw (j + 1) (by omega)
  obtain ⟨w2, h2⟩ := hw (j + 2) (by omega)
  have t : ∀ w : Int32, w.toInt64.toInt32 = w := fun w => Int32.toInt_inj.mp (by rw [Int64.toInt_toInt32, Int32.toInt_toInt64]; exact Int.bmod_eq_of_le (by have := w.le_toInt; omega) (by have := w.toInt_lt; omega))
  rw [h0, h1, h2, t, t, t]
  have b : ∀ w a c : Int32, (a.toInt64 ≤ w.toInt64 ∧ w.toInt64 ≤ c.toInt64) ↔ (a ≤ w ∧ w ≤ c) := fun w a c => by rw [x_i64_le, x_i64_le]
  rw [← b w0 1 9, ← b w1 1 9, ← b w2 (-9) 9]
  exact Iff.rfl
set_option maxRecDepth 100000 in
set_option maxHeartbeats 4000000 in
theorem gw_X9_hoopCame (a : Int32) {sq el : Nat} (hs : x_SH[sq]? = some (.inl (6, [none, none, none, none, some (some el)]))) (hel : x_SH[el]? = some (.inr (2, 60, fun _ => none))) {L : Nat} (hLL : L ≤ 60) {D : xM} {cn : Nat} (h_cn : cn ≤ 5) {l : Launch} {G : xG} {M : xM} {J : xJ} (e_cn : M 13 2 = nI cn) (hA : AbC 15 cn M D) (e_s : M sq 3 = nI L) : x_M l G fX9_hoopCame 2 0 0 [.ref (0), .ref (sq), .int (a)] x_SH M J (qKI WAH M J (fun r M2 => (∃ at_ : Nat, a = nI at_ ∧ at_ + 3 ≤ L ∧ el9 (J el) at_ ∧ cn < 5 ∧ r = 1 ∧ M2 13 2 = nI (cn + 1) ∧ AbC 15 (cn + 1) M2 (adD D cn (J el at_).toInt32 (J el (at_ + 1)).toInt32 (J el (at_ + 2)).toInt32)) ∨ ((∀ at_ : Nat, a = nI at_ → at_ < 2 ^ 31 → ¬ (at_ + 3 ≤ L ∧ el9 (J el) at_ ∧ cn < 5)) ∧ r = 0 ∧ M2 13 2 = nI cn ∧ AbC 15 cn M2 D))) := by
  refine xb_of pX9 (Nat.le_of_ble_eq_true rfl) rfl ?_
  refine xr_iload_n dX9_hoopCame_0 2 rfl ?_
  refine xr_if_lt (tgt := 30) dX9_hoopCame_1 rfl (fun c1 => ?_) (fun c1 => ?_)
  · refine xr_iconst (v := 0) dX9_hoopCame_30 rfl ?_
    exact xr_iret dX9_hoopCame_31 rfl rfl (⟨_, rfl, rfl, rfl, Ke.rf, (Or.inr ⟨(fun j hj h31 z => (oC_lt hLL rfl hj z.1).2.2 c1), rfl, e_cn, hA⟩)⟩)
  · refine xr_iload_n dX9_hoopCame_4 2 rfl ?_
    refine xr_aload_n dX9_hoopCame_5 1 rfl ?_
    refine xb_get (v := nI (L)) flX9_399 dX9_hoopCame_6 hs rfl e_s ?_
    refine xr_iconst (v := 3) dX9_hoopCame_9 rfl ?_
    refine xr_isub dX9_hoopCame_10 ?_
    refine xr_icmp_gt (tgt := 30) dX9_hoopCame_11 rfl (fun c2 => ?_) (fun c2 => ?_)
    · refine xr_iconst (v := 0) dX9_hoopCame_30 rfl ?_
      exact xr_iret dX9_hoopCame_31 rfl rfl (⟨_, rfl, rfl, rfl, Ke.rf, (Or.inr ⟨(fun j hj h31 z => (oC_lt hLL rfl hj z.1).1 c2), rfl, e_cn, hA⟩)⟩)
    · refine xr_iload_n dX9_hoopCame_14 2 rfl ?_
      refine xr_bipush (v := 57) dX9_hoopCame_15 rfl ?_
      refine xr_icmp_gt (tgt := 30) dX9_hoopCame_17 rfl (fun c3 => ?_) (fun c3 => ?_)
      · refine xr_iconst (v := 0) dX9_hoopCame_30 rfl ?_
        exact xr_iret dX9_hoopCame_31 rfl rfl (⟨_, rfl, rfl, rfl, Ke.rf, (Or.inr ⟨(fun j hj h31 z => (oC_lt hLL rfl hj z.1).2.1 c3), rfl, e_cn, hA⟩)⟩)
      · refine xr_aload_n dX9_hoopCame_20 0 rfl ?_
        refine xr_getR flX9_28 dX9_hoopCame_21 s_0 rfl ?_
        refine xb_cV (As := []) (rest := []) mlX9_80 (c_X5_isFull (by omega) e_cn) dX9_hoopCame_24 s_13 rfl rfl (Nat.le_of_ble_eq_true rfl) (by decide) (by decide) ?_
        refine xb_beq (tgt := 32) dX9_hoopCame_27 rfl (fun c4 => ?_) (fun c4 => ?_)
        · obtain ⟨at_, hat_, rfl⟩ := oC_in hLL rfl c1 c2 c3
          refine xr_aload_n dX9_hoopCame_32 1 rfl ?_
          refine xr_getR flX9_362 dX9_hoopCame_33 hs rfl ?_
          refine xr_iload_n dX9_hoopCame_36 2 rfl ?_
          refine xb_lald (j := at_) (v := J el at_) dX9_hoopCame_37 hel (by omega) (by decide) rfl ?_
          refine xr_l2i dX9_hoopCame_38 ?_
          refine xr_istore_n (ls2 := [(3, .int ((J el at_).toInt32)), (0, .ref (0)), (1, .ref (sq)), (2, .int (nI (at_)))]) dX9_hoopCame_39 (by decide) rfl ?_
          refine xr_aload_n dX9_hoopCame_40 2 rfl ?_
          refine xr_getR flX9_362 dX9_hoopCame_41 hs rfl ?_
          refine xr_iload_n dX9_hoopCame_44 3 rfl ?_
          refine xr_iconst (v := 1) dX9_hoopCame_45 rfl ?_
          refine xr_iadd dX9_hoopCame_46 ?_
          refine xb_top (y := nI (at_ + 1)) (nI_add (at_) (1)) ?_
          refine xb_lald (j := at_ + 1) (v := J el (at_ + 1)) dX9_hoopCame_47 hel (by omega) (by decide) rfl ?_
          refine xr_l2i dX9_hoopCame_48 ?_
          refine xr_istore (ls2 := [(4, .int ((J el (at_ + 1)).toInt32)), (3, .int ((J el at_).toInt32)), (0, .ref (0)), (1, .ref (sq)), (2, .int (nI (at_)))]) dX9_hoopCame_49 (by decide) rfl ?_
          refine xr_aload_n dX9_hoopCame_51 3 rfl ?_
          refine xr_getR flX9_362 dX9_hoopCame_52 hs rfl ?_
          refine xr_iload_n dX9_hoopCame_55 4 rfl ?_
          refine xr_iconst (v := 2) dX9_hoopCame_56 rfl ?_
          refine xr_iadd dX9_hoopCame_57 ?_
          refine xb_top (y := nI (at_ + 2)) (nI_add (at_) (2)) ?_
          refine xb_lald (j := at_ + 2) (v := J el (at_ + 2)) dX9_hoopCame_58 hel (by omega) (by decide) rfl ?_
          refine xr_l2i dX9_hoopCame_59 ?_
          refine xr_istore (ls2 := [(5, .int ((J el (at_ + 2)).toInt32)), (4, .int ((J el (at_ + 1)).toInt32)), (3, .int ((J el at_).toInt32)), (0, .ref (0)), (1, .ref (sq)), (2, .int (nI (at_)))]) dX9_hoopCame_60 (by decide) rfl ?_
          refine xr_iload_n dX9_hoopCame_62 2 rfl ?_
          refine xb_cS (As := [.int ((J el at_).toInt32)]) (rest := []) mlX9_76 (c_X9_isWeight ((J el at_).toInt32)) dX9_hoopCame_63 rfl rfl (Nat.le_of_ble_eq_true rfl) (by decide) (by decide) ?_
          refine xb_beq (tgt := 85) dX9_hoopCame_66 rfl (fun c5 => ?_) (fun c5 => ?_)
          · refine xr_iconst (v := 0) dX9_hoopCame_85 rfl ?_
            exact xr_iret dX9_hoopCame_86 rfl rfl (⟨_, rfl, rfl, rfl, Ke.rf, (Or.inr ⟨(fun j hj h31 z => by obtain rfl := (nI_eq (a := at_) (b := j) (by omega) h31).mp hj; exact c5 z.2.1.1), rfl, e_cn, hA⟩)⟩)
          · refine xr_iload dX9_hoopCame_69 1 rfl ?_
            refine xb_cS (As := [.int ((J el (at_ + 1)).toInt32)]) (rest := []) mlX9_76 (c_X9_isWeight ((J el (at_ + 1)).toInt32)) dX9_hoopCame_71 rfl rfl (Nat.le_of_ble_eq_true rfl) (by decide) (by decide) ?_
            refine xb_beq (tgt := 85) dX9_hoopCame_74 rfl (fun c6 => ?_) (fun c6 => ?_)
            · refine xr_iconst (v := 0) dX9_hoopCame_85 rfl ?_
              exact xr_iret dX9_hoopCame_86 rfl rfl (⟨_, rfl, rfl, rfl, Ke.rf, (Or.inr ⟨(fun j hj h31 z => by obtain rfl := (nI_eq (a := at_) (b := j) (by omega) h31).mp hj; exact c6 z.2.1.2.1), rfl, e_cn, hA⟩)⟩)
            · refine xr_iload dX9_hoopCame_77 0 rfl ?_
              refine xb_cS (As := [.int ((J el (at_ + 2)).toInt32)]) (rest := []) mlX9_400 (c_X9_isPace ((J el (at_ + 2)).toInt32)) dX9_hoopCame_79 rfl rfl (Nat.le_of_ble_eq_true rfl) (by decide) (by decide) ?_
              refine xb_bne (tgt := 87) dX9_hoopCame_82 rfl (fun c7 => ?_) (fun c7 => ?_)
              · refine xr_aload_n dX9_hoopCame_87 3 rfl ?_
                refine xr_getR flX9_28 dX9_hoopCame_88 s_0 rfl ?_
                refine xr_iload_n dX9_hoopCame_91 2 rfl ?_
                refine xr_iload dX9_hoopCame_92 1 rfl ?_
                refine xr_iload dX9_hoopCame_94 0 rfl ?_
                have hc5 : cn < 5 := by omega
                refine xr_callV (As := [.int ((J el at_).toInt32), .int ((J el (at_ + 1)).toInt32), .int ((J el (at_ + 2)).toInt32)]) (rest := []) mlX9_84 (gw_X5_addHoop ((J el at_).toInt32) ((J el (at_ + 1)).toInt32) ((J el (at_ + 2)).toInt32) (D := D) hc5 e_cn hA) dX9_hoopCame_96 s_13 rfl rfl (Nat.le_of_ble_eq_true rfl) (by decide) ⟨by decide, by decide⟩ (fun v s2 M9 J2 hq => ?_)
                obtain ⟨r11, rfl, rfl, rfl, k10, hx8⟩ := hq
                try dsimp only [Option.toList, List.cons_append, List.nil_append]
                refine xr_pop dX9_hoopCame_99 rfl ?_
                refine xr_iconst (v := 1) dX9_hoopCame_100 rfl ?_
                exact xr_iret dX9_hoopCame_101 rfl rfl (⟨_, rfl, rfl, rfl, (Ke.tr (fun _ _ h => h) Ke.rf k10), (Or.inl ⟨at_, rfl, hat_, ⟨c5, c6, c7⟩, hc5, rfl, hx8.2.1, hx8.2.2⟩)⟩)
              · refine xr_iconst (v := 0) dX9_hoopCame_85 rfl ?_
                exact xr_iret dX9_hoopCame_86 rfl rfl (⟨_, rfl, rfl, rfl, Ke.rf, (Or.inr ⟨(fun j hj h31 z => by obtain rfl := (nI_eq (a := at_) (b := j) (by omega) h31).mp hj; exact c7 z.2.1.2.2), rfl, e_cn, hA⟩)⟩)
        · refine xr_iconst (v := 0) dX9_hoopCame_30 rfl ?_
          exact xr_iret dX9_hoopCame_31 rfl rfl (⟨_, rfl, rfl, rfl, Ke.rf, (Or.inr ⟨(fun j hj h31 z => absurd z.2.2 (by omega)), rfl, e_cn, hA⟩)⟩)
set_option maxRecDepth 100000 in
set_option maxHeartbeats 4000000 in
theorem hsx9_l {i N L n : Nat} (hi : i < 2 ^ 30) (hN : N ≤ 5) (hLL : L ≤ 60) {sq el : Nat} (hs : x_SH[sq]? = some (.inl (6, [none, none, none, none, some (some el)]))) (hel : x_SH[el]? = some (.inr (2, 60, fun _ => none))) (h50 : 50 ≤ sq ∧ sq ≤ 61) {l : Launch} {G : xG} {M : xM} {J : xJ} {Q : xQ} (hw : ∀ j, j < 60 → ∃ w : Int32, J el j = w.toInt64) (e_s : M sq 3 = nI L) (T : Nat × xM) (hC : ∀ (M2 : xM), Ke WAH M M2 → M2 13 2 = nI (n + T.1) → AbC 15 (n + T.1) M2 T.2 → Q (some (.int (nI T.1))) x_SH M2 J) : ∀ (m k : Nat) (D1 M1 : xM), k + m = N → Ke WAH M M1 → n + k ≤ 5 → M1 13 2 = nI (n + k) → AbC 15 (n + k) M1 D1 → hsA (J el) L n i (N - k) k D1 = T → x_X l G fX9_hoops 3 0 0 Q 49 [(5, .int (nI (k))), (4, .ref (sq)), (3, .int (nI (N))), (2, .int (nI (i))), (0, .ref (0))] [] x_SH M1 J 0 0 := by
  intro m
  induction m with
  | zero =>
    intro k D1 M1 hk hM h5 hc hA1 hT
    refine xr_iload dX9_hoops_49 0 rfl ?_
    refine xr_iload_n dX9_hoops_51 2 rfl ?_
    refine xr_icmp_ge (tgt := 76) dX9_hoops_52 rfl (fun _ => ?_) (fun c => absurd (nI_le (a := N) (b := k) (by omega) (by omega)) c)
    refine xr_iload dX9_hoops_76 0 rfl ?_
    exact xr_iret dX9_hoops_78 rfl rfl ((by obtain rfl : k = N := (by omega); rw [Nat.sub_self] at hT; obtain rfl := (show (k, D1) = T from hT); exact hC _ hM hc hA1))
  | succ m ih =>
    intro k D1 M1 hk hM h5 hc hA1 hT
    have hkN : k < N := by omega
    have hs3 : M1 sq 3 = M sq 3 := hM sq 3 (by unfold WAH; omega)
    refine xr_iload dX9_hoops_49 0 rfl ?_
    refine xr_iload_n dX9_hoops_51 2 rfl ?_
    refine xr_icmp_ge (tgt := 76) dX9_hoops_52 rfl (fun c => absurd c (nI_ge (a := k) (b := N) (by omega) (by omega))) (fun _ => ?_)
    refine xr_aload_n dX9_hoops_55 4 rfl ?_
    refine xr_aload dX9_hoops_56 1 rfl ?_
    refine xr_iload_n dX9_hoops_58 3 rfl ?_
    refine xr_iconst (v := 3) dX9_hoops_59 rfl ?_
    refine xr_iload dX9_hoops_60 0 rfl ?_
    refine xr_imul dX9_hoops_62 ?_
    refine xb_top (y := nI (3 * k)) (nI_mulc 3 k) ?_
    refine xr_iadd dX9_hoops_63 ?_
    refine xb_top (y := nI (i + 3 * k)) (nI_add (i) (3 * k)) ?_
    have hi60 : i + 3 * k < 2 ^ 31 := by omega
    refine xr_callV (As := [.ref (sq), .int (nI (i + 3 * k))]) (rest := []) mlX9_97 (gw_X9_hoopCame (nI (i + 3 * k)) hs hel hLL h5 hc hA1 (hs3.trans e_s)) dX9_hoops_64 s_0 rfl rfl (Nat.le_of_ble_eq_true rfl) (by decide) ⟨by decide, by decide⟩ (fun v s2 M2 J2 hq => ?_)
    obtain ⟨r4, rfl, rfl, rfl, k3, hx1⟩ := hq
    try dsimp only [Option.toList, List.cons_append, List.nil_append]
    rcases hx1 with ⟨at_, hat1, hat2, h9, h59, rfl, hc2, hA2⟩ | ⟨hno, rfl, hc2, hA2⟩
    · skip
      refine xr_if_eq (tgt := 76) dX9_hoops_67 rfl (fun c => absurd c (by decide)) (fun _ => ?_)
      refine xr_iinc (v := nI (k + 1)) (ls2 := [(5, .int (nI (k + 1))), (4, .ref (sq)), (3, .int (nI (N))), (2, .int (nI (i))), (0, .ref (0))]) dX9_hoops_70 0 rfl (nI_1 _) (by decide) rfl ?_
      refine xr_goto (tgt := 49) dX9_hoops_73 rfl ?_
      obtain rfl : i + 3 * k = at_ := (nI_eq (by omega) (by omega)).mp hat1
      refine xb_ls (ls2 := [(5, .int (nI (k + 1))), (4, .ref (sq)), (3, .int (nI (N))), (2, .int (nI (i))), (0, .ref (0))]) [0, 1, 2, 3, 4] rfl ?_
      exact ih (k + 1) _ M2 (by omega) (Ke.tr (fun _ _ h => h) hM k3) (by omega) hc2 hA2 ((hsA_y hkN ⟨⟨hat2, (el9_10 hw (by omega)).mp h9⟩, h59⟩).trans hT)
    · skip
      refine xr_if_eq (tgt := 76) dX9_hoops_67 rfl (fun _ => ?_) (fun c => absurd (by decide) c)
      refine xr_iload dX9_hoops_76 0 rfl ?_
      exact xr_iret dX9_hoops_78 rfl rfl ((by obtain rfl := (hsA_n hkN (fun z => hno (i + 3 * k) rfl (by omega) ⟨z.1.1, (el9_10 hw (by have := z.1.1; omega)).mpr z.1.2, z.2⟩)).symm.trans hT; exact hC _ (Ke.tr (fun _ _ h => h) hM k3) hc2 hA2))
theorem hsA_cg {E E2 : Nat → Int64} {L n i : Nat} (hL : L ≤ 60) (h : ∀ j, j < 60 → E j = E2 j) : ∀ (m t : Nat) (D : xM), hsA E L n i m t D = hsA E2 L n i m t D := by
  intro m
  induction m with
  | zero => exact fun t D => rfl
  | succ m ih =>
    intro t D
    show (if okA E L (i + 3 * t) ∧ n + t < 5 then hsA E L n i m (t + 1) (adD D (n + t) (E (i + 3 * t)).toInt32 (E (i + 3 * t + 1)).toInt32 (E (i + 3 * t + 2)).toInt32) else (t, D)) = (if okA E2 L (i + 3 * t) ∧ n + t < 5 then hsA E2 L n i m (t + 1) (adD D (n + t) (E2 (i + 3 * t)).toInt32 (E2 (i + 3 * t + 1)).toInt32 (E2 (i + 3 * t + 2)).toInt32) else (t, D))
    by_cases c : i + 3 * t + 3 ≤ L
    · have e : okA E L (i + 3 * t) ↔ okA E2 L (i + 3 * t) := by unfold okA; rw [h (i + 3 * t) (by omega), h (i + 3 * t + 1) (by omega), h (i + 3 * t + 2) (by omega)]
      by_cases d : okA E L (i + 3 * t) ∧ n + t < 5
      · rw [if_pos d, if_pos ⟨e.mp d.1, d.2⟩, ih, h (i + 3 * t) (by omega), h (i + 3 * t + 1) (by omega), h (i + 3 * t + 2) (by omega)]
      · rw [if_neg d, if_neg (fun z => d ⟨e.mpr z.1, z.2⟩)]
    · rw [if_neg (fun z => c z.1.1), if_neg (fun z => c z.1.1)]
theorem hsA_big {E : Nat → Int64} {L n i : Nat} {D : xM} (h : L < i + 3) (N : Nat) : hsA E L n i N 0 D = (0, D) := by
  cases N with
  | zero => rfl
  | succ N => exact if_neg (fun z => absurd z.1.1 (by omega))
theorem hs_fail {G : xQs} {q at_ : Nat} {i : Int32} (hf : ¬ ((G q).1 = 1 ∧ ∃ i0, i0 < 2 ^ 30 ∧ i = nI i0)) (h0 : (G q).1 = 0 → (G q).2.1 = 0) (h2 : ¬ (G q).1 = 2) (h3 : (G q).1 = 0 ∨ (G q).1 = 1 ∨ (G q).1 = 2) (hL : (G q).2.1 ≤ 60) (e : i = nI at_) : ¬ at_ + 3 ≤ (G q).2.1 := fun z => by
  rcases h3 with a | a | a
  · rw [h0 a] at z; omega
  · exact hf ⟨a, at_, by omega, e⟩
  · exact h2 a
theorem hsT_fail {G : xQs} {n q N : Nat} {i : Int32} {D : xM} (hf : ¬ ((G q).1 = 1 ∧ ∃ i0, i0 < 2 ^ 30 ∧ i = nI i0)) (hL : (G q).2.1 ≤ 60) : hsT G n D q i N = (0, D) := by
  by_cases c : (G q).1 = 1 ∧ 0 ≤ i
  · obtain ⟨i0, h31, rfl⟩ := sx_nat0 (Int32.not_lt.mpr c.2)
    rw [hsT_y h31 c.1]
    exact hsA_big (by have : ¬ i0 < 2 ^ 30 := fun z => hf ⟨c.1, i0, z, rfl⟩; omega) N
  · exact hsT_n c
theorem hs_a {i : Int32} {a : Nat} (h : i + 0 = nI a) : i = nI a := by rw [← h, Int32.add_zero]
set_option maxRecDepth 100000 in
set_option maxHeartbeats 4000000 in
theorem gx_X9_hoops {nh : Nat} {D : xM} {t : Option zL} {S : Nat → Int32} {G9 : xQs} (sh i nn : Int32) {l : Launch} {G : xG} {M : xM} {J : xJ} (hI : InvC M) (hWG : WG nh D S) (hG : CG M nh D t S) (hSh : CSh M J G9) (hWS : WSh G9) : x_M l G fX9_hoops 3 0 0 [.ref (0), .int (sh), .int (i), .int (nn)] x_SH M J (qKI WAH M J (fun r M2 => InvC M2 ∧ (EHs CG nh D t S G9 M2 sh i nn r))) := by
  refine xb_of pX9 (Nat.le_of_ble_eq_true rfl) rfl ?_
  obtain ⟨⟨cn, h_cn, e_cn⟩, ⟨cm, h_cm, e_cm⟩, ⟨L, h_L, e_L⟩, hv, hD, ⟨n, h_n, e_n⟩, ⟨un, wn, h_uw, h_wn, e_un, e_wn⟩, ⟨b, h_b, e_b⟩, hkd, ⟨ra, h_ra, e_ra⟩, hsl, hS⟩ := hI
  have hG0 := hG
  obtain ⟨hn5, hW, hrub, hbeat⟩ := hWG
  obtain ⟨hGn, hA, hL, e_nw, e_rub, e_bt, e_ph, e_st, e_kn, e_pu, e_lf⟩ := hG
  obtain rfl : nh = cn := (nI_eq (by omega) (by omega)).mp (hGn.symm.trans e_cn)
  have hbt : ¬ S 2 = 0 := ne2_0 hbeat.1
  refine xr_iload_n dX9_hoops_0 1 rfl ?_
  refine xb_cS (As := [.int (sh)]) (rest := []) mlX9_88 (c_X9_isShelf sh) dX9_hoops_1 rfl rfl (Nat.le_of_ble_eq_true rfl) (by decide) (by decide) ?_
  refine xb_beq (tgt := 17) dX9_hoops_4 rfl (fun c1 => ?_) (fun c1 => ?_)
  · refine xr_iconst (v := -1) dX9_hoops_17 rfl ?_
    exact xr_iret dX9_hoops_18 rfl rfl (⟨_, rfl, rfl, rfl, Ke.rf, ⟨⟨⟨nh, by omega, e_cn⟩, ⟨cm, by omega, e_cm⟩, ⟨L, by omega, e_L⟩, (fun kk hkk => by rw [show M 3 kk = M 3 kk from rfl]; exact hv kk hkk), hD, ⟨n, by omega, e_n⟩, ⟨un, wn, by omega, by omega, e_un, e_wn⟩, ⟨b, by omega, e_b⟩, (fun j hj => by obtain ⟨q, hq, eq⟩ := hkd j hj; exact ⟨q, hq, (show M 47 j = M 47 j from rfl).trans eq⟩), ⟨ra, by omega, e_ra⟩, (fun j hj => by obtain ⟨s, hs, es⟩ := hsl j hj; exact ⟨s, hs, (show M (50 + 2 * j) 3 = M (50 + 2 * j) 3 from rfl).trans es⟩), (fun j hj => by obtain ⟨q, hq, eq⟩ := hS j hj; exact ⟨q, hq, (show M 36 j = M 36 j from rfl).trans eq⟩)⟩, (Or.inl ⟨(fun q => c1 (lt_le6.mpr q.1)), rfl, hG0⟩)⟩⟩)
  · obtain ⟨s_, hs_, rfl⟩ := x_nat (N := 6) (by decide) rfl c1
    refine xr_iload_n dX9_hoops_7 3 rfl ?_
    refine xr_iconst (v := 1) dX9_hoops_8 rfl ?_
    refine xr_icmp_lt (tgt := 17) dX9_hoops_9 rfl (fun c2 => ?_) (fun c2 => ?_)
    · refine xr_iconst (v := -1) dX9_hoops_17 rfl ?_
      exact xr_iret dX9_hoops_18 rfl rfl (⟨_, rfl, rfl, rfl, Ke.rf, ⟨⟨⟨nh, by omega, e_cn⟩, ⟨cm, by omega, e_cm⟩, ⟨L, by omega, e_L⟩, (fun kk hkk => by rw [show M 3 kk = M 3 kk from rfl]; exact hv kk hkk), hD, ⟨n, by omega, e_n⟩, ⟨un, wn, by omega, by omega, e_un, e_wn⟩, ⟨b, by omega, e_b⟩, (fun j hj => by obtain ⟨q, hq, eq⟩ := hkd j hj; exact ⟨q, hq, (show M 47 j = M 47 j from rfl).trans eq⟩), ⟨ra, by omega, e_ra⟩, (fun j hj => by obtain ⟨s, hs, es⟩ := hsl j hj; exact ⟨s, hs, (show M (50 + 2 * j) 3 = M (50 + 2 * j) 3 from rfl).trans es⟩), (fun j hj => by obtain ⟨q, hq, eq⟩ := hS j hj; exact ⟨q, hq, (show M 36 j = M 36 j from rfl).trans eq⟩)⟩, (Or.inl ⟨(fun q => absurd q.2 (by grind)), rfl, hG0⟩)⟩⟩)
    · refine xr_iload_n dX9_hoops_12 3 rfl ?_
      refine xr_iconst (v := 5) dX9_hoops_13 rfl ?_
      refine xr_icmp_le (tgt := 19) dX9_hoops_14 rfl (fun c3 => ?_) (fun c3 => ?_)
      · refine xr_aload_n dX9_hoops_19 0 rfl ?_
        refine xr_getR flX9_67 dX9_hoops_20 s_0 rfl ?_
        refine xr_iload_n dX9_hoops_23 1 rfl ?_
        refine xb_aald (j := s_) (q := 50 + 2 * s_) (by decide) dX9_hoops_24 s_49 hs_ (by decide) (if_pos hs_) ?_
        obtain ⟨hLL, e_s, hE, hkx⟩ := hSh s_ hs_
        refine xr_astore (ls2 := [(4, .ref (50 + 2 * s_)), (0, .ref (0)), (1, .int (nI (s_))), (2, .int (i)), (3, .int (nn))]) dX9_hoops_25 (by decide) rfl ?_
        refine xr_aload dX9_hoops_27 0 rfl ?_
        refine xb_cV (As := []) (rest := []) mlX9_91 (c_X6_isEmpty (s_shelf hs_) (s_elem hs_)) dX9_hoops_29 (s_shelf hs_) rfl rfl (Nat.le_of_ble_eq_true rfl) (by decide) (by decide) ?_
        refine xb_bne (tgt := 46) dX9_hoops_32 rfl (fun c4 => ?_) (fun c4 => ?_)
        · refine xr_iconst (v := 0) dX9_hoops_46 rfl ?_
          refine xr_istore (ls2 := [(5, .int (0)), (4, .ref (50 + 2 * s_)), (0, .ref (0)), (1, .int (nI (s_))), (2, .int (i)), (3, .int (nn))]) dX9_hoops_47 (by decide) rfl ?_
          obtain ⟨N, hN, rfl⟩ := x_natle (v := nn) (N := 5) (K := 5) (by decide) (by decide) ⟨by grind, by grind⟩
          have hk2 : ¬ (G9 s_).1 = 2 := fun z => by
            rcases hkx with ⟨a9, -⟩ | ⟨a9, -⟩ | ⟨-, bb9, cc9⟩
            · exact absurd (a9.symm.trans z) (by decide)
            · exact absurd (a9.symm.trans z) (by decide)
            · exact bb9 c4
          have hk3 : (G9 s_).1 = 0 ∨ (G9 s_).1 = 1 ∨ (G9 s_).1 = 2 := hkx.imp (fun z => z.1) (fun z => z.imp (fun z => z.1) (fun z => z.1))
          by_cases hf : (G9 s_).1 = 1 ∧ ∃ i0, i0 < 2 ^ 30 ∧ i = nI i0
          · obtain ⟨hk1, i0, hi0_, rfl⟩ := hf
            refine xb_ls (ls2 := [(5, .int (nI (0))), (4, .ref (50 + 2 * s_)), (3, .int (nI (N))), (2, .int (nI (i0))), (0, .ref (0))]) [0, 1, 5, 4, 2] rfl ?_
            have hT5 : nh + (hsT G9 nh D s_ (nI i0) N).1 ≤ 5 ∧ WF (nh + (hsT G9 nh D s_ (nI i0) N).1) (hsT G9 nh D s_ (nI i0) N).2 := hsT_w hn5 hW
            have eJ : hsA (J (51 + 2 * s_)) (G9 s_).2.1 nh i0 N 0 D = hsT G9 nh D s_ (nI i0) N := (hsA_cg hLL hE N 0 D).trans (hsT_y (by omega) hk1).symm
            exact hsx9_l (i := i0) (N := N) (n := nh) hi0_ (by omega) hLL (s_shelf hs_) (s_elem hs_) (by omega) (fun j hj => by rw [hE j hj]; exact (hWS s_ hs_).1 hk1 j hj) e_s (hsT G9 nh D s_ (nI i0) N) (fun M2 hk2_ h13 hA2 => ⟨_, rfl, rfl, rfl, hk2_, ⟨⟨⟨_, hT5.1, h13⟩, ⟨cm, by omega, (Eq.trans (hk2_ 20 2 (by decide)) e_cm)⟩, ⟨L, by omega, (Eq.trans (hk2_ 1 4 (by decide)) e_L)⟩, (fun kk hkk => by rw [show M2 3 kk = M 3 kk from (Eq.trans (hk2_ 3 kk (by unfold WAH; omega)) rfl)]; exact hv kk hkk), (DI_ke (by intro k; unfold WAH; omega) hk2_ hD), ⟨n, by omega, (Eq.trans (hk2_ 6 2 (by decide)) e_n)⟩, ⟨un, wn, by omega, by omega, (Eq.trans (hk2_ 41 4 (by decide)) e_un), (Eq.trans (hk2_ 41 5 (by decide)) e_wn)⟩, ⟨b, by omega, (Eq.trans (hk2_ 46 2 (by decide)) e_b)⟩, (fun j hj => by obtain ⟨q, hq, eq⟩ := hkd j hj; exact ⟨q, hq, (show M2 47 j = M 47 j from (Eq.trans (hk2_ 47 j (by unfold WAH; omega)) rfl)).trans eq⟩), ⟨ra, by omega, (Eq.trans (hk2_ 46 3 (by decide)) e_ra)⟩, (fun j hj => by obtain ⟨s, hs, es⟩ := hsl j hj; exact ⟨s, hs, (show M2 (50 + 2 * j) 3 = M (50 + 2 * j) 3 from (Eq.trans (hk2_ (50 + 2 * j) 3 (by unfold WAH; omega)) rfl)).trans es⟩), (fun j hj => by obtain ⟨q, hq, eq⟩ := hS j hj; exact ⟨q, hq, (show M2 36 j = M 36 j from (Eq.trans (hk2_ 36 j (by unfold WAH; omega)) rfl)).trans eq⟩)⟩, Or.inr ⟨s_, N, hs_, by omega, ⟨lt_le6.mp c1, by grind, by grind⟩, rfl, rfl, Or.inr ⟨hk2, rfl, ⟨h13, hA2, (LCt_k (Eq.trans (hk2_ 1 4 (by unfold WAH; omega)) rfl) (fun kl => (Eq.trans (hk2_ 2 kl (by unfold WAH; omega)) rfl)) (fun kl => (Eq.trans (hk2_ 3 kl (by unfold WAH; omega)) rfl)) hL), (Eq.trans (hk2_ 13 3 (by decide)) e_nw), (Eq.trans (hk2_ 13 4 (by decide)) e_rub), (Eq.trans (hk2_ 13 5 (by decide)) e_bt), (Eq.trans (hk2_ 13 6 (by decide)) e_ph), (Eq.trans (hk2_ 13 7 (by decide)) e_st), (Eq.trans (hk2_ 35 5 (by decide)) e_kn), (Eq.trans (hk2_ 13 8 (by decide)) e_pu), (Eq.trans (hk2_ 13 9 (by decide)) e_lf)⟩⟩⟩⟩⟩) N 0 D M (by omega) Ke.rf hn5 e_cn hA eJ
          · have eT : hsT G9 nh D s_ i N = (0, D) := hsT_fail hf hLL
            refine xr_iload dX9_hoops_49 0 rfl ?_
            refine xr_iload_n dX9_hoops_51 5 rfl ?_
            refine xr_icmp_ge (tgt := 76) dX9_hoops_52 rfl (fun c => absurd c (by have z : 1 ≤ N := (nI_leI (a := 1) (b := N) (by decide) (by omega)).mp (by grind); exact nI_ge (a := 0) (b := N) (by omega) (by omega))) (fun _ => ?_)
            refine xr_aload_n dX9_hoops_55 2 rfl ?_
            refine xr_aload dX9_hoops_56 1 rfl ?_
            refine xr_iload_n dX9_hoops_58 4 rfl ?_
            refine xr_iconst (v := 3) dX9_hoops_59 rfl ?_
            refine xr_iload dX9_hoops_60 0 rfl ?_
            refine xr_imul dX9_hoops_62 ?_
            refine xb_top (y := 0) (by decide) ?_
            refine xr_iadd dX9_hoops_63 ?_
            refine xr_callV (As := [.ref (50 + 2 * s_), .int ((i + 0))]) (rest := []) mlX9_97 (gw_X9_hoopCame (i + 0) (s_shelf hs_) (s_elem hs_) hLL hn5 e_cn hA (rfl.trans e_s)) dX9_hoops_64 s_0 rfl rfl (Nat.le_of_ble_eq_true rfl) (by decide) ⟨by decide, by decide⟩ (fun v s2 M6 J2 hq => ?_)
            obtain ⟨r8, rfl, rfl, rfl, k7, hx5⟩ := hq
            try dsimp only [Option.toList, List.cons_append, List.nil_append]
            have hc3 := Or.resolve_left hx5 (fun z => by obtain ⟨at_, hat1, hat2, h9, h59, -⟩ := z; exact hs_fail hf ((hWS s_ hs_).2) hk2 hk3 hLL (hs_a hat1) hat2)
            obtain ⟨hno, rfl, hc2, hA2⟩ := hc3
            refine xr_if_eq (tgt := 76) dX9_hoops_67 rfl (fun _ => ?_) (fun c => absurd (by decide) c)
            refine xr_iload dX9_hoops_76 0 rfl ?_
            exact xr_iret dX9_hoops_78 rfl rfl (⟨_, rfl, rfl, rfl, (Ke.tr (fun _ _ h => h) Ke.rf k7), ⟨⟨⟨nh, by omega, hc2⟩, ⟨cm, by omega, (Eq.trans (k7 20 2 (by decide)) e_cm)⟩, ⟨L, by omega, (Eq.trans (k7 1 4 (by decide)) e_L)⟩, (fun kk hkk => by rw [show M6 3 kk = M 3 kk from (Eq.trans (k7 3 kk (by unfold WAH; omega)) rfl)]; exact hv kk hkk), (DI_ke (by intro k; unfold WAH; omega) k7 hD), ⟨n, by omega, (Eq.trans (k7 6 2 (by decide)) e_n)⟩, ⟨un, wn, by omega, by omega, (Eq.trans (k7 41 4 (by decide)) e_un), (Eq.trans (k7 41 5 (by decide)) e_wn)⟩, ⟨b, by omega, (Eq.trans (k7 46 2 (by decide)) e_b)⟩, (fun j hj => by obtain ⟨q, hq, eq⟩ := hkd j hj; exact ⟨q, hq, (show M6 47 j = M 47 j from (Eq.trans (k7 47 j (by unfold WAH; omega)) rfl)).trans eq⟩), ⟨ra, by omega, (Eq.trans (k7 46 3 (by decide)) e_ra)⟩, (fun j hj => by obtain ⟨s, hs, es⟩ := hsl j hj; exact ⟨s, hs, (show M6 (50 + 2 * j) 3 = M (50 + 2 * j) 3 from (Eq.trans (k7 (50 + 2 * j) 3 (by unfold WAH; omega)) rfl)).trans es⟩), (fun j hj => by obtain ⟨q, hq, eq⟩ := hS j hj; exact ⟨q, hq, (show M6 36 j = M 36 j from (Eq.trans (k7 36 j (by unfold WAH; omega)) rfl)).trans eq⟩)⟩, (Or.inr ⟨s_, N, hs_, by omega, ⟨lt_le6.mp c1, by grind, by grind⟩, rfl, rfl, Or.inr ⟨hk2, (by rw [eT]; rfl), (by rw [eT]; exact ⟨hc2, hA2, (LCt_k (Eq.trans (k7 1 4 (by unfold WAH; omega)) rfl) (fun kl => (Eq.trans (k7 2 kl (by unfold WAH; omega)) rfl)) (fun kl => (Eq.trans (k7 3 kl (by unfold WAH; omega)) rfl)) hL), (Eq.trans (k7 13 3 (by decide)) e_nw), (Eq.trans (k7 13 4 (by decide)) e_rub), (Eq.trans (k7 13 5 (by decide)) e_bt), (Eq.trans (k7 13 6 (by decide)) e_ph), (Eq.trans (k7 13 7 (by decide)) e_st), (Eq.trans (k7 35 5 (by decide)) e_kn), (Eq.trans (k7 13 8 (by decide)) e_pu), (Eq.trans (k7 13 9 (by decide)) e_lf)⟩)⟩⟩)⟩⟩)
        · refine xr_aload dX9_hoops_35 0 rfl ?_
          refine xb_cV (As := []) (rest := []) mlX9_94 (c_X6_hasBytes (s_shelf hs_) (s_elem hs_)) dX9_hoops_37 (s_shelf hs_) rfl rfl (Nat.le_of_ble_eq_true rfl) (by decide) (by decide) ?_
          refine xb_bne (tgt := 46) dX9_hoops_40 rfl (fun c9 => ?_) (fun c9 => ?_)
          · refine xr_iconst (v := 0) dX9_hoops_46 rfl ?_
            refine xr_istore (ls2 := [(5, .int (0)), (4, .ref (50 + 2 * s_)), (0, .ref (0)), (1, .int (nI (s_))), (2, .int (i)), (3, .int (nn))]) dX9_hoops_47 (by decide) rfl ?_
            obtain ⟨N, hN, rfl⟩ := x_natle (v := nn) (N := 5) (K := 5) (by decide) (by decide) ⟨by grind, by grind⟩
            have hk2 : ¬ (G9 s_).1 = 2 := fun z => by
              rcases hkx with ⟨a9, -⟩ | ⟨a9, -⟩ | ⟨-, bb9, cc9⟩
              · exact absurd (a9.symm.trans z) (by decide)
              · exact absurd (a9.symm.trans z) (by decide)
              · exact cc9 c9
            have hk3 : (G9 s_).1 = 0 ∨ (G9 s_).1 = 1 ∨ (G9 s_).1 = 2 := hkx.imp (fun z => z.1) (fun z => z.imp (fun z => z.1) (fun z => z.1))
            by_cases hf : (G9 s_).1 = 1 ∧ ∃ i0, i0 < 2 ^ 30 ∧ i = nI i0
            · obtain ⟨hk1, i0, hi0_, rfl⟩ := hf
              refine xb_ls (ls2 := [(5, .int (nI (0))), (4, .ref (50 + 2 * s_)), (3, .int (nI (N))), (2, .int (nI (i0))), (0, .ref (0))]) [0, 1, 5, 4, 2] rfl ?_
              have hT5 : nh + (hsT G9 nh D s_ (nI i0) N).1 ≤ 5 ∧ WF (nh + (hsT G9 nh D s_ (nI i0) N).1) (hsT G9 nh D s_ (nI i0) N).2 := hsT_w hn5 hW
              have eJ : hsA (J (51 + 2 * s_)) (G9 s_).2.1 nh i0 N 0 D = hsT G9 nh D s_ (nI i0) N := (hsA_cg hLL hE N 0 D).trans (hsT_y (by omega) hk1).symm
              exact hsx9_l (i := i0) (N := N) (n := nh) hi0_ (by omega) hLL (s_shelf hs_) (s_elem hs_) (by omega) (fun j hj => by rw [hE j hj]; exact (hWS s_ hs_).1 hk1 j hj) e_s (hsT G9 nh D s_ (nI i0) N) (fun M2 hk2_ h13 hA2 => ⟨_, rfl, rfl, rfl, hk2_, ⟨⟨⟨_, hT5.1, h13⟩, ⟨cm, by omega, (Eq.trans (hk2_ 20 2 (by decide)) e_cm)⟩, ⟨L, by omega, (Eq.trans (hk2_ 1 4 (by decide)) e_L)⟩, (fun kk hkk => by rw [show M2 3 kk = M 3 kk from (Eq.trans (hk2_ 3 kk (by unfold WAH; omega)) rfl)]; exact hv kk hkk), (DI_ke (by intro k; unfold WAH; omega) hk2_ hD), ⟨n, by omega, (Eq.trans (hk2_ 6 2 (by decide)) e_n)⟩, ⟨un, wn, by omega, by omega, (Eq.trans (hk2_ 41 4 (by decide)) e_un), (Eq.trans (hk2_ 41 5 (by decide)) e_wn)⟩, ⟨b, by omega, (Eq.trans (hk2_ 46 2 (by decide)) e_b)⟩, (fun j hj => by obtain ⟨q, hq, eq⟩ := hkd j hj; exact ⟨q, hq, (show M2 47 j = M 47 j from (Eq.trans (hk2_ 47 j (by unfold WAH; omega)) rfl)).trans eq⟩), ⟨ra, by omega, (Eq.trans (hk2_ 46 3 (by decide)) e_ra)⟩, (fun j hj => by obtain ⟨s, hs, es⟩ := hsl j hj; exact ⟨s, hs, (show M2 (50 + 2 * j) 3 = M (50 + 2 * j) 3 from (Eq.trans (hk2_ (50 + 2 * j) 3 (by unfold WAH; omega)) rfl)).trans es⟩), (fun j hj => by obtain ⟨q, hq, eq⟩ := hS j hj; exact ⟨q, hq, (show M2 36 j = M 36 j from (Eq.trans (hk2_ 36 j (by unfold WAH; omega)) rfl)).trans eq⟩)⟩, Or.inr ⟨s_, N, hs_, by omega, ⟨lt_le6.mp c1, by grind, by grind⟩, rfl, rfl, Or.inr ⟨hk2, rfl, ⟨h13, hA2, (LCt_k (Eq.trans (hk2_ 1 4 (by unfold WAH; omega)) rfl) (fun kl => (Eq.trans (hk2_ 2 kl (by unfold WAH; omega)) rfl)) (fun kl => (Eq.trans (hk2_ 3 kl (by unfold WAH; omega)) rfl)) hL), (Eq.trans (hk2_ 13 3 (by decide)) e_nw), (Eq.trans (hk2_ 13 4 (by decide)) e_rub), (Eq.trans (hk2_ 13 5 (by decide)) e_bt), (Eq.trans (hk2_ 13 6 (by decide)) e_ph), (Eq.trans (hk2_ 13 7 (by decide)) e_st), (Eq.trans (hk2_ 35 5 (by decide)) e_kn), (Eq.trans (hk2_ 13 8 (by decide)) e_pu), (Eq.trans (hk2_ 13 9 (by decide)) e_lf)⟩⟩⟩⟩⟩) N 0 D M (by omega) Ke.rf hn5 e_cn hA eJ
            · have eT : hsT G9 nh D s_ i N = (0, D) := hsT_fail hf hLL
              refine xr_iload dX9_hoops_49 0 rfl ?_
              refine xr_iload_n dX9_hoops_51 5 rfl ?_
              refine xr_icmp_ge (tgt := 76) dX9_hoops_52 rfl (fun c => absurd c (by have z : 1 ≤ N := (nI_leI (a := 1) (b := N) (by decide) (by omega)).mp (by grind); exact nI_ge (a := 0) (b := N) (by omega) (by omega))) (fun _ => ?_)
              refine xr_aload_n dX9_hoops_55 2 rfl ?_
              refine xr_aload dX9_hoops_56 1 rfl ?_
              refine xr_iload_n dX9_hoops_58 4 rfl ?_
              refine xr_iconst (v := 3) dX9_hoops_59 rfl ?_
              refine xr_iload dX9_hoops_60 0 rfl ?_
              refine xr_imul dX9_hoops_62 ?_
              refine xb_top (y := 0) (by decide) ?_
              refine xr_iadd dX9_hoops_63 ?_
              refine xr_callV (As := [.ref (50 + 2 * s_), .int ((i + 0))]) (rest := []) mlX9_97 (gw_X9_hoopCame (i + 0) (s_shelf hs_) (s_elem hs_) hLL hn5 e_cn hA (rfl.trans e_s)) dX9_hoops_64 s_0 rfl rfl (Nat.le_of_ble_eq_true rfl) (by decide) ⟨by decide, by decide⟩ (fun v s2 M11 J2 hq => ?_)
              obtain ⟨r13, rfl, rfl, rfl, k12, hx10⟩ := hq
              try dsimp only [Option.toList, List.cons_append, List.nil_append]
              have hc3 := Or.resolve_left hx10 (fun z => by obtain ⟨at_, hat1, hat2, h9, h59, -⟩ := z; exact hs_fail hf ((hWS s_ hs_).2) hk2 hk3 hLL (hs_a hat1) hat2)
              obtain ⟨hno, rfl, hc2, hA2⟩ := hc3
              refine xr_if_eq (tgt := 76) dX9_hoops_67 rfl (fun _ => ?_) (fun c => absurd (by decide) c)
              refine xr_iload dX9_hoops_76 0 rfl ?_
              exact xr_iret dX9_hoops_78 rfl rfl (⟨_, rfl, rfl, rfl, (Ke.tr (fun _ _ h => h) Ke.rf k12), ⟨⟨⟨nh, by omega, hc2⟩, ⟨cm, by omega, (Eq.trans (k12 20 2 (by decide)) e_cm)⟩, ⟨L, by omega, (Eq.trans (k12 1 4 (by decide)) e_L)⟩, (fun kk hkk => by rw [show M11 3 kk = M 3 kk from (Eq.trans (k12 3 kk (by unfold WAH; omega)) rfl)]; exact hv kk hkk), (DI_ke (by intro k; unfold WAH; omega) k12 hD), ⟨n, by omega, (Eq.trans (k12 6 2 (by decide)) e_n)⟩, ⟨un, wn, by omega, by omega, (Eq.trans (k12 41 4 (by decide)) e_un), (Eq.trans (k12 41 5 (by decide)) e_wn)⟩, ⟨b, by omega, (Eq.trans (k12 46 2 (by decide)) e_b)⟩, (fun j hj => by obtain ⟨q, hq, eq⟩ := hkd j hj; exact ⟨q, hq, (show M11 47 j = M 47 j from (Eq.trans (k12 47 j (by unfold WAH; omega)) rfl)).trans eq⟩), ⟨ra, by omega, (Eq.trans (k12 46 3 (by decide)) e_ra)⟩, (fun j hj => by obtain ⟨s, hs, es⟩ := hsl j hj; exact ⟨s, hs, (show M11 (50 + 2 * j) 3 = M (50 + 2 * j) 3 from (Eq.trans (k12 (50 + 2 * j) 3 (by unfold WAH; omega)) rfl)).trans es⟩), (fun j hj => by obtain ⟨q, hq, eq⟩ := hS j hj; exact ⟨q, hq, (show M11 36 j = M 36 j from (Eq.trans (k12 36 j (by unfold WAH; omega)) rfl)).trans eq⟩)⟩, (Or.inr ⟨s_, N, hs_, by omega, ⟨lt_le6.mp c1, by grind, by grind⟩, rfl, rfl, Or.inr ⟨hk2, (by rw [eT]; rfl), (by rw [eT]; exact ⟨hc2, hA2, (LCt_k (Eq.trans (k12 1 4 (by unfold WAH; omega)) rfl) (fun kl => (Eq.trans (k12 2 kl (by unfold WAH; omega)) rfl)) (fun kl => (Eq.trans (k12 3 kl (by unfold WAH; omega)) rfl)) hL), (Eq.trans (k12 13 3 (by decide)) e_nw), (Eq.trans (k12 13 4 (by decide)) e_rub), (Eq.trans (k12 13 5 (by decide)) e_bt), (Eq.trans (k12 13 6 (by decide)) e_ph), (Eq.trans (k12 13 7 (by decide)) e_st), (Eq.trans (k12 35 5 (by decide)) e_kn), (Eq.trans (k12 13 8 (by decide)) e_pu), (Eq.trans (k12 13 9 (by decide)) e_lf)⟩)⟩⟩)⟩⟩)
          · refine xr_bipush (v := -12) dX9_hoops_43 rfl ?_
            exact xr_iret dX9_hoops_45 rfl rfl (⟨_, rfl, rfl, rfl, Ke.rf, ⟨⟨⟨nh, by omega, e_cn⟩, ⟨cm, by omega, e_cm⟩, ⟨L, by omega, e_L⟩, (fun kk hkk => by rw [show M 3 kk = M 3 kk from rfl]; exact hv kk hkk), hD, ⟨n, by omega, e_n⟩, ⟨un, wn, by omega, by omega, e_un, e_wn⟩, ⟨b, by omega, e_b⟩, (fun j hj => by obtain ⟨q, hq, eq⟩ := hkd j hj; exact ⟨q, hq, (show M 47 j = M 47 j from rfl).trans eq⟩), ⟨ra, by omega, e_ra⟩, (fun j hj => by obtain ⟨s, hs, es⟩ := hsl j hj; exact ⟨s, hs, (show M (50 + 2 * j) 3 = M (50 + 2 * j) 3 from rfl).trans es⟩), (fun j hj => by obtain ⟨q, hq, eq⟩ := hS j hj; exact ⟨q, hq, (show M 36 j = M 36 j from rfl).trans eq⟩)⟩, (by obtain ⟨N, hN, rfl⟩ := x_natle (v := nn) (N := 5) (K := 5) (by decide) (by decide) ⟨by grind, by grind⟩; exact Or.inr ⟨s_, N, hs_, by omega, ⟨lt_le6.mp c1, by grind, by grind⟩, rfl, rfl, Or.inl ⟨((hkx.resolve_left (fun z => c4 z.2)).resolve_left (fun z => c9 ⟨z.2.1, z.2.2⟩)).1, rfl, hG0⟩⟩)⟩⟩)
      · refine xr_iconst (v := -1) dX9_hoops_17 rfl ?_
        exact xr_iret dX9_hoops_18 rfl rfl (⟨_, rfl, rfl, rfl, Ke.rf, ⟨⟨⟨nh, by omega, e_cn⟩, ⟨cm, by omega, e_cm⟩, ⟨L, by omega, e_L⟩, (fun kk hkk => by rw [show M 3 kk = M 3 kk from rfl]; exact hv kk hkk), hD, ⟨n, by omega, e_n⟩, ⟨un, wn, by omega, by omega, e_un, e_wn⟩, ⟨b, by omega, e_b⟩, (fun j hj => by obtain ⟨q, hq, eq⟩ := hkd j hj; exact ⟨q, hq, (show M 47 j = M 47 j from rfl).trans eq⟩), ⟨ra, by omega, e_ra⟩, (fun j hj => by obtain ⟨s, hs, es⟩ := hsl j hj; exact ⟨s, hs, (show M (50 + 2 * j) 3 = M (50 + 2 * j) 3 from rfl).trans es⟩), (fun j hj => by obtain ⟨q, hq, eq⟩ := hS j hj; exact ⟨q, hq, (show M 36 j = M 36 j from rfl).trans eq⟩)⟩, (Or.inl ⟨(fun q => absurd q.2 (by grind)), rfl, hG0⟩)⟩⟩)
