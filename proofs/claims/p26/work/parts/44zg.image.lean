/-- laid back: place, pace, high of those ahead of n0 -/
def bkD (n0 : Nat) (D0 D : xM) : xM := fun i j => if i < n0 ∧ 2 ≤ j then D0 i j else D i j
def bkS (S U : Nat → Int32) : Nat → Int32 := fun j => if j = 0 then U 0 else if j = 6 then U 1 else if j = 7 then U 2 else S j
def kS (S : Nat → Int32) : Nat → Int32 := fun j => if j = 0 then S 0 else if j = 1 then S 6 else S 7
/-- what is kept -/
def CK (M : xM) (n0 : Nat) (D0 : xM) (U : Nat → Int32) : Prop := M 20 2 = nI n0 ∧ AbC 22 n0 M D0 ∧ M 20 3 = U 0 ∧ M 20 8 = U 1 ∧ M 20 9 = U 2
def RK (M : xM) (n0 : Nat) (D0 : xM) (U : Nat → Int32) : Prop := M 62 34 = nI n0 ∧ (∀ i, i < n0 → M 80 (3 + 3 * i) = D0 i 2 ∧ M 80 (4 + 3 * i) = D0 i 3 ∧ M 80 (5 + 3 * i) = D0 i 4) ∧ M 80 0 = U 0 ∧ M 80 1 = U 1 ∧ M 80 2 = U 2
def WFK (n0 : Nat) (D0 : xM) : Prop := ∀ i, i < n0 → (0 ≤ D0 i 2 ∧ D0 i 2 < 24) ∧ (-9 ≤ D0 i 3 ∧ D0 i 3 ≤ 9) ∧ (0 ≤ D0 i 4 ∧ D0 i 4 ≤ 20) ∧ (D0 i 4 = 0 → D0 i 3 = 0)
theorem WF_K {n : Nat} {D : xM} (h : WF n D) : WFK n D := fun i hi => (h i hi).2.2
theorem WF_bk {n n0 : Nat} {D D0 : xM} (h : WF n D) (h0 : WFK n0 D0) : WF n (bkD n0 D0 D) := fun i hi => by
  unfold bkD
  rw [if_neg (fun q => absurd q.2 (by decide)), if_neg (fun q => absurd q.2 (by decide))]
  by_cases c : i < n0
  · rw [if_pos ⟨c, by decide⟩, if_pos ⟨c, by decide⟩, if_pos ⟨c, by decide⟩]; exact ⟨(h i hi).1, (h i hi).2.1, h0 i c⟩
  · rw [if_neg (fun q => c q.1), if_neg (fun q => c q.1), if_neg (fun q => c q.1)]; exact h i hi
theorem bkD_0 {D0 D : xM} : bkD 0 D0 D = D := by funext i j; exact if_neg (fun q => absurd q.1 (Nat.not_lt_zero i))
theorem bkD_n {k i : Nat} {D0 D : xM} (h : i ≠ k) : ∀ j, bkD (k + 1) D0 D i j = bkD k D0 D i j := fun j => by
  unfold bkD
  by_cases c : i < k
  · by_cases d : 2 ≤ j
    · rw [if_pos ⟨by omega, d⟩, if_pos ⟨c, d⟩]
    · rw [if_neg (fun q => d q.2), if_neg (fun q => d q.2)]
  · rw [if_neg (fun q => c (by omega)), if_neg (fun q => c q.1)]
theorem bkD_y {k j : Nat} {D0 D : xM} (h : 2 ≤ j) : bkD (k + 1) D0 D k j = D0 k j := if_pos ⟨Nat.lt_succ_self k, h⟩
theorem bkD_s {k j : Nat} {D0 D : xM} (h : j < 2) : bkD (k + 1) D0 D k j = bkD k D0 D k j := by unfold bkD; rw [if_neg (fun q => absurd q.2 (by omega)), if_neg (fun q => absurd q.2 (by omega))]
theorem AbC_cp {a b n k : Nat} {M M1 M2 D : xM} (h : AbC a k M1 D) (hA : AbC b n M D) (hk : k < n) (hK : Ke (fun p _ => p = a + k) M1 M2) (hs : ∀ j, j < 5 → M2 (a + k) j = M (b + k) j) : AbC a (k + 1) M2 D := fun i hi j hj => by
  by_cases e : i = k
  · subst e; exact (hs j hj).trans (hA i hk j hj)
  · exact (hK (a + i) j (show ¬ a + i = a + k by omega)).trans (h i (by omega) j hj)
theorem AbC_bk {n k : Nat} {M1 M2 D D0 : xM} (h : AbC 15 n M1 (bkD k D0 D)) (hk : k < n) (hK : Ke (fun p _ => p = 15 + k) M1 M2) (h0 : M2 (15 + k) 0 = M1 (15 + k) 0) (h1 : M2 (15 + k) 1 = M1 (15 + k) 1) (h2 : M2 (15 + k) 2 = D0 k 2) (h3 : M2 (15 + k) 3 = D0 k 3) (h4 : M2 (15 + k) 4 = D0 k 4) : AbC 15 n M2 (bkD (k + 1) D0 D) :=
  AbC_5 (i := k) h (fun j _ he i => hK (15 + j) i (show ¬ 15 + j = 15 + k by omega)) (fun j he => bkD_n he) (h0.trans ((h k hk 0 (by decide)).trans (bkD_s (by decide)).symm)) (h1.trans ((h k hk 1 (by decide)).trans (bkD_s (by decide)).symm)) (h2.trans (bkD_y (by decide)).symm) (h3.trans (bkD_y (by decide)).symm) (h4.trans (bkD_y (by decide)).symm) n (fun j hj => Or.inl hj)
theorem AbS_bk {n k : Nat} {M1 D D0 : xM} {a v w : Int32} (h : AbS n M1 (bkD k D0 D)) (hk : k < n) (hn : n ≤ 5) (ha : a = D0 k 2) (hv : v = D0 k 3) (hw : w = D0 k 4) : AbS n (x_up (x_up (x_up M1 67 k a) 63 (10 + k) v) 68 k w) (bkD (k + 1) D0 D) := by
  refine AbS_5 (i := k) h (by omega) (fun j h1 h2 h3 => ?_) (fun j he => ?_) (fun j he => ?_) (fun j he => bkD_n he) ?_ ?_ ?_ ?_ ?_ (fun j hj => Or.inl hj) hn
  · rw [up_n (by decide), up_k h3, up_n (by decide)]
  · rw [up_n (by decide), up_n (by decide), up_k he]
  · rw [up_k he, up_n (by decide), up_n (by decide)]
  · rw [up_n (by decide), up_k (by omega), up_n (by decide), bkD_s (by decide)]; exact (h k hk).1
  · rw [up_n (by decide), up_k (by omega), up_n (by decide), bkD_s (by decide)]; exact (h k hk).2.1
  · rw [up_n (by decide), up_n (by decide), up_s, bkD_y (by decide)]; exact ha
  · rw [up_n (by decide), up_s, bkD_y (by decide)]; exact hv
  · rw [up_s, bkD_y (by decide)]; exact hw
def IKi (D : xM) (a b c : Int32) (M1 : xM) (k : Nat) : Prop := (M1 80 0 = a ∧ M1 80 1 = b ∧ M1 80 2 = c) ∧ ∀ i, i < k → M1 80 (3 + 3 * i) = D i 2 ∧ M1 80 (4 + 3 * i) = D i 3 ∧ M1 80 (5 + 3 * i) = D i 4
theorem IKi_s {D M1 : xM} {a b c v w z : Int32} {k : Nat} (h : IKi D a b c M1 k) (hv : v = D k 2) (hw : w = D k 3) (hz : z = D k 4) : IKi D a b c (x_up (x_up (x_up M1 80 (3 + 3 * k) v) 80 (4 + 3 * k) w) 80 (5 + 3 * k) z) (k + 1) := by
  obtain ⟨⟨h0, h1, h2⟩, hi⟩ := h
  refine ⟨⟨?_, ?_, ?_⟩, fun i hik => ?_⟩
  · rw [up_k (by omega), up_k (by omega), up_k (by omega)]; exact h0
  · rw [up_k (by omega), up_k (by omega), up_k (by omega)]; exact h1
  · rw [up_k (by omega), up_k (by omega), up_k (by omega)]; exact h2
  · by_cases e : i = k
    · subst e
      exact ⟨(up_k (by omega)).trans ((up_k (by omega)).trans (up_s.trans hv)), (up_k (by omega)).trans (up_s.trans hw), up_s.trans hz⟩
    · obtain ⟨a, b, c⟩ := hi i (by omega)
      exact ⟨(up_k (by omega)).trans ((up_k (by omega)).trans ((up_k (by omega)).trans a)), (up_k (by omega)).trans ((up_k (by omega)).trans ((up_k (by omega)).trans b)), (up_k (by omega)).trans ((up_k (by omega)).trans ((up_k (by omega)).trans c))⟩
def EBk (G : xM → Nat → xM → Option zL → (Nat → Int32) → Prop) (n : Nat) (D : xM) (t : Option zL) (S : Nat → Int32) (f : Int32) (n0 : Nat) (D0 : xM) (U : Nat → Int32) (M2 : xM) (r : Int32) : Prop := f = 0 ∧ r = -5 ∧ G M2 n D t S ∨ ¬ f = 0 ∧ r = U 0 ∧ G M2 n (bkD n0 D0 D) t (bkS S U)
set_option maxRecDepth 100000 in
set_option maxHeartbeats 4000000 in
theorem gw_X2_copyWay {q : Nat} (hq : x_SH[q]? = some (.inl (2, [none, none, none, none, none]))) {o : Nat} (ho : x_SH[o]? = some (.inl (2, [none, none, none, none, none]))) (hoq : o ≠ q) {l : Launch} {G : xG} {M : xM} {J : xJ} : x_M l G fX2_copyWay 0 0 0 [.ref (q), .ref (o)] x_SH M J (qKV (fun p _ => p = q) M J (fun M2 => (M2 q 0 = M q 0 ∧ M2 q 1 = M q 1) ∧ M2 q 2 = M o 2 ∧ M2 q 3 = M o 3 ∧ M2 q 4 = M o 4)) := by
  refine xb_of pX2 (Nat.le_of_ble_eq_true rfl) rfl ?_
  refine xr_aload_n dX2_copyWay_0 0 rfl ?_
  refine xr_aload_n dX2_copyWay_1 1 rfl ?_
  refine xb_get (v := (M o 2)) flX2_22 dX2_copyWay_2 ho rfl rfl ?_
  refine xr_putI fpX2_22 dX2_copyWay_5 hq rfl rfl rfl ?_
  refine xr_aload_n dX2_copyWay_8 0 rfl ?_
  refine xr_aload_n dX2_copyWay_9 1 rfl ?_
  refine xb_get (v := (M o 3)) flX2_25 dX2_copyWay_10 ho rfl (Eq.trans (congrFun (x_up_n _ _ _ hoq) _) rfl) ?_
  refine xr_putI fpX2_25 dX2_copyWay_13 hq rfl rfl rfl ?_
  refine xr_aload_n dX2_copyWay_16 0 rfl ?_
  refine xr_aload_n dX2_copyWay_17 1 rfl ?_
  refine xb_get (v := (M o 4)) flX2_28 dX2_copyWay_18 ho rfl (Eq.trans (congrFun (x_up_n _ _ _ hoq) _) (Eq.trans (congrFun (x_up_n _ _ _ hoq) _) rfl)) ?_
  refine xr_putI fpX2_28 dX2_copyWay_21 hq rfl rfl rfl ?_
  exact xr_vret dX2_copyWay_24 rfl (⟨rfl, rfl, rfl, (Ke.up rfl (Ke.up rfl (Ke.up rfl Ke.rf))), ⟨⟨(Eq.trans (x_up_k _ _ _ (by decide)) (Eq.trans (x_up_k _ _ _ (by decide)) (Eq.trans (x_up_k _ _ _ (by decide)) rfl))), (Eq.trans (x_up_k _ _ _ (by decide)) (Eq.trans (x_up_k _ _ _ (by decide)) (Eq.trans (x_up_k _ _ _ (by decide)) rfl)))⟩, (Eq.trans (x_up_k _ _ _ (by decide)) (Eq.trans (x_up_k _ _ _ (by decide)) (x_up_s _ _ _ _))), (Eq.trans (x_up_k _ _ _ (by decide)) (x_up_s _ _ _ _)), (x_up_s _ _ _ _)⟩⟩)
set_option maxRecDepth 100000 in
set_option maxHeartbeats 4000000 in
theorem gw_X2_copy {q : Nat} (hq : x_SH[q]? = some (.inl (2, [none, none, none, none, none]))) {o : Nat} (ho : x_SH[o]? = some (.inl (2, [none, none, none, none, none]))) (hoq : o ≠ q) {l : Launch} {G : xG} {M : xM} {J : xJ} : x_M l G fX2_copy 1 0 0 [.ref (q), .ref (o)] x_SH M J (qKV (fun p _ => p = q) M J (fun M2 => (M2 q 0 = M o 0 ∧ M2 q 1 = M o 1) ∧ M2 q 2 = M o 2 ∧ M2 q 3 = M o 3 ∧ M2 q 4 = M o 4)) := by
  refine xb_of pX2 (Nat.le_of_ble_eq_true rfl) rfl ?_
  refine xr_aload_n dX2_copy_0 0 rfl ?_
  refine xr_aload_n dX2_copy_1 1 rfl ?_
  refine xb_get (v := (M o 0)) flX2_9 dX2_copy_2 ho rfl rfl ?_
  refine xr_putI fpX2_9 dX2_copy_5 hq rfl rfl rfl ?_
  refine xr_aload_n dX2_copy_8 0 rfl ?_
  refine xr_aload_n dX2_copy_9 1 rfl ?_
  refine xb_get (v := (M o 1)) flX2_15 dX2_copy_10 ho rfl (Eq.trans (congrFun (x_up_n _ _ _ hoq) _) rfl) ?_
  refine xr_putI fpX2_15 dX2_copy_13 hq rfl rfl rfl ?_
  refine xr_aload_n dX2_copy_16 0 rfl ?_
  refine xr_aload_n dX2_copy_17 1 rfl ?_
  refine xr_callV (As := [.ref (o)]) (rest := []) mlX2_18 (gw_X2_copyWay hq ho hoq) dX2_copy_18 hq rfl rfl (Nat.le_of_ble_eq_true rfl) (by decide) ⟨by decide, by decide⟩ (fun v s2 M2 J2 hq => ?_)
  obtain ⟨rfl, rfl, rfl, k3, hx1⟩ := hq
  try dsimp only [Option.toList, List.cons_append, List.nil_append]
  exact xr_vret dX2_copy_21 rfl (⟨rfl, rfl, rfl, (Ke.tr (fun _ _ h => h) (Ke.up rfl (Ke.up rfl Ke.rf)) k3), ⟨⟨(hx1.1.1.trans (Eq.trans (x_up_k _ _ _ (by decide)) (x_up_s _ _ _ _))), (hx1.1.2.trans (x_up_s _ _ _ _))⟩, (hx1.2.1.trans (Eq.trans (congrFun (x_up_n _ _ _ hoq) _) (Eq.trans (congrFun (x_up_n _ _ _ hoq) _) rfl))), (hx1.2.2.1.trans (Eq.trans (congrFun (x_up_n _ _ _ hoq) _) (Eq.trans (congrFun (x_up_n _ _ _ hoq) _) rfl))), (hx1.2.2.2.trans (Eq.trans (congrFun (x_up_n _ _ _ hoq) _) (Eq.trans (congrFun (x_up_n _ _ _ hoq) _) rfl)))⟩⟩)
set_option maxRecDepth 100000 in
set_option maxHeartbeats 4000000 in
theorem cpx_20 {D : xM} {cn : Nat} (h_cn : cn ≤ 5) {l : Launch} {G : xG} {M : xM} {J : xJ} {Q : xQ} (e_cn : M 13 2 = nI cn) (hA : AbC 15 cn M D) (hC : ∀ (M2 : xM), Ke W20h M M2 → (AbC 22 cn M2 D) → x_X l G fX5_copy 2 0 0 Q 31 [(1, .ref (13)), (0, .ref (20))] [] x_SH M2 J 0 0) : ∀ (m k : Nat) (M1 : xM), k + m = cn → Ke W20h M M1 → (AbC 22 k M1 D) → x_X l G fX5_copy 2 0 0 Q 2 [(2, .int (nI (k))), (1, .ref (13)), (0, .ref (20))] [] x_SH M1 J 0 0 := by
  intro m
  induction m with
  | zero =>
    intro k M1 hk hM hI
    refine xr_iload_n dX5_copy_2 0 rfl ?_
    refine xr_aload_n dX5_copy_3 1 rfl ?_
    refine xb_get (v := nI (cn)) flX5_35 dX5_copy_4 s_13 rfl (Eq.trans (hM 13 2 (by decide)) e_cn) ?_
    refine xr_icmp_ge (tgt := 31) dX5_copy_7 rfl (fun _ => ?_) (fun c => absurd (nI_le (a := cn) (b := k) (by omega) (by omega)) c)
    refine xb_ls (ls2 := [(1, .ref (13)), (0, .ref (20))]) [1, 2] rfl ?_
    exact hC _ hM (by obtain rfl : k = cn := (by omega); exact hI)
  | succ m ih =>
    intro k M1 hk hM hI
    have hkN : k < cn := by omega
    refine xr_iload_n dX5_copy_2 0 rfl ?_
    refine xr_aload_n dX5_copy_3 1 rfl ?_
    refine xb_get (v := nI (cn)) flX5_35 dX5_copy_4 s_13 rfl (Eq.trans (hM 13 2 (by decide)) e_cn) ?_
    refine xr_icmp_ge (tgt := 31) dX5_copy_7 rfl (fun c => absurd c (nI_ge (a := k) (b := cn) (by omega) (by omega))) (fun _ => ?_)
    refine xr_aload_n dX5_copy_10 2 rfl ?_
    refine xr_getR flX5_17 dX5_copy_11 s_20 rfl ?_
    refine xr_iload_n dX5_copy_14 0 rfl ?_
    refine xb_aald (j := k) (q := 22 + k) (by decide) dX5_copy_15 s_21 (by omega) (by decide) (if_pos (by omega)) ?_
    refine xr_aload_n dX5_copy_16 1 rfl ?_
    refine xr_getR flX5_17 dX5_copy_17 s_13 rfl ?_
    refine xr_iload_n dX5_copy_20 0 rfl ?_
    refine xb_aald (j := k) (q := 15 + k) (by decide) dX5_copy_21 s_14 (by omega) (by decide) (if_pos (by omega)) ?_
    refine xr_callV (As := [.ref (15 + k)]) (rest := []) mlX5_38 (gw_X2_copy (s_hp22 (by omega)) (s_hp15 (by omega)) (by omega)) dX5_copy_22 (s_hp22 (by omega)) rfl rfl (Nat.le_of_ble_eq_true rfl) (by decide) ⟨by decide, by decide⟩ (fun v s2 M2 J2 hq => ?_)
    obtain ⟨rfl, rfl, rfl, k3, hx1⟩ := hq
    try dsimp only [Option.toList, List.cons_append, List.nil_append]
    refine xr_iinc (v := nI (k + 1)) (ls2 := [(2, .int (nI (k + 1))), (1, .ref (13)), (0, .ref (20))]) dX5_copy_25 0 rfl (nI_1 _) (by decide) rfl ?_
    refine xr_goto (tgt := 2) dX5_copy_28 rfl ?_
    refine xb_ls (ls2 := [(2, .int (nI (k + 1))), (1, .ref (13)), (0, .ref (20))]) [0, 1, 2] rfl ?_
    exact ih (k + 1) M2 (by omega) (Ke.tr (fun pp kk hh => by have h2 : pp = 22 + k := hh; unfold W20h; omega) hM k3) (AbC_cp hI hA (by omega) k3 (fun j hj => by
      have e : M1 (15 + k) j = M (15 + k) j := hM (15 + k) j (by unfold W20h; omega)
      match j, hj with
      | 0, _ => exact hx1.1.1.trans e
      | 1, _ => exact hx1.1.2.trans e
      | 2, _ => exact hx1.2.1.trans e
      | 3, _ => exact hx1.2.2.1.trans e
      | 4, _ => exact hx1.2.2.2.trans e))
set_option maxRecDepth 100000 in
set_option maxHeartbeats 4000000 in
theorem gw_X5_copy_20 {D : xM} {cn : Nat} (h_cn : cn ≤ 5) {l : Launch} {G : xG} {M : xM} {J : xJ} (e_cn : M 13 2 = nI cn) (hA : AbC 15 cn M D) : x_M l G fX5_copy 2 0 0 [.ref (20), .ref (13)] x_SH M J (qKV W20c M J (fun M2 => M2 20 2 = nI cn ∧ AbC 22 cn M2 D ∧ M2 20 3 = M 13 3 ∧ M2 20 4 = M 13 4 ∧ M2 20 5 = M 13 5 ∧ M2 20 6 = M 13 6 ∧ M2 20 7 = M 13 7 ∧ M2 20 8 = M 13 8 ∧ M2 20 9 = M 13 9)) := by
  refine xb_of pX5 (Nat.le_of_ble_eq_true rfl) rfl ?_
  refine xr_iconst (v := 0) dX5_copy_0 rfl ?_
  refine xr_istore_n (ls2 := [(2, .int (0)), (0, .ref (20)), (1, .ref (13))]) dX5_copy_1 (by decide) rfl ?_
  refine xb_ls (ls2 := [(2, .int (nI (0))), (1, .ref (13)), (0, .ref (20))]) [0, 2, 1] rfl ?_
  refine cpx_20 h_cn e_cn hA (fun M1 k2 hI => ?_) (cn - 0) 0 M (by omega) Ke.rf (fun i hi => absurd hi (Nat.not_lt_zero i))
  refine xr_aload_n dX5_copy_31 1 rfl ?_
  refine xr_aload_n dX5_copy_32 0 rfl ?_
  refine xb_get (v := nI (cn)) flX5_35 dX5_copy_33 s_13 rfl (Eq.trans (k2 13 2 (by decide)) e_cn) ?_
  refine xr_putI fpX5_35 dX5_copy_36 s_20 rfl rfl rfl ?_
  refine xr_aload_n dX5_copy_39 1 rfl ?_
  refine xr_aload_n dX5_copy_40 0 rfl ?_
  refine xb_get (v := (M 13 3)) flX5_42 dX5_copy_41 s_13 rfl (Eq.trans (congrFun (x_up_n _ _ _ (by decide)) _) (Eq.trans (k2 13 3 (by decide)) rfl)) ?_
  refine xr_putI fpX5_42 dX5_copy_44 s_20 rfl rfl rfl ?_
  refine xr_aload_n dX5_copy_47 1 rfl ?_
  refine xr_aload_n dX5_copy_48 0 rfl ?_
  refine xb_get (v := (M 13 4)) flX5_22 dX5_copy_49 s_13 rfl (Eq.trans (congrFun (x_up_n _ _ _ (by decide)) _) (Eq.trans (congrFun (x_up_n _ _ _ (by decide)) _) (Eq.trans (k2 13 4 (by decide)) rfl))) ?_
  refine xr_putI fpX5_22 dX5_copy_52 s_20 rfl rfl rfl ?_
  refine xr_aload_n dX5_copy_55 1 rfl ?_
  refine xr_aload_n dX5_copy_56 0 rfl ?_
  refine xb_get (v := (M 13 5)) flX5_26 dX5_copy_57 s_13 rfl (Eq.trans (congrFun (x_up_n _ _ _ (by decide)) _) (Eq.trans (congrFun (x_up_n _ _ _ (by decide)) _) (Eq.trans (congrFun (x_up_n _ _ _ (by decide)) _) (Eq.trans (k2 13 5 (by decide)) rfl)))) ?_
  refine xr_putI fpX5_26 dX5_copy_60 s_20 rfl rfl rfl ?_
  refine xr_aload_n dX5_copy_63 1 rfl ?_
  refine xr_aload_n dX5_copy_64 0 rfl ?_
  refine xb_get (v := (M 13 6)) flX5_45 dX5_copy_65 s_13 rfl (Eq.trans (congrFun (x_up_n _ _ _ (by decide)) _) (Eq.trans (congrFun (x_up_n _ _ _ (by decide)) _) (Eq.trans (congrFun (x_up_n _ _ _ (by decide)) _) (Eq.trans (congrFun (x_up_n _ _ _ (by decide)) _) (Eq.trans (k2 13 6 (by decide)) rfl))))) ?_
  refine xr_putI fpX5_45 dX5_copy_68 s_20 rfl rfl rfl ?_
  refine xr_aload_n dX5_copy_71 1 rfl ?_
  refine xr_aload_n dX5_copy_72 0 rfl ?_
  refine xb_get (v := (M 13 7)) flX5_29 dX5_copy_73 s_13 rfl (Eq.trans (congrFun (x_up_n _ _ _ (by decide)) _) (Eq.trans (congrFun (x_up_n _ _ _ (by decide)) _) (Eq.trans (congrFun (x_up_n _ _ _ (by decide)) _) (Eq.trans (congrFun (x_up_n _ _ _ (by decide)) _) (Eq.trans (congrFun (x_up_n _ _ _ (by decide)) _) (Eq.trans (k2 13 7 (by decide)) rfl)))))) ?_
  refine xr_putI fpX5_29 dX5_copy_76 s_20 rfl rfl rfl ?_
  refine xr_aload_n dX5_copy_79 1 rfl ?_
  refine xr_aload_n dX5_copy_80 0 rfl ?_
  refine xb_get (v := (M 13 8)) flX5_48 dX5_copy_81 s_13 rfl (Eq.trans (congrFun (x_up_n _ _ _ (by decide)) _) (Eq.trans (congrFun (x_up_n _ _ _ (by decide)) _) (Eq.trans (congrFun (x_up_n _ _ _ (by decide)) _) (Eq.trans (congrFun (x_up_n _ _ _ (by decide)) _) (Eq.trans (congrFun (x_up_n _ _ _ (by decide)) _) (Eq.trans (congrFun (x_up_n _ _ _ (by decide)) _) (Eq.trans (k2 13 8 (by decide)) rfl))))))) ?_
  refine xr_putI fpX5_48 dX5_copy_84 s_20 rfl rfl rfl ?_
  refine xr_aload_n dX5_copy_87 1 rfl ?_
  refine xr_aload_n dX5_copy_88 0 rfl ?_
  refine xb_get (v := (M 13 9)) flX5_32 dX5_copy_89 s_13 rfl (Eq.trans (congrFun (x_up_n _ _ _ (by decide)) _) (Eq.trans (congrFun (x_up_n _ _ _ (by decide)) _) (Eq.trans (congrFun (x_up_n _ _ _ (by decide)) _) (Eq.trans (congrFun (x_up_n _ _ _ (by decide)) _) (Eq.trans (congrFun (x_up_n _ _ _ (by decide)) _) (Eq.trans (congrFun (x_up_n _ _ _ (by decide)) _) (Eq.trans (congrFun (x_up_n _ _ _ (by decide)) _) (Eq.trans (k2 13 9 (by decide)) rfl)))))))) ?_
  refine xr_putI fpX5_32 dX5_copy_92 s_20 rfl rfl rfl ?_
  exact xr_vret dX5_copy_95 rfl (⟨rfl, rfl, rfl, (Ke.up (Or.inl (by omega)) (Ke.up (Or.inl (by omega)) (Ke.up (Or.inl (by omega)) (Ke.up (Or.inl (by omega)) (Ke.up (Or.inl (by omega)) (Ke.up (Or.inl (by omega)) (Ke.up (Or.inl (by omega)) (Ke.up (Or.inl (by omega)) (Ke.tr (fun pp kk h => (Or.inr h)) Ke.rf k2))))))))), ⟨(Eq.trans (x_up_k _ _ _ (by decide)) (Eq.trans (x_up_k _ _ _ (by decide)) (Eq.trans (x_up_k _ _ _ (by decide)) (Eq.trans (x_up_k _ _ _ (by decide)) (Eq.trans (x_up_k _ _ _ (by decide)) (Eq.trans (x_up_k _ _ _ (by decide)) (Eq.trans (x_up_k _ _ _ (by decide)) (x_up_s _ _ _ _)))))))), (AbC_n (AbC_n (AbC_n (AbC_n (AbC_n (AbC_n (AbC_n (AbC_n hI (Or.inl (by decide))) (Or.inl (by decide))) (Or.inl (by decide))) (Or.inl (by decide))) (Or.inl (by decide))) (Or.inl (by decide))) (Or.inl (by decide))) (Or.inl (by decide))), (Eq.trans (x_up_k _ _ _ (by decide)) (Eq.trans (x_up_k _ _ _ (by decide)) (Eq.trans (x_up_k _ _ _ (by decide)) (Eq.trans (x_up_k _ _ _ (by decide)) (Eq.trans (x_up_k _ _ _ (by decide)) (Eq.trans (x_up_k _ _ _ (by decide)) (x_up_s _ _ _ _))))))), (Eq.trans (x_up_k _ _ _ (by decide)) (Eq.trans (x_up_k _ _ _ (by decide)) (Eq.trans (x_up_k _ _ _ (by decide)) (Eq.trans (x_up_k _ _ _ (by decide)) (Eq.trans (x_up_k _ _ _ (by decide)) (x_up_s _ _ _ _)))))), (Eq.trans (x_up_k _ _ _ (by decide)) (Eq.trans (x_up_k _ _ _ (by decide)) (Eq.trans (x_up_k _ _ _ (by decide)) (Eq.trans (x_up_k _ _ _ (by decide)) (x_up_s _ _ _ _))))), (Eq.trans (x_up_k _ _ _ (by decide)) (Eq.trans (x_up_k _ _ _ (by decide)) (Eq.trans (x_up_k _ _ _ (by decide)) (x_up_s _ _ _ _)))), (Eq.trans (x_up_k _ _ _ (by decide)) (Eq.trans (x_up_k _ _ _ (by decide)) (x_up_s _ _ _ _))), (Eq.trans (x_up_k _ _ _ (by decide)) (x_up_s _ _ _ _)), (x_up_s _ _ _ _)⟩⟩)
set_option maxRecDepth 100000 in
set_option maxHeartbeats 4000000 in
theorem bkx {D D0 : xM} {cn cm : Nat} (h_cn : cn ≤ 5) (hcm : cm ≤ cn) {l : Launch} {G : xG} {M : xM} {J : xJ} {Q : xQ} (e_cn : M 13 2 = nI cn) (e_cm : M 20 2 = nI cm) (hB : AbC 22 cm M D0) (hC : ∀ (M2 : xM), Ke W13h M M2 → (AbC 15 cn M2 (bkD cm D0 D)) → x_X l G fX5_layBack 1 0 0 Q 39 [(1, .ref (20)), (0, .ref (13))] [] x_SH M2 J 0 0) : ∀ (m k : Nat) (M1 : xM), k + m = cm → Ke W13h M M1 → (AbC 15 cn M1 (bkD k D0 D)) → x_X l G fX5_layBack 1 0 0 Q 2 [(2, .int (nI (k))), (1, .ref (20)), (0, .ref (13))] [] x_SH M1 J 0 0 := by
  intro m
  induction m with
  | zero =>
    intro k M1 hk hM hI
    refine xr_iload_n dX5_layBack_2 0 rfl ?_
    refine xr_aload_n dX5_layBack_3 1 rfl ?_
    refine xb_get (v := nI (cm)) flX5_35 dX5_layBack_4 s_20 rfl (Eq.trans (hM 20 2 (by decide)) e_cm) ?_
    refine xr_icmp_ge (tgt := 39) dX5_layBack_7 rfl (fun _ => ?_) (fun c => absurd (nI_le (a := cm) (b := k) (by omega) (by omega)) c)
    refine xb_ls (ls2 := [(1, .ref (20)), (0, .ref (13))]) [1, 2] rfl ?_
    exact hC _ hM (by obtain rfl : k = cm := (by omega); exact hI)
  | succ m ih =>
    intro k M1 hk hM hI
    have hkN : k < cm := by omega
    refine xr_iload_n dX5_layBack_2 0 rfl ?_
    refine xr_aload_n dX5_layBack_3 1 rfl ?_
    refine xb_get (v := nI (cm)) flX5_35 dX5_layBack_4 s_20 rfl (Eq.trans (hM 20 2 (by decide)) e_cm) ?_
    refine xr_icmp_ge (tgt := 39) dX5_layBack_7 rfl (fun c => absurd c (nI_ge (a := k) (b := cm) (by omega) (by omega))) (fun _ => ?_)
    refine xr_iload_n dX5_layBack_10 0 rfl ?_
    refine xr_aload_n dX5_layBack_11 2 rfl ?_
    refine xb_get (v := nI (cn)) flX5_35 dX5_layBack_12 s_13 rfl (Eq.trans (hM 13 2 (by decide)) e_cn) ?_
    refine xr_icmp_ge (tgt := 39) dX5_layBack_15 rfl (fun c => absurd c (nI_ge (a := k) (b := cn) (by omega) (by omega))) (fun _ => ?_)
    refine xr_aload_n dX5_layBack_18 2 rfl ?_
    refine xr_getR flX5_17 dX5_layBack_19 s_13 rfl ?_
    refine xr_iload_n dX5_layBack_22 0 rfl ?_
    refine xb_aald (j := k) (q := 15 + k) (by decide) dX5_layBack_23 s_14 (by omega) (by decide) (if_pos (by omega)) ?_
    refine xr_aload_n dX5_layBack_24 1 rfl ?_
    refine xr_getR flX5_17 dX5_layBack_25 s_20 rfl ?_
    refine xr_iload_n dX5_layBack_28 0 rfl ?_
    refine xb_aald (j := k) (q := 22 + k) (by decide) dX5_layBack_29 s_21 (by omega) (by decide) (if_pos (by omega)) ?_
    refine xr_callV (As := [.ref (22 + k)]) (rest := []) mlX5_51 (gw_X2_copyWay (s_hp15 (by omega)) (s_hp22 (by omega)) (by omega)) dX5_layBack_30 (s_hp15 (by omega)) rfl rfl (Nat.le_of_ble_eq_true rfl) (by decide) ⟨by decide, by decide⟩ (fun v s2 M2 J2 hq => ?_)
    obtain ⟨rfl, rfl, rfl, k3, hx1⟩ := hq
    try dsimp only [Option.toList, List.cons_append, List.nil_append]
    refine xr_iinc (v := nI (k + 1)) (ls2 := [(2, .int (nI (k + 1))), (1, .ref (20)), (0, .ref (13))]) dX5_layBack_33 0 rfl (nI_1 _) (by decide) rfl ?_
    refine xr_goto (tgt := 2) dX5_layBack_36 rfl ?_
    refine xb_ls (ls2 := [(2, .int (nI (k + 1))), (1, .ref (20)), (0, .ref (13))]) [0, 1, 2] rfl ?_
    exact ih (k + 1) M2 (by omega) (Ke.tr (fun pp kk hh => by have h2 : pp = 15 + k := hh; unfold W13h; omega) hM k3) (AbC_bk hI (by omega) k3 hx1.1.1 hx1.1.2 (hx1.2.1.trans ((hM (22 + k) 2 (by unfold W13h; omega)).trans (hB k (by omega) 2 (by decide)))) (hx1.2.2.1.trans ((hM (22 + k) 3 (by unfold W13h; omega)).trans (hB k (by omega) 3 (by decide)))) (hx1.2.2.2.trans ((hM (22 + k) 4 (by unfold W13h; omega)).trans (hB k (by omega) 4 (by decide)))))
set_option maxRecDepth 100000 in
set_option maxHeartbeats 4000000 in
theorem gw_X5_layBack {D D0 : xM} {cn cm : Nat} (h_cn : cn ≤ 5) (hcm : cm ≤ cn) {l : Launch} {G : xG} {M : xM} {J : xJ} (e_cn : M 13 2 = nI cn) (e_cm : M 20 2 = nI cm) (hA : AbC 15 cn M D) (hB : AbC 22 cm M D0) : x_M l G fX5_layBack 1 0 0 [.ref (13), .ref (20)] x_SH M J (qKV W13b M J (fun M2 => AbC 15 cn M2 (bkD cm D0 D) ∧ M2 13 3 = M 20 3 ∧ M2 13 8 = M 20 8 ∧ M2 13 9 = M 20 9)) := by
  refine xb_of pX5 (Nat.le_of_ble_eq_true rfl) rfl ?_
  refine xr_iconst (v := 0) dX5_layBack_0 rfl ?_
  refine xr_istore_n (ls2 := [(2, .int (0)), (0, .ref (13)), (1, .ref (20))]) dX5_layBack_1 (by decide) rfl ?_
  refine xb_ls (ls2 := [(2, .int (nI (0))), (1, .ref (20)), (0, .ref (13))]) [0, 2, 1] rfl ?_
  refine bkx h_cn hcm e_cn e_cm hB (fun M1 k2 hI => ?_) (cm - 0) 0 M (by omega) Ke.rf (by rw [bkD_0]; exact hA)
  refine xr_aload_n dX5_layBack_39 1 rfl ?_
  refine xr_aload_n dX5_layBack_40 0 rfl ?_
  refine xb_get (v := (M 20 3)) flX5_42 dX5_layBack_41 s_20 rfl (Eq.trans (k2 20 3 (by decide)) rfl) ?_
  refine xr_putI fpX5_42 dX5_layBack_44 s_13 rfl rfl rfl ?_
  refine xr_aload_n dX5_layBack_47 1 rfl ?_
  refine xr_aload_n dX5_layBack_48 0 rfl ?_
  refine xb_get (v := (M 20 8)) flX5_48 dX5_layBack_49 s_20 rfl (Eq.trans (congrFun (x_up_n _ _ _ (by decide)) _) (Eq.trans (k2 20 8 (by decide)) rfl)) ?_
  refine xr_putI fpX5_48 dX5_layBack_52 s_13 rfl rfl rfl ?_
  refine xr_aload_n dX5_layBack_55 1 rfl ?_
  refine xr_aload_n dX5_layBack_56 0 rfl ?_
  refine xb_get (v := (M 20 9)) flX5_32 dX5_layBack_57 s_20 rfl (Eq.trans (congrFun (x_up_n _ _ _ (by decide)) _) (Eq.trans (congrFun (x_up_n _ _ _ (by decide)) _) (Eq.trans (k2 20 9 (by decide)) rfl))) ?_
  refine xr_putI fpX5_32 dX5_layBack_60 s_13 rfl rfl rfl ?_
  exact xr_vret dX5_layBack_63 rfl (⟨rfl, rfl, rfl, (Ke.up (Or.inr (Or.inr (Or.inl (by omega)))) (Ke.up (Or.inr (Or.inl (by omega))) (Ke.up (Or.inl (by omega)) (Ke.tr (fun pp kk h => (Or.inr (Or.inr (Or.inr h)))) Ke.rf k2)))), ⟨(AbC_n (AbC_n (AbC_n hI (Or.inl (by decide))) (Or.inl (by decide))) (Or.inl (by decide))), (Eq.trans (x_up_k _ _ _ (by decide)) (Eq.trans (x_up_k _ _ _ (by decide)) (x_up_s _ _ _ _))), (Eq.trans (x_up_k _ _ _ (by decide)) (x_up_s _ _ _ _)), (x_up_s _ _ _ _)⟩⟩)
set_option maxRecDepth 100000 in
set_option maxHeartbeats 4000000 in
theorem gx_X9_image {nh : Nat} {D : xM} {t : Option zL} {S : Nat → Int32} {l : Launch} {G : xG} {M : xM} {J : xJ} (hI : InvC M) (hWG : WG nh D S) (hG : CG M nh D t S) : x_M l G fX9_image 3 0 0 [.ref (0)] x_SH M J (qKI WIM M J (fun r M2 => InvC M2 ∧ (r = S 0 ∧ CG M2 nh D t S ∧ CK M2 nh D (kS S) ∧ M2 0 9 = 1))) := by
  refine xb_of pX9 (Nat.le_of_ble_eq_true rfl) rfl ?_
  obtain ⟨⟨cn, h_cn, e_cn⟩, ⟨cm, h_cm, e_cm⟩, ⟨L, h_L, e_L⟩, hv, hD, ⟨n, h_n, e_n⟩, ⟨un, wn, h_uw, h_wn, e_un, e_wn⟩, ⟨b, h_b, e_b⟩, hkd, ⟨ra, h_ra, e_ra⟩, hsl, hS⟩ := hI
  obtain ⟨hn5, hW, hrub, hbeat⟩ := hWG
  obtain ⟨hGn, hA, hL, e_nw, e_rub, e_bt, e_ph, e_st, e_kn, e_pu, e_lf⟩ := hG
  obtain rfl : nh = cn := (nI_eq (by omega) (by omega)).mp (hGn.symm.trans e_cn)
  have hbt : ¬ S 2 = 0 := ne2_0 hbeat.1
  refine xr_aload_n dX9_image_0 0 rfl ?_
  refine xr_getR flX9_32 dX9_image_1 s_0 rfl ?_
  refine xr_aload_n dX9_image_4 0 rfl ?_
  refine xr_getR flX9_28 dX9_image_5 s_0 rfl ?_
  refine xr_callV (As := [.ref (13)]) (rest := []) mlX9_300 (gw_X5_copy_20 (D := D) (cn := nh) hn5 e_cn hA) dX9_image_8 s_20 rfl rfl (Nat.le_of_ble_eq_true rfl) (by decide) ⟨by decide, by decide⟩ (fun v s2 M2 J2 hq => ?_)
  obtain ⟨rfl, rfl, rfl, k3, hx1⟩ := hq
  try dsimp only [Option.toList, List.cons_append, List.nil_append]
  refine xr_aload_n dX9_image_11 0 rfl ?_
  refine xr_iconst (v := 1) dX9_image_12 rfl ?_
  refine xr_putI fpX9_72 dX9_image_13 s_0 rfl rfl rfl ?_
  refine xr_aload_n dX9_image_16 0 rfl ?_
  refine xr_getR flX9_28 dX9_image_17 s_0 rfl ?_
  refine xb_get (v := (S 0)) flX9_303 dX9_image_20 s_13 rfl (Eq.trans (congrFun (x_up_n _ _ _ (by decide)) _) (Eq.trans (k3 13 3 (by decide)) e_nw)) ?_
  exact xr_iret dX9_image_23 rfl rfl (⟨_, rfl, rfl, rfl, (Ke.up (Or.inl (by omega)) (Ke.tr (fun pp kk => (fun hh => Or.elim hh (fun h => (Or.inr (Or.inl h))) (fun h => (Or.inr (Or.inr h))))) Ke.rf k3)), ⟨⟨⟨nh, by omega, (Eq.trans (congrFun (x_up_n _ _ _ (by decide)) _) (Eq.trans (k3 13 2 (by decide)) e_cn))⟩, ⟨nh, by omega, (Eq.trans (congrFun (x_up_n _ _ _ (by decide)) _) hx1.1)⟩, ⟨L, by omega, (Eq.trans (congrFun (x_up_n _ _ _ (by decide)) _) (Eq.trans (k3 1 4 (by decide)) e_L))⟩, (fun kk hkk => by rw [show (x_up M2 0 9 1) 3 kk = M 3 kk from (Eq.trans (congrFun (x_up_n _ _ _ (by omega)) _) (Eq.trans (k3 3 kk (by unfold W20c; omega)) rfl))]; exact hv kk hkk), (DI_up (by decide) (DI_ke (by intro k; unfold W20c; omega) k3 hD)), ⟨n, by omega, (Eq.trans (congrFun (x_up_n _ _ _ (by decide)) _) (Eq.trans (k3 6 2 (by decide)) e_n))⟩, ⟨un, wn, by omega, by omega, (Eq.trans (congrFun (x_up_n _ _ _ (by decide)) _) (Eq.trans (k3 41 4 (by decide)) e_un)), (Eq.trans (congrFun (x_up_n _ _ _ (by decide)) _) (Eq.trans (k3 41 5 (by decide)) e_wn))⟩, ⟨b, by omega, (Eq.trans (congrFun (x_up_n _ _ _ (by decide)) _) (Eq.trans (k3 46 2 (by decide)) e_b))⟩, (fun j hj => by obtain ⟨q, hq, eq⟩ := hkd j hj; exact ⟨q, hq, (show (x_up M2 0 9 1) 47 j = M 47 j from (Eq.trans (congrFun (x_up_n _ _ _ (by omega)) _) (Eq.trans (k3 47 j (by unfold W20c; omega)) rfl))).trans eq⟩), ⟨ra, by omega, (Eq.trans (congrFun (x_up_n _ _ _ (by decide)) _) (Eq.trans (k3 46 3 (by decide)) e_ra))⟩, (fun j hj => by obtain ⟨s, hs, es⟩ := hsl j hj; exact ⟨s, hs, (show (x_up M2 0 9 1) (50 + 2 * j) 3 = M (50 + 2 * j) 3 from (Eq.trans (congrFun (x_up_n _ _ _ (by omega)) _) (Eq.trans (k3 (50 + 2 * j) 3 (by unfold W20c; omega)) rfl))).trans es⟩), (fun j hj => by obtain ⟨q, hq, eq⟩ := hS j hj; exact ⟨q, hq, (show (x_up M2 0 9 1) 36 j = M 36 j from (Eq.trans (congrFun (x_up_n _ _ _ (by omega)) _) (Eq.trans (k3 36 j (by unfold W20c; omega)) rfl))).trans eq⟩)⟩, ⟨rfl, ⟨(Eq.trans (congrFun (x_up_n _ _ _ (by decide)) _) (Eq.trans (k3 13 2 (by decide)) e_cn)), (AbC_n (AbC_k hA (fun i hi j => k3 (15 + i) j (by unfold W20c; omega))) (Or.inl (by decide))), (LCt_k (Eq.trans (congrFun (x_up_n _ _ _ (by omega)) _) (Eq.trans (k3 1 4 (by unfold W20c; omega)) rfl)) (fun kl => (Eq.trans (congrFun (x_up_n _ _ _ (by omega)) _) (Eq.trans (k3 2 kl (by unfold W20c; omega)) rfl))) (fun kl => (Eq.trans (congrFun (x_up_n _ _ _ (by omega)) _) (Eq.trans (k3 3 kl (by unfold W20c; omega)) rfl))) hL), (Eq.trans (congrFun (x_up_n _ _ _ (by decide)) _) (Eq.trans (k3 13 3 (by decide)) e_nw)), (Eq.trans (congrFun (x_up_n _ _ _ (by decide)) _) (Eq.trans (k3 13 4 (by decide)) e_rub)), (Eq.trans (congrFun (x_up_n _ _ _ (by decide)) _) (Eq.trans (k3 13 5 (by decide)) e_bt)), (Eq.trans (congrFun (x_up_n _ _ _ (by decide)) _) (Eq.trans (k3 13 6 (by decide)) e_ph)), (Eq.trans (congrFun (x_up_n _ _ _ (by decide)) _) (Eq.trans (k3 13 7 (by decide)) e_st)), (Eq.trans (congrFun (x_up_n _ _ _ (by decide)) _) (Eq.trans (k3 35 5 (by decide)) e_kn)), (Eq.trans (congrFun (x_up_n _ _ _ (by decide)) _) (Eq.trans (k3 13 8 (by decide)) e_pu)), (Eq.trans (congrFun (x_up_n _ _ _ (by decide)) _) (Eq.trans (k3 13 9 (by decide)) e_lf))⟩, ⟨(up_n (by decide)).trans hx1.1, AbC_n hx1.2.1 (Or.inl (by decide)), (up_n (by decide)).trans (hx1.2.2.1.trans e_nw), (up_n (by decide)).trans (hx1.2.2.2.2.2.2.2.1.trans e_pu), (up_n (by decide)).trans (hx1.2.2.2.2.2.2.2.2.trans e_lf)⟩, (x_up_s _ _ _ _)⟩⟩⟩)
set_option maxRecDepth 100000 in
set_option maxHeartbeats 4000000 in
theorem gx_X9_back {nh : Nat} {D : xM} {t : Option zL} {S : Nat → Int32} {n0 : Nat} {D0 : xM} {U : Nat → Int32} {l : Launch} {G : xG} {M : xM} {J : xJ} (hI : InvC M) (hWG : WG nh D S) (hG : CG M nh D t S) (hK : M 0 9 = 0 ∨ n0 ≤ nh ∧ CK M n0 D0 U) : x_M l G fX9_back 2 0 0 [.ref (0)] x_SH M J (qKI W13b M J (fun r M2 => InvC M2 ∧ (EBk CG nh D t S (M 0 9) n0 D0 U M2 r))) := by
  refine xb_of pX9 (Nat.le_of_ble_eq_true rfl) rfl ?_
  obtain ⟨⟨cn, h_cn, e_cn⟩, ⟨cm, h_cm, e_cm⟩, ⟨L, h_L, e_L⟩, hv, hD, ⟨n, h_n, e_n⟩, ⟨un, wn, h_uw, h_wn, e_un, e_wn⟩, ⟨b, h_b, e_b⟩, hkd, ⟨ra, h_ra, e_ra⟩, hsl, hS⟩ := hI
  have hG0 := hG
  obtain ⟨hn5, hW, hrub, hbeat⟩ := hWG
  obtain ⟨hGn, hA, hL, e_nw, e_rub, e_bt, e_ph, e_st, e_kn, e_pu, e_lf⟩ := hG
  obtain rfl : nh = cn := (nI_eq (by omega) (by omega)).mp (hGn.symm.trans e_cn)
  have hbt : ¬ S 2 = 0 := ne2_0 hbeat.1
  refine xr_aload_n dX9_back_0 0 rfl ?_
  refine xb_get (v := (M 0 9)) flX9_72 dX9_back_1 s_0 rfl rfl ?_
  refine xr_if_ne (tgt := 10) dX9_back_4 rfl (fun c1 => ?_) (fun c1 => ?_)
  · refine xr_aload_n dX9_back_10 0 rfl ?_
    refine xr_getR flX9_28 dX9_back_11 s_0 rfl ?_
    refine xr_aload_n dX9_back_14 0 rfl ?_
    refine xr_getR flX9_32 dX9_back_15 s_0 rfl ?_
    obtain ⟨hn0, hk2, hkB, hk3, hk8, hk9⟩ := hK.resolve_left c1
    refine xr_callV (As := [.ref (20)]) (rest := []) mlX9_306 (gw_X5_layBack (D := D) (cn := nh) (cm := n0) hn5 hn0 e_cn hk2 hA hkB) dX9_back_18 s_13 rfl rfl (Nat.le_of_ble_eq_true rfl) (by decide) ⟨by decide, by decide⟩ (fun v s2 M3 J2 hq => ?_)
    obtain ⟨rfl, rfl, rfl, k4, hx2⟩ := hq
    try dsimp only [Option.toList, List.cons_append, List.nil_append]
    refine xr_aload_n dX9_back_21 0 rfl ?_
    refine xr_getR flX9_28 dX9_back_22 s_0 rfl ?_
    refine xb_get (v := (U 0)) flX9_303 dX9_back_25 s_13 rfl (hx2.2.1.trans hk3) ?_
    exact xr_iret dX9_back_28 rfl rfl (⟨_, rfl, rfl, rfl, (Ke.tr (fun _ _ h => h) Ke.rf k4), ⟨⟨⟨nh, by omega, (Eq.trans (k4 13 2 (by decide)) e_cn)⟩, ⟨cm, by omega, (Eq.trans (k4 20 2 (by decide)) e_cm)⟩, ⟨L, by omega, (Eq.trans (k4 1 4 (by decide)) e_L)⟩, (fun kk hkk => by rw [show M3 3 kk = M 3 kk from (Eq.trans (k4 3 kk (by unfold W13b; omega)) rfl)]; exact hv kk hkk), (DI_ke (by intro k; unfold W13b; omega) k4 hD), ⟨n, by omega, (Eq.trans (k4 6 2 (by decide)) e_n)⟩, ⟨un, wn, by omega, by omega, (Eq.trans (k4 41 4 (by decide)) e_un), (Eq.trans (k4 41 5 (by decide)) e_wn)⟩, ⟨b, by omega, (Eq.trans (k4 46 2 (by decide)) e_b)⟩, (fun j hj => by obtain ⟨q, hq, eq⟩ := hkd j hj; exact ⟨q, hq, (show M3 47 j = M 47 j from (Eq.trans (k4 47 j (by unfold W13b; omega)) rfl)).trans eq⟩), ⟨ra, by omega, (Eq.trans (k4 46 3 (by decide)) e_ra)⟩, (fun j hj => by obtain ⟨s, hs, es⟩ := hsl j hj; exact ⟨s, hs, (show M3 (50 + 2 * j) 3 = M (50 + 2 * j) 3 from (Eq.trans (k4 (50 + 2 * j) 3 (by unfold W13b; omega)) rfl)).trans es⟩), (fun j hj => by obtain ⟨q, hq, eq⟩ := hS j hj; exact ⟨q, hq, (show M3 36 j = M 36 j from (Eq.trans (k4 36 j (by unfold W13b; omega)) rfl)).trans eq⟩)⟩, (Or.inr ⟨c1, rfl, ⟨(Eq.trans (k4 13 2 (by decide)) e_cn), hx2.1, (LCt_k (Eq.trans (k4 1 4 (by unfold W13b; omega)) rfl) (fun kl => (Eq.trans (k4 2 kl (by unfold W13b; omega)) rfl)) (fun kl => (Eq.trans (k4 3 kl (by unfold W13b; omega)) rfl)) hL), (hx2.2.1.trans hk3), (Eq.trans (k4 13 4 (by decide)) e_rub), (Eq.trans (k4 13 5 (by decide)) e_bt), (Eq.trans (k4 13 6 (by decide)) e_ph), (Eq.trans (k4 13 7 (by decide)) e_st), (Eq.trans (k4 35 5 (by decide)) e_kn), (hx2.2.2.1.trans hk8), (hx2.2.2.2.trans hk9)⟩⟩)⟩⟩)
  · refine xr_bipush (v := -5) dX9_back_7 rfl ?_
    exact xr_iret dX9_back_9 rfl rfl (⟨_, rfl, rfl, rfl, Ke.rf, ⟨⟨⟨nh, by omega, e_cn⟩, ⟨cm, by omega, e_cm⟩, ⟨L, by omega, e_L⟩, (fun kk hkk => by rw [show M 3 kk = M 3 kk from rfl]; exact hv kk hkk), hD, ⟨n, by omega, e_n⟩, ⟨un, wn, by omega, by omega, e_un, e_wn⟩, ⟨b, by omega, e_b⟩, (fun j hj => by obtain ⟨q, hq, eq⟩ := hkd j hj; exact ⟨q, hq, (show M 47 j = M 47 j from rfl).trans eq⟩), ⟨ra, by omega, e_ra⟩, (fun j hj => by obtain ⟨s, hs, es⟩ := hsl j hj; exact ⟨s, hs, (show M (50 + 2 * j) 3 = M (50 + 2 * j) 3 from rfl).trans es⟩), (fun j hj => by obtain ⟨q, hq, eq⟩ := hS j hj; exact ⟨q, hq, (show M 36 j = M 36 j from rfl).trans eq⟩)⟩, (Or.inl ⟨c1, rfl, hG0⟩)⟩⟩)
set_option maxRecDepth 100000 in
set_option maxHeartbeats 4000000 in
theorem imx {a b c : Int32} {D : xM} {hn : Nat} (h_hn : hn ≤ 5) {l : Launch} {G : xG} {M : xM} {J : xJ} {Q : xQ} (e_hn : M 62 6 = nI hn) (hA : AbS hn M D) (hC : ∀ (M2 : xM), Ke W80 M M2 → (IKi D a b c M2 hn) → x_X l G fX10_image 0 0 0 Q 110 [(0, .ref (62))] [] x_SH M2 J 0 0) : ∀ (m k : Nat) (M1 : xM), k + m = hn → Ke W80 M M1 → (IKi D a b c M1 k) → x_X l G fX10_image 0 0 0 Q 45 [(1, .int (nI (k))), (0, .ref (62))] [] x_SH M1 J 0 0 := by
  intro m
  induction m with
  | zero =>
    intro k M1 hk hM hI
    refine xr_iload_n dX10_image_45 0 rfl ?_
    refine xr_aload_n dX10_image_46 1 rfl ?_
    refine xb_get (v := nI (hn)) flX10_109 dX10_image_47 s_62 rfl (Eq.trans (hM 62 6 (by decide)) e_hn) ?_
    refine xr_icmp_ge (tgt := 110) dX10_image_50 rfl (fun _ => ?_) (fun c => absurd (nI_le (a := hn) (b := k) (by omega) (by omega)) c)
    refine xb_ls (ls2 := [(0, .ref (62))]) [1] rfl ?_
    exact hC _ hM (by obtain rfl : k = hn := (by omega); exact hI)
  | succ m ih =>
    intro k M1 hk hM hI
    have hkN : k < hn := by omega
    refine xr_iload_n dX10_image_45 0 rfl ?_
    refine xr_aload_n dX10_image_46 1 rfl ?_
    refine xb_get (v := nI (hn)) flX10_109 dX10_image_47 s_62 rfl (Eq.trans (hM 62 6 (by decide)) e_hn) ?_
    refine xr_icmp_ge (tgt := 110) dX10_image_50 rfl (fun c => absurd c (nI_ge (a := k) (b := hn) (by omega) (by omega))) (fun _ => ?_)
    refine xr_aload_n dX10_image_53 1 rfl ?_
    refine xr_getR flX10_66 dX10_image_54 s_62 rfl ?_
    refine xr_iconst (v := 3) dX10_image_57 rfl ?_
    refine xr_iconst (v := 3) dX10_image_58 rfl ?_
    refine xr_iload_n dX10_image_59 0 rfl ?_
    refine xr_imul dX10_image_60 ?_
    refine xb_top (y := nI (3 * k)) (nI_mulc 3 k) ?_
    refine xr_iadd dX10_image_61 ?_
    refine xb_top (y := nI (3 + 3 * k)) (nI_add (3) (3 * k)) ?_
    refine xr_aload_n dX10_image_62 1 rfl ?_
    refine xr_getR flX10_22 dX10_image_63 s_62 rfl ?_
    refine xr_iload_n dX10_image_66 0 rfl ?_
    refine xb_iald (j := k) (v := (D k 2)) dX10_image_67 s_67 (by omega) (by decide) (Eq.trans (hM 67 k (by unfold W80; omega)) (hA k (by omega)).2.2.1) ?_
    refine xb_iast (j := 3 + 3 * k) dX10_image_68 s_80 (by omega) (by decide) ?_
    refine xr_aload_n dX10_image_69 1 rfl ?_
    refine xr_getR flX10_66 dX10_image_70 s_62 rfl ?_
    refine xr_iconst (v := 4) dX10_image_73 rfl ?_
    refine xr_iconst (v := 3) dX10_image_74 rfl ?_
    refine xr_iload_n dX10_image_75 0 rfl ?_
    refine xr_imul dX10_image_76 ?_
    refine xb_top (y := nI (3 * k)) (nI_mulc 3 k) ?_
    refine xr_iadd dX10_image_77 ?_
    refine xb_top (y := nI (4 + 3 * k)) (nI_add (4) (3 * k)) ?_
    refine xr_aload_n dX10_image_78 1 rfl ?_
    refine xr_getR flX10_9 dX10_image_79 s_62 rfl ?_
    refine xr_bipush (v := 10) dX10_image_82 rfl ?_
    refine xr_iload_n dX10_image_84 0 rfl ?_
    refine xr_iadd dX10_image_85 ?_
    refine xb_top (y := nI (10 + k)) (nI_add (10) (k)) ?_
    refine xb_iald (j := 10 + k) (v := (D k 3)) dX10_image_86 s_63 (by omega) (by decide) (Eq.trans (congrFun (x_up_n _ _ _ (by decide)) _) (Eq.trans (hM 63 (10 + k) (by unfold W80; omega)) (hA k (by omega)).2.2.2.1)) ?_
    refine xb_iast (j := 4 + 3 * k) dX10_image_87 s_80 (by omega) (by decide) ?_
    refine xr_aload_n dX10_image_88 1 rfl ?_
    refine xr_getR flX10_66 dX10_image_89 s_62 rfl ?_
    refine xr_iconst (v := 5) dX10_image_92 rfl ?_
    refine xr_iconst (v := 3) dX10_image_93 rfl ?_
    refine xr_iload_n dX10_image_94 0 rfl ?_
    refine xr_imul dX10_image_95 ?_
    refine xb_top (y := nI (3 * k)) (nI_mulc 3 k) ?_
    refine xr_iadd dX10_image_96 ?_
    refine xb_top (y := nI (5 + 3 * k)) (nI_add (5) (3 * k)) ?_
    refine xr_aload_n dX10_image_97 1 rfl ?_
    refine xr_getR flX10_25 dX10_image_98 s_62 rfl ?_
    refine xr_iload_n dX10_image_101 0 rfl ?_
    refine xb_iald (j := k) (v := (D k 4)) dX10_image_102 s_68 (by omega) (by decide) (Eq.trans (congrFun (x_up_n _ _ _ (by decide)) _) (Eq.trans (congrFun (x_up_n _ _ _ (by decide)) _) (Eq.trans (hM 68 k (by unfold W80; omega)) (hA k (by omega)).2.2.2.2))) ?_
    refine xb_iast (j := 5 + 3 * k) dX10_image_103 s_80 (by omega) (by decide) ?_
    refine xr_iinc (v := nI (k + 1)) (ls2 := [(1, .int (nI (k + 1))), (0, .ref (62))]) dX10_image_104 0 rfl (nI_1 _) (by decide) rfl ?_
    refine xr_goto (tgt := 45) dX10_image_107 rfl ?_
    refine xb_ls (ls2 := [(1, .int (nI (k + 1))), (0, .ref (62))]) [0, 1] rfl ?_
    exact ih (k + 1) (x_up (x_up (x_up M1 80 (3 + 3 * k) (D k 2)) 80 (4 + 3 * k) (D k 3)) 80 (5 + 3 * k) (D k 4)) (by omega) (Ke.up (by omega) (Ke.up (by omega) (Ke.up (by omega) hM))) (IKi_s hI rfl rfl rfl)
set_option maxRecDepth 100000 in
set_option maxHeartbeats 4000000 in
theorem gx_X10_image {nh : Nat} {D : xM} {t : Option zL} {S : Nat → Int32} {l : Launch} {G : xG} {M : xM} {J : xJ} (hI : InvR M) (hWG : WG nh D S) (hG : RG M nh D t S) : x_M l G fX10_image 0 0 0 [.ref (62)] x_SH M J (qKI WRI M J (fun r M2 => InvR M2 ∧ (r = S 0 ∧ RG M2 nh D t S ∧ RK M2 nh D (kS S) ∧ M2 62 33 = 1))) := by
  refine xb_of pX10 (Nat.le_of_ble_eq_true rfl) rfl ?_
  obtain ⟨⟨hn, h_hn, e_hn, hw⟩, hbt, ⟨un, wn, h_uw, h_wn, e_un, e_wn⟩, hch, ⟨n, h_n, e_n⟩, htx, ⟨b, h_b, e_b⟩, hkd, ⟨ra, h_ra, e_ra⟩, hsl, ⟨ic, h_ic, e_ic⟩, hS⟩ := hI
  obtain ⟨hn5, hW, hrub, hbeat⟩ := hWG
  obtain ⟨hGn, hA, hL, e_nw, e_rub, e_bt, e_ph, e_st, e_kn, e_pu, e_lf⟩ := hG
  obtain rfl : nh = hn := (nI_eq (by omega) (by omega)).mp (hGn.symm.trans e_hn)
  have hbt2 : ¬ S 2 = 0 := ne2_0 hbeat.1
  refine xr_aload_n dX10_image_0 0 rfl ?_
  refine xr_iconst (v := 1) dX10_image_1 rfl ?_
  refine xr_putI fpX10_327 dX10_image_2 s_62 rfl rfl rfl ?_
  refine xr_aload_n dX10_image_5 0 rfl ?_
  refine xr_aload_n dX10_image_6 0 rfl ?_
  refine xb_get (v := nI (nh)) flX10_109 dX10_image_7 s_62 rfl (Eq.trans (x_up_k _ _ _ (by decide)) e_hn) ?_
  refine xr_putI fpX10_331 dX10_image_10 s_62 rfl rfl rfl ?_
  refine xr_aload_n dX10_image_13 0 rfl ?_
  refine xr_getR flX10_66 dX10_image_14 s_62 rfl ?_
  refine xr_iconst (v := 0) dX10_image_17 rfl ?_
  refine xr_aload_n dX10_image_18 0 rfl ?_
  refine xb_get (v := (S 0)) flX10_151 dX10_image_19 s_62 rfl (Eq.trans (x_up_k _ _ _ (by decide)) (Eq.trans (x_up_k _ _ _ (by decide)) e_nw)) ?_
  refine xb_iast (j := 0) dX10_image_22 s_80 (by decide) (by decide) ?_
  refine xr_aload_n dX10_image_23 0 rfl ?_
  refine xr_getR flX10_66 dX10_image_24 s_62 rfl ?_
  refine xr_iconst (v := 1) dX10_image_27 rfl ?_
  refine xr_aload_n dX10_image_28 0 rfl ?_
  refine xb_get (v := (S 6)) flX10_258 dX10_image_29 s_62 rfl (Eq.trans (congrFun (x_up_n _ _ _ (by decide)) _) (Eq.trans (x_up_k _ _ _ (by decide)) (Eq.trans (x_up_k _ _ _ (by decide)) e_pu))) ?_
  refine xb_iast (j := 1) dX10_image_32 s_80 (by decide) (by decide) ?_
  refine xr_aload_n dX10_image_33 0 rfl ?_
  refine xr_getR flX10_66 dX10_image_34 s_62 rfl ?_
  refine xr_iconst (v := 2) dX10_image_37 rfl ?_
  refine xr_aload_n dX10_image_38 0 rfl ?_
  refine xb_get (v := (S 7)) flX10_46 dX10_image_39 s_62 rfl (Eq.trans (congrFun (x_up_n _ _ _ (by decide)) _) (Eq.trans (congrFun (x_up_n _ _ _ (by decide)) _) (Eq.trans (x_up_k _ _ _ (by decide)) (Eq.trans (x_up_k _ _ _ (by decide)) e_lf)))) ?_
  refine xb_iast (j := 2) dX10_image_42 s_80 (by decide) (by decide) ?_
  refine xr_iconst (v := 0) dX10_image_43 rfl ?_
  refine xr_istore_n (ls2 := [(1, .int (0)), (0, .ref (62))]) dX10_image_44 (by decide) rfl ?_
  refine xb_ls (ls2 := [(1, .int (nI (0))), (0, .ref (62))]) [0, 1] rfl ?_
  refine imx hn5 (Eq.trans (congrFun (x_up_n _ _ _ (by decide)) _) (Eq.trans (congrFun (x_up_n _ _ _ (by decide)) _) (Eq.trans (congrFun (x_up_n _ _ _ (by decide)) _) (Eq.trans (x_up_k _ _ _ (by decide)) (Eq.trans (x_up_k _ _ _ (by decide)) e_hn))))) (AbS_k hA (fun kl hkl => (Eq.trans (congrFun (x_up_n _ _ _ (by decide)) _) (Eq.trans (congrFun (x_up_n _ _ _ (by decide)) _) (Eq.trans (congrFun (x_up_n _ _ _ (by decide)) _) (Eq.trans (congrFun (x_up_n _ _ _ (by decide)) _) (Eq.trans (congrFun (x_up_n _ _ _ (by decide)) _) rfl)))))) (fun kl => (Eq.trans (congrFun (x_up_n _ _ _ (by decide)) _) (Eq.trans (congrFun (x_up_n _ _ _ (by decide)) _) (Eq.trans (congrFun (x_up_n _ _ _ (by decide)) _) (Eq.trans (congrFun (x_up_n _ _ _ (by decide)) _) (Eq.trans (congrFun (x_up_n _ _ _ (by decide)) _) rfl)))))) (fun kl => (Eq.trans (congrFun (x_up_n _ _ _ (by decide)) _) (Eq.trans (congrFun (x_up_n _ _ _ (by decide)) _) (Eq.trans (congrFun (x_up_n _ _ _ (by decide)) _) (Eq.trans (congrFun (x_up_n _ _ _ (by decide)) _) (Eq.trans (congrFun (x_up_n _ _ _ (by decide)) _) rfl)))))) hn5) (fun M1 k2 hIM => ?_) (nh - 0) 0 (x_up (x_up (x_up (x_up (x_up M 62 33 1) 62 34 (nI (nh))) 80 0 (S 0)) 80 1 (S 6)) 80 2 (S 7)) (by omega) Ke.rf ⟨⟨(Eq.trans (x_up_k _ _ _ (by decide)) (Eq.trans (x_up_k _ _ _ (by decide)) (x_up_s _ _ _ _))), (Eq.trans (x_up_k _ _ _ (by decide)) (x_up_s _ _ _ _)), (x_up_s _ _ _ _)⟩, fun i hi => absurd hi (Nat.not_lt_zero i)⟩
  refine xr_aload_n dX10_image_110 0 rfl ?_
  refine xb_get (v := (S 0)) flX10_151 dX10_image_111 s_62 rfl (Eq.trans (k2 62 9 (by decide)) (Eq.trans (congrFun (x_up_n _ _ _ (by decide)) _) (Eq.trans (congrFun (x_up_n _ _ _ (by decide)) _) (Eq.trans (congrFun (x_up_n _ _ _ (by decide)) _) (Eq.trans (x_up_k _ _ _ (by decide)) (Eq.trans (x_up_k _ _ _ (by decide)) e_nw)))))) ?_
  exact xr_iret dX10_image_114 rfl rfl (⟨_, rfl, rfl, rfl, (Ke.tr (fun pp kk h => (Or.inr (Or.inr h))) (Ke.up (Or.inr (Or.inr (by omega))) (Ke.up (Or.inr (Or.inr (by omega))) (Ke.up (Or.inr (Or.inr (by omega))) (Ke.up (Or.inr (Or.inl (by omega))) (Ke.up (Or.inl (by omega)) Ke.rf))))) k2), ⟨⟨⟨nh, by omega, (Eq.trans (k2 62 6 (by decide)) (Eq.trans (congrFun (x_up_n _ _ _ (by decide)) _) (Eq.trans (congrFun (x_up_n _ _ _ (by decide)) _) (Eq.trans (congrFun (x_up_n _ _ _ (by decide)) _) (Eq.trans (x_up_k _ _ _ (by decide)) (Eq.trans (x_up_k _ _ _ (by decide)) e_hn)))))), (fun kw hkw => by rw [show M1 63 (5 + kw) = M 63 (5 + kw) from (Eq.trans (k2 63 (5 + kw) (by unfold W80; omega)) (Eq.trans (congrFun (x_up_n _ _ _ (by omega)) _) (Eq.trans (congrFun (x_up_n _ _ _ (by omega)) _) (Eq.trans (congrFun (x_up_n _ _ _ (by omega)) _) (Eq.trans (congrFun (x_up_n _ _ _ (by omega)) _) (Eq.trans (congrFun (x_up_n _ _ _ (by omega)) _) rfl))))))]; exact hw kw hkw)⟩, (by rw [show M1 63 16 = M 63 16 from (Eq.trans (k2 63 16 (by unfold W80; omega)) (Eq.trans (congrFun (x_up_n _ _ _ (by omega)) _) (Eq.trans (congrFun (x_up_n _ _ _ (by omega)) _) (Eq.trans (congrFun (x_up_n _ _ _ (by omega)) _) (Eq.trans (congrFun (x_up_n _ _ _ (by omega)) _) (Eq.trans (congrFun (x_up_n _ _ _ (by omega)) _) rfl))))))]; exact hbt), ⟨un, wn, by omega, by omega, (Eq.trans (k2 62 5 (by decide)) (Eq.trans (congrFun (x_up_n _ _ _ (by decide)) _) (Eq.trans (congrFun (x_up_n _ _ _ (by decide)) _) (Eq.trans (congrFun (x_up_n _ _ _ (by decide)) _) (Eq.trans (x_up_k _ _ _ (by decide)) (Eq.trans (x_up_k _ _ _ (by decide)) e_un)))))), (Eq.trans (k2 62 4 (by decide)) (Eq.trans (congrFun (x_up_n _ _ _ (by decide)) _) (Eq.trans (congrFun (x_up_n _ _ _ (by decide)) _) (Eq.trans (congrFun (x_up_n _ _ _ (by decide)) _) (Eq.trans (x_up_k _ _ _ (by decide)) (Eq.trans (x_up_k _ _ _ (by decide)) e_wn))))))⟩, (fun kk hkk => by rw [show M1 64 kk = M 64 kk from (Eq.trans (k2 64 kk (by unfold W80; omega)) (Eq.trans (congrFun (x_up_n _ _ _ (by omega)) _) (Eq.trans (congrFun (x_up_n _ _ _ (by omega)) _) (Eq.trans (congrFun (x_up_n _ _ _ (by omega)) _) (Eq.trans (congrFun (x_up_n _ _ _ (by omega)) _) (Eq.trans (congrFun (x_up_n _ _ _ (by omega)) _) rfl)))))), show M1 65 kk = M 65 kk from (Eq.trans (k2 65 kk (by unfold W80; omega)) (Eq.trans (congrFun (x_up_n _ _ _ (by omega)) _) (Eq.trans (congrFun (x_up_n _ _ _ (by omega)) _) (Eq.trans (congrFun (x_up_n _ _ _ (by omega)) _) (Eq.trans (congrFun (x_up_n _ _ _ (by omega)) _) (Eq.trans (congrFun (x_up_n _ _ _ (by omega)) _) rfl)))))), show M1 66 kk = M 66 kk from (Eq.trans (k2 66 kk (by unfold W80; omega)) (Eq.trans (congrFun (x_up_n _ _ _ (by omega)) _) (Eq.trans (congrFun (x_up_n _ _ _ (by omega)) _) (Eq.trans (congrFun (x_up_n _ _ _ (by omega)) _) (Eq.trans (congrFun (x_up_n _ _ _ (by omega)) _) (Eq.trans (congrFun (x_up_n _ _ _ (by omega)) _) rfl))))))]; exact hch kk hkk), ⟨n, by omega, (Eq.trans (k2 62 11 (by decide)) (Eq.trans (congrFun (x_up_n _ _ _ (by decide)) _) (Eq.trans (congrFun (x_up_n _ _ _ (by decide)) _) (Eq.trans (congrFun (x_up_n _ _ _ (by decide)) _) (Eq.trans (x_up_k _ _ _ (by decide)) (Eq.trans (x_up_k _ _ _ (by decide)) e_n))))))⟩, (by rw [show M1 62 13 = M 62 13 from (Eq.trans (k2 62 13 (by unfold W80; omega)) (Eq.trans (congrFun (x_up_n _ _ _ (by omega)) _) (Eq.trans (congrFun (x_up_n _ _ _ (by omega)) _) (Eq.trans (congrFun (x_up_n _ _ _ (by omega)) _) (Eq.trans (x_up_k _ _ _ (by omega)) (Eq.trans (x_up_k _ _ _ (by omega)) rfl))))))]; exact htx), ⟨b, by omega, (Eq.trans (k2 62 36 (by decide)) (Eq.trans (congrFun (x_up_n _ _ _ (by decide)) _) (Eq.trans (congrFun (x_up_n _ _ _ (by decide)) _) (Eq.trans (congrFun (x_up_n _ _ _ (by decide)) _) (Eq.trans (x_up_k _ _ _ (by decide)) (Eq.trans (x_up_k _ _ _ (by decide)) e_b))))))⟩, (fun j hj => by obtain ⟨q, hq, eq⟩ := hkd j hj; exact ⟨q, hq, (show M1 81 j = M 81 j from (Eq.trans (k2 81 j (by unfold W80; omega)) (Eq.trans (congrFun (x_up_n _ _ _ (by omega)) _) (Eq.trans (congrFun (x_up_n _ _ _ (by omega)) _) (Eq.trans (congrFun (x_up_n _ _ _ (by omega)) _) (Eq.trans (congrFun (x_up_n _ _ _ (by omega)) _) (Eq.trans (congrFun (x_up_n _ _ _ (by omega)) _) rfl))))))).trans eq⟩), ⟨ra, by omega, (Eq.trans (k2 62 39 (by decide)) (Eq.trans (congrFun (x_up_n _ _ _ (by decide)) _) (Eq.trans (congrFun (x_up_n _ _ _ (by decide)) _) (Eq.trans (congrFun (x_up_n _ _ _ (by decide)) _) (Eq.trans (x_up_k _ _ _ (by decide)) (Eq.trans (x_up_k _ _ _ (by decide)) e_ra))))))⟩, (fun j hj => by rw [show M1 83 j = M 83 j from (Eq.trans (k2 83 j (by unfold W80; omega)) (Eq.trans (congrFun (x_up_n _ _ _ (by omega)) _) (Eq.trans (congrFun (x_up_n _ _ _ (by omega)) _) (Eq.trans (congrFun (x_up_n _ _ _ (by omega)) _) (Eq.trans (congrFun (x_up_n _ _ _ (by omega)) _) (Eq.trans (congrFun (x_up_n _ _ _ (by omega)) _) rfl)))))), show M1 84 j = M 84 j from (Eq.trans (k2 84 j (by unfold W80; omega)) (Eq.trans (congrFun (x_up_n _ _ _ (by omega)) _) (Eq.trans (congrFun (x_up_n _ _ _ (by omega)) _) (Eq.trans (congrFun (x_up_n _ _ _ (by omega)) _) (Eq.trans (congrFun (x_up_n _ _ _ (by omega)) _) (Eq.trans (congrFun (x_up_n _ _ _ (by omega)) _) rfl))))))]; exact hsl j hj), ⟨nh, by omega, (Eq.trans (k2 62 34 (by decide)) (Eq.trans (congrFun (x_up_n _ _ _ (by decide)) _) (Eq.trans (congrFun (x_up_n _ _ _ (by decide)) _) (Eq.trans (congrFun (x_up_n _ _ _ (by decide)) _) (x_up_s _ _ _ _)))))⟩, (fun j hj => by obtain ⟨q, hq, eq⟩ := hS j hj; exact ⟨q, hq, (show M1 75 j = M 75 j from (Eq.trans (k2 75 j (by unfold W80; omega)) (Eq.trans (congrFun (x_up_n _ _ _ (by omega)) _) (Eq.trans (congrFun (x_up_n _ _ _ (by omega)) _) (Eq.trans (congrFun (x_up_n _ _ _ (by omega)) _) (Eq.trans (congrFun (x_up_n _ _ _ (by omega)) _) (Eq.trans (congrFun (x_up_n _ _ _ (by omega)) _) rfl))))))).trans eq⟩)⟩, ⟨rfl, ⟨(Eq.trans (k2 62 6 (by decide)) (Eq.trans (congrFun (x_up_n _ _ _ (by decide)) _) (Eq.trans (congrFun (x_up_n _ _ _ (by decide)) _) (Eq.trans (congrFun (x_up_n _ _ _ (by decide)) _) (Eq.trans (x_up_k _ _ _ (by decide)) (Eq.trans (x_up_k _ _ _ (by decide)) e_hn)))))), (AbS_k hA (fun kl hkl => (Eq.trans (k2 63 kl (by unfold W80; omega)) (Eq.trans (congrFun (x_up_n _ _ _ (by decide)) _) (Eq.trans (congrFun (x_up_n _ _ _ (by decide)) _) (Eq.trans (congrFun (x_up_n _ _ _ (by decide)) _) (Eq.trans (congrFun (x_up_n _ _ _ (by decide)) _) (Eq.trans (congrFun (x_up_n _ _ _ (by decide)) _) rfl))))))) (fun kl => (Eq.trans (k2 67 kl (by unfold W80; omega)) (Eq.trans (congrFun (x_up_n _ _ _ (by decide)) _) (Eq.trans (congrFun (x_up_n _ _ _ (by decide)) _) (Eq.trans (congrFun (x_up_n _ _ _ (by decide)) _) (Eq.trans (congrFun (x_up_n _ _ _ (by decide)) _) (Eq.trans (congrFun (x_up_n _ _ _ (by decide)) _) rfl))))))) (fun kl => (Eq.trans (k2 68 kl (by unfold W80; omega)) (Eq.trans (congrFun (x_up_n _ _ _ (by decide)) _) (Eq.trans (congrFun (x_up_n _ _ _ (by decide)) _) (Eq.trans (congrFun (x_up_n _ _ _ (by decide)) _) (Eq.trans (congrFun (x_up_n _ _ _ (by decide)) _) (Eq.trans (congrFun (x_up_n _ _ _ (by decide)) _) rfl))))))) hn5), (LRt_k (Eq.trans (k2 62 13 (by unfold W80; omega)) (Eq.trans (congrFun (x_up_n _ _ _ (by decide)) _) (Eq.trans (congrFun (x_up_n _ _ _ (by decide)) _) (Eq.trans (congrFun (x_up_n _ _ _ (by decide)) _) (Eq.trans (x_up_k _ _ _ (by decide)) (Eq.trans (x_up_k _ _ _ (by decide)) rfl)))))) (Eq.trans (funext fun kk => k2 70 kk (by unfold W80; omega)) (Eq.trans (x_up_n _ _ _ (by decide)) (Eq.trans (x_up_n _ _ _ (by decide)) (Eq.trans (x_up_n _ _ _ (by decide)) (Eq.trans (x_up_n _ _ _ (by decide)) (Eq.trans (x_up_n _ _ _ (by decide)) rfl)))))) hL), (Eq.trans (k2 62 9 (by decide)) (Eq.trans (congrFun (x_up_n _ _ _ (by decide)) _) (Eq.trans (congrFun (x_up_n _ _ _ (by decide)) _) (Eq.trans (congrFun (x_up_n _ _ _ (by decide)) _) (Eq.trans (x_up_k _ _ _ (by decide)) (Eq.trans (x_up_k _ _ _ (by decide)) e_nw)))))), (Eq.trans (k2 63 15 (by decide)) (Eq.trans (congrFun (x_up_n _ _ _ (by decide)) _) (Eq.trans (congrFun (x_up_n _ _ _ (by decide)) _) (Eq.trans (congrFun (x_up_n _ _ _ (by decide)) _) (Eq.trans (congrFun (x_up_n _ _ _ (by decide)) _) (Eq.trans (congrFun (x_up_n _ _ _ (by decide)) _) e_rub)))))), (Eq.trans (k2 63 16 (by decide)) (Eq.trans (congrFun (x_up_n _ _ _ (by decide)) _) (Eq.trans (congrFun (x_up_n _ _ _ (by decide)) _) (Eq.trans (congrFun (x_up_n _ _ _ (by decide)) _) (Eq.trans (congrFun (x_up_n _ _ _ (by decide)) _) (Eq.trans (congrFun (x_up_n _ _ _ (by decide)) _) e_bt)))))), (Eq.trans (k2 63 17 (by decide)) (Eq.trans (congrFun (x_up_n _ _ _ (by decide)) _) (Eq.trans (congrFun (x_up_n _ _ _ (by decide)) _) (Eq.trans (congrFun (x_up_n _ _ _ (by decide)) _) (Eq.trans (congrFun (x_up_n _ _ _ (by decide)) _) (Eq.trans (congrFun (x_up_n _ _ _ (by decide)) _) e_ph)))))), (Eq.trans (k2 63 18 (by decide)) (Eq.trans (congrFun (x_up_n _ _ _ (by decide)) _) (Eq.trans (congrFun (x_up_n _ _ _ (by decide)) _) (Eq.trans (congrFun (x_up_n _ _ _ (by decide)) _) (Eq.trans (congrFun (x_up_n _ _ _ (by decide)) _) (Eq.trans (congrFun (x_up_n _ _ _ (by decide)) _) e_st)))))), (Eq.trans (k2 63 19 (by decide)) (Eq.trans (congrFun (x_up_n _ _ _ (by decide)) _) (Eq.trans (congrFun (x_up_n _ _ _ (by decide)) _) (Eq.trans (congrFun (x_up_n _ _ _ (by decide)) _) (Eq.trans (congrFun (x_up_n _ _ _ (by decide)) _) (Eq.trans (congrFun (x_up_n _ _ _ (by decide)) _) e_kn)))))), (Eq.trans (k2 62 24 (by decide)) (Eq.trans (congrFun (x_up_n _ _ _ (by decide)) _) (Eq.trans (congrFun (x_up_n _ _ _ (by decide)) _) (Eq.trans (congrFun (x_up_n _ _ _ (by decide)) _) (Eq.trans (x_up_k _ _ _ (by decide)) (Eq.trans (x_up_k _ _ _ (by decide)) e_pu)))))), (Eq.trans (k2 62 25 (by decide)) (Eq.trans (congrFun (x_up_n _ _ _ (by decide)) _) (Eq.trans (congrFun (x_up_n _ _ _ (by decide)) _) (Eq.trans (congrFun (x_up_n _ _ _ (by decide)) _) (Eq.trans (x_up_k _ _ _ (by decide)) (Eq.trans (x_up_k _ _ _ (by decide)) e_lf))))))⟩, ⟨(Eq.trans (k2 62 34 (by decide)) (Eq.trans (congrFun (x_up_n _ _ _ (by decide)) _) (Eq.trans (congrFun (x_up_n _ _ _ (by decide)) _) (Eq.trans (congrFun (x_up_n _ _ _ (by decide)) _) (x_up_s _ _ _ _))))), hIM.2, hIM.1.1, hIM.1.2.1, hIM.1.2.2⟩, (Eq.trans (k2 62 33 (by decide)) (Eq.trans (congrFun (x_up_n _ _ _ (by decide)) _) (Eq.trans (congrFun (x_up_n _ _ _ (by decide)) _) (Eq.trans (congrFun (x_up_n _ _ _ (by decide)) _) (Eq.trans (x_up_k _ _ _ (by decide)) (x_up_s _ _ _ _))))))⟩⟩⟩)
set_option maxRecDepth 100000 in
set_option maxHeartbeats 4000000 in
theorem rbx {n cm : Nat} {D D0 : xM} (hn5 : n ≤ 5) (hcm : cm ≤ n) {l : Launch} {G : xG} {M : xM} {J : xJ} {Q : xQ} (e_cm : M 62 34 = nI cm) (hB : ∀ i, i < cm → M 80 (3 + 3 * i) = D0 i 2 ∧ M 80 (4 + 3 * i) = D0 i 3 ∧ M 80 (5 + 3 * i) = D0 i 4) (hC : ∀ (M2 : xM), Ke WBK2 M M2 → (AbS n M2 (bkD cm D0 D)) → x_X l G fX10_back 0 0 0 Q 107 [(0, .ref (62))] [] x_SH M2 J 0 0) : ∀ (m k : Nat) (M1 : xM), k + m = cm → Ke WBK2 M M1 → (AbS n M1 (bkD k D0 D)) → x_X l G fX10_back 0 0 0 Q 42 [(1, .int (nI (k))), (0, .ref (62))] [] x_SH M1 J 0 0 := by
  intro m
  induction m with
  | zero =>
    intro k M1 hk hM hI
    refine xr_iload_n dX10_back_42 0 rfl ?_
    refine xr_aload_n dX10_back_43 1 rfl ?_
    refine xb_get (v := nI (cm)) flX10_331 dX10_back_44 s_62 rfl (Eq.trans (hM 62 34 (by decide)) e_cm) ?_
    refine xr_icmp_ge (tgt := 107) dX10_back_47 rfl (fun _ => ?_) (fun c => absurd (nI_le (a := cm) (b := k) (by omega) (by omega)) c)
    refine xb_ls (ls2 := [(0, .ref (62))]) [1] rfl ?_
    exact hC _ hM (by obtain rfl : k = cm := (by omega); exact hI)
  | succ m ih =>
    intro k M1 hk hM hI
    have hkN : k < cm := by omega
    refine xr_iload_n dX10_back_42 0 rfl ?_
    refine xr_aload_n dX10_back_43 1 rfl ?_
    refine xb_get (v := nI (cm)) flX10_331 dX10_back_44 s_62 rfl (Eq.trans (hM 62 34 (by decide)) e_cm) ?_
    refine xr_icmp_ge (tgt := 107) dX10_back_47 rfl (fun c => absurd c (nI_ge (a := k) (b := cm) (by omega) (by omega))) (fun _ => ?_)
    refine xr_aload_n dX10_back_50 1 rfl ?_
    refine xr_getR flX10_22 dX10_back_51 s_62 rfl ?_
    refine xr_iload_n dX10_back_54 0 rfl ?_
    refine xr_aload_n dX10_back_55 1 rfl ?_
    refine xr_getR flX10_66 dX10_back_56 s_62 rfl ?_
    refine xr_iconst (v := 3) dX10_back_59 rfl ?_
    refine xr_iconst (v := 3) dX10_back_60 rfl ?_
    refine xr_iload_n dX10_back_61 0 rfl ?_
    refine xr_imul dX10_back_62 ?_
    refine xb_top (y := nI (3 * k)) (nI_mulc 3 k) ?_
    refine xr_iadd dX10_back_63 ?_
    refine xb_top (y := nI (3 + 3 * k)) (nI_add (3) (3 * k)) ?_
    refine xb_iald (j := 3 + 3 * k) (v := (D0 k 2)) dX10_back_64 s_80 (by omega) (by decide) (Eq.trans (hM 80 (3 + 3 * k) (by unfold WBK2; omega)) (hB k (by omega)).1) ?_
    refine xb_iast (j := k) dX10_back_65 s_67 (by omega) (by decide) ?_
    refine xr_aload_n dX10_back_66 1 rfl ?_
    refine xr_getR flX10_9 dX10_back_67 s_62 rfl ?_
    refine xr_bipush (v := 10) dX10_back_70 rfl ?_
    refine xr_iload_n dX10_back_72 0 rfl ?_
    refine xr_iadd dX10_back_73 ?_
    refine xb_top (y := nI (10 + k)) (nI_add (10) (k)) ?_
    refine xr_aload_n dX10_back_74 1 rfl ?_
    refine xr_getR flX10_66 dX10_back_75 s_62 rfl ?_
    refine xr_iconst (v := 4) dX10_back_78 rfl ?_
    refine xr_iconst (v := 3) dX10_back_79 rfl ?_
    refine xr_iload_n dX10_back_80 0 rfl ?_
    refine xr_imul dX10_back_81 ?_
    refine xb_top (y := nI (3 * k)) (nI_mulc 3 k) ?_
    refine xr_iadd dX10_back_82 ?_
    refine xb_top (y := nI (4 + 3 * k)) (nI_add (4) (3 * k)) ?_
    refine xb_iald (j := 4 + 3 * k) (v := (D0 k 3)) dX10_back_83 s_80 (by omega) (by decide) (Eq.trans (congrFun (x_up_n _ _ _ (by decide)) _) (Eq.trans (hM 80 (4 + 3 * k) (by unfold WBK2; omega)) (hB k (by omega)).2.1)) ?_
    refine xb_iast (j := 10 + k) dX10_back_84 s_63 (by omega) (by decide) ?_
    refine xr_aload_n dX10_back_85 1 rfl ?_
    refine xr_getR flX10_25 dX10_back_86 s_62 rfl ?_
    refine xr_iload_n dX10_back_89 0 rfl ?_
    refine xr_aload_n dX10_back_90 1 rfl ?_
    refine xr_getR flX10_66 dX10_back_91 s_62 rfl ?_
    refine xr_iconst (v := 5) dX10_back_94 rfl ?_
    refine xr_iconst (v := 3) dX10_back_95 rfl ?_
    refine xr_iload_n dX10_back_96 0 rfl ?_
    refine xr_imul dX10_back_97 ?_
    refine xb_top (y := nI (3 * k)) (nI_mulc 3 k) ?_
    refine xr_iadd dX10_back_98 ?_
    refine xb_top (y := nI (5 + 3 * k)) (nI_add (5) (3 * k)) ?_
    refine xb_iald (j := 5 + 3 * k) (v := (D0 k 4)) dX10_back_99 s_80 (by omega) (by decide) (Eq.trans (congrFun (x_up_n _ _ _ (by decide)) _) (Eq.trans (congrFun (x_up_n _ _ _ (by decide)) _) (Eq.trans (hM 80 (5 + 3 * k) (by unfold WBK2; omega)) (hB k (by omega)).2.2))) ?_
    refine xb_iast (j := k) dX10_back_100 s_68 (by omega) (by decide) ?_
    refine xr_iinc (v := nI (k + 1)) (ls2 := [(1, .int (nI (k + 1))), (0, .ref (62))]) dX10_back_101 0 rfl (nI_1 _) (by decide) rfl ?_
    refine xr_goto (tgt := 42) dX10_back_104 rfl ?_
    refine xb_ls (ls2 := [(1, .int (nI (k + 1))), (0, .ref (62))]) [0, 1] rfl ?_
    exact ih (k + 1) (x_up (x_up (x_up M1 67 k (D0 k 2)) 63 (10 + k) (D0 k 3)) 68 k (D0 k 4)) (by omega) (Ke.up (Or.inl (by omega)) (Ke.up (Or.inr (by omega)) (Ke.up (Or.inl (by omega)) hM))) (AbS_bk hI (by omega) hn5 rfl rfl rfl)
set_option maxRecDepth 100000 in
set_option maxHeartbeats 4000000 in
theorem gx_X10_back {nh : Nat} {D : xM} {t : Option zL} {S : Nat → Int32} {n0 : Nat} {D0 : xM} {U : Nat → Int32} {l : Launch} {G : xG} {M : xM} {J : xJ} (hI : InvR M) (hWG : WG nh D S) (hG : RG M nh D t S) (hK : M 62 33 = 0 ∨ n0 ≤ nh ∧ RK M n0 D0 U) : x_M l G fX10_back 0 0 0 [.ref (62)] x_SH M J (qKI WRBK M J (fun r M2 => InvR M2 ∧ (EBk RG nh D t S (M 62 33) n0 D0 U M2 r))) := by
  refine xb_of pX10 (Nat.le_of_ble_eq_true rfl) rfl ?_
  obtain ⟨⟨hn, h_hn, e_hn, hw⟩, hbt, ⟨un, wn, h_uw, h_wn, e_un, e_wn⟩, hch, ⟨n, h_n, e_n⟩, htx, ⟨b, h_b, e_b⟩, hkd, ⟨ra, h_ra, e_ra⟩, hsl, ⟨ic, h_ic, e_ic⟩, hS⟩ := hI
  have hG0 := hG
  obtain ⟨hn5, hW, hrub, hbeat⟩ := hWG
  obtain ⟨hGn, hA, hL, e_nw, e_rub, e_bt, e_ph, e_st, e_kn, e_pu, e_lf⟩ := hG
  obtain rfl : nh = hn := (nI_eq (by omega) (by omega)).mp (hGn.symm.trans e_hn)
  have hbt2 : ¬ S 2 = 0 := ne2_0 hbeat.1
  refine xr_aload_n dX10_back_0 0 rfl ?_
  refine xb_get (v := (M 62 33)) flX10_327 dX10_back_1 s_62 rfl rfl ?_
  refine xr_if_ne (tgt := 10) dX10_back_4 rfl (fun c1 => ?_) (fun c1 => ?_)
  · obtain ⟨hn0, hk34, hkB, hk0, hk1, hk2⟩ := hK.resolve_left c1
    refine xr_aload_n dX10_back_10 0 rfl ?_
    refine xr_aload_n dX10_back_11 0 rfl ?_
    refine xr_getR flX10_66 dX10_back_12 s_62 rfl ?_
    refine xr_iconst (v := 0) dX10_back_15 rfl ?_
    refine xb_iald (j := 0) (v := (U 0)) dX10_back_16 s_80 (by decide) (by decide) hk0 ?_
    refine xr_putI fpX10_151 dX10_back_17 s_62 rfl rfl rfl ?_
    refine xr_aload_n dX10_back_20 0 rfl ?_
    refine xr_aload_n dX10_back_21 0 rfl ?_
    refine xr_getR flX10_66 dX10_back_22 s_62 rfl ?_
    refine xr_iconst (v := 1) dX10_back_25 rfl ?_
    refine xb_iald (j := 1) (v := (U 1)) dX10_back_26 s_80 (by decide) (by decide) (Eq.trans (congrFun (x_up_n _ _ _ (by decide)) _) hk1) ?_
    refine xr_putI fpX10_258 dX10_back_27 s_62 rfl rfl rfl ?_
    refine xr_aload_n dX10_back_30 0 rfl ?_
    refine xr_aload_n dX10_back_31 0 rfl ?_
    refine xr_getR flX10_66 dX10_back_32 s_62 rfl ?_
    refine xr_iconst (v := 2) dX10_back_35 rfl ?_
    refine xb_iald (j := 2) (v := (U 2)) dX10_back_36 s_80 (by decide) (by decide) (Eq.trans (congrFun (x_up_n _ _ _ (by decide)) _) (Eq.trans (congrFun (x_up_n _ _ _ (by decide)) _) hk2)) ?_
    refine xr_putI fpX10_46 dX10_back_37 s_62 rfl rfl rfl ?_
    refine xr_iconst (v := 0) dX10_back_40 rfl ?_
    refine xr_istore_n (ls2 := [(1, .int (0)), (0, .ref (62))]) dX10_back_41 (by decide) rfl ?_
    refine xb_ls (ls2 := [(1, .int (nI (0))), (0, .ref (62))]) [0, 1] rfl ?_
    refine rbx hn5 hn0 (Eq.trans (x_up_k _ _ _ (by decide)) (Eq.trans (x_up_k _ _ _ (by decide)) (Eq.trans (x_up_k _ _ _ (by decide)) hk34))) (fun i hi => by rw [show (x_up (x_up (x_up M 62 9 (U 0)) 62 24 (U 1)) 62 25 (U 2)) 80 (3 + 3 * i) = M 80 (3 + 3 * i) from (Eq.trans (congrFun (x_up_n _ _ _ (by decide)) _) (Eq.trans (congrFun (x_up_n _ _ _ (by decide)) _) (Eq.trans (congrFun (x_up_n _ _ _ (by decide)) _) rfl))), show (x_up (x_up (x_up M 62 9 (U 0)) 62 24 (U 1)) 62 25 (U 2)) 80 (4 + 3 * i) = M 80 (4 + 3 * i) from (Eq.trans (congrFun (x_up_n _ _ _ (by decide)) _) (Eq.trans (congrFun (x_up_n _ _ _ (by decide)) _) (Eq.trans (congrFun (x_up_n _ _ _ (by decide)) _) rfl))), show (x_up (x_up (x_up M 62 9 (U 0)) 62 24 (U 1)) 62 25 (U 2)) 80 (5 + 3 * i) = M 80 (5 + 3 * i) from (Eq.trans (congrFun (x_up_n _ _ _ (by decide)) _) (Eq.trans (congrFun (x_up_n _ _ _ (by decide)) _) (Eq.trans (congrFun (x_up_n _ _ _ (by decide)) _) rfl)))]; exact hkB i hi) (fun M2 k3 hIM => ?_) (n0 - 0) 0 (x_up (x_up (x_up M 62 9 (U 0)) 62 24 (U 1)) 62 25 (U 2)) (by omega) Ke.rf (by rw [bkD_0]; exact (AbS_k hA (fun kl hkl => (Eq.trans (congrFun (x_up_n _ _ _ (by decide)) _) (Eq.trans (congrFun (x_up_n _ _ _ (by decide)) _) (Eq.trans (congrFun (x_up_n _ _ _ (by decide)) _) rfl)))) (fun kl => (Eq.trans (congrFun (x_up_n _ _ _ (by decide)) _) (Eq.trans (congrFun (x_up_n _ _ _ (by decide)) _) (Eq.trans (congrFun (x_up_n _ _ _ (by decide)) _) rfl)))) (fun kl => (Eq.trans (congrFun (x_up_n _ _ _ (by decide)) _) (Eq.trans (congrFun (x_up_n _ _ _ (by decide)) _) (Eq.trans (congrFun (x_up_n _ _ _ (by decide)) _) rfl)))) hn5))
    refine xr_aload_n dX10_back_107 0 rfl ?_
    refine xb_get (v := (U 0)) flX10_151 dX10_back_108 s_62 rfl (Eq.trans (k3 62 9 (by decide)) (Eq.trans (x_up_k _ _ _ (by decide)) (Eq.trans (x_up_k _ _ _ (by decide)) (x_up_s _ _ _ _)))) ?_
    exact xr_iret dX10_back_111 rfl rfl (⟨_, rfl, rfl, rfl, (Ke.tr (fun pp kk => (fun hh => Or.elim hh (fun h => (Or.inr (Or.inr (Or.inr (Or.inl h))))) (fun h => (Or.inr (Or.inr (Or.inr (Or.inr h))))))) (Ke.up (Or.inr (Or.inr (Or.inl (by omega)))) (Ke.up (Or.inr (Or.inl (by omega))) (Ke.up (Or.inl (by omega)) Ke.rf))) k3), ⟨⟨⟨nh, by omega, (Eq.trans (k3 62 6 (by decide)) (Eq.trans (x_up_k _ _ _ (by decide)) (Eq.trans (x_up_k _ _ _ (by decide)) (Eq.trans (x_up_k _ _ _ (by decide)) e_hn)))), (fun kw hkw => by rw [show M2 63 (5 + kw) = M 63 (5 + kw) from (Eq.trans (k3 63 (5 + kw) (by unfold WBK2; omega)) (Eq.trans (congrFun (x_up_n _ _ _ (by omega)) _) (Eq.trans (congrFun (x_up_n _ _ _ (by omega)) _) (Eq.trans (congrFun (x_up_n _ _ _ (by omega)) _) rfl))))]; exact hw kw hkw)⟩, (by rw [show M2 63 16 = M 63 16 from (Eq.trans (k3 63 16 (by unfold WBK2; omega)) (Eq.trans (congrFun (x_up_n _ _ _ (by omega)) _) (Eq.trans (congrFun (x_up_n _ _ _ (by omega)) _) (Eq.trans (congrFun (x_up_n _ _ _ (by omega)) _) rfl))))]; exact hbt), ⟨un, wn, by omega, by omega, (Eq.trans (k3 62 5 (by decide)) (Eq.trans (x_up_k _ _ _ (by decide)) (Eq.trans (x_up_k _ _ _ (by decide)) (Eq.trans (x_up_k _ _ _ (by decide)) e_un)))), (Eq.trans (k3 62 4 (by decide)) (Eq.trans (x_up_k _ _ _ (by decide)) (Eq.trans (x_up_k _ _ _ (by decide)) (Eq.trans (x_up_k _ _ _ (by decide)) e_wn))))⟩, (fun kk hkk => by rw [show M2 64 kk = M 64 kk from (Eq.trans (k3 64 kk (by unfold WBK2; omega)) (Eq.trans (congrFun (x_up_n _ _ _ (by omega)) _) (Eq.trans (congrFun (x_up_n _ _ _ (by omega)) _) (Eq.trans (congrFun (x_up_n _ _ _ (by omega)) _) rfl)))), show M2 65 kk = M 65 kk from (Eq.trans (k3 65 kk (by unfold WBK2; omega)) (Eq.trans (congrFun (x_up_n _ _ _ (by omega)) _) (Eq.trans (congrFun (x_up_n _ _ _ (by omega)) _) (Eq.trans (congrFun (x_up_n _ _ _ (by omega)) _) rfl)))), show M2 66 kk = M 66 kk from (Eq.trans (k3 66 kk (by unfold WBK2; omega)) (Eq.trans (congrFun (x_up_n _ _ _ (by omega)) _) (Eq.trans (congrFun (x_up_n _ _ _ (by omega)) _) (Eq.trans (congrFun (x_up_n _ _ _ (by omega)) _) rfl))))]; exact hch kk hkk), ⟨n, by omega, (Eq.trans (k3 62 11 (by decide)) (Eq.trans (x_up_k _ _ _ (by decide)) (Eq.trans (x_up_k _ _ _ (by decide)) (Eq.trans (x_up_k _ _ _ (by decide)) e_n))))⟩, (by rw [show M2 62 13 = M 62 13 from (Eq.trans (k3 62 13 (by unfold WBK2; omega)) (Eq.trans (x_up_k _ _ _ (by omega)) (Eq.trans (x_up_k _ _ _ (by omega)) (Eq.trans (x_up_k _ _ _ (by omega)) rfl))))]; exact htx), ⟨b, by omega, (Eq.trans (k3 62 36 (by decide)) (Eq.trans (x_up_k _ _ _ (by decide)) (Eq.trans (x_up_k _ _ _ (by decide)) (Eq.trans (x_up_k _ _ _ (by decide)) e_b))))⟩, (fun j hj => by obtain ⟨q, hq, eq⟩ := hkd j hj; exact ⟨q, hq, (show M2 81 j = M 81 j from (Eq.trans (k3 81 j (by unfold WBK2; omega)) (Eq.trans (congrFun (x_up_n _ _ _ (by omega)) _) (Eq.trans (congrFun (x_up_n _ _ _ (by omega)) _) (Eq.trans (congrFun (x_up_n _ _ _ (by omega)) _) rfl))))).trans eq⟩), ⟨ra, by omega, (Eq.trans (k3 62 39 (by decide)) (Eq.trans (x_up_k _ _ _ (by decide)) (Eq.trans (x_up_k _ _ _ (by decide)) (Eq.trans (x_up_k _ _ _ (by decide)) e_ra))))⟩, (fun j hj => by rw [show M2 83 j = M 83 j from (Eq.trans (k3 83 j (by unfold WBK2; omega)) (Eq.trans (congrFun (x_up_n _ _ _ (by omega)) _) (Eq.trans (congrFun (x_up_n _ _ _ (by omega)) _) (Eq.trans (congrFun (x_up_n _ _ _ (by omega)) _) rfl)))), show M2 84 j = M 84 j from (Eq.trans (k3 84 j (by unfold WBK2; omega)) (Eq.trans (congrFun (x_up_n _ _ _ (by omega)) _) (Eq.trans (congrFun (x_up_n _ _ _ (by omega)) _) (Eq.trans (congrFun (x_up_n _ _ _ (by omega)) _) rfl))))]; exact hsl j hj), ⟨n0, by omega, (Eq.trans (k3 62 34 (by decide)) (Eq.trans (x_up_k _ _ _ (by decide)) (Eq.trans (x_up_k _ _ _ (by decide)) (Eq.trans (x_up_k _ _ _ (by decide)) hk34))))⟩, (fun j hj => by obtain ⟨q, hq, eq⟩ := hS j hj; exact ⟨q, hq, (show M2 75 j = M 75 j from (Eq.trans (k3 75 j (by unfold WBK2; omega)) (Eq.trans (congrFun (x_up_n _ _ _ (by omega)) _) (Eq.trans (congrFun (x_up_n _ _ _ (by omega)) _) (Eq.trans (congrFun (x_up_n _ _ _ (by omega)) _) rfl))))).trans eq⟩)⟩, (Or.inr ⟨c1, rfl, ⟨(Eq.trans (k3 62 6 (by decide)) (Eq.trans (x_up_k _ _ _ (by decide)) (Eq.trans (x_up_k _ _ _ (by decide)) (Eq.trans (x_up_k _ _ _ (by decide)) e_hn)))), hIM, (LRt_k (Eq.trans (k3 62 13 (by unfold WBK2; omega)) (Eq.trans (x_up_k _ _ _ (by decide)) (Eq.trans (x_up_k _ _ _ (by decide)) (Eq.trans (x_up_k _ _ _ (by decide)) rfl)))) (Eq.trans (funext fun kk => k3 70 kk (by unfold WBK2; omega)) (Eq.trans (x_up_n _ _ _ (by decide)) (Eq.trans (x_up_n _ _ _ (by decide)) (Eq.trans (x_up_n _ _ _ (by decide)) rfl)))) hL), (Eq.trans (k3 62 9 (by decide)) (Eq.trans (x_up_k _ _ _ (by decide)) (Eq.trans (x_up_k _ _ _ (by decide)) (x_up_s _ _ _ _)))), (Eq.trans (k3 63 15 (by decide)) (Eq.trans (congrFun (x_up_n _ _ _ (by decide)) _) (Eq.trans (congrFun (x_up_n _ _ _ (by decide)) _) (Eq.trans (congrFun (x_up_n _ _ _ (by decide)) _) e_rub)))), (Eq.trans (k3 63 16 (by decide)) (Eq.trans (congrFun (x_up_n _ _ _ (by decide)) _) (Eq.trans (congrFun (x_up_n _ _ _ (by decide)) _) (Eq.trans (congrFun (x_up_n _ _ _ (by decide)) _) e_bt)))), (Eq.trans (k3 63 17 (by decide)) (Eq.trans (congrFun (x_up_n _ _ _ (by decide)) _) (Eq.trans (congrFun (x_up_n _ _ _ (by decide)) _) (Eq.trans (congrFun (x_up_n _ _ _ (by decide)) _) e_ph)))), (Eq.trans (k3 63 18 (by decide)) (Eq.trans (congrFun (x_up_n _ _ _ (by decide)) _) (Eq.trans (congrFun (x_up_n _ _ _ (by decide)) _) (Eq.trans (congrFun (x_up_n _ _ _ (by decide)) _) e_st)))), (Eq.trans (k3 63 19 (by decide)) (Eq.trans (congrFun (x_up_n _ _ _ (by decide)) _) (Eq.trans (congrFun (x_up_n _ _ _ (by decide)) _) (Eq.trans (congrFun (x_up_n _ _ _ (by decide)) _) e_kn)))), (Eq.trans (k3 62 24 (by decide)) (Eq.trans (x_up_k _ _ _ (by decide)) (x_up_s _ _ _ _))), (Eq.trans (k3 62 25 (by decide)) (x_up_s _ _ _ _))⟩⟩)⟩⟩)
  · refine xr_bipush (v := -5) dX10_back_7 rfl ?_
    exact xr_iret dX10_back_9 rfl rfl (⟨_, rfl, rfl, rfl, Ke.rf, ⟨⟨⟨nh, by omega, e_hn, (fun kw hkw => by rw [show M 63 (5 + kw) = M 63 (5 + kw) from rfl]; exact hw kw hkw)⟩, (by rw [show M 63 16 = M 63 16 from rfl]; exact hbt), ⟨un, wn, by omega, by omega, e_un, e_wn⟩, (fun kk hkk => by rw [show M 64 kk = M 64 kk from rfl, show M 65 kk = M 65 kk from rfl, show M 66 kk = M 66 kk from rfl]; exact hch kk hkk), ⟨n, by omega, e_n⟩, (by rw [show M 62 13 = M 62 13 from rfl]; exact htx), ⟨b, by omega, e_b⟩, (fun j hj => by obtain ⟨q, hq, eq⟩ := hkd j hj; exact ⟨q, hq, (show M 81 j = M 81 j from rfl).trans eq⟩), ⟨ra, by omega, e_ra⟩, (fun j hj => by rw [show M 83 j = M 83 j from rfl, show M 84 j = M 84 j from rfl]; exact hsl j hj), ⟨ic, by omega, e_ic⟩, (fun j hj => by obtain ⟨q, hq, eq⟩ := hS j hj; exact ⟨q, hq, (show M 75 j = M 75 j from rfl).trans eq⟩)⟩, (Or.inl ⟨c1, rfl, hG0⟩)⟩⟩)
