/-- the class's ring: n hoops as D says, the law t, the numbers S (0 NOW, 1 RUB, 2 BEAT, 3 PHASE, 4 STRENGTH, 5 KNOCK, 6 pushes, 7 the latest fall) -/
def CG (M : xM) (n : Nat) (D : xM) (t : Option zL) (S : Nat → Int32) : Prop := M 13 2 = nI n ∧ AbC 15 n M D ∧ LCt M t ∧ M 13 3 = S 0 ∧ M 13 4 = S 1 ∧ M 13 5 = S 2 ∧ M 13 6 = S 3 ∧ M 13 7 = S 4 ∧ M 35 5 = S 5 ∧ M 13 8 = S 6 ∧ M 13 9 = S 7
/-- the reference's -/
def RG (M : xM) (n : Nat) (D : xM) (t : Option zL) (S : Nat → Int32) : Prop := M 62 6 = nI n ∧ AbS n M D ∧ LRt M t ∧ M 62 9 = S 0 ∧ M 63 15 = S 1 ∧ M 63 16 = S 2 ∧ M 63 17 = S 3 ∧ M 63 18 = S 4 ∧ M 63 19 = S 5 ∧ M 62 24 = S 6 ∧ M 62 25 = S 7
/-- as it may be -/
def WG (n : Nat) (D : xM) (S : Nat → Int32) : Prop := n ≤ 5 ∧ WF n D ∧ (0 ≤ S 1 ∧ S 1 ≤ 3) ∧ (2 ≤ S 2 ∧ S 2 ≤ 24)
def PS (n : Nat) (t : Option zL) (S : Nat → Int32) : xP := (n, t, S 1, S 2, S 3, S 4)
theorem CG_k {M M2 : xM} {n : Nat} {D : xM} {t : Option zL} {S : Nat → Int32} (hn : n ≤ 5) (h : CG M n D t S) (h13 : ∀ k, M2 13 k = M 13 k) (hh : ∀ i, i < 5 → ∀ k, M2 (15 + i) k = M (15 + i) k) (h14 : M2 1 4 = M 1 4) (h2 : ∀ k, M2 2 k = M 2 k) (h3 : ∀ k, M2 3 k = M 3 k) (h35 : M2 35 5 = M 35 5) : CG M2 n D t S := by
  obtain ⟨a, b, c, d, e, f, g, i, j, k, l⟩ := h
  exact ⟨(h13 2).trans a, AbC_k b (fun i hi => hh i (by omega)), LCt_k h14 h2 h3 c, (h13 3).trans d, (h13 4).trans e, (h13 5).trans f, (h13 6).trans g, (h13 7).trans i, h35.trans j, (h13 8).trans k, (h13 9).trans l⟩
theorem RG_k {M M2 : xM} {n : Nat} {D : xM} {t : Option zL} {S : Nat → Int32} (hn : n ≤ 5) (h : RG M n D t S) (h6 : M2 62 6 = M 62 6) (h9 : M2 62 9 = M 62 9) (h13 : M2 62 13 = M 62 13) (h24 : M2 62 24 = M 62 24) (h25 : M2 62 25 = M 62 25) (h63 : ∀ k, k < 20 → M2 63 k = M 63 k) (h67 : ∀ k, M2 67 k = M 67 k) (h68 : ∀ k, M2 68 k = M 68 k) (h70 : ∀ k, M2 70 k = M 70 k) : RG M2 n D t S := by
  obtain ⟨a, b, c, d, e, f, g, i, j, k, l⟩ := h
  exact ⟨h6.trans a, AbS_k b (fun k hk => h63 k (by omega)) h67 h68 hn, LRt_k h13 (funext h70) c, h9.trans d, (h63 15 (by decide)).trans e, (h63 16 (by decide)).trans f, (h63 17 (by decide)).trans g, (h63 18 (by decide)).trans i, (h63 19 (by decide)).trans j, h24.trans k, h25.trans l⟩
theorem CG_f {M M2 : xM} {n : Nat} {D : xM} {t : Option zL} {S : Nat → Int32} (hn : n ≤ 5) (h : CG M n D t S) (k : ∀ p k, p < 62 → M2 p k = M p k) : CG M2 n D t S := CG_k hn h (fun j => k 13 j (by decide)) (fun i hi j => k (15 + i) j (by omega)) (k 1 4 (by decide)) (fun j => k 2 j (by decide)) (fun j => k 3 j (by decide)) (k 35 5 (by decide))
theorem RG_f {M M2 : xM} {n : Nat} {D : xM} {t : Option zL} {S : Nat → Int32} (hn : n ≤ 5) (h : RG M n D t S) (k : ∀ p k, 62 ≤ p → M2 p k = M p k) : RG M2 n D t S := RG_k hn h (k 62 6 (by decide)) (k 62 9 (by decide)) (k 62 13 (by decide)) (k 62 24 (by decide)) (k 62 25 (by decide)) (fun j _ => k 63 j (by decide)) (fun j => k 67 j (by decide)) (fun j => k 68 j (by decide)) (fun j => k 70 j (by decide))
/-- so many ticks in deed: hoops, NOW, pushes, the latest fall -/
def goF (P : xP) : Nat → Int32 → xM → Int32 → Int32 → xM × Int32 × Int32 × Int32
  | 0, nw, D, pu, lf => (D, nw, pu, lf)
  | m + 1, nw, D, pu, lf => goF P m (nw + 1) (tiF P nw D) (if w_due P.2.2.2.1 P.2.2.2.2.1 nw then pu + 1 else pu) (if upn P.1 (tiF P nw D) < upn P.1 D then nw else lf)
theorem goF_s {P : xP} {N k : Nat} (hk : k < N) (nw : Int32) (D : xM) (pu lf : Int32) : goF P (N - (k + 1)) (nw + 1) (tiF P nw D) (if w_due P.2.2.2.1 P.2.2.2.2.1 nw then pu + 1 else pu) (if upn P.1 (tiF P nw D) < upn P.1 D then nw else lf) = goF P (N - k) nw D pu lf := by
  rw [show N - k = (N - (k + 1)) + 1 by omega]; rfl
theorem WF_goF {P : xP} : ∀ (m : Nat) (nw : Int32) (D : xM) (pu lf : Int32), WF P.1 D → WF P.1 (goF P m nw D pu lf).1 := by
  intro m
  induction m with
  | zero => exact fun _ _ _ _ h => h
  | succ m ih => exact fun nw D pu lf h => ih _ _ _ _ (WF_tiF h)
/-- the numbers behind so many ticks -/
def goS (S : Nat → Int32) (T : xM × Int32 × Int32 × Int32) : Nat → Int32 := fun j => if j = 0 then T.2.1 else if j = 6 then T.2.2.1 else if j = 7 then T.2.2.2 else S j
def goT (n : Nat) (D : xM) (t : Option zL) (S : Nat → Int32) (N : Nat) : xM × Int32 × Int32 × Int32 := goF (PS n t S) N (S 0) D (S 6) (S 7)
theorem WG_go {n N : Nat} {D : xM} {t : Option zL} {S : Nat → Int32} (h : WG n D S) : WG n (goT n D t S N).1 (goS S (goT n D t S N)) := ⟨h.1, WF_goF (P := PS n t S) _ _ _ _ _ h.2.1, h.2.2⟩
def GCi (P : xP) (N : Nat) (T : xM × Int32 × Int32 × Int32) (M1 : xM) (k : Nat) : Prop := ∃ D1, AbC 15 P.1 M1 D1 ∧ WF P.1 D1 ∧ goF P (N - k) (M1 13 3) D1 (M1 13 8) (M1 13 9) = T
theorem GCi_T {P : xP} {N : Nat} {T : xM × Int32 × Int32 × Int32} {M1 : xM} (h : GCi P N T M1 N) : AbC 15 P.1 M1 T.1 ∧ WF P.1 T.1 ∧ M1 13 3 = T.2.1 ∧ M1 13 8 = T.2.2.1 ∧ M1 13 9 = T.2.2.2 := by
  obtain ⟨D1, a, b, c⟩ := h
  rw [Nat.sub_self] at c
  obtain rfl := (show (D1, M1 13 3, M1 13 8, M1 13 9) = T from c)
  exact ⟨a, b, rfl, rfl, rfl⟩
def GRi (P : xP) (N : Nat) (D0 : xM) (pu : Int32) (T : xM × Int32 × Int32 × Int32) (M1 : xM) (k : Nat) : Prop := ∃ D1, AbR P.1 M1 D1 ∧ WF P.1 D1 ∧ mo D0 D1 ∧ goF P (N - k) (M1 62 9) D1 (pu + M1 62 23) (M1 62 25) = T
theorem GRi_T {P : xP} {N : Nat} {D0 : xM} {pu : Int32} {T : xM × Int32 × Int32 × Int32} {M1 : xM} (h : GRi P N D0 pu T M1 N) : AbR P.1 M1 T.1 ∧ WF P.1 T.1 ∧ M1 62 9 = T.2.1 ∧ pu + M1 62 23 = T.2.2.1 ∧ M1 62 25 = T.2.2.2 := by
  obtain ⟨D1, a, b, m, c⟩ := h
  rw [Nat.sub_self] at c
  obtain rfl := (show (D1, M1 62 9, pu + M1 62 23, M1 62 25) = T from c)
  exact ⟨a, b, rfl, rfl, rfl⟩
theorem ad_if {c : Prop} [Decidable c] {pu a b : Int32} (h : b = if c then a + 1 else a) : pu + b = if c then (pu + a) + 1 else pu + a := by
  rw [h]; split
  · rw [Int32.add_assoc]
  · rfl
theorem ly_if {n : Nat} {S nw old : Int32} {D0 D1 D2 : xM} (hs : ∀ k, k < n → (w_in S k ↔ ¬ D0 k 4 = 0)) (h1 : mo D0 D1) (h2 : mo D1 D2) : (lyn S n D1 < lyn S n D2 ↔ upn n D2 < upn n D1) := by
  have e1 := lyn_up h1 n hs
  have e2 := lyn_up (mo_tr h1 h2) n hs
  omega
/-- begins1: those ahead of k are copied -/
def BGi (S : Int32) (D M1 : xM) (k : Nat) : Prop := ∀ i, i < k → M1 72 i = w_msk S D i 2 ∧ M1 73 i = w_msk S D i 3 ∧ M1 74 i = w_msk S D i 4
theorem BGi_0 {S : Int32} {D M1 : xM} : BGi S D M1 0 := fun i hi => absurd hi (Nat.not_lt_zero i)
theorem BGi_s {S a v w : Int32} {D M1 : xM} {k : Nat} (h : BGi S D M1 k) (ha : a = w_msk S D k 2) (hv : v = w_msk S D k 3) (hw : w = w_msk S D k 4) : BGi S D (x_up (x_up (x_up M1 72 k a) 73 k v) 74 k w) (k + 1) := fun i hi => by
  rw [up_n (p := 74) (q := 72) (by decide), up_n (p := 73) (q := 72) (by decide), up_n (p := 74) (q := 73) (by decide)]
  by_cases e : i = k
  · subst e; rw [up_s, up_s, up_s]; exact ⟨ha, hv, hw⟩
  · rw [up_k e, up_k e, up_k e, up_n (by decide), up_n (by decide), up_n (by decide)]; exact h i (by omega)
theorem msk_2 {S : Int32} {D : xM} {k : Nat} : D k 2 = w_msk S D k 2 := (if_neg (fun q => q.1.elim (by decide) (by decide))).symm
theorem msk_y {S : Int32} {D : xM} {k j : Nat} (h : w_in S k) : D k j = w_msk S D k j := (if_neg (fun q => q.2 h)).symm
theorem msk_n {S : Int32} {D : xM} {k j : Nat} (hj : j = 3 ∨ j = 4) (h : ¬ w_in S k) : (0 : Int32) = w_msk S D k j := (if_pos ⟨hj, h⟩).symm
theorem BGi_T {S : Int32} {D M M1 : xM} {n : Nat} (hA : AbS n M D) (h63 : ∀ k, M1 63 k = M 63 k) (h : BGi S D M1 n) : AbR n M1 (w_msk S D) := fun i hi => by
  obtain ⟨a, b, c⟩ := h i hi
  exact ⟨(h63 i).trans ((hA i hi).1.trans (show D i 0 = _ from (if_neg (fun q => q.1.elim (by decide) (by decide))).symm)), (h63 _).trans ((hA i hi).2.1.trans (show D i 1 = _ from (if_neg (fun q => q.1.elim (by decide) (by decide))).symm)), a, b, c⟩
/-- of all who are up: the hoops themselves -/
theorem msk_up {n : Nat} {D : xM} (hn : n ≤ 5) (hW : WF n D) : ∀ i, i < n → ∀ k, k < 5 → w_msk (upS n D) D i k = D i k := fun i hi k hk => by
  by_cases c : w_in (upS n D) i
  · exact (msk_y c).symm
  · have z : D i 4 = 0 := Classical.byContradiction (fun q => c ((upS_in hn hi).mpr q))
    by_cases j : k = 3 ∨ k = 4
    · rw [← msk_n j c]
      rcases j with rfl | rfl
      · exact ((hW i hi).2.2.2.2.2 z).symm
      · exact z.symm
    · exact if_neg (fun q => j q.1)
theorem AbR_eq {n : Nat} {M D D2 : xM} (h : AbR n M D) (e : ∀ i, i < n → ∀ k, k < 5 → D i k = D2 i k) : AbR n M D2 := fun i hi => by
  rw [← e i hi 0 (by decide), ← e i hi 1 (by decide), ← e i hi 2 (by decide), ← e i hi 3 (by decide), ← e i hi 4 (by decide)]; exact h i hi
/-- laid back in deed: those ahead of k -/
def CBi (D M1 : xM) (k : Nat) : Prop := ∀ i, i < k → M1 67 i = D i 2 ∧ M1 63 (10 + i) = D i 3 ∧ M1 68 i = D i 4
theorem CBi_s {a v w : Int32} {D M1 : xM} {k : Nat} (h : CBi D M1 k) (ha : a = D k 2) (hv : v = D k 3) (hw : w = D k 4) : CBi D (x_up (x_up (x_up M1 67 k a) 63 (10 + k) v) 68 k w) (k + 1) := fun i hi => by
  rw [up_n (p := 68) (q := 67) (by decide), up_n (p := 63) (q := 67) (by decide), up_n (p := 68) (q := 63) (by decide)]
  by_cases e : i = k
  · subst e; rw [up_s, up_s, up_s]; exact ⟨ha, hv, hw⟩
  · rw [up_k e, up_k (show 10 + i ≠ 10 + k by omega), up_k e, up_n (by decide), up_n (by decide), up_n (by decide)]; exact h i (by omega)
theorem CBi_T {D M M1 : xM} {n : Nat} (hA : AbR n M D) (h63 : ∀ k, k < 10 → M1 63 k = M 63 k) (hn : n ≤ 5) (h : CBi D M1 n) : AbS n M1 D := fun i hi => by
  obtain ⟨a, b, c⟩ := h i hi
  exact ⟨(h63 i (by omega)).trans (hA i hi).1, (h63 _ (by omega)).trans (hA i hi).2.1, a, b, c⟩
set_option maxRecDepth 100000 in
set_option maxHeartbeats 4000000 in
theorem cw_X10_isIn (a : Int32) (k : Nat) {l : Launch} {G : xG} {sh : List xS} {M : xM} {J : xJ} : x_M l G fX10_isIn 0 0 0 [.int (a), .int (nI (k))] sh M J (qE (some (.int (bI (w_in a k)))) sh M J) := by
  refine xb_of pX10 (Nat.le_of_ble_eq_true rfl) rfl ?_
  refine xr_iload_n dX10_isIn_0 0 rfl ?_
  refine xr_iload_n dX10_isIn_1 1 rfl ?_
  refine xr_ishr dX10_isIn_2 ?_
  refine xr_iconst (v := 1) dX10_isIn_3 rfl ?_
  refine xr_iand dX10_isIn_4 ?_
  refine xr_iconst (v := 1) dX10_isIn_5 rfl ?_
  refine xr_icmp_ne (tgt := 13) dX10_isIn_6 rfl (fun c1 => ?_) (fun c1 => ?_)
  · refine xr_iconst (v := 0) dX10_isIn_13 rfl ?_
    exact xr_iret dX10_isIn_14 rfl rfl (⟨congrArg (fun z => some (Value.int z)) (bI_f c1).symm, rfl, rfl, rfl⟩)
  · refine xr_iconst (v := 1) dX10_isIn_9 rfl ?_
    refine xr_goto (tgt := 14) dX10_isIn_10 rfl ?_
    exact xr_iret dX10_isIn_14 rfl rfl (⟨congrArg (fun z => some (Value.int z)) (bI_t c1).symm, rfl, rfl, rfl⟩)
set_option maxRecDepth 100000 in
set_option maxHeartbeats 4000000 in
theorem unx {D : xM} {hn : Nat} (h_hn : hn ≤ 5) {l : Launch} {G : xG} {M : xM} {J : xJ} {Q : xQ} (e_hn : M 62 6 = nI hn) (hA : AbS hn M D) (hW : WF hn D) (hC : ∀ (se : Int32), (se = upS hn D) → x_X l G fX10_upNow 0 0 0 Q 37 [(1, .int (se)), (0, .ref (62))] [] x_SH M J 0 0) : ∀ (m k : Nat) (se : Int32), k + m = hn → (se = upS k D) → x_X l G fX10_upNow 0 0 0 Q 4 [(2, .int (nI (k))), (1, .int (se)), (0, .ref (62))] [] x_SH M J 0 0 := by
  intro m
  induction m with
  | zero =>
    intro k se hk hI
    refine xr_iload_n dX10_upNow_4 0 rfl ?_
    refine xr_aload_n dX10_upNow_5 2 rfl ?_
    refine xb_get (v := nI (hn)) flX10_109 dX10_upNow_6 s_62 rfl e_hn ?_
    refine xr_icmp_ge (tgt := 37) dX10_upNow_9 rfl (fun _ => ?_) (fun c => absurd (nI_le (a := hn) (b := k) (by omega) (by omega)) c)
    refine xb_ls (ls2 := [(1, .int (se)), (0, .ref (62))]) [1, 2] rfl ?_
    exact hC se (by obtain rfl : k = hn := (by omega); exact hI)
  | succ m ih =>
    intro k se hk hI
    have hkN : k < hn := by omega
    refine xr_iload_n dX10_upNow_4 0 rfl ?_
    refine xr_aload_n dX10_upNow_5 2 rfl ?_
    refine xb_get (v := nI (hn)) flX10_109 dX10_upNow_6 s_62 rfl e_hn ?_
    refine xr_icmp_ge (tgt := 37) dX10_upNow_9 rfl (fun c => absurd c (nI_ge (a := k) (b := hn) (by omega) (by omega))) (fun _ => ?_)
    refine xr_iload_n dX10_upNow_12 1 rfl ?_
    refine xr_aload_n dX10_upNow_13 2 rfl ?_
    refine xr_getR flX10_25 dX10_upNow_14 s_62 rfl ?_
    refine xr_iload_n dX10_upNow_17 0 rfl ?_
    refine xb_iald (j := k) (v := M 68 k) dX10_upNow_18 s_68 (by omega) (by decide) rfl ?_
    refine xr_if_le (tgt := 28) dX10_upNow_19 rfl (fun c1 => ?_) (fun c1 => ?_)
    · refine xr_iconst (v := 0) dX10_upNow_28 rfl ?_
      refine xr_ior dX10_upNow_29 ?_
      refine xr_istore_n (ls2 := [(1, .int ((se ||| 0))), (2, .int (nI (k))), (0, .ref (62))]) dX10_upNow_30 (by decide) rfl ?_
      refine xr_iinc (v := nI (k + 1)) (ls2 := [(2, .int (nI (k + 1))), (1, .int ((se ||| 0))), (0, .ref (62))]) dX10_upNow_31 1 rfl (nI_1 _) (by decide) rfl ?_
      refine xr_goto (tgt := 4) dX10_upNow_34 rfl ?_
      refine xb_ls (ls2 := [(2, .int (nI (k + 1))), (1, .int ((se ||| 0))), (0, .ref (62))]) [0, 1, 2] rfl ?_
      exact ih (k + 1) (se ||| 0) (by omega) (upS_z hI ((le0_eq hW (by omega) (hA k (by omega)).2.2.2.2).mp c1))
    · refine xr_iconst (v := 1) dX10_upNow_22 rfl ?_
      refine xr_iload_n dX10_upNow_23 0 rfl ?_
      refine xr_ishl dX10_upNow_24 ?_
      refine xr_goto (tgt := 29) dX10_upNow_25 rfl ?_
      refine xr_ior dX10_upNow_29 ?_
      refine xr_istore_n (ls2 := [(1, .int ((se ||| (1 <<< (nI (k) &&& 31))))), (2, .int (nI (k))), (0, .ref (62))]) dX10_upNow_30 (by decide) rfl ?_
      refine xr_iinc (v := nI (k + 1)) (ls2 := [(2, .int (nI (k + 1))), (1, .int ((se ||| (1 <<< (nI (k) &&& 31))))), (0, .ref (62))]) dX10_upNow_31 1 rfl (nI_1 _) (by decide) rfl ?_
      refine xr_goto (tgt := 4) dX10_upNow_34 rfl ?_
      refine xb_ls (ls2 := [(2, .int (nI (k + 1))), (1, .int ((se ||| (1 <<< (nI (k) &&& 31))))), (0, .ref (62))]) [0, 1, 2] rfl ?_
      exact ih (k + 1) (se ||| (1 <<< (nI (k) &&& 31))) (by omega) (upS_o hI (fun q => c1 ((le0_eq hW (by omega) (hA k (by omega)).2.2.2.2).mpr q)))
set_option maxRecDepth 100000 in
set_option maxHeartbeats 4000000 in
theorem gw_X10_upNow {D : xM} {hn : Nat} (h_hn : hn ≤ 5) {l : Launch} {G : xG} {M : xM} {J : xJ} (e_hn : M 62 6 = nI hn) (hA : AbS hn M D) (hW : WF hn D) : x_M l G fX10_upNow 0 0 0 [.ref (62)] x_SH M J (qPI M J (fun r => r = upS hn D)) := by
  refine xb_of pX10 (Nat.le_of_ble_eq_true rfl) rfl ?_
  refine xr_iconst (v := 0) dX10_upNow_0 rfl ?_
  refine xr_istore_n (ls2 := [(1, .int (0)), (0, .ref (62))]) dX10_upNow_1 (by decide) rfl ?_
  refine xr_iconst (v := 0) dX10_upNow_2 rfl ?_
  refine xr_istore_n (ls2 := [(2, .int (0)), (1, .int (0)), (0, .ref (62))]) dX10_upNow_3 (by decide) rfl ?_
  refine xb_ls (ls2 := [(2, .int (nI (0))), (1, .int (0)), (0, .ref (62))]) [0, 1, 2] rfl ?_
  refine unx h_hn e_hn hA hW (fun q1 hI => ?_) (hn - 0) 0 0 (by omega) rfl
  refine xr_iload_n dX10_upNow_37 0 rfl ?_
  exact xr_iret dX10_upNow_38 rfl rfl (⟨_, rfl, rfl, rfl, rfl, hI⟩)
set_option maxRecDepth 100000 in
set_option maxHeartbeats 4000000 in
theorem lyx {se : Int32} {D : xM} {hn : Nat} (h_hn : hn ≤ 5) {l : Launch} {G : xG} {M : xM} {J : xJ} {Q : xQ} (e_hn : M 62 6 = nI hn) (hA : AbR hn M D) (hC : ∀ (ny : Int32), (ny = nI (lyn se hn D)) → x_X l G fX10_lyingOf 1 0 0 Q 43 [(2, .int (ny)), (0, .ref (62))] [] x_SH M J 0 0) : ∀ (m k : Nat) (ny : Int32), k + m = hn → (ny = nI (lyn se k D)) → x_X l G fX10_lyingOf 1 0 0 Q 4 [(3, .int (nI (k))), (2, .int (ny)), (1, .int (se)), (0, .ref (62))] [] x_SH M J 0 0 := by
  intro m
  induction m with
  | zero =>
    intro k ny hk hI
    refine xr_iload_n dX10_lyingOf_4 0 rfl ?_
    refine xr_aload_n dX10_lyingOf_5 3 rfl ?_
    refine xb_get (v := nI (hn)) flX10_109 dX10_lyingOf_6 s_62 rfl e_hn ?_
    refine xr_icmp_ge (tgt := 43) dX10_lyingOf_9 rfl (fun _ => ?_) (fun c => absurd (nI_le (a := hn) (b := k) (by omega) (by omega)) c)
    refine xb_ls (ls2 := [(2, .int (ny)), (0, .ref (62))]) [1, 3] rfl ?_
    exact hC ny (by obtain rfl : k = hn := (by omega); exact hI)
  | succ m ih =>
    intro k ny hk hI
    have hkN : k < hn := by omega
    refine xr_iload_n dX10_lyingOf_4 0 rfl ?_
    refine xr_aload_n dX10_lyingOf_5 3 rfl ?_
    refine xb_get (v := nI (hn)) flX10_109 dX10_lyingOf_6 s_62 rfl e_hn ?_
    refine xr_icmp_ge (tgt := 43) dX10_lyingOf_9 rfl (fun c => absurd c (nI_ge (a := k) (b := hn) (by omega) (by omega))) (fun _ => ?_)
    refine xr_iload_n dX10_lyingOf_12 1 rfl ?_
    refine xr_iload_n dX10_lyingOf_13 2 rfl ?_
    refine xr_iload_n dX10_lyingOf_14 0 rfl ?_
    refine xb_cS (As := [.int (se), .int (nI (k))]) (rest := [.int (ny)]) mlX10_214 (cw_X10_isIn se k) dX10_lyingOf_15 rfl rfl (Nat.le_of_ble_eq_true rfl) (by decide) (by decide) ?_
    refine xb_beq (tgt := 34) dX10_lyingOf_18 rfl (fun c1 => ?_) (fun c1 => ?_)
    · refine xr_iconst (v := 0) dX10_lyingOf_34 rfl ?_
      refine xr_iadd dX10_lyingOf_35 ?_
      refine xr_istore_n (ls2 := [(2, .int ((ny + 0))), (3, .int (nI (k))), (1, .int (se)), (0, .ref (62))]) dX10_lyingOf_36 (by decide) rfl ?_
      refine xr_iinc (v := nI (k + 1)) (ls2 := [(3, .int (nI (k + 1))), (2, .int ((ny + 0))), (1, .int (se)), (0, .ref (62))]) dX10_lyingOf_37 1 rfl (nI_1 _) (by decide) rfl ?_
      refine xr_goto (tgt := 4) dX10_lyingOf_40 rfl ?_
      refine xb_ls (ls2 := [(3, .int (nI (k + 1))), (2, .int ((ny + 0))), (1, .int (se)), (0, .ref (62))]) [0, 1, 2, 3] rfl ?_
      exact ih (k + 1) (ny + 0) (by omega) (lyn_n hI (fun z => c1 z.1))
    · refine xr_aload_n dX10_lyingOf_21 3 rfl ?_
      refine xr_getR flX10_43 dX10_lyingOf_22 s_62 rfl ?_
      refine xr_iload_n dX10_lyingOf_25 0 rfl ?_
      refine xb_iald (j := k) (v := M 74 k) dX10_lyingOf_26 s_74 (by omega) (by decide) rfl ?_
      refine xr_if_ne (tgt := 34) dX10_lyingOf_27 rfl (fun c2 => ?_) (fun c2 => ?_)
      · refine xr_iconst (v := 0) dX10_lyingOf_34 rfl ?_
        refine xr_iadd dX10_lyingOf_35 ?_
        refine xr_istore_n (ls2 := [(2, .int ((ny + 0))), (3, .int (nI (k))), (1, .int (se)), (0, .ref (62))]) dX10_lyingOf_36 (by decide) rfl ?_
        refine xr_iinc (v := nI (k + 1)) (ls2 := [(3, .int (nI (k + 1))), (2, .int ((ny + 0))), (1, .int (se)), (0, .ref (62))]) dX10_lyingOf_37 1 rfl (nI_1 _) (by decide) rfl ?_
        refine xr_goto (tgt := 4) dX10_lyingOf_40 rfl ?_
        refine xb_ls (ls2 := [(3, .int (nI (k + 1))), (2, .int ((ny + 0))), (1, .int (se)), (0, .ref (62))]) [0, 1, 2, 3] rfl ?_
        exact ih (k + 1) (ny + 0) (by omega) (lyn_n hI (fun z => c2 ((hA k (by omega)).2.2.2.2.trans z.2)))
      · refine xr_iconst (v := 1) dX10_lyingOf_30 rfl ?_
        refine xr_goto (tgt := 35) dX10_lyingOf_31 rfl ?_
        refine xr_iadd dX10_lyingOf_35 ?_
        refine xr_istore_n (ls2 := [(2, .int ((ny + 1))), (3, .int (nI (k))), (1, .int (se)), (0, .ref (62))]) dX10_lyingOf_36 (by decide) rfl ?_
        refine xr_iinc (v := nI (k + 1)) (ls2 := [(3, .int (nI (k + 1))), (2, .int ((ny + 1))), (1, .int (se)), (0, .ref (62))]) dX10_lyingOf_37 1 rfl (nI_1 _) (by decide) rfl ?_
        refine xr_goto (tgt := 4) dX10_lyingOf_40 rfl ?_
        refine xb_ls (ls2 := [(3, .int (nI (k + 1))), (2, .int ((ny + 1))), (1, .int (se)), (0, .ref (62))]) [0, 1, 2, 3] rfl ?_
        exact ih (k + 1) (ny + 1) (by omega) (lyn_y hI c1 ((hA k (by omega)).2.2.2.2.symm.trans c2))
set_option maxRecDepth 100000 in
set_option maxHeartbeats 4000000 in
theorem gw_X10_lyingOf (se : Int32) {D : xM} {hn : Nat} (h_hn : hn ≤ 5) {l : Launch} {G : xG} {M : xM} {J : xJ} (e_hn : M 62 6 = nI hn) (hA : AbR hn M D) : x_M l G fX10_lyingOf 1 0 0 [.ref (62), .int (se)] x_SH M J (qPI M J (fun r => r = nI (lyn se hn D))) := by
  refine xb_of pX10 (Nat.le_of_ble_eq_true rfl) rfl ?_
  refine xr_iconst (v := 0) dX10_lyingOf_0 rfl ?_
  refine xr_istore_n (ls2 := [(2, .int (0)), (0, .ref (62)), (1, .int (se))]) dX10_lyingOf_1 (by decide) rfl ?_
  refine xr_iconst (v := 0) dX10_lyingOf_2 rfl ?_
  refine xr_istore_n (ls2 := [(3, .int (0)), (2, .int (0)), (0, .ref (62)), (1, .int (se))]) dX10_lyingOf_3 (by decide) rfl ?_
  refine xb_ls (ls2 := [(3, .int (nI (0))), (2, .int (0)), (1, .int (se)), (0, .ref (62))]) [0, 1, 3, 2] rfl ?_
  refine lyx h_hn e_hn hA (fun q1 hI => ?_) (hn - 0) 0 0 (by omega) rfl
  refine xr_iload_n dX10_lyingOf_43 0 rfl ?_
  exact xr_iret dX10_lyingOf_44 rfl rfl (⟨_, rfl, rfl, rfl, rfl, hI⟩)
set_option maxRecDepth 100000 in
set_option maxHeartbeats 4000000 in
theorem bow_l {se : Int32} {l : Launch} {G : xG} {M : xM} {J : xJ} {Q : xQ} : ∀ (m : Nat) (lf c : Int32), lf.toBitVec.toNat ≤ m → Q (some (.int (bcF m lf c))) x_SH M J → x_X l G fX10_bitsOf 0 0 0 Q 4 [(2, .int (lf)), (1, .int (c)), (0, .int (se))] [] x_SH M J 0 0 := by
  intro m
  induction m with
  | zero =>
    intro lf c hm hQ
    refine xr_iload_n dX10_bitsOf_4 0 rfl ?_
    refine xr_if_eq (tgt := 20) dX10_bitsOf_5 rfl (fun c1 => ?_) (fun c1 => ?_)
    · refine xr_iload_n dX10_bitsOf_20 1 rfl ?_
      exact xr_iret dX10_bitsOf_21 rfl rfl (hQ)
    · have hlt := sx_bit c1
      exact absurd hm (by omega)
  | succ m ih =>
    intro lf c hm hQ
    refine xr_iload_n dX10_bitsOf_4 0 rfl ?_
    refine xr_if_eq (tgt := 20) dX10_bitsOf_5 rfl (fun c1 => ?_) (fun c1 => ?_)
    · refine xr_iload_n dX10_bitsOf_20 1 rfl ?_
      exact xr_iret dX10_bitsOf_21 rfl rfl (((if_pos c1 : bcF (m + 1) lf c = c) ▸ hQ))
    · have hlt := sx_bit c1
      refine xr_iinc (v := c + 1) (ls2 := [(1, .int (c + 1)), (2, .int (lf)), (0, .int (se))]) dX10_bitsOf_8 1 rfl rfl (by decide) rfl ?_
      refine xr_iload_n dX10_bitsOf_11 1 rfl ?_
      refine xr_iload_n dX10_bitsOf_12 1 rfl ?_
      refine xr_iconst (v := 1) dX10_bitsOf_13 rfl ?_
      refine xr_isub dX10_bitsOf_14 ?_
      refine xr_iand dX10_bitsOf_15 ?_
      refine xr_istore_n (ls2 := [(2, .int ((lf &&& (lf - 1)))), (1, .int (c + 1)), (0, .int (se))]) dX10_bitsOf_16 (by decide) rfl ?_
      refine xr_goto (tgt := 4) dX10_bitsOf_17 rfl ?_
      refine xb_ls (ls2 := [(2, .int ((lf &&& (lf - 1)))), (1, .int (c + 1)), (0, .int (se))]) [0, 1, 2] rfl ?_
      exact ih (lf &&& (lf - 1)) (c + 1) (by omega) ((if_neg c1 : bcF (m + 1) lf c = bcF m (lf &&& (lf - 1)) (c + 1)) ▸ hQ)
set_option maxRecDepth 100000 in
set_option maxHeartbeats 4000000 in
theorem gw_X10_bitsOf (se : Int32) (hb32 : se.toBitVec.toNat ≤ 32) {l : Launch} {G : xG} {M : xM} {J : xJ} : x_M l G fX10_bitsOf 0 0 0 [.int (se)] x_SH M J (qPI M J (fun r => r = bcF 32 se 0)) := by
  refine xb_of pX10 (Nat.le_of_ble_eq_true rfl) rfl ?_
  refine xr_iconst (v := 0) dX10_bitsOf_0 rfl ?_
  refine xr_istore_n (ls2 := [(1, .int (0)), (0, .int (se))]) dX10_bitsOf_1 (by decide) rfl ?_
  refine xr_iload_n dX10_bitsOf_2 1 rfl ?_
  refine xr_istore_n (ls2 := [(2, .int (se)), (1, .int (0)), (0, .int (se))]) dX10_bitsOf_3 (by decide) rfl ?_
  refine xb_ls (ls2 := [(2, .int (se)), (1, .int (0)), (0, .int (se))]) [0, 1, 2] rfl ?_
  exact bow_l 32 se 0 hb32 ⟨_, rfl, rfl, rfl, rfl, rfl⟩
set_option maxRecDepth 100000 in
set_option maxHeartbeats 4000000 in
theorem bgx {se : Int32} {D : xM} {hn : Nat} (h_hn : hn ≤ 5) {l : Launch} {G : xG} {M : xM} {J : xJ} {Q : xQ} (e_hn : M 62 6 = nI hn) (hA : AbS hn M D) (hC : ∀ (M2 : xM), Ke WBG M M2 → (BGi se D M2 hn) → x_X l G fX10_begins1 1 0 0 Q 79 [(1, .int (se)), (0, .ref (62))] [] x_SH M2 J 0 0) : ∀ (m k : Nat) (M1 : xM), k + m = hn → Ke WBG M M1 → (BGi se D M1 k) → x_X l G fX10_begins1 1 0 0 Q 2 [(2, .int (nI (k))), (1, .int (se)), (0, .ref (62))] [] x_SH M1 J 0 0 := by
  intro m
  induction m with
  | zero =>
    intro k M1 hk hM hI
    refine xr_iload_n dX10_begins1_2 0 rfl ?_
    refine xr_aload_n dX10_begins1_3 2 rfl ?_
    refine xb_get (v := nI (hn)) flX10_109 dX10_begins1_4 s_62 rfl (Eq.trans (hM 62 6 (by decide)) e_hn) ?_
    refine xr_icmp_ge (tgt := 79) dX10_begins1_7 rfl (fun _ => ?_) (fun c => absurd (nI_le (a := hn) (b := k) (by omega) (by omega)) c)
    refine xb_ls (ls2 := [(1, .int (se)), (0, .ref (62))]) [1, 2] rfl ?_
    exact hC _ hM (by obtain rfl : k = hn := (by omega); exact hI)
  | succ m ih =>
    intro k M1 hk hM hI
    have hkN : k < hn := by omega
    refine xr_iload_n dX10_begins1_2 0 rfl ?_
    refine xr_aload_n dX10_begins1_3 2 rfl ?_
    refine xb_get (v := nI (hn)) flX10_109 dX10_begins1_4 s_62 rfl (Eq.trans (hM 62 6 (by decide)) e_hn) ?_
    refine xr_icmp_ge (tgt := 79) dX10_begins1_7 rfl (fun c => absurd c (nI_ge (a := k) (b := hn) (by omega) (by omega))) (fun _ => ?_)
    refine xr_aload_n dX10_begins1_10 2 rfl ?_
    refine xr_getR flX10_37 dX10_begins1_11 s_62 rfl ?_
    refine xr_iload_n dX10_begins1_14 0 rfl ?_
    refine xr_aload_n dX10_begins1_15 2 rfl ?_
    refine xr_getR flX10_22 dX10_begins1_16 s_62 rfl ?_
    refine xr_iload_n dX10_begins1_19 0 rfl ?_
    refine xb_iald (j := k) (v := (D k 2)) dX10_begins1_20 s_67 (by omega) (by decide) (Eq.trans (hM 67 k (by unfold WBG; omega)) (hA k (by omega)).2.2.1) ?_
    refine xb_iast (j := k) dX10_begins1_21 s_72 (by omega) (by decide) ?_
    refine xr_aload_n dX10_begins1_22 2 rfl ?_
    refine xr_getR flX10_40 dX10_begins1_23 s_62 rfl ?_
    refine xr_iload_n dX10_begins1_26 0 rfl ?_
    refine xr_iload_n dX10_begins1_27 1 rfl ?_
    refine xr_iload_n dX10_begins1_28 0 rfl ?_
    refine xb_cS (As := [.int (se), .int (nI (k))]) (rest := [.int (nI (k)), .ref (73)]) mlX10_214 (cw_X10_isIn se k) dX10_begins1_29 rfl rfl (Nat.le_of_ble_eq_true rfl) (by decide) (by decide) ?_
    refine xb_beq (tgt := 47) dX10_begins1_32 rfl (fun c1 => ?_) (fun c1 => ?_)
    · refine xr_iconst (v := 0) dX10_begins1_47 rfl ?_
      refine xb_iast (j := k) dX10_begins1_48 s_73 (by omega) (by decide) ?_
      refine xr_aload_n dX10_begins1_49 2 rfl ?_
      refine xr_getR flX10_43 dX10_begins1_50 s_62 rfl ?_
      refine xr_iload_n dX10_begins1_53 0 rfl ?_
      refine xr_iload_n dX10_begins1_54 1 rfl ?_
      refine xr_iload_n dX10_begins1_55 0 rfl ?_
      refine xb_cS (As := [.int (se), .int (nI (k))]) (rest := [.int (nI (k)), .ref (74)]) mlX10_214 (cw_X10_isIn se k) dX10_begins1_56 rfl rfl (Nat.le_of_ble_eq_true rfl) (by decide) (by decide) ?_
      refine xb_beq (tgt := 71) dX10_begins1_59 rfl (fun _ => ?_) (fun c => absurd c c1)
      refine xr_iconst (v := 0) dX10_begins1_71 rfl ?_
      refine xb_iast (j := k) dX10_begins1_72 s_74 (by omega) (by decide) ?_
      refine xr_iinc (v := nI (k + 1)) (ls2 := [(2, .int (nI (k + 1))), (1, .int (se)), (0, .ref (62))]) dX10_begins1_73 0 rfl (nI_1 _) (by decide) rfl ?_
      refine xr_goto (tgt := 2) dX10_begins1_76 rfl ?_
      refine xb_ls (ls2 := [(2, .int (nI (k + 1))), (1, .int (se)), (0, .ref (62))]) [0, 1, 2] rfl ?_
      exact ih (k + 1) (x_up (x_up (x_up M1 72 k (D k 2)) 73 k 0) 74 k 0) (by omega) (Ke.up (by omega) (Ke.up (by omega) (Ke.up (by omega) hM))) (BGi_s hI msk_2 (msk_n (Or.inl rfl) c1) (msk_n (Or.inr rfl) c1))
    · refine xr_aload_n dX10_begins1_35 2 rfl ?_
      refine xr_getR flX10_9 dX10_begins1_36 s_62 rfl ?_
      refine xr_bipush (v := 10) dX10_begins1_39 rfl ?_
      refine xr_iload_n dX10_begins1_41 0 rfl ?_
      refine xr_iadd dX10_begins1_42 ?_
      refine xb_top (y := nI (10 + k)) (nI_add (10) (k)) ?_
      refine xb_iald (j := 10 + k) (v := (D k 3)) dX10_begins1_43 s_63 (by omega) (by decide) (Eq.trans (congrFun (x_up_n _ _ _ (by decide)) _) (Eq.trans (hM 63 (10 + k) (by unfold WBG; omega)) (hA k (by omega)).2.2.2.1)) ?_
      refine xr_goto (tgt := 48) dX10_begins1_44 rfl ?_
      refine xb_iast (j := k) dX10_begins1_48 s_73 (by omega) (by decide) ?_
      refine xr_aload_n dX10_begins1_49 2 rfl ?_
      refine xr_getR flX10_43 dX10_begins1_50 s_62 rfl ?_
      refine xr_iload_n dX10_begins1_53 0 rfl ?_
      refine xr_iload_n dX10_begins1_54 1 rfl ?_
      refine xr_iload_n dX10_begins1_55 0 rfl ?_
      refine xb_cS (As := [.int (se), .int (nI (k))]) (rest := [.int (nI (k)), .ref (74)]) mlX10_214 (cw_X10_isIn se k) dX10_begins1_56 rfl rfl (Nat.le_of_ble_eq_true rfl) (by decide) (by decide) ?_
      refine xb_beq (tgt := 71) dX10_begins1_59 rfl (fun c => absurd c1 c) (fun _ => ?_)
      refine xr_aload_n dX10_begins1_62 2 rfl ?_
      refine xr_getR flX10_25 dX10_begins1_63 s_62 rfl ?_
      refine xr_iload_n dX10_begins1_66 0 rfl ?_
      refine xb_iald (j := k) (v := (D k 4)) dX10_begins1_67 s_68 (by omega) (by decide) (Eq.trans (congrFun (x_up_n _ _ _ (by decide)) _) (Eq.trans (congrFun (x_up_n _ _ _ (by decide)) _) (Eq.trans (hM 68 k (by unfold WBG; omega)) (hA k (by omega)).2.2.2.2))) ?_
      refine xr_goto (tgt := 72) dX10_begins1_68 rfl ?_
      refine xb_iast (j := k) dX10_begins1_72 s_74 (by omega) (by decide) ?_
      refine xr_iinc (v := nI (k + 1)) (ls2 := [(2, .int (nI (k + 1))), (1, .int (se)), (0, .ref (62))]) dX10_begins1_73 0 rfl (nI_1 _) (by decide) rfl ?_
      refine xr_goto (tgt := 2) dX10_begins1_76 rfl ?_
      refine xb_ls (ls2 := [(2, .int (nI (k + 1))), (1, .int (se)), (0, .ref (62))]) [0, 1, 2] rfl ?_
      exact ih (k + 1) (x_up (x_up (x_up M1 72 k (D k 2)) 73 k (D k 3)) 74 k (D k 4)) (by omega) (Ke.up (by omega) (Ke.up (by omega) (Ke.up (by omega) hM))) (BGi_s hI msk_2 (msk_y c1) (msk_y c1))
set_option maxRecDepth 100000 in
set_option maxHeartbeats 4000000 in
theorem gw_X10_begins1 (se : Int32) {D : xM} {hn : Nat} (h_hn : hn ≤ 5) {l : Launch} {G : xG} {M : xM} {J : xJ} (e_hn : M 62 6 = nI hn) (hA : AbS hn M D) : x_M l G fX10_begins1 1 0 0 [.ref (62), .int (se)] x_SH M J (qKV WBG M J (fun M2 => AbR hn M2 (w_msk se D))) := by
  refine xb_of pX10 (Nat.le_of_ble_eq_true rfl) rfl ?_
  refine xr_iconst (v := 0) dX10_begins1_0 rfl ?_
  refine xr_istore_n (ls2 := [(2, .int (0)), (0, .ref (62)), (1, .int (se))]) dX10_begins1_1 (by decide) rfl ?_
  refine xb_ls (ls2 := [(2, .int (nI (0))), (1, .int (se)), (0, .ref (62))]) [0, 2, 1] rfl ?_
  refine bgx h_hn e_hn hA (fun M1 k2 hI => ?_) (hn - 0) 0 M (by omega) Ke.rf BGi_0
  exact xr_vret dX10_begins1_79 rfl (⟨rfl, rfl, rfl, (Ke.tr (fun _ _ h => h) Ke.rf k2), (BGi_T hA (fun k => k2 63 k (by unfold WBG; omega)) hI)⟩)
theorem ne2_0 {v : Int32} (h : 2 ≤ v) : ¬ v = 0 := fun q => by rw [q] at h; exact absurd h (by decide)
set_option maxRecDepth 100000 in
set_option maxHeartbeats 4000000 in
theorem gcx {N : Nat} (hN : N ≤ 200) {nh : Nat} {t : Option zL} {S : Nat → Int32} (hn5 : nh ≤ 5) (hrub : 0 ≤ S 1 ∧ S 1 ≤ 3) (hbt : ¬ S 2 = 0) (T : xM × Int32 × Int32 × Int32) {l : Launch} {G : xG} {M : xM} {J : xJ} {Q : xQ} (e_cn : M 13 2 = nI nh) (e_rub : M 13 4 = S 1) (e_bt : M 13 5 = S 2) (e_ph : M 13 6 = S 3) (e_st : M 13 7 = S 4) (hL : LCt M t) (hC : ∀ (M2 : xM), Ke W13u M M2 → (GCi (PS nh t S) N T M2 N) → x_X l G fX9_go 6 0 0 Q 34 [(0, .ref (0))] [] x_SH M2 J 0 0) : ∀ (m k : Nat) (M1 : xM), k + m = N → Ke W13u M M1 → (GCi (PS nh t S) N T M1 k) → x_X l G fX9_go 6 0 0 Q 16 [(2, .int (nI (k))), (1, .int (nI (N))), (0, .ref (0))] [] x_SH M1 J 0 0 := by
  intro m
  induction m with
  | zero =>
    intro k M1 hk hM hI
    refine xr_iload_n dX9_go_16 0 rfl ?_
    refine xr_iload_n dX9_go_17 1 rfl ?_
    refine xr_icmp_ge (tgt := 34) dX9_go_18 rfl (fun _ => ?_) (fun c => absurd (nI_le (a := N) (b := k) (by omega) (by omega)) c)
    refine xb_ls (ls2 := [(0, .ref (0))]) [2] rfl ?_
    exact hC _ hM (by obtain rfl : k = N := (by omega); exact hI)
  | succ m ih =>
    intro k M1 hk hM hI
    have hkN : k < N := by omega
    refine xr_iload_n dX9_go_16 0 rfl ?_
    refine xr_iload_n dX9_go_17 1 rfl ?_
    refine xr_icmp_ge (tgt := 34) dX9_go_18 rfl (fun c => absurd c (nI_ge (a := k) (b := N) (by omega) (by omega))) (fun _ => ?_)
    obtain ⟨D1, hA1, hW1, hT1⟩ := hI
    refine xr_aload_n dX9_go_21 2 rfl ?_
    refine xr_getR flX9_28 dX9_go_22 s_0 rfl ?_
    refine xr_callV (As := []) (rest := []) mlX9_161 (gw_X5_tick_13 (cn := nh) hrub hbt hn5 (Eq.trans (hM 13 2 (by decide)) e_cn) rfl (Eq.trans (hM 13 4 (by decide)) e_rub) (Eq.trans (hM 13 5 (by decide)) e_bt) (Eq.trans (hM 13 6 (by decide)) e_ph) (Eq.trans (hM 13 7 (by decide)) e_st) rfl rfl (LCt_k (Eq.trans (hM 1 4 (by unfold W13u; omega)) rfl) (fun kl => (Eq.trans (hM 2 kl (by unfold W13u; omega)) rfl)) (fun kl => (Eq.trans (hM 3 kl (by unfold W13u; omega)) rfl)) hL) hA1 hW1) dX9_go_25 s_13 rfl rfl (Nat.le_of_ble_eq_true rfl) (by decide) ⟨by decide, by decide⟩ (fun v s2 M2 J2 hq => ?_)
    obtain ⟨rfl, rfl, rfl, k3, hx1⟩ := hq
    try dsimp only [Option.toList, List.cons_append, List.nil_append]
    refine xr_iinc (v := nI (k + 1)) (ls2 := [(2, .int (nI (k + 1))), (1, .int (nI (N))), (0, .ref (0))]) dX9_go_28 0 rfl (nI_1 _) (by decide) rfl ?_
    refine xr_goto (tgt := 16) dX9_go_31 rfl ?_
    refine xb_ls (ls2 := [(2, .int (nI (k + 1))), (1, .int (nI (N))), (0, .ref (0))]) [0, 1, 2] rfl ?_
    exact ih (k + 1) M2 (by omega) (Ke.tr (fun _ _ h => h) hM k3) ⟨_, hx1.1, WF_tiF (P := (PS nh t S)) hW1, by rw [hx1.2.1, hx1.2.2.1, hx1.2.2.2]; exact (goF_s (P := (PS nh t S)) hkN _ _ _ _).trans hT1⟩
/-- what go answers and leaves -/
def EGoX (G : xM → Nat → xM → Option zL → (Nat → Int32) → Prop) (n : Nat) (D : xM) (t : Option zL) (S : Nat → Int32) (M2 : xM) (nn r : Int32) : Prop := ¬ (1 ≤ nn ∧ nn ≤ 200) ∧ r = -1 ∧ G M2 n D t S ∨ ∃ N : Nat, N ≤ 200 ∧ (1 ≤ nn ∧ nn ≤ 200) ∧ nn = nI N ∧ r = nI (upn n (goT n D t S N).1) ∧ G M2 n (goT n D t S N).1 t (goS S (goT n D t S N))
set_option maxRecDepth 100000 in
set_option maxHeartbeats 4000000 in
theorem gx_X9_go {nh : Nat} {D : xM} {t : Option zL} {S : Nat → Int32} (nn : Int32) {l : Launch} {G : xG} {M : xM} {J : xJ} (hI : InvC M) (hWG : WG nh D S) (hG : CG M nh D t S) : x_M l G fX9_go 6 0 0 [.ref (0), .int (nn)] x_SH M J (qKI W13t M J (fun r M2 => InvC M2 ∧ (EGoX CG nh D t S M2 nn r))) := by
  refine xb_of pX9 (Nat.le_of_ble_eq_true rfl) rfl ?_
  obtain ⟨⟨cn, h_cn, e_cn⟩, ⟨cm, h_cm, e_cm⟩, ⟨L, h_L, e_L⟩, hv, hD, ⟨n, h_n, e_n⟩, ⟨un, wn, h_uw, h_wn, e_un, e_wn⟩, ⟨b, h_b, e_b⟩, hkd, ⟨ra, h_ra, e_ra⟩, hsl, hS⟩ := hI
  have hG0 := hG
  obtain ⟨hn5, hW, hrub, hbeat⟩ := hWG
  obtain ⟨hGn, hA, hL, e_nw, e_rub, e_bt, e_ph, e_st, e_kn, e_pu, e_lf⟩ := hG
  obtain rfl : nh = cn := (nI_eq (by omega) (by omega)).mp (hGn.symm.trans e_cn)
  have hbt : ¬ S 2 = 0 := ne2_0 hbeat.1
  refine xr_iload_n dX9_go_0 1 rfl ?_
  refine xr_iconst (v := 1) dX9_go_1 rfl ?_
  refine xr_icmp_lt (tgt := 12) dX9_go_2 rfl (fun c1 => ?_) (fun c1 => ?_)
  · refine xr_iconst (v := -1) dX9_go_12 rfl ?_
    exact xr_iret dX9_go_13 rfl rfl (⟨_, rfl, rfl, rfl, Ke.rf, ⟨⟨⟨nh, by omega, e_cn⟩, ⟨cm, by omega, e_cm⟩, ⟨L, by omega, e_L⟩, (fun kk hkk => by rw [show M 3 kk = M 3 kk from rfl]; exact hv kk hkk), hD, ⟨n, by omega, e_n⟩, ⟨un, wn, by omega, by omega, e_un, e_wn⟩, ⟨b, by omega, e_b⟩, (fun j hj => by obtain ⟨q, hq, eq⟩ := hkd j hj; exact ⟨q, hq, (show M 47 j = M 47 j from rfl).trans eq⟩), ⟨ra, by omega, e_ra⟩, (fun j hj => by obtain ⟨s, hs, es⟩ := hsl j hj; exact ⟨s, hs, (show M (50 + 2 * j) 3 = M (50 + 2 * j) 3 from rfl).trans es⟩), (fun j hj => by obtain ⟨q, hq, eq⟩ := hS j hj; exact ⟨q, hq, (show M 36 j = M 36 j from rfl).trans eq⟩)⟩, (Or.inl ⟨fun q => absurd q.1 (by grind), rfl, hG0⟩)⟩⟩)
  · refine xr_iload_n dX9_go_5 1 rfl ?_
    refine xr_sipush (v := 200) dX9_go_6 rfl ?_
    refine xr_icmp_le (tgt := 14) dX9_go_9 rfl (fun c2 => ?_) (fun c2 => ?_)
    · refine xr_iconst (v := 0) dX9_go_14 rfl ?_
      refine xr_istore_n (ls2 := [(2, .int (0)), (0, .ref (0)), (1, .int (nn))]) dX9_go_15 (by decide) rfl ?_
      obtain ⟨N, hN, rfl⟩ := x_natle (v := nn) (N := 200) (K := 200) (by decide) (by decide) ⟨by grind, by grind⟩
      refine xb_ls (ls2 := [(2, .int (nI (0))), (1, .int (nI (N))), (0, .ref (0))]) [0, 2, 1] rfl ?_
      refine gcx (by omega) hn5 hrub hbt (goT nh D t S N) e_cn e_rub e_bt e_ph e_st hL (fun M3 k4 hGo => ?_) (N - 0) 0 M (by omega) Ke.rf ⟨D, hA, hW, by rw [e_nw, e_pu, e_lf]; rfl⟩
      have hGT := GCi_T hGo
      refine xr_aload_n dX9_go_34 0 rfl ?_
      refine xr_getR flX9_28 dX9_go_35 s_0 rfl ?_
      refine xr_callV (As := []) (rest := []) mlX9_164 (gw_X5_upright_13 (cn := nh) hn5 (Eq.trans (k4 13 2 (by decide)) e_cn) hGT.1) dX9_go_38 s_13 rfl rfl (Nat.le_of_ble_eq_true rfl) (by decide) ⟨by decide, by decide⟩ (fun v s2 M9 J2 hq => ?_)
      obtain ⟨r6, rfl, rfl, rfl, rfl, hx5⟩ := hq
      try dsimp only [Option.toList, List.cons_append, List.nil_append]
      exact xr_iret dX9_go_41 rfl rfl (⟨_, rfl, rfl, rfl, (Ke.tr (fun pp kk => (fun hh => Or.elim hh (fun h => (Or.inl h)) (fun hh => Or.elim hh (fun h => (Or.inr (Or.inl h))) (fun hh => Or.elim hh (fun h => (Or.inr (Or.inr (Or.inl (by omega))))) (fun hh => Or.elim hh (fun h => (Or.inr (Or.inr (Or.inl (by omega))))) (fun hh => Or.elim hh (fun h => (Or.inr (Or.inr (Or.inl (by omega))))) (fun h => (Or.inr (Or.inr (Or.inr h)))))))))) Ke.rf k4), ⟨⟨⟨nh, by omega, (Eq.trans (k4 13 2 (by decide)) e_cn)⟩, ⟨cm, by omega, (Eq.trans (k4 20 2 (by decide)) e_cm)⟩, ⟨L, by omega, (Eq.trans (k4 1 4 (by decide)) e_L)⟩, (fun kk hkk => by rw [show M3 3 kk = M 3 kk from (Eq.trans (k4 3 kk (by unfold W13u; omega)) rfl)]; exact hv kk hkk), (DI_ke (by intro k; unfold W13u; omega) k4 hD), ⟨n, by omega, (Eq.trans (k4 6 2 (by decide)) e_n)⟩, ⟨un, wn, by omega, by omega, (Eq.trans (k4 41 4 (by decide)) e_un), (Eq.trans (k4 41 5 (by decide)) e_wn)⟩, ⟨b, by omega, (Eq.trans (k4 46 2 (by decide)) e_b)⟩, (fun j hj => by obtain ⟨q, hq, eq⟩ := hkd j hj; exact ⟨q, hq, (show M3 47 j = M 47 j from (Eq.trans (k4 47 j (by unfold W13u; omega)) rfl)).trans eq⟩), ⟨ra, by omega, (Eq.trans (k4 46 3 (by decide)) e_ra)⟩, (fun j hj => by obtain ⟨s, hs, es⟩ := hsl j hj; exact ⟨s, hs, (show M3 (50 + 2 * j) 3 = M (50 + 2 * j) 3 from (Eq.trans (k4 (50 + 2 * j) 3 (by unfold W13u; omega)) rfl)).trans es⟩), (fun j hj => by obtain ⟨q, hq, eq⟩ := hS j hj; exact ⟨q, hq, (show M3 36 j = M 36 j from (Eq.trans (k4 36 j (by unfold W13u; omega)) rfl)).trans eq⟩)⟩, (Or.inr ⟨N, by omega, ⟨by grind, by grind⟩, rfl, hx5, ⟨(Eq.trans (k4 13 2 (by decide)) e_cn), hGT.1, (LCt_k (Eq.trans (k4 1 4 (by unfold W13u; omega)) rfl) (fun kl => (Eq.trans (k4 2 kl (by unfold W13u; omega)) rfl)) (fun kl => (Eq.trans (k4 3 kl (by unfold W13u; omega)) rfl)) hL), hGT.2.2.1, (Eq.trans (k4 13 4 (by decide)) e_rub), (Eq.trans (k4 13 5 (by decide)) e_bt), (Eq.trans (k4 13 6 (by decide)) e_ph), (Eq.trans (k4 13 7 (by decide)) e_st), (Eq.trans (k4 35 5 (by decide)) e_kn), hGT.2.2.2.1, hGT.2.2.2.2⟩⟩)⟩⟩)
    · refine xr_iconst (v := -1) dX9_go_12 rfl ?_
      exact xr_iret dX9_go_13 rfl rfl (⟨_, rfl, rfl, rfl, Ke.rf, ⟨⟨⟨nh, by omega, e_cn⟩, ⟨cm, by omega, e_cm⟩, ⟨L, by omega, e_L⟩, (fun kk hkk => by rw [show M 3 kk = M 3 kk from rfl]; exact hv kk hkk), hD, ⟨n, by omega, e_n⟩, ⟨un, wn, by omega, by omega, e_un, e_wn⟩, ⟨b, by omega, e_b⟩, (fun j hj => by obtain ⟨q, hq, eq⟩ := hkd j hj; exact ⟨q, hq, (show M 47 j = M 47 j from rfl).trans eq⟩), ⟨ra, by omega, e_ra⟩, (fun j hj => by obtain ⟨s, hs, es⟩ := hsl j hj; exact ⟨s, hs, (show M (50 + 2 * j) 3 = M (50 + 2 * j) 3 from rfl).trans es⟩), (fun j hj => by obtain ⟨q, hq, eq⟩ := hS j hj; exact ⟨q, hq, (show M 36 j = M 36 j from rfl).trans eq⟩)⟩, (Or.inl ⟨fun q => absurd q.1 (by grind), rfl, hG0⟩)⟩⟩)
abbrev WGO1 (p k : Nat) : Prop := (p = 62 ∧ k = 14) ∨ (p = 62 ∧ k = 15) ∨ (p = 62 ∧ k = 16) ∨ (p = 62 ∧ k = 17) ∨ (p = 62 ∧ k = 18) ∨ (p = 62 ∧ k = 23) ∨ (p = 62 ∧ k = 9) ∨ (p = 62 ∧ k = 25) ∨ (71 ≤ p ∧ p ≤ 74)
abbrev WCB (p k : Nat) : Prop := (67 ≤ p ∧ p ≤ 68) ∨ (p = 63 ∧ 10 ≤ k ∧ k ≤ 14)
set_option maxRecDepth 100000 in
set_option maxHeartbeats 4000000 in
theorem grx {up : Int32} {N : Nat} (hN : N ≤ 200) {nh : Nat} {D : xM} {t : Option zL} {S : Nat → Int32} (hn5 : nh ≤ 5) (hbt2 : ¬ S 2 = 0) (hs : ∀ k, k < nh → (w_in up k ↔ ¬ D k 4 = 0)) (T : xM × Int32 × Int32 × Int32) {l : Launch} {G : xG} {M : xM} {J : xJ} {Q : xQ} (e_hn : M 62 6 = nI nh) (e_rub : M 63 15 = S 1) (e_bt : M 63 16 = S 2) (e_ph : M 63 17 = S 3) (e_st : M 63 18 = S 4) (e_pu : M 62 24 = S 6) (hL : LRt M t) (hC : ∀ (M2 : xM), Ke WGO1 M M2 → (GRi (PS nh t S) N D (S 6) T M2 N) → x_X l G fX10_go 62 0 0 Q 92 [(2, .int (up)), (0, .ref (62))] [] x_SH M2 J 0 0) : ∀ (m k : Nat) (M1 : xM), k + m = N → Ke WGO1 M M1 → (GRi (PS nh t S) N D (S 6) T M1 k) → x_X l G fX10_go 62 0 0 Q 31 [(3, .int (nI (k))), (2, .int (up)), (1, .int (nI (N))), (0, .ref (62))] [] x_SH M1 J 0 0 := by
  intro m
  induction m with
  | zero =>
    intro k M1 hk hM hI
    refine xr_iload_n dX10_go_31 0 rfl ?_
    refine xr_iload_n dX10_go_32 2 rfl ?_
    refine xr_icmp_ge (tgt := 92) dX10_go_33 rfl (fun _ => ?_) (fun c => absurd (nI_le (a := N) (b := k) (by omega) (by omega)) c)
    refine xb_ls (ls2 := [(2, .int (up)), (0, .ref (62))]) [1, 3] rfl ?_
    exact hC _ hM (by obtain rfl : k = N := (by omega); exact hI)
  | succ m ih =>
    intro k M1 hk hM hI
    have hkN : k < N := by omega
    refine xr_iload_n dX10_go_31 0 rfl ?_
    refine xr_iload_n dX10_go_32 2 rfl ?_
    refine xr_icmp_ge (tgt := 92) dX10_go_33 rfl (fun c => absurd c (nI_ge (a := k) (b := N) (by omega) (by omega))) (fun _ => ?_)
    obtain ⟨D1, hA1, hW1, hm1, hT1⟩ := hI
    refine xr_aload_n dX10_go_36 3 rfl ?_
    refine xr_iload_n dX10_go_37 1 rfl ?_
    refine xr_callV (As := [.int (up)]) (rest := []) mlX10_252 (gw_X10_lyingOf up (D := D1) (hn := nh) hn5 (Eq.trans (hM 62 6 (by decide)) e_hn) hA1) dX10_go_38 s_62 rfl rfl (Nat.le_of_ble_eq_true rfl) (by decide) ⟨by decide, by decide⟩ (fun v s2 M9 J2 hq => ?_)
    obtain ⟨r2, rfl, rfl, rfl, rfl, hx1⟩ := hq
    try dsimp only [Option.toList, List.cons_append, List.nil_append]
    subst hx1
    refine xr_istore (ls2 := [(4, .int (nI (lyn up nh D1))), (3, .int (nI (k))), (2, .int (up)), (1, .int (nI (N))), (0, .ref (62))]) dX10_go_41 (by decide) rfl ?_
    refine xr_aload_n dX10_go_43 4 rfl ?_
    refine xr_aload_n dX10_go_44 4 rfl ?_
    refine xb_get (v := (M1 62 9)) flX10_151 dX10_go_45 s_62 rfl rfl ?_
    refine xr_callV (As := [.int ((M1 62 9))]) (rest := []) mlX10_255 (gw_X10_tickGoes (M1 62 9) (pd := M1 62 23) (t := t) (D := D1) (hn := nh) hbt2 hn5 (Eq.trans (hM 62 6 (by decide)) e_hn) (Eq.trans (hM 63 15 (by decide)) e_rub) (Eq.trans (hM 63 16 (by decide)) e_bt) (Eq.trans (hM 63 17 (by decide)) e_ph) (Eq.trans (hM 63 18 (by decide)) e_st) rfl (LRt_k (Eq.trans (hM 62 13 (by unfold WGO1; omega)) rfl) (Eq.trans (funext fun kk => hM 70 kk (by unfold WGO1; omega)) rfl) hL) hA1 hW1) dX10_go_48 s_62 rfl rfl (Nat.le_of_ble_eq_true rfl) (by decide) ⟨by decide, by decide⟩ (fun v s2 M4 J2 hq => ?_)
    obtain ⟨rfl, rfl, rfl, k5, hx3⟩ := hq
    try dsimp only [Option.toList, List.cons_append, List.nil_append]
    refine xr_aload_n dX10_go_51 4 rfl ?_
    refine xr_aload_n dX10_go_52 4 rfl ?_
    refine xr_iload_n dX10_go_53 2 rfl ?_
    refine xr_callV (As := [.int (up)]) (rest := [.ref (62)]) mlX10_252 (gw_X10_lyingOf up (D := (tiF (PS nh t S) (M1 62 9) D1)) (hn := nh) hn5 (Eq.trans (k5 62 6 (by decide)) (Eq.trans (hM 62 6 (by decide)) e_hn)) hx3.1) dX10_go_54 s_62 rfl rfl (Nat.le_of_ble_eq_true rfl) (by decide) ⟨by decide, by decide⟩ (fun v s2 M9 J2 hq => ?_)
    obtain ⟨r7, rfl, rfl, rfl, rfl, hx6⟩ := hq
    try dsimp only [Option.toList, List.cons_append, List.nil_append]
    subst hx6
    refine xr_iload dX10_go_57 0 rfl ?_
    refine xr_icmp_le (tgt := 69) dX10_go_59 rfl (fun c8 => ?_) (fun c8 => ?_)
    · refine xr_aload_n dX10_go_69 4 rfl ?_
      refine xb_get (v := (M1 62 25)) flX10_46 dX10_go_70 s_62 rfl (Eq.trans (k5 62 25 (by decide)) rfl) ?_
      refine xr_putI fpX10_46 dX10_go_73 s_62 rfl rfl rfl ?_
      refine xr_aload_n dX10_go_76 4 rfl ?_
      refine xr_dup dX10_go_77 rfl ?_
      refine xb_get (v := (M1 62 9)) flX10_151 dX10_go_78 s_62 rfl (Eq.trans (x_up_k _ _ _ (by decide)) (Eq.trans (k5 62 9 (by decide)) rfl)) ?_
      refine xr_iconst (v := 1) dX10_go_81 rfl ?_
      refine xr_iadd dX10_go_82 ?_
      refine xr_putI fpX10_151 dX10_go_83 s_62 rfl rfl rfl ?_
      refine xr_iinc (v := nI (k + 1)) (ls2 := [(3, .int (nI (k + 1))), (4, .int (nI (lyn up nh D1))), (2, .int (up)), (1, .int (nI (N))), (0, .ref (62))]) dX10_go_86 1 rfl (nI_1 _) (by decide) rfl ?_
      refine xr_goto (tgt := 31) dX10_go_89 rfl ?_
      refine xb_ls (ls2 := [(3, .int (nI (k + 1))), (2, .int (up)), (1, .int (nI (N))), (0, .ref (62))]) [0, 2, 3, 4] rfl ?_
      exact ih (k + 1) (x_up (x_up M4 62 25 (M1 62 25)) 62 9 ((M1 62 9) + 1)) (by omega) (Ke.up (Or.inr (Or.inr (Or.inr (Or.inr (Or.inr (Or.inr (Or.inl (by omega)))))))) (Ke.up (Or.inr (Or.inr (Or.inr (Or.inr (Or.inr (Or.inr (Or.inr (Or.inl (by omega))))))))) (Ke.tr (fun pp kk => (fun hh => Or.elim hh (fun h => (Or.inl h)) (fun hh => Or.elim hh (fun h => (Or.inr (Or.inl h))) (fun hh => Or.elim hh (fun h => (Or.inr (Or.inr (Or.inl h)))) (fun hh => Or.elim hh (fun h => (Or.inr (Or.inr (Or.inr (Or.inl h))))) (fun hh => Or.elim hh (fun h => (Or.inr (Or.inr (Or.inr (Or.inr (Or.inl h)))))) (fun hh => Or.elim hh (fun h => (Or.inr (Or.inr (Or.inr (Or.inr (Or.inr (Or.inl h))))))) (fun h => (Or.inr (Or.inr (Or.inr (Or.inr (Or.inr (Or.inr (Or.inr (Or.inr h)))))))))))))))) hM k5))) ⟨_, (AbR_n (AbR_n hx3.1 (by decide)) (by decide)), WF_tiF (P := (PS nh t S)) hW1, mo_tr hm1 tiF_m.1, by
                  rw [show _ = (M1 62 9) + 1 from (x_up_s _ _ _ _), show _ = (if upn nh (tiF (PS nh t S) (M1 62 9) D1) < upn nh D1 then M1 62 9 else M1 62 25) from ((Eq.trans (x_up_k _ _ _ (by decide)) (x_up_s _ _ _ _))).trans (if_neg (fun q => absurd ((nI_leI (by have := lyn_b (S := up) (D := tiF (PS nh t S) (M1 62 9) D1) nh; omega) (by have := lyn_b (S := up) (D := D1) nh; omega)).mp c8) (Nat.not_le.mpr ((ly_if (nw := 0) (old := 0) hs hm1 tiF_m.1).mpr q)))).symm, ad_if (pu := S 6) ((Eq.trans (x_up_k _ _ _ (by decide)) (Eq.trans (x_up_k _ _ _ (by decide)) hx3.2)))]; exact (goF_s (P := (PS nh t S)) hkN _ _ _ _).trans hT1⟩
    · refine xr_aload_n dX10_go_62 4 rfl ?_
      refine xb_get (v := (M1 62 9)) flX10_151 dX10_go_63 s_62 rfl (Eq.trans (k5 62 9 (by decide)) rfl) ?_
      refine xr_goto (tgt := 73) dX10_go_66 rfl ?_
      refine xr_putI fpX10_46 dX10_go_73 s_62 rfl rfl rfl ?_
      refine xr_aload_n dX10_go_76 4 rfl ?_
      refine xr_dup dX10_go_77 rfl ?_
      refine xb_get (v := (M1 62 9)) flX10_151 dX10_go_78 s_62 rfl (Eq.trans (x_up_k _ _ _ (by decide)) (Eq.trans (k5 62 9 (by decide)) rfl)) ?_
      refine xr_iconst (v := 1) dX10_go_81 rfl ?_
      refine xr_iadd dX10_go_82 ?_
      refine xr_putI fpX10_151 dX10_go_83 s_62 rfl rfl rfl ?_
      refine xr_iinc (v := nI (k + 1)) (ls2 := [(3, .int (nI (k + 1))), (4, .int (nI (lyn up nh D1))), (2, .int (up)), (1, .int (nI (N))), (0, .ref (62))]) dX10_go_86 1 rfl (nI_1 _) (by decide) rfl ?_
      refine xr_goto (tgt := 31) dX10_go_89 rfl ?_
      refine xb_ls (ls2 := [(3, .int (nI (k + 1))), (2, .int (up)), (1, .int (nI (N))), (0, .ref (62))]) [0, 2, 3, 4] rfl ?_
      exact ih (k + 1) (x_up (x_up M4 62 25 (M1 62 9)) 62 9 ((M1 62 9) + 1)) (by omega) (Ke.up (Or.inr (Or.inr (Or.inr (Or.inr (Or.inr (Or.inr (Or.inl (by omega)))))))) (Ke.up (Or.inr (Or.inr (Or.inr (Or.inr (Or.inr (Or.inr (Or.inr (Or.inl (by omega))))))))) (Ke.tr (fun pp kk => (fun hh => Or.elim hh (fun h => (Or.inl h)) (fun hh => Or.elim hh (fun h => (Or.inr (Or.inl h))) (fun hh => Or.elim hh (fun h => (Or.inr (Or.inr (Or.inl h)))) (fun hh => Or.elim hh (fun h => (Or.inr (Or.inr (Or.inr (Or.inl h))))) (fun hh => Or.elim hh (fun h => (Or.inr (Or.inr (Or.inr (Or.inr (Or.inl h)))))) (fun hh => Or.elim hh (fun h => (Or.inr (Or.inr (Or.inr (Or.inr (Or.inr (Or.inl h))))))) (fun h => (Or.inr (Or.inr (Or.inr (Or.inr (Or.inr (Or.inr (Or.inr (Or.inr h)))))))))))))))) hM k5))) ⟨_, (AbR_n (AbR_n hx3.1 (by decide)) (by decide)), WF_tiF (P := (PS nh t S)) hW1, mo_tr hm1 tiF_m.1, by
                  rw [show _ = (M1 62 9) + 1 from (x_up_s _ _ _ _), show _ = (if upn nh (tiF (PS nh t S) (M1 62 9) D1) < upn nh D1 then M1 62 9 else M1 62 25) from ((Eq.trans (x_up_k _ _ _ (by decide)) (x_up_s _ _ _ _))).trans (if_pos ((ly_if (nw := 0) (old := 0) hs hm1 tiF_m.1).mp (Nat.lt_of_not_le (fun q => c8 ((nI_leI (by have := lyn_b (S := up) (D := tiF (PS nh t S) (M1 62 9) D1) nh; omega) (by have := lyn_b (S := up) (D := D1) nh; omega)).mpr q))))).symm, ad_if (pu := S 6) ((Eq.trans (x_up_k _ _ _ (by decide)) (Eq.trans (x_up_k _ _ _ (by decide)) hx3.2)))]; exact (goF_s (P := (PS nh t S)) hkN _ _ _ _).trans hT1⟩
set_option maxRecDepth 100000 in
set_option maxHeartbeats 4000000 in
theorem gbx {up : Int32} {D : xM} {hn : Nat} (h_hn : hn ≤ 5) {l : Launch} {G : xG} {M : xM} {J : xJ} {Q : xQ} (e_hn : M 62 6 = nI hn) (hA : AbR hn M D) (hC : ∀ (M2 : xM), Ke WCB M M2 → (CBi D M2 hn) → x_X l G fX10_go 62 0 0 Q 160 [(0, .ref (62))] [] x_SH M2 J 0 0) : ∀ (m k : Nat) (M1 : xM), k + m = hn → Ke WCB M M1 → (CBi D M1 k) → x_X l G fX10_go 62 0 0 Q 107 [(3, .int (nI (k))), (2, .int (up)), (0, .ref (62))] [] x_SH M1 J 0 0 := by
  intro m
  induction m with
  | zero =>
    intro k M1 hk hM hI
    refine xr_iload_n dX10_go_107 0 rfl ?_
    refine xr_aload_n dX10_go_108 2 rfl ?_
    refine xb_get (v := nI (hn)) flX10_109 dX10_go_109 s_62 rfl (Eq.trans (hM 62 6 (by decide)) e_hn) ?_
    refine xr_icmp_ge (tgt := 160) dX10_go_112 rfl (fun _ => ?_) (fun c => absurd (nI_le (a := hn) (b := k) (by omega) (by omega)) c)
    refine xb_ls (ls2 := [(0, .ref (62))]) [2] rfl ?_
    exact hC _ hM (by obtain rfl : k = hn := (by omega); exact hI)
  | succ m ih =>
    intro k M1 hk hM hI
    have hkN : k < hn := by omega
    refine xr_iload_n dX10_go_107 0 rfl ?_
    refine xr_aload_n dX10_go_108 2 rfl ?_
    refine xb_get (v := nI (hn)) flX10_109 dX10_go_109 s_62 rfl (Eq.trans (hM 62 6 (by decide)) e_hn) ?_
    refine xr_icmp_ge (tgt := 160) dX10_go_112 rfl (fun c => absurd c (nI_ge (a := k) (b := hn) (by omega) (by omega))) (fun _ => ?_)
    refine xr_aload_n dX10_go_115 2 rfl ?_
    refine xr_getR flX10_22 dX10_go_116 s_62 rfl ?_
    refine xr_iload_n dX10_go_119 0 rfl ?_
    refine xr_aload_n dX10_go_120 2 rfl ?_
    refine xr_getR flX10_37 dX10_go_121 s_62 rfl ?_
    refine xr_iload_n dX10_go_124 0 rfl ?_
    refine xb_iald (j := k) (v := (D k 2)) dX10_go_125 s_72 (by omega) (by decide) (Eq.trans (hM 72 k (by unfold WCB; omega)) (hA k (by omega)).2.2.1) ?_
    refine xb_iast (j := k) dX10_go_126 s_67 (by omega) (by decide) ?_
    refine xr_aload_n dX10_go_127 2 rfl ?_
    refine xr_getR flX10_9 dX10_go_128 s_62 rfl ?_
    refine xr_bipush (v := 10) dX10_go_131 rfl ?_
    refine xr_iload_n dX10_go_133 0 rfl ?_
    refine xr_iadd dX10_go_134 ?_
    refine xb_top (y := nI (10 + k)) (nI_add (10) (k)) ?_
    refine xr_aload_n dX10_go_135 2 rfl ?_
    refine xr_getR flX10_40 dX10_go_136 s_62 rfl ?_
    refine xr_iload_n dX10_go_139 0 rfl ?_
    refine xb_iald (j := k) (v := (D k 3)) dX10_go_140 s_73 (by omega) (by decide) (Eq.trans (congrFun (x_up_n _ _ _ (by decide)) _) (Eq.trans (hM 73 k (by unfold WCB; omega)) (hA k (by omega)).2.2.2.1)) ?_
    refine xb_iast (j := 10 + k) dX10_go_141 s_63 (by omega) (by decide) ?_
    refine xr_aload_n dX10_go_142 2 rfl ?_
    refine xr_getR flX10_25 dX10_go_143 s_62 rfl ?_
    refine xr_iload_n dX10_go_146 0 rfl ?_
    refine xr_aload_n dX10_go_147 2 rfl ?_
    refine xr_getR flX10_43 dX10_go_148 s_62 rfl ?_
    refine xr_iload_n dX10_go_151 0 rfl ?_
    refine xb_iald (j := k) (v := (D k 4)) dX10_go_152 s_74 (by omega) (by decide) (Eq.trans (congrFun (x_up_n _ _ _ (by decide)) _) (Eq.trans (congrFun (x_up_n _ _ _ (by decide)) _) (Eq.trans (hM 74 k (by unfold WCB; omega)) (hA k (by omega)).2.2.2.2))) ?_
    refine xb_iast (j := k) dX10_go_153 s_68 (by omega) (by decide) ?_
    refine xr_iinc (v := nI (k + 1)) (ls2 := [(3, .int (nI (k + 1))), (2, .int (up)), (0, .ref (62))]) dX10_go_154 0 rfl (nI_1 _) (by decide) rfl ?_
    refine xr_goto (tgt := 107) dX10_go_157 rfl ?_
    refine xb_ls (ls2 := [(3, .int (nI (k + 1))), (2, .int (up)), (0, .ref (62))]) [0, 1, 2] rfl ?_
    exact ih (k + 1) (x_up (x_up (x_up M1 67 k (D k 2)) 63 (10 + k) (D k 3)) 68 k (D k 4)) (by omega) (Ke.up (Or.inl (by omega)) (Ke.up (Or.inr (by omega)) (Ke.up (Or.inl (by omega)) hM))) (CBi_s hI rfl rfl rfl)
set_option maxRecDepth 100000 in
set_option maxHeartbeats 4000000 in
theorem gx_X10_go {nh : Nat} {D : xM} {t : Option zL} {S : Nat → Int32} (nn : Int32) {l : Launch} {G : xG} {M : xM} {J : xJ} (hI : InvR M) (hWG : WG nh D S) (hG : RG M nh D t S) : x_M l G fX10_go 62 0 0 [.ref (62), .int (nn)] x_SH M J (qKI WRG M J (fun r M2 => InvR M2 ∧ (EGoX RG nh D t S M2 nn r))) := by
  refine xb_of pX10 (Nat.le_of_ble_eq_true rfl) rfl ?_
  obtain ⟨⟨hn, h_hn, e_hn, hw⟩, hbt, ⟨un, wn, h_uw, h_wn, e_un, e_wn⟩, hch, ⟨n, h_n, e_n⟩, htx, ⟨b, h_b, e_b⟩, hkd, ⟨ra, h_ra, e_ra⟩, hsl, ⟨ic, h_ic, e_ic⟩, hS⟩ := hI
  have hG0 := hG
  obtain ⟨hn5, hW, hrub, hbeat⟩ := hWG
  obtain ⟨hGn, hA, hL, e_nw, e_rub, e_bt, e_ph, e_st, e_kn, e_pu, e_lf⟩ := hG
  obtain rfl : nh = hn := (nI_eq (by omega) (by omega)).mp (hGn.symm.trans e_hn)
  have hbt2 : ¬ S 2 = 0 := ne2_0 hbeat.1
  refine xr_iload_n dX10_go_0 1 rfl ?_
  refine xr_i2l dX10_go_1 ?_
  refine xr_lconst (v := 1) dX10_go_2 rfl ?_
  refine xr_ldc2 coX10_244 dX10_go_3 ?_
  refine xb_cS (As := [.long ((nn).toInt64), .long (1), .long (200)]) (rest := []) mlX10_101 (c_within32 (nn) (1) (200) (by decide) (by decide)) dX10_go_6 rfl rfl (Nat.le_of_ble_eq_true rfl) (by decide) (by decide) ?_
  refine xb_bne (tgt := 14) dX10_go_9 rfl (fun c1 => ?_) (fun c1 => ?_)
  · obtain ⟨N, hN, rfl⟩ := x_natle (v := nn) (N := 200) (K := 200) (by decide) (by decide) ⟨by grind, c1.2⟩
    refine xr_aload_n dX10_go_14 0 rfl ?_
    refine xr_callV (As := []) (rest := []) mlX10_246 (gw_X10_upNow (D := D) (hn := nh) hn5 e_hn (AbS_k hA (fun kl hkl => rfl) (fun kl => rfl) (fun kl => rfl) hn5) hW) dX10_go_15 s_62 rfl rfl (Nat.le_of_ble_eq_true rfl) (by decide) ⟨by decide, by decide⟩ (fun v s2 M9 J2 hq => ?_)
    obtain ⟨r3, rfl, rfl, rfl, rfl, hx2⟩ := hq
    try dsimp only [Option.toList, List.cons_append, List.nil_append]
    subst hx2
    refine xr_istore_n (ls2 := [(2, .int ((upS nh D))), (0, .ref (62)), (1, .int (nI (N)))]) dX10_go_18 (by decide) rfl ?_
    refine xr_aload_n dX10_go_19 1 rfl ?_
    refine xr_iload_n dX10_go_20 0 rfl ?_
    refine xr_callV (As := [.int ((upS nh D))]) (rest := []) mlX10_249 (gw_X10_begins1 (upS nh D) (D := D) (hn := nh) hn5 e_hn (AbS_k hA (fun kl hkl => rfl) (fun kl => rfl) (fun kl => rfl) hn5)) dX10_go_21 s_62 rfl rfl (Nat.le_of_ble_eq_true rfl) (by decide) ⟨by decide, by decide⟩ (fun v s2 M5 J2 hq => ?_)
    obtain ⟨rfl, rfl, rfl, k6, hx4⟩ := hq
    try dsimp only [Option.toList, List.cons_append, List.nil_append]
    refine xr_aload_n dX10_go_24 1 rfl ?_
    refine xr_iconst (v := 0) dX10_go_25 rfl ?_
    refine xr_putI fpX10_237 dX10_go_26 s_62 rfl rfl rfl ?_
    refine xr_iconst (v := 0) dX10_go_29 rfl ?_
    refine xr_istore_n (ls2 := [(3, .int (0)), (2, .int ((upS nh D))), (0, .ref (62)), (1, .int (nI (N)))]) dX10_go_30 (by decide) rfl ?_
    refine xb_ls (ls2 := [(3, .int (nI (0))), (2, .int ((upS nh D))), (1, .int (nI (N))), (0, .ref (62))]) [0, 1, 3, 2] rfl ?_
    refine grx (by omega) hn5 hbt2 (fun k hk => upS_in hn5 hk) (goT nh D t S N) (Eq.trans (x_up_k _ _ _ (by decide)) (Eq.trans (k6 62 6 (by decide)) e_hn)) (Eq.trans (congrFun (x_up_n _ _ _ (by decide)) _) (Eq.trans (k6 63 15 (by decide)) e_rub)) (Eq.trans (congrFun (x_up_n _ _ _ (by decide)) _) (Eq.trans (k6 63 16 (by decide)) e_bt)) (Eq.trans (congrFun (x_up_n _ _ _ (by decide)) _) (Eq.trans (k6 63 17 (by decide)) e_ph)) (Eq.trans (congrFun (x_up_n _ _ _ (by decide)) _) (Eq.trans (k6 63 18 (by decide)) e_st)) (Eq.trans (x_up_k _ _ _ (by decide)) (Eq.trans (k6 62 24 (by decide)) e_pu)) (LRt_k (Eq.trans (x_up_k _ _ _ (by decide)) (Eq.trans (k6 62 13 (by unfold WBG; omega)) rfl)) (Eq.trans (x_up_n _ _ _ (by decide)) (Eq.trans (funext fun kk => k6 70 kk (by unfold WBG; omega)) rfl)) hL) (fun M7 k8 hGo => ?_) (N - 0) 0 (x_up M5 62 23 0) (by omega) Ke.rf ⟨D, AbR_n (AbR_eq hx4 (msk_up hn5 hW)) (by decide), hW, mo_rf, by rw [show _ = S 0 from (Eq.trans (x_up_k _ _ _ (by decide)) (Eq.trans (k6 62 9 (by decide)) e_nw)), show _ = S 7 from (Eq.trans (x_up_k _ _ _ (by decide)) (Eq.trans (k6 62 25 (by decide)) e_lf)), show _ = (0 : Int32) from (x_up_s _ _ _ _), Int32.add_zero]; rfl⟩
    have hGT := GRi_T hGo
    refine xr_aload_n dX10_go_92 1 rfl ?_
    refine xr_dup dX10_go_93 rfl ?_
    refine xb_get (v := (S 6)) flX10_258 dX10_go_94 s_62 rfl (Eq.trans (k8 62 24 (by decide)) (Eq.trans (x_up_k _ _ _ (by decide)) (Eq.trans (k6 62 24 (by decide)) e_pu))) ?_
    refine xr_aload_n dX10_go_97 1 rfl ?_
    refine xb_get (v := (M7 62 23)) flX10_237 dX10_go_98 s_62 rfl rfl ?_
    refine xr_iadd dX10_go_101 ?_
    refine xr_putI fpX10_258 dX10_go_102 s_62 rfl rfl rfl ?_
    refine xr_iconst (v := 0) dX10_go_105 rfl ?_
    refine xr_istore_n (ls2 := [(3, .int (0)), (2, .int ((upS nh D))), (0, .ref (62))]) dX10_go_106 (by decide) rfl ?_
    refine xb_ls (ls2 := [(3, .int (nI (0))), (2, .int ((upS nh D))), (0, .ref (62))]) [0, 1, 2] rfl ?_
    refine gbx (hn := nh) (D := (goT nh D t S N).1) hn5 (Eq.trans (x_up_k _ _ _ (by decide)) (Eq.trans (k8 62 6 (by decide)) (Eq.trans (x_up_k _ _ _ (by decide)) (Eq.trans (k6 62 6 (by decide)) e_hn)))) (AbR_n hGT.1 (by decide)) (fun M9 k10 hCB => ?_) (nh - 0) 0 (x_up M7 62 24 ((S 6) + (M7 62 23))) (by omega) Ke.rf (fun i hi => absurd hi (Nat.not_lt_zero i))
    have hAD := CBi_T (AbR_n hGT.1 (by decide)) (fun k hk => k10 63 k (by unfold WCB; omega)) hn5 hCB
    refine xr_aload_n dX10_go_160 0 rfl ?_
    refine xr_callV (As := []) (rest := []) mlX10_246 (gw_X10_upNow (D := (goT nh D t S N).1) (hn := nh) hn5 (Eq.trans (k10 62 6 (by decide)) (Eq.trans (x_up_k _ _ _ (by decide)) (Eq.trans (k8 62 6 (by decide)) (Eq.trans (x_up_k _ _ _ (by decide)) (Eq.trans (k6 62 6 (by decide)) e_hn))))) hAD hGT.2.1) dX10_go_161 s_62 rfl rfl (Nat.le_of_ble_eq_true rfl) (by decide) ⟨by decide, by decide⟩ (fun v s2 M9 J2 hq => ?_)
    obtain ⟨r12, rfl, rfl, rfl, rfl, hx11⟩ := hq
    try dsimp only [Option.toList, List.cons_append, List.nil_append]
    subst hx11
    refine xr_callS (As := [.int ((upS nh (goT nh D t S N).1))]) (rest := []) mlX10_261 (gw_X10_bitsOf (upS nh (goT nh D t S N).1) (upB_le hn5)) dX10_go_164 rfl rfl (Nat.le_of_ble_eq_true rfl) (by decide) ⟨by decide, by decide⟩ (fun v s2 M9 J2 hq => ?_)
    obtain ⟨r14, rfl, rfl, rfl, rfl, hx13⟩ := hq
    try dsimp only [Option.toList, List.cons_append, List.nil_append]
    exact xr_iret dX10_go_167 rfl rfl (⟨_, rfl, rfl, rfl, (Ke.tr (fun pp kk => (fun hh => Or.elim hh (fun h => (Or.inr (Or.inr (Or.inr (Or.inr (Or.inr (Or.inr (Or.inr (Or.inr (Or.inr (Or.inr (Or.inr (Or.inl h))))))))))))) (fun h => (Or.inr (Or.inr (Or.inr (Or.inr (Or.inr (Or.inr (Or.inr (Or.inr (Or.inr (Or.inr (Or.inr (Or.inr h))))))))))))))) (Ke.up (Or.inr (Or.inr (Or.inr (Or.inr (Or.inr (Or.inr (Or.inr (Or.inr (Or.inr (Or.inl (by omega))))))))))) (Ke.tr (fun pp kk => (fun hh => Or.elim hh (fun h => (Or.inl h)) (fun hh => Or.elim hh (fun h => (Or.inr (Or.inl h))) (fun hh => Or.elim hh (fun h => (Or.inr (Or.inr (Or.inl h)))) (fun hh => Or.elim hh (fun h => (Or.inr (Or.inr (Or.inr (Or.inl h))))) (fun hh => Or.elim hh (fun h => (Or.inr (Or.inr (Or.inr (Or.inr (Or.inl h)))))) (fun hh => Or.elim hh (fun h => (Or.inr (Or.inr (Or.inr (Or.inr (Or.inr (Or.inl h))))))) (fun hh => Or.elim hh (fun h => (Or.inr (Or.inr (Or.inr (Or.inr (Or.inr (Or.inr (Or.inr (Or.inr (Or.inl h)))))))))) (fun hh => Or.elim hh (fun h => (Or.inr (Or.inr (Or.inr (Or.inr (Or.inr (Or.inr (Or.inr (Or.inr (Or.inr (Or.inr (Or.inl h)))))))))))) (fun h => (Or.inr (Or.inr (Or.inr (Or.inr (Or.inr (Or.inr (Or.inr (Or.inl h)))))))))))))))))) (Ke.up (Or.inr (Or.inr (Or.inr (Or.inr (Or.inr (Or.inl (by omega))))))) (Ke.tr (fun pp kk h => (Or.inr (Or.inr (Or.inr (Or.inr (Or.inr (Or.inr (Or.inr (Or.inl (by omega)))))))))) Ke.rf k6)) k8)) k10), ⟨⟨⟨nh, by omega, (Eq.trans (k10 62 6 (by decide)) (Eq.trans (x_up_k _ _ _ (by decide)) (Eq.trans (k8 62 6 (by decide)) (Eq.trans (x_up_k _ _ _ (by decide)) (Eq.trans (k6 62 6 (by decide)) e_hn))))), (fun kw hkw => by rw [show M9 63 (5 + kw) = M 63 (5 + kw) from (Eq.trans (k10 63 (5 + kw) (by unfold WCB; omega)) (Eq.trans (congrFun (x_up_n _ _ _ (by omega)) _) (Eq.trans (k8 63 (5 + kw) (by unfold WGO1; omega)) (Eq.trans (congrFun (x_up_n _ _ _ (by omega)) _) (Eq.trans (k6 63 (5 + kw) (by unfold WBG; omega)) rfl)))))]; exact hw kw hkw)⟩, (by rw [show M9 63 16 = M 63 16 from (Eq.trans (k10 63 16 (by unfold WCB; omega)) (Eq.trans (congrFun (x_up_n _ _ _ (by omega)) _) (Eq.trans (k8 63 16 (by unfold WGO1; omega)) (Eq.trans (congrFun (x_up_n _ _ _ (by omega)) _) (Eq.trans (k6 63 16 (by unfold WBG; omega)) rfl)))))]; exact hbt), ⟨un, wn, by omega, by omega, (Eq.trans (k10 62 5 (by decide)) (Eq.trans (x_up_k _ _ _ (by decide)) (Eq.trans (k8 62 5 (by decide)) (Eq.trans (x_up_k _ _ _ (by decide)) (Eq.trans (k6 62 5 (by decide)) e_un))))), (Eq.trans (k10 62 4 (by decide)) (Eq.trans (x_up_k _ _ _ (by decide)) (Eq.trans (k8 62 4 (by decide)) (Eq.trans (x_up_k _ _ _ (by decide)) (Eq.trans (k6 62 4 (by decide)) e_wn)))))⟩, (fun kk hkk => by rw [show M9 64 kk = M 64 kk from (Eq.trans (k10 64 kk (by unfold WCB; omega)) (Eq.trans (congrFun (x_up_n _ _ _ (by omega)) _) (Eq.trans (k8 64 kk (by unfold WGO1; omega)) (Eq.trans (congrFun (x_up_n _ _ _ (by omega)) _) (Eq.trans (k6 64 kk (by unfold WBG; omega)) rfl))))), show M9 65 kk = M 65 kk from (Eq.trans (k10 65 kk (by unfold WCB; omega)) (Eq.trans (congrFun (x_up_n _ _ _ (by omega)) _) (Eq.trans (k8 65 kk (by unfold WGO1; omega)) (Eq.trans (congrFun (x_up_n _ _ _ (by omega)) _) (Eq.trans (k6 65 kk (by unfold WBG; omega)) rfl))))), show M9 66 kk = M 66 kk from (Eq.trans (k10 66 kk (by unfold WCB; omega)) (Eq.trans (congrFun (x_up_n _ _ _ (by omega)) _) (Eq.trans (k8 66 kk (by unfold WGO1; omega)) (Eq.trans (congrFun (x_up_n _ _ _ (by omega)) _) (Eq.trans (k6 66 kk (by unfold WBG; omega)) rfl)))))]; exact hch kk hkk), ⟨n, by omega, (Eq.trans (k10 62 11 (by decide)) (Eq.trans (x_up_k _ _ _ (by decide)) (Eq.trans (k8 62 11 (by decide)) (Eq.trans (x_up_k _ _ _ (by decide)) (Eq.trans (k6 62 11 (by decide)) e_n)))))⟩, (by rw [show M9 62 13 = M 62 13 from (Eq.trans (k10 62 13 (by unfold WCB; omega)) (Eq.trans (x_up_k _ _ _ (by omega)) (Eq.trans (k8 62 13 (by unfold WGO1; omega)) (Eq.trans (x_up_k _ _ _ (by omega)) (Eq.trans (k6 62 13 (by unfold WBG; omega)) rfl)))))]; exact htx), ⟨b, by omega, (Eq.trans (k10 62 36 (by decide)) (Eq.trans (x_up_k _ _ _ (by decide)) (Eq.trans (k8 62 36 (by decide)) (Eq.trans (x_up_k _ _ _ (by decide)) (Eq.trans (k6 62 36 (by decide)) e_b)))))⟩, (fun j hj => by obtain ⟨q, hq, eq⟩ := hkd j hj; exact ⟨q, hq, (show M9 81 j = M 81 j from (Eq.trans (k10 81 j (by unfold WCB; omega)) (Eq.trans (congrFun (x_up_n _ _ _ (by omega)) _) (Eq.trans (k8 81 j (by unfold WGO1; omega)) (Eq.trans (congrFun (x_up_n _ _ _ (by omega)) _) (Eq.trans (k6 81 j (by unfold WBG; omega)) rfl)))))).trans eq⟩), ⟨ra, by omega, (Eq.trans (k10 62 39 (by decide)) (Eq.trans (x_up_k _ _ _ (by decide)) (Eq.trans (k8 62 39 (by decide)) (Eq.trans (x_up_k _ _ _ (by decide)) (Eq.trans (k6 62 39 (by decide)) e_ra)))))⟩, (fun j hj => by rw [show M9 83 j = M 83 j from (Eq.trans (k10 83 j (by unfold WCB; omega)) (Eq.trans (congrFun (x_up_n _ _ _ (by omega)) _) (Eq.trans (k8 83 j (by unfold WGO1; omega)) (Eq.trans (congrFun (x_up_n _ _ _ (by omega)) _) (Eq.trans (k6 83 j (by unfold WBG; omega)) rfl))))), show M9 84 j = M 84 j from (Eq.trans (k10 84 j (by unfold WCB; omega)) (Eq.trans (congrFun (x_up_n _ _ _ (by omega)) _) (Eq.trans (k8 84 j (by unfold WGO1; omega)) (Eq.trans (congrFun (x_up_n _ _ _ (by omega)) _) (Eq.trans (k6 84 j (by unfold WBG; omega)) rfl)))))]; exact hsl j hj), ⟨ic, by omega, (Eq.trans (k10 62 34 (by decide)) (Eq.trans (x_up_k _ _ _ (by decide)) (Eq.trans (k8 62 34 (by decide)) (Eq.trans (x_up_k _ _ _ (by decide)) (Eq.trans (k6 62 34 (by decide)) e_ic)))))⟩, (fun j hj => by obtain ⟨q, hq, eq⟩ := hS j hj; exact ⟨q, hq, (show M9 75 j = M 75 j from (Eq.trans (k10 75 j (by unfold WCB; omega)) (Eq.trans (congrFun (x_up_n _ _ _ (by omega)) _) (Eq.trans (k8 75 j (by unfold WGO1; omega)) (Eq.trans (congrFun (x_up_n _ _ _ (by omega)) _) (Eq.trans (k6 75 j (by unfold WBG; omega)) rfl)))))).trans eq⟩)⟩, (Or.inr ⟨N, by omega, ⟨by grind, by grind⟩, rfl, hx13.trans (upS_bc hn5), ⟨(Eq.trans (k10 62 6 (by decide)) (Eq.trans (x_up_k _ _ _ (by decide)) (Eq.trans (k8 62 6 (by decide)) (Eq.trans (x_up_k _ _ _ (by decide)) (Eq.trans (k6 62 6 (by decide)) e_hn))))), hAD, (LRt_k (Eq.trans (k10 62 13 (by unfold WCB; omega)) (Eq.trans (x_up_k _ _ _ (by decide)) (Eq.trans (k8 62 13 (by unfold WGO1; omega)) (Eq.trans (x_up_k _ _ _ (by decide)) (Eq.trans (k6 62 13 (by unfold WBG; omega)) rfl))))) (Eq.trans (funext fun kk => k10 70 kk (by unfold WCB; omega)) (Eq.trans (x_up_n _ _ _ (by decide)) (Eq.trans (funext fun kk => k8 70 kk (by unfold WGO1; omega)) (Eq.trans (x_up_n _ _ _ (by decide)) (Eq.trans (funext fun kk => k6 70 kk (by unfold WBG; omega)) rfl))))) hL), (Eq.trans (k10 62 9 (by decide)) (Eq.trans (x_up_k _ _ _ (by decide)) hGT.2.2.1)), (Eq.trans (k10 63 15 (by decide)) (Eq.trans (congrFun (x_up_n _ _ _ (by decide)) _) (Eq.trans (k8 63 15 (by decide)) (Eq.trans (congrFun (x_up_n _ _ _ (by decide)) _) (Eq.trans (k6 63 15 (by decide)) e_rub))))), (Eq.trans (k10 63 16 (by decide)) (Eq.trans (congrFun (x_up_n _ _ _ (by decide)) _) (Eq.trans (k8 63 16 (by decide)) (Eq.trans (congrFun (x_up_n _ _ _ (by decide)) _) (Eq.trans (k6 63 16 (by decide)) e_bt))))), (Eq.trans (k10 63 17 (by decide)) (Eq.trans (congrFun (x_up_n _ _ _ (by decide)) _) (Eq.trans (k8 63 17 (by decide)) (Eq.trans (congrFun (x_up_n _ _ _ (by decide)) _) (Eq.trans (k6 63 17 (by decide)) e_ph))))), (Eq.trans (k10 63 18 (by decide)) (Eq.trans (congrFun (x_up_n _ _ _ (by decide)) _) (Eq.trans (k8 63 18 (by decide)) (Eq.trans (congrFun (x_up_n _ _ _ (by decide)) _) (Eq.trans (k6 63 18 (by decide)) e_st))))), (Eq.trans (k10 63 19 (by decide)) (Eq.trans (congrFun (x_up_n _ _ _ (by decide)) _) (Eq.trans (k8 63 19 (by decide)) (Eq.trans (congrFun (x_up_n _ _ _ (by decide)) _) (Eq.trans (k6 63 19 (by decide)) e_kn))))), ((k10 62 24 (by decide)).trans (((x_up_s _ _ _ _)).trans hGT.2.2.2.1)), (Eq.trans (k10 62 25 (by decide)) (Eq.trans (x_up_k _ _ _ (by decide)) hGT.2.2.2.2))⟩⟩)⟩⟩)
  · refine xr_iconst (v := -1) dX10_go_12 rfl ?_
    exact xr_iret dX10_go_13 rfl rfl (⟨_, rfl, rfl, rfl, Ke.rf, ⟨⟨⟨nh, by omega, e_hn, (fun kw hkw => by rw [show M 63 (5 + kw) = M 63 (5 + kw) from rfl]; exact hw kw hkw)⟩, (by rw [show M 63 16 = M 63 16 from rfl]; exact hbt), ⟨un, wn, by omega, by omega, e_un, e_wn⟩, (fun kk hkk => by rw [show M 64 kk = M 64 kk from rfl, show M 65 kk = M 65 kk from rfl, show M 66 kk = M 66 kk from rfl]; exact hch kk hkk), ⟨n, by omega, e_n⟩, (by rw [show M 62 13 = M 62 13 from rfl]; exact htx), ⟨b, by omega, e_b⟩, (fun j hj => by obtain ⟨q, hq, eq⟩ := hkd j hj; exact ⟨q, hq, (show M 81 j = M 81 j from rfl).trans eq⟩), ⟨ra, by omega, e_ra⟩, (fun j hj => by rw [show M 83 j = M 83 j from rfl, show M 84 j = M 84 j from rfl]; exact hsl j hj), ⟨ic, by omega, e_ic⟩, (fun j hj => by obtain ⟨q, hq, eq⟩ := hS j hj; exact ⟨q, hq, (show M 75 j = M 75 j from rfl).trans eq⟩)⟩, (Or.inl ⟨c1, rfl, hG0⟩)⟩⟩)
