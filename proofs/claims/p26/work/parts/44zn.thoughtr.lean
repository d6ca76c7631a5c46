/-- the reference's thought, what it begins from -/
def TR (M : xM) (P : xP) (D : xM) : Prop := (M 62 6 = nI P.1 ∧ AbR P.1 M D ∧ WF P.1 D ∧ LRt M P.2.1) ∧ M 63 15 = P.2.2.1 ∧ M 63 16 = P.2.2.2.1 ∧ M 63 17 = P.2.2.2.2.1 ∧ M 63 18 = P.2.2.2.2.2
def TS (M : xM) (P : xP) (nw : Int32) (D : xM) : Prop := (M 62 6 = nI P.1 ∧ AbS P.1 M D ∧ WF P.1 D ∧ LRt M P.2.1) ∧ (M 63 15 = P.2.2.1 ∧ M 63 16 = P.2.2.2.1 ∧ M 63 17 = P.2.2.2.2.1 ∧ M 63 18 = P.2.2.2.2.2) ∧ M 62 9 = nw
theorem TR_w {M M2 : xM} {P : xP} {D D2 : xM} (h : TR M P D) (hA : AbR P.1 M2 D2) (hW : WF P.1 D2) (h6 : M2 62 6 = M 62 6) (h13 : M2 62 13 = M 62 13) (h63 : ∀ k, M2 63 k = M 63 k) (h70 : ∀ k, M2 70 k = M 70 k) : TR M2 P D2 := by
  obtain ⟨⟨a, b, c, d⟩, e1, e2, e3, e4⟩ := h
  exact ⟨⟨h6.trans a, hA, hW, LRt_k h13 (funext h70) d⟩, (h63 15).trans e1, (h63 16).trans e2, (h63 17).trans e3, (h63 18).trans e4⟩
theorem TS_R {M M2 : xM} {P : xP} {nw : Int32} {D D2 : xM} (h : TS M P nw D) (hA : AbR P.1 M2 D2) (hW : WF P.1 D2) (h6 : M2 62 6 = M 62 6) (h13 : M2 62 13 = M 62 13) (h63 : ∀ k, M2 63 k = M 63 k) (h70 : ∀ k, M2 70 k = M 70 k) : TR M2 P D2 := by
  obtain ⟨⟨a, b, c, d⟩, ⟨e1, e2, e3, e4⟩, f⟩ := h
  exact ⟨⟨h6.trans a, hA, hW, LRt_k h13 (funext h70) d⟩, (h63 15).trans e1, (h63 16).trans e2, (h63 17).trans e3, (h63 18).trans e4⟩
theorem qv_n {k : Nat} (h : k < 6) : qv k = nI (5 - k) := (show ∀ k, k < 6 → qv k = nI (5 - k) by decide +kernel) k h
set_option maxRecDepth 100000 in
set_option maxHeartbeats 4000000 in
theorem rfox {P : xP} {nw : Int32} (hP : WP P) {h : Nat} (hh : h < P.1) (h5 : P.1 ≤ 5) (T : Nat) {l : Launch} {G : xG} {M : xM} {J : xJ} {Q : xQ} (e_nw : M 62 9 = nw) (hR : ∀ (r : Int32) (M2 : xM), Ke WR1 M M2 → r = nI T → Q (some (.int r)) x_SH M2 J) (hC : ∀ (M2 : xM), Ke WR1 M M2 → (∃ D1, TR M2 P D1 ∧ flF P h (201 - 201) 201 (nw + nI (201)) D1 = T) → x_X l G fX10_fallOf 62 0 0 Q 44 [(1, .int (nI (h))), (0, .ref (62))] [] x_SH M2 J 0 0) : ∀ (m k : Nat) (M1 : xM), k + m = 201 → Ke WR1 M M1 → (∃ D1, TR M1 P D1 ∧ flF P h (201 - k) k (nw + nI (k)) D1 = T) → x_X l G fX10_fallOf 62 0 0 Q 10 [(2, .int (nI (k))), (1, .int (nI (h))), (0, .ref (62))] [] x_SH M1 J 0 0 := by
  intro m
  induction m with
  | zero =>
    intro k M1 hk hM hI
    obtain ⟨D1, hT1, hR1⟩ := hI
    refine xr_iload_n dX10_fallOf_10 0 rfl ?_
    refine xr_sipush (v := 200) dX10_fallOf_11 rfl ?_
    refine xr_icmp_gt (tgt := 44) dX10_fallOf_14 rfl (fun _ => ?_) (fun c => absurd (nI_lt (a := 200) (b := k) (by omega) (by omega)) c)
    refine xb_ls (ls2 := [(1, .int (nI (h))), (0, .ref (62))]) [1, 2] rfl ?_
    exact hC _ hM (by obtain rfl : k = 201 := (by omega); exact ⟨D1, hT1, hR1⟩)
  | succ m ih =>
    intro k M1 hk hM hI
    have hkN : k < 201 := by omega
    obtain ⟨D1, hT1, hR1⟩ := hI
    refine xr_iload_n dX10_fallOf_10 0 rfl ?_
    refine xr_sipush (v := 200) dX10_fallOf_11 rfl ?_
    refine xr_icmp_gt (tgt := 44) dX10_fallOf_14 rfl (fun c => absurd c (nI_nlt (a := 200) (b := k) (by omega) (by omega))) (fun _ => ?_)
    refine xr_aload_n dX10_fallOf_17 2 rfl ?_
    refine xr_getR flX10_43 dX10_fallOf_18 s_62 rfl ?_
    refine xr_iload_n dX10_fallOf_21 1 rfl ?_
    refine xb_iald (j := h) (v := M1 74 h) dX10_fallOf_22 s_74 (by omega) (by decide) rfl ?_
    refine xr_if_ne (tgt := 28) dX10_fallOf_23 rfl (fun c1 => ?_) (fun c1 => ?_)
    · refine xr_aload_n dX10_fallOf_28 2 rfl ?_
      refine xr_aload_n dX10_fallOf_29 2 rfl ?_
      refine xb_get (v := nw) flX10_151 dX10_fallOf_30 s_62 rfl (Eq.trans (hM 62 9 (by decide)) e_nw) ?_
      refine xr_iload_n dX10_fallOf_33 0 rfl ?_
      refine xr_iadd dX10_fallOf_34 ?_
      refine xr_callV (As := [.int ((nw + (nI (k))))]) (rest := []) mlX10_255 (gw_X10_tickGoes (nw + (nI (k))) (pd := M1 62 23) (hn := P.1) (t := P.2.1) hP.2.2 hP.1 hT1.1.1 hT1.2.1 hT1.2.2.1 hT1.2.2.2.1 hT1.2.2.2.2 rfl hT1.1.2.2.2 hT1.1.2.1 hT1.1.2.2.1) dX10_fallOf_35 s_62 rfl rfl (Nat.le_of_ble_eq_true rfl) (by decide) ⟨by decide, by decide⟩ (fun v s2 M3 J2 hq => ?_)
      obtain ⟨rfl, rfl, rfl, k4, hx2⟩ := hq
      try dsimp only [Option.toList, List.cons_append, List.nil_append]
      have hT5 : TR M3 P (tiF P (nw + (nI (k))) D1) := TR_w hT1 hx2.1 (WF_tiF (P := P) hT1.1.2.2.1) (k4 62 6 (by decide)) (k4 62 13 (by decide)) (fun kl => k4 63 kl (by unfold WTG; omega)) (fun kl => k4 70 kl (by unfold WTG; omega))
      refine xr_iinc (v := nI (k + 1)) (ls2 := [(2, .int (nI (k + 1))), (1, .int (nI (h))), (0, .ref (62))]) dX10_fallOf_38 0 rfl (nI_1 _) (by decide) rfl ?_
      refine xr_goto (tgt := 10) dX10_fallOf_41 rfl ?_
      refine xb_ls (ls2 := [(2, .int (nI (k + 1))), (1, .int (nI (h))), (0, .ref (62))]) [0, 1, 2] rfl ?_
      exact ih (k + 1) M3 (by omega) (Ke.tr (fun pp kk => (fun hh => Or.elim hh (fun h => (Or.inl h)) (fun hh => Or.elim hh (fun h => (Or.inr (Or.inl h))) (fun hh => Or.elim hh (fun h => (Or.inr (Or.inr (Or.inl h)))) (fun hh => Or.elim hh (fun h => (Or.inr (Or.inr (Or.inr (Or.inl h))))) (fun hh => Or.elim hh (fun h => (Or.inr (Or.inr (Or.inr (Or.inr (Or.inl h)))))) (fun hh => Or.elim hh (fun h => (Or.inr (Or.inr (Or.inr (Or.inr (Or.inr (Or.inl h))))))) (fun h => (Or.inr (Or.inr (Or.inr (Or.inr (Or.inr (Or.inr (Or.inr h))))))))))))))) hM k4) ⟨_, hT5, by rw [← now_s]; exact (flF_s hkN (fun z => c1 ((hT1.1.2.1 h (by omega)).2.2.2.2.trans z))).trans hR1⟩
    · refine xr_iload_n dX10_fallOf_26 0 rfl ?_
      exact xr_iret dX10_fallOf_27 rfl rfl ((hR _ _ hM (by rw [← (flF_z hkN ((hT1.1.2.1 h (by omega)).2.2.2.2.symm.trans c1)).symm.trans hR1])))
set_option maxRecDepth 100000 in
set_option maxHeartbeats 4000000 in
theorem gy_X10_fallOf {P : xP} {nw : Int32} {D : xM} (hP : WP P) {h : Nat} (hh : h < P.1) {l : Launch} {G : xG} {M : xM} {J : xJ} (hT : TS M P nw D) : x_M l G fX10_fallOf 62 0 0 [.ref (62), .int (nI (h))] x_SH M J (qKI WR1 M J (fun r M2 => r = nI (faV P h nw D))) := by
  refine xb_of pX10 (Nat.le_of_ble_eq_true rfl) rfl ?_
  have h5 : P.1 ≤ 5 := hP.1
  refine xr_aload_n dX10_fallOf_0 0 rfl ?_
  refine xr_aload_n dX10_fallOf_1 0 rfl ?_
  refine xr_callV (As := []) (rest := [.ref (62)]) mlX10_246 (gw_X10_upNow (D := D) (hn := P.1) hP.1 hT.1.1 hT.1.2.1 hT.1.2.2.1) dX10_fallOf_2 s_62 rfl rfl (Nat.le_of_ble_eq_true rfl) (by decide) ⟨by decide, by decide⟩ (fun v s2 M9 J2 hq => ?_)
  obtain ⟨r2, rfl, rfl, rfl, rfl, hx1⟩ := hq
  try dsimp only [Option.toList, List.cons_append, List.nil_append]
  subst hx1
  refine xr_callV (As := [.int ((upS P.1 D))]) (rest := []) mlX10_249 (gw_X10_begins1 (upS P.1 D) (D := D) (hn := P.1) hP.1 hT.1.1 hT.1.2.1) dX10_fallOf_5 s_62 rfl rfl (Nat.le_of_ble_eq_true rfl) (by decide) ⟨by decide, by decide⟩ (fun v s2 M4 J2 hq => ?_)
  obtain ⟨rfl, rfl, rfl, k5, hx3⟩ := hq
  try dsimp only [Option.toList, List.cons_append, List.nil_append]
  have hT6 : TR M4 P D := TS_R hT (AbR_eq hx3 (msk_up hP.1 hT.1.2.2.1)) hT.1.2.2.1 (k5 62 6 (by decide)) (k5 62 13 (by decide)) (fun kl => k5 63 kl (by unfold WBG; omega)) (fun kl => k5 70 kl (by unfold WBG; omega))
  refine xr_iconst (v := 0) dX10_fallOf_8 rfl ?_
  refine xr_istore_n (ls2 := [(2, .int (0)), (0, .ref (62)), (1, .int (nI (h)))]) dX10_fallOf_9 (by decide) rfl ?_
  refine xb_ls (ls2 := [(2, .int (nI (0))), (1, .int (nI (h))), (0, .ref (62))]) [0, 2, 1] rfl ?_
  refine rfox hP hh h5 (faV P h nw D) (Eq.trans (k5 62 9 (by decide)) hT.2.2) (fun r M2 hk hr => ⟨_, rfl, rfl, rfl, Ke.tr (fun _ _ h => h) (Ke.tr (fun pp kk h => (Or.inr (Or.inr (Or.inr (Or.inr (Or.inr (Or.inr (Or.inr (by omega))))))))) Ke.rf k5) hk, hr⟩) (fun M7 k8 hI => ?_) (201 - 0) 0 M4 (by omega) Ke.rf ⟨D, hT6, by rw [← now_0]; rfl⟩
  refine xr_sipush (v := 201) dX10_fallOf_44 rfl ?_
  exact xr_iret dX10_fallOf_47 rfl rfl (⟨_, rfl, rfl, rfl, (Ke.tr (fun _ _ h => h) (Ke.tr (fun pp kk h => (Or.inr (Or.inr (Or.inr (Or.inr (Or.inr (Or.inr (Or.inr (by omega))))))))) Ke.rf k5) k8), (by obtain ⟨D1, hT1, hR1⟩ := hI; exact congrArg nI hR1)⟩)
theorem ly_n {P : xP} {se nw : Int32} {D0 D1 : xM} (h5 : P.1 ≤ 5) (hs : ∀ k, k < P.1 → (w_in se k ↔ ¬ D0 k 4 = 0)) (hm : mo D0 D1) (c : nI (lyn se P.1 (tiF P nw D1)) ≤ 0) : ¬ upn P.1 (tiF P nw D1) < upn P.1 D0 := by
  have e := lyn_up (mo_tr hm (tiF_m (P := P) (nw := nw)).1) P.1 hs
  have hb := lyn_b (S := se) (D := tiF P nw D1) P.1
  have z := (nI_leI (a := lyn se P.1 (tiF P nw D1)) (b := 0) (by omega) (by decide)).mp c
  omega
theorem ly_y {P : xP} {se nw : Int32} {D0 D1 : xM} (h5 : P.1 ≤ 5) (hs : ∀ k, k < P.1 → (w_in se k ↔ ¬ D0 k 4 = 0)) (hm : mo D0 D1) (c : ¬ nI (lyn se P.1 (tiF P nw D1)) ≤ 0) : upn P.1 (tiF P nw D1) < upn P.1 D0 := by
  have e := lyn_up (mo_tr hm (tiF_m (P := P) (nw := nw)).1) P.1 hs
  have hb := lyn_b (S := se) (D := tiF P nw D1) P.1
  have z : ¬ lyn se P.1 (tiF P nw D1) ≤ 0 := fun q => c ((nI_leI (a := lyn se P.1 (tiF P nw D1)) (b := 0) (by omega) (by decide)).mpr q)
  omega
set_option maxRecDepth 100000 in
set_option maxHeartbeats 4000000 in
theorem rlax {P : xP} {nw : Int32} (hP : WP P) {se : Int32} {D0 : xM} (hs : ∀ k, k < P.1 → (w_in se k ↔ ¬ D0 k 4 = 0)) (T : Nat) {l : Launch} {G : xG} {M : xM} {J : xJ} {Q : xQ} (e_nw : M 62 9 = nw) (hR : ∀ (r : Int32) (M2 : xM), Ke WR1 M M2 → r = nI T → Q (some (.int r)) x_SH M2 J) (hC : ∀ (M2 : xM), Ke WR1 M M2 → (∃ D1, TR M2 P D1 ∧ mo D0 D1 ∧ laF P (upn P.1 D0) (200 - 200) 200 (nw + nI (200)) D1 = T) → x_X l G fX10_lastsOf 62 0 0 Q 40 [(1, .int (se)), (0, .ref (62))] [] x_SH M2 J 0 0) : ∀ (m k : Nat) (M1 : xM), k + m = 200 → Ke WR1 M M1 → (∃ D1, TR M1 P D1 ∧ mo D0 D1 ∧ laF P (upn P.1 D0) (200 - k) k (nw + nI (k)) D1 = T) → x_X l G fX10_lastsOf 62 0 0 Q 7 [(2, .int (nI (k))), (1, .int (se)), (0, .ref (62))] [] x_SH M1 J 0 0 := by
  intro m
  induction m with
  | zero =>
    intro k M1 hk hM hI
    obtain ⟨D1, hT1, hm1, hR1⟩ := hI
    refine xr_iload_n dX10_lastsOf_7 0 rfl ?_
    refine xr_sipush (v := 200) dX10_lastsOf_8 rfl ?_
    refine xr_icmp_ge (tgt := 40) dX10_lastsOf_11 rfl (fun _ => ?_) (fun c => absurd (nI_le (a := 200) (b := k) (by omega) (by omega)) c)
    refine xb_ls (ls2 := [(1, .int (se)), (0, .ref (62))]) [1, 2] rfl ?_
    exact hC _ hM (by obtain rfl : k = 200 := (by omega); exact ⟨D1, hT1, hm1, hR1⟩)
  | succ m ih =>
    intro k M1 hk hM hI
    have hkN : k < 200 := by omega
    obtain ⟨D1, hT1, hm1, hR1⟩ := hI
    refine xr_iload_n dX10_lastsOf_7 0 rfl ?_
    refine xr_sipush (v := 200) dX10_lastsOf_8 rfl ?_
    refine xr_icmp_ge (tgt := 40) dX10_lastsOf_11 rfl (fun c => absurd c (nI_ge (a := k) (b := 200) (by omega) (by omega))) (fun _ => ?_)
    refine xr_aload_n dX10_lastsOf_14 2 rfl ?_
    refine xr_aload_n dX10_lastsOf_15 2 rfl ?_
    refine xb_get (v := nw) flX10_151 dX10_lastsOf_16 s_62 rfl (Eq.trans (hM 62 9 (by decide)) e_nw) ?_
    refine xr_iload_n dX10_lastsOf_19 0 rfl ?_
    refine xr_iadd dX10_lastsOf_20 ?_
    refine xr_callV (As := [.int ((nw + (nI (k))))]) (rest := []) mlX10_255 (gw_X10_tickGoes (nw + (nI (k))) (pd := M1 62 23) (hn := P.1) (t := P.2.1) hP.2.2 hP.1 hT1.1.1 hT1.2.1 hT1.2.2.1 hT1.2.2.2.1 hT1.2.2.2.2 rfl hT1.1.2.2.2 hT1.1.2.1 hT1.1.2.2.1) dX10_lastsOf_21 s_62 rfl rfl (Nat.le_of_ble_eq_true rfl) (by decide) ⟨by decide, by decide⟩ (fun v s2 M2 J2 hq => ?_)
    obtain ⟨rfl, rfl, rfl, k3, hx1⟩ := hq
    try dsimp only [Option.toList, List.cons_append, List.nil_append]
    have hT4 : TR M2 P (tiF P (nw + (nI (k))) D1) := TR_w hT1 hx1.1 (WF_tiF (P := P) hT1.1.2.2.1) (k3 62 6 (by decide)) (k3 62 13 (by decide)) (fun kl => k3 63 kl (by unfold WTG; omega)) (fun kl => k3 70 kl (by unfold WTG; omega))
    refine xr_aload_n dX10_lastsOf_24 2 rfl ?_
    refine xr_iload_n dX10_lastsOf_25 1 rfl ?_
    refine xr_callV (As := [.int (se)]) (rest := []) mlX10_252 (gw_X10_lyingOf se (D := (tiF P (nw + (nI (k))) D1)) (hn := P.1) hP.1 hT4.1.1 hT4.1.2.1) dX10_lastsOf_26 s_62 rfl rfl (Nat.le_of_ble_eq_true rfl) (by decide) ⟨by decide, by decide⟩ (fun v s2 M9 J2 hq => ?_)
    obtain ⟨r6, rfl, rfl, rfl, rfl, hx5⟩ := hq
    try dsimp only [Option.toList, List.cons_append, List.nil_append]
    subst hx5
    refine xr_if_le (tgt := 34) dX10_lastsOf_29 rfl (fun c7 => ?_) (fun c7 => ?_)
    · refine xr_iinc (v := nI (k + 1)) (ls2 := [(2, .int (nI (k + 1))), (1, .int (se)), (0, .ref (62))]) dX10_lastsOf_34 0 rfl (nI_1 _) (by decide) rfl ?_
      refine xr_goto (tgt := 7) dX10_lastsOf_37 rfl ?_
      refine xb_ls (ls2 := [(2, .int (nI (k + 1))), (1, .int (se)), (0, .ref (62))]) [0, 1, 2] rfl ?_
      exact ih (k + 1) M2 (by omega) (Ke.tr (fun pp kk => (fun hh => Or.elim hh (fun h => (Or.inl h)) (fun hh => Or.elim hh (fun h => (Or.inr (Or.inl h))) (fun hh => Or.elim hh (fun h => (Or.inr (Or.inr (Or.inl h)))) (fun hh => Or.elim hh (fun h => (Or.inr (Or.inr (Or.inr (Or.inl h))))) (fun hh => Or.elim hh (fun h => (Or.inr (Or.inr (Or.inr (Or.inr (Or.inl h)))))) (fun hh => Or.elim hh (fun h => (Or.inr (Or.inr (Or.inr (Or.inr (Or.inr (Or.inl h))))))) (fun h => (Or.inr (Or.inr (Or.inr (Or.inr (Or.inr (Or.inr (Or.inr h))))))))))))))) hM k3) ⟨_, hT4, mo_tr hm1 tiF_m.1, by rw [← now_s]; exact (laF_n hkN (ly_n hP.1 hs hm1 c7)).trans hR1⟩
    · refine xr_iload_n dX10_lastsOf_32 0 rfl ?_
      exact xr_iret dX10_lastsOf_33 rfl rfl ((hR _ _ (Ke.tr (fun pp kk => (fun hh => Or.elim hh (fun h => (Or.inl h)) (fun hh => Or.elim hh (fun h => (Or.inr (Or.inl h))) (fun hh => Or.elim hh (fun h => (Or.inr (Or.inr (Or.inl h)))) (fun hh => Or.elim hh (fun h => (Or.inr (Or.inr (Or.inr (Or.inl h))))) (fun hh => Or.elim hh (fun h => (Or.inr (Or.inr (Or.inr (Or.inr (Or.inl h)))))) (fun hh => Or.elim hh (fun h => (Or.inr (Or.inr (Or.inr (Or.inr (Or.inr (Or.inl h))))))) (fun h => (Or.inr (Or.inr (Or.inr (Or.inr (Or.inr (Or.inr (Or.inr h))))))))))))))) hM k3) (by rw [← (laF_y hkN (ly_y hP.1 hs hm1 c7)).symm.trans hR1])))
set_option maxRecDepth 100000 in
set_option maxHeartbeats 4000000 in
theorem gy_X10_lastsOf (se : Int32) {P : xP} {nw : Int32} {D : xM} (hP : WP P) {D0 : xM} (hW0 : WF P.1 D0) (hs : ∀ k, k < P.1 → (w_in se k ↔ ¬ D0 k 4 = 0)) (hD0 : ∀ i, i < P.1 → ∀ k, k < 5 → w_msk se D i k = D0 i k) {l : Launch} {G : xG} {M : xM} {J : xJ} (hT : TS M P nw D) : x_M l G fX10_lastsOf 62 0 0 [.ref (62), .int (se)] x_SH M J (qKI WR1 M J (fun r M2 => r = nI (laV P nw D0))) := by
  refine xb_of pX10 (Nat.le_of_ble_eq_true rfl) rfl ?_
  refine xr_aload_n dX10_lastsOf_0 0 rfl ?_
  refine xr_iload_n dX10_lastsOf_1 1 rfl ?_
  refine xr_callV (As := [.int (se)]) (rest := []) mlX10_249 (gw_X10_begins1 se (D := D) (hn := P.1) hP.1 hT.1.1 hT.1.2.1) dX10_lastsOf_2 s_62 rfl rfl (Nat.le_of_ble_eq_true rfl) (by decide) ⟨by decide, by decide⟩ (fun v s2 M2 J2 hq => ?_)
  obtain ⟨rfl, rfl, rfl, k3, hx1⟩ := hq
  try dsimp only [Option.toList, List.cons_append, List.nil_append]
  have hT4 : TR M2 P D0 := TS_R hT (AbR_eq hx1 hD0) hW0 (k3 62 6 (by decide)) (k3 62 13 (by decide)) (fun kl => k3 63 kl (by unfold WBG; omega)) (fun kl => k3 70 kl (by unfold WBG; omega))
  refine xr_iconst (v := 0) dX10_lastsOf_5 rfl ?_
  refine xr_istore_n (ls2 := [(2, .int (0)), (0, .ref (62)), (1, .int (se))]) dX10_lastsOf_6 (by decide) rfl ?_
  refine xb_ls (ls2 := [(2, .int (nI (0))), (1, .int (se)), (0, .ref (62))]) [0, 2, 1] rfl ?_
  refine rlax hP hs (laV P nw D0) (Eq.trans (k3 62 9 (by decide)) hT.2.2) (fun r M2 hk hr => ⟨_, rfl, rfl, rfl, Ke.tr (fun _ _ h => h) (Ke.tr (fun pp kk h => (Or.inr (Or.inr (Or.inr (Or.inr (Or.inr (Or.inr (Or.inr (by omega))))))))) Ke.rf k3) hk, hr⟩) (fun M5 k6 hI => ?_) (200 - 0) 0 M2 (by omega) Ke.rf ⟨D0, hT4, mo_rf, by rw [← now_0]; rfl⟩
  refine xr_sipush (v := 200) dX10_lastsOf_40 rfl ?_
  exact xr_iret dX10_lastsOf_43 rfl rfl (⟨_, rfl, rfl, rfl, (Ke.tr (fun _ _ h => h) (Ke.tr (fun pp kk h => (Or.inr (Or.inr (Or.inr (Or.inr (Or.inr (Or.inr (Or.inr (by omega))))))))) Ke.rf k3) k6), (by obtain ⟨D1, hT1, hm1, hR1⟩ := hI; exact congrArg nI hR1)⟩)
set_option maxRecDepth 100000 in
set_option maxHeartbeats 4000000 in
theorem gy_X10_lasts {P : xP} {nw : Int32} {D : xM} (hP : WP P) {l : Launch} {G : xG} {M : xM} {J : xJ} (hT : TS M P nw D) : x_M l G fX10_lasts 63 0 0 [.ref (62)] x_SH M J (qKI WR1 M J (fun r M2 => r = nI (laV P nw D))) := by
  refine xb_of pX10 (Nat.le_of_ble_eq_true rfl) rfl ?_
  refine xr_aload_n dX10_lasts_0 0 rfl ?_
  refine xr_aload_n dX10_lasts_1 0 rfl ?_
  refine xr_callV (As := []) (rest := [.ref (62)]) mlX10_246 (gw_X10_upNow (D := D) (hn := P.1) hP.1 hT.1.1 hT.1.2.1 hT.1.2.2.1) dX10_lasts_2 s_62 rfl rfl (Nat.le_of_ble_eq_true rfl) (by decide) ⟨by decide, by decide⟩ (fun v s2 M9 J2 hq => ?_)
  obtain ⟨r2, rfl, rfl, rfl, rfl, hx1⟩ := hq
  try dsimp only [Option.toList, List.cons_append, List.nil_append]
  subst hx1
  refine xr_callV (As := [.int ((upS P.1 D))]) (rest := []) mlX10_267 (gy_X10_lastsOf (upS P.1 D) hP (D0 := D) hT.1.2.2.1 (fun k hk => upS_in hP.1 hk) (msk_up hP.1 hT.1.2.2.1) hT) dX10_lasts_5 s_62 rfl rfl (Nat.le_of_ble_eq_true rfl) (by decide) ⟨by decide, by decide⟩ (fun v s2 M4 J2 hq => ?_)
  obtain ⟨r6, rfl, rfl, rfl, k5, hx3⟩ := hq
  try dsimp only [Option.toList, List.cons_append, List.nil_append]
  exact xr_iret dX10_lasts_8 rfl rfl (⟨_, rfl, rfl, rfl, (Ke.tr (fun _ _ h => h) Ke.rf k5), hx3⟩)
set_option maxRecDepth 100000 in
set_option maxHeartbeats 4000000 in
theorem rbx_i {h3 h2 w : Int32} {b : Nat} (hb2 : 2 ≤ b) (hb : b ≤ 24) {nh : Nat} {D : xM} {t : Option zL} {S : Nat → Int32} (hn5 : nh ≤ 5) (hrub : 0 ≤ S 1 ∧ S 1 ≤ 3) (T : Int32 × Int32) {l : Launch} {G : xG} {M : xM} {J : xJ} {Q : xQ} (e_hn : M 62 6 = nI nh) (e_nw : M 62 9 = S 0) (e_rub : M 63 15 = S 1) (e_st : M 63 18 = S 4) (hL : LRt M t) (hA : AbS nh M D) (hW : WF nh D) (hC : ∀ (mo : Int32) (be : Int32) (M2 : xM), Ke WRB M M2 → ((mo, be) = T) → x_X l G fX10_beatFor 64 0 0 Q 122 [(6, .int (nI (b))), (5, .int (mo)), (4, .int (be)), (3, .int (h3)), (2, .int (h2)), (1, .int (w)), (0, .ref (62))] [] x_SH M2 J 0 0) : ∀ (m k : Nat) (mo : Int32) (be : Int32) (M1 : xM), k + m = b → Ke WRB M M1 → (bfJ nh D t S b (b - k) k (mo, be) = T) → x_X l G fX10_beatFor 64 0 0 Q 47 [(7, .int (nI (k))), (6, .int (nI (b))), (5, .int (mo)), (4, .int (be)), (3, .int (h3)), (2, .int (h2)), (1, .int (w)), (0, .ref (62))] [] x_SH M1 J 0 0 := by
  intro m
  induction m with
  | zero =>
    intro k mo be M1 hk hM hI
    refine xr_iload dX10_beatFor_47 0 rfl ?_
    refine xr_iload dX10_beatFor_49 1 rfl ?_
    refine xr_icmp_ge (tgt := 122) dX10_beatFor_51 rfl (fun _ => ?_) (fun c => absurd (nI_le (a := b) (b := k) (by omega) (by omega)) c)
    refine xb_ls (ls2 := [(6, .int (nI (b))), (5, .int (mo)), (4, .int (be)), (3, .int (h3)), (2, .int (h2)), (1, .int (w)), (0, .ref (62))]) [1, 2, 3, 4, 5, 6, 7] rfl ?_
    exact hC mo be _ hM (by obtain rfl : k = b := (by omega); rw [Nat.sub_self] at hI; exact hI)
  | succ m ih =>
    intro k mo be M1 hk hM hI
    have hkN : k < b := by omega
    refine xr_iload dX10_beatFor_47 0 rfl ?_
    refine xr_iload dX10_beatFor_49 1 rfl ?_
    refine xr_icmp_ge (tgt := 122) dX10_beatFor_51 rfl (fun c => absurd c (nI_ge (a := k) (b := b) (by omega) (by omega))) (fun _ => ?_)
    refine xr_aload_n dX10_beatFor_54 7 rfl ?_
    refine xr_getR flX10_9 dX10_beatFor_55 s_62 rfl ?_
    refine xr_bipush (v := 16) dX10_beatFor_58 rfl ?_
    refine xr_iload dX10_beatFor_60 1 rfl ?_
    refine xb_iast (j := 16) dX10_beatFor_62 s_63 (by decide) (by decide) ?_
    refine xr_aload_n dX10_beatFor_63 7 rfl ?_
    refine xr_getR flX10_9 dX10_beatFor_64 s_62 rfl ?_
    refine xr_bipush (v := 17) dX10_beatFor_67 rfl ?_
    refine xr_iload dX10_beatFor_69 0 rfl ?_
    refine xb_iast (j := 17) dX10_beatFor_71 s_63 (by decide) (by decide) ?_
    refine xr_aload_n dX10_beatFor_72 7 rfl ?_
    refine xr_callV (As := []) (rest := []) mlX10_270 (gy_X10_lasts (P := (nh, t, S 1, nI b, nI k, S 4)) (nw := S 0) (D := D) ⟨hn5, hrub, nb0 hb2 hb⟩ ⟨⟨(Eq.trans (congrFun (x_up_n _ _ _ (by decide)) _) (Eq.trans (congrFun (x_up_n _ _ _ (by decide)) _) (Eq.trans (hM 62 6 (by decide)) e_hn))), (AbS_k hA (fun kl hkl => (Eq.trans (x_up_k _ _ _ (by omega)) (Eq.trans (x_up_k _ _ _ (by omega)) (Eq.trans (hM 63 kl (by unfold WRB; omega)) rfl)))) (fun kl => (Eq.trans (congrFun (x_up_n _ _ _ (by decide)) _) (Eq.trans (congrFun (x_up_n _ _ _ (by decide)) _) (Eq.trans (hM 67 kl (by unfold WRB; omega)) rfl)))) (fun kl => (Eq.trans (congrFun (x_up_n _ _ _ (by decide)) _) (Eq.trans (congrFun (x_up_n _ _ _ (by decide)) _) (Eq.trans (hM 68 kl (by unfold WRB; omega)) rfl)))) hn5), hW, (LRt_k (Eq.trans (congrFun (x_up_n _ _ _ (by decide)) _) (Eq.trans (congrFun (x_up_n _ _ _ (by decide)) _) (Eq.trans (hM 62 13 (by unfold WRB; omega)) rfl))) (Eq.trans (x_up_n _ _ _ (by decide)) (Eq.trans (x_up_n _ _ _ (by decide)) (Eq.trans (funext fun kk => hM 70 kk (by unfold WRB; omega)) rfl))) hL)⟩, ⟨(Eq.trans (x_up_k _ _ _ (by decide)) (Eq.trans (x_up_k _ _ _ (by decide)) (Eq.trans (hM 63 15 (by decide)) e_rub))), (Eq.trans (x_up_k _ _ _ (by decide)) (x_up_s _ _ _ _)), (x_up_s _ _ _ _), (Eq.trans (x_up_k _ _ _ (by decide)) (Eq.trans (x_up_k _ _ _ (by decide)) (Eq.trans (hM 63 18 (by decide)) e_st)))⟩, (Eq.trans (congrFun (x_up_n _ _ _ (by decide)) _) (Eq.trans (congrFun (x_up_n _ _ _ (by decide)) _) (Eq.trans (hM 62 9 (by decide)) e_nw)))⟩) dX10_beatFor_73 s_62 rfl rfl (Nat.le_of_ble_eq_true rfl) (by decide) ⟨by decide, by decide⟩ (fun v s2 M2 J2 hq => ?_)
    obtain ⟨r4, rfl, rfl, rfl, k3, hx1⟩ := hq
    try dsimp only [Option.toList, List.cons_append, List.nil_append]
    subst hx1
    refine xb_top (y := nI (bfV nh D t S (nI b) (nI k))) rfl ?_
    refine xr_istore (ls2 := [(8, .int (nI (bfV nh D t S (nI b) (nI k)))), (7, .int (nI (k))), (6, .int (nI (b))), (5, .int (mo)), (4, .int (be)), (3, .int (h3)), (2, .int (h2)), (1, .int (w)), (0, .ref (62))]) dX10_beatFor_76 (by decide) rfl ?_
    refine xr_iload dX10_beatFor_78 0 rfl ?_
    refine xr_iload dX10_beatFor_80 3 rfl ?_
    refine xr_icmp_le (tgt := 96) dX10_beatFor_82 rfl (fun c5 => ?_) (fun c5 => ?_)
    · refine xr_iload dX10_beatFor_96 4 rfl ?_
      refine xr_istore (ls2 := [(4, .int (be)), (8, .int (nI (bfV nh D t S (nI b) (nI k)))), (7, .int (nI (k))), (6, .int (nI (b))), (5, .int (mo)), (3, .int (h3)), (2, .int (h2)), (1, .int (w)), (0, .ref (62))]) dX10_beatFor_98 (by decide) rfl ?_
      refine xr_iload dX10_beatFor_100 1 rfl ?_
      refine xr_iload dX10_beatFor_102 4 rfl ?_
      refine xr_icmp_le (tgt := 112) dX10_beatFor_104 rfl (fun _ => ?_) (fun c => absurd c5 c)
      refine xr_iload dX10_beatFor_112 4 rfl ?_
      refine xr_istore (ls2 := [(5, .int (mo)), (4, .int (be)), (8, .int (nI (bfV nh D t S (nI b) (nI k)))), (7, .int (nI (k))), (6, .int (nI (b))), (3, .int (h3)), (2, .int (h2)), (1, .int (w)), (0, .ref (62))]) dX10_beatFor_114 (by decide) rfl ?_
      refine xr_iinc (v := nI (k + 1)) (ls2 := [(7, .int (nI (k + 1))), (5, .int (mo)), (4, .int (be)), (8, .int (nI (bfV nh D t S (nI b) (nI k)))), (6, .int (nI (b))), (3, .int (h3)), (2, .int (h2)), (1, .int (w)), (0, .ref (62))]) dX10_beatFor_116 3 rfl (nI_1 _) (by decide) rfl ?_
      refine xr_goto (tgt := 47) dX10_beatFor_119 rfl ?_
      refine xb_ls (ls2 := [(7, .int (nI (k + 1))), (6, .int (nI (b))), (5, .int (mo)), (4, .int (be)), (3, .int (h3)), (2, .int (h2)), (1, .int (w)), (0, .ref (62))]) [0, 4, 1, 2, 5, 6, 7, 8] rfl ?_
      exact ih (k + 1) mo be M2 (by omega) (Ke.tr (fun pp kk => (fun hh => Or.elim hh (fun h => (Or.inl h)) (fun hh => Or.elim hh (fun h => (Or.inr (Or.inl h))) (fun hh => Or.elim hh (fun h => (Or.inr (Or.inr (Or.inl h)))) (fun hh => Or.elim hh (fun h => (Or.inr (Or.inr (Or.inr (Or.inl h))))) (fun hh => Or.elim hh (fun h => (Or.inr (Or.inr (Or.inr (Or.inr (Or.inl h)))))) (fun hh => Or.elim hh (fun h => (Or.inr (Or.inr (Or.inr (Or.inr (Or.inr (Or.inl h))))))) (fun hh => Or.elim hh (fun h => (Or.inr (Or.inr (Or.inr (Or.inr (Or.inr (Or.inr (Or.inl h)))))))) (fun h => (Or.inr (Or.inr (Or.inr (Or.inr (Or.inr (Or.inr (Or.inr (Or.inl h))))))))))))))))) (Ke.up (Or.inr (Or.inr (Or.inr (Or.inr (Or.inr (Or.inr (Or.inr (Or.inr (Or.inr (by omega)))))))))) (Ke.up (Or.inr (Or.inr (Or.inr (Or.inr (Or.inr (Or.inr (Or.inr (Or.inr (Or.inl (by omega)))))))))) hM)) k3) ((bfJ_e hkN (bf1_n (n := nh) (D := D) (t := t) (S := S) (be := mo) (wh := be) (Int32.not_lt.mpr c5))).trans hI)
    · refine xr_bipush (v := 100) dX10_beatFor_85 rfl ?_
      refine xr_iload dX10_beatFor_87 2 rfl ?_
      refine xr_imul dX10_beatFor_89 ?_
      refine xb_top (y := nI (100 * b)) (nI_mulc 100 b) ?_
      refine xr_iload dX10_beatFor_90 1 rfl ?_
      refine xr_iadd dX10_beatFor_92 ?_
      refine xb_top (y := nI (100 * b + k)) (nI_add (100 * b) (k)) ?_
      refine xr_goto (tgt := 98) dX10_beatFor_93 rfl ?_
      refine xr_istore (ls2 := [(4, .int (nI (100 * b + k))), (8, .int (nI (bfV nh D t S (nI b) (nI k)))), (7, .int (nI (k))), (6, .int (nI (b))), (5, .int (mo)), (3, .int (h3)), (2, .int (h2)), (1, .int (w)), (0, .ref (62))]) dX10_beatFor_98 (by decide) rfl ?_
      refine xr_iload dX10_beatFor_100 1 rfl ?_
      refine xr_iload dX10_beatFor_102 4 rfl ?_
      refine xr_icmp_le (tgt := 112) dX10_beatFor_104 rfl (fun c => absurd c c5) (fun _ => ?_)
      refine xr_iload dX10_beatFor_107 1 rfl ?_
      refine xr_goto (tgt := 114) dX10_beatFor_109 rfl ?_
      refine xr_istore (ls2 := [(5, .int (nI (bfV nh D t S (nI b) (nI k)))), (4, .int (nI (100 * b + k))), (8, .int (nI (bfV nh D t S (nI b) (nI k)))), (7, .int (nI (k))), (6, .int (nI (b))), (3, .int (h3)), (2, .int (h2)), (1, .int (w)), (0, .ref (62))]) dX10_beatFor_114 (by decide) rfl ?_
      refine xr_iinc (v := nI (k + 1)) (ls2 := [(7, .int (nI (k + 1))), (5, .int (nI (bfV nh D t S (nI b) (nI k)))), (4, .int (nI (100 * b + k))), (8, .int (nI (bfV nh D t S (nI b) (nI k)))), (6, .int (nI (b))), (3, .int (h3)), (2, .int (h2)), (1, .int (w)), (0, .ref (62))]) dX10_beatFor_116 3 rfl (nI_1 _) (by decide) rfl ?_
      refine xr_goto (tgt := 47) dX10_beatFor_119 rfl ?_
      refine xb_ls (ls2 := [(7, .int (nI (k + 1))), (6, .int (nI (b))), (5, .int (nI (bfV nh D t S (nI b) (nI k)))), (4, .int (nI (100 * b + k))), (3, .int (h3)), (2, .int (h2)), (1, .int (w)), (0, .ref (62))]) [0, 4, 1, 2, 5, 6, 7, 8] rfl ?_
      exact ih (k + 1) (nI (bfV nh D t S (nI b) (nI k))) (nI (100 * b + k)) M2 (by omega) (Ke.tr (fun pp kk => (fun hh => Or.elim hh (fun h => (Or.inl h)) (fun hh => Or.elim hh (fun h => (Or.inr (Or.inl h))) (fun hh => Or.elim hh (fun h => (Or.inr (Or.inr (Or.inl h)))) (fun hh => Or.elim hh (fun h => (Or.inr (Or.inr (Or.inr (Or.inl h))))) (fun hh => Or.elim hh (fun h => (Or.inr (Or.inr (Or.inr (Or.inr (Or.inl h)))))) (fun hh => Or.elim hh (fun h => (Or.inr (Or.inr (Or.inr (Or.inr (Or.inr (Or.inl h))))))) (fun hh => Or.elim hh (fun h => (Or.inr (Or.inr (Or.inr (Or.inr (Or.inr (Or.inr (Or.inl h)))))))) (fun h => (Or.inr (Or.inr (Or.inr (Or.inr (Or.inr (Or.inr (Or.inr (Or.inl h))))))))))))))))) (Ke.up (Or.inr (Or.inr (Or.inr (Or.inr (Or.inr (Or.inr (Or.inr (Or.inr (Or.inr (by omega)))))))))) (Ke.up (Or.inr (Or.inr (Or.inr (Or.inr (Or.inr (Or.inr (Or.inr (Or.inr (Or.inl (by omega)))))))))) hM)) k3) ((bfJ_e hkN (bf1_y (n := nh) (D := D) (t := t) (S := S) (be := mo) (wh := be) (Int32.not_le.mp c5))).trans hI)
set_option maxRecDepth 100000 in
set_option maxHeartbeats 4000000 in
theorem rbx_o {h3 h2 w : Int32} {nh : Nat} {D : xM} {t : Option zL} {S : Nat → Int32} (hn5 : nh ≤ 5) (hrub : 0 ≤ S 1 ∧ S 1 ≤ 3) (T : Int32 × Int32) {l : Launch} {G : xG} {M : xM} {J : xJ} {Q : xQ} (e_hn : M 62 6 = nI nh) (e_nw : M 62 9 = S 0) (e_rub : M 63 15 = S 1) (e_st : M 63 18 = S 4) (hL : LRt M t) (hA : AbS nh M D) (hW : WF nh D) (hC : ∀ (mo : Int32) (be : Int32) (M2 : xM), Ke WRB M M2 → ((mo, be) = T) → x_X l G fX10_beatFor 64 0 0 Q 128 [(5, .int (mo)), (4, .int (be)), (3, .int (h3)), (2, .int (h2)), (1, .int (w)), (0, .ref (62))] [] x_SH M2 J 0 0) : ∀ (m k : Nat) (mo : Int32) (be : Int32) (M1 : xM), k + m = 25 → Ke WRB M M1 → (bfI nh D t S (25 - k) k (mo, be) = T ∧ 2 ≤ k) → x_X l G fX10_beatFor 64 0 0 Q 37 [(6, .int (nI (k))), (5, .int (mo)), (4, .int (be)), (3, .int (h3)), (2, .int (h2)), (1, .int (w)), (0, .ref (62))] [] x_SH M1 J 0 0 := by
  intro m
  induction m with
  | zero =>
    intro k mo be M1 hk hM hI
    refine xr_iload dX10_beatFor_37 0 rfl ?_
    refine xr_bipush (v := 24) dX10_beatFor_39 rfl ?_
    refine xr_icmp_gt (tgt := 128) dX10_beatFor_41 rfl (fun _ => ?_) (fun c => absurd (nI_lt (a := 24) (b := k) (by omega) (by omega)) c)
    refine xb_ls (ls2 := [(5, .int (mo)), (4, .int (be)), (3, .int (h3)), (2, .int (h2)), (1, .int (w)), (0, .ref (62))]) [1, 2, 3, 4, 5, 6] rfl ?_
    exact hC mo be _ hM (by obtain rfl : k = 25 := (by omega); exact hI.1)
  | succ m ih =>
    intro k mo be M1 hk hM hI
    have hkN : k < 25 := by omega
    have hk2 := hI.2
    refine xr_iload dX10_beatFor_37 0 rfl ?_
    refine xr_bipush (v := 24) dX10_beatFor_39 rfl ?_
    refine xr_icmp_gt (tgt := 128) dX10_beatFor_41 rfl (fun c => absurd c (nI_nlt (a := 24) (b := k) (by omega) (by omega))) (fun _ => ?_)
    refine xr_iconst (v := 0) dX10_beatFor_44 rfl ?_
    refine xr_istore (ls2 := [(7, .int (0)), (6, .int (nI (k))), (5, .int (mo)), (4, .int (be)), (3, .int (h3)), (2, .int (h2)), (1, .int (w)), (0, .ref (62))]) dX10_beatFor_45 (by decide) rfl ?_
    refine xb_ls (ls2 := [(7, .int (nI (0))), (6, .int (nI (k))), (5, .int (mo)), (4, .int (be)), (3, .int (h3)), (2, .int (h2)), (1, .int (w)), (0, .ref (62))]) [0, 1, 2, 3, 4, 5, 6, 7] rfl ?_
    refine rbx_i (b := k) (by omega) (by omega) hn5 hrub (bfJ nh D t S k k 0 (mo, be)) (Eq.trans (hM 62 6 (by decide)) e_hn) (Eq.trans (hM 62 9 (by decide)) e_nw) (Eq.trans (hM 63 15 (by decide)) e_rub) (Eq.trans (hM 63 18 (by decide)) e_st) (LRt_k (Eq.trans (hM 62 13 (by unfold WRB; omega)) rfl) (Eq.trans (funext fun kk => hM 70 kk (by unfold WRB; omega)) rfl) hL) (AbS_k hA (fun kl hkl => (Eq.trans (hM 63 kl (by unfold WRB; omega)) rfl)) (fun kl => (Eq.trans (hM 67 kl (by unfold WRB; omega)) rfl)) (fun kl => (Eq.trans (hM 68 kl (by unfold WRB; omega)) rfl)) hn5) hW (fun q1 q2 M3 k4 hJ => ?_) (k - 0) 0 mo be M1 (by omega) Ke.rf rfl
    refine xr_iinc (v := nI (k + 1)) (ls2 := [(6, .int (nI (k + 1))), (5, .int (q1)), (4, .int (q2)), (3, .int (h3)), (2, .int (h2)), (1, .int (w)), (0, .ref (62))]) dX10_beatFor_122 0 rfl (nI_1 _) (by decide) rfl ?_
    refine xr_goto (tgt := 37) dX10_beatFor_125 rfl ?_
    refine xb_ls (ls2 := [(6, .int (nI (k + 1))), (5, .int (q1)), (4, .int (q2)), (3, .int (h3)), (2, .int (h2)), (1, .int (w)), (0, .ref (62))]) [0, 1, 2, 3, 4, 5, 6] rfl ?_
    exact ih (k + 1) q1 q2 M3 (by omega) (Ke.tr (fun _ _ h => h) hM k4) ⟨by rw [hJ]; exact (bfI_e hkN).trans hI.1, by omega⟩
set_option maxRecDepth 100000 in
set_option maxHeartbeats 4000000 in
theorem gx_X10_beatFor {nh : Nat} {D : xM} {t : Option zL} {S : Nat → Int32} (w : Int32) {l : Launch} {G : xG} {M : xM} {J : xJ} (hI : InvR M) (hWG : WG nh D S) (hG : RG M nh D t S) : x_M l G fX10_beatFor 64 0 0 [.ref (62), .int (w)] x_SH M J (qKI WRB M J (fun r M2 => InvR M2 ∧ (r = bfR nh D t S w ∧ RG M2 nh D t S))) := by
  refine xb_of pX10 (Nat.le_of_ble_eq_true rfl) rfl ?_
  obtain ⟨⟨hn, h_hn, e_hn, hw⟩, hbt, ⟨un, wn, h_uw, h_wn, e_un, e_wn⟩, hch, ⟨n, h_n, e_n⟩, htx, ⟨b, h_b, e_b⟩, hkd, ⟨ra, h_ra, e_ra⟩, hsl, ⟨ic, h_ic, e_ic⟩, hS⟩ := hI
  have hG0 := hG
  obtain ⟨hn5, hW, hrub, hbeat⟩ := hWG
  obtain ⟨hGn, hA, hL, e_nw, e_rub, e_bt, e_ph, e_st, e_kn, e_pu, e_lf⟩ := hG
  obtain rfl : nh = hn := (nI_eq (by omega) (by omega)).mp (hGn.symm.trans e_hn)
  have hbt2 : ¬ S 2 = 0 := ne2_0 hbeat.1
  refine xr_iload_n dX10_beatFor_0 1 rfl ?_
  refine xr_i2l dX10_beatFor_1 ?_
  refine xr_lconst (v := 0) dX10_beatFor_2 rfl ?_
  refine xr_lconst (v := 1) dX10_beatFor_3 rfl ?_
  refine xb_cS (As := [.long ((w).toInt64), .long (0), .long (1)]) (rest := []) mlX10_101 (c_within32 (w) (0) (1) (by decide) (by decide)) dX10_beatFor_4 rfl rfl (Nat.le_of_ble_eq_true rfl) (by decide) (by decide) ?_
  refine xb_bne (tgt := 12) dX10_beatFor_7 rfl (fun c1 => ?_) (fun c1 => ?_)
  · refine xr_aload_n dX10_beatFor_12 0 rfl ?_
    refine xr_getR flX10_9 dX10_beatFor_13 s_62 rfl ?_
    refine xr_bipush (v := 16) dX10_beatFor_16 rfl ?_
    refine xb_iald (j := 16) (v := (S 2)) dX10_beatFor_18 s_63 (by decide) (by decide) e_bt ?_
    refine xr_istore_n (ls2 := [(2, .int ((S 2))), (0, .ref (62)), (1, .int (w))]) dX10_beatFor_19 (by decide) rfl ?_
    refine xr_aload_n dX10_beatFor_20 1 rfl ?_
    refine xr_getR flX10_9 dX10_beatFor_21 s_62 rfl ?_
    refine xr_bipush (v := 17) dX10_beatFor_24 rfl ?_
    refine xb_iald (j := 17) (v := (S 3)) dX10_beatFor_26 s_63 (by decide) (by decide) e_ph ?_
    refine xr_istore_n (ls2 := [(3, .int ((S 3))), (2, .int ((S 2))), (0, .ref (62)), (1, .int (w))]) dX10_beatFor_27 (by decide) rfl ?_
    refine xr_iconst (v := 0) dX10_beatFor_28 rfl ?_
    refine xr_istore (ls2 := [(4, .int (0)), (3, .int ((S 3))), (2, .int ((S 2))), (0, .ref (62)), (1, .int (w))]) dX10_beatFor_29 (by decide) rfl ?_
    refine xr_iconst (v := -1) dX10_beatFor_31 rfl ?_
    refine xr_istore (ls2 := [(5, .int ((-1))), (4, .int (0)), (3, .int ((S 3))), (2, .int ((S 2))), (0, .ref (62)), (1, .int (w))]) dX10_beatFor_32 (by decide) rfl ?_
    refine xr_iconst (v := 2) dX10_beatFor_34 rfl ?_
    refine xr_istore (ls2 := [(6, .int (2)), (5, .int ((-1))), (4, .int (0)), (3, .int ((S 3))), (2, .int ((S 2))), (0, .ref (62)), (1, .int (w))]) dX10_beatFor_35 (by decide) rfl ?_
    refine xb_ls (ls2 := [(6, .int (nI (2))), (5, .int ((-1))), (4, .int (0)), (3, .int ((S 3))), (2, .int ((S 2))), (1, .int (w)), (0, .ref (62))]) [0, 1, 2, 3, 4, 6, 5] rfl ?_
    refine rbx_o hn5 hrub (bfI nh D t S 23 2 (-1, 0)) e_hn e_nw e_rub e_st (LRt_k rfl rfl hL) (AbS_k hA (fun kl hkl => rfl) (fun kl => rfl) (fun kl => rfl) hn5) hW (fun q2 q3 M4 k5 hE => ?_) (25 - 2) 2 (-1) 0 M (by omega) Ke.rf ⟨rfl, Nat.le_refl _⟩
    refine xr_aload_n dX10_beatFor_128 5 rfl ?_
    refine xr_getR flX10_9 dX10_beatFor_129 s_62 rfl ?_
    refine xr_bipush (v := 16) dX10_beatFor_132 rfl ?_
    refine xr_iload_n dX10_beatFor_134 3 rfl ?_
    refine xb_iast (j := 16) dX10_beatFor_135 s_63 (by decide) (by decide) ?_
    refine xr_aload_n dX10_beatFor_136 5 rfl ?_
    refine xr_getR flX10_9 dX10_beatFor_137 s_62 rfl ?_
    refine xr_bipush (v := 17) dX10_beatFor_140 rfl ?_
    refine xr_iload_n dX10_beatFor_142 2 rfl ?_
    refine xb_iast (j := 17) dX10_beatFor_143 s_63 (by decide) (by decide) ?_
    refine xr_iload_n dX10_beatFor_144 4 rfl ?_
    refine xr_if_ne (tgt := 153) dX10_beatFor_145 rfl (fun c6 => ?_) (fun c6 => ?_)
    · refine xr_iload dX10_beatFor_153 0 rfl ?_
      exact xr_iret dX10_beatFor_155 rfl rfl (⟨_, rfl, rfl, rfl, (Ke.up (Or.inr (Or.inr (Or.inr (Or.inr (Or.inr (Or.inr (Or.inr (Or.inr (Or.inr (by omega)))))))))) (Ke.up (Or.inr (Or.inr (Or.inr (Or.inr (Or.inr (Or.inr (Or.inr (Or.inr (Or.inl (by omega)))))))))) (Ke.tr (fun _ _ h => h) Ke.rf k5))), ⟨⟨⟨nh, by omega, (Eq.trans (congrFun (x_up_n _ _ _ (by decide)) _) (Eq.trans (congrFun (x_up_n _ _ _ (by decide)) _) (Eq.trans (k5 62 6 (by decide)) e_hn))), (fun kw hkw => by rw [show (x_up (x_up M4 63 16 (S 2)) 63 17 (S 3)) 63 (5 + kw) = M 63 (5 + kw) from (Eq.trans (x_up_k _ _ _ (by omega)) (Eq.trans (x_up_k _ _ _ (by omega)) (Eq.trans (k5 63 (5 + kw) (by unfold WRB; omega)) rfl)))]; exact hw kw hkw)⟩, (by rw [(Eq.trans (x_up_k _ _ _ (by decide)) (x_up_s _ _ _ _))]; exact hbt2), ⟨un, wn, by omega, by omega, (Eq.trans (congrFun (x_up_n _ _ _ (by decide)) _) (Eq.trans (congrFun (x_up_n _ _ _ (by decide)) _) (Eq.trans (k5 62 5 (by decide)) e_un))), (Eq.trans (congrFun (x_up_n _ _ _ (by decide)) _) (Eq.trans (congrFun (x_up_n _ _ _ (by decide)) _) (Eq.trans (k5 62 4 (by decide)) e_wn)))⟩, (fun kk hkk => by rw [show (x_up (x_up M4 63 16 (S 2)) 63 17 (S 3)) 64 kk = M 64 kk from (Eq.trans (congrFun (x_up_n _ _ _ (by omega)) _) (Eq.trans (congrFun (x_up_n _ _ _ (by omega)) _) (Eq.trans (k5 64 kk (by unfold WRB; omega)) rfl))), show (x_up (x_up M4 63 16 (S 2)) 63 17 (S 3)) 65 kk = M 65 kk from (Eq.trans (congrFun (x_up_n _ _ _ (by omega)) _) (Eq.trans (congrFun (x_up_n _ _ _ (by omega)) _) (Eq.trans (k5 65 kk (by unfold WRB; omega)) rfl))), show (x_up (x_up M4 63 16 (S 2)) 63 17 (S 3)) 66 kk = M 66 kk from (Eq.trans (congrFun (x_up_n _ _ _ (by omega)) _) (Eq.trans (congrFun (x_up_n _ _ _ (by omega)) _) (Eq.trans (k5 66 kk (by unfold WRB; omega)) rfl)))]; exact hch kk hkk), ⟨n, by omega, (Eq.trans (congrFun (x_up_n _ _ _ (by decide)) _) (Eq.trans (congrFun (x_up_n _ _ _ (by decide)) _) (Eq.trans (k5 62 11 (by decide)) e_n)))⟩, (by rw [show (x_up (x_up M4 63 16 (S 2)) 63 17 (S 3)) 62 13 = M 62 13 from (Eq.trans (congrFun (x_up_n _ _ _ (by omega)) _) (Eq.trans (congrFun (x_up_n _ _ _ (by omega)) _) (Eq.trans (k5 62 13 (by unfold WRB; omega)) rfl)))]; exact htx), ⟨b, by omega, (Eq.trans (congrFun (x_up_n _ _ _ (by decide)) _) (Eq.trans (congrFun (x_up_n _ _ _ (by decide)) _) (Eq.trans (k5 62 36 (by decide)) e_b)))⟩, (fun j hj => by obtain ⟨q, hq, eq⟩ := hkd j hj; exact ⟨q, hq, (show (x_up (x_up M4 63 16 (S 2)) 63 17 (S 3)) 81 j = M 81 j from (Eq.trans (congrFun (x_up_n _ _ _ (by omega)) _) (Eq.trans (congrFun (x_up_n _ _ _ (by omega)) _) (Eq.trans (k5 81 j (by unfold WRB; omega)) rfl)))).trans eq⟩), ⟨ra, by omega, (Eq.trans (congrFun (x_up_n _ _ _ (by decide)) _) (Eq.trans (congrFun (x_up_n _ _ _ (by decide)) _) (Eq.trans (k5 62 39 (by decide)) e_ra)))⟩, (fun j hj => by rw [show (x_up (x_up M4 63 16 (S 2)) 63 17 (S 3)) 83 j = M 83 j from (Eq.trans (congrFun (x_up_n _ _ _ (by omega)) _) (Eq.trans (congrFun (x_up_n _ _ _ (by omega)) _) (Eq.trans (k5 83 j (by unfold WRB; omega)) rfl))), show (x_up (x_up M4 63 16 (S 2)) 63 17 (S 3)) 84 j = M 84 j from (Eq.trans (congrFun (x_up_n _ _ _ (by omega)) _) (Eq.trans (congrFun (x_up_n _ _ _ (by omega)) _) (Eq.trans (k5 84 j (by unfold WRB; omega)) rfl)))]; exact hsl j hj), ⟨ic, by omega, (Eq.trans (congrFun (x_up_n _ _ _ (by decide)) _) (Eq.trans (congrFun (x_up_n _ _ _ (by decide)) _) (Eq.trans (k5 62 34 (by decide)) e_ic)))⟩, (fun j hj => by obtain ⟨q, hq, eq⟩ := hS j hj; exact ⟨q, hq, (show (x_up (x_up M4 63 16 (S 2)) 63 17 (S 3)) 75 j = M 75 j from (Eq.trans (congrFun (x_up_n _ _ _ (by omega)) _) (Eq.trans (congrFun (x_up_n _ _ _ (by omega)) _) (Eq.trans (k5 75 j (by unfold WRB; omega)) rfl)))).trans eq⟩)⟩, ⟨by unfold bfR; rw [if_pos c1, if_neg c6, ← hE], ⟨(Eq.trans (congrFun (x_up_n _ _ _ (by decide)) _) (Eq.trans (congrFun (x_up_n _ _ _ (by decide)) _) (Eq.trans (k5 62 6 (by decide)) e_hn))), (AbS_k hA (fun kl hkl => (Eq.trans (x_up_k _ _ _ (by omega)) (Eq.trans (x_up_k _ _ _ (by omega)) (Eq.trans (k5 63 kl (by unfold WRB; omega)) rfl)))) (fun kl => (Eq.trans (congrFun (x_up_n _ _ _ (by decide)) _) (Eq.trans (congrFun (x_up_n _ _ _ (by decide)) _) (Eq.trans (k5 67 kl (by unfold WRB; omega)) rfl)))) (fun kl => (Eq.trans (congrFun (x_up_n _ _ _ (by decide)) _) (Eq.trans (congrFun (x_up_n _ _ _ (by decide)) _) (Eq.trans (k5 68 kl (by unfold WRB; omega)) rfl)))) hn5), (LRt_k (Eq.trans (congrFun (x_up_n _ _ _ (by decide)) _) (Eq.trans (congrFun (x_up_n _ _ _ (by decide)) _) (Eq.trans (k5 62 13 (by unfold WRB; omega)) rfl))) (Eq.trans (x_up_n _ _ _ (by decide)) (Eq.trans (x_up_n _ _ _ (by decide)) (Eq.trans (funext fun kk => k5 70 kk (by unfold WRB; omega)) rfl))) hL), (Eq.trans (congrFun (x_up_n _ _ _ (by decide)) _) (Eq.trans (congrFun (x_up_n _ _ _ (by decide)) _) (Eq.trans (k5 62 9 (by decide)) e_nw))), (Eq.trans (x_up_k _ _ _ (by decide)) (Eq.trans (x_up_k _ _ _ (by decide)) (Eq.trans (k5 63 15 (by decide)) e_rub))), (Eq.trans (x_up_k _ _ _ (by decide)) (x_up_s _ _ _ _)), (x_up_s _ _ _ _), (Eq.trans (x_up_k _ _ _ (by decide)) (Eq.trans (x_up_k _ _ _ (by decide)) (Eq.trans (k5 63 18 (by decide)) e_st))), (Eq.trans (x_up_k _ _ _ (by decide)) (Eq.trans (x_up_k _ _ _ (by decide)) (Eq.trans (k5 63 19 (by decide)) e_kn))), (Eq.trans (congrFun (x_up_n _ _ _ (by decide)) _) (Eq.trans (congrFun (x_up_n _ _ _ (by decide)) _) (Eq.trans (k5 62 24 (by decide)) e_pu))), (Eq.trans (congrFun (x_up_n _ _ _ (by decide)) _) (Eq.trans (congrFun (x_up_n _ _ _ (by decide)) _) (Eq.trans (k5 62 25 (by decide)) e_lf)))⟩⟩⟩⟩)
    · refine xr_iload dX10_beatFor_148 1 rfl ?_
      refine xr_goto (tgt := 155) dX10_beatFor_150 rfl ?_
      exact xr_iret dX10_beatFor_155 rfl rfl (⟨_, rfl, rfl, rfl, (Ke.up (Or.inr (Or.inr (Or.inr (Or.inr (Or.inr (Or.inr (Or.inr (Or.inr (Or.inr (by omega)))))))))) (Ke.up (Or.inr (Or.inr (Or.inr (Or.inr (Or.inr (Or.inr (Or.inr (Or.inr (Or.inl (by omega)))))))))) (Ke.tr (fun _ _ h => h) Ke.rf k5))), ⟨⟨⟨nh, by omega, (Eq.trans (congrFun (x_up_n _ _ _ (by decide)) _) (Eq.trans (congrFun (x_up_n _ _ _ (by decide)) _) (Eq.trans (k5 62 6 (by decide)) e_hn))), (fun kw hkw => by rw [show (x_up (x_up M4 63 16 (S 2)) 63 17 (S 3)) 63 (5 + kw) = M 63 (5 + kw) from (Eq.trans (x_up_k _ _ _ (by omega)) (Eq.trans (x_up_k _ _ _ (by omega)) (Eq.trans (k5 63 (5 + kw) (by unfold WRB; omega)) rfl)))]; exact hw kw hkw)⟩, (by rw [(Eq.trans (x_up_k _ _ _ (by decide)) (x_up_s _ _ _ _))]; exact hbt2), ⟨un, wn, by omega, by omega, (Eq.trans (congrFun (x_up_n _ _ _ (by decide)) _) (Eq.trans (congrFun (x_up_n _ _ _ (by decide)) _) (Eq.trans (k5 62 5 (by decide)) e_un))), (Eq.trans (congrFun (x_up_n _ _ _ (by decide)) _) (Eq.trans (congrFun (x_up_n _ _ _ (by decide)) _) (Eq.trans (k5 62 4 (by decide)) e_wn)))⟩, (fun kk hkk => by rw [show (x_up (x_up M4 63 16 (S 2)) 63 17 (S 3)) 64 kk = M 64 kk from (Eq.trans (congrFun (x_up_n _ _ _ (by omega)) _) (Eq.trans (congrFun (x_up_n _ _ _ (by omega)) _) (Eq.trans (k5 64 kk (by unfold WRB; omega)) rfl))), show (x_up (x_up M4 63 16 (S 2)) 63 17 (S 3)) 65 kk = M 65 kk from (Eq.trans (congrFun (x_up_n _ _ _ (by omega)) _) (Eq.trans (congrFun (x_up_n _ _ _ (by omega)) _) (Eq.trans (k5 65 kk (by unfold WRB; omega)) rfl))), show (x_up (x_up M4 63 16 (S 2)) 63 17 (S 3)) 66 kk = M 66 kk from (Eq.trans (congrFun (x_up_n _ _ _ (by omega)) _) (Eq.trans (congrFun (x_up_n _ _ _ (by omega)) _) (Eq.trans (k5 66 kk (by unfold WRB; omega)) rfl)))]; exact hch kk hkk), ⟨n, by omega, (Eq.trans (congrFun (x_up_n _ _ _ (by decide)) _) (Eq.trans (congrFun (x_up_n _ _ _ (by decide)) _) (Eq.trans (k5 62 11 (by decide)) e_n)))⟩, (by rw [show (x_up (x_up M4 63 16 (S 2)) 63 17 (S 3)) 62 13 = M 62 13 from (Eq.trans (congrFun (x_up_n _ _ _ (by omega)) _) (Eq.trans (congrFun (x_up_n _ _ _ (by omega)) _) (Eq.trans (k5 62 13 (by unfold WRB; omega)) rfl)))]; exact htx), ⟨b, by omega, (Eq.trans (congrFun (x_up_n _ _ _ (by decide)) _) (Eq.trans (congrFun (x_up_n _ _ _ (by decide)) _) (Eq.trans (k5 62 36 (by decide)) e_b)))⟩, (fun j hj => by obtain ⟨q, hq, eq⟩ := hkd j hj; exact ⟨q, hq, (show (x_up (x_up M4 63 16 (S 2)) 63 17 (S 3)) 81 j = M 81 j from (Eq.trans (congrFun (x_up_n _ _ _ (by omega)) _) (Eq.trans (congrFun (x_up_n _ _ _ (by omega)) _) (Eq.trans (k5 81 j (by unfold WRB; omega)) rfl)))).trans eq⟩), ⟨ra, by omega, (Eq.trans (congrFun (x_up_n _ _ _ (by decide)) _) (Eq.trans (congrFun (x_up_n _ _ _ (by decide)) _) (Eq.trans (k5 62 39 (by decide)) e_ra)))⟩, (fun j hj => by rw [show (x_up (x_up M4 63 16 (S 2)) 63 17 (S 3)) 83 j = M 83 j from (Eq.trans (congrFun (x_up_n _ _ _ (by omega)) _) (Eq.trans (congrFun (x_up_n _ _ _ (by omega)) _) (Eq.trans (k5 83 j (by unfold WRB; omega)) rfl))), show (x_up (x_up M4 63 16 (S 2)) 63 17 (S 3)) 84 j = M 84 j from (Eq.trans (congrFun (x_up_n _ _ _ (by omega)) _) (Eq.trans (congrFun (x_up_n _ _ _ (by omega)) _) (Eq.trans (k5 84 j (by unfold WRB; omega)) rfl)))]; exact hsl j hj), ⟨ic, by omega, (Eq.trans (congrFun (x_up_n _ _ _ (by decide)) _) (Eq.trans (congrFun (x_up_n _ _ _ (by decide)) _) (Eq.trans (k5 62 34 (by decide)) e_ic)))⟩, (fun j hj => by obtain ⟨q, hq, eq⟩ := hS j hj; exact ⟨q, hq, (show (x_up (x_up M4 63 16 (S 2)) 63 17 (S 3)) 75 j = M 75 j from (Eq.trans (congrFun (x_up_n _ _ _ (by omega)) _) (Eq.trans (congrFun (x_up_n _ _ _ (by omega)) _) (Eq.trans (k5 75 j (by unfold WRB; omega)) rfl)))).trans eq⟩)⟩, ⟨by unfold bfR; rw [if_pos c1, if_pos c6, ← hE], ⟨(Eq.trans (congrFun (x_up_n _ _ _ (by decide)) _) (Eq.trans (congrFun (x_up_n _ _ _ (by decide)) _) (Eq.trans (k5 62 6 (by decide)) e_hn))), (AbS_k hA (fun kl hkl => (Eq.trans (x_up_k _ _ _ (by omega)) (Eq.trans (x_up_k _ _ _ (by omega)) (Eq.trans (k5 63 kl (by unfold WRB; omega)) rfl)))) (fun kl => (Eq.trans (congrFun (x_up_n _ _ _ (by decide)) _) (Eq.trans (congrFun (x_up_n _ _ _ (by decide)) _) (Eq.trans (k5 67 kl (by unfold WRB; omega)) rfl)))) (fun kl => (Eq.trans (congrFun (x_up_n _ _ _ (by decide)) _) (Eq.trans (congrFun (x_up_n _ _ _ (by decide)) _) (Eq.trans (k5 68 kl (by unfold WRB; omega)) rfl)))) hn5), (LRt_k (Eq.trans (congrFun (x_up_n _ _ _ (by decide)) _) (Eq.trans (congrFun (x_up_n _ _ _ (by decide)) _) (Eq.trans (k5 62 13 (by unfold WRB; omega)) rfl))) (Eq.trans (x_up_n _ _ _ (by decide)) (Eq.trans (x_up_n _ _ _ (by decide)) (Eq.trans (funext fun kk => k5 70 kk (by unfold WRB; omega)) rfl))) hL), (Eq.trans (congrFun (x_up_n _ _ _ (by decide)) _) (Eq.trans (congrFun (x_up_n _ _ _ (by decide)) _) (Eq.trans (k5 62 9 (by decide)) e_nw))), (Eq.trans (x_up_k _ _ _ (by decide)) (Eq.trans (x_up_k _ _ _ (by decide)) (Eq.trans (k5 63 15 (by decide)) e_rub))), (Eq.trans (x_up_k _ _ _ (by decide)) (x_up_s _ _ _ _)), (x_up_s _ _ _ _), (Eq.trans (x_up_k _ _ _ (by decide)) (Eq.trans (x_up_k _ _ _ (by decide)) (Eq.trans (k5 63 18 (by decide)) e_st))), (Eq.trans (x_up_k _ _ _ (by decide)) (Eq.trans (x_up_k _ _ _ (by decide)) (Eq.trans (k5 63 19 (by decide)) e_kn))), (Eq.trans (congrFun (x_up_n _ _ _ (by decide)) _) (Eq.trans (congrFun (x_up_n _ _ _ (by decide)) _) (Eq.trans (k5 62 24 (by decide)) e_pu))), (Eq.trans (congrFun (x_up_n _ _ _ (by decide)) _) (Eq.trans (congrFun (x_up_n _ _ _ (by decide)) _) (Eq.trans (k5 62 25 (by decide)) e_lf)))⟩⟩⟩⟩)
  · refine xr_iconst (v := -1) dX10_beatFor_10 rfl ?_
    exact xr_iret dX10_beatFor_11 rfl rfl (⟨_, rfl, rfl, rfl, Ke.rf, ⟨⟨⟨nh, by omega, e_hn, (fun kw hkw => by rw [show M 63 (5 + kw) = M 63 (5 + kw) from rfl]; exact hw kw hkw)⟩, (by rw [show M 63 16 = M 63 16 from rfl]; exact hbt), ⟨un, wn, by omega, by omega, e_un, e_wn⟩, (fun kk hkk => by rw [show M 64 kk = M 64 kk from rfl, show M 65 kk = M 65 kk from rfl, show M 66 kk = M 66 kk from rfl]; exact hch kk hkk), ⟨n, by omega, e_n⟩, (by rw [show M 62 13 = M 62 13 from rfl]; exact htx), ⟨b, by omega, e_b⟩, (fun j hj => by obtain ⟨q, hq, eq⟩ := hkd j hj; exact ⟨q, hq, (show M 81 j = M 81 j from rfl).trans eq⟩), ⟨ra, by omega, e_ra⟩, (fun j hj => by rw [show M 83 j = M 83 j from rfl, show M 84 j = M 84 j from rfl]; exact hsl j hj), ⟨ic, by omega, e_ic⟩, (fun j hj => by obtain ⟨q, hq, eq⟩ := hS j hj; exact ⟨q, hq, (show M 75 j = M 75 j from rfl).trans eq⟩)⟩, ⟨by unfold bfR; rw [if_neg c1], hG0⟩⟩⟩)
theorem lpA_r {n : Nat} {D : xM} {t : Option zL} {S : Nat → Int32} {nn le r : Int32} {k : Nat} (hk : k < 6) (h : le = lpA n D t S nn k (6 - k)) (c : nn ≤ nI (lpV n D t S (5 - k)) ∧ r = qv k ∨ ¬ nn ≤ nI (lpV n D t S (5 - k)) ∧ r = le) : r = lpA n D t S nn (k + 1) (6 - (k + 1)) := by
  rw [show 6 - (k + 1) = 5 - k by omega]
  show r = (if nn ≤ nI (lpV n D t S (5 - k)) then nI (5 - k) else lpA n D t S nn k (5 - k + 1))
  rcases c with ⟨c, e⟩ | ⟨c, e⟩
  · rw [if_pos c, e, qv_n hk]
  · rw [if_neg c, e, h, show 6 - k = 5 - k + 1 by omega]
set_option maxRecDepth 100000 in
set_option maxHeartbeats 4000000 in
theorem rlpx {hd nn : Int32} {nh : Nat} {D : xM} {t : Option zL} {S : Nat → Int32} (hn5 : nh ≤ 5) (hrub : 0 ≤ S 1 ∧ S 1 ≤ 3) (hbt2 : ¬ S 2 = 0) {l : Launch} {G : xG} {M : xM} {J : xJ} {Q : xQ} (e_hn : M 62 6 = nI nh) (e_nw : M 62 9 = S 0) (e_rub : M 63 15 = S 1) (e_bt : M 63 16 = S 2) (e_ph : M 63 17 = S 3) (hL : LRt M t) (hA : AbS nh M D) (hW : WF nh D) (hC : ∀ (le : Int32) (M2 : xM), Ke WRL M M2 → (le = lpA nh D t S nn 6 (6 - 6)) → x_X l G fX10_leastPush 64 0 0 Q 63 [(3, .int (le)), (2, .int (hd)), (0, .ref (62))] [] x_SH M2 J 0 0) : ∀ (m k : Nat) (le : Int32) (M1 : xM), k + m = 6 → Ke WRL M M1 → (le = lpA nh D t S nn k (6 - k)) → x_X l G fX10_leastPush 64 0 0 Q 28 [(4, .int (qv k)), (3, .int (le)), (2, .int (hd)), (1, .int (nn)), (0, .ref (62))] [] x_SH M1 J 0 0 := by
  intro m
  induction m with
  | zero =>
    intro k le M1 hk hM hI
    refine xr_iload dX10_leastPush_28 0 rfl ?_
    refine xr_if_lt (tgt := 63) dX10_leastPush_30 rfl (fun _ => ?_) (fun c => absurd (qv_lt (k := k) (by omega)) c)
    refine xb_ls (ls2 := [(3, .int (le)), (2, .int (hd)), (0, .ref (62))]) [1, 2, 4] rfl ?_
    exact hC le _ hM (by obtain rfl : k = 6 := (by omega); exact hI)
  | succ m ih =>
    intro k le M1 hk hM hI
    have hkN : k < 6 := by omega
    refine xr_iload dX10_leastPush_28 0 rfl ?_
    refine xr_if_lt (tgt := 63) dX10_leastPush_30 rfl (fun c => absurd c (qv_ge (k := k) (by omega))) (fun _ => ?_)
    refine xr_aload_n dX10_leastPush_33 4 rfl ?_
    refine xr_getR flX10_9 dX10_leastPush_34 s_62 rfl ?_
    refine xr_bipush (v := 18) dX10_leastPush_37 rfl ?_
    refine xr_iload dX10_leastPush_39 0 rfl ?_
    refine xb_iast (j := 18) dX10_leastPush_41 s_63 (by decide) (by decide) ?_
    refine xr_aload_n dX10_leastPush_42 4 rfl ?_
    refine xr_callV (As := []) (rest := []) mlX10_270 (gy_X10_lasts (P := (nh, t, S 1, S 2, S 3, qv k)) (nw := S 0) (D := D) ⟨hn5, hrub, hbt2⟩ ⟨⟨(Eq.trans (congrFun (x_up_n _ _ _ (by decide)) _) (Eq.trans (hM 62 6 (by decide)) e_hn)), (AbS_k hA (fun kl hkl => (Eq.trans (x_up_k _ _ _ (by omega)) (Eq.trans (hM 63 kl (by unfold WRL; omega)) rfl))) (fun kl => (Eq.trans (congrFun (x_up_n _ _ _ (by decide)) _) (Eq.trans (hM 67 kl (by unfold WRL; omega)) rfl))) (fun kl => (Eq.trans (congrFun (x_up_n _ _ _ (by decide)) _) (Eq.trans (hM 68 kl (by unfold WRL; omega)) rfl))) hn5), hW, (LRt_k (Eq.trans (congrFun (x_up_n _ _ _ (by decide)) _) (Eq.trans (hM 62 13 (by unfold WRL; omega)) rfl)) (Eq.trans (x_up_n _ _ _ (by decide)) (Eq.trans (funext fun kk => hM 70 kk (by unfold WRL; omega)) rfl)) hL)⟩, ⟨(Eq.trans (x_up_k _ _ _ (by decide)) (Eq.trans (hM 63 15 (by decide)) e_rub)), (Eq.trans (x_up_k _ _ _ (by decide)) (Eq.trans (hM 63 16 (by decide)) e_bt)), (Eq.trans (x_up_k _ _ _ (by decide)) (Eq.trans (hM 63 17 (by decide)) e_ph)), (x_up_s _ _ _ _)⟩, (Eq.trans (congrFun (x_up_n _ _ _ (by decide)) _) (Eq.trans (hM 62 9 (by decide)) e_nw))⟩) dX10_leastPush_43 s_62 rfl rfl (Nat.le_of_ble_eq_true rfl) (by decide) ⟨by decide, by decide⟩ (fun v s2 M2 J2 hq => ?_)
    obtain ⟨r4, rfl, rfl, rfl, k3, hx1⟩ := hq
    try dsimp only [Option.toList, List.cons_append, List.nil_append]
    subst hx1
    refine xb_top (y := nI (lpV nh D t S (5 - k))) (by rw [qv_n (by omega)]; rfl) ?_
    refine xr_iload_n dX10_leastPush_46 3 rfl ?_
    refine xr_icmp_lt (tgt := 55) dX10_leastPush_47 rfl (fun c5 => ?_) (fun c5 => ?_)
    · refine xr_iload_n dX10_leastPush_55 1 rfl ?_
      refine xr_istore_n (ls2 := [(3, .int (le)), (4, .int (qv k)), (2, .int (hd)), (1, .int (nn)), (0, .ref (62))]) dX10_leastPush_56 (by decide) rfl ?_
      refine xr_iinc (v := qv (k + 1)) (ls2 := [(4, .int (qv (k + 1))), (3, .int (le)), (2, .int (hd)), (1, .int (nn)), (0, .ref (62))]) dX10_leastPush_57 1 rfl (qv_s (by omega)) (by decide) rfl ?_
      refine xr_goto (tgt := 28) dX10_leastPush_60 rfl ?_
      refine xb_ls (ls2 := [(4, .int (qv (k + 1))), (3, .int (le)), (2, .int (hd)), (1, .int (nn)), (0, .ref (62))]) [0, 1, 2, 3, 4] rfl ?_
      exact ih (k + 1) le M2 (by omega) (Ke.tr (fun pp kk => (fun hh => Or.elim hh (fun h => (Or.inl h)) (fun hh => Or.elim hh (fun h => (Or.inr (Or.inl h))) (fun hh => Or.elim hh (fun h => (Or.inr (Or.inr (Or.inl h)))) (fun hh => Or.elim hh (fun h => (Or.inr (Or.inr (Or.inr (Or.inl h))))) (fun hh => Or.elim hh (fun h => (Or.inr (Or.inr (Or.inr (Or.inr (Or.inl h)))))) (fun hh => Or.elim hh (fun h => (Or.inr (Or.inr (Or.inr (Or.inr (Or.inr (Or.inl h))))))) (fun hh => Or.elim hh (fun h => (Or.inr (Or.inr (Or.inr (Or.inr (Or.inr (Or.inr (Or.inl h)))))))) (fun h => (Or.inr (Or.inr (Or.inr (Or.inr (Or.inr (Or.inr (Or.inr (Or.inl h))))))))))))))))) (Ke.up (Or.inr (Or.inr (Or.inr (Or.inr (Or.inr (Or.inr (Or.inr (Or.inr (by omega))))))))) hM) k3) (lpA_r hkN hI (Or.inr ⟨Int32.not_le.mpr c5, rfl⟩))
    · refine xr_iload dX10_leastPush_50 0 rfl ?_
      refine xr_goto (tgt := 56) dX10_leastPush_52 rfl ?_
      refine xr_istore_n (ls2 := [(3, .int (qv k)), (4, .int (qv k)), (2, .int (hd)), (1, .int (nn)), (0, .ref (62))]) dX10_leastPush_56 (by decide) rfl ?_
      refine xr_iinc (v := qv (k + 1)) (ls2 := [(4, .int (qv (k + 1))), (3, .int (qv k)), (2, .int (hd)), (1, .int (nn)), (0, .ref (62))]) dX10_leastPush_57 1 rfl (qv_s (by omega)) (by decide) rfl ?_
      refine xr_goto (tgt := 28) dX10_leastPush_60 rfl ?_
      refine xb_ls (ls2 := [(4, .int (qv (k + 1))), (3, .int (qv k)), (2, .int (hd)), (1, .int (nn)), (0, .ref (62))]) [0, 1, 2, 3, 4] rfl ?_
      exact ih (k + 1) (qv k) M2 (by omega) (Ke.tr (fun pp kk => (fun hh => Or.elim hh (fun h => (Or.inl h)) (fun hh => Or.elim hh (fun h => (Or.inr (Or.inl h))) (fun hh => Or.elim hh (fun h => (Or.inr (Or.inr (Or.inl h)))) (fun hh => Or.elim hh (fun h => (Or.inr (Or.inr (Or.inr (Or.inl h))))) (fun hh => Or.elim hh (fun h => (Or.inr (Or.inr (Or.inr (Or.inr (Or.inl h)))))) (fun hh => Or.elim hh (fun h => (Or.inr (Or.inr (Or.inr (Or.inr (Or.inr (Or.inl h))))))) (fun hh => Or.elim hh (fun h => (Or.inr (Or.inr (Or.inr (Or.inr (Or.inr (Or.inr (Or.inl h)))))))) (fun h => (Or.inr (Or.inr (Or.inr (Or.inr (Or.inr (Or.inr (Or.inr (Or.inl h))))))))))))))))) (Ke.up (Or.inr (Or.inr (Or.inr (Or.inr (Or.inr (Or.inr (Or.inr (Or.inr (by omega))))))))) hM) k3) (lpA_r hkN hI (Or.inl ⟨Int32.not_lt.mp c5, rfl⟩))
set_option maxRecDepth 100000 in
set_option maxHeartbeats 4000000 in
theorem gx_X10_leastPush {nh : Nat} {D : xM} {t : Option zL} {S : Nat → Int32} (nn : Int32) {l : Launch} {G : xG} {M : xM} {J : xJ} (hI : InvR M) (hWG : WG nh D S) (hG : RG M nh D t S) : x_M l G fX10_leastPush 64 0 0 [.ref (62), .int (nn)] x_SH M J (qKI WRL M J (fun r M2 => InvR M2 ∧ (r = lpR nh D t S nn ∧ RG M2 nh D t S))) := by
  refine xb_of pX10 (Nat.le_of_ble_eq_true rfl) rfl ?_
  obtain ⟨⟨hn, h_hn, e_hn, hw⟩, hbt, ⟨un, wn, h_uw, h_wn, e_un, e_wn⟩, hch, ⟨n, h_n, e_n⟩, htx, ⟨b, h_b, e_b⟩, hkd, ⟨ra, h_ra, e_ra⟩, hsl, ⟨ic, h_ic, e_ic⟩, hS⟩ := hI
  have hG0 := hG
  obtain ⟨hn5, hW, hrub, hbeat⟩ := hWG
  obtain ⟨hGn, hA, hL, e_nw, e_rub, e_bt, e_ph, e_st, e_kn, e_pu, e_lf⟩ := hG
  obtain rfl : nh = hn := (nI_eq (by omega) (by omega)).mp (hGn.symm.trans e_hn)
  have hbt2 : ¬ S 2 = 0 := ne2_0 hbeat.1
  refine xr_iload_n dX10_leastPush_0 1 rfl ?_
  refine xr_i2l dX10_leastPush_1 ?_
  refine xr_lconst (v := 1) dX10_leastPush_2 rfl ?_
  refine xr_ldc2 coX10_244 dX10_leastPush_3 ?_
  refine xb_cS (As := [.long ((nn).toInt64), .long (1), .long (200)]) (rest := []) mlX10_101 (c_within32 (nn) (1) (200) (by decide) (by decide)) dX10_leastPush_6 rfl rfl (Nat.le_of_ble_eq_true rfl) (by decide) (by decide) ?_
  refine xb_bne (tgt := 14) dX10_leastPush_9 rfl (fun c1 => ?_) (fun c1 => ?_)
  · refine xr_aload_n dX10_leastPush_14 0 rfl ?_
    refine xr_getR flX10_9 dX10_leastPush_15 s_62 rfl ?_
    refine xr_bipush (v := 18) dX10_leastPush_18 rfl ?_
    refine xb_iald (j := 18) (v := (S 4)) dX10_leastPush_20 s_63 (by decide) (by decide) e_st ?_
    refine xr_istore_n (ls2 := [(2, .int ((S 4))), (0, .ref (62)), (1, .int (nn))]) dX10_leastPush_21 (by decide) rfl ?_
    refine xr_bipush (v := -2) dX10_leastPush_22 rfl ?_
    refine xr_istore_n (ls2 := [(3, .int ((-2))), (2, .int ((S 4))), (0, .ref (62)), (1, .int (nn))]) dX10_leastPush_24 (by decide) rfl ?_
    refine xr_iconst (v := 5) dX10_leastPush_25 rfl ?_
    refine xr_istore (ls2 := [(4, .int (5)), (3, .int ((-2))), (2, .int ((S 4))), (0, .ref (62)), (1, .int (nn))]) dX10_leastPush_26 (by decide) rfl ?_
    refine xb_ls (ls2 := [(4, .int (5)), (3, .int ((-2))), (2, .int ((S 4))), (1, .int (nn)), (0, .ref (62))]) [0, 1, 2, 4, 3] rfl ?_
    refine rlpx hn5 hrub hbt2 e_hn e_nw e_rub e_bt e_ph (LRt_k rfl rfl hL) (AbS_k hA (fun kl hkl => rfl) (fun kl => rfl) (fun kl => rfl) hn5) hW (fun q2 M3 k4 hE => ?_) (6 - 0) 0 (-2) M (by omega) Ke.rf rfl
    refine xr_aload_n dX10_leastPush_63 2 rfl ?_
    refine xr_getR flX10_9 dX10_leastPush_64 s_62 rfl ?_
    refine xr_bipush (v := 18) dX10_leastPush_67 rfl ?_
    refine xr_iload_n dX10_leastPush_69 1 rfl ?_
    refine xb_iast (j := 18) dX10_leastPush_70 s_63 (by decide) (by decide) ?_
    refine xr_iload_n dX10_leastPush_71 0 rfl ?_
    exact xr_iret dX10_leastPush_72 rfl rfl (⟨_, rfl, rfl, rfl, (Ke.up (Or.inr (Or.inr (Or.inr (Or.inr (Or.inr (Or.inr (Or.inr (Or.inr (by omega))))))))) (Ke.tr (fun _ _ h => h) Ke.rf k4)), ⟨⟨⟨nh, by omega, (Eq.trans (congrFun (x_up_n _ _ _ (by decide)) _) (Eq.trans (k4 62 6 (by decide)) e_hn)), (fun kw hkw => by rw [show (x_up M3 63 18 (S 4)) 63 (5 + kw) = M 63 (5 + kw) from (Eq.trans (x_up_k _ _ _ (by omega)) (Eq.trans (k4 63 (5 + kw) (by unfold WRL; omega)) rfl))]; exact hw kw hkw)⟩, (by rw [show (x_up M3 63 18 (S 4)) 63 16 = M 63 16 from (Eq.trans (x_up_k _ _ _ (by omega)) (Eq.trans (k4 63 16 (by unfold WRL; omega)) rfl))]; exact hbt), ⟨un, wn, by omega, by omega, (Eq.trans (congrFun (x_up_n _ _ _ (by decide)) _) (Eq.trans (k4 62 5 (by decide)) e_un)), (Eq.trans (congrFun (x_up_n _ _ _ (by decide)) _) (Eq.trans (k4 62 4 (by decide)) e_wn))⟩, (fun kk hkk => by rw [show (x_up M3 63 18 (S 4)) 64 kk = M 64 kk from (Eq.trans (congrFun (x_up_n _ _ _ (by omega)) _) (Eq.trans (k4 64 kk (by unfold WRL; omega)) rfl)), show (x_up M3 63 18 (S 4)) 65 kk = M 65 kk from (Eq.trans (congrFun (x_up_n _ _ _ (by omega)) _) (Eq.trans (k4 65 kk (by unfold WRL; omega)) rfl)), show (x_up M3 63 18 (S 4)) 66 kk = M 66 kk from (Eq.trans (congrFun (x_up_n _ _ _ (by omega)) _) (Eq.trans (k4 66 kk (by unfold WRL; omega)) rfl))]; exact hch kk hkk), ⟨n, by omega, (Eq.trans (congrFun (x_up_n _ _ _ (by decide)) _) (Eq.trans (k4 62 11 (by decide)) e_n))⟩, (by rw [show (x_up M3 63 18 (S 4)) 62 13 = M 62 13 from (Eq.trans (congrFun (x_up_n _ _ _ (by omega)) _) (Eq.trans (k4 62 13 (by unfold WRL; omega)) rfl))]; exact htx), ⟨b, by omega, (Eq.trans (congrFun (x_up_n _ _ _ (by decide)) _) (Eq.trans (k4 62 36 (by decide)) e_b))⟩, (fun j hj => by obtain ⟨q, hq, eq⟩ := hkd j hj; exact ⟨q, hq, (show (x_up M3 63 18 (S 4)) 81 j = M 81 j from (Eq.trans (congrFun (x_up_n _ _ _ (by omega)) _) (Eq.trans (k4 81 j (by unfold WRL; omega)) rfl))).trans eq⟩), ⟨ra, by omega, (Eq.trans (congrFun (x_up_n _ _ _ (by decide)) _) (Eq.trans (k4 62 39 (by decide)) e_ra))⟩, (fun j hj => by rw [show (x_up M3 63 18 (S 4)) 83 j = M 83 j from (Eq.trans (congrFun (x_up_n _ _ _ (by omega)) _) (Eq.trans (k4 83 j (by unfold WRL; omega)) rfl)), show (x_up M3 63 18 (S 4)) 84 j = M 84 j from (Eq.trans (congrFun (x_up_n _ _ _ (by omega)) _) (Eq.trans (k4 84 j (by unfold WRL; omega)) rfl))]; exact hsl j hj), ⟨ic, by omega, (Eq.trans (congrFun (x_up_n _ _ _ (by decide)) _) (Eq.trans (k4 62 34 (by decide)) e_ic))⟩, (fun j hj => by obtain ⟨q, hq, eq⟩ := hS j hj; exact ⟨q, hq, (show (x_up M3 63 18 (S 4)) 75 j = M 75 j from (Eq.trans (congrFun (x_up_n _ _ _ (by omega)) _) (Eq.trans (k4 75 j (by unfold WRL; omega)) rfl))).trans eq⟩)⟩, ⟨by unfold lpR; rw [if_pos c1]; exact hE, ⟨(Eq.trans (congrFun (x_up_n _ _ _ (by decide)) _) (Eq.trans (k4 62 6 (by decide)) e_hn)), (AbS_k hA (fun kl hkl => (Eq.trans (x_up_k _ _ _ (by omega)) (Eq.trans (k4 63 kl (by unfold WRL; omega)) rfl))) (fun kl => (Eq.trans (congrFun (x_up_n _ _ _ (by decide)) _) (Eq.trans (k4 67 kl (by unfold WRL; omega)) rfl))) (fun kl => (Eq.trans (congrFun (x_up_n _ _ _ (by decide)) _) (Eq.trans (k4 68 kl (by unfold WRL; omega)) rfl))) hn5), (LRt_k (Eq.trans (congrFun (x_up_n _ _ _ (by decide)) _) (Eq.trans (k4 62 13 (by unfold WRL; omega)) rfl)) (Eq.trans (x_up_n _ _ _ (by decide)) (Eq.trans (funext fun kk => k4 70 kk (by unfold WRL; omega)) rfl)) hL), (Eq.trans (congrFun (x_up_n _ _ _ (by decide)) _) (Eq.trans (k4 62 9 (by decide)) e_nw)), (Eq.trans (x_up_k _ _ _ (by decide)) (Eq.trans (k4 63 15 (by decide)) e_rub)), (Eq.trans (x_up_k _ _ _ (by decide)) (Eq.trans (k4 63 16 (by decide)) e_bt)), (Eq.trans (x_up_k _ _ _ (by decide)) (Eq.trans (k4 63 17 (by decide)) e_ph)), (x_up_s _ _ _ _), (Eq.trans (x_up_k _ _ _ (by decide)) (Eq.trans (k4 63 19 (by decide)) e_kn)), (Eq.trans (congrFun (x_up_n _ _ _ (by decide)) _) (Eq.trans (k4 62 24 (by decide)) e_pu)), (Eq.trans (congrFun (x_up_n _ _ _ (by decide)) _) (Eq.trans (k4 62 25 (by decide)) e_lf))⟩⟩⟩⟩)
  · refine xr_iconst (v := -1) dX10_leastPush_12 rfl ?_
    exact xr_iret dX10_leastPush_13 rfl rfl (⟨_, rfl, rfl, rfl, Ke.rf, ⟨⟨⟨nh, by omega, e_hn, (fun kw hkw => by rw [show M 63 (5 + kw) = M 63 (5 + kw) from rfl]; exact hw kw hkw)⟩, (by rw [show M 63 16 = M 63 16 from rfl]; exact hbt), ⟨un, wn, by omega, by omega, e_un, e_wn⟩, (fun kk hkk => by rw [show M 64 kk = M 64 kk from rfl, show M 65 kk = M 65 kk from rfl, show M 66 kk = M 66 kk from rfl]; exact hch kk hkk), ⟨n, by omega, e_n⟩, (by rw [show M 62 13 = M 62 13 from rfl]; exact htx), ⟨b, by omega, e_b⟩, (fun j hj => by obtain ⟨q, hq, eq⟩ := hkd j hj; exact ⟨q, hq, (show M 81 j = M 81 j from rfl).trans eq⟩), ⟨ra, by omega, e_ra⟩, (fun j hj => by rw [show M 83 j = M 83 j from rfl, show M 84 j = M 84 j from rfl]; exact hsl j hj), ⟨ic, by omega, e_ic⟩, (fun j hj => by obtain ⟨q, hq, eq⟩ := hS j hj; exact ⟨q, hq, (show M 75 j = M 75 j from rfl).trans eq⟩)⟩, ⟨by unfold lpR; rw [if_neg c1], hG0⟩⟩⟩)
set_option maxRecDepth 100000 in
set_option maxHeartbeats 4000000 in
theorem rstx {hd : Int32} {h : Nat} {nh : Nat} {D : xM} {t : Option zL} {S : Nat → Int32} (hh : h < nh) (hup : ¬ D h 4 = 0) (hn5 : nh ≤ 5) (hrub : 0 ≤ S 1 ∧ S 1 ≤ 3) (hbt2 : ¬ S 2 = 0) (T : Int32 × Int32) {l : Launch} {G : xG} {M : xM} {J : xJ} {Q : xQ} (e_hn : M 62 6 = nI nh) (e_nw : M 62 9 = S 0) (e_rub : M 63 15 = S 1) (e_bt : M 63 16 = S 2) (e_ph : M 63 17 = S 3) (e_st : M 63 18 = S 4) (hL : LRt M t) (hA : AbS nh M D) (hW : WF nh D) (hC : ∀ (la : Int32) (be : Int32) (M2 : xM), Ke WRS M M2 → (be = T.1 ∧ ∀ j, j ≠ 10 + h → M2 63 j = M 63 j) → x_X l G fX10_start 63 0 0 Q 104 [(3, .int (be)), (2, .int (hd)), (1, .int (nI (h))), (0, .ref (62))] [] x_SH M2 J 0 0) : ∀ (m k : Nat) (la : Int32) (be : Int32) (M1 : xM), k + m = 19 → Ke WRS M M1 → (stL nh D t S h (19 - k) k (be, la) = T ∧ ∀ j, j ≠ 10 + h → M1 63 j = M 63 j) → x_X l G fX10_start 63 0 0 Q 43 [(5, .int (pv k)), (4, .int (la)), (3, .int (be)), (2, .int (hd)), (1, .int (nI (h))), (0, .ref (62))] [] x_SH M1 J 0 0 := by
  intro m
  induction m with
  | zero =>
    intro k la be M1 hk hM hI
    have hP : WP (PS nh t S) := ⟨hn5, hrub, hbt2⟩
    refine xr_iload dX10_start_43 0 rfl ?_
    refine xr_bipush (v := 9) dX10_start_45 rfl ?_
    refine xr_icmp_gt (tgt := 104) dX10_start_47 rfl (fun _ => ?_) (fun c => absurd (pv_gt (k := k) (by omega)) c)
    refine xb_ls (ls2 := [(3, .int (be)), (2, .int (hd)), (1, .int (nI (h))), (0, .ref (62))]) [2, 3, 4, 5] rfl ?_
    exact hC la be _ hM (by obtain rfl : k = 19 := (by omega); exact ⟨congrArg Prod.fst hI.1, hI.2⟩)
  | succ m ih =>
    intro k la be M1 hk hM hI
    have hkN : k < 19 := by omega
    have hP : WP (PS nh t S) := ⟨hn5, hrub, hbt2⟩
    refine xr_iload dX10_start_43 0 rfl ?_
    refine xr_bipush (v := 9) dX10_start_45 rfl ?_
    refine xr_icmp_gt (tgt := 104) dX10_start_47 rfl (fun c => absurd c (pv_le (k := k) (by omega))) (fun _ => ?_)
    refine xr_aload_n dX10_start_50 5 rfl ?_
    refine xr_getR flX10_9 dX10_start_51 s_62 rfl ?_
    refine xr_bipush (v := 10) dX10_start_54 rfl ?_
    refine xr_iload_n dX10_start_56 4 rfl ?_
    refine xr_iadd dX10_start_57 ?_
    refine xb_top (y := nI (10 + h)) (nI_add (10) (h)) ?_
    refine xr_iload dX10_start_58 0 rfl ?_
    refine xb_iast (j := 10 + h) dX10_start_60 s_63 (by omega) (by decide) ?_
    refine xr_aload_n dX10_start_61 5 rfl ?_
    refine xr_iload_n dX10_start_62 4 rfl ?_
    refine xr_callV (As := [.int (nI (h))]) (rest := []) mlX10_264 (gy_X10_fallOf (P := (PS nh t S)) (nw := S 0) (D := (x_up D h 3 (pv k))) (h := h) hP hh ⟨⟨(Eq.trans (congrFun (x_up_n _ _ _ (by decide)) _) (Eq.trans (hM 62 6 (by decide)) e_hn)), (AbS_m (q := 10 + h) hn5 (by omega) hA (Or.inr (Or.inr ⟨rfl, rfl⟩)) (fun kl => (Eq.trans (congrFun (x_up_n _ _ _ (by decide)) _) (Eq.trans (hM 67 kl (by unfold WRS; omega)) rfl))) (fun kl => (Eq.trans (congrFun (x_up_n _ _ _ (by decide)) _) (Eq.trans (hM 68 kl (by unfold WRS; omega)) rfl))) up_s (fun j hj => (up_k hj).trans (hI.2 j hj))), WF_3 hW (pv_b (by omega)) (fun z => absurd z hup), (LRt_k (Eq.trans (congrFun (x_up_n _ _ _ (by decide)) _) (Eq.trans (hM 62 13 (by unfold WRS; omega)) rfl)) (Eq.trans (x_up_n _ _ _ (by decide)) (Eq.trans (funext fun kk => hM 70 kk (by unfold WRS; omega)) rfl)) hL)⟩, ⟨((up_k (by omega)).trans ((hI.2 15 (by omega)).trans e_rub)), ((up_k (by omega)).trans ((hI.2 16 (by omega)).trans e_bt)), ((up_k (by omega)).trans ((hI.2 17 (by omega)).trans e_ph)), ((up_k (by omega)).trans ((hI.2 18 (by omega)).trans e_st))⟩, (Eq.trans (congrFun (x_up_n _ _ _ (by decide)) _) (Eq.trans (hM 62 9 (by decide)) e_nw))⟩) dX10_start_63 s_62 rfl rfl (Nat.le_of_ble_eq_true rfl) (by decide) ⟨by decide, by decide⟩ (fun v s2 M2 J2 hq => ?_)
    obtain ⟨r4, rfl, rfl, rfl, k3, hx1⟩ := hq
    try dsimp only [Option.toList, List.cons_append, List.nil_append]
    subst hx1
    refine xb_top (y := nI (stV nh D t S h k)) rfl ?_
    refine xr_istore (ls2 := [(6, .int (nI (stV nh D t S h k))), (5, .int (pv k)), (4, .int (la)), (3, .int (be)), (2, .int (hd)), (1, .int (nI (h))), (0, .ref (62))]) dX10_start_66 (by decide) rfl ?_
    refine xr_iload dX10_start_68 0 rfl ?_
    refine xr_iload dX10_start_70 2 rfl ?_
    refine xr_icmp_le (tgt := 80) dX10_start_72 rfl (fun c5 => ?_) (fun c5 => ?_)
    · refine xr_iload_n dX10_start_80 3 rfl ?_
      refine xr_istore_n (ls2 := [(3, .int (be)), (6, .int (nI (stV nh D t S h k))), (5, .int (pv k)), (4, .int (la)), (2, .int (hd)), (1, .int (nI (h))), (0, .ref (62))]) dX10_start_81 (by decide) rfl ?_
      refine xr_iload dX10_start_82 1 rfl ?_
      refine xr_iload dX10_start_84 3 rfl ?_
      refine xr_icmp_le (tgt := 94) dX10_start_86 rfl (fun _ => ?_) (fun c => absurd c5 c)
      refine xr_iload dX10_start_94 3 rfl ?_
      refine xr_istore (ls2 := [(4, .int (la)), (3, .int (be)), (6, .int (nI (stV nh D t S h k))), (5, .int (pv k)), (2, .int (hd)), (1, .int (nI (h))), (0, .ref (62))]) dX10_start_96 (by decide) rfl ?_
      refine xr_iinc (v := pv (k + 1)) (ls2 := [(5, .int (pv (k + 1))), (4, .int (la)), (3, .int (be)), (6, .int (nI (stV nh D t S h k))), (2, .int (hd)), (1, .int (nI (h))), (0, .ref (62))]) dX10_start_98 3 rfl (pv_s1 (by omega)) (by decide) rfl ?_
      refine xr_goto (tgt := 43) dX10_start_101 rfl ?_
      refine xb_ls (ls2 := [(5, .int (pv (k + 1))), (4, .int (la)), (3, .int (be)), (2, .int (hd)), (1, .int (nI (h))), (0, .ref (62))]) [0, 1, 2, 4, 5, 6] rfl ?_
      exact ih (k + 1) la be M2 (by omega) (Ke.tr (fun pp kk => (fun hh => Or.elim hh (fun h => (Or.inl h)) (fun hh => Or.elim hh (fun h => (Or.inr (Or.inl h))) (fun hh => Or.elim hh (fun h => (Or.inr (Or.inr (Or.inl h)))) (fun hh => Or.elim hh (fun h => (Or.inr (Or.inr (Or.inr (Or.inl h))))) (fun hh => Or.elim hh (fun h => (Or.inr (Or.inr (Or.inr (Or.inr (Or.inl h)))))) (fun hh => Or.elim hh (fun h => (Or.inr (Or.inr (Or.inr (Or.inr (Or.inr (Or.inl h))))))) (fun hh => Or.elim hh (fun h => (Or.inr (Or.inr (Or.inr (Or.inr (Or.inr (Or.inr (Or.inl h)))))))) (fun h => (Or.inr (Or.inr (Or.inr (Or.inr (Or.inr (Or.inr (Or.inr (Or.inl h))))))))))))))))) (Ke.up (Or.inr (Or.inr (Or.inr (Or.inr (Or.inr (Or.inr (Or.inr (Or.inr (by omega))))))))) hM) k3) ⟨(stL_e hkN (st1_n (n := nh) (D := D) (t := t) (S := S) (be := be) (la := la) (Int32.not_lt.mpr c5))).trans hI.1, fun j hj => (k3 63 j (by unfold WR1; omega)).trans ((up_k hj).trans (hI.2 j hj))⟩
    · refine xr_iload dX10_start_75 1 rfl ?_
      refine xr_goto (tgt := 81) dX10_start_77 rfl ?_
      refine xr_istore_n (ls2 := [(3, .int (pv k)), (6, .int (nI (stV nh D t S h k))), (5, .int (pv k)), (4, .int (la)), (2, .int (hd)), (1, .int (nI (h))), (0, .ref (62))]) dX10_start_81 (by decide) rfl ?_
      refine xr_iload dX10_start_82 1 rfl ?_
      refine xr_iload dX10_start_84 3 rfl ?_
      refine xr_icmp_le (tgt := 94) dX10_start_86 rfl (fun c => absurd c c5) (fun _ => ?_)
      refine xr_iload dX10_start_89 1 rfl ?_
      refine xr_goto (tgt := 96) dX10_start_91 rfl ?_
      refine xr_istore (ls2 := [(4, .int (nI (stV nh D t S h k))), (3, .int (pv k)), (6, .int (nI (stV nh D t S h k))), (5, .int (pv k)), (2, .int (hd)), (1, .int (nI (h))), (0, .ref (62))]) dX10_start_96 (by decide) rfl ?_
      refine xr_iinc (v := pv (k + 1)) (ls2 := [(5, .int (pv (k + 1))), (4, .int (nI (stV nh D t S h k))), (3, .int (pv k)), (6, .int (nI (stV nh D t S h k))), (2, .int (hd)), (1, .int (nI (h))), (0, .ref (62))]) dX10_start_98 3 rfl (pv_s1 (by omega)) (by decide) rfl ?_
      refine xr_goto (tgt := 43) dX10_start_101 rfl ?_
      refine xb_ls (ls2 := [(5, .int (pv (k + 1))), (4, .int (nI (stV nh D t S h k))), (3, .int (pv k)), (2, .int (hd)), (1, .int (nI (h))), (0, .ref (62))]) [0, 1, 2, 4, 5, 6] rfl ?_
      exact ih (k + 1) (nI (stV nh D t S h k)) (pv k) M2 (by omega) (Ke.tr (fun pp kk => (fun hh => Or.elim hh (fun h => (Or.inl h)) (fun hh => Or.elim hh (fun h => (Or.inr (Or.inl h))) (fun hh => Or.elim hh (fun h => (Or.inr (Or.inr (Or.inl h)))) (fun hh => Or.elim hh (fun h => (Or.inr (Or.inr (Or.inr (Or.inl h))))) (fun hh => Or.elim hh (fun h => (Or.inr (Or.inr (Or.inr (Or.inr (Or.inl h)))))) (fun hh => Or.elim hh (fun h => (Or.inr (Or.inr (Or.inr (Or.inr (Or.inr (Or.inl h))))))) (fun hh => Or.elim hh (fun h => (Or.inr (Or.inr (Or.inr (Or.inr (Or.inr (Or.inr (Or.inl h)))))))) (fun h => (Or.inr (Or.inr (Or.inr (Or.inr (Or.inr (Or.inr (Or.inr (Or.inl h))))))))))))))))) (Ke.up (Or.inr (Or.inr (Or.inr (Or.inr (Or.inr (Or.inr (Or.inr (Or.inr (by omega))))))))) hM) k3) ⟨(stL_e hkN (st1_y (n := nh) (D := D) (t := t) (S := S) (be := be) (la := la) (Int32.not_le.mp c5))).trans hI.1, fun j hj => (k3 63 j (by unfold WR1; omega)).trans ((up_k hj).trans (hI.2 j hj))⟩
set_option maxRecDepth 100000 in
set_option maxHeartbeats 4000000 in
theorem gx_X10_start {nh : Nat} {D : xM} {t : Option zL} {S : Nat → Int32} (h : Int32) {l : Launch} {G : xG} {M : xM} {J : xJ} (hI : InvR M) (hWG : WG nh D S) (hG : RG M nh D t S) : x_M l G fX10_start 63 0 0 [.ref (62), .int (h)] x_SH M J (qKI WRS M J (fun r M2 => InvR M2 ∧ (r = stR nh D t S h ∧ RG M2 nh D t S))) := by
  refine xb_of pX10 (Nat.le_of_ble_eq_true rfl) rfl ?_
  obtain ⟨⟨hn, h_hn, e_hn, hw⟩, hbt, ⟨un, wn, h_uw, h_wn, e_un, e_wn⟩, hch, ⟨n, h_n, e_n⟩, htx, ⟨b, h_b, e_b⟩, hkd, ⟨ra, h_ra, e_ra⟩, hsl, ⟨ic, h_ic, e_ic⟩, hS⟩ := hI
  have hG0 := hG
  obtain ⟨hn5, hW, hrub, hbeat⟩ := hWG
  obtain ⟨hGn, hA, hL, e_nw, e_rub, e_bt, e_ph, e_st, e_kn, e_pu, e_lf⟩ := hG
  obtain rfl : nh = hn := (nI_eq (by omega) (by omega)).mp (hGn.symm.trans e_hn)
  have hbt2 : ¬ S 2 = 0 := ne2_0 hbeat.1
  refine xr_aload_n dX10_start_0 0 rfl ?_
  refine xr_iload_n dX10_start_1 1 rfl ?_
  refine xb_cV (As := [.int (h)]) (rest := []) mlX10_133 (c_X10_isHoop h (by omega) e_hn) dX10_start_2 s_62 rfl rfl (Nat.le_of_ble_eq_true rfl) (by decide) (by decide) ?_
  refine xb_bne (tgt := 11) dX10_start_5 rfl (fun c1 => ?_) (fun c1 => ?_)
  · obtain ⟨h_, hh_, rfl⟩ := x_nat (N := nh) (by omega) rfl c1
    refine xr_aload_n dX10_start_11 0 rfl ?_
    refine xr_getR flX10_25 dX10_start_12 s_62 rfl ?_
    refine xr_iload_n dX10_start_15 1 rfl ?_
    refine xb_iald (j := h_) (v := M 68 h_) dX10_start_16 s_68 (by omega) (by decide) rfl ?_
    refine xr_if_ne (tgt := 23) dX10_start_17 rfl (fun c2 => ?_) (fun c2 => ?_)
    · refine xr_aload_n dX10_start_23 0 rfl ?_
      refine xr_getR flX10_9 dX10_start_24 s_62 rfl ?_
      refine xr_bipush (v := 10) dX10_start_27 rfl ?_
      refine xr_iload_n dX10_start_29 1 rfl ?_
      refine xr_iadd dX10_start_30 ?_
      refine xb_top (y := nI (10 + h_)) (nI_add (10) (h_)) ?_
      refine xb_iald (j := 10 + h_) (v := (D h_ 3)) dX10_start_31 s_63 (by omega) (by decide) (hA h_ hh_).2.2.2.1 ?_
      refine xr_istore_n (ls2 := [(2, .int ((D h_ 3))), (0, .ref (62)), (1, .int (nI (h_)))]) dX10_start_32 (by decide) rfl ?_
      refine xr_ldc coX10_140 dX10_start_33 ?_
      refine xr_istore_n (ls2 := [(3, .int ((-2000000000))), (2, .int ((D h_ 3))), (0, .ref (62)), (1, .int (nI (h_)))]) dX10_start_35 (by decide) rfl ?_
      refine xr_iconst (v := -1) dX10_start_36 rfl ?_
      refine xr_istore (ls2 := [(4, .int ((-1))), (3, .int ((-2000000000))), (2, .int ((D h_ 3))), (0, .ref (62)), (1, .int (nI (h_)))]) dX10_start_37 (by decide) rfl ?_
      refine xr_bipush (v := -9) dX10_start_39 rfl ?_
      refine xr_istore (ls2 := [(5, .int ((-9))), (4, .int ((-1))), (3, .int ((-2000000000))), (2, .int ((D h_ 3))), (0, .ref (62)), (1, .int (nI (h_)))]) dX10_start_41 (by decide) rfl ?_
      refine xb_ls (ls2 := [(5, .int ((-9))), (4, .int ((-1))), (3, .int ((-2000000000))), (2, .int ((D h_ 3))), (1, .int (nI (h_))), (0, .ref (62))]) [0, 1, 2, 3, 5, 4] rfl ?_
      refine rstx hh_ (fun z => c2 ((hA h_ hh_).2.2.2.2.trans z)) hn5 hrub hbt2 (stL nh D t S h_ 19 0 (-9, -1)) e_hn e_nw e_rub e_bt e_ph e_st (LRt_k rfl rfl hL) (AbS_k hA (fun kl hkl => rfl) (fun kl => rfl) (fun kl => rfl) hn5) hW (fun q3 q4 M5 k6 hE => ?_) (19 - 0) 0 (-1) (-2000000000) M (by omega) Ke.rf ⟨stL_0 (b := -9), fun _ _ => rfl⟩
      refine xr_aload_n dX10_start_104 3 rfl ?_
      refine xr_getR flX10_9 dX10_start_105 s_62 rfl ?_
      refine xr_bipush (v := 10) dX10_start_108 rfl ?_
      refine xr_iload_n dX10_start_110 2 rfl ?_
      refine xr_iadd dX10_start_111 ?_
      refine xb_top (y := nI (10 + h_)) (nI_add (10) (h_)) ?_
      refine xr_iload_n dX10_start_112 1 rfl ?_
      refine xb_iast (j := 10 + h_) dX10_start_113 s_63 (by omega) (by decide) ?_
      refine xr_iload_n dX10_start_114 0 rfl ?_
      exact xr_iret dX10_start_115 rfl rfl (⟨_, rfl, rfl, rfl, (Ke.up (Or.inr (Or.inr (Or.inr (Or.inr (Or.inr (Or.inr (Or.inr (Or.inr (by omega))))))))) (Ke.tr (fun _ _ h => h) Ke.rf k6)), ⟨⟨⟨nh, by omega, (Eq.trans (congrFun (x_up_n _ _ _ (by decide)) _) (Eq.trans (k6 62 6 (by decide)) e_hn)), (fun kw hkw => by rw [show (x_up M5 63 (10 + h_) (D h_ 3)) 63 (5 + kw) = M 63 (5 + kw) from (Eq.trans (x_up_k _ _ _ (by omega)) (Eq.trans (k6 63 (5 + kw) (by unfold WRS; omega)) rfl))]; exact hw kw hkw)⟩, (by rw [show (x_up M5 63 (10 + h_) (D h_ 3)) 63 16 = M 63 16 from (Eq.trans (x_up_k _ _ _ (by omega)) (Eq.trans (k6 63 16 (by unfold WRS; omega)) rfl))]; exact hbt), ⟨un, wn, by omega, by omega, (Eq.trans (congrFun (x_up_n _ _ _ (by decide)) _) (Eq.trans (k6 62 5 (by decide)) e_un)), (Eq.trans (congrFun (x_up_n _ _ _ (by decide)) _) (Eq.trans (k6 62 4 (by decide)) e_wn))⟩, (fun kk hkk => by rw [show (x_up M5 63 (10 + h_) (D h_ 3)) 64 kk = M 64 kk from (Eq.trans (congrFun (x_up_n _ _ _ (by omega)) _) (Eq.trans (k6 64 kk (by unfold WRS; omega)) rfl)), show (x_up M5 63 (10 + h_) (D h_ 3)) 65 kk = M 65 kk from (Eq.trans (congrFun (x_up_n _ _ _ (by omega)) _) (Eq.trans (k6 65 kk (by unfold WRS; omega)) rfl)), show (x_up M5 63 (10 + h_) (D h_ 3)) 66 kk = M 66 kk from (Eq.trans (congrFun (x_up_n _ _ _ (by omega)) _) (Eq.trans (k6 66 kk (by unfold WRS; omega)) rfl))]; exact hch kk hkk), ⟨n, by omega, (Eq.trans (congrFun (x_up_n _ _ _ (by decide)) _) (Eq.trans (k6 62 11 (by decide)) e_n))⟩, (by rw [show (x_up M5 63 (10 + h_) (D h_ 3)) 62 13 = M 62 13 from (Eq.trans (congrFun (x_up_n _ _ _ (by omega)) _) (Eq.trans (k6 62 13 (by unfold WRS; omega)) rfl))]; exact htx), ⟨b, by omega, (Eq.trans (congrFun (x_up_n _ _ _ (by decide)) _) (Eq.trans (k6 62 36 (by decide)) e_b))⟩, (fun j hj => by obtain ⟨q, hq, eq⟩ := hkd j hj; exact ⟨q, hq, (show (x_up M5 63 (10 + h_) (D h_ 3)) 81 j = M 81 j from (Eq.trans (congrFun (x_up_n _ _ _ (by omega)) _) (Eq.trans (k6 81 j (by unfold WRS; omega)) rfl))).trans eq⟩), ⟨ra, by omega, (Eq.trans (congrFun (x_up_n _ _ _ (by decide)) _) (Eq.trans (k6 62 39 (by decide)) e_ra))⟩, (fun j hj => by rw [show (x_up M5 63 (10 + h_) (D h_ 3)) 83 j = M 83 j from (Eq.trans (congrFun (x_up_n _ _ _ (by omega)) _) (Eq.trans (k6 83 j (by unfold WRS; omega)) rfl)), show (x_up M5 63 (10 + h_) (D h_ 3)) 84 j = M 84 j from (Eq.trans (congrFun (x_up_n _ _ _ (by omega)) _) (Eq.trans (k6 84 j (by unfold WRS; omega)) rfl))]; exact hsl j hj), ⟨ic, by omega, (Eq.trans (congrFun (x_up_n _ _ _ (by decide)) _) (Eq.trans (k6 62 34 (by decide)) e_ic))⟩, (fun j hj => by obtain ⟨q, hq, eq⟩ := hS j hj; exact ⟨q, hq, (show (x_up M5 63 (10 + h_) (D h_ 3)) 75 j = M 75 j from (Eq.trans (congrFun (x_up_n _ _ _ (by omega)) _) (Eq.trans (k6 75 j (by unfold WRS; omega)) rfl))).trans eq⟩)⟩, ⟨(hE.1.trans (if_neg (fun z => c2 ((hA h_ hh_).2.2.2.2.trans z))).symm).trans (stR_y hn5 hh_), ⟨(Eq.trans (congrFun (x_up_n _ _ _ (by decide)) _) (Eq.trans (k6 62 6 (by decide)) e_hn)), (AbS_k hA (fun kl hkl => by
        by_cases q : kl = 10 + h_
        · subst q; exact up_s.trans (hA h_ hh_).2.2.2.1.symm
        · exact (up_k q).trans (hE.2 kl q)) (fun kl => (Eq.trans (congrFun (x_up_n _ _ _ (by decide)) _) (Eq.trans (k6 67 kl (by unfold WRS; omega)) rfl))) (fun kl => (Eq.trans (congrFun (x_up_n _ _ _ (by decide)) _) (Eq.trans (k6 68 kl (by unfold WRS; omega)) rfl))) hn5), (LRt_k (Eq.trans (congrFun (x_up_n _ _ _ (by decide)) _) (Eq.trans (k6 62 13 (by unfold WRS; omega)) rfl)) (Eq.trans (x_up_n _ _ _ (by decide)) (Eq.trans (funext fun kk => k6 70 kk (by unfold WRS; omega)) rfl)) hL), (Eq.trans (congrFun (x_up_n _ _ _ (by decide)) _) (Eq.trans (k6 62 9 (by decide)) e_nw)), ((up_k (by omega)).trans ((hE.2 15 (by omega)).trans e_rub)), ((up_k (by omega)).trans ((hE.2 16 (by omega)).trans e_bt)), ((up_k (by omega)).trans ((hE.2 17 (by omega)).trans e_ph)), ((up_k (by omega)).trans ((hE.2 18 (by omega)).trans e_st)), ((up_k (by omega)).trans ((hE.2 19 (by omega)).trans e_kn)), (Eq.trans (congrFun (x_up_n _ _ _ (by decide)) _) (Eq.trans (k6 62 24 (by decide)) e_pu)), (Eq.trans (congrFun (x_up_n _ _ _ (by decide)) _) (Eq.trans (k6 62 25 (by decide)) e_lf))⟩⟩⟩⟩)
    · refine xr_bipush (v := -5) dX10_start_20 rfl ?_
      exact xr_iret dX10_start_22 rfl rfl (⟨_, rfl, rfl, rfl, Ke.rf, ⟨⟨⟨nh, by omega, e_hn, (fun kw hkw => by rw [show M 63 (5 + kw) = M 63 (5 + kw) from rfl]; exact hw kw hkw)⟩, (by rw [show M 63 16 = M 63 16 from rfl]; exact hbt), ⟨un, wn, by omega, by omega, e_un, e_wn⟩, (fun kk hkk => by rw [show M 64 kk = M 64 kk from rfl, show M 65 kk = M 65 kk from rfl, show M 66 kk = M 66 kk from rfl]; exact hch kk hkk), ⟨n, by omega, e_n⟩, (by rw [show M 62 13 = M 62 13 from rfl]; exact htx), ⟨b, by omega, e_b⟩, (fun j hj => by obtain ⟨q, hq, eq⟩ := hkd j hj; exact ⟨q, hq, (show M 81 j = M 81 j from rfl).trans eq⟩), ⟨ra, by omega, e_ra⟩, (fun j hj => by rw [show M 83 j = M 83 j from rfl, show M 84 j = M 84 j from rfl]; exact hsl j hj), ⟨ic, by omega, e_ic⟩, (fun j hj => by obtain ⟨q, hq, eq⟩ := hS j hj; exact ⟨q, hq, (show M 75 j = M 75 j from rfl).trans eq⟩)⟩, ⟨(if_pos ((hA h_ hh_).2.2.2.2.symm.trans c2)).symm.trans (stR_y hn5 hh_), hG0⟩⟩⟩)
  · refine xr_ldc coX10_140 dX10_start_8 ?_
    exact xr_iret dX10_start_10 rfl rfl (⟨_, rfl, rfl, rfl, Ke.rf, ⟨⟨⟨nh, by omega, e_hn, (fun kw hkw => by rw [show M 63 (5 + kw) = M 63 (5 + kw) from rfl]; exact hw kw hkw)⟩, (by rw [show M 63 16 = M 63 16 from rfl]; exact hbt), ⟨un, wn, by omega, by omega, e_un, e_wn⟩, (fun kk hkk => by rw [show M 64 kk = M 64 kk from rfl, show M 65 kk = M 65 kk from rfl, show M 66 kk = M 66 kk from rfl]; exact hch kk hkk), ⟨n, by omega, e_n⟩, (by rw [show M 62 13 = M 62 13 from rfl]; exact htx), ⟨b, by omega, e_b⟩, (fun j hj => by obtain ⟨q, hq, eq⟩ := hkd j hj; exact ⟨q, hq, (show M 81 j = M 81 j from rfl).trans eq⟩), ⟨ra, by omega, e_ra⟩, (fun j hj => by rw [show M 83 j = M 83 j from rfl, show M 84 j = M 84 j from rfl]; exact hsl j hj), ⟨ic, by omega, e_ic⟩, (fun j hj => by obtain ⟨q, hq, eq⟩ := hS j hj; exact ⟨q, hq, (show M 75 j = M 75 j from rfl).trans eq⟩)⟩, ⟨stR_n c1, hG0⟩⟩⟩)
