theorem tkp_y {P : xP} {nw : Int32} {D : xM} (c : w_due P.2.2.2.1 P.2.2.2.2.1 nw) : puL P.2.1 P.2.2.2.2.2 (w_go P.2.2.2.1 nw) P.1 0 D = tkp P nw D := (if_pos c).symm
theorem tkp_o {P : xP} {nw : Int32} {D : xM} (c : ¬ w_due P.2.2.2.1 P.2.2.2.2.1 nw) : D = tkp P nw D := (if_neg c).symm
theorem tkm_y {P : xP} {mt mf mg nw : Int32} {k : Nat} {D D2 : xM} (c : nI k = mt) (e : D2 = tkp P nw D) : puL P.2.1 mf mg P.1 0 D2 = tkm P mt mf mg k nw D := by rw [e]; exact (if_pos c).symm
theorem tkm_o {P : xP} {mt mf mg nw : Int32} {k : Nat} {D D2 : xM} (c : ¬ nI k = mt) (e : D2 = tkp P nw D) : D2 = tkm P mt mf mg k nw D := by rw [e]; exact (if_neg c).symm
theorem TR_e {M : xM} {P : xP} {D D2 : xM} (h : TR M P D) (e : D = D2) : TR M P D2 := e ▸ h
set_option maxRecDepth 100000 in
set_option maxHeartbeats 4000000 in
theorem rfwx {P : xP} {nw : Int32} (hP : WP P) {f g : Int32} {tk h : Nat} (htk : tk < 2 ^ 31) (hh : h < P.1) (h5 : P.1 ≤ 5) (T : Nat) {l : Launch} {G : xG} {M : xM} {J : xJ} {Q : xQ} (e_nw : M 62 9 = nw) (hR : ∀ (r : Int32) (M2 : xM), Ke WR1 M M2 → r = nI T → Q (some (.int r)) x_SH M2 J) (hC : ∀ (M2 : xM), Ke WR1 M M2 → (∃ D1, TR M2 P D1 ∧ flM P (nI tk) f g h (201 - 201) 201 (nw + nI (201)) D1 = T) → x_X l G fX10_fallWith 61 0 0 Q 97 [(0, .ref (62))] [] x_SH M2 J 0 0) : ∀ (m k : Nat) (M1 : xM), k + m = 201 → Ke WR1 M M1 → (∃ D1, TR M1 P D1 ∧ flM P (nI tk) f g h (201 - k) k (nw + nI (k)) D1 = T) → x_X l G fX10_fallWith 61 0 0 Q 11 [(5, .int (nI (k))), (4, .int (f)), (3, .int (g)), (2, .int (nI (tk))), (1, .int (nI (h))), (0, .ref (62))] [] x_SH M1 J 0 0 := by
  intro m
  induction m with
  | zero =>
    intro k M1 hk hM hI
    obtain ⟨D1, hT1, hR1⟩ := hI
    refine xr_iload dX10_fallWith_11 0 rfl ?_
    refine xr_sipush (v := 200) dX10_fallWith_13 rfl ?_
    refine xr_icmp_gt (tgt := 97) dX10_fallWith_16 rfl (fun _ => ?_) (fun c => absurd (nI_lt (a := 200) (b := k) (by omega) (by omega)) c)
    refine xb_ls (ls2 := [(0, .ref (62))]) [5] rfl ?_
    exact hC _ hM (by obtain rfl : k = 201 := (by omega); exact ⟨D1, hT1, hR1⟩)
  | succ m ih =>
    intro k M1 hk hM hI
    have hkN : k < 201 := by omega
    obtain ⟨D1, hT1, hR1⟩ := hI
    refine xr_iload dX10_fallWith_11 0 rfl ?_
    refine xr_sipush (v := 200) dX10_fallWith_13 rfl ?_
    refine xr_icmp_gt (tgt := 97) dX10_fallWith_16 rfl (fun c => absurd c (nI_nlt (a := 200) (b := k) (by omega) (by omega))) (fun _ => ?_)
    refine xr_aload_n dX10_fallWith_19 5 rfl ?_
    refine xr_getR flX10_43 dX10_fallWith_20 s_62 rfl ?_
    refine xr_iload_n dX10_fallWith_23 4 rfl ?_
    refine xb_iald (j := h) (v := M1 74 h) dX10_fallWith_24 s_74 (by omega) (by decide) rfl ?_
    refine xr_if_ne (tgt := 31) dX10_fallWith_25 rfl (fun c1 => ?_) (fun c1 => ?_)
    · refine xr_aload_n dX10_fallWith_31 5 rfl ?_
      refine xr_aload_n dX10_fallWith_32 5 rfl ?_
      refine xb_get (v := nw) flX10_151 dX10_fallWith_33 s_62 rfl (Eq.trans (hM 62 9 (by decide)) e_nw) ?_
      refine xr_iload dX10_fallWith_36 0 rfl ?_
      refine xr_iadd dX10_fallWith_38 ?_
      refine xb_cV (As := [.int ((nw + (nI (k))))]) (rest := []) mlX10_228 (cw_X10_isPush (nw + (nI (k))) hP.2.2 hT1.2.2.1 hT1.2.2.2.1) dX10_fallWith_39 s_62 rfl rfl (Nat.le_of_ble_eq_true rfl) (by decide) (by decide) ?_
      refine xb_beq (tgt := 67) dX10_fallWith_42 rfl (fun c2 => ?_) (fun c2 => ?_)
      · have hTa := TR_e hT1 (tkp_o c2)
        refine xr_iload dX10_fallWith_67 0 rfl ?_
        refine xr_iload_n dX10_fallWith_69 3 rfl ?_
        refine xr_icmp_ne (tgt := 80) dX10_fallWith_70 rfl (fun c3 => ?_) (fun c3 => ?_)
        · have hTb : TR M1 P (tkm P (nI tk) f g k (nw + nI (k)) D1) := TR_e hTa (tkm_o c3 rfl)
          refine xr_aload_n dX10_fallWith_80 5 rfl ?_
          refine xr_aload_n dX10_fallWith_81 5 rfl ?_
          refine xb_get (v := nw) flX10_151 dX10_fallWith_82 s_62 rfl (Eq.trans (hM 62 9 (by decide)) e_nw) ?_
          refine xr_iload dX10_fallWith_85 0 rfl ?_
          refine xr_iadd dX10_fallWith_87 ?_
          refine xr_callV (As := [.int ((nw + (nI (k))))]) (rest := []) mlX10_240 (gw_X10_turns (nw + (nI (k))) hP.1 hTb.1.1 hTb.2.1 hTb.1.2.1 hTb.1.2.2.1) dX10_fallWith_88 s_62 rfl rfl (Nat.le_of_ble_eq_true rfl) (by decide) ⟨by decide, by decide⟩ (fun v s2 M5 J2 hq => ?_)
          obtain ⟨rfl, rfl, rfl, k6, hx4⟩ := hq
          try dsimp only [Option.toList, List.cons_append, List.nil_append]
          have hT7 : TR M5 P (seT P.1 P.2.2.1 (nw + (nI (k))) (tkm P (nI tk) f g k (nw + nI (k)) D1)) := TR_w hTb hx4 (WF_seT hTb.1.2.2.1) (k6 62 6 (by decide)) (k6 62 13 (by decide)) (fun kl => k6 63 kl (by unfold WTU; omega)) (fun kl => k6 70 kl (by unfold WTU; omega))
          refine xr_iinc (v := nI (k + 1)) (ls2 := [(5, .int (nI (k + 1))), (4, .int (f)), (3, .int (g)), (2, .int (nI (tk))), (1, .int (nI (h))), (0, .ref (62))]) dX10_fallWith_91 0 rfl (nI_1 _) (by decide) rfl ?_
          refine xr_goto (tgt := 11) dX10_fallWith_94 rfl ?_
          refine xb_ls (ls2 := [(5, .int (nI (k + 1))), (4, .int (f)), (3, .int (g)), (2, .int (nI (tk))), (1, .int (nI (h))), (0, .ref (62))]) [0, 1, 2, 3, 4, 5] rfl ?_
          exact ih (k + 1) M5 (by omega) (Ke.tr (fun pp kk h => (Or.inr (Or.inr (Or.inr (Or.inr (Or.inr (Or.inr (Or.inr (by omega))))))))) hM k6) ⟨_, hT7, by rw [← now_s]; exact (flM_s hkN (fun z => c1 ((hT1.1.2.1 h (by omega)).2.2.2.2.trans z))).trans hR1⟩
        · refine xr_aload_n dX10_fallWith_73 5 rfl ?_
          refine xr_iload_n dX10_fallWith_74 2 rfl ?_
          refine xr_iload dX10_fallWith_75 1 rfl ?_
          refine xr_callV (As := [.int (g), .int (f)]) (rest := []) mlX10_234 (gw_X10_pushes g f hP.1 hTa.1.1 hTa.1.2.2.2 hTa.1.2.1 hTa.1.2.2.1) dX10_fallWith_77 s_62 rfl rfl (Nat.le_of_ble_eq_true rfl) (by decide) ⟨by decide, by decide⟩ (fun v s2 M9 J2 hq => ?_)
          obtain ⟨rfl, rfl, rfl, k10, hx8⟩ := hq
          try dsimp only [Option.toList, List.cons_append, List.nil_append]
          have hT11 : TR M9 P (puL P.2.1 f g P.1 0 (tkp P (nw + nI (k)) D1)) := TR_w hTa hx8 (WF_puL _ _ _ hTa.1.2.2.1) (k10 62 6 (by decide)) (k10 62 13 (by decide)) (fun kl => k10 63 kl (by unfold WRP; omega)) (fun kl => k10 70 kl (by unfold WRP; omega))
          have hTb : TR M9 P (tkm P (nI tk) f g k (nw + nI (k)) D1) := TR_e hT11 (tkm_y c3 rfl)
          refine xr_aload_n dX10_fallWith_80 5 rfl ?_
          refine xr_aload_n dX10_fallWith_81 5 rfl ?_
          refine xb_get (v := nw) flX10_151 dX10_fallWith_82 s_62 rfl (Eq.trans (k10 62 9 (by decide)) (Eq.trans (hM 62 9 (by decide)) e_nw)) ?_
          refine xr_iload dX10_fallWith_85 0 rfl ?_
          refine xr_iadd dX10_fallWith_87 ?_
          refine xr_callV (As := [.int ((nw + (nI (k))))]) (rest := []) mlX10_240 (gw_X10_turns (nw + (nI (k))) hP.1 hTb.1.1 hTb.2.1 hTb.1.2.1 hTb.1.2.2.1) dX10_fallWith_88 s_62 rfl rfl (Nat.le_of_ble_eq_true rfl) (by decide) ⟨by decide, by decide⟩ (fun v s2 M13 J2 hq => ?_)
          obtain ⟨rfl, rfl, rfl, k14, hx12⟩ := hq
          try dsimp only [Option.toList, List.cons_append, List.nil_append]
          have hT15 : TR M13 P (seT P.1 P.2.2.1 (nw + (nI (k))) (tkm P (nI tk) f g k (nw + nI (k)) D1)) := TR_w hTb hx12 (WF_seT hTb.1.2.2.1) (k14 62 6 (by decide)) (k14 62 13 (by decide)) (fun kl => k14 63 kl (by unfold WTU; omega)) (fun kl => k14 70 kl (by unfold WTU; omega))
          refine xr_iinc (v := nI (k + 1)) (ls2 := [(5, .int (nI (k + 1))), (4, .int (f)), (3, .int (g)), (2, .int (nI (tk))), (1, .int (nI (h))), (0, .ref (62))]) dX10_fallWith_91 0 rfl (nI_1 _) (by decide) rfl ?_
          refine xr_goto (tgt := 11) dX10_fallWith_94 rfl ?_
          refine xb_ls (ls2 := [(5, .int (nI (k + 1))), (4, .int (f)), (3, .int (g)), (2, .int (nI (tk))), (1, .int (nI (h))), (0, .ref (62))]) [0, 1, 2, 3, 4, 5] rfl ?_
          exact ih (k + 1) M13 (by omega) (Ke.tr (fun pp kk h => (Or.inr (Or.inr (Or.inr (Or.inr (Or.inr (Or.inr (Or.inr (by omega))))))))) (Ke.tr (fun pp kk => (fun hh => Or.elim hh (fun h => (Or.inl h)) (fun hh => Or.elim hh (fun h => (Or.inr (Or.inl h))) (fun hh => Or.elim hh (fun h => (Or.inr (Or.inr (Or.inl h)))) (fun hh => Or.elim hh (fun h => (Or.inr (Or.inr (Or.inr (Or.inl h))))) (fun hh => Or.elim hh (fun h => (Or.inr (Or.inr (Or.inr (Or.inr (Or.inl h)))))) (fun hh => Or.elim hh (fun h => (Or.inr (Or.inr (Or.inr (Or.inr (Or.inr (Or.inr (Or.inr (by omega))))))))) (fun h => (Or.inr (Or.inr (Or.inr (Or.inr (Or.inr (Or.inr (Or.inr (by omega)))))))))))))))) hM k10) k14) ⟨_, hT15, by rw [← now_s]; exact (flM_s hkN (fun z => c1 ((hT1.1.2.1 h (by omega)).2.2.2.2.trans z))).trans hR1⟩
      · refine xr_aload_n dX10_fallWith_45 5 rfl ?_
        refine xr_aload_n dX10_fallWith_46 5 rfl ?_
        refine xr_aload_n dX10_fallWith_47 5 rfl ?_
        refine xb_get (v := nw) flX10_151 dX10_fallWith_48 s_62 rfl (Eq.trans (hM 62 9 (by decide)) e_nw) ?_
        refine xr_iload dX10_fallWith_51 0 rfl ?_
        refine xr_iadd dX10_fallWith_53 ?_
        refine xb_cV (As := [.int ((nw + (nI (k))))]) (rest := [.ref (62)]) mlX10_231 (cw_X10_toOf (nw + (nI (k))) hP.2.2 hT1.2.2.1) dX10_fallWith_54 s_62 rfl rfl (Nat.le_of_ble_eq_true rfl) (by decide) (by decide) ?_
        refine xr_aload_n dX10_fallWith_57 5 rfl ?_
        refine xr_getR flX10_9 dX10_fallWith_58 s_62 rfl ?_
        refine xr_bipush (v := 18) dX10_fallWith_61 rfl ?_
        refine xb_iald (j := 18) (v := M1 63 18) dX10_fallWith_63 s_63 (by decide) (by decide) rfl ?_
        refine xb_top (y := P.2.2.2.2.2) hT1.2.2.2.2 ?_
        refine xr_callV (As := [.int ((w_go P.2.2.2.1 (nw + (nI (k))))), .int (P.2.2.2.2.2)]) (rest := []) mlX10_234 (gw_X10_pushes (w_go P.2.2.2.1 (nw + (nI (k)))) P.2.2.2.2.2 hP.1 hT1.1.1 hT1.1.2.2.2 hT1.1.2.1 hT1.1.2.2.1) dX10_fallWith_64 s_62 rfl rfl (Nat.le_of_ble_eq_true rfl) (by decide) ⟨by decide, by decide⟩ (fun v s2 M17 J2 hq => ?_)
        obtain ⟨rfl, rfl, rfl, k18, hx16⟩ := hq
        try dsimp only [Option.toList, List.cons_append, List.nil_append]
        have hT19 : TR M17 P (puL P.2.1 P.2.2.2.2.2 (w_go P.2.2.2.1 (nw + (nI (k)))) P.1 0 D1) := TR_w hT1 hx16 (WF_puL _ _ _ hT1.1.2.2.1) (k18 62 6 (by decide)) (k18 62 13 (by decide)) (fun kl => k18 63 kl (by unfold WRP; omega)) (fun kl => k18 70 kl (by unfold WRP; omega))
        have hTa := TR_e hT19 (tkp_y c2)
        refine xr_iload dX10_fallWith_67 0 rfl ?_
        refine xr_iload_n dX10_fallWith_69 3 rfl ?_
        refine xr_icmp_ne (tgt := 80) dX10_fallWith_70 rfl (fun c20 => ?_) (fun c20 => ?_)
        · have hTb : TR M17 P (tkm P (nI tk) f g k (nw + nI (k)) D1) := TR_e hTa (tkm_o c20 rfl)
          refine xr_aload_n dX10_fallWith_80 5 rfl ?_
          refine xr_aload_n dX10_fallWith_81 5 rfl ?_
          refine xb_get (v := nw) flX10_151 dX10_fallWith_82 s_62 rfl (Eq.trans (k18 62 9 (by decide)) (Eq.trans (hM 62 9 (by decide)) e_nw)) ?_
          refine xr_iload dX10_fallWith_85 0 rfl ?_
          refine xr_iadd dX10_fallWith_87 ?_
          refine xr_callV (As := [.int ((nw + (nI (k))))]) (rest := []) mlX10_240 (gw_X10_turns (nw + (nI (k))) hP.1 hTb.1.1 hTb.2.1 hTb.1.2.1 hTb.1.2.2.1) dX10_fallWith_88 s_62 rfl rfl (Nat.le_of_ble_eq_true rfl) (by decide) ⟨by decide, by decide⟩ (fun v s2 M22 J2 hq => ?_)
          obtain ⟨rfl, rfl, rfl, k23, hx21⟩ := hq
          try dsimp only [Option.toList, List.cons_append, List.nil_append]
          have hT24 : TR M22 P (seT P.1 P.2.2.1 (nw + (nI (k))) (tkm P (nI tk) f g k (nw + nI (k)) D1)) := TR_w hTb hx21 (WF_seT hTb.1.2.2.1) (k23 62 6 (by decide)) (k23 62 13 (by decide)) (fun kl => k23 63 kl (by unfold WTU; omega)) (fun kl => k23 70 kl (by unfold WTU; omega))
          refine xr_iinc (v := nI (k + 1)) (ls2 := [(5, .int (nI (k + 1))), (4, .int (f)), (3, .int (g)), (2, .int (nI (tk))), (1, .int (nI (h))), (0, .ref (62))]) dX10_fallWith_91 0 rfl (nI_1 _) (by decide) rfl ?_
          refine xr_goto (tgt := 11) dX10_fallWith_94 rfl ?_
          refine xb_ls (ls2 := [(5, .int (nI (k + 1))), (4, .int (f)), (3, .int (g)), (2, .int (nI (tk))), (1, .int (nI (h))), (0, .ref (62))]) [0, 1, 2, 3, 4, 5] rfl ?_
          exact ih (k + 1) M22 (by omega) (Ke.tr (fun pp kk h => (Or.inr (Or.inr (Or.inr (Or.inr (Or.inr (Or.inr (Or.inr (by omega))))))))) (Ke.tr (fun pp kk => (fun hh => Or.elim hh (fun h => (Or.inl h)) (fun hh => Or.elim hh (fun h => (Or.inr (Or.inl h))) (fun hh => Or.elim hh (fun h => (Or.inr (Or.inr (Or.inl h)))) (fun hh => Or.elim hh (fun h => (Or.inr (Or.inr (Or.inr (Or.inl h))))) (fun hh => Or.elim hh (fun h => (Or.inr (Or.inr (Or.inr (Or.inr (Or.inl h)))))) (fun hh => Or.elim hh (fun h => (Or.inr (Or.inr (Or.inr (Or.inr (Or.inr (Or.inr (Or.inr (by omega))))))))) (fun h => (Or.inr (Or.inr (Or.inr (Or.inr (Or.inr (Or.inr (Or.inr (by omega)))))))))))))))) hM k18) k23) ⟨_, hT24, by rw [← now_s]; exact (flM_s hkN (fun z => c1 ((hT1.1.2.1 h (by omega)).2.2.2.2.trans z))).trans hR1⟩
        · refine xr_aload_n dX10_fallWith_73 5 rfl ?_
          refine xr_iload_n dX10_fallWith_74 2 rfl ?_
          refine xr_iload dX10_fallWith_75 1 rfl ?_
          refine xr_callV (As := [.int (g), .int (f)]) (rest := []) mlX10_234 (gw_X10_pushes g f hP.1 hTa.1.1 hTa.1.2.2.2 hTa.1.2.1 hTa.1.2.2.1) dX10_fallWith_77 s_62 rfl rfl (Nat.le_of_ble_eq_true rfl) (by decide) ⟨by decide, by decide⟩ (fun v s2 M26 J2 hq => ?_)
          obtain ⟨rfl, rfl, rfl, k27, hx25⟩ := hq
          try dsimp only [Option.toList, List.cons_append, List.nil_append]
          have hT28 : TR M26 P (puL P.2.1 f g P.1 0 (tkp P (nw + nI (k)) D1)) := TR_w hTa hx25 (WF_puL _ _ _ hTa.1.2.2.1) (k27 62 6 (by decide)) (k27 62 13 (by decide)) (fun kl => k27 63 kl (by unfold WRP; omega)) (fun kl => k27 70 kl (by unfold WRP; omega))
          have hTb : TR M26 P (tkm P (nI tk) f g k (nw + nI (k)) D1) := TR_e hT28 (tkm_y c20 rfl)
          refine xr_aload_n dX10_fallWith_80 5 rfl ?_
          refine xr_aload_n dX10_fallWith_81 5 rfl ?_
          refine xb_get (v := nw) flX10_151 dX10_fallWith_82 s_62 rfl (Eq.trans (k27 62 9 (by decide)) (Eq.trans (k18 62 9 (by decide)) (Eq.trans (hM 62 9 (by decide)) e_nw))) ?_
          refine xr_iload dX10_fallWith_85 0 rfl ?_
          refine xr_iadd dX10_fallWith_87 ?_
          refine xr_callV (As := [.int ((nw + (nI (k))))]) (rest := []) mlX10_240 (gw_X10_turns (nw + (nI (k))) hP.1 hTb.1.1 hTb.2.1 hTb.1.2.1 hTb.1.2.2.1) dX10_fallWith_88 s_62 rfl rfl (Nat.le_of_ble_eq_true rfl) (by decide) ⟨by decide, by decide⟩ (fun v s2 M30 J2 hq => ?_)
          obtain ⟨rfl, rfl, rfl, k31, hx29⟩ := hq
          try dsimp only [Option.toList, List.cons_append, List.nil_append]
          have hT32 : TR M30 P (seT P.1 P.2.2.1 (nw + (nI (k))) (tkm P (nI tk) f g k (nw + nI (k)) D1)) := TR_w hTb hx29 (WF_seT hTb.1.2.2.1) (k31 62 6 (by decide)) (k31 62 13 (by decide)) (fun kl => k31 63 kl (by unfold WTU; omega)) (fun kl => k31 70 kl (by unfold WTU; omega))
          refine xr_iinc (v := nI (k + 1)) (ls2 := [(5, .int (nI (k + 1))), (4, .int (f)), (3, .int (g)), (2, .int (nI (tk))), (1, .int (nI (h))), (0, .ref (62))]) dX10_fallWith_91 0 rfl (nI_1 _) (by decide) rfl ?_
          refine xr_goto (tgt := 11) dX10_fallWith_94 rfl ?_
          refine xb_ls (ls2 := [(5, .int (nI (k + 1))), (4, .int (f)), (3, .int (g)), (2, .int (nI (tk))), (1, .int (nI (h))), (0, .ref (62))]) [0, 1, 2, 3, 4, 5] rfl ?_
          exact ih (k + 1) M30 (by omega) (Ke.tr (fun pp kk h => (Or.inr (Or.inr (Or.inr (Or.inr (Or.inr (Or.inr (Or.inr (by omega))))))))) (Ke.tr (fun pp kk => (fun hh => Or.elim hh (fun h => (Or.inl h)) (fun hh => Or.elim hh (fun h => (Or.inr (Or.inl h))) (fun hh => Or.elim hh (fun h => (Or.inr (Or.inr (Or.inl h)))) (fun hh => Or.elim hh (fun h => (Or.inr (Or.inr (Or.inr (Or.inl h))))) (fun hh => Or.elim hh (fun h => (Or.inr (Or.inr (Or.inr (Or.inr (Or.inl h)))))) (fun hh => Or.elim hh (fun h => (Or.inr (Or.inr (Or.inr (Or.inr (Or.inr (Or.inr (Or.inr (by omega))))))))) (fun h => (Or.inr (Or.inr (Or.inr (Or.inr (Or.inr (Or.inr (Or.inr (by omega)))))))))))))))) (Ke.tr (fun pp kk => (fun hh => Or.elim hh (fun h => (Or.inl h)) (fun hh => Or.elim hh (fun h => (Or.inr (Or.inl h))) (fun hh => Or.elim hh (fun h => (Or.inr (Or.inr (Or.inl h)))) (fun hh => Or.elim hh (fun h => (Or.inr (Or.inr (Or.inr (Or.inl h))))) (fun hh => Or.elim hh (fun h => (Or.inr (Or.inr (Or.inr (Or.inr (Or.inl h)))))) (fun hh => Or.elim hh (fun h => (Or.inr (Or.inr (Or.inr (Or.inr (Or.inr (Or.inr (Or.inr (by omega))))))))) (fun h => (Or.inr (Or.inr (Or.inr (Or.inr (Or.inr (Or.inr (Or.inr (by omega)))))))))))))))) hM k18) k27) k31) ⟨_, hT32, by rw [← now_s]; exact (flM_s hkN (fun z => c1 ((hT1.1.2.1 h (by omega)).2.2.2.2.trans z))).trans hR1⟩
    · refine xr_iload dX10_fallWith_28 0 rfl ?_
      exact xr_iret dX10_fallWith_30 rfl rfl ((hR _ _ hM (by rw [← (flM_z hkN ((hT1.1.2.1 h (by omega)).2.2.2.2.symm.trans c1)).symm.trans hR1])))
set_option maxRecDepth 100000 in
set_option maxHeartbeats 4000000 in
theorem gy_X10_fallWith {P : xP} {nw : Int32} {D : xM} (hP : WP P) {f g : Int32} {tk h : Nat} (htk : tk < 2 ^ 31) (hh : h < P.1) {l : Launch} {G : xG} {M : xM} {J : xJ} (hT : TS M P nw D) : x_M l G fX10_fallWith 61 0 0 [.ref (62), .int (nI (h)), .int (nI (tk)), .int (g), .int (f)] x_SH M J (qKI WR1 M J (fun r M2 => r = nI (flM P (nI tk) f g h 201 0 nw D))) := by
  refine xb_of pX10 (Nat.le_of_ble_eq_true rfl) rfl ?_
  have h5 : P.1 ≤ 5 := hP.1
  refine xr_aload_n dX10_fallWith_0 0 rfl ?_
  refine xr_aload_n dX10_fallWith_1 0 rfl ?_
  refine xr_callV (As := []) (rest := [.ref (62)]) mlX10_246 (gw_X10_upNow (D := D) (hn := P.1) hP.1 hT.1.1 hT.1.2.1 hT.1.2.2.1) dX10_fallWith_2 s_62 rfl rfl (Nat.le_of_ble_eq_true rfl) (by decide) ⟨by decide, by decide⟩ (fun v s2 M9 J2 hq => ?_)
  obtain ⟨r2, rfl, rfl, rfl, rfl, hx1⟩ := hq
  try dsimp only [Option.toList, List.cons_append, List.nil_append]
  subst hx1
  refine xr_callV (As := [.int ((upS P.1 D))]) (rest := []) mlX10_249 (gw_X10_begins1 (upS P.1 D) (D := D) (hn := P.1) hP.1 hT.1.1 hT.1.2.1) dX10_fallWith_5 s_62 rfl rfl (Nat.le_of_ble_eq_true rfl) (by decide) ⟨by decide, by decide⟩ (fun v s2 M4 J2 hq => ?_)
  obtain ⟨rfl, rfl, rfl, k5, hx3⟩ := hq
  try dsimp only [Option.toList, List.cons_append, List.nil_append]
  have hT6 : TR M4 P D := TS_R hT (AbR_eq hx3 (msk_up hP.1 hT.1.2.2.1)) hT.1.2.2.1 (k5 62 6 (by decide)) (k5 62 13 (by decide)) (fun kl => k5 63 kl (by unfold WBG; omega)) (fun kl => k5 70 kl (by unfold WBG; omega))
  refine xr_iconst (v := 0) dX10_fallWith_8 rfl ?_
  refine xr_istore (ls2 := [(5, .int (0)), (0, .ref (62)), (1, .int (nI (h))), (2, .int (nI (tk))), (3, .int (g)), (4, .int (f))]) dX10_fallWith_9 (by decide) rfl ?_
  refine xb_ls (ls2 := [(5, .int (nI (0))), (4, .int (f)), (3, .int (g)), (2, .int (nI (tk))), (1, .int (nI (h))), (0, .ref (62))]) [0, 5, 4, 3, 2, 1] rfl ?_
  refine rfwx hP htk hh h5 (flM P (nI tk) f g h 201 0 nw D) (Eq.trans (k5 62 9 (by decide)) hT.2.2) (fun r M2 hk hr => ⟨_, rfl, rfl, rfl, Ke.tr (fun _ _ h => h) (Ke.tr (fun pp kk h => (Or.inr (Or.inr (Or.inr (Or.inr (Or.inr (Or.inr (Or.inr (by omega))))))))) Ke.rf k5) hk, hr⟩) (fun M7 k8 hI => ?_) (201 - 0) 0 M4 (by omega) Ke.rf ⟨D, hT6, by rw [← now_0]⟩
  refine xr_sipush (v := 201) dX10_fallWith_97 rfl ?_
  exact xr_iret dX10_fallWith_100 rfl rfl (⟨_, rfl, rfl, rfl, (Ke.tr (fun _ _ h => h) (Ke.tr (fun pp kk h => (Or.inr (Or.inr (Or.inr (Or.inr (Or.inr (Or.inr (Or.inr (by omega))))))))) Ke.rf k5) k8), (by obtain ⟨D1, hT1, hR1⟩ := hI; exact congrArg nI hR1)⟩)
set_option maxRecDepth 100000 in
set_option maxHeartbeats 4000000 in
theorem rrx {fp : Int32} {h K : Nat} {nh : Nat} {D : xM} {t : Option zL} {S : Nat → Int32} (hh : h < nh) (hK : K ≤ 200) (hn5 : nh ≤ 5) (hrub : 0 ≤ S 1 ∧ S 1 ≤ 3) (hbt2 : ¬ S 2 = 0) (T : Int32) {l : Launch} {G : xG} {M : xM} {J : xJ} {Q : xQ} (e_hn : M 62 6 = nI nh) (e_nw : M 62 9 = S 0) (e_rub : M 63 15 = S 1) (e_bt : M 63 16 = S 2) (e_ph : M 63 17 = S 3) (e_st : M 63 18 = S 4) (hL : LRt M t) (hA : AbS nh M D) (hW : WF nh D) (hR : ∀ (r : Int32) (M2 : xM), Ke WR1 M M2 → r = T → Q (some (.int r)) x_SH M2 J) (hC : ∀ (M2 : xM), Ke WR1 M M2 → (rsL nh D t S h (fp / 100) (fp - fp / 100 * 100) K (100 - 100) 100 = T) → x_X l G fX10_rescue 63 0 0 Q 96 [(0, .ref (62))] [] x_SH M2 J 0 0) : ∀ (m k : Nat) (M1 : xM), k + m = 100 → Ke WR1 M M1 → (rsL nh D t S h (fp / 100) (fp - fp / 100 * 100) K (100 - k) k = T) → x_X l G fX10_rescue 63 0 0 Q 61 [(4, .int (nI (k))), (3, .int (nI (K))), (2, .int (fp)), (1, .int (nI (h))), (0, .ref (62))] [] x_SH M1 J 0 0 := by
  intro m
  induction m with
  | zero =>
    intro k M1 hk hM hI
    have hP : WP (PS nh t S) := ⟨hn5, hrub, hbt2⟩
    refine xr_iload dX10_rescue_61 0 rfl ?_
    refine xr_bipush (v := 100) dX10_rescue_63 rfl ?_
    refine xr_icmp_ge (tgt := 96) dX10_rescue_65 rfl (fun _ => ?_) (fun c => absurd (nI_le (a := 100) (b := k) (by omega) (by omega)) c)
    refine xb_ls (ls2 := [(0, .ref (62))]) [4] rfl ?_
    exact hC _ hM (by obtain rfl : k = 100 := (by omega); exact hI)
  | succ m ih =>
    intro k M1 hk hM hI
    have hkN : k < 100 := by omega
    have hP : WP (PS nh t S) := ⟨hn5, hrub, hbt2⟩
    refine xr_iload dX10_rescue_61 0 rfl ?_
    refine xr_bipush (v := 100) dX10_rescue_63 rfl ?_
    refine xr_icmp_ge (tgt := 96) dX10_rescue_65 rfl (fun c => absurd c (nI_ge (a := k) (b := 100) (by omega) (by omega))) (fun _ => ?_)
    refine xr_aload_n dX10_rescue_68 4 rfl ?_
    refine xr_iload_n dX10_rescue_69 3 rfl ?_
    refine xr_iload dX10_rescue_70 0 rfl ?_
    refine xr_iload_n dX10_rescue_72 2 rfl ?_
    refine xr_bipush (v := 100) dX10_rescue_73 rfl ?_
    refine xr_irem dX10_rescue_75 (by decide) ?_
    refine xr_iload_n dX10_rescue_76 2 rfl ?_
    refine xr_bipush (v := 100) dX10_rescue_77 rfl ?_
    refine xr_idiv dX10_rescue_79 (by decide) ?_
    refine xr_callV (As := [.int (nI (h)), .int (nI (k)), .int ((fp - fp / 100 * 100)), .int ((fp / 100))]) (rest := []) mlX10_281 (gy_X10_fallWith (P := (PS nh t S)) (nw := S 0) (D := D) (f := fp / 100) (g := fp - fp / 100 * 100) (tk := k) (h := h) hP (by omega) hh ⟨⟨(Eq.trans (hM 62 6 (by decide)) e_hn), (AbS_k hA (fun kl hkl => (Eq.trans (hM 63 kl (by unfold WR1; omega)) rfl)) (fun kl => (Eq.trans (hM 67 kl (by unfold WR1; omega)) rfl)) (fun kl => (Eq.trans (hM 68 kl (by unfold WR1; omega)) rfl)) hn5), hW, (LRt_k (Eq.trans (hM 62 13 (by unfold WR1; omega)) rfl) (Eq.trans (funext fun kk => hM 70 kk (by unfold WR1; omega)) rfl) hL)⟩, ⟨(Eq.trans (hM 63 15 (by decide)) e_rub), (Eq.trans (hM 63 16 (by decide)) e_bt), (Eq.trans (hM 63 17 (by decide)) e_ph), (Eq.trans (hM 63 18 (by decide)) e_st)⟩, (Eq.trans (hM 62 9 (by decide)) e_nw)⟩) dX10_rescue_80 s_62 rfl rfl (Nat.le_of_ble_eq_true rfl) (by decide) ⟨by decide, by decide⟩ (fun v s2 M2 J2 hq => ?_)
    obtain ⟨r4, rfl, rfl, rfl, k3, hx1⟩ := hq
    try dsimp only [Option.toList, List.cons_append, List.nil_append]
    subst hx1
    refine xb_top (y := nI (rsV nh D t S h (fp / 100) (fp - fp / 100 * 100) k)) rfl ?_
    have hv9 : rsV nh D t S h (fp / 100) (fp - fp / 100 * 100) k ≤ 0 + 201 := (flM_ge 201 0 (S 0) D).2
    refine xr_iload_n dX10_rescue_83 1 rfl ?_
    refine xr_icmp_le (tgt := 90) dX10_rescue_84 rfl (fun c5 => ?_) (fun c5 => ?_)
    · refine xr_iinc (v := nI (k + 1)) (ls2 := [(4, .int (nI (k + 1))), (3, .int (nI (K))), (2, .int (fp)), (1, .int (nI (h))), (0, .ref (62))]) dX10_rescue_90 0 rfl (nI_1 _) (by decide) rfl ?_
      refine xr_goto (tgt := 61) dX10_rescue_93 rfl ?_
      refine xb_ls (ls2 := [(4, .int (nI (k + 1))), (3, .int (nI (K))), (2, .int (fp)), (1, .int (nI (h))), (0, .ref (62))]) [0, 1, 2, 3, 4] rfl ?_
      exact ih (k + 1) M2 (by omega) (Ke.tr (fun _ _ h => h) hM k3) ((rsL_n (N := 100) (by omega) (Nat.not_lt.mpr ((nI_leI (a := rsV nh D t S h (fp / 100) (fp - fp / 100 * 100) k) (b := K) (by omega) (by omega)).mp c5))).trans hI)
    · refine xr_iload dX10_rescue_87 0 rfl ?_
      exact xr_iret dX10_rescue_89 rfl rfl ((hR _ _ (Ke.tr (fun _ _ h => h) hM k3) ((rsL_y (N := 100) (by omega) (Nat.lt_of_not_le (fun z => c5 ((nI_leI (a := rsV nh D t S h (fp / 100) (fp - fp / 100 * 100) k) (b := K) (by omega) (by omega)).mpr z)))).symm.trans hI)))
theorem fa_4 {v : Nat} {r : Int32} (h : v ≤ 201) (e : r = nI v) (c : ¬ r = 201) : ∃ K, K ≤ 200 ∧ K = v ∧ r = nI K := by
  have h2 : v ≠ 201 := fun z => c (by rw [e, z]; rfl)
  exact ⟨v, by omega, rfl, e⟩
theorem nI_d100 {i : Nat} (h : i < 2 ^ 31) : nI i / 100 = nI (i / 100) := Int32.toInt_inj.mp (by
  rw [Int32.toInt_div, nI_toInt h, nI_toInt (by omega), show (100 : Int32).toInt = 100 from rfl, show (i : Int).tdiv 100 = ((i / 100 : Nat) : Int) from (Int.ofNat_tdiv i 100).symm, Int.bmod_eq_of_le (by omega) (by omega)])
theorem mod_b (v : Int32) (h : ¬ v < 0) : 0 ≤ v - v / 100 * 100 := by
  obtain ⟨i, hi, rfl⟩ := sx_nat0 h
  rw [nI_d100 hi, show nI (i / 100) * 100 = nI (i / 100 * 100) from nI_mulc _ 100, show nI i = nI (i - i / 100 * 100) + nI (i / 100 * 100) by rw [nI_add]; congr 1; omega, Int32.add_sub_cancel]
  exact nI_pos' (by omega)
theorem rsC_r {n : Nat} {h fp : Int32} (c1 : 0 ≤ h ∧ h < nI n) (c2 : ¬ fp < 0) (c3 : 1 ≤ fp / 100 ∧ fp / 100 ≤ 5) (c4 : fp - fp / 100 * 100 < 24) : rsC n h fp := ⟨c1, c3, mod_b fp c2, c4⟩
theorem neg_d (v : Int32) (h : v < 0) : ¬ 1 ≤ v / 100 := fun q => by
  have h1 := Int32.lt_iff_toInt_lt.mp h
  have h2 := v.le_toInt
  rw [show (0 : Int32).toInt = 0 from rfl] at h1
  obtain ⟨n, hn⟩ : ∃ n : Nat, v.toInt = -(n : Int) := ⟨(-v.toInt).toNat, by omega⟩
  have q2 := Int32.le_iff_toInt_le.mp q
  rw [Int32.toInt_div, hn, show (100 : Int32).toInt = 100 from rfl, show (1 : Int32).toInt = 1 from rfl, Int.neg_tdiv, show (n : Int).tdiv 100 = ((n / 100 : Nat) : Int) from (Int.ofNat_tdiv n 100).symm, Int.bmod_eq_of_le (by omega) (by omega)] at q2
  omega
set_option maxRecDepth 100000 in
set_option maxHeartbeats 4000000 in
theorem gx_X10_rescue {nh : Nat} {D : xM} {t : Option zL} {S : Nat → Int32} (h fp : Int32) {l : Launch} {G : xG} {M : xM} {J : xJ} (hI : InvR M) (hWG : WG nh D S) (hG : RG M nh D t S) : x_M l G fX10_rescue 63 0 0 [.ref (62), .int (h), .int (fp)] x_SH M J (qKI WR1 M J (fun r M2 => InvR M2 ∧ (r = rsR nh D t S h fp))) := by
  refine xb_of pX10 (Nat.le_of_ble_eq_true rfl) rfl ?_
  obtain ⟨⟨hn, h_hn, e_hn, hw⟩, hbt, ⟨un, wn, h_uw, h_wn, e_un, e_wn⟩, hch, ⟨n, h_n, e_n⟩, htx, ⟨b, h_b, e_b⟩, hkd, ⟨ra, h_ra, e_ra⟩, hsl, ⟨ic, h_ic, e_ic⟩, hS⟩ := hI
  obtain ⟨hn5, hW, hrub, hbeat⟩ := hWG
  obtain ⟨hGn, hA, hL, e_nw, e_rub, e_bt, e_ph, e_st, e_kn, e_pu, e_lf⟩ := hG
  obtain rfl : nh = hn := (nI_eq (by omega) (by omega)).mp (hGn.symm.trans e_hn)
  have hbt2 : ¬ S 2 = 0 := ne2_0 hbeat.1
  have hP : WP (PS nh t S) := ⟨hn5, hrub, hbt2⟩
  refine xr_aload_n dX10_rescue_0 0 rfl ?_
  refine xr_iload_n dX10_rescue_1 1 rfl ?_
  refine xb_cV (As := [.int (h)]) (rest := []) mlX10_133 (c_X10_isHoop h (by omega) e_hn) dX10_rescue_2 s_62 rfl rfl (Nat.le_of_ble_eq_true rfl) (by decide) (by decide) ?_
  refine xb_beq (tgt := 36) dX10_rescue_5 rfl (fun c1 => ?_) (fun c1 => ?_)
  · refine xr_iconst (v := -1) dX10_rescue_36 rfl ?_
    exact xr_iret dX10_rescue_37 rfl rfl (⟨_, rfl, rfl, rfl, Ke.rf, ⟨⟨⟨nh, by omega, e_hn, (fun kw hkw => by rw [show M 63 (5 + kw) = M 63 (5 + kw) from rfl]; exact hw kw hkw)⟩, (by rw [show M 63 16 = M 63 16 from rfl]; exact hbt), ⟨un, wn, by omega, by omega, e_un, e_wn⟩, (fun kk hkk => by rw [show M 64 kk = M 64 kk from rfl, show M 65 kk = M 65 kk from rfl, show M 66 kk = M 66 kk from rfl]; exact hch kk hkk), ⟨n, by omega, e_n⟩, (by rw [show M 62 13 = M 62 13 from rfl]; exact htx), ⟨b, by omega, e_b⟩, (fun j hj => by obtain ⟨q, hq, eq⟩ := hkd j hj; exact ⟨q, hq, (show M 81 j = M 81 j from rfl).trans eq⟩), ⟨ra, by omega, e_ra⟩, (fun j hj => by rw [show M 83 j = M 83 j from rfl, show M 84 j = M 84 j from rfl]; exact hsl j hj), ⟨ic, by omega, e_ic⟩, (fun j hj => by obtain ⟨q, hq, eq⟩ := hS j hj; exact ⟨q, hq, (show M 75 j = M 75 j from rfl).trans eq⟩)⟩, (rsR_n (fun z => c1 z.1))⟩⟩)
  · obtain ⟨h_, hh_, rfl⟩ := x_nat (N := nh) (by omega) rfl c1
    refine xr_iload_n dX10_rescue_8 2 rfl ?_
    refine xr_if_lt (tgt := 36) dX10_rescue_9 rfl (fun c2 => ?_) (fun c2 => ?_)
    · refine xr_iconst (v := -1) dX10_rescue_36 rfl ?_
      exact xr_iret dX10_rescue_37 rfl rfl (⟨_, rfl, rfl, rfl, Ke.rf, ⟨⟨⟨nh, by omega, e_hn, (fun kw hkw => by rw [show M 63 (5 + kw) = M 63 (5 + kw) from rfl]; exact hw kw hkw)⟩, (by rw [show M 63 16 = M 63 16 from rfl]; exact hbt), ⟨un, wn, by omega, by omega, e_un, e_wn⟩, (fun kk hkk => by rw [show M 64 kk = M 64 kk from rfl, show M 65 kk = M 65 kk from rfl, show M 66 kk = M 66 kk from rfl]; exact hch kk hkk), ⟨n, by omega, e_n⟩, (by rw [show M 62 13 = M 62 13 from rfl]; exact htx), ⟨b, by omega, e_b⟩, (fun j hj => by obtain ⟨q, hq, eq⟩ := hkd j hj; exact ⟨q, hq, (show M 81 j = M 81 j from rfl).trans eq⟩), ⟨ra, by omega, e_ra⟩, (fun j hj => by rw [show M 83 j = M 83 j from rfl, show M 84 j = M 84 j from rfl]; exact hsl j hj), ⟨ic, by omega, e_ic⟩, (fun j hj => by obtain ⟨q, hq, eq⟩ := hS j hj; exact ⟨q, hq, (show M 75 j = M 75 j from rfl).trans eq⟩)⟩, (rsR_n (fun z => absurd z.2.1.1 (neg_d fp (by grind))))⟩⟩)
    · refine xr_iload_n dX10_rescue_12 2 rfl ?_
      refine xr_bipush (v := 100) dX10_rescue_13 rfl ?_
      refine xr_idiv dX10_rescue_15 (by decide) ?_
      refine xr_i2l dX10_rescue_16 ?_
      refine xr_lconst (v := 1) dX10_rescue_17 rfl ?_
      refine xr_ldc2 coX10_129 dX10_rescue_18 ?_
      refine xb_cS (As := [.long (((fp / 100)).toInt64), .long (1), .long (5)]) (rest := []) mlX10_101 (c_within32 ((fp / 100)) (1) (5) (by decide) (by decide)) dX10_rescue_21 rfl rfl (Nat.le_of_ble_eq_true rfl) (by decide) (by decide) ?_
      refine xb_beq (tgt := 36) dX10_rescue_24 rfl (fun c3 => ?_) (fun c3 => ?_)
      · refine xr_iconst (v := -1) dX10_rescue_36 rfl ?_
        exact xr_iret dX10_rescue_37 rfl rfl (⟨_, rfl, rfl, rfl, Ke.rf, ⟨⟨⟨nh, by omega, e_hn, (fun kw hkw => by rw [show M 63 (5 + kw) = M 63 (5 + kw) from rfl]; exact hw kw hkw)⟩, (by rw [show M 63 16 = M 63 16 from rfl]; exact hbt), ⟨un, wn, by omega, by omega, e_un, e_wn⟩, (fun kk hkk => by rw [show M 64 kk = M 64 kk from rfl, show M 65 kk = M 65 kk from rfl, show M 66 kk = M 66 kk from rfl]; exact hch kk hkk), ⟨n, by omega, e_n⟩, (by rw [show M 62 13 = M 62 13 from rfl]; exact htx), ⟨b, by omega, e_b⟩, (fun j hj => by obtain ⟨q, hq, eq⟩ := hkd j hj; exact ⟨q, hq, (show M 81 j = M 81 j from rfl).trans eq⟩), ⟨ra, by omega, e_ra⟩, (fun j hj => by rw [show M 83 j = M 83 j from rfl, show M 84 j = M 84 j from rfl]; exact hsl j hj), ⟨ic, by omega, e_ic⟩, (fun j hj => by obtain ⟨q, hq, eq⟩ := hS j hj; exact ⟨q, hq, (show M 75 j = M 75 j from rfl).trans eq⟩)⟩, (rsR_n (fun z => c3 z.2.1))⟩⟩)
      · refine xr_iload_n dX10_rescue_27 2 rfl ?_
        refine xr_bipush (v := 100) dX10_rescue_28 rfl ?_
        refine xr_irem dX10_rescue_30 (by decide) ?_
        refine xr_bipush (v := 24) dX10_rescue_31 rfl ?_
        refine xr_icmp_lt (tgt := 38) dX10_rescue_33 rfl (fun c4 => ?_) (fun c4 => ?_)
        · refine xr_aload_n dX10_rescue_38 0 rfl ?_
          refine xr_iload_n dX10_rescue_39 1 rfl ?_
          refine xr_callV (As := [.int (nI (h_))]) (rest := []) mlX10_264 (gy_X10_fallOf (P := (PS nh t S)) (nw := S 0) (D := D) (h := h_) hP hh_ ⟨⟨e_hn, (AbS_k hA (fun kl hkl => rfl) (fun kl => rfl) (fun kl => rfl) hn5), hW, (LRt_k rfl rfl hL)⟩, ⟨e_rub, e_bt, e_ph, e_st⟩, e_nw⟩) dX10_rescue_40 s_62 rfl rfl (Nat.le_of_ble_eq_true rfl) (by decide) ⟨by decide, by decide⟩ (fun v s2 M6 J2 hq => ?_)
          obtain ⟨r8, rfl, rfl, rfl, k7, hx5⟩ := hq
          try dsimp only [Option.toList, List.cons_append, List.nil_append]
          refine xr_istore_n (ls2 := [(3, .int (r8)), (0, .ref (62)), (1, .int (nI (h_))), (2, .int (fp))]) dX10_rescue_43 (by decide) rfl ?_
          refine xr_iload_n dX10_rescue_44 0 rfl ?_
          refine xr_if_eq (tgt := 55) dX10_rescue_45 rfl (fun c9 => ?_) (fun c9 => ?_)
          · refine xr_bipush (v := -5) dX10_rescue_55 rfl ?_
            exact xr_iret dX10_rescue_57 rfl rfl (⟨_, rfl, rfl, rfl, (Ke.tr (fun _ _ h => h) Ke.rf k7), ⟨⟨⟨nh, by omega, (Eq.trans (k7 62 6 (by decide)) e_hn), (fun kw hkw => by rw [show M6 63 (5 + kw) = M 63 (5 + kw) from (Eq.trans (k7 63 (5 + kw) (by unfold WR1; omega)) rfl)]; exact hw kw hkw)⟩, (by rw [show M6 63 16 = M 63 16 from (Eq.trans (k7 63 16 (by unfold WR1; omega)) rfl)]; exact hbt), ⟨un, wn, by omega, by omega, (Eq.trans (k7 62 5 (by decide)) e_un), (Eq.trans (k7 62 4 (by decide)) e_wn)⟩, (fun kk hkk => by rw [show M6 64 kk = M 64 kk from (Eq.trans (k7 64 kk (by unfold WR1; omega)) rfl), show M6 65 kk = M 65 kk from (Eq.trans (k7 65 kk (by unfold WR1; omega)) rfl), show M6 66 kk = M 66 kk from (Eq.trans (k7 66 kk (by unfold WR1; omega)) rfl)]; exact hch kk hkk), ⟨n, by omega, (Eq.trans (k7 62 11 (by decide)) e_n)⟩, (by rw [show M6 62 13 = M 62 13 from (Eq.trans (k7 62 13 (by unfold WR1; omega)) rfl)]; exact htx), ⟨b, by omega, (Eq.trans (k7 62 36 (by decide)) e_b)⟩, (fun j hj => by obtain ⟨q, hq, eq⟩ := hkd j hj; exact ⟨q, hq, (show M6 81 j = M 81 j from (Eq.trans (k7 81 j (by unfold WR1; omega)) rfl)).trans eq⟩), ⟨ra, by omega, (Eq.trans (k7 62 39 (by decide)) e_ra)⟩, (fun j hj => by rw [show M6 83 j = M 83 j from (Eq.trans (k7 83 j (by unfold WR1; omega)) rfl), show M6 84 j = M 84 j from (Eq.trans (k7 84 j (by unfold WR1; omega)) rfl)]; exact hsl j hj), ⟨ic, by omega, (Eq.trans (k7 62 34 (by decide)) e_ic)⟩, (fun j hj => by obtain ⟨q, hq, eq⟩ := hS j hj; exact ⟨q, hq, (show M6 75 j = M 75 j from (Eq.trans (k7 75 j (by unfold WR1; omega)) rfl)).trans eq⟩)⟩, ((if_pos (Or.inl ((nI_eq (a := faV (PS nh t S) h_ (S 0) D) (b := 0) (by have := faV_le (P := (PS nh t S)) (h := h_) (nw := S 0) (D := D); omega) (by decide)).mp (hx5.symm.trans c9)))).symm.trans (rsR_y hn5 (rsC_r c1 c2 c3 c4) hh_))⟩⟩)
          · refine xr_iload_n dX10_rescue_48 0 rfl ?_
            refine xr_sipush (v := 201) dX10_rescue_49 rfl ?_
            refine xr_icmp_ne (tgt := 58) dX10_rescue_52 rfl (fun c10 => ?_) (fun c10 => ?_)
            · obtain ⟨K, hK, hKV, rfl⟩ := fa_4 faV_le hx5 c10
              have hc9 := rsC_r c1 c2 c3 c4
              have hnz : ¬ (faV (PS nh t S) h_ (S 0) D = 0 ∨ faV (PS nh t S) h_ (S 0) D = 201) := fun z => z.elim (fun z => c9 (by rw [hKV, z]; rfl)) (fun z => by omega)
              have hRs : rsL nh D t S h_ (fp / 100) (fp - fp / 100 * 100) K 100 0 = rsR nh D t S (nI h_) fp := by rw [← rsR_y hn5 hc9 hh_]; unfold rsF; rw [if_neg hnz, ← hKV]
              refine xr_iconst (v := 0) dX10_rescue_58 rfl ?_
              refine xr_istore (ls2 := [(4, .int (0)), (3, .int (nI (K))), (0, .ref (62)), (1, .int (nI (h_))), (2, .int (fp))]) dX10_rescue_59 (by decide) rfl ?_
              refine xb_ls (ls2 := [(4, .int (nI (0))), (3, .int (nI (K))), (2, .int (fp)), (1, .int (nI (h_))), (0, .ref (62))]) [0, 1, 4, 3, 2] rfl ?_
              refine rrx hh_ hK hn5 hrub hbt2 (rsL nh D t S h_ (fp / 100) (fp - fp / 100 * 100) K 100 0) (Eq.trans (k7 62 6 (by decide)) e_hn) (Eq.trans (k7 62 9 (by decide)) e_nw) (Eq.trans (k7 63 15 (by decide)) e_rub) (Eq.trans (k7 63 16 (by decide)) e_bt) (Eq.trans (k7 63 17 (by decide)) e_ph) (Eq.trans (k7 63 18 (by decide)) e_st) (LRt_k (Eq.trans (k7 62 13 (by unfold WR1; omega)) rfl) (Eq.trans (funext fun kk => k7 70 kk (by unfold WR1; omega)) rfl) hL) (AbS_k hA (fun kl hkl => (Eq.trans (k7 63 kl (by unfold WR1; omega)) rfl)) (fun kl => (Eq.trans (k7 67 kl (by unfold WR1; omega)) rfl)) (fun kl => (Eq.trans (k7 68 kl (by unfold WR1; omega)) rfl)) hn5) hW (fun r M2 hk hr => ⟨_, rfl, rfl, rfl, Ke.tr (fun _ _ h => h) (Ke.tr (fun _ _ h => h) Ke.rf k7) hk, ⟨⟨nh, by omega, (Eq.trans (hk 62 6 (by decide)) (Eq.trans (k7 62 6 (by decide)) e_hn)), (fun kw hkw => by rw [show M2 63 (5 + kw) = M 63 (5 + kw) from (Eq.trans (hk 63 (5 + kw) (by unfold WR1; omega)) (Eq.trans (k7 63 (5 + kw) (by unfold WR1; omega)) rfl))]; exact hw kw hkw)⟩, (by rw [show M2 63 16 = M 63 16 from (Eq.trans (hk 63 16 (by unfold WR1; omega)) (Eq.trans (k7 63 16 (by unfold WR1; omega)) rfl))]; exact hbt), ⟨un, wn, by omega, by omega, (Eq.trans (hk 62 5 (by decide)) (Eq.trans (k7 62 5 (by decide)) e_un)), (Eq.trans (hk 62 4 (by decide)) (Eq.trans (k7 62 4 (by decide)) e_wn))⟩, (fun kk hkk => by rw [show M2 64 kk = M 64 kk from (Eq.trans (hk 64 kk (by unfold WR1; omega)) (Eq.trans (k7 64 kk (by unfold WR1; omega)) rfl)), show M2 65 kk = M 65 kk from (Eq.trans (hk 65 kk (by unfold WR1; omega)) (Eq.trans (k7 65 kk (by unfold WR1; omega)) rfl)), show M2 66 kk = M 66 kk from (Eq.trans (hk 66 kk (by unfold WR1; omega)) (Eq.trans (k7 66 kk (by unfold WR1; omega)) rfl))]; exact hch kk hkk), ⟨n, by omega, (Eq.trans (hk 62 11 (by decide)) (Eq.trans (k7 62 11 (by decide)) e_n))⟩, (by rw [show M2 62 13 = M 62 13 from (Eq.trans (hk 62 13 (by unfold WR1; omega)) (Eq.trans (k7 62 13 (by unfold WR1; omega)) rfl))]; exact htx), ⟨b, by omega, (Eq.trans (hk 62 36 (by decide)) (Eq.trans (k7 62 36 (by decide)) e_b))⟩, (fun j hj => by obtain ⟨q, hq, eq⟩ := hkd j hj; exact ⟨q, hq, (show M2 81 j = M 81 j from (Eq.trans (hk 81 j (by unfold WR1; omega)) (Eq.trans (k7 81 j (by unfold WR1; omega)) rfl))).trans eq⟩), ⟨ra, by omega, (Eq.trans (hk 62 39 (by decide)) (Eq.trans (k7 62 39 (by decide)) e_ra))⟩, (fun j hj => by rw [show M2 83 j = M 83 j from (Eq.trans (hk 83 j (by unfold WR1; omega)) (Eq.trans (k7 83 j (by unfold WR1; omega)) rfl)), show M2 84 j = M 84 j from (Eq.trans (hk 84 j (by unfold WR1; omega)) (Eq.trans (k7 84 j (by unfold WR1; omega)) rfl))]; exact hsl j hj), ⟨ic, by omega, (Eq.trans (hk 62 34 (by decide)) (Eq.trans (k7 62 34 (by decide)) e_ic))⟩, (fun j hj => by obtain ⟨q, hq, eq⟩ := hS j hj; exact ⟨q, hq, (show M2 75 j = M 75 j from (Eq.trans (hk 75 j (by unfold WR1; omega)) (Eq.trans (k7 75 j (by unfold WR1; omega)) rfl))).trans eq⟩)⟩, hr.trans hRs⟩) (fun M11 k12 hE => ?_) (100 - 0) 0 M6 (by omega) Ke.rf rfl
              refine xr_bipush (v := -2) dX10_rescue_96 rfl ?_
              exact xr_iret dX10_rescue_98 rfl rfl (⟨_, rfl, rfl, rfl, (Ke.tr (fun _ _ h => h) (Ke.tr (fun _ _ h => h) Ke.rf k7) k12), ⟨⟨⟨nh, by omega, (Eq.trans (k12 62 6 (by decide)) (Eq.trans (k7 62 6 (by decide)) e_hn)), (fun kw hkw => by rw [show M11 63 (5 + kw) = M 63 (5 + kw) from (Eq.trans (k12 63 (5 + kw) (by unfold WR1; omega)) (Eq.trans (k7 63 (5 + kw) (by unfold WR1; omega)) rfl))]; exact hw kw hkw)⟩, (by rw [show M11 63 16 = M 63 16 from (Eq.trans (k12 63 16 (by unfold WR1; omega)) (Eq.trans (k7 63 16 (by unfold WR1; omega)) rfl))]; exact hbt), ⟨un, wn, by omega, by omega, (Eq.trans (k12 62 5 (by decide)) (Eq.trans (k7 62 5 (by decide)) e_un)), (Eq.trans (k12 62 4 (by decide)) (Eq.trans (k7 62 4 (by decide)) e_wn))⟩, (fun kk hkk => by rw [show M11 64 kk = M 64 kk from (Eq.trans (k12 64 kk (by unfold WR1; omega)) (Eq.trans (k7 64 kk (by unfold WR1; omega)) rfl)), show M11 65 kk = M 65 kk from (Eq.trans (k12 65 kk (by unfold WR1; omega)) (Eq.trans (k7 65 kk (by unfold WR1; omega)) rfl)), show M11 66 kk = M 66 kk from (Eq.trans (k12 66 kk (by unfold WR1; omega)) (Eq.trans (k7 66 kk (by unfold WR1; omega)) rfl))]; exact hch kk hkk), ⟨n, by omega, (Eq.trans (k12 62 11 (by decide)) (Eq.trans (k7 62 11 (by decide)) e_n))⟩, (by rw [show M11 62 13 = M 62 13 from (Eq.trans (k12 62 13 (by unfold WR1; omega)) (Eq.trans (k7 62 13 (by unfold WR1; omega)) rfl))]; exact htx), ⟨b, by omega, (Eq.trans (k12 62 36 (by decide)) (Eq.trans (k7 62 36 (by decide)) e_b))⟩, (fun j hj => by obtain ⟨q, hq, eq⟩ := hkd j hj; exact ⟨q, hq, (show M11 81 j = M 81 j from (Eq.trans (k12 81 j (by unfold WR1; omega)) (Eq.trans (k7 81 j (by unfold WR1; omega)) rfl))).trans eq⟩), ⟨ra, by omega, (Eq.trans (k12 62 39 (by decide)) (Eq.trans (k7 62 39 (by decide)) e_ra))⟩, (fun j hj => by rw [show M11 83 j = M 83 j from (Eq.trans (k12 83 j (by unfold WR1; omega)) (Eq.trans (k7 83 j (by unfold WR1; omega)) rfl)), show M11 84 j = M 84 j from (Eq.trans (k12 84 j (by unfold WR1; omega)) (Eq.trans (k7 84 j (by unfold WR1; omega)) rfl))]; exact hsl j hj), ⟨ic, by omega, (Eq.trans (k12 62 34 (by decide)) (Eq.trans (k7 62 34 (by decide)) e_ic))⟩, (fun j hj => by obtain ⟨q, hq, eq⟩ := hS j hj; exact ⟨q, hq, (show M11 75 j = M 75 j from (Eq.trans (k12 75 j (by unfold WR1; omega)) (Eq.trans (k7 75 j (by unfold WR1; omega)) rfl))).trans eq⟩)⟩, (hE.trans hRs)⟩⟩)
            · refine xr_bipush (v := -5) dX10_rescue_55 rfl ?_
              exact xr_iret dX10_rescue_57 rfl rfl (⟨_, rfl, rfl, rfl, (Ke.tr (fun _ _ h => h) Ke.rf k7), ⟨⟨⟨nh, by omega, (Eq.trans (k7 62 6 (by decide)) e_hn), (fun kw hkw => by rw [show M6 63 (5 + kw) = M 63 (5 + kw) from (Eq.trans (k7 63 (5 + kw) (by unfold WR1; omega)) rfl)]; exact hw kw hkw)⟩, (by rw [show M6 63 16 = M 63 16 from (Eq.trans (k7 63 16 (by unfold WR1; omega)) rfl)]; exact hbt), ⟨un, wn, by omega, by omega, (Eq.trans (k7 62 5 (by decide)) e_un), (Eq.trans (k7 62 4 (by decide)) e_wn)⟩, (fun kk hkk => by rw [show M6 64 kk = M 64 kk from (Eq.trans (k7 64 kk (by unfold WR1; omega)) rfl), show M6 65 kk = M 65 kk from (Eq.trans (k7 65 kk (by unfold WR1; omega)) rfl), show M6 66 kk = M 66 kk from (Eq.trans (k7 66 kk (by unfold WR1; omega)) rfl)]; exact hch kk hkk), ⟨n, by omega, (Eq.trans (k7 62 11 (by decide)) e_n)⟩, (by rw [show M6 62 13 = M 62 13 from (Eq.trans (k7 62 13 (by unfold WR1; omega)) rfl)]; exact htx), ⟨b, by omega, (Eq.trans (k7 62 36 (by decide)) e_b)⟩, (fun j hj => by obtain ⟨q, hq, eq⟩ := hkd j hj; exact ⟨q, hq, (show M6 81 j = M 81 j from (Eq.trans (k7 81 j (by unfold WR1; omega)) rfl)).trans eq⟩), ⟨ra, by omega, (Eq.trans (k7 62 39 (by decide)) e_ra)⟩, (fun j hj => by rw [show M6 83 j = M 83 j from (Eq.trans (k7 83 j (by unfold WR1; omega)) rfl), show M6 84 j = M 84 j from (Eq.trans (k7 84 j (by unfold WR1; omega)) rfl)]; exact hsl j hj), ⟨ic, by omega, (Eq.trans (k7 62 34 (by decide)) e_ic)⟩, (fun j hj => by obtain ⟨q, hq, eq⟩ := hS j hj; exact ⟨q, hq, (show M6 75 j = M 75 j from (Eq.trans (k7 75 j (by unfold WR1; omega)) rfl)).trans eq⟩)⟩, ((if_pos (Or.inr ((nI_eq (a := faV (PS nh t S) h_ (S 0) D) (b := 201) (by have := faV_le (P := (PS nh t S)) (h := h_) (nw := S 0) (D := D); omega) (by decide)).mp (hx5.symm.trans c10)))).symm.trans (rsR_y hn5 (rsC_r c1 c2 c3 c4) hh_))⟩⟩)
        · refine xr_iconst (v := -1) dX10_rescue_36 rfl ?_
          exact xr_iret dX10_rescue_37 rfl rfl (⟨_, rfl, rfl, rfl, Ke.rf, ⟨⟨⟨nh, by omega, e_hn, (fun kw hkw => by rw [show M 63 (5 + kw) = M 63 (5 + kw) from rfl]; exact hw kw hkw)⟩, (by rw [show M 63 16 = M 63 16 from rfl]; exact hbt), ⟨un, wn, by omega, by omega, e_un, e_wn⟩, (fun kk hkk => by rw [show M 64 kk = M 64 kk from rfl, show M 65 kk = M 65 kk from rfl, show M 66 kk = M 66 kk from rfl]; exact hch kk hkk), ⟨n, by omega, e_n⟩, (by rw [show M 62 13 = M 62 13 from rfl]; exact htx), ⟨b, by omega, e_b⟩, (fun j hj => by obtain ⟨q, hq, eq⟩ := hkd j hj; exact ⟨q, hq, (show M 81 j = M 81 j from rfl).trans eq⟩), ⟨ra, by omega, e_ra⟩, (fun j hj => by rw [show M 83 j = M 83 j from rfl, show M 84 j = M 84 j from rfl]; exact hsl j hj), ⟨ic, by omega, e_ic⟩, (fun j hj => by obtain ⟨q, hq, eq⟩ := hS j hj; exact ⟨q, hq, (show M 75 j = M 75 j from rfl).trans eq⟩)⟩, (rsR_n (fun z => absurd z.2.2.2 (by grind)))⟩⟩)
