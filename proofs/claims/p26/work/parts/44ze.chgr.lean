theorem CH_e {q : Nat} {a b : Int32} (hq : q < 20) (ha : bdK q a) (hb : bdK q b) : CH (nI q) a b := by
  refine ⟨q, hq, rfl, fun z => ?_⟩
  rcases z with z | z
  · exact ⟨ne0_1 (ha.1 (by omega)).1, ne0_1 (hb.1 (by omega)).1⟩
  · exact ⟨ne2_0 (ha.2.2.2 z).1, ne2_0 (hb.2.2.2 z).1⟩
theorem CH_nt {M M2 : xM} {u q : Nat} {a b : Int32} (hu : u ≤ 40) (hc : CH (nI q) a b) (h : ∀ k, k < 40 → CH (M 64 k) (M 65 k) (M 66 k)) (h1 : NTr M M2 64 u (nI q)) (h3 : NTr M M2 65 u a) (h4 : NTr M M2 66 u b) : ∀ k, k < 40 → CH (M2 64 k) (M2 65 k) (M2 66 k) := fun k hk => by
  rw [h1 k hk, h3 k hk, h4 k hk]
  unfold ntF
  by_cases e : u = 40
  · simp only [if_pos e]
    by_cases c : k = 39
    · simp only [if_pos c]; exact hc
    · simp only [if_neg c]; exact h (k + 1) (by omega)
  · simp only [if_neg e]
    by_cases c : k = u
    · simp only [if_pos c]; exact hc
    · simp only [if_neg c]; exact h k hk
theorem AbS_63 {n i c k : Nat} {M D : xM} {v : Int32} (hn : n ≤ 5) (hi : i < 5) (h : AbS n M D) (hc : c = 0 ∧ k = i ∨ c = 1 ∧ k = 5 + i ∨ c = 3 ∧ k = 10 + i) : AbS n (x_up M 63 k v) (x_up D i c v) := fun j hj => by
  obtain ⟨a, b, d, e, f⟩ := h j hj
  rcases hc with ⟨rfl, rfl⟩ | ⟨rfl, rfl⟩ | ⟨rfl, rfl⟩
  · by_cases q : j = k
    · subst q; exact ⟨up_s.trans up_s.symm, (up_k (by omega)).trans (b.trans (up_k (by decide)).symm), (up_n (by decide)).trans (d.trans (up_k (by decide)).symm), (up_k (by omega)).trans (e.trans (up_k (by decide)).symm), (up_n (by decide)).trans (f.trans (up_k (by decide)).symm)⟩
    · exact ⟨(up_k q).trans (a.trans (up_n q).symm), (up_k (by omega)).trans (b.trans (up_n q).symm), (up_n (by decide)).trans (d.trans (up_n q).symm), (up_k (by omega)).trans (e.trans (up_n q).symm), (up_n (by decide)).trans (f.trans (up_n q).symm)⟩
  · by_cases q : j = i
    · subst q; exact ⟨(up_k (by omega)).trans (a.trans (up_k (by decide)).symm), up_s.trans up_s.symm, (up_n (by decide)).trans (d.trans (up_k (by decide)).symm), (up_k (by omega)).trans (e.trans (up_k (by decide)).symm), (up_n (by decide)).trans (f.trans (up_k (by decide)).symm)⟩
    · exact ⟨(up_k (by omega)).trans (a.trans (up_n q).symm), (up_k (by omega)).trans (b.trans (up_n q).symm), (up_n (by decide)).trans (d.trans (up_n q).symm), (up_k (by omega)).trans (e.trans (up_n q).symm), (up_n (by decide)).trans (f.trans (up_n q).symm)⟩
  · by_cases q : j = i
    · subst q; exact ⟨(up_k (by omega)).trans (a.trans (up_k (by decide)).symm), (up_k (by omega)).trans (b.trans (up_k (by decide)).symm), (up_n (by decide)).trans (d.trans (up_k (by decide)).symm), up_s.trans up_s.symm, (up_n (by decide)).trans (f.trans (up_k (by decide)).symm)⟩
    · exact ⟨(up_k (by omega)).trans (a.trans (up_n q).symm), (up_k (by omega)).trans (b.trans (up_n q).symm), (up_n (by decide)).trans (d.trans (up_n q).symm), (up_k (by omega)).trans (e.trans (up_n q).symm), (up_n (by decide)).trans (f.trans (up_n q).symm)⟩
theorem hw_S {n : Nat} {M D : xM} (h : AbS n M D) (hW : WF n D) : ∀ k, k < n → M 63 (5 + k) ≠ 0 := fun k hk => by
  rw [(h k hk).2.1]; exact ne0_1 (hW k hk).2.1.1
/-- rows moved on by one, so far -/
def BCi (M M1 : xM) (k : Nat) : Prop := ∀ j, j < 40 → M1 64 j = (if j < k then M 64 (j + 1) else M 64 j) ∧ M1 65 j = (if j < k then M 65 (j + 1) else M 65 j) ∧ M1 66 j = (if j < k then M 66 (j + 1) else M 66 j)
theorem BCi_0 {M : xM} : BCi M M 0 := fun j hj => ⟨(if_neg (Nat.not_lt_zero j)).symm, (if_neg (Nat.not_lt_zero j)).symm, (if_neg (Nat.not_lt_zero j)).symm⟩
theorem BCi_s {M M1 : xM} {k : Nat} {a b c : Int32} (h : BCi M M1 k) (hk : k + 1 < 40) (ha : a = M1 64 (k + 1)) (hb : b = M1 65 (k + 1)) (hc : c = M1 66 (k + 1)) : BCi M (x_up (x_up (x_up M1 64 k a) 65 k b) 66 k c) (k + 1) := fun j hj => by
  rw [up_n (p := 66) (q := 64) (by decide), up_n (p := 65) (q := 64) (by decide), up_n (p := 66) (q := 65) (by decide)]
  by_cases e : j = k
  · subst e
    obtain ⟨h1, h2, h3⟩ := h (j + 1) hk
    rw [if_neg (by omega)] at h1 h2 h3
    rw [up_s, up_s, up_s, if_pos (by omega), if_pos (by omega), if_pos (by omega), ha, hb, hc]
    exact ⟨h1, h2, h3⟩
  · rw [up_k e, up_k e, up_k e, up_n (by decide), up_n (by decide), up_n (by decide)]
    obtain ⟨h1, h2, h3⟩ := h j hj
    by_cases q : j < k
    · rw [if_pos q] at h1 h2 h3
      rw [if_pos (by omega), if_pos (by omega), if_pos (by omega)]; exact ⟨h1, h2, h3⟩
    · rw [if_neg q] at h1 h2 h3
      rw [if_neg (by omega), if_neg (by omega), if_neg (by omega)]; exact ⟨h1, h2, h3⟩
set_option maxRecDepth 100000 in
set_option maxHeartbeats 4000000 in
theorem becx {wa v : Int32} {q : Nat} {l : Launch} {G : xG} {M : xM} {J : xJ} {Q : xQ} (hC : ∀ M2, Ke WBL M M2 → BCi M M2 39 → x_X l G fX10_becomes 0 0 0 Q 87 [(3, .int (wa)), (2, .int (v)), (1, .int (nI (q))), (0, .ref (62))] [] x_SH M2 J 0 0) : ∀ (m k : Nat) (M1 : xM), k + 1 + m = 40 → Ke WBL M M1 → BCi M M1 k → x_X l G fX10_becomes 0 0 0 Q 26 [(4, .int (nI (k + 1))), (3, .int (wa)), (2, .int (v)), (1, .int (nI (q))), (0, .ref (62))] [] x_SH M1 J 0 0 := by
  intro m
  induction m with
  | zero =>
    intro k M1 hk hM hB
    refine xr_iload dX10_becomes_26 0 rfl ?_
    refine xr_bipush (v := 40) dX10_becomes_28 rfl ?_
    refine xr_icmp_ge (tgt := 87) dX10_becomes_30 rfl (fun _ => ?_) (fun c => absurd (nI_le (a := 40) (b := k + 1) (by omega) (by omega)) c)
    refine xb_ls (ls2 := [(3, .int (wa)), (2, .int (v)), (1, .int (nI (q))), (0, .ref (62))]) [1, 2, 3, 4] rfl ?_
    exact hC _ hM (by obtain rfl : k = 39 := (by omega); exact hB)
  | succ m ih =>
    intro k M1 hk hM hB
    refine xr_iload dX10_becomes_26 0 rfl ?_
    refine xr_bipush (v := 40) dX10_becomes_28 rfl ?_
    refine xr_icmp_ge (tgt := 87) dX10_becomes_30 rfl (fun c => absurd c (nI_ge (a := k + 1) (b := 40) (by omega) (by omega))) (fun _ => ?_)
    refine xr_aload_n dX10_becomes_33 4 rfl ?_
    refine xr_getR flX10_13 dX10_becomes_34 s_62 rfl ?_
    refine xr_iload dX10_becomes_37 0 rfl ?_
    refine xr_iconst (v := 1) dX10_becomes_39 rfl ?_
    refine xr_isub dX10_becomes_40 ?_
    refine xb_top (y := nI k) (nI_pred k) ?_
    refine xr_aload_n dX10_becomes_41 4 rfl ?_
    refine xr_getR flX10_13 dX10_becomes_42 s_62 rfl ?_
    refine xr_iload dX10_becomes_45 0 rfl ?_
    refine xb_iald (j := k + 1) (v := M1 64 (k + 1)) dX10_becomes_47 s_64 (by omega) (by decide) rfl ?_
    refine xb_iast (j := k) dX10_becomes_48 s_64 (by omega) (by decide) ?_
    refine xr_aload_n dX10_becomes_49 4 rfl ?_
    refine xr_getR flX10_16 dX10_becomes_50 s_62 rfl ?_
    refine xr_iload dX10_becomes_53 0 rfl ?_
    refine xr_iconst (v := 1) dX10_becomes_55 rfl ?_
    refine xr_isub dX10_becomes_56 ?_
    refine xb_top (y := nI k) (nI_pred k) ?_
    refine xr_aload_n dX10_becomes_57 4 rfl ?_
    refine xr_getR flX10_16 dX10_becomes_58 s_62 rfl ?_
    refine xr_iload dX10_becomes_61 0 rfl ?_
    refine xb_iald (j := k + 1) (v := (x_up M1 64 k (M1 64 (k + 1))) 65 (k + 1)) dX10_becomes_63 s_65 (by omega) (by decide) rfl ?_
    refine xb_iast (j := k) dX10_becomes_64 s_65 (by omega) (by decide) ?_
    refine xr_aload_n dX10_becomes_65 4 rfl ?_
    refine xr_getR flX10_19 dX10_becomes_66 s_62 rfl ?_
    refine xr_iload dX10_becomes_69 0 rfl ?_
    refine xr_iconst (v := 1) dX10_becomes_71 rfl ?_
    refine xr_isub dX10_becomes_72 ?_
    refine xb_top (y := nI k) (nI_pred k) ?_
    refine xr_aload_n dX10_becomes_73 4 rfl ?_
    refine xr_getR flX10_19 dX10_becomes_74 s_62 rfl ?_
    refine xr_iload dX10_becomes_77 0 rfl ?_
    refine xb_iald (j := k + 1) (v := (x_up (x_up M1 64 k (M1 64 (k + 1))) 65 k ((x_up M1 64 k (M1 64 (k + 1))) 65 (k + 1))) 66 (k + 1)) dX10_becomes_79 s_66 (by omega) (by decide) rfl ?_
    refine xb_iast (j := k) dX10_becomes_80 s_66 (by omega) (by decide) ?_
    refine xr_iinc (v := nI (k + 1 + 1)) (ls2 := [(4, .int (nI (k + 1 + 1))), (3, .int (wa)), (2, .int (v)), (1, .int (nI (q))), (0, .ref (62))]) dX10_becomes_81 0 rfl (nI_1 _) (by decide) rfl ?_
    refine xr_goto (tgt := 26) dX10_becomes_84 rfl ?_
    refine xb_ls (ls2 := [(4, .int (nI (k + 1 + 1))), (3, .int (wa)), (2, .int (v)), (1, .int (nI (q))), (0, .ref (62))]) [0, 1, 2, 3, 4] rfl ?_
    exact ih (k + 1) (x_up (x_up (x_up M1 64 k (M1 64 (k + 1))) 65 k ((x_up M1 64 k (M1 64 (k + 1))) 65 (k + 1))) 66 k ((x_up (x_up M1 64 k (M1 64 (k + 1))) 65 k ((x_up M1 64 k (M1 64 (k + 1))) 65 (k + 1))) 66 (k + 1))) (by omega) (Ke.up (by omega) (Ke.up (by omega) (Ke.up (by omega) hM))) (BCi_s hB (by omega) rfl (up_n (by decide)) ((up_n (by decide)).trans (up_n (by decide))))
set_option maxRecDepth 100000 in
set_option maxHeartbeats 4000000 in
theorem gw_X10_becomes {q : Nat} (hq : q < 20) (v : Int32) {un : Nat} (h_un : un ≤ 40) {l : Launch} {G : xG} {M : xM} {J : xJ} (e_un : M 62 5 = nI un) : x_M l G fX10_becomes 0 0 0 [.ref (62), .int (nI (q)), .int (v)] x_SH M J (qKI WBC M J (fun r M2 => M 63 q = v ∧ r = M 63 q ∧ M = M2 ∨ ¬ M 63 q = v ∧ r = M 63 q ∧ M2 62 5 = nI (ntU un) ∧ M2 62 4 = nI (ntU un) ∧ NTr M M2 64 un (nI q) ∧ NTr M M2 65 un (M 63 q) ∧ NTr M M2 66 un v ∧ M2 63 q = v ∧ ∀ j, j ≠ q → M2 63 j = M 63 j)) := by
  refine xb_of pX10 (Nat.le_of_ble_eq_true rfl) rfl ?_
  refine xr_aload_n dX10_becomes_0 0 rfl ?_
  refine xr_getR flX10_9 dX10_becomes_1 s_62 rfl ?_
  refine xr_iload_n dX10_becomes_4 1 rfl ?_
  refine xb_iald (j := q) (v := M 63 q) dX10_becomes_5 s_63 hq (by decide) rfl ?_
  refine xr_istore_n (ls2 := [(3, .int (M 63 q)), (0, .ref (62)), (1, .int (nI (q))), (2, .int (v))]) dX10_becomes_6 (by decide) rfl ?_
  refine xr_iload_n dX10_becomes_7 0 rfl ?_
  refine xr_iload_n dX10_becomes_8 3 rfl ?_
  refine xr_icmp_ne (tgt := 14) dX10_becomes_9 rfl (fun c1 => ?_) (fun c1 => ?_)
  · refine xr_aload_n dX10_becomes_14 1 rfl ?_
    refine xb_get (v := nI (un)) flX10_91 dX10_becomes_15 s_62 rfl e_un ?_
    refine xr_bipush (v := 40) dX10_becomes_18 rfl ?_
    refine xr_icmp_ne (tgt := 97) dX10_becomes_20 rfl (fun c2 => ?_) (fun c2 => ?_)
    · have nc2 : ¬ (un = 40) := fun q => c2 ((nI_eq (a := un) (b := 40) (by omega) (by omega)).mpr q)
      have hun : un < 40 := by
        have h6 : un ≠ 40 := fun q => c2 (by rw [q]; rfl)
        omega
      refine xr_aload_n dX10_becomes_97 1 rfl ?_
      refine xr_getR flX10_13 dX10_becomes_98 s_62 rfl ?_
      refine xr_aload_n dX10_becomes_101 1 rfl ?_
      refine xb_get (v := nI (un)) flX10_91 dX10_becomes_102 s_62 rfl e_un ?_
      refine xr_iload_n dX10_becomes_105 2 rfl ?_
      refine xb_iast (j := un) dX10_becomes_106 s_64 (by omega) (by decide) ?_
      refine xr_aload_n dX10_becomes_107 1 rfl ?_
      refine xr_getR flX10_16 dX10_becomes_108 s_62 rfl ?_
      refine xr_aload_n dX10_becomes_111 1 rfl ?_
      refine xb_get (v := nI (un)) flX10_91 dX10_becomes_112 s_62 rfl (Eq.trans (congrFun (x_up_n _ _ _ (by decide)) _) e_un) ?_
      refine xr_iload_n dX10_becomes_115 0 rfl ?_
      refine xb_iast (j := un) dX10_becomes_116 s_65 (by omega) (by decide) ?_
      refine xr_aload_n dX10_becomes_117 1 rfl ?_
      refine xr_getR flX10_19 dX10_becomes_118 s_62 rfl ?_
      refine xr_aload_n dX10_becomes_121 1 rfl ?_
      refine xb_get (v := nI (un)) flX10_91 dX10_becomes_122 s_62 rfl (Eq.trans (congrFun (x_up_n _ _ _ (by decide)) _) (Eq.trans (congrFun (x_up_n _ _ _ (by decide)) _) e_un)) ?_
      refine xr_iload_n dX10_becomes_125 3 rfl ?_
      refine xb_iast (j := un) dX10_becomes_126 s_66 (by omega) (by decide) ?_
      refine xr_aload_n dX10_becomes_127 1 rfl ?_
      refine xr_dup dX10_becomes_128 rfl ?_
      refine xb_get (v := nI (un)) flX10_91 dX10_becomes_129 s_62 rfl (Eq.trans (congrFun (x_up_n _ _ _ (by decide)) _) (Eq.trans (congrFun (x_up_n _ _ _ (by decide)) _) (Eq.trans (congrFun (x_up_n _ _ _ (by decide)) _) e_un))) ?_
      refine xr_iconst (v := 1) dX10_becomes_132 rfl ?_
      refine xr_iadd dX10_becomes_133 ?_
      refine xb_top (y := nI (un + 1)) (nI_add (un) (1)) ?_
      refine xr_putI fpX10_91 dX10_becomes_134 s_62 rfl rfl rfl ?_
      refine xr_aload_n dX10_becomes_137 1 rfl ?_
      refine xr_aload_n dX10_becomes_138 1 rfl ?_
      refine xb_get (v := nI (un + 1)) flX10_91 dX10_becomes_139 s_62 rfl (x_up_s _ _ _ _) ?_
      refine xr_putI fpX10_94 dX10_becomes_142 s_62 rfl rfl rfl ?_
      refine xr_aload_n dX10_becomes_145 1 rfl ?_
      refine xr_getR flX10_9 dX10_becomes_146 s_62 rfl ?_
      refine xr_iload_n dX10_becomes_149 2 rfl ?_
      refine xr_iload_n dX10_becomes_150 3 rfl ?_
      refine xb_iast (j := q) dX10_becomes_151 s_63 hq (by decide) ?_
      refine xr_iload_n dX10_becomes_152 0 rfl ?_
      exact xr_iret dX10_becomes_153 rfl rfl (⟨_, rfl, rfl, rfl, (Ke.up (Or.inr (Or.inr (by omega))) (Ke.up (Or.inl (by omega)) (Ke.up (Or.inr (Or.inl (by omega))) (Ke.up (Or.inr (Or.inr (by omega))) (Ke.up (Or.inr (Or.inr (by omega))) (Ke.up (Or.inr (Or.inr (by omega))) Ke.rf)))))), (Or.inr ⟨c1, rfl, by rw [(show ntU un = un + 1 from if_neg (by omega))]; exact (Eq.trans (congrFun (x_up_n _ _ _ (by decide)) _) (Eq.trans (x_up_k _ _ _ (by decide)) (x_up_s _ _ _ _))), by rw [(show ntU un = un + 1 from if_neg (by omega))]; exact (Eq.trans (congrFun (x_up_n _ _ _ (by decide)) _) (x_up_s _ _ _ _)), (NTr_1 (by omega) ((up_n (by decide)).trans ((up_n (by decide)).trans ((up_n (by decide)).trans (Eq.trans (congrFun (x_up_n _ _ _ (by decide)) _) (Eq.trans (congrFun (x_up_n _ _ _ (by decide)) _) (x_up_s _ _ _ _)))))) (fun j hj => ((up_n (by decide)).trans ((up_n (by decide)).trans ((up_n (by decide)).trans (Eq.trans (congrFun (x_up_n _ _ _ (by decide)) _) (Eq.trans (congrFun (x_up_n _ _ _ (by decide)) _) (Eq.trans (x_up_k _ _ _ (by omega)) rfl)))))))), (NTr_1 (by omega) ((up_n (by decide)).trans ((up_n (by decide)).trans ((up_n (by decide)).trans (Eq.trans (congrFun (x_up_n _ _ _ (by decide)) _) (x_up_s _ _ _ _))))) (fun j hj => ((up_n (by decide)).trans ((up_n (by decide)).trans ((up_n (by decide)).trans (Eq.trans (congrFun (x_up_n _ _ _ (by decide)) _) (Eq.trans (x_up_k _ _ _ (by omega)) (Eq.trans (congrFun (x_up_n _ _ _ (by decide)) _) rfl)))))))), (NTr_1 (by omega) ((up_n (by decide)).trans ((up_n (by decide)).trans ((up_n (by decide)).trans (x_up_s _ _ _ _)))) (fun j hj => ((up_n (by decide)).trans ((up_n (by decide)).trans ((up_n (by decide)).trans (Eq.trans (x_up_k _ _ _ (by omega)) (Eq.trans (congrFun (x_up_n _ _ _ (by decide)) _) (Eq.trans (congrFun (x_up_n _ _ _ (by decide)) _) rfl)))))))), x_up_s _ _ _ _, fun j hj => (up_k hj).trans (Eq.trans (congrFun (x_up_n _ _ _ (by decide)) _) (Eq.trans (congrFun (x_up_n _ _ _ (by decide)) _) (Eq.trans (congrFun (x_up_n _ _ _ (by decide)) _) (Eq.trans (congrFun (x_up_n _ _ _ (by decide)) _) (Eq.trans (congrFun (x_up_n _ _ _ (by decide)) _) rfl)))))⟩)⟩)
    · have nc2 : un = 40 := (nI_eq (a := un) (b := 40) (by omega) (by omega)).mp c2
      refine xr_iconst (v := 1) dX10_becomes_23 rfl ?_
      refine xr_istore (ls2 := [(4, .int (1)), (3, .int (M 63 q)), (0, .ref (62)), (1, .int (nI (q))), (2, .int (v))]) dX10_becomes_24 (by decide) rfl ?_
      have h40 : un = 40 := (nI_eq (a := un) (b := 40) (by omega) (by decide)).mp c2
      obtain rfl := h40
      refine xb_ls (ls2 := [(4, .int (nI (0 + 1))), (3, .int (M 63 q)), (2, .int (v)), (1, .int (nI (q))), (0, .ref (62))]) [0, 1, 4, 3, 2] rfl ?_
      refine becx (q := q) (fun M3 k4 hB => ?_) 39 0 M (by omega) Ke.rf BCi_0
      refine xr_aload_n dX10_becomes_87 3 rfl ?_
      refine xr_dup dX10_becomes_88 rfl ?_
      refine xb_get (v := nI (39 + 1)) flX10_91 dX10_becomes_89 s_62 rfl (Eq.trans (k4 62 5 (by decide)) e_un) ?_
      refine xr_iconst (v := 1) dX10_becomes_92 rfl ?_
      refine xr_isub dX10_becomes_93 ?_
      refine xb_top (y := nI 39) (nI_pred 39) ?_
      refine xr_putI fpX10_91 dX10_becomes_94 s_62 rfl rfl rfl ?_
      refine xr_aload_n dX10_becomes_97 3 rfl ?_
      refine xr_getR flX10_13 dX10_becomes_98 s_62 rfl ?_
      refine xr_aload_n dX10_becomes_101 3 rfl ?_
      refine xb_get (v := nI (39)) flX10_91 dX10_becomes_102 s_62 rfl (x_up_s _ _ _ _) ?_
      refine xr_iload_n dX10_becomes_105 2 rfl ?_
      refine xb_iast (j := 39) dX10_becomes_106 s_64 (by omega) (by decide) ?_
      refine xr_aload_n dX10_becomes_107 3 rfl ?_
      refine xr_getR flX10_16 dX10_becomes_108 s_62 rfl ?_
      refine xr_aload_n dX10_becomes_111 3 rfl ?_
      refine xb_get (v := nI (39)) flX10_91 dX10_becomes_112 s_62 rfl (Eq.trans (congrFun (x_up_n _ _ _ (by decide)) _) (x_up_s _ _ _ _)) ?_
      refine xr_iload_n dX10_becomes_115 0 rfl ?_
      refine xb_iast (j := 39) dX10_becomes_116 s_65 (by omega) (by decide) ?_
      refine xr_aload_n dX10_becomes_117 3 rfl ?_
      refine xr_getR flX10_19 dX10_becomes_118 s_62 rfl ?_
      refine xr_aload_n dX10_becomes_121 3 rfl ?_
      refine xb_get (v := nI (39)) flX10_91 dX10_becomes_122 s_62 rfl (Eq.trans (congrFun (x_up_n _ _ _ (by decide)) _) (Eq.trans (congrFun (x_up_n _ _ _ (by decide)) _) (x_up_s _ _ _ _))) ?_
      refine xr_iload_n dX10_becomes_125 1 rfl ?_
      refine xb_iast (j := 39) dX10_becomes_126 s_66 (by omega) (by decide) ?_
      refine xr_aload_n dX10_becomes_127 3 rfl ?_
      refine xr_dup dX10_becomes_128 rfl ?_
      refine xb_get (v := nI (39)) flX10_91 dX10_becomes_129 s_62 rfl (Eq.trans (congrFun (x_up_n _ _ _ (by decide)) _) (Eq.trans (congrFun (x_up_n _ _ _ (by decide)) _) (Eq.trans (congrFun (x_up_n _ _ _ (by decide)) _) (x_up_s _ _ _ _)))) ?_
      refine xr_iconst (v := 1) dX10_becomes_132 rfl ?_
      refine xr_iadd dX10_becomes_133 ?_
      refine xb_top (y := nI (39 + 1)) (nI_add (39) (1)) ?_
      refine xr_putI fpX10_91 dX10_becomes_134 s_62 rfl rfl rfl ?_
      refine xr_aload_n dX10_becomes_137 3 rfl ?_
      refine xr_aload_n dX10_becomes_138 3 rfl ?_
      refine xb_get (v := nI (39 + 1)) flX10_91 dX10_becomes_139 s_62 rfl (x_up_s _ _ _ _) ?_
      refine xr_putI fpX10_94 dX10_becomes_142 s_62 rfl rfl rfl ?_
      refine xr_aload_n dX10_becomes_145 3 rfl ?_
      refine xr_getR flX10_9 dX10_becomes_146 s_62 rfl ?_
      refine xr_iload_n dX10_becomes_149 2 rfl ?_
      refine xr_iload_n dX10_becomes_150 1 rfl ?_
      refine xb_iast (j := q) dX10_becomes_151 s_63 hq (by decide) ?_
      refine xr_iload_n dX10_becomes_152 0 rfl ?_
      exact xr_iret dX10_becomes_153 rfl rfl (⟨_, rfl, rfl, rfl, (Ke.up (Or.inr (Or.inr (by omega))) (Ke.up (Or.inl (by omega)) (Ke.up (Or.inr (Or.inl (by omega))) (Ke.up (Or.inr (Or.inr (by omega))) (Ke.up (Or.inr (Or.inr (by omega))) (Ke.up (Or.inr (Or.inr (by omega))) (Ke.up (Or.inr (Or.inl (by omega))) (Ke.tr (fun pp kk h => (Or.inr (Or.inr (by omega)))) Ke.rf k4)))))))), (Or.inr ⟨c1, rfl, by rw [(show ntU 40 = 40 from rfl)]; exact (Eq.trans (congrFun (x_up_n _ _ _ (by decide)) _) (Eq.trans (x_up_k _ _ _ (by decide)) (x_up_s _ _ _ _))), by rw [(show ntU 40 = 40 from rfl)]; exact (Eq.trans (congrFun (x_up_n _ _ _ (by decide)) _) (x_up_s _ _ _ _)), (NTr_2 ((up_n (by decide)).trans ((up_n (by decide)).trans ((up_n (by decide)).trans (Eq.trans (congrFun (x_up_n _ _ _ (by decide)) _) (Eq.trans (congrFun (x_up_n _ _ _ (by decide)) _) (x_up_s _ _ _ _)))))) (fun j hj => ((up_n (by decide)).trans ((up_n (by decide)).trans ((up_n (by decide)).trans (Eq.trans (congrFun (x_up_n _ _ _ (by decide)) _) (Eq.trans (congrFun (x_up_n _ _ _ (by decide)) _) (Eq.trans (x_up_k _ _ _ (by omega)) (Eq.trans (congrFun (x_up_n _ _ _ (by decide)) _) ((hB j (by omega)).1.trans (if_pos hj))))))))))), (NTr_2 ((up_n (by decide)).trans ((up_n (by decide)).trans ((up_n (by decide)).trans (Eq.trans (congrFun (x_up_n _ _ _ (by decide)) _) (x_up_s _ _ _ _))))) (fun j hj => ((up_n (by decide)).trans ((up_n (by decide)).trans ((up_n (by decide)).trans (Eq.trans (congrFun (x_up_n _ _ _ (by decide)) _) (Eq.trans (x_up_k _ _ _ (by omega)) (Eq.trans (congrFun (x_up_n _ _ _ (by decide)) _) (Eq.trans (congrFun (x_up_n _ _ _ (by decide)) _) ((hB j (by omega)).2.1.trans (if_pos hj))))))))))), (NTr_2 ((up_n (by decide)).trans ((up_n (by decide)).trans ((up_n (by decide)).trans (x_up_s _ _ _ _)))) (fun j hj => ((up_n (by decide)).trans ((up_n (by decide)).trans ((up_n (by decide)).trans (Eq.trans (x_up_k _ _ _ (by omega)) (Eq.trans (congrFun (x_up_n _ _ _ (by decide)) _) (Eq.trans (congrFun (x_up_n _ _ _ (by decide)) _) (Eq.trans (congrFun (x_up_n _ _ _ (by decide)) _) ((hB j (by omega)).2.2.trans (if_pos hj))))))))))), x_up_s _ _ _ _, fun j hj => (up_k hj).trans (Eq.trans (congrFun (x_up_n _ _ _ (by decide)) _) (Eq.trans (congrFun (x_up_n _ _ _ (by decide)) _) (Eq.trans (congrFun (x_up_n _ _ _ (by decide)) _) (Eq.trans (congrFun (x_up_n _ _ _ (by decide)) _) (Eq.trans (congrFun (x_up_n _ _ _ (by decide)) _) (Eq.trans (congrFun (x_up_n _ _ _ (by decide)) _) (Eq.trans (k4 63 j (by unfold WBL; omega)) rfl)))))))⟩)⟩)
  · refine xr_iload_n dX10_becomes_12 0 rfl ?_
    exact xr_iret dX10_becomes_13 rfl rfl (⟨_, rfl, rfl, rfl, Ke.rf, (Or.inl ⟨c1, rfl, rfl⟩)⟩)
set_option maxRecDepth 100000 in
set_option maxHeartbeats 4000000 in
theorem cw_X10_lays {q : Nat} (hq : q < 20) (v : Int32) {l : Launch} {G : xG} {M : xM} {J : xJ} : x_M l G fX10_lays 1 0 0 [.ref 62, .int (nI q), .int (v)] x_SH M J (qE none x_SH (x_up M 63 q (if (10 ≤ q ∧ q < 15) ∧ M 68 (q - 10) = 0 then 0 else v)) J) := by
  refine xb_of pX10 (Nat.le_of_ble_eq_true rfl) rfl ?_
  refine xr_iload_n dX10_lays_0 1 rfl ?_
  refine xr_i2l dX10_lays_1 ?_
  refine xr_ldc2 coX10_97 dX10_lays_2 ?_
  refine xr_ldc2 coX10_99 dX10_lays_5 ?_
  refine xb_cS (As := [.long ((nI (q)).toInt64), .long (10), .long (14)]) (rest := []) mlX10_101 (c_within32 (nI (q)) (10) (14) (by decide) (by decide)) dX10_lays_8 rfl rfl (Nat.le_of_ble_eq_true rfl) (by decide) (by decide) ?_
  refine xb_beq (tgt := 30) dX10_lays_11 rfl (fun c1 => ?_) (fun c1 => ?_)
  · refine xr_iconst (v := 0) dX10_lays_30 rfl ?_
    refine xr_istore_n (ls2 := [(3, .int (0)), (0, .ref (62)), (1, .int (nI (q))), (2, .int (v))]) dX10_lays_31 (by decide) rfl ?_
    refine xr_aload_n dX10_lays_32 1 rfl ?_
    refine xr_getR flX10_9 dX10_lays_33 s_62 rfl ?_
    refine xr_iload_n dX10_lays_36 2 rfl ?_
    refine xr_iload_n dX10_lays_37 0 rfl ?_
    refine xr_if_eq (tgt := 45) dX10_lays_38 rfl (fun _ => ?_) (fun c => absurd (by decide) c)
    refine xr_iload_n dX10_lays_45 3 rfl ?_
    refine xb_iast (j := q) dX10_lays_46 s_63 hq (by decide) ?_
    exact xr_vret dX10_lays_47 rfl (⟨rfl, rfl, congrArg (x_up M 63 (q)) ((if_neg (fun z => c1 ⟨nI_le (a := 10) (b := q) (by omega) (by omega), nI_le (a := q) (b := 14) (by omega) (by omega)⟩))).symm, rfl⟩)
  · obtain ⟨j, hj, rfl⟩ := sx_ten hq c1
    refine xr_aload_n dX10_lays_14 0 rfl ?_
    refine xr_getR flX10_25 dX10_lays_15 s_62 rfl ?_
    refine xr_iload_n dX10_lays_18 1 rfl ?_
    refine xr_bipush (v := 10) dX10_lays_19 rfl ?_
    refine xr_isub dX10_lays_21 ?_
    refine xb_top (y := nI j) (sx_sub10 j) ?_
    refine xb_iald (j := j) (v := M 68 j) dX10_lays_22 s_68 (by omega) (by decide) rfl ?_
    refine xr_if_ne (tgt := 30) dX10_lays_23 rfl (fun c2 => ?_) (fun c2 => ?_)
    · refine xr_iconst (v := 0) dX10_lays_30 rfl ?_
      refine xr_istore_n (ls2 := [(3, .int (0)), (0, .ref (62)), (1, .int (nI (10 + j))), (2, .int (v))]) dX10_lays_31 (by decide) rfl ?_
      refine xr_aload_n dX10_lays_32 1 rfl ?_
      refine xr_getR flX10_9 dX10_lays_33 s_62 rfl ?_
      refine xr_iload_n dX10_lays_36 2 rfl ?_
      refine xr_iload_n dX10_lays_37 0 rfl ?_
      refine xr_if_eq (tgt := 45) dX10_lays_38 rfl (fun _ => ?_) (fun c => absurd (by decide) c)
      refine xr_iload_n dX10_lays_45 3 rfl ?_
      refine xb_iast (j := 10 + j) dX10_lays_46 s_63 (by omega) (by decide) ?_
      exact xr_vret dX10_lays_47 rfl (⟨rfl, rfl, congrArg (x_up M 63 (10 + j)) ((if_neg (fun z => c2 (by have z2 := z.2; rw [show 10 + j - 10 = j by omega] at z2; exact z2)))).symm, rfl⟩)
    · refine xr_iconst (v := 1) dX10_lays_26 rfl ?_
      refine xr_goto (tgt := 31) dX10_lays_27 rfl ?_
      refine xr_istore_n (ls2 := [(3, .int (1)), (0, .ref (62)), (1, .int (nI (10 + j))), (2, .int (v))]) dX10_lays_31 (by decide) rfl ?_
      refine xr_aload_n dX10_lays_32 1 rfl ?_
      refine xr_getR flX10_9 dX10_lays_33 s_62 rfl ?_
      refine xr_iload_n dX10_lays_36 2 rfl ?_
      refine xr_iload_n dX10_lays_37 0 rfl ?_
      refine xr_if_eq (tgt := 45) dX10_lays_38 rfl (fun c => absurd c (by decide)) (fun _ => ?_)
      refine xr_iconst (v := 0) dX10_lays_41 rfl ?_
      refine xr_goto (tgt := 46) dX10_lays_42 rfl ?_
      refine xb_iast (j := 10 + j) dX10_lays_46 s_63 (by omega) (by decide) ?_
      exact xr_vret dX10_lays_47 rfl (⟨rfl, rfl, congrArg (x_up M 63 (10 + j)) ((if_pos ⟨by omega, by rw [show 10 + j - 10 = j by omega]; exact c2⟩)).symm, rfl⟩)
theorem sub1_e {b : Nat} (hb : b ≤ 24) (h1 : 1 ≤ b) : nI b - 1 = nI (b - 1) := (show ∀ b, b ≤ 24 → 1 ≤ b → nI b - 1 = nI (b - 1) by decide +kernel) b hb h1
theorem bt_n {bt : Int32} (hb : 2 ≤ bt ∧ bt ≤ 24) : ∃ b : Nat, b ≤ 24 ∧ 2 ≤ b ∧ bt = nI b := by
  obtain ⟨b, hb2, rfl⟩ := x_natle (v := bt) (N := 24) (K := 24) (by decide) (by decide) ⟨Int32.le_trans (by decide) hb.1, hb.2⟩
  exact ⟨b, hb2, (nI_leI (a := 2) (b := b) (by decide) (by omega)).mp hb.1, rfl⟩
theorem lt_sub1 {bt v : Int32} (hb : 2 ≤ bt ∧ bt ≤ 24) (h : 0 ≤ v ∧ v ≤ bt - 1) : 0 ≤ v ∧ v < bt := by
  obtain ⟨b, hb1, hb2, rfl⟩ := bt_n hb
  rw [sub1_e hb1 (by omega)] at h
  obtain ⟨a, ha, rfl⟩ := x_natle (v := v) (N := b - 1) (by omega) rfl h
  exact ⟨h.1, nI_lt (by omega) (by omega)⟩
theorem lt_sub1r {bt v : Int32} (hb : 2 ≤ bt ∧ bt ≤ 24) (h : 0 ≤ v ∧ v < bt) : 0 ≤ v ∧ v ≤ bt - 1 := by
  obtain ⟨b, hb1, hb2, rfl⟩ := bt_n hb
  obtain ⟨a, ha, rfl⟩ := x_nat (v := v) (N := b) (by omega) rfl h
  refine ⟨h.1, ?_⟩
  rw [sub1_e hb1 (by omega)]
  exact nI_le (by omega) (by omega)
theorem AbS_m {n i c q : Nat} {M M2 D : xM} {v : Int32} (hn : n ≤ 5) (hi : i < 5) (h : AbS n M D) (hc : c = 0 ∧ q = i ∨ c = 1 ∧ q = 5 + i ∨ c = 3 ∧ q = 10 + i) (h67 : ∀ k, M2 67 k = M 67 k) (h68 : ∀ k, M2 68 k = M 68 k) (h3 : M2 63 q = v) (ho : ∀ j, j ≠ q → M2 63 j = M 63 j) : AbS n M2 (x_up D i c v) := by
  have e : ∀ k, M2 63 k = x_up M 63 q v 63 k := fun k => by
    by_cases z : k = q
    · subst z; rw [h3, up_s]
    · rw [ho k z, up_k z]
  refine AbS_k (AbS_63 hn hi h hc) (fun k _ => e k) (fun k => (h67 k).trans (up_n (by decide)).symm) (fun k => (h68 k).trans (up_n (by decide)).symm) hn
theorem bd_ok {n q : Nat} {D : xM} {S : Nat → Int32} {v : Int32} (h : (∃ i a, i < 5 ∧ a < 3 ∧ q = 5 * a + i ∧ okW a (D i 4) (S 2) v) ∨ ∃ a, 3 ≤ a ∧ a ≤ 7 ∧ q = 12 + a ∧ okW a 0 (S 2) v) : bdK q v := by
  rcases h with ⟨i, a, hi, ha, rfl, h⟩ | ⟨a, ha, hb, rfl, h⟩
  · match a, ha, h with
    | 0, _, h => exact ⟨fun _ => h, fun z => absurd z.1 (by omega), fun z => absurd z (by omega), fun z => absurd z (by omega)⟩
    | 1, _, h => exact ⟨fun _ => h, fun z => absurd z.1 (by omega), fun z => absurd z (by omega), fun z => absurd z (by omega)⟩
    | 2, _, h =>
      refine ⟨fun z => absurd z (by omega), fun _ => ?_, fun z => absurd z (by omega), fun z => absurd z (by omega)⟩
      rcases h with ⟨-, h⟩ | ⟨-, h⟩
      · rw [h]; decide
      · exact h
  · match a, ha, hb, h with
    | 3, _, _, h => exact ⟨fun z => absurd z (by decide), fun z => absurd z.2 (by decide), fun _ => h, fun z => absurd z (by decide)⟩
    | 4, _, _, h => exact ⟨fun z => absurd z (by decide), fun z => absurd z.2 (by decide), fun z => absurd z (by decide), fun _ => h⟩
    | 5, _, _, h => exact ⟨fun z => absurd z (by decide), fun z => absurd z.2 (by decide), fun z => absurd z (by decide), fun z => absurd z (by decide)⟩
    | 6, _, _, h => exact ⟨fun z => absurd z (by decide), fun z => absurd z.2 (by decide), fun z => absurd z (by decide), fun z => absurd z (by decide)⟩
    | 7, _, _, h => exact ⟨fun z => absurd z (by decide), fun z => absurd z.2 (by decide), fun z => absurd z (by decide), fun z => absurd z (by decide)⟩
theorem bd_was {n q : Nat} {D : xM} {S : Nat → Int32} {v : Int32} (h : WG n D S) (hq : (∃ i a, i < n ∧ a < 3 ∧ q = 5 * a + i) ∨ ∃ a, 3 ≤ a ∧ a ≤ 7 ∧ q = 12 + a) (e : v = gK D S q) : bdK q v := by
  obtain ⟨h5, hW, h1, h2⟩ := h
  rcases hq with ⟨i, a, hi, ha, rfl⟩ | ⟨a, ha, hb, rfl⟩
  · match a, ha, e with
    | 0, _, e => rw [gK_0 (by omega)] at e; rw [e]; exact ⟨fun _ => (hW i hi).1, fun z => absurd z.1 (by omega), fun z => absurd z (by omega), fun z => absurd z (by omega)⟩
    | 1, _, e => rw [gK_1 (by omega)] at e; rw [e]; exact ⟨fun _ => (hW i hi).2.1, fun z => absurd z.1 (by omega), fun z => absurd z (by omega), fun z => absurd z (by omega)⟩
    | 2, _, e => rw [gK_2 (by omega)] at e; rw [e]; exact ⟨fun z => absurd z (by omega), fun _ => (hW i hi).2.2.2.1, fun z => absurd z (by omega), fun z => absurd z (by omega)⟩
  · rw [gK_s ha] at e
    match a, ha, hb, e with
    | 3, _, _, e => exact ⟨fun z => absurd z (by decide), fun z => absurd z.2 (by decide), fun _ => by rw [e]; exact h1, fun z => absurd z (by decide)⟩
    | 4, _, _, e => exact ⟨fun z => absurd z (by decide), fun z => absurd z.2 (by decide), fun z => absurd z (by decide), fun _ => by rw [e]; exact h2⟩
    | 5, _, _, e => exact ⟨fun z => absurd z (by decide), fun z => absurd z.2 (by decide), fun z => absurd z (by decide), fun z => absurd z (by decide)⟩
    | 6, _, _, e => exact ⟨fun z => absurd z (by decide), fun z => absurd z.2 (by decide), fun z => absurd z (by decide), fun z => absurd z (by decide)⟩
    | 7, _, _, e => exact ⟨fun z => absurd z (by decide), fun z => absurd z.2 (by decide), fun z => absurd z (by decide), fun z => absurd z (by decide)⟩
theorem WF_01 {n i c : Nat} {D : xM} {v : Int32} (h : WF n D) (hc : c = 0 ∨ c = 1) (hv : 1 ≤ v ∧ v ≤ 9) : WF n (x_up D i c v) := fun j hj => by
  by_cases e : j = i
  · subst e
    obtain ⟨a, b, d, f, g, k⟩ := h j hj
    rcases hc with rfl | rfl
    · rw [up_s, up_k (by decide), up_k (by decide), up_k (by decide), up_k (by decide)]; exact ⟨hv, b, d, f, g, k⟩
    · rw [up_k (by decide), up_s, up_k (by decide), up_k (by decide), up_k (by decide)]; exact ⟨a, hv, d, f, g, k⟩
  · rw [x_up_n _ _ _ e]; exact h j hj
/-- laid as bounds allow: still as it may be -/
theorem WG_lk {n q : Nat} {D : xM} {S : Nat → Int32} {v : Int32} (h : WG n D S) (hq : (∃ i a, i < n ∧ a < 3 ∧ q = 5 * a + i) ∨ ∃ a, 3 ≤ a ∧ a ≤ 7 ∧ q = 12 + a) (hb : bdK q v) : WG n (dK D q (lK D q v)) (sK S q v) := by
  obtain ⟨h5, hW, h1, h2⟩ := h
  rcases hq with ⟨i, a, hi, ha, rfl⟩ | ⟨a, ha, hb2, rfl⟩
  · rw [sK_h (by omega) ha]
    refine ⟨h5, ?_, h1, h2⟩
    match a, ha with
    | 0, _ => rw [lK_0 (by omega) (by decide), dK_0 (by omega)]; exact WF_01 hW (Or.inl rfl) (hb.1 (by omega))
    | 1, _ => rw [lK_0 (by omega) (by decide), dK_1 (by omega)]; exact WF_01 hW (Or.inr rfl) (hb.1 (by omega))
    | 2, _ =>
      rw [lK_2 (by omega), dK_2 (by omega)]
      refine WF_3 hW ?_ (fun z => if_pos z)
      split
      · decide
      · exact hb.2.1 (by omega)
  · rw [lK_s ha, dK_s ha, sK_s ha]
    refine ⟨h5, hW, ?_, ?_⟩
    · by_cases e : 1 = a - 2
      · show 0 ≤ (if 1 = a - 2 then v else S 1) ∧ (if 1 = a - 2 then v else S 1) ≤ 3
        rw [if_pos e]; exact hb.2.2.1 (by omega)
      · show 0 ≤ (if 1 = a - 2 then v else S 1) ∧ (if 1 = a - 2 then v else S 1) ≤ 3
        rw [if_neg e]; exact h1
    · by_cases e : 2 = a - 2
      · show 2 ≤ (if 2 = a - 2 then v else S 2) ∧ (if 2 = a - 2 then v else S 2) ≤ 24
        rw [if_pos e]; exact hb.2.2.2 (by omega)
      · show 2 ≤ (if 2 = a - 2 then v else S 2) ∧ (if 2 = a - 2 then v else S 2) ≤ 24
        rw [if_neg e]; exact h2
theorem lK_ok {n q : Nat} {D : xM} {S : Nat → Int32} {v : Int32} (hn : n ≤ 5) (h : (∃ i a, i < n ∧ a < 3 ∧ q = 5 * a + i ∧ okW a (D i 4) (S 2) v) ∨ ∃ a, 3 ≤ a ∧ a ≤ 7 ∧ q = 12 + a ∧ okW a 0 (S 2) v) : lK D q v = v := by
  rcases h with ⟨i, a, hi, ha, rfl, h⟩ | ⟨a, ha, hb, rfl, h⟩
  · match a, ha, h with
    | 0, _, h => exact lK_0 (by omega) (by decide)
    | 1, _, h => exact lK_0 (by omega) (by decide)
    | 2, _, h => rw [lK_2 (by omega)]; exact ok2 h
  · exact lK_s ha
theorem WG_md {n q : Nat} {D : xM} {S : Nat → Int32} {v : Int32} (h : WG n D S) (hk : (∃ i a, i < n ∧ a < 3 ∧ q = 5 * a + i ∧ okW a (D i 4) (S 2) v) ∨ ∃ a, 3 ≤ a ∧ a ≤ 7 ∧ q = 12 + a ∧ okW a 0 (S 2) v) : WG n (dK D q v) (sK S q v) := by
  have h2 := WG_lk (q := q) (v := v) h (hk.imp (fun ⟨i, a, x, y, z, _⟩ => ⟨i, a, x, y, z⟩) (fun ⟨a, x, y, z, _⟩ => ⟨a, x, y, z⟩)) (bd_ok (n := n) (hk.imp (fun ⟨i, a, x, y, z, o⟩ => ⟨i, a, by have := h.1; omega, y, z, o⟩) (fun z => z)))
  rw [lK_ok h.1 hk] at h2
  exact h2
set_option maxRecDepth 100000 in
set_option maxHeartbeats 4000000 in
theorem gxm0_X10_mend {nh : Nat} {D : xM} {t : Option zL} {S : Nat → Int32} {lg : xL} {lu lw : Nat} (v : Int32) {i : Nat} {l : Launch} {G : xG} {M : xM} {J : xJ} (hI : InvR M) (hWG : WG nh D S) (hG : RG M nh D t S) (hWL : WLg nh lg lu lw) (hLg : RLg M lg lu lw) (hi : i < nh) : x_M l G fX10_mend 2 0 0 [.ref (62), .int (nI (i)), .int (0), .int (v)] x_SH M J (qKI WMR M J (fun r M2 => InvR M2 ∧ (EMn RG RLg nh D t S lg lu lw M2 (nI (i)) (0) v r))) := by
  refine xb_of pX10 (Nat.le_of_ble_eq_true rfl) rfl ?_
  obtain ⟨⟨hn, h_hn, e_hn, hw⟩, hbt, ⟨un, wn, h_uw, h_wn, e_un, e_wn⟩, hch, ⟨n, h_n, e_n⟩, htx, ⟨b, h_b, e_b⟩, hkd, ⟨ra, h_ra, e_ra⟩, hsl, ⟨ic, h_ic, e_ic⟩, hS⟩ := hI
  have hWG0 := hWG
  obtain ⟨huw, hw40, hWk⟩ := hWL
  have hG0 := hG
  have hLg0 := hLg
  obtain ⟨hn5, hW, hrub, hbeat⟩ := hWG
  obtain ⟨hGn, hA, hL, e_nw, e_rub, e_bt, e_ph, e_st, e_kn, e_pu, e_lf⟩ := hG
  obtain rfl : nh = hn := (nI_eq (by omega) (by omega)).mp (hGn.symm.trans e_hn)
  have hbt2 : ¬ S 2 = 0 := ne2_0 hbeat.1
  obtain ⟨hl4, hl5, hLk⟩ := hLg
  obtain rfl : lu = un := (nI_eq (by omega) (by omega)).mp (hl4.symm.trans e_un)
  obtain rfl : lw = wn := (nI_eq (by omega) (by omega)).mp (hl5.symm.trans e_wn)
  refine xr_iload_n dX10_mend_0 2 rfl ?_
  refine xr_i2l dX10_mend_1 ?_
  refine xb_topJ (y := 0) (by decide) ?_
  refine xr_lconst (v := 0) dX10_mend_2 rfl ?_
  refine xr_ldc2 coX10_131 dX10_mend_3 ?_
  refine xb_cS (As := [.long (0), .long (0), .long (2)]) (rest := []) mlX10_101 (c_X10_within 0 0 2) dX10_mend_6 rfl rfl (Nat.le_of_ble_eq_true rfl) (by decide) (by decide) ?_
  refine xb_beq (tgt := 95) dX10_mend_9 rfl (fun c => absurd (by decide) c) (fun _ => ?_)
  refine xr_aload_n dX10_mend_12 0 rfl ?_
  refine xr_iload_n dX10_mend_13 1 rfl ?_
  refine xb_cV (As := [.int (nI (i))]) (rest := []) mlX10_133 (c_X10_isHoop (nI (i)) (by omega) e_hn) dX10_mend_14 s_62 rfl rfl (Nat.le_of_ble_eq_true rfl) (by decide) (by decide) ?_
  refine xb_beq (tgt := 71) dX10_mend_17 rfl (fun c => absurd ⟨nI_pos' (by omega), nI_lt (a := i) (b := nh) (by omega) (by omega)⟩ c) (fun _ => ?_)
  refine xr_iload_n dX10_mend_20 2 rfl ?_
  refine xr_iconst (v := 2) dX10_mend_21 rfl ?_
  refine xr_icmp_ge (tgt := 40) dX10_mend_22 rfl (fun c => absurd c (by decide)) (fun _ => ?_)
  refine xr_iload_n dX10_mend_25 3 rfl ?_
  refine xr_i2l dX10_mend_26 ?_
  refine xr_lconst (v := 1) dX10_mend_27 rfl ?_
  refine xr_ldc2 coX10_112 dX10_mend_28 ?_
  refine xb_cS (As := [.long ((v).toInt64), .long (1), .long (9)]) (rest := []) mlX10_101 (c_within32 (v) (1) (9) (by decide) (by decide)) dX10_mend_31 rfl rfl (Nat.le_of_ble_eq_true rfl) (by decide) (by decide) ?_
  refine xb_beq (tgt := 71) dX10_mend_34 rfl (fun c3 => ?_) (fun c3 => ?_)
  · refine xr_iconst (v := 0) dX10_mend_71 rfl ?_
    refine xr_istore (ls2 := [(4, .int (0)), (0, .ref (62)), (1, .int (nI (i))), (2, .int (0)), (3, .int (v))]) dX10_mend_72 (by decide) rfl ?_
    refine xr_iload dX10_mend_74 0 rfl ?_
    refine xr_if_eq (tgt := 92) dX10_mend_76 rfl (fun _ => ?_) (fun c => absurd (by decide) c)
    refine xr_ldc coX10_140 dX10_mend_92 ?_
    exact xr_iret dX10_mend_94 rfl rfl (⟨_, rfl, rfl, rfl, Ke.rf, ⟨⟨⟨nh, by omega, e_hn, (fun kw hkw => by rw [show M 63 (5 + kw) = M 63 (5 + kw) from rfl]; exact hw kw hkw)⟩, (by rw [show M 63 16 = M 63 16 from rfl]; exact hbt), ⟨lu, lw, by omega, by omega, e_un, e_wn⟩, (fun kk hkk => by rw [show M 64 kk = M 64 kk from rfl, show M 65 kk = M 65 kk from rfl, show M 66 kk = M 66 kk from rfl]; exact hch kk hkk), ⟨n, by omega, e_n⟩, (by rw [show M 62 13 = M 62 13 from rfl]; exact htx), ⟨b, by omega, e_b⟩, (fun j hj => by obtain ⟨q, hq, eq⟩ := hkd j hj; exact ⟨q, hq, (show M 81 j = M 81 j from rfl).trans eq⟩), ⟨ra, by omega, e_ra⟩, (fun j hj => by rw [show M 83 j = M 83 j from rfl, show M 84 j = M 84 j from rfl]; exact hsl j hj), ⟨ic, by omega, e_ic⟩, (fun j hj => by obtain ⟨q, hq, eq⟩ := hS j hj; exact ⟨q, hq, (show M 75 j = M 75 j from rfl).trans eq⟩)⟩, (Or.inl ⟨i, 0, by omega, by decide, rfl, rfl, Or.inl ⟨(show ¬ okW 0 (D i 4) (S 2) v from c3), rfl, hG0, hLg0⟩⟩)⟩⟩)
  · refine xr_goto (tgt := 67) dX10_mend_37 rfl ?_
    refine xr_iconst (v := 1) dX10_mend_67 rfl ?_
    refine xr_goto (tgt := 72) dX10_mend_68 rfl ?_
    refine xr_istore (ls2 := [(4, .int (1)), (0, .ref (62)), (1, .int (nI (i))), (2, .int (0)), (3, .int (v))]) dX10_mend_72 (by decide) rfl ?_
    refine xr_iload dX10_mend_74 0 rfl ?_
    refine xr_if_eq (tgt := 92) dX10_mend_76 rfl (fun c => absurd c (by decide)) (fun _ => ?_)
    refine xr_aload_n dX10_mend_79 1 rfl ?_
    refine xr_iconst (v := 5) dX10_mend_80 rfl ?_
    refine xr_iload_n dX10_mend_81 3 rfl ?_
    refine xr_imul dX10_mend_82 ?_
    refine xb_top (y := 0) (by decide) ?_
    refine xr_iload_n dX10_mend_83 2 rfl ?_
    refine xr_iadd dX10_mend_84 ?_
    refine xb_top (y := nI (5 * 0 + i)) ((show (0 : Int32) + nI i = nI (0) + nI i from rfl).trans (nI_add (0) i)) ?_
    refine xr_iload_n dX10_mend_85 4 rfl ?_
    refine xr_callV (As := [.int (nI (5 * 0 + i)), .int (v)]) (rest := []) mlX10_136 (gw_X10_becomes (q := (5 * 0 + i)) (by omega) v (un := lu) (by omega) e_un) dX10_mend_86 s_62 rfl rfl (Nat.le_of_ble_eq_true rfl) (by decide) ⟨by decide, by decide⟩ (fun v s2 M5 J2 hq => ?_)
    obtain ⟨r7, rfl, rfl, rfl, k6, hx4⟩ := hq
    try dsimp only [Option.toList, List.cons_append, List.nil_append]
    rcases hx4 with ⟨hbe, hbr, rfl⟩ | ⟨hbe, hbr, hb5, hb4, hn4, hn5_, hn6, hb3, hbo⟩
    · skip
      refine xr_goto (tgt := 94) dX10_mend_89 rfl ?_
      exact xr_iret dX10_mend_94 rfl rfl (⟨_, rfl, rfl, rfl, (Ke.tr (fun pp kk => (fun hh => Or.elim hh (fun h => (Or.inl h)) (fun hh => Or.elim hh (fun h => (Or.inr (Or.inl h))) (fun h => (Or.inr (Or.inr h)))))) Ke.rf k6), ⟨⟨⟨nh, by omega, e_hn, (fun kw hkw => by rw [show M 63 (5 + kw) = M 63 (5 + kw) from rfl]; exact hw kw hkw)⟩, (by rw [show M 63 16 = M 63 16 from rfl]; exact hbt), ⟨lu, lw, by omega, by omega, e_un, e_wn⟩, (fun kk hkk => by rw [show M 64 kk = M 64 kk from rfl, show M 65 kk = M 65 kk from rfl, show M 66 kk = M 66 kk from rfl]; exact hch kk hkk), ⟨n, by omega, e_n⟩, (by rw [show M 62 13 = M 62 13 from rfl]; exact htx), ⟨b, by omega, e_b⟩, (fun j hj => by obtain ⟨q, hq, eq⟩ := hkd j hj; exact ⟨q, hq, (show M 81 j = M 81 j from rfl).trans eq⟩), ⟨ra, by omega, e_ra⟩, (fun j hj => by rw [show M 83 j = M 83 j from rfl, show M 84 j = M 84 j from rfl]; exact hsl j hj), ⟨ic, by omega, e_ic⟩, (fun j hj => by obtain ⟨q, hq, eq⟩ := hS j hj; exact ⟨q, hq, (show M 75 j = M 75 j from rfl).trans eq⟩)⟩, (Or.inl ⟨i, 0, by omega, by decide, rfl, rfl, Or.inr ⟨(show okW 0 (D i 4) (S 2) v from c3), (hbr.trans (((show M 63 (5 * 0 + i) = M 63 i by rw [show 5 * 0 + i = i by omega]).trans (hA i (by omega)).1).trans (gK_0 (S := S) (by omega)).symm)), Or.inl ⟨hbr.trans hbe, hG0, hLg0⟩⟩⟩)⟩⟩)
    · have hnt := ntU_b (u := lu) (by omega)
      refine xr_goto (tgt := 94) dX10_mend_89 rfl ?_
      have hRGn := ((by rw [sK_h (by omega) (by decide)]; exact ⟨(k6 62 6 (by decide)).trans e_hn, (by rw [dK_0 (by omega)]; exact AbS_m hn5 (by omega) hA (Or.inl ⟨rfl, by omega⟩) (fun kl => k6 67 kl (by unfold WBC; omega)) (fun kl => k6 68 kl (by unfold WBC; omega)) hb3 hbo), (LRt_k (k6 62 13 (by decide)) (funext fun kk => k6 70 kk (by unfold WBC; omega)) hL), (k6 62 9 (by decide)).trans e_nw, ((hbo 15 (by omega)).trans e_rub), ((hbo 16 (by omega)).trans e_bt), ((hbo 17 (by omega)).trans e_ph), ((hbo 18 (by omega)).trans e_st), ((hbo 19 (by omega)).trans e_kn), (k6 62 24 (by decide)).trans e_pu, (k6 62 25 (by decide)).trans e_lf⟩) : RG M5 nh (dK D (5 * 0 + i) v) t (sK S (5 * 0 + i) v))
      have hok9 : okW 0 (D i 4) (S 2) v := c3
      have hWGn := WG_md (q := (5 * 0 + i)) hWG0 (Or.inl ⟨i, 0, by omega, by decide, rfl, hok9⟩) 
      exact xr_iret dX10_mend_94 rfl rfl (⟨_, rfl, rfl, rfl, (Ke.tr (fun pp kk => (fun hh => Or.elim hh (fun h => (Or.inl h)) (fun hh => Or.elim hh (fun h => (Or.inr (Or.inl h))) (fun h => (Or.inr (Or.inr h)))))) Ke.rf k6), ⟨⟨⟨nh, hn5, hRGn.1, hw_S hRGn.2.1 hWGn.2.1⟩, (by rw [hRGn.2.2.2.2.2.1]; exact ne2_0 hWGn.2.2.2.1), ⟨ntU lu, ntU lu, Nat.le_refl _, hnt, hb5, hb4⟩, (CH_nt (by omega) (CH_e (by omega) (bd_was hWG0 (Or.inl ⟨i, 0, by omega, by decide, rfl⟩) (((show M 63 (5 * 0 + i) = M 63 i by rw [show 5 * 0 + i = i by omega]).trans (hA i (by omega)).1).trans (gK_0 (S := S) (by omega)).symm)) (bd_ok (n := nh) (D := D) (S := S) (Or.inl ⟨i, 0, by omega, by decide, rfl, hok9⟩))) hch hn4 hn5_ hn6), ⟨n, by omega, (Eq.trans (k6 62 11 (by decide)) e_n)⟩, (by rw [show M5 62 13 = M 62 13 from (Eq.trans (k6 62 13 (by unfold WBC; omega)) rfl)]; exact htx), ⟨b, by omega, (Eq.trans (k6 62 36 (by decide)) e_b)⟩, (fun j hj => by obtain ⟨q, hq, eq⟩ := hkd j hj; exact ⟨q, hq, (show M5 81 j = M 81 j from (Eq.trans (k6 81 j (by unfold WBC; omega)) rfl)).trans eq⟩), ⟨ra, by omega, (Eq.trans (k6 62 39 (by decide)) e_ra)⟩, (fun j hj => by rw [show M5 83 j = M 83 j from (Eq.trans (k6 83 j (by unfold WBC; omega)) rfl), show M5 84 j = M 84 j from (Eq.trans (k6 84 j (by unfold WBC; omega)) rfl)]; exact hsl j hj), ⟨ic, by omega, (Eq.trans (k6 62 34 (by decide)) e_ic)⟩, (fun j hj => by obtain ⟨q, hq, eq⟩ := hS j hj; exact ⟨q, hq, (show M5 75 j = M 75 j from (Eq.trans (k6 75 j (by unfold WBC; omega)) rfl)).trans eq⟩)⟩, (Or.inl ⟨i, 0, by omega, by decide, rfl, rfl, Or.inr ⟨(show okW 0 (D i 4) (S 2) v from c3), (hbr.trans (((show M 63 (5 * 0 + i) = M 63 i by rw [show 5 * 0 + i = i by omega]).trans (hA i (by omega)).1).trans (gK_0 (S := S) (by omega)).symm)), Or.inr ⟨fun z => hbe (hbr.symm.trans z), hRGn, (by rw [hbr]; exact RLg_nt hLg0 huw (by omega) hn4 hn5_ hn6 hb5 hb4)⟩⟩⟩)⟩⟩)
set_option maxRecDepth 100000 in
set_option maxHeartbeats 4000000 in
theorem gxm1_X10_mend {nh : Nat} {D : xM} {t : Option zL} {S : Nat → Int32} {lg : xL} {lu lw : Nat} (v : Int32) {i : Nat} {l : Launch} {G : xG} {M : xM} {J : xJ} (hI : InvR M) (hWG : WG nh D S) (hG : RG M nh D t S) (hWL : WLg nh lg lu lw) (hLg : RLg M lg lu lw) (hi : i < nh) : x_M l G fX10_mend 2 0 0 [.ref (62), .int (nI (i)), .int (1), .int (v)] x_SH M J (qKI WMR M J (fun r M2 => InvR M2 ∧ (EMn RG RLg nh D t S lg lu lw M2 (nI (i)) (1) v r))) := by
  refine xb_of pX10 (Nat.le_of_ble_eq_true rfl) rfl ?_
  obtain ⟨⟨hn, h_hn, e_hn, hw⟩, hbt, ⟨un, wn, h_uw, h_wn, e_un, e_wn⟩, hch, ⟨n, h_n, e_n⟩, htx, ⟨b, h_b, e_b⟩, hkd, ⟨ra, h_ra, e_ra⟩, hsl, ⟨ic, h_ic, e_ic⟩, hS⟩ := hI
  have hWG0 := hWG
  obtain ⟨huw, hw40, hWk⟩ := hWL
  have hG0 := hG
  have hLg0 := hLg
  obtain ⟨hn5, hW, hrub, hbeat⟩ := hWG
  obtain ⟨hGn, hA, hL, e_nw, e_rub, e_bt, e_ph, e_st, e_kn, e_pu, e_lf⟩ := hG
  obtain rfl : nh = hn := (nI_eq (by omega) (by omega)).mp (hGn.symm.trans e_hn)
  have hbt2 : ¬ S 2 = 0 := ne2_0 hbeat.1
  obtain ⟨hl4, hl5, hLk⟩ := hLg
  obtain rfl : lu = un := (nI_eq (by omega) (by omega)).mp (hl4.symm.trans e_un)
  obtain rfl : lw = wn := (nI_eq (by omega) (by omega)).mp (hl5.symm.trans e_wn)
  refine xr_iload_n dX10_mend_0 2 rfl ?_
  refine xr_i2l dX10_mend_1 ?_
  refine xb_topJ (y := 1) (by decide) ?_
  refine xr_lconst (v := 0) dX10_mend_2 rfl ?_
  refine xr_ldc2 coX10_131 dX10_mend_3 ?_
  refine xb_cS (As := [.long (1), .long (0), .long (2)]) (rest := []) mlX10_101 (c_X10_within 1 0 2) dX10_mend_6 rfl rfl (Nat.le_of_ble_eq_true rfl) (by decide) (by decide) ?_
  refine xb_beq (tgt := 95) dX10_mend_9 rfl (fun c => absurd (by decide) c) (fun _ => ?_)
  refine xr_aload_n dX10_mend_12 0 rfl ?_
  refine xr_iload_n dX10_mend_13 1 rfl ?_
  refine xb_cV (As := [.int (nI (i))]) (rest := []) mlX10_133 (c_X10_isHoop (nI (i)) (by omega) e_hn) dX10_mend_14 s_62 rfl rfl (Nat.le_of_ble_eq_true rfl) (by decide) (by decide) ?_
  refine xb_beq (tgt := 71) dX10_mend_17 rfl (fun c => absurd ⟨nI_pos' (by omega), nI_lt (a := i) (b := nh) (by omega) (by omega)⟩ c) (fun _ => ?_)
  refine xr_iload_n dX10_mend_20 2 rfl ?_
  refine xr_iconst (v := 2) dX10_mend_21 rfl ?_
  refine xr_icmp_ge (tgt := 40) dX10_mend_22 rfl (fun c => absurd c (by decide)) (fun _ => ?_)
  refine xr_iload_n dX10_mend_25 3 rfl ?_
  refine xr_i2l dX10_mend_26 ?_
  refine xr_lconst (v := 1) dX10_mend_27 rfl ?_
  refine xr_ldc2 coX10_112 dX10_mend_28 ?_
  refine xb_cS (As := [.long ((v).toInt64), .long (1), .long (9)]) (rest := []) mlX10_101 (c_within32 (v) (1) (9) (by decide) (by decide)) dX10_mend_31 rfl rfl (Nat.le_of_ble_eq_true rfl) (by decide) (by decide) ?_
  refine xb_beq (tgt := 71) dX10_mend_34 rfl (fun c3 => ?_) (fun c3 => ?_)
  · refine xr_iconst (v := 0) dX10_mend_71 rfl ?_
    refine xr_istore (ls2 := [(4, .int (0)), (0, .ref (62)), (1, .int (nI (i))), (2, .int (1)), (3, .int (v))]) dX10_mend_72 (by decide) rfl ?_
    refine xr_iload dX10_mend_74 0 rfl ?_
    refine xr_if_eq (tgt := 92) dX10_mend_76 rfl (fun _ => ?_) (fun c => absurd (by decide) c)
    refine xr_ldc coX10_140 dX10_mend_92 ?_
    exact xr_iret dX10_mend_94 rfl rfl (⟨_, rfl, rfl, rfl, Ke.rf, ⟨⟨⟨nh, by omega, e_hn, (fun kw hkw => by rw [show M 63 (5 + kw) = M 63 (5 + kw) from rfl]; exact hw kw hkw)⟩, (by rw [show M 63 16 = M 63 16 from rfl]; exact hbt), ⟨lu, lw, by omega, by omega, e_un, e_wn⟩, (fun kk hkk => by rw [show M 64 kk = M 64 kk from rfl, show M 65 kk = M 65 kk from rfl, show M 66 kk = M 66 kk from rfl]; exact hch kk hkk), ⟨n, by omega, e_n⟩, (by rw [show M 62 13 = M 62 13 from rfl]; exact htx), ⟨b, by omega, e_b⟩, (fun j hj => by obtain ⟨q, hq, eq⟩ := hkd j hj; exact ⟨q, hq, (show M 81 j = M 81 j from rfl).trans eq⟩), ⟨ra, by omega, e_ra⟩, (fun j hj => by rw [show M 83 j = M 83 j from rfl, show M 84 j = M 84 j from rfl]; exact hsl j hj), ⟨ic, by omega, e_ic⟩, (fun j hj => by obtain ⟨q, hq, eq⟩ := hS j hj; exact ⟨q, hq, (show M 75 j = M 75 j from rfl).trans eq⟩)⟩, (Or.inl ⟨i, 1, by omega, by decide, rfl, rfl, Or.inl ⟨(show ¬ okW 1 (D i 4) (S 2) v from c3), rfl, hG0, hLg0⟩⟩)⟩⟩)
  · refine xr_goto (tgt := 67) dX10_mend_37 rfl ?_
    refine xr_iconst (v := 1) dX10_mend_67 rfl ?_
    refine xr_goto (tgt := 72) dX10_mend_68 rfl ?_
    refine xr_istore (ls2 := [(4, .int (1)), (0, .ref (62)), (1, .int (nI (i))), (2, .int (1)), (3, .int (v))]) dX10_mend_72 (by decide) rfl ?_
    refine xr_iload dX10_mend_74 0 rfl ?_
    refine xr_if_eq (tgt := 92) dX10_mend_76 rfl (fun c => absurd c (by decide)) (fun _ => ?_)
    refine xr_aload_n dX10_mend_79 1 rfl ?_
    refine xr_iconst (v := 5) dX10_mend_80 rfl ?_
    refine xr_iload_n dX10_mend_81 3 rfl ?_
    refine xr_imul dX10_mend_82 ?_
    refine xb_top (y := 5) (by decide) ?_
    refine xr_iload_n dX10_mend_83 2 rfl ?_
    refine xr_iadd dX10_mend_84 ?_
    refine xb_top (y := nI (5 * 1 + i)) ((show (5 : Int32) + nI i = nI (5) + nI i from rfl).trans (nI_add (5) i)) ?_
    refine xr_iload_n dX10_mend_85 4 rfl ?_
    refine xr_callV (As := [.int (nI (5 * 1 + i)), .int (v)]) (rest := []) mlX10_136 (gw_X10_becomes (q := (5 * 1 + i)) (by omega) v (un := lu) (by omega) e_un) dX10_mend_86 s_62 rfl rfl (Nat.le_of_ble_eq_true rfl) (by decide) ⟨by decide, by decide⟩ (fun v s2 M5 J2 hq => ?_)
    obtain ⟨r7, rfl, rfl, rfl, k6, hx4⟩ := hq
    try dsimp only [Option.toList, List.cons_append, List.nil_append]
    rcases hx4 with ⟨hbe, hbr, rfl⟩ | ⟨hbe, hbr, hb5, hb4, hn4, hn5_, hn6, hb3, hbo⟩
    · skip
      refine xr_goto (tgt := 94) dX10_mend_89 rfl ?_
      exact xr_iret dX10_mend_94 rfl rfl (⟨_, rfl, rfl, rfl, (Ke.tr (fun pp kk => (fun hh => Or.elim hh (fun h => (Or.inl h)) (fun hh => Or.elim hh (fun h => (Or.inr (Or.inl h))) (fun h => (Or.inr (Or.inr h)))))) Ke.rf k6), ⟨⟨⟨nh, by omega, e_hn, (fun kw hkw => by rw [show M 63 (5 + kw) = M 63 (5 + kw) from rfl]; exact hw kw hkw)⟩, (by rw [show M 63 16 = M 63 16 from rfl]; exact hbt), ⟨lu, lw, by omega, by omega, e_un, e_wn⟩, (fun kk hkk => by rw [show M 64 kk = M 64 kk from rfl, show M 65 kk = M 65 kk from rfl, show M 66 kk = M 66 kk from rfl]; exact hch kk hkk), ⟨n, by omega, e_n⟩, (by rw [show M 62 13 = M 62 13 from rfl]; exact htx), ⟨b, by omega, e_b⟩, (fun j hj => by obtain ⟨q, hq, eq⟩ := hkd j hj; exact ⟨q, hq, (show M 81 j = M 81 j from rfl).trans eq⟩), ⟨ra, by omega, e_ra⟩, (fun j hj => by rw [show M 83 j = M 83 j from rfl, show M 84 j = M 84 j from rfl]; exact hsl j hj), ⟨ic, by omega, e_ic⟩, (fun j hj => by obtain ⟨q, hq, eq⟩ := hS j hj; exact ⟨q, hq, (show M 75 j = M 75 j from rfl).trans eq⟩)⟩, (Or.inl ⟨i, 1, by omega, by decide, rfl, rfl, Or.inr ⟨(show okW 1 (D i 4) (S 2) v from c3), (hbr.trans (((hA i (by omega)).2.1).trans (gK_1 (S := S) (by omega)).symm)), Or.inl ⟨hbr.trans hbe, hG0, hLg0⟩⟩⟩)⟩⟩)
    · have hnt := ntU_b (u := lu) (by omega)
      refine xr_goto (tgt := 94) dX10_mend_89 rfl ?_
      have hRGn := ((by rw [sK_h (by omega) (by decide)]; exact ⟨(k6 62 6 (by decide)).trans e_hn, (by rw [dK_1 (by omega)]; exact AbS_m hn5 (by omega) hA (Or.inr (Or.inl ⟨rfl, by omega⟩)) (fun kl => k6 67 kl (by unfold WBC; omega)) (fun kl => k6 68 kl (by unfold WBC; omega)) hb3 hbo), (LRt_k (k6 62 13 (by decide)) (funext fun kk => k6 70 kk (by unfold WBC; omega)) hL), (k6 62 9 (by decide)).trans e_nw, ((hbo 15 (by omega)).trans e_rub), ((hbo 16 (by omega)).trans e_bt), ((hbo 17 (by omega)).trans e_ph), ((hbo 18 (by omega)).trans e_st), ((hbo 19 (by omega)).trans e_kn), (k6 62 24 (by decide)).trans e_pu, (k6 62 25 (by decide)).trans e_lf⟩) : RG M5 nh (dK D (5 * 1 + i) v) t (sK S (5 * 1 + i) v))
      have hok9 : okW 1 (D i 4) (S 2) v := c3
      have hWGn := WG_md (q := (5 * 1 + i)) hWG0 (Or.inl ⟨i, 1, by omega, by decide, rfl, hok9⟩) 
      exact xr_iret dX10_mend_94 rfl rfl (⟨_, rfl, rfl, rfl, (Ke.tr (fun pp kk => (fun hh => Or.elim hh (fun h => (Or.inl h)) (fun hh => Or.elim hh (fun h => (Or.inr (Or.inl h))) (fun h => (Or.inr (Or.inr h)))))) Ke.rf k6), ⟨⟨⟨nh, hn5, hRGn.1, hw_S hRGn.2.1 hWGn.2.1⟩, (by rw [hRGn.2.2.2.2.2.1]; exact ne2_0 hWGn.2.2.2.1), ⟨ntU lu, ntU lu, Nat.le_refl _, hnt, hb5, hb4⟩, (CH_nt (by omega) (CH_e (by omega) (bd_was hWG0 (Or.inl ⟨i, 1, by omega, by decide, rfl⟩) (((hA i (by omega)).2.1).trans (gK_1 (S := S) (by omega)).symm)) (bd_ok (n := nh) (D := D) (S := S) (Or.inl ⟨i, 1, by omega, by decide, rfl, hok9⟩))) hch hn4 hn5_ hn6), ⟨n, by omega, (Eq.trans (k6 62 11 (by decide)) e_n)⟩, (by rw [show M5 62 13 = M 62 13 from (Eq.trans (k6 62 13 (by unfold WBC; omega)) rfl)]; exact htx), ⟨b, by omega, (Eq.trans (k6 62 36 (by decide)) e_b)⟩, (fun j hj => by obtain ⟨q, hq, eq⟩ := hkd j hj; exact ⟨q, hq, (show M5 81 j = M 81 j from (Eq.trans (k6 81 j (by unfold WBC; omega)) rfl)).trans eq⟩), ⟨ra, by omega, (Eq.trans (k6 62 39 (by decide)) e_ra)⟩, (fun j hj => by rw [show M5 83 j = M 83 j from (Eq.trans (k6 83 j (by unfold WBC; omega)) rfl), show M5 84 j = M 84 j from (Eq.trans (k6 84 j (by unfold WBC; omega)) rfl)]; exact hsl j hj), ⟨ic, by omega, (Eq.trans (k6 62 34 (by decide)) e_ic)⟩, (fun j hj => by obtain ⟨q, hq, eq⟩ := hS j hj; exact ⟨q, hq, (show M5 75 j = M 75 j from (Eq.trans (k6 75 j (by unfold WBC; omega)) rfl)).trans eq⟩)⟩, (Or.inl ⟨i, 1, by omega, by decide, rfl, rfl, Or.inr ⟨(show okW 1 (D i 4) (S 2) v from c3), (hbr.trans (((hA i (by omega)).2.1).trans (gK_1 (S := S) (by omega)).symm)), Or.inr ⟨fun z => hbe (hbr.symm.trans z), hRGn, (by rw [hbr]; exact RLg_nt hLg0 huw (by omega) hn4 hn5_ hn6 hb5 hb4)⟩⟩⟩)⟩⟩)
set_option maxRecDepth 100000 in
set_option maxHeartbeats 4000000 in
theorem gxm2_X10_mend {nh : Nat} {D : xM} {t : Option zL} {S : Nat → Int32} {lg : xL} {lu lw : Nat} (v : Int32) {i : Nat} {l : Launch} {G : xG} {M : xM} {J : xJ} (hI : InvR M) (hWG : WG nh D S) (hG : RG M nh D t S) (hWL : WLg nh lg lu lw) (hLg : RLg M lg lu lw) (hi : i < nh) : x_M l G fX10_mend 2 0 0 [.ref (62), .int (nI (i)), .int (2), .int (v)] x_SH M J (qKI WMR M J (fun r M2 => InvR M2 ∧ (EMn RG RLg nh D t S lg lu lw M2 (nI (i)) (2) v r))) := by
  refine xb_of pX10 (Nat.le_of_ble_eq_true rfl) rfl ?_
  obtain ⟨⟨hn, h_hn, e_hn, hw⟩, hbt, ⟨un, wn, h_uw, h_wn, e_un, e_wn⟩, hch, ⟨n, h_n, e_n⟩, htx, ⟨b, h_b, e_b⟩, hkd, ⟨ra, h_ra, e_ra⟩, hsl, ⟨ic, h_ic, e_ic⟩, hS⟩ := hI
  have hWG0 := hWG
  obtain ⟨huw, hw40, hWk⟩ := hWL
  have hG0 := hG
  have hLg0 := hLg
  obtain ⟨hn5, hW, hrub, hbeat⟩ := hWG
  obtain ⟨hGn, hA, hL, e_nw, e_rub, e_bt, e_ph, e_st, e_kn, e_pu, e_lf⟩ := hG
  obtain rfl : nh = hn := (nI_eq (by omega) (by omega)).mp (hGn.symm.trans e_hn)
  have hbt2 : ¬ S 2 = 0 := ne2_0 hbeat.1
  obtain ⟨hl4, hl5, hLk⟩ := hLg
  obtain rfl : lu = un := (nI_eq (by omega) (by omega)).mp (hl4.symm.trans e_un)
  obtain rfl : lw = wn := (nI_eq (by omega) (by omega)).mp (hl5.symm.trans e_wn)
  refine xr_iload_n dX10_mend_0 2 rfl ?_
  refine xr_i2l dX10_mend_1 ?_
  refine xb_topJ (y := 2) (by decide) ?_
  refine xr_lconst (v := 0) dX10_mend_2 rfl ?_
  refine xr_ldc2 coX10_131 dX10_mend_3 ?_
  refine xb_cS (As := [.long (2), .long (0), .long (2)]) (rest := []) mlX10_101 (c_X10_within 2 0 2) dX10_mend_6 rfl rfl (Nat.le_of_ble_eq_true rfl) (by decide) (by decide) ?_
  refine xb_beq (tgt := 95) dX10_mend_9 rfl (fun c => absurd (by decide) c) (fun _ => ?_)
  refine xr_aload_n dX10_mend_12 0 rfl ?_
  refine xr_iload_n dX10_mend_13 1 rfl ?_
  refine xb_cV (As := [.int (nI (i))]) (rest := []) mlX10_133 (c_X10_isHoop (nI (i)) (by omega) e_hn) dX10_mend_14 s_62 rfl rfl (Nat.le_of_ble_eq_true rfl) (by decide) (by decide) ?_
  refine xb_beq (tgt := 71) dX10_mend_17 rfl (fun c => absurd ⟨nI_pos' (by omega), nI_lt (a := i) (b := nh) (by omega) (by omega)⟩ c) (fun _ => ?_)
  refine xr_iload_n dX10_mend_20 2 rfl ?_
  refine xr_iconst (v := 2) dX10_mend_21 rfl ?_
  refine xr_icmp_ge (tgt := 40) dX10_mend_22 rfl (fun _ => ?_) (fun c => absurd (by decide) c)
  refine xr_iload_n dX10_mend_40 3 rfl ?_
  refine xr_i2l dX10_mend_41 ?_
  refine xr_ldc2 coX10_114 dX10_mend_42 ?_
  refine xr_ldc2 coX10_112 dX10_mend_45 ?_
  refine xb_cS (As := [.long ((v).toInt64), .long ((-9)), .long (9)]) (rest := []) mlX10_101 (c_within32 (v) ((-9)) (9) (by decide) (by decide)) dX10_mend_48 rfl rfl (Nat.le_of_ble_eq_true rfl) (by decide) (by decide) ?_
  refine xb_beq (tgt := 71) dX10_mend_51 rfl (fun c3 => ?_) (fun c3 => ?_)
  · refine xr_iconst (v := 0) dX10_mend_71 rfl ?_
    refine xr_istore (ls2 := [(4, .int (0)), (0, .ref (62)), (1, .int (nI (i))), (2, .int (2)), (3, .int (v))]) dX10_mend_72 (by decide) rfl ?_
    refine xr_iload dX10_mend_74 0 rfl ?_
    refine xr_if_eq (tgt := 92) dX10_mend_76 rfl (fun _ => ?_) (fun c => absurd (by decide) c)
    refine xr_ldc coX10_140 dX10_mend_92 ?_
    exact xr_iret dX10_mend_94 rfl rfl (⟨_, rfl, rfl, rfl, Ke.rf, ⟨⟨⟨nh, by omega, e_hn, (fun kw hkw => by rw [show M 63 (5 + kw) = M 63 (5 + kw) from rfl]; exact hw kw hkw)⟩, (by rw [show M 63 16 = M 63 16 from rfl]; exact hbt), ⟨lu, lw, by omega, by omega, e_un, e_wn⟩, (fun kk hkk => by rw [show M 64 kk = M 64 kk from rfl, show M 65 kk = M 65 kk from rfl, show M 66 kk = M 66 kk from rfl]; exact hch kk hkk), ⟨n, by omega, e_n⟩, (by rw [show M 62 13 = M 62 13 from rfl]; exact htx), ⟨b, by omega, e_b⟩, (fun j hj => by obtain ⟨q, hq, eq⟩ := hkd j hj; exact ⟨q, hq, (show M 81 j = M 81 j from rfl).trans eq⟩), ⟨ra, by omega, e_ra⟩, (fun j hj => by rw [show M 83 j = M 83 j from rfl, show M 84 j = M 84 j from rfl]; exact hsl j hj), ⟨ic, by omega, e_ic⟩, (fun j hj => by obtain ⟨q, hq, eq⟩ := hS j hj; exact ⟨q, hq, (show M 75 j = M 75 j from rfl).trans eq⟩)⟩, (Or.inl ⟨i, 2, by omega, by decide, rfl, rfl, Or.inl ⟨(show ¬ okW 2 (D i 4) (S 2) v from (fun z => c3 (z.elim (fun z => by rw [z.2]; decide) (fun z => z.2)))), rfl, hG0, hLg0⟩⟩)⟩⟩)
  · refine xr_aload_n dX10_mend_54 0 rfl ?_
    refine xr_getR flX10_25 dX10_mend_55 s_62 rfl ?_
    refine xr_iload_n dX10_mend_58 1 rfl ?_
    refine xb_iald (j := i) (v := M 68 i) dX10_mend_59 s_68 (by omega) (by decide) rfl ?_
    refine xr_if_gt (tgt := 67) dX10_mend_60 rfl (fun c4 => ?_) (fun c4 => ?_)
    · refine xr_iconst (v := 1) dX10_mend_67 rfl ?_
      refine xr_goto (tgt := 72) dX10_mend_68 rfl ?_
      refine xr_istore (ls2 := [(4, .int (1)), (0, .ref (62)), (1, .int (nI (i))), (2, .int (2)), (3, .int (v))]) dX10_mend_72 (by decide) rfl ?_
      refine xr_iload dX10_mend_74 0 rfl ?_
      refine xr_if_eq (tgt := 92) dX10_mend_76 rfl (fun c => absurd c (by decide)) (fun _ => ?_)
      refine xr_aload_n dX10_mend_79 1 rfl ?_
      refine xr_iconst (v := 5) dX10_mend_80 rfl ?_
      refine xr_iload_n dX10_mend_81 3 rfl ?_
      refine xr_imul dX10_mend_82 ?_
      refine xb_top (y := 10) (by decide) ?_
      refine xr_iload_n dX10_mend_83 2 rfl ?_
      refine xr_iadd dX10_mend_84 ?_
      refine xb_top (y := nI (5 * 2 + i)) ((show (10 : Int32) + nI i = nI (10) + nI i from rfl).trans (nI_add (10) i)) ?_
      refine xr_iload_n dX10_mend_85 4 rfl ?_
      refine xr_callV (As := [.int (nI (5 * 2 + i)), .int (v)]) (rest := []) mlX10_136 (gw_X10_becomes (q := (5 * 2 + i)) (by omega) v (un := lu) (by omega) e_un) dX10_mend_86 s_62 rfl rfl (Nat.le_of_ble_eq_true rfl) (by decide) ⟨by decide, by decide⟩ (fun v s2 M6 J2 hq => ?_)
      obtain ⟨r8, rfl, rfl, rfl, k7, hx5⟩ := hq
      try dsimp only [Option.toList, List.cons_append, List.nil_append]
      rcases hx5 with ⟨hbe, hbr, rfl⟩ | ⟨hbe, hbr, hb5, hb4, hn4, hn5_, hn6, hb3, hbo⟩
      · skip
        refine xr_goto (tgt := 94) dX10_mend_89 rfl ?_
        exact xr_iret dX10_mend_94 rfl rfl (⟨_, rfl, rfl, rfl, (Ke.tr (fun pp kk => (fun hh => Or.elim hh (fun h => (Or.inl h)) (fun hh => Or.elim hh (fun h => (Or.inr (Or.inl h))) (fun h => (Or.inr (Or.inr h)))))) Ke.rf k7), ⟨⟨⟨nh, by omega, e_hn, (fun kw hkw => by rw [show M 63 (5 + kw) = M 63 (5 + kw) from rfl]; exact hw kw hkw)⟩, (by rw [show M 63 16 = M 63 16 from rfl]; exact hbt), ⟨lu, lw, by omega, by omega, e_un, e_wn⟩, (fun kk hkk => by rw [show M 64 kk = M 64 kk from rfl, show M 65 kk = M 65 kk from rfl, show M 66 kk = M 66 kk from rfl]; exact hch kk hkk), ⟨n, by omega, e_n⟩, (by rw [show M 62 13 = M 62 13 from rfl]; exact htx), ⟨b, by omega, e_b⟩, (fun j hj => by obtain ⟨q, hq, eq⟩ := hkd j hj; exact ⟨q, hq, (show M 81 j = M 81 j from rfl).trans eq⟩), ⟨ra, by omega, e_ra⟩, (fun j hj => by rw [show M 83 j = M 83 j from rfl, show M 84 j = M 84 j from rfl]; exact hsl j hj), ⟨ic, by omega, e_ic⟩, (fun j hj => by obtain ⟨q, hq, eq⟩ := hS j hj; exact ⟨q, hq, (show M 75 j = M 75 j from rfl).trans eq⟩)⟩, (Or.inl ⟨i, 2, by omega, by decide, rfl, rfl, Or.inr ⟨(show okW 2 (D i 4) (S 2) v from (Or.inr ⟨fun z => absurd ((le0_eq hW (by omega) (hA i (by omega)).2.2.2.2).mpr z) (Int32.not_le.mpr c4), c3⟩)), (hbr.trans (((hA i (by omega)).2.2.2.1).trans (gK_2 (S := S) (by omega)).symm)), Or.inl ⟨hbr.trans hbe, hG0, hLg0⟩⟩⟩)⟩⟩)
      · have hnt := ntU_b (u := lu) (by omega)
        refine xr_goto (tgt := 94) dX10_mend_89 rfl ?_
        have hRGn := ((by rw [sK_h (by omega) (by decide)]; exact ⟨(k7 62 6 (by decide)).trans e_hn, (by rw [dK_2 (by omega)]; exact AbS_m hn5 (by omega) hA (Or.inr (Or.inr ⟨rfl, by omega⟩)) (fun kl => k7 67 kl (by unfold WBC; omega)) (fun kl => k7 68 kl (by unfold WBC; omega)) hb3 hbo), (LRt_k (k7 62 13 (by decide)) (funext fun kk => k7 70 kk (by unfold WBC; omega)) hL), (k7 62 9 (by decide)).trans e_nw, ((hbo 15 (by omega)).trans e_rub), ((hbo 16 (by omega)).trans e_bt), ((hbo 17 (by omega)).trans e_ph), ((hbo 18 (by omega)).trans e_st), ((hbo 19 (by omega)).trans e_kn), (k7 62 24 (by decide)).trans e_pu, (k7 62 25 (by decide)).trans e_lf⟩) : RG M6 nh (dK D (5 * 2 + i) v) t (sK S (5 * 2 + i) v))
        have hok9 : okW 2 (D i 4) (S 2) v := (Or.inr ⟨fun z => absurd ((le0_eq hW (by omega) (hA i (by omega)).2.2.2.2).mpr z) (Int32.not_le.mpr c4), c3⟩)
        have hWGn := WG_md (q := (5 * 2 + i)) hWG0 (Or.inl ⟨i, 2, by omega, by decide, rfl, hok9⟩) 
        exact xr_iret dX10_mend_94 rfl rfl (⟨_, rfl, rfl, rfl, (Ke.tr (fun pp kk => (fun hh => Or.elim hh (fun h => (Or.inl h)) (fun hh => Or.elim hh (fun h => (Or.inr (Or.inl h))) (fun h => (Or.inr (Or.inr h)))))) Ke.rf k7), ⟨⟨⟨nh, hn5, hRGn.1, hw_S hRGn.2.1 hWGn.2.1⟩, (by rw [hRGn.2.2.2.2.2.1]; exact ne2_0 hWGn.2.2.2.1), ⟨ntU lu, ntU lu, Nat.le_refl _, hnt, hb5, hb4⟩, (CH_nt (by omega) (CH_e (by omega) (bd_was hWG0 (Or.inl ⟨i, 2, by omega, by decide, rfl⟩) (((hA i (by omega)).2.2.2.1).trans (gK_2 (S := S) (by omega)).symm)) (bd_ok (n := nh) (D := D) (S := S) (Or.inl ⟨i, 2, by omega, by decide, rfl, hok9⟩))) hch hn4 hn5_ hn6), ⟨n, by omega, (Eq.trans (k7 62 11 (by decide)) e_n)⟩, (by rw [show M6 62 13 = M 62 13 from (Eq.trans (k7 62 13 (by unfold WBC; omega)) rfl)]; exact htx), ⟨b, by omega, (Eq.trans (k7 62 36 (by decide)) e_b)⟩, (fun j hj => by obtain ⟨q, hq, eq⟩ := hkd j hj; exact ⟨q, hq, (show M6 81 j = M 81 j from (Eq.trans (k7 81 j (by unfold WBC; omega)) rfl)).trans eq⟩), ⟨ra, by omega, (Eq.trans (k7 62 39 (by decide)) e_ra)⟩, (fun j hj => by rw [show M6 83 j = M 83 j from (Eq.trans (k7 83 j (by unfold WBC; omega)) rfl), show M6 84 j = M 84 j from (Eq.trans (k7 84 j (by unfold WBC; omega)) rfl)]; exact hsl j hj), ⟨ic, by omega, (Eq.trans (k7 62 34 (by decide)) e_ic)⟩, (fun j hj => by obtain ⟨q, hq, eq⟩ := hS j hj; exact ⟨q, hq, (show M6 75 j = M 75 j from (Eq.trans (k7 75 j (by unfold WBC; omega)) rfl)).trans eq⟩)⟩, (Or.inl ⟨i, 2, by omega, by decide, rfl, rfl, Or.inr ⟨(show okW 2 (D i 4) (S 2) v from (Or.inr ⟨fun z => absurd ((le0_eq hW (by omega) (hA i (by omega)).2.2.2.2).mpr z) (Int32.not_le.mpr c4), c3⟩)), (hbr.trans (((hA i (by omega)).2.2.2.1).trans (gK_2 (S := S) (by omega)).symm)), Or.inr ⟨fun z => hbe (hbr.symm.trans z), hRGn, (by rw [hbr]; exact RLg_nt hLg0 huw (by omega) hn4 hn5_ hn6 hb5 hb4)⟩⟩⟩)⟩⟩)
    · refine xr_iload_n dX10_mend_63 3 rfl ?_
      refine xr_if_ne (tgt := 71) dX10_mend_64 rfl (fun c9 => ?_) (fun c9 => ?_)
      · refine xr_iconst (v := 0) dX10_mend_71 rfl ?_
        refine xr_istore (ls2 := [(4, .int (0)), (0, .ref (62)), (1, .int (nI (i))), (2, .int (2)), (3, .int (v))]) dX10_mend_72 (by decide) rfl ?_
        refine xr_iload dX10_mend_74 0 rfl ?_
        refine xr_if_eq (tgt := 92) dX10_mend_76 rfl (fun _ => ?_) (fun c => absurd (by decide) c)
        refine xr_ldc coX10_140 dX10_mend_92 ?_
        exact xr_iret dX10_mend_94 rfl rfl (⟨_, rfl, rfl, rfl, Ke.rf, ⟨⟨⟨nh, by omega, e_hn, (fun kw hkw => by rw [show M 63 (5 + kw) = M 63 (5 + kw) from rfl]; exact hw kw hkw)⟩, (by rw [show M 63 16 = M 63 16 from rfl]; exact hbt), ⟨lu, lw, by omega, by omega, e_un, e_wn⟩, (fun kk hkk => by rw [show M 64 kk = M 64 kk from rfl, show M 65 kk = M 65 kk from rfl, show M 66 kk = M 66 kk from rfl]; exact hch kk hkk), ⟨n, by omega, e_n⟩, (by rw [show M 62 13 = M 62 13 from rfl]; exact htx), ⟨b, by omega, e_b⟩, (fun j hj => by obtain ⟨q, hq, eq⟩ := hkd j hj; exact ⟨q, hq, (show M 81 j = M 81 j from rfl).trans eq⟩), ⟨ra, by omega, e_ra⟩, (fun j hj => by rw [show M 83 j = M 83 j from rfl, show M 84 j = M 84 j from rfl]; exact hsl j hj), ⟨ic, by omega, e_ic⟩, (fun j hj => by obtain ⟨q, hq, eq⟩ := hS j hj; exact ⟨q, hq, (show M 75 j = M 75 j from rfl).trans eq⟩)⟩, (Or.inl ⟨i, 2, by omega, by decide, rfl, rfl, Or.inl ⟨(show ¬ okW 2 (D i 4) (S 2) v from (fun z => z.elim (fun z => c9 z.2) (fun z => z.1 ((le0_eq hW (by omega) (hA i (by omega)).2.2.2.2).mp (Int32.not_lt.mp c4))))), rfl, hG0, hLg0⟩⟩)⟩⟩)
      · refine xr_iconst (v := 1) dX10_mend_67 rfl ?_
        refine xr_goto (tgt := 72) dX10_mend_68 rfl ?_
        refine xr_istore (ls2 := [(4, .int (1)), (0, .ref (62)), (1, .int (nI (i))), (2, .int (2)), (3, .int (v))]) dX10_mend_72 (by decide) rfl ?_
        refine xr_iload dX10_mend_74 0 rfl ?_
        refine xr_if_eq (tgt := 92) dX10_mend_76 rfl (fun c => absurd c (by decide)) (fun _ => ?_)
        refine xr_aload_n dX10_mend_79 1 rfl ?_
        refine xr_iconst (v := 5) dX10_mend_80 rfl ?_
        refine xr_iload_n dX10_mend_81 3 rfl ?_
        refine xr_imul dX10_mend_82 ?_
        refine xb_top (y := 10) (by decide) ?_
        refine xr_iload_n dX10_mend_83 2 rfl ?_
        refine xr_iadd dX10_mend_84 ?_
        refine xb_top (y := nI (5 * 2 + i)) ((show (10 : Int32) + nI i = nI (10) + nI i from rfl).trans (nI_add (10) i)) ?_
        refine xr_iload_n dX10_mend_85 4 rfl ?_
        refine xr_callV (As := [.int (nI (5 * 2 + i)), .int (v)]) (rest := []) mlX10_136 (gw_X10_becomes (q := (5 * 2 + i)) (by omega) v (un := lu) (by omega) e_un) dX10_mend_86 s_62 rfl rfl (Nat.le_of_ble_eq_true rfl) (by decide) ⟨by decide, by decide⟩ (fun v s2 M11 J2 hq => ?_)
        obtain ⟨r13, rfl, rfl, rfl, k12, hx10⟩ := hq
        try dsimp only [Option.toList, List.cons_append, List.nil_append]
        rcases hx10 with ⟨hbe, hbr, rfl⟩ | ⟨hbe, hbr, hb5, hb4, hn4, hn5_, hn6, hb3, hbo⟩
        · skip
          refine xr_goto (tgt := 94) dX10_mend_89 rfl ?_
          exact xr_iret dX10_mend_94 rfl rfl (⟨_, rfl, rfl, rfl, (Ke.tr (fun pp kk => (fun hh => Or.elim hh (fun h => (Or.inl h)) (fun hh => Or.elim hh (fun h => (Or.inr (Or.inl h))) (fun h => (Or.inr (Or.inr h)))))) Ke.rf k12), ⟨⟨⟨nh, by omega, e_hn, (fun kw hkw => by rw [show M 63 (5 + kw) = M 63 (5 + kw) from rfl]; exact hw kw hkw)⟩, (by rw [show M 63 16 = M 63 16 from rfl]; exact hbt), ⟨lu, lw, by omega, by omega, e_un, e_wn⟩, (fun kk hkk => by rw [show M 64 kk = M 64 kk from rfl, show M 65 kk = M 65 kk from rfl, show M 66 kk = M 66 kk from rfl]; exact hch kk hkk), ⟨n, by omega, e_n⟩, (by rw [show M 62 13 = M 62 13 from rfl]; exact htx), ⟨b, by omega, e_b⟩, (fun j hj => by obtain ⟨q, hq, eq⟩ := hkd j hj; exact ⟨q, hq, (show M 81 j = M 81 j from rfl).trans eq⟩), ⟨ra, by omega, e_ra⟩, (fun j hj => by rw [show M 83 j = M 83 j from rfl, show M 84 j = M 84 j from rfl]; exact hsl j hj), ⟨ic, by omega, e_ic⟩, (fun j hj => by obtain ⟨q, hq, eq⟩ := hS j hj; exact ⟨q, hq, (show M 75 j = M 75 j from rfl).trans eq⟩)⟩, (Or.inl ⟨i, 2, by omega, by decide, rfl, rfl, Or.inr ⟨(show okW 2 (D i 4) (S 2) v from (Or.inl ⟨(le0_eq hW (by omega) (hA i (by omega)).2.2.2.2).mp (Int32.not_lt.mp c4), c9⟩)), (hbr.trans (((hA i (by omega)).2.2.2.1).trans (gK_2 (S := S) (by omega)).symm)), Or.inl ⟨hbr.trans hbe, hG0, hLg0⟩⟩⟩)⟩⟩)
        · have hnt := ntU_b (u := lu) (by omega)
          refine xr_goto (tgt := 94) dX10_mend_89 rfl ?_
          have hRGn := ((by rw [sK_h (by omega) (by decide)]; exact ⟨(k12 62 6 (by decide)).trans e_hn, (by rw [dK_2 (by omega)]; exact AbS_m hn5 (by omega) hA (Or.inr (Or.inr ⟨rfl, by omega⟩)) (fun kl => k12 67 kl (by unfold WBC; omega)) (fun kl => k12 68 kl (by unfold WBC; omega)) hb3 hbo), (LRt_k (k12 62 13 (by decide)) (funext fun kk => k12 70 kk (by unfold WBC; omega)) hL), (k12 62 9 (by decide)).trans e_nw, ((hbo 15 (by omega)).trans e_rub), ((hbo 16 (by omega)).trans e_bt), ((hbo 17 (by omega)).trans e_ph), ((hbo 18 (by omega)).trans e_st), ((hbo 19 (by omega)).trans e_kn), (k12 62 24 (by decide)).trans e_pu, (k12 62 25 (by decide)).trans e_lf⟩) : RG M11 nh (dK D (5 * 2 + i) v) t (sK S (5 * 2 + i) v))
          have hok9 : okW 2 (D i 4) (S 2) v := (Or.inl ⟨(le0_eq hW (by omega) (hA i (by omega)).2.2.2.2).mp (Int32.not_lt.mp c4), c9⟩)
          have hWGn := WG_md (q := (5 * 2 + i)) hWG0 (Or.inl ⟨i, 2, by omega, by decide, rfl, hok9⟩) 
          exact xr_iret dX10_mend_94 rfl rfl (⟨_, rfl, rfl, rfl, (Ke.tr (fun pp kk => (fun hh => Or.elim hh (fun h => (Or.inl h)) (fun hh => Or.elim hh (fun h => (Or.inr (Or.inl h))) (fun h => (Or.inr (Or.inr h)))))) Ke.rf k12), ⟨⟨⟨nh, hn5, hRGn.1, hw_S hRGn.2.1 hWGn.2.1⟩, (by rw [hRGn.2.2.2.2.2.1]; exact ne2_0 hWGn.2.2.2.1), ⟨ntU lu, ntU lu, Nat.le_refl _, hnt, hb5, hb4⟩, (CH_nt (by omega) (CH_e (by omega) (bd_was hWG0 (Or.inl ⟨i, 2, by omega, by decide, rfl⟩) (((hA i (by omega)).2.2.2.1).trans (gK_2 (S := S) (by omega)).symm)) (bd_ok (n := nh) (D := D) (S := S) (Or.inl ⟨i, 2, by omega, by decide, rfl, hok9⟩))) hch hn4 hn5_ hn6), ⟨n, by omega, (Eq.trans (k12 62 11 (by decide)) e_n)⟩, (by rw [show M11 62 13 = M 62 13 from (Eq.trans (k12 62 13 (by unfold WBC; omega)) rfl)]; exact htx), ⟨b, by omega, (Eq.trans (k12 62 36 (by decide)) e_b)⟩, (fun j hj => by obtain ⟨q, hq, eq⟩ := hkd j hj; exact ⟨q, hq, (show M11 81 j = M 81 j from (Eq.trans (k12 81 j (by unfold WBC; omega)) rfl)).trans eq⟩), ⟨ra, by omega, (Eq.trans (k12 62 39 (by decide)) e_ra)⟩, (fun j hj => by rw [show M11 83 j = M 83 j from (Eq.trans (k12 83 j (by unfold WBC; omega)) rfl), show M11 84 j = M 84 j from (Eq.trans (k12 84 j (by unfold WBC; omega)) rfl)]; exact hsl j hj), ⟨ic, by omega, (Eq.trans (k12 62 34 (by decide)) e_ic)⟩, (fun j hj => by obtain ⟨q, hq, eq⟩ := hS j hj; exact ⟨q, hq, (show M11 75 j = M 75 j from (Eq.trans (k12 75 j (by unfold WBC; omega)) rfl)).trans eq⟩)⟩, (Or.inl ⟨i, 2, by omega, by decide, rfl, rfl, Or.inr ⟨(show okW 2 (D i 4) (S 2) v from (Or.inl ⟨(le0_eq hW (by omega) (hA i (by omega)).2.2.2.2).mp (Int32.not_lt.mp c4), c9⟩)), (hbr.trans (((hA i (by omega)).2.2.2.1).trans (gK_2 (S := S) (by omega)).symm)), Or.inr ⟨fun z => hbe (hbr.symm.trans z), hRGn, (by rw [hbr]; exact RLg_nt hLg0 huw (by omega) hn4 hn5_ hn6 hb5 hb4)⟩⟩⟩)⟩⟩)
set_option maxRecDepth 100000 in
set_option maxHeartbeats 4000000 in
theorem gxm3_X10_mend {nh : Nat} {D : xM} {t : Option zL} {S : Nat → Int32} {lg : xL} {lu lw : Nat} (v : Int32) {l : Launch} {G : xG} {M : xM} {J : xJ} (hI : InvR M) (hWG : WG nh D S) (hG : RG M nh D t S) (hWL : WLg nh lg lu lw) (hLg : RLg M lg lu lw) : x_M l G fX10_mend 2 0 0 [.ref (62), .int (0), .int (3), .int (v)] x_SH M J (qKI WMR M J (fun r M2 => InvR M2 ∧ (EMn RG RLg nh D t S lg lu lw M2 (0) (3) v r))) := by
  refine xb_of pX10 (Nat.le_of_ble_eq_true rfl) rfl ?_
  obtain ⟨⟨hn, h_hn, e_hn, hw⟩, hbt, ⟨un, wn, h_uw, h_wn, e_un, e_wn⟩, hch, ⟨n, h_n, e_n⟩, htx, ⟨b, h_b, e_b⟩, hkd, ⟨ra, h_ra, e_ra⟩, hsl, ⟨ic, h_ic, e_ic⟩, hS⟩ := hI
  have hWG0 := hWG
  obtain ⟨huw, hw40, hWk⟩ := hWL
  have hG0 := hG
  have hLg0 := hLg
  obtain ⟨hn5, hW, hrub, hbeat⟩ := hWG
  obtain ⟨hGn, hA, hL, e_nw, e_rub, e_bt, e_ph, e_st, e_kn, e_pu, e_lf⟩ := hG
  obtain rfl : nh = hn := (nI_eq (by omega) (by omega)).mp (hGn.symm.trans e_hn)
  have hbt2 : ¬ S 2 = 0 := ne2_0 hbeat.1
  obtain ⟨hl4, hl5, hLk⟩ := hLg
  obtain rfl : lu = un := (nI_eq (by omega) (by omega)).mp (hl4.symm.trans e_un)
  obtain rfl : lw = wn := (nI_eq (by omega) (by omega)).mp (hl5.symm.trans e_wn)
  refine xr_iload_n dX10_mend_0 2 rfl ?_
  refine xr_i2l dX10_mend_1 ?_
  refine xb_topJ (y := 3) (by decide) ?_
  refine xr_lconst (v := 0) dX10_mend_2 rfl ?_
  refine xr_ldc2 coX10_131 dX10_mend_3 ?_
  refine xb_cS (As := [.long (3), .long (0), .long (2)]) (rest := []) mlX10_101 (c_X10_within 3 0 2) dX10_mend_6 rfl rfl (Nat.le_of_ble_eq_true rfl) (by decide) (by decide) ?_
  refine xb_beq (tgt := 95) dX10_mend_9 rfl (fun _ => ?_) (fun c => absurd c (by decide))
  refine xr_iload_n dX10_mend_95 1 rfl ?_
  refine xr_if_ne (tgt := 113) dX10_mend_96 rfl (fun c => absurd (by decide) c) (fun _ => ?_)
  refine xr_iload_n dX10_mend_99 2 rfl ?_
  refine xr_i2l dX10_mend_100 ?_
  refine xb_topJ (y := 3) (by decide) ?_
  refine xr_ldc2 coX10_141 dX10_mend_101 ?_
  refine xr_ldc2 coX10_143 dX10_mend_104 ?_
  refine xb_cS (As := [.long (3), .long (3), .long (7)]) (rest := []) mlX10_101 (c_X10_within 3 3 7) dX10_mend_107 rfl rfl (Nat.le_of_ble_eq_true rfl) (by decide) (by decide) ?_
  refine xb_bne (tgt := 116) dX10_mend_110 rfl (fun _ => ?_) (fun c => absurd (by decide) c)
  refine xr_iload_n dX10_mend_116 2 rfl ?_
  refine xr_iconst (v := 4) dX10_mend_117 rfl ?_
  refine xr_icmp_ne (tgt := 125) dX10_mend_118 rfl (fun _ => ?_) (fun c => absurd c (by decide))
  refine xr_iconst (v := 0) dX10_mend_125 rfl ?_
  refine xr_istore (ls2 := [(4, .int (0)), (0, .ref (62)), (1, .int (0)), (2, .int (3)), (3, .int (v))]) dX10_mend_126 (by decide) rfl ?_
  refine xr_iload_n dX10_mend_128 3 rfl ?_
  refine xr_iconst (v := 3) dX10_mend_129 rfl ?_
  refine xr_icmp_ne (tgt := 137) dX10_mend_130 rfl (fun c => absurd (by decide) c) (fun _ => ?_)
  refine xr_iconst (v := 3) dX10_mend_133 rfl ?_
  refine xr_goto (tgt := 176) dX10_mend_134 rfl ?_
  refine xr_istore (ls2 := [(5, .int (3)), (4, .int (0)), (0, .ref (62)), (1, .int (0)), (2, .int (3)), (3, .int (v))]) dX10_mend_176 (by decide) rfl ?_
  refine xr_iload_n dX10_mend_178 5 rfl ?_
  refine xr_i2l dX10_mend_179 ?_
  refine xr_iload dX10_mend_180 1 rfl ?_
  refine xr_i2l dX10_mend_182 ?_
  refine xb_topJ (y := 0) (by decide) ?_
  refine xr_iload dX10_mend_183 0 rfl ?_
  refine xr_i2l dX10_mend_185 ?_
  refine xb_topJ (y := 3) (by decide) ?_
  refine xb_cS (As := [.long ((v).toInt64), .long (0), .long (3)]) (rest := []) mlX10_101 (c_within32 (v) (0) (3) (by decide) (by decide)) dX10_mend_186 rfl rfl (Nat.le_of_ble_eq_true rfl) (by decide) (by decide) ?_
  refine xb_beq (tgt := 206) dX10_mend_189 rfl (fun c3 => ?_) (fun c3 => ?_)
  · refine xr_ldc coX10_140 dX10_mend_206 ?_
    exact xr_iret dX10_mend_208 rfl rfl (⟨_, rfl, rfl, rfl, Ke.rf, ⟨⟨⟨nh, by omega, e_hn, (fun kw hkw => by rw [show M 63 (5 + kw) = M 63 (5 + kw) from rfl]; exact hw kw hkw)⟩, (by rw [show M 63 16 = M 63 16 from rfl]; exact hbt), ⟨lu, lw, by omega, by omega, e_un, e_wn⟩, (fun kk hkk => by rw [show M 64 kk = M 64 kk from rfl, show M 65 kk = M 65 kk from rfl, show M 66 kk = M 66 kk from rfl]; exact hch kk hkk), ⟨n, by omega, e_n⟩, (by rw [show M 62 13 = M 62 13 from rfl]; exact htx), ⟨b, by omega, e_b⟩, (fun j hj => by obtain ⟨q, hq, eq⟩ := hkd j hj; exact ⟨q, hq, (show M 81 j = M 81 j from rfl).trans eq⟩), ⟨ra, by omega, e_ra⟩, (fun j hj => by rw [show M 83 j = M 83 j from rfl, show M 84 j = M 84 j from rfl]; exact hsl j hj), ⟨ic, by omega, e_ic⟩, (fun j hj => by obtain ⟨q, hq, eq⟩ := hS j hj; exact ⟨q, hq, (show M 75 j = M 75 j from rfl).trans eq⟩)⟩, (Or.inr (Or.inl ⟨3, by decide, by decide, rfl, rfl, Or.inl ⟨(show ¬ okW 3 0 (S 2) v from c3), rfl, hG0, hLg0⟩⟩))⟩⟩)
  · refine xr_aload_n dX10_mend_192 2 rfl ?_
    refine xr_bipush (v := 15) dX10_mend_193 rfl ?_
    refine xr_iload_n dX10_mend_195 4 rfl ?_
    refine xr_iadd dX10_mend_196 ?_
    refine xb_top (y := 18) (by decide) ?_
    refine xr_iconst (v := 3) dX10_mend_197 rfl ?_
    refine xr_isub dX10_mend_198 ?_
    refine xb_top (y := nI (12 + 3)) (by decide) ?_
    refine xr_iload_n dX10_mend_199 5 rfl ?_
    refine xr_callV (As := [.int (nI (12 + 3)), .int (v)]) (rest := []) mlX10_136 (gw_X10_becomes (q := (12 + 3)) (by omega) v (un := lu) (by omega) e_un) dX10_mend_200 s_62 rfl rfl (Nat.le_of_ble_eq_true rfl) (by decide) ⟨by decide, by decide⟩ (fun v s2 M5 J2 hq => ?_)
    obtain ⟨r7, rfl, rfl, rfl, k6, hx4⟩ := hq
    try dsimp only [Option.toList, List.cons_append, List.nil_append]
    rcases hx4 with ⟨hbe, hbr, rfl⟩ | ⟨hbe, hbr, hb5, hb4, hn4, hn5_, hn6, hb3, hbo⟩
    · skip
      refine xr_goto (tgt := 208) dX10_mend_203 rfl ?_
      exact xr_iret dX10_mend_208 rfl rfl (⟨_, rfl, rfl, rfl, (Ke.tr (fun pp kk => (fun hh => Or.elim hh (fun h => (Or.inl h)) (fun hh => Or.elim hh (fun h => (Or.inr (Or.inl h))) (fun h => (Or.inr (Or.inr h)))))) Ke.rf k6), ⟨⟨⟨nh, by omega, e_hn, (fun kw hkw => by rw [show M 63 (5 + kw) = M 63 (5 + kw) from rfl]; exact hw kw hkw)⟩, (by rw [show M 63 16 = M 63 16 from rfl]; exact hbt), ⟨lu, lw, by omega, by omega, e_un, e_wn⟩, (fun kk hkk => by rw [show M 64 kk = M 64 kk from rfl, show M 65 kk = M 65 kk from rfl, show M 66 kk = M 66 kk from rfl]; exact hch kk hkk), ⟨n, by omega, e_n⟩, (by rw [show M 62 13 = M 62 13 from rfl]; exact htx), ⟨b, by omega, e_b⟩, (fun j hj => by obtain ⟨q, hq, eq⟩ := hkd j hj; exact ⟨q, hq, (show M 81 j = M 81 j from rfl).trans eq⟩), ⟨ra, by omega, e_ra⟩, (fun j hj => by rw [show M 83 j = M 83 j from rfl, show M 84 j = M 84 j from rfl]; exact hsl j hj), ⟨ic, by omega, e_ic⟩, (fun j hj => by obtain ⟨q, hq, eq⟩ := hS j hj; exact ⟨q, hq, (show M 75 j = M 75 j from rfl).trans eq⟩)⟩, (Or.inr (Or.inl ⟨3, by decide, by decide, rfl, rfl, Or.inr ⟨(show okW 3 0 (S 2) v from c3), (hbr.trans (e_rub.trans (gK_s (D := D) (S := S) (a := 3) (by decide)).symm)), Or.inl ⟨hbr.trans hbe, hG0, hLg0⟩⟩⟩))⟩⟩)
    · have hnt := ntU_b (u := lu) (by omega)
      refine xr_goto (tgt := 208) dX10_mend_203 rfl ?_
      have hRGn := (⟨(k6 62 6 (by decide)).trans e_hn, (AbS_k hA (fun kl hkl => hbo kl (by omega)) (fun kl => k6 67 kl (by unfold WBC; omega)) (fun kl => k6 68 kl (by unfold WBC; omega)) hn5), (LRt_k (k6 62 13 (by decide)) (funext fun kk => k6 70 kk (by unfold WBC; omega)) hL), (k6 62 9 (by decide)).trans e_nw, hb3, ((hbo 16 (by decide)).trans e_bt), ((hbo 17 (by decide)).trans e_ph), ((hbo 18 (by decide)).trans e_st), ((hbo 19 (by decide)).trans e_kn), (k6 62 24 (by decide)).trans e_pu, (k6 62 25 (by decide)).trans e_lf⟩ : RG M5 nh (dK D (12 + 3) v) t (sK S (12 + 3) v))
      have hok9 : okW 3 0 (S 2) v := c3
      have hWGn := WG_md (q := (12 + 3)) hWG0 (Or.inr ⟨3, by decide, by decide, rfl, hok9⟩) 
      exact xr_iret dX10_mend_208 rfl rfl (⟨_, rfl, rfl, rfl, (Ke.tr (fun pp kk => (fun hh => Or.elim hh (fun h => (Or.inl h)) (fun hh => Or.elim hh (fun h => (Or.inr (Or.inl h))) (fun h => (Or.inr (Or.inr h)))))) Ke.rf k6), ⟨⟨⟨nh, hn5, hRGn.1, hw_S hRGn.2.1 hWGn.2.1⟩, (by rw [hRGn.2.2.2.2.2.1]; exact ne2_0 hWGn.2.2.2.1), ⟨ntU lu, ntU lu, Nat.le_refl _, hnt, hb5, hb4⟩, (CH_nt (by omega) (CH_e (by omega) (bd_was hWG0 (Or.inr ⟨3, by decide, by decide, rfl⟩) ((e_rub).trans (gK_s (D := D) (S := S) (a := 3) (by decide)).symm)) (bd_ok (n := nh) (D := D) (S := S) (Or.inr ⟨3, by decide, by decide, rfl, hok9⟩))) hch hn4 hn5_ hn6), ⟨n, by omega, (Eq.trans (k6 62 11 (by decide)) e_n)⟩, (by rw [show M5 62 13 = M 62 13 from (Eq.trans (k6 62 13 (by unfold WBC; omega)) rfl)]; exact htx), ⟨b, by omega, (Eq.trans (k6 62 36 (by decide)) e_b)⟩, (fun j hj => by obtain ⟨q, hq, eq⟩ := hkd j hj; exact ⟨q, hq, (show M5 81 j = M 81 j from (Eq.trans (k6 81 j (by unfold WBC; omega)) rfl)).trans eq⟩), ⟨ra, by omega, (Eq.trans (k6 62 39 (by decide)) e_ra)⟩, (fun j hj => by rw [show M5 83 j = M 83 j from (Eq.trans (k6 83 j (by unfold WBC; omega)) rfl), show M5 84 j = M 84 j from (Eq.trans (k6 84 j (by unfold WBC; omega)) rfl)]; exact hsl j hj), ⟨ic, by omega, (Eq.trans (k6 62 34 (by decide)) e_ic)⟩, (fun j hj => by obtain ⟨q, hq, eq⟩ := hS j hj; exact ⟨q, hq, (show M5 75 j = M 75 j from (Eq.trans (k6 75 j (by unfold WBC; omega)) rfl)).trans eq⟩)⟩, (Or.inr (Or.inl ⟨3, by decide, by decide, rfl, rfl, Or.inr ⟨(show okW 3 0 (S 2) v from c3), (hbr.trans (e_rub.trans (gK_s (D := D) (S := S) (a := 3) (by decide)).symm)), Or.inr ⟨fun z => hbe (hbr.symm.trans z), hRGn, (by rw [hbr]; exact RLg_nt hLg0 huw (by omega) hn4 hn5_ hn6 hb5 hb4)⟩⟩⟩))⟩⟩)
set_option maxRecDepth 100000 in
set_option maxHeartbeats 4000000 in
theorem gxm4_X10_mend {nh : Nat} {D : xM} {t : Option zL} {S : Nat → Int32} {lg : xL} {lu lw : Nat} (v : Int32) {l : Launch} {G : xG} {M : xM} {J : xJ} (hI : InvR M) (hWG : WG nh D S) (hG : RG M nh D t S) (hWL : WLg nh lg lu lw) (hLg : RLg M lg lu lw) : x_M l G fX10_mend 2 0 0 [.ref (62), .int (0), .int (4), .int (v)] x_SH M J (qKI WMR M J (fun r M2 => InvR M2 ∧ (EMn RG RLg nh D t S lg lu lw M2 (0) (4) v r))) := by
  refine xb_of pX10 (Nat.le_of_ble_eq_true rfl) rfl ?_
  obtain ⟨⟨hn, h_hn, e_hn, hw⟩, hbt, ⟨un, wn, h_uw, h_wn, e_un, e_wn⟩, hch, ⟨n, h_n, e_n⟩, htx, ⟨b, h_b, e_b⟩, hkd, ⟨ra, h_ra, e_ra⟩, hsl, ⟨ic, h_ic, e_ic⟩, hS⟩ := hI
  have hWG0 := hWG
  obtain ⟨huw, hw40, hWk⟩ := hWL
  have hG0 := hG
  have hLg0 := hLg
  obtain ⟨hn5, hW, hrub, hbeat⟩ := hWG
  obtain ⟨hGn, hA, hL, e_nw, e_rub, e_bt, e_ph, e_st, e_kn, e_pu, e_lf⟩ := hG
  obtain rfl : nh = hn := (nI_eq (by omega) (by omega)).mp (hGn.symm.trans e_hn)
  have hbt2 : ¬ S 2 = 0 := ne2_0 hbeat.1
  obtain ⟨hl4, hl5, hLk⟩ := hLg
  obtain rfl : lu = un := (nI_eq (by omega) (by omega)).mp (hl4.symm.trans e_un)
  obtain rfl : lw = wn := (nI_eq (by omega) (by omega)).mp (hl5.symm.trans e_wn)
  refine xr_iload_n dX10_mend_0 2 rfl ?_
  refine xr_i2l dX10_mend_1 ?_
  refine xb_topJ (y := 4) (by decide) ?_
  refine xr_lconst (v := 0) dX10_mend_2 rfl ?_
  refine xr_ldc2 coX10_131 dX10_mend_3 ?_
  refine xb_cS (As := [.long (4), .long (0), .long (2)]) (rest := []) mlX10_101 (c_X10_within 4 0 2) dX10_mend_6 rfl rfl (Nat.le_of_ble_eq_true rfl) (by decide) (by decide) ?_
  refine xb_beq (tgt := 95) dX10_mend_9 rfl (fun _ => ?_) (fun c => absurd c (by decide))
  refine xr_iload_n dX10_mend_95 1 rfl ?_
  refine xr_if_ne (tgt := 113) dX10_mend_96 rfl (fun c => absurd (by decide) c) (fun _ => ?_)
  refine xr_iload_n dX10_mend_99 2 rfl ?_
  refine xr_i2l dX10_mend_100 ?_
  refine xb_topJ (y := 4) (by decide) ?_
  refine xr_ldc2 coX10_141 dX10_mend_101 ?_
  refine xr_ldc2 coX10_143 dX10_mend_104 ?_
  refine xb_cS (As := [.long (4), .long (3), .long (7)]) (rest := []) mlX10_101 (c_X10_within 4 3 7) dX10_mend_107 rfl rfl (Nat.le_of_ble_eq_true rfl) (by decide) (by decide) ?_
  refine xb_bne (tgt := 116) dX10_mend_110 rfl (fun _ => ?_) (fun c => absurd (by decide) c)
  refine xr_iload_n dX10_mend_116 2 rfl ?_
  refine xr_iconst (v := 4) dX10_mend_117 rfl ?_
  refine xr_icmp_ne (tgt := 125) dX10_mend_118 rfl (fun c => absurd (by decide) c) (fun _ => ?_)
  refine xr_iconst (v := 2) dX10_mend_121 rfl ?_
  refine xr_goto (tgt := 126) dX10_mend_122 rfl ?_
  refine xr_istore (ls2 := [(4, .int (2)), (0, .ref (62)), (1, .int (0)), (2, .int (4)), (3, .int (v))]) dX10_mend_126 (by decide) rfl ?_
  refine xr_iload_n dX10_mend_128 3 rfl ?_
  refine xr_iconst (v := 3) dX10_mend_129 rfl ?_
  refine xr_icmp_ne (tgt := 137) dX10_mend_130 rfl (fun _ => ?_) (fun c => absurd c (by decide))
  refine xr_iload_n dX10_mend_137 3 rfl ?_
  refine xr_iconst (v := 4) dX10_mend_138 rfl ?_
  refine xr_icmp_ne (tgt := 147) dX10_mend_139 rfl (fun c => absurd (by decide) c) (fun _ => ?_)
  refine xr_bipush (v := 24) dX10_mend_142 rfl ?_
  refine xr_goto (tgt := 176) dX10_mend_144 rfl ?_
  refine xr_istore (ls2 := [(5, .int (24)), (4, .int (2)), (0, .ref (62)), (1, .int (0)), (2, .int (4)), (3, .int (v))]) dX10_mend_176 (by decide) rfl ?_
  refine xr_iload_n dX10_mend_178 5 rfl ?_
  refine xr_i2l dX10_mend_179 ?_
  refine xr_iload dX10_mend_180 1 rfl ?_
  refine xr_i2l dX10_mend_182 ?_
  refine xb_topJ (y := 2) (by decide) ?_
  refine xr_iload dX10_mend_183 0 rfl ?_
  refine xr_i2l dX10_mend_185 ?_
  refine xb_topJ (y := 24) (by decide) ?_
  refine xb_cS (As := [.long ((v).toInt64), .long (2), .long (24)]) (rest := []) mlX10_101 (c_within32 (v) (2) (24) (by decide) (by decide)) dX10_mend_186 rfl rfl (Nat.le_of_ble_eq_true rfl) (by decide) (by decide) ?_
  refine xb_beq (tgt := 206) dX10_mend_189 rfl (fun c3 => ?_) (fun c3 => ?_)
  · refine xr_ldc coX10_140 dX10_mend_206 ?_
    exact xr_iret dX10_mend_208 rfl rfl (⟨_, rfl, rfl, rfl, Ke.rf, ⟨⟨⟨nh, by omega, e_hn, (fun kw hkw => by rw [show M 63 (5 + kw) = M 63 (5 + kw) from rfl]; exact hw kw hkw)⟩, (by rw [show M 63 16 = M 63 16 from rfl]; exact hbt), ⟨lu, lw, by omega, by omega, e_un, e_wn⟩, (fun kk hkk => by rw [show M 64 kk = M 64 kk from rfl, show M 65 kk = M 65 kk from rfl, show M 66 kk = M 66 kk from rfl]; exact hch kk hkk), ⟨n, by omega, e_n⟩, (by rw [show M 62 13 = M 62 13 from rfl]; exact htx), ⟨b, by omega, e_b⟩, (fun j hj => by obtain ⟨q, hq, eq⟩ := hkd j hj; exact ⟨q, hq, (show M 81 j = M 81 j from rfl).trans eq⟩), ⟨ra, by omega, e_ra⟩, (fun j hj => by rw [show M 83 j = M 83 j from rfl, show M 84 j = M 84 j from rfl]; exact hsl j hj), ⟨ic, by omega, e_ic⟩, (fun j hj => by obtain ⟨q, hq, eq⟩ := hS j hj; exact ⟨q, hq, (show M 75 j = M 75 j from rfl).trans eq⟩)⟩, (Or.inr (Or.inl ⟨4, by decide, by decide, rfl, rfl, Or.inl ⟨(show ¬ okW 4 0 (S 2) v from c3), rfl, hG0, hLg0⟩⟩))⟩⟩)
  · refine xr_aload_n dX10_mend_192 2 rfl ?_
    refine xr_bipush (v := 15) dX10_mend_193 rfl ?_
    refine xr_iload_n dX10_mend_195 4 rfl ?_
    refine xr_iadd dX10_mend_196 ?_
    refine xb_top (y := 19) (by decide) ?_
    refine xr_iconst (v := 3) dX10_mend_197 rfl ?_
    refine xr_isub dX10_mend_198 ?_
    refine xb_top (y := nI (12 + 4)) (by decide) ?_
    refine xr_iload_n dX10_mend_199 5 rfl ?_
    refine xr_callV (As := [.int (nI (12 + 4)), .int (v)]) (rest := []) mlX10_136 (gw_X10_becomes (q := (12 + 4)) (by omega) v (un := lu) (by omega) e_un) dX10_mend_200 s_62 rfl rfl (Nat.le_of_ble_eq_true rfl) (by decide) ⟨by decide, by decide⟩ (fun v s2 M5 J2 hq => ?_)
    obtain ⟨r7, rfl, rfl, rfl, k6, hx4⟩ := hq
    try dsimp only [Option.toList, List.cons_append, List.nil_append]
    rcases hx4 with ⟨hbe, hbr, rfl⟩ | ⟨hbe, hbr, hb5, hb4, hn4, hn5_, hn6, hb3, hbo⟩
    · skip
      refine xr_goto (tgt := 208) dX10_mend_203 rfl ?_
      exact xr_iret dX10_mend_208 rfl rfl (⟨_, rfl, rfl, rfl, (Ke.tr (fun pp kk => (fun hh => Or.elim hh (fun h => (Or.inl h)) (fun hh => Or.elim hh (fun h => (Or.inr (Or.inl h))) (fun h => (Or.inr (Or.inr h)))))) Ke.rf k6), ⟨⟨⟨nh, by omega, e_hn, (fun kw hkw => by rw [show M 63 (5 + kw) = M 63 (5 + kw) from rfl]; exact hw kw hkw)⟩, (by rw [show M 63 16 = M 63 16 from rfl]; exact hbt), ⟨lu, lw, by omega, by omega, e_un, e_wn⟩, (fun kk hkk => by rw [show M 64 kk = M 64 kk from rfl, show M 65 kk = M 65 kk from rfl, show M 66 kk = M 66 kk from rfl]; exact hch kk hkk), ⟨n, by omega, e_n⟩, (by rw [show M 62 13 = M 62 13 from rfl]; exact htx), ⟨b, by omega, e_b⟩, (fun j hj => by obtain ⟨q, hq, eq⟩ := hkd j hj; exact ⟨q, hq, (show M 81 j = M 81 j from rfl).trans eq⟩), ⟨ra, by omega, e_ra⟩, (fun j hj => by rw [show M 83 j = M 83 j from rfl, show M 84 j = M 84 j from rfl]; exact hsl j hj), ⟨ic, by omega, e_ic⟩, (fun j hj => by obtain ⟨q, hq, eq⟩ := hS j hj; exact ⟨q, hq, (show M 75 j = M 75 j from rfl).trans eq⟩)⟩, (Or.inr (Or.inl ⟨4, by decide, by decide, rfl, rfl, Or.inr ⟨(show okW 4 0 (S 2) v from c3), (hbr.trans (e_bt.trans (gK_s (D := D) (S := S) (a := 4) (by decide)).symm)), Or.inl ⟨hbr.trans hbe, hG0, hLg0⟩⟩⟩))⟩⟩)
    · have hnt := ntU_b (u := lu) (by omega)
      refine xr_goto (tgt := 208) dX10_mend_203 rfl ?_
      have hRGn := (⟨(k6 62 6 (by decide)).trans e_hn, (AbS_k hA (fun kl hkl => hbo kl (by omega)) (fun kl => k6 67 kl (by unfold WBC; omega)) (fun kl => k6 68 kl (by unfold WBC; omega)) hn5), (LRt_k (k6 62 13 (by decide)) (funext fun kk => k6 70 kk (by unfold WBC; omega)) hL), (k6 62 9 (by decide)).trans e_nw, ((hbo 15 (by decide)).trans e_rub), hb3, ((hbo 17 (by decide)).trans e_ph), ((hbo 18 (by decide)).trans e_st), ((hbo 19 (by decide)).trans e_kn), (k6 62 24 (by decide)).trans e_pu, (k6 62 25 (by decide)).trans e_lf⟩ : RG M5 nh (dK D (12 + 4) v) t (sK S (12 + 4) v))
      have hok9 : okW 4 0 (S 2) v := c3
      have hWGn := WG_md (q := (12 + 4)) hWG0 (Or.inr ⟨4, by decide, by decide, rfl, hok9⟩) 
      exact xr_iret dX10_mend_208 rfl rfl (⟨_, rfl, rfl, rfl, (Ke.tr (fun pp kk => (fun hh => Or.elim hh (fun h => (Or.inl h)) (fun hh => Or.elim hh (fun h => (Or.inr (Or.inl h))) (fun h => (Or.inr (Or.inr h)))))) Ke.rf k6), ⟨⟨⟨nh, hn5, hRGn.1, hw_S hRGn.2.1 hWGn.2.1⟩, (by rw [hRGn.2.2.2.2.2.1]; exact ne2_0 hWGn.2.2.2.1), ⟨ntU lu, ntU lu, Nat.le_refl _, hnt, hb5, hb4⟩, (CH_nt (by omega) (CH_e (by omega) (bd_was hWG0 (Or.inr ⟨4, by decide, by decide, rfl⟩) ((e_bt).trans (gK_s (D := D) (S := S) (a := 4) (by decide)).symm)) (bd_ok (n := nh) (D := D) (S := S) (Or.inr ⟨4, by decide, by decide, rfl, hok9⟩))) hch hn4 hn5_ hn6), ⟨n, by omega, (Eq.trans (k6 62 11 (by decide)) e_n)⟩, (by rw [show M5 62 13 = M 62 13 from (Eq.trans (k6 62 13 (by unfold WBC; omega)) rfl)]; exact htx), ⟨b, by omega, (Eq.trans (k6 62 36 (by decide)) e_b)⟩, (fun j hj => by obtain ⟨q, hq, eq⟩ := hkd j hj; exact ⟨q, hq, (show M5 81 j = M 81 j from (Eq.trans (k6 81 j (by unfold WBC; omega)) rfl)).trans eq⟩), ⟨ra, by omega, (Eq.trans (k6 62 39 (by decide)) e_ra)⟩, (fun j hj => by rw [show M5 83 j = M 83 j from (Eq.trans (k6 83 j (by unfold WBC; omega)) rfl), show M5 84 j = M 84 j from (Eq.trans (k6 84 j (by unfold WBC; omega)) rfl)]; exact hsl j hj), ⟨ic, by omega, (Eq.trans (k6 62 34 (by decide)) e_ic)⟩, (fun j hj => by obtain ⟨q, hq, eq⟩ := hS j hj; exact ⟨q, hq, (show M5 75 j = M 75 j from (Eq.trans (k6 75 j (by unfold WBC; omega)) rfl)).trans eq⟩)⟩, (Or.inr (Or.inl ⟨4, by decide, by decide, rfl, rfl, Or.inr ⟨(show okW 4 0 (S 2) v from c3), (hbr.trans (e_bt.trans (gK_s (D := D) (S := S) (a := 4) (by decide)).symm)), Or.inr ⟨fun z => hbe (hbr.symm.trans z), hRGn, (by rw [hbr]; exact RLg_nt hLg0 huw (by omega) hn4 hn5_ hn6 hb5 hb4)⟩⟩⟩))⟩⟩)
set_option maxRecDepth 100000 in
set_option maxHeartbeats 4000000 in
theorem gxm5_X10_mend {nh : Nat} {D : xM} {t : Option zL} {S : Nat → Int32} {lg : xL} {lu lw : Nat} (v : Int32) {l : Launch} {G : xG} {M : xM} {J : xJ} (hI : InvR M) (hWG : WG nh D S) (hG : RG M nh D t S) (hWL : WLg nh lg lu lw) (hLg : RLg M lg lu lw) : x_M l G fX10_mend 2 0 0 [.ref (62), .int (0), .int (5), .int (v)] x_SH M J (qKI WMR M J (fun r M2 => InvR M2 ∧ (EMn RG RLg nh D t S lg lu lw M2 (0) (5) v r))) := by
  refine xb_of pX10 (Nat.le_of_ble_eq_true rfl) rfl ?_
  obtain ⟨⟨hn, h_hn, e_hn, hw⟩, hbt, ⟨un, wn, h_uw, h_wn, e_un, e_wn⟩, hch, ⟨n, h_n, e_n⟩, htx, ⟨b, h_b, e_b⟩, hkd, ⟨ra, h_ra, e_ra⟩, hsl, ⟨ic, h_ic, e_ic⟩, hS⟩ := hI
  have hWG0 := hWG
  obtain ⟨huw, hw40, hWk⟩ := hWL
  have hG0 := hG
  have hLg0 := hLg
  obtain ⟨hn5, hW, hrub, hbeat⟩ := hWG
  obtain ⟨hGn, hA, hL, e_nw, e_rub, e_bt, e_ph, e_st, e_kn, e_pu, e_lf⟩ := hG
  obtain rfl : nh = hn := (nI_eq (by omega) (by omega)).mp (hGn.symm.trans e_hn)
  have hbt2 : ¬ S 2 = 0 := ne2_0 hbeat.1
  obtain ⟨hl4, hl5, hLk⟩ := hLg
  obtain rfl : lu = un := (nI_eq (by omega) (by omega)).mp (hl4.symm.trans e_un)
  obtain rfl : lw = wn := (nI_eq (by omega) (by omega)).mp (hl5.symm.trans e_wn)
  refine xr_iload_n dX10_mend_0 2 rfl ?_
  refine xr_i2l dX10_mend_1 ?_
  refine xb_topJ (y := 5) (by decide) ?_
  refine xr_lconst (v := 0) dX10_mend_2 rfl ?_
  refine xr_ldc2 coX10_131 dX10_mend_3 ?_
  refine xb_cS (As := [.long (5), .long (0), .long (2)]) (rest := []) mlX10_101 (c_X10_within 5 0 2) dX10_mend_6 rfl rfl (Nat.le_of_ble_eq_true rfl) (by decide) (by decide) ?_
  refine xb_beq (tgt := 95) dX10_mend_9 rfl (fun _ => ?_) (fun c => absurd c (by decide))
  refine xr_iload_n dX10_mend_95 1 rfl ?_
  refine xr_if_ne (tgt := 113) dX10_mend_96 rfl (fun c => absurd (by decide) c) (fun _ => ?_)
  refine xr_iload_n dX10_mend_99 2 rfl ?_
  refine xr_i2l dX10_mend_100 ?_
  refine xb_topJ (y := 5) (by decide) ?_
  refine xr_ldc2 coX10_141 dX10_mend_101 ?_
  refine xr_ldc2 coX10_143 dX10_mend_104 ?_
  refine xb_cS (As := [.long (5), .long (3), .long (7)]) (rest := []) mlX10_101 (c_X10_within 5 3 7) dX10_mend_107 rfl rfl (Nat.le_of_ble_eq_true rfl) (by decide) (by decide) ?_
  refine xb_bne (tgt := 116) dX10_mend_110 rfl (fun _ => ?_) (fun c => absurd (by decide) c)
  refine xr_iload_n dX10_mend_116 2 rfl ?_
  refine xr_iconst (v := 4) dX10_mend_117 rfl ?_
  refine xr_icmp_ne (tgt := 125) dX10_mend_118 rfl (fun _ => ?_) (fun c => absurd c (by decide))
  refine xr_iconst (v := 0) dX10_mend_125 rfl ?_
  refine xr_istore (ls2 := [(4, .int (0)), (0, .ref (62)), (1, .int (0)), (2, .int (5)), (3, .int (v))]) dX10_mend_126 (by decide) rfl ?_
  refine xr_iload_n dX10_mend_128 3 rfl ?_
  refine xr_iconst (v := 3) dX10_mend_129 rfl ?_
  refine xr_icmp_ne (tgt := 137) dX10_mend_130 rfl (fun _ => ?_) (fun c => absurd c (by decide))
  refine xr_iload_n dX10_mend_137 3 rfl ?_
  refine xr_iconst (v := 4) dX10_mend_138 rfl ?_
  refine xr_icmp_ne (tgt := 147) dX10_mend_139 rfl (fun _ => ?_) (fun c => absurd c (by decide))
  refine xr_iload_n dX10_mend_147 3 rfl ?_
  refine xr_iconst (v := 5) dX10_mend_148 rfl ?_
  refine xr_icmp_ne (tgt := 164) dX10_mend_149 rfl (fun c => absurd (by decide) c) (fun _ => ?_)
  refine xr_aload_n dX10_mend_152 1 rfl ?_
  refine xr_getR flX10_9 dX10_mend_153 s_62 rfl ?_
  refine xr_bipush (v := 16) dX10_mend_156 rfl ?_
  refine xb_iald (j := 16) (v := (S 2)) dX10_mend_158 s_63 (by decide) (by decide) e_bt ?_
  refine xr_iconst (v := 1) dX10_mend_159 rfl ?_
  refine xr_isub dX10_mend_160 ?_
  refine xr_goto (tgt := 176) dX10_mend_161 rfl ?_
  refine xr_istore (ls2 := [(5, .int (((S 2) - 1))), (4, .int (0)), (0, .ref (62)), (1, .int (0)), (2, .int (5)), (3, .int (v))]) dX10_mend_176 (by decide) rfl ?_
  refine xr_iload_n dX10_mend_178 5 rfl ?_
  refine xr_i2l dX10_mend_179 ?_
  refine xr_iload dX10_mend_180 1 rfl ?_
  refine xr_i2l dX10_mend_182 ?_
  refine xb_topJ (y := 0) (by decide) ?_
  refine xr_iload dX10_mend_183 0 rfl ?_
  refine xr_i2l dX10_mend_185 ?_
  refine xb_cS (As := [.long ((v).toInt64), .long (0), .long ((((S 2) - 1)).toInt64)]) (rest := []) mlX10_101 (c_within32 (v) (0) (((S 2) - 1)) (by decide) rfl) dX10_mend_186 rfl rfl (Nat.le_of_ble_eq_true rfl) (by decide) (by decide) ?_
  refine xb_beq (tgt := 206) dX10_mend_189 rfl (fun c3 => ?_) (fun c3 => ?_)
  · refine xr_ldc coX10_140 dX10_mend_206 ?_
    exact xr_iret dX10_mend_208 rfl rfl (⟨_, rfl, rfl, rfl, Ke.rf, ⟨⟨⟨nh, by omega, e_hn, (fun kw hkw => by rw [show M 63 (5 + kw) = M 63 (5 + kw) from rfl]; exact hw kw hkw)⟩, (by rw [show M 63 16 = M 63 16 from rfl]; exact hbt), ⟨lu, lw, by omega, by omega, e_un, e_wn⟩, (fun kk hkk => by rw [show M 64 kk = M 64 kk from rfl, show M 65 kk = M 65 kk from rfl, show M 66 kk = M 66 kk from rfl]; exact hch kk hkk), ⟨n, by omega, e_n⟩, (by rw [show M 62 13 = M 62 13 from rfl]; exact htx), ⟨b, by omega, e_b⟩, (fun j hj => by obtain ⟨q, hq, eq⟩ := hkd j hj; exact ⟨q, hq, (show M 81 j = M 81 j from rfl).trans eq⟩), ⟨ra, by omega, e_ra⟩, (fun j hj => by rw [show M 83 j = M 83 j from rfl, show M 84 j = M 84 j from rfl]; exact hsl j hj), ⟨ic, by omega, e_ic⟩, (fun j hj => by obtain ⟨q, hq, eq⟩ := hS j hj; exact ⟨q, hq, (show M 75 j = M 75 j from rfl).trans eq⟩)⟩, (Or.inr (Or.inl ⟨5, by decide, by decide, rfl, rfl, Or.inl ⟨(show ¬ okW 5 0 (S 2) v from fun z => c3 (lt_sub1r hbeat z)), rfl, hG0, hLg0⟩⟩))⟩⟩)
  · refine xr_aload_n dX10_mend_192 2 rfl ?_
    refine xr_bipush (v := 15) dX10_mend_193 rfl ?_
    refine xr_iload_n dX10_mend_195 4 rfl ?_
    refine xr_iadd dX10_mend_196 ?_
    refine xb_top (y := 20) (by decide) ?_
    refine xr_iconst (v := 3) dX10_mend_197 rfl ?_
    refine xr_isub dX10_mend_198 ?_
    refine xb_top (y := nI (12 + 5)) (by decide) ?_
    refine xr_iload_n dX10_mend_199 5 rfl ?_
    refine xr_callV (As := [.int (nI (12 + 5)), .int (v)]) (rest := []) mlX10_136 (gw_X10_becomes (q := (12 + 5)) (by omega) v (un := lu) (by omega) e_un) dX10_mend_200 s_62 rfl rfl (Nat.le_of_ble_eq_true rfl) (by decide) ⟨by decide, by decide⟩ (fun v s2 M5 J2 hq => ?_)
    obtain ⟨r7, rfl, rfl, rfl, k6, hx4⟩ := hq
    try dsimp only [Option.toList, List.cons_append, List.nil_append]
    rcases hx4 with ⟨hbe, hbr, rfl⟩ | ⟨hbe, hbr, hb5, hb4, hn4, hn5_, hn6, hb3, hbo⟩
    · skip
      refine xr_goto (tgt := 208) dX10_mend_203 rfl ?_
      exact xr_iret dX10_mend_208 rfl rfl (⟨_, rfl, rfl, rfl, (Ke.tr (fun pp kk => (fun hh => Or.elim hh (fun h => (Or.inl h)) (fun hh => Or.elim hh (fun h => (Or.inr (Or.inl h))) (fun h => (Or.inr (Or.inr h)))))) Ke.rf k6), ⟨⟨⟨nh, by omega, e_hn, (fun kw hkw => by rw [show M 63 (5 + kw) = M 63 (5 + kw) from rfl]; exact hw kw hkw)⟩, (by rw [show M 63 16 = M 63 16 from rfl]; exact hbt), ⟨lu, lw, by omega, by omega, e_un, e_wn⟩, (fun kk hkk => by rw [show M 64 kk = M 64 kk from rfl, show M 65 kk = M 65 kk from rfl, show M 66 kk = M 66 kk from rfl]; exact hch kk hkk), ⟨n, by omega, e_n⟩, (by rw [show M 62 13 = M 62 13 from rfl]; exact htx), ⟨b, by omega, e_b⟩, (fun j hj => by obtain ⟨q, hq, eq⟩ := hkd j hj; exact ⟨q, hq, (show M 81 j = M 81 j from rfl).trans eq⟩), ⟨ra, by omega, e_ra⟩, (fun j hj => by rw [show M 83 j = M 83 j from rfl, show M 84 j = M 84 j from rfl]; exact hsl j hj), ⟨ic, by omega, e_ic⟩, (fun j hj => by obtain ⟨q, hq, eq⟩ := hS j hj; exact ⟨q, hq, (show M 75 j = M 75 j from rfl).trans eq⟩)⟩, (Or.inr (Or.inl ⟨5, by decide, by decide, rfl, rfl, Or.inr ⟨(show okW 5 0 (S 2) v from (lt_sub1 hbeat c3)), (hbr.trans (e_ph.trans (gK_s (D := D) (S := S) (a := 5) (by decide)).symm)), Or.inl ⟨hbr.trans hbe, hG0, hLg0⟩⟩⟩))⟩⟩)
    · have hnt := ntU_b (u := lu) (by omega)
      refine xr_goto (tgt := 208) dX10_mend_203 rfl ?_
      have hRGn := (⟨(k6 62 6 (by decide)).trans e_hn, (AbS_k hA (fun kl hkl => hbo kl (by omega)) (fun kl => k6 67 kl (by unfold WBC; omega)) (fun kl => k6 68 kl (by unfold WBC; omega)) hn5), (LRt_k (k6 62 13 (by decide)) (funext fun kk => k6 70 kk (by unfold WBC; omega)) hL), (k6 62 9 (by decide)).trans e_nw, ((hbo 15 (by decide)).trans e_rub), ((hbo 16 (by decide)).trans e_bt), hb3, ((hbo 18 (by decide)).trans e_st), ((hbo 19 (by decide)).trans e_kn), (k6 62 24 (by decide)).trans e_pu, (k6 62 25 (by decide)).trans e_lf⟩ : RG M5 nh (dK D (12 + 5) v) t (sK S (12 + 5) v))
      have hok9 : okW 5 0 (S 2) v := (lt_sub1 hbeat c3)
      have hWGn := WG_md (q := (12 + 5)) hWG0 (Or.inr ⟨5, by decide, by decide, rfl, hok9⟩) 
      exact xr_iret dX10_mend_208 rfl rfl (⟨_, rfl, rfl, rfl, (Ke.tr (fun pp kk => (fun hh => Or.elim hh (fun h => (Or.inl h)) (fun hh => Or.elim hh (fun h => (Or.inr (Or.inl h))) (fun h => (Or.inr (Or.inr h)))))) Ke.rf k6), ⟨⟨⟨nh, hn5, hRGn.1, hw_S hRGn.2.1 hWGn.2.1⟩, (by rw [hRGn.2.2.2.2.2.1]; exact ne2_0 hWGn.2.2.2.1), ⟨ntU lu, ntU lu, Nat.le_refl _, hnt, hb5, hb4⟩, (CH_nt (by omega) (CH_e (by omega) (bd_was hWG0 (Or.inr ⟨5, by decide, by decide, rfl⟩) ((e_ph).trans (gK_s (D := D) (S := S) (a := 5) (by decide)).symm)) (bd_ok (n := nh) (D := D) (S := S) (Or.inr ⟨5, by decide, by decide, rfl, hok9⟩))) hch hn4 hn5_ hn6), ⟨n, by omega, (Eq.trans (k6 62 11 (by decide)) e_n)⟩, (by rw [show M5 62 13 = M 62 13 from (Eq.trans (k6 62 13 (by unfold WBC; omega)) rfl)]; exact htx), ⟨b, by omega, (Eq.trans (k6 62 36 (by decide)) e_b)⟩, (fun j hj => by obtain ⟨q, hq, eq⟩ := hkd j hj; exact ⟨q, hq, (show M5 81 j = M 81 j from (Eq.trans (k6 81 j (by unfold WBC; omega)) rfl)).trans eq⟩), ⟨ra, by omega, (Eq.trans (k6 62 39 (by decide)) e_ra)⟩, (fun j hj => by rw [show M5 83 j = M 83 j from (Eq.trans (k6 83 j (by unfold WBC; omega)) rfl), show M5 84 j = M 84 j from (Eq.trans (k6 84 j (by unfold WBC; omega)) rfl)]; exact hsl j hj), ⟨ic, by omega, (Eq.trans (k6 62 34 (by decide)) e_ic)⟩, (fun j hj => by obtain ⟨q, hq, eq⟩ := hS j hj; exact ⟨q, hq, (show M5 75 j = M 75 j from (Eq.trans (k6 75 j (by unfold WBC; omega)) rfl)).trans eq⟩)⟩, (Or.inr (Or.inl ⟨5, by decide, by decide, rfl, rfl, Or.inr ⟨(show okW 5 0 (S 2) v from (lt_sub1 hbeat c3)), (hbr.trans (e_ph.trans (gK_s (D := D) (S := S) (a := 5) (by decide)).symm)), Or.inr ⟨fun z => hbe (hbr.symm.trans z), hRGn, (by rw [hbr]; exact RLg_nt hLg0 huw (by omega) hn4 hn5_ hn6 hb5 hb4)⟩⟩⟩))⟩⟩)
set_option maxRecDepth 100000 in
set_option maxHeartbeats 4000000 in
theorem gxm6_X10_mend {nh : Nat} {D : xM} {t : Option zL} {S : Nat → Int32} {lg : xL} {lu lw : Nat} (v : Int32) {l : Launch} {G : xG} {M : xM} {J : xJ} (hI : InvR M) (hWG : WG nh D S) (hG : RG M nh D t S) (hWL : WLg nh lg lu lw) (hLg : RLg M lg lu lw) : x_M l G fX10_mend 2 0 0 [.ref (62), .int (0), .int (6), .int (v)] x_SH M J (qKI WMR M J (fun r M2 => InvR M2 ∧ (EMn RG RLg nh D t S lg lu lw M2 (0) (6) v r))) := by
  refine xb_of pX10 (Nat.le_of_ble_eq_true rfl) rfl ?_
  obtain ⟨⟨hn, h_hn, e_hn, hw⟩, hbt, ⟨un, wn, h_uw, h_wn, e_un, e_wn⟩, hch, ⟨n, h_n, e_n⟩, htx, ⟨b, h_b, e_b⟩, hkd, ⟨ra, h_ra, e_ra⟩, hsl, ⟨ic, h_ic, e_ic⟩, hS⟩ := hI
  have hWG0 := hWG
  obtain ⟨huw, hw40, hWk⟩ := hWL
  have hG0 := hG
  have hLg0 := hLg
  obtain ⟨hn5, hW, hrub, hbeat⟩ := hWG
  obtain ⟨hGn, hA, hL, e_nw, e_rub, e_bt, e_ph, e_st, e_kn, e_pu, e_lf⟩ := hG
  obtain rfl : nh = hn := (nI_eq (by omega) (by omega)).mp (hGn.symm.trans e_hn)
  have hbt2 : ¬ S 2 = 0 := ne2_0 hbeat.1
  obtain ⟨hl4, hl5, hLk⟩ := hLg
  obtain rfl : lu = un := (nI_eq (by omega) (by omega)).mp (hl4.symm.trans e_un)
  obtain rfl : lw = wn := (nI_eq (by omega) (by omega)).mp (hl5.symm.trans e_wn)
  refine xr_iload_n dX10_mend_0 2 rfl ?_
  refine xr_i2l dX10_mend_1 ?_
  refine xb_topJ (y := 6) (by decide) ?_
  refine xr_lconst (v := 0) dX10_mend_2 rfl ?_
  refine xr_ldc2 coX10_131 dX10_mend_3 ?_
  refine xb_cS (As := [.long (6), .long (0), .long (2)]) (rest := []) mlX10_101 (c_X10_within 6 0 2) dX10_mend_6 rfl rfl (Nat.le_of_ble_eq_true rfl) (by decide) (by decide) ?_
  refine xb_beq (tgt := 95) dX10_mend_9 rfl (fun _ => ?_) (fun c => absurd c (by decide))
  refine xr_iload_n dX10_mend_95 1 rfl ?_
  refine xr_if_ne (tgt := 113) dX10_mend_96 rfl (fun c => absurd (by decide) c) (fun _ => ?_)
  refine xr_iload_n dX10_mend_99 2 rfl ?_
  refine xr_i2l dX10_mend_100 ?_
  refine xb_topJ (y := 6) (by decide) ?_
  refine xr_ldc2 coX10_141 dX10_mend_101 ?_
  refine xr_ldc2 coX10_143 dX10_mend_104 ?_
  refine xb_cS (As := [.long (6), .long (3), .long (7)]) (rest := []) mlX10_101 (c_X10_within 6 3 7) dX10_mend_107 rfl rfl (Nat.le_of_ble_eq_true rfl) (by decide) (by decide) ?_
  refine xb_bne (tgt := 116) dX10_mend_110 rfl (fun _ => ?_) (fun c => absurd (by decide) c)
  refine xr_iload_n dX10_mend_116 2 rfl ?_
  refine xr_iconst (v := 4) dX10_mend_117 rfl ?_
  refine xr_icmp_ne (tgt := 125) dX10_mend_118 rfl (fun _ => ?_) (fun c => absurd c (by decide))
  refine xr_iconst (v := 0) dX10_mend_125 rfl ?_
  refine xr_istore (ls2 := [(4, .int (0)), (0, .ref (62)), (1, .int (0)), (2, .int (6)), (3, .int (v))]) dX10_mend_126 (by decide) rfl ?_
  refine xr_iload_n dX10_mend_128 3 rfl ?_
  refine xr_iconst (v := 3) dX10_mend_129 rfl ?_
  refine xr_icmp_ne (tgt := 137) dX10_mend_130 rfl (fun _ => ?_) (fun c => absurd c (by decide))
  refine xr_iload_n dX10_mend_137 3 rfl ?_
  refine xr_iconst (v := 4) dX10_mend_138 rfl ?_
  refine xr_icmp_ne (tgt := 147) dX10_mend_139 rfl (fun _ => ?_) (fun c => absurd c (by decide))
  refine xr_iload_n dX10_mend_147 3 rfl ?_
  refine xr_iconst (v := 5) dX10_mend_148 rfl ?_
  refine xr_icmp_ne (tgt := 164) dX10_mend_149 rfl (fun _ => ?_) (fun c => absurd c (by decide))
  refine xr_iload_n dX10_mend_164 3 rfl ?_
  refine xr_bipush (v := 6) dX10_mend_165 rfl ?_
  refine xr_icmp_ne (tgt := 174) dX10_mend_167 rfl (fun c => absurd (by decide) c) (fun _ => ?_)
  refine xr_iconst (v := 5) dX10_mend_170 rfl ?_
  refine xr_goto (tgt := 176) dX10_mend_171 rfl ?_
  refine xr_istore (ls2 := [(5, .int (5)), (4, .int (0)), (0, .ref (62)), (1, .int (0)), (2, .int (6)), (3, .int (v))]) dX10_mend_176 (by decide) rfl ?_
  refine xr_iload_n dX10_mend_178 5 rfl ?_
  refine xr_i2l dX10_mend_179 ?_
  refine xr_iload dX10_mend_180 1 rfl ?_
  refine xr_i2l dX10_mend_182 ?_
  refine xb_topJ (y := 0) (by decide) ?_
  refine xr_iload dX10_mend_183 0 rfl ?_
  refine xr_i2l dX10_mend_185 ?_
  refine xb_topJ (y := 5) (by decide) ?_
  refine xb_cS (As := [.long ((v).toInt64), .long (0), .long (5)]) (rest := []) mlX10_101 (c_within32 (v) (0) (5) (by decide) (by decide)) dX10_mend_186 rfl rfl (Nat.le_of_ble_eq_true rfl) (by decide) (by decide) ?_
  refine xb_beq (tgt := 206) dX10_mend_189 rfl (fun c3 => ?_) (fun c3 => ?_)
  · refine xr_ldc coX10_140 dX10_mend_206 ?_
    exact xr_iret dX10_mend_208 rfl rfl (⟨_, rfl, rfl, rfl, Ke.rf, ⟨⟨⟨nh, by omega, e_hn, (fun kw hkw => by rw [show M 63 (5 + kw) = M 63 (5 + kw) from rfl]; exact hw kw hkw)⟩, (by rw [show M 63 16 = M 63 16 from rfl]; exact hbt), ⟨lu, lw, by omega, by omega, e_un, e_wn⟩, (fun kk hkk => by rw [show M 64 kk = M 64 kk from rfl, show M 65 kk = M 65 kk from rfl, show M 66 kk = M 66 kk from rfl]; exact hch kk hkk), ⟨n, by omega, e_n⟩, (by rw [show M 62 13 = M 62 13 from rfl]; exact htx), ⟨b, by omega, e_b⟩, (fun j hj => by obtain ⟨q, hq, eq⟩ := hkd j hj; exact ⟨q, hq, (show M 81 j = M 81 j from rfl).trans eq⟩), ⟨ra, by omega, e_ra⟩, (fun j hj => by rw [show M 83 j = M 83 j from rfl, show M 84 j = M 84 j from rfl]; exact hsl j hj), ⟨ic, by omega, e_ic⟩, (fun j hj => by obtain ⟨q, hq, eq⟩ := hS j hj; exact ⟨q, hq, (show M 75 j = M 75 j from rfl).trans eq⟩)⟩, (Or.inr (Or.inl ⟨6, by decide, by decide, rfl, rfl, Or.inl ⟨(show ¬ okW 6 0 (S 2) v from c3), rfl, hG0, hLg0⟩⟩))⟩⟩)
  · refine xr_aload_n dX10_mend_192 2 rfl ?_
    refine xr_bipush (v := 15) dX10_mend_193 rfl ?_
    refine xr_iload_n dX10_mend_195 4 rfl ?_
    refine xr_iadd dX10_mend_196 ?_
    refine xb_top (y := 21) (by decide) ?_
    refine xr_iconst (v := 3) dX10_mend_197 rfl ?_
    refine xr_isub dX10_mend_198 ?_
    refine xb_top (y := nI (12 + 6)) (by decide) ?_
    refine xr_iload_n dX10_mend_199 5 rfl ?_
    refine xr_callV (As := [.int (nI (12 + 6)), .int (v)]) (rest := []) mlX10_136 (gw_X10_becomes (q := (12 + 6)) (by omega) v (un := lu) (by omega) e_un) dX10_mend_200 s_62 rfl rfl (Nat.le_of_ble_eq_true rfl) (by decide) ⟨by decide, by decide⟩ (fun v s2 M5 J2 hq => ?_)
    obtain ⟨r7, rfl, rfl, rfl, k6, hx4⟩ := hq
    try dsimp only [Option.toList, List.cons_append, List.nil_append]
    rcases hx4 with ⟨hbe, hbr, rfl⟩ | ⟨hbe, hbr, hb5, hb4, hn4, hn5_, hn6, hb3, hbo⟩
    · skip
      refine xr_goto (tgt := 208) dX10_mend_203 rfl ?_
      exact xr_iret dX10_mend_208 rfl rfl (⟨_, rfl, rfl, rfl, (Ke.tr (fun pp kk => (fun hh => Or.elim hh (fun h => (Or.inl h)) (fun hh => Or.elim hh (fun h => (Or.inr (Or.inl h))) (fun h => (Or.inr (Or.inr h)))))) Ke.rf k6), ⟨⟨⟨nh, by omega, e_hn, (fun kw hkw => by rw [show M 63 (5 + kw) = M 63 (5 + kw) from rfl]; exact hw kw hkw)⟩, (by rw [show M 63 16 = M 63 16 from rfl]; exact hbt), ⟨lu, lw, by omega, by omega, e_un, e_wn⟩, (fun kk hkk => by rw [show M 64 kk = M 64 kk from rfl, show M 65 kk = M 65 kk from rfl, show M 66 kk = M 66 kk from rfl]; exact hch kk hkk), ⟨n, by omega, e_n⟩, (by rw [show M 62 13 = M 62 13 from rfl]; exact htx), ⟨b, by omega, e_b⟩, (fun j hj => by obtain ⟨q, hq, eq⟩ := hkd j hj; exact ⟨q, hq, (show M 81 j = M 81 j from rfl).trans eq⟩), ⟨ra, by omega, e_ra⟩, (fun j hj => by rw [show M 83 j = M 83 j from rfl, show M 84 j = M 84 j from rfl]; exact hsl j hj), ⟨ic, by omega, e_ic⟩, (fun j hj => by obtain ⟨q, hq, eq⟩ := hS j hj; exact ⟨q, hq, (show M 75 j = M 75 j from rfl).trans eq⟩)⟩, (Or.inr (Or.inl ⟨6, by decide, by decide, rfl, rfl, Or.inr ⟨(show okW 6 0 (S 2) v from c3), (hbr.trans (e_st.trans (gK_s (D := D) (S := S) (a := 6) (by decide)).symm)), Or.inl ⟨hbr.trans hbe, hG0, hLg0⟩⟩⟩))⟩⟩)
    · have hnt := ntU_b (u := lu) (by omega)
      refine xr_goto (tgt := 208) dX10_mend_203 rfl ?_
      have hRGn := (⟨(k6 62 6 (by decide)).trans e_hn, (AbS_k hA (fun kl hkl => hbo kl (by omega)) (fun kl => k6 67 kl (by unfold WBC; omega)) (fun kl => k6 68 kl (by unfold WBC; omega)) hn5), (LRt_k (k6 62 13 (by decide)) (funext fun kk => k6 70 kk (by unfold WBC; omega)) hL), (k6 62 9 (by decide)).trans e_nw, ((hbo 15 (by decide)).trans e_rub), ((hbo 16 (by decide)).trans e_bt), ((hbo 17 (by decide)).trans e_ph), hb3, ((hbo 19 (by decide)).trans e_kn), (k6 62 24 (by decide)).trans e_pu, (k6 62 25 (by decide)).trans e_lf⟩ : RG M5 nh (dK D (12 + 6) v) t (sK S (12 + 6) v))
      have hok9 : okW 6 0 (S 2) v := c3
      have hWGn := WG_md (q := (12 + 6)) hWG0 (Or.inr ⟨6, by decide, by decide, rfl, hok9⟩) 
      exact xr_iret dX10_mend_208 rfl rfl (⟨_, rfl, rfl, rfl, (Ke.tr (fun pp kk => (fun hh => Or.elim hh (fun h => (Or.inl h)) (fun hh => Or.elim hh (fun h => (Or.inr (Or.inl h))) (fun h => (Or.inr (Or.inr h)))))) Ke.rf k6), ⟨⟨⟨nh, hn5, hRGn.1, hw_S hRGn.2.1 hWGn.2.1⟩, (by rw [hRGn.2.2.2.2.2.1]; exact ne2_0 hWGn.2.2.2.1), ⟨ntU lu, ntU lu, Nat.le_refl _, hnt, hb5, hb4⟩, (CH_nt (by omega) (CH_e (by omega) (bd_was hWG0 (Or.inr ⟨6, by decide, by decide, rfl⟩) ((e_st).trans (gK_s (D := D) (S := S) (a := 6) (by decide)).symm)) (bd_ok (n := nh) (D := D) (S := S) (Or.inr ⟨6, by decide, by decide, rfl, hok9⟩))) hch hn4 hn5_ hn6), ⟨n, by omega, (Eq.trans (k6 62 11 (by decide)) e_n)⟩, (by rw [show M5 62 13 = M 62 13 from (Eq.trans (k6 62 13 (by unfold WBC; omega)) rfl)]; exact htx), ⟨b, by omega, (Eq.trans (k6 62 36 (by decide)) e_b)⟩, (fun j hj => by obtain ⟨q, hq, eq⟩ := hkd j hj; exact ⟨q, hq, (show M5 81 j = M 81 j from (Eq.trans (k6 81 j (by unfold WBC; omega)) rfl)).trans eq⟩), ⟨ra, by omega, (Eq.trans (k6 62 39 (by decide)) e_ra)⟩, (fun j hj => by rw [show M5 83 j = M 83 j from (Eq.trans (k6 83 j (by unfold WBC; omega)) rfl), show M5 84 j = M 84 j from (Eq.trans (k6 84 j (by unfold WBC; omega)) rfl)]; exact hsl j hj), ⟨ic, by omega, (Eq.trans (k6 62 34 (by decide)) e_ic)⟩, (fun j hj => by obtain ⟨q, hq, eq⟩ := hS j hj; exact ⟨q, hq, (show M5 75 j = M 75 j from (Eq.trans (k6 75 j (by unfold WBC; omega)) rfl)).trans eq⟩)⟩, (Or.inr (Or.inl ⟨6, by decide, by decide, rfl, rfl, Or.inr ⟨(show okW 6 0 (S 2) v from c3), (hbr.trans (e_st.trans (gK_s (D := D) (S := S) (a := 6) (by decide)).symm)), Or.inr ⟨fun z => hbe (hbr.symm.trans z), hRGn, (by rw [hbr]; exact RLg_nt hLg0 huw (by omega) hn4 hn5_ hn6 hb5 hb4)⟩⟩⟩))⟩⟩)
set_option maxRecDepth 100000 in
set_option maxHeartbeats 4000000 in
theorem gxm7_X10_mend {nh : Nat} {D : xM} {t : Option zL} {S : Nat → Int32} {lg : xL} {lu lw : Nat} (v : Int32) {l : Launch} {G : xG} {M : xM} {J : xJ} (hI : InvR M) (hWG : WG nh D S) (hG : RG M nh D t S) (hWL : WLg nh lg lu lw) (hLg : RLg M lg lu lw) : x_M l G fX10_mend 2 0 0 [.ref (62), .int (0), .int (7), .int (v)] x_SH M J (qKI WMR M J (fun r M2 => InvR M2 ∧ (EMn RG RLg nh D t S lg lu lw M2 (0) (7) v r))) := by
  refine xb_of pX10 (Nat.le_of_ble_eq_true rfl) rfl ?_
  obtain ⟨⟨hn, h_hn, e_hn, hw⟩, hbt, ⟨un, wn, h_uw, h_wn, e_un, e_wn⟩, hch, ⟨n, h_n, e_n⟩, htx, ⟨b, h_b, e_b⟩, hkd, ⟨ra, h_ra, e_ra⟩, hsl, ⟨ic, h_ic, e_ic⟩, hS⟩ := hI
  have hWG0 := hWG
  obtain ⟨huw, hw40, hWk⟩ := hWL
  have hG0 := hG
  have hLg0 := hLg
  obtain ⟨hn5, hW, hrub, hbeat⟩ := hWG
  obtain ⟨hGn, hA, hL, e_nw, e_rub, e_bt, e_ph, e_st, e_kn, e_pu, e_lf⟩ := hG
  obtain rfl : nh = hn := (nI_eq (by omega) (by omega)).mp (hGn.symm.trans e_hn)
  have hbt2 : ¬ S 2 = 0 := ne2_0 hbeat.1
  obtain ⟨hl4, hl5, hLk⟩ := hLg
  obtain rfl : lu = un := (nI_eq (by omega) (by omega)).mp (hl4.symm.trans e_un)
  obtain rfl : lw = wn := (nI_eq (by omega) (by omega)).mp (hl5.symm.trans e_wn)
  refine xr_iload_n dX10_mend_0 2 rfl ?_
  refine xr_i2l dX10_mend_1 ?_
  refine xb_topJ (y := 7) (by decide) ?_
  refine xr_lconst (v := 0) dX10_mend_2 rfl ?_
  refine xr_ldc2 coX10_131 dX10_mend_3 ?_
  refine xb_cS (As := [.long (7), .long (0), .long (2)]) (rest := []) mlX10_101 (c_X10_within 7 0 2) dX10_mend_6 rfl rfl (Nat.le_of_ble_eq_true rfl) (by decide) (by decide) ?_
  refine xb_beq (tgt := 95) dX10_mend_9 rfl (fun _ => ?_) (fun c => absurd c (by decide))
  refine xr_iload_n dX10_mend_95 1 rfl ?_
  refine xr_if_ne (tgt := 113) dX10_mend_96 rfl (fun c => absurd (by decide) c) (fun _ => ?_)
  refine xr_iload_n dX10_mend_99 2 rfl ?_
  refine xr_i2l dX10_mend_100 ?_
  refine xb_topJ (y := 7) (by decide) ?_
  refine xr_ldc2 coX10_141 dX10_mend_101 ?_
  refine xr_ldc2 coX10_143 dX10_mend_104 ?_
  refine xb_cS (As := [.long (7), .long (3), .long (7)]) (rest := []) mlX10_101 (c_X10_within 7 3 7) dX10_mend_107 rfl rfl (Nat.le_of_ble_eq_true rfl) (by decide) (by decide) ?_
  refine xb_bne (tgt := 116) dX10_mend_110 rfl (fun _ => ?_) (fun c => absurd (by decide) c)
  refine xr_iload_n dX10_mend_116 2 rfl ?_
  refine xr_iconst (v := 4) dX10_mend_117 rfl ?_
  refine xr_icmp_ne (tgt := 125) dX10_mend_118 rfl (fun _ => ?_) (fun c => absurd c (by decide))
  refine xr_iconst (v := 0) dX10_mend_125 rfl ?_
  refine xr_istore (ls2 := [(4, .int (0)), (0, .ref (62)), (1, .int (0)), (2, .int (7)), (3, .int (v))]) dX10_mend_126 (by decide) rfl ?_
  refine xr_iload_n dX10_mend_128 3 rfl ?_
  refine xr_iconst (v := 3) dX10_mend_129 rfl ?_
  refine xr_icmp_ne (tgt := 137) dX10_mend_130 rfl (fun _ => ?_) (fun c => absurd c (by decide))
  refine xr_iload_n dX10_mend_137 3 rfl ?_
  refine xr_iconst (v := 4) dX10_mend_138 rfl ?_
  refine xr_icmp_ne (tgt := 147) dX10_mend_139 rfl (fun _ => ?_) (fun c => absurd c (by decide))
  refine xr_iload_n dX10_mend_147 3 rfl ?_
  refine xr_iconst (v := 5) dX10_mend_148 rfl ?_
  refine xr_icmp_ne (tgt := 164) dX10_mend_149 rfl (fun _ => ?_) (fun c => absurd c (by decide))
  refine xr_iload_n dX10_mend_164 3 rfl ?_
  refine xr_bipush (v := 6) dX10_mend_165 rfl ?_
  refine xr_icmp_ne (tgt := 174) dX10_mend_167 rfl (fun _ => ?_) (fun c => absurd c (by decide))
  refine xr_bipush (v := 12) dX10_mend_174 rfl ?_
  refine xr_istore (ls2 := [(5, .int (12)), (4, .int (0)), (0, .ref (62)), (1, .int (0)), (2, .int (7)), (3, .int (v))]) dX10_mend_176 (by decide) rfl ?_
  refine xr_iload_n dX10_mend_178 5 rfl ?_
  refine xr_i2l dX10_mend_179 ?_
  refine xr_iload dX10_mend_180 1 rfl ?_
  refine xr_i2l dX10_mend_182 ?_
  refine xb_topJ (y := 0) (by decide) ?_
  refine xr_iload dX10_mend_183 0 rfl ?_
  refine xr_i2l dX10_mend_185 ?_
  refine xb_topJ (y := 12) (by decide) ?_
  refine xb_cS (As := [.long ((v).toInt64), .long (0), .long (12)]) (rest := []) mlX10_101 (c_within32 (v) (0) (12) (by decide) (by decide)) dX10_mend_186 rfl rfl (Nat.le_of_ble_eq_true rfl) (by decide) (by decide) ?_
  refine xb_beq (tgt := 206) dX10_mend_189 rfl (fun c3 => ?_) (fun c3 => ?_)
  · refine xr_ldc coX10_140 dX10_mend_206 ?_
    exact xr_iret dX10_mend_208 rfl rfl (⟨_, rfl, rfl, rfl, Ke.rf, ⟨⟨⟨nh, by omega, e_hn, (fun kw hkw => by rw [show M 63 (5 + kw) = M 63 (5 + kw) from rfl]; exact hw kw hkw)⟩, (by rw [show M 63 16 = M 63 16 from rfl]; exact hbt), ⟨lu, lw, by omega, by omega, e_un, e_wn⟩, (fun kk hkk => by rw [show M 64 kk = M 64 kk from rfl, show M 65 kk = M 65 kk from rfl, show M 66 kk = M 66 kk from rfl]; exact hch kk hkk), ⟨n, by omega, e_n⟩, (by rw [show M 62 13 = M 62 13 from rfl]; exact htx), ⟨b, by omega, e_b⟩, (fun j hj => by obtain ⟨q, hq, eq⟩ := hkd j hj; exact ⟨q, hq, (show M 81 j = M 81 j from rfl).trans eq⟩), ⟨ra, by omega, e_ra⟩, (fun j hj => by rw [show M 83 j = M 83 j from rfl, show M 84 j = M 84 j from rfl]; exact hsl j hj), ⟨ic, by omega, e_ic⟩, (fun j hj => by obtain ⟨q, hq, eq⟩ := hS j hj; exact ⟨q, hq, (show M 75 j = M 75 j from rfl).trans eq⟩)⟩, (Or.inr (Or.inl ⟨7, by decide, by decide, rfl, rfl, Or.inl ⟨(show ¬ okW 7 0 (S 2) v from c3), rfl, hG0, hLg0⟩⟩))⟩⟩)
  · refine xr_aload_n dX10_mend_192 2 rfl ?_
    refine xr_bipush (v := 15) dX10_mend_193 rfl ?_
    refine xr_iload_n dX10_mend_195 4 rfl ?_
    refine xr_iadd dX10_mend_196 ?_
    refine xb_top (y := 22) (by decide) ?_
    refine xr_iconst (v := 3) dX10_mend_197 rfl ?_
    refine xr_isub dX10_mend_198 ?_
    refine xb_top (y := nI (12 + 7)) (by decide) ?_
    refine xr_iload_n dX10_mend_199 5 rfl ?_
    refine xr_callV (As := [.int (nI (12 + 7)), .int (v)]) (rest := []) mlX10_136 (gw_X10_becomes (q := (12 + 7)) (by omega) v (un := lu) (by omega) e_un) dX10_mend_200 s_62 rfl rfl (Nat.le_of_ble_eq_true rfl) (by decide) ⟨by decide, by decide⟩ (fun v s2 M5 J2 hq => ?_)
    obtain ⟨r7, rfl, rfl, rfl, k6, hx4⟩ := hq
    try dsimp only [Option.toList, List.cons_append, List.nil_append]
    rcases hx4 with ⟨hbe, hbr, rfl⟩ | ⟨hbe, hbr, hb5, hb4, hn4, hn5_, hn6, hb3, hbo⟩
    · skip
      refine xr_goto (tgt := 208) dX10_mend_203 rfl ?_
      exact xr_iret dX10_mend_208 rfl rfl (⟨_, rfl, rfl, rfl, (Ke.tr (fun pp kk => (fun hh => Or.elim hh (fun h => (Or.inl h)) (fun hh => Or.elim hh (fun h => (Or.inr (Or.inl h))) (fun h => (Or.inr (Or.inr h)))))) Ke.rf k6), ⟨⟨⟨nh, by omega, e_hn, (fun kw hkw => by rw [show M 63 (5 + kw) = M 63 (5 + kw) from rfl]; exact hw kw hkw)⟩, (by rw [show M 63 16 = M 63 16 from rfl]; exact hbt), ⟨lu, lw, by omega, by omega, e_un, e_wn⟩, (fun kk hkk => by rw [show M 64 kk = M 64 kk from rfl, show M 65 kk = M 65 kk from rfl, show M 66 kk = M 66 kk from rfl]; exact hch kk hkk), ⟨n, by omega, e_n⟩, (by rw [show M 62 13 = M 62 13 from rfl]; exact htx), ⟨b, by omega, e_b⟩, (fun j hj => by obtain ⟨q, hq, eq⟩ := hkd j hj; exact ⟨q, hq, (show M 81 j = M 81 j from rfl).trans eq⟩), ⟨ra, by omega, e_ra⟩, (fun j hj => by rw [show M 83 j = M 83 j from rfl, show M 84 j = M 84 j from rfl]; exact hsl j hj), ⟨ic, by omega, e_ic⟩, (fun j hj => by obtain ⟨q, hq, eq⟩ := hS j hj; exact ⟨q, hq, (show M 75 j = M 75 j from rfl).trans eq⟩)⟩, (Or.inr (Or.inl ⟨7, by decide, by decide, rfl, rfl, Or.inr ⟨(show okW 7 0 (S 2) v from c3), (hbr.trans (e_kn.trans (gK_s (D := D) (S := S) (a := 7) (by decide)).symm)), Or.inl ⟨hbr.trans hbe, hG0, hLg0⟩⟩⟩))⟩⟩)
    · have hnt := ntU_b (u := lu) (by omega)
      refine xr_goto (tgt := 208) dX10_mend_203 rfl ?_
      have hRGn := (⟨(k6 62 6 (by decide)).trans e_hn, (AbS_k hA (fun kl hkl => hbo kl (by omega)) (fun kl => k6 67 kl (by unfold WBC; omega)) (fun kl => k6 68 kl (by unfold WBC; omega)) hn5), (LRt_k (k6 62 13 (by decide)) (funext fun kk => k6 70 kk (by unfold WBC; omega)) hL), (k6 62 9 (by decide)).trans e_nw, ((hbo 15 (by decide)).trans e_rub), ((hbo 16 (by decide)).trans e_bt), ((hbo 17 (by decide)).trans e_ph), ((hbo 18 (by decide)).trans e_st), hb3, (k6 62 24 (by decide)).trans e_pu, (k6 62 25 (by decide)).trans e_lf⟩ : RG M5 nh (dK D (12 + 7) v) t (sK S (12 + 7) v))
      have hok9 : okW 7 0 (S 2) v := c3
      have hWGn := WG_md (q := (12 + 7)) hWG0 (Or.inr ⟨7, by decide, by decide, rfl, hok9⟩) 
      exact xr_iret dX10_mend_208 rfl rfl (⟨_, rfl, rfl, rfl, (Ke.tr (fun pp kk => (fun hh => Or.elim hh (fun h => (Or.inl h)) (fun hh => Or.elim hh (fun h => (Or.inr (Or.inl h))) (fun h => (Or.inr (Or.inr h)))))) Ke.rf k6), ⟨⟨⟨nh, hn5, hRGn.1, hw_S hRGn.2.1 hWGn.2.1⟩, (by rw [hRGn.2.2.2.2.2.1]; exact ne2_0 hWGn.2.2.2.1), ⟨ntU lu, ntU lu, Nat.le_refl _, hnt, hb5, hb4⟩, (CH_nt (by omega) (CH_e (by omega) (bd_was hWG0 (Or.inr ⟨7, by decide, by decide, rfl⟩) ((e_kn).trans (gK_s (D := D) (S := S) (a := 7) (by decide)).symm)) (bd_ok (n := nh) (D := D) (S := S) (Or.inr ⟨7, by decide, by decide, rfl, hok9⟩))) hch hn4 hn5_ hn6), ⟨n, by omega, (Eq.trans (k6 62 11 (by decide)) e_n)⟩, (by rw [show M5 62 13 = M 62 13 from (Eq.trans (k6 62 13 (by unfold WBC; omega)) rfl)]; exact htx), ⟨b, by omega, (Eq.trans (k6 62 36 (by decide)) e_b)⟩, (fun j hj => by obtain ⟨q, hq, eq⟩ := hkd j hj; exact ⟨q, hq, (show M5 81 j = M 81 j from (Eq.trans (k6 81 j (by unfold WBC; omega)) rfl)).trans eq⟩), ⟨ra, by omega, (Eq.trans (k6 62 39 (by decide)) e_ra)⟩, (fun j hj => by rw [show M5 83 j = M 83 j from (Eq.trans (k6 83 j (by unfold WBC; omega)) rfl), show M5 84 j = M 84 j from (Eq.trans (k6 84 j (by unfold WBC; omega)) rfl)]; exact hsl j hj), ⟨ic, by omega, (Eq.trans (k6 62 34 (by decide)) e_ic)⟩, (fun j hj => by obtain ⟨q, hq, eq⟩ := hS j hj; exact ⟨q, hq, (show M5 75 j = M 75 j from (Eq.trans (k6 75 j (by unfold WBC; omega)) rfl)).trans eq⟩)⟩, (Or.inr (Or.inl ⟨7, by decide, by decide, rfl, rfl, Or.inr ⟨(show okW 7 0 (S 2) v from c3), (hbr.trans (e_kn.trans (gK_s (D := D) (S := S) (a := 7) (by decide)).symm)), Or.inr ⟨fun z => hbe (hbr.symm.trans z), hRGn, (by rw [hbr]; exact RLg_nt hLg0 huw (by omega) hn4 hn5_ hn6 hb5 hb4)⟩⟩⟩))⟩⟩)
set_option maxRecDepth 100000 in
set_option maxHeartbeats 4000000 in
theorem gxma_X10_mend {nh : Nat} {D : xM} {t : Option zL} {S : Nat → Int32} {lg : xL} {lu lw : Nat} (nu w v : Int32) {l : Launch} {G : xG} {M : xM} {J : xJ} (hI : InvR M) (hWG : WG nh D S) (hG : RG M nh D t S) (hWL : WLg nh lg lu lw) (hLg : RLg M lg lu lw) (hwh : 0 ≤ w ∧ w ≤ 2) (hb : ¬ (0 ≤ nu ∧ nu < nI nh)) : x_M l G fX10_mend 2 0 0 [.ref (62), .int (nu), .int (w), .int (v)] x_SH M J (qKI WMR M J (fun r M2 => InvR M2 ∧ (EMn RG RLg nh D t S lg lu lw M2 (nu) (w) v r))) := by
  refine xb_of pX10 (Nat.le_of_ble_eq_true rfl) rfl ?_
  obtain ⟨⟨hn, h_hn, e_hn, hw⟩, hbt, ⟨un, wn, h_uw, h_wn, e_un, e_wn⟩, hch, ⟨n, h_n, e_n⟩, htx, ⟨b, h_b, e_b⟩, hkd, ⟨ra, h_ra, e_ra⟩, hsl, ⟨ic, h_ic, e_ic⟩, hS⟩ := hI
  have hWG0 := hWG
  obtain ⟨huw, hw40, hWk⟩ := hWL
  have hG0 := hG
  have hLg0 := hLg
  obtain ⟨hn5, hW, hrub, hbeat⟩ := hWG
  obtain ⟨hGn, hA, hL, e_nw, e_rub, e_bt, e_ph, e_st, e_kn, e_pu, e_lf⟩ := hG
  obtain rfl : nh = hn := (nI_eq (by omega) (by omega)).mp (hGn.symm.trans e_hn)
  have hbt2 : ¬ S 2 = 0 := ne2_0 hbeat.1
  obtain ⟨hl4, hl5, hLk⟩ := hLg
  obtain rfl : lu = un := (nI_eq (by omega) (by omega)).mp (hl4.symm.trans e_un)
  obtain rfl : lw = wn := (nI_eq (by omega) (by omega)).mp (hl5.symm.trans e_wn)
  refine xr_iload_n dX10_mend_0 2 rfl ?_
  refine xr_i2l dX10_mend_1 ?_
  refine xr_lconst (v := 0) dX10_mend_2 rfl ?_
  refine xr_ldc2 coX10_131 dX10_mend_3 ?_
  refine xb_cS (As := [.long ((w).toInt64), .long (0), .long (2)]) (rest := []) mlX10_101 (c_within32 (w) (0) (2) (by decide) (by decide)) dX10_mend_6 rfl rfl (Nat.le_of_ble_eq_true rfl) (by decide) (by decide) ?_
  refine xb_beq (tgt := 95) dX10_mend_9 rfl (fun c => absurd hwh c) (fun _ => ?_)
  refine xr_aload_n dX10_mend_12 0 rfl ?_
  refine xr_iload_n dX10_mend_13 1 rfl ?_
  refine xb_cV (As := [.int (nu)]) (rest := []) mlX10_133 (c_X10_isHoop nu (by omega) e_hn) dX10_mend_14 s_62 rfl rfl (Nat.le_of_ble_eq_true rfl) (by decide) (by decide) ?_
  refine xb_beq (tgt := 71) dX10_mend_17 rfl (fun _ => ?_) (fun c => absurd c hb)
  refine xr_iconst (v := 0) dX10_mend_71 rfl ?_
  refine xr_istore (ls2 := [(4, .int (0)), (0, .ref (62)), (1, .int (nu)), (2, .int (w)), (3, .int (v))]) dX10_mend_72 (by decide) rfl ?_
  refine xr_iload dX10_mend_74 0 rfl ?_
  refine xr_if_eq (tgt := 92) dX10_mend_76 rfl (fun _ => ?_) (fun c => absurd (by decide) c)
  refine xr_ldc coX10_140 dX10_mend_92 ?_
  exact xr_iret dX10_mend_94 rfl rfl (⟨_, rfl, rfl, rfl, Ke.rf, ⟨⟨⟨nh, by omega, e_hn, (fun kw hkw => by rw [show M 63 (5 + kw) = M 63 (5 + kw) from rfl]; exact hw kw hkw)⟩, (by rw [show M 63 16 = M 63 16 from rfl]; exact hbt), ⟨lu, lw, by omega, by omega, e_un, e_wn⟩, (fun kk hkk => by rw [show M 64 kk = M 64 kk from rfl, show M 65 kk = M 65 kk from rfl, show M 66 kk = M 66 kk from rfl]; exact hch kk hkk), ⟨n, by omega, e_n⟩, (by rw [show M 62 13 = M 62 13 from rfl]; exact htx), ⟨b, by omega, e_b⟩, (fun j hj => by obtain ⟨q, hq, eq⟩ := hkd j hj; exact ⟨q, hq, (show M 81 j = M 81 j from rfl).trans eq⟩), ⟨ra, by omega, e_ra⟩, (fun j hj => by rw [show M 83 j = M 83 j from rfl, show M 84 j = M 84 j from rfl]; exact hsl j hj), ⟨ic, by omega, e_ic⟩, (fun j hj => by obtain ⟨q, hq, eq⟩ := hS j hj; exact ⟨q, hq, (show M 75 j = M 75 j from rfl).trans eq⟩)⟩, (Or.inr (Or.inr ⟨⟨fun z => hb z.2, fun z => absurd (Int32.le_trans z.2.1 hwh.2) (by decide)⟩, rfl, hG0, hLg0⟩))⟩⟩)
set_option maxRecDepth 100000 in
set_option maxHeartbeats 4000000 in
theorem gxmb_X10_mend {nh : Nat} {D : xM} {t : Option zL} {S : Nat → Int32} {lg : xL} {lu lw : Nat} (nu w v : Int32) {l : Launch} {G : xG} {M : xM} {J : xJ} (hI : InvR M) (hWG : WG nh D S) (hG : RG M nh D t S) (hWL : WLg nh lg lu lw) (hLg : RLg M lg lu lw) (hwh : ¬ (0 ≤ w ∧ w ≤ 2)) (hnu : ¬ nu = 0) : x_M l G fX10_mend 2 0 0 [.ref (62), .int (nu), .int (w), .int (v)] x_SH M J (qKI WMR M J (fun r M2 => InvR M2 ∧ (EMn RG RLg nh D t S lg lu lw M2 (nu) (w) v r))) := by
  refine xb_of pX10 (Nat.le_of_ble_eq_true rfl) rfl ?_
  obtain ⟨⟨hn, h_hn, e_hn, hw⟩, hbt, ⟨un, wn, h_uw, h_wn, e_un, e_wn⟩, hch, ⟨n, h_n, e_n⟩, htx, ⟨b, h_b, e_b⟩, hkd, ⟨ra, h_ra, e_ra⟩, hsl, ⟨ic, h_ic, e_ic⟩, hS⟩ := hI
  have hWG0 := hWG
  obtain ⟨huw, hw40, hWk⟩ := hWL
  have hG0 := hG
  have hLg0 := hLg
  obtain ⟨hn5, hW, hrub, hbeat⟩ := hWG
  obtain ⟨hGn, hA, hL, e_nw, e_rub, e_bt, e_ph, e_st, e_kn, e_pu, e_lf⟩ := hG
  obtain rfl : nh = hn := (nI_eq (by omega) (by omega)).mp (hGn.symm.trans e_hn)
  have hbt2 : ¬ S 2 = 0 := ne2_0 hbeat.1
  obtain ⟨hl4, hl5, hLk⟩ := hLg
  obtain rfl : lu = un := (nI_eq (by omega) (by omega)).mp (hl4.symm.trans e_un)
  obtain rfl : lw = wn := (nI_eq (by omega) (by omega)).mp (hl5.symm.trans e_wn)
  refine xr_iload_n dX10_mend_0 2 rfl ?_
  refine xr_i2l dX10_mend_1 ?_
  refine xr_lconst (v := 0) dX10_mend_2 rfl ?_
  refine xr_ldc2 coX10_131 dX10_mend_3 ?_
  refine xb_cS (As := [.long ((w).toInt64), .long (0), .long (2)]) (rest := []) mlX10_101 (c_within32 (w) (0) (2) (by decide) (by decide)) dX10_mend_6 rfl rfl (Nat.le_of_ble_eq_true rfl) (by decide) (by decide) ?_
  refine xb_beq (tgt := 95) dX10_mend_9 rfl (fun _ => ?_) (fun c => absurd c hwh)
  refine xr_iload_n dX10_mend_95 1 rfl ?_
  refine xr_if_ne (tgt := 113) dX10_mend_96 rfl (fun _ => ?_) (fun c => absurd c hnu)
  refine xr_ldc coX10_140 dX10_mend_113 ?_
  exact xr_iret dX10_mend_115 rfl rfl (⟨_, rfl, rfl, rfl, Ke.rf, ⟨⟨⟨nh, by omega, e_hn, (fun kw hkw => by rw [show M 63 (5 + kw) = M 63 (5 + kw) from rfl]; exact hw kw hkw)⟩, (by rw [show M 63 16 = M 63 16 from rfl]; exact hbt), ⟨lu, lw, by omega, by omega, e_un, e_wn⟩, (fun kk hkk => by rw [show M 64 kk = M 64 kk from rfl, show M 65 kk = M 65 kk from rfl, show M 66 kk = M 66 kk from rfl]; exact hch kk hkk), ⟨n, by omega, e_n⟩, (by rw [show M 62 13 = M 62 13 from rfl]; exact htx), ⟨b, by omega, e_b⟩, (fun j hj => by obtain ⟨q, hq, eq⟩ := hkd j hj; exact ⟨q, hq, (show M 81 j = M 81 j from rfl).trans eq⟩), ⟨ra, by omega, e_ra⟩, (fun j hj => by rw [show M 83 j = M 83 j from rfl, show M 84 j = M 84 j from rfl]; exact hsl j hj), ⟨ic, by omega, e_ic⟩, (fun j hj => by obtain ⟨q, hq, eq⟩ := hS j hj; exact ⟨q, hq, (show M 75 j = M 75 j from rfl).trans eq⟩)⟩, (Or.inr (Or.inr ⟨⟨fun z => hwh z.1, fun z => hnu z.1⟩, rfl, hG0, hLg0⟩))⟩⟩)
set_option maxRecDepth 100000 in
set_option maxHeartbeats 4000000 in
theorem gxmc_X10_mend {nh : Nat} {D : xM} {t : Option zL} {S : Nat → Int32} {lg : xL} {lu lw : Nat} (w v : Int32) {l : Launch} {G : xG} {M : xM} {J : xJ} (hI : InvR M) (hWG : WG nh D S) (hG : RG M nh D t S) (hWL : WLg nh lg lu lw) (hLg : RLg M lg lu lw) (hwh : ¬ (0 ≤ w ∧ w ≤ 2)) (hwo : ¬ (3 ≤ w ∧ w ≤ 7)) : x_M l G fX10_mend 2 0 0 [.ref (62), .int (0), .int (w), .int (v)] x_SH M J (qKI WMR M J (fun r M2 => InvR M2 ∧ (EMn RG RLg nh D t S lg lu lw M2 (0) (w) v r))) := by
  refine xb_of pX10 (Nat.le_of_ble_eq_true rfl) rfl ?_
  obtain ⟨⟨hn, h_hn, e_hn, hw⟩, hbt, ⟨un, wn, h_uw, h_wn, e_un, e_wn⟩, hch, ⟨n, h_n, e_n⟩, htx, ⟨b, h_b, e_b⟩, hkd, ⟨ra, h_ra, e_ra⟩, hsl, ⟨ic, h_ic, e_ic⟩, hS⟩ := hI
  have hWG0 := hWG
  obtain ⟨huw, hw40, hWk⟩ := hWL
  have hG0 := hG
  have hLg0 := hLg
  obtain ⟨hn5, hW, hrub, hbeat⟩ := hWG
  obtain ⟨hGn, hA, hL, e_nw, e_rub, e_bt, e_ph, e_st, e_kn, e_pu, e_lf⟩ := hG
  obtain rfl : nh = hn := (nI_eq (by omega) (by omega)).mp (hGn.symm.trans e_hn)
  have hbt2 : ¬ S 2 = 0 := ne2_0 hbeat.1
  obtain ⟨hl4, hl5, hLk⟩ := hLg
  obtain rfl : lu = un := (nI_eq (by omega) (by omega)).mp (hl4.symm.trans e_un)
  obtain rfl : lw = wn := (nI_eq (by omega) (by omega)).mp (hl5.symm.trans e_wn)
  refine xr_iload_n dX10_mend_0 2 rfl ?_
  refine xr_i2l dX10_mend_1 ?_
  refine xr_lconst (v := 0) dX10_mend_2 rfl ?_
  refine xr_ldc2 coX10_131 dX10_mend_3 ?_
  refine xb_cS (As := [.long ((w).toInt64), .long (0), .long (2)]) (rest := []) mlX10_101 (c_within32 (w) (0) (2) (by decide) (by decide)) dX10_mend_6 rfl rfl (Nat.le_of_ble_eq_true rfl) (by decide) (by decide) ?_
  refine xb_beq (tgt := 95) dX10_mend_9 rfl (fun _ => ?_) (fun c => absurd c hwh)
  refine xr_iload_n dX10_mend_95 1 rfl ?_
  refine xr_if_ne (tgt := 113) dX10_mend_96 rfl (fun c => absurd (by decide) c) (fun _ => ?_)
  refine xr_iload_n dX10_mend_99 2 rfl ?_
  refine xr_i2l dX10_mend_100 ?_
  refine xr_ldc2 coX10_141 dX10_mend_101 ?_
  refine xr_ldc2 coX10_143 dX10_mend_104 ?_
  refine xb_cS (As := [.long ((w).toInt64), .long (3), .long (7)]) (rest := []) mlX10_101 (c_within32 (w) (3) (7) (by decide) (by decide)) dX10_mend_107 rfl rfl (Nat.le_of_ble_eq_true rfl) (by decide) (by decide) ?_
  refine xb_bne (tgt := 116) dX10_mend_110 rfl (fun c => absurd c hwo) (fun _ => ?_)
  refine xr_ldc coX10_140 dX10_mend_113 ?_
  exact xr_iret dX10_mend_115 rfl rfl (⟨_, rfl, rfl, rfl, Ke.rf, ⟨⟨⟨nh, by omega, e_hn, (fun kw hkw => by rw [show M 63 (5 + kw) = M 63 (5 + kw) from rfl]; exact hw kw hkw)⟩, (by rw [show M 63 16 = M 63 16 from rfl]; exact hbt), ⟨lu, lw, by omega, by omega, e_un, e_wn⟩, (fun kk hkk => by rw [show M 64 kk = M 64 kk from rfl, show M 65 kk = M 65 kk from rfl, show M 66 kk = M 66 kk from rfl]; exact hch kk hkk), ⟨n, by omega, e_n⟩, (by rw [show M 62 13 = M 62 13 from rfl]; exact htx), ⟨b, by omega, e_b⟩, (fun j hj => by obtain ⟨q, hq, eq⟩ := hkd j hj; exact ⟨q, hq, (show M 81 j = M 81 j from rfl).trans eq⟩), ⟨ra, by omega, e_ra⟩, (fun j hj => by rw [show M 83 j = M 83 j from rfl, show M 84 j = M 84 j from rfl]; exact hsl j hj), ⟨ic, by omega, e_ic⟩, (fun j hj => by obtain ⟨q, hq, eq⟩ := hS j hj; exact ⟨q, hq, (show M 75 j = M 75 j from rfl).trans eq⟩)⟩, (Or.inr (Or.inr ⟨⟨fun z => hwh z.1, fun z => hwo z.2⟩, rfl, hG0, hLg0⟩))⟩⟩)
theorem gx_X10_mend (nu w v : Int32) {nh : Nat} {D : xM} {t : Option zL} {S : Nat → Int32} {lg : xL} {lu lw : Nat} {l : Launch} {G : xG} {M : xM} {J : xJ} (hI : InvR M) (hWG : WG nh D S) (hG : RG M nh D t S) (hWL : WLg nh lg lu lw) (hLg : RLg M lg lu lw) : x_M l G fX10_mend 2 0 0 [.ref 62, .int (nu), .int (w), .int (v)] x_SH M J (qKI WMR M J (fun r M2 => InvR M2 ∧ (EMn RG RLg nh D t S lg lu lw M2 nu w v r))) := by
  by_cases hw : 0 ≤ w ∧ w ≤ 2
  · by_cases hb : 0 ≤ nu ∧ nu < nI nh
    · obtain ⟨i, hi, rfl⟩ := x_nat (N := nh) (by have := hWG.1; omega) rfl hb
      obtain ⟨a, ha, rfl⟩ := x_natle (v := w) (N := 2) (K := 2) (by decide) (by decide) hw
      match a, ha with
      | 0, _ => exact gxm0_X10_mend v hI hWG hG hWL hLg hi
      | 1, _ => exact gxm1_X10_mend v hI hWG hG hWL hLg hi
      | 2, _ => exact gxm2_X10_mend v hI hWG hG hWL hLg hi
    · exact gxma_X10_mend nu w v hI hWG hG hWL hLg hw hb
  · by_cases hnu : nu = 0
    · subst hnu
      by_cases hwo : 3 ≤ w ∧ w ≤ 7
      · obtain ⟨a, ha, rfl⟩ := x_natle (v := w) (N := 7) (K := 7) (by decide) (by decide) ⟨Int32.le_trans (by decide) hwo.1, hwo.2⟩
        match a, ha with
        | 0, _ => exact absurd hwo.1 (by decide)
        | 1, _ => exact absurd hwo.1 (by decide)
        | 2, _ => exact absurd hwo.1 (by decide)
        | 3, _ => exact gxm3_X10_mend v hI hWG hG hWL hLg
        | 4, _ => exact gxm4_X10_mend v hI hWG hG hWL hLg
        | 5, _ => exact gxm5_X10_mend v hI hWG hG hWL hLg
        | 6, _ => exact gxm6_X10_mend v hI hWG hG hWL hLg
        | 7, _ => exact gxm7_X10_mend v hI hWG hG hWL hLg
      · exact gxmc_X10_mend w v hI hWG hG hWL hLg hw hwo
    · exact gxmb_X10_mend nu w v hI hWG hG hWL hLg hw hnu
theorem num_s {M M2 : xM} {S : Nat → Int32} {a j : Nat} {v : Int32} (h3 : M2 63 (12 + a) = v) (ho : ∀ j, j ≠ 12 + a → M2 63 j = M 63 j) (ha : 3 ≤ a) (hj : 1 ≤ j) (s : M 63 (14 + j) = S j) : M2 63 (14 + j) = (if j = a - 2 then v else S j) := by
  by_cases e : j = a - 2
  · rw [if_pos e, show 14 + j = 12 + a by omega]; exact h3
  · rw [if_neg e, ho _ (by omega)]; exact s
theorem RG_ly {n q : Nat} {M M2 D : xM} {t : Option zL} {S : Nat → Int32} {v x : Int32} (hn : n ≤ 5) (h : RG M n D t S) (hq : (∃ i a, i < n ∧ a < 3 ∧ q = 5 * a + i) ∨ ∃ a, 3 ≤ a ∧ a ≤ 7 ∧ q = 12 + a) (h3 : M2 63 q = x) (hx : x = if (10 ≤ q ∧ q < 15) ∧ M 68 (q - 10) = 0 then 0 else v) (ho : ∀ j, j ≠ q → M2 63 j = M 63 j)
    (h67 : ∀ k, M2 67 k = M 67 k) (h68 : ∀ k, M2 68 k = M 68 k) (h6 : M2 62 6 = M 62 6) (h9 : M2 62 9 = M 62 9) (h13 : M2 62 13 = M 62 13) (h24 : M2 62 24 = M 62 24) (h25 : M2 62 25 = M 62 25) (h70 : ∀ k, M2 70 k = M 70 k) : RG M2 n (dK D q (lK D q v)) t (sK S q v) := by
  obtain ⟨a1, b1, c1, d1, s1, s2, s3, s4, s5, p1, f1⟩ := h
  rcases hq with ⟨i, a, hi, ha, rfl⟩ | ⟨a, ha, hb, rfl⟩
  · rw [sK_h (by omega) ha]
    refine ⟨h6.trans a1, ?_, LRt_k h13 (funext h70) c1, h9.trans d1, (ho 15 (by omega)).trans s1, (ho 16 (by omega)).trans s2, (ho 17 (by omega)).trans s3, (ho 18 (by omega)).trans s4, (ho 19 (by omega)).trans s5, h24.trans p1, h25.trans f1⟩
    match a, ha with
    | 0, _ =>
      rw [if_neg (by omega)] at hx
      rw [lK_0 (by omega) (by decide), dK_0 (by omega)]; exact AbS_m hn (by omega) b1 (Or.inl ⟨rfl, by omega⟩) h67 h68 (h3.trans hx) ho
    | 1, _ =>
      rw [if_neg (by omega)] at hx
      rw [lK_0 (by omega) (by decide), dK_1 (by omega)]; exact AbS_m hn (by omega) b1 (Or.inr (Or.inl ⟨rfl, by omega⟩)) h67 h68 (h3.trans hx) ho
    | 2, _ =>
      rw [show 5 * 2 + i - 10 = i by omega, (b1 i hi).2.2.2.2] at hx
      have ex : x = (if D i 4 = 0 then 0 else v) := by
        rw [hx]
        by_cases c : D i 4 = 0
        · rw [if_pos ⟨by omega, c⟩, if_pos c]
        · rw [if_neg (fun z => c z.2), if_neg c]
      rw [lK_2 (by omega), dK_2 (by omega)]; exact AbS_m hn (by omega) b1 (Or.inr (Or.inr ⟨rfl, by omega⟩)) h67 h68 (h3.trans ex) ho
  · rw [if_neg (by omega)] at hx
    rw [dK_s ha, sK_s ha]
    have h3' := h3.trans hx
    refine ⟨h6.trans a1, AbS_k b1 (fun k hk => ho k (by omega)) h67 h68 hn, LRt_k h13 (funext h70) c1, ?_, num_s (j := 1) h3' ho ha (by decide) s1, num_s (j := 2) h3' ho ha (by decide) s2, num_s (j := 3) h3' ho ha (by decide) s3, num_s (j := 4) h3' ho ha (by decide) s4, num_s (j := 5) h3' ho ha (by decide) s5, ?_, ?_⟩
    · exact (h9.trans d1).trans (if_neg (by omega)).symm
    · exact (h24.trans p1).trans (if_neg (by omega)).symm
    · exact (h25.trans f1).trans (if_neg (by omega)).symm
theorem key_f {q n : Nat} (h : q < 20) (hn : q < 15 → q % 5 < n) : (∃ i a, i < n ∧ a < 3 ∧ q = 5 * a + i) ∨ ∃ a, 3 ≤ a ∧ a ≤ 7 ∧ q = 12 + a := by
  by_cases h1 : q < 15
  · exact Or.inl ⟨q % 5, q / 5, hn h1, by omega, by omega⟩
  · exact Or.inr ⟨q - 12, by omega, by omega, by omega⟩
set_option maxRecDepth 100000 in
set_option maxHeartbeats 4000000 in
theorem gx_X10_undo {nh : Nat} {D : xM} {t : Option zL} {S : Nat → Int32} {lg : xL} {lu lw : Nat} {l : Launch} {G : xG} {M : xM} {J : xJ} (hI : InvR M) (hWG : WG nh D S) (hG : RG M nh D t S) (hWL : WLg nh lg lu lw) (hLg : RLg M lg lu lw) : x_M l G fX10_undo 2 0 0 [.ref (62)] x_SH M J (qKI WUD M J (fun r M2 => InvR M2 ∧ (EUn RG RLg nh D t S lg lu lw M2 r))) := by
  refine xb_of pX10 (Nat.le_of_ble_eq_true rfl) rfl ?_
  obtain ⟨⟨hn, h_hn, e_hn, hw⟩, hbt, ⟨un, wn, h_uw, h_wn, e_un, e_wn⟩, hch, ⟨n, h_n, e_n⟩, htx, ⟨b, h_b, e_b⟩, hkd, ⟨ra, h_ra, e_ra⟩, hsl, ⟨ic, h_ic, e_ic⟩, hS⟩ := hI
  have hWG0 := hWG
  obtain ⟨huw, hw40, hWk⟩ := hWL
  have hG0 := hG
  have hLg0 := hLg
  obtain ⟨hn5, hW, hrub, hbeat⟩ := hWG
  obtain ⟨hGn, hA, hL, e_nw, e_rub, e_bt, e_ph, e_st, e_kn, e_pu, e_lf⟩ := hG
  obtain rfl : nh = hn := (nI_eq (by omega) (by omega)).mp (hGn.symm.trans e_hn)
  have hbt2 : ¬ S 2 = 0 := ne2_0 hbeat.1
  obtain ⟨hl4, hl5, hLk⟩ := hLg
  obtain rfl : lu = un := (nI_eq (by omega) (by omega)).mp (hl4.symm.trans e_un)
  obtain rfl : lw = wn := (nI_eq (by omega) (by omega)).mp (hl5.symm.trans e_wn)
  refine xr_aload_n dX10_undo_0 0 rfl ?_
  refine xb_get (v := nI (lu)) flX10_91 dX10_undo_1 s_62 rfl e_un ?_
  refine xr_if_ne (tgt := 10) dX10_undo_4 rfl (fun c1 => ?_) (fun c1 => ?_)
  · obtain ⟨u_, rfl⟩ : ∃ a, lu = a + 1 := by
      cases lu with
      | zero => exact absurd rfl c1
      | succ u => exact ⟨u, rfl⟩
    obtain ⟨hq20, hqn, hb1, hb2⟩ := hWk u_ (by omega)
    obtain ⟨h64, h65, h66⟩ := hLk u_ (by omega)
    refine xr_aload_n dX10_undo_10 0 rfl ?_
    refine xr_dup dX10_undo_11 rfl ?_
    refine xb_get (v := nI (u_ + 1)) flX10_91 dX10_undo_12 s_62 rfl e_un ?_
    refine xr_iconst (v := 1) dX10_undo_15 rfl ?_
    refine xr_isub dX10_undo_16 ?_
    refine xb_top (y := nI u_) (nI_pred u_) ?_
    refine xr_putI fpX10_91 dX10_undo_17 s_62 rfl rfl rfl ?_
    refine xr_aload_n dX10_undo_20 0 rfl ?_
    refine xr_aload_n dX10_undo_21 0 rfl ?_
    refine xr_getR flX10_13 dX10_undo_22 s_62 rfl ?_
    refine xr_aload_n dX10_undo_25 0 rfl ?_
    refine xb_get (v := nI (u_)) flX10_91 dX10_undo_26 s_62 rfl (x_up_s _ _ _ _) ?_
    refine xb_iald (j := u_) (v := nI ((lg.1 u_))) dX10_undo_29 s_64 (by omega) (by decide) (Eq.trans (congrFun (x_up_n _ _ _ (by decide)) _) h64) ?_
    refine xr_aload_n dX10_undo_30 0 rfl ?_
    refine xr_getR flX10_16 dX10_undo_31 s_62 rfl ?_
    refine xr_aload_n dX10_undo_34 0 rfl ?_
    refine xb_get (v := nI (u_)) flX10_91 dX10_undo_35 s_62 rfl (x_up_s _ _ _ _) ?_
    refine xb_iald (j := u_) (v := (lg.2.1 u_)) dX10_undo_38 s_65 (by omega) (by decide) (Eq.trans (congrFun (x_up_n _ _ _ (by decide)) _) h65) ?_
    refine xb_cV (As := [.int (nI ((lg.1 u_))), .int ((lg.2.1 u_))]) (rest := []) mlX10_105 (cw_X10_lays (q := (lg.1 u_)) hq20 (lg.2.1 u_)) dX10_undo_39 s_62 rfl rfl (Nat.le_of_ble_eq_true rfl) (by decide) (by decide) ?_
    refine xr_aload_n dX10_undo_42 0 rfl ?_
    refine xb_get (v := nI (u_)) flX10_91 dX10_undo_43 s_62 rfl (Eq.trans (congrFun (x_up_n _ _ _ (by decide)) _) (x_up_s _ _ _ _)) ?_
    have hRGn := (RG_ly (M2 := (x_up (x_up M 62 5 (nI (u_))) 63 (lg.1 u_) (if (10 ≤ (lg.1 u_) ∧ (lg.1 u_) < 15) ∧ (x_up M 62 5 (nI (u_))) 68 ((lg.1 u_) - 10) = 0 then 0 else (lg.2.1 u_)))) (v := (lg.2.1 u_)) hn5 hG0 (key_f hq20 hqn) (x_up_s _ _ _ _) (by first | rfl | rw [up_n (by decide)]) (fun j hj => (Eq.trans (up_k hj) (Eq.trans (up_n (by decide)) rfl))) (fun k => (Eq.trans (congrFun (x_up_n _ _ _ (by decide)) _) (Eq.trans (congrFun (x_up_n _ _ _ (by decide)) _) rfl))) (fun k => (Eq.trans (congrFun (x_up_n _ _ _ (by decide)) _) (Eq.trans (congrFun (x_up_n _ _ _ (by decide)) _) rfl))) (Eq.trans (congrFun (x_up_n _ _ _ (by decide)) _) (Eq.trans (x_up_k _ _ _ (by decide)) rfl)) (Eq.trans (congrFun (x_up_n _ _ _ (by decide)) _) (Eq.trans (x_up_k _ _ _ (by decide)) rfl)) (Eq.trans (congrFun (x_up_n _ _ _ (by decide)) _) (Eq.trans (x_up_k _ _ _ (by decide)) rfl)) (Eq.trans (congrFun (x_up_n _ _ _ (by decide)) _) (Eq.trans (x_up_k _ _ _ (by decide)) rfl)) (Eq.trans (congrFun (x_up_n _ _ _ (by decide)) _) (Eq.trans (x_up_k _ _ _ (by decide)) rfl)) (fun k => (Eq.trans (congrFun (x_up_n _ _ _ (by decide)) _) (Eq.trans (congrFun (x_up_n _ _ _ (by decide)) _) rfl))))
    have hWGn := WG_lk hWG0 (key_f hq20 hqn) hb1
    exact xr_iret dX10_undo_46 rfl rfl (⟨_, rfl, rfl, rfl, (Ke.up (Or.inr (by omega)) (Ke.up (Or.inl (by omega)) Ke.rf)), ⟨⟨⟨nh, hn5, hRGn.1, hw_S hRGn.2.1 hWGn.2.1⟩, (by rw [hRGn.2.2.2.2.2.1]; exact ne2_0 hWGn.2.2.2.1), ⟨u_, lw, by omega, by omega, (Eq.trans (congrFun (x_up_n _ _ _ (by decide)) _) (x_up_s _ _ _ _)), (Eq.trans (congrFun (x_up_n _ _ _ (by decide)) _) (Eq.trans (x_up_k _ _ _ (by decide)) e_wn))⟩, (fun kk hkk => by rw [show (x_up (x_up M 62 5 (nI (u_))) 63 (lg.1 u_) (if (10 ≤ (lg.1 u_) ∧ (lg.1 u_) < 15) ∧ (x_up M 62 5 (nI (u_))) 68 ((lg.1 u_) - 10) = 0 then 0 else (lg.2.1 u_))) 64 kk = M 64 kk from (Eq.trans (congrFun (x_up_n _ _ _ (by omega)) _) (Eq.trans (congrFun (x_up_n _ _ _ (by omega)) _) rfl)), show (x_up (x_up M 62 5 (nI (u_))) 63 (lg.1 u_) (if (10 ≤ (lg.1 u_) ∧ (lg.1 u_) < 15) ∧ (x_up M 62 5 (nI (u_))) 68 ((lg.1 u_) - 10) = 0 then 0 else (lg.2.1 u_))) 65 kk = M 65 kk from (Eq.trans (congrFun (x_up_n _ _ _ (by omega)) _) (Eq.trans (congrFun (x_up_n _ _ _ (by omega)) _) rfl)), show (x_up (x_up M 62 5 (nI (u_))) 63 (lg.1 u_) (if (10 ≤ (lg.1 u_) ∧ (lg.1 u_) < 15) ∧ (x_up M 62 5 (nI (u_))) 68 ((lg.1 u_) - 10) = 0 then 0 else (lg.2.1 u_))) 66 kk = M 66 kk from (Eq.trans (congrFun (x_up_n _ _ _ (by omega)) _) (Eq.trans (congrFun (x_up_n _ _ _ (by omega)) _) rfl))]; exact hch kk hkk), ⟨n, by omega, (Eq.trans (congrFun (x_up_n _ _ _ (by decide)) _) (Eq.trans (x_up_k _ _ _ (by decide)) e_n))⟩, (by rw [show (x_up (x_up M 62 5 (nI (u_))) 63 (lg.1 u_) (if (10 ≤ (lg.1 u_) ∧ (lg.1 u_) < 15) ∧ (x_up M 62 5 (nI (u_))) 68 ((lg.1 u_) - 10) = 0 then 0 else (lg.2.1 u_))) 62 13 = M 62 13 from (Eq.trans (congrFun (x_up_n _ _ _ (by omega)) _) (Eq.trans (x_up_k _ _ _ (by omega)) rfl))]; exact htx), ⟨b, by omega, (Eq.trans (congrFun (x_up_n _ _ _ (by decide)) _) (Eq.trans (x_up_k _ _ _ (by decide)) e_b))⟩, (fun j hj => by obtain ⟨q, hq, eq⟩ := hkd j hj; exact ⟨q, hq, (show (x_up (x_up M 62 5 (nI (u_))) 63 (lg.1 u_) (if (10 ≤ (lg.1 u_) ∧ (lg.1 u_) < 15) ∧ (x_up M 62 5 (nI (u_))) 68 ((lg.1 u_) - 10) = 0 then 0 else (lg.2.1 u_))) 81 j = M 81 j from (Eq.trans (congrFun (x_up_n _ _ _ (by omega)) _) (Eq.trans (congrFun (x_up_n _ _ _ (by omega)) _) rfl))).trans eq⟩), ⟨ra, by omega, (Eq.trans (congrFun (x_up_n _ _ _ (by decide)) _) (Eq.trans (x_up_k _ _ _ (by decide)) e_ra))⟩, (fun j hj => by rw [show (x_up (x_up M 62 5 (nI (u_))) 63 (lg.1 u_) (if (10 ≤ (lg.1 u_) ∧ (lg.1 u_) < 15) ∧ (x_up M 62 5 (nI (u_))) 68 ((lg.1 u_) - 10) = 0 then 0 else (lg.2.1 u_))) 83 j = M 83 j from (Eq.trans (congrFun (x_up_n _ _ _ (by omega)) _) (Eq.trans (congrFun (x_up_n _ _ _ (by omega)) _) rfl)), show (x_up (x_up M 62 5 (nI (u_))) 63 (lg.1 u_) (if (10 ≤ (lg.1 u_) ∧ (lg.1 u_) < 15) ∧ (x_up M 62 5 (nI (u_))) 68 ((lg.1 u_) - 10) = 0 then 0 else (lg.2.1 u_))) 84 j = M 84 j from (Eq.trans (congrFun (x_up_n _ _ _ (by omega)) _) (Eq.trans (congrFun (x_up_n _ _ _ (by omega)) _) rfl))]; exact hsl j hj), ⟨ic, by omega, (Eq.trans (congrFun (x_up_n _ _ _ (by decide)) _) (Eq.trans (x_up_k _ _ _ (by decide)) e_ic))⟩, (fun j hj => by obtain ⟨q, hq, eq⟩ := hS j hj; exact ⟨q, hq, (show (x_up (x_up M 62 5 (nI (u_))) 63 (lg.1 u_) (if (10 ≤ (lg.1 u_) ∧ (lg.1 u_) < 15) ∧ (x_up M 62 5 (nI (u_))) 68 ((lg.1 u_) - 10) = 0 then 0 else (lg.2.1 u_))) 75 j = M 75 j from (Eq.trans (congrFun (x_up_n _ _ _ (by omega)) _) (Eq.trans (congrFun (x_up_n _ _ _ (by omega)) _) rfl))).trans eq⟩)⟩, (Or.inr ⟨u_, rfl, rfl, hRGn, ⟨(Eq.trans (congrFun (x_up_n _ _ _ (by decide)) _) (x_up_s _ _ _ _)), (Eq.trans (congrFun (x_up_n _ _ _ (by decide)) _) (Eq.trans (x_up_k _ _ _ (by decide)) e_wn)), fun k hk => by rw [show _ = M 64 k from (Eq.trans (congrFun (x_up_n _ _ _ (by decide)) _) (Eq.trans (congrFun (x_up_n _ _ _ (by decide)) _) rfl)), show _ = M 65 k from (Eq.trans (congrFun (x_up_n _ _ _ (by decide)) _) (Eq.trans (congrFun (x_up_n _ _ _ (by decide)) _) rfl)), show _ = M 66 k from (Eq.trans (congrFun (x_up_n _ _ _ (by decide)) _) (Eq.trans (congrFun (x_up_n _ _ _ (by decide)) _) rfl))]; exact hLk k hk⟩⟩)⟩⟩)
  · refine xr_bipush (v := -5) dX10_undo_7 rfl ?_
    exact xr_iret dX10_undo_9 rfl rfl (⟨_, rfl, rfl, rfl, Ke.rf, ⟨⟨⟨nh, by omega, e_hn, (fun kw hkw => by rw [show M 63 (5 + kw) = M 63 (5 + kw) from rfl]; exact hw kw hkw)⟩, (by rw [show M 63 16 = M 63 16 from rfl]; exact hbt), ⟨lu, lw, by omega, by omega, e_un, e_wn⟩, (fun kk hkk => by rw [show M 64 kk = M 64 kk from rfl, show M 65 kk = M 65 kk from rfl, show M 66 kk = M 66 kk from rfl]; exact hch kk hkk), ⟨n, by omega, e_n⟩, (by rw [show M 62 13 = M 62 13 from rfl]; exact htx), ⟨b, by omega, e_b⟩, (fun j hj => by obtain ⟨q, hq, eq⟩ := hkd j hj; exact ⟨q, hq, (show M 81 j = M 81 j from rfl).trans eq⟩), ⟨ra, by omega, e_ra⟩, (fun j hj => by rw [show M 83 j = M 83 j from rfl, show M 84 j = M 84 j from rfl]; exact hsl j hj), ⟨ic, by omega, e_ic⟩, (fun j hj => by obtain ⟨q, hq, eq⟩ := hS j hj; exact ⟨q, hq, (show M 75 j = M 75 j from rfl).trans eq⟩)⟩, (Or.inl ⟨(nI_eq (a := lu) (b := 0) (by omega) (by decide)).mp c1, rfl, hG0, hLg0⟩)⟩⟩)
set_option maxRecDepth 100000 in
set_option maxHeartbeats 4000000 in
theorem gx_X10_redo {nh : Nat} {D : xM} {t : Option zL} {S : Nat → Int32} {lg : xL} {lu lw : Nat} {l : Launch} {G : xG} {M : xM} {J : xJ} (hI : InvR M) (hWG : WG nh D S) (hG : RG M nh D t S) (hWL : WLg nh lg lu lw) (hLg : RLg M lg lu lw) : x_M l G fX10_redo 2 0 0 [.ref (62)] x_SH M J (qKI WUD M J (fun r M2 => InvR M2 ∧ (ERd RG RLg nh D t S lg lu lw M2 r))) := by
  refine xb_of pX10 (Nat.le_of_ble_eq_true rfl) rfl ?_
  obtain ⟨⟨hn, h_hn, e_hn, hw⟩, hbt, ⟨un, wn, h_uw, h_wn, e_un, e_wn⟩, hch, ⟨n, h_n, e_n⟩, htx, ⟨b, h_b, e_b⟩, hkd, ⟨ra, h_ra, e_ra⟩, hsl, ⟨ic, h_ic, e_ic⟩, hS⟩ := hI
  have hWG0 := hWG
  obtain ⟨huw, hw40, hWk⟩ := hWL
  have hG0 := hG
  have hLg0 := hLg
  obtain ⟨hn5, hW, hrub, hbeat⟩ := hWG
  obtain ⟨hGn, hA, hL, e_nw, e_rub, e_bt, e_ph, e_st, e_kn, e_pu, e_lf⟩ := hG
  obtain rfl : nh = hn := (nI_eq (by omega) (by omega)).mp (hGn.symm.trans e_hn)
  have hbt2 : ¬ S 2 = 0 := ne2_0 hbeat.1
  obtain ⟨hl4, hl5, hLk⟩ := hLg
  obtain rfl : lu = un := (nI_eq (by omega) (by omega)).mp (hl4.symm.trans e_un)
  obtain rfl : lw = wn := (nI_eq (by omega) (by omega)).mp (hl5.symm.trans e_wn)
  refine xr_aload_n dX10_redo_0 0 rfl ?_
  refine xb_get (v := nI (lu)) flX10_91 dX10_redo_1 s_62 rfl e_un ?_
  refine xr_aload_n dX10_redo_4 0 rfl ?_
  refine xb_get (v := nI (lw)) flX10_94 dX10_redo_5 s_62 rfl e_wn ?_
  refine xr_icmp_ne (tgt := 14) dX10_redo_8 rfl (fun c1 => ?_) (fun c1 => ?_)
  · have hne : lu < lw := by
      have h0 : lu ≠ lw := fun q => c1 (congrArg nI q)
      omega
    obtain ⟨hq20, hqn, hb1, hb2⟩ := hWk lu hne
    obtain ⟨h64, h65, h66⟩ := hLk lu hne
    refine xr_aload_n dX10_redo_14 0 rfl ?_
    refine xr_aload_n dX10_redo_15 0 rfl ?_
    refine xr_getR flX10_13 dX10_redo_16 s_62 rfl ?_
    refine xr_aload_n dX10_redo_19 0 rfl ?_
    refine xb_get (v := nI (lu)) flX10_91 dX10_redo_20 s_62 rfl e_un ?_
    refine xb_iald (j := lu) (v := nI ((lg.1 lu))) dX10_redo_23 s_64 (by omega) (by decide) h64 ?_
    refine xr_aload_n dX10_redo_24 0 rfl ?_
    refine xr_getR flX10_19 dX10_redo_25 s_62 rfl ?_
    refine xr_aload_n dX10_redo_28 0 rfl ?_
    refine xb_get (v := nI (lu)) flX10_91 dX10_redo_29 s_62 rfl e_un ?_
    refine xb_iald (j := lu) (v := (lg.2.2 lu)) dX10_redo_32 s_66 (by omega) (by decide) h66 ?_
    refine xb_cV (As := [.int (nI ((lg.1 lu))), .int ((lg.2.2 lu))]) (rest := []) mlX10_105 (cw_X10_lays (q := (lg.1 lu)) hq20 (lg.2.2 lu)) dX10_redo_33 s_62 rfl rfl (Nat.le_of_ble_eq_true rfl) (by decide) (by decide) ?_
    refine xr_aload_n dX10_redo_36 0 rfl ?_
    refine xr_dup dX10_redo_37 rfl ?_
    refine xb_get (v := nI (lu)) flX10_91 dX10_redo_38 s_62 rfl (Eq.trans (congrFun (x_up_n _ _ _ (by decide)) _) e_un) ?_
    refine xr_iconst (v := 1) dX10_redo_41 rfl ?_
    refine xr_iadd dX10_redo_42 ?_
    refine xb_top (y := nI (lu + 1)) (nI_add (lu) (1)) ?_
    refine xr_putI fpX10_91 dX10_redo_43 s_62 rfl rfl rfl ?_
    refine xr_aload_n dX10_redo_46 0 rfl ?_
    refine xb_get (v := nI (lw)) flX10_94 dX10_redo_47 s_62 rfl (Eq.trans (x_up_k _ _ _ (by decide)) (Eq.trans (congrFun (x_up_n _ _ _ (by decide)) _) e_wn)) ?_
    refine xr_aload_n dX10_redo_50 0 rfl ?_
    refine xb_get (v := nI (lu + 1)) flX10_91 dX10_redo_51 s_62 rfl (x_up_s _ _ _ _) ?_
    refine xr_isub dX10_redo_54 ?_
    have hRGn := (RG_ly (M2 := (x_up (x_up M 63 (lg.1 lu) (if (10 ≤ (lg.1 lu) ∧ (lg.1 lu) < 15) ∧ M 68 ((lg.1 lu) - 10) = 0 then 0 else (lg.2.2 lu))) 62 5 (nI (lu + 1)))) (v := (lg.2.2 lu)) hn5 hG0 (key_f hq20 hqn) (Eq.trans (congrFun (x_up_n _ _ _ (by decide)) _) (x_up_s _ _ _ _)) (by first | rfl | rw [up_n (by decide)]) (fun j hj => (Eq.trans (up_n (by decide)) (Eq.trans (up_k hj) rfl))) (fun k => (Eq.trans (congrFun (x_up_n _ _ _ (by decide)) _) (Eq.trans (congrFun (x_up_n _ _ _ (by decide)) _) rfl))) (fun k => (Eq.trans (congrFun (x_up_n _ _ _ (by decide)) _) (Eq.trans (congrFun (x_up_n _ _ _ (by decide)) _) rfl))) (Eq.trans (x_up_k _ _ _ (by decide)) (Eq.trans (congrFun (x_up_n _ _ _ (by decide)) _) rfl)) (Eq.trans (x_up_k _ _ _ (by decide)) (Eq.trans (congrFun (x_up_n _ _ _ (by decide)) _) rfl)) (Eq.trans (x_up_k _ _ _ (by decide)) (Eq.trans (congrFun (x_up_n _ _ _ (by decide)) _) rfl)) (Eq.trans (x_up_k _ _ _ (by decide)) (Eq.trans (congrFun (x_up_n _ _ _ (by decide)) _) rfl)) (Eq.trans (x_up_k _ _ _ (by decide)) (Eq.trans (congrFun (x_up_n _ _ _ (by decide)) _) rfl)) (fun k => (Eq.trans (congrFun (x_up_n _ _ _ (by decide)) _) (Eq.trans (congrFun (x_up_n _ _ _ (by decide)) _) rfl))))
    have hWGn := WG_lk hWG0 (key_f hq20 hqn) hb2
    exact xr_iret dX10_redo_55 rfl rfl (⟨_, rfl, rfl, rfl, (Ke.up (Or.inl (by omega)) (Ke.up (Or.inr (by omega)) Ke.rf)), ⟨⟨⟨nh, hn5, hRGn.1, hw_S hRGn.2.1 hWGn.2.1⟩, (by rw [hRGn.2.2.2.2.2.1]; exact ne2_0 hWGn.2.2.2.1), ⟨lu + 1, lw, by omega, by omega, (x_up_s _ _ _ _), (Eq.trans (x_up_k _ _ _ (by decide)) (Eq.trans (congrFun (x_up_n _ _ _ (by decide)) _) e_wn))⟩, (fun kk hkk => by rw [show (x_up (x_up M 63 (lg.1 lu) (if (10 ≤ (lg.1 lu) ∧ (lg.1 lu) < 15) ∧ M 68 ((lg.1 lu) - 10) = 0 then 0 else (lg.2.2 lu))) 62 5 (nI (lu + 1))) 64 kk = M 64 kk from (Eq.trans (congrFun (x_up_n _ _ _ (by omega)) _) (Eq.trans (congrFun (x_up_n _ _ _ (by omega)) _) rfl)), show (x_up (x_up M 63 (lg.1 lu) (if (10 ≤ (lg.1 lu) ∧ (lg.1 lu) < 15) ∧ M 68 ((lg.1 lu) - 10) = 0 then 0 else (lg.2.2 lu))) 62 5 (nI (lu + 1))) 65 kk = M 65 kk from (Eq.trans (congrFun (x_up_n _ _ _ (by omega)) _) (Eq.trans (congrFun (x_up_n _ _ _ (by omega)) _) rfl)), show (x_up (x_up M 63 (lg.1 lu) (if (10 ≤ (lg.1 lu) ∧ (lg.1 lu) < 15) ∧ M 68 ((lg.1 lu) - 10) = 0 then 0 else (lg.2.2 lu))) 62 5 (nI (lu + 1))) 66 kk = M 66 kk from (Eq.trans (congrFun (x_up_n _ _ _ (by omega)) _) (Eq.trans (congrFun (x_up_n _ _ _ (by omega)) _) rfl))]; exact hch kk hkk), ⟨n, by omega, (Eq.trans (x_up_k _ _ _ (by decide)) (Eq.trans (congrFun (x_up_n _ _ _ (by decide)) _) e_n))⟩, (by rw [show (x_up (x_up M 63 (lg.1 lu) (if (10 ≤ (lg.1 lu) ∧ (lg.1 lu) < 15) ∧ M 68 ((lg.1 lu) - 10) = 0 then 0 else (lg.2.2 lu))) 62 5 (nI (lu + 1))) 62 13 = M 62 13 from (Eq.trans (x_up_k _ _ _ (by omega)) (Eq.trans (congrFun (x_up_n _ _ _ (by omega)) _) rfl))]; exact htx), ⟨b, by omega, (Eq.trans (x_up_k _ _ _ (by decide)) (Eq.trans (congrFun (x_up_n _ _ _ (by decide)) _) e_b))⟩, (fun j hj => by obtain ⟨q, hq, eq⟩ := hkd j hj; exact ⟨q, hq, (show (x_up (x_up M 63 (lg.1 lu) (if (10 ≤ (lg.1 lu) ∧ (lg.1 lu) < 15) ∧ M 68 ((lg.1 lu) - 10) = 0 then 0 else (lg.2.2 lu))) 62 5 (nI (lu + 1))) 81 j = M 81 j from (Eq.trans (congrFun (x_up_n _ _ _ (by omega)) _) (Eq.trans (congrFun (x_up_n _ _ _ (by omega)) _) rfl))).trans eq⟩), ⟨ra, by omega, (Eq.trans (x_up_k _ _ _ (by decide)) (Eq.trans (congrFun (x_up_n _ _ _ (by decide)) _) e_ra))⟩, (fun j hj => by rw [show (x_up (x_up M 63 (lg.1 lu) (if (10 ≤ (lg.1 lu) ∧ (lg.1 lu) < 15) ∧ M 68 ((lg.1 lu) - 10) = 0 then 0 else (lg.2.2 lu))) 62 5 (nI (lu + 1))) 83 j = M 83 j from (Eq.trans (congrFun (x_up_n _ _ _ (by omega)) _) (Eq.trans (congrFun (x_up_n _ _ _ (by omega)) _) rfl)), show (x_up (x_up M 63 (lg.1 lu) (if (10 ≤ (lg.1 lu) ∧ (lg.1 lu) < 15) ∧ M 68 ((lg.1 lu) - 10) = 0 then 0 else (lg.2.2 lu))) 62 5 (nI (lu + 1))) 84 j = M 84 j from (Eq.trans (congrFun (x_up_n _ _ _ (by omega)) _) (Eq.trans (congrFun (x_up_n _ _ _ (by omega)) _) rfl))]; exact hsl j hj), ⟨ic, by omega, (Eq.trans (x_up_k _ _ _ (by decide)) (Eq.trans (congrFun (x_up_n _ _ _ (by decide)) _) e_ic))⟩, (fun j hj => by obtain ⟨q, hq, eq⟩ := hS j hj; exact ⟨q, hq, (show (x_up (x_up M 63 (lg.1 lu) (if (10 ≤ (lg.1 lu) ∧ (lg.1 lu) < 15) ∧ M 68 ((lg.1 lu) - 10) = 0 then 0 else (lg.2.2 lu))) 62 5 (nI (lu + 1))) 75 j = M 75 j from (Eq.trans (congrFun (x_up_n _ _ _ (by omega)) _) (Eq.trans (congrFun (x_up_n _ _ _ (by omega)) _) rfl))).trans eq⟩)⟩, (Or.inr ⟨hne, rfl, hRGn, ⟨(x_up_s _ _ _ _), (Eq.trans (x_up_k _ _ _ (by decide)) (Eq.trans (congrFun (x_up_n _ _ _ (by decide)) _) e_wn)), fun k hk => by rw [show _ = M 64 k from (Eq.trans (congrFun (x_up_n _ _ _ (by decide)) _) (Eq.trans (congrFun (x_up_n _ _ _ (by decide)) _) rfl)), show _ = M 65 k from (Eq.trans (congrFun (x_up_n _ _ _ (by decide)) _) (Eq.trans (congrFun (x_up_n _ _ _ (by decide)) _) rfl)), show _ = M 66 k from (Eq.trans (congrFun (x_up_n _ _ _ (by decide)) _) (Eq.trans (congrFun (x_up_n _ _ _ (by decide)) _) rfl))]; exact hLk k hk⟩⟩)⟩⟩)
  · refine xr_bipush (v := -5) dX10_redo_11 rfl ?_
    exact xr_iret dX10_redo_13 rfl rfl (⟨_, rfl, rfl, rfl, Ke.rf, ⟨⟨⟨nh, by omega, e_hn, (fun kw hkw => by rw [show M 63 (5 + kw) = M 63 (5 + kw) from rfl]; exact hw kw hkw)⟩, (by rw [show M 63 16 = M 63 16 from rfl]; exact hbt), ⟨lu, lw, by omega, by omega, e_un, e_wn⟩, (fun kk hkk => by rw [show M 64 kk = M 64 kk from rfl, show M 65 kk = M 65 kk from rfl, show M 66 kk = M 66 kk from rfl]; exact hch kk hkk), ⟨n, by omega, e_n⟩, (by rw [show M 62 13 = M 62 13 from rfl]; exact htx), ⟨b, by omega, e_b⟩, (fun j hj => by obtain ⟨q, hq, eq⟩ := hkd j hj; exact ⟨q, hq, (show M 81 j = M 81 j from rfl).trans eq⟩), ⟨ra, by omega, e_ra⟩, (fun j hj => by rw [show M 83 j = M 83 j from rfl, show M 84 j = M 84 j from rfl]; exact hsl j hj), ⟨ic, by omega, e_ic⟩, (fun j hj => by obtain ⟨q, hq, eq⟩ := hS j hj; exact ⟨q, hq, (show M 75 j = M 75 j from rfl).trans eq⟩)⟩, (Or.inl ⟨(nI_eq (a := lu) (b := lw) (by omega) (by omega)).mp c1, rfl, hG0, hLg0⟩)⟩⟩)
