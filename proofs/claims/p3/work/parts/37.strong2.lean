set_option maxRecDepth 100000 in
set_option maxHeartbeats 4000000 in
theorem rimx_l {v0 : Int32} {hn : Nat} (h_hn : hn ≤ 5) {l : Launch} {G : xG} {M : xM} {J : xJ} {Q : xQ} (e_hn : M 62 6 = nI hn) (hC : ∀ (M2 : xM), Ke W80 M M2 → M2 80 0 = v0 → x_X l G fX10_image 0 0 0 Q 110 [(0, .ref 62)] [] x_SH M2 J 0 0) : ∀ (m k : Nat) (M1 : xM), k + m = hn → Ke W80 M M1 → M1 80 0 = v0 → x_X l G fX10_image 0 0 0 Q 45 [(1, .int (nI (k))), (0, .ref (62))] [] x_SH M1 J 0 0 := by
  intro m
  induction m with
  | zero =>
    intro k M1 hk hM h0
    refine xr_iload_n dX10_image_45 0 rfl ?_
    refine xr_aload_n dX10_image_46 1 rfl ?_
    refine xb_get (v := nI (hn)) flX10_109 dX10_image_47 s_62 rfl (Eq.trans (hM 62 6 (by decide)) e_hn) ?_
    refine xr_icmp_ge (tgt := 110) dX10_image_50 rfl (fun _ => ?_) (fun c => absurd (nI_le (a := hn) (b := k) (by omega) (by omega)) c)
    refine xb_ls (ls2 := [(0, .ref (62))]) [1] rfl ?_
    exact hC _ hM h0
  | succ m ih =>
    intro k M1 hk hM h0
    refine xr_iload_n dX10_image_45 0 rfl ?_
    refine xr_aload_n dX10_image_46 1 rfl ?_
    refine xb_get (v := nI (hn)) flX10_109 dX10_image_47 s_62 rfl (Eq.trans (hM 62 6 (by decide)) e_hn) ?_
    refine xr_icmp_ge (tgt := 110) dX10_image_50 rfl (fun c => absurd c (nI_ge (a := k) (b := hn) (by omega) (by omega))) (fun _ => ?_)
    refine xr_aload_n dX10_image_53 1 rfl ?_
    refine xr_getR flX10_66 dX10_image_54 s_62 rfl ?_
    refine xr_iconst (v := 3) dX10_image_57 rfl ?_
    refine xr_iconst (v := 3) dX10_image_58 rfl ?_
    refine xr_iload_n dX10_image_59 0 rfl ?_
    refine xr_imul dX10_image_60 ?_
    refine xb_top (y := nI (3 * k)) (nI_mulc 3 k) ?_
    refine xr_iadd dX10_image_61 ?_
    refine xb_top (y := nI (3 + 3 * k)) (nI_add (3) (3 * k)) ?_
    refine xr_aload_n dX10_image_62 1 rfl ?_
    refine xr_getR flX10_22 dX10_image_63 s_62 rfl ?_
    refine xr_iload_n dX10_image_66 0 rfl ?_
    refine xb_iald (j := k) (v := M1 67 k) dX10_image_67 s_67 (by omega) (by decide) rfl ?_
    refine xb_iast (j := 3 + 3 * k) dX10_image_68 s_80 (by omega) (by decide) ?_
    refine xr_aload_n dX10_image_69 1 rfl ?_
    refine xr_getR flX10_66 dX10_image_70 s_62 rfl ?_
    refine xr_iconst (v := 4) dX10_image_73 rfl ?_
    refine xr_iconst (v := 3) dX10_image_74 rfl ?_
    refine xr_iload_n dX10_image_75 0 rfl ?_
    refine xr_imul dX10_image_76 ?_
    refine xb_top (y := nI (3 * k)) (nI_mulc 3 k) ?_
    refine xr_iadd dX10_image_77 ?_
    refine xb_top (y := nI (4 + 3 * k)) (nI_add (4) (3 * k)) ?_
    refine xr_aload_n dX10_image_78 1 rfl ?_
    refine xr_getR flX10_9 dX10_image_79 s_62 rfl ?_
    refine xr_bipush (v := 10) dX10_image_82 rfl ?_
    refine xr_iload_n dX10_image_84 0 rfl ?_
    refine xr_iadd dX10_image_85 ?_
    refine xb_top (y := nI (10 + k)) (nI_add (10) (k)) ?_
    refine xb_iald (j := 10 + k) (v := (x_up M1 80 (3 + 3 * k) (M1 67 k)) 63 (10 + k)) dX10_image_86 s_63 (by omega) (by decide) rfl ?_
    refine xb_iast (j := 4 + 3 * k) dX10_image_87 s_80 (by omega) (by decide) ?_
    refine xr_aload_n dX10_image_88 1 rfl ?_
    refine xr_getR flX10_66 dX10_image_89 s_62 rfl ?_
    refine xr_iconst (v := 5) dX10_image_92 rfl ?_
    refine xr_iconst (v := 3) dX10_image_93 rfl ?_
    refine xr_iload_n dX10_image_94 0 rfl ?_
    refine xr_imul dX10_image_95 ?_
    refine xb_top (y := nI (3 * k)) (nI_mulc 3 k) ?_
    refine xr_iadd dX10_image_96 ?_
    refine xb_top (y := nI (5 + 3 * k)) (nI_add (5) (3 * k)) ?_
    refine xr_aload_n dX10_image_97 1 rfl ?_
    refine xr_getR flX10_25 dX10_image_98 s_62 rfl ?_
    refine xr_iload_n dX10_image_101 0 rfl ?_
    refine xb_iald (j := k) (v := (x_up (x_up M1 80 (3 + 3 * k) (M1 67 k)) 80 (4 + 3 * k) ((x_up M1 80 (3 + 3 * k) (M1 67 k)) 63 (10 + k))) 68 k) dX10_image_102 s_68 (by omega) (by decide) rfl ?_
    refine xb_iast (j := 5 + 3 * k) dX10_image_103 s_80 (by omega) (by decide) ?_
    refine xr_iinc (v := nI (k + 1)) (ls2 := [(1, .int (nI (k + 1))), (0, .ref (62))]) dX10_image_104 0 rfl (nI_1 _) (by decide) rfl ?_
    refine xr_goto (tgt := 45) dX10_image_107 rfl ?_
    refine xb_ls (ls2 := [(1, .int (nI (k + 1))), (0, .ref (62))]) [0, 1] rfl ?_
    exact ih (k + 1) (x_up (x_up (x_up M1 80 (3 + 3 * k) (M1 67 k)) 80 (4 + 3 * k) ((x_up M1 80 (3 + 3 * k) (M1 67 k)) 63 (10 + k))) 80 (5 + 3 * k) ((x_up (x_up M1 80 (3 + 3 * k) (M1 67 k)) 80 (4 + 3 * k) ((x_up M1 80 (3 + 3 * k) (M1 67 k)) 63 (10 + k))) 68 k)) (by omega) (Ke.up (by omega) (Ke.up (by omega) (Ke.up (by omega) hM))) ((x_up_k _ _ _ (by omega)).trans ((x_up_k _ _ _ (by omega)).trans ((x_up_k _ _ _ (by omega)).trans h0)))
abbrev WBK2 (p k : Nat) : Prop := (67 ≤ p ∧ p ≤ 68) ∨ (p = 63 ∧ 10 ≤ k ∧ k ≤ 14)
set_option maxRecDepth 100000 in
set_option maxHeartbeats 4000000 in
theorem rbk2_l {l : Launch} {G : xG} {M : xM} {J : xJ} {Q : xQ} {ic : Nat} (h_ic : ic ≤ 5) (e_ic : M 62 34 = nI ic) (hC : ∀ (M2 : xM), Ke WBK2 M M2 → x_X l G fX10_back 0 0 0 Q 107 [(0, .ref (62))] [] x_SH M2 J 0 0) : ∀ (m k : Nat) (M1 : xM), k + m = ic → Ke WBK2 M M1 → x_X l G fX10_back 0 0 0 Q 42 [(1, .int (nI (k))), (0, .ref (62))] [] x_SH M1 J 0 0 := by
  intro m
  induction m with
  | zero =>
    intro k M1 hk hM
    refine xr_iload_n dX10_back_42 0 rfl ?_
    refine xr_aload_n dX10_back_43 1 rfl ?_
    refine xb_get (v := nI (ic)) flX10_331 dX10_back_44 s_62 rfl (Eq.trans (hM 62 34 (by decide)) e_ic) ?_
    refine xr_icmp_ge (tgt := 107) dX10_back_47 rfl (fun _ => ?_) (fun c => absurd (nI_le (a := ic) (b := k) (by omega) (by omega)) c)
    refine xb_ls (ls2 := [(0, .ref (62))]) [1] rfl ?_
    exact hC _ hM
  | succ m ih =>
    intro k M1 hk hM
    have hkN : k < ic := by omega
    refine xr_iload_n dX10_back_42 0 rfl ?_
    refine xr_aload_n dX10_back_43 1 rfl ?_
    refine xb_get (v := nI (ic)) flX10_331 dX10_back_44 s_62 rfl (Eq.trans (hM 62 34 (by decide)) e_ic) ?_
    refine xr_icmp_ge (tgt := 107) dX10_back_47 rfl (fun c => absurd c (nI_ge (a := k) (b := ic) (by omega) (by omega))) (fun _ => ?_)
    refine xr_aload_n dX10_back_50 1 rfl ?_
    refine xr_getR flX10_22 dX10_back_51 s_62 rfl ?_
    refine xr_iload_n dX10_back_54 0 rfl ?_
    refine xr_aload_n dX10_back_55 1 rfl ?_
    refine xr_getR flX10_66 dX10_back_56 s_62 rfl ?_
    refine xr_iconst (v := 3) dX10_back_59 rfl ?_
    refine xr_iconst (v := 3) dX10_back_60 rfl ?_
    refine xr_iload_n dX10_back_61 0 rfl ?_
    refine xr_imul dX10_back_62 ?_
    refine xb_top (y := nI (3 * k)) (nI_mulc 3 k) ?_
    refine xr_iadd dX10_back_63 ?_
    refine xb_top (y := nI (3 + 3 * k)) (nI_add (3) (3 * k)) ?_
    refine xb_iald (j := 3 + 3 * k) (v := M1 80 (3 + 3 * k)) dX10_back_64 s_80 (by omega) (by decide) rfl ?_
    refine xb_iast (j := k) dX10_back_65 s_67 (by omega) (by decide) ?_
    refine xr_aload_n dX10_back_66 1 rfl ?_
    refine xr_getR flX10_9 dX10_back_67 s_62 rfl ?_
    refine xr_bipush (v := 10) dX10_back_70 rfl ?_
    refine xr_iload_n dX10_back_72 0 rfl ?_
    refine xr_iadd dX10_back_73 ?_
    refine xb_top (y := nI (10 + k)) (nI_add (10) (k)) ?_
    refine xr_aload_n dX10_back_74 1 rfl ?_
    refine xr_getR flX10_66 dX10_back_75 s_62 rfl ?_
    refine xr_iconst (v := 4) dX10_back_78 rfl ?_
    refine xr_iconst (v := 3) dX10_back_79 rfl ?_
    refine xr_iload_n dX10_back_80 0 rfl ?_
    refine xr_imul dX10_back_81 ?_
    refine xb_top (y := nI (3 * k)) (nI_mulc 3 k) ?_
    refine xr_iadd dX10_back_82 ?_
    refine xb_top (y := nI (4 + 3 * k)) (nI_add (4) (3 * k)) ?_
    refine xb_iald (j := 4 + 3 * k) (v := (x_up M1 67 k (M1 80 (3 + 3 * k))) 80 (4 + 3 * k)) dX10_back_83 s_80 (by omega) (by decide) rfl ?_
    refine xb_iast (j := 10 + k) dX10_back_84 s_63 (by omega) (by decide) ?_
    refine xr_aload_n dX10_back_85 1 rfl ?_
    refine xr_getR flX10_25 dX10_back_86 s_62 rfl ?_
    refine xr_iload_n dX10_back_89 0 rfl ?_
    refine xr_aload_n dX10_back_90 1 rfl ?_
    refine xr_getR flX10_66 dX10_back_91 s_62 rfl ?_
    refine xr_iconst (v := 5) dX10_back_94 rfl ?_
    refine xr_iconst (v := 3) dX10_back_95 rfl ?_
    refine xr_iload_n dX10_back_96 0 rfl ?_
    refine xr_imul dX10_back_97 ?_
    refine xb_top (y := nI (3 * k)) (nI_mulc 3 k) ?_
    refine xr_iadd dX10_back_98 ?_
    refine xb_top (y := nI (5 + 3 * k)) (nI_add (5) (3 * k)) ?_
    refine xb_iald (j := 5 + 3 * k) (v := (x_up (x_up M1 67 k (M1 80 (3 + 3 * k))) 63 (10 + k) ((x_up M1 67 k (M1 80 (3 + 3 * k))) 80 (4 + 3 * k))) 80 (5 + 3 * k)) dX10_back_99 s_80 (by omega) (by decide) rfl ?_
    refine xb_iast (j := k) dX10_back_100 s_68 (by omega) (by decide) ?_
    refine xr_iinc (v := nI (k + 1)) (ls2 := [(1, .int (nI (k + 1))), (0, .ref (62))]) dX10_back_101 0 rfl (nI_1 _) (by decide) rfl ?_
    refine xr_goto (tgt := 42) dX10_back_104 rfl ?_
    refine xb_ls (ls2 := [(1, .int (nI (k + 1))), (0, .ref (62))]) [0, 1] rfl ?_
    exact ih (k + 1) (x_up (x_up (x_up M1 67 k (M1 80 (3 + 3 * k))) 63 (10 + k) ((x_up M1 67 k (M1 80 (3 + 3 * k))) 80 (4 + 3 * k))) 68 k ((x_up (x_up M1 67 k (M1 80 (3 + 3 * k))) 63 (10 + k) ((x_up M1 67 k (M1 80 (3 + 3 * k))) 80 (4 + 3 * k))) 80 (5 + 3 * k))) (by omega) (Ke.up (Or.inl (by omega)) (Ke.up (Or.inr (by omega)) (Ke.up (Or.inl (by omega)) hM)))
def EGo (n : Int32) (c c2 : Int32) : Prop := ¬ (1 ≤ n ∧ n ≤ 200) ∧ c2 = c ∨ ∃ k : Nat, k ≤ 200 ∧ (1 ≤ n ∧ n ≤ 200) ∧ n = nI k ∧ c2 = c + nI k
theorem now_s {c : Int32} {k : Nat} : c + nI k + 1 = c + nI (k + 1) := by rw [Int32.add_assoc, nI_1]
theorem now_0 {c : Int32} : c = c + nI 0 := by rw [show nI 0 = (0 : Int32) from rfl, Int32.add_zero]
set_option maxRecDepth 100000 in
set_option maxHeartbeats 4000000 in
theorem gox_l {N : Nat} (hN : N ≤ 200) {l : Launch} {G : xG} {M : xM} {J : xJ} {Q : xQ} {L : Nat} (h_L : L ≤ 128) (e_L : M 1 4 = nI L) (hv : ∀ k, k < 128 → M 3 k ≤ 100000) {cn : Nat} (h_cn : cn ≤ 5) (e_cn : M 13 2 = nI cn) (hC : ∀ M2 : xM, Ke W13t M M2 → M2 13 3 = M 13 3 + nI N → x_X l G fX9_go 6 0 0 Q 34 [(0, .ref 0)] [] x_SH M2 J 0 0) : ∀ (m k : Nat) (M1 : xM), k + m = N → Ke W13t M M1 → M1 13 3 = M 13 3 + nI k → x_X l G fX9_go 6 0 0 Q 16 [(2, .int (nI (k))), (1, .int (nI (N))), (0, .ref (0))] [] x_SH M1 J 0 0 := by
  intro m
  induction m with
  | zero =>
    intro k M1 hk hM hn
    refine xr_iload_n dX9_go_16 0 rfl ?_
    refine xr_iload_n dX9_go_17 1 rfl ?_
    refine xr_icmp_ge (tgt := 34) dX9_go_18 rfl (fun _ => ?_) (fun c => absurd (nI_le (a := N) (b := k) (by omega) (by omega)) c)
    obtain rfl : k = N := by omega
    refine xb_ls (ls2 := [(0, .ref (0))]) [2] rfl ?_
    exact hC _ hM hn
  | succ m ih =>
    intro k M1 hk hM hn
    refine xr_iload_n dX9_go_16 0 rfl ?_
    refine xr_iload_n dX9_go_17 1 rfl ?_
    refine xr_icmp_ge (tgt := 34) dX9_go_18 rfl (fun c => absurd c (nI_ge (a := k) (b := N) (by omega) (by omega))) (fun _ => ?_)
    refine xr_aload_n dX9_go_21 2 rfl ?_
    refine xr_getR flX9_28 dX9_go_22 s_0 rfl ?_
    refine xr_callV (As := []) (rest := []) mlX9_161 (g_X5_tick (fun k hk => by have h3 := (show M1 3 k = M 3 k from (Eq.trans (hM 3 k (by unfold W13t; omega)) rfl)); rw [h3]; exact hv k hk) (by omega) (Eq.trans (hM 1 4 (by decide)) e_L) (by omega) (Eq.trans (hM 13 2 (by decide)) e_cn)) dX9_go_25 s_13 rfl rfl (Nat.le_of_ble_eq_true rfl) (by decide) ⟨by decide, by decide⟩ (fun v s2 M2 J2 hq => ?_)
    obtain ⟨rfl, rfl, rfl, k3, hx1⟩ := hq
    try dsimp only [Option.toList, List.cons_append, List.nil_append]
    refine xr_iinc (v := nI (k + 1)) (ls2 := [(2, .int (nI (k + 1))), (1, .int (nI (N))), (0, .ref (0))]) dX9_go_28 0 rfl (nI_1 _) (by decide) rfl ?_
    refine xr_goto (tgt := 16) dX9_go_31 rfl ?_
    refine xb_ls (ls2 := [(2, .int (nI (k + 1))), (1, .int (nI (N))), (0, .ref (0))]) [0, 1, 2] rfl ?_
    exact ih (k + 1) M2 (by omega) (Ke.tr (fun _ _ h => h) hM k3) ((hx1.trans (congrArg (· + 1) hn)).trans now_s)
set_option maxRecDepth 100000 in
set_option maxHeartbeats 4000000 in
theorem rgox_l {up : Int32} {N : Nat} (hN : N ≤ 200) {l : Launch} {G : xG} {M : xM} {J : xJ} {Q : xQ} {hn : Nat} (h_hn : hn ≤ 5) (e_hn : M 62 6 = nI hn) (hw : ∀ k, k < hn → M 63 (5 + k) ≠ 0) (hbt : M 63 16 ≠ 0) (htx : M 62 13 = -1 ∨ ∃ n : Nat, n ≤ 120 ∧ M 62 13 = nI n) (hC : ∀ M2 : xM, Ke WRG M M2 → M2 62 9 = M 62 9 + nI N → x_X l G fX10_go 62 0 0 Q 92 [(2, .int up), (0, .ref 62)] [] x_SH M2 J 0 0) : ∀ (m k : Nat) (M1 : xM), k + m = N → Ke WRG M M1 → M1 62 9 = M 62 9 + nI k → x_X l G fX10_go 62 0 0 Q 31 [(3, .int (nI (k))), (2, .int (up)), (1, .int (nI (N))), (0, .ref (62))] [] x_SH M1 J 0 0 := by
  intro m
  induction m with
  | zero =>
    intro k M1 hk hM hnw
    refine xr_iload_n dX10_go_31 0 rfl ?_
    refine xr_iload_n dX10_go_32 2 rfl ?_
    refine xr_icmp_ge (tgt := 92) dX10_go_33 rfl (fun _ => ?_) (fun c => absurd (nI_le (a := N) (b := k) (by omega) (by omega)) c)
    obtain rfl : k = N := by omega
    refine xb_ls (ls2 := [(2, .int (up)), (0, .ref (62))]) [1, 3] rfl ?_
    exact hC _ hM hnw
  | succ m ih =>
    intro k M1 hk hM hnw
    refine xr_iload_n dX10_go_31 0 rfl ?_
    refine xr_iload_n dX10_go_32 2 rfl ?_
    refine xr_icmp_ge (tgt := 92) dX10_go_33 rfl (fun c => absurd c (nI_ge (a := k) (b := N) (by omega) (by omega))) (fun _ => ?_)
    refine xr_aload_n dX10_go_36 3 rfl ?_
    refine xr_iload_n dX10_go_37 1 rfl ?_
    refine xr_callV (As := [.int (up)]) (rest := []) mlX10_252 (g_X10_lyingOf up h_hn (Eq.trans (hM 62 6 (by decide)) e_hn) (fun kw hkw => by rw [show M1 63 (5 + kw) = M 63 (5 + kw) from (Eq.trans (hM 63 (5 + kw) (by unfold WRG; omega)) rfl)]; exact hw kw hkw) (by rw [show M1 63 16 = M 63 16 from (Eq.trans (hM 63 16 (by unfold WRG; omega)) rfl)]; exact hbt) (by rw [show M1 62 13 = M 62 13 from (Eq.trans (hM 62 13 (by unfold WRG; omega)) rfl)]; exact htx)) dX10_go_38 s_62 rfl rfl (Nat.le_of_ble_eq_true rfl) (by decide) ⟨by decide, by decide⟩ (fun v s2 M9 J2 hq => ?_)
    obtain ⟨r1, rfl, rfl, rfl, rfl, _⟩ := hq
    try dsimp only [Option.toList, List.cons_append, List.nil_append]
    refine xr_istore (ls2 := [(4, .int (r1)), (3, .int (nI (k))), (2, .int (up)), (1, .int (nI (N))), (0, .ref (62))]) dX10_go_41 (by decide) rfl ?_
    refine xr_aload_n dX10_go_43 4 rfl ?_
    refine xr_aload_n dX10_go_44 4 rfl ?_
    refine xb_get (v := (M 62 9 + nI (k))) flX10_151 dX10_go_45 s_62 rfl hnw ?_
    refine xr_callV (As := [.int ((M 62 9 + nI (k)))]) (rest := []) mlX10_255 (g_X10_tickGoes (M 62 9 + nI (k)) h_hn (Eq.trans (hM 62 6 (by decide)) e_hn) (fun kw hkw => by rw [show M1 63 (5 + kw) = M 63 (5 + kw) from (Eq.trans (hM 63 (5 + kw) (by unfold WRG; omega)) rfl)]; exact hw kw hkw) (by rw [show M1 63 16 = M 63 16 from (Eq.trans (hM 63 16 (by unfold WRG; omega)) rfl)]; exact hbt) (by rw [show M1 62 13 = M 62 13 from (Eq.trans (hM 62 13 (by unfold WRG; omega)) rfl)]; exact htx)) dX10_go_48 s_62 rfl rfl (Nat.le_of_ble_eq_true rfl) (by decide) ⟨by decide, by decide⟩ (fun v s2 M2 J2 hq => ?_)
    obtain ⟨rfl, rfl, rfl, k3, _⟩ := hq
    try dsimp only [Option.toList, List.cons_append, List.nil_append]
    refine xr_aload_n dX10_go_51 4 rfl ?_
    refine xr_aload_n dX10_go_52 4 rfl ?_
    refine xr_iload_n dX10_go_53 2 rfl ?_
    refine xr_callV (As := [.int (up)]) (rest := [.ref (62)]) mlX10_252 (g_X10_lyingOf up h_hn (Eq.trans (k3 62 6 (by decide)) (Eq.trans (hM 62 6 (by decide)) e_hn)) (fun kw hkw => by rw [show M2 63 (5 + kw) = M 63 (5 + kw) from (Eq.trans (k3 63 (5 + kw) (by unfold WR1; omega)) (Eq.trans (hM 63 (5 + kw) (by unfold WRG; omega)) rfl))]; exact hw kw hkw) (by rw [show M2 63 16 = M 63 16 from (Eq.trans (k3 63 16 (by unfold WR1; omega)) (Eq.trans (hM 63 16 (by unfold WRG; omega)) rfl))]; exact hbt) (by rw [show M2 62 13 = M 62 13 from (Eq.trans (k3 62 13 (by unfold WR1; omega)) (Eq.trans (hM 62 13 (by unfold WRG; omega)) rfl))]; exact htx)) dX10_go_54 s_62 rfl rfl (Nat.le_of_ble_eq_true rfl) (by decide) ⟨by decide, by decide⟩ (fun v s2 M9 J2 hq => ?_)
    obtain ⟨r4, rfl, rfl, rfl, rfl, _⟩ := hq
    try dsimp only [Option.toList, List.cons_append, List.nil_append]
    refine xr_iload dX10_go_57 0 rfl ?_
    refine xr_icmp_le (tgt := 69) dX10_go_59 rfl (fun c5 => ?_) (fun c5 => ?_)
    · refine xr_aload_n dX10_go_69 4 rfl ?_
      refine xb_get (v := M2 62 25) flX10_46 dX10_go_70 s_62 rfl rfl ?_
      refine xr_putI fpX10_46 dX10_go_73 s_62 rfl rfl rfl ?_
      refine xr_aload_n dX10_go_76 4 rfl ?_
      refine xr_dup dX10_go_77 rfl ?_
      refine xb_get (v := (M 62 9 + nI (k))) flX10_151 dX10_go_78 s_62 rfl (Eq.trans (x_up_k _ _ _ (by decide)) (Eq.trans (k3 62 9 (by decide)) hnw)) ?_
      refine xr_iconst (v := 1) dX10_go_81 rfl ?_
      refine xr_iadd dX10_go_82 ?_
      refine xr_putI fpX10_151 dX10_go_83 s_62 rfl rfl rfl ?_
      refine xr_iinc (v := nI (k + 1)) (ls2 := [(3, .int (nI (k + 1))), (4, .int (r1)), (2, .int (up)), (1, .int (nI (N))), (0, .ref (62))]) dX10_go_86 1 rfl (nI_1 _) (by decide) rfl ?_
      refine xr_goto (tgt := 31) dX10_go_89 rfl ?_
      refine xb_ls (ls2 := [(3, .int (nI (k + 1))), (2, .int (up)), (1, .int (nI (N))), (0, .ref (62))]) [0, 2, 3, 4] rfl ?_
      exact ih (k + 1) (x_up (x_up M2 62 25 (M2 62 25)) 62 9 ((M 62 9 + nI (k)) + 1)) (by omega) (Ke.up (Or.inr (Or.inr (Or.inr (Or.inr (Or.inr (Or.inr (Or.inr (Or.inr (Or.inl (by omega)))))))))) (Ke.up (Or.inr (Or.inr (Or.inr (Or.inr (Or.inr (Or.inr (Or.inr (Or.inr (Or.inr (Or.inr (Or.inl (by omega)))))))))))) (Ke.tr (fun pp kk => (fun hh => Or.elim hh (fun h => (Or.inl h)) (fun hh => Or.elim hh (fun h => (Or.inr (Or.inl h))) (fun hh => Or.elim hh (fun h => (Or.inr (Or.inr (Or.inl h)))) (fun hh => Or.elim hh (fun h => (Or.inr (Or.inr (Or.inr (Or.inl h))))) (fun hh => Or.elim hh (fun h => (Or.inr (Or.inr (Or.inr (Or.inr (Or.inl h)))))) (fun hh => Or.elim hh (fun h => (Or.inr (Or.inr (Or.inr (Or.inr (Or.inr (Or.inl h))))))) (fun hh => Or.elim hh (fun h => (Or.inr (Or.inr (Or.inr (Or.inr (Or.inr (Or.inr (Or.inl h)))))))) (fun h => (Or.inr (Or.inr (Or.inr (Or.inr (Or.inr (Or.inr (Or.inr (Or.inl h))))))))))))))))) hM k3))) ((x_up_s _ _ _ _).trans now_s)
    · refine xr_aload_n dX10_go_62 4 rfl ?_
      refine xb_get (v := (M 62 9 + nI (k))) flX10_151 dX10_go_63 s_62 rfl (Eq.trans (k3 62 9 (by decide)) hnw) ?_
      refine xr_goto (tgt := 73) dX10_go_66 rfl ?_
      refine xr_putI fpX10_46 dX10_go_73 s_62 rfl rfl rfl ?_
      refine xr_aload_n dX10_go_76 4 rfl ?_
      refine xr_dup dX10_go_77 rfl ?_
      refine xb_get (v := (M 62 9 + nI (k))) flX10_151 dX10_go_78 s_62 rfl (Eq.trans (x_up_k _ _ _ (by decide)) (Eq.trans (k3 62 9 (by decide)) hnw)) ?_
      refine xr_iconst (v := 1) dX10_go_81 rfl ?_
      refine xr_iadd dX10_go_82 ?_
      refine xr_putI fpX10_151 dX10_go_83 s_62 rfl rfl rfl ?_
      refine xr_iinc (v := nI (k + 1)) (ls2 := [(3, .int (nI (k + 1))), (4, .int (r1)), (2, .int (up)), (1, .int (nI (N))), (0, .ref (62))]) dX10_go_86 1 rfl (nI_1 _) (by decide) rfl ?_
      refine xr_goto (tgt := 31) dX10_go_89 rfl ?_
      refine xb_ls (ls2 := [(3, .int (nI (k + 1))), (2, .int (up)), (1, .int (nI (N))), (0, .ref (62))]) [0, 2, 3, 4] rfl ?_
      exact ih (k + 1) (x_up (x_up M2 62 25 (M 62 9 + nI (k))) 62 9 ((M 62 9 + nI (k)) + 1)) (by omega) (Ke.up (Or.inr (Or.inr (Or.inr (Or.inr (Or.inr (Or.inr (Or.inr (Or.inr (Or.inl (by omega)))))))))) (Ke.up (Or.inr (Or.inr (Or.inr (Or.inr (Or.inr (Or.inr (Or.inr (Or.inr (Or.inr (Or.inr (Or.inl (by omega)))))))))))) (Ke.tr (fun pp kk => (fun hh => Or.elim hh (fun h => (Or.inl h)) (fun hh => Or.elim hh (fun h => (Or.inr (Or.inl h))) (fun hh => Or.elim hh (fun h => (Or.inr (Or.inr (Or.inl h)))) (fun hh => Or.elim hh (fun h => (Or.inr (Or.inr (Or.inr (Or.inl h))))) (fun hh => Or.elim hh (fun h => (Or.inr (Or.inr (Or.inr (Or.inr (Or.inl h)))))) (fun hh => Or.elim hh (fun h => (Or.inr (Or.inr (Or.inr (Or.inr (Or.inr (Or.inl h))))))) (fun hh => Or.elim hh (fun h => (Or.inr (Or.inr (Or.inr (Or.inr (Or.inr (Or.inr (Or.inl h)))))))) (fun h => (Or.inr (Or.inr (Or.inr (Or.inr (Or.inr (Or.inr (Or.inr (Or.inl h))))))))))))))))) hM k3))) ((x_up_s _ _ _ _).trans now_s)
abbrev WG67 (p k : Nat) : Prop := (67 ≤ p ∧ p ≤ 68) ∨ (p = 63 ∧ 10 ≤ k ∧ k ≤ 14)
set_option maxRecDepth 100000 in
set_option maxHeartbeats 4000000 in
theorem rg3_l {up : Int32} {l : Launch} {G : xG} {M : xM} {J : xJ} {Q : xQ} {hn : Nat} (h_hn : hn ≤ 5) (e_hn : M 62 6 = nI hn) (hw : ∀ k, k < hn → M 63 (5 + k) ≠ 0) (hbt : M 63 16 ≠ 0) (htx : M 62 13 = -1 ∨ ∃ n : Nat, n ≤ 120 ∧ M 62 13 = nI n) (hC : ∀ (M2 : xM), Ke WG67 M M2 → x_X l G fX10_go 62 0 0 Q 160 [(2, .int (up)), (0, .ref (62))] [] x_SH M2 J 0 0) : ∀ (m k : Nat) (M1 : xM), k + m = hn → Ke WG67 M M1 → x_X l G fX10_go 62 0 0 Q 107 [(3, .int (nI (k))), (2, .int (up)), (0, .ref (62))] [] x_SH M1 J 0 0 := by
  intro m
  induction m with
  | zero =>
    intro k M1 hk hM
    refine xr_iload_n dX10_go_107 0 rfl ?_
    refine xr_aload_n dX10_go_108 2 rfl ?_
    refine xb_get (v := nI (hn)) flX10_109 dX10_go_109 s_62 rfl (Eq.trans (hM 62 6 (by decide)) e_hn) ?_
    refine xr_icmp_ge (tgt := 160) dX10_go_112 rfl (fun _ => ?_) (fun c => absurd (nI_le (a := hn) (b := k) (by omega) (by omega)) c)
    refine xb_ls (ls2 := [(2, .int (up)), (0, .ref (62))]) [1, 2] rfl ?_
    exact hC _ hM
  | succ m ih =>
    intro k M1 hk hM
    have hkN : k < hn := by omega
    refine xr_iload_n dX10_go_107 0 rfl ?_
    refine xr_aload_n dX10_go_108 2 rfl ?_
    refine xb_get (v := nI (hn)) flX10_109 dX10_go_109 s_62 rfl (Eq.trans (hM 62 6 (by decide)) e_hn) ?_
    refine xr_icmp_ge (tgt := 160) dX10_go_112 rfl (fun c => absurd c (nI_ge (a := k) (b := hn) (by omega) (by omega))) (fun _ => ?_)
    refine xr_aload_n dX10_go_115 2 rfl ?_
    refine xr_getR flX10_22 dX10_go_116 s_62 rfl ?_
    refine xr_iload_n dX10_go_119 0 rfl ?_
    refine xr_aload_n dX10_go_120 2 rfl ?_
    refine xr_getR flX10_37 dX10_go_121 s_62 rfl ?_
    refine xr_iload_n dX10_go_124 0 rfl ?_
    refine xb_iald (j := k) (v := M1 72 k) dX10_go_125 s_72 (by omega) (by decide) rfl ?_
    refine xb_iast (j := k) dX10_go_126 s_67 (by omega) (by decide) ?_
    refine xr_aload_n dX10_go_127 2 rfl ?_
    refine xr_getR flX10_9 dX10_go_128 s_62 rfl ?_
    refine xr_bipush (v := 10) dX10_go_131 rfl ?_
    refine xr_iload_n dX10_go_133 0 rfl ?_
    refine xr_iadd dX10_go_134 ?_
    refine xb_top (y := nI (10 + k)) (nI_add (10) (k)) ?_
    refine xr_aload_n dX10_go_135 2 rfl ?_
    refine xr_getR flX10_40 dX10_go_136 s_62 rfl ?_
    refine xr_iload_n dX10_go_139 0 rfl ?_
    refine xb_iald (j := k) (v := (x_up M1 67 k (M1 72 k)) 73 k) dX10_go_140 s_73 (by omega) (by decide) rfl ?_
    refine xb_iast (j := 10 + k) dX10_go_141 s_63 (by omega) (by decide) ?_
    refine xr_aload_n dX10_go_142 2 rfl ?_
    refine xr_getR flX10_25 dX10_go_143 s_62 rfl ?_
    refine xr_iload_n dX10_go_146 0 rfl ?_
    refine xr_aload_n dX10_go_147 2 rfl ?_
    refine xr_getR flX10_43 dX10_go_148 s_62 rfl ?_
    refine xr_iload_n dX10_go_151 0 rfl ?_
    refine xb_iald (j := k) (v := (x_up (x_up M1 67 k (M1 72 k)) 63 (10 + k) ((x_up M1 67 k (M1 72 k)) 73 k)) 74 k) dX10_go_152 s_74 (by omega) (by decide) rfl ?_
    refine xb_iast (j := k) dX10_go_153 s_68 (by omega) (by decide) ?_
    refine xr_iinc (v := nI (k + 1)) (ls2 := [(3, .int (nI (k + 1))), (2, .int (up)), (0, .ref (62))]) dX10_go_154 0 rfl (nI_1 _) (by decide) rfl ?_
    refine xr_goto (tgt := 107) dX10_go_157 rfl ?_
    refine xb_ls (ls2 := [(3, .int (nI (k + 1))), (2, .int (up)), (0, .ref (62))]) [0, 1, 2] rfl ?_
    exact ih (k + 1) (x_up (x_up (x_up M1 67 k (M1 72 k)) 63 (10 + k) ((x_up M1 67 k (M1 72 k)) 73 k)) 68 k ((x_up (x_up M1 67 k (M1 72 k)) 63 (10 + k) ((x_up M1 67 k (M1 72 k)) 73 k)) 74 k)) (by omega) (Ke.up (Or.inl (by omega)) (Ke.up (Or.inr (by omega)) (Ke.up (Or.inl (by omega)) hM)))
