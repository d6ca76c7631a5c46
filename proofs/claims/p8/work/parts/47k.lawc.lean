set_option maxRecDepth 100000 in
set_option maxHeartbeats 4000000 in
theorem lwx_27 {l : Launch} {G : xG} (hL : G.2.2.2.2.1 ≤ 3072) {M : xM} {J : xJ} {i : Nat} (hi : i + 6 ≤ G.2.2.2.2.1) (hC : InvC M) (hR : InvR M) (hB_ : RB M) (hP_ : RP M) (hT_ : RT M) (hS_ : RS M) (hE_ : RE J) (hY_ : RY M J) (hX_ : RX M) (hN : ∀ (M2 : xM) (J2 : xJ), InvC M2 → InvR M2 → RB M2 → RP M2 → RT M2 → RS M2 → RE J2 → RY M2 J2 → RX M2 → x_X l G fL_law 200 600000 7302250 (qR (some (.int 1))) 1502 [(3, .int (nI (i))), (2, .ref (62)), (1, .ref (0)), (0, .ref (1002))] [] x_SH M2 J2 87 2934) : x_X l G fL_law 200 600000 7302250 (qR (some (.int 1))) 1027 [(3, .int (nI (i))), (2, .ref (62)), (1, .ref (0)), (0, .ref (1002))] [] x_SH M J 87 2934 := by
  refine xr_aload_n dL_law_1027 2 rfl ?_
  refine xr_aload_n dL_law_1028 3 rfl ?_
  refine xr_iload_n dL_law_1029 0 rfl ?_
  refine xr_iconst (v := 1) dL_law_1030 rfl ?_
  refine xr_iadd dL_law_1031 ?_
  refine xb_top (y := nI (i + 1)) (nI_add (i) (1)) ?_
  refine xr_sld rfl (vp_in_nI (show i + 1 < G.2.2.2.2.1 by omega) (by omega)) dL_law_1032 ?_
  refine xb_top (y := (G.2.2.2.2.2 (i + 1))) (by rw [nI_clamp (by omega)]) ?_
  refine xr_aload_n dL_law_1033 3 rfl ?_
  refine xr_iload_n dL_law_1034 0 rfl ?_
  refine xr_iconst (v := 2) dL_law_1035 rfl ?_
  refine xr_iadd dL_law_1036 ?_
  refine xb_top (y := nI (i + 2)) (nI_add (i) (2)) ?_
  refine xr_sld rfl (vp_in_nI (show i + 2 < G.2.2.2.2.1 by omega) (by omega)) dL_law_1037 ?_
  refine xb_top (y := (G.2.2.2.2.2 (i + 2))) (by rw [nI_clamp (by omega)]) ?_
  refine xr_callV (As := [.int ((G.2.2.2.2.2 (i + 1))), .int ((G.2.2.2.2.2 (i + 2)))]) (rest := []) mlL_126 (g_X9_till (G.2.2.2.2.2 (i + 1)) (G.2.2.2.2.2 (i + 2)) hC) dL_law_1038 s_0 rfl rfl (Nat.le_of_ble_eq_true rfl) (by decide) ⟨by decide, by decide⟩ (fun v s2 M9 J2 hq => ?_)
  obtain ⟨r3, rfl, rfl, rfl, rfl, hx2⟩ := hq
  try dsimp only [Option.toList, List.cons_append, List.nil_append]
  refine xr_pop dL_law_1041 rfl ?_
  refine xr_aload_n dL_law_1042 1 rfl ?_
  refine xr_aload_n dL_law_1043 3 rfl ?_
  refine xr_iload_n dL_law_1044 0 rfl ?_
  refine xr_iconst (v := 1) dL_law_1045 rfl ?_
  refine xr_iadd dL_law_1046 ?_
  refine xb_top (y := nI (i + 1)) (nI_add (i) (1)) ?_
  refine xr_sld rfl (vp_in_nI (show i + 1 < G.2.2.2.2.1 by omega) (by omega)) dL_law_1047 ?_
  refine xb_top (y := (G.2.2.2.2.2 (i + 1))) (by rw [nI_clamp (by omega)]) ?_
  refine xr_aload_n dL_law_1048 3 rfl ?_
  refine xr_iload_n dL_law_1049 0 rfl ?_
  refine xr_iconst (v := 2) dL_law_1050 rfl ?_
  refine xr_iadd dL_law_1051 ?_
  refine xb_top (y := nI (i + 2)) (nI_add (i) (2)) ?_
  refine xr_sld rfl (vp_in_nI (show i + 2 < G.2.2.2.2.1 by omega) (by omega)) dL_law_1052 ?_
  refine xb_top (y := (G.2.2.2.2.2 (i + 2))) (by rw [nI_clamp (by omega)]) ?_
  refine xr_callV (As := [.int ((G.2.2.2.2.2 (i + 1))), .int ((G.2.2.2.2.2 (i + 2)))]) (rest := []) mlL_129 (g_X10_till (G.2.2.2.2.2 (i + 1)) (G.2.2.2.2.2 (i + 2)) hR) dL_law_1053 s_62 rfl rfl (Nat.le_of_ble_eq_true rfl) (by decide) ⟨by decide, by decide⟩ (fun v s2 M9 J2 hq => ?_)
  obtain ⟨r6, rfl, rfl, rfl, rfl, hx5⟩ := hq
  try dsimp only [Option.toList, List.cons_append, List.nil_append]
  refine xr_pop dL_law_1056 rfl ?_
  refine xr_goto (tgt := 1502) dL_law_1057 rfl ?_
  refine xb_ls (ls2 := [(3, .int (nI (i))), (2, .ref (62)), (1, .ref (0)), (0, .ref (1002))]) [0, 1, 2, 3] rfl ?_
  exact hN _ _ hC hR hB_ hP_ hT_ hS_ (RE_f rfl rfl hE_) hY_ hX_
set_option maxRecDepth 100000 in
set_option maxHeartbeats 4000000 in
theorem lwx_28 {l : Launch} {G : xG} (hL : G.2.2.2.2.1 ≤ 3072) {M : xM} {J : xJ} {i : Nat} (hi : i + 6 ≤ G.2.2.2.2.1) (hC : InvC M) (hR : InvR M) (hB_ : RB M) (hP_ : RP M) (hT_ : RT M) (hS_ : RS M) (hE_ : RE J) (hY_ : RY M J) (hX_ : RX M) (hN : ∀ (M2 : xM) (J2 : xJ), InvC M2 → InvR M2 → RB M2 → RP M2 → RT M2 → RS M2 → RE J2 → RY M2 J2 → RX M2 → x_X l G fL_law 200 600000 7302250 (qR (some (.int 1))) 1502 [(3, .int (nI (i))), (2, .ref (62)), (1, .ref (0)), (0, .ref (1002))] [] x_SH M2 J2 87 2934) : x_X l G fL_law 200 600000 7302250 (qR (some (.int 1))) 1060 [(3, .int (nI (i))), (2, .ref (62)), (1, .ref (0)), (0, .ref (1002))] [] x_SH M J 87 2934 := by
  refine xr_aload_n dL_law_1060 2 rfl ?_
  obtain ⟨nh, D, t, S, lg, lu, lw, hWG, ⟨hGc, hGr⟩, ⟨hWL, hLc, hLr⟩, hKX⟩ := id hX_
  refine xr_callV (As := []) (rest := []) mlL_130 (gx_X9_image hC hWG hGc) dL_law_1061 s_0 rfl rfl (Nat.le_of_ble_eq_true rfl) (by decide) ⟨by decide, by decide⟩ (fun v s2 M3 J2 hq => ?_)
  obtain ⟨r5, rfl, rfl, rfl, k4, hI1, hx2⟩ := hq
  try dsimp only [Option.toList, List.cons_append, List.nil_append]
  have kk6 : ∀ p k, 62 ≤ p → M3 p k = M p k := (fun p k hp => k4 p k (by unfold WIM; omega))
  refine xr_pop dL_law_1064 rfl ?_
  refine xr_aload_n dL_law_1065 1 rfl ?_
  refine xr_callV (As := []) (rest := []) mlL_133 (gx_X10_image (InvR_ke kk6 hR) hWG (RG_f hWG.1 hGr kk6)) dL_law_1066 s_62 rfl rfl (Nat.le_of_ble_eq_true rfl) (by decide) ⟨by decide, by decide⟩ (fun v s2 M9 J2 hq => ?_)
  obtain ⟨r11, rfl, rfl, rfl, k10, hI7, hx8⟩ := hq
  try dsimp only [Option.toList, List.cons_append, List.nil_append]
  have kk12 : ∀ p k, p < 62 → M9 p k = M3 p k := (fun p k hp => k10 p k (by unfold WRI; omega))
  refine xr_pop dL_law_1069 rfl ?_
  refine xr_goto (tgt := 1502) dL_law_1070 rfl ?_
  refine xb_ls (ls2 := [(3, .int (nI (i))), (2, .ref (62)), (1, .ref (0)), (0, .ref (1002))]) [0, 1, 2, 3] rfl ?_
  exact hN _ _ (InvC_ke kk12 hI1) hI7 (RB_f (fun p k hp => (k10 p k (nx_WRI_CSB hp)).trans (k4 p k (nx_WIM_CSB hp))) hB_) (RP_f (fun p k hp => (k10 p k (nx_WRI_CSP hp)).trans (k4 p k (nx_WIM_CSP hp))) hP_) (RT_f (fun p k hp => (k10 p k (nx_WRI_CST hp)).trans (k4 p k (nx_WIM_CST hp))) hT_) (RS_f (fun p k hp => (k10 p k (nx_WRI_CSS hp)).trans (k4 p k (nx_WIM_CSS hp))) hS_) (RE_f rfl rfl hE_) (RY_f (fun p k hp => (k10 p k (nx_WRI_CSY hp)).trans (k4 p k (nx_WIM_CSY hp))) hY_) (jX_image hWG (LX_f (fun p k hp => (k10 p k (nx_WRI_CSu hp)).trans (k4 p k (nx_WIM_CSu hp))) ⟨hWL, hLc, hLr⟩) kk12 hx2 hx8).2
set_option maxRecDepth 100000 in
set_option maxHeartbeats 4000000 in
theorem lwx_29 {l : Launch} {G : xG} (hL : G.2.2.2.2.1 ≤ 3072) {M : xM} {J : xJ} {i : Nat} (hi : i + 6 ≤ G.2.2.2.2.1) (hC : InvC M) (hR : InvR M) (hB_ : RB M) (hP_ : RP M) (hT_ : RT M) (hS_ : RS M) (hE_ : RE J) (hY_ : RY M J) (hX_ : RX M) (hN : ∀ (M2 : xM) (J2 : xJ), InvC M2 → InvR M2 → RB M2 → RP M2 → RT M2 → RS M2 → RE J2 → RY M2 J2 → RX M2 → x_X l G fL_law 200 600000 7302250 (qR (some (.int 1))) 1502 [(3, .int (nI (i))), (2, .ref (62)), (1, .ref (0)), (0, .ref (1002))] [] x_SH M2 J2 87 2934) : x_X l G fL_law 200 600000 7302250 (qR (some (.int 1))) 1073 [(3, .int (nI (i))), (2, .ref (62)), (1, .ref (0)), (0, .ref (1002))] [] x_SH M J 87 2934 := by
  refine xr_aload_n dL_law_1073 2 rfl ?_
  obtain ⟨nh, D, t, S, lg, lu, lw, hWG, ⟨hGc, hGr⟩, ⟨hWL, hLc, hLr⟩, hKX⟩ := id hX_
  obtain ⟨n0, D0, U, hKc, hKr, hKw⟩ := KX_o hKX
  refine xr_callV (As := []) (rest := []) mlL_134 (gx_X9_back hC hWG hGc hKc) dL_law_1074 s_0 rfl rfl (Nat.le_of_ble_eq_true rfl) (by decide) ⟨by decide, by decide⟩ (fun v s2 M3 J2 hq => ?_)
  obtain ⟨r5, rfl, rfl, rfl, k4, hI1, hx2⟩ := hq
  try dsimp only [Option.toList, List.cons_append, List.nil_append]
  have kk6 : ∀ p k, 62 ≤ p → M3 p k = M p k := (fun p k hp => k4 p k (by unfold W13b; omega))
  refine xr_pop dL_law_1077 rfl ?_
  refine xr_aload_n dL_law_1078 1 rfl ?_
  refine xr_callV (As := []) (rest := []) mlL_137 (gx_X10_back (InvR_ke kk6 hR) hWG (RG_f hWG.1 hGr kk6) (hKr _ kk6)) dL_law_1079 s_62 rfl rfl (Nat.le_of_ble_eq_true rfl) (by decide) ⟨by decide, by decide⟩ (fun v s2 M9 J2 hq => ?_)
  obtain ⟨r11, rfl, rfl, rfl, k10, hI7, hx8⟩ := hq
  try dsimp only [Option.toList, List.cons_append, List.nil_append]
  have kk12 : ∀ p k, p < 62 → M9 p k = M3 p k := (fun p k hp => k10 p k (by unfold WRBK; omega))
  refine xr_pop dL_law_1082 rfl ?_
  refine xr_goto (tgt := 1502) dL_law_1083 rfl ?_
  refine xb_ls (ls2 := [(3, .int (nI (i))), (2, .ref (62)), (1, .ref (0)), (0, .ref (1002))]) [0, 1, 2, 3] rfl ?_
  exact hN _ _ (InvC_ke kk12 hI1) hI7 (RB_f (fun p k hp => (k10 p k (nx_WRBK_CSB hp)).trans (k4 p k (nx_W13b_CSB hp))) hB_) (RP_f (fun p k hp => (k10 p k (nx_WRBK_CSP hp)).trans (k4 p k (nx_W13b_CSP hp))) hP_) (RT_f (fun p k hp => (k10 p k (nx_WRBK_CST hp)).trans (k4 p k (nx_W13b_CST hp))) hT_) (RS_f (fun p k hp => (k10 p k (nx_WRBK_CSS hp)).trans (k4 p k (nx_W13b_CSS hp))) hS_) (RE_f rfl rfl hE_) (RY_f (fun p k hp => (k10 p k (nx_WRBK_CSY hp)).trans (k4 p k (nx_W13b_CSY hp))) hY_) (jX_back hWG (LX_f (fun p k hp => (k10 p k (nx_WRBK_CSu hp)).trans (k4 p k (nx_W13b_CSu hp))) ⟨hWL, hLc, hLr⟩) (KX_f (fun p k hp => (k10 p k (nx_WRBK_CSk hp)).trans (k4 p k (nx_W13b_CSk hp))) (Nat.le_refl _) hWG.1 hKX) kk12 (hKX.1.trans (kk6 62 33 (by decide)).symm) hKw hx2 hx8).2
