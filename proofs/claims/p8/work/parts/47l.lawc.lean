set_option maxRecDepth 100000 in
set_option maxHeartbeats 4000000 in
theorem lwx_30 {l : Launch} {G : xG} (hL : G.2.2.2.2.1 ≤ 3072) {M : xM} {J : xJ} {i : Nat} (hi : i + 6 ≤ G.2.2.2.2.1) (hC : InvC M) (hR : InvR M) (hB_ : RB M) (hP_ : RP M) (hT_ : RT M) (hS_ : RS M) (hE_ : RE J) (hY_ : RY M J) (hX_ : RX M) (hN : ∀ (M2 : xM) (J2 : xJ), InvC M2 → InvR M2 → RB M2 → RP M2 → RT M2 → RS M2 → RE J2 → RY M2 J2 → RX M2 → x_X l G fL_law 200 600000 7302250 (qR (some (.int 1))) 1502 [(3, .int (nI (i))), (2, .ref (62)), (1, .ref (0)), (0, .ref (1002))] [] x_SH M2 J2 87 2934) : x_X l G fL_law 200 600000 7302250 (qR (some (.int 1))) 1086 [(3, .int (nI (i))), (2, .ref (62)), (1, .ref (0)), (0, .ref (1002))] [] x_SH M J 87 2934 := by
  refine xr_aload_n dL_law_1086 2 rfl ?_
  obtain ⟨nh, D, t, S, lg, lu, lw, hWG, ⟨hGc, hGr⟩, ⟨hWL, hLc, hLr⟩, hKX⟩ := id hX_
  refine xr_callV (As := []) (rest := []) mlL_138 (gx_X9_undo hC hWG hGc hWL hLc) dL_law_1087 s_0 rfl rfl (Nat.le_of_ble_eq_true rfl) (by decide) ⟨by decide, by decide⟩ (fun v s2 M3 J2 hq => ?_)
  obtain ⟨r5, rfl, rfl, rfl, k4, hI1, hx2⟩ := hq
  try dsimp only [Option.toList, List.cons_append, List.nil_append]
  have kk6 : ∀ p k, 62 ≤ p → M3 p k = M p k := (fun p k hp => k4 p k (by unfold WUN; omega))
  refine xr_pop dL_law_1090 rfl ?_
  refine xr_aload_n dL_law_1091 1 rfl ?_
  refine xr_callV (As := []) (rest := []) mlL_141 (gx_X10_undo (InvR_ke kk6 hR) hWG (RG_f hWG.1 hGr kk6) hWL (RLg_f hLr kk6)) dL_law_1092 s_62 rfl rfl (Nat.le_of_ble_eq_true rfl) (by decide) ⟨by decide, by decide⟩ (fun v s2 M9 J2 hq => ?_)
  obtain ⟨r11, rfl, rfl, rfl, k10, hI7, hx8⟩ := hq
  try dsimp only [Option.toList, List.cons_append, List.nil_append]
  have kk12 : ∀ p k, p < 62 → M9 p k = M3 p k := (fun p k hp => k10 p k (by unfold WUD; omega))
  refine xr_pop dL_law_1095 rfl ?_
  refine xr_goto (tgt := 1502) dL_law_1096 rfl ?_
  refine xb_ls (ls2 := [(3, .int (nI (i))), (2, .ref (62)), (1, .ref (0)), (0, .ref (1002))]) [0, 1, 2, 3] rfl ?_
  exact hN _ _ (InvC_ke kk12 hI1) hI7 (RB_f (fun p k hp => (k10 p k (nx_WUD_CSB hp)).trans (k4 p k (nx_WUN_CSB hp))) hB_) (RP_f (fun p k hp => (k10 p k (nx_WUD_CSP hp)).trans (k4 p k (nx_WUN_CSP hp))) hP_) (RT_f (fun p k hp => (k10 p k (nx_WUD_CST hp)).trans (k4 p k (nx_WUN_CST hp))) hT_) (RS_f (fun p k hp => (k10 p k (nx_WUD_CSS hp)).trans (k4 p k (nx_WUN_CSS hp))) hS_) (RE_f rfl rfl hE_) (RY_f (fun p k hp => (k10 p k (nx_WUD_CSY hp)).trans (k4 p k (nx_WUN_CSY hp))) hY_) (jX_undo hWG hWL (KX_f (fun p k hp => (k10 p k (nx_WUD_CSk hp)).trans (k4 p k (nx_WUN_CSk hp))) (Nat.le_refl _) hWG.1 hKX) kk12 hx2 hx8).2
set_option maxRecDepth 100000 in
set_option maxHeartbeats 4000000 in
theorem lwx_31 {l : Launch} {G : xG} (hL : G.2.2.2.2.1 ≤ 3072) {M : xM} {J : xJ} {i : Nat} (hi : i + 6 ≤ G.2.2.2.2.1) (hC : InvC M) (hR : InvR M) (hB_ : RB M) (hP_ : RP M) (hT_ : RT M) (hS_ : RS M) (hE_ : RE J) (hY_ : RY M J) (hX_ : RX M) (hN : ∀ (M2 : xM) (J2 : xJ), InvC M2 → InvR M2 → RB M2 → RP M2 → RT M2 → RS M2 → RE J2 → RY M2 J2 → RX M2 → x_X l G fL_law 200 600000 7302250 (qR (some (.int 1))) 1502 [(3, .int (nI (i))), (2, .ref (62)), (1, .ref (0)), (0, .ref (1002))] [] x_SH M2 J2 87 2934) : x_X l G fL_law 200 600000 7302250 (qR (some (.int 1))) 1099 [(3, .int (nI (i))), (2, .ref (62)), (1, .ref (0)), (0, .ref (1002))] [] x_SH M J 87 2934 := by
  refine xr_aload_n dL_law_1099 2 rfl ?_
  obtain ⟨nh, D, t, S, lg, lu, lw, hWG, ⟨hGc, hGr⟩, ⟨hWL, hLc, hLr⟩, hKX⟩ := id hX_
  refine xr_callV (As := []) (rest := []) mlL_142 (gx_X9_redo hC hWG hGc hWL hLc) dL_law_1100 s_0 rfl rfl (Nat.le_of_ble_eq_true rfl) (by decide) ⟨by decide, by decide⟩ (fun v s2 M3 J2 hq => ?_)
  obtain ⟨r5, rfl, rfl, rfl, k4, hI1, hx2⟩ := hq
  try dsimp only [Option.toList, List.cons_append, List.nil_append]
  have kk6 : ∀ p k, 62 ≤ p → M3 p k = M p k := (fun p k hp => k4 p k (by unfold WUN; omega))
  refine xr_pop dL_law_1103 rfl ?_
  refine xr_aload_n dL_law_1104 1 rfl ?_
  refine xr_callV (As := []) (rest := []) mlL_145 (gx_X10_redo (InvR_ke kk6 hR) hWG (RG_f hWG.1 hGr kk6) hWL (RLg_f hLr kk6)) dL_law_1105 s_62 rfl rfl (Nat.le_of_ble_eq_true rfl) (by decide) ⟨by decide, by decide⟩ (fun v s2 M9 J2 hq => ?_)
  obtain ⟨r11, rfl, rfl, rfl, k10, hI7, hx8⟩ := hq
  try dsimp only [Option.toList, List.cons_append, List.nil_append]
  have kk12 : ∀ p k, p < 62 → M9 p k = M3 p k := (fun p k hp => k10 p k (by unfold WUD; omega))
  refine xr_pop dL_law_1108 rfl ?_
  refine xr_goto (tgt := 1502) dL_law_1109 rfl ?_
  refine xb_ls (ls2 := [(3, .int (nI (i))), (2, .ref (62)), (1, .ref (0)), (0, .ref (1002))]) [0, 1, 2, 3] rfl ?_
  exact hN _ _ (InvC_ke kk12 hI1) hI7 (RB_f (fun p k hp => (k10 p k (nx_WUD_CSB hp)).trans (k4 p k (nx_WUN_CSB hp))) hB_) (RP_f (fun p k hp => (k10 p k (nx_WUD_CSP hp)).trans (k4 p k (nx_WUN_CSP hp))) hP_) (RT_f (fun p k hp => (k10 p k (nx_WUD_CST hp)).trans (k4 p k (nx_WUN_CST hp))) hT_) (RS_f (fun p k hp => (k10 p k (nx_WUD_CSS hp)).trans (k4 p k (nx_WUN_CSS hp))) hS_) (RE_f rfl rfl hE_) (RY_f (fun p k hp => (k10 p k (nx_WUD_CSY hp)).trans (k4 p k (nx_WUN_CSY hp))) hY_) (jX_redo hWG hWL (KX_f (fun p k hp => (k10 p k (nx_WUD_CSk hp)).trans (k4 p k (nx_WUN_CSk hp))) (Nat.le_refl _) hWG.1 hKX) kk12 hx2 hx8).2
set_option maxRecDepth 100000 in
set_option maxHeartbeats 4000000 in
theorem lwx_32 {l : Launch} {G : xG} (hL : G.2.2.2.2.1 ≤ 3072) {M : xM} {J : xJ} {i : Nat} (hi : i + 6 ≤ G.2.2.2.2.1) (hC : InvC M) (hR : InvR M) (hB_ : RB M) (hP_ : RP M) (hT_ : RT M) (hS_ : RS M) (hE_ : RE J) (hY_ : RY M J) (hX_ : RX M) (hN : ∀ (M2 : xM) (J2 : xJ), InvC M2 → InvR M2 → RB M2 → RP M2 → RT M2 → RS M2 → RE J2 → RY M2 J2 → RX M2 → x_X l G fL_law 200 600000 7302250 (qR (some (.int 1))) 1502 [(3, .int (nI (i))), (2, .ref (62)), (1, .ref (0)), (0, .ref (1002))] [] x_SH M2 J2 87 2934) : x_X l G fL_law 200 600000 7302250 (qR (some (.int 1))) 1112 [(3, .int (nI (i))), (2, .ref (62)), (1, .ref (0)), (0, .ref (1002))] [] x_SH M J 87 2934 := by
  refine xr_aload_n dL_law_1112 2 rfl ?_
  refine xr_aload_n dL_law_1113 3 rfl ?_
  refine xr_iload_n dL_law_1114 0 rfl ?_
  refine xr_iconst (v := 1) dL_law_1115 rfl ?_
  refine xr_iadd dL_law_1116 ?_
  refine xb_top (y := nI (i + 1)) (nI_add (i) (1)) ?_
  refine xr_sld rfl (vp_in_nI (show i + 1 < G.2.2.2.2.1 by omega) (by omega)) dL_law_1117 ?_
  refine xb_top (y := (G.2.2.2.2.2 (i + 1))) (by rw [nI_clamp (by omega)]) ?_
  refine xr_callV (As := [.int ((G.2.2.2.2.2 (i + 1)))]) (rest := []) mlL_146 (gs_X9_body (G.2.2.2.2.2 (i + 1)) hC) dL_law_1118 s_0 rfl rfl (Nat.le_of_ble_eq_true rfl) (by decide) ⟨by decide, by decide⟩ (fun v s2 M3 J2 hq => ?_)
  obtain ⟨r5, rfl, rfl, rfl, k4, hI1, hx2⟩ := hq
  try dsimp only [Option.toList, List.cons_append, List.nil_append]
  have kk6 : ∀ p k, 62 ≤ p → M3 p k = M p k := (fun p k hp => k4 p k (by unfold WBD; omega))
  refine xr_pop dL_law_1121 rfl ?_
  refine xr_aload_n dL_law_1122 1 rfl ?_
  refine xr_aload_n dL_law_1123 3 rfl ?_
  refine xr_iload_n dL_law_1124 0 rfl ?_
  refine xr_iconst (v := 1) dL_law_1125 rfl ?_
  refine xr_iadd dL_law_1126 ?_
  refine xb_top (y := nI (i + 1)) (nI_add (i) (1)) ?_
  refine xr_sld rfl (vp_in_nI (show i + 1 < G.2.2.2.2.1 by omega) (by omega)) dL_law_1127 ?_
  refine xb_top (y := (G.2.2.2.2.2 (i + 1))) (by rw [nI_clamp (by omega)]) ?_
  refine xr_callV (As := [.int ((G.2.2.2.2.2 (i + 1)))]) (rest := []) mlL_149 (gs_X10_body (G.2.2.2.2.2 (i + 1)) (InvR_ke kk6 hR)) dL_law_1128 s_62 rfl rfl (Nat.le_of_ble_eq_true rfl) (by decide) ⟨by decide, by decide⟩ (fun v s2 M9 J2 hq => ?_)
  obtain ⟨r11, rfl, rfl, rfl, k10, hI7, hx8⟩ := hq
  try dsimp only [Option.toList, List.cons_append, List.nil_append]
  have kk12 : ∀ p k, p < 62 → M9 p k = M3 p k := (fun p k hp => k10 p k (by unfold WRY; omega))
  refine xr_pop dL_law_1131 rfl ?_
  refine xr_goto (tgt := 1502) dL_law_1132 rfl ?_
  refine xb_ls (ls2 := [(3, .int (nI (i))), (2, .ref (62)), (1, .ref (0)), (0, .ref (1002))]) [0, 1, 2, 3] rfl ?_
  exact hN _ _ (InvC_ke kk12 hI1) hI7 (jB_body hx2 hx8 kk6 kk12 hB_).2 (RP_f (fun p k hp => (k10 p k (nx_WRY_CSP hp)).trans (k4 p k (nx_WBD_CSP hp))) hP_) (RT_f (fun p k hp => (k10 p k (nx_WRY_CST hp)).trans (k4 p k (nx_WBD_CST hp))) hT_) (jS_body (r2 := 0) hx2 k4 k10 kk6 kk12 hS_) (RE_f rfl rfl hE_) (RY_f (fun p k hp => (k10 p k (nx_WRY_CSY hp)).trans (k4 p k (nx_WBD_CSY hp))) hY_) (RX_f (fun p k hp => (k10 p k (nx_WRY_CSX hp)).trans (k4 p k (nx_WBD_CSX hp))) hX_)
