set_option maxRecDepth 100000 in
set_option maxHeartbeats 4000000 in
theorem lwx_6 {l : Launch} {G : xG} (hL : G.2.2.2.2.1 ≤ 3072) {M : xM} {J : xJ} {i : Nat} (hi : i + 6 ≤ G.2.2.2.2.1) (hC : InvC M) (hR : InvR M) (hB_ : RB M) (hP_ : RP M) (hT_ : RT M) (hS_ : RS M) (hE_ : RE J) (hY_ : RY M J) (hX_ : RX M) (hN : ∀ (M2 : xM) (J2 : xJ), InvC M2 → InvR M2 → RB M2 → RP M2 → RT M2 → RS M2 → RE J2 → RY M2 J2 → RX M2 → x_X l G fL_law 200 600000 7302250 (qR (some (.int 1))) 1502 [(3, .int (nI (i))), (2, .ref (62)), (1, .ref (0)), (0, .ref (1002))] [] x_SH M2 J2 87 2934) : x_X l G fL_law 200 600000 7302250 (qR (some (.int 1))) 394 [(3, .int (nI (i))), (2, .ref (62)), (1, .ref (0)), (0, .ref (1002))] [] x_SH M J 87 2934 := by
  refine xr_aload_n dL_law_394 2 rfl ?_
  refine xr_aload_n dL_law_395 3 rfl ?_
  refine xr_iload_n dL_law_396 0 rfl ?_
  refine xr_iconst (v := 1) dL_law_397 rfl ?_
  refine xr_iadd dL_law_398 ?_
  refine xb_top (y := nI (i + 1)) (nI_add (i) (1)) ?_
  refine xr_sld rfl (vp_in_nI (show i + 1 < G.2.2.2.2.1 by omega) (by omega)) dL_law_399 ?_
  refine xb_top (y := (G.2.2.2.2.2 (i + 1))) (by rw [nI_clamp (by omega)]) ?_
  obtain ⟨nh, D, t, S, lg, lu, lw, hWG, ⟨hGc, hGr⟩, ⟨hWL, hLc, hLr⟩, hKX⟩ := id hX_
  refine xr_callV (As := [.int ((G.2.2.2.2.2 (i + 1)))]) (rest := []) mlL_41 (gx_X9_go (G.2.2.2.2.2 (i + 1)) hC hWG hGc) dL_law_400 s_0 rfl rfl (Nat.le_of_ble_eq_true rfl) (by decide) ⟨by decide, by decide⟩ (fun v s2 M3 J2 hq => ?_)
  obtain ⟨r5, rfl, rfl, rfl, k4, hI1, hx2⟩ := hq
  try dsimp only [Option.toList, List.cons_append, List.nil_append]
  have kk6 : ∀ p k, 62 ≤ p → M3 p k = M p k := (fun p k hp => k4 p k (by unfold W13t; omega))
  refine xr_aload_n dL_law_403 1 rfl ?_
  refine xr_aload_n dL_law_404 3 rfl ?_
  refine xr_iload_n dL_law_405 0 rfl ?_
  refine xr_iconst (v := 1) dL_law_406 rfl ?_
  refine xr_iadd dL_law_407 ?_
  refine xb_top (y := nI (i + 1)) (nI_add (i) (1)) ?_
  refine xr_sld rfl (vp_in_nI (show i + 1 < G.2.2.2.2.1 by omega) (by omega)) dL_law_408 ?_
  refine xb_top (y := (G.2.2.2.2.2 (i + 1))) (by rw [nI_clamp (by omega)]) ?_
  refine xr_callV (As := [.int ((G.2.2.2.2.2 (i + 1)))]) (rest := [.int (r5)]) mlL_44 (gx_X10_go (G.2.2.2.2.2 (i + 1)) (InvR_ke kk6 hR) hWG (RG_f hWG.1 hGr kk6)) dL_law_409 s_62 rfl rfl (Nat.le_of_ble_eq_true rfl) (by decide) ⟨by decide, by decide⟩ (fun v s2 M9 J2 hq => ?_)
  obtain ⟨r11, rfl, rfl, rfl, k10, hI7, hx8⟩ := hq
  try dsimp only [Option.toList, List.cons_append, List.nil_append]
  have kk12 : ∀ p k, p < 62 → M9 p k = M3 p k := (fun p k hp => k10 p k (by unfold WRG; omega))
  refine xr_icmp_eq (tgt := 1502) dL_law_412 rfl (fun _ => ?_) (fun c => absurd (jX_go hWG (LX_f (fun p k hp => (k10 p k (nx_WRG_CSu hp)).trans (k4 p k (nx_W13t_CSu hp))) ⟨hWL, hLc, hLr⟩) (KX_f (fun p k hp => (k10 p k (nx_WRG_CSk hp)).trans (k4 p k (nx_W13t_CSk hp))) (Nat.le_refl _) hWG.1 hKX) kk12 hx2 hx8).1 c)
  refine xb_ls (ls2 := [(3, .int (nI (i))), (2, .ref (62)), (1, .ref (0)), (0, .ref (1002))]) [0, 1, 2, 3] rfl ?_
  exact hN _ _ (InvC_ke kk12 hI1) hI7 (RB_f (fun p k hp => (k10 p k (nx_WRG_CSB hp)).trans (k4 p k (nx_W13t_CSB hp))) hB_) (RP_f (fun p k hp => (k10 p k (nx_WRG_CSP hp)).trans (k4 p k (nx_W13t_CSP hp))) hP_) (RT_f (fun p k hp => (k10 p k (nx_WRG_CST hp)).trans (k4 p k (nx_W13t_CST hp))) hT_) (RS_f (fun p k hp => (k10 p k (nx_WRG_CSS hp)).trans (k4 p k (nx_W13t_CSS hp))) hS_) (RE_f rfl rfl hE_) (RY_f (fun p k hp => (k10 p k (nx_WRG_CSY hp)).trans (k4 p k (nx_W13t_CSY hp))) hY_) (jX_go hWG (LX_f (fun p k hp => (k10 p k (nx_WRG_CSu hp)).trans (k4 p k (nx_W13t_CSu hp))) ⟨hWL, hLc, hLr⟩) (KX_f (fun p k hp => (k10 p k (nx_WRG_CSk hp)).trans (k4 p k (nx_W13t_CSk hp))) (Nat.le_refl _) hWG.1 hKX) kk12 hx2 hx8).2
set_option maxRecDepth 100000 in
set_option maxHeartbeats 4000000 in
theorem lwx_7 {l : Launch} {G : xG} (hL : G.2.2.2.2.1 ≤ 3072) {M : xM} {J : xJ} {i : Nat} (hi : i + 6 ≤ G.2.2.2.2.1) (hC : InvC M) (hR : InvR M) (hB_ : RB M) (hP_ : RP M) (hT_ : RT M) (hS_ : RS M) (hE_ : RE J) (hY_ : RY M J) (hX_ : RX M) (hN : ∀ (M2 : xM) (J2 : xJ), InvC M2 → InvR M2 → RB M2 → RP M2 → RT M2 → RS M2 → RE J2 → RY M2 J2 → RX M2 → x_X l G fL_law 200 600000 7302250 (qR (some (.int 1))) 1502 [(3, .int (nI (i))), (2, .ref (62)), (1, .ref (0)), (0, .ref (1002))] [] x_SH M2 J2 87 2934) : x_X l G fL_law 200 600000 7302250 (qR (some (.int 1))) 417 [(3, .int (nI (i))), (2, .ref (62)), (1, .ref (0)), (0, .ref (1002))] [] x_SH M J 87 2934 := by
  refine xr_aload_n dL_law_417 2 rfl ?_
  refine xr_aload_n dL_law_418 3 rfl ?_
  refine xr_iload_n dL_law_419 0 rfl ?_
  refine xr_iconst (v := 1) dL_law_420 rfl ?_
  refine xr_iadd dL_law_421 ?_
  refine xb_top (y := nI (i + 1)) (nI_add (i) (1)) ?_
  refine xr_sld rfl (vp_in_nI (show i + 1 < G.2.2.2.2.1 by omega) (by omega)) dL_law_422 ?_
  refine xb_top (y := (G.2.2.2.2.2 (i + 1))) (by rw [nI_clamp (by omega)]) ?_
  obtain ⟨nh, D, t, S, lg, lu, lw, hWG, ⟨hGc, hGr⟩, ⟨hWL, hLc, hLr⟩, hKX⟩ := id hX_
  refine xr_callV (As := [.int ((G.2.2.2.2.2 (i + 1)))]) (rest := []) mlL_45 (gx_X9_lift (G.2.2.2.2.2 (i + 1)) hC hWG hGc) dL_law_423 s_0 rfl rfl (Nat.le_of_ble_eq_true rfl) (by decide) ⟨by decide, by decide⟩ (fun v s2 M3 J2 hq => ?_)
  obtain ⟨r5, rfl, rfl, rfl, k4, hI1, hx2⟩ := hq
  try dsimp only [Option.toList, List.cons_append, List.nil_append]
  have kk6 : ∀ p k, 62 ≤ p → M3 p k = M p k := (fun p k hp => k4 p k (by unfold W15; omega))
  refine xr_pop dL_law_426 rfl ?_
  refine xr_aload_n dL_law_427 1 rfl ?_
  refine xr_aload_n dL_law_428 3 rfl ?_
  refine xr_iload_n dL_law_429 0 rfl ?_
  refine xr_iconst (v := 1) dL_law_430 rfl ?_
  refine xr_iadd dL_law_431 ?_
  refine xb_top (y := nI (i + 1)) (nI_add (i) (1)) ?_
  refine xr_sld rfl (vp_in_nI (show i + 1 < G.2.2.2.2.1 by omega) (by omega)) dL_law_432 ?_
  refine xb_top (y := (G.2.2.2.2.2 (i + 1))) (by rw [nI_clamp (by omega)]) ?_
  refine xr_callV (As := [.int ((G.2.2.2.2.2 (i + 1)))]) (rest := []) mlL_48 (gx_X10_lift (G.2.2.2.2.2 (i + 1)) (InvR_ke kk6 hR) hWG (RG_f hWG.1 hGr kk6)) dL_law_433 s_62 rfl rfl (Nat.le_of_ble_eq_true rfl) (by decide) ⟨by decide, by decide⟩ (fun v s2 M9 J2 hq => ?_)
  obtain ⟨r11, rfl, rfl, rfl, k10, hI7, hx8⟩ := hq
  try dsimp only [Option.toList, List.cons_append, List.nil_append]
  have kk12 : ∀ p k, p < 62 → M9 p k = M3 p k := (fun p k hp => k10 p k (by unfold WLI; omega))
  refine xr_pop dL_law_436 rfl ?_
  refine xr_goto (tgt := 1502) dL_law_437 rfl ?_
  refine xb_ls (ls2 := [(3, .int (nI (i))), (2, .ref (62)), (1, .ref (0)), (0, .ref (1002))]) [0, 1, 2, 3] rfl ?_
  exact hN _ _ (InvC_ke kk12 hI1) hI7 (RB_f (fun p k hp => (k10 p k (nx_WLI_CSB hp)).trans (k4 p k (nx_W15_CSB hp))) hB_) (RP_f (fun p k hp => (k10 p k (nx_WLI_CSP hp)).trans (k4 p k (nx_W15_CSP hp))) hP_) (RT_f (fun p k hp => (k10 p k (nx_WLI_CST hp)).trans (k4 p k (nx_W15_CST hp))) hT_) (RS_f (fun p k hp => (k10 p k (nx_WLI_CSS hp)).trans (k4 p k (nx_W15_CSS hp))) hS_) (RE_f rfl rfl hE_) (RY_f (fun p k hp => (k10 p k (nx_WLI_CSY hp)).trans (k4 p k (nx_W15_CSY hp))) hY_) (jX_lift hWG (LX_f (fun p k hp => (k10 p k (nx_WLI_CSu hp)).trans (k4 p k (nx_W15_CSu hp))) ⟨hWL, hLc, hLr⟩) (KX_f (fun p k hp => (k10 p k (nx_WLI_CSk hp)).trans (k4 p k (nx_W15_CSk hp))) (Nat.le_refl _) hWG.1 hKX) kk12 hx2 hx8).2
set_option maxRecDepth 100000 in
set_option maxHeartbeats 4000000 in
theorem lwx_8 {l : Launch} {G : xG} (hL : G.2.2.2.2.1 ≤ 3072) {M : xM} {J : xJ} {i : Nat} (hi : i + 6 ≤ G.2.2.2.2.1) (hC : InvC M) (hR : InvR M) (hB_ : RB M) (hP_ : RP M) (hT_ : RT M) (hS_ : RS M) (hE_ : RE J) (hY_ : RY M J) (hX_ : RX M) (hN : ∀ (M2 : xM) (J2 : xJ), InvC M2 → InvR M2 → RB M2 → RP M2 → RT M2 → RS M2 → RE J2 → RY M2 J2 → RX M2 → x_X l G fL_law 200 600000 7302250 (qR (some (.int 1))) 1502 [(3, .int (nI (i))), (2, .ref (62)), (1, .ref (0)), (0, .ref (1002))] [] x_SH M2 J2 87 2934) : x_X l G fL_law 200 600000 7302250 (qR (some (.int 1))) 440 [(3, .int (nI (i))), (2, .ref (62)), (1, .ref (0)), (0, .ref (1002))] [] x_SH M J 87 2934 := by
  refine xr_aload_n dL_law_440 2 rfl ?_
  refine xr_aload_n dL_law_441 3 rfl ?_
  refine xr_iload_n dL_law_442 0 rfl ?_
  refine xr_iconst (v := 1) dL_law_443 rfl ?_
  refine xr_iadd dL_law_444 ?_
  refine xb_top (y := nI (i + 1)) (nI_add (i) (1)) ?_
  refine xr_sld rfl (vp_in_nI (show i + 1 < G.2.2.2.2.1 by omega) (by omega)) dL_law_445 ?_
  refine xb_top (y := (G.2.2.2.2.2 (i + 1))) (by rw [nI_clamp (by omega)]) ?_
  obtain ⟨nh, D, t, S, lg, lu, lw, hWG, ⟨hGc, hGr⟩, ⟨hWL, hLc, hLr⟩, hKX⟩ := id hX_
  refine xr_callV (As := [.int ((G.2.2.2.2.2 (i + 1)))]) (rest := []) mlL_49 (gx_X9_led (G.2.2.2.2.2 (i + 1)) hC hWG hGc) dL_law_446 s_0 rfl rfl (Nat.le_of_ble_eq_true rfl) (by decide) ⟨by decide, by decide⟩ (fun v s2 M9 J2 hq => ?_)
  obtain ⟨r3, rfl, rfl, rfl, rfl, hx2⟩ := hq
  try dsimp only [Option.toList, List.cons_append, List.nil_append]
  refine xr_pop dL_law_449 rfl ?_
  refine xr_aload_n dL_law_450 1 rfl ?_
  refine xr_aload_n dL_law_451 3 rfl ?_
  refine xr_iload_n dL_law_452 0 rfl ?_
  refine xr_iconst (v := 1) dL_law_453 rfl ?_
  refine xr_iadd dL_law_454 ?_
  refine xb_top (y := nI (i + 1)) (nI_add (i) (1)) ?_
  refine xr_sld rfl (vp_in_nI (show i + 1 < G.2.2.2.2.1 by omega) (by omega)) dL_law_455 ?_
  refine xb_top (y := (G.2.2.2.2.2 (i + 1))) (by rw [nI_clamp (by omega)]) ?_
  refine xr_callV (As := [.int ((G.2.2.2.2.2 (i + 1)))]) (rest := []) mlL_52 (gx_X10_led (G.2.2.2.2.2 (i + 1)) hR hWG (RG_f hWG.1 hGr (fun _ _ _ => rfl))) dL_law_456 s_62 rfl rfl (Nat.le_of_ble_eq_true rfl) (by decide) ⟨by decide, by decide⟩ (fun v s2 M9 J2 hq => ?_)
  obtain ⟨r6, rfl, rfl, rfl, rfl, hx5⟩ := hq
  try dsimp only [Option.toList, List.cons_append, List.nil_append]
  refine xr_pop dL_law_459 rfl ?_
  refine xr_goto (tgt := 1502) dL_law_460 rfl ?_
  refine xb_ls (ls2 := [(3, .int (nI (i))), (2, .ref (62)), (1, .ref (0)), (0, .ref (1002))]) [0, 1, 2, 3] rfl ?_
  exact hN _ _ hC hR hB_ hP_ hT_ hS_ (RE_f rfl rfl hE_) hY_ hX_
