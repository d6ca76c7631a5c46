set_option maxRecDepth 100000 in
set_option maxHeartbeats 4000000 in
theorem lwx_3 {l : Launch} {G : xG} (hL : G.2.2.2.2.1 ≤ 3072) {M : xM} {J : xJ} {i : Nat} (hi : i + 6 ≤ G.2.2.2.2.1) (hC : InvC M) (hR : InvR M) (hB_ : RB M) (hP_ : RP M) (hT_ : RT M) (hS_ : RS M) (hE_ : RE J) (hY_ : RY M J) (hX_ : RX M) (hN : ∀ (M2 : xM) (J2 : xJ), InvC M2 → InvR M2 → RB M2 → RP M2 → RT M2 → RS M2 → RE J2 → RY M2 J2 → RX M2 → x_X l G fL_law 200 600000 7302250 (qR (some (.int 1))) 1502 [(3, .int (nI (i))), (2, .ref (62)), (1, .ref (0)), (0, .ref (1002))] [] x_SH M2 J2 87 2934) : x_X l G fL_law 200 600000 7302250 (qR (some (.int 1))) 325 [(3, .int (nI (i))), (2, .ref (62)), (1, .ref (0)), (0, .ref (1002))] [] x_SH M J 87 2934 := by
  refine xr_aload_n dL_law_325 2 rfl ?_
  refine xr_aload_n dL_law_326 3 rfl ?_
  refine xr_iload_n dL_law_327 0 rfl ?_
  refine xr_iconst (v := 1) dL_law_328 rfl ?_
  refine xr_iadd dL_law_329 ?_
  refine xb_top (y := nI (i + 1)) (nI_add (i) (1)) ?_
  refine xr_sld rfl (vp_in_nI (show i + 1 < G.2.2.2.2.1 by omega) (by omega)) dL_law_330 ?_
  refine xb_top (y := (G.2.2.2.2.2 (i + 1))) (by rw [nI_clamp (by omega)]) ?_
  refine xr_aload_n dL_law_331 3 rfl ?_
  refine xr_iload_n dL_law_332 0 rfl ?_
  refine xr_iconst (v := 2) dL_law_333 rfl ?_
  refine xr_iadd dL_law_334 ?_
  refine xb_top (y := nI (i + 2)) (nI_add (i) (2)) ?_
  refine xr_sld rfl (vp_in_nI (show i + 2 < G.2.2.2.2.1 by omega) (by omega)) dL_law_335 ?_
  refine xb_top (y := (G.2.2.2.2.2 (i + 2))) (by rw [nI_clamp (by omega)]) ?_
  obtain ⟨nh, D, t, S, lg, lu, lw, hWG, ⟨hGc, hGr⟩, ⟨hWL, hLc, hLr⟩, hKX⟩ := id hX_
  refine xr_callV (As := [.int ((G.2.2.2.2.2 (i + 1))), .int ((G.2.2.2.2.2 (i + 2)))]) (rest := []) mlL_27 (gx_X9_of (G.2.2.2.2.2 (i + 1)) (G.2.2.2.2.2 (i + 2)) hC hWG hGc) dL_law_336 s_0 rfl rfl (Nat.le_of_ble_eq_true rfl) (by decide) ⟨by decide, by decide⟩ (fun v s2 M9 J2 hq => ?_)
  obtain ⟨r3, rfl, rfl, rfl, rfl, hx2⟩ := hq
  try dsimp only [Option.toList, List.cons_append, List.nil_append]
  refine xr_pop dL_law_339 rfl ?_
  refine xr_aload_n dL_law_340 1 rfl ?_
  refine xr_aload_n dL_law_341 3 rfl ?_
  refine xr_iload_n dL_law_342 0 rfl ?_
  refine xr_iconst (v := 1) dL_law_343 rfl ?_
  refine xr_iadd dL_law_344 ?_
  refine xb_top (y := nI (i + 1)) (nI_add (i) (1)) ?_
  refine xr_sld rfl (vp_in_nI (show i + 1 < G.2.2.2.2.1 by omega) (by omega)) dL_law_345 ?_
  refine xb_top (y := (G.2.2.2.2.2 (i + 1))) (by rw [nI_clamp (by omega)]) ?_
  refine xr_aload_n dL_law_346 3 rfl ?_
  refine xr_iload_n dL_law_347 0 rfl ?_
  refine xr_iconst (v := 2) dL_law_348 rfl ?_
  refine xr_iadd dL_law_349 ?_
  refine xb_top (y := nI (i + 2)) (nI_add (i) (2)) ?_
  refine xr_sld rfl (vp_in_nI (show i + 2 < G.2.2.2.2.1 by omega) (by omega)) dL_law_350 ?_
  refine xb_top (y := (G.2.2.2.2.2 (i + 2))) (by rw [nI_clamp (by omega)]) ?_
  refine xr_callV (As := [.int ((G.2.2.2.2.2 (i + 1))), .int ((G.2.2.2.2.2 (i + 2)))]) (rest := []) mlL_31 (gx_X10_of (G.2.2.2.2.2 (i + 1)) (G.2.2.2.2.2 (i + 2)) hR hWG (RG_f hWG.1 hGr (fun _ _ _ => rfl))) dL_law_351 s_62 rfl rfl (Nat.le_of_ble_eq_true rfl) (by decide) ⟨by decide, by decide⟩ (fun v s2 M9 J2 hq => ?_)
  obtain ⟨r6, rfl, rfl, rfl, rfl, hx5⟩ := hq
  try dsimp only [Option.toList, List.cons_append, List.nil_append]
  refine xr_pop dL_law_354 rfl ?_
  refine xr_goto (tgt := 1502) dL_law_355 rfl ?_
  refine xb_ls (ls2 := [(3, .int (nI (i))), (2, .ref (62)), (1, .ref (0)), (0, .ref (1002))]) [0, 1, 2, 3] rfl ?_
  exact hN _ _ hC hR hB_ hP_ hT_ hS_ (RE_f rfl rfl hE_) hY_ hX_
set_option maxRecDepth 100000 in
set_option maxHeartbeats 4000000 in
theorem lwx_4 {l : Launch} {G : xG} (hL : G.2.2.2.2.1 ≤ 3072) {M : xM} {J : xJ} {i : Nat} (hi : i + 6 ≤ G.2.2.2.2.1) (hC : InvC M) (hR : InvR M) (hB_ : RB M) (hP_ : RP M) (hT_ : RT M) (hS_ : RS M) (hE_ : RE J) (hY_ : RY M J) (hX_ : RX M) (hN : ∀ (M2 : xM) (J2 : xJ), InvC M2 → InvR M2 → RB M2 → RP M2 → RT M2 → RS M2 → RE J2 → RY M2 J2 → RX M2 → x_X l G fL_law 200 600000 7302250 (qR (some (.int 1))) 1502 [(3, .int (nI (i))), (2, .ref (62)), (1, .ref (0)), (0, .ref (1002))] [] x_SH M2 J2 87 2934) : x_X l G fL_law 200 600000 7302250 (qR (some (.int 1))) 358 [(3, .int (nI (i))), (2, .ref (62)), (1, .ref (0)), (0, .ref (1002))] [] x_SH M J 87 2934 := by
  refine xr_aload_n dL_law_358 2 rfl ?_
  refine xr_aload_n dL_law_359 3 rfl ?_
  refine xr_iload_n dL_law_360 0 rfl ?_
  refine xr_iconst (v := 1) dL_law_361 rfl ?_
  refine xr_iadd dL_law_362 ?_
  refine xb_top (y := nI (i + 1)) (nI_add (i) (1)) ?_
  refine xr_sld rfl (vp_in_nI (show i + 1 < G.2.2.2.2.1 by omega) (by omega)) dL_law_363 ?_
  refine xb_top (y := (G.2.2.2.2.2 (i + 1))) (by rw [nI_clamp (by omega)]) ?_
  refine xr_callV (As := [.int ((G.2.2.2.2.2 (i + 1)))]) (rest := []) mlL_32 (gv_X9_feed (G.2.2.2.2.2 (i + 1)) hC) dL_law_364 s_0 rfl rfl (Nat.le_of_ble_eq_true rfl) (by decide) ⟨by decide, by decide⟩ (fun v s2 M3 J2 hq => ?_)
  obtain ⟨r5, rfl, rfl, rfl, k4, hI1, hx2⟩ := hq
  try dsimp only [Option.toList, List.cons_append, List.nil_append]
  have kk6 : ∀ p k, 62 ≤ p → M3 p k = M p k := (fun p k hp => k4 p k (by unfold WTK; omega))
  refine xr_pop dL_law_367 rfl ?_
  refine xr_aload_n dL_law_368 1 rfl ?_
  refine xr_aload_n dL_law_369 3 rfl ?_
  refine xr_iload_n dL_law_370 0 rfl ?_
  refine xr_iconst (v := 1) dL_law_371 rfl ?_
  refine xr_iadd dL_law_372 ?_
  refine xb_top (y := nI (i + 1)) (nI_add (i) (1)) ?_
  refine xr_sld rfl (vp_in_nI (show i + 1 < G.2.2.2.2.1 by omega) (by omega)) dL_law_373 ?_
  refine xb_top (y := (G.2.2.2.2.2 (i + 1))) (by rw [nI_clamp (by omega)]) ?_
  refine xr_callV (As := [.int ((G.2.2.2.2.2 (i + 1)))]) (rest := []) mlL_35 (gv_X10_feed (G.2.2.2.2.2 (i + 1)) (InvR_ke kk6 hR)) dL_law_374 s_62 rfl rfl (Nat.le_of_ble_eq_true rfl) (by decide) ⟨by decide, by decide⟩ (fun v s2 M9 J2 hq => ?_)
  obtain ⟨r11, rfl, rfl, rfl, k10, hI7, hx8⟩ := hq
  try dsimp only [Option.toList, List.cons_append, List.nil_append]
  have kk12 : ∀ p k, p < 62 → M9 p k = M3 p k := (fun p k hp => k10 p k (by unfold WFES; omega))
  refine xr_pop dL_law_377 rfl ?_
  refine xr_goto (tgt := 1502) dL_law_378 rfl ?_
  refine xb_ls (ls2 := [(3, .int (nI (i))), (2, .ref (62)), (1, .ref (0)), (0, .ref (1002))]) [0, 1, 2, 3] rfl ?_
  exact hN _ _ (InvC_ke kk12 hI1) hI7 (RB_f (fun p k hp => (k10 p k (nx_WFES_CSB hp)).trans (k4 p k (nx_WTK_CSB hp))) hB_) (jP_feed hx2.1 hx8.1 kk6 kk12 hP_).2 (jT_feed hx2 hx8 kk6 kk12 hP_ hT_) (RS_f (fun p k hp => (k10 p k (nx_WFES_CSS hp)).trans (k4 p k (nx_WTK_CSS hp))) hS_) (RE_f rfl rfl hE_) (RY_f (fun p k hp => (k10 p k (nx_WFES_CSY hp)).trans (k4 p k (nx_WTK_CSY hp))) hY_) (RX_f (fun p k hp => (k10 p k (nx_WFES_CSX hp)).trans (k4 p k (nx_WTK_CSX hp))) hX_)
set_option maxRecDepth 100000 in
set_option maxHeartbeats 4000000 in
theorem lwx_5 {l : Launch} {G : xG} (hL : G.2.2.2.2.1 ≤ 3072) {M : xM} {J : xJ} {i : Nat} (hi : i + 6 ≤ G.2.2.2.2.1) (hC : InvC M) (hR : InvR M) (hB_ : RB M) (hP_ : RP M) (hT_ : RT M) (hS_ : RS M) (hE_ : RE J) (hY_ : RY M J) (hX_ : RX M) (hN : ∀ (M2 : xM) (J2 : xJ), InvC M2 → InvR M2 → RB M2 → RP M2 → RT M2 → RS M2 → RE J2 → RY M2 J2 → RX M2 → x_X l G fL_law 200 600000 7302250 (qR (some (.int 1))) 1502 [(3, .int (nI (i))), (2, .ref (62)), (1, .ref (0)), (0, .ref (1002))] [] x_SH M2 J2 87 2934) : x_X l G fL_law 200 600000 7302250 (qR (some (.int 1))) 381 [(3, .int (nI (i))), (2, .ref (62)), (1, .ref (0)), (0, .ref (1002))] [] x_SH M J 87 2934 := by
  refine xr_aload_n dL_law_381 2 rfl ?_
  obtain ⟨nh, D, t, S, lg, lu, lw, hWG, ⟨hGc, hGr⟩, ⟨hWL, hLc, hLr⟩, hKX⟩ := id hX_
  refine xr_callV (As := []) (rest := []) mlL_36 (gx_X9_law hC hWG hGc) dL_law_382 s_0 rfl rfl (Nat.le_of_ble_eq_true rfl) (by decide) ⟨by decide, by decide⟩ (fun v s2 M3 J2 hq => ?_)
  obtain ⟨r5, rfl, rfl, rfl, k4, hI1, hx2⟩ := hq
  try dsimp only [Option.toList, List.cons_append, List.nil_append]
  have kk6 : ∀ p k, 62 ≤ p → M3 p k = M p k := (fun p k hp => k4 p k (by unfold WLAW; omega))
  refine xr_pop dL_law_385 rfl ?_
  refine xr_aload_n dL_law_386 1 rfl ?_
  refine xr_callV (As := []) (rest := []) mlL_40 (gx_X10_law (InvR_ke kk6 hR) hWG (RG_f hWG.1 hGr kk6)) dL_law_387 s_62 rfl rfl (Nat.le_of_ble_eq_true rfl) (by decide) ⟨by decide, by decide⟩ (fun v s2 M9 J2 hq => ?_)
  obtain ⟨r11, rfl, rfl, rfl, k10, hI7, hx8⟩ := hq
  try dsimp only [Option.toList, List.cons_append, List.nil_append]
  have kk12 : ∀ p k, p < 62 → M9 p k = M3 p k := (fun p k hp => k10 p k (by unfold WLT; omega))
  refine xr_pop dL_law_390 rfl ?_
  refine xr_goto (tgt := 1502) dL_law_391 rfl ?_
  refine xb_ls (ls2 := [(3, .int (nI (i))), (2, .ref (62)), (1, .ref (0)), (0, .ref (1002))]) [0, 1, 2, 3] rfl ?_
  exact hN _ _ (InvC_ke kk12 hI1) hI7 (RB_f (fun p k hp => (k10 p k (nx_WLT_CSB hp)).trans (k4 p k (nx_WLAW_CSB hp))) hB_) (jP_law (M := M) hx2.1 hx8.1 kk6 kk12) (RT_f (fun p k hp => (k10 p k (nx_WLT_CST hp)).trans (k4 p k (nx_WLAW_CST hp))) hT_) (RS_f (fun p k hp => (k10 p k (nx_WLT_CSS hp)).trans (k4 p k (nx_WLAW_CSS hp))) hS_) (RE_f rfl rfl hE_) (RY_f (fun p k hp => (k10 p k (nx_WLT_CSY hp)).trans (k4 p k (nx_WLAW_CSY hp))) hY_) (jX_law hWG (LX_f (fun p k hp => (k10 p k (nx_WLT_CSu hp)).trans (k4 p k (nx_WLAW_CSu hp))) ⟨hWL, hLc, hLr⟩) (KX_f (fun p k hp => (k10 p k (nx_WLT_CSk hp)).trans (k4 p k (nx_WLAW_CSk hp))) (Nat.le_refl _) hWG.1 hKX) kk12 (hT_.trans (funext fun j => (kk6 69 j (by decide)).symm)) (hP_.trans (kk6 62 11 (by decide)).symm) hx2.2 hx8.2).2
