set_option maxRecDepth 100000 in
set_option maxHeartbeats 4000000 in
theorem lwx_9 {l : Launch} {G : xG} (hL : G.2.2.2.2.1 ≤ 3072) {M : xM} {J : xJ} {i : Nat} (hi : i + 6 ≤ G.2.2.2.2.1) (hC : InvC M) (hR : InvR M) (hB_ : RB M) (hP_ : RP M) (hT_ : RT M) (hS_ : RS M) (hE_ : RE J) (hY_ : RY M J) (hX_ : RX M) (hN : ∀ (M2 : xM) (J2 : xJ), InvC M2 → InvR M2 → RB M2 → RP M2 → RT M2 → RS M2 → RE J2 → RY M2 J2 → RX M2 → x_X l G fL_law 200 600000 7302250 (qR (some (.int 1))) 1502 [(3, .int (nI (i))), (2, .ref (62)), (1, .ref (0)), (0, .ref (1002))] [] x_SH M2 J2 87 2934) : x_X l G fL_law 200 600000 7302250 (qR (some (.int 1))) 463 [(3, .int (nI (i))), (2, .ref (62)), (1, .ref (0)), (0, .ref (1002))] [] x_SH M J 87 2934 := by
  refine xr_aload_n dL_law_463 2 rfl ?_
  refine xr_aload_n dL_law_464 3 rfl ?_
  refine xr_iload_n dL_law_465 0 rfl ?_
  refine xr_iconst (v := 1) dL_law_466 rfl ?_
  refine xr_iadd dL_law_467 ?_
  refine xb_top (y := nI (i + 1)) (nI_add (i) (1)) ?_
  refine xr_sld rfl (vp_in_nI (show i + 1 < G.2.2.2.2.1 by omega) (by omega)) dL_law_468 ?_
  refine xb_top (y := (G.2.2.2.2.2 (i + 1))) (by rw [nI_clamp (by omega)]) ?_
  refine xr_aload_n dL_law_469 3 rfl ?_
  refine xr_iload_n dL_law_470 0 rfl ?_
  refine xr_iconst (v := 2) dL_law_471 rfl ?_
  refine xr_iadd dL_law_472 ?_
  refine xb_top (y := nI (i + 2)) (nI_add (i) (2)) ?_
  refine xr_sld rfl (vp_in_nI (show i + 2 < G.2.2.2.2.1 by omega) (by omega)) dL_law_473 ?_
  refine xb_top (y := (G.2.2.2.2.2 (i + 2))) (by rw [nI_clamp (by omega)]) ?_
  refine xr_aload_n dL_law_474 3 rfl ?_
  refine xr_iload_n dL_law_475 0 rfl ?_
  refine xr_iconst (v := 3) dL_law_476 rfl ?_
  refine xr_iadd dL_law_477 ?_
  refine xb_top (y := nI (i + 3)) (nI_add (i) (3)) ?_
  refine xr_sld rfl (vp_in_nI (show i + 3 < G.2.2.2.2.1 by omega) (by omega)) dL_law_478 ?_
  refine xb_top (y := (G.2.2.2.2.2 (i + 3))) (by rw [nI_clamp (by omega)]) ?_
  obtain ⟨nh, D, t, S, lg, lu, lw, hWG, ⟨hGc, hGr⟩, ⟨hWL, hLc, hLr⟩, hKX⟩ := id hX_
  refine xr_callV (As := [.int ((G.2.2.2.2.2 (i + 1))), .int ((G.2.2.2.2.2 (i + 2))), .int ((G.2.2.2.2.2 (i + 3)))]) (rest := []) mlL_53 (gx_X9_then (G.2.2.2.2.2 (i + 1)) (G.2.2.2.2.2 (i + 2)) (G.2.2.2.2.2 (i + 3)) hC hWG hGc) dL_law_479 s_0 rfl rfl (Nat.le_of_ble_eq_true rfl) (by decide) ⟨by decide, by decide⟩ (fun v s2 M3 J2 hq => ?_)
  obtain ⟨r5, rfl, rfl, rfl, k4, hI1, hx2⟩ := hq
  try dsimp only [Option.toList, List.cons_append, List.nil_append]
  have kk6 : ∀ p k, 62 ≤ p → M3 p k = M p k := (fun p k hp => k4 p k (by unfold WTH; omega))
  refine xr_pop dL_law_482 rfl ?_
  refine xr_aload_n dL_law_483 1 rfl ?_
  refine xr_aload_n dL_law_484 3 rfl ?_
  refine xr_iload_n dL_law_485 0 rfl ?_
  refine xr_iconst (v := 1) dL_law_486 rfl ?_
  refine xr_iadd dL_law_487 ?_
  refine xb_top (y := nI (i + 1)) (nI_add (i) (1)) ?_
  refine xr_sld rfl (vp_in_nI (show i + 1 < G.2.2.2.2.1 by omega) (by omega)) dL_law_488 ?_
  refine xb_top (y := (G.2.2.2.2.2 (i + 1))) (by rw [nI_clamp (by omega)]) ?_
  refine xr_aload_n dL_law_489 3 rfl ?_
  refine xr_iload_n dL_law_490 0 rfl ?_
  refine xr_iconst (v := 2) dL_law_491 rfl ?_
  refine xr_iadd dL_law_492 ?_
  refine xb_top (y := nI (i + 2)) (nI_add (i) (2)) ?_
  refine xr_sld rfl (vp_in_nI (show i + 2 < G.2.2.2.2.1 by omega) (by omega)) dL_law_493 ?_
  refine xb_top (y := (G.2.2.2.2.2 (i + 2))) (by rw [nI_clamp (by omega)]) ?_
  refine xr_aload_n dL_law_494 3 rfl ?_
  refine xr_iload_n dL_law_495 0 rfl ?_
  refine xr_iconst (v := 3) dL_law_496 rfl ?_
  refine xr_iadd dL_law_497 ?_
  refine xb_top (y := nI (i + 3)) (nI_add (i) (3)) ?_
  refine xr_sld rfl (vp_in_nI (show i + 3 < G.2.2.2.2.1 by omega) (by omega)) dL_law_498 ?_
  refine xb_top (y := (G.2.2.2.2.2 (i + 3))) (by rw [nI_clamp (by omega)]) ?_
  refine xr_callV (As := [.int ((G.2.2.2.2.2 (i + 1))), .int ((G.2.2.2.2.2 (i + 2))), .int ((G.2.2.2.2.2 (i + 3)))]) (rest := []) mlL_56 (gx_X10_then (G.2.2.2.2.2 (i + 1)) (G.2.2.2.2.2 (i + 2)) (G.2.2.2.2.2 (i + 3)) (InvR_ke kk6 hR) hWG (RG_f hWG.1 hGr kk6)) dL_law_499 s_62 rfl rfl (Nat.le_of_ble_eq_true rfl) (by decide) ⟨by decide, by decide⟩ (fun v s2 M9 J2 hq => ?_)
  obtain ⟨r11, rfl, rfl, rfl, k10, hI7, hx8⟩ := hq
  try dsimp only [Option.toList, List.cons_append, List.nil_append]
  have kk12 : ∀ p k, p < 62 → M9 p k = M3 p k := (fun p k hp => k10 p k (by unfold WR1; omega))
  refine xr_pop dL_law_502 rfl ?_
  refine xr_goto (tgt := 1502) dL_law_503 rfl ?_
  refine xb_ls (ls2 := [(3, .int (nI (i))), (2, .ref (62)), (1, .ref (0)), (0, .ref (1002))]) [0, 1, 2, 3] rfl ?_
  exact hN _ _ (InvC_ke kk12 hI1) hI7 (RB_f (fun p k hp => (k10 p k (nx_WR1_CSB hp)).trans (k4 p k (nx_WTH_CSB hp))) hB_) (RP_f (fun p k hp => (k10 p k (nx_WR1_CSP hp)).trans (k4 p k (nx_WTH_CSP hp))) hP_) (RT_f (fun p k hp => (k10 p k (nx_WR1_CST hp)).trans (k4 p k (nx_WTH_CST hp))) hT_) (RS_f (fun p k hp => (k10 p k (nx_WR1_CSS hp)).trans (k4 p k (nx_WTH_CSS hp))) hS_) (RE_f rfl rfl hE_) (RY_f (fun p k hp => (k10 p k (nx_WR1_CSY hp)).trans (k4 p k (nx_WTH_CSY hp))) hY_) (RX_f (fun p k hp => (k10 p k (nx_WR1_CSX hp)).trans (k4 p k (nx_WTH_CSX hp))) hX_)
set_option maxRecDepth 100000 in
set_option maxHeartbeats 4000000 in
theorem lwx_10 {l : Launch} {G : xG} (hL : G.2.2.2.2.1 ≤ 3072) {M : xM} {J : xJ} {i : Nat} (hi : i + 6 ≤ G.2.2.2.2.1) (hC : InvC M) (hR : InvR M) (hB_ : RB M) (hP_ : RP M) (hT_ : RT M) (hS_ : RS M) (hE_ : RE J) (hY_ : RY M J) (hX_ : RX M) (hN : ∀ (M2 : xM) (J2 : xJ), InvC M2 → InvR M2 → RB M2 → RP M2 → RT M2 → RS M2 → RE J2 → RY M2 J2 → RX M2 → x_X l G fL_law 200 600000 7302250 (qR (some (.int 1))) 1502 [(3, .int (nI (i))), (2, .ref (62)), (1, .ref (0)), (0, .ref (1002))] [] x_SH M2 J2 87 2934) : x_X l G fL_law 200 600000 7302250 (qR (some (.int 1))) 506 [(3, .int (nI (i))), (2, .ref (62)), (1, .ref (0)), (0, .ref (1002))] [] x_SH M J 87 2934 := by
  refine xr_aload_n dL_law_506 2 rfl ?_
  refine xr_aload_n dL_law_507 3 rfl ?_
  refine xr_iload_n dL_law_508 0 rfl ?_
  refine xr_iconst (v := 1) dL_law_509 rfl ?_
  refine xr_iadd dL_law_510 ?_
  refine xb_top (y := nI (i + 1)) (nI_add (i) (1)) ?_
  refine xr_sld rfl (vp_in_nI (show i + 1 < G.2.2.2.2.1 by omega) (by omega)) dL_law_511 ?_
  refine xb_top (y := (G.2.2.2.2.2 (i + 1))) (by rw [nI_clamp (by omega)]) ?_
  obtain ⟨nh, D, t, S, lg, lu, lw, hWG, ⟨hGc, hGr⟩, ⟨hWL, hLc, hLr⟩, hKX⟩ := id hX_
  refine xr_callV (As := [.int ((G.2.2.2.2.2 (i + 1)))]) (rest := []) mlL_57 (gx_X9_falls (G.2.2.2.2.2 (i + 1)) hC hWG hGc) dL_law_512 s_0 rfl rfl (Nat.le_of_ble_eq_true rfl) (by decide) ⟨by decide, by decide⟩ (fun v s2 M3 J2 hq => ?_)
  obtain ⟨r5, rfl, rfl, rfl, k4, hI1, hx2⟩ := hq
  try dsimp only [Option.toList, List.cons_append, List.nil_append]
  have kk6 : ∀ p k, 62 ≤ p → M3 p k = M p k := (fun p k hp => k4 p k (by unfold WTH; omega))
  refine xr_pop dL_law_515 rfl ?_
  refine xr_aload_n dL_law_516 1 rfl ?_
  refine xr_aload_n dL_law_517 3 rfl ?_
  refine xr_iload_n dL_law_518 0 rfl ?_
  refine xr_iconst (v := 1) dL_law_519 rfl ?_
  refine xr_iadd dL_law_520 ?_
  refine xb_top (y := nI (i + 1)) (nI_add (i) (1)) ?_
  refine xr_sld rfl (vp_in_nI (show i + 1 < G.2.2.2.2.1 by omega) (by omega)) dL_law_521 ?_
  refine xb_top (y := (G.2.2.2.2.2 (i + 1))) (by rw [nI_clamp (by omega)]) ?_
  refine xr_callV (As := [.int ((G.2.2.2.2.2 (i + 1)))]) (rest := []) mlL_60 (gx_X10_falls (G.2.2.2.2.2 (i + 1)) (InvR_ke kk6 hR) hWG (RG_f hWG.1 hGr kk6)) dL_law_522 s_62 rfl rfl (Nat.le_of_ble_eq_true rfl) (by decide) ⟨by decide, by decide⟩ (fun v s2 M9 J2 hq => ?_)
  obtain ⟨r11, rfl, rfl, rfl, k10, hI7, hx8⟩ := hq
  try dsimp only [Option.toList, List.cons_append, List.nil_append]
  have kk12 : ∀ p k, p < 62 → M9 p k = M3 p k := (fun p k hp => k10 p k (by unfold WR1; omega))
  refine xr_pop dL_law_525 rfl ?_
  refine xr_goto (tgt := 1502) dL_law_526 rfl ?_
  refine xb_ls (ls2 := [(3, .int (nI (i))), (2, .ref (62)), (1, .ref (0)), (0, .ref (1002))]) [0, 1, 2, 3] rfl ?_
  exact hN _ _ (InvC_ke kk12 hI1) hI7 (RB_f (fun p k hp => (k10 p k (nx_WR1_CSB hp)).trans (k4 p k (nx_WTH_CSB hp))) hB_) (RP_f (fun p k hp => (k10 p k (nx_WR1_CSP hp)).trans (k4 p k (nx_WTH_CSP hp))) hP_) (RT_f (fun p k hp => (k10 p k (nx_WR1_CST hp)).trans (k4 p k (nx_WTH_CST hp))) hT_) (RS_f (fun p k hp => (k10 p k (nx_WR1_CSS hp)).trans (k4 p k (nx_WTH_CSS hp))) hS_) (RE_f rfl rfl hE_) (RY_f (fun p k hp => (k10 p k (nx_WR1_CSY hp)).trans (k4 p k (nx_WTH_CSY hp))) hY_) (RX_f (fun p k hp => (k10 p k (nx_WR1_CSX hp)).trans (k4 p k (nx_WTH_CSX hp))) hX_)
set_option maxRecDepth 100000 in
set_option maxHeartbeats 4000000 in
theorem lwx_11 {l : Launch} {G : xG} (hL : G.2.2.2.2.1 ≤ 3072) {M : xM} {J : xJ} {i : Nat} (hi : i + 6 ≤ G.2.2.2.2.1) (hC : InvC M) (hR : InvR M) (hB_ : RB M) (hP_ : RP M) (hT_ : RT M) (hS_ : RS M) (hE_ : RE J) (hY_ : RY M J) (hX_ : RX M) (hN : ∀ (M2 : xM) (J2 : xJ), InvC M2 → InvR M2 → RB M2 → RP M2 → RT M2 → RS M2 → RE J2 → RY M2 J2 → RX M2 → x_X l G fL_law 200 600000 7302250 (qR (some (.int 1))) 1502 [(3, .int (nI (i))), (2, .ref (62)), (1, .ref (0)), (0, .ref (1002))] [] x_SH M2 J2 87 2934) : x_X l G fL_law 200 600000 7302250 (qR (some (.int 1))) 529 [(3, .int (nI (i))), (2, .ref (62)), (1, .ref (0)), (0, .ref (1002))] [] x_SH M J 87 2934 := by
  refine xr_aload_n dL_law_529 2 rfl ?_
  obtain ⟨nh, D, t, S, lg, lu, lw, hWG, ⟨hGc, hGr⟩, ⟨hWL, hLc, hLr⟩, hKX⟩ := id hX_
  refine xr_callV (As := []) (rest := []) mlL_61 (gx_X9_lasts hC hWG hGc) dL_law_530 s_0 rfl rfl (Nat.le_of_ble_eq_true rfl) (by decide) ⟨by decide, by decide⟩ (fun v s2 M3 J2 hq => ?_)
  obtain ⟨r5, rfl, rfl, rfl, k4, hI1, hx2⟩ := hq
  try dsimp only [Option.toList, List.cons_append, List.nil_append]
  have kk6 : ∀ p k, 62 ≤ p → M3 p k = M p k := (fun p k hp => k4 p k (by unfold WTH; omega))
  refine xr_pop dL_law_533 rfl ?_
  refine xr_aload_n dL_law_534 1 rfl ?_
  refine xr_callV (As := []) (rest := []) mlL_64 (gx_X10_lasts (InvR_ke kk6 hR) hWG (RG_f hWG.1 hGr kk6)) dL_law_535 s_62 rfl rfl (Nat.le_of_ble_eq_true rfl) (by decide) ⟨by decide, by decide⟩ (fun v s2 M9 J2 hq => ?_)
  obtain ⟨r11, rfl, rfl, rfl, k10, hI7, hx8⟩ := hq
  try dsimp only [Option.toList, List.cons_append, List.nil_append]
  have kk12 : ∀ p k, p < 62 → M9 p k = M3 p k := (fun p k hp => k10 p k (by unfold WR1; omega))
  refine xr_pop dL_law_538 rfl ?_
  refine xr_goto (tgt := 1502) dL_law_539 rfl ?_
  refine xb_ls (ls2 := [(3, .int (nI (i))), (2, .ref (62)), (1, .ref (0)), (0, .ref (1002))]) [0, 1, 2, 3] rfl ?_
  exact hN _ _ (InvC_ke kk12 hI1) hI7 (RB_f (fun p k hp => (k10 p k (nx_WR1_CSB hp)).trans (k4 p k (nx_WTH_CSB hp))) hB_) (RP_f (fun p k hp => (k10 p k (nx_WR1_CSP hp)).trans (k4 p k (nx_WTH_CSP hp))) hP_) (RT_f (fun p k hp => (k10 p k (nx_WR1_CST hp)).trans (k4 p k (nx_WTH_CST hp))) hT_) (RS_f (fun p k hp => (k10 p k (nx_WR1_CSS hp)).trans (k4 p k (nx_WTH_CSS hp))) hS_) (RE_f rfl rfl hE_) (RY_f (fun p k hp => (k10 p k (nx_WR1_CSY hp)).trans (k4 p k (nx_WTH_CSY hp))) hY_) (RX_f (fun p k hp => (k10 p k (nx_WR1_CSX hp)).trans (k4 p k (nx_WTH_CSX hp))) hX_)
