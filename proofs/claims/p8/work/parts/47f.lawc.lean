set_option maxRecDepth 100000 in
set_option maxHeartbeats 4000000 in
theorem lwx_12 {l : Launch} {G : xG} (hL : G.2.2.2.2.1 ≤ 3072) {M : xM} {J : xJ} {i : Nat} (hi : i + 6 ≤ G.2.2.2.2.1) (hC : InvC M) (hR : InvR M) (hB_ : RB M) (hP_ : RP M) (hT_ : RT M) (hS_ : RS M) (hE_ : RE J) (hY_ : RY M J) (hX_ : RX M) (hN : ∀ (M2 : xM) (J2 : xJ), InvC M2 → InvR M2 → RB M2 → RP M2 → RT M2 → RS M2 → RE J2 → RY M2 J2 → RX M2 → x_X l G fL_law 200 600000 7302250 (qR (some (.int 1))) 1502 [(3, .int (nI (i))), (2, .ref (62)), (1, .ref (0)), (0, .ref (1002))] [] x_SH M2 J2 87 2934) : x_X l G fL_law 200 600000 7302250 (qR (some (.int 1))) 542 [(3, .int (nI (i))), (2, .ref (62)), (1, .ref (0)), (0, .ref (1002))] [] x_SH M J 87 2934 := by
  refine xr_aload_n dL_law_542 2 rfl ?_
  refine xr_aload_n dL_law_543 3 rfl ?_
  refine xr_iload_n dL_law_544 0 rfl ?_
  refine xr_iconst (v := 1) dL_law_545 rfl ?_
  refine xr_iadd dL_law_546 ?_
  refine xb_top (y := nI (i + 1)) (nI_add (i) (1)) ?_
  refine xr_sld rfl (vp_in_nI (show i + 1 < G.2.2.2.2.1 by omega) (by omega)) dL_law_547 ?_
  refine xb_top (y := (G.2.2.2.2.2 (i + 1))) (by rw [nI_clamp (by omega)]) ?_
  obtain ⟨nh, D, t, S, lg, lu, lw, hWG, ⟨hGc, hGr⟩, ⟨hWL, hLc, hLr⟩, hKX⟩ := id hX_
  refine xr_callV (As := [.int ((G.2.2.2.2.2 (i + 1)))]) (rest := []) mlL_65 (gx_X9_beatFor (G.2.2.2.2.2 (i + 1)) hC hWG hGc) dL_law_548 s_0 rfl rfl (Nat.le_of_ble_eq_true rfl) (by decide) ⟨by decide, by decide⟩ (fun v s2 M3 J2 hq => ?_)
  obtain ⟨r5, rfl, rfl, rfl, k4, hI1, hx2⟩ := hq
  try dsimp only [Option.toList, List.cons_append, List.nil_append]
  have kk6 : ∀ p k, 62 ≤ p → M3 p k = M p k := (fun p k hp => k4 p k (by unfold WTH; omega))
  refine xr_pop dL_law_551 rfl ?_
  refine xr_aload_n dL_law_552 1 rfl ?_
  refine xr_aload_n dL_law_553 3 rfl ?_
  refine xr_iload_n dL_law_554 0 rfl ?_
  refine xr_iconst (v := 1) dL_law_555 rfl ?_
  refine xr_iadd dL_law_556 ?_
  refine xb_top (y := nI (i + 1)) (nI_add (i) (1)) ?_
  refine xr_sld rfl (vp_in_nI (show i + 1 < G.2.2.2.2.1 by omega) (by omega)) dL_law_557 ?_
  refine xb_top (y := (G.2.2.2.2.2 (i + 1))) (by rw [nI_clamp (by omega)]) ?_
  refine xr_callV (As := [.int ((G.2.2.2.2.2 (i + 1)))]) (rest := []) mlL_68 (gx_X10_beatFor (G.2.2.2.2.2 (i + 1)) (InvR_ke kk6 hR) hWG (RG_f hWG.1 hGr kk6)) dL_law_558 s_62 rfl rfl (Nat.le_of_ble_eq_true rfl) (by decide) ⟨by decide, by decide⟩ (fun v s2 M9 J2 hq => ?_)
  obtain ⟨r11, rfl, rfl, rfl, k10, hI7, hx8⟩ := hq
  try dsimp only [Option.toList, List.cons_append, List.nil_append]
  have kk12 : ∀ p k, p < 62 → M9 p k = M3 p k := (fun p k hp => k10 p k (by unfold WRB; omega))
  refine xr_pop dL_law_561 rfl ?_
  refine xr_goto (tgt := 1502) dL_law_562 rfl ?_
  refine xb_ls (ls2 := [(3, .int (nI (i))), (2, .ref (62)), (1, .ref (0)), (0, .ref (1002))]) [0, 1, 2, 3] rfl ?_
  exact hN _ _ (InvC_ke kk12 hI1) hI7 (RB_f (fun p k hp => (k10 p k (nx_WRB_CSB hp)).trans (k4 p k (nx_WTH_CSB hp))) hB_) (RP_f (fun p k hp => (k10 p k (nx_WRB_CSP hp)).trans (k4 p k (nx_WTH_CSP hp))) hP_) (RT_f (fun p k hp => (k10 p k (nx_WRB_CST hp)).trans (k4 p k (nx_WTH_CST hp))) hT_) (RS_f (fun p k hp => (k10 p k (nx_WRB_CSS hp)).trans (k4 p k (nx_WTH_CSS hp))) hS_) (RE_f rfl rfl hE_) (RY_f (fun p k hp => (k10 p k (nx_WRB_CSY hp)).trans (k4 p k (nx_WTH_CSY hp))) hY_) (jX_keep hWG hGc (fun p k hp => (k10 p k (nx_WRB_CSc hp)).trans (k4 p k (nx_WTH_CSc hp))) hx8.2 (LX_f (fun p k hp => (k10 p k (nx_WRB_CSu hp)).trans (k4 p k (nx_WTH_CSu hp))) ⟨hWL, hLc, hLr⟩) (KX_f (fun p k hp => (k10 p k (nx_WRB_CSk hp)).trans (k4 p k (nx_WTH_CSk hp))) (Nat.le_refl _) hWG.1 hKX))
set_option maxRecDepth 100000 in
set_option maxHeartbeats 4000000 in
theorem lwx_13 {l : Launch} {G : xG} (hL : G.2.2.2.2.1 ≤ 3072) {M : xM} {J : xJ} {i : Nat} (hi : i + 6 ≤ G.2.2.2.2.1) (hC : InvC M) (hR : InvR M) (hB_ : RB M) (hP_ : RP M) (hT_ : RT M) (hS_ : RS M) (hE_ : RE J) (hY_ : RY M J) (hX_ : RX M) (hN : ∀ (M2 : xM) (J2 : xJ), InvC M2 → InvR M2 → RB M2 → RP M2 → RT M2 → RS M2 → RE J2 → RY M2 J2 → RX M2 → x_X l G fL_law 200 600000 7302250 (qR (some (.int 1))) 1502 [(3, .int (nI (i))), (2, .ref (62)), (1, .ref (0)), (0, .ref (1002))] [] x_SH M2 J2 87 2934) : x_X l G fL_law 200 600000 7302250 (qR (some (.int 1))) 565 [(3, .int (nI (i))), (2, .ref (62)), (1, .ref (0)), (0, .ref (1002))] [] x_SH M J 87 2934 := by
  refine xr_aload_n dL_law_565 2 rfl ?_
  refine xr_aload_n dL_law_566 3 rfl ?_
  refine xr_iload_n dL_law_567 0 rfl ?_
  refine xr_iconst (v := 1) dL_law_568 rfl ?_
  refine xr_iadd dL_law_569 ?_
  refine xb_top (y := nI (i + 1)) (nI_add (i) (1)) ?_
  refine xr_sld rfl (vp_in_nI (show i + 1 < G.2.2.2.2.1 by omega) (by omega)) dL_law_570 ?_
  refine xb_top (y := (G.2.2.2.2.2 (i + 1))) (by rw [nI_clamp (by omega)]) ?_
  obtain ⟨nh, D, t, S, lg, lu, lw, hWG, ⟨hGc, hGr⟩, ⟨hWL, hLc, hLr⟩, hKX⟩ := id hX_
  refine xr_callV (As := [.int ((G.2.2.2.2.2 (i + 1)))]) (rest := []) mlL_69 (gx_X9_leastPush (G.2.2.2.2.2 (i + 1)) hC hWG hGc) dL_law_571 s_0 rfl rfl (Nat.le_of_ble_eq_true rfl) (by decide) ⟨by decide, by decide⟩ (fun v s2 M3 J2 hq => ?_)
  obtain ⟨r5, rfl, rfl, rfl, k4, hI1, hx2⟩ := hq
  try dsimp only [Option.toList, List.cons_append, List.nil_append]
  have kk6 : ∀ p k, 62 ≤ p → M3 p k = M p k := (fun p k hp => k4 p k (by unfold WTH; omega))
  refine xr_pop dL_law_574 rfl ?_
  refine xr_aload_n dL_law_575 1 rfl ?_
  refine xr_aload_n dL_law_576 3 rfl ?_
  refine xr_iload_n dL_law_577 0 rfl ?_
  refine xr_iconst (v := 1) dL_law_578 rfl ?_
  refine xr_iadd dL_law_579 ?_
  refine xb_top (y := nI (i + 1)) (nI_add (i) (1)) ?_
  refine xr_sld rfl (vp_in_nI (show i + 1 < G.2.2.2.2.1 by omega) (by omega)) dL_law_580 ?_
  refine xb_top (y := (G.2.2.2.2.2 (i + 1))) (by rw [nI_clamp (by omega)]) ?_
  refine xr_callV (As := [.int ((G.2.2.2.2.2 (i + 1)))]) (rest := []) mlL_72 (gx_X10_leastPush (G.2.2.2.2.2 (i + 1)) (InvR_ke kk6 hR) hWG (RG_f hWG.1 hGr kk6)) dL_law_581 s_62 rfl rfl (Nat.le_of_ble_eq_true rfl) (by decide) ⟨by decide, by decide⟩ (fun v s2 M9 J2 hq => ?_)
  obtain ⟨r11, rfl, rfl, rfl, k10, hI7, hx8⟩ := hq
  try dsimp only [Option.toList, List.cons_append, List.nil_append]
  have kk12 : ∀ p k, p < 62 → M9 p k = M3 p k := (fun p k hp => k10 p k (by unfold WRL; omega))
  refine xr_pop dL_law_584 rfl ?_
  refine xr_goto (tgt := 1502) dL_law_585 rfl ?_
  refine xb_ls (ls2 := [(3, .int (nI (i))), (2, .ref (62)), (1, .ref (0)), (0, .ref (1002))]) [0, 1, 2, 3] rfl ?_
  exact hN _ _ (InvC_ke kk12 hI1) hI7 (RB_f (fun p k hp => (k10 p k (nx_WRL_CSB hp)).trans (k4 p k (nx_WTH_CSB hp))) hB_) (RP_f (fun p k hp => (k10 p k (nx_WRL_CSP hp)).trans (k4 p k (nx_WTH_CSP hp))) hP_) (RT_f (fun p k hp => (k10 p k (nx_WRL_CST hp)).trans (k4 p k (nx_WTH_CST hp))) hT_) (RS_f (fun p k hp => (k10 p k (nx_WRL_CSS hp)).trans (k4 p k (nx_WTH_CSS hp))) hS_) (RE_f rfl rfl hE_) (RY_f (fun p k hp => (k10 p k (nx_WRL_CSY hp)).trans (k4 p k (nx_WTH_CSY hp))) hY_) (jX_keep hWG hGc (fun p k hp => (k10 p k (nx_WRL_CSc hp)).trans (k4 p k (nx_WTH_CSc hp))) hx8.2 (LX_f (fun p k hp => (k10 p k (nx_WRL_CSu hp)).trans (k4 p k (nx_WTH_CSu hp))) ⟨hWL, hLc, hLr⟩) (KX_f (fun p k hp => (k10 p k (nx_WRL_CSk hp)).trans (k4 p k (nx_WTH_CSk hp))) (Nat.le_refl _) hWG.1 hKX))
set_option maxRecDepth 100000 in
set_option maxHeartbeats 4000000 in
theorem lwx_14 {l : Launch} {G : xG} (hL : G.2.2.2.2.1 ≤ 3072) {M : xM} {J : xJ} {i : Nat} (hi : i + 6 ≤ G.2.2.2.2.1) (hC : InvC M) (hR : InvR M) (hB_ : RB M) (hP_ : RP M) (hT_ : RT M) (hS_ : RS M) (hE_ : RE J) (hY_ : RY M J) (hX_ : RX M) (hN : ∀ (M2 : xM) (J2 : xJ), InvC M2 → InvR M2 → RB M2 → RP M2 → RT M2 → RS M2 → RE J2 → RY M2 J2 → RX M2 → x_X l G fL_law 200 600000 7302250 (qR (some (.int 1))) 1502 [(3, .int (nI (i))), (2, .ref (62)), (1, .ref (0)), (0, .ref (1002))] [] x_SH M2 J2 87 2934) : x_X l G fL_law 200 600000 7302250 (qR (some (.int 1))) 588 [(3, .int (nI (i))), (2, .ref (62)), (1, .ref (0)), (0, .ref (1002))] [] x_SH M J 87 2934 := by
  refine xr_aload_n dL_law_588 2 rfl ?_
  refine xr_aload_n dL_law_589 3 rfl ?_
  refine xr_iload_n dL_law_590 0 rfl ?_
  refine xr_iconst (v := 1) dL_law_591 rfl ?_
  refine xr_iadd dL_law_592 ?_
  refine xb_top (y := nI (i + 1)) (nI_add (i) (1)) ?_
  refine xr_sld rfl (vp_in_nI (show i + 1 < G.2.2.2.2.1 by omega) (by omega)) dL_law_593 ?_
  refine xb_top (y := (G.2.2.2.2.2 (i + 1))) (by rw [nI_clamp (by omega)]) ?_
  refine xr_aload_n dL_law_594 3 rfl ?_
  refine xr_iload_n dL_law_595 0 rfl ?_
  refine xr_iconst (v := 2) dL_law_596 rfl ?_
  refine xr_iadd dL_law_597 ?_
  refine xb_top (y := nI (i + 2)) (nI_add (i) (2)) ?_
  refine xr_sld rfl (vp_in_nI (show i + 2 < G.2.2.2.2.1 by omega) (by omega)) dL_law_598 ?_
  refine xb_top (y := (G.2.2.2.2.2 (i + 2))) (by rw [nI_clamp (by omega)]) ?_
  refine xr_callV (As := [.int ((G.2.2.2.2.2 (i + 1))), .int ((G.2.2.2.2.2 (i + 2)))]) (rest := []) mlL_73 (g_X9_mistake (G.2.2.2.2.2 (i + 1)) (G.2.2.2.2.2 (i + 2)) hC) dL_law_599 s_0 rfl rfl (Nat.le_of_ble_eq_true rfl) (by decide) ⟨by decide, by decide⟩ (fun v s2 M3 J2 hq => ?_)
  obtain ⟨r5, rfl, rfl, rfl, k4, hI1⟩ := hq
  try dsimp only [Option.toList, List.cons_append, List.nil_append]
  have kk6 : ∀ p k, 62 ≤ p → M3 p k = M p k := (fun p k hp => k4 p k (by unfold WTH; omega))
  refine xr_pop dL_law_602 rfl ?_
  refine xr_aload_n dL_law_603 1 rfl ?_
  refine xr_aload_n dL_law_604 3 rfl ?_
  refine xr_iload_n dL_law_605 0 rfl ?_
  refine xr_iconst (v := 1) dL_law_606 rfl ?_
  refine xr_iadd dL_law_607 ?_
  refine xb_top (y := nI (i + 1)) (nI_add (i) (1)) ?_
  refine xr_sld rfl (vp_in_nI (show i + 1 < G.2.2.2.2.1 by omega) (by omega)) dL_law_608 ?_
  refine xb_top (y := (G.2.2.2.2.2 (i + 1))) (by rw [nI_clamp (by omega)]) ?_
  refine xr_aload_n dL_law_609 3 rfl ?_
  refine xr_iload_n dL_law_610 0 rfl ?_
  refine xr_iconst (v := 2) dL_law_611 rfl ?_
  refine xr_iadd dL_law_612 ?_
  refine xb_top (y := nI (i + 2)) (nI_add (i) (2)) ?_
  refine xr_sld rfl (vp_in_nI (show i + 2 < G.2.2.2.2.1 by omega) (by omega)) dL_law_613 ?_
  refine xb_top (y := (G.2.2.2.2.2 (i + 2))) (by rw [nI_clamp (by omega)]) ?_
  refine xr_callV (As := [.int ((G.2.2.2.2.2 (i + 1))), .int ((G.2.2.2.2.2 (i + 2)))]) (rest := []) mlL_76 (g_X10_mistake (G.2.2.2.2.2 (i + 1)) (G.2.2.2.2.2 (i + 2)) (InvR_ke kk6 hR)) dL_law_614 s_62 rfl rfl (Nat.le_of_ble_eq_true rfl) (by decide) ⟨by decide, by decide⟩ (fun v s2 M9 J2 hq => ?_)
  obtain ⟨r11, rfl, rfl, rfl, k10, hI7⟩ := hq
  try dsimp only [Option.toList, List.cons_append, List.nil_append]
  have kk12 : ∀ p k, p < 62 → M9 p k = M3 p k := (fun p k hp => k10 p k (by unfold WR1; omega))
  refine xr_pop dL_law_617 rfl ?_
  refine xr_goto (tgt := 1502) dL_law_618 rfl ?_
  refine xb_ls (ls2 := [(3, .int (nI (i))), (2, .ref (62)), (1, .ref (0)), (0, .ref (1002))]) [0, 1, 2, 3] rfl ?_
  exact hN _ _ (InvC_ke kk12 hI1) hI7 (RB_f (fun p k hp => (k10 p k (nx_WR1_CSB hp)).trans (k4 p k (nx_WTH_CSB hp))) hB_) (RP_f (fun p k hp => (k10 p k (nx_WR1_CSP hp)).trans (k4 p k (nx_WTH_CSP hp))) hP_) (RT_f (fun p k hp => (k10 p k (nx_WR1_CST hp)).trans (k4 p k (nx_WTH_CST hp))) hT_) (RS_f (fun p k hp => (k10 p k (nx_WR1_CSS hp)).trans (k4 p k (nx_WTH_CSS hp))) hS_) (RE_f rfl rfl hE_) (RY_f (fun p k hp => (k10 p k (nx_WR1_CSY hp)).trans (k4 p k (nx_WTH_CSY hp))) hY_) (RX_f (fun p k hp => (k10 p k (nx_WR1_CSX hp)).trans (k4 p k (nx_WTH_CSX hp))) hX_)
