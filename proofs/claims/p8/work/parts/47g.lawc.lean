set_option maxRecDepth 100000 in
set_option maxHeartbeats 4000000 in
theorem lwx_15 {l : Launch} {G : xG} (hL : G.2.2.2.2.1 ≤ 3072) {M : xM} {J : xJ} {i : Nat} (hi : i + 6 ≤ G.2.2.2.2.1) (hC : InvC M) (hR : InvR M) (hB_ : RB M) (hP_ : RP M) (hT_ : RT M) (hS_ : RS M) (hE_ : RE J) (hY_ : RY M J) (hX_ : RX M) (hN : ∀ (M2 : xM) (J2 : xJ), InvC M2 → InvR M2 → RB M2 → RP M2 → RT M2 → RS M2 → RE J2 → RY M2 J2 → RX M2 → x_X l G fL_law 200 600000 7302250 (qR (some (.int 1))) 1502 [(3, .int (nI (i))), (2, .ref (62)), (1, .ref (0)), (0, .ref (1002))] [] x_SH M2 J2 87 2934) : x_X l G fL_law 200 600000 7302250 (qR (some (.int 1))) 621 [(3, .int (nI (i))), (2, .ref (62)), (1, .ref (0)), (0, .ref (1002))] [] x_SH M J 87 2934 := by
  refine xr_aload_n dL_law_621 2 rfl ?_
  refine xr_aload_n dL_law_622 3 rfl ?_
  refine xr_iload_n dL_law_623 0 rfl ?_
  refine xr_iconst (v := 1) dL_law_624 rfl ?_
  refine xr_iadd dL_law_625 ?_
  refine xb_top (y := nI (i + 1)) (nI_add (i) (1)) ?_
  refine xr_sld rfl (vp_in_nI (show i + 1 < G.2.2.2.2.1 by omega) (by omega)) dL_law_626 ?_
  refine xb_top (y := (G.2.2.2.2.2 (i + 1))) (by rw [nI_clamp (by omega)]) ?_
  obtain ⟨nh, D, t, S, lg, lu, lw, hWG, ⟨hGc, hGr⟩, ⟨hWL, hLc, hLr⟩, hKX⟩ := id hX_
  refine xr_callV (As := [.int ((G.2.2.2.2.2 (i + 1)))]) (rest := []) mlL_77 (gx_X9_held (G.2.2.2.2.2 (i + 1)) hC hWG hGc) dL_law_627 s_0 rfl rfl (Nat.le_of_ble_eq_true rfl) (by decide) ⟨by decide, by decide⟩ (fun v s2 M3 J2 hq => ?_)
  obtain ⟨r5, rfl, rfl, rfl, k4, hI1, hx2⟩ := hq
  try dsimp only [Option.toList, List.cons_append, List.nil_append]
  have kk6 : ∀ p k, 62 ≤ p → M3 p k = M p k := (fun p k hp => k4 p k (by unfold WTH; omega))
  refine xr_pop dL_law_630 rfl ?_
  refine xr_aload_n dL_law_631 1 rfl ?_
  refine xr_aload_n dL_law_632 3 rfl ?_
  refine xr_iload_n dL_law_633 0 rfl ?_
  refine xr_iconst (v := 1) dL_law_634 rfl ?_
  refine xr_iadd dL_law_635 ?_
  refine xb_top (y := nI (i + 1)) (nI_add (i) (1)) ?_
  refine xr_sld rfl (vp_in_nI (show i + 1 < G.2.2.2.2.1 by omega) (by omega)) dL_law_636 ?_
  refine xb_top (y := (G.2.2.2.2.2 (i + 1))) (by rw [nI_clamp (by omega)]) ?_
  refine xr_callV (As := [.int ((G.2.2.2.2.2 (i + 1)))]) (rest := []) mlL_80 (gx_X10_held (G.2.2.2.2.2 (i + 1)) (InvR_ke kk6 hR) hWG (RG_f hWG.1 hGr kk6)) dL_law_637 s_62 rfl rfl (Nat.le_of_ble_eq_true rfl) (by decide) ⟨by decide, by decide⟩ (fun v s2 M9 J2 hq => ?_)
  obtain ⟨r11, rfl, rfl, rfl, k10, hI7, hx8⟩ := hq
  try dsimp only [Option.toList, List.cons_append, List.nil_append]
  have kk12 : ∀ p k, p < 62 → M9 p k = M3 p k := (fun p k hp => k10 p k (by unfold WR1; omega))
  refine xr_pop dL_law_640 rfl ?_
  refine xr_goto (tgt := 1502) dL_law_641 rfl ?_
  refine xb_ls (ls2 := [(3, .int (nI (i))), (2, .ref (62)), (1, .ref (0)), (0, .ref (1002))]) [0, 1, 2, 3] rfl ?_
  exact hN _ _ (InvC_ke kk12 hI1) hI7 (RB_f (fun p k hp => (k10 p k (nx_WR1_CSB hp)).trans (k4 p k (nx_WTH_CSB hp))) hB_) (RP_f (fun p k hp => (k10 p k (nx_WR1_CSP hp)).trans (k4 p k (nx_WTH_CSP hp))) hP_) (RT_f (fun p k hp => (k10 p k (nx_WR1_CST hp)).trans (k4 p k (nx_WTH_CST hp))) hT_) (RS_f (fun p k hp => (k10 p k (nx_WR1_CSS hp)).trans (k4 p k (nx_WTH_CSS hp))) hS_) (RE_f rfl rfl hE_) (RY_f (fun p k hp => (k10 p k (nx_WR1_CSY hp)).trans (k4 p k (nx_WTH_CSY hp))) hY_) (RX_f (fun p k hp => (k10 p k (nx_WR1_CSX hp)).trans (k4 p k (nx_WTH_CSX hp))) hX_)
set_option maxRecDepth 100000 in
set_option maxHeartbeats 4000000 in
theorem lwx_16 {l : Launch} {G : xG} (hL : G.2.2.2.2.1 ≤ 3072) {M : xM} {J : xJ} {i : Nat} (hi : i + 6 ≤ G.2.2.2.2.1) (hC : InvC M) (hR : InvR M) (hB_ : RB M) (hP_ : RP M) (hT_ : RT M) (hS_ : RS M) (hE_ : RE J) (hY_ : RY M J) (hX_ : RX M) (hN : ∀ (M2 : xM) (J2 : xJ), InvC M2 → InvR M2 → RB M2 → RP M2 → RT M2 → RS M2 → RE J2 → RY M2 J2 → RX M2 → x_X l G fL_law 200 600000 7302250 (qR (some (.int 1))) 1502 [(3, .int (nI (i))), (2, .ref (62)), (1, .ref (0)), (0, .ref (1002))] [] x_SH M2 J2 87 2934) : x_X l G fL_law 200 600000 7302250 (qR (some (.int 1))) 644 [(3, .int (nI (i))), (2, .ref (62)), (1, .ref (0)), (0, .ref (1002))] [] x_SH M J 87 2934 := by
  refine xr_aload_n dL_law_644 2 rfl ?_
  refine xr_aload_n dL_law_645 3 rfl ?_
  refine xr_iload_n dL_law_646 0 rfl ?_
  refine xr_iconst (v := 1) dL_law_647 rfl ?_
  refine xr_iadd dL_law_648 ?_
  refine xb_top (y := nI (i + 1)) (nI_add (i) (1)) ?_
  refine xr_sld rfl (vp_in_nI (show i + 1 < G.2.2.2.2.1 by omega) (by omega)) dL_law_649 ?_
  refine xb_top (y := (G.2.2.2.2.2 (i + 1))) (by rw [nI_clamp (by omega)]) ?_
  refine xr_aload_n dL_law_650 3 rfl ?_
  refine xr_iload_n dL_law_651 0 rfl ?_
  refine xr_iconst (v := 2) dL_law_652 rfl ?_
  refine xr_iadd dL_law_653 ?_
  refine xb_top (y := nI (i + 2)) (nI_add (i) (2)) ?_
  refine xr_sld rfl (vp_in_nI (show i + 2 < G.2.2.2.2.1 by omega) (by omega)) dL_law_654 ?_
  refine xb_top (y := (G.2.2.2.2.2 (i + 2))) (by rw [nI_clamp (by omega)]) ?_
  obtain ⟨nh, D, t, S, lg, lu, lw, hWG, ⟨hGc, hGr⟩, ⟨hWL, hLc, hLr⟩, hKX⟩ := id hX_
  refine xr_callV (As := [.int ((G.2.2.2.2.2 (i + 1))), .int ((G.2.2.2.2.2 (i + 2)))]) (rest := []) mlL_81 (gx_X9_rescue (G.2.2.2.2.2 (i + 1)) (G.2.2.2.2.2 (i + 2)) hC hWG hGc) dL_law_655 s_0 rfl rfl (Nat.le_of_ble_eq_true rfl) (by decide) ⟨by decide, by decide⟩ (fun v s2 M3 J2 hq => ?_)
  obtain ⟨r5, rfl, rfl, rfl, k4, hI1, hx2⟩ := hq
  try dsimp only [Option.toList, List.cons_append, List.nil_append]
  have kk6 : ∀ p k, 62 ≤ p → M3 p k = M p k := (fun p k hp => k4 p k (by unfold WTH; omega))
  refine xr_pop dL_law_658 rfl ?_
  refine xr_aload_n dL_law_659 1 rfl ?_
  refine xr_aload_n dL_law_660 3 rfl ?_
  refine xr_iload_n dL_law_661 0 rfl ?_
  refine xr_iconst (v := 1) dL_law_662 rfl ?_
  refine xr_iadd dL_law_663 ?_
  refine xb_top (y := nI (i + 1)) (nI_add (i) (1)) ?_
  refine xr_sld rfl (vp_in_nI (show i + 1 < G.2.2.2.2.1 by omega) (by omega)) dL_law_664 ?_
  refine xb_top (y := (G.2.2.2.2.2 (i + 1))) (by rw [nI_clamp (by omega)]) ?_
  refine xr_aload_n dL_law_665 3 rfl ?_
  refine xr_iload_n dL_law_666 0 rfl ?_
  refine xr_iconst (v := 2) dL_law_667 rfl ?_
  refine xr_iadd dL_law_668 ?_
  refine xb_top (y := nI (i + 2)) (nI_add (i) (2)) ?_
  refine xr_sld rfl (vp_in_nI (show i + 2 < G.2.2.2.2.1 by omega) (by omega)) dL_law_669 ?_
  refine xb_top (y := (G.2.2.2.2.2 (i + 2))) (by rw [nI_clamp (by omega)]) ?_
  refine xr_callV (As := [.int ((G.2.2.2.2.2 (i + 1))), .int ((G.2.2.2.2.2 (i + 2)))]) (rest := []) mlL_84 (gx_X10_rescue (G.2.2.2.2.2 (i + 1)) (G.2.2.2.2.2 (i + 2)) (InvR_ke kk6 hR) hWG (RG_f hWG.1 hGr kk6)) dL_law_670 s_62 rfl rfl (Nat.le_of_ble_eq_true rfl) (by decide) ⟨by decide, by decide⟩ (fun v s2 M9 J2 hq => ?_)
  obtain ⟨r11, rfl, rfl, rfl, k10, hI7, hx8⟩ := hq
  try dsimp only [Option.toList, List.cons_append, List.nil_append]
  have kk12 : ∀ p k, p < 62 → M9 p k = M3 p k := (fun p k hp => k10 p k (by unfold WR1; omega))
  refine xr_pop dL_law_673 rfl ?_
  refine xr_goto (tgt := 1502) dL_law_674 rfl ?_
  refine xb_ls (ls2 := [(3, .int (nI (i))), (2, .ref (62)), (1, .ref (0)), (0, .ref (1002))]) [0, 1, 2, 3] rfl ?_
  exact hN _ _ (InvC_ke kk12 hI1) hI7 (RB_f (fun p k hp => (k10 p k (nx_WR1_CSB hp)).trans (k4 p k (nx_WTH_CSB hp))) hB_) (RP_f (fun p k hp => (k10 p k (nx_WR1_CSP hp)).trans (k4 p k (nx_WTH_CSP hp))) hP_) (RT_f (fun p k hp => (k10 p k (nx_WR1_CST hp)).trans (k4 p k (nx_WTH_CST hp))) hT_) (RS_f (fun p k hp => (k10 p k (nx_WR1_CSS hp)).trans (k4 p k (nx_WTH_CSS hp))) hS_) (RE_f rfl rfl hE_) (RY_f (fun p k hp => (k10 p k (nx_WR1_CSY hp)).trans (k4 p k (nx_WTH_CSY hp))) hY_) (RX_f (fun p k hp => (k10 p k (nx_WR1_CSX hp)).trans (k4 p k (nx_WTH_CSX hp))) hX_)
set_option maxRecDepth 100000 in
set_option maxHeartbeats 4000000 in
theorem lwx_17 {l : Launch} {G : xG} (hL : G.2.2.2.2.1 ≤ 3072) {M : xM} {J : xJ} {i : Nat} (hi : i + 6 ≤ G.2.2.2.2.1) (hC : InvC M) (hR : InvR M) (hB_ : RB M) (hP_ : RP M) (hT_ : RT M) (hS_ : RS M) (hE_ : RE J) (hY_ : RY M J) (hX_ : RX M) (hN : ∀ (M2 : xM) (J2 : xJ), InvC M2 → InvR M2 → RB M2 → RP M2 → RT M2 → RS M2 → RE J2 → RY M2 J2 → RX M2 → x_X l G fL_law 200 600000 7302250 (qR (some (.int 1))) 1502 [(3, .int (nI (i))), (2, .ref (62)), (1, .ref (0)), (0, .ref (1002))] [] x_SH M2 J2 87 2934) : x_X l G fL_law 200 600000 7302250 (qR (some (.int 1))) 677 [(3, .int (nI (i))), (2, .ref (62)), (1, .ref (0)), (0, .ref (1002))] [] x_SH M J 87 2934 := by
  refine xr_aload_n dL_law_677 2 rfl ?_
  refine xr_aload_n dL_law_678 3 rfl ?_
  refine xr_iload_n dL_law_679 0 rfl ?_
  refine xr_iconst (v := 1) dL_law_680 rfl ?_
  refine xr_iadd dL_law_681 ?_
  refine xb_top (y := nI (i + 1)) (nI_add (i) (1)) ?_
  refine xr_sld rfl (vp_in_nI (show i + 1 < G.2.2.2.2.1 by omega) (by omega)) dL_law_682 ?_
  refine xb_top (y := (G.2.2.2.2.2 (i + 1))) (by rw [nI_clamp (by omega)]) ?_
  obtain ⟨nh, D, t, S, lg, lu, lw, hWG, ⟨hGc, hGr⟩, ⟨hWL, hLc, hLr⟩, hKX⟩ := id hX_
  refine xr_callV (As := [.int ((G.2.2.2.2.2 (i + 1)))]) (rest := []) mlL_85 (gx_X9_start (G.2.2.2.2.2 (i + 1)) hC hWG hGc) dL_law_683 s_0 rfl rfl (Nat.le_of_ble_eq_true rfl) (by decide) ⟨by decide, by decide⟩ (fun v s2 M3 J2 hq => ?_)
  obtain ⟨r5, rfl, rfl, rfl, k4, hI1, hx2⟩ := hq
  try dsimp only [Option.toList, List.cons_append, List.nil_append]
  have kk6 : ∀ p k, 62 ≤ p → M3 p k = M p k := (fun p k hp => k4 p k (by unfold WTH; omega))
  refine xr_pop dL_law_686 rfl ?_
  refine xr_aload_n dL_law_687 1 rfl ?_
  refine xr_aload_n dL_law_688 3 rfl ?_
  refine xr_iload_n dL_law_689 0 rfl ?_
  refine xr_iconst (v := 1) dL_law_690 rfl ?_
  refine xr_iadd dL_law_691 ?_
  refine xb_top (y := nI (i + 1)) (nI_add (i) (1)) ?_
  refine xr_sld rfl (vp_in_nI (show i + 1 < G.2.2.2.2.1 by omega) (by omega)) dL_law_692 ?_
  refine xb_top (y := (G.2.2.2.2.2 (i + 1))) (by rw [nI_clamp (by omega)]) ?_
  refine xr_callV (As := [.int ((G.2.2.2.2.2 (i + 1)))]) (rest := []) mlL_88 (gx_X10_start (G.2.2.2.2.2 (i + 1)) (InvR_ke kk6 hR) hWG (RG_f hWG.1 hGr kk6)) dL_law_693 s_62 rfl rfl (Nat.le_of_ble_eq_true rfl) (by decide) ⟨by decide, by decide⟩ (fun v s2 M9 J2 hq => ?_)
  obtain ⟨r11, rfl, rfl, rfl, k10, hI7, hx8⟩ := hq
  try dsimp only [Option.toList, List.cons_append, List.nil_append]
  have kk12 : ∀ p k, p < 62 → M9 p k = M3 p k := (fun p k hp => k10 p k (by unfold WRS; omega))
  refine xr_pop dL_law_696 rfl ?_
  refine xr_goto (tgt := 1502) dL_law_697 rfl ?_
  refine xb_ls (ls2 := [(3, .int (nI (i))), (2, .ref (62)), (1, .ref (0)), (0, .ref (1002))]) [0, 1, 2, 3] rfl ?_
  exact hN _ _ (InvC_ke kk12 hI1) hI7 (RB_f (fun p k hp => (k10 p k (nx_WRS_CSB hp)).trans (k4 p k (nx_WTH_CSB hp))) hB_) (RP_f (fun p k hp => (k10 p k (nx_WRS_CSP hp)).trans (k4 p k (nx_WTH_CSP hp))) hP_) (RT_f (fun p k hp => (k10 p k (nx_WRS_CST hp)).trans (k4 p k (nx_WTH_CST hp))) hT_) (RS_f (fun p k hp => (k10 p k (nx_WRS_CSS hp)).trans (k4 p k (nx_WTH_CSS hp))) hS_) (RE_f rfl rfl hE_) (RY_f (fun p k hp => (k10 p k (nx_WRS_CSY hp)).trans (k4 p k (nx_WTH_CSY hp))) hY_) (jX_keep hWG hGc (fun p k hp => (k10 p k (nx_WRS_CSc hp)).trans (k4 p k (nx_WTH_CSc hp))) hx8.2 (LX_f (fun p k hp => (k10 p k (nx_WRS_CSu hp)).trans (k4 p k (nx_WTH_CSu hp))) ⟨hWL, hLc, hLr⟩) (KX_f (fun p k hp => (k10 p k (nx_WRS_CSk hp)).trans (k4 p k (nx_WTH_CSk hp))) (Nat.le_refl _) hWG.1 hKX))
