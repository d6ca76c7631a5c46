set_option maxRecDepth 100000 in
set_option maxHeartbeats 4000000 in
theorem lwx_18 {l : Launch} {G : xG} (hL : G.2.2.2.2.1 ≤ 3072) {M : xM} {J : xJ} {i : Nat} (hi : i + 6 ≤ G.2.2.2.2.1) (hC : InvC M) (hR : InvR M) (hB_ : RB M) (hP_ : RP M) (hT_ : RT M) (hS_ : RS M) (hE_ : RE J) (hY_ : RY M J) (hX_ : RX M) (hN : ∀ (M2 : xM) (J2 : xJ), InvC M2 → InvR M2 → RB M2 → RP M2 → RT M2 → RS M2 → RE J2 → RY M2 J2 → RX M2 → x_X l G fL_law 200 600000 7302250 (qR (some (.int 1))) 1502 [(3, .int (nI (i))), (2, .ref (62)), (1, .ref (0)), (0, .ref (1002))] [] x_SH M2 J2 87 2934) : x_X l G fL_law 200 600000 7302250 (qR (some (.int 1))) 700 [(3, .int (nI (i))), (2, .ref (62)), (1, .ref (0)), (0, .ref (1002))] [] x_SH M J 87 2934 := by
  refine xr_aload_n dL_law_700 2 rfl ?_
  refine xr_aload_n dL_law_701 3 rfl ?_
  refine xr_iload_n dL_law_702 0 rfl ?_
  refine xr_iconst (v := 1) dL_law_703 rfl ?_
  refine xr_iadd dL_law_704 ?_
  refine xb_top (y := nI (i + 1)) (nI_add (i) (1)) ?_
  refine xr_sld rfl (vp_in_nI (show i + 1 < G.2.2.2.2.1 by omega) (by omega)) dL_law_705 ?_
  refine xb_top (y := (G.2.2.2.2.2 (i + 1))) (by rw [nI_clamp (by omega)]) ?_
  obtain ⟨nh, D, t, S, lg, lu, lw, hWG, ⟨hGc, hGr⟩, ⟨hWL, hLc, hLr⟩, hKX⟩ := id hX_
  obtain ⟨gs, hSc, hSr, hSw⟩ := Sh_of hC hS_ hE_ hY_
  refine xr_callV (As := [.int ((G.2.2.2.2.2 (i + 1)))]) (rest := []) mlL_89 (gx_X9_music (G.2.2.2.2.2 (i + 1)) hC hWG hGc hSc hSw) dL_law_706 s_0 rfl rfl (Nat.le_of_ble_eq_true rfl) (by decide) ⟨by decide, by decide⟩ (fun v s2 M3 J2 hq => ?_)
  obtain ⟨r5, rfl, rfl, rfl, k4, hI1, hx2⟩ := hq
  try dsimp only [Option.toList, List.cons_append, List.nil_append]
  have kk6 : ∀ p k, 62 ≤ p → M3 p k = M p k := (fun p k hp => k4 p k (by unfold WTH; omega))
  refine xr_pop dL_law_709 rfl ?_
  refine xr_aload_n dL_law_710 1 rfl ?_
  refine xr_aload_n dL_law_711 3 rfl ?_
  refine xr_iload_n dL_law_712 0 rfl ?_
  refine xr_iconst (v := 1) dL_law_713 rfl ?_
  refine xr_iadd dL_law_714 ?_
  refine xb_top (y := nI (i + 1)) (nI_add (i) (1)) ?_
  refine xr_sld rfl (vp_in_nI (show i + 1 < G.2.2.2.2.1 by omega) (by omega)) dL_law_715 ?_
  refine xb_top (y := (G.2.2.2.2.2 (i + 1))) (by rw [nI_clamp (by omega)]) ?_
  refine xr_callV (As := [.int ((G.2.2.2.2.2 (i + 1)))]) (rest := []) mlL_92 (gx_X10_music (G.2.2.2.2.2 (i + 1)) (InvR_ke kk6 hR) hWG (RG_f hWG.1 hGr kk6) (RSh_f hSr kk6) hSw) dL_law_716 s_62 rfl rfl (Nat.le_of_ble_eq_true rfl) (by decide) ⟨by decide, by decide⟩ (fun v s2 M9 J2 hq => ?_)
  obtain ⟨r11, rfl, rfl, rfl, k10, hI7, hx8⟩ := hq
  try dsimp only [Option.toList, List.cons_append, List.nil_append]
  have kk12 : ∀ p k, p < 62 → M9 p k = M3 p k := (fun p k hp => k10 p k (by unfold WR1; omega))
  refine xr_pop dL_law_719 rfl ?_
  refine xr_goto (tgt := 1502) dL_law_720 rfl ?_
  refine xb_ls (ls2 := [(3, .int (nI (i))), (2, .ref (62)), (1, .ref (0)), (0, .ref (1002))]) [0, 1, 2, 3] rfl ?_
  exact hN _ _ (InvC_ke kk12 hI1) hI7 (RB_f (fun p k hp => (k10 p k (nx_WR1_CSB hp)).trans (k4 p k (nx_WTH_CSB hp))) hB_) (RP_f (fun p k hp => (k10 p k (nx_WR1_CSP hp)).trans (k4 p k (nx_WTH_CSP hp))) hP_) (RT_f (fun p k hp => (k10 p k (nx_WR1_CST hp)).trans (k4 p k (nx_WTH_CST hp))) hT_) (RS_f (fun p k hp => (k10 p k (nx_WR1_CSS hp)).trans (k4 p k (nx_WTH_CSS hp))) hS_) (RE_f rfl rfl hE_) (RY_f (fun p k hp => (k10 p k (nx_WR1_CSY hp)).trans (k4 p k (nx_WTH_CSY hp))) hY_) (RX_f (fun p k hp => (k10 p k (nx_WR1_CSX hp)).trans (k4 p k (nx_WTH_CSX hp))) hX_)
set_option maxRecDepth 100000 in
set_option maxHeartbeats 4000000 in
theorem lwx_19 {l : Launch} {G : xG} (hL : G.2.2.2.2.1 ≤ 3072) {M : xM} {J : xJ} {i : Nat} (hi : i + 6 ≤ G.2.2.2.2.1) (hC : InvC M) (hR : InvR M) (hB_ : RB M) (hP_ : RP M) (hT_ : RT M) (hS_ : RS M) (hE_ : RE J) (hY_ : RY M J) (hX_ : RX M) (hN : ∀ (M2 : xM) (J2 : xJ), InvC M2 → InvR M2 → RB M2 → RP M2 → RT M2 → RS M2 → RE J2 → RY M2 J2 → RX M2 → x_X l G fL_law 200 600000 7302250 (qR (some (.int 1))) 1502 [(3, .int (nI (i))), (2, .ref (62)), (1, .ref (0)), (0, .ref (1002))] [] x_SH M2 J2 87 2934) : x_X l G fL_law 200 600000 7302250 (qR (some (.int 1))) 723 [(3, .int (nI (i))), (2, .ref (62)), (1, .ref (0)), (0, .ref (1002))] [] x_SH M J 87 2934 := by
  refine xr_aload_n dL_law_723 2 rfl ?_
  refine xr_aload_n dL_law_724 3 rfl ?_
  refine xr_iload_n dL_law_725 0 rfl ?_
  refine xr_iconst (v := 1) dL_law_726 rfl ?_
  refine xr_iadd dL_law_727 ?_
  refine xb_top (y := nI (i + 1)) (nI_add (i) (1)) ?_
  refine xr_sld rfl (vp_in_nI (show i + 1 < G.2.2.2.2.1 by omega) (by omega)) dL_law_728 ?_
  refine xb_top (y := (G.2.2.2.2.2 (i + 1))) (by rw [nI_clamp (by omega)]) ?_
  refine xr_aload_n dL_law_729 3 rfl ?_
  refine xr_iload_n dL_law_730 0 rfl ?_
  refine xr_iconst (v := 2) dL_law_731 rfl ?_
  refine xr_iadd dL_law_732 ?_
  refine xb_top (y := nI (i + 2)) (nI_add (i) (2)) ?_
  refine xr_sld rfl (vp_in_nI (show i + 2 < G.2.2.2.2.1 by omega) (by omega)) dL_law_733 ?_
  refine xb_top (y := (G.2.2.2.2.2 (i + 2))) (by rw [nI_clamp (by omega)]) ?_
  obtain ⟨nh, D, t, S, lg, lu, lw, hWG, ⟨hGc, hGr⟩, ⟨hWL, hLc, hLr⟩, hKX⟩ := id hX_
  obtain ⟨gs, hSc, hSr, hSw⟩ := Sh_of hC hS_ hE_ hY_
  refine xr_callV (As := [.int ((G.2.2.2.2.2 (i + 1))), .int ((G.2.2.2.2.2 (i + 2)))]) (rest := []) mlL_93 (gx_X9_judge (G.2.2.2.2.2 (i + 1)) (G.2.2.2.2.2 (i + 2)) hC hWG hGc hSc hSw) dL_law_734 s_0 rfl rfl (Nat.le_of_ble_eq_true rfl) (by decide) ⟨by decide, by decide⟩ (fun v s2 M3 J2 hq => ?_)
  obtain ⟨r5, rfl, rfl, rfl, k4, hI1, hx2⟩ := hq
  try dsimp only [Option.toList, List.cons_append, List.nil_append]
  have kk6 : ∀ p k, 62 ≤ p → M3 p k = M p k := (fun p k hp => k4 p k (by unfold WTH; omega))
  refine xr_pop dL_law_737 rfl ?_
  refine xr_aload_n dL_law_738 1 rfl ?_
  refine xr_aload_n dL_law_739 3 rfl ?_
  refine xr_iload_n dL_law_740 0 rfl ?_
  refine xr_iconst (v := 1) dL_law_741 rfl ?_
  refine xr_iadd dL_law_742 ?_
  refine xb_top (y := nI (i + 1)) (nI_add (i) (1)) ?_
  refine xr_sld rfl (vp_in_nI (show i + 1 < G.2.2.2.2.1 by omega) (by omega)) dL_law_743 ?_
  refine xb_top (y := (G.2.2.2.2.2 (i + 1))) (by rw [nI_clamp (by omega)]) ?_
  refine xr_aload_n dL_law_744 3 rfl ?_
  refine xr_iload_n dL_law_745 0 rfl ?_
  refine xr_iconst (v := 2) dL_law_746 rfl ?_
  refine xr_iadd dL_law_747 ?_
  refine xb_top (y := nI (i + 2)) (nI_add (i) (2)) ?_
  refine xr_sld rfl (vp_in_nI (show i + 2 < G.2.2.2.2.1 by omega) (by omega)) dL_law_748 ?_
  refine xb_top (y := (G.2.2.2.2.2 (i + 2))) (by rw [nI_clamp (by omega)]) ?_
  refine xr_callV (As := [.int ((G.2.2.2.2.2 (i + 1))), .int ((G.2.2.2.2.2 (i + 2)))]) (rest := []) mlL_96 (gx_X10_judge (G.2.2.2.2.2 (i + 1)) (G.2.2.2.2.2 (i + 2)) (InvR_ke kk6 hR) hWG (RG_f hWG.1 hGr kk6) (RSh_f hSr kk6) hSw) dL_law_749 s_62 rfl rfl (Nat.le_of_ble_eq_true rfl) (by decide) ⟨by decide, by decide⟩ (fun v s2 M9 J2 hq => ?_)
  obtain ⟨r11, rfl, rfl, rfl, k10, hI7, hx8⟩ := hq
  try dsimp only [Option.toList, List.cons_append, List.nil_append]
  have kk12 : ∀ p k, p < 62 → M9 p k = M3 p k := (fun p k hp => k10 p k (by unfold WR1; omega))
  refine xr_pop dL_law_752 rfl ?_
  refine xr_goto (tgt := 1502) dL_law_753 rfl ?_
  refine xb_ls (ls2 := [(3, .int (nI (i))), (2, .ref (62)), (1, .ref (0)), (0, .ref (1002))]) [0, 1, 2, 3] rfl ?_
  exact hN _ _ (InvC_ke kk12 hI1) hI7 (RB_f (fun p k hp => (k10 p k (nx_WR1_CSB hp)).trans (k4 p k (nx_WTH_CSB hp))) hB_) (RP_f (fun p k hp => (k10 p k (nx_WR1_CSP hp)).trans (k4 p k (nx_WTH_CSP hp))) hP_) (RT_f (fun p k hp => (k10 p k (nx_WR1_CST hp)).trans (k4 p k (nx_WTH_CST hp))) hT_) (RS_f (fun p k hp => (k10 p k (nx_WR1_CSS hp)).trans (k4 p k (nx_WTH_CSS hp))) hS_) (RE_f rfl rfl hE_) (RY_f (fun p k hp => (k10 p k (nx_WR1_CSY hp)).trans (k4 p k (nx_WTH_CSY hp))) hY_) (RX_f (fun p k hp => (k10 p k (nx_WR1_CSX hp)).trans (k4 p k (nx_WTH_CSX hp))) hX_)
set_option maxRecDepth 100000 in
set_option maxHeartbeats 4000000 in
theorem lwx_20 {l : Launch} {G : xG} (hL : G.2.2.2.2.1 ≤ 3072) {M : xM} {J : xJ} {i : Nat} (hi : i + 6 ≤ G.2.2.2.2.1) (hC : InvC M) (hR : InvR M) (hB_ : RB M) (hP_ : RP M) (hT_ : RT M) (hS_ : RS M) (hE_ : RE J) (hY_ : RY M J) (hX_ : RX M) (hN : ∀ (M2 : xM) (J2 : xJ), InvC M2 → InvR M2 → RB M2 → RP M2 → RT M2 → RS M2 → RE J2 → RY M2 J2 → RX M2 → x_X l G fL_law 200 600000 7302250 (qR (some (.int 1))) 1502 [(3, .int (nI (i))), (2, .ref (62)), (1, .ref (0)), (0, .ref (1002))] [] x_SH M2 J2 87 2934) : x_X l G fL_law 200 600000 7302250 (qR (some (.int 1))) 756 [(3, .int (nI (i))), (2, .ref (62)), (1, .ref (0)), (0, .ref (1002))] [] x_SH M J 87 2934 := by
  refine xr_aload_n dL_law_756 2 rfl ?_
  refine xr_aload_n dL_law_757 3 rfl ?_
  refine xr_iload_n dL_law_758 0 rfl ?_
  refine xr_iconst (v := 1) dL_law_759 rfl ?_
  refine xr_iadd dL_law_760 ?_
  refine xb_top (y := nI (i + 1)) (nI_add (i) (1)) ?_
  refine xr_sld rfl (vp_in_nI (show i + 1 < G.2.2.2.2.1 by omega) (by omega)) dL_law_761 ?_
  refine xb_top (y := (G.2.2.2.2.2 (i + 1))) (by rw [nI_clamp (by omega)]) ?_
  refine xr_aload_n dL_law_762 3 rfl ?_
  refine xr_iload_n dL_law_763 0 rfl ?_
  refine xr_iconst (v := 2) dL_law_764 rfl ?_
  refine xr_iadd dL_law_765 ?_
  refine xb_top (y := nI (i + 2)) (nI_add (i) (2)) ?_
  refine xr_sld rfl (vp_in_nI (show i + 2 < G.2.2.2.2.1 by omega) (by omega)) dL_law_766 ?_
  refine xb_top (y := (G.2.2.2.2.2 (i + 2))) (by rw [nI_clamp (by omega)]) ?_
  refine xr_aload_n dL_law_767 3 rfl ?_
  refine xr_iload_n dL_law_768 0 rfl ?_
  refine xr_iconst (v := 3) dL_law_769 rfl ?_
  refine xr_iadd dL_law_770 ?_
  refine xb_top (y := nI (i + 3)) (nI_add (i) (3)) ?_
  refine xr_sld rfl (vp_in_nI (show i + 3 < G.2.2.2.2.1 by omega) (by omega)) dL_law_771 ?_
  refine xb_top (y := (G.2.2.2.2.2 (i + 3))) (by rw [nI_clamp (by omega)]) ?_
  obtain ⟨nh, D, t, S, lg, lu, lw, hWG, ⟨hGc, hGr⟩, ⟨hWL, hLc, hLr⟩, hKX⟩ := id hX_
  obtain ⟨gs, hSc, hSr, hSw⟩ := Sh_of hC hS_ hE_ hY_
  refine xr_callV (As := [.int ((G.2.2.2.2.2 (i + 1))), .int ((G.2.2.2.2.2 (i + 2))), .int ((G.2.2.2.2.2 (i + 3)))]) (rest := []) mlL_97 (gx_X9_begun (G.2.2.2.2.2 (i + 1)) (G.2.2.2.2.2 (i + 2)) (G.2.2.2.2.2 (i + 3)) hC hWG hGc hSc hSw) dL_law_772 s_0 rfl rfl (Nat.le_of_ble_eq_true rfl) (by decide) ⟨by decide, by decide⟩ (fun v s2 M3 J2 hq => ?_)
  obtain ⟨r5, rfl, rfl, rfl, k4, hI1, hx2⟩ := hq
  try dsimp only [Option.toList, List.cons_append, List.nil_append]
  have kk6 : ∀ p k, 62 ≤ p → M3 p k = M p k := (fun p k hp => k4 p k (by unfold WTH; omega))
  refine xr_pop dL_law_775 rfl ?_
  refine xr_aload_n dL_law_776 1 rfl ?_
  refine xr_aload_n dL_law_777 3 rfl ?_
  refine xr_iload_n dL_law_778 0 rfl ?_
  refine xr_iconst (v := 1) dL_law_779 rfl ?_
  refine xr_iadd dL_law_780 ?_
  refine xb_top (y := nI (i + 1)) (nI_add (i) (1)) ?_
  refine xr_sld rfl (vp_in_nI (show i + 1 < G.2.2.2.2.1 by omega) (by omega)) dL_law_781 ?_
  refine xb_top (y := (G.2.2.2.2.2 (i + 1))) (by rw [nI_clamp (by omega)]) ?_
  refine xr_aload_n dL_law_782 3 rfl ?_
  refine xr_iload_n dL_law_783 0 rfl ?_
  refine xr_iconst (v := 2) dL_law_784 rfl ?_
  refine xr_iadd dL_law_785 ?_
  refine xb_top (y := nI (i + 2)) (nI_add (i) (2)) ?_
  refine xr_sld rfl (vp_in_nI (show i + 2 < G.2.2.2.2.1 by omega) (by omega)) dL_law_786 ?_
  refine xb_top (y := (G.2.2.2.2.2 (i + 2))) (by rw [nI_clamp (by omega)]) ?_
  refine xr_aload_n dL_law_787 3 rfl ?_
  refine xr_iload_n dL_law_788 0 rfl ?_
  refine xr_iconst (v := 3) dL_law_789 rfl ?_
  refine xr_iadd dL_law_790 ?_
  refine xb_top (y := nI (i + 3)) (nI_add (i) (3)) ?_
  refine xr_sld rfl (vp_in_nI (show i + 3 < G.2.2.2.2.1 by omega) (by omega)) dL_law_791 ?_
  refine xb_top (y := (G.2.2.2.2.2 (i + 3))) (by rw [nI_clamp (by omega)]) ?_
  refine xr_callV (As := [.int ((G.2.2.2.2.2 (i + 1))), .int ((G.2.2.2.2.2 (i + 2))), .int ((G.2.2.2.2.2 (i + 3)))]) (rest := []) mlL_100 (gx_X10_begun (G.2.2.2.2.2 (i + 1)) (G.2.2.2.2.2 (i + 2)) (G.2.2.2.2.2 (i + 3)) (InvR_ke kk6 hR) hWG (RG_f hWG.1 hGr kk6) (RSh_f hSr kk6) hSw) dL_law_792 s_62 rfl rfl (Nat.le_of_ble_eq_true rfl) (by decide) ⟨by decide, by decide⟩ (fun v s2 M9 J2 hq => ?_)
  obtain ⟨r11, rfl, rfl, rfl, k10, hI7, hx8⟩ := hq
  try dsimp only [Option.toList, List.cons_append, List.nil_append]
  have kk12 : ∀ p k, p < 62 → M9 p k = M3 p k := (fun p k hp => k10 p k (by unfold WRS; omega))
  refine xr_pop dL_law_795 rfl ?_
  refine xr_goto (tgt := 1502) dL_law_796 rfl ?_
  refine xb_ls (ls2 := [(3, .int (nI (i))), (2, .ref (62)), (1, .ref (0)), (0, .ref (1002))]) [0, 1, 2, 3] rfl ?_
  exact hN _ _ (InvC_ke kk12 hI1) hI7 (RB_f (fun p k hp => (k10 p k (nx_WRS_CSB hp)).trans (k4 p k (nx_WTH_CSB hp))) hB_) (RP_f (fun p k hp => (k10 p k (nx_WRS_CSP hp)).trans (k4 p k (nx_WTH_CSP hp))) hP_) (RT_f (fun p k hp => (k10 p k (nx_WRS_CST hp)).trans (k4 p k (nx_WTH_CST hp))) hT_) (RS_f (fun p k hp => (k10 p k (nx_WRS_CSS hp)).trans (k4 p k (nx_WTH_CSS hp))) hS_) (RE_f rfl rfl hE_) (RY_f (fun p k hp => (k10 p k (nx_WRS_CSY hp)).trans (k4 p k (nx_WTH_CSY hp))) hY_) (jX_keep hWG hGc (fun p k hp => (k10 p k (nx_WRS_CSc hp)).trans (k4 p k (nx_WTH_CSc hp))) hx8.2 (LX_f (fun p k hp => (k10 p k (nx_WRS_CSu hp)).trans (k4 p k (nx_WTH_CSu hp))) ⟨hWL, hLc, hLr⟩) (KX_f (fun p k hp => (k10 p k (nx_WRS_CSk hp)).trans (k4 p k (nx_WTH_CSk hp))) (Nat.le_refl _) hWG.1 hKX))
