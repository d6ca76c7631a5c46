abbrev CSB (p k : Nat) : Prop := (p = 46 ∧ k = 2) ∨ (p = 47) ∨ (p = 62 ∧ k = 36) ∨ (p = 81)
abbrev CSS (p k : Nat) : Prop := (50 ≤ p ∧ p ≤ 61) ∨ (83 ≤ p ∧ p ≤ 84) ∨ (p = 46 ∧ k = 2)
abbrev CSP (p k : Nat) : Prop := (p = 6 ∧ k = 2) ∨ (p = 62 ∧ k = 11)
abbrev CSN (p k : Nat) : Prop := (p = 13 ∧ k = 3) ∨ (p = 62 ∧ k = 9) ∨ (p = 0 ∧ k = 9) ∨ (p = 62 ∧ k = 33) ∨ (p = 20 ∧ k = 3) ∨ (p = 80 ∧ k = 0)
abbrev CSL (p k : Nat) : Prop := (36 ≤ p ∧ p ≤ 37) ∨ (75 ≤ p ∧ p ≤ 76)
abbrev CSH (p k : Nat) : Prop := (p = 13 ∧ k = 2) ∨ (p = 62 ∧ k = 6)
abbrev CSY (p k : Nat) : Prop := (50 ≤ p ∧ p ≤ 61) ∨ (p = 83)
theorem RB_f {M M2 : xM} (h : ∀ p k, CSB p k → M2 p k = M p k) (hR : RB M) : RB M2 := ⟨(h 46 2 (by decide)).trans (hR.1.trans (h 62 36 (by decide)).symm), fun j hj => (h 47 j (Or.inr (Or.inl rfl))).trans ((hR.2 j hj).trans (h 81 j (Or.inr (Or.inr (Or.inr rfl)))).symm)⟩
theorem RS_f {M M2 : xM} (h : ∀ p k, CSS p k → M2 p k = M p k) (hR : RS M) : RS M2 := fun d hd => by
  have e1 : ∀ j, M2 (50 + 2 * d) j = M (50 + 2 * d) j := fun j => h _ j (Or.inl (by omega))
  have e2 : ∀ j, M2 83 j = M 83 j := fun j => h _ j (Or.inr (Or.inl (by omega)))
  have e3 : ∀ j, M2 84 j = M 84 j := fun j => h _ j (Or.inr (Or.inl (by omega)))
  rw [e1, e1, e1, e1, e2, e3, h 46 2 (by decide)]
  exact hR d hd
theorem RP_f {M M2 : xM} (h : ∀ p k, CSP p k → M2 p k = M p k) (hR : RP M) : RP M2 := (h 6 2 (by decide)).trans (hR.trans (h 62 11 (by decide)).symm)
theorem RN_f {M M2 : xM} (h : ∀ p k, CSN p k → M2 p k = M p k) (hR : RN M) : RN M2 := ⟨(h 13 3 (by decide)).trans (hR.1.trans (h 62 9 (by decide)).symm), (h 0 9 (by decide)).trans (hR.2.1.trans (h 62 33 (by decide)).symm), (h 20 3 (by decide)).trans (hR.2.2.trans (h 80 0 (by decide)).symm)⟩
theorem RL_f {M M2 : xM} (h : ∀ p k, CSL p k → M2 p k = M p k) (hR : RLk M) : RLk M2 := by
  have e1 : ∀ j, M2 36 j = M 36 j := fun j => h _ j (Or.inl (by omega))
  have e2 : ∀ j, M2 37 j = M 37 j := fun j => h _ j (Or.inl (by omega))
  have e3 : ∀ j, M2 75 j = M 75 j := fun j => h _ j (Or.inr (by omega))
  have e4 : ∀ j, M2 76 j = M 76 j := fun j => h _ j (Or.inr (by omega))
  refine ⟨fun j hj => ?_, fun j hj => ?_⟩
  · rw [e1, e2, e3, e4]; exact hR.1 j hj
  · rw [e1, e2]; exact hR.2 j hj
theorem RH_f {M M2 : xM} (h : ∀ p k, CSH p k → M2 p k = M p k) (hR : RH_ M) : RH_ M2 := (h 13 2 (by decide)).trans (hR.trans (h 62 6 (by decide)).symm)
theorem RE_f {J J1 J2 : xJ} (h9 : J1 = J) (h10 : J2 = J1) (hR : RE J) : RE J2 := by rw [h10, h9]; exact hR
theorem RS_e {M M1 M2 : xM} (h9 : M1 = M) (h10 : M2 = M1) (hR : RS M) : RS M2 := by rw [h10, h9]; exact hR
theorem RY_f {M M2 : xM} {J : xJ} (h : ∀ p k, CSY p k → M2 p k = M p k) (hR : RY M J) : RY M2 J := fun d hd => by
  have e1 : ∀ j, M2 (50 + 2 * d) j = M (50 + 2 * d) j := fun j => h _ j (Or.inl (by omega))
  have e2 : ∀ j, M2 83 j = M 83 j := fun j => h _ j (Or.inr (by omega))
  rw [e1, e1, e2]
  exact hR d hd
theorem nx_WAH_CSB {p k : Nat} (hp : CSB p k) : ¬ WAH p k := by unfold CSB at hp; unfold WAH; omega
theorem nx_WAD_CSB {p k : Nat} (hp : CSB p k) : ¬ WAD p k := by unfold CSB at hp; unfold WAD; omega
theorem nx_WAH_CSP {p k : Nat} (hp : CSP p k) : ¬ WAH p k := by unfold CSP at hp; unfold WAH; omega
theorem nx_WAD_CSP {p k : Nat} (hp : CSP p k) : ¬ WAD p k := by unfold CSP at hp; unfold WAD; omega
theorem nx_WAH_CSN {p k : Nat} (hp : CSN p k) : ¬ WAH p k := by unfold CSN at hp; unfold WAH; omega
theorem nx_WAD_CSN {p k : Nat} (hp : CSN p k) : ¬ WAD p k := by unfold CSN at hp; unfold WAD; omega
theorem nx_WAH_CSL {p k : Nat} (hp : CSL p k) : ¬ WAH p k := by unfold CSL at hp; unfold WAH; omega
theorem nx_WAD_CSL {p k : Nat} (hp : CSL p k) : ¬ WAD p k := by unfold CSL at hp; unfold WAD; omega
theorem nx_WAH_CSS {p k : Nat} (hp : CSS p k) : ¬ WAH p k := by unfold CSS at hp; unfold WAH; omega
theorem nx_WAD_CSS {p k : Nat} (hp : CSS p k) : ¬ WAD p k := by unfold CSS at hp; unfold WAD; omega
theorem nx_WAH_CSY {p k : Nat} (hp : CSY p k) : ¬ WAH p k := by unfold CSY at hp; unfold WAH; omega
theorem nx_WAD_CSY {p k : Nat} (hp : CSY p k) : ¬ WAD p k := by unfold CSY at hp; unfold WAD; omega
theorem nx_WMD_CSB {p k : Nat} (hp : CSB p k) : ¬ WMD p k := by unfold CSB at hp; unfold WMD; omega
theorem nx_WMR_CSB {p k : Nat} (hp : CSB p k) : ¬ WMR p k := by unfold CSB at hp; unfold WMR; omega
theorem nx_WMD_CSP {p k : Nat} (hp : CSP p k) : ¬ WMD p k := by unfold CSP at hp; unfold WMD; omega
theorem nx_WMR_CSP {p k : Nat} (hp : CSP p k) : ¬ WMR p k := by unfold CSP at hp; unfold WMR; omega
theorem nx_WMD_CSN {p k : Nat} (hp : CSN p k) : ¬ WMD p k := by unfold CSN at hp; unfold WMD; omega
theorem nx_WMR_CSN {p k : Nat} (hp : CSN p k) : ¬ WMR p k := by unfold CSN at hp; unfold WMR; omega
theorem nx_WMD_CSL {p k : Nat} (hp : CSL p k) : ¬ WMD p k := by unfold CSL at hp; unfold WMD; omega
theorem nx_WMR_CSL {p k : Nat} (hp : CSL p k) : ¬ WMR p k := by unfold CSL at hp; unfold WMR; omega
theorem nx_WMD_CSS {p k : Nat} (hp : CSS p k) : ¬ WMD p k := by unfold CSS at hp; unfold WMD; omega
theorem nx_WMR_CSS {p k : Nat} (hp : CSS p k) : ¬ WMR p k := by unfold CSS at hp; unfold WMR; omega
theorem nx_WMD_CSY {p k : Nat} (hp : CSY p k) : ¬ WMD p k := by unfold CSY at hp; unfold WMD; omega
theorem nx_WMR_CSY {p k : Nat} (hp : CSY p k) : ¬ WMR p k := by unfold CSY at hp; unfold WMR; omega
theorem nx_WMD_CSH {p k : Nat} (hp : CSH p k) : ¬ WMD p k := by unfold CSH at hp; unfold WMD; omega
theorem nx_WMR_CSH {p k : Nat} (hp : CSH p k) : ¬ WMR p k := by unfold CSH at hp; unfold WMR; omega
theorem nx_WTK_CSB {p k : Nat} (hp : CSB p k) : ¬ WTK p k := by unfold CSB at hp; unfold WTK; omega
theorem nx_WFES_CSB {p k : Nat} (hp : CSB p k) : ¬ WFES p k := by unfold CSB at hp; unfold WFES; omega
theorem nx_WTK_CSN {p k : Nat} (hp : CSN p k) : ¬ WTK p k := by unfold CSN at hp; unfold WTK; omega
theorem nx_WFES_CSN {p k : Nat} (hp : CSN p k) : ¬ WFES p k := by unfold CSN at hp; unfold WFES; omega
theorem nx_WTK_CSL {p k : Nat} (hp : CSL p k) : ¬ WTK p k := by unfold CSL at hp; unfold WTK; omega
theorem nx_WFES_CSL {p k : Nat} (hp : CSL p k) : ¬ WFES p k := by unfold CSL at hp; unfold WFES; omega
theorem nx_WTK_CSS {p k : Nat} (hp : CSS p k) : ¬ WTK p k := by unfold CSS at hp; unfold WTK; omega
theorem nx_WFES_CSS {p k : Nat} (hp : CSS p k) : ¬ WFES p k := by unfold CSS at hp; unfold WFES; omega
theorem nx_WTK_CSY {p k : Nat} (hp : CSY p k) : ¬ WTK p k := by unfold CSY at hp; unfold WTK; omega
theorem nx_WFES_CSY {p k : Nat} (hp : CSY p k) : ¬ WFES p k := by unfold CSY at hp; unfold WFES; omega
theorem nx_WTK_CSH {p k : Nat} (hp : CSH p k) : ¬ WTK p k := by unfold CSH at hp; unfold WTK; omega
theorem nx_WFES_CSH {p k : Nat} (hp : CSH p k) : ¬ WFES p k := by unfold CSH at hp; unfold WFES; omega
theorem nx_WLAW_CSB {p k : Nat} (hp : CSB p k) : ¬ WLAW p k := by unfold CSB at hp; unfold WLAW; omega
theorem nx_WLT_CSB {p k : Nat} (hp : CSB p k) : ¬ WLT p k := by unfold CSB at hp; unfold WLT; omega
theorem nx_WLAW_CSN {p k : Nat} (hp : CSN p k) : ¬ WLAW p k := by unfold CSN at hp; unfold WLAW; omega
theorem nx_WLT_CSN {p k : Nat} (hp : CSN p k) : ¬ WLT p k := by unfold CSN at hp; unfold WLT; omega
theorem nx_WLAW_CSL {p k : Nat} (hp : CSL p k) : ¬ WLAW p k := by unfold CSL at hp; unfold WLAW; omega
theorem nx_WLT_CSL {p k : Nat} (hp : CSL p k) : ¬ WLT p k := by unfold CSL at hp; unfold WLT; omega
theorem nx_WLAW_CSS {p k : Nat} (hp : CSS p k) : ¬ WLAW p k := by unfold CSS at hp; unfold WLAW; omega
theorem nx_WLT_CSS {p k : Nat} (hp : CSS p k) : ¬ WLT p k := by unfold CSS at hp; unfold WLT; omega
theorem nx_WLAW_CSY {p k : Nat} (hp : CSY p k) : ¬ WLAW p k := by unfold CSY at hp; unfold WLAW; omega
theorem nx_WLT_CSY {p k : Nat} (hp : CSY p k) : ¬ WLT p k := by unfold CSY at hp; unfold WLT; omega
theorem nx_WLAW_CSH {p k : Nat} (hp : CSH p k) : ¬ WLAW p k := by unfold CSH at hp; unfold WLAW; omega
theorem nx_WLT_CSH {p k : Nat} (hp : CSH p k) : ¬ WLT p k := by unfold CSH at hp; unfold WLT; omega
theorem nx_W13t_CSB {p k : Nat} (hp : CSB p k) : ¬ W13t p k := by unfold CSB at hp; unfold W13t; omega
theorem nx_WRG_CSB {p k : Nat} (hp : CSB p k) : ¬ WRG p k := by unfold CSB at hp; unfold WRG; omega
theorem nx_W13t_CSP {p k : Nat} (hp : CSP p k) : ¬ W13t p k := by unfold CSP at hp; unfold W13t; omega
theorem nx_WRG_CSP {p k : Nat} (hp : CSP p k) : ¬ WRG p k := by unfold CSP at hp; unfold WRG; omega
theorem nx_W13t_CSL {p k : Nat} (hp : CSL p k) : ¬ W13t p k := by unfold CSL at hp; unfold W13t; omega
theorem nx_WRG_CSL {p k : Nat} (hp : CSL p k) : ¬ WRG p k := by unfold CSL at hp; unfold WRG; omega
theorem nx_W13t_CSS {p k : Nat} (hp : CSS p k) : ¬ W13t p k := by unfold CSS at hp; unfold W13t; omega
theorem nx_WRG_CSS {p k : Nat} (hp : CSS p k) : ¬ WRG p k := by unfold CSS at hp; unfold WRG; omega
theorem nx_W13t_CSY {p k : Nat} (hp : CSY p k) : ¬ W13t p k := by unfold CSY at hp; unfold W13t; omega
theorem nx_WRG_CSY {p k : Nat} (hp : CSY p k) : ¬ WRG p k := by unfold CSY at hp; unfold WRG; omega
theorem nx_W13t_CSH {p k : Nat} (hp : CSH p k) : ¬ W13t p k := by unfold CSH at hp; unfold W13t; omega
theorem nx_WRG_CSH {p k : Nat} (hp : CSH p k) : ¬ WRG p k := by unfold CSH at hp; unfold WRG; omega
theorem nx_W15_CSB {p k : Nat} (hp : CSB p k) : ¬ W15 p k := by unfold CSB at hp; unfold W15; omega
theorem nx_WLI_CSB {p k : Nat} (hp : CSB p k) : ¬ WLI p k := by unfold CSB at hp; unfold WLI; omega
theorem nx_W15_CSP {p k : Nat} (hp : CSP p k) : ¬ W15 p k := by unfold CSP at hp; unfold W15; omega
theorem nx_WLI_CSP {p k : Nat} (hp : CSP p k) : ¬ WLI p k := by unfold CSP at hp; unfold WLI; omega
theorem nx_W15_CSN {p k : Nat} (hp : CSN p k) : ¬ W15 p k := by unfold CSN at hp; unfold W15; omega
theorem nx_WLI_CSN {p k : Nat} (hp : CSN p k) : ¬ WLI p k := by unfold CSN at hp; unfold WLI; omega
theorem nx_W15_CSL {p k : Nat} (hp : CSL p k) : ¬ W15 p k := by unfold CSL at hp; unfold W15; omega
theorem nx_WLI_CSL {p k : Nat} (hp : CSL p k) : ¬ WLI p k := by unfold CSL at hp; unfold WLI; omega
theorem nx_W15_CSS {p k : Nat} (hp : CSS p k) : ¬ W15 p k := by unfold CSS at hp; unfold W15; omega
theorem nx_WLI_CSS {p k : Nat} (hp : CSS p k) : ¬ WLI p k := by unfold CSS at hp; unfold WLI; omega
theorem nx_W15_CSY {p k : Nat} (hp : CSY p k) : ¬ W15 p k := by unfold CSY at hp; unfold W15; omega
theorem nx_WLI_CSY {p k : Nat} (hp : CSY p k) : ¬ WLI p k := by unfold CSY at hp; unfold WLI; omega
theorem nx_W15_CSH {p k : Nat} (hp : CSH p k) : ¬ W15 p k := by unfold CSH at hp; unfold W15; omega
theorem nx_WLI_CSH {p k : Nat} (hp : CSH p k) : ¬ WLI p k := by unfold CSH at hp; unfold WLI; omega
theorem nx_WTH_CSB {p k : Nat} (hp : CSB p k) : ¬ WTH p k := by unfold CSB at hp; unfold WTH; omega
theorem nx_WR1_CSB {p k : Nat} (hp : CSB p k) : ¬ WR1 p k := by unfold CSB at hp; unfold WR1; omega
theorem nx_WTH_CSP {p k : Nat} (hp : CSP p k) : ¬ WTH p k := by unfold CSP at hp; unfold WTH; omega
theorem nx_WR1_CSP {p k : Nat} (hp : CSP p k) : ¬ WR1 p k := by unfold CSP at hp; unfold WR1; omega
theorem nx_WTH_CSN {p k : Nat} (hp : CSN p k) : ¬ WTH p k := by unfold CSN at hp; unfold WTH; omega
theorem nx_WR1_CSN {p k : Nat} (hp : CSN p k) : ¬ WR1 p k := by unfold CSN at hp; unfold WR1; omega
theorem nx_WTH_CSL {p k : Nat} (hp : CSL p k) : ¬ WTH p k := by unfold CSL at hp; unfold WTH; omega
theorem nx_WR1_CSL {p k : Nat} (hp : CSL p k) : ¬ WR1 p k := by unfold CSL at hp; unfold WR1; omega
theorem nx_WTH_CSS {p k : Nat} (hp : CSS p k) : ¬ WTH p k := by unfold CSS at hp; unfold WTH; omega
theorem nx_WR1_CSS {p k : Nat} (hp : CSS p k) : ¬ WR1 p k := by unfold CSS at hp; unfold WR1; omega
theorem nx_WTH_CSY {p k : Nat} (hp : CSY p k) : ¬ WTH p k := by unfold CSY at hp; unfold WTH; omega
theorem nx_WR1_CSY {p k : Nat} (hp : CSY p k) : ¬ WR1 p k := by unfold CSY at hp; unfold WR1; omega
theorem nx_WTH_CSH {p k : Nat} (hp : CSH p k) : ¬ WTH p k := by unfold CSH at hp; unfold WTH; omega
theorem nx_WR1_CSH {p k : Nat} (hp : CSH p k) : ¬ WR1 p k := by unfold CSH at hp; unfold WR1; omega
theorem nx_WRB_CSB {p k : Nat} (hp : CSB p k) : ¬ WRB p k := by unfold CSB at hp; unfold WRB; omega
theorem nx_WRB_CSP {p k : Nat} (hp : CSP p k) : ¬ WRB p k := by unfold CSP at hp; unfold WRB; omega
theorem nx_WRB_CSN {p k : Nat} (hp : CSN p k) : ¬ WRB p k := by unfold CSN at hp; unfold WRB; omega
theorem nx_WRB_CSL {p k : Nat} (hp : CSL p k) : ¬ WRB p k := by unfold CSL at hp; unfold WRB; omega
theorem nx_WRB_CSS {p k : Nat} (hp : CSS p k) : ¬ WRB p k := by unfold CSS at hp; unfold WRB; omega
theorem nx_WRB_CSY {p k : Nat} (hp : CSY p k) : ¬ WRB p k := by unfold CSY at hp; unfold WRB; omega
theorem nx_WRB_CSH {p k : Nat} (hp : CSH p k) : ¬ WRB p k := by unfold CSH at hp; unfold WRB; omega
theorem nx_WRL_CSB {p k : Nat} (hp : CSB p k) : ¬ WRL p k := by unfold CSB at hp; unfold WRL; omega
theorem nx_WRL_CSP {p k : Nat} (hp : CSP p k) : ¬ WRL p k := by unfold CSP at hp; unfold WRL; omega
theorem nx_WRL_CSN {p k : Nat} (hp : CSN p k) : ¬ WRL p k := by unfold CSN at hp; unfold WRL; omega
theorem nx_WRL_CSL {p k : Nat} (hp : CSL p k) : ¬ WRL p k := by unfold CSL at hp; unfold WRL; omega
theorem nx_WRL_CSS {p k : Nat} (hp : CSS p k) : ¬ WRL p k := by unfold CSS at hp; unfold WRL; omega
theorem nx_WRL_CSY {p k : Nat} (hp : CSY p k) : ¬ WRL p k := by unfold CSY at hp; unfold WRL; omega
theorem nx_WRL_CSH {p k : Nat} (hp : CSH p k) : ¬ WRL p k := by unfold CSH at hp; unfold WRL; omega
theorem nx_WRS_CSB {p k : Nat} (hp : CSB p k) : ¬ WRS p k := by unfold CSB at hp; unfold WRS; omega
theorem nx_WRS_CSP {p k : Nat} (hp : CSP p k) : ¬ WRS p k := by unfold CSP at hp; unfold WRS; omega
theorem nx_WRS_CSN {p k : Nat} (hp : CSN p k) : ¬ WRS p k := by unfold CSN at hp; unfold WRS; omega
theorem nx_WRS_CSL {p k : Nat} (hp : CSL p k) : ¬ WRS p k := by unfold CSL at hp; unfold WRS; omega
theorem nx_WRS_CSS {p k : Nat} (hp : CSS p k) : ¬ WRS p k := by unfold CSS at hp; unfold WRS; omega
theorem nx_WRS_CSY {p k : Nat} (hp : CSY p k) : ¬ WRS p k := by unfold CSY at hp; unfold WRS; omega
theorem nx_WRS_CSH {p k : Nat} (hp : CSH p k) : ¬ WRS p k := by unfold CSH at hp; unfold WRS; omega
theorem nx_WSK_CSB {p k : Nat} (hp : CSB p k) : ¬ WSK p k := by unfold CSB at hp; unfold WSK; omega
theorem nx_WRK_CSB {p k : Nat} (hp : CSB p k) : ¬ WRK p k := by unfold CSB at hp; unfold WRK; omega
theorem nx_WSK_CSP {p k : Nat} (hp : CSP p k) : ¬ WSK p k := by unfold CSP at hp; unfold WSK; omega
theorem nx_WRK_CSP {p k : Nat} (hp : CSP p k) : ¬ WRK p k := by unfold CSP at hp; unfold WRK; omega
theorem nx_WSK_CSN {p k : Nat} (hp : CSN p k) : ¬ WSK p k := by unfold CSN at hp; unfold WSK; omega
theorem nx_WRK_CSN {p k : Nat} (hp : CSN p k) : ¬ WRK p k := by unfold CSN at hp; unfold WRK; omega
theorem nx_WSK_CSS {p k : Nat} (hp : CSS p k) : ¬ WSK p k := by unfold CSS at hp; unfold WSK; omega
theorem nx_WRK_CSS {p k : Nat} (hp : CSS p k) : ¬ WRK p k := by unfold CSS at hp; unfold WRK; omega
theorem nx_WSK_CSY {p k : Nat} (hp : CSY p k) : ¬ WSK p k := by unfold CSY at hp; unfold WSK; omega
theorem nx_WRK_CSY {p k : Nat} (hp : CSY p k) : ¬ WRK p k := by unfold CSY at hp; unfold WRK; omega
theorem nx_WSK_CSH {p k : Nat} (hp : CSH p k) : ¬ WSK p k := by unfold CSH at hp; unfold WSK; omega
theorem nx_WRK_CSH {p k : Nat} (hp : CSH p k) : ¬ WRK p k := by unfold CSH at hp; unfold WRK; omega
theorem nx_WFD_CSB {p k : Nat} (hp : CSB p k) : ¬ WFD p k := by unfold CSB at hp; unfold WFD; omega
theorem nx_WFR_CSB {p k : Nat} (hp : CSB p k) : ¬ WFR p k := by unfold CSB at hp; unfold WFR; omega
theorem nx_WFD_CSP {p k : Nat} (hp : CSP p k) : ¬ WFD p k := by unfold CSP at hp; unfold WFD; omega
theorem nx_WFR_CSP {p k : Nat} (hp : CSP p k) : ¬ WFR p k := by unfold CSP at hp; unfold WFR; omega
theorem nx_WFD_CSN {p k : Nat} (hp : CSN p k) : ¬ WFD p k := by unfold CSN at hp; unfold WFD; omega
theorem nx_WFR_CSN {p k : Nat} (hp : CSN p k) : ¬ WFR p k := by unfold CSN at hp; unfold WFR; omega
theorem nx_WFD_CSL {p k : Nat} (hp : CSL p k) : ¬ WFD p k := by unfold CSL at hp; unfold WFD; omega
theorem nx_WFR_CSL {p k : Nat} (hp : CSL p k) : ¬ WFR p k := by unfold CSL at hp; unfold WFR; omega
theorem nx_WFD_CSS {p k : Nat} (hp : CSS p k) : ¬ WFD p k := by unfold CSS at hp; unfold WFD; omega
theorem nx_WFR_CSS {p k : Nat} (hp : CSS p k) : ¬ WFR p k := by unfold CSS at hp; unfold WFR; omega
theorem nx_WFD_CSY {p k : Nat} (hp : CSY p k) : ¬ WFD p k := by unfold CSY at hp; unfold WFD; omega
theorem nx_WFR_CSY {p k : Nat} (hp : CSY p k) : ¬ WFR p k := by unfold CSY at hp; unfold WFR; omega
theorem nx_WFD_CSH {p k : Nat} (hp : CSH p k) : ¬ WFD p k := by unfold CSH at hp; unfold WFD; omega
theorem nx_WFR_CSH {p k : Nat} (hp : CSH p k) : ¬ WFR p k := by unfold CSH at hp; unfold WFR; omega
theorem nx_WIM_CSB {p k : Nat} (hp : CSB p k) : ¬ WIM p k := by unfold CSB at hp; unfold WIM; omega
theorem nx_WRI_CSB {p k : Nat} (hp : CSB p k) : ¬ WRI p k := by unfold CSB at hp; unfold WRI; omega
theorem nx_WIM_CSP {p k : Nat} (hp : CSP p k) : ¬ WIM p k := by unfold CSP at hp; unfold WIM; omega
theorem nx_WRI_CSP {p k : Nat} (hp : CSP p k) : ¬ WRI p k := by unfold CSP at hp; unfold WRI; omega
theorem nx_WIM_CSL {p k : Nat} (hp : CSL p k) : ¬ WIM p k := by unfold CSL at hp; unfold WIM; omega
theorem nx_WRI_CSL {p k : Nat} (hp : CSL p k) : ¬ WRI p k := by unfold CSL at hp; unfold WRI; omega
theorem nx_WIM_CSS {p k : Nat} (hp : CSS p k) : ¬ WIM p k := by unfold CSS at hp; unfold WIM; omega
theorem nx_WRI_CSS {p k : Nat} (hp : CSS p k) : ¬ WRI p k := by unfold CSS at hp; unfold WRI; omega
theorem nx_WIM_CSY {p k : Nat} (hp : CSY p k) : ¬ WIM p k := by unfold CSY at hp; unfold WIM; omega
theorem nx_WRI_CSY {p k : Nat} (hp : CSY p k) : ¬ WRI p k := by unfold CSY at hp; unfold WRI; omega
theorem nx_WIM_CSH {p k : Nat} (hp : CSH p k) : ¬ WIM p k := by unfold CSH at hp; unfold WIM; omega
theorem nx_WRI_CSH {p k : Nat} (hp : CSH p k) : ¬ WRI p k := by unfold CSH at hp; unfold WRI; omega
theorem nx_W13b_CSB {p k : Nat} (hp : CSB p k) : ¬ W13b p k := by unfold CSB at hp; unfold W13b; omega
theorem nx_WRBK_CSB {p k : Nat} (hp : CSB p k) : ¬ WRBK p k := by unfold CSB at hp; unfold WRBK; omega
theorem nx_W13b_CSP {p k : Nat} (hp : CSP p k) : ¬ W13b p k := by unfold CSP at hp; unfold W13b; omega
theorem nx_WRBK_CSP {p k : Nat} (hp : CSP p k) : ¬ WRBK p k := by unfold CSP at hp; unfold WRBK; omega
theorem nx_W13b_CSL {p k : Nat} (hp : CSL p k) : ¬ W13b p k := by unfold CSL at hp; unfold W13b; omega
theorem nx_WRBK_CSL {p k : Nat} (hp : CSL p k) : ¬ WRBK p k := by unfold CSL at hp; unfold WRBK; omega
theorem nx_W13b_CSS {p k : Nat} (hp : CSS p k) : ¬ W13b p k := by unfold CSS at hp; unfold W13b; omega
theorem nx_WRBK_CSS {p k : Nat} (hp : CSS p k) : ¬ WRBK p k := by unfold CSS at hp; unfold WRBK; omega
theorem nx_W13b_CSY {p k : Nat} (hp : CSY p k) : ¬ W13b p k := by unfold CSY at hp; unfold W13b; omega
theorem nx_WRBK_CSY {p k : Nat} (hp : CSY p k) : ¬ WRBK p k := by unfold CSY at hp; unfold WRBK; omega
theorem nx_W13b_CSH {p k : Nat} (hp : CSH p k) : ¬ W13b p k := by unfold CSH at hp; unfold W13b; omega
theorem nx_WRBK_CSH {p k : Nat} (hp : CSH p k) : ¬ WRBK p k := by unfold CSH at hp; unfold WRBK; omega
theorem nx_WUN_CSB {p k : Nat} (hp : CSB p k) : ¬ WUN p k := by unfold CSB at hp; unfold WUN; omega
theorem nx_WUD_CSB {p k : Nat} (hp : CSB p k) : ¬ WUD p k := by unfold CSB at hp; unfold WUD; omega
theorem nx_WUN_CSP {p k : Nat} (hp : CSP p k) : ¬ WUN p k := by unfold CSP at hp; unfold WUN; omega
theorem nx_WUD_CSP {p k : Nat} (hp : CSP p k) : ¬ WUD p k := by unfold CSP at hp; unfold WUD; omega
theorem nx_WUN_CSN {p k : Nat} (hp : CSN p k) : ¬ WUN p k := by unfold CSN at hp; unfold WUN; omega
theorem nx_WUD_CSN {p k : Nat} (hp : CSN p k) : ¬ WUD p k := by unfold CSN at hp; unfold WUD; omega
theorem nx_WUN_CSL {p k : Nat} (hp : CSL p k) : ¬ WUN p k := by unfold CSL at hp; unfold WUN; omega
theorem nx_WUD_CSL {p k : Nat} (hp : CSL p k) : ¬ WUD p k := by unfold CSL at hp; unfold WUD; omega
theorem nx_WUN_CSS {p k : Nat} (hp : CSS p k) : ¬ WUN p k := by unfold CSS at hp; unfold WUN; omega
theorem nx_WUD_CSS {p k : Nat} (hp : CSS p k) : ¬ WUD p k := by unfold CSS at hp; unfold WUD; omega
theorem nx_WUN_CSY {p k : Nat} (hp : CSY p k) : ¬ WUN p k := by unfold CSY at hp; unfold WUN; omega
theorem nx_WUD_CSY {p k : Nat} (hp : CSY p k) : ¬ WUD p k := by unfold CSY at hp; unfold WUD; omega
theorem nx_WUN_CSH {p k : Nat} (hp : CSH p k) : ¬ WUN p k := by unfold CSH at hp; unfold WUN; omega
theorem nx_WUD_CSH {p k : Nat} (hp : CSH p k) : ¬ WUD p k := by unfold CSH at hp; unfold WUD; omega
theorem nx_WBD_CSP {p k : Nat} (hp : CSP p k) : ¬ WBD p k := by unfold CSP at hp; unfold WBD; omega
theorem nx_WRY_CSP {p k : Nat} (hp : CSP p k) : ¬ WRY p k := by unfold CSP at hp; unfold WRY; omega
theorem nx_WBD_CSN {p k : Nat} (hp : CSN p k) : ¬ WBD p k := by unfold CSN at hp; unfold WBD; omega
theorem nx_WRY_CSN {p k : Nat} (hp : CSN p k) : ¬ WRY p k := by unfold CSN at hp; unfold WRY; omega
theorem nx_WBD_CSL {p k : Nat} (hp : CSL p k) : ¬ WBD p k := by unfold CSL at hp; unfold WBD; omega
theorem nx_WRY_CSL {p k : Nat} (hp : CSL p k) : ¬ WRY p k := by unfold CSL at hp; unfold WRY; omega
theorem nx_WBD_CSY {p k : Nat} (hp : CSY p k) : ¬ WBD p k := by unfold CSY at hp; unfold WBD; omega
theorem nx_WRY_CSY {p k : Nat} (hp : CSY p k) : ¬ WRY p k := by unfold CSY at hp; unfold WRY; omega
theorem nx_WBD_CSH {p k : Nat} (hp : CSH p k) : ¬ WBD p k := by unfold CSH at hp; unfold WBD; omega
theorem nx_WRY_CSH {p k : Nat} (hp : CSH p k) : ¬ WRY p k := by unfold CSH at hp; unfold WRY; omega
theorem nx_WTR_CSB {p k : Nat} (hp : CSB p k) : ¬ WTR p k := by unfold CSB at hp; unfold WTR; omega
theorem nx_WRC_CSB {p k : Nat} (hp : CSB p k) : ¬ WRC p k := by unfold CSB at hp; unfold WRC; omega
theorem nx_WTR_CSP {p k : Nat} (hp : CSP p k) : ¬ WTR p k := by unfold CSP at hp; unfold WTR; omega
theorem nx_WRC_CSP {p k : Nat} (hp : CSP p k) : ¬ WRC p k := by unfold CSP at hp; unfold WRC; omega
theorem nx_WTR_CSN {p k : Nat} (hp : CSN p k) : ¬ WTR p k := by unfold CSN at hp; unfold WTR; omega
theorem nx_WRC_CSN {p k : Nat} (hp : CSN p k) : ¬ WRC p k := by unfold CSN at hp; unfold WRC; omega
theorem nx_WTR_CSL {p k : Nat} (hp : CSL p k) : ¬ WTR p k := by unfold CSL at hp; unfold WTR; omega
theorem nx_WRC_CSL {p k : Nat} (hp : CSL p k) : ¬ WRC p k := by unfold CSL at hp; unfold WRC; omega
theorem nx_WTR_CSS {p k : Nat} (hp : CSS p k) : ¬ WTR p k := by unfold CSS at hp; unfold WTR; omega
theorem nx_WRC_CSS {p k : Nat} (hp : CSS p k) : ¬ WRC p k := by unfold CSS at hp; unfold WRC; omega
theorem nx_WTR_CSY {p k : Nat} (hp : CSY p k) : ¬ WTR p k := by unfold CSY at hp; unfold WTR; omega
theorem nx_WRC_CSY {p k : Nat} (hp : CSY p k) : ¬ WRC p k := by unfold CSY at hp; unfold WRC; omega
theorem nx_WTR_CSH {p k : Nat} (hp : CSH p k) : ¬ WTR p k := by unfold CSH at hp; unfold WTR; omega
theorem nx_WRC_CSH {p k : Nat} (hp : CSH p k) : ¬ WRC p k := by unfold CSH at hp; unfold WRC; omega
theorem nx_WKP_CSB {p k : Nat} (hp : CSB p k) : ¬ WKP p k := by unfold CSB at hp; unfold WKP; omega
theorem nx_WRH_CSB {p k : Nat} (hp : CSB p k) : ¬ WRH p k := by unfold CSB at hp; unfold WRH; omega
theorem nx_WKP_CSP {p k : Nat} (hp : CSP p k) : ¬ WKP p k := by unfold CSP at hp; unfold WKP; omega
theorem nx_WRH_CSP {p k : Nat} (hp : CSP p k) : ¬ WRH p k := by unfold CSP at hp; unfold WRH; omega
theorem nx_WKP_CSN {p k : Nat} (hp : CSN p k) : ¬ WKP p k := by unfold CSN at hp; unfold WKP; omega
theorem nx_WRH_CSN {p k : Nat} (hp : CSN p k) : ¬ WRH p k := by unfold CSN at hp; unfold WRH; omega
theorem nx_WKP_CSL {p k : Nat} (hp : CSL p k) : ¬ WKP p k := by unfold CSL at hp; unfold WKP; omega
theorem nx_WRH_CSL {p k : Nat} (hp : CSL p k) : ¬ WRH p k := by unfold CSL at hp; unfold WRH; omega
theorem nx_WKP_CSH {p k : Nat} (hp : CSH p k) : ¬ WKP p k := by unfold CSH at hp; unfold WKP; omega
theorem nx_WRH_CSH {p k : Nat} (hp : CSH p k) : ¬ WRH p k := by unfold CSH at hp; unfold WRH; omega
