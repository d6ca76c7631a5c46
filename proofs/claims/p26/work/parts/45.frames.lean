abbrev CSB (p k : Nat) : Prop := (p = 46 ∧ k = 2) ∨ (p = 47) ∨ (p = 62 ∧ k = 36) ∨ (p = 81)
abbrev CSS (p k : Nat) : Prop := (50 ≤ p ∧ p ≤ 61) ∨ (83 ≤ p ∧ p ≤ 84) ∨ (p = 46 ∧ k = 2)
abbrev CSP (p k : Nat) : Prop := (p = 6 ∧ k = 2) ∨ (p = 62 ∧ k = 11)
abbrev CSL (p k : Nat) : Prop := (36 ≤ p ∧ p ≤ 37) ∨ (75 ≤ p ∧ p ≤ 76)
abbrev CSY (p k : Nat) : Prop := (50 ≤ p ∧ p ≤ 61) ∨ (p = 83)
abbrev CST (p k : Nat) : Prop := (p = 7) ∨ (p = 69)
theorem RB_f {M M2 : xM} (h : ∀ p k, CSB p k → M2 p k = M p k) (hR : RB M) : RB M2 := ⟨(h 46 2 (by decide)).trans (hR.1.trans (h 62 36 (by decide)).symm), fun j hj => (h 47 j (Or.inr (Or.inl rfl))).trans ((hR.2 j hj).trans (h 81 j (Or.inr (Or.inr (Or.inr rfl)))).symm)⟩
theorem RS_f {M M2 : xM} (h : ∀ p k, CSS p k → M2 p k = M p k) (hR : RS M) : RS M2 := fun d hd => by
  have e1 : ∀ j, M2 (50 + 2 * d) j = M (50 + 2 * d) j := fun j => h _ j (Or.inl (by omega))
  have e2 : ∀ j, M2 83 j = M 83 j := fun j => h _ j (Or.inr (Or.inl (by omega)))
  have e3 : ∀ j, M2 84 j = M 84 j := fun j => h _ j (Or.inr (Or.inl (by omega)))
  rw [e1, e1, e1, e1, e2, e3, h 46 2 (by decide)]
  exact hR d hd
theorem RP_f {M M2 : xM} (h : ∀ p k, CSP p k → M2 p k = M p k) (hR : RP M) : RP M2 := (h 6 2 (by decide)).trans (hR.trans (h 62 11 (by decide)).symm)
theorem RL_f {M M2 : xM} (h : ∀ p k, CSL p k → M2 p k = M p k) (hR : RLk M) : RLk M2 := by
  have e1 : ∀ j, M2 36 j = M 36 j := fun j => h _ j (Or.inl (by omega))
  have e2 : ∀ j, M2 37 j = M 37 j := fun j => h _ j (Or.inl (by omega))
  have e3 : ∀ j, M2 75 j = M 75 j := fun j => h _ j (Or.inr (by omega))
  have e4 : ∀ j, M2 76 j = M 76 j := fun j => h _ j (Or.inr (by omega))
  refine ⟨fun j hj => ?_, fun j hj => ?_⟩
  · rw [e1, e2, e3, e4]; exact hR.1 j hj
  · rw [e1, e2]; exact hR.2 j hj
theorem RE_f {J J1 J2 : xJ} (h9 : J1 = J) (h10 : J2 = J1) (hR : RE J) : RE J2 := by rw [h10, h9]; exact hR
theorem RS_e {M M1 M2 : xM} (h9 : M1 = M) (h10 : M2 = M1) (hR : RS M) : RS M2 := by rw [h10, h9]; exact hR
theorem RY_f {M M2 : xM} {J : xJ} (h : ∀ p k, CSY p k → M2 p k = M p k) (hR : RY M J) : RY M2 J := fun d hd => by
  have e1 : ∀ j, M2 (50 + 2 * d) j = M (50 + 2 * d) j := fun j => h _ j (Or.inl (by omega))
  have e2 : ∀ j, M2 83 j = M 83 j := fun j => h _ j (Or.inr (by omega))
  rw [e1, e1, e2]
  exact hR d hd
theorem RT_f {M M2 : xM} (h : ∀ p k, CST p k → M2 p k = M p k) (hR : RT M) : RT M2 := funext fun j => (h 7 j (by unfold CST; omega)).trans ((congrFun hR j).trans (h 69 j (by unfold CST; omega)).symm)
theorem CG_5 {M : xM} {n : Nat} {D : xM} {t : Option zL} {S : Nat → Int32} (h : CG M n D t S) : M 35 5 = S 5 := h.2.2.2.2.2.2.2.2.1
theorem RG_5 {M : xM} {n : Nat} {D : xM} {t : Option zL} {S : Nat → Int32} (h : RG M n D t S) : M 63 19 = S 5 := h.2.2.2.2.2.2.2.2.1
theorem KX_o {M : xM} {n : Nat} (h : KX M n) : ∃ (n0 : Nat) (D0 : xM) (U : Nat → Int32), (M 0 9 = 0 ∨ n0 ≤ n ∧ CK M n0 D0 U) ∧ (∀ M1 : xM, (∀ p k, 62 ≤ p → M1 p k = M p k) → M1 62 33 = 0 ∨ n0 ≤ n ∧ RK M1 n0 D0 U) ∧ (M 0 9 = 0 ∨ WFK n0 D0) := by
  rcases h.2 with b | ⟨n0, D0, U, h1, h2, h3, h4⟩
  · exact ⟨0, M, M 0, Or.inl b, fun M1 k => Or.inl ((k 62 33 (by decide)).trans (h.1.symm.trans b)), Or.inl b⟩
  · exact ⟨n0, D0, U, Or.inr ⟨h1, h3⟩, fun M1 k => Or.inr ⟨h1, RK_k h4 (k 62 34 (by decide)) (fun j => k 80 j (by decide))⟩, Or.inr h2⟩
theorem nx_WAH_CSB {p k : Nat} (hp : CSB p k) : ¬ WAH p k := by unfold CSB at hp; unfold WAH; omega
theorem nx_WAD_CSB {p k : Nat} (hp : CSB p k) : ¬ WAD p k := by unfold CSB at hp; unfold WAD; omega
theorem nx_WAH_CSP {p k : Nat} (hp : CSP p k) : ¬ WAH p k := by unfold CSP at hp; unfold WAH; omega
theorem nx_WAD_CSP {p k : Nat} (hp : CSP p k) : ¬ WAD p k := by unfold CSP at hp; unfold WAD; omega
theorem nx_WAH_CST {p k : Nat} (hp : CST p k) : ¬ WAH p k := by unfold CST at hp; unfold WAH; omega
theorem nx_WAD_CST {p k : Nat} (hp : CST p k) : ¬ WAD p k := by unfold CST at hp; unfold WAD; omega
theorem nx_WAH_CSL {p k : Nat} (hp : CSL p k) : ¬ WAH p k := by unfold CSL at hp; unfold WAH; omega
theorem nx_WAD_CSL {p k : Nat} (hp : CSL p k) : ¬ WAD p k := by unfold CSL at hp; unfold WAD; omega
theorem nx_WAH_CSS {p k : Nat} (hp : CSS p k) : ¬ WAH p k := by unfold CSS at hp; unfold WAH; omega
theorem nx_WAD_CSS {p k : Nat} (hp : CSS p k) : ¬ WAD p k := by unfold CSS at hp; unfold WAD; omega
theorem nx_WAH_CSY {p k : Nat} (hp : CSY p k) : ¬ WAH p k := by unfold CSY at hp; unfold WAH; omega
theorem nx_WAD_CSY {p k : Nat} (hp : CSY p k) : ¬ WAD p k := by unfold CSY at hp; unfold WAD; omega
theorem nx_WAH_CSu {p k : Nat} (hp : CSu p k) : ¬ WAH p k := by unfold CSu at hp; unfold WAH; omega
theorem nx_WAD_CSu {p k : Nat} (hp : CSu p k) : ¬ WAD p k := by unfold CSu at hp; unfold WAD; omega
theorem nx_WAH_CSk {p k : Nat} (hp : CSk p k) : ¬ WAH p k := by unfold CSk at hp; unfold WAH; omega
theorem nx_WAD_CSk {p k : Nat} (hp : CSk p k) : ¬ WAD p k := by unfold CSk at hp; unfold WAD; omega
theorem nx_WMD_CSB {p k : Nat} (hp : CSB p k) : ¬ WMD p k := by unfold CSB at hp; unfold WMD; omega
theorem nx_WMR_CSB {p k : Nat} (hp : CSB p k) : ¬ WMR p k := by unfold CSB at hp; unfold WMR; omega
theorem nx_WMD_CSP {p k : Nat} (hp : CSP p k) : ¬ WMD p k := by unfold CSP at hp; unfold WMD; omega
theorem nx_WMR_CSP {p k : Nat} (hp : CSP p k) : ¬ WMR p k := by unfold CSP at hp; unfold WMR; omega
theorem nx_WMD_CST {p k : Nat} (hp : CST p k) : ¬ WMD p k := by unfold CST at hp; unfold WMD; omega
theorem nx_WMR_CST {p k : Nat} (hp : CST p k) : ¬ WMR p k := by unfold CST at hp; unfold WMR; omega
theorem nx_WMD_CSL {p k : Nat} (hp : CSL p k) : ¬ WMD p k := by unfold CSL at hp; unfold WMD; omega
theorem nx_WMR_CSL {p k : Nat} (hp : CSL p k) : ¬ WMR p k := by unfold CSL at hp; unfold WMR; omega
theorem nx_WMD_CSS {p k : Nat} (hp : CSS p k) : ¬ WMD p k := by unfold CSS at hp; unfold WMD; omega
theorem nx_WMR_CSS {p k : Nat} (hp : CSS p k) : ¬ WMR p k := by unfold CSS at hp; unfold WMR; omega
theorem nx_WMD_CSY {p k : Nat} (hp : CSY p k) : ¬ WMD p k := by unfold CSY at hp; unfold WMD; omega
theorem nx_WMR_CSY {p k : Nat} (hp : CSY p k) : ¬ WMR p k := by unfold CSY at hp; unfold WMR; omega
theorem nx_WMD_CSk {p k : Nat} (hp : CSk p k) : ¬ WMD p k := by unfold CSk at hp; unfold WMD; omega
theorem nx_WMR_CSk {p k : Nat} (hp : CSk p k) : ¬ WMR p k := by unfold CSk at hp; unfold WMR; omega
theorem nx_WTK_CSB {p k : Nat} (hp : CSB p k) : ¬ WTK p k := by unfold CSB at hp; unfold WTK; omega
theorem nx_WFES_CSB {p k : Nat} (hp : CSB p k) : ¬ WFES p k := by unfold CSB at hp; unfold WFES; omega
theorem nx_WTK_CSL {p k : Nat} (hp : CSL p k) : ¬ WTK p k := by unfold CSL at hp; unfold WTK; omega
theorem nx_WFES_CSL {p k : Nat} (hp : CSL p k) : ¬ WFES p k := by unfold CSL at hp; unfold WFES; omega
theorem nx_WTK_CSS {p k : Nat} (hp : CSS p k) : ¬ WTK p k := by unfold CSS at hp; unfold WTK; omega
theorem nx_WFES_CSS {p k : Nat} (hp : CSS p k) : ¬ WFES p k := by unfold CSS at hp; unfold WFES; omega
theorem nx_WTK_CSY {p k : Nat} (hp : CSY p k) : ¬ WTK p k := by unfold CSY at hp; unfold WTK; omega
theorem nx_WFES_CSY {p k : Nat} (hp : CSY p k) : ¬ WFES p k := by unfold CSY at hp; unfold WFES; omega
theorem nx_WTK_CSc {p k : Nat} (hp : CSc p k) : ¬ WTK p k := by unfold CSc at hp; unfold WTK; omega
theorem nx_WTK_CSd {p k : Nat} (hp : CSd p k) : ¬ WTK p k := by unfold CSd at hp; unfold WTK; omega
theorem nx_WTK_CSu {p k : Nat} (hp : CSu p k) : ¬ WTK p k := by unfold CSu at hp; unfold WTK; omega
theorem nx_WTK_CSk {p k : Nat} (hp : CSk p k) : ¬ WTK p k := by unfold CSk at hp; unfold WTK; omega
theorem nx_WTK_CSX {p k : Nat} (hp : CSX p k) : ¬ WTK p k := hp.elim (fun h => h.elim nx_WTK_CSc nx_WTK_CSd) (fun h => h.elim nx_WTK_CSu nx_WTK_CSk)
theorem nx_WFES_CSc {p k : Nat} (hp : CSc p k) : ¬ WFES p k := by unfold CSc at hp; unfold WFES; omega
theorem nx_WFES_CSd {p k : Nat} (hp : CSd p k) : ¬ WFES p k := by unfold CSd at hp; unfold WFES; omega
theorem nx_WFES_CSu {p k : Nat} (hp : CSu p k) : ¬ WFES p k := by unfold CSu at hp; unfold WFES; omega
theorem nx_WFES_CSk {p k : Nat} (hp : CSk p k) : ¬ WFES p k := by unfold CSk at hp; unfold WFES; omega
theorem nx_WFES_CSX {p k : Nat} (hp : CSX p k) : ¬ WFES p k := hp.elim (fun h => h.elim nx_WFES_CSc nx_WFES_CSd) (fun h => h.elim nx_WFES_CSu nx_WFES_CSk)
theorem nx_WLAW_CSB {p k : Nat} (hp : CSB p k) : ¬ WLAW p k := by unfold CSB at hp; unfold WLAW; omega
theorem nx_WLT_CSB {p k : Nat} (hp : CSB p k) : ¬ WLT p k := by unfold CSB at hp; unfold WLT; omega
theorem nx_WLAW_CST {p k : Nat} (hp : CST p k) : ¬ WLAW p k := by unfold CST at hp; unfold WLAW; omega
theorem nx_WLT_CST {p k : Nat} (hp : CST p k) : ¬ WLT p k := by unfold CST at hp; unfold WLT; omega
theorem nx_WLAW_CSL {p k : Nat} (hp : CSL p k) : ¬ WLAW p k := by unfold CSL at hp; unfold WLAW; omega
theorem nx_WLT_CSL {p k : Nat} (hp : CSL p k) : ¬ WLT p k := by unfold CSL at hp; unfold WLT; omega
theorem nx_WLAW_CSS {p k : Nat} (hp : CSS p k) : ¬ WLAW p k := by unfold CSS at hp; unfold WLAW; omega
theorem nx_WLT_CSS {p k : Nat} (hp : CSS p k) : ¬ WLT p k := by unfold CSS at hp; unfold WLT; omega
theorem nx_WLAW_CSY {p k : Nat} (hp : CSY p k) : ¬ WLAW p k := by unfold CSY at hp; unfold WLAW; omega
theorem nx_WLT_CSY {p k : Nat} (hp : CSY p k) : ¬ WLT p k := by unfold CSY at hp; unfold WLT; omega
theorem nx_WLAW_CSu {p k : Nat} (hp : CSu p k) : ¬ WLAW p k := by unfold CSu at hp; unfold WLAW; omega
theorem nx_WLT_CSu {p k : Nat} (hp : CSu p k) : ¬ WLT p k := by unfold CSu at hp; unfold WLT; omega
theorem nx_WLAW_CSk {p k : Nat} (hp : CSk p k) : ¬ WLAW p k := by unfold CSk at hp; unfold WLAW; omega
theorem nx_WLT_CSk {p k : Nat} (hp : CSk p k) : ¬ WLT p k := by unfold CSk at hp; unfold WLT; omega
theorem nx_W13t_CSB {p k : Nat} (hp : CSB p k) : ¬ W13t p k := by unfold CSB at hp; unfold W13t; omega
theorem nx_WRG_CSB {p k : Nat} (hp : CSB p k) : ¬ WRG p k := by unfold CSB at hp; unfold WRG; omega
theorem nx_W13t_CSP {p k : Nat} (hp : CSP p k) : ¬ W13t p k := by unfold CSP at hp; unfold W13t; omega
theorem nx_WRG_CSP {p k : Nat} (hp : CSP p k) : ¬ WRG p k := by unfold CSP at hp; unfold WRG; omega
theorem nx_W13t_CST {p k : Nat} (hp : CST p k) : ¬ W13t p k := by unfold CST at hp; unfold W13t; omega
theorem nx_WRG_CST {p k : Nat} (hp : CST p k) : ¬ WRG p k := by unfold CST at hp; unfold WRG; omega
theorem nx_W13t_CSL {p k : Nat} (hp : CSL p k) : ¬ W13t p k := by unfold CSL at hp; unfold W13t; omega
theorem nx_WRG_CSL {p k : Nat} (hp : CSL p k) : ¬ WRG p k := by unfold CSL at hp; unfold WRG; omega
theorem nx_W13t_CSS {p k : Nat} (hp : CSS p k) : ¬ W13t p k := by unfold CSS at hp; unfold W13t; omega
theorem nx_WRG_CSS {p k : Nat} (hp : CSS p k) : ¬ WRG p k := by unfold CSS at hp; unfold WRG; omega
theorem nx_W13t_CSY {p k : Nat} (hp : CSY p k) : ¬ W13t p k := by unfold CSY at hp; unfold W13t; omega
theorem nx_WRG_CSY {p k : Nat} (hp : CSY p k) : ¬ WRG p k := by unfold CSY at hp; unfold WRG; omega
theorem nx_W13t_CSu {p k : Nat} (hp : CSu p k) : ¬ W13t p k := by unfold CSu at hp; unfold W13t; omega
theorem nx_WRG_CSu {p k : Nat} (hp : CSu p k) : ¬ WRG p k := by unfold CSu at hp; unfold WRG; omega
theorem nx_W13t_CSk {p k : Nat} (hp : CSk p k) : ¬ W13t p k := by unfold CSk at hp; unfold W13t; omega
theorem nx_WRG_CSk {p k : Nat} (hp : CSk p k) : ¬ WRG p k := by unfold CSk at hp; unfold WRG; omega
theorem nx_W15_CSB {p k : Nat} (hp : CSB p k) : ¬ W15 p k := by unfold CSB at hp; unfold W15; omega
theorem nx_WLI_CSB {p k : Nat} (hp : CSB p k) : ¬ WLI p k := by unfold CSB at hp; unfold WLI; omega
theorem nx_W15_CSP {p k : Nat} (hp : CSP p k) : ¬ W15 p k := by unfold CSP at hp; unfold W15; omega
theorem nx_WLI_CSP {p k : Nat} (hp : CSP p k) : ¬ WLI p k := by unfold CSP at hp; unfold WLI; omega
theorem nx_W15_CST {p k : Nat} (hp : CST p k) : ¬ W15 p k := by unfold CST at hp; unfold W15; omega
theorem nx_WLI_CST {p k : Nat} (hp : CST p k) : ¬ WLI p k := by unfold CST at hp; unfold WLI; omega
theorem nx_W15_CSL {p k : Nat} (hp : CSL p k) : ¬ W15 p k := by unfold CSL at hp; unfold W15; omega
theorem nx_WLI_CSL {p k : Nat} (hp : CSL p k) : ¬ WLI p k := by unfold CSL at hp; unfold WLI; omega
theorem nx_W15_CSS {p k : Nat} (hp : CSS p k) : ¬ W15 p k := by unfold CSS at hp; unfold W15; omega
theorem nx_WLI_CSS {p k : Nat} (hp : CSS p k) : ¬ WLI p k := by unfold CSS at hp; unfold WLI; omega
theorem nx_W15_CSY {p k : Nat} (hp : CSY p k) : ¬ W15 p k := by unfold CSY at hp; unfold W15; omega
theorem nx_WLI_CSY {p k : Nat} (hp : CSY p k) : ¬ WLI p k := by unfold CSY at hp; unfold WLI; omega
theorem nx_W15_CSu {p k : Nat} (hp : CSu p k) : ¬ W15 p k := by unfold CSu at hp; unfold W15; omega
theorem nx_WLI_CSu {p k : Nat} (hp : CSu p k) : ¬ WLI p k := by unfold CSu at hp; unfold WLI; omega
theorem nx_W15_CSk {p k : Nat} (hp : CSk p k) : ¬ W15 p k := by unfold CSk at hp; unfold W15; omega
theorem nx_WLI_CSk {p k : Nat} (hp : CSk p k) : ¬ WLI p k := by unfold CSk at hp; unfold WLI; omega
theorem nx_WTH_CSB {p k : Nat} (hp : CSB p k) : ¬ WTH p k := by unfold CSB at hp; unfold WTH; omega
theorem nx_WR1_CSB {p k : Nat} (hp : CSB p k) : ¬ WR1 p k := by unfold CSB at hp; unfold WR1; omega
theorem nx_WTH_CSP {p k : Nat} (hp : CSP p k) : ¬ WTH p k := by unfold CSP at hp; unfold WTH; omega
theorem nx_WR1_CSP {p k : Nat} (hp : CSP p k) : ¬ WR1 p k := by unfold CSP at hp; unfold WR1; omega
theorem nx_WTH_CST {p k : Nat} (hp : CST p k) : ¬ WTH p k := by unfold CST at hp; unfold WTH; omega
theorem nx_WR1_CST {p k : Nat} (hp : CST p k) : ¬ WR1 p k := by unfold CST at hp; unfold WR1; omega
theorem nx_WTH_CSL {p k : Nat} (hp : CSL p k) : ¬ WTH p k := by unfold CSL at hp; unfold WTH; omega
theorem nx_WR1_CSL {p k : Nat} (hp : CSL p k) : ¬ WR1 p k := by unfold CSL at hp; unfold WR1; omega
theorem nx_WTH_CSS {p k : Nat} (hp : CSS p k) : ¬ WTH p k := by unfold CSS at hp; unfold WTH; omega
theorem nx_WR1_CSS {p k : Nat} (hp : CSS p k) : ¬ WR1 p k := by unfold CSS at hp; unfold WR1; omega
theorem nx_WTH_CSY {p k : Nat} (hp : CSY p k) : ¬ WTH p k := by unfold CSY at hp; unfold WTH; omega
theorem nx_WR1_CSY {p k : Nat} (hp : CSY p k) : ¬ WR1 p k := by unfold CSY at hp; unfold WR1; omega
theorem nx_WTH_CSc {p k : Nat} (hp : CSc p k) : ¬ WTH p k := by unfold CSc at hp; unfold WTH; omega
theorem nx_WTH_CSd {p k : Nat} (hp : CSd p k) : ¬ WTH p k := by unfold CSd at hp; unfold WTH; omega
theorem nx_WTH_CSu {p k : Nat} (hp : CSu p k) : ¬ WTH p k := by unfold CSu at hp; unfold WTH; omega
theorem nx_WTH_CSk {p k : Nat} (hp : CSk p k) : ¬ WTH p k := by unfold CSk at hp; unfold WTH; omega
theorem nx_WTH_CSX {p k : Nat} (hp : CSX p k) : ¬ WTH p k := hp.elim (fun h => h.elim nx_WTH_CSc nx_WTH_CSd) (fun h => h.elim nx_WTH_CSu nx_WTH_CSk)
theorem nx_WR1_CSc {p k : Nat} (hp : CSc p k) : ¬ WR1 p k := by unfold CSc at hp; unfold WR1; omega
theorem nx_WR1_CSd {p k : Nat} (hp : CSd p k) : ¬ WR1 p k := by unfold CSd at hp; unfold WR1; omega
theorem nx_WR1_CSu {p k : Nat} (hp : CSu p k) : ¬ WR1 p k := by unfold CSu at hp; unfold WR1; omega
theorem nx_WR1_CSk {p k : Nat} (hp : CSk p k) : ¬ WR1 p k := by unfold CSk at hp; unfold WR1; omega
theorem nx_WR1_CSX {p k : Nat} (hp : CSX p k) : ¬ WR1 p k := hp.elim (fun h => h.elim nx_WR1_CSc nx_WR1_CSd) (fun h => h.elim nx_WR1_CSu nx_WR1_CSk)
theorem nx_WRB_CSB {p k : Nat} (hp : CSB p k) : ¬ WRB p k := by unfold CSB at hp; unfold WRB; omega
theorem nx_WRB_CSP {p k : Nat} (hp : CSP p k) : ¬ WRB p k := by unfold CSP at hp; unfold WRB; omega
theorem nx_WRB_CST {p k : Nat} (hp : CST p k) : ¬ WRB p k := by unfold CST at hp; unfold WRB; omega
theorem nx_WRB_CSL {p k : Nat} (hp : CSL p k) : ¬ WRB p k := by unfold CSL at hp; unfold WRB; omega
theorem nx_WRB_CSS {p k : Nat} (hp : CSS p k) : ¬ WRB p k := by unfold CSS at hp; unfold WRB; omega
theorem nx_WRB_CSY {p k : Nat} (hp : CSY p k) : ¬ WRB p k := by unfold CSY at hp; unfold WRB; omega
theorem nx_WRB_CSc {p k : Nat} (hp : CSc p k) : ¬ WRB p k := by unfold CSc at hp; unfold WRB; omega
theorem nx_WRB_CSu {p k : Nat} (hp : CSu p k) : ¬ WRB p k := by unfold CSu at hp; unfold WRB; omega
theorem nx_WRB_CSk {p k : Nat} (hp : CSk p k) : ¬ WRB p k := by unfold CSk at hp; unfold WRB; omega
theorem nx_WRL_CSB {p k : Nat} (hp : CSB p k) : ¬ WRL p k := by unfold CSB at hp; unfold WRL; omega
theorem nx_WRL_CSP {p k : Nat} (hp : CSP p k) : ¬ WRL p k := by unfold CSP at hp; unfold WRL; omega
theorem nx_WRL_CST {p k : Nat} (hp : CST p k) : ¬ WRL p k := by unfold CST at hp; unfold WRL; omega
theorem nx_WRL_CSL {p k : Nat} (hp : CSL p k) : ¬ WRL p k := by unfold CSL at hp; unfold WRL; omega
theorem nx_WRL_CSS {p k : Nat} (hp : CSS p k) : ¬ WRL p k := by unfold CSS at hp; unfold WRL; omega
theorem nx_WRL_CSY {p k : Nat} (hp : CSY p k) : ¬ WRL p k := by unfold CSY at hp; unfold WRL; omega
theorem nx_WRL_CSc {p k : Nat} (hp : CSc p k) : ¬ WRL p k := by unfold CSc at hp; unfold WRL; omega
theorem nx_WRL_CSu {p k : Nat} (hp : CSu p k) : ¬ WRL p k := by unfold CSu at hp; unfold WRL; omega
theorem nx_WRL_CSk {p k : Nat} (hp : CSk p k) : ¬ WRL p k := by unfold CSk at hp; unfold WRL; omega
theorem nx_WRS_CSB {p k : Nat} (hp : CSB p k) : ¬ WRS p k := by unfold CSB at hp; unfold WRS; omega
theorem nx_WRS_CSP {p k : Nat} (hp : CSP p k) : ¬ WRS p k := by unfold CSP at hp; unfold WRS; omega
theorem nx_WRS_CST {p k : Nat} (hp : CST p k) : ¬ WRS p k := by unfold CST at hp; unfold WRS; omega
theorem nx_WRS_CSL {p k : Nat} (hp : CSL p k) : ¬ WRS p k := by unfold CSL at hp; unfold WRS; omega
theorem nx_WRS_CSS {p k : Nat} (hp : CSS p k) : ¬ WRS p k := by unfold CSS at hp; unfold WRS; omega
theorem nx_WRS_CSY {p k : Nat} (hp : CSY p k) : ¬ WRS p k := by unfold CSY at hp; unfold WRS; omega
theorem nx_WRS_CSc {p k : Nat} (hp : CSc p k) : ¬ WRS p k := by unfold CSc at hp; unfold WRS; omega
theorem nx_WRS_CSu {p k : Nat} (hp : CSu p k) : ¬ WRS p k := by unfold CSu at hp; unfold WRS; omega
theorem nx_WRS_CSk {p k : Nat} (hp : CSk p k) : ¬ WRS p k := by unfold CSk at hp; unfold WRS; omega
theorem nx_WSK_CSB {p k : Nat} (hp : CSB p k) : ¬ WSK p k := by unfold CSB at hp; unfold WSK; omega
theorem nx_WRK_CSB {p k : Nat} (hp : CSB p k) : ¬ WRK p k := by unfold CSB at hp; unfold WRK; omega
theorem nx_WSK_CSP {p k : Nat} (hp : CSP p k) : ¬ WSK p k := by unfold CSP at hp; unfold WSK; omega
theorem nx_WRK_CSP {p k : Nat} (hp : CSP p k) : ¬ WRK p k := by unfold CSP at hp; unfold WRK; omega
theorem nx_WSK_CST {p k : Nat} (hp : CST p k) : ¬ WSK p k := by unfold CST at hp; unfold WSK; omega
theorem nx_WRK_CST {p k : Nat} (hp : CST p k) : ¬ WRK p k := by unfold CST at hp; unfold WRK; omega
theorem nx_WSK_CSS {p k : Nat} (hp : CSS p k) : ¬ WSK p k := by unfold CSS at hp; unfold WSK; omega
theorem nx_WRK_CSS {p k : Nat} (hp : CSS p k) : ¬ WRK p k := by unfold CSS at hp; unfold WRK; omega
theorem nx_WSK_CSY {p k : Nat} (hp : CSY p k) : ¬ WSK p k := by unfold CSY at hp; unfold WSK; omega
theorem nx_WRK_CSY {p k : Nat} (hp : CSY p k) : ¬ WRK p k := by unfold CSY at hp; unfold WRK; omega
theorem nx_WSK_CSc {p k : Nat} (hp : CSc p k) : ¬ WSK p k := by unfold CSc at hp; unfold WSK; omega
theorem nx_WSK_CSd {p k : Nat} (hp : CSd p k) : ¬ WSK p k := by unfold CSd at hp; unfold WSK; omega
theorem nx_WSK_CSu {p k : Nat} (hp : CSu p k) : ¬ WSK p k := by unfold CSu at hp; unfold WSK; omega
theorem nx_WSK_CSk {p k : Nat} (hp : CSk p k) : ¬ WSK p k := by unfold CSk at hp; unfold WSK; omega
theorem nx_WSK_CSX {p k : Nat} (hp : CSX p k) : ¬ WSK p k := hp.elim (fun h => h.elim nx_WSK_CSc nx_WSK_CSd) (fun h => h.elim nx_WSK_CSu nx_WSK_CSk)
theorem nx_WRK_CSc {p k : Nat} (hp : CSc p k) : ¬ WRK p k := by unfold CSc at hp; unfold WRK; omega
theorem nx_WRK_CSd {p k : Nat} (hp : CSd p k) : ¬ WRK p k := by unfold CSd at hp; unfold WRK; omega
theorem nx_WRK_CSu {p k : Nat} (hp : CSu p k) : ¬ WRK p k := by unfold CSu at hp; unfold WRK; omega
theorem nx_WRK_CSk {p k : Nat} (hp : CSk p k) : ¬ WRK p k := by unfold CSk at hp; unfold WRK; omega
theorem nx_WRK_CSX {p k : Nat} (hp : CSX p k) : ¬ WRK p k := hp.elim (fun h => h.elim nx_WRK_CSc nx_WRK_CSd) (fun h => h.elim nx_WRK_CSu nx_WRK_CSk)
theorem nx_WFD_CSB {p k : Nat} (hp : CSB p k) : ¬ WFD p k := by unfold CSB at hp; unfold WFD; omega
theorem nx_WFR_CSB {p k : Nat} (hp : CSB p k) : ¬ WFR p k := by unfold CSB at hp; unfold WFR; omega
theorem nx_WFD_CSP {p k : Nat} (hp : CSP p k) : ¬ WFD p k := by unfold CSP at hp; unfold WFD; omega
theorem nx_WFR_CSP {p k : Nat} (hp : CSP p k) : ¬ WFR p k := by unfold CSP at hp; unfold WFR; omega
theorem nx_WFD_CST {p k : Nat} (hp : CST p k) : ¬ WFD p k := by unfold CST at hp; unfold WFD; omega
theorem nx_WFR_CST {p k : Nat} (hp : CST p k) : ¬ WFR p k := by unfold CST at hp; unfold WFR; omega
theorem nx_WFD_CSL {p k : Nat} (hp : CSL p k) : ¬ WFD p k := by unfold CSL at hp; unfold WFD; omega
theorem nx_WFR_CSL {p k : Nat} (hp : CSL p k) : ¬ WFR p k := by unfold CSL at hp; unfold WFR; omega
theorem nx_WFD_CSS {p k : Nat} (hp : CSS p k) : ¬ WFD p k := by unfold CSS at hp; unfold WFD; omega
theorem nx_WFR_CSS {p k : Nat} (hp : CSS p k) : ¬ WFR p k := by unfold CSS at hp; unfold WFR; omega
theorem nx_WFD_CSY {p k : Nat} (hp : CSY p k) : ¬ WFD p k := by unfold CSY at hp; unfold WFD; omega
theorem nx_WFR_CSY {p k : Nat} (hp : CSY p k) : ¬ WFR p k := by unfold CSY at hp; unfold WFR; omega
theorem nx_WFD_CSc {p k : Nat} (hp : CSc p k) : ¬ WFD p k := by unfold CSc at hp; unfold WFD; omega
theorem nx_WFD_CSd {p k : Nat} (hp : CSd p k) : ¬ WFD p k := by unfold CSd at hp; unfold WFD; omega
theorem nx_WFD_CSu {p k : Nat} (hp : CSu p k) : ¬ WFD p k := by unfold CSu at hp; unfold WFD; omega
theorem nx_WFD_CSk {p k : Nat} (hp : CSk p k) : ¬ WFD p k := by unfold CSk at hp; unfold WFD; omega
theorem nx_WFD_CSX {p k : Nat} (hp : CSX p k) : ¬ WFD p k := hp.elim (fun h => h.elim nx_WFD_CSc nx_WFD_CSd) (fun h => h.elim nx_WFD_CSu nx_WFD_CSk)
theorem nx_WFR_CSc {p k : Nat} (hp : CSc p k) : ¬ WFR p k := by unfold CSc at hp; unfold WFR; omega
theorem nx_WFR_CSd {p k : Nat} (hp : CSd p k) : ¬ WFR p k := by unfold CSd at hp; unfold WFR; omega
theorem nx_WFR_CSu {p k : Nat} (hp : CSu p k) : ¬ WFR p k := by unfold CSu at hp; unfold WFR; omega
theorem nx_WFR_CSk {p k : Nat} (hp : CSk p k) : ¬ WFR p k := by unfold CSk at hp; unfold WFR; omega
theorem nx_WFR_CSX {p k : Nat} (hp : CSX p k) : ¬ WFR p k := hp.elim (fun h => h.elim nx_WFR_CSc nx_WFR_CSd) (fun h => h.elim nx_WFR_CSu nx_WFR_CSk)
theorem nx_WIM_CSB {p k : Nat} (hp : CSB p k) : ¬ WIM p k := by unfold CSB at hp; unfold WIM; omega
theorem nx_WRI_CSB {p k : Nat} (hp : CSB p k) : ¬ WRI p k := by unfold CSB at hp; unfold WRI; omega
theorem nx_WIM_CSP {p k : Nat} (hp : CSP p k) : ¬ WIM p k := by unfold CSP at hp; unfold WIM; omega
theorem nx_WRI_CSP {p k : Nat} (hp : CSP p k) : ¬ WRI p k := by unfold CSP at hp; unfold WRI; omega
theorem nx_WIM_CST {p k : Nat} (hp : CST p k) : ¬ WIM p k := by unfold CST at hp; unfold WIM; omega
theorem nx_WRI_CST {p k : Nat} (hp : CST p k) : ¬ WRI p k := by unfold CST at hp; unfold WRI; omega
theorem nx_WIM_CSL {p k : Nat} (hp : CSL p k) : ¬ WIM p k := by unfold CSL at hp; unfold WIM; omega
theorem nx_WRI_CSL {p k : Nat} (hp : CSL p k) : ¬ WRI p k := by unfold CSL at hp; unfold WRI; omega
theorem nx_WIM_CSS {p k : Nat} (hp : CSS p k) : ¬ WIM p k := by unfold CSS at hp; unfold WIM; omega
theorem nx_WRI_CSS {p k : Nat} (hp : CSS p k) : ¬ WRI p k := by unfold CSS at hp; unfold WRI; omega
theorem nx_WIM_CSY {p k : Nat} (hp : CSY p k) : ¬ WIM p k := by unfold CSY at hp; unfold WIM; omega
theorem nx_WRI_CSY {p k : Nat} (hp : CSY p k) : ¬ WRI p k := by unfold CSY at hp; unfold WRI; omega
theorem nx_WIM_CSu {p k : Nat} (hp : CSu p k) : ¬ WIM p k := by unfold CSu at hp; unfold WIM; omega
theorem nx_WRI_CSu {p k : Nat} (hp : CSu p k) : ¬ WRI p k := by unfold CSu at hp; unfold WRI; omega
theorem nx_W13b_CSB {p k : Nat} (hp : CSB p k) : ¬ W13b p k := by unfold CSB at hp; unfold W13b; omega
theorem nx_WRBK_CSB {p k : Nat} (hp : CSB p k) : ¬ WRBK p k := by unfold CSB at hp; unfold WRBK; omega
theorem nx_W13b_CSP {p k : Nat} (hp : CSP p k) : ¬ W13b p k := by unfold CSP at hp; unfold W13b; omega
theorem nx_WRBK_CSP {p k : Nat} (hp : CSP p k) : ¬ WRBK p k := by unfold CSP at hp; unfold WRBK; omega
theorem nx_W13b_CST {p k : Nat} (hp : CST p k) : ¬ W13b p k := by unfold CST at hp; unfold W13b; omega
theorem nx_WRBK_CST {p k : Nat} (hp : CST p k) : ¬ WRBK p k := by unfold CST at hp; unfold WRBK; omega
theorem nx_W13b_CSL {p k : Nat} (hp : CSL p k) : ¬ W13b p k := by unfold CSL at hp; unfold W13b; omega
theorem nx_WRBK_CSL {p k : Nat} (hp : CSL p k) : ¬ WRBK p k := by unfold CSL at hp; unfold WRBK; omega
theorem nx_W13b_CSS {p k : Nat} (hp : CSS p k) : ¬ W13b p k := by unfold CSS at hp; unfold W13b; omega
theorem nx_WRBK_CSS {p k : Nat} (hp : CSS p k) : ¬ WRBK p k := by unfold CSS at hp; unfold WRBK; omega
theorem nx_W13b_CSY {p k : Nat} (hp : CSY p k) : ¬ W13b p k := by unfold CSY at hp; unfold W13b; omega
theorem nx_WRBK_CSY {p k : Nat} (hp : CSY p k) : ¬ WRBK p k := by unfold CSY at hp; unfold WRBK; omega
theorem nx_W13b_CSu {p k : Nat} (hp : CSu p k) : ¬ W13b p k := by unfold CSu at hp; unfold W13b; omega
theorem nx_WRBK_CSu {p k : Nat} (hp : CSu p k) : ¬ WRBK p k := by unfold CSu at hp; unfold WRBK; omega
theorem nx_W13b_CSk {p k : Nat} (hp : CSk p k) : ¬ W13b p k := by unfold CSk at hp; unfold W13b; omega
theorem nx_WRBK_CSk {p k : Nat} (hp : CSk p k) : ¬ WRBK p k := by unfold CSk at hp; unfold WRBK; omega
theorem nx_WUN_CSB {p k : Nat} (hp : CSB p k) : ¬ WUN p k := by unfold CSB at hp; unfold WUN; omega
theorem nx_WUD_CSB {p k : Nat} (hp : CSB p k) : ¬ WUD p k := by unfold CSB at hp; unfold WUD; omega
theorem nx_WUN_CSP {p k : Nat} (hp : CSP p k) : ¬ WUN p k := by unfold CSP at hp; unfold WUN; omega
theorem nx_WUD_CSP {p k : Nat} (hp : CSP p k) : ¬ WUD p k := by unfold CSP at hp; unfold WUD; omega
theorem nx_WUN_CST {p k : Nat} (hp : CST p k) : ¬ WUN p k := by unfold CST at hp; unfold WUN; omega
theorem nx_WUD_CST {p k : Nat} (hp : CST p k) : ¬ WUD p k := by unfold CST at hp; unfold WUD; omega
theorem nx_WUN_CSL {p k : Nat} (hp : CSL p k) : ¬ WUN p k := by unfold CSL at hp; unfold WUN; omega
theorem nx_WUD_CSL {p k : Nat} (hp : CSL p k) : ¬ WUD p k := by unfold CSL at hp; unfold WUD; omega
theorem nx_WUN_CSS {p k : Nat} (hp : CSS p k) : ¬ WUN p k := by unfold CSS at hp; unfold WUN; omega
theorem nx_WUD_CSS {p k : Nat} (hp : CSS p k) : ¬ WUD p k := by unfold CSS at hp; unfold WUD; omega
theorem nx_WUN_CSY {p k : Nat} (hp : CSY p k) : ¬ WUN p k := by unfold CSY at hp; unfold WUN; omega
theorem nx_WUD_CSY {p k : Nat} (hp : CSY p k) : ¬ WUD p k := by unfold CSY at hp; unfold WUD; omega
theorem nx_WUN_CSk {p k : Nat} (hp : CSk p k) : ¬ WUN p k := by unfold CSk at hp; unfold WUN; omega
theorem nx_WUD_CSk {p k : Nat} (hp : CSk p k) : ¬ WUD p k := by unfold CSk at hp; unfold WUD; omega
theorem nx_WBD_CSP {p k : Nat} (hp : CSP p k) : ¬ WBD p k := by unfold CSP at hp; unfold WBD; omega
theorem nx_WRY_CSP {p k : Nat} (hp : CSP p k) : ¬ WRY p k := by unfold CSP at hp; unfold WRY; omega
theorem nx_WBD_CST {p k : Nat} (hp : CST p k) : ¬ WBD p k := by unfold CST at hp; unfold WBD; omega
theorem nx_WRY_CST {p k : Nat} (hp : CST p k) : ¬ WRY p k := by unfold CST at hp; unfold WRY; omega
theorem nx_WBD_CSL {p k : Nat} (hp : CSL p k) : ¬ WBD p k := by unfold CSL at hp; unfold WBD; omega
theorem nx_WRY_CSL {p k : Nat} (hp : CSL p k) : ¬ WRY p k := by unfold CSL at hp; unfold WRY; omega
theorem nx_WBD_CSY {p k : Nat} (hp : CSY p k) : ¬ WBD p k := by unfold CSY at hp; unfold WBD; omega
theorem nx_WRY_CSY {p k : Nat} (hp : CSY p k) : ¬ WRY p k := by unfold CSY at hp; unfold WRY; omega
theorem nx_WBD_CSc {p k : Nat} (hp : CSc p k) : ¬ WBD p k := by unfold CSc at hp; unfold WBD; omega
theorem nx_WBD_CSd {p k : Nat} (hp : CSd p k) : ¬ WBD p k := by unfold CSd at hp; unfold WBD; omega
theorem nx_WBD_CSu {p k : Nat} (hp : CSu p k) : ¬ WBD p k := by unfold CSu at hp; unfold WBD; omega
theorem nx_WBD_CSk {p k : Nat} (hp : CSk p k) : ¬ WBD p k := by unfold CSk at hp; unfold WBD; omega
theorem nx_WBD_CSX {p k : Nat} (hp : CSX p k) : ¬ WBD p k := hp.elim (fun h => h.elim nx_WBD_CSc nx_WBD_CSd) (fun h => h.elim nx_WBD_CSu nx_WBD_CSk)
theorem nx_WRY_CSc {p k : Nat} (hp : CSc p k) : ¬ WRY p k := by unfold CSc at hp; unfold WRY; omega
theorem nx_WRY_CSd {p k : Nat} (hp : CSd p k) : ¬ WRY p k := by unfold CSd at hp; unfold WRY; omega
theorem nx_WRY_CSu {p k : Nat} (hp : CSu p k) : ¬ WRY p k := by unfold CSu at hp; unfold WRY; omega
theorem nx_WRY_CSk {p k : Nat} (hp : CSk p k) : ¬ WRY p k := by unfold CSk at hp; unfold WRY; omega
theorem nx_WRY_CSX {p k : Nat} (hp : CSX p k) : ¬ WRY p k := hp.elim (fun h => h.elim nx_WRY_CSc nx_WRY_CSd) (fun h => h.elim nx_WRY_CSu nx_WRY_CSk)
theorem nx_WTR_CSB {p k : Nat} (hp : CSB p k) : ¬ WTR p k := by unfold CSB at hp; unfold WTR; omega
theorem nx_WRC_CSB {p k : Nat} (hp : CSB p k) : ¬ WRC p k := by unfold CSB at hp; unfold WRC; omega
theorem nx_WTR_CSP {p k : Nat} (hp : CSP p k) : ¬ WTR p k := by unfold CSP at hp; unfold WTR; omega
theorem nx_WRC_CSP {p k : Nat} (hp : CSP p k) : ¬ WRC p k := by unfold CSP at hp; unfold WRC; omega
theorem nx_WTR_CST {p k : Nat} (hp : CST p k) : ¬ WTR p k := by unfold CST at hp; unfold WTR; omega
theorem nx_WRC_CST {p k : Nat} (hp : CST p k) : ¬ WRC p k := by unfold CST at hp; unfold WRC; omega
theorem nx_WTR_CSL {p k : Nat} (hp : CSL p k) : ¬ WTR p k := by unfold CSL at hp; unfold WTR; omega
theorem nx_WRC_CSL {p k : Nat} (hp : CSL p k) : ¬ WRC p k := by unfold CSL at hp; unfold WRC; omega
theorem nx_WTR_CSS {p k : Nat} (hp : CSS p k) : ¬ WTR p k := by unfold CSS at hp; unfold WTR; omega
theorem nx_WRC_CSS {p k : Nat} (hp : CSS p k) : ¬ WRC p k := by unfold CSS at hp; unfold WRC; omega
theorem nx_WTR_CSY {p k : Nat} (hp : CSY p k) : ¬ WTR p k := by unfold CSY at hp; unfold WTR; omega
theorem nx_WRC_CSY {p k : Nat} (hp : CSY p k) : ¬ WRC p k := by unfold CSY at hp; unfold WRC; omega
theorem nx_WTR_CSc {p k : Nat} (hp : CSc p k) : ¬ WTR p k := by unfold CSc at hp; unfold WTR; omega
theorem nx_WTR_CSd {p k : Nat} (hp : CSd p k) : ¬ WTR p k := by unfold CSd at hp; unfold WTR; omega
theorem nx_WTR_CSu {p k : Nat} (hp : CSu p k) : ¬ WTR p k := by unfold CSu at hp; unfold WTR; omega
theorem nx_WTR_CSk {p k : Nat} (hp : CSk p k) : ¬ WTR p k := by unfold CSk at hp; unfold WTR; omega
theorem nx_WTR_CSX {p k : Nat} (hp : CSX p k) : ¬ WTR p k := hp.elim (fun h => h.elim nx_WTR_CSc nx_WTR_CSd) (fun h => h.elim nx_WTR_CSu nx_WTR_CSk)
theorem nx_WRC_CSc {p k : Nat} (hp : CSc p k) : ¬ WRC p k := by unfold CSc at hp; unfold WRC; omega
theorem nx_WRC_CSd {p k : Nat} (hp : CSd p k) : ¬ WRC p k := by unfold CSd at hp; unfold WRC; omega
theorem nx_WRC_CSu {p k : Nat} (hp : CSu p k) : ¬ WRC p k := by unfold CSu at hp; unfold WRC; omega
theorem nx_WRC_CSk {p k : Nat} (hp : CSk p k) : ¬ WRC p k := by unfold CSk at hp; unfold WRC; omega
theorem nx_WRC_CSX {p k : Nat} (hp : CSX p k) : ¬ WRC p k := hp.elim (fun h => h.elim nx_WRC_CSc nx_WRC_CSd) (fun h => h.elim nx_WRC_CSu nx_WRC_CSk)
theorem nx_WKP_CSB {p k : Nat} (hp : CSB p k) : ¬ WKP p k := by unfold CSB at hp; unfold WKP; omega
theorem nx_WRH_CSB {p k : Nat} (hp : CSB p k) : ¬ WRH p k := by unfold CSB at hp; unfold WRH; omega
theorem nx_WKP_CSP {p k : Nat} (hp : CSP p k) : ¬ WKP p k := by unfold CSP at hp; unfold WKP; omega
theorem nx_WRH_CSP {p k : Nat} (hp : CSP p k) : ¬ WRH p k := by unfold CSP at hp; unfold WRH; omega
theorem nx_WKP_CST {p k : Nat} (hp : CST p k) : ¬ WKP p k := by unfold CST at hp; unfold WKP; omega
theorem nx_WRH_CST {p k : Nat} (hp : CST p k) : ¬ WRH p k := by unfold CST at hp; unfold WRH; omega
theorem nx_WKP_CSL {p k : Nat} (hp : CSL p k) : ¬ WKP p k := by unfold CSL at hp; unfold WKP; omega
theorem nx_WRH_CSL {p k : Nat} (hp : CSL p k) : ¬ WRH p k := by unfold CSL at hp; unfold WRH; omega
theorem nx_WKP_CSc {p k : Nat} (hp : CSc p k) : ¬ WKP p k := by unfold CSc at hp; unfold WKP; omega
theorem nx_WKP_CSd {p k : Nat} (hp : CSd p k) : ¬ WKP p k := by unfold CSd at hp; unfold WKP; omega
theorem nx_WKP_CSu {p k : Nat} (hp : CSu p k) : ¬ WKP p k := by unfold CSu at hp; unfold WKP; omega
theorem nx_WKP_CSk {p k : Nat} (hp : CSk p k) : ¬ WKP p k := by unfold CSk at hp; unfold WKP; omega
theorem nx_WKP_CSX {p k : Nat} (hp : CSX p k) : ¬ WKP p k := hp.elim (fun h => h.elim nx_WKP_CSc nx_WKP_CSd) (fun h => h.elim nx_WKP_CSu nx_WKP_CSk)
theorem nx_WRH_CSc {p k : Nat} (hp : CSc p k) : ¬ WRH p k := by unfold CSc at hp; unfold WRH; omega
theorem nx_WRH_CSd {p k : Nat} (hp : CSd p k) : ¬ WRH p k := by unfold CSd at hp; unfold WRH; omega
theorem nx_WRH_CSu {p k : Nat} (hp : CSu p k) : ¬ WRH p k := by unfold CSu at hp; unfold WRH; omega
theorem nx_WRH_CSk {p k : Nat} (hp : CSk p k) : ¬ WRH p k := by unfold CSk at hp; unfold WRH; omega
theorem nx_WRH_CSX {p k : Nat} (hp : CSX p k) : ¬ WRH p k := hp.elim (fun h => h.elim nx_WRH_CSc nx_WRH_CSd) (fun h => h.elim nx_WRH_CSu nx_WRH_CSk)
