abbrev CSc (p k : Nat) : Prop := (p = 13) ∨ (15 ≤ p ∧ p ≤ 19) ∨ (p = 1 ∧ k = 4) ∨ (2 ≤ p ∧ p ≤ 3) ∨ (p = 35 ∧ k = 5)
abbrev CSd (p k : Nat) : Prop := (p = 62 ∧ k = 6) ∨ (p = 62 ∧ k = 9) ∨ (p = 62 ∧ k = 13) ∨ (p = 62 ∧ k = 24) ∨ (p = 62 ∧ k = 25) ∨ (p = 63) ∨ (67 ≤ p ∧ p ≤ 68) ∨ (p = 70)
abbrev CSr (p k : Nat) : Prop := CSc p k ∨ CSd p k
abbrev CSu (p k : Nat) : Prop := (p = 41 ∧ k = 4) ∨ (p = 41 ∧ k = 5) ∨ (42 ≤ p ∧ p ≤ 45) ∨ (p = 62 ∧ k = 4) ∨ (p = 62 ∧ k = 5) ∨ (64 ≤ p ∧ p ≤ 66)
abbrev CSk (p k : Nat) : Prop := (p = 0 ∧ k = 9) ∨ (p = 62 ∧ k = 33) ∨ (p = 20) ∨ (22 ≤ p ∧ p ≤ 26) ∨ (p = 62 ∧ k = 34) ∨ (p = 80)
abbrev CSX (p k : Nat) : Prop := CSr p k ∨ CSu p k ∨ CSk p k
def LX (M : xM) (n : Nat) (l : xL) (u w : Nat) : Prop := WLg n l u w ∧ CLg M l u w ∧ RLg M l u w
def KX (M : xM) (n : Nat) : Prop := M 0 9 = M 62 33 ∧ (M 0 9 = 0 ∨ ∃ (n0 : Nat) (D0 : xM) (U : Nat → Int32), n0 ≤ n ∧ WFK n0 D0 ∧ CK M n0 D0 U ∧ RK M n0 D0 U)
/-- ring, law, log, image of both objects in one picture -/
def RX (M : xM) : Prop := ∃ (n : Nat) (D : xM) (t : Option zL) (S : Nat → Int32) (l : xL) (u w : Nat), WG n D S ∧ (CG M n D t S ∧ RG M n D t S) ∧ LX M n l u w ∧ KX M n
theorem CLg_f {M M2 : xM} {l : xL} {u w : Nat} (h : CLg M l u w) (k : ∀ p k, p < 62 → M2 p k = M p k) : CLg M2 l u w := CLg_k h (k 41 4 (by decide)) (k 41 5 (by decide)) (fun j => k 42 j (by decide)) (fun j => k 43 j (by decide)) (fun j => k 44 j (by decide)) (fun j => k 45 j (by decide))
theorem RLg_f {M M2 : xM} {l : xL} {u w : Nat} (h : RLg M l u w) (k : ∀ p k, 62 ≤ p → M2 p k = M p k) : RLg M2 l u w := RLg_k h (k 62 5 (by decide)) (k 62 4 (by decide)) (fun j => k 64 j (by decide)) (fun j => k 65 j (by decide)) (fun j => k 66 j (by decide))
theorem LX_f {M M2 : xM} {n u w : Nat} {l : xL} (k : ∀ p k, CSu p k → M2 p k = M p k) (h : LX M n l u w) : LX M2 n l u w := ⟨h.1, CLg_k h.2.1 (k 41 4 (by decide)) (k 41 5 (by decide)) (fun j => k 42 j (by unfold CSu; omega)) (fun j => k 43 j (by unfold CSu; omega)) (fun j => k 44 j (by unfold CSu; omega)) (fun j => k 45 j (by unfold CSu; omega)), RLg_k h.2.2 (k 62 5 (by decide)) (k 62 4 (by decide)) (fun j => k 64 j (by unfold CSu; omega)) (fun j => k 65 j (by unfold CSu; omega)) (fun j => k 66 j (by unfold CSu; omega))⟩
theorem LX_n {M : xM} {n n2 u w : Nat} {l : xL} (hn : n ≤ n2) (h : LX M n l u w) : LX M n2 l u w := ⟨⟨h.1.1, h.1.2.1, fun k hk => by
  obtain ⟨a, b, c⟩ := h.1.2.2 k hk
  exact ⟨a, fun z => Nat.lt_of_lt_of_le (b z) hn, c⟩⟩, h.2⟩
theorem CK_k {M M2 : xM} {n : Nat} {D : xM} {U : Nat → Int32} (h : CK M n D U) (hn : n ≤ 5) (h20 : ∀ k, M2 20 k = M 20 k) (hh : ∀ i, i < 5 → ∀ k, M2 (22 + i) k = M (22 + i) k) : CK M2 n D U := by
  obtain ⟨a, b, c, d, e⟩ := h
  exact ⟨(h20 2).trans a, AbC_k b (fun i hi => hh i (by omega)), (h20 3).trans c, (h20 8).trans d, (h20 9).trans e⟩
theorem RK_k {M M2 : xM} {n : Nat} {D : xM} {U : Nat → Int32} (h : RK M n D U) (h34 : M2 62 34 = M 62 34) (h80 : ∀ k, M2 80 k = M 80 k) : RK M2 n D U := by
  obtain ⟨a, b, c, d, e⟩ := h
  exact ⟨h34.trans a, fun i hi => by rw [h80, h80, h80]; exact b i hi, (h80 0).trans c, (h80 1).trans d, (h80 2).trans e⟩
theorem KX_f {M M2 : xM} {n n2 : Nat} (k : ∀ p k, CSk p k → M2 p k = M p k) (hn : n ≤ n2) (h5 : n ≤ 5) (h : KX M n) : KX M2 n2 := by
  obtain ⟨a, b⟩ := h
  refine ⟨(k 0 9 (by decide)).trans (a.trans (k 62 33 (by decide)).symm), ?_⟩
  rcases b with b | ⟨n0, D0, U, h1, h2, h3, h4⟩
  · exact Or.inl ((k 0 9 (by decide)).trans b)
  · exact Or.inr ⟨n0, D0, U, by omega, h2, CK_k h3 (by omega) (fun j => k 20 j (by unfold CSk; omega)) (fun i hi j => k (22 + i) j (by unfold CSk; omega)), RK_k h4 (k 62 34 (by decide)) (fun j => k 80 j (by unfold CSk; omega))⟩
theorem CG_c {M M2 : xM} {n : Nat} {D : xM} {t : Option zL} {S : Nat → Int32} (hn : n ≤ 5) (k : ∀ p k, CSc p k → M2 p k = M p k) (h : CG M n D t S) : CG M2 n D t S := CG_k hn h (fun j => k 13 j (by unfold CSc; omega)) (fun i hi j => k (15 + i) j (by unfold CSc; omega)) (k 1 4 (by decide)) (fun j => k 2 j (by unfold CSc; omega)) (fun j => k 3 j (by unfold CSc; omega)) (k 35 5 (by decide))
theorem GX_f {M M2 : xM} {n : Nat} {D : xM} {t : Option zL} {S : Nat → Int32} (hn : n ≤ 5) (k : ∀ p k, CSr p k → M2 p k = M p k) (h : CG M n D t S ∧ RG M n D t S) : CG M2 n D t S ∧ RG M2 n D t S := ⟨CG_c hn (fun p j hp => k p j (Or.inl hp)) h.1, RG_k hn h.2 (k 62 6 (by decide)) (k 62 9 (by decide)) (k 62 13 (by decide)) (k 62 24 (by decide)) (k 62 25 (by decide)) (fun j _ => k 63 j (Or.inr (by unfold CSd; omega))) (fun j => k 67 j (Or.inr (by unfold CSd; omega))) (fun j => k 68 j (Or.inr (by unfold CSd; omega))) (fun j => k 70 j (Or.inr (by unfold CSd; omega)))⟩
theorem RX_f {M M2 : xM} (k : ∀ p k, CSX p k → M2 p k = M p k) (h : RX M) : RX M2 := by
  obtain ⟨n, D, t, S, l, u, w, hWG, hG, hL, hK⟩ := h
  exact ⟨n, D, t, S, l, u, w, hWG, GX_f hWG.1 (fun p j hp => k p j (Or.inl hp)) hG, LX_f (fun p j hp => k p j (Or.inr (Or.inl hp))) hL, KX_f (fun p j hp => k p j (Or.inr (Or.inr hp))) (Nat.le_refl _) hWG.1 hK⟩
section
variable {M1 M2 : xM} {n : Nat} {D : xM} {t : Option zL} {S : Nat → Int32} {l : xL} {u w : Nat} {r r2 : Int32}
theorem jX_go {nn : Int32} (hWG : WG n D S) (hL : LX M2 n l u w) (hK : KX M2 n) (k10 : ∀ p k, p < 62 → M2 p k = M1 p k) (h9 : EGoX CG n D t S M1 nn r) (h10 : EGoX RG n D t S M2 nn r2) : r = r2 ∧ RX M2 := by
  rcases h9 with ⟨a, b, c⟩ | ⟨N, hN, a, a2, b, c⟩ <;> rcases h10 with ⟨a', b', c'⟩ | ⟨N', hN', a', a2', b', c'⟩
  · exact ⟨b.trans b'.symm, n, D, t, S, l, u, w, hWG, ⟨CG_f hWG.1 c k10, c'⟩, hL, hK⟩
  · exact absurd a' a
  · exact absurd a a'
  · obtain rfl : N = N' := (nI_eq (by omega) (by omega)).mp (a2.symm.trans a2')
    exact ⟨b.trans b'.symm, n, _, t, _, l, u, w, WG_go hWG, ⟨CG_f hWG.1 c k10, c'⟩, hL, hK⟩
theorem jX_lift {h : Int32} (hWG : WG n D S) (hL : LX M2 n l u w) (hK : KX M2 n) (k10 : ∀ p k, p < 62 → M2 p k = M1 p k) (h9 : ELf CG n D t S M1 h r) (h10 : ELf RG n D t S M2 h r2) : r = r2 ∧ RX M2 := by
  have h5 := hWG.1
  rcases h9 with ⟨a, b, c⟩ | ⟨i, hi, e, d⟩ <;> rcases h10 with ⟨a', b', c'⟩ | ⟨i', hi', e', d'⟩
  · exact ⟨b.trans b'.symm, n, D, t, S, l, u, w, hWG, ⟨CG_f h5 c k10, c'⟩, hL, hK⟩
  · exact absurd (show 0 ≤ h ∧ h < nI n by rw [e']; exact ⟨nI_pos' (by omega), nI_lt (by omega) (by omega)⟩) a
  · exact absurd (show 0 ≤ h ∧ h < nI n by rw [e]; exact ⟨nI_pos' (by omega), nI_lt (by omega) (by omega)⟩) a'
  · obtain rfl : i = i' := (nI_eq (by omega) (by omega)).mp (e.symm.trans e')
    rcases d with ⟨a, b, c⟩ | ⟨a, b, c⟩ <;> rcases d' with ⟨a', b', c'⟩ | ⟨a', b', c'⟩
    · exact ⟨b.trans b'.symm, n, D, t, S, l, u, w, hWG, ⟨CG_f h5 c k10, c'⟩, hL, hK⟩
    · exact absurd a' a
    · exact absurd a a'
    · exact ⟨b.trans b'.symm, n, _, t, S, l, u, w, ⟨h5, WF_lf hWG.2.1, hWG.2.2⟩, ⟨CG_f h5 c k10, c'⟩, hL, hK⟩
theorem jX_hoop {sh : Int32} (hWG : WG n D S) (hL : LX M2 n l u w) (hK : ∀ n2, n ≤ n2 → KX M2 n2) (k10 : ∀ p k, p < 62 → M2 p k = M1 p k) (h9 : EHp CG n D t S M1 sh r) (h10 : EHp RG n D t S M2 sh r2) : r = r2 ∧ RX M2 := by
  have h5 := hWG.1
  rcases h9 with ⟨a, b, c⟩ | ⟨ok, d⟩ <;> rcases h10 with ⟨a', b', c'⟩ | ⟨ok', d'⟩
  · exact ⟨b.trans b'.symm, n, D, t, S, l, u, w, hWG, ⟨CG_f h5 c k10, c'⟩, hL, hK n (Nat.le_refl _)⟩
  · exact absurd ok' a
  · exact absurd ok a'
  · rcases d with ⟨a, b, c⟩ | ⟨a, b, c⟩ <;> rcases d' with ⟨a', b', c'⟩ | ⟨a', b', c'⟩
    · exact ⟨b.trans b'.symm, n, D, t, S, l, u, w, hWG, ⟨CG_f h5 c k10, c'⟩, hL, hK n (Nat.le_refl _)⟩
    · omega
    · omega
    · exact ⟨b.trans b'.symm, n + 1, _, t, S, l, u, w, ⟨by omega, WF_ad hWG.2.1 ok.2.1 ok.2.2 (by decide), hWG.2.2⟩, ⟨CG_f (by omega) c k10, c'⟩, LX_n (Nat.le_succ n) hL, hK _ (Nat.le_succ n)⟩
theorem jX_hoops {g : xQs} {sh i nn : Int32} (hWG : WG n D S) (hL : LX M2 n l u w) (hK : ∀ n2, n ≤ n2 → KX M2 n2) (k10 : ∀ p k, p < 62 → M2 p k = M1 p k) (h9 : EHs CG n D t S g M1 sh i nn r) (h10 : EHs RG n D t S g M2 sh i nn r2) : r = r2 ∧ RX M2 := by
  have h5 := hWG.1
  rcases h9 with ⟨a, b, c⟩ | ⟨q, N, hq, hN, cc, e1, e2, d⟩ <;> rcases h10 with ⟨a', b', c'⟩ | ⟨q', N', hq', hN', cc', e1', e2', d'⟩
  · exact ⟨b.trans b'.symm, n, D, t, S, l, u, w, hWG, ⟨CG_f h5 c k10, c'⟩, hL, hK n (Nat.le_refl _)⟩
  · exact absurd cc' a
  · exact absurd cc a'
  · obtain rfl : q = q' := (nI_eq (by omega) (by omega)).mp (e1.symm.trans e1')
    obtain rfl : N = N' := (nI_eq (by omega) (by omega)).mp (e2.symm.trans e2')
    rcases d with ⟨a, b, c⟩ | ⟨a, b, c⟩ <;> rcases d' with ⟨a', b', c'⟩ | ⟨a', b', c'⟩
    · exact ⟨b.trans b'.symm, n, D, t, S, l, u, w, hWG, ⟨CG_f h5 c k10, c'⟩, hL, hK n (Nat.le_refl _)⟩
    · exact absurd a a'
    · exact absurd a' a
    · have hw := hsT_w (G := g) (q := q) (N := N) (i := i) h5 hWG.2.1
      exact ⟨b.trans b'.symm, _, _, t, S, l, u, w, ⟨hw.1, hw.2, hWG.2.2⟩, ⟨CG_f hw.1 c k10, c'⟩, LX_n (Nat.le_add_right _ _) hL, hK _ (Nat.le_add_right _ _)⟩
theorem jX_law {T9 T10 : Nat → Int32} {c9 c10 : Int32} (hWG : WG n D S) (hL : LX M2 n l u w) (hK : KX M2 n) (k10 : ∀ p k, p < 62 → M2 p k = M1 p k) (hT : T9 = T10) (hc : c9 = c10) (h9 : ELw CG n D t S T9 c9 M1 r) (h10 : ELw RG n D t S T10 c10 M2 r2) : r = r2 ∧ RX M2 := by
  subst hT; subst hc
  obtain ⟨E, f, g, a, ok, ls, a1, a2, a3, a4, a5, a6⟩ := h9
  obtain ⟨E2, f2, g2, b, ok2, ls2, b1, b2, b3, b4, b5, b6⟩ := h10
  obtain rfl : E = E2 := (nI_eq (by omega) (by omega)).mp (a2.symm.trans b2)
  have e := txB_det a3 b3
  obtain rfl : a = b := congrArg Prod.fst e
  obtain rfl : ok = ok2 := congrArg (fun z => z.2.1) e
  obtain rfl : ls = ls2 := congrArg (fun z => z.2.2) e
  exact ⟨a5.trans b5.symm, n, D, _, S, l, u, w, hWG, ⟨CG_f hWG.1 a6 k10, b6⟩, hL, hK⟩
theorem jX_back {f f2 : Int32} {n0 : Nat} {D0 : xM} {U : Nat → Int32} (hWG : WG n D S) (hL : LX M2 n l u w) (hK : KX M2 n) (k10 : ∀ p k, p < 62 → M2 p k = M1 p k) (hf : f = f2) (h0 : f = 0 ∨ WFK n0 D0) (h9 : EBk CG n D t S f n0 D0 U M1 r) (h10 : EBk RG n D t S f2 n0 D0 U M2 r2) : r = r2 ∧ RX M2 := by
  subst hf
  rcases h9 with ⟨a, b, c⟩ | ⟨a, b, c⟩ <;> rcases h10 with ⟨a', b', c'⟩ | ⟨a', b', c'⟩
  · exact ⟨b.trans b'.symm, n, D, t, S, l, u, w, hWG, ⟨CG_f hWG.1 c k10, c'⟩, hL, hK⟩
  · exact absurd a a'
  · exact absurd a' a
  · exact ⟨b.trans b'.symm, n, bkD n0 D0 D, t, bkS S U, l, u, w, ⟨hWG.1, WF_bk hWG.2.1 (h0.resolve_left a), hWG.2.2⟩, ⟨CG_f hWG.1 c k10, c'⟩, hL, hK⟩
theorem jX_image (hWG : WG n D S) (hL : LX M2 n l u w) (k10 : ∀ p k, p < 62 → M2 p k = M1 p k) (h9 : r = S 0 ∧ CG M1 n D t S ∧ CK M1 n D (kS S) ∧ M1 0 9 = 1) (h10 : r2 = S 0 ∧ RG M2 n D t S ∧ RK M2 n D (kS S) ∧ M2 62 33 = 1) : r = r2 ∧ RX M2 :=
  ⟨h9.1.trans h10.1.symm, n, D, t, S, l, u, w, hWG, ⟨CG_f hWG.1 h9.2.1 k10, h10.2.1⟩, hL, ((k10 0 9 (by decide)).trans h9.2.2.2).trans h10.2.2.2.symm, Or.inr ⟨n, D, kS S, Nat.le_refl _, WF_K hWG.2.1, CK_k h9.2.2.1 hWG.1 (fun j => k10 20 j (by decide)) (fun i hi j => k10 (22 + i) j (by omega)), h10.2.2.1⟩⟩
theorem jX_keep {M : xM} (hWG : WG n D S) (hG : CG M n D t S) (hc : ∀ p k, CSc p k → M2 p k = M p k) (hR : RG M2 n D t S) (hL : LX M2 n l u w) (hK : KX M2 n) : RX M2 := ⟨n, D, t, S, l, u, w, hWG, ⟨CG_c hWG.1 hc hG, hR⟩, hL, hK⟩
/-- a change of one thing -/
theorem jX_m1 {v : Int32} {q : Nat} {ok : Prop} (hWG : WG n D S) (hWL : WLg n l u w) (hK : KX M2 n) (k10 : ∀ p k, p < 62 → M2 p k = M1 p k) (hq : (∃ i a, i < n ∧ a < 3 ∧ q = 5 * a + i) ∨ ∃ a, 3 ≤ a ∧ a ≤ 7 ∧ q = 12 + a) (hok : ok → (∃ i a, i < n ∧ a < 3 ∧ q = 5 * a + i ∧ okW a (D i 4) (S 2) v) ∨ ∃ a, 3 ≤ a ∧ a ≤ 7 ∧ q = 12 + a ∧ okW a 0 (S 2) v) (h9 : EM1 CG CLg n D t S l u w M1 r v q ok) (h10 : EM1 RG RLg n D t S l u w M2 r2 v q ok) : r = r2 ∧ RX M2 := by
  have h5 := hWG.1
  have hq20 : q < 20 := by
    rcases hq with ⟨i, a, x, y, z⟩ | ⟨a, x, y, z⟩ <;> omega
  have hqn : q < 15 → q % 5 < n := by
    rcases hq with ⟨i, a, x, y, z⟩ | ⟨a, x, y, z⟩ <;> intro _ <;> omega
  rcases h9 with ⟨a, b, c, d⟩ | ⟨a, b, e⟩ <;> rcases h10 with ⟨a', b', c', d'⟩ | ⟨a', b', e'⟩
  · exact ⟨b.trans b'.symm, n, D, t, S, l, u, w, hWG, ⟨CG_f h5 c k10, c'⟩, ⟨hWL, CLg_f d k10, d'⟩, hK⟩
  · exact absurd a' a
  · exact absurd a a'
  · have hr : r = r2 := b.trans b'.symm
    subst hr
    rcases e with ⟨e, c, d⟩ | ⟨e, c, d⟩ <;> rcases e' with ⟨e', c', d'⟩ | ⟨e', c', d'⟩
    · exact ⟨rfl, n, D, t, S, l, u, w, hWG, ⟨CG_f h5 c k10, c'⟩, ⟨hWL, CLg_f d k10, d'⟩, hK⟩
    · exact absurd e e'
    · exact absurd e' e
    · have hk := hok a
      exact ⟨rfl, n, _, t, _, _, _, _, WG_md hWG hk, ⟨CG_f h5 c k10, c'⟩, ⟨WLg_nt hWL hq20 hqn (bd_was hWG hq b) (bd_ok (n := n) (hk.imp (fun ⟨i, a, x, y, z, o⟩ => ⟨i, a, by omega, y, z, o⟩) (fun z => z))), CLg_f d k10, d'⟩, hK⟩
theorem jX_mend {nu wh v : Int32} (hWG : WG n D S) (hWL : WLg n l u w) (hK : KX M2 n) (k10 : ∀ p k, p < 62 → M2 p k = M1 p k) (h9 : EMn CG CLg n D t S l u w M1 nu wh v r) (h10 : EMn RG RLg n D t S l u w M2 nu wh v r2) : r = r2 ∧ RX M2 := by
  have h5 := hWG.1
  have c1 : ∀ {i a : Nat}, i < n → a < 3 → nu = nI i → wh = nI a → (0 ≤ wh ∧ wh ≤ 2) ∧ (0 ≤ nu ∧ nu < nI n) := fun {i a} hi ha e1 e2 => by
    rw [e1, e2]; exact ⟨⟨nI_pos' (by omega), nI_le (a := a) (b := 2) (by omega) (by decide)⟩, nI_pos' (by omega), nI_lt (by omega) (by omega)⟩
  have c2 : ∀ {a : Nat}, 3 ≤ a → a ≤ 7 → nu = 0 → wh = nI a → nu = 0 ∧ (3 ≤ wh ∧ wh ≤ 7) := fun {a} h1 h2 e1 e2 => by
    rw [e1, e2]; exact ⟨rfl, nI_le (a := 3) (b := a) h1 (by omega), nI_le (a := a) (b := 7) h2 (by decide)⟩
  rcases h9 with ⟨i, a, hi, ha, e1, e2, e⟩ | ⟨a, ha, hb, e1, e2, e⟩ | ⟨no, b, c, d⟩ <;> rcases h10 with ⟨i', a', hi', ha', e1', e2', e'⟩ | ⟨a', ha', hb', e1', e2', e'⟩ | ⟨no', b', c', d'⟩
  · obtain rfl : i = i' := (nI_eq (by omega) (by omega)).mp (e1.symm.trans e1')
    obtain rfl : a = a' := (nI_eq (by omega) (by omega)).mp (e2.symm.trans e2')
    exact jX_m1 hWG hWL hK k10 (Or.inl ⟨i, a, hi, ha, rfl⟩) (fun o => Or.inl ⟨i, a, hi, ha, rfl, o⟩) e e'
  · exact absurd ((nI_eq (a := a) (b := a') (by omega) (by omega)).mp (e2.symm.trans e2')) (by omega)
  · exact absurd (c1 hi ha e1 e2) no'.1
  · exact absurd ((nI_eq (a := a) (b := a') (by omega) (by omega)).mp (e2.symm.trans e2')) (by omega)
  · obtain rfl : a = a' := (nI_eq (by omega) (by omega)).mp (e2.symm.trans e2')
    exact jX_m1 hWG hWL hK k10 (Or.inr ⟨a, ha, hb, rfl⟩) (fun o => Or.inr ⟨a, ha, hb, rfl, o⟩) e e'
  · exact absurd (c2 ha hb e1 e2) no'.2
  · exact absurd (c1 hi' ha' e1' e2') no.1
  · exact absurd (c2 ha' hb' e1' e2') no.2
  · exact ⟨b.trans b'.symm, n, D, t, S, l, u, w, hWG, ⟨CG_f h5 c k10, c'⟩, ⟨hWL, CLg_f d k10, d'⟩, hK⟩
theorem jX_undo (hWG : WG n D S) (hWL : WLg n l u w) (hK : KX M2 n) (k10 : ∀ p k, p < 62 → M2 p k = M1 p k) (h9 : EUn CG CLg n D t S l u w M1 r) (h10 : EUn RG RLg n D t S l u w M2 r2) : r = r2 ∧ RX M2 := by
  have h5 := hWG.1
  rcases h9 with ⟨a, b, c, d⟩ | ⟨j, a, b, c, d⟩ <;> rcases h10 with ⟨a', b', c', d'⟩ | ⟨j', a', b', c', d'⟩
  · exact ⟨b.trans b'.symm, n, D, t, S, l, u, w, hWG, ⟨CG_f h5 c k10, c'⟩, ⟨hWL, CLg_f d k10, d'⟩, hK⟩
  · omega
  · omega
  · obtain rfl : j = j' := by omega
    obtain ⟨hw1, hw2, hw3⟩ := hWL
    obtain ⟨x1, x2, x3, x4⟩ := hw3 j (by omega)
    exact ⟨b.trans b'.symm, n, _, t, _, l, j, w, WG_lk hWG (key_f x1 x2) x3, ⟨CG_f h5 c k10, c'⟩, ⟨⟨by omega, hw2, hw3⟩, CLg_f d k10, d'⟩, hK⟩
theorem jX_redo (hWG : WG n D S) (hWL : WLg n l u w) (hK : KX M2 n) (k10 : ∀ p k, p < 62 → M2 p k = M1 p k) (h9 : ERd CG CLg n D t S l u w M1 r) (h10 : ERd RG RLg n D t S l u w M2 r2) : r = r2 ∧ RX M2 := by
  have h5 := hWG.1
  rcases h9 with ⟨a, b, c, d⟩ | ⟨a, b, c, d⟩ <;> rcases h10 with ⟨a', b', c', d'⟩ | ⟨a', b', c', d'⟩
  · exact ⟨b.trans b'.symm, n, D, t, S, l, u, w, hWG, ⟨CG_f h5 c k10, c'⟩, ⟨hWL, CLg_f d k10, d'⟩, hK⟩
  · omega
  · omega
  · obtain ⟨hw1, hw2, hw3⟩ := hWL
    obtain ⟨x1, x2, x3, x4⟩ := hw3 u a
    exact ⟨b.trans b'.symm, n, _, t, _, l, u + 1, w, WG_lk hWG (key_f x1 x2) x4, ⟨CG_f h5 c k10, c'⟩, ⟨⟨by omega, hw2, hw3⟩, CLg_f d k10, d'⟩, hK⟩
end
/-- shelves in words -/
theorem Sh_of {M : xM} {J : xJ} (hI : InvC M) (hS : RS M) (hE : RE J) (hY : RY M J) : ∃ g : xQs, CSh M J g ∧ RSh M J g ∧ WSh g := by
  obtain ⟨-, -, -, -, -, -, -, -, -, -, hsl, -⟩ := hI
  refine ⟨fun q => (if M (50 + 2 * q) 0 = 0 then 0 else if M (50 + 2 * q) 0 = 2 ∧ M (50 + 2 * q) 2 = 0 then 1 else 2, (M (50 + 2 * q) 3).toInt.toNat, fun j => J 85 (60 * q + j)), ?_, ?_, ?_⟩
  · intro q hq
    obtain ⟨s, hs, es⟩ := hsl q hq
    have e3 : (M (50 + 2 * q) 3).toInt.toNat = s := by rw [es, nI_toInt (by omega)]; rfl
    refine ⟨by simp only [e3]; omega, by simp only [e3]; exact es, fun j hj => hE q hq j hj, ?_⟩
    by_cases c : M (50 + 2 * q) 0 = 0
    · exact Or.inl ⟨if_pos c, c⟩
    · by_cases d : M (50 + 2 * q) 0 = 2 ∧ M (50 + 2 * q) 2 = 0
      · exact Or.inr (Or.inl ⟨(if_neg c).trans (if_pos d), d.1, d.2⟩)
      · exact Or.inr (Or.inr ⟨(if_neg c).trans (if_neg d), c, d⟩)
  · intro q hq
    obtain ⟨s, hs, es⟩ := hsl q hq
    have e3 : (M (50 + 2 * q) 3).toInt.toNat = s := by rw [es, nI_toInt (by omega)]; rfl
    refine ⟨by simp only [e3]; omega, by simp only [e3]; exact (hS q hq).1.symm.trans es, fun j _ => rfl, ?_⟩
    rcases (hS q hq).2 with ⟨a, b⟩ | ⟨a, t, ht, a2, b, c⟩ | ⟨a, s2, hs2, a2, b⟩
    · exact Or.inl ⟨if_pos a, by rw [b]; decide⟩
    · have n0 : ¬ M (50 + 2 * q) 0 = 0 := by rw [a]; decide
      exact Or.inr (Or.inr ⟨(if_neg n0).trans (if_neg (fun z => absurd (a.symm.trans z.1) (by decide))), by rw [b]; exact nI_nlt (a := t) (b := 0) (by omega) (by omega), by rw [b]; exact fun z => absurd ((nI_eq (a := t) (b := 50) (by omega) (by decide)).mp z) (by omega)⟩)
    · have n0 : ¬ M (50 + 2 * q) 0 = 0 := by rw [a]; decide
      by_cases z : s2 = 0
      · exact Or.inr (Or.inl ⟨(if_neg n0).trans (if_pos ⟨a, by rw [a2, z]; rfl⟩), by rw [b, z]; rfl⟩)
      · have z2 : ¬ M (50 + 2 * q) 2 = 0 := by rw [a2]; exact fun y => z ((nI_eq (a := s2) (b := 0) (by omega) (by decide)).mp y)
        exact Or.inr (Or.inr ⟨(if_neg n0).trans (if_neg (fun y => z2 y.2)), by rw [b]; exact nI_nlt (a := 50 + s2) (b := 0) (by omega) (by omega), by rw [b]; exact fun y => absurd ((nI_eq (a := 50 + s2) (b := 50) (by omega) (by decide)).mp y) (by omega)⟩)
  · intro q hq
    refine ⟨fun h j hj => (hY q hq).2 ?_ j hj, fun h => ?_⟩
    · simp only [] at h
      rcases (hS q hq).2 with ⟨a, b⟩ | ⟨a, t, ht, a2, b, c⟩ | ⟨a, s2, hs2, a2, b⟩
      · rw [if_pos a] at h; exact absurd h (by decide)
      · rw [if_neg (by rw [a]; decide), if_neg (fun z => absurd (a.symm.trans z.1) (by decide))] at h; exact absurd h (by decide)
      · by_cases z : s2 = 0
        · rw [b, z]; rfl
        · rw [if_neg (by rw [a]; decide), if_neg (fun y => z ((nI_eq (a := s2) (b := 0) (by omega) (by decide)).mp (a2.symm.trans y.2)))] at h; exact absurd h (by decide)
    · simp only [] at h ⊢
      by_cases a : M (50 + 2 * q) 0 = 0
      · rw [(hY q hq).1 a]; rfl
      · rw [if_neg a] at h
        by_cases d : M (50 + 2 * q) 0 = 2 ∧ M (50 + 2 * q) 2 = 0
        · rw [if_pos d] at h; exact absurd h (by decide)
        · rw [if_neg d] at h; exact absurd h (by decide)
theorem RSh_f {M M2 : xM} {J : xJ} {g : xQs} (h : RSh M J g) (k : ∀ p k, 62 ≤ p → M2 p k = M p k) : RSh M2 J g := fun q hq => by
  rw [k 83 q (by decide), k 84 q (by decide)]; exact h q hq
