/-! worlds that differ in a set of cells alone -/
def Ke (A : Nat → Nat → Prop) (M M2 : xM) : Prop := ∀ p k, ¬ A p k → M2 p k = M p k
theorem Ke.rf {A : Nat → Nat → Prop} {M : xM} : Ke A M M := fun _ _ _ => rfl
theorem Ke.up {A : Nat → Nat → Prop} {M M1 : xM} {p k : Nat} {v : Int32} (ha : A p k) (h : Ke A M M1) : Ke A M (x_up M1 p k v) := fun q j hq => by
  by_cases e : q = p
  · subst e
    by_cases e2 : j = k
    · subst e2; exact absurd ha hq
    · exact (x_up_k M1 q v e2).trans (h q j hq)
  · exact (congrFun (x_up_n M1 k v e) j).trans (h q j hq)
theorem Ke.tr {A B : Nat → Nat → Prop} {M M1 M2 : xM} (hBA : ∀ p k, B p k → A p k) (h : Ke A M M1) (h2 : Ke B M1 M2) : Ke A M M2 := fun p k hp => (h2 p k (fun q => hp (hBA p k q))).trans (h p k hp)
theorem Ke.row {A : Nat → Nat → Prop} {M M1 : xM} {p : Nat} {r : Nat → Int32} (ha : ∀ k, A p k) (h : Ke A M M1) : Ke A M (x_row M1 p r) := fun q j hq => by
  by_cases e : q = p
  · subst e; exact absurd (ha j) hq
  · exact (congrFun (x_row_n M1 r e) j).trans (h q j hq)
def qPI (M : xM) (J : xJ) (E : Int32 → Prop) : xQ := fun v s M2 J2 => ∃ r : Int32, v = some (.int r) ∧ s = x_SH ∧ M = M2 ∧ J = J2 ∧ E r
def qPL (M : xM) (J : xJ) (E : Int64 → Prop) : xQ := fun v s M2 J2 => ∃ r : Int64, v = some (.long r) ∧ s = x_SH ∧ M = M2 ∧ J = J2 ∧ E r
def qKV (A : Nat → Nat → Prop) (M : xM) (J : xJ) (E : xM → Prop) : xQ := fun v s M2 J2 => v = none ∧ s = x_SH ∧ J = J2 ∧ Ke A M M2 ∧ E M2
def qKI (A : Nat → Nat → Prop) (M : xM) (J : xJ) (E : Int32 → xM → Prop) : xQ := fun v s M2 J2 => ∃ r : Int32, v = some (.int r) ∧ s = x_SH ∧ J = J2 ∧ Ke A M M2 ∧ E r M2
theorem s_hp15 {k : Nat} (h : k < 5) : x_SH[15 + k]? = some (.inl (2, [none, none, none, none, none])) := by
  match k, h with
  | 0, _ => rfl
  | 1, _ => rfl
  | 2, _ => rfl
  | 3, _ => rfl
  | 4, _ => rfl
theorem s_hp22 {k : Nat} (h : k < 5) : x_SH[22 + k]? = some (.inl (2, [none, none, none, none, none])) := by
  match k, h with
  | 0, _ => rfl
  | 1, _ => rfl
  | 2, _ => rfl
  | 3, _ => rfl
  | 4, _ => rfl
theorem s_hp30 {k : Nat} (h : k < 5) : x_SH[30 + k]? = some (.inl (2, [none, none, none, none, none])) := by
  match k, h with
  | 0, _ => rfl
  | 1, _ => rfl
  | 2, _ => rfl
  | 3, _ => rfl
  | 4, _ => rfl
theorem s_shelf {j : Nat} (h : j < 6) : x_SH[50 + 2 * j]? = some (.inl (6, [none, none, none, none, some (some (51 + 2 * j))])) := by
  match j, h with
  | 0, _ => rfl
  | 1, _ => rfl
  | 2, _ => rfl
  | 3, _ => rfl
  | 4, _ => rfl
  | 5, _ => rfl
theorem s_elem {j : Nat} (h : j < 6) : x_SH[51 + 2 * j]? = some (.inr (2, 60, fun _ => none)) := by
  match j, h with
  | 0, _ => rfl
  | 1, _ => rfl
  | 2, _ => rfl
  | 3, _ => rfl
  | 4, _ => rfl
  | 5, _ => rfl
abbrev WL (p k : Nat) : Prop := (4 ≤ p ∧ p ≤ 5) ∨ (p = 1 ∧ k = 5)
abbrev W13h (p k : Nat) : Prop := (15 ≤ p ∧ p ≤ 19)
abbrev W28h (p k : Nat) : Prop := (30 ≤ p ∧ p ≤ 34)
abbrev W13p (p k : Nat) : Prop := (4 ≤ p ∧ p ≤ 5) ∨ (p = 1 ∧ k = 5) ∨ (15 ≤ p ∧ p ≤ 19)
abbrev W28p (p k : Nat) : Prop := (4 ≤ p ∧ p ≤ 5) ∨ (p = 1 ∧ k = 5) ∨ (30 ≤ p ∧ p ≤ 34)
abbrev W13s (p k : Nat) : Prop := (p = 13 ∧ k = 3) ∨ (p = 13 ∧ k = 9) ∨ (15 ≤ p ∧ p ≤ 19)
abbrev W28s (p k : Nat) : Prop := (p = 28 ∧ k = 3) ∨ (p = 28 ∧ k = 9) ∨ (30 ≤ p ∧ p ≤ 34)
abbrev W13t (p k : Nat) : Prop := (4 ≤ p ∧ p ≤ 5) ∨ (p = 1 ∧ k = 5) ∨ (p = 13 ∧ k ≠ 2) ∨ (15 ≤ p ∧ p ≤ 19)
abbrev WS (p k : Nat) : Prop := (4 ≤ p ∧ p ≤ 5) ∨ (p = 1 ∧ k = 5) ∨ (p = 27) ∨ (p = 28 ∧ k ≠ 2) ∨ (30 ≤ p ∧ p ≤ 34)
abbrev WTH (p k : Nat) : Prop := (4 ≤ p ∧ p ≤ 5) ∨ (p = 1 ∧ k = 5) ∨ (27 ≤ p ∧ p ≤ 28) ∨ (30 ≤ p ∧ p ≤ 34)
abbrev W28c (p k : Nat) : Prop := (p = 28) ∨ (30 ≤ p ∧ p ≤ 34)
abbrev W20c (p k : Nat) : Prop := (p = 20) ∨ (22 ≤ p ∧ p ≤ 26)
abbrev W13b (p k : Nat) : Prop := (p = 13 ∧ k = 3) ∨ (p = 13 ∧ k = 8) ∨ (p = 13 ∧ k = 9) ∨ (15 ≤ p ∧ p ≤ 19)
abbrev W13f (p k : Nat) : Prop := (p = 13 ∧ k = 9) ∨ (15 ≤ p ∧ p ≤ 19)
abbrev W28f (p k : Nat) : Prop := (p = 28 ∧ k = 9) ∨ (30 ≤ p ∧ p ≤ 34)
abbrev W20h (p k : Nat) : Prop := (22 ≤ p ∧ p ≤ 26)
abbrev WTB (p k : Nat) : Prop := (27 ≤ p ∧ p ≤ 28) ∨ (30 ≤ p ∧ p ≤ 34)
abbrev W27 (p k : Nat) : Prop := (p = 27)
abbrev WTS (p k : Nat) : Prop := (4 ≤ p ∧ p ≤ 5) ∨ (p = 1 ∧ k = 5) ∨ (27 ≤ p ∧ p ≤ 28) ∨ (30 ≤ p ∧ p ≤ 34)
section XG
variable {l : Launch} {G : xG} {f : xF} {d mc ms : Nat} {Q : xQ} {pc : Nat} {ls : List (Nat × Value)} {st : List Value} {sh : List xS} {M : xM} {J : xJ} {kc ks : Nat}
theorem xg_eq {x : Int32} (v : Int32) (h1 : x = v → x_X l G f d mc ms Q pc ls (.int v :: st) sh M J kc ks) (h2 : ¬ x = v → x_X l G f d mc ms Q pc ls (.int x :: st) sh M J kc ks) : x_X l G f d mc ms Q pc ls (.int x :: st) sh M J kc ks := by
  by_cases h : x = v
  · have := h1 h; rw [← h] at this; exact this
  · exact h2 h
theorem xg_out {lo hi : Nat} {x : Int32} (hh : hi < 2 ^ 31) (h : ∀ j : Nat, lo ≤ j → j ≤ hi → ¬ x = nI j) : x.toInt < (lo : Int) ∨ (hi : Int) < x.toInt := by
  by_cases h1 : x.toInt < (lo : Int)
  · exact Or.inl h1
  · by_cases h2 : (hi : Int) < x.toInt
    · exact Or.inr h2
    · exfalso
      refine h x.toInt.toNat (by omega) (by omega) (Int32.toInt_inj.mp ?_)
      rw [nI_toInt (by omega)]
      omega
end XG
theorem xg_off {x v : Int32} {a o d r : Int} {t : List (Int × Int)} (h : ¬ x = v) (ha : v.toInt = a) (ht : Op.lookupswitch.offset t d x.toInt = r) : Op.lookupswitch.offset ((a, o) :: t) d x.toInt = r := by
  rw [Op.lookupswitch.offset_cons, if_neg (fun q => h (Int32.toInt_inj.mp (q.symm.trans ha.symm))), ht]
theorem bI_01 (c : Prop) [Decidable c] : bI c = 0 ∨ bI c = 1 := by unfold bI; split <;> simp
abbrev WAT (p k : Nat) : Prop := (p = 6 ∧ k = 3)
abbrev WRD (p k : Nat) : Prop := (p = 6 ∧ k = 3) ∨ (p = 6 ∧ k = 4) ∨ (8 ≤ p ∧ p ≤ 10)
abbrev WTK (p k : Nat) : Prop := (p = 6 ∧ k = 2) ∨ (p = 7)
abbrev WLW (p k : Nat) : Prop := (p = 1 ∧ k = 4) ∨ (2 ≤ p ∧ p ≤ 3)
abbrev WSK (p k : Nat) : Prop := (36 ≤ p ∧ p ≤ 37)
abbrev WFD (p k : Nat) : Prop := (p = 35 ∧ k = 6) ∨ (38 ≤ p ∧ p ≤ 40)
abbrev WCH (p k : Nat) : Prop := (p = 41 ∧ k = 4) ∨ (p = 41 ∧ k = 5) ∨ (42 ≤ p ∧ p ≤ 45)
abbrev WCF (p k : Nat) : Prop := (p = 41 ∧ k = 4) ∨ (42 ≤ p ∧ p ≤ 45)
abbrev WTN (p k : Nat) : Prop := (p = 46 ∧ k = 3) ∨ (p = 48)
abbrev WTR (p k : Nat) : Prop := (p = 46 ∧ k = 3) ∨ (p = 46 ∧ k = 4) ∨ (p = 48)
abbrev WBD (p k : Nat) : Prop := (p = 46 ∧ k = 2) ∨ (p = 47)
abbrev WAH (p k : Nat) : Prop := (p = 13 ∧ k = 2) ∨ (15 ≤ p ∧ p ≤ 19)
abbrev WMD (p k : Nat) : Prop := (p = 13 ∧ k = 4) ∨ (p = 13 ∧ k = 5) ∨ (p = 13 ∧ k = 6) ∨ (p = 13 ∧ k = 7) ∨ (p = 35 ∧ k = 5) ∨ (15 ≤ p ∧ p ≤ 19) ∨ (p = 41 ∧ k = 4) ∨ (p = 41 ∧ k = 5) ∨ (42 ≤ p ∧ p ≤ 45)
abbrev WLAW (p k : Nat) : Prop := (p = 1 ∧ k = 4) ∨ (2 ≤ p ∧ p ≤ 3) ∨ (p = 6) ∨ (8 ≤ p ∧ p ≤ 10)
abbrev W15 (p k : Nat) : Prop := (15 ≤ p ∧ p ≤ 19)
abbrev WIM (p k : Nat) : Prop := (p = 0 ∧ k = 9) ∨ (p = 20) ∨ (22 ≤ p ∧ p ≤ 26)
abbrev WUN (p k : Nat) : Prop := (p = 13 ∧ k = 4) ∨ (p = 13 ∧ k = 5) ∨ (p = 13 ∧ k = 6) ∨ (p = 13 ∧ k = 7) ∨ (p = 35 ∧ k = 5) ∨ (15 ≤ p ∧ p ≤ 19) ∨ (p = 41 ∧ k = 4)
abbrev WKP (p k : Nat) : Prop := (50 ≤ p ∧ p ≤ 61)
abbrev WPA (p k : Nat) : Prop := (p = 62 ∧ k = 15)
abbrev WPF (p k : Nat) : Prop := (p = 62 ∧ k = 17)
abbrev WPR (p k : Nat) : Prop := (p = 62 ∧ k = 15) ∨ (p = 62 ∧ k = 17) ∨ (p = 62 ∧ k = 18)
abbrev WPW (p k : Nat) : Prop := (p = 62 ∧ k = 14) ∨ (p = 62 ∧ k = 15) ∨ (p = 62 ∧ k = 16) ∨ (p = 62 ∧ k = 17) ∨ (p = 62 ∧ k = 18)
