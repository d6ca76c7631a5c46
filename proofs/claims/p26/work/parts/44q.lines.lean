/-! lines of the law's text -/
abbrev zL : Type := List (zC × Option zC)
def lnB (T : Nat → Int32) (E f a : Nat) : Option (Nat × Bool × zC × Option zC) := (pz T E f false 0 0 a true []).bind fun r => if r.2.1 = true ∧ nb T E r.1 = 63 then (pz T E f false 0 0 (r.1 + 1) true []).bind fun q => some (q.1, q.2.1, r.2.2, some q.2.2) else some (r.1, r.2.1, r.2.2, none)
def txB (T : Nat → Int32) (E f : Nat) : Nat → Nat → Option (Nat × Bool × zL)
  | 0, _ => none
  | g + 1, a => (lnB T E f a).bind fun r => if r.2.1 = true ∧ nb T E r.1 = 59 then (txB T E f g (r.1 + 1)).bind fun q => some (q.1, q.2.1, (r.2.2.1, r.2.2.2) :: q.2.2) else some (r.1, r.2.1, [(r.2.2.1, r.2.2.2)])
theorem txB_s {T : Nat → Int32} {E f g a : Nat} : txB T E f (g + 1) a = (lnB T E f a).bind fun r => if r.2.1 = true ∧ nb T E r.1 = 59 then (txB T E f g (r.1 + 1)).bind fun q => some (q.1, q.2.1, (r.2.2.1, r.2.2.2) :: q.2.2) else some (r.1, r.2.1, [(r.2.2.1, r.2.2.2)]) := rfl
theorem lnB_mono {T : Nat → Int32} {E f g a : Nat} {r : Nat × Bool × zC × Option zC} (h : lnB T E f a = some r) (hg : f ≤ g) : lnB T E g a = some r := by
  unfold lnB at h ⊢
  obtain ⟨r1, h1, h2⟩ := Option.bind_eq_some_iff.mp h
  refine Option.bind_eq_some_iff.mpr ⟨r1, pz_mono h1 hg, ?_⟩
  by_cases c : r1.2.1 = true ∧ nb T E r1.1 = 63
  · rw [if_pos c] at h2 ⊢
    obtain ⟨q, h3, h4⟩ := Option.bind_eq_some_iff.mp h2
    exact Option.bind_eq_some_iff.mpr ⟨q, pz_mono h3 hg, h4⟩
  · rw [if_neg c] at h2 ⊢; exact h2
theorem txB_mono {T : Nat → Int32} {E f f2 : Nat} (hf : f ≤ f2) : ∀ (g k a : Nat) (r : Nat × Bool × zL), txB T E f g a = some r → txB T E f2 (g + k) a = some r := by
  intro g
  induction g with
  | zero => intro k a r h; exact absurd (show (none : Option (Nat × Bool × zL)) = some r from h) (by simp)
  | succ g ih =>
    intro k a r h
    rw [show g + 1 + k = (g + k) + 1 by omega, txB_s]
    rw [txB_s] at h
    obtain ⟨r1, h1, h2⟩ := Option.bind_eq_some_iff.mp h
    refine Option.bind_eq_some_iff.mpr ⟨r1, lnB_mono h1 hf, ?_⟩
    by_cases c : r1.2.1 = true ∧ nb T E r1.1 = 59
    · rw [if_pos c] at h2 ⊢
      obtain ⟨q, h3, h4⟩ := Option.bind_eq_some_iff.mp h2
      exact Option.bind_eq_some_iff.mpr ⟨q, ih k _ _ h3, h4⟩
    · rw [if_neg c] at h2 ⊢; exact h2
theorem txB_det {T : Nat → Int32} {E f f2 g g2 a : Nat} {r r2 : Nat × Bool × zL} (h : txB T E f g a = some r) (h2 : txB T E f2 g2 a = some r2) : r = r2 := by
  have a1 := txB_mono (Nat.le_max_left f f2) g g2 a r h
  have a2 := txB_mono (Nat.le_max_right f f2) g2 g a r2 h2
  rw [Nat.add_comm g2 g] at a2
  exact Option.some.inj (a1.symm.trans a2)
theorem lnB_b {T : Nat → Int32} {E f a : Nat} {r : Nat × Bool × zC × Option zC} (h : lnB T E f a = some r) (ha : a ≤ E) : a ≤ r.1 ∧ r.1 ≤ E := by
  unfold lnB at h
  obtain ⟨r1, h1, h2⟩ := Option.bind_eq_some_iff.mp h
  have b1 := pz_b _ _ _ _ _ _ _ _ h1 ha
  by_cases c : r1.2.1 = true ∧ nb T E r1.1 = 63
  · rw [if_pos c] at h2
    have hl : r1.1 < E := nb_lt (fun q => by rw [q] at c; exact absurd c.2 (by decide))
    obtain ⟨q, h3, h4⟩ := Option.bind_eq_some_iff.mp h2
    have b2 := pz_b _ _ _ _ _ _ _ _ h3 hl
    obtain rfl := Option.some.inj h4
    exact ⟨by show a ≤ q.1; omega, b2.2.1⟩
  · rw [if_neg c] at h2
    obtain rfl := Option.some.inj h2
    exact ⟨b1.1, b1.2.1⟩
/-- the fault, or -1 -/
def ftF (E a : Nat) (ok : Bool) : Int32 := if ok = true ∧ ¬ a < E then -1 else nI a
/-- a line's signs from a place on, a text's -/
def lcode (n : Nat) (c1 : zC) : Option zC → zC
  | none => c1 ++ [(3, 0)]
  | some c2 => c1 ++ ((2, nI (n + c1.length + 1 + c2.length)) :: (c2 ++ [(3, 0)]))
def tcode : Nat → zL → zC
  | _, [] => []
  | n, e :: t => lcode n e.1 e.2 ++ tcode (n + (lcode n e.1 e.2).length) t
theorem tcode_app : ∀ (l : zL) (n : Nat) (e : zC × Option zC), tcode n (l ++ [e]) = tcode n l ++ lcode (n + (tcode n l).length) e.1 e.2 := by
  intro l
  induction l with
  | nil => intro n e; show lcode n e.1 e.2 ++ [] = [] ++ lcode (n + 0) e.1 e.2; rw [List.append_nil]; rfl
  | cons x t ih =>
    intro n e
    show lcode n x.1 x.2 ++ tcode (n + (lcode n x.1 x.2).length) (t ++ [e]) = (lcode n x.1 x.2 ++ tcode (n + (lcode n x.1 x.2).length) t) ++ _
    rw [ih, List.append_assoc]
    congr 2
    show _ = lcode (n + (lcode n x.1 x.2 ++ tcode (n + (lcode n x.1 x.2).length) t).length) e.1 e.2
    rw [List.length_append, Nat.add_assoc]
/-- what a text works out -/
def evT (nm : Nat → Int32) : zL → Int32
  | [] => 0
  | (c1, none) :: _ => valF nm c1
  | (c1, some c2) :: t => if valF nm c1 = 0 then evT nm t else valF nm c2
/-- the rest of a text gives the whole's end -/
def TGo (T : Nat → Int32) (E a1 : Nat) (l1 : zL) : Prop := ∀ (f g : Nat) (r : Nat × Bool × zL), txB T E f g a1 = some r → ∃ f2 g2, txB T E f2 g2 0 = some (r.1, r.2.1, l1 ++ r.2.2)
def TEnd (T : Nat → Int32) (E a1 : Nat) (ok : Bool) (l1 : zL) : Prop := ∃ f2 g2, txB T E f2 g2 0 = some (a1, ok, l1)
theorem TGo_0 {T : Nat → Int32} {E : Nat} : TGo T E 0 [] := fun f g r h => ⟨f, g, h⟩
theorem TGo_end {T : Nat → Int32} {E f a1 a2 : Nat} {ok : Bool} {c1 : zC} {o : Option zC} {l1 : zL} (h : TGo T E a1 l1) (hl : lnB T E f a1 = some (a2, ok, c1, o)) (hn : ¬ (ok = true ∧ nb T E a2 = 59)) : TEnd T E a2 ok (l1 ++ [(c1, o)]) := h f 1 (a2, ok, [(c1, o)]) (by rw [txB_s, hl]; exact if_neg hn)
theorem TGo_s {T : Nat → Int32} {E f a1 a2 : Nat} {ok : Bool} {c1 : zC} {o : Option zC} {l1 : zL} (h : TGo T E a1 l1) (hl : lnB T E f a1 = some (a2, ok, c1, o)) (hn : ok = true ∧ nb T E a2 = 59) : TGo T E (a2 + 1) (l1 ++ [(c1, o)]) := fun f3 g r hr => by
  have e : txB T E (max f f3) (g + 1) a1 = some (r.1, r.2.1, (c1, o) :: r.2.2) := by
    rw [txB_s, lnB_mono hl (Nat.le_max_left f f3)]
    show (if ok = true ∧ nb T E a2 = 59 then _ else _) = _
    rw [if_pos hn]
    have := txB_mono (Nat.le_max_right f f3) g 0 _ _ hr
    rw [Nat.add_zero] at this
    rw [this]; rfl
  obtain ⟨f2, g2, h2⟩ := h _ _ _ e
  exact ⟨f2, g2, by rw [h2, List.append_assoc]; rfl⟩
