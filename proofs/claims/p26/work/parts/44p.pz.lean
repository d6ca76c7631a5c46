/-! the law's text as a pure function: what is read, the signs that it gives, what they work out -/
/-- the byte at a place; behind the end -1 -/
def nb (T : Nat → Int32) (E a : Nat) : Int32 := if a < E then T a else -1
/-- does a byte join parts of a level? -/
def isJ (lv : Nat) (c : Int32) : Bool :=
  match lv with
  | 0 => decide (c = 124)
  | 1 => decide (c = 38)
  | 2 => decide (c = 60 ∨ c = 61 ∨ c = 62)
  | 3 => decide (c = 43 ∨ c = 45)
  | 4 => decide (c = 42 ∨ c = 47 ∨ c = 37)
  | _ => false
def nameK (c : Int32) : Int32 := if c = 110 then 0 else if c = 118 then 1 else if c = 115 then 2 else if c = 104 then 3 else if c = 102 then 4 else if c = 121 then 5 else -1
def numF (T : Nat → Int32) (E : Nat) : Nat → Nat → Int32 → Nat × Int32
  | 0, a, w => (a, w)
  | k + 1, a, w => if 48 ≤ nb T E a ∧ nb T E a ≤ 57 then numF T E k (a + 1) (10 * w + nb T E a - 48) else (a, w)
abbrev zC : Type := List (Int32 × Int32)
/-- reading: fuel, whether a chain goes on, the level, how many are open, the place, whether all was well, the signs so far -/
def pz (T : Nat → Int32) (E : Nat) : Nat → Bool → Nat → Nat → Nat → Bool → zC → Option (Nat × Bool × zC)
  | 0, _, _, _, _, _, _ => none
  | f + 1, false, lv, op, a, _, _ =>
    if lv < 5 then (pz T E f false (lv + 1) op a true []).bind fun r => pz T E f true lv op r.1 r.2.1 r.2.2
    else if 48 ≤ nb T E a ∧ nb T E a ≤ 57 then some ((numF T E 4 a 0).1, true, [(0, (numF T E 4 a 0).2)])
    else if 0 ≤ nameK (nb T E a) then some (a + 1, true, [(1, nameK (nb T E a))])
    else if op < 6 ∧ nb T E a = 40 then (pz T E f false 0 (op + 1) (a + 1) true []).bind fun r => if r.2.1 = true ∧ nb T E r.1 = 41 then some (r.1 + 1, true, r.2.2) else some (r.1, false, r.2.2)
    else if op < 6 ∧ (nb T E a = 33 ∨ nb T E a = 45) then (pz T E f false 5 (op + 1) (a + 1) true []).bind fun r => some (r.1, r.2.1, r.2.2 ++ [(if nb T E a = 33 then 4 else 5, 0)])
    else some (a, false, [])
  | f + 1, true, lv, op, a, ok, cd =>
    if ok = true ∧ isJ lv (nb T E a) = true then (pz T E f false (lv + 1) op (a + 1) true []).bind fun r => if lv = 2 then some (r.1, r.2.1, cd ++ r.2.2 ++ [(nb T E a, 0)]) else pz T E f true lv op r.1 r.2.1 (cd ++ r.2.2 ++ [(nb T E a, 0)])
    else some (a, ok, cd)
section PZ
variable {T : Nat → Int32} {E : Nat}
theorem pz_s (f lv op a : Nat) (ok : Bool) (cd : zC) : pz T E (f + 1) false lv op a ok cd =
    (if lv < 5 then (pz T E f false (lv + 1) op a true []).bind fun r => pz T E f true lv op r.1 r.2.1 r.2.2
    else if 48 ≤ nb T E a ∧ nb T E a ≤ 57 then some ((numF T E 4 a 0).1, true, [(0, (numF T E 4 a 0).2)])
    else if 0 ≤ nameK (nb T E a) then some (a + 1, true, [(1, nameK (nb T E a))])
    else if op < 6 ∧ nb T E a = 40 then (pz T E f false 0 (op + 1) (a + 1) true []).bind fun r => if r.2.1 = true ∧ nb T E r.1 = 41 then some (r.1 + 1, true, r.2.2) else some (r.1, false, r.2.2)
    else if op < 6 ∧ (nb T E a = 33 ∨ nb T E a = 45) then (pz T E f false 5 (op + 1) (a + 1) true []).bind fun r => some (r.1, r.2.1, r.2.2 ++ [(if nb T E a = 33 then 4 else 5, 0)])
    else some (a, false, [])) := rfl
theorem pz_l (f lv op a : Nat) (ok : Bool) (cd : zC) : pz T E (f + 1) true lv op a ok cd =
    (if ok = true ∧ isJ lv (nb T E a) = true then (pz T E f false (lv + 1) op (a + 1) true []).bind fun r => if lv = 2 then some (r.1, r.2.1, cd ++ r.2.2 ++ [(nb T E a, 0)]) else pz T E f true lv op r.1 r.2.1 (cd ++ r.2.2 ++ [(nb T E a, 0)])
    else some (a, ok, cd)) := rfl
theorem pz_mono1 : ∀ (f : Nat) (md : Bool) (lv op a : Nat) (ok : Bool) (cd : zC) (r : Nat × Bool × zC), pz T E f md lv op a ok cd = some r → pz T E (f + 1) md lv op a ok cd = some r := by
  intro f
  induction f with
  | zero => intro md lv op a ok cd r h; exact absurd (show (none : Option (Nat × Bool × zC)) = some r from h) (by simp)
  | succ f ih =>
    intro md lv op a ok cd r h
    cases md with
    | false =>
      rw [pz_s] at h ⊢
      by_cases c1 : lv < 5
      · rw [if_pos c1] at h ⊢
        obtain ⟨r1, h1, h2⟩ := Option.bind_eq_some_iff.mp h
        exact Option.bind_eq_some_iff.mpr ⟨r1, ih _ _ _ _ _ _ _ h1, ih _ _ _ _ _ _ _ h2⟩
      · rw [if_neg c1] at h ⊢
        by_cases c2 : 48 ≤ nb T E a ∧ nb T E a ≤ 57
        · rw [if_pos c2] at h ⊢; exact h
        · rw [if_neg c2] at h ⊢
          by_cases c3 : 0 ≤ nameK (nb T E a)
          · rw [if_pos c3] at h ⊢; exact h
          · rw [if_neg c3] at h ⊢
            by_cases c4 : op < 6 ∧ nb T E a = 40
            · rw [if_pos c4] at h ⊢
              obtain ⟨r1, h1, h2⟩ := Option.bind_eq_some_iff.mp h
              exact Option.bind_eq_some_iff.mpr ⟨r1, ih _ _ _ _ _ _ _ h1, h2⟩
            · rw [if_neg c4] at h ⊢
              by_cases c5 : op < 6 ∧ (nb T E a = 33 ∨ nb T E a = 45)
              · rw [if_pos c5] at h ⊢
                obtain ⟨r1, h1, h2⟩ := Option.bind_eq_some_iff.mp h
                exact Option.bind_eq_some_iff.mpr ⟨r1, ih _ _ _ _ _ _ _ h1, h2⟩
              · rw [if_neg c5] at h ⊢; exact h
    | true =>
      rw [pz_l] at h ⊢
      by_cases c1 : ok = true ∧ isJ lv (nb T E a) = true
      · rw [if_pos c1] at h ⊢
        obtain ⟨r1, h1, h2⟩ := Option.bind_eq_some_iff.mp h
        refine Option.bind_eq_some_iff.mpr ⟨r1, ih _ _ _ _ _ _ _ h1, ?_⟩
        by_cases c2 : lv = 2
        · rw [if_pos c2] at h2 ⊢; exact h2
        · rw [if_neg c2] at h2 ⊢; exact ih _ _ _ _ _ _ _ h2
      · rw [if_neg c1] at h ⊢; exact h
theorem pz_mono {f g : Nat} {md : Bool} {lv op a : Nat} {ok : Bool} {cd : zC} {r : Nat × Bool × zC} (h : pz T E f md lv op a ok cd = some r) (hg : f ≤ g) : pz T E g md lv op a ok cd = some r := by
  obtain ⟨k, rfl⟩ := Nat.le.dest hg
  clear hg
  induction k with
  | zero => exact h
  | succ k ih => exact pz_mono1 _ _ _ _ _ _ _ _ ih
theorem nb_lt {a : Nat} (h : ¬ nb T E a = -1) : a < E := by
  by_cases c : a < E
  · exact c
  · exact absurd (if_neg c) h
theorem isJ_ne {lv : Nat} {c : Int32} (h : isJ lv c = true) : ¬ c = -1 ∧ ¬ c = 0 ∧ ¬ c = 1 ∧ ¬ c = 4 ∧ ¬ c = 5 ∧ ¬ c = 2 ∧ ¬ c = 3 := by
  match lv, h with
  | 0, h => have h := of_decide_eq_true h; subst h; decide
  | 1, h => have h := of_decide_eq_true h; subst h; decide
  | 2, h => have h := of_decide_eq_true h; rcases h with h | h | h <;> (subst h; decide)
  | 3, h => have h := of_decide_eq_true h; rcases h with h | h <;> (subst h; decide)
  | 4, h => have h := of_decide_eq_true h; rcases h with h | h | h <;> (subst h; decide)
  | n + 5, h => exact absurd (show false = true from h) (by decide)
theorem numF_b : ∀ (k a : Nat) (w : Int32), a ≤ E → a ≤ (numF T E k a w).1 ∧ (numF T E k a w).1 ≤ E := by
  intro k
  induction k with
  | zero => intro a w h; exact ⟨Nat.le_refl _, h⟩
  | succ k ih =>
    intro a w h
    show a ≤ (if 48 ≤ nb T E a ∧ nb T E a ≤ 57 then numF T E k (a + 1) (10 * w + nb T E a - 48) else (a, w)).1 ∧ (if 48 ≤ nb T E a ∧ nb T E a ≤ 57 then numF T E k (a + 1) (10 * w + nb T E a - 48) else (a, w)).1 ≤ E
    by_cases c : 48 ≤ nb T E a ∧ nb T E a ≤ 57
    · rw [if_pos c]
      have hl : a < E := nb_lt (fun q => by rw [q] at c; exact absurd c.1 (by decide))
      have := ih (a + 1) (10 * w + nb T E a - 48) hl
      exact ⟨by omega, this.2⟩
    · rw [if_neg c]; exact ⟨Nat.le_refl _, h⟩
theorem numF_1 {k a : Nat} {w : Int32} (c : 48 ≤ nb T E a ∧ nb T E a ≤ 57) : a + 1 ≤ (numF T E (k + 1) a w).1 ∧ (numF T E (k + 1) a w).1 ≤ E := by
  have hl : a < E := nb_lt (fun q => by rw [q] at c; exact absurd c.1 (by decide))
  have e : numF T E (k + 1) a w = numF T E k (a + 1) (10 * w + nb T E a - 48) := if_pos c
  rw [e]
  exact numF_b k (a + 1) _ hl
theorem nameK_m : ¬ 0 ≤ nameK (-1) := by decide
/-- how far reading comes, how many signs it gives -/
theorem pz_b : ∀ (f : Nat) (md : Bool) (lv op a : Nat) (ok : Bool) (cd : zC) (r : Nat × Bool × zC), pz T E f md lv op a ok cd = some r → a ≤ E → a ≤ r.1 ∧ r.1 ≤ E ∧ r.2.2.length + a ≤ r.1 + (if md = true then cd.length else 0) := by
  intro f
  induction f with
  | zero => intro md lv op a ok cd r h; exact absurd (show (none : Option (Nat × Bool × zC)) = some r from h) (by simp)
  | succ f ih =>
    intro md lv op a ok cd r h ha
    cases md with
    | false =>
      rw [pz_s] at h
      rw [if_neg (show ¬ false = true by decide)]
      by_cases c1 : lv < 5
      · rw [if_pos c1] at h
        obtain ⟨r1, h1, h2⟩ := Option.bind_eq_some_iff.mp h
        have b1 := ih _ _ _ _ _ _ _ h1 ha
        rw [if_neg (show ¬ false = true by decide)] at b1
        have b2 := ih _ _ _ _ _ _ _ h2 b1.2.1
        rw [if_pos rfl] at b2
        omega
      · rw [if_neg c1] at h
        by_cases c2 : 48 ≤ nb T E a ∧ nb T E a ≤ 57
        · rw [if_pos c2] at h
          obtain rfl := Option.some.inj h
          have b : a + 1 ≤ (numF T E 4 a 0).1 ∧ (numF T E 4 a 0).1 ≤ E := numF_1 (k := 3) (w := 0) c2
          exact ⟨by show a ≤ (numF T E 4 a 0).1; omega, b.2, by show 1 + a ≤ (numF T E 4 a 0).1 + 0; omega⟩
        · rw [if_neg c2] at h
          by_cases c3 : 0 ≤ nameK (nb T E a)
          · rw [if_pos c3] at h
            obtain rfl := Option.some.inj h
            have hl : a < E := nb_lt (fun q => by rw [q] at c3; exact nameK_m c3)
            exact ⟨by show a ≤ a + 1; omega, hl, by show 1 + a ≤ a + 1 + 0; omega⟩
          · rw [if_neg c3] at h
            by_cases c4 : op < 6 ∧ nb T E a = 40
            · rw [if_pos c4] at h
              have hl : a < E := nb_lt (fun q => by rw [q] at c4; exact absurd c4.2 (by decide))
              obtain ⟨r1, h1, h2⟩ := Option.bind_eq_some_iff.mp h
              have b1 := ih _ _ _ _ _ _ _ h1 hl
              rw [if_neg (show ¬ false = true by decide)] at b1
              by_cases c6 : r1.2.1 = true ∧ nb T E r1.1 = 41
              · rw [if_pos c6] at h2
                obtain rfl := Option.some.inj h2
                have hl2 : r1.1 < E := nb_lt (fun q => by rw [q] at c6; exact absurd c6.2 (by decide))
                exact ⟨by show a ≤ r1.1 + 1; omega, hl2, by show r1.2.2.length + a ≤ r1.1 + 1 + 0; omega⟩
              · rw [if_neg c6] at h2
                obtain rfl := Option.some.inj h2
                exact ⟨by show a ≤ r1.1; omega, b1.2.1, by show r1.2.2.length + a ≤ r1.1 + 0; omega⟩
            · rw [if_neg c4] at h
              by_cases c5 : op < 6 ∧ (nb T E a = 33 ∨ nb T E a = 45)
              · rw [if_pos c5] at h
                have hl : a < E := nb_lt (fun q => by rw [q] at c5; rcases c5.2 with z | z <;> exact absurd z (by decide))
                obtain ⟨r1, h1, h2⟩ := Option.bind_eq_some_iff.mp h
                have b1 := ih _ _ _ _ _ _ _ h1 hl
                rw [if_neg (show ¬ false = true by decide)] at b1
                obtain rfl := Option.some.inj h2
                refine ⟨by show a ≤ r1.1; omega, b1.2.1, ?_⟩
                show (r1.2.2 ++ [_]).length + a ≤ r1.1 + 0
                rw [List.length_append, List.length_singleton]; omega
              · rw [if_neg c5] at h
                obtain rfl := Option.some.inj h
                exact ⟨Nat.le_refl _, ha, by show 0 + a ≤ a + 0; omega⟩
    | true =>
      rw [pz_l] at h
      rw [if_pos rfl]
      by_cases c1 : ok = true ∧ isJ lv (nb T E a) = true
      · rw [if_pos c1] at h
        have hl : a < E := nb_lt (isJ_ne c1.2).1
        obtain ⟨r1, h1, h2⟩ := Option.bind_eq_some_iff.mp h
        have b1 := ih _ _ _ _ _ _ _ h1 hl
        rw [if_neg (show ¬ false = true by decide)] at b1
        by_cases c2 : lv = 2
        · rw [if_pos c2] at h2
          obtain rfl := Option.some.inj h2
          refine ⟨by show a ≤ r1.1; omega, b1.2.1, ?_⟩
          show (cd ++ r1.2.2 ++ [_]).length + a ≤ r1.1 + cd.length
          rw [List.length_append, List.length_append, List.length_singleton]; omega
        · rw [if_neg c2] at h2
          have b2 := ih _ _ _ _ _ _ _ h2 b1.2.1
          rw [if_pos rfl, List.length_append, List.length_append, List.length_singleton] at b2
          omega
      · rw [if_neg c1] at h
        obtain rfl := Option.some.inj h
        exact ⟨Nat.le_refl _, ha, by show cd.length + a ≤ a + cd.length; omega⟩
end PZ
/-! what signs work out -/
def jn (g a b : Int32) : Int32 :=
  if g = 124 then (if a ≠ 0 ∨ b ≠ 0 then 1 else 0) else if g = 38 then (if a ≠ 0 ∧ b ≠ 0 then 1 else 0) else if g = 60 then (if a < b then 1 else 0) else if g = 61 then (if a = b then 1 else 0) else if g = 62 then (if b < a then 1 else 0)
  else if g = 43 then a + b else if g = 45 then a - b else if g = 42 then a * b else if g = 47 then (if b = 0 then 0 else a / b) else if g = 37 then (if b = 0 then 0 else a - a / b * b) else 0
def ex1 (nm : Nat → Int32) (s : List Int32) (e : Int32 × Int32) : List Int32 :=
  if e.1 = 0 then e.2 :: s
  else if e.1 = 1 then nm e.2.toNatClampNeg :: s
  else if e.1 = 4 then (if s.headD 0 = 0 then 1 else 0) :: s.tail
  else if e.1 = 5 then (-(s.headD 0)) :: s.tail
  else jn e.1 (s.tail.headD 0) (s.headD 0) :: s.tail.tail
def exL (nm : Nat → Int32) (cd : zC) (s : List Int32) : List Int32 := cd.foldl (ex1 nm) s
theorem exL_app (nm : Nat → Int32) (c d : zC) (s : List Int32) : exL nm (c ++ d) s = exL nm d (exL nm c s) := List.foldl_append
theorem exL_1 (nm : Nat → Int32) (e : Int32 × Int32) (s : List Int32) : exL nm [e] s = ex1 nm s e := rfl
/-- the signs give one number on the stack -/
def gv1 (nm : Nat → Int32) (cd : zC) : Prop := ∃ v, ∀ s, exL nm cd s = v :: s
def valF (nm : Nat → Int32) (cd : zC) : Int32 := (exL nm cd []).headD 0
theorem gv_val {nm : Nat → Int32} {cd : zC} (h : gv1 nm cd) (s : List Int32) : exL nm cd s = valF nm cd :: s := by
  obtain ⟨v, hv⟩ := h
  rw [hv s, valF, hv []]; rfl
theorem gv_join {nm : Nat → Int32} {c d : zC} {g : Int32} (hc : gv1 nm c) (hd : gv1 nm d) (h : ¬ g = 0 ∧ ¬ g = 1 ∧ ¬ g = 4 ∧ ¬ g = 5) : gv1 nm (c ++ d ++ [(g, 0)]) ∧ valF nm (c ++ d ++ [(g, 0)]) = jn g (valF nm c) (valF nm d) := by
  have k : ∀ s, exL nm (c ++ d ++ [(g, 0)]) s = jn g (valF nm c) (valF nm d) :: s := fun s => by
    rw [exL_app, exL_app, gv_val hc, gv_val hd, exL_1, ex1, if_neg h.1, if_neg h.2.1, if_neg h.2.2.1, if_neg h.2.2.2]; rfl
  exact ⟨⟨_, k⟩, by rw [valF, k]; rfl⟩
theorem pz_gv {T : Nat → Int32} {E : Nat} (nm : Nat → Int32) : ∀ (f : Nat) (md : Bool) (lv op a : Nat) (ok : Bool) (cd : zC) (r : Nat × Bool × zC), pz T E f md lv op a ok cd = some r → (md = true → ok = true → gv1 nm cd) → r.2.1 = true → gv1 nm r.2.2 := by
  intro f
  induction f with
  | zero => intro md lv op a ok cd r h; exact absurd (show (none : Option (Nat × Bool × zC)) = some r from h) (by simp)
  | succ f ih =>
    intro md lv op a ok cd r h hg hr
    cases md with
    | false =>
      rw [pz_s] at h
      by_cases c1 : lv < 5
      · rw [if_pos c1] at h
        obtain ⟨r1, h1, h2⟩ := Option.bind_eq_some_iff.mp h
        exact ih _ _ _ _ _ _ _ h2 (fun _ q => ih _ _ _ _ _ _ _ h1 (fun z => absurd z (by decide)) q) hr
      · rw [if_neg c1] at h
        by_cases c2 : 48 ≤ nb T E a ∧ nb T E a ≤ 57
        · rw [if_pos c2] at h
          obtain rfl := Option.some.inj h
          exact ⟨(numF T E 4 a 0).2, fun s => rfl⟩
        · rw [if_neg c2] at h
          by_cases c3 : 0 ≤ nameK (nb T E a)
          · rw [if_pos c3] at h
            obtain rfl := Option.some.inj h
            exact ⟨nm (nameK (nb T E a)).toNatClampNeg, fun s => rfl⟩
          · rw [if_neg c3] at h
            by_cases c4 : op < 6 ∧ nb T E a = 40
            · rw [if_pos c4] at h
              obtain ⟨r1, h1, h2⟩ := Option.bind_eq_some_iff.mp h
              by_cases c6 : r1.2.1 = true ∧ nb T E r1.1 = 41
              · rw [if_pos c6] at h2
                obtain rfl := Option.some.inj h2
                show gv1 nm r1.2.2
                exact ih _ _ _ _ _ _ _ h1 (fun z => absurd z (by decide)) c6.1
              · rw [if_neg c6] at h2
                obtain rfl := Option.some.inj h2
                exact absurd (show false = true from hr) (by decide)
            · rw [if_neg c4] at h
              by_cases c5 : op < 6 ∧ (nb T E a = 33 ∨ nb T E a = 45)
              · rw [if_pos c5] at h
                obtain ⟨r1, h1, h2⟩ := Option.bind_eq_some_iff.mp h
                obtain rfl := Option.some.inj h2
                have g := ih _ _ _ _ _ _ _ h1 (fun z => absurd z (by decide)) hr
                by_cases c7 : nb T E a = 33
                · exact ⟨(if valF nm r1.2.2 = 0 then 1 else 0), fun s => by show exL nm (r1.2.2 ++ [(if nb T E a = 33 then 4 else 5, 0)]) s = _; rw [if_pos c7, exL_app, gv_val g]; rfl⟩
                · exact ⟨-(valF nm r1.2.2), fun s => by show exL nm (r1.2.2 ++ [(if nb T E a = 33 then 4 else 5, 0)]) s = _; rw [if_neg c7, exL_app, gv_val g]; rfl⟩
              · rw [if_neg c5] at h
                obtain rfl := Option.some.inj h
                exact absurd (show false = true from hr) (by decide)
    | true =>
      rw [pz_l] at h
      by_cases c1 : ok = true ∧ isJ lv (nb T E a) = true
      · rw [if_pos c1] at h
        obtain ⟨r1, h1, h2⟩ := Option.bind_eq_some_iff.mp h
        have hj := isJ_ne c1.2
        have g2 : r1.2.1 = true → gv1 nm (cd ++ r1.2.2 ++ [(nb T E a, 0)]) := fun q => (gv_join (hg rfl c1.1) (ih _ _ _ _ _ _ _ h1 (fun z => absurd z (by decide)) q) ⟨hj.2.1, hj.2.2.1, hj.2.2.2.1, hj.2.2.2.2.1⟩).1
        by_cases c2 : lv = 2
        · rw [if_pos c2] at h2
          obtain rfl := Option.some.inj h2
          exact g2 hr
        · rw [if_neg c2] at h2
          exact ih _ _ _ _ _ _ _ h2 (fun _ q => g2 q) hr
      · rw [if_neg c1] at h
        obtain rfl := Option.some.inj h
        exact hg rfl hr
