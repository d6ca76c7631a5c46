abbrev WK4 (p k : Nat) : Prop := (p = 4) ∨ (p = 1 ∧ k = 5)
/-- the stack -/
def Stk (M : xM) (s : List Int32) : Prop := s.length ≤ 128 ∧ M 1 5 = nI s.length ∧ ∀ k, k < s.length → M 4 (s.length - 1 - k) = s.getD k 0
theorem Stk_0 {M : xM} (h : M 1 5 = nI 0) : Stk M [] := ⟨by decide, h, fun k hk => absurd hk (Nat.not_lt_zero k)⟩
theorem Stk_push {M : xM} {s : List Int32} {v : Int32} (h : Stk M s) (hl : s.length < 128) : Stk (x_up (x_up M 4 s.length v) 1 5 (nI (s.length + 1))) (v :: s) := by
  refine ⟨by show s.length + 1 ≤ 128; omega, up_s, fun k hk => ?_⟩
  rw [up_n (by decide)]
  have hk2 : k < s.length + 1 := hk
  show x_up M 4 s.length v 4 (s.length + 1 - 1 - k) = _
  match k with
  | 0 => rw [show s.length + 1 - 1 - 0 = s.length by omega]; exact up_s
  | k + 1 => rw [show s.length + 1 - 1 - (k + 1) = s.length - 1 - k by omega, up_k (by omega)]; exact h.2.2 k (by omega)
theorem Stk_pop {M : xM} {a : Int32} {s : List Int32} (h : Stk M (a :: s)) : M 4 s.length = a ∧ Stk (x_up M 1 5 (nI s.length)) s := by
  have hl : s.length + 1 ≤ 128 := h.1
  refine ⟨by have := h.2.2 0 (by show 0 < s.length + 1; omega); rwa [show (a :: s).length - 1 - 0 = s.length by show s.length + 1 - 1 - 0 = _; omega] at this, by omega, up_s, fun k hk => ?_⟩
  rw [up_n (by decide)]
  have := h.2.2 (k + 1) (by show k + 1 < s.length + 1; omega)
  rwa [show (a :: s).length - 1 - (k + 1) = s.length - 1 - k by show s.length + 1 - 1 - (k + 1) = _; omega] at this
def isJn (g : Int32) : Prop := g = 124 ∨ g = 38 ∨ g = 60 ∨ g = 61 ∨ g = 62 ∨ g = 43 ∨ g = 45 ∨ g = 42 ∨ g = 47 ∨ g = 37
/-- signs as they may lie -/
def CV (cd : zC) : Prop := ∀ e, e ∈ cd → e.1 = 0 ∨ e.1 = 1 ∧ 0 ≤ e.2 ∧ e.2 ≤ 5 ∨ e.1 = 4 ∨ e.1 = 5 ∨ isJn e.1
theorem CV_app {c d : zC} (h : CV c) (h2 : CV d) : CV (c ++ d) := fun e he => (List.mem_append.mp he).elim (h e) (h2 e)
theorem CV_1 {e : Int32 × Int32} (h : e.1 = 0 ∨ e.1 = 1 ∧ 0 ≤ e.2 ∧ e.2 ≤ 5 ∨ e.1 = 4 ∨ e.1 = 5 ∨ isJn e.1) : CV [e] := fun e2 he => by rw [List.mem_singleton.mp he]; exact h
theorem CV_0 : CV [] := fun e he => absurd he (List.not_mem_nil)
theorem isJ_jn {lv : Nat} {c : Int32} (h : isJ lv c = true) : isJn c := by
  unfold isJn
  match lv, h with
  | 0, h => have h := of_decide_eq_true h; exact Or.inl h
  | 1, h => have h := of_decide_eq_true h; exact Or.inr (Or.inl h)
  | 2, h => have h := of_decide_eq_true h; rcases h with h | h | h <;> (subst h; decide)
  | 3, h => have h := of_decide_eq_true h; rcases h with h | h <;> (subst h; decide)
  | 4, h => have h := of_decide_eq_true h; rcases h with h | h | h <;> (subst h; decide)
  | n + 5, h => exact absurd (show false = true from h) (by decide)
theorem pz_cv {T : Nat → Int32} {E : Nat} : ∀ (f : Nat) (md : Bool) (lv op a : Nat) (ok : Bool) (cd : zC) (r : Nat × Bool × zC), pz T E f md lv op a ok cd = some r → (md = true → CV cd) → CV r.2.2 := by
  intro f
  induction f with
  | zero => intro md lv op a ok cd r h; exact absurd (show (none : Option (Nat × Bool × zC)) = some r from h) (by simp)
  | succ f ih =>
    intro md lv op a ok cd r h hg
    cases md with
    | false =>
      rw [pz_s] at h
      by_cases c1 : lv < 5
      · rw [if_pos c1] at h
        obtain ⟨r1, h1, h2⟩ := Option.bind_eq_some_iff.mp h
        exact ih _ _ _ _ _ _ _ h2 (fun _ => ih _ _ _ _ _ _ _ h1 (fun z => absurd z (by decide)))
      · rw [if_neg c1] at h
        by_cases c2 : 48 ≤ nb T E a ∧ nb T E a ≤ 57
        · rw [if_pos c2] at h
          obtain rfl := Option.some.inj h
          exact CV_1 (Or.inl rfl)
        · rw [if_neg c2] at h
          by_cases c3 : 0 ≤ nameK (nb T E a)
          · rw [if_pos c3] at h
            obtain rfl := Option.some.inj h
            exact CV_1 (Or.inr (Or.inl ⟨rfl, c3, nameK5⟩))
          · rw [if_neg c3] at h
            by_cases c4 : op < 6 ∧ nb T E a = 40
            · rw [if_pos c4] at h
              obtain ⟨r1, h1, h2⟩ := Option.bind_eq_some_iff.mp h
              have g := ih _ _ _ _ _ _ _ h1 (fun z => absurd z (by decide))
              by_cases c6 : r1.2.1 = true ∧ nb T E r1.1 = 41
              · rw [if_pos c6] at h2
                obtain rfl := Option.some.inj h2
                exact g
              · rw [if_neg c6] at h2
                obtain rfl := Option.some.inj h2
                exact g
            · rw [if_neg c4] at h
              by_cases c5 : op < 6 ∧ (nb T E a = 33 ∨ nb T E a = 45)
              · rw [if_pos c5] at h
                obtain ⟨r1, h1, h2⟩ := Option.bind_eq_some_iff.mp h
                obtain rfl := Option.some.inj h2
                have g := ih _ _ _ _ _ _ _ h1 (fun z => absurd z (by decide))
                refine CV_app g (CV_1 ?_)
                by_cases c7 : nb T E a = 33
                · exact Or.inr (Or.inr (Or.inl (if_pos c7)))
                · exact Or.inr (Or.inr (Or.inr (Or.inl (if_neg c7))))
              · rw [if_neg c5] at h
                obtain rfl := Option.some.inj h
                exact CV_0
    | true =>
      rw [pz_l] at h
      by_cases c1 : ok = true ∧ isJ lv (nb T E a) = true
      · rw [if_pos c1] at h
        obtain ⟨r1, h1, h2⟩ := Option.bind_eq_some_iff.mp h
        have g2 : CV (cd ++ r1.2.2 ++ [(nb T E a, 0)]) := CV_app (CV_app (hg rfl) (ih _ _ _ _ _ _ _ h1 (fun z => absurd z (by decide)))) (CV_1 (Or.inr (Or.inr (Or.inr (Or.inr (isJ_jn c1.2))))))
        by_cases c2 : lv = 2
        · rw [if_pos c2] at h2
          obtain rfl := Option.some.inj h2
          exact g2
        · rw [if_neg c2] at h2
          exact ih _ _ _ _ _ _ _ h2 (fun _ => g2)
      · rw [if_neg c1] at h
        obtain rfl := Option.some.inj h
        exact hg rfl
/-- signs in the law's own rows -/
def CL (M : xM) (n : Nat) (cd : zC) : Prop := ∀ j, j < cd.length → M 2 (n + j) = (cd.getD j (0, 0)).1 ∧ M 3 (n + j) = (cd.getD j (0, 0)).2
theorem CL_h {M : xM} {n : Nat} {e : Int32 × Int32} {cd : zC} (h : CL M n (e :: cd)) : M 2 n = e.1 ∧ M 3 n = e.2 := h 0 (by show 0 < cd.length + 1; omega)
theorem CL_t {M : xM} {n : Nat} {e : Int32 × Int32} {cd : zC} (h : CL M n (e :: cd)) : CL M (n + 1) cd := fun j hj => by
  have := h (j + 1) (by show j + 1 < cd.length + 1; omega)
  rwa [show n + (j + 1) = n + 1 + j by omega] at this
theorem CL_a {M : xM} {n : Nat} {c d : zC} (h : CL M n (c ++ d)) : CL M n c ∧ CL M (n + c.length) d := by
  refine ⟨fun j hj => ?_, fun j hj => ?_⟩
  · have := h j (by rw [List.length_append]; omega)
    rwa [List.getD_eq_getElem?_getD, List.getElem?_append_left hj, ← List.getD_eq_getElem?_getD] at this
  · have := h (c.length + j) (by rw [List.length_append]; omega)
    rwa [List.getD_eq_getElem?_getD, List.getElem?_append_right (by omega), ← List.getD_eq_getElem?_getD, show c.length + j - c.length = j by omega, ← Nat.add_assoc] at this
set_option maxRecDepth 100000 in
set_option maxHeartbeats 4000000 in
theorem c_X3_joined (si a b : Int32) {l : Launch} {G : xG} {sh : List xS} {M : xM} {J : xJ} : x_M l G fX3_joined 0 0 0 [.int (si), .int (a), .int (b)] sh M J (qE (some (.int (jn si a b))) sh M J) := by
  refine xb_of pX3 (Nat.le_of_ble_eq_true rfl) rfl ?_
  refine xr_iload_n dX3_joined_0 0 rfl ?_
  refine xg_eq 37 (fun w1 => ?_) (fun w1 => ?_)
  · refine xr_lookup (tgt := 177) (off := 176) dX3_joined_1 (by decide) (by decide) rfl ?_
    refine xr_iload_n dX3_joined_177 2 rfl ?_
    refine xr_if_ne (tgt := 185) dX3_joined_178 rfl (fun c2 => ?_) (fun c2 => ?_)
    · refine xr_iload_n dX3_joined_185 1 rfl ?_
      refine xr_iload_n dX3_joined_186 2 rfl ?_
      refine xr_irem dX3_joined_187 c2 ?_
      exact xr_iret dX3_joined_188 rfl rfl (⟨congrArg (fun z => some (Value.int z)) (by unfold jn; grind), rfl, rfl, rfl⟩)
    · refine xr_iconst (v := 0) dX3_joined_181 rfl ?_
      refine xr_goto (tgt := 188) dX3_joined_182 rfl ?_
      exact xr_iret dX3_joined_188 rfl rfl (⟨congrArg (fun z => some (Value.int z)) (by unfold jn; grind), rfl, rfl, rfl⟩)
  refine xg_eq 38 (fun w3 => ?_) (fun w3 => ?_)
  · refine xr_lookup (tgt := 106) (off := 105) dX3_joined_1 (by decide) (by decide) rfl ?_
    refine xr_iload_n dX3_joined_106 1 rfl ?_
    refine xr_if_eq (tgt := 118) dX3_joined_107 rfl (fun c4 => ?_) (fun c4 => ?_)
    · refine xr_iconst (v := 0) dX3_joined_118 rfl ?_
      exact xr_iret dX3_joined_119 rfl rfl (⟨congrArg (fun z => some (Value.int z)) (by unfold jn; grind), rfl, rfl, rfl⟩)
    · refine xr_iload_n dX3_joined_110 2 rfl ?_
      refine xr_if_eq (tgt := 118) dX3_joined_111 rfl (fun c5 => ?_) (fun c5 => ?_)
      · refine xr_iconst (v := 0) dX3_joined_118 rfl ?_
        exact xr_iret dX3_joined_119 rfl rfl (⟨congrArg (fun z => some (Value.int z)) (by unfold jn; grind), rfl, rfl, rfl⟩)
      · refine xr_iconst (v := 1) dX3_joined_114 rfl ?_
        refine xr_goto (tgt := 119) dX3_joined_115 rfl ?_
        exact xr_iret dX3_joined_119 rfl rfl (⟨congrArg (fun z => some (Value.int z)) (by unfold jn; grind), rfl, rfl, rfl⟩)
  refine xg_eq 42 (fun w6 => ?_) (fun w6 => ?_)
  · refine xr_lookup (tgt := 161) (off := 160) dX3_joined_1 (by decide) (by decide) rfl ?_
    refine xr_iload_n dX3_joined_161 1 rfl ?_
    refine xr_iload_n dX3_joined_162 2 rfl ?_
    refine xr_imul dX3_joined_163 ?_
    exact xr_iret dX3_joined_164 rfl rfl (⟨congrArg (fun z => some (Value.int z)) (by unfold jn; grind), rfl, rfl, rfl⟩)
  refine xg_eq 43 (fun w7 => ?_) (fun w7 => ?_)
  · refine xr_lookup (tgt := 153) (off := 152) dX3_joined_1 (by decide) (by decide) rfl ?_
    refine xr_iload_n dX3_joined_153 1 rfl ?_
    refine xr_iload_n dX3_joined_154 2 rfl ?_
    refine xr_iadd dX3_joined_155 ?_
    exact xr_iret dX3_joined_156 rfl rfl (⟨congrArg (fun z => some (Value.int z)) (by unfold jn; grind), rfl, rfl, rfl⟩)
  refine xg_eq 45 (fun w8 => ?_) (fun w8 => ?_)
  · refine xr_lookup (tgt := 157) (off := 156) dX3_joined_1 (by decide) (by decide) rfl ?_
    refine xr_iload_n dX3_joined_157 1 rfl ?_
    refine xr_iload_n dX3_joined_158 2 rfl ?_
    refine xr_isub dX3_joined_159 ?_
    exact xr_iret dX3_joined_160 rfl rfl (⟨congrArg (fun z => some (Value.int z)) (by unfold jn; grind), rfl, rfl, rfl⟩)
  refine xg_eq 47 (fun w9 => ?_) (fun w9 => ?_)
  · refine xr_lookup (tgt := 165) (off := 164) dX3_joined_1 (by decide) (by decide) rfl ?_
    refine xr_iload_n dX3_joined_165 2 rfl ?_
    refine xr_if_ne (tgt := 173) dX3_joined_166 rfl (fun c10 => ?_) (fun c10 => ?_)
    · refine xr_iload_n dX3_joined_173 1 rfl ?_
      refine xr_iload_n dX3_joined_174 2 rfl ?_
      refine xr_idiv dX3_joined_175 c10 ?_
      exact xr_iret dX3_joined_176 rfl rfl (⟨congrArg (fun z => some (Value.int z)) (by unfold jn; grind), rfl, rfl, rfl⟩)
    · refine xr_iconst (v := 0) dX3_joined_169 rfl ?_
      refine xr_goto (tgt := 176) dX3_joined_170 rfl ?_
      exact xr_iret dX3_joined_176 rfl rfl (⟨congrArg (fun z => some (Value.int z)) (by unfold jn; grind), rfl, rfl, rfl⟩)
  refine xg_eq 60 (fun w11 => ?_) (fun w11 => ?_)
  · refine xr_lookup (tgt := 120) (off := 119) dX3_joined_1 (by decide) (by decide) rfl ?_
    refine xr_iload_n dX3_joined_120 1 rfl ?_
    refine xr_iload_n dX3_joined_121 2 rfl ?_
    refine xr_icmp_ge (tgt := 129) dX3_joined_122 rfl (fun c12 => ?_) (fun c12 => ?_)
    · refine xr_iconst (v := 0) dX3_joined_129 rfl ?_
      exact xr_iret dX3_joined_130 rfl rfl (⟨congrArg (fun z => some (Value.int z)) (by unfold jn; grind), rfl, rfl, rfl⟩)
    · refine xr_iconst (v := 1) dX3_joined_125 rfl ?_
      refine xr_goto (tgt := 130) dX3_joined_126 rfl ?_
      exact xr_iret dX3_joined_130 rfl rfl (⟨congrArg (fun z => some (Value.int z)) (by unfold jn; grind), rfl, rfl, rfl⟩)
  refine xg_eq 61 (fun w13 => ?_) (fun w13 => ?_)
  · refine xr_lookup (tgt := 131) (off := 130) dX3_joined_1 (by decide) (by decide) rfl ?_
    refine xr_iload_n dX3_joined_131 1 rfl ?_
    refine xr_iload_n dX3_joined_132 2 rfl ?_
    refine xr_icmp_ne (tgt := 140) dX3_joined_133 rfl (fun c14 => ?_) (fun c14 => ?_)
    · refine xr_iconst (v := 0) dX3_joined_140 rfl ?_
      exact xr_iret dX3_joined_141 rfl rfl (⟨congrArg (fun z => some (Value.int z)) (by unfold jn; grind), rfl, rfl, rfl⟩)
    · refine xr_iconst (v := 1) dX3_joined_136 rfl ?_
      refine xr_goto (tgt := 141) dX3_joined_137 rfl ?_
      exact xr_iret dX3_joined_141 rfl rfl (⟨congrArg (fun z => some (Value.int z)) (by unfold jn; grind), rfl, rfl, rfl⟩)
  refine xg_eq 62 (fun w15 => ?_) (fun w15 => ?_)
  · refine xr_lookup (tgt := 142) (off := 141) dX3_joined_1 (by decide) (by decide) rfl ?_
    refine xr_iload_n dX3_joined_142 1 rfl ?_
    refine xr_iload_n dX3_joined_143 2 rfl ?_
    refine xr_icmp_le (tgt := 151) dX3_joined_144 rfl (fun c16 => ?_) (fun c16 => ?_)
    · refine xr_iconst (v := 0) dX3_joined_151 rfl ?_
      exact xr_iret dX3_joined_152 rfl rfl (⟨congrArg (fun z => some (Value.int z)) (by unfold jn; grind), rfl, rfl, rfl⟩)
    · refine xr_iconst (v := 1) dX3_joined_147 rfl ?_
      refine xr_goto (tgt := 152) dX3_joined_148 rfl ?_
      exact xr_iret dX3_joined_152 rfl rfl (⟨congrArg (fun z => some (Value.int z)) (by unfold jn; grind), rfl, rfl, rfl⟩)
  refine xg_eq 124 (fun w17 => ?_) (fun w17 => ?_)
  · refine xr_lookup (tgt := 92) (off := 91) dX3_joined_1 (by decide) (by decide) rfl ?_
    refine xr_iload_n dX3_joined_92 1 rfl ?_
    refine xr_if_ne (tgt := 100) dX3_joined_93 rfl (fun c18 => ?_) (fun c18 => ?_)
    · refine xr_iconst (v := 1) dX3_joined_100 rfl ?_
      refine xr_goto (tgt := 105) dX3_joined_101 rfl ?_
      exact xr_iret dX3_joined_105 rfl rfl (⟨congrArg (fun z => some (Value.int z)) (by unfold jn; grind), rfl, rfl, rfl⟩)
    · refine xr_iload_n dX3_joined_96 2 rfl ?_
      refine xr_if_eq (tgt := 104) dX3_joined_97 rfl (fun c19 => ?_) (fun c19 => ?_)
      · refine xr_iconst (v := 0) dX3_joined_104 rfl ?_
        exact xr_iret dX3_joined_105 rfl rfl (⟨congrArg (fun z => some (Value.int z)) (by unfold jn; grind), rfl, rfl, rfl⟩)
      · refine xr_iconst (v := 1) dX3_joined_100 rfl ?_
        refine xr_goto (tgt := 105) dX3_joined_101 rfl ?_
        exact xr_iret dX3_joined_105 rfl rfl (⟨congrArg (fun z => some (Value.int z)) (by unfold jn; grind), rfl, rfl, rfl⟩)
  refine xr_lookup (tgt := 189) dX3_joined_1 (by decide) (show Op.lookupswitch.offset [(37, 176), (38, 105), (42, 160), (43, 152), (45, 156), (47, 164), (60, 119), (61, 130), (62, 141), (124, 91)] (188) _ = (188) from (xg_off w1 rfl (xg_off w3 rfl (xg_off w6 rfl (xg_off w7 rfl (xg_off w8 rfl (xg_off w9 rfl (xg_off w11 rfl (xg_off w13 rfl (xg_off w15 rfl (xg_off w17 rfl rfl))))))))))) rfl ?_
  refine xr_iconst (v := 0) dX3_joined_189 rfl ?_
  exact xr_iret dX3_joined_190 rfl rfl (⟨congrArg (fun z => some (Value.int z)) (by unfold jn; grind), rfl, rfl, rfl⟩)
set_option maxRecDepth 100000 in
set_option maxHeartbeats 4000000 in
theorem gs_X3_pile (v : Int32) {l : Launch} {G : xG} {M : xM} {J : xJ} {s : List Int32} (hS : Stk M s) (hl : s.length < 128) : x_M l G fX3_pile 0 0 0 [.ref (1), .int (v)] x_SH M J (qKV WK4 M J (fun M2 => Stk M2 (v :: s))) := by
  refine xb_of pX3 (Nat.le_of_ble_eq_true rfl) rfl ?_
  refine xr_aload_n dX3_pile_0 0 rfl ?_
  refine xb_get (v := nI (s.length)) flX3_64 dX3_pile_1 s_1 rfl hS.2.1 ?_
  refine xr_if_lt (tgt := 37) dX3_pile_4 rfl (fun c => absurd c (nI_nlt (a := s.length) (b := 0) (by omega) (by omega))) (fun _ => ?_)
  refine xr_aload_n dX3_pile_7 0 rfl ?_
  refine xb_get (v := nI (s.length)) flX3_64 dX3_pile_8 s_1 rfl hS.2.1 ?_
  refine xr_sipush (v := 128) dX3_pile_11 rfl ?_
  refine xr_icmp_ge (tgt := 37) dX3_pile_14 rfl (fun c => absurd c (nI_ge (a := s.length) (b := 128) (by omega) (by omega))) (fun _ => ?_)
  refine xr_aload_n dX3_pile_17 0 rfl ?_
  refine xr_getR flX3_18 dX3_pile_18 s_1 rfl ?_
  refine xr_aload_n dX3_pile_21 0 rfl ?_
  refine xb_get (v := nI (s.length)) flX3_64 dX3_pile_22 s_1 rfl hS.2.1 ?_
  refine xr_iload_n dX3_pile_25 1 rfl ?_
  refine xb_iast (j := s.length) dX3_pile_26 s_4 hl (by decide) ?_
  refine xr_aload_n dX3_pile_27 0 rfl ?_
  refine xr_dup dX3_pile_28 rfl ?_
  refine xb_get (v := nI (s.length)) flX3_64 dX3_pile_29 s_1 rfl (Eq.trans (congrFun (x_up_n _ _ _ (by decide)) _) hS.2.1) ?_
  refine xr_iconst (v := 1) dX3_pile_32 rfl ?_
  refine xr_iadd dX3_pile_33 ?_
  refine xb_top (y := nI (s.length + 1)) (nI_add (s.length) (1)) ?_
  refine xr_putI fpX3_64 dX3_pile_34 s_1 rfl rfl rfl ?_
  exact xr_vret dX3_pile_37 rfl (⟨rfl, rfl, rfl, (Ke.up (Or.inr (by omega)) (Ke.up (Or.inl (by omega)) Ke.rf)), Stk_push hS hl⟩)
set_option maxRecDepth 100000 in
set_option maxHeartbeats 4000000 in
theorem gs_X3_unpile_c {l : Launch} {G : xG} {M : xM} {J : xJ} {a : Int32} {s : List Int32} (hS : Stk M (a :: s)) : x_M l G fX3_unpile 0 0 0 [.ref 1] x_SH M J (qKI WK4 M J (fun r M2 => r = a ∧ Stk M2 s)) := by
  have hl : s.length < 128 := hS.1
  refine xb_of pX3 (Nat.le_of_ble_eq_true rfl) rfl ?_
  refine xr_aload_n dX3_unpile_0 0 rfl ?_
  refine xb_get (v := nI (s.length + 1)) flX3_64 dX3_unpile_1 s_1 rfl hS.2.1 ?_
  refine xr_if_le (tgt := 17) dX3_unpile_4 rfl (fun c => absurd c (nI_ge (a := 0) (b := s.length + 1) (by omega) (by omega))) (fun _ => ?_)
  refine xr_aload_n dX3_unpile_7 0 rfl ?_
  refine xb_get (v := nI (s.length + 1)) flX3_64 dX3_unpile_8 s_1 rfl hS.2.1 ?_
  refine xr_sipush (v := 128) dX3_unpile_11 rfl ?_
  refine xr_icmp_le (tgt := 19) dX3_unpile_14 rfl (fun _ => ?_) (fun c => absurd (nI_le (a := s.length + 1) (b := 128) (by omega) (by omega)) c)
  refine xr_aload_n dX3_unpile_19 0 rfl ?_
  refine xr_dup dX3_unpile_20 rfl ?_
  refine xb_get (v := nI (s.length + 1)) flX3_64 dX3_unpile_21 s_1 rfl hS.2.1 ?_
  refine xr_iconst (v := 1) dX3_unpile_24 rfl ?_
  refine xr_isub dX3_unpile_25 ?_
  refine xb_top (y := nI s.length) (nI_pred s.length) ?_
  refine xr_putI fpX3_64 dX3_unpile_26 s_1 rfl rfl rfl ?_
  refine xr_aload_n dX3_unpile_29 0 rfl ?_
  refine xr_getR flX3_18 dX3_unpile_30 s_1 rfl ?_
  refine xr_aload_n dX3_unpile_33 0 rfl ?_
  refine xb_get (v := nI (s.length)) flX3_64 dX3_unpile_34 s_1 rfl (x_up_s _ _ _ _) ?_
  refine xb_iald (j := s.length) (v := (x_up M 1 5 (nI (s.length))) 4 s.length) dX3_unpile_37 s_4 hl (by decide) rfl ?_
  exact xr_iret dX3_unpile_38 rfl rfl (⟨_, rfl, rfl, rfl, (Ke.up (Or.inr (by omega)) Ke.rf), ⟨(congrFun (x_up_n _ _ _ (by decide)) _).trans (Stk_pop hS).1, (Stk_pop hS).2⟩⟩)
set_option maxRecDepth 100000 in
set_option maxHeartbeats 4000000 in
theorem gs_X3_unpile_n {l : Launch} {G : xG} {M : xM} {J : xJ} (hS : Stk M []) : x_M l G fX3_unpile 0 0 0 [.ref 1] x_SH M J (qKI WK4 M J (fun r M2 => r = 0 ∧ Stk M2 [])) := by
  refine xb_of pX3 (Nat.le_of_ble_eq_true rfl) rfl ?_
  refine xr_aload_n dX3_unpile_0 0 rfl ?_
  refine xb_get (v := 0) flX3_64 dX3_unpile_1 s_1 rfl hS.2.1 ?_
  refine xr_if_le (tgt := 17) dX3_unpile_4 rfl (fun _ => ?_) (fun c => absurd (by decide) c)
  refine xr_iconst (v := 0) dX3_unpile_17 rfl ?_
  exact xr_iret dX3_unpile_18 rfl rfl (⟨_, rfl, rfl, rfl, Ke.rf, ⟨rfl, hS⟩⟩)
theorem gs_X3_unpile {l : Launch} {G : xG} {M : xM} {J : xJ} {s : List Int32} (hS : Stk M s) : x_M l G fX3_unpile 0 0 0 [.ref 1] x_SH M J (qKI WK4 M J (fun r M2 => r = s.headD 0 ∧ Stk M2 s.tail)) := by
  cases s with
  | nil => exact gs_X3_unpile_n hS
  | cons a t => exact gs_X3_unpile_c hS
set_option maxRecDepth 100000 in
set_option maxHeartbeats 4000000 in
theorem wr_0 {l : Launch} {G : xG} {M : xM} {J : xJ} {Q : xQ} {L k : Nat} {s : List Int32} {M1 : xM} (hL : L ≤ 128) (hk : k < L) (hl : s.length < 128) (e_L : M 1 4 = nI L) (hM : Ke WK4 M M1) (hS : Stk M1 s) {v : Int32} (e_si : M 2 k = 0) (e_va : M 3 k = v) (hC : ∀ M2, Ke WK4 M M2 → Stk M2 (ex1 (M 5) s (0, v)) → x_X l G fX3_worth 2 0 0 Q 7 [(1, .int (nI (k + 1))), (0, .ref 1)] [] x_SH M2 J 0 0) : x_X l G fX3_worth 2 0 0 Q 7 [(1, .int (nI k)), (0, .ref 1)] [] x_SH M1 J 0 0 := by
  have htl : s.tail.length ≤ s.length := by rw [List.length_tail]; omega
  have htt : s.tail.tail.length ≤ s.length := by rw [List.length_tail, List.length_tail]; omega
  refine xr_iload_n dX3_worth_7 0 rfl ?_
  refine xr_aload_n dX3_worth_8 1 rfl ?_
  refine xb_get (v := nI (L)) flX3_24 dX3_worth_9 s_1 rfl (Eq.trans (hM 1 4 (by decide)) e_L) ?_
  refine xr_icmp_ge (tgt := 175) dX3_worth_12 rfl (fun c => absurd c (nI_ge (a := k) (b := L) (by omega) (by omega))) (fun _ => ?_)
  refine xr_aload_n dX3_worth_15 1 rfl ?_
  refine xr_getR flX3_15 dX3_worth_16 s_1 rfl ?_
  refine xr_iload_n dX3_worth_19 0 rfl ?_
  refine xb_iald (j := k) (v := v) dX3_worth_20 s_3 (by omega) (by decide) (Eq.trans (hM 3 k (by unfold WK4; omega)) e_va) ?_
  refine xr_istore_n (ls2 := [(2, .int (v)), (1, .int (nI (k))), (0, .ref (1))]) dX3_worth_21 (by decide) rfl ?_
  refine xr_aload_n dX3_worth_22 2 rfl ?_
  refine xr_getR flX3_11 dX3_worth_23 s_1 rfl ?_
  refine xr_iload_n dX3_worth_26 1 rfl ?_
  refine xb_iald (j := k) (v := 0) dX3_worth_27 s_2 (by omega) (by decide) (Eq.trans (hM 2 k (by unfold WK4; omega)) e_si) ?_
  refine xr_tableIn (tgt := 68) dX3_worth_28 (by decide) (by decide) rfl rfl ?_
  refine xr_aload_n dX3_worth_68 2 rfl ?_
  refine xr_iload_n dX3_worth_69 0 rfl ?_
  refine xr_callV (As := [.int (v)]) (rest := []) mlX3_67 (gs_X3_pile v hS (by omega)) dX3_worth_70 s_1 rfl rfl (Nat.le_of_ble_eq_true rfl) (by omega) ⟨by decide, by decide⟩ (fun v s2 M2 J2 hq => ?_)
  obtain ⟨rfl, rfl, rfl, k3, hS1⟩ := hq
  try dsimp only [Option.toList, List.cons_append, List.nil_append]
  refine xr_goto (tgt := 169) dX3_worth_73 rfl ?_
  refine xr_iinc (v := nI (k + 1)) (ls2 := [(1, .int (nI (k + 1))), (2, .int (v)), (0, .ref (1))]) dX3_worth_169 1 rfl (nI_1 _) (by decide) rfl ?_
  refine xr_goto (tgt := 7) dX3_worth_172 rfl ?_
  refine xb_ls (ls2 := [(1, .int (nI (k + 1))), (0, .ref (1))]) [0, 2] rfl ?_
  exact hC M2 (Ke.tr (fun _ _ h => h) hM k3) hS1
set_option maxRecDepth 100000 in
set_option maxHeartbeats 4000000 in
theorem wr_1 {l : Launch} {G : xG} {M : xM} {J : xJ} {Q : xQ} {L k : Nat} {s : List Int32} {M1 : xM} (hL : L ≤ 128) (hk : k < L) (hl : s.length < 128) (e_L : M 1 4 = nI L) (hM : Ke WK4 M M1) (hS : Stk M1 s) {j : Nat} (hj : j < 6) (hwj : (if 0 < (if (nI j) < 5 then (nI j) else 5) then (if (nI j) < 5 then (nI j) else 5) else 0) = nI j) (e_si : M 2 k = 1) (e_va : M 3 k = nI j) (hC : ∀ M2, Ke WK4 M M2 → Stk M2 (ex1 (M 5) s (1, nI j)) → x_X l G fX3_worth 2 0 0 Q 7 [(1, .int (nI (k + 1))), (0, .ref 1)] [] x_SH M2 J 0 0) : x_X l G fX3_worth 2 0 0 Q 7 [(1, .int (nI k)), (0, .ref 1)] [] x_SH M1 J 0 0 := by
  have htl : s.tail.length ≤ s.length := by rw [List.length_tail]; omega
  have htt : s.tail.tail.length ≤ s.length := by rw [List.length_tail, List.length_tail]; omega
  refine xr_iload_n dX3_worth_7 0 rfl ?_
  refine xr_aload_n dX3_worth_8 1 rfl ?_
  refine xb_get (v := nI (L)) flX3_24 dX3_worth_9 s_1 rfl (Eq.trans (hM 1 4 (by decide)) e_L) ?_
  refine xr_icmp_ge (tgt := 175) dX3_worth_12 rfl (fun c => absurd c (nI_ge (a := k) (b := L) (by omega) (by omega))) (fun _ => ?_)
  refine xr_aload_n dX3_worth_15 1 rfl ?_
  refine xr_getR flX3_15 dX3_worth_16 s_1 rfl ?_
  refine xr_iload_n dX3_worth_19 0 rfl ?_
  refine xb_iald (j := k) (v := nI (j)) dX3_worth_20 s_3 (by omega) (by decide) (Eq.trans (hM 3 k (by unfold WK4; omega)) e_va) ?_
  refine xr_istore_n (ls2 := [(2, .int (nI (j))), (1, .int (nI (k))), (0, .ref (1))]) dX3_worth_21 (by decide) rfl ?_
  refine xr_aload_n dX3_worth_22 2 rfl ?_
  refine xr_getR flX3_11 dX3_worth_23 s_1 rfl ?_
  refine xr_iload_n dX3_worth_26 1 rfl ?_
  refine xb_iald (j := k) (v := 1) dX3_worth_27 s_2 (by omega) (by decide) (Eq.trans (hM 2 k (by unfold WK4; omega)) e_si) ?_
  refine xr_tableIn (tgt := 76) dX3_worth_28 (by decide) (by decide) rfl rfl ?_
  refine xr_aload_n dX3_worth_76 2 rfl ?_
  refine xr_aload_n dX3_worth_77 2 rfl ?_
  refine xr_getR flX3_21 dX3_worth_78 s_1 rfl ?_
  refine xr_iload_n dX3_worth_81 0 rfl ?_
  refine xr_iconst (v := 0) dX3_worth_82 rfl ?_
  refine xr_iconst (v := 5) dX3_worth_83 rfl ?_
  refine xb_cN (As := [.int (nI (j)), .int (0), .int (5)]) (rest := [.ref (5), .ref (1)]) mlX3_60 (c_X9_within (nI (j)) 0 5) dX3_worth_84 rfl rfl (Nat.le_of_ble_eq_true rfl) (by omega) (by decide) ?_
  refine xb_top (y := nI j) hwj ?_
  refine xb_iald (j := j) (v := (M 5 j)) dX3_worth_87 s_5 hj (by decide) (Eq.trans (hM 5 j (by unfold WK4; omega)) rfl) ?_
  refine xr_callV (As := [.int ((M 5 j))]) (rest := []) mlX3_67 (gs_X3_pile (M 5 j) hS (by omega)) dX3_worth_88 s_1 rfl rfl (Nat.le_of_ble_eq_true rfl) (by omega) ⟨by decide, by decide⟩ (fun v s2 M2 J2 hq => ?_)
  obtain ⟨rfl, rfl, rfl, k3, hS1⟩ := hq
  try dsimp only [Option.toList, List.cons_append, List.nil_append]
  refine xr_goto (tgt := 169) dX3_worth_91 rfl ?_
  refine xr_iinc (v := nI (k + 1)) (ls2 := [(1, .int (nI (k + 1))), (2, .int (nI (j))), (0, .ref (1))]) dX3_worth_169 1 rfl (nI_1 _) (by decide) rfl ?_
  refine xr_goto (tgt := 7) dX3_worth_172 rfl ?_
  refine xb_ls (ls2 := [(1, .int (nI (k + 1))), (0, .ref (1))]) [0, 2] rfl ?_
  exact hC M2 (Ke.tr (fun _ _ h => h) hM k3) (by show Stk _ (M 5 (nI j).toNatClampNeg :: s); rw [nI_clamp (by omega)]; exact hS1)
set_option maxRecDepth 100000 in
set_option maxHeartbeats 4000000 in
theorem wr_4 {l : Launch} {G : xG} {M : xM} {J : xJ} {Q : xQ} {L k : Nat} {s : List Int32} {M1 : xM} (hL : L ≤ 128) (hk : k < L) (hl : s.length < 128) (e_L : M 1 4 = nI L) (hM : Ke WK4 M M1) (hS : Stk M1 s) {v : Int32} (e_si : M 2 k = 4) (e_va : M 3 k = v) (hC : ∀ M2, Ke WK4 M M2 → Stk M2 (ex1 (M 5) s (4, v)) → x_X l G fX3_worth 2 0 0 Q 7 [(1, .int (nI (k + 1))), (0, .ref 1)] [] x_SH M2 J 0 0) : x_X l G fX3_worth 2 0 0 Q 7 [(1, .int (nI k)), (0, .ref 1)] [] x_SH M1 J 0 0 := by
  have htl : s.tail.length ≤ s.length := by rw [List.length_tail]; omega
  have htt : s.tail.tail.length ≤ s.length := by rw [List.length_tail, List.length_tail]; omega
  refine xr_iload_n dX3_worth_7 0 rfl ?_
  refine xr_aload_n dX3_worth_8 1 rfl ?_
  refine xb_get (v := nI (L)) flX3_24 dX3_worth_9 s_1 rfl (Eq.trans (hM 1 4 (by decide)) e_L) ?_
  refine xr_icmp_ge (tgt := 175) dX3_worth_12 rfl (fun c => absurd c (nI_ge (a := k) (b := L) (by omega) (by omega))) (fun _ => ?_)
  refine xr_aload_n dX3_worth_15 1 rfl ?_
  refine xr_getR flX3_15 dX3_worth_16 s_1 rfl ?_
  refine xr_iload_n dX3_worth_19 0 rfl ?_
  refine xb_iald (j := k) (v := v) dX3_worth_20 s_3 (by omega) (by decide) (Eq.trans (hM 3 k (by unfold WK4; omega)) e_va) ?_
  refine xr_istore_n (ls2 := [(2, .int (v)), (1, .int (nI (k))), (0, .ref (1))]) dX3_worth_21 (by decide) rfl ?_
  refine xr_aload_n dX3_worth_22 2 rfl ?_
  refine xr_getR flX3_11 dX3_worth_23 s_1 rfl ?_
  refine xr_iload_n dX3_worth_26 1 rfl ?_
  refine xb_iald (j := k) (v := 4) dX3_worth_27 s_2 (by omega) (by decide) (Eq.trans (hM 2 k (by unfold WK4; omega)) e_si) ?_
  refine xr_tableIn (tgt := 94) dX3_worth_28 (by decide) (by decide) rfl rfl ?_
  refine xr_aload_n dX3_worth_94 2 rfl ?_
  refine xr_aload_n dX3_worth_95 2 rfl ?_
  refine xr_callV (As := []) (rest := [.ref (1)]) mlX3_71 (gs_X3_unpile hS) dX3_worth_96 s_1 rfl rfl (Nat.le_of_ble_eq_true rfl) (by omega) ⟨by decide, by decide⟩ (fun v s2 M4 J2 hq => ?_)
  obtain ⟨r6, rfl, rfl, rfl, k5, ⟨hr2, hS1⟩⟩ := hq
  try dsimp only [Option.toList, List.cons_append, List.nil_append]
  subst hr2
  refine xr_if_ne (tgt := 106) dX3_worth_99 rfl (fun c7 => ?_) (fun c7 => ?_)
  · refine xr_iconst (v := 0) dX3_worth_106 rfl ?_
    refine xr_callV (As := [.int (0)]) (rest := []) mlX3_67 (gs_X3_pile 0 hS1 (by omega)) dX3_worth_107 s_1 rfl rfl (Nat.le_of_ble_eq_true rfl) (by omega) ⟨by decide, by decide⟩ (fun v s2 M9 J2 hq => ?_)
    obtain ⟨rfl, rfl, rfl, k10, hS8⟩ := hq
    try dsimp only [Option.toList, List.cons_append, List.nil_append]
    refine xr_goto (tgt := 169) dX3_worth_110 rfl ?_
    refine xr_iinc (v := nI (k + 1)) (ls2 := [(1, .int (nI (k + 1))), (2, .int (v)), (0, .ref (1))]) dX3_worth_169 1 rfl (nI_1 _) (by decide) rfl ?_
    refine xr_goto (tgt := 7) dX3_worth_172 rfl ?_
    refine xb_ls (ls2 := [(1, .int (nI (k + 1))), (0, .ref (1))]) [0, 2] rfl ?_
    exact hC M9 (Ke.tr (fun _ _ h => h) (Ke.tr (fun _ _ h => h) hM k5) k10) (by show Stk _ ((if s.headD 0 = 0 then 1 else 0) :: s.tail); first | (rw [if_pos (by assumption)]; exact hS8) | (rw [if_neg (by assumption)]; exact hS8))
  · refine xr_iconst (v := 1) dX3_worth_102 rfl ?_
    refine xr_goto (tgt := 107) dX3_worth_103 rfl ?_
    refine xr_callV (As := [.int (1)]) (rest := []) mlX3_67 (gs_X3_pile 1 hS1 (by omega)) dX3_worth_107 s_1 rfl rfl (Nat.le_of_ble_eq_true rfl) (by omega) ⟨by decide, by decide⟩ (fun v s2 M12 J2 hq => ?_)
    obtain ⟨rfl, rfl, rfl, k13, hS11⟩ := hq
    try dsimp only [Option.toList, List.cons_append, List.nil_append]
    refine xr_goto (tgt := 169) dX3_worth_110 rfl ?_
    refine xr_iinc (v := nI (k + 1)) (ls2 := [(1, .int (nI (k + 1))), (2, .int (v)), (0, .ref (1))]) dX3_worth_169 1 rfl (nI_1 _) (by decide) rfl ?_
    refine xr_goto (tgt := 7) dX3_worth_172 rfl ?_
    refine xb_ls (ls2 := [(1, .int (nI (k + 1))), (0, .ref (1))]) [0, 2] rfl ?_
    exact hC M12 (Ke.tr (fun _ _ h => h) (Ke.tr (fun _ _ h => h) hM k5) k13) (by show Stk _ ((if s.headD 0 = 0 then 1 else 0) :: s.tail); first | (rw [if_pos (by assumption)]; exact hS11) | (rw [if_neg (by assumption)]; exact hS11))
set_option maxRecDepth 100000 in
set_option maxHeartbeats 4000000 in
theorem wr_5 {l : Launch} {G : xG} {M : xM} {J : xJ} {Q : xQ} {L k : Nat} {s : List Int32} {M1 : xM} (hL : L ≤ 128) (hk : k < L) (hl : s.length < 128) (e_L : M 1 4 = nI L) (hM : Ke WK4 M M1) (hS : Stk M1 s) {v : Int32} (e_si : M 2 k = 5) (e_va : M 3 k = v) (hC : ∀ M2, Ke WK4 M M2 → Stk M2 (ex1 (M 5) s (5, v)) → x_X l G fX3_worth 2 0 0 Q 7 [(1, .int (nI (k + 1))), (0, .ref 1)] [] x_SH M2 J 0 0) : x_X l G fX3_worth 2 0 0 Q 7 [(1, .int (nI k)), (0, .ref 1)] [] x_SH M1 J 0 0 := by
  have htl : s.tail.length ≤ s.length := by rw [List.length_tail]; omega
  have htt : s.tail.tail.length ≤ s.length := by rw [List.length_tail, List.length_tail]; omega
  refine xr_iload_n dX3_worth_7 0 rfl ?_
  refine xr_aload_n dX3_worth_8 1 rfl ?_
  refine xb_get (v := nI (L)) flX3_24 dX3_worth_9 s_1 rfl (Eq.trans (hM 1 4 (by decide)) e_L) ?_
  refine xr_icmp_ge (tgt := 175) dX3_worth_12 rfl (fun c => absurd c (nI_ge (a := k) (b := L) (by omega) (by omega))) (fun _ => ?_)
  refine xr_aload_n dX3_worth_15 1 rfl ?_
  refine xr_getR flX3_15 dX3_worth_16 s_1 rfl ?_
  refine xr_iload_n dX3_worth_19 0 rfl ?_
  refine xb_iald (j := k) (v := v) dX3_worth_20 s_3 (by omega) (by decide) (Eq.trans (hM 3 k (by unfold WK4; omega)) e_va) ?_
  refine xr_istore_n (ls2 := [(2, .int (v)), (1, .int (nI (k))), (0, .ref (1))]) dX3_worth_21 (by decide) rfl ?_
  refine xr_aload_n dX3_worth_22 2 rfl ?_
  refine xr_getR flX3_11 dX3_worth_23 s_1 rfl ?_
  refine xr_iload_n dX3_worth_26 1 rfl ?_
  refine xb_iald (j := k) (v := 5) dX3_worth_27 s_2 (by omega) (by decide) (Eq.trans (hM 2 k (by unfold WK4; omega)) e_si) ?_
  refine xr_tableIn (tgt := 113) dX3_worth_28 (by decide) (by decide) rfl rfl ?_
  refine xr_aload_n dX3_worth_113 2 rfl ?_
  refine xr_aload_n dX3_worth_114 2 rfl ?_
  refine xr_callV (As := []) (rest := [.ref (1)]) mlX3_71 (gs_X3_unpile hS) dX3_worth_115 s_1 rfl rfl (Nat.le_of_ble_eq_true rfl) (by omega) ⟨by decide, by decide⟩ (fun v s2 M4 J2 hq => ?_)
  obtain ⟨r6, rfl, rfl, rfl, k5, ⟨hr2, hS1⟩⟩ := hq
  try dsimp only [Option.toList, List.cons_append, List.nil_append]
  subst hr2
  refine xr_ineg dX3_worth_118 ?_
  refine xr_callV (As := [.int ((-(s.headD 0)))]) (rest := []) mlX3_67 (gs_X3_pile (-(s.headD 0)) hS1 (by omega)) dX3_worth_119 s_1 rfl rfl (Nat.le_of_ble_eq_true rfl) (by omega) ⟨by decide, by decide⟩ (fun v s2 M8 J2 hq => ?_)
  obtain ⟨rfl, rfl, rfl, k9, hS7⟩ := hq
  try dsimp only [Option.toList, List.cons_append, List.nil_append]
  refine xr_goto (tgt := 169) dX3_worth_122 rfl ?_
  refine xr_iinc (v := nI (k + 1)) (ls2 := [(1, .int (nI (k + 1))), (2, .int (v)), (0, .ref (1))]) dX3_worth_169 1 rfl (nI_1 _) (by decide) rfl ?_
  refine xr_goto (tgt := 7) dX3_worth_172 rfl ?_
  refine xb_ls (ls2 := [(1, .int (nI (k + 1))), (0, .ref (1))]) [0, 2] rfl ?_
  exact hC M8 (Ke.tr (fun _ _ h => h) (Ke.tr (fun _ _ h => h) hM k5) k9) hS7
set_option maxRecDepth 100000 in
set_option maxHeartbeats 4000000 in
theorem wr_124 {l : Launch} {G : xG} {M : xM} {J : xJ} {Q : xQ} {L k : Nat} {s : List Int32} {M1 : xM} (hL : L ≤ 128) (hk : k < L) (hl : s.length < 128) (e_L : M 1 4 = nI L) (hM : Ke WK4 M M1) (hS : Stk M1 s) {v : Int32} (e_si : M 2 k = 124) (e_va : M 3 k = v) (hC : ∀ M2, Ke WK4 M M2 → Stk M2 (ex1 (M 5) s (124, v)) → x_X l G fX3_worth 2 0 0 Q 7 [(1, .int (nI (k + 1))), (0, .ref 1)] [] x_SH M2 J 0 0) : x_X l G fX3_worth 2 0 0 Q 7 [(1, .int (nI k)), (0, .ref 1)] [] x_SH M1 J 0 0 := by
  have htl : s.tail.length ≤ s.length := by rw [List.length_tail]; omega
  have htt : s.tail.tail.length ≤ s.length := by rw [List.length_tail, List.length_tail]; omega
  refine xr_iload_n dX3_worth_7 0 rfl ?_
  refine xr_aload_n dX3_worth_8 1 rfl ?_
  refine xb_get (v := nI (L)) flX3_24 dX3_worth_9 s_1 rfl (Eq.trans (hM 1 4 (by decide)) e_L) ?_
  refine xr_icmp_ge (tgt := 175) dX3_worth_12 rfl (fun c => absurd c (nI_ge (a := k) (b := L) (by omega) (by omega))) (fun _ => ?_)
  refine xr_aload_n dX3_worth_15 1 rfl ?_
  refine xr_getR flX3_15 dX3_worth_16 s_1 rfl ?_
  refine xr_iload_n dX3_worth_19 0 rfl ?_
  refine xb_iald (j := k) (v := v) dX3_worth_20 s_3 (by omega) (by decide) (Eq.trans (hM 3 k (by unfold WK4; omega)) e_va) ?_
  refine xr_istore_n (ls2 := [(2, .int (v)), (1, .int (nI (k))), (0, .ref (1))]) dX3_worth_21 (by decide) rfl ?_
  refine xr_aload_n dX3_worth_22 2 rfl ?_
  refine xr_getR flX3_11 dX3_worth_23 s_1 rfl ?_
  refine xr_iload_n dX3_worth_26 1 rfl ?_
  refine xb_iald (j := k) (v := 124) dX3_worth_27 s_2 (by omega) (by decide) (Eq.trans (hM 2 k (by unfold WK4; omega)) e_si) ?_
  refine xr_tableOut (tgt := 146) dX3_worth_28 (by decide) rfl ?_
  refine xr_aload_n dX3_worth_146 2 rfl ?_
  refine xr_callV (As := []) (rest := []) mlX3_71 (gs_X3_unpile hS) dX3_worth_147 s_1 rfl rfl (Nat.le_of_ble_eq_true rfl) (by omega) ⟨by decide, by decide⟩ (fun v s2 M4 J2 hq => ?_)
  obtain ⟨r6, rfl, rfl, rfl, k5, ⟨hr2, hS1⟩⟩ := hq
  try dsimp only [Option.toList, List.cons_append, List.nil_append]
  subst hr2
  refine xr_istore_n (ls2 := [(3, .int ((s.headD 0))), (2, .int (v)), (1, .int (nI (k))), (0, .ref (1))]) dX3_worth_150 (by decide) rfl ?_
  refine xr_aload_n dX3_worth_151 3 rfl ?_
  refine xr_aload_n dX3_worth_152 3 rfl ?_
  refine xr_getR flX3_11 dX3_worth_153 s_1 rfl ?_
  refine xr_iload_n dX3_worth_156 2 rfl ?_
  refine xb_iald (j := k) (v := 124) dX3_worth_157 s_2 (by omega) (by decide) (Eq.trans (k5 2 k (by unfold WK4; omega)) (Eq.trans (hM 2 k (by unfold WK4; omega)) e_si)) ?_
  refine xr_aload_n dX3_worth_158 3 rfl ?_
  refine xr_callV (As := []) (rest := [.int (124), .ref (1)]) mlX3_71 (gs_X3_unpile hS1) dX3_worth_159 s_1 rfl rfl (Nat.le_of_ble_eq_true rfl) (by omega) ⟨by decide, by decide⟩ (fun v s2 M10 J2 hq => ?_)
  obtain ⟨r12, rfl, rfl, rfl, k11, ⟨hr8, hS7⟩⟩ := hq
  try dsimp only [Option.toList, List.cons_append, List.nil_append]
  subst hr8
  refine xr_iload_n dX3_worth_162 0 rfl ?_
  refine xb_cS (As := [.int (124), .int (((s.tail).headD 0)), .int ((s.headD 0))]) (rest := [.ref (1)]) mlX3_79 (c_X3_joined 124 ((s.tail).headD 0) (s.headD 0)) dX3_worth_163 rfl rfl (Nat.le_of_ble_eq_true rfl) (by omega) (by decide) ?_
  refine xr_callV (As := [.int ((jn 124 ((s.tail).headD 0) (s.headD 0)))]) (rest := []) mlX3_67 (gs_X3_pile (jn 124 ((s.tail).headD 0) (s.headD 0)) hS7 (by omega)) dX3_worth_166 s_1 rfl rfl (Nat.le_of_ble_eq_true rfl) (by omega) ⟨by decide, by decide⟩ (fun v s2 M14 J2 hq => ?_)
  obtain ⟨rfl, rfl, rfl, k15, hS13⟩ := hq
  try dsimp only [Option.toList, List.cons_append, List.nil_append]
  refine xr_iinc (v := nI (k + 1)) (ls2 := [(1, .int (nI (k + 1))), (3, .int ((s.headD 0))), (2, .int (v)), (0, .ref (1))]) dX3_worth_169 2 rfl (nI_1 _) (by decide) rfl ?_
  refine xr_goto (tgt := 7) dX3_worth_172 rfl ?_
  refine xb_ls (ls2 := [(1, .int (nI (k + 1))), (0, .ref (1))]) [0, 3] rfl ?_
  exact hC M14 (Ke.tr (fun _ _ h => h) (Ke.tr (fun _ _ h => h) (Ke.tr (fun _ _ h => h) hM k5) k11) k15) hS13
set_option maxRecDepth 100000 in
set_option maxHeartbeats 4000000 in
theorem wr_38 {l : Launch} {G : xG} {M : xM} {J : xJ} {Q : xQ} {L k : Nat} {s : List Int32} {M1 : xM} (hL : L ≤ 128) (hk : k < L) (hl : s.length < 128) (e_L : M 1 4 = nI L) (hM : Ke WK4 M M1) (hS : Stk M1 s) {v : Int32} (e_si : M 2 k = 38) (e_va : M 3 k = v) (hC : ∀ M2, Ke WK4 M M2 → Stk M2 (ex1 (M 5) s (38, v)) → x_X l G fX3_worth 2 0 0 Q 7 [(1, .int (nI (k + 1))), (0, .ref 1)] [] x_SH M2 J 0 0) : x_X l G fX3_worth 2 0 0 Q 7 [(1, .int (nI k)), (0, .ref 1)] [] x_SH M1 J 0 0 := by
  have htl : s.tail.length ≤ s.length := by rw [List.length_tail]; omega
  have htt : s.tail.tail.length ≤ s.length := by rw [List.length_tail, List.length_tail]; omega
  refine xr_iload_n dX3_worth_7 0 rfl ?_
  refine xr_aload_n dX3_worth_8 1 rfl ?_
  refine xb_get (v := nI (L)) flX3_24 dX3_worth_9 s_1 rfl (Eq.trans (hM 1 4 (by decide)) e_L) ?_
  refine xr_icmp_ge (tgt := 175) dX3_worth_12 rfl (fun c => absurd c (nI_ge (a := k) (b := L) (by omega) (by omega))) (fun _ => ?_)
  refine xr_aload_n dX3_worth_15 1 rfl ?_
  refine xr_getR flX3_15 dX3_worth_16 s_1 rfl ?_
  refine xr_iload_n dX3_worth_19 0 rfl ?_
  refine xb_iald (j := k) (v := v) dX3_worth_20 s_3 (by omega) (by decide) (Eq.trans (hM 3 k (by unfold WK4; omega)) e_va) ?_
  refine xr_istore_n (ls2 := [(2, .int (v)), (1, .int (nI (k))), (0, .ref (1))]) dX3_worth_21 (by decide) rfl ?_
  refine xr_aload_n dX3_worth_22 2 rfl ?_
  refine xr_getR flX3_11 dX3_worth_23 s_1 rfl ?_
  refine xr_iload_n dX3_worth_26 1 rfl ?_
  refine xb_iald (j := k) (v := 38) dX3_worth_27 s_2 (by omega) (by decide) (Eq.trans (hM 2 k (by unfold WK4; omega)) e_si) ?_
  refine xr_tableOut (tgt := 146) dX3_worth_28 (by decide) rfl ?_
  refine xr_aload_n dX3_worth_146 2 rfl ?_
  refine xr_callV (As := []) (rest := []) mlX3_71 (gs_X3_unpile hS) dX3_worth_147 s_1 rfl rfl (Nat.le_of_ble_eq_true rfl) (by omega) ⟨by decide, by decide⟩ (fun v s2 M4 J2 hq => ?_)
  obtain ⟨r6, rfl, rfl, rfl, k5, ⟨hr2, hS1⟩⟩ := hq
  try dsimp only [Option.toList, List.cons_append, List.nil_append]
  subst hr2
  refine xr_istore_n (ls2 := [(3, .int ((s.headD 0))), (2, .int (v)), (1, .int (nI (k))), (0, .ref (1))]) dX3_worth_150 (by decide) rfl ?_
  refine xr_aload_n dX3_worth_151 3 rfl ?_
  refine xr_aload_n dX3_worth_152 3 rfl ?_
  refine xr_getR flX3_11 dX3_worth_153 s_1 rfl ?_
  refine xr_iload_n dX3_worth_156 2 rfl ?_
  refine xb_iald (j := k) (v := 38) dX3_worth_157 s_2 (by omega) (by decide) (Eq.trans (k5 2 k (by unfold WK4; omega)) (Eq.trans (hM 2 k (by unfold WK4; omega)) e_si)) ?_
  refine xr_aload_n dX3_worth_158 3 rfl ?_
  refine xr_callV (As := []) (rest := [.int (38), .ref (1)]) mlX3_71 (gs_X3_unpile hS1) dX3_worth_159 s_1 rfl rfl (Nat.le_of_ble_eq_true rfl) (by omega) ⟨by decide, by decide⟩ (fun v s2 M10 J2 hq => ?_)
  obtain ⟨r12, rfl, rfl, rfl, k11, ⟨hr8, hS7⟩⟩ := hq
  try dsimp only [Option.toList, List.cons_append, List.nil_append]
  subst hr8
  refine xr_iload_n dX3_worth_162 0 rfl ?_
  refine xb_cS (As := [.int (38), .int (((s.tail).headD 0)), .int ((s.headD 0))]) (rest := [.ref (1)]) mlX3_79 (c_X3_joined 38 ((s.tail).headD 0) (s.headD 0)) dX3_worth_163 rfl rfl (Nat.le_of_ble_eq_true rfl) (by omega) (by decide) ?_
  refine xr_callV (As := [.int ((jn 38 ((s.tail).headD 0) (s.headD 0)))]) (rest := []) mlX3_67 (gs_X3_pile (jn 38 ((s.tail).headD 0) (s.headD 0)) hS7 (by omega)) dX3_worth_166 s_1 rfl rfl (Nat.le_of_ble_eq_true rfl) (by omega) ⟨by decide, by decide⟩ (fun v s2 M14 J2 hq => ?_)
  obtain ⟨rfl, rfl, rfl, k15, hS13⟩ := hq
  try dsimp only [Option.toList, List.cons_append, List.nil_append]
  refine xr_iinc (v := nI (k + 1)) (ls2 := [(1, .int (nI (k + 1))), (3, .int ((s.headD 0))), (2, .int (v)), (0, .ref (1))]) dX3_worth_169 2 rfl (nI_1 _) (by decide) rfl ?_
  refine xr_goto (tgt := 7) dX3_worth_172 rfl ?_
  refine xb_ls (ls2 := [(1, .int (nI (k + 1))), (0, .ref (1))]) [0, 3] rfl ?_
  exact hC M14 (Ke.tr (fun _ _ h => h) (Ke.tr (fun _ _ h => h) (Ke.tr (fun _ _ h => h) hM k5) k11) k15) hS13
set_option maxRecDepth 100000 in
set_option maxHeartbeats 4000000 in
theorem wr_60 {l : Launch} {G : xG} {M : xM} {J : xJ} {Q : xQ} {L k : Nat} {s : List Int32} {M1 : xM} (hL : L ≤ 128) (hk : k < L) (hl : s.length < 128) (e_L : M 1 4 = nI L) (hM : Ke WK4 M M1) (hS : Stk M1 s) {v : Int32} (e_si : M 2 k = 60) (e_va : M 3 k = v) (hC : ∀ M2, Ke WK4 M M2 → Stk M2 (ex1 (M 5) s (60, v)) → x_X l G fX3_worth 2 0 0 Q 7 [(1, .int (nI (k + 1))), (0, .ref 1)] [] x_SH M2 J 0 0) : x_X l G fX3_worth 2 0 0 Q 7 [(1, .int (nI k)), (0, .ref 1)] [] x_SH M1 J 0 0 := by
  have htl : s.tail.length ≤ s.length := by rw [List.length_tail]; omega
  have htt : s.tail.tail.length ≤ s.length := by rw [List.length_tail, List.length_tail]; omega
  refine xr_iload_n dX3_worth_7 0 rfl ?_
  refine xr_aload_n dX3_worth_8 1 rfl ?_
  refine xb_get (v := nI (L)) flX3_24 dX3_worth_9 s_1 rfl (Eq.trans (hM 1 4 (by decide)) e_L) ?_
  refine xr_icmp_ge (tgt := 175) dX3_worth_12 rfl (fun c => absurd c (nI_ge (a := k) (b := L) (by omega) (by omega))) (fun _ => ?_)
  refine xr_aload_n dX3_worth_15 1 rfl ?_
  refine xr_getR flX3_15 dX3_worth_16 s_1 rfl ?_
  refine xr_iload_n dX3_worth_19 0 rfl ?_
  refine xb_iald (j := k) (v := v) dX3_worth_20 s_3 (by omega) (by decide) (Eq.trans (hM 3 k (by unfold WK4; omega)) e_va) ?_
  refine xr_istore_n (ls2 := [(2, .int (v)), (1, .int (nI (k))), (0, .ref (1))]) dX3_worth_21 (by decide) rfl ?_
  refine xr_aload_n dX3_worth_22 2 rfl ?_
  refine xr_getR flX3_11 dX3_worth_23 s_1 rfl ?_
  refine xr_iload_n dX3_worth_26 1 rfl ?_
  refine xb_iald (j := k) (v := 60) dX3_worth_27 s_2 (by omega) (by decide) (Eq.trans (hM 2 k (by unfold WK4; omega)) e_si) ?_
  refine xr_tableOut (tgt := 146) dX3_worth_28 (by decide) rfl ?_
  refine xr_aload_n dX3_worth_146 2 rfl ?_
  refine xr_callV (As := []) (rest := []) mlX3_71 (gs_X3_unpile hS) dX3_worth_147 s_1 rfl rfl (Nat.le_of_ble_eq_true rfl) (by omega) ⟨by decide, by decide⟩ (fun v s2 M4 J2 hq => ?_)
  obtain ⟨r6, rfl, rfl, rfl, k5, ⟨hr2, hS1⟩⟩ := hq
  try dsimp only [Option.toList, List.cons_append, List.nil_append]
  subst hr2
  refine xr_istore_n (ls2 := [(3, .int ((s.headD 0))), (2, .int (v)), (1, .int (nI (k))), (0, .ref (1))]) dX3_worth_150 (by decide) rfl ?_
  refine xr_aload_n dX3_worth_151 3 rfl ?_
  refine xr_aload_n dX3_worth_152 3 rfl ?_
  refine xr_getR flX3_11 dX3_worth_153 s_1 rfl ?_
  refine xr_iload_n dX3_worth_156 2 rfl ?_
  refine xb_iald (j := k) (v := 60) dX3_worth_157 s_2 (by omega) (by decide) (Eq.trans (k5 2 k (by unfold WK4; omega)) (Eq.trans (hM 2 k (by unfold WK4; omega)) e_si)) ?_
  refine xr_aload_n dX3_worth_158 3 rfl ?_
  refine xr_callV (As := []) (rest := [.int (60), .ref (1)]) mlX3_71 (gs_X3_unpile hS1) dX3_worth_159 s_1 rfl rfl (Nat.le_of_ble_eq_true rfl) (by omega) ⟨by decide, by decide⟩ (fun v s2 M10 J2 hq => ?_)
  obtain ⟨r12, rfl, rfl, rfl, k11, ⟨hr8, hS7⟩⟩ := hq
  try dsimp only [Option.toList, List.cons_append, List.nil_append]
  subst hr8
  refine xr_iload_n dX3_worth_162 0 rfl ?_
  refine xb_cS (As := [.int (60), .int (((s.tail).headD 0)), .int ((s.headD 0))]) (rest := [.ref (1)]) mlX3_79 (c_X3_joined 60 ((s.tail).headD 0) (s.headD 0)) dX3_worth_163 rfl rfl (Nat.le_of_ble_eq_true rfl) (by omega) (by decide) ?_
  refine xr_callV (As := [.int ((jn 60 ((s.tail).headD 0) (s.headD 0)))]) (rest := []) mlX3_67 (gs_X3_pile (jn 60 ((s.tail).headD 0) (s.headD 0)) hS7 (by omega)) dX3_worth_166 s_1 rfl rfl (Nat.le_of_ble_eq_true rfl) (by omega) ⟨by decide, by decide⟩ (fun v s2 M14 J2 hq => ?_)
  obtain ⟨rfl, rfl, rfl, k15, hS13⟩ := hq
  try dsimp only [Option.toList, List.cons_append, List.nil_append]
  refine xr_iinc (v := nI (k + 1)) (ls2 := [(1, .int (nI (k + 1))), (3, .int ((s.headD 0))), (2, .int (v)), (0, .ref (1))]) dX3_worth_169 2 rfl (nI_1 _) (by decide) rfl ?_
  refine xr_goto (tgt := 7) dX3_worth_172 rfl ?_
  refine xb_ls (ls2 := [(1, .int (nI (k + 1))), (0, .ref (1))]) [0, 3] rfl ?_
  exact hC M14 (Ke.tr (fun _ _ h => h) (Ke.tr (fun _ _ h => h) (Ke.tr (fun _ _ h => h) hM k5) k11) k15) hS13
set_option maxRecDepth 100000 in
set_option maxHeartbeats 4000000 in
theorem wr_61 {l : Launch} {G : xG} {M : xM} {J : xJ} {Q : xQ} {L k : Nat} {s : List Int32} {M1 : xM} (hL : L ≤ 128) (hk : k < L) (hl : s.length < 128) (e_L : M 1 4 = nI L) (hM : Ke WK4 M M1) (hS : Stk M1 s) {v : Int32} (e_si : M 2 k = 61) (e_va : M 3 k = v) (hC : ∀ M2, Ke WK4 M M2 → Stk M2 (ex1 (M 5) s (61, v)) → x_X l G fX3_worth 2 0 0 Q 7 [(1, .int (nI (k + 1))), (0, .ref 1)] [] x_SH M2 J 0 0) : x_X l G fX3_worth 2 0 0 Q 7 [(1, .int (nI k)), (0, .ref 1)] [] x_SH M1 J 0 0 := by
  have htl : s.tail.length ≤ s.length := by rw [List.length_tail]; omega
  have htt : s.tail.tail.length ≤ s.length := by rw [List.length_tail, List.length_tail]; omega
  refine xr_iload_n dX3_worth_7 0 rfl ?_
  refine xr_aload_n dX3_worth_8 1 rfl ?_
  refine xb_get (v := nI (L)) flX3_24 dX3_worth_9 s_1 rfl (Eq.trans (hM 1 4 (by decide)) e_L) ?_
  refine xr_icmp_ge (tgt := 175) dX3_worth_12 rfl (fun c => absurd c (nI_ge (a := k) (b := L) (by omega) (by omega))) (fun _ => ?_)
  refine xr_aload_n dX3_worth_15 1 rfl ?_
  refine xr_getR flX3_15 dX3_worth_16 s_1 rfl ?_
  refine xr_iload_n dX3_worth_19 0 rfl ?_
  refine xb_iald (j := k) (v := v) dX3_worth_20 s_3 (by omega) (by decide) (Eq.trans (hM 3 k (by unfold WK4; omega)) e_va) ?_
  refine xr_istore_n (ls2 := [(2, .int (v)), (1, .int (nI (k))), (0, .ref (1))]) dX3_worth_21 (by decide) rfl ?_
  refine xr_aload_n dX3_worth_22 2 rfl ?_
  refine xr_getR flX3_11 dX3_worth_23 s_1 rfl ?_
  refine xr_iload_n dX3_worth_26 1 rfl ?_
  refine xb_iald (j := k) (v := 61) dX3_worth_27 s_2 (by omega) (by decide) (Eq.trans (hM 2 k (by unfold WK4; omega)) e_si) ?_
  refine xr_tableOut (tgt := 146) dX3_worth_28 (by decide) rfl ?_
  refine xr_aload_n dX3_worth_146 2 rfl ?_
  refine xr_callV (As := []) (rest := []) mlX3_71 (gs_X3_unpile hS) dX3_worth_147 s_1 rfl rfl (Nat.le_of_ble_eq_true rfl) (by omega) ⟨by decide, by decide⟩ (fun v s2 M4 J2 hq => ?_)
  obtain ⟨r6, rfl, rfl, rfl, k5, ⟨hr2, hS1⟩⟩ := hq
  try dsimp only [Option.toList, List.cons_append, List.nil_append]
  subst hr2
  refine xr_istore_n (ls2 := [(3, .int ((s.headD 0))), (2, .int (v)), (1, .int (nI (k))), (0, .ref (1))]) dX3_worth_150 (by decide) rfl ?_
  refine xr_aload_n dX3_worth_151 3 rfl ?_
  refine xr_aload_n dX3_worth_152 3 rfl ?_
  refine xr_getR flX3_11 dX3_worth_153 s_1 rfl ?_
  refine xr_iload_n dX3_worth_156 2 rfl ?_
  refine xb_iald (j := k) (v := 61) dX3_worth_157 s_2 (by omega) (by decide) (Eq.trans (k5 2 k (by unfold WK4; omega)) (Eq.trans (hM 2 k (by unfold WK4; omega)) e_si)) ?_
  refine xr_aload_n dX3_worth_158 3 rfl ?_
  refine xr_callV (As := []) (rest := [.int (61), .ref (1)]) mlX3_71 (gs_X3_unpile hS1) dX3_worth_159 s_1 rfl rfl (Nat.le_of_ble_eq_true rfl) (by omega) ⟨by decide, by decide⟩ (fun v s2 M10 J2 hq => ?_)
  obtain ⟨r12, rfl, rfl, rfl, k11, ⟨hr8, hS7⟩⟩ := hq
  try dsimp only [Option.toList, List.cons_append, List.nil_append]
  subst hr8
  refine xr_iload_n dX3_worth_162 0 rfl ?_
  refine xb_cS (As := [.int (61), .int (((s.tail).headD 0)), .int ((s.headD 0))]) (rest := [.ref (1)]) mlX3_79 (c_X3_joined 61 ((s.tail).headD 0) (s.headD 0)) dX3_worth_163 rfl rfl (Nat.le_of_ble_eq_true rfl) (by omega) (by decide) ?_
  refine xr_callV (As := [.int ((jn 61 ((s.tail).headD 0) (s.headD 0)))]) (rest := []) mlX3_67 (gs_X3_pile (jn 61 ((s.tail).headD 0) (s.headD 0)) hS7 (by omega)) dX3_worth_166 s_1 rfl rfl (Nat.le_of_ble_eq_true rfl) (by omega) ⟨by decide, by decide⟩ (fun v s2 M14 J2 hq => ?_)
  obtain ⟨rfl, rfl, rfl, k15, hS13⟩ := hq
  try dsimp only [Option.toList, List.cons_append, List.nil_append]
  refine xr_iinc (v := nI (k + 1)) (ls2 := [(1, .int (nI (k + 1))), (3, .int ((s.headD 0))), (2, .int (v)), (0, .ref (1))]) dX3_worth_169 2 rfl (nI_1 _) (by decide) rfl ?_
  refine xr_goto (tgt := 7) dX3_worth_172 rfl ?_
  refine xb_ls (ls2 := [(1, .int (nI (k + 1))), (0, .ref (1))]) [0, 3] rfl ?_
  exact hC M14 (Ke.tr (fun _ _ h => h) (Ke.tr (fun _ _ h => h) (Ke.tr (fun _ _ h => h) hM k5) k11) k15) hS13
set_option maxRecDepth 100000 in
set_option maxHeartbeats 4000000 in
theorem wr_62 {l : Launch} {G : xG} {M : xM} {J : xJ} {Q : xQ} {L k : Nat} {s : List Int32} {M1 : xM} (hL : L ≤ 128) (hk : k < L) (hl : s.length < 128) (e_L : M 1 4 = nI L) (hM : Ke WK4 M M1) (hS : Stk M1 s) {v : Int32} (e_si : M 2 k = 62) (e_va : M 3 k = v) (hC : ∀ M2, Ke WK4 M M2 → Stk M2 (ex1 (M 5) s (62, v)) → x_X l G fX3_worth 2 0 0 Q 7 [(1, .int (nI (k + 1))), (0, .ref 1)] [] x_SH M2 J 0 0) : x_X l G fX3_worth 2 0 0 Q 7 [(1, .int (nI k)), (0, .ref 1)] [] x_SH M1 J 0 0 := by
  have htl : s.tail.length ≤ s.length := by rw [List.length_tail]; omega
  have htt : s.tail.tail.length ≤ s.length := by rw [List.length_tail, List.length_tail]; omega
  refine xr_iload_n dX3_worth_7 0 rfl ?_
  refine xr_aload_n dX3_worth_8 1 rfl ?_
  refine xb_get (v := nI (L)) flX3_24 dX3_worth_9 s_1 rfl (Eq.trans (hM 1 4 (by decide)) e_L) ?_
  refine xr_icmp_ge (tgt := 175) dX3_worth_12 rfl (fun c => absurd c (nI_ge (a := k) (b := L) (by omega) (by omega))) (fun _ => ?_)
  refine xr_aload_n dX3_worth_15 1 rfl ?_
  refine xr_getR flX3_15 dX3_worth_16 s_1 rfl ?_
  refine xr_iload_n dX3_worth_19 0 rfl ?_
  refine xb_iald (j := k) (v := v) dX3_worth_20 s_3 (by omega) (by decide) (Eq.trans (hM 3 k (by unfold WK4; omega)) e_va) ?_
  refine xr_istore_n (ls2 := [(2, .int (v)), (1, .int (nI (k))), (0, .ref (1))]) dX3_worth_21 (by decide) rfl ?_
  refine xr_aload_n dX3_worth_22 2 rfl ?_
  refine xr_getR flX3_11 dX3_worth_23 s_1 rfl ?_
  refine xr_iload_n dX3_worth_26 1 rfl ?_
  refine xb_iald (j := k) (v := 62) dX3_worth_27 s_2 (by omega) (by decide) (Eq.trans (hM 2 k (by unfold WK4; omega)) e_si) ?_
  refine xr_tableOut (tgt := 146) dX3_worth_28 (by decide) rfl ?_
  refine xr_aload_n dX3_worth_146 2 rfl ?_
  refine xr_callV (As := []) (rest := []) mlX3_71 (gs_X3_unpile hS) dX3_worth_147 s_1 rfl rfl (Nat.le_of_ble_eq_true rfl) (by omega) ⟨by decide, by decide⟩ (fun v s2 M4 J2 hq => ?_)
  obtain ⟨r6, rfl, rfl, rfl, k5, ⟨hr2, hS1⟩⟩ := hq
  try dsimp only [Option.toList, List.cons_append, List.nil_append]
  subst hr2
  refine xr_istore_n (ls2 := [(3, .int ((s.headD 0))), (2, .int (v)), (1, .int (nI (k))), (0, .ref (1))]) dX3_worth_150 (by decide) rfl ?_
  refine xr_aload_n dX3_worth_151 3 rfl ?_
  refine xr_aload_n dX3_worth_152 3 rfl ?_
  refine xr_getR flX3_11 dX3_worth_153 s_1 rfl ?_
  refine xr_iload_n dX3_worth_156 2 rfl ?_
  refine xb_iald (j := k) (v := 62) dX3_worth_157 s_2 (by omega) (by decide) (Eq.trans (k5 2 k (by unfold WK4; omega)) (Eq.trans (hM 2 k (by unfold WK4; omega)) e_si)) ?_
  refine xr_aload_n dX3_worth_158 3 rfl ?_
  refine xr_callV (As := []) (rest := [.int (62), .ref (1)]) mlX3_71 (gs_X3_unpile hS1) dX3_worth_159 s_1 rfl rfl (Nat.le_of_ble_eq_true rfl) (by omega) ⟨by decide, by decide⟩ (fun v s2 M10 J2 hq => ?_)
  obtain ⟨r12, rfl, rfl, rfl, k11, ⟨hr8, hS7⟩⟩ := hq
  try dsimp only [Option.toList, List.cons_append, List.nil_append]
  subst hr8
  refine xr_iload_n dX3_worth_162 0 rfl ?_
  refine xb_cS (As := [.int (62), .int (((s.tail).headD 0)), .int ((s.headD 0))]) (rest := [.ref (1)]) mlX3_79 (c_X3_joined 62 ((s.tail).headD 0) (s.headD 0)) dX3_worth_163 rfl rfl (Nat.le_of_ble_eq_true rfl) (by omega) (by decide) ?_
  refine xr_callV (As := [.int ((jn 62 ((s.tail).headD 0) (s.headD 0)))]) (rest := []) mlX3_67 (gs_X3_pile (jn 62 ((s.tail).headD 0) (s.headD 0)) hS7 (by omega)) dX3_worth_166 s_1 rfl rfl (Nat.le_of_ble_eq_true rfl) (by omega) ⟨by decide, by decide⟩ (fun v s2 M14 J2 hq => ?_)
  obtain ⟨rfl, rfl, rfl, k15, hS13⟩ := hq
  try dsimp only [Option.toList, List.cons_append, List.nil_append]
  refine xr_iinc (v := nI (k + 1)) (ls2 := [(1, .int (nI (k + 1))), (3, .int ((s.headD 0))), (2, .int (v)), (0, .ref (1))]) dX3_worth_169 2 rfl (nI_1 _) (by decide) rfl ?_
  refine xr_goto (tgt := 7) dX3_worth_172 rfl ?_
  refine xb_ls (ls2 := [(1, .int (nI (k + 1))), (0, .ref (1))]) [0, 3] rfl ?_
  exact hC M14 (Ke.tr (fun _ _ h => h) (Ke.tr (fun _ _ h => h) (Ke.tr (fun _ _ h => h) hM k5) k11) k15) hS13
set_option maxRecDepth 100000 in
set_option maxHeartbeats 4000000 in
theorem wr_43 {l : Launch} {G : xG} {M : xM} {J : xJ} {Q : xQ} {L k : Nat} {s : List Int32} {M1 : xM} (hL : L ≤ 128) (hk : k < L) (hl : s.length < 128) (e_L : M 1 4 = nI L) (hM : Ke WK4 M M1) (hS : Stk M1 s) {v : Int32} (e_si : M 2 k = 43) (e_va : M 3 k = v) (hC : ∀ M2, Ke WK4 M M2 → Stk M2 (ex1 (M 5) s (43, v)) → x_X l G fX3_worth 2 0 0 Q 7 [(1, .int (nI (k + 1))), (0, .ref 1)] [] x_SH M2 J 0 0) : x_X l G fX3_worth 2 0 0 Q 7 [(1, .int (nI k)), (0, .ref 1)] [] x_SH M1 J 0 0 := by
  have htl : s.tail.length ≤ s.length := by rw [List.length_tail]; omega
  have htt : s.tail.tail.length ≤ s.length := by rw [List.length_tail, List.length_tail]; omega
  refine xr_iload_n dX3_worth_7 0 rfl ?_
  refine xr_aload_n dX3_worth_8 1 rfl ?_
  refine xb_get (v := nI (L)) flX3_24 dX3_worth_9 s_1 rfl (Eq.trans (hM 1 4 (by decide)) e_L) ?_
  refine xr_icmp_ge (tgt := 175) dX3_worth_12 rfl (fun c => absurd c (nI_ge (a := k) (b := L) (by omega) (by omega))) (fun _ => ?_)
  refine xr_aload_n dX3_worth_15 1 rfl ?_
  refine xr_getR flX3_15 dX3_worth_16 s_1 rfl ?_
  refine xr_iload_n dX3_worth_19 0 rfl ?_
  refine xb_iald (j := k) (v := v) dX3_worth_20 s_3 (by omega) (by decide) (Eq.trans (hM 3 k (by unfold WK4; omega)) e_va) ?_
  refine xr_istore_n (ls2 := [(2, .int (v)), (1, .int (nI (k))), (0, .ref (1))]) dX3_worth_21 (by decide) rfl ?_
  refine xr_aload_n dX3_worth_22 2 rfl ?_
  refine xr_getR flX3_11 dX3_worth_23 s_1 rfl ?_
  refine xr_iload_n dX3_worth_26 1 rfl ?_
  refine xb_iald (j := k) (v := 43) dX3_worth_27 s_2 (by omega) (by decide) (Eq.trans (hM 2 k (by unfold WK4; omega)) e_si) ?_
  refine xr_tableOut (tgt := 146) dX3_worth_28 (by decide) rfl ?_
  refine xr_aload_n dX3_worth_146 2 rfl ?_
  refine xr_callV (As := []) (rest := []) mlX3_71 (gs_X3_unpile hS) dX3_worth_147 s_1 rfl rfl (Nat.le_of_ble_eq_true rfl) (by omega) ⟨by decide, by decide⟩ (fun v s2 M4 J2 hq => ?_)
  obtain ⟨r6, rfl, rfl, rfl, k5, ⟨hr2, hS1⟩⟩ := hq
  try dsimp only [Option.toList, List.cons_append, List.nil_append]
  subst hr2
  refine xr_istore_n (ls2 := [(3, .int ((s.headD 0))), (2, .int (v)), (1, .int (nI (k))), (0, .ref (1))]) dX3_worth_150 (by decide) rfl ?_
  refine xr_aload_n dX3_worth_151 3 rfl ?_
  refine xr_aload_n dX3_worth_152 3 rfl ?_
  refine xr_getR flX3_11 dX3_worth_153 s_1 rfl ?_
  refine xr_iload_n dX3_worth_156 2 rfl ?_
  refine xb_iald (j := k) (v := 43) dX3_worth_157 s_2 (by omega) (by decide) (Eq.trans (k5 2 k (by unfold WK4; omega)) (Eq.trans (hM 2 k (by unfold WK4; omega)) e_si)) ?_
  refine xr_aload_n dX3_worth_158 3 rfl ?_
  refine xr_callV (As := []) (rest := [.int (43), .ref (1)]) mlX3_71 (gs_X3_unpile hS1) dX3_worth_159 s_1 rfl rfl (Nat.le_of_ble_eq_true rfl) (by omega) ⟨by decide, by decide⟩ (fun v s2 M10 J2 hq => ?_)
  obtain ⟨r12, rfl, rfl, rfl, k11, ⟨hr8, hS7⟩⟩ := hq
  try dsimp only [Option.toList, List.cons_append, List.nil_append]
  subst hr8
  refine xr_iload_n dX3_worth_162 0 rfl ?_
  refine xb_cS (As := [.int (43), .int (((s.tail).headD 0)), .int ((s.headD 0))]) (rest := [.ref (1)]) mlX3_79 (c_X3_joined 43 ((s.tail).headD 0) (s.headD 0)) dX3_worth_163 rfl rfl (Nat.le_of_ble_eq_true rfl) (by omega) (by decide) ?_
  refine xr_callV (As := [.int ((jn 43 ((s.tail).headD 0) (s.headD 0)))]) (rest := []) mlX3_67 (gs_X3_pile (jn 43 ((s.tail).headD 0) (s.headD 0)) hS7 (by omega)) dX3_worth_166 s_1 rfl rfl (Nat.le_of_ble_eq_true rfl) (by omega) ⟨by decide, by decide⟩ (fun v s2 M14 J2 hq => ?_)
  obtain ⟨rfl, rfl, rfl, k15, hS13⟩ := hq
  try dsimp only [Option.toList, List.cons_append, List.nil_append]
  refine xr_iinc (v := nI (k + 1)) (ls2 := [(1, .int (nI (k + 1))), (3, .int ((s.headD 0))), (2, .int (v)), (0, .ref (1))]) dX3_worth_169 2 rfl (nI_1 _) (by decide) rfl ?_
  refine xr_goto (tgt := 7) dX3_worth_172 rfl ?_
  refine xb_ls (ls2 := [(1, .int (nI (k + 1))), (0, .ref (1))]) [0, 3] rfl ?_
  exact hC M14 (Ke.tr (fun _ _ h => h) (Ke.tr (fun _ _ h => h) (Ke.tr (fun _ _ h => h) hM k5) k11) k15) hS13
set_option maxRecDepth 100000 in
set_option maxHeartbeats 4000000 in
theorem wr_45 {l : Launch} {G : xG} {M : xM} {J : xJ} {Q : xQ} {L k : Nat} {s : List Int32} {M1 : xM} (hL : L ≤ 128) (hk : k < L) (hl : s.length < 128) (e_L : M 1 4 = nI L) (hM : Ke WK4 M M1) (hS : Stk M1 s) {v : Int32} (e_si : M 2 k = 45) (e_va : M 3 k = v) (hC : ∀ M2, Ke WK4 M M2 → Stk M2 (ex1 (M 5) s (45, v)) → x_X l G fX3_worth 2 0 0 Q 7 [(1, .int (nI (k + 1))), (0, .ref 1)] [] x_SH M2 J 0 0) : x_X l G fX3_worth 2 0 0 Q 7 [(1, .int (nI k)), (0, .ref 1)] [] x_SH M1 J 0 0 := by
  have htl : s.tail.length ≤ s.length := by rw [List.length_tail]; omega
  have htt : s.tail.tail.length ≤ s.length := by rw [List.length_tail, List.length_tail]; omega
  refine xr_iload_n dX3_worth_7 0 rfl ?_
  refine xr_aload_n dX3_worth_8 1 rfl ?_
  refine xb_get (v := nI (L)) flX3_24 dX3_worth_9 s_1 rfl (Eq.trans (hM 1 4 (by decide)) e_L) ?_
  refine xr_icmp_ge (tgt := 175) dX3_worth_12 rfl (fun c => absurd c (nI_ge (a := k) (b := L) (by omega) (by omega))) (fun _ => ?_)
  refine xr_aload_n dX3_worth_15 1 rfl ?_
  refine xr_getR flX3_15 dX3_worth_16 s_1 rfl ?_
  refine xr_iload_n dX3_worth_19 0 rfl ?_
  refine xb_iald (j := k) (v := v) dX3_worth_20 s_3 (by omega) (by decide) (Eq.trans (hM 3 k (by unfold WK4; omega)) e_va) ?_
  refine xr_istore_n (ls2 := [(2, .int (v)), (1, .int (nI (k))), (0, .ref (1))]) dX3_worth_21 (by decide) rfl ?_
  refine xr_aload_n dX3_worth_22 2 rfl ?_
  refine xr_getR flX3_11 dX3_worth_23 s_1 rfl ?_
  refine xr_iload_n dX3_worth_26 1 rfl ?_
  refine xb_iald (j := k) (v := 45) dX3_worth_27 s_2 (by omega) (by decide) (Eq.trans (hM 2 k (by unfold WK4; omega)) e_si) ?_
  refine xr_tableOut (tgt := 146) dX3_worth_28 (by decide) rfl ?_
  refine xr_aload_n dX3_worth_146 2 rfl ?_
  refine xr_callV (As := []) (rest := []) mlX3_71 (gs_X3_unpile hS) dX3_worth_147 s_1 rfl rfl (Nat.le_of_ble_eq_true rfl) (by omega) ⟨by decide, by decide⟩ (fun v s2 M4 J2 hq => ?_)
  obtain ⟨r6, rfl, rfl, rfl, k5, ⟨hr2, hS1⟩⟩ := hq
  try dsimp only [Option.toList, List.cons_append, List.nil_append]
  subst hr2
  refine xr_istore_n (ls2 := [(3, .int ((s.headD 0))), (2, .int (v)), (1, .int (nI (k))), (0, .ref (1))]) dX3_worth_150 (by decide) rfl ?_
  refine xr_aload_n dX3_worth_151 3 rfl ?_
  refine xr_aload_n dX3_worth_152 3 rfl ?_
  refine xr_getR flX3_11 dX3_worth_153 s_1 rfl ?_
  refine xr_iload_n dX3_worth_156 2 rfl ?_
  refine xb_iald (j := k) (v := 45) dX3_worth_157 s_2 (by omega) (by decide) (Eq.trans (k5 2 k (by unfold WK4; omega)) (Eq.trans (hM 2 k (by unfold WK4; omega)) e_si)) ?_
  refine xr_aload_n dX3_worth_158 3 rfl ?_
  refine xr_callV (As := []) (rest := [.int (45), .ref (1)]) mlX3_71 (gs_X3_unpile hS1) dX3_worth_159 s_1 rfl rfl (Nat.le_of_ble_eq_true rfl) (by omega) ⟨by decide, by decide⟩ (fun v s2 M10 J2 hq => ?_)
  obtain ⟨r12, rfl, rfl, rfl, k11, ⟨hr8, hS7⟩⟩ := hq
  try dsimp only [Option.toList, List.cons_append, List.nil_append]
  subst hr8
  refine xr_iload_n dX3_worth_162 0 rfl ?_
  refine xb_cS (As := [.int (45), .int (((s.tail).headD 0)), .int ((s.headD 0))]) (rest := [.ref (1)]) mlX3_79 (c_X3_joined 45 ((s.tail).headD 0) (s.headD 0)) dX3_worth_163 rfl rfl (Nat.le_of_ble_eq_true rfl) (by omega) (by decide) ?_
  refine xr_callV (As := [.int ((jn 45 ((s.tail).headD 0) (s.headD 0)))]) (rest := []) mlX3_67 (gs_X3_pile (jn 45 ((s.tail).headD 0) (s.headD 0)) hS7 (by omega)) dX3_worth_166 s_1 rfl rfl (Nat.le_of_ble_eq_true rfl) (by omega) ⟨by decide, by decide⟩ (fun v s2 M14 J2 hq => ?_)
  obtain ⟨rfl, rfl, rfl, k15, hS13⟩ := hq
  try dsimp only [Option.toList, List.cons_append, List.nil_append]
  refine xr_iinc (v := nI (k + 1)) (ls2 := [(1, .int (nI (k + 1))), (3, .int ((s.headD 0))), (2, .int (v)), (0, .ref (1))]) dX3_worth_169 2 rfl (nI_1 _) (by decide) rfl ?_
  refine xr_goto (tgt := 7) dX3_worth_172 rfl ?_
  refine xb_ls (ls2 := [(1, .int (nI (k + 1))), (0, .ref (1))]) [0, 3] rfl ?_
  exact hC M14 (Ke.tr (fun _ _ h => h) (Ke.tr (fun _ _ h => h) (Ke.tr (fun _ _ h => h) hM k5) k11) k15) hS13
set_option maxRecDepth 100000 in
set_option maxHeartbeats 4000000 in
theorem wr_42 {l : Launch} {G : xG} {M : xM} {J : xJ} {Q : xQ} {L k : Nat} {s : List Int32} {M1 : xM} (hL : L ≤ 128) (hk : k < L) (hl : s.length < 128) (e_L : M 1 4 = nI L) (hM : Ke WK4 M M1) (hS : Stk M1 s) {v : Int32} (e_si : M 2 k = 42) (e_va : M 3 k = v) (hC : ∀ M2, Ke WK4 M M2 → Stk M2 (ex1 (M 5) s (42, v)) → x_X l G fX3_worth 2 0 0 Q 7 [(1, .int (nI (k + 1))), (0, .ref 1)] [] x_SH M2 J 0 0) : x_X l G fX3_worth 2 0 0 Q 7 [(1, .int (nI k)), (0, .ref 1)] [] x_SH M1 J 0 0 := by
  have htl : s.tail.length ≤ s.length := by rw [List.length_tail]; omega
  have htt : s.tail.tail.length ≤ s.length := by rw [List.length_tail, List.length_tail]; omega
  refine xr_iload_n dX3_worth_7 0 rfl ?_
  refine xr_aload_n dX3_worth_8 1 rfl ?_
  refine xb_get (v := nI (L)) flX3_24 dX3_worth_9 s_1 rfl (Eq.trans (hM 1 4 (by decide)) e_L) ?_
  refine xr_icmp_ge (tgt := 175) dX3_worth_12 rfl (fun c => absurd c (nI_ge (a := k) (b := L) (by omega) (by omega))) (fun _ => ?_)
  refine xr_aload_n dX3_worth_15 1 rfl ?_
  refine xr_getR flX3_15 dX3_worth_16 s_1 rfl ?_
  refine xr_iload_n dX3_worth_19 0 rfl ?_
  refine xb_iald (j := k) (v := v) dX3_worth_20 s_3 (by omega) (by decide) (Eq.trans (hM 3 k (by unfold WK4; omega)) e_va) ?_
  refine xr_istore_n (ls2 := [(2, .int (v)), (1, .int (nI (k))), (0, .ref (1))]) dX3_worth_21 (by decide) rfl ?_
  refine xr_aload_n dX3_worth_22 2 rfl ?_
  refine xr_getR flX3_11 dX3_worth_23 s_1 rfl ?_
  refine xr_iload_n dX3_worth_26 1 rfl ?_
  refine xb_iald (j := k) (v := 42) dX3_worth_27 s_2 (by omega) (by decide) (Eq.trans (hM 2 k (by unfold WK4; omega)) e_si) ?_
  refine xr_tableOut (tgt := 146) dX3_worth_28 (by decide) rfl ?_
  refine xr_aload_n dX3_worth_146 2 rfl ?_
  refine xr_callV (As := []) (rest := []) mlX3_71 (gs_X3_unpile hS) dX3_worth_147 s_1 rfl rfl (Nat.le_of_ble_eq_true rfl) (by omega) ⟨by decide, by decide⟩ (fun v s2 M4 J2 hq => ?_)
  obtain ⟨r6, rfl, rfl, rfl, k5, ⟨hr2, hS1⟩⟩ := hq
  try dsimp only [Option.toList, List.cons_append, List.nil_append]
  subst hr2
  refine xr_istore_n (ls2 := [(3, .int ((s.headD 0))), (2, .int (v)), (1, .int (nI (k))), (0, .ref (1))]) dX3_worth_150 (by decide) rfl ?_
  refine xr_aload_n dX3_worth_151 3 rfl ?_
  refine xr_aload_n dX3_worth_152 3 rfl ?_
  refine xr_getR flX3_11 dX3_worth_153 s_1 rfl ?_
  refine xr_iload_n dX3_worth_156 2 rfl ?_
  refine xb_iald (j := k) (v := 42) dX3_worth_157 s_2 (by omega) (by decide) (Eq.trans (k5 2 k (by unfold WK4; omega)) (Eq.trans (hM 2 k (by unfold WK4; omega)) e_si)) ?_
  refine xr_aload_n dX3_worth_158 3 rfl ?_
  refine xr_callV (As := []) (rest := [.int (42), .ref (1)]) mlX3_71 (gs_X3_unpile hS1) dX3_worth_159 s_1 rfl rfl (Nat.le_of_ble_eq_true rfl) (by omega) ⟨by decide, by decide⟩ (fun v s2 M10 J2 hq => ?_)
  obtain ⟨r12, rfl, rfl, rfl, k11, ⟨hr8, hS7⟩⟩ := hq
  try dsimp only [Option.toList, List.cons_append, List.nil_append]
  subst hr8
  refine xr_iload_n dX3_worth_162 0 rfl ?_
  refine xb_cS (As := [.int (42), .int (((s.tail).headD 0)), .int ((s.headD 0))]) (rest := [.ref (1)]) mlX3_79 (c_X3_joined 42 ((s.tail).headD 0) (s.headD 0)) dX3_worth_163 rfl rfl (Nat.le_of_ble_eq_true rfl) (by omega) (by decide) ?_
  refine xr_callV (As := [.int ((jn 42 ((s.tail).headD 0) (s.headD 0)))]) (rest := []) mlX3_67 (gs_X3_pile (jn 42 ((s.tail).headD 0) (s.headD 0)) hS7 (by omega)) dX3_worth_166 s_1 rfl rfl (Nat.le_of_ble_eq_true rfl) (by omega) ⟨by decide, by decide⟩ (fun v s2 M14 J2 hq => ?_)
  obtain ⟨rfl, rfl, rfl, k15, hS13⟩ := hq
  try dsimp only [Option.toList, List.cons_append, List.nil_append]
  refine xr_iinc (v := nI (k + 1)) (ls2 := [(1, .int (nI (k + 1))), (3, .int ((s.headD 0))), (2, .int (v)), (0, .ref (1))]) dX3_worth_169 2 rfl (nI_1 _) (by decide) rfl ?_
  refine xr_goto (tgt := 7) dX3_worth_172 rfl ?_
  refine xb_ls (ls2 := [(1, .int (nI (k + 1))), (0, .ref (1))]) [0, 3] rfl ?_
  exact hC M14 (Ke.tr (fun _ _ h => h) (Ke.tr (fun _ _ h => h) (Ke.tr (fun _ _ h => h) hM k5) k11) k15) hS13
set_option maxRecDepth 100000 in
set_option maxHeartbeats 4000000 in
theorem wr_47 {l : Launch} {G : xG} {M : xM} {J : xJ} {Q : xQ} {L k : Nat} {s : List Int32} {M1 : xM} (hL : L ≤ 128) (hk : k < L) (hl : s.length < 128) (e_L : M 1 4 = nI L) (hM : Ke WK4 M M1) (hS : Stk M1 s) {v : Int32} (e_si : M 2 k = 47) (e_va : M 3 k = v) (hC : ∀ M2, Ke WK4 M M2 → Stk M2 (ex1 (M 5) s (47, v)) → x_X l G fX3_worth 2 0 0 Q 7 [(1, .int (nI (k + 1))), (0, .ref 1)] [] x_SH M2 J 0 0) : x_X l G fX3_worth 2 0 0 Q 7 [(1, .int (nI k)), (0, .ref 1)] [] x_SH M1 J 0 0 := by
  have htl : s.tail.length ≤ s.length := by rw [List.length_tail]; omega
  have htt : s.tail.tail.length ≤ s.length := by rw [List.length_tail, List.length_tail]; omega
  refine xr_iload_n dX3_worth_7 0 rfl ?_
  refine xr_aload_n dX3_worth_8 1 rfl ?_
  refine xb_get (v := nI (L)) flX3_24 dX3_worth_9 s_1 rfl (Eq.trans (hM 1 4 (by decide)) e_L) ?_
  refine xr_icmp_ge (tgt := 175) dX3_worth_12 rfl (fun c => absurd c (nI_ge (a := k) (b := L) (by omega) (by omega))) (fun _ => ?_)
  refine xr_aload_n dX3_worth_15 1 rfl ?_
  refine xr_getR flX3_15 dX3_worth_16 s_1 rfl ?_
  refine xr_iload_n dX3_worth_19 0 rfl ?_
  refine xb_iald (j := k) (v := v) dX3_worth_20 s_3 (by omega) (by decide) (Eq.trans (hM 3 k (by unfold WK4; omega)) e_va) ?_
  refine xr_istore_n (ls2 := [(2, .int (v)), (1, .int (nI (k))), (0, .ref (1))]) dX3_worth_21 (by decide) rfl ?_
  refine xr_aload_n dX3_worth_22 2 rfl ?_
  refine xr_getR flX3_11 dX3_worth_23 s_1 rfl ?_
  refine xr_iload_n dX3_worth_26 1 rfl ?_
  refine xb_iald (j := k) (v := 47) dX3_worth_27 s_2 (by omega) (by decide) (Eq.trans (hM 2 k (by unfold WK4; omega)) e_si) ?_
  refine xr_tableOut (tgt := 146) dX3_worth_28 (by decide) rfl ?_
  refine xr_aload_n dX3_worth_146 2 rfl ?_
  refine xr_callV (As := []) (rest := []) mlX3_71 (gs_X3_unpile hS) dX3_worth_147 s_1 rfl rfl (Nat.le_of_ble_eq_true rfl) (by omega) ⟨by decide, by decide⟩ (fun v s2 M4 J2 hq => ?_)
  obtain ⟨r6, rfl, rfl, rfl, k5, ⟨hr2, hS1⟩⟩ := hq
  try dsimp only [Option.toList, List.cons_append, List.nil_append]
  subst hr2
  refine xr_istore_n (ls2 := [(3, .int ((s.headD 0))), (2, .int (v)), (1, .int (nI (k))), (0, .ref (1))]) dX3_worth_150 (by decide) rfl ?_
  refine xr_aload_n dX3_worth_151 3 rfl ?_
  refine xr_aload_n dX3_worth_152 3 rfl ?_
  refine xr_getR flX3_11 dX3_worth_153 s_1 rfl ?_
  refine xr_iload_n dX3_worth_156 2 rfl ?_
  refine xb_iald (j := k) (v := 47) dX3_worth_157 s_2 (by omega) (by decide) (Eq.trans (k5 2 k (by unfold WK4; omega)) (Eq.trans (hM 2 k (by unfold WK4; omega)) e_si)) ?_
  refine xr_aload_n dX3_worth_158 3 rfl ?_
  refine xr_callV (As := []) (rest := [.int (47), .ref (1)]) mlX3_71 (gs_X3_unpile hS1) dX3_worth_159 s_1 rfl rfl (Nat.le_of_ble_eq_true rfl) (by omega) ⟨by decide, by decide⟩ (fun v s2 M10 J2 hq => ?_)
  obtain ⟨r12, rfl, rfl, rfl, k11, ⟨hr8, hS7⟩⟩ := hq
  try dsimp only [Option.toList, List.cons_append, List.nil_append]
  subst hr8
  refine xr_iload_n dX3_worth_162 0 rfl ?_
  refine xb_cS (As := [.int (47), .int (((s.tail).headD 0)), .int ((s.headD 0))]) (rest := [.ref (1)]) mlX3_79 (c_X3_joined 47 ((s.tail).headD 0) (s.headD 0)) dX3_worth_163 rfl rfl (Nat.le_of_ble_eq_true rfl) (by omega) (by decide) ?_
  refine xr_callV (As := [.int ((jn 47 ((s.tail).headD 0) (s.headD 0)))]) (rest := []) mlX3_67 (gs_X3_pile (jn 47 ((s.tail).headD 0) (s.headD 0)) hS7 (by omega)) dX3_worth_166 s_1 rfl rfl (Nat.le_of_ble_eq_true rfl) (by omega) ⟨by decide, by decide⟩ (fun v s2 M14 J2 hq => ?_)
  obtain ⟨rfl, rfl, rfl, k15, hS13⟩ := hq
  try dsimp only [Option.toList, List.cons_append, List.nil_append]
  refine xr_iinc (v := nI (k + 1)) (ls2 := [(1, .int (nI (k + 1))), (3, .int ((s.headD 0))), (2, .int (v)), (0, .ref (1))]) dX3_worth_169 2 rfl (nI_1 _) (by decide) rfl ?_
  refine xr_goto (tgt := 7) dX3_worth_172 rfl ?_
  refine xb_ls (ls2 := [(1, .int (nI (k + 1))), (0, .ref (1))]) [0, 3] rfl ?_
  exact hC M14 (Ke.tr (fun _ _ h => h) (Ke.tr (fun _ _ h => h) (Ke.tr (fun _ _ h => h) hM k5) k11) k15) hS13
set_option maxRecDepth 100000 in
set_option maxHeartbeats 4000000 in
theorem wr_37 {l : Launch} {G : xG} {M : xM} {J : xJ} {Q : xQ} {L k : Nat} {s : List Int32} {M1 : xM} (hL : L ≤ 128) (hk : k < L) (hl : s.length < 128) (e_L : M 1 4 = nI L) (hM : Ke WK4 M M1) (hS : Stk M1 s) {v : Int32} (e_si : M 2 k = 37) (e_va : M 3 k = v) (hC : ∀ M2, Ke WK4 M M2 → Stk M2 (ex1 (M 5) s (37, v)) → x_X l G fX3_worth 2 0 0 Q 7 [(1, .int (nI (k + 1))), (0, .ref 1)] [] x_SH M2 J 0 0) : x_X l G fX3_worth 2 0 0 Q 7 [(1, .int (nI k)), (0, .ref 1)] [] x_SH M1 J 0 0 := by
  have htl : s.tail.length ≤ s.length := by rw [List.length_tail]; omega
  have htt : s.tail.tail.length ≤ s.length := by rw [List.length_tail, List.length_tail]; omega
  refine xr_iload_n dX3_worth_7 0 rfl ?_
  refine xr_aload_n dX3_worth_8 1 rfl ?_
  refine xb_get (v := nI (L)) flX3_24 dX3_worth_9 s_1 rfl (Eq.trans (hM 1 4 (by decide)) e_L) ?_
  refine xr_icmp_ge (tgt := 175) dX3_worth_12 rfl (fun c => absurd c (nI_ge (a := k) (b := L) (by omega) (by omega))) (fun _ => ?_)
  refine xr_aload_n dX3_worth_15 1 rfl ?_
  refine xr_getR flX3_15 dX3_worth_16 s_1 rfl ?_
  refine xr_iload_n dX3_worth_19 0 rfl ?_
  refine xb_iald (j := k) (v := v) dX3_worth_20 s_3 (by omega) (by decide) (Eq.trans (hM 3 k (by unfold WK4; omega)) e_va) ?_
  refine xr_istore_n (ls2 := [(2, .int (v)), (1, .int (nI (k))), (0, .ref (1))]) dX3_worth_21 (by decide) rfl ?_
  refine xr_aload_n dX3_worth_22 2 rfl ?_
  refine xr_getR flX3_11 dX3_worth_23 s_1 rfl ?_
  refine xr_iload_n dX3_worth_26 1 rfl ?_
  refine xb_iald (j := k) (v := 37) dX3_worth_27 s_2 (by omega) (by decide) (Eq.trans (hM 2 k (by unfold WK4; omega)) e_si) ?_
  refine xr_tableOut (tgt := 146) dX3_worth_28 (by decide) rfl ?_
  refine xr_aload_n dX3_worth_146 2 rfl ?_
  refine xr_callV (As := []) (rest := []) mlX3_71 (gs_X3_unpile hS) dX3_worth_147 s_1 rfl rfl (Nat.le_of_ble_eq_true rfl) (by omega) ⟨by decide, by decide⟩ (fun v s2 M4 J2 hq => ?_)
  obtain ⟨r6, rfl, rfl, rfl, k5, ⟨hr2, hS1⟩⟩ := hq
  try dsimp only [Option.toList, List.cons_append, List.nil_append]
  subst hr2
  refine xr_istore_n (ls2 := [(3, .int ((s.headD 0))), (2, .int (v)), (1, .int (nI (k))), (0, .ref (1))]) dX3_worth_150 (by decide) rfl ?_
  refine xr_aload_n dX3_worth_151 3 rfl ?_
  refine xr_aload_n dX3_worth_152 3 rfl ?_
  refine xr_getR flX3_11 dX3_worth_153 s_1 rfl ?_
  refine xr_iload_n dX3_worth_156 2 rfl ?_
  refine xb_iald (j := k) (v := 37) dX3_worth_157 s_2 (by omega) (by decide) (Eq.trans (k5 2 k (by unfold WK4; omega)) (Eq.trans (hM 2 k (by unfold WK4; omega)) e_si)) ?_
  refine xr_aload_n dX3_worth_158 3 rfl ?_
  refine xr_callV (As := []) (rest := [.int (37), .ref (1)]) mlX3_71 (gs_X3_unpile hS1) dX3_worth_159 s_1 rfl rfl (Nat.le_of_ble_eq_true rfl) (by omega) ⟨by decide, by decide⟩ (fun v s2 M10 J2 hq => ?_)
  obtain ⟨r12, rfl, rfl, rfl, k11, ⟨hr8, hS7⟩⟩ := hq
  try dsimp only [Option.toList, List.cons_append, List.nil_append]
  subst hr8
  refine xr_iload_n dX3_worth_162 0 rfl ?_
  refine xb_cS (As := [.int (37), .int (((s.tail).headD 0)), .int ((s.headD 0))]) (rest := [.ref (1)]) mlX3_79 (c_X3_joined 37 ((s.tail).headD 0) (s.headD 0)) dX3_worth_163 rfl rfl (Nat.le_of_ble_eq_true rfl) (by omega) (by decide) ?_
  refine xr_callV (As := [.int ((jn 37 ((s.tail).headD 0) (s.headD 0)))]) (rest := []) mlX3_67 (gs_X3_pile (jn 37 ((s.tail).headD 0) (s.headD 0)) hS7 (by omega)) dX3_worth_166 s_1 rfl rfl (Nat.le_of_ble_eq_true rfl) (by omega) ⟨by decide, by decide⟩ (fun v s2 M14 J2 hq => ?_)
  obtain ⟨rfl, rfl, rfl, k15, hS13⟩ := hq
  try dsimp only [Option.toList, List.cons_append, List.nil_append]
  refine xr_iinc (v := nI (k + 1)) (ls2 := [(1, .int (nI (k + 1))), (3, .int ((s.headD 0))), (2, .int (v)), (0, .ref (1))]) dX3_worth_169 2 rfl (nI_1 _) (by decide) rfl ?_
  refine xr_goto (tgt := 7) dX3_worth_172 rfl ?_
  refine xb_ls (ls2 := [(1, .int (nI (k + 1))), (0, .ref (1))]) [0, 3] rfl ?_
  exact hC M14 (Ke.tr (fun _ _ h => h) (Ke.tr (fun _ _ h => h) (Ke.tr (fun _ _ h => h) hM k5) k11) k15) hS13
set_option maxRecDepth 100000 in
set_option maxHeartbeats 4000000 in
theorem wr_3 {l : Launch} {G : xG} {M : xM} {J : xJ} {Q : xQ} {L k : Nat} {s : List Int32} {M1 : xM} (hL : L ≤ 128) (hk : k < L) (hl : s.length < 128) (e_L : M 1 4 = nI L) (hM : Ke WK4 M M1) (hS : Stk M1 s) {v : Int32} (e_si : M 2 k = 3) (e_va : M 3 k = v) (hQ : ∀ M2, Ke WK4 M M2 → Q (some (.int (s.headD 0))) x_SH M2 J) : x_X l G fX3_worth 2 0 0 Q 7 [(1, .int (nI k)), (0, .ref 1)] [] x_SH M1 J 0 0 := by
  have htl : s.tail.length ≤ s.length := by rw [List.length_tail]; omega
  have htt : s.tail.tail.length ≤ s.length := by rw [List.length_tail, List.length_tail]; omega
  refine xr_iload_n dX3_worth_7 0 rfl ?_
  refine xr_aload_n dX3_worth_8 1 rfl ?_
  refine xb_get (v := nI (L)) flX3_24 dX3_worth_9 s_1 rfl (Eq.trans (hM 1 4 (by decide)) e_L) ?_
  refine xr_icmp_ge (tgt := 175) dX3_worth_12 rfl (fun c => absurd c (nI_ge (a := k) (b := L) (by omega) (by omega))) (fun _ => ?_)
  refine xr_aload_n dX3_worth_15 1 rfl ?_
  refine xr_getR flX3_15 dX3_worth_16 s_1 rfl ?_
  refine xr_iload_n dX3_worth_19 0 rfl ?_
  refine xb_iald (j := k) (v := v) dX3_worth_20 s_3 (by omega) (by decide) (Eq.trans (hM 3 k (by unfold WK4; omega)) e_va) ?_
  refine xr_istore_n (ls2 := [(2, .int (v)), (1, .int (nI (k))), (0, .ref (1))]) dX3_worth_21 (by decide) rfl ?_
  refine xr_aload_n dX3_worth_22 2 rfl ?_
  refine xr_getR flX3_11 dX3_worth_23 s_1 rfl ?_
  refine xr_iload_n dX3_worth_26 1 rfl ?_
  refine xb_iald (j := k) (v := 3) dX3_worth_27 s_2 (by omega) (by decide) (Eq.trans (hM 2 k (by unfold WK4; omega)) e_si) ?_
  refine xr_tableIn (tgt := 125) dX3_worth_28 (by decide) (by decide) rfl rfl ?_
  refine xr_aload_n dX3_worth_125 2 rfl ?_
  refine xr_callV (As := []) (rest := []) mlX3_71 (gs_X3_unpile hS) dX3_worth_126 s_1 rfl rfl (Nat.le_of_ble_eq_true rfl) (by omega) ⟨by decide, by decide⟩ (fun v s2 M4 J2 hq => ?_)
  obtain ⟨r6, rfl, rfl, rfl, k5, ⟨hr2, hS1⟩⟩ := hq
  try dsimp only [Option.toList, List.cons_append, List.nil_append]
  subst hr2
  exact xr_iret dX3_worth_129 rfl rfl (hQ M4 (Ke.tr (fun _ _ h => h) hM k5))
set_option maxRecDepth 100000 in
set_option maxHeartbeats 4000000 in
theorem wr_2 {l : Launch} {G : xG} {M : xM} {J : xJ} {Q : xQ} {L k t : Nat} {s : List Int32} {M1 : xM} (hL : L ≤ 128) (hk : k < L) (ht : k < t) (ht2 : t < 200) (e_L : M 1 4 = nI L) (hM : Ke WK4 M M1) (hS : Stk M1 s) (e_si : M 2 k = 2) (e_va : M 3 k = nI t) (hC0 : s.headD 0 = 0 → ∀ M2, Ke WK4 M M2 → Stk M2 s.tail → x_X l G fX3_worth 2 0 0 Q 7 [(1, .int (nI (t + 1))), (0, .ref 1)] [] x_SH M2 J 0 0) (hC1 : ¬ s.headD 0 = 0 → ∀ M2, Ke WK4 M M2 → Stk M2 s.tail → x_X l G fX3_worth 2 0 0 Q 7 [(1, .int (nI (k + 1))), (0, .ref 1)] [] x_SH M2 J 0 0) : x_X l G fX3_worth 2 0 0 Q 7 [(1, .int (nI k)), (0, .ref 1)] [] x_SH M1 J 0 0 := by
  refine xr_iload_n dX3_worth_7 0 rfl ?_
  refine xr_aload_n dX3_worth_8 1 rfl ?_
  refine xb_get (v := nI (L)) flX3_24 dX3_worth_9 s_1 rfl (Eq.trans (hM 1 4 (by decide)) e_L) ?_
  refine xr_icmp_ge (tgt := 175) dX3_worth_12 rfl (fun c => absurd c (nI_ge (a := k) (b := L) (by omega) (by omega))) (fun _ => ?_)
  refine xr_aload_n dX3_worth_15 1 rfl ?_
  refine xr_getR flX3_15 dX3_worth_16 s_1 rfl ?_
  refine xr_iload_n dX3_worth_19 0 rfl ?_
  refine xb_iald (j := k) (v := nI (t)) dX3_worth_20 s_3 (by omega) (by decide) (Eq.trans (hM 3 k (by unfold WK4; omega)) e_va) ?_
  refine xr_istore_n (ls2 := [(2, .int (nI (t))), (1, .int (nI (k))), (0, .ref (1))]) dX3_worth_21 (by decide) rfl ?_
  refine xr_aload_n dX3_worth_22 2 rfl ?_
  refine xr_getR flX3_11 dX3_worth_23 s_1 rfl ?_
  refine xr_iload_n dX3_worth_26 1 rfl ?_
  refine xb_iald (j := k) (v := 2) dX3_worth_27 s_2 (by omega) (by decide) (Eq.trans (hM 2 k (by unfold WK4; omega)) e_si) ?_
  refine xr_tableIn (tgt := 130) dX3_worth_28 (by decide) (by decide) rfl rfl ?_
  refine xr_aload_n dX3_worth_130 2 rfl ?_
  refine xr_callV (As := []) (rest := []) mlX3_71 (gs_X3_unpile hS) dX3_worth_131 s_1 rfl rfl (Nat.le_of_ble_eq_true rfl) (by omega) ⟨by decide, by decide⟩ (fun v s2 M4 J2 hq => ?_)
  obtain ⟨r6, rfl, rfl, rfl, k5, ⟨hr2, hS1⟩⟩ := hq
  try dsimp only [Option.toList, List.cons_append, List.nil_append]
  subst hr2
  refine xr_if_ne (tgt := 169) dX3_worth_134 rfl (fun c7 => ?_) (fun c7 => ?_)
  · refine xr_iinc (v := nI (k + 1)) (ls2 := [(1, .int (nI (k + 1))), (2, .int (nI (t))), (0, .ref (1))]) dX3_worth_169 1 rfl (nI_1 _) (by decide) rfl ?_
    refine xr_goto (tgt := 7) dX3_worth_172 rfl ?_
    refine xb_ls (ls2 := [(1, .int (nI (k + 1))), (0, .ref (1))]) [0, 2] rfl ?_
    exact hC1 c7 M4 (Ke.tr (fun _ _ h => h) hM k5) hS1
  · refine xr_iload_n dX3_worth_137 1 rfl ?_
    refine xr_iload_n dX3_worth_138 0 rfl ?_
    refine xr_max mmX3_74 uj_max uj_mi uj_maxc dX3_worth_139 (Nat.le_of_ble_eq_true rfl) (by decide) ?_
    refine xb_top (y := nI t) (if_pos (nI_lt (a := k) (b := t) (by omega) (by omega))) ?_
    refine xr_istore_n (ls2 := [(1, .int (nI (t))), (2, .int (nI (t))), (0, .ref (1))]) dX3_worth_142 (by decide) rfl ?_
    refine xr_goto (tgt := 169) dX3_worth_143 rfl ?_
    refine xr_iinc (v := nI (t + 1)) (ls2 := [(1, .int (nI (t + 1))), (2, .int (nI (t))), (0, .ref (1))]) dX3_worth_169 0 rfl (nI_1 _) (by decide) rfl ?_
    refine xr_goto (tgt := 7) dX3_worth_172 rfl ?_
    refine xb_ls (ls2 := [(1, .int (nI (t + 1))), (0, .ref (1))]) [0, 2] rfl ?_
    exact hC0 c7 M4 (Ke.tr (fun _ _ h => h) hM k5) hS1
set_option maxRecDepth 100000 in
set_option maxHeartbeats 4000000 in
theorem wr_end {l : Launch} {G : xG} {M : xM} {J : xJ} {Q : xQ} {L : Nat} {M1 : xM} (hL : L ≤ 128) (e_L : M 1 4 = nI L) (hM : Ke WK4 M M1) (hQ : Q (some (.int 0)) x_SH M1 J) : x_X l G fX3_worth 2 0 0 Q 7 [(1, .int (nI L)), (0, .ref 1)] [] x_SH M1 J 0 0 := by
  refine xr_iload_n dX3_worth_7 0 rfl ?_
  refine xr_aload_n dX3_worth_8 1 rfl ?_
  refine xb_get (v := nI (L)) flX3_24 dX3_worth_9 s_1 rfl (Eq.trans (hM 1 4 (by decide)) e_L) ?_
  refine xr_icmp_ge (tgt := 175) dX3_worth_12 rfl (fun _ => ?_) (fun c => absurd (nI_le (a := L) (b := L) (by omega) (by omega)) c)
  refine xr_iconst (v := 0) dX3_worth_175 rfl ?_
  exact xr_iret dX3_worth_176 rfl rfl (hQ)
set_option maxRecDepth 100000 in
set_option maxHeartbeats 4000000 in
theorem ex1_len {nm : Nat → Int32} {s : List Int32} {e : Int32 × Int32} : (ex1 nm s e).length ≤ s.length + 1 := by
  have ht : s.tail.length ≤ s.length := by rw [List.length_tail]; omega
  have ht2 : s.tail.tail.length ≤ s.length := by rw [List.length_tail, List.length_tail]; omega
  unfold ex1
  split
  · exact Nat.le_refl _
  · split
    · exact Nat.le_refl _
    · split
      · exact Nat.succ_le_succ ht
      · split
        · exact Nat.succ_le_succ ht
        · exact Nat.succ_le_succ ht2
theorem wr_run {l : Launch} {G : xG} {M : xM} {J : xJ} {Q : xQ} {L : Nat} (hL : L ≤ 128) (e_L : M 1 4 = nI L) : ∀ (cd : zC) (k : Nat) (s : List Int32) (M1 : xM), CV cd → CL M k cd → k + cd.length ≤ L → s.length + cd.length ≤ 128 → Ke WK4 M M1 → Stk M1 s → (∀ M2, Ke WK4 M M2 → Stk M2 (exL (M 5) cd s) → x_X l G fX3_worth 2 0 0 Q 7 [(1, .int (nI (k + cd.length))), (0, .ref 1)] [] x_SH M2 J 0 0) → x_X l G fX3_worth 2 0 0 Q 7 [(1, .int (nI (k))), (0, .ref 1)] [] x_SH M1 J 0 0 := by
  intro cd
  induction cd with
  | nil => intro k s M1 _ _ _ _ hM hS hC; exact hC M1 hM hS
  | cons e t ih =>
    intro k s M1 hcv hcl hkl hsl hM hS hC
    have h1 : k + (t.length + 1) ≤ L := hkl
    have h2 : s.length + (t.length + 1) ≤ 128 := hsl
    have hn : ∀ M2, Ke WK4 M M2 → Stk M2 (ex1 (M 5) s e) → x_X l G fX3_worth 2 0 0 Q 7 [(1, .int (nI (k + 1))), (0, .ref 1)] [] x_SH M2 J 0 0 := fun M2 hM2 hS2 => ih (k + 1) (ex1 (M 5) s e) M2 (fun x hx => hcv x (List.mem_cons_of_mem _ hx)) (CL_t hcl) (by omega) (by have := ex1_len (nm := M 5) (s := s) (e := e); omega) hM2 hS2 (fun M3 h3 h4 => by have h5 := hC M3 h3 h4; rwa [show k + (e :: t).length = k + 1 + t.length by show k + (t.length + 1) = _; omega] at h5)
    have hh := CL_h hcl
    obtain ⟨g, v⟩ := e
    rcases hcv (g, v) (List.mem_cons_self) with h | ⟨h, h3, h4⟩ | h | h | h
    · obtain rfl : g = 0 := h
      exact wr_0 hL (by omega) (by omega) e_L hM hS hh.1 hh.2 hn
    · obtain rfl : g = 1 := h
      obtain ⟨j, hj, ej⟩ := x_natle (v := v) (N := 5) (K := 5) (by decide) (by decide) ⟨h3, h4⟩
      obtain rfl : v = nI j := ej
      exact wr_1 hL (by omega) (by omega) e_L hM hS (show j < 6 by omega) ((show ∀ j, j < 6 → (if 0 < (if nI j < 5 then nI j else 5) then (if nI j < 5 then nI j else 5) else 0) = nI j by decide +kernel) j (by omega)) hh.1 hh.2 hn
    · obtain rfl : g = 4 := h
      exact wr_4 hL (by omega) (by omega) e_L hM hS hh.1 hh.2 hn
    · obtain rfl : g = 5 := h
      exact wr_5 hL (by omega) (by omega) e_L hM hS hh.1 hh.2 hn
    · rcases h with h | h | h | h | h | h | h | h | h | h
      · obtain rfl : g = 124 := h
        exact wr_124 hL (by omega) (by omega) e_L hM hS hh.1 hh.2 hn
      · obtain rfl : g = 38 := h
        exact wr_38 hL (by omega) (by omega) e_L hM hS hh.1 hh.2 hn
      · obtain rfl : g = 60 := h
        exact wr_60 hL (by omega) (by omega) e_L hM hS hh.1 hh.2 hn
      · obtain rfl : g = 61 := h
        exact wr_61 hL (by omega) (by omega) e_L hM hS hh.1 hh.2 hn
      · obtain rfl : g = 62 := h
        exact wr_62 hL (by omega) (by omega) e_L hM hS hh.1 hh.2 hn
      · obtain rfl : g = 43 := h
        exact wr_43 hL (by omega) (by omega) e_L hM hS hh.1 hh.2 hn
      · obtain rfl : g = 45 := h
        exact wr_45 hL (by omega) (by omega) e_L hM hS hh.1 hh.2 hn
      · obtain rfl : g = 42 := h
        exact wr_42 hL (by omega) (by omega) e_L hM hS hh.1 hh.2 hn
      · obtain rfl : g = 47 := h
        exact wr_47 hL (by omega) (by omega) e_L hM hS hh.1 hh.2 hn
      · obtain rfl : g = 37 := h
        exact wr_37 hL (by omega) (by omega) e_L hM hS hh.1 hh.2 hn
/-- lines as they may lie, each working out one number -/
def CVL (nm : Nat → Int32) : zL → Prop
  | [] => True
  | (c1, none) :: t => (CV c1 ∧ gv1 nm c1) ∧ CVL nm t
  | (c1, some c2) :: t => (CV c1 ∧ gv1 nm c1) ∧ (CV c2 ∧ gv1 nm c2) ∧ CVL nm t
theorem wr_txt {l : Launch} {G : xG} {M : xM} {J : xJ} {Q : xQ} {L : Nat} (hL : L ≤ 128) (e_L : M 1 4 = nI L) : ∀ (ls : zL) (n : Nat) (M1 : xM), CVL (M 5) ls → CL M n (tcode n ls) → n + (tcode n ls).length = L → Ke WK4 M M1 → Stk M1 [] → (∀ M2, Ke WK4 M M2 → Q (some (.int (evT (M 5) ls))) x_SH M2 J) → x_X l G fX3_worth 2 0 0 Q 7 [(1, .int (nI (n))), (0, .ref 1)] [] x_SH M1 J 0 0 := by
  intro ls
  induction ls with
  | nil =>
    intro n M1 _ _ hn hM _ hQ
    obtain rfl : n = L := hn
    exact wr_end hL e_L hM (hQ M1 hM)
  | cons e t ih =>
    intro n M1 hcv hcl hn hM hS hQ
    obtain ⟨c1, o⟩ := e
    cases o with
    | none =>
      obtain ⟨⟨hc1, hg1⟩, -⟩ := hcv
      have hcl0 : CL M n (lcode n c1 none ++ tcode (n + (lcode n c1 none).length) t) := hcl
      have hl0 : n + (lcode n c1 none ++ tcode (n + (lcode n c1 none).length) t).length = L := hn
      rw [List.length_append, lcode_l1] at hl0
      have hcl9 : CL M n (c1 ++ [(3, 0)]) := (CL_a hcl0).1
      have hcl1 := CL_a hcl9
      refine wr_run hL e_L c1 n [] M1 hc1 hcl1.1 (by omega) (by show 0 + c1.length ≤ 128; omega) hM hS (fun M2 hM2 hS2 => ?_)
      rw [gv_val hg1] at hS2
      have hh := CL_h hcl1.2
      exact wr_3 (s := [valF (M 5) c1]) hL (by omega) (by show 0 + 1 < 128; omega) e_L hM2 hS2 hh.1 hh.2 (fun M3 h3 => hQ M3 h3)
    | some c2 =>
      obtain ⟨⟨hc1, hg1⟩, ⟨hc2, hg2⟩, hct⟩ := hcv
      have hcl0 : CL M n (lcode n c1 (some c2) ++ tcode (n + (lcode n c1 (some c2)).length) t) := hcl
      have hl0 : n + (lcode n c1 (some c2) ++ tcode (n + (lcode n c1 (some c2)).length) t).length = L := hn
      rw [List.length_append, lcode_l2] at hl0
      have hcl1 : CL M n (c1 ++ ((2, nI (n + c1.length + 1 + c2.length)) :: (c2 ++ [(3, 0)]))) := (CL_a hcl0).1
      have hclt := (CL_a hcl0).2
      rw [lcode_l2] at hclt
      have hcl2 := CL_a hcl1
      have hcl3 := CL_a (CL_t hcl2.2)
      refine wr_run hL e_L c1 n [] M1 hc1 hcl2.1 (by omega) (by show 0 + c1.length ≤ 128; omega) hM hS (fun M2 hM2 hS2 => ?_)
      rw [gv_val hg1] at hS2
      have hh := CL_h hcl2.2
      refine wr_2 (s := [valF (M 5) c1]) (t := n + c1.length + 1 + c2.length) hL (by omega) (by omega) (by omega) e_L hM2 hS2 hh.1 hh.2 (fun hz M3 h3 hS3 => ?_) (fun hz M3 h3 hS3 => ?_)
      · have ht := ih (n + (c1.length + (c2.length + 2))) M3 hct hclt (by omega) h3 hS3 (fun M4 h4 => by have := hQ M4 h4; rwa [show evT (M 5) ((c1, some c2) :: t) = evT (M 5) t from if_pos hz] at this)
        rwa [show n + (c1.length + (c2.length + 2)) = n + c1.length + 1 + c2.length + 1 by omega] at ht
      · refine wr_run hL e_L c2 (n + c1.length + 1) [] M3 hc2 hcl3.1 (by omega) (by show 0 + c2.length ≤ 128; omega) h3 hS3 (fun M4 h4 hS4 => ?_)
        rw [gv_val hg2] at hS4
        have hh3 := CL_h hcl3.2
        exact wr_3 (s := [valF (M 5) c2]) hL (by omega) (by show 0 + 1 < 128; omega) e_L h4 hS4 hh3.1 hh3.2 (fun M5 h5 => by have := hQ M5 h5; rwa [show evT (M 5) ((c1, some c2) :: t) = valF (M 5) c2 from if_neg hz] at this)
set_option maxRecDepth 100000 in
set_option maxHeartbeats 4000000 in
theorem gs_X3_worth {l : Launch} {G : xG} {M : xM} {J : xJ} {ls : zL} {L : Nat} (hL : L ≤ 128) (e_L : M 1 4 = nI L) (hcv : CVL (M 5) ls) (hcl : CL M 0 (tcode 0 ls)) (hln : (tcode 0 ls).length = L) : x_M l G fX3_worth 2 0 0 [.ref 1] x_SH M J (qKI WK4 M J (fun r M2 => r = evT (M 5) ls)) := by
  refine xb_of pX3 (Nat.le_of_ble_eq_true rfl) rfl ?_
  refine xr_aload_n dX3_worth_0 0 rfl ?_
  refine xr_iconst (v := 0) dX3_worth_1 rfl ?_
  refine xr_putI fpX3_64 dX3_worth_2 s_1 rfl rfl rfl ?_
  refine xr_iconst (v := 0) dX3_worth_5 rfl ?_
  refine xr_istore_n (ls2 := [(1, .int (0)), (0, .ref (1))]) dX3_worth_6 (by decide) rfl ?_
  refine xb_ls (ls2 := [(1, .int (nI (0))), (0, .ref (1))]) [0, 1] rfl ?_
  exact wr_txt hL e_L ls 0 (x_up M 1 5 0) hcv hcl (by omega) (Ke.up (Or.inr (by omega)) Ke.rf) (Stk_0 (x_up_s _ _ _ _)) (fun M2 h2 => ⟨_, rfl, rfl, rfl, h2, rfl⟩)
theorem lnB_cv {T : Nat → Int32} {E f a : Nat} (nm : Nat → Int32) {r : Nat × Bool × zC × Option zC} (h : lnB T E f a = some r) (hok : r.2.1 = true) : (CV r.2.2.1 ∧ gv1 nm r.2.2.1) ∧ ∀ c2, r.2.2.2 = some c2 → CV c2 ∧ gv1 nm c2 := by
  unfold lnB at h
  obtain ⟨r1, h1, h2⟩ := Option.bind_eq_some_iff.mp h
  by_cases c : r1.2.1 = true ∧ nb T E r1.1 = 63
  · rw [if_pos c] at h2
    obtain ⟨q, h3, h4⟩ := Option.bind_eq_some_iff.mp h2
    obtain rfl := Option.some.inj h4
    refine ⟨⟨pz_cv _ _ _ _ _ _ _ _ h1 (fun z => absurd z (by decide)), pz_gv nm _ _ _ _ _ _ _ _ h1 (fun z => absurd z (by decide)) c.1⟩, fun c2 hc => ?_⟩
    obtain rfl := Option.some.inj hc
    exact ⟨pz_cv _ _ _ _ _ _ _ _ h3 (fun z => absurd z (by decide)), pz_gv nm _ _ _ _ _ _ _ _ h3 (fun z => absurd z (by decide)) hok⟩
  · rw [if_neg c] at h2
    obtain rfl := Option.some.inj h2
    exact ⟨⟨pz_cv _ _ _ _ _ _ _ _ h1 (fun z => absurd z (by decide)), pz_gv nm _ _ _ _ _ _ _ _ h1 (fun z => absurd z (by decide)) hok⟩, fun c2 hc => absurd (show none = some c2 from hc) (by simp)⟩
theorem CVL_c {nm : Nat → Int32} {c1 : zC} {o : Option zC} {t : zL} (h : (CV c1 ∧ gv1 nm c1) ∧ ∀ c2, o = some c2 → CV c2 ∧ gv1 nm c2) (h2 : CVL nm t) : CVL nm ((c1, o) :: t) := by
  cases o with
  | none => exact ⟨h.1, h2⟩
  | some c2 => exact ⟨h.1, h.2 c2 rfl, h2⟩
theorem txB_cv {T : Nat → Int32} {E f : Nat} (nm : Nat → Int32) : ∀ (g a : Nat) (r : Nat × Bool × zL), txB T E f g a = some r → r.2.1 = true → CVL nm r.2.2 := by
  intro g
  induction g with
  | zero => intro a r h; exact absurd (show (none : Option (Nat × Bool × zL)) = some r from h) (by simp)
  | succ g ih =>
    intro a r h hok
    rw [txB_s] at h
    obtain ⟨r1, h1, h2⟩ := Option.bind_eq_some_iff.mp h
    by_cases c : r1.2.1 = true ∧ nb T E r1.1 = 59
    · rw [if_pos c] at h2
      obtain ⟨q, h3, h4⟩ := Option.bind_eq_some_iff.mp h2
      obtain rfl := Option.some.inj h4
      exact CVL_c (lnB_cv nm h1 c.1) (ih _ _ h3 hok)
    · rw [if_neg c] at h2
      obtain rfl := Option.some.inj h2
      exact CVL_c (lnB_cv nm h1 hok) trivial
theorem ex1_c {nm nm2 : Nat → Int32} (h : ∀ j, j < 6 → nm j = nm2 j) {e : Int32 × Int32} (he : e.1 = 0 ∨ e.1 = 1 ∧ 0 ≤ e.2 ∧ e.2 ≤ 5 ∨ e.1 = 4 ∨ e.1 = 5 ∨ isJn e.1) (s : List Int32) : ex1 nm s e = ex1 nm2 s e := by
  unfold ex1
  by_cases c0 : e.1 = 0
  · rw [if_pos c0, if_pos c0]
  · rw [if_neg c0, if_neg c0]
    by_cases c1 : e.1 = 1
    · rw [if_pos c1, if_pos c1]
      rcases he with he | ⟨-, h1, h2⟩ | he | he | he
      · exact absurd he c0
      · obtain ⟨j, hj, ej⟩ := x_natle (v := e.2) (N := 5) (K := 5) (by decide) (by decide) ⟨h1, h2⟩
        rw [ej, nI_clamp (by omega), h j (by omega)]
      · rw [c1] at he; exact absurd he (by decide)
      · rw [c1] at he; exact absurd he (by decide)
      · rw [c1] at he; exact absurd he (by unfold isJn; decide)
    · rw [if_neg c1, if_neg c1]
theorem exL_c {nm nm2 : Nat → Int32} (h : ∀ j, j < 6 → nm j = nm2 j) : ∀ (cd : zC) (s : List Int32), CV cd → exL nm cd s = exL nm2 cd s := by
  intro cd
  induction cd with
  | nil => intro s _; rfl
  | cons e t ih =>
    intro s hc
    show exL nm t (ex1 nm s e) = exL nm2 t (ex1 nm2 s e)
    rw [ex1_c h (hc e (List.mem_cons_self)) s]
    exact ih _ (fun x hx => hc x (List.mem_cons_of_mem _ hx))
theorem valF_c {nm nm2 : Nat → Int32} (h : ∀ j, j < 6 → nm j = nm2 j) {cd : zC} (hc : CV cd) : valF nm cd = valF nm2 cd := by unfold valF; rw [exL_c h cd [] hc]
theorem evT_c {nm nm2 : Nat → Int32} (h : ∀ j, j < 6 → nm j = nm2 j) : ∀ (ls : zL), CVL nm ls → evT nm ls = evT nm2 ls := by
  intro ls
  induction ls with
  | nil => intro _; rfl
  | cons e t ih =>
    intro hc
    obtain ⟨c1, o⟩ := e
    cases o with
    | none => exact valF_c h hc.1.1
    | some c2 =>
      show (if valF nm c1 = 0 then evT nm t else valF nm c2) = (if valF nm2 c1 = 0 then evT nm2 t else valF nm2 c2)
      rw [valF_c h hc.1.1, valF_c h hc.2.1.1, ih hc.2.2]
