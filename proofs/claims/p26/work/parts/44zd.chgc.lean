/-- what may be changed: 0..4 sizes, 5..9 heavies, 10..14 paces, 15.. RUB, BEAT, PHASE, STRENGTH, KNOCK -/
def gK (D : xM) (S : Nat → Int32) (q : Nat) : Int32 := if q < 5 then D q 0 else if q < 10 then D (q - 5) 1 else if q < 15 then D (q - 10) 3 else S (q - 14)
def dK (D : xM) (q : Nat) (v : Int32) : xM := if q < 5 then x_up D q 0 v else if q < 10 then x_up D (q - 5) 1 v else if q < 15 then x_up D (q - 10) 3 v else D
def sK (S : Nat → Int32) (q : Nat) (v : Int32) : Nat → Int32 := if q < 15 then S else fun j => if j = q - 14 then v else S j
/-- a pace of one that lies is laid as 0 -/
def lK (D : xM) (q : Nat) (v : Int32) : Int32 := if (10 ≤ q ∧ q < 15) ∧ D (q - 10) 4 = 0 then 0 else v
/-- may v come there, by the thing's number -/
def okW : Nat → Int32 → Int32 → Int32 → Prop
  | 0, _, _, v => 1 ≤ v ∧ v ≤ 9
  | 1, _, _, v => 1 ≤ v ∧ v ≤ 9
  | 2, hi, _, v => hi = 0 ∧ v = 0 ∨ ¬ hi = 0 ∧ (-9 ≤ v ∧ v ≤ 9)
  | 3, _, _, v => 0 ≤ v ∧ v ≤ 3
  | 4, _, _, v => 2 ≤ v ∧ v ≤ 24
  | 5, _, bt, v => 0 ≤ v ∧ v < bt
  | 6, _, _, v => 0 ≤ v ∧ v ≤ 5
  | _, _, _, v => 0 ≤ v ∧ v ≤ 12
/-- bounds that never move -/
def bdK (q : Nat) (v : Int32) : Prop := (q < 10 → 1 ≤ v ∧ v ≤ 9) ∧ (10 ≤ q ∧ q < 15 → -9 ≤ v ∧ v ≤ 9) ∧ (q = 15 → 0 ≤ v ∧ v ≤ 3) ∧ (q = 16 → 2 ≤ v ∧ v ≤ 24)
/-- what was changed: places, what they were, what they became -/
abbrev xL : Type := (Nat → Nat) × (Nat → Int32) × (Nat → Int32)
def CLg (M : xM) (l : xL) (u w : Nat) : Prop := M 41 4 = nI u ∧ M 41 5 = nI w ∧ ∀ k, k < w → (M 42 k = (if l.1 k < 15 then nI (l.1 k % 5) else 0) ∧ M 43 k = (if l.1 k < 15 then nI (l.1 k / 5) else nI (l.1 k - 12))) ∧ M 44 k = l.2.1 k ∧ M 45 k = l.2.2 k
def RLg (M : xM) (l : xL) (u w : Nat) : Prop := M 62 5 = nI u ∧ M 62 4 = nI w ∧ ∀ k, k < w → M 64 k = nI (l.1 k) ∧ M 65 k = l.2.1 k ∧ M 66 k = l.2.2 k
def WLg (n : Nat) (l : xL) (u w : Nat) : Prop := u ≤ w ∧ w ≤ 40 ∧ ∀ k, k < w → l.1 k < 20 ∧ (l.1 k < 15 → l.1 k % 5 < n) ∧ bdK (l.1 k) (l.2.1 k) ∧ bdK (l.1 k) (l.2.2 k)
/-- one more -/
def ntF {α : Type} (u : Nat) (f : Nat → α) (v : α) : Nat → α := if u = 40 then fun k => if k = 39 then v else f (k + 1) else fun k => if k = u then v else f k
def ntU (u : Nat) : Nat := if u = 40 then 40 else u + 1
def ntL (u : Nat) (l : xL) (q : Nat) (a b : Int32) : xL := (ntF u l.1 q, ntF u l.2.1 a, ntF u l.2.2 b)
theorem ntU_b {u : Nat} (h : u ≤ 40) : ntU u ≤ 40 := by unfold ntU; split <;> omega
theorem WLg_nt {n u w : Nat} {l : xL} {q : Nat} {a b : Int32} (h : WLg n l u w) (hq : q < 20) (hqn : q < 15 → q % 5 < n) (ha : bdK q a) (hb : bdK q b) : WLg n (ntL u l q a b) (ntU u) (ntU u) := by
  obtain ⟨h1, h2, h3⟩ := h
  refine ⟨Nat.le_refl _, ntU_b (by omega), fun k hk => ?_⟩
  show ntF u l.1 q k < 20 ∧ (ntF u l.1 q k < 15 → ntF u l.1 q k % 5 < n) ∧ bdK (ntF u l.1 q k) (ntF u l.2.1 a k) ∧ bdK (ntF u l.1 q k) (ntF u l.2.2 b k)
  unfold ntU at hk
  unfold ntF
  by_cases e : u = 40
  · rw [if_pos e] at hk
    rw [if_pos e, if_pos e, if_pos e]
    by_cases c : k = 39
    · simp only [if_pos c]; exact ⟨hq, hqn, ha, hb⟩
    · simp only [if_neg c]; exact h3 (k + 1) (by omega)
  · rw [if_neg e] at hk
    rw [if_neg e, if_neg e, if_neg e]
    by_cases c : k = u
    · simp only [if_pos c]; exact ⟨hq, hqn, ha, hb⟩
    · simp only [if_neg c]; exact h3 k (by omega)
/-- rows as note leaves them -/
def NTr (M M2 : xM) (p u : Nat) (v : Int32) : Prop := ∀ k, k < 40 → M2 p k = ntF u (M p) v k
theorem NTr_1 {M M2 : xM} {p u : Nat} {v : Int32} (hu : u < 40) (h : M2 p u = v) (h2 : ∀ k, k ≠ u → M2 p k = M p k) : NTr M M2 p u v := fun k hk => by
  unfold ntF
  rw [if_neg (by omega)]
  by_cases c : k = u
  · rw [if_pos c, c]; exact h
  · rw [if_neg c]; exact h2 k c
theorem NTr_2 {M M2 : xM} {p : Nat} {v : Int32} (h : M2 p 39 = v) (h2 : ∀ k, k < 39 → M2 p k = M p (k + 1)) : NTr M M2 p 40 v := fun k hk2 => by
  unfold ntF
  rw [if_pos rfl]
  by_cases c : k = 39
  · rw [if_pos c, c]; exact h
  · rw [if_neg c]; exact h2 k (by omega)
theorem CLg_nt {M M2 : xM} {l : xL} {u w q : Nat} {nu wh a b : Int32} (h : CLg M l u w) (huw : u ≤ w) (hu : u ≤ 40) (h1 : NTr M M2 42 u nu) (h2 : NTr M M2 43 u wh) (h3 : NTr M M2 44 u a) (h4 : NTr M M2 45 u b) (e4 : M2 41 4 = nI (ntU u)) (e5 : M2 41 5 = nI (ntU u))
    (hn : nu = (if q < 15 then nI (q % 5) else 0)) (hw : wh = (if q < 15 then nI (q / 5) else nI (q - 12))) : CLg M2 (ntL u l q a b) (ntU u) (ntU u) := by
  refine ⟨e4, e5, fun k hk => ?_⟩
  have hk4 : k < 40 := Nat.lt_of_lt_of_le hk (ntU_b hu)
  rw [h1 k hk4, h2 k hk4, h3 k hk4, h4 k hk4]
  show (ntF u (M 42) nu k = (if ntF u l.1 q k < 15 then nI (ntF u l.1 q k % 5) else 0) ∧ ntF u (M 43) wh k = (if ntF u l.1 q k < 15 then nI (ntF u l.1 q k / 5) else nI (ntF u l.1 q k - 12))) ∧ ntF u (M 44) a k = ntF u l.2.1 a k ∧ ntF u (M 45) b k = ntF u l.2.2 b k
  unfold ntU at hk
  unfold ntF
  by_cases e : u = 40
  · rw [if_pos e] at hk
    simp only [if_pos e]
    by_cases c : k = 39
    · simp only [if_pos c]; exact ⟨⟨hn, hw⟩, (by first | rfl | trivial), (by first | rfl | trivial)⟩
    · simp only [if_neg c]; exact h.2.2 (k + 1) (by omega)
  · rw [if_neg e] at hk
    simp only [if_neg e]
    by_cases c : k = u
    · simp only [if_pos c]; exact ⟨⟨hn, hw⟩, (by first | rfl | trivial), (by first | rfl | trivial)⟩
    · simp only [if_neg c]; exact h.2.2 k (by omega)
theorem RLg_nt {M M2 : xM} {l : xL} {u w q : Nat} {a b : Int32} (h : RLg M l u w) (huw : u ≤ w) (hu : u ≤ 40) (h1 : NTr M M2 64 u (nI q)) (h3 : NTr M M2 65 u a) (h4 : NTr M M2 66 u b) (e4 : M2 62 5 = nI (ntU u)) (e5 : M2 62 4 = nI (ntU u)) : RLg M2 (ntL u l q a b) (ntU u) (ntU u) := by
  refine ⟨e4, e5, fun k hk => ?_⟩
  have hk4 : k < 40 := Nat.lt_of_lt_of_le hk (ntU_b hu)
  rw [h1 k hk4, h3 k hk4, h4 k hk4]
  show ntF u (M 64) (nI q) k = nI (ntF u l.1 q k) ∧ ntF u (M 65) a k = ntF u l.2.1 a k ∧ ntF u (M 66) b k = ntF u l.2.2 b k
  unfold ntU at hk
  unfold ntF
  by_cases e : u = 40
  · rw [if_pos e] at hk
    simp only [if_pos e]
    by_cases c : k = 39
    · simp only [if_pos c]; exact ⟨(by first | rfl | trivial), (by first | rfl | trivial), (by first | rfl | trivial)⟩
    · simp only [if_neg c]; exact h.2.2 (k + 1) (by omega)
  · rw [if_neg e] at hk
    simp only [if_neg e]
    by_cases c : k = u
    · simp only [if_pos c]; exact ⟨(by first | rfl | trivial), (by first | rfl | trivial), (by first | rfl | trivial)⟩
    · simp only [if_neg c]; exact h.2.2 k (by omega)
theorem CLg_k {M M2 : xM} {l : xL} {u w : Nat} (h : CLg M l u w) (e4 : M2 41 4 = M 41 4) (e5 : M2 41 5 = M 41 5) (h42 : ∀ k, M2 42 k = M 42 k) (h43 : ∀ k, M2 43 k = M 43 k) (h44 : ∀ k, M2 44 k = M 44 k) (h45 : ∀ k, M2 45 k = M 45 k) : CLg M2 l u w := ⟨e4.trans h.1, e5.trans h.2.1, fun k hk => by rw [h42, h43, h44, h45]; exact h.2.2 k hk⟩
theorem RLg_k {M M2 : xM} {l : xL} {u w : Nat} (h : RLg M l u w) (e4 : M2 62 5 = M 62 5) (e5 : M2 62 4 = M 62 4) (h64 : ∀ k, M2 64 k = M 64 k) (h65 : ∀ k, M2 65 k = M 65 k) (h66 : ∀ k, M2 66 k = M 66 k) : RLg M2 l u w := ⟨e4.trans h.1, e5.trans h.2.1, fun k hk => by rw [h64, h65, h66]; exact h.2.2 k hk⟩
/-- how a change of one place ends -/
def EM0 (G : xM → Nat → xM → Option zL → (Nat → Int32) → Prop) (Lg : xM → xL → Nat → Nat → Prop) (n : Nat) (D : xM) (t : Option zL) (S : Nat → Int32) (l : xL) (u w : Nat) (M2 : xM) (r : Int32) : Prop := r = -2000000000 ∧ G M2 n D t S ∧ Lg M2 l u w
def EM1 (G : xM → Nat → xM → Option zL → (Nat → Int32) → Prop) (Lg : xM → xL → Nat → Nat → Prop) (n : Nat) (D : xM) (t : Option zL) (S : Nat → Int32) (l : xL) (u w : Nat) (M2 : xM) (r v : Int32) (q : Nat) (ok : Prop) : Prop :=
  ¬ ok ∧ EM0 G Lg n D t S l u w M2 r ∨ ok ∧ r = gK D S q ∧ (r = v ∧ G M2 n D t S ∧ Lg M2 l u w ∨ ¬ r = v ∧ G M2 n (dK D q v) t (sK S q v) ∧ Lg M2 (ntL u l q r v) (ntU u) (ntU u))
def EMn (G : xM → Nat → xM → Option zL → (Nat → Int32) → Prop) (Lg : xM → xL → Nat → Nat → Prop) (n : Nat) (D : xM) (t : Option zL) (S : Nat → Int32) (l : xL) (u w : Nat) (M2 : xM) (nu wh v r : Int32) : Prop :=
  (∃ i a : Nat, i < n ∧ a < 3 ∧ nu = nI i ∧ wh = nI a ∧ EM1 G Lg n D t S l u w M2 r v (5 * a + i) (okW a (D i 4) (S 2) v)) ∨ (∃ a : Nat, 3 ≤ a ∧ a ≤ 7 ∧ nu = 0 ∧ wh = nI a ∧ EM1 G Lg n D t S l u w M2 r v (12 + a) (okW a 0 (S 2) v)) ∨
  ((¬ ((0 ≤ wh ∧ wh ≤ 2) ∧ (0 ≤ nu ∧ nu < nI n)) ∧ ¬ (nu = 0 ∧ (3 ≤ wh ∧ wh ≤ 7))) ∧ EM0 G Lg n D t S l u w M2 r)
theorem gK_0 {D : xM} {S : Nat → Int32} {i : Nat} (h : i < 5) : gK D S (5 * 0 + i) = D i 0 := by unfold gK; rw [if_pos (by omega)]; congr 1; omega
theorem gK_1 {D : xM} {S : Nat → Int32} {i : Nat} (h : i < 5) : gK D S (5 * 1 + i) = D i 1 := by unfold gK; rw [if_neg (by omega), if_pos (by omega)]; congr 1; omega
theorem gK_2 {D : xM} {S : Nat → Int32} {i : Nat} (h : i < 5) : gK D S (5 * 2 + i) = D i 3 := by unfold gK; rw [if_neg (by omega), if_neg (by omega), if_pos (by omega)]; congr 1; omega
theorem gK_s {D : xM} {S : Nat → Int32} {a : Nat} (h : 3 ≤ a) : gK D S (12 + a) = S (a - 2) := by unfold gK; rw [if_neg (by omega), if_neg (by omega), if_neg (by omega)]; congr 1; omega
theorem dK_0 {D : xM} {v : Int32} {i : Nat} (h : i < 5) : dK D (5 * 0 + i) v = x_up D i 0 v := by unfold dK; rw [if_pos (by omega), show 5 * 0 + i = i by omega]
theorem dK_1 {D : xM} {v : Int32} {i : Nat} (h : i < 5) : dK D (5 * 1 + i) v = x_up D i 1 v := by unfold dK; rw [if_neg (by omega), if_pos (by omega), show 5 * 1 + i - 5 = i by omega]
theorem dK_2 {D : xM} {v : Int32} {i : Nat} (h : i < 5) : dK D (5 * 2 + i) v = x_up D i 3 v := by unfold dK; rw [if_neg (by omega), if_neg (by omega), if_pos (by omega), show 5 * 2 + i - 10 = i by omega]
theorem dK_s {D : xM} {v : Int32} {a : Nat} (h : 3 ≤ a) : dK D (12 + a) v = D := by unfold dK; rw [if_neg (by omega), if_neg (by omega), if_neg (by omega)]
theorem sK_h {S : Nat → Int32} {v : Int32} {i a : Nat} (h : i < 5) (ha : a < 3) : sK S (5 * a + i) v = S := by unfold sK; rw [if_pos (by omega)]
theorem sK_s {S : Nat → Int32} {v : Int32} {a : Nat} (h : 3 ≤ a) : sK S (12 + a) v = fun j => if j = a - 2 then v else S j := by unfold sK; rw [if_neg (by omega)]; funext j; rw [show 12 + a - 14 = a - 2 by omega]
theorem lK_0 {D : xM} {v : Int32} {i a : Nat} (h : i < 5) (ha : a < 2) : lK D (5 * a + i) v = v := by unfold lK; rw [if_neg (by omega)]
theorem lK_2 {D : xM} {v : Int32} {i : Nat} (h : i < 5) : lK D (5 * 2 + i) v = (if D i 4 = 0 then 0 else v) := by
  unfold lK
  rw [show 5 * 2 + i - 10 = i by omega]
  by_cases c : D i 4 = 0
  · rw [if_pos ⟨by omega, c⟩, if_pos c]
  · rw [if_neg (fun q => c q.2), if_neg c]
theorem lK_s {D : xM} {v : Int32} {a : Nat} (h : 3 ≤ a) : lK D (12 + a) v = v := by unfold lK; rw [if_neg (by omega)]
set_option maxRecDepth 100000 in
set_option maxHeartbeats 4000000 in
theorem cw_X2_told_0 {q : Nat} (hq : x_SH[q]? = some (.inl (2, [none, none, none, none, none]))) {l : Launch} {G : xG} {M : xM} {J : xJ} : x_M l G fX2_told 1 0 0 [.ref (q), .int (0)] x_SH M J (qE (some (.int (M q 0))) x_SH M J) := by
  refine xb_of pX2 (Nat.le_of_ble_eq_true rfl) rfl ?_
  refine xr_iload_n dX2_told_0 1 rfl ?_
  refine xr_tableIn (tgt := 40) dX2_told_1 (by decide) (by decide) rfl rfl ?_
  refine xr_aload_n dX2_told_40 0 rfl ?_
  refine xb_get (v := M q 0) flX2_9 dX2_told_41 hq rfl rfl ?_
  exact xr_iret dX2_told_44 rfl rfl (⟨rfl, rfl, rfl, rfl⟩)
set_option maxRecDepth 100000 in
set_option maxHeartbeats 4000000 in
theorem cw_X2_told_1 {q : Nat} (hq : x_SH[q]? = some (.inl (2, [none, none, none, none, none]))) {l : Launch} {G : xG} {M : xM} {J : xJ} : x_M l G fX2_told 1 0 0 [.ref (q), .int (1)] x_SH M J (qE (some (.int (M q 1))) x_SH M J) := by
  refine xb_of pX2 (Nat.le_of_ble_eq_true rfl) rfl ?_
  refine xr_iload_n dX2_told_0 1 rfl ?_
  refine xr_tableIn (tgt := 45) dX2_told_1 (by decide) (by decide) rfl rfl ?_
  refine xr_aload_n dX2_told_45 0 rfl ?_
  refine xb_get (v := M q 1) flX2_15 dX2_told_46 hq rfl rfl ?_
  exact xr_iret dX2_told_49 rfl rfl (⟨rfl, rfl, rfl, rfl⟩)
set_option maxRecDepth 100000 in
set_option maxHeartbeats 4000000 in
theorem cw_X2_told_2 {q : Nat} (hq : x_SH[q]? = some (.inl (2, [none, none, none, none, none]))) {l : Launch} {G : xG} {M : xM} {J : xJ} : x_M l G fX2_told 1 0 0 [.ref (q), .int (2)] x_SH M J (qE (some (.int (M q 3))) x_SH M J) := by
  refine xb_of pX2 (Nat.le_of_ble_eq_true rfl) rfl ?_
  refine xr_iload_n dX2_told_0 1 rfl ?_
  refine xr_tableIn (tgt := 50) dX2_told_1 (by decide) (by decide) rfl rfl ?_
  refine xr_aload_n dX2_told_50 0 rfl ?_
  refine xb_get (v := M q 3) flX2_25 dX2_told_51 hq rfl rfl ?_
  exact xr_iret dX2_told_54 rfl rfl (⟨rfl, rfl, rfl, rfl⟩)
set_option maxRecDepth 100000 in
set_option maxHeartbeats 4000000 in
theorem cw_X2_become_0 (v : Int32) {q : Nat} (hq : x_SH[q]? = some (.inl (2, [none, none, none, none, none]))) {l : Launch} {G : xG} {M : xM} {J : xJ} : x_M l G fX2_become 1 0 0 [.ref (q), .int (0), .int (v)] x_SH M J (qE none x_SH (x_up M q 0 v) J) := by
  refine xb_of pX2 (Nat.le_of_ble_eq_true rfl) rfl ?_
  refine xr_iload_n dX2_become_0 1 rfl ?_
  refine xr_tableIn (tgt := 28) dX2_become_1 (by decide) (by decide) rfl rfl ?_
  refine xr_aload_n dX2_become_28 0 rfl ?_
  refine xr_iload_n dX2_become_29 2 rfl ?_
  refine xr_putI fpX2_9 dX2_become_30 hq rfl rfl rfl ?_
  refine xr_goto (tgt := 63) dX2_become_33 rfl ?_
  exact xr_vret dX2_become_63 rfl (⟨rfl, rfl, rfl, rfl⟩)
set_option maxRecDepth 100000 in
set_option maxHeartbeats 4000000 in
theorem cw_X2_become_1 (v : Int32) {q : Nat} (hq : x_SH[q]? = some (.inl (2, [none, none, none, none, none]))) {l : Launch} {G : xG} {M : xM} {J : xJ} : x_M l G fX2_become 1 0 0 [.ref (q), .int (1), .int (v)] x_SH M J (qE none x_SH (x_up M q 1 v) J) := by
  refine xb_of pX2 (Nat.le_of_ble_eq_true rfl) rfl ?_
  refine xr_iload_n dX2_become_0 1 rfl ?_
  refine xr_tableIn (tgt := 36) dX2_become_1 (by decide) (by decide) rfl rfl ?_
  refine xr_aload_n dX2_become_36 0 rfl ?_
  refine xr_iload_n dX2_become_37 2 rfl ?_
  refine xr_putI fpX2_15 dX2_become_38 hq rfl rfl rfl ?_
  refine xr_goto (tgt := 63) dX2_become_41 rfl ?_
  exact xr_vret dX2_become_63 rfl (⟨rfl, rfl, rfl, rfl⟩)
set_option maxRecDepth 100000 in
set_option maxHeartbeats 4000000 in
theorem cw_X2_become_2 (v : Int32) {q : Nat} (hq : x_SH[q]? = some (.inl (2, [none, none, none, none, none]))) {l : Launch} {G : xG} {M : xM} {J : xJ} : x_M l G fX2_become 1 0 0 [.ref (q), .int (2), .int (v)] x_SH M J (qE none x_SH (x_up M q 3 (if M q 4 = 0 then 0 else v)) J) := by
  refine xb_of pX2 (Nat.le_of_ble_eq_true rfl) rfl ?_
  refine xr_iload_n dX2_become_0 1 rfl ?_
  refine xr_tableIn (tgt := 44) dX2_become_1 (by decide) (by decide) rfl rfl ?_
  refine xr_aload_n dX2_become_44 0 rfl ?_
  refine xr_aload_n dX2_become_45 0 rfl ?_
  refine xb_cV (As := []) (rest := [.ref (q)]) mlX2_42 (c_X2_lies hq) dX2_become_46 hq rfl rfl (Nat.le_of_ble_eq_true rfl) (by decide) (by decide) ?_
  refine xb_beq (tgt := 56) dX2_become_49 rfl (fun c1 => ?_) (fun c1 => ?_)
  · refine xr_iload_n dX2_become_56 2 rfl ?_
    refine xr_putI fpX2_25 dX2_become_57 hq rfl rfl rfl ?_
    refine xr_goto (tgt := 63) dX2_become_60 rfl ?_
    exact xr_vret dX2_become_63 rfl (⟨rfl, rfl, (by rw [if_neg c1]), rfl⟩)
  · refine xr_iconst (v := 0) dX2_become_52 rfl ?_
    refine xr_goto (tgt := 57) dX2_become_53 rfl ?_
    refine xr_putI fpX2_25 dX2_become_57 hq rfl rfl rfl ?_
    refine xr_goto (tgt := 63) dX2_become_60 rfl ?_
    exact xr_vret dX2_become_63 rfl (⟨rfl, rfl, (by rw [if_pos c1]), rfl⟩)
set_option maxRecDepth 100000 in
set_option maxHeartbeats 4000000 in
theorem cw_X9_settingOf_10 {l : Launch} {G : xG} {M : xM} {J : xJ} : x_M l G fX9_settingOf 0 0 0 [.ref (0), .int (10)] x_SH M J (qE (some (.int (M 13 4))) x_SH M J) := by
  refine xb_of pX9 (Nat.le_of_ble_eq_true rfl) rfl ?_
  refine xr_iload_n dX9_settingOf_0 1 rfl ?_
  refine xr_tableIn (tgt := 40) dX9_settingOf_1 (by decide) (by decide) rfl rfl ?_
  refine xr_aload_n dX9_settingOf_40 0 rfl ?_
  refine xr_getR flX9_28 dX9_settingOf_41 s_0 rfl ?_
  refine xb_get (v := M 13 4) flX9_410 dX9_settingOf_44 s_13 rfl rfl ?_
  exact xr_iret dX9_settingOf_47 rfl rfl (⟨rfl, rfl, rfl, rfl⟩)
set_option maxRecDepth 100000 in
set_option maxHeartbeats 4000000 in
theorem cw_X9_settingOf_11 {l : Launch} {G : xG} {M : xM} {J : xJ} : x_M l G fX9_settingOf 0 0 0 [.ref (0), .int (11)] x_SH M J (qE (some (.int (M 13 5))) x_SH M J) := by
  refine xb_of pX9 (Nat.le_of_ble_eq_true rfl) rfl ?_
  refine xr_iload_n dX9_settingOf_0 1 rfl ?_
  refine xr_tableIn (tgt := 48) dX9_settingOf_1 (by decide) (by decide) rfl rfl ?_
  refine xr_aload_n dX9_settingOf_48 0 rfl ?_
  refine xr_getR flX9_28 dX9_settingOf_49 s_0 rfl ?_
  refine xb_get (v := M 13 5) flX9_202 dX9_settingOf_52 s_13 rfl rfl ?_
  exact xr_iret dX9_settingOf_55 rfl rfl (⟨rfl, rfl, rfl, rfl⟩)
set_option maxRecDepth 100000 in
set_option maxHeartbeats 4000000 in
theorem cw_X9_settingOf_12 {l : Launch} {G : xG} {M : xM} {J : xJ} : x_M l G fX9_settingOf 0 0 0 [.ref (0), .int (12)] x_SH M J (qE (some (.int (M 13 6))) x_SH M J) := by
  refine xb_of pX9 (Nat.le_of_ble_eq_true rfl) rfl ?_
  refine xr_iload_n dX9_settingOf_0 1 rfl ?_
  refine xr_tableIn (tgt := 56) dX9_settingOf_1 (by decide) (by decide) rfl rfl ?_
  refine xr_aload_n dX9_settingOf_56 0 rfl ?_
  refine xr_getR flX9_28 dX9_settingOf_57 s_0 rfl ?_
  refine xb_get (v := M 13 6) flX9_205 dX9_settingOf_60 s_13 rfl rfl ?_
  exact xr_iret dX9_settingOf_63 rfl rfl (⟨rfl, rfl, rfl, rfl⟩)
set_option maxRecDepth 100000 in
set_option maxHeartbeats 4000000 in
theorem cw_X9_settingOf_13 {l : Launch} {G : xG} {M : xM} {J : xJ} : x_M l G fX9_settingOf 0 0 0 [.ref (0), .int (13)] x_SH M J (qE (some (.int (M 13 7))) x_SH M J) := by
  refine xb_of pX9 (Nat.le_of_ble_eq_true rfl) rfl ?_
  refine xr_iload_n dX9_settingOf_0 1 rfl ?_
  refine xr_tableIn (tgt := 64) dX9_settingOf_1 (by decide) (by decide) rfl rfl ?_
  refine xr_aload_n dX9_settingOf_64 0 rfl ?_
  refine xr_getR flX9_28 dX9_settingOf_65 s_0 rfl ?_
  refine xb_get (v := M 13 7) flX9_208 dX9_settingOf_68 s_13 rfl rfl ?_
  exact xr_iret dX9_settingOf_71 rfl rfl (⟨rfl, rfl, rfl, rfl⟩)
set_option maxRecDepth 100000 in
set_option maxHeartbeats 4000000 in
theorem cw_X9_settingOf_14 {l : Launch} {G : xG} {M : xM} {J : xJ} : x_M l G fX9_settingOf 0 0 0 [.ref (0), .int (14)] x_SH M J (qE (some (.int (M 35 5))) x_SH M J) := by
  refine xb_of pX9 (Nat.le_of_ble_eq_true rfl) rfl ?_
  refine xr_iload_n dX9_settingOf_0 1 rfl ?_
  refine xr_tableIn (tgt := 72) dX9_settingOf_1 (by decide) (by decide) rfl rfl ?_
  refine xr_aload_n dX9_settingOf_72 0 rfl ?_
  refine xr_getR flX9_47 dX9_settingOf_73 s_0 rfl ?_
  refine xb_get (v := M 35 5) flX9_413 dX9_settingOf_76 s_35 rfl rfl ?_
  exact xr_iret dX9_settingOf_79 rfl rfl (⟨rfl, rfl, rfl, rfl⟩)
set_option maxRecDepth 100000 in
set_option maxHeartbeats 4000000 in
theorem cw_X9_hcb_0 (v : Int32) {q : Nat} (hq : x_SH[q]? = some (.inl (2, [none, none, none, none, none]))) {l : Launch} {G : xG} {M : xM} {J : xJ} : x_M l G fX9_hoopCanBecome 1 0 0 [.ref (q), .int (0), .int (v)] x_SH M J (qE (some (.int (bI (1 ≤ v ∧ v ≤ 9)))) x_SH M J) := by
  refine xb_of pX9 (Nat.le_of_ble_eq_true rfl) rfl ?_
  refine xr_iload_n dX9_hoopCanBecome_0 1 rfl ?_
  refine xr_iconst (v := 2) dX9_hoopCanBecome_1 rfl ?_
  refine xr_icmp_eq (tgt := 10) dX9_hoopCanBecome_2 rfl (fun c => absurd c (by decide)) (fun _ => ?_)
  refine xr_iload_n dX9_hoopCanBecome_5 2 rfl ?_
  refine xb_cS (As := [.int (v)]) (rest := []) mlX9_76 (c_X9_isWeight v) dX9_hoopCanBecome_6 rfl rfl (Nat.le_of_ble_eq_true rfl) (by decide) (by decide) ?_
  exact xr_iret dX9_hoopCanBecome_9 rfl (bI_n _) (⟨rfl, rfl, rfl, rfl⟩)
set_option maxRecDepth 100000 in
set_option maxHeartbeats 4000000 in
theorem cw_X9_hcb_1 (v : Int32) {q : Nat} (hq : x_SH[q]? = some (.inl (2, [none, none, none, none, none]))) {l : Launch} {G : xG} {M : xM} {J : xJ} : x_M l G fX9_hoopCanBecome 1 0 0 [.ref (q), .int (1), .int (v)] x_SH M J (qE (some (.int (bI (1 ≤ v ∧ v ≤ 9)))) x_SH M J) := by
  refine xb_of pX9 (Nat.le_of_ble_eq_true rfl) rfl ?_
  refine xr_iload_n dX9_hoopCanBecome_0 1 rfl ?_
  refine xr_iconst (v := 2) dX9_hoopCanBecome_1 rfl ?_
  refine xr_icmp_eq (tgt := 10) dX9_hoopCanBecome_2 rfl (fun c => absurd c (by decide)) (fun _ => ?_)
  refine xr_iload_n dX9_hoopCanBecome_5 2 rfl ?_
  refine xb_cS (As := [.int (v)]) (rest := []) mlX9_76 (c_X9_isWeight v) dX9_hoopCanBecome_6 rfl rfl (Nat.le_of_ble_eq_true rfl) (by decide) (by decide) ?_
  exact xr_iret dX9_hoopCanBecome_9 rfl (bI_n _) (⟨rfl, rfl, rfl, rfl⟩)
set_option maxRecDepth 100000 in
set_option maxHeartbeats 4000000 in
theorem cw_X9_hcb_2 (v : Int32) {q : Nat} (hq : x_SH[q]? = some (.inl (2, [none, none, none, none, none]))) {l : Launch} {G : xG} {M : xM} {J : xJ} : x_M l G fX9_hoopCanBecome 1 0 0 [.ref (q), .int (2), .int (v)] x_SH M J (qE (some (.int (bI (M q 4 = 0 ∧ v = 0 ∨ ¬ M q 4 = 0 ∧ (-9 ≤ v ∧ v ≤ 9))))) x_SH M J) := by
  refine xb_of pX9 (Nat.le_of_ble_eq_true rfl) rfl ?_
  refine xr_iload_n dX9_hoopCanBecome_0 1 rfl ?_
  refine xr_iconst (v := 2) dX9_hoopCanBecome_1 rfl ?_
  refine xr_icmp_eq (tgt := 10) dX9_hoopCanBecome_2 rfl (fun _ => ?_) (fun c => absurd (by decide) c)
  refine xr_aload_n dX9_hoopCanBecome_10 0 rfl ?_
  refine xb_cV (As := []) (rest := []) mlX9_167 (c_X2_lies hq) dX9_hoopCanBecome_11 hq rfl rfl (Nat.le_of_ble_eq_true rfl) (by decide) (by decide) ?_
  refine xb_beq (tgt := 29) dX9_hoopCanBecome_14 rfl (fun c1 => ?_) (fun c1 => ?_)
  · refine xr_iload_n dX9_hoopCanBecome_29 2 rfl ?_
    refine xb_cS (As := [.int (v)]) (rest := []) mlX9_400 (c_X9_isPace v) dX9_hoopCanBecome_30 rfl rfl (Nat.le_of_ble_eq_true rfl) (by decide) (by decide) ?_
    exact xr_iret dX9_hoopCanBecome_33 rfl (bI_n _) (⟨congrArg (fun z => some (Value.int z)) (x_bI_c ⟨fun z => Or.inr ⟨c1, z⟩, fun z => z.elim (fun z => absurd z.1 c1) (fun z => z.2)⟩), rfl, rfl, rfl⟩)
  · refine xr_iload_n dX9_hoopCanBecome_17 2 rfl ?_
    refine xr_if_ne (tgt := 25) dX9_hoopCanBecome_18 rfl (fun c2 => ?_) (fun c2 => ?_)
    · refine xr_iconst (v := 0) dX9_hoopCanBecome_25 rfl ?_
      refine xr_goto (tgt := 33) dX9_hoopCanBecome_26 rfl ?_
      exact xr_iret dX9_hoopCanBecome_33 rfl rfl (⟨congrArg (fun z => some (Value.int z)) (bI_f (fun z => z.elim (fun z => c2 z.2) (fun z => z.1 c1))).symm, rfl, rfl, rfl⟩)
    · refine xr_iconst (v := 1) dX9_hoopCanBecome_21 rfl ?_
      refine xr_goto (tgt := 33) dX9_hoopCanBecome_22 rfl ?_
      exact xr_iret dX9_hoopCanBecome_33 rfl rfl (⟨congrArg (fun z => some (Value.int z)) (bI_t (Or.inl ⟨c1, c2⟩)).symm, rfl, rfl, rfl⟩)
set_option maxRecDepth 100000 in
set_option maxHeartbeats 4000000 in
theorem cw_X9_scb_3 (v : Int32) {l : Launch} {G : xG} {M : xM} {J : xJ} : x_M l G fX9_settingCanBecome 1 0 0 [.ref (0), .int (3), .int (v)] x_SH M J (qE (some (.int (bI (0 ≤ v ∧ v ≤ 3)))) x_SH M J) := by
  refine xb_of pX9 (Nat.le_of_ble_eq_true rfl) rfl ?_
  refine xr_iload_n dX9_settingCanBecome_0 1 rfl ?_
  refine xr_tableIn (tgt := 36) dX9_settingCanBecome_1 (by decide) (by decide) rfl rfl ?_
  refine xr_iload_n dX9_settingCanBecome_36 2 rfl ?_
  refine xr_if_lt (tgt := 49) dX9_settingCanBecome_37 rfl (fun c1 => ?_) (fun c1 => ?_)
  · refine xr_iconst (v := 0) dX9_settingCanBecome_49 rfl ?_
    exact xr_iret dX9_settingCanBecome_50 rfl rfl (⟨congrArg (fun z => some (Value.int z)) (bI_f (fun z => absurd z.1 (Int32.not_le.mpr c1))).symm, rfl, rfl, rfl⟩)
  · refine xr_iload_n dX9_settingCanBecome_40 2 rfl ?_
    refine xr_iconst (v := 3) dX9_settingCanBecome_41 rfl ?_
    refine xr_icmp_gt (tgt := 49) dX9_settingCanBecome_42 rfl (fun c2 => ?_) (fun c2 => ?_)
    · refine xr_iconst (v := 0) dX9_settingCanBecome_49 rfl ?_
      exact xr_iret dX9_settingCanBecome_50 rfl rfl (⟨congrArg (fun z => some (Value.int z)) (bI_f (fun z => absurd z.2 (Int32.not_le.mpr c2))).symm, rfl, rfl, rfl⟩)
    · refine xr_iconst (v := 1) dX9_settingCanBecome_45 rfl ?_
      refine xr_goto (tgt := 50) dX9_settingCanBecome_46 rfl ?_
      exact xr_iret dX9_settingCanBecome_50 rfl rfl (⟨congrArg (fun z => some (Value.int z)) (bI_t ⟨Int32.not_lt.mp c1, Int32.not_lt.mp c2⟩).symm, rfl, rfl, rfl⟩)
set_option maxRecDepth 100000 in
set_option maxHeartbeats 4000000 in
theorem cw_X9_scb_4 (v : Int32) {l : Launch} {G : xG} {M : xM} {J : xJ} : x_M l G fX9_settingCanBecome 1 0 0 [.ref (0), .int (4), .int (v)] x_SH M J (qE (some (.int (bI (2 ≤ v ∧ v ≤ 24)))) x_SH M J) := by
  refine xb_of pX9 (Nat.le_of_ble_eq_true rfl) rfl ?_
  refine xr_iload_n dX9_settingCanBecome_0 1 rfl ?_
  refine xr_tableIn (tgt := 51) dX9_settingCanBecome_1 (by decide) (by decide) rfl rfl ?_
  refine xr_iload_n dX9_settingCanBecome_51 2 rfl ?_
  refine xr_iconst (v := 2) dX9_settingCanBecome_52 rfl ?_
  refine xr_icmp_lt (tgt := 66) dX9_settingCanBecome_53 rfl (fun c1 => ?_) (fun c1 => ?_)
  · refine xr_iconst (v := 0) dX9_settingCanBecome_66 rfl ?_
    exact xr_iret dX9_settingCanBecome_67 rfl rfl (⟨congrArg (fun z => some (Value.int z)) (bI_f (fun z => absurd z.1 (Int32.not_le.mpr c1))).symm, rfl, rfl, rfl⟩)
  · refine xr_iload_n dX9_settingCanBecome_56 2 rfl ?_
    refine xr_bipush (v := 24) dX9_settingCanBecome_57 rfl ?_
    refine xr_icmp_gt (tgt := 66) dX9_settingCanBecome_59 rfl (fun c2 => ?_) (fun c2 => ?_)
    · refine xr_iconst (v := 0) dX9_settingCanBecome_66 rfl ?_
      exact xr_iret dX9_settingCanBecome_67 rfl rfl (⟨congrArg (fun z => some (Value.int z)) (bI_f (fun z => absurd z.2 (Int32.not_le.mpr c2))).symm, rfl, rfl, rfl⟩)
    · refine xr_iconst (v := 1) dX9_settingCanBecome_62 rfl ?_
      refine xr_goto (tgt := 67) dX9_settingCanBecome_63 rfl ?_
      exact xr_iret dX9_settingCanBecome_67 rfl rfl (⟨congrArg (fun z => some (Value.int z)) (bI_t ⟨Int32.not_lt.mp c1, Int32.not_lt.mp c2⟩).symm, rfl, rfl, rfl⟩)
set_option maxRecDepth 100000 in
set_option maxHeartbeats 4000000 in
theorem cw_X9_scb_5 (v : Int32) {l : Launch} {G : xG} {M : xM} {J : xJ} : x_M l G fX9_settingCanBecome 1 0 0 [.ref (0), .int (5), .int (v)] x_SH M J (qE (some (.int (bI (0 ≤ v ∧ v < M 13 5)))) x_SH M J) := by
  refine xb_of pX9 (Nat.le_of_ble_eq_true rfl) rfl ?_
  refine xr_iload_n dX9_settingCanBecome_0 1 rfl ?_
  refine xr_tableIn (tgt := 68) dX9_settingCanBecome_1 (by decide) (by decide) rfl rfl ?_
  refine xr_iload_n dX9_settingCanBecome_68 2 rfl ?_
  refine xr_if_lt (tgt := 87) dX9_settingCanBecome_69 rfl (fun c1 => ?_) (fun c1 => ?_)
  · refine xr_iconst (v := 0) dX9_settingCanBecome_87 rfl ?_
    exact xr_iret dX9_settingCanBecome_88 rfl rfl (⟨congrArg (fun z => some (Value.int z)) (bI_f (fun z => absurd z.1 (Int32.not_le.mpr c1))).symm, rfl, rfl, rfl⟩)
  · refine xr_iload_n dX9_settingCanBecome_72 2 rfl ?_
    refine xr_aload_n dX9_settingCanBecome_73 0 rfl ?_
    refine xr_getR flX9_28 dX9_settingCanBecome_74 s_0 rfl ?_
    refine xb_get (v := M 13 5) flX9_202 dX9_settingCanBecome_77 s_13 rfl rfl ?_
    refine xr_icmp_ge (tgt := 87) dX9_settingCanBecome_80 rfl (fun c2 => ?_) (fun c2 => ?_)
    · refine xr_iconst (v := 0) dX9_settingCanBecome_87 rfl ?_
      exact xr_iret dX9_settingCanBecome_88 rfl rfl (⟨congrArg (fun z => some (Value.int z)) (bI_f (fun z => absurd z.2 (Int32.not_lt.mpr c2))).symm, rfl, rfl, rfl⟩)
    · refine xr_iconst (v := 1) dX9_settingCanBecome_83 rfl ?_
      refine xr_goto (tgt := 88) dX9_settingCanBecome_84 rfl ?_
      exact xr_iret dX9_settingCanBecome_88 rfl rfl (⟨congrArg (fun z => some (Value.int z)) (bI_t ⟨Int32.not_lt.mp c1, Int32.not_le.mp c2⟩).symm, rfl, rfl, rfl⟩)
set_option maxRecDepth 100000 in
set_option maxHeartbeats 4000000 in
theorem cw_X9_scb_6 (v : Int32) {l : Launch} {G : xG} {M : xM} {J : xJ} : x_M l G fX9_settingCanBecome 1 0 0 [.ref (0), .int (6), .int (v)] x_SH M J (qE (some (.int (bI (0 ≤ v ∧ v ≤ 5)))) x_SH M J) := by
  refine xb_of pX9 (Nat.le_of_ble_eq_true rfl) rfl ?_
  refine xr_iload_n dX9_settingCanBecome_0 1 rfl ?_
  refine xr_tableIn (tgt := 89) dX9_settingCanBecome_1 (by decide) (by decide) rfl rfl ?_
  refine xr_iload_n dX9_settingCanBecome_89 2 rfl ?_
  refine xr_if_lt (tgt := 102) dX9_settingCanBecome_90 rfl (fun c1 => ?_) (fun c1 => ?_)
  · refine xr_iconst (v := 0) dX9_settingCanBecome_102 rfl ?_
    exact xr_iret dX9_settingCanBecome_103 rfl rfl (⟨congrArg (fun z => some (Value.int z)) (bI_f (fun z => absurd z.1 (Int32.not_le.mpr c1))).symm, rfl, rfl, rfl⟩)
  · refine xr_iload_n dX9_settingCanBecome_93 2 rfl ?_
    refine xr_iconst (v := 5) dX9_settingCanBecome_94 rfl ?_
    refine xr_icmp_gt (tgt := 102) dX9_settingCanBecome_95 rfl (fun c2 => ?_) (fun c2 => ?_)
    · refine xr_iconst (v := 0) dX9_settingCanBecome_102 rfl ?_
      exact xr_iret dX9_settingCanBecome_103 rfl rfl (⟨congrArg (fun z => some (Value.int z)) (bI_f (fun z => absurd z.2 (Int32.not_le.mpr c2))).symm, rfl, rfl, rfl⟩)
    · refine xr_iconst (v := 1) dX9_settingCanBecome_98 rfl ?_
      refine xr_goto (tgt := 103) dX9_settingCanBecome_99 rfl ?_
      exact xr_iret dX9_settingCanBecome_103 rfl rfl (⟨congrArg (fun z => some (Value.int z)) (bI_t ⟨Int32.not_lt.mp c1, Int32.not_lt.mp c2⟩).symm, rfl, rfl, rfl⟩)
set_option maxRecDepth 100000 in
set_option maxHeartbeats 4000000 in
theorem cw_X9_scb_7 (v : Int32) {l : Launch} {G : xG} {M : xM} {J : xJ} : x_M l G fX9_settingCanBecome 1 0 0 [.ref (0), .int (7), .int (v)] x_SH M J (qE (some (.int (bI (0 ≤ v ∧ v ≤ 12)))) x_SH M J) := by
  refine xb_of pX9 (Nat.le_of_ble_eq_true rfl) rfl ?_
  refine xr_iload_n dX9_settingCanBecome_0 1 rfl ?_
  refine xr_tableIn (tgt := 104) dX9_settingCanBecome_1 (by decide) (by decide) rfl rfl ?_
  refine xr_iload_n dX9_settingCanBecome_104 2 rfl ?_
  refine xb_cS (As := [.int (v)]) (rest := []) mlX9_255 (c_X9_isSkill v) dX9_settingCanBecome_105 rfl rfl (Nat.le_of_ble_eq_true rfl) (by decide) (by decide) ?_
  exact xr_iret dX9_settingCanBecome_108 rfl (bI_n _) (⟨rfl, rfl, rfl, rfl⟩)
set_option maxRecDepth 100000 in
set_option maxHeartbeats 4000000 in
theorem cw_X9_scb_o (w v : Int32) {l : Launch} {G : xG} {M : xM} {J : xJ} (hw : ¬ (3 ≤ w ∧ w ≤ 7)) : x_M l G fX9_settingCanBecome 1 0 0 [.ref (0), .int (w), .int (v)] x_SH M J (qPI M J (fun r => r = 0)) := by
  refine xb_of pX9 (Nat.le_of_ble_eq_true rfl) rfl ?_
  refine xr_iload_n dX9_settingCanBecome_0 1 rfl ?_
  refine xg_eq 3 (fun w1 => ?_) (fun w1 => ?_)
  · refine xr_tableIn (tgt := 36) dX9_settingCanBecome_1 (by decide) (by decide) rfl rfl ?_
    exact absurd (by rw [w1]; decide) hw
  refine xg_eq 4 (fun w2 => ?_) (fun w2 => ?_)
  · refine xr_tableIn (tgt := 51) dX9_settingCanBecome_1 (by decide) (by decide) rfl rfl ?_
    exact absurd (by rw [w2]; decide) hw
  refine xg_eq 5 (fun w3 => ?_) (fun w3 => ?_)
  · refine xr_tableIn (tgt := 68) dX9_settingCanBecome_1 (by decide) (by decide) rfl rfl ?_
    exact absurd (by rw [w3]; decide) hw
  refine xg_eq 6 (fun w4 => ?_) (fun w4 => ?_)
  · refine xr_tableIn (tgt := 89) dX9_settingCanBecome_1 (by decide) (by decide) rfl rfl ?_
    exact absurd (by rw [w4]; decide) hw
  refine xg_eq 7 (fun w5 => ?_) (fun w5 => ?_)
  · refine xr_tableIn (tgt := 104) dX9_settingCanBecome_1 (by decide) (by decide) rfl rfl ?_
    exact absurd (by rw [w5]; decide) hw
  refine xr_tableOut (tgt := 109) dX9_settingCanBecome_1 (xg_out (lo := 3) (hi := 7) (by decide) (fun j h1 h2 qq => by have h3 : j = 3 ∨ j = 4 ∨ j = 5 ∨ j = 6 ∨ j = 7 := (by omega); rcases h3 with rfl | rfl | rfl | rfl | rfl <;> first | exact absurd qq w1 | exact absurd qq w2 | exact absurd qq w3 | exact absurd qq w4 | exact absurd qq w5)) rfl ?_
  refine xr_iconst (v := 0) dX9_settingCanBecome_109 rfl ?_
  exact xr_iret dX9_settingCanBecome_110 rfl rfl (⟨_, rfl, rfl, rfl, rfl, rfl⟩)
set_option maxRecDepth 100000 in
set_option maxHeartbeats 4000000 in
theorem cw_X9_cb_0 (v : Int32) {i : Nat} {l : Launch} {G : xG} {M : xM} {J : xJ} {cn : Nat} (h_cn : cn ≤ 5) (e_cn : M 13 2 = nI cn) (hi : i < cn) : x_M l G fX9_canBecome 2 0 0 [.ref (0), .int (nI (i)), .int (0), .int (v)] x_SH M J (qE (some (.int (bI (1 ≤ v ∧ v ≤ 9)))) x_SH M J) := by
  refine xb_of pX9 (Nat.le_of_ble_eq_true rfl) rfl ?_
  refine xr_iload_n dX9_canBecome_0 2 rfl ?_
  refine xr_if_lt (tgt := 43) dX9_canBecome_1 rfl (fun c => absurd c (by decide)) (fun _ => ?_)
  refine xr_iload_n dX9_canBecome_4 2 rfl ?_
  refine xr_iconst (v := 2) dX9_canBecome_5 rfl ?_
  refine xr_icmp_gt (tgt := 43) dX9_canBecome_6 rfl (fun c => absurd c (by decide)) (fun _ => ?_)
  refine xr_aload_n dX9_canBecome_9 0 rfl ?_
  refine xr_getR flX9_28 dX9_canBecome_10 s_0 rfl ?_
  refine xr_iload_n dX9_canBecome_13 1 rfl ?_
  refine xb_cV (As := [.int (nI (i))]) (rest := []) mlX9_118 (c_X5_has (nI (i)) (by omega) e_cn) dX9_canBecome_14 s_13 rfl rfl (Nat.le_of_ble_eq_true rfl) (by decide) (by decide) ?_
  refine xb_beq (tgt := 41) dX9_canBecome_17 rfl (fun c => absurd ⟨nI_pos' (by omega), nI_lt (a := i) (b := cn) (by omega) (by omega)⟩ c) (fun _ => ?_)
  refine xr_aload_n dX9_canBecome_20 0 rfl ?_
  refine xr_getR flX9_28 dX9_canBecome_21 s_0 rfl ?_
  refine xr_getR flX9_121 dX9_canBecome_24 s_13 rfl ?_
  refine xr_iload_n dX9_canBecome_27 1 rfl ?_
  refine xb_aald (j := i) (q := 15 + i) (by decide) dX9_canBecome_28 s_14 (by omega) (by decide) (if_pos (by omega)) ?_
  refine xr_iload_n dX9_canBecome_29 2 rfl ?_
  refine xr_iload_n dX9_canBecome_30 3 rfl ?_
  refine xb_cS (As := [.ref (15 + i), .int (0), .int (v)]) (rest := []) mlX9_403 (cw_X9_hcb_0 v (s_hp15 (by omega))) dX9_canBecome_31 rfl rfl (Nat.le_of_ble_eq_true rfl) (by decide) (by decide) ?_
  refine xb_beq (tgt := 41) dX9_canBecome_34 rfl (fun c2 => ?_) (fun c2 => ?_)
  · refine xr_iconst (v := 0) dX9_canBecome_41 rfl ?_
    exact xr_iret dX9_canBecome_42 rfl rfl (⟨congrArg (fun z => some (Value.int z)) (bI_f c2).symm, rfl, rfl, rfl⟩)
  · refine xr_iconst (v := 1) dX9_canBecome_37 rfl ?_
    refine xr_goto (tgt := 42) dX9_canBecome_38 rfl ?_
    exact xr_iret dX9_canBecome_42 rfl rfl (⟨congrArg (fun z => some (Value.int z)) (bI_t c2).symm, rfl, rfl, rfl⟩)
set_option maxRecDepth 100000 in
set_option maxHeartbeats 4000000 in
theorem cw_X9_cb_1 (v : Int32) {i : Nat} {l : Launch} {G : xG} {M : xM} {J : xJ} {cn : Nat} (h_cn : cn ≤ 5) (e_cn : M 13 2 = nI cn) (hi : i < cn) : x_M l G fX9_canBecome 2 0 0 [.ref (0), .int (nI (i)), .int (1), .int (v)] x_SH M J (qE (some (.int (bI (1 ≤ v ∧ v ≤ 9)))) x_SH M J) := by
  refine xb_of pX9 (Nat.le_of_ble_eq_true rfl) rfl ?_
  refine xr_iload_n dX9_canBecome_0 2 rfl ?_
  refine xr_if_lt (tgt := 43) dX9_canBecome_1 rfl (fun c => absurd c (by decide)) (fun _ => ?_)
  refine xr_iload_n dX9_canBecome_4 2 rfl ?_
  refine xr_iconst (v := 2) dX9_canBecome_5 rfl ?_
  refine xr_icmp_gt (tgt := 43) dX9_canBecome_6 rfl (fun c => absurd c (by decide)) (fun _ => ?_)
  refine xr_aload_n dX9_canBecome_9 0 rfl ?_
  refine xr_getR flX9_28 dX9_canBecome_10 s_0 rfl ?_
  refine xr_iload_n dX9_canBecome_13 1 rfl ?_
  refine xb_cV (As := [.int (nI (i))]) (rest := []) mlX9_118 (c_X5_has (nI (i)) (by omega) e_cn) dX9_canBecome_14 s_13 rfl rfl (Nat.le_of_ble_eq_true rfl) (by decide) (by decide) ?_
  refine xb_beq (tgt := 41) dX9_canBecome_17 rfl (fun c => absurd ⟨nI_pos' (by omega), nI_lt (a := i) (b := cn) (by omega) (by omega)⟩ c) (fun _ => ?_)
  refine xr_aload_n dX9_canBecome_20 0 rfl ?_
  refine xr_getR flX9_28 dX9_canBecome_21 s_0 rfl ?_
  refine xr_getR flX9_121 dX9_canBecome_24 s_13 rfl ?_
  refine xr_iload_n dX9_canBecome_27 1 rfl ?_
  refine xb_aald (j := i) (q := 15 + i) (by decide) dX9_canBecome_28 s_14 (by omega) (by decide) (if_pos (by omega)) ?_
  refine xr_iload_n dX9_canBecome_29 2 rfl ?_
  refine xr_iload_n dX9_canBecome_30 3 rfl ?_
  refine xb_cS (As := [.ref (15 + i), .int (1), .int (v)]) (rest := []) mlX9_403 (cw_X9_hcb_1 v (s_hp15 (by omega))) dX9_canBecome_31 rfl rfl (Nat.le_of_ble_eq_true rfl) (by decide) (by decide) ?_
  refine xb_beq (tgt := 41) dX9_canBecome_34 rfl (fun c2 => ?_) (fun c2 => ?_)
  · refine xr_iconst (v := 0) dX9_canBecome_41 rfl ?_
    exact xr_iret dX9_canBecome_42 rfl rfl (⟨congrArg (fun z => some (Value.int z)) (bI_f c2).symm, rfl, rfl, rfl⟩)
  · refine xr_iconst (v := 1) dX9_canBecome_37 rfl ?_
    refine xr_goto (tgt := 42) dX9_canBecome_38 rfl ?_
    exact xr_iret dX9_canBecome_42 rfl rfl (⟨congrArg (fun z => some (Value.int z)) (bI_t c2).symm, rfl, rfl, rfl⟩)
set_option maxRecDepth 100000 in
set_option maxHeartbeats 4000000 in
theorem cw_X9_cb_2 (v : Int32) {i : Nat} {l : Launch} {G : xG} {M : xM} {J : xJ} {cn : Nat} (h_cn : cn ≤ 5) (e_cn : M 13 2 = nI cn) (hi : i < cn) : x_M l G fX9_canBecome 2 0 0 [.ref (0), .int (nI (i)), .int (2), .int (v)] x_SH M J (qE (some (.int (bI (M (15 + i) 4 = 0 ∧ v = 0 ∨ ¬ M (15 + i) 4 = 0 ∧ (-9 ≤ v ∧ v ≤ 9))))) x_SH M J) := by
  refine xb_of pX9 (Nat.le_of_ble_eq_true rfl) rfl ?_
  refine xr_iload_n dX9_canBecome_0 2 rfl ?_
  refine xr_if_lt (tgt := 43) dX9_canBecome_1 rfl (fun c => absurd c (by decide)) (fun _ => ?_)
  refine xr_iload_n dX9_canBecome_4 2 rfl ?_
  refine xr_iconst (v := 2) dX9_canBecome_5 rfl ?_
  refine xr_icmp_gt (tgt := 43) dX9_canBecome_6 rfl (fun c => absurd c (by decide)) (fun _ => ?_)
  refine xr_aload_n dX9_canBecome_9 0 rfl ?_
  refine xr_getR flX9_28 dX9_canBecome_10 s_0 rfl ?_
  refine xr_iload_n dX9_canBecome_13 1 rfl ?_
  refine xb_cV (As := [.int (nI (i))]) (rest := []) mlX9_118 (c_X5_has (nI (i)) (by omega) e_cn) dX9_canBecome_14 s_13 rfl rfl (Nat.le_of_ble_eq_true rfl) (by decide) (by decide) ?_
  refine xb_beq (tgt := 41) dX9_canBecome_17 rfl (fun c => absurd ⟨nI_pos' (by omega), nI_lt (a := i) (b := cn) (by omega) (by omega)⟩ c) (fun _ => ?_)
  refine xr_aload_n dX9_canBecome_20 0 rfl ?_
  refine xr_getR flX9_28 dX9_canBecome_21 s_0 rfl ?_
  refine xr_getR flX9_121 dX9_canBecome_24 s_13 rfl ?_
  refine xr_iload_n dX9_canBecome_27 1 rfl ?_
  refine xb_aald (j := i) (q := 15 + i) (by decide) dX9_canBecome_28 s_14 (by omega) (by decide) (if_pos (by omega)) ?_
  refine xr_iload_n dX9_canBecome_29 2 rfl ?_
  refine xr_iload_n dX9_canBecome_30 3 rfl ?_
  refine xb_cS (As := [.ref (15 + i), .int (2), .int (v)]) (rest := []) mlX9_403 (cw_X9_hcb_2 v (s_hp15 (by omega))) dX9_canBecome_31 rfl rfl (Nat.le_of_ble_eq_true rfl) (by decide) (by decide) ?_
  refine xb_beq (tgt := 41) dX9_canBecome_34 rfl (fun c2 => ?_) (fun c2 => ?_)
  · refine xr_iconst (v := 0) dX9_canBecome_41 rfl ?_
    exact xr_iret dX9_canBecome_42 rfl rfl (⟨congrArg (fun z => some (Value.int z)) (bI_f c2).symm, rfl, rfl, rfl⟩)
  · refine xr_iconst (v := 1) dX9_canBecome_37 rfl ?_
    refine xr_goto (tgt := 42) dX9_canBecome_38 rfl ?_
    exact xr_iret dX9_canBecome_42 rfl rfl (⟨congrArg (fun z => some (Value.int z)) (bI_t c2).symm, rfl, rfl, rfl⟩)
set_option maxRecDepth 100000 in
set_option maxHeartbeats 4000000 in
theorem cw_X9_cb_3 (v : Int32) {l : Launch} {G : xG} {M : xM} {J : xJ} {cn : Nat} (h_cn : cn ≤ 5) (e_cn : M 13 2 = nI cn) : x_M l G fX9_canBecome 2 0 0 [.ref (0), .int (0), .int (3), .int (v)] x_SH M J (qE (some (.int (bI (0 ≤ v ∧ v ≤ 3)))) x_SH M J) := by
  refine xb_of pX9 (Nat.le_of_ble_eq_true rfl) rfl ?_
  refine xr_iload_n dX9_canBecome_0 2 rfl ?_
  refine xr_if_lt (tgt := 43) dX9_canBecome_1 rfl (fun c => absurd c (by decide)) (fun _ => ?_)
  refine xr_iload_n dX9_canBecome_4 2 rfl ?_
  refine xr_iconst (v := 2) dX9_canBecome_5 rfl ?_
  refine xr_icmp_gt (tgt := 43) dX9_canBecome_6 rfl (fun _ => ?_) (fun c => absurd (by decide) c)
  refine xr_iload_n dX9_canBecome_43 1 rfl ?_
  refine xr_if_ne (tgt := 60) dX9_canBecome_44 rfl (fun c => absurd (by decide) c) (fun _ => ?_)
  refine xr_aload_n dX9_canBecome_47 0 rfl ?_
  refine xr_iload_n dX9_canBecome_48 2 rfl ?_
  refine xr_iload_n dX9_canBecome_49 3 rfl ?_
  refine xb_cV (As := [.int (3), .int (v)]) (rest := []) mlX9_407 (cw_X9_scb_3 v) dX9_canBecome_50 s_0 rfl rfl (Nat.le_of_ble_eq_true rfl) (by decide) (by decide) ?_
  refine xb_beq (tgt := 60) dX9_canBecome_53 rfl (fun c1 => ?_) (fun c1 => ?_)
  · refine xr_iconst (v := 0) dX9_canBecome_60 rfl ?_
    exact xr_iret dX9_canBecome_61 rfl rfl (⟨congrArg (fun z => some (Value.int z)) (bI_f c1).symm, rfl, rfl, rfl⟩)
  · refine xr_iconst (v := 1) dX9_canBecome_56 rfl ?_
    refine xr_goto (tgt := 61) dX9_canBecome_57 rfl ?_
    exact xr_iret dX9_canBecome_61 rfl rfl (⟨congrArg (fun z => some (Value.int z)) (bI_t c1).symm, rfl, rfl, rfl⟩)
set_option maxRecDepth 100000 in
set_option maxHeartbeats 4000000 in
theorem cw_X9_cb_4 (v : Int32) {l : Launch} {G : xG} {M : xM} {J : xJ} {cn : Nat} (h_cn : cn ≤ 5) (e_cn : M 13 2 = nI cn) : x_M l G fX9_canBecome 2 0 0 [.ref (0), .int (0), .int (4), .int (v)] x_SH M J (qE (some (.int (bI (2 ≤ v ∧ v ≤ 24)))) x_SH M J) := by
  refine xb_of pX9 (Nat.le_of_ble_eq_true rfl) rfl ?_
  refine xr_iload_n dX9_canBecome_0 2 rfl ?_
  refine xr_if_lt (tgt := 43) dX9_canBecome_1 rfl (fun c => absurd c (by decide)) (fun _ => ?_)
  refine xr_iload_n dX9_canBecome_4 2 rfl ?_
  refine xr_iconst (v := 2) dX9_canBecome_5 rfl ?_
  refine xr_icmp_gt (tgt := 43) dX9_canBecome_6 rfl (fun _ => ?_) (fun c => absurd (by decide) c)
  refine xr_iload_n dX9_canBecome_43 1 rfl ?_
  refine xr_if_ne (tgt := 60) dX9_canBecome_44 rfl (fun c => absurd (by decide) c) (fun _ => ?_)
  refine xr_aload_n dX9_canBecome_47 0 rfl ?_
  refine xr_iload_n dX9_canBecome_48 2 rfl ?_
  refine xr_iload_n dX9_canBecome_49 3 rfl ?_
  refine xb_cV (As := [.int (4), .int (v)]) (rest := []) mlX9_407 (cw_X9_scb_4 v) dX9_canBecome_50 s_0 rfl rfl (Nat.le_of_ble_eq_true rfl) (by decide) (by decide) ?_
  refine xb_beq (tgt := 60) dX9_canBecome_53 rfl (fun c1 => ?_) (fun c1 => ?_)
  · refine xr_iconst (v := 0) dX9_canBecome_60 rfl ?_
    exact xr_iret dX9_canBecome_61 rfl rfl (⟨congrArg (fun z => some (Value.int z)) (bI_f c1).symm, rfl, rfl, rfl⟩)
  · refine xr_iconst (v := 1) dX9_canBecome_56 rfl ?_
    refine xr_goto (tgt := 61) dX9_canBecome_57 rfl ?_
    exact xr_iret dX9_canBecome_61 rfl rfl (⟨congrArg (fun z => some (Value.int z)) (bI_t c1).symm, rfl, rfl, rfl⟩)
set_option maxRecDepth 100000 in
set_option maxHeartbeats 4000000 in
theorem cw_X9_cb_5 (v : Int32) {l : Launch} {G : xG} {M : xM} {J : xJ} {cn : Nat} (h_cn : cn ≤ 5) (e_cn : M 13 2 = nI cn) : x_M l G fX9_canBecome 2 0 0 [.ref (0), .int (0), .int (5), .int (v)] x_SH M J (qE (some (.int (bI (0 ≤ v ∧ v < M 13 5)))) x_SH M J) := by
  refine xb_of pX9 (Nat.le_of_ble_eq_true rfl) rfl ?_
  refine xr_iload_n dX9_canBecome_0 2 rfl ?_
  refine xr_if_lt (tgt := 43) dX9_canBecome_1 rfl (fun c => absurd c (by decide)) (fun _ => ?_)
  refine xr_iload_n dX9_canBecome_4 2 rfl ?_
  refine xr_iconst (v := 2) dX9_canBecome_5 rfl ?_
  refine xr_icmp_gt (tgt := 43) dX9_canBecome_6 rfl (fun _ => ?_) (fun c => absurd (by decide) c)
  refine xr_iload_n dX9_canBecome_43 1 rfl ?_
  refine xr_if_ne (tgt := 60) dX9_canBecome_44 rfl (fun c => absurd (by decide) c) (fun _ => ?_)
  refine xr_aload_n dX9_canBecome_47 0 rfl ?_
  refine xr_iload_n dX9_canBecome_48 2 rfl ?_
  refine xr_iload_n dX9_canBecome_49 3 rfl ?_
  refine xb_cV (As := [.int (5), .int (v)]) (rest := []) mlX9_407 (cw_X9_scb_5 v) dX9_canBecome_50 s_0 rfl rfl (Nat.le_of_ble_eq_true rfl) (by decide) (by decide) ?_
  refine xb_beq (tgt := 60) dX9_canBecome_53 rfl (fun c1 => ?_) (fun c1 => ?_)
  · refine xr_iconst (v := 0) dX9_canBecome_60 rfl ?_
    exact xr_iret dX9_canBecome_61 rfl rfl (⟨congrArg (fun z => some (Value.int z)) (bI_f c1).symm, rfl, rfl, rfl⟩)
  · refine xr_iconst (v := 1) dX9_canBecome_56 rfl ?_
    refine xr_goto (tgt := 61) dX9_canBecome_57 rfl ?_
    exact xr_iret dX9_canBecome_61 rfl rfl (⟨congrArg (fun z => some (Value.int z)) (bI_t c1).symm, rfl, rfl, rfl⟩)
set_option maxRecDepth 100000 in
set_option maxHeartbeats 4000000 in
theorem cw_X9_cb_6 (v : Int32) {l : Launch} {G : xG} {M : xM} {J : xJ} {cn : Nat} (h_cn : cn ≤ 5) (e_cn : M 13 2 = nI cn) : x_M l G fX9_canBecome 2 0 0 [.ref (0), .int (0), .int (6), .int (v)] x_SH M J (qE (some (.int (bI (0 ≤ v ∧ v ≤ 5)))) x_SH M J) := by
  refine xb_of pX9 (Nat.le_of_ble_eq_true rfl) rfl ?_
  refine xr_iload_n dX9_canBecome_0 2 rfl ?_
  refine xr_if_lt (tgt := 43) dX9_canBecome_1 rfl (fun c => absurd c (by decide)) (fun _ => ?_)
  refine xr_iload_n dX9_canBecome_4 2 rfl ?_
  refine xr_iconst (v := 2) dX9_canBecome_5 rfl ?_
  refine xr_icmp_gt (tgt := 43) dX9_canBecome_6 rfl (fun _ => ?_) (fun c => absurd (by decide) c)
  refine xr_iload_n dX9_canBecome_43 1 rfl ?_
  refine xr_if_ne (tgt := 60) dX9_canBecome_44 rfl (fun c => absurd (by decide) c) (fun _ => ?_)
  refine xr_aload_n dX9_canBecome_47 0 rfl ?_
  refine xr_iload_n dX9_canBecome_48 2 rfl ?_
  refine xr_iload_n dX9_canBecome_49 3 rfl ?_
  refine xb_cV (As := [.int (6), .int (v)]) (rest := []) mlX9_407 (cw_X9_scb_6 v) dX9_canBecome_50 s_0 rfl rfl (Nat.le_of_ble_eq_true rfl) (by decide) (by decide) ?_
  refine xb_beq (tgt := 60) dX9_canBecome_53 rfl (fun c1 => ?_) (fun c1 => ?_)
  · refine xr_iconst (v := 0) dX9_canBecome_60 rfl ?_
    exact xr_iret dX9_canBecome_61 rfl rfl (⟨congrArg (fun z => some (Value.int z)) (bI_f c1).symm, rfl, rfl, rfl⟩)
  · refine xr_iconst (v := 1) dX9_canBecome_56 rfl ?_
    refine xr_goto (tgt := 61) dX9_canBecome_57 rfl ?_
    exact xr_iret dX9_canBecome_61 rfl rfl (⟨congrArg (fun z => some (Value.int z)) (bI_t c1).symm, rfl, rfl, rfl⟩)
set_option maxRecDepth 100000 in
set_option maxHeartbeats 4000000 in
theorem cw_X9_cb_7 (v : Int32) {l : Launch} {G : xG} {M : xM} {J : xJ} {cn : Nat} (h_cn : cn ≤ 5) (e_cn : M 13 2 = nI cn) : x_M l G fX9_canBecome 2 0 0 [.ref (0), .int (0), .int (7), .int (v)] x_SH M J (qE (some (.int (bI (0 ≤ v ∧ v ≤ 12)))) x_SH M J) := by
  refine xb_of pX9 (Nat.le_of_ble_eq_true rfl) rfl ?_
  refine xr_iload_n dX9_canBecome_0 2 rfl ?_
  refine xr_if_lt (tgt := 43) dX9_canBecome_1 rfl (fun c => absurd c (by decide)) (fun _ => ?_)
  refine xr_iload_n dX9_canBecome_4 2 rfl ?_
  refine xr_iconst (v := 2) dX9_canBecome_5 rfl ?_
  refine xr_icmp_gt (tgt := 43) dX9_canBecome_6 rfl (fun _ => ?_) (fun c => absurd (by decide) c)
  refine xr_iload_n dX9_canBecome_43 1 rfl ?_
  refine xr_if_ne (tgt := 60) dX9_canBecome_44 rfl (fun c => absurd (by decide) c) (fun _ => ?_)
  refine xr_aload_n dX9_canBecome_47 0 rfl ?_
  refine xr_iload_n dX9_canBecome_48 2 rfl ?_
  refine xr_iload_n dX9_canBecome_49 3 rfl ?_
  refine xb_cV (As := [.int (7), .int (v)]) (rest := []) mlX9_407 (cw_X9_scb_7 v) dX9_canBecome_50 s_0 rfl rfl (Nat.le_of_ble_eq_true rfl) (by decide) (by decide) ?_
  refine xb_beq (tgt := 60) dX9_canBecome_53 rfl (fun c1 => ?_) (fun c1 => ?_)
  · refine xr_iconst (v := 0) dX9_canBecome_60 rfl ?_
    exact xr_iret dX9_canBecome_61 rfl rfl (⟨congrArg (fun z => some (Value.int z)) (bI_f c1).symm, rfl, rfl, rfl⟩)
  · refine xr_iconst (v := 1) dX9_canBecome_56 rfl ?_
    refine xr_goto (tgt := 61) dX9_canBecome_57 rfl ?_
    exact xr_iret dX9_canBecome_61 rfl rfl (⟨congrArg (fun z => some (Value.int z)) (bI_t c1).symm, rfl, rfl, rfl⟩)
set_option maxRecDepth 100000 in
set_option maxHeartbeats 4000000 in
theorem cw_X9_cb_a (nu w v : Int32) {l : Launch} {G : xG} {M : xM} {J : xJ} {cn : Nat} (h_cn : cn ≤ 5) (e_cn : M 13 2 = nI cn) (hw : 0 ≤ w ∧ w ≤ 2) (hb : ¬ (0 ≤ nu ∧ nu < nI cn)) : x_M l G fX9_canBecome 2 0 0 [.ref (0), .int (nu), .int (w), .int (v)] x_SH M J (qE (some (.int (0))) x_SH M J) := by
  refine xb_of pX9 (Nat.le_of_ble_eq_true rfl) rfl ?_
  refine xr_iload_n dX9_canBecome_0 2 rfl ?_
  refine xr_if_lt (tgt := 43) dX9_canBecome_1 rfl (fun c => absurd c (Int32.not_lt.mpr hw.1)) (fun _ => ?_)
  refine xr_iload_n dX9_canBecome_4 2 rfl ?_
  refine xr_iconst (v := 2) dX9_canBecome_5 rfl ?_
  refine xr_icmp_gt (tgt := 43) dX9_canBecome_6 rfl (fun c => absurd c (Int32.not_lt.mpr hw.2)) (fun _ => ?_)
  refine xr_aload_n dX9_canBecome_9 0 rfl ?_
  refine xr_getR flX9_28 dX9_canBecome_10 s_0 rfl ?_
  refine xr_iload_n dX9_canBecome_13 1 rfl ?_
  refine xb_cV (As := [.int (nu)]) (rest := []) mlX9_118 (c_X5_has nu (by omega) e_cn) dX9_canBecome_14 s_13 rfl rfl (Nat.le_of_ble_eq_true rfl) (by decide) (by decide) ?_
  refine xb_beq (tgt := 41) dX9_canBecome_17 rfl (fun _ => ?_) (fun c => absurd c hb)
  refine xr_iconst (v := 0) dX9_canBecome_41 rfl ?_
  exact xr_iret dX9_canBecome_42 rfl rfl (⟨rfl, rfl, rfl, rfl⟩)
set_option maxRecDepth 100000 in
set_option maxHeartbeats 4000000 in
theorem cw_X9_cb_b (nu w v : Int32) {l : Launch} {G : xG} {M : xM} {J : xJ} {cn : Nat} (h_cn : cn ≤ 5) (e_cn : M 13 2 = nI cn) (hw : ¬ (0 ≤ w ∧ w ≤ 2)) (hnu : ¬ nu = 0) : x_M l G fX9_canBecome 2 0 0 [.ref (0), .int (nu), .int (w), .int (v)] x_SH M J (qE (some (.int (0))) x_SH M J) := by
  refine xb_of pX9 (Nat.le_of_ble_eq_true rfl) rfl ?_
  refine xr_iload_n dX9_canBecome_0 2 rfl ?_
  refine xr_if_lt (tgt := 43) dX9_canBecome_1 rfl (fun c1 => ?_) (fun c1 => ?_)
  · refine xr_iload_n dX9_canBecome_43 1 rfl ?_
    refine xr_if_ne (tgt := 60) dX9_canBecome_44 rfl (fun _ => ?_) (fun c => absurd c hnu)
    refine xr_iconst (v := 0) dX9_canBecome_60 rfl ?_
    exact xr_iret dX9_canBecome_61 rfl rfl (⟨rfl, rfl, rfl, rfl⟩)
  · refine xr_iload_n dX9_canBecome_4 2 rfl ?_
    refine xr_iconst (v := 2) dX9_canBecome_5 rfl ?_
    refine xr_icmp_gt (tgt := 43) dX9_canBecome_6 rfl (fun c2 => ?_) (fun c2 => ?_)
    · refine xr_iload_n dX9_canBecome_43 1 rfl ?_
      refine xr_if_ne (tgt := 60) dX9_canBecome_44 rfl (fun _ => ?_) (fun c => absurd c hnu)
      refine xr_iconst (v := 0) dX9_canBecome_60 rfl ?_
      exact xr_iret dX9_canBecome_61 rfl rfl (⟨rfl, rfl, rfl, rfl⟩)
    · exact absurd ⟨Int32.not_lt.mp c1, Int32.not_lt.mp c2⟩ hw
set_option maxRecDepth 100000 in
set_option maxHeartbeats 4000000 in
theorem cw_X9_cb_c (w v : Int32) {l : Launch} {G : xG} {M : xM} {J : xJ} {cn : Nat} (h_cn : cn ≤ 5) (e_cn : M 13 2 = nI cn) (hw : ¬ (0 ≤ w ∧ w ≤ 2)) (hwo : ¬ (3 ≤ w ∧ w ≤ 7)) : x_M l G fX9_canBecome 2 0 0 [.ref (0), .int (0), .int (w), .int (v)] x_SH M J (qE (some (.int (0))) x_SH M J) := by
  refine xb_of pX9 (Nat.le_of_ble_eq_true rfl) rfl ?_
  refine xr_iload_n dX9_canBecome_0 2 rfl ?_
  refine xr_if_lt (tgt := 43) dX9_canBecome_1 rfl (fun c1 => ?_) (fun c1 => ?_)
  · refine xr_iload_n dX9_canBecome_43 1 rfl ?_
    refine xr_if_ne (tgt := 60) dX9_canBecome_44 rfl (fun c => absurd (by decide) c) (fun _ => ?_)
    refine xr_aload_n dX9_canBecome_47 0 rfl ?_
    refine xr_iload_n dX9_canBecome_48 2 rfl ?_
    refine xr_iload_n dX9_canBecome_49 3 rfl ?_
    refine xr_callV (As := [.int (w), .int (v)]) (rest := []) mlX9_407 (cw_X9_scb_o w v hwo) dX9_canBecome_50 s_0 rfl rfl (Nat.le_of_ble_eq_true rfl) (by decide) ⟨by decide, by decide⟩ (fun v s2 M9 J2 hq => ?_)
    obtain ⟨r3, rfl, rfl, rfl, rfl, hx2⟩ := hq
    try dsimp only [Option.toList, List.cons_append, List.nil_append]
    subst hx2
    refine xr_if_eq (tgt := 60) dX9_canBecome_53 rfl (fun _ => ?_) (fun c => absurd (by decide) c)
    refine xr_iconst (v := 0) dX9_canBecome_60 rfl ?_
    exact xr_iret dX9_canBecome_61 rfl rfl (⟨rfl, rfl, rfl, rfl⟩)
  · refine xr_iload_n dX9_canBecome_4 2 rfl ?_
    refine xr_iconst (v := 2) dX9_canBecome_5 rfl ?_
    refine xr_icmp_gt (tgt := 43) dX9_canBecome_6 rfl (fun c4 => ?_) (fun c4 => ?_)
    · refine xr_iload_n dX9_canBecome_43 1 rfl ?_
      refine xr_if_ne (tgt := 60) dX9_canBecome_44 rfl (fun c => absurd (by decide) c) (fun _ => ?_)
      refine xr_aload_n dX9_canBecome_47 0 rfl ?_
      refine xr_iload_n dX9_canBecome_48 2 rfl ?_
      refine xr_iload_n dX9_canBecome_49 3 rfl ?_
      refine xr_callV (As := [.int (w), .int (v)]) (rest := []) mlX9_407 (cw_X9_scb_o w v hwo) dX9_canBecome_50 s_0 rfl rfl (Nat.le_of_ble_eq_true rfl) (by decide) ⟨by decide, by decide⟩ (fun v s2 M9 J2 hq => ?_)
      obtain ⟨r6, rfl, rfl, rfl, rfl, hx5⟩ := hq
      try dsimp only [Option.toList, List.cons_append, List.nil_append]
      subst hx5
      refine xr_if_eq (tgt := 60) dX9_canBecome_53 rfl (fun _ => ?_) (fun c => absurd (by decide) c)
      refine xr_iconst (v := 0) dX9_canBecome_60 rfl ?_
      exact xr_iret dX9_canBecome_61 rfl rfl (⟨rfl, rfl, rfl, rfl⟩)
    · exact absurd ⟨Int32.not_lt.mp c1, Int32.not_lt.mp c4⟩ hw
set_option maxRecDepth 100000 in
set_option maxHeartbeats 4000000 in
theorem cw_X9_vo_0 {i : Nat} {l : Launch} {G : xG} {M : xM} {J : xJ} {cn : Nat} (h_cn : cn ≤ 5) (e_cn : M 13 2 = nI cn) (hi : i < cn) : x_M l G fX9_valueOf 2 0 0 [.ref (0), .int (nI (i)), .int (0)] x_SH M J (qE (some (.int (M (15 + i) 0))) x_SH M J) := by
  refine xb_of pX9 (Nat.le_of_ble_eq_true rfl) rfl ?_
  refine xr_iload_n dX9_valueOf_0 2 rfl ?_
  refine xr_iconst (v := 2) dX9_valueOf_1 rfl ?_
  refine xr_icmp_gt (tgt := 35) dX9_valueOf_2 rfl (fun c => absurd c (by decide)) (fun _ => ?_)
  refine xr_aload_n dX9_valueOf_5 0 rfl ?_
  refine xr_getR flX9_28 dX9_valueOf_6 s_0 rfl ?_
  refine xr_iload_n dX9_valueOf_9 1 rfl ?_
  refine xb_cV (As := [.int (nI (i))]) (rest := []) mlX9_118 (c_X5_has (nI (i)) (by omega) e_cn) dX9_valueOf_10 s_13 rfl rfl (Nat.le_of_ble_eq_true rfl) (by decide) (by decide) ?_
  refine xb_beq (tgt := 32) dX9_valueOf_13 rfl (fun c => absurd ⟨nI_pos' (by omega), nI_lt (a := i) (b := cn) (by omega) (by omega)⟩ c) (fun _ => ?_)
  refine xr_aload_n dX9_valueOf_16 0 rfl ?_
  refine xr_getR flX9_28 dX9_valueOf_17 s_0 rfl ?_
  refine xr_getR flX9_121 dX9_valueOf_20 s_13 rfl ?_
  refine xr_iload_n dX9_valueOf_23 1 rfl ?_
  refine xb_aald (j := i) (q := 15 + i) (by decide) dX9_valueOf_24 s_14 (by omega) (by decide) (if_pos (by omega)) ?_
  refine xr_iload_n dX9_valueOf_25 2 rfl ?_
  refine xb_cV (As := [.int (0)]) (rest := []) mlX9_125 (cw_X2_told_0 (s_hp15 (by omega))) dX9_valueOf_26 (s_hp15 (by omega)) rfl rfl (Nat.le_of_ble_eq_true rfl) (by decide) (by decide) ?_
  refine xr_goto (tgt := 34) dX9_valueOf_29 rfl ?_
  exact xr_iret dX9_valueOf_34 rfl rfl (⟨rfl, rfl, rfl, rfl⟩)
set_option maxRecDepth 100000 in
set_option maxHeartbeats 4000000 in
theorem cw_X9_lay_0 (v : Int32) {i : Nat} {l : Launch} {G : xG} {M : xM} {J : xJ} {cn : Nat} (h_cn : cn ≤ 5) (e_cn : M 13 2 = nI cn) (hi : i < cn) : x_M l G fX9_lay 2 0 0 [.ref (0), .int (nI (i)), .int (0), .int (v)] x_SH M J (qE none x_SH (x_up M (15 + i) 0 v) J) := by
  refine xb_of pX9 (Nat.le_of_ble_eq_true rfl) rfl ?_
  refine xr_iload_n dX9_lay_0 2 rfl ?_
  refine xr_tableOut (tgt := 91) dX9_lay_1 (by decide) rfl ?_
  refine xr_aload_n dX9_lay_91 0 rfl ?_
  refine xr_getR flX9_28 dX9_lay_92 s_0 rfl ?_
  refine xr_iload_n dX9_lay_95 1 rfl ?_
  refine xb_cV (As := [.int (nI (i))]) (rest := []) mlX9_118 (c_X5_has (nI (i)) (by omega) e_cn) dX9_lay_96 s_13 rfl rfl (Nat.le_of_ble_eq_true rfl) (by decide) (by decide) ?_
  refine xb_beq (tgt := 116) dX9_lay_99 rfl (fun c => absurd ⟨nI_pos' (by omega), nI_lt (a := i) (b := cn) (by omega) (by omega)⟩ c) (fun _ => ?_)
  refine xr_aload_n dX9_lay_102 0 rfl ?_
  refine xr_getR flX9_28 dX9_lay_103 s_0 rfl ?_
  refine xr_getR flX9_121 dX9_lay_106 s_13 rfl ?_
  refine xr_iload_n dX9_lay_109 1 rfl ?_
  refine xb_aald (j := i) (q := 15 + i) (by decide) dX9_lay_110 s_14 (by omega) (by decide) (if_pos (by omega)) ?_
  refine xr_iload_n dX9_lay_111 2 rfl ?_
  refine xr_iload_n dX9_lay_112 3 rfl ?_
  refine xb_cV (As := [.int (0), .int (v)]) (rest := []) mlX9_416 (cw_X2_become_0 v (s_hp15 (by omega))) dX9_lay_113 (s_hp15 (by omega)) rfl rfl (Nat.le_of_ble_eq_true rfl) (by decide) (by decide) ?_
  exact xr_vret dX9_lay_116 rfl (⟨rfl, rfl, rfl, rfl⟩)
set_option maxRecDepth 100000 in
set_option maxHeartbeats 4000000 in
theorem cw_X9_vo_1 {i : Nat} {l : Launch} {G : xG} {M : xM} {J : xJ} {cn : Nat} (h_cn : cn ≤ 5) (e_cn : M 13 2 = nI cn) (hi : i < cn) : x_M l G fX9_valueOf 2 0 0 [.ref (0), .int (nI (i)), .int (1)] x_SH M J (qE (some (.int (M (15 + i) 1))) x_SH M J) := by
  refine xb_of pX9 (Nat.le_of_ble_eq_true rfl) rfl ?_
  refine xr_iload_n dX9_valueOf_0 2 rfl ?_
  refine xr_iconst (v := 2) dX9_valueOf_1 rfl ?_
  refine xr_icmp_gt (tgt := 35) dX9_valueOf_2 rfl (fun c => absurd c (by decide)) (fun _ => ?_)
  refine xr_aload_n dX9_valueOf_5 0 rfl ?_
  refine xr_getR flX9_28 dX9_valueOf_6 s_0 rfl ?_
  refine xr_iload_n dX9_valueOf_9 1 rfl ?_
  refine xb_cV (As := [.int (nI (i))]) (rest := []) mlX9_118 (c_X5_has (nI (i)) (by omega) e_cn) dX9_valueOf_10 s_13 rfl rfl (Nat.le_of_ble_eq_true rfl) (by decide) (by decide) ?_
  refine xb_beq (tgt := 32) dX9_valueOf_13 rfl (fun c => absurd ⟨nI_pos' (by omega), nI_lt (a := i) (b := cn) (by omega) (by omega)⟩ c) (fun _ => ?_)
  refine xr_aload_n dX9_valueOf_16 0 rfl ?_
  refine xr_getR flX9_28 dX9_valueOf_17 s_0 rfl ?_
  refine xr_getR flX9_121 dX9_valueOf_20 s_13 rfl ?_
  refine xr_iload_n dX9_valueOf_23 1 rfl ?_
  refine xb_aald (j := i) (q := 15 + i) (by decide) dX9_valueOf_24 s_14 (by omega) (by decide) (if_pos (by omega)) ?_
  refine xr_iload_n dX9_valueOf_25 2 rfl ?_
  refine xb_cV (As := [.int (1)]) (rest := []) mlX9_125 (cw_X2_told_1 (s_hp15 (by omega))) dX9_valueOf_26 (s_hp15 (by omega)) rfl rfl (Nat.le_of_ble_eq_true rfl) (by decide) (by decide) ?_
  refine xr_goto (tgt := 34) dX9_valueOf_29 rfl ?_
  exact xr_iret dX9_valueOf_34 rfl rfl (⟨rfl, rfl, rfl, rfl⟩)
set_option maxRecDepth 100000 in
set_option maxHeartbeats 4000000 in
theorem cw_X9_lay_1 (v : Int32) {i : Nat} {l : Launch} {G : xG} {M : xM} {J : xJ} {cn : Nat} (h_cn : cn ≤ 5) (e_cn : M 13 2 = nI cn) (hi : i < cn) : x_M l G fX9_lay 2 0 0 [.ref (0), .int (nI (i)), .int (1), .int (v)] x_SH M J (qE none x_SH (x_up M (15 + i) 1 v) J) := by
  refine xb_of pX9 (Nat.le_of_ble_eq_true rfl) rfl ?_
  refine xr_iload_n dX9_lay_0 2 rfl ?_
  refine xr_tableOut (tgt := 91) dX9_lay_1 (by decide) rfl ?_
  refine xr_aload_n dX9_lay_91 0 rfl ?_
  refine xr_getR flX9_28 dX9_lay_92 s_0 rfl ?_
  refine xr_iload_n dX9_lay_95 1 rfl ?_
  refine xb_cV (As := [.int (nI (i))]) (rest := []) mlX9_118 (c_X5_has (nI (i)) (by omega) e_cn) dX9_lay_96 s_13 rfl rfl (Nat.le_of_ble_eq_true rfl) (by decide) (by decide) ?_
  refine xb_beq (tgt := 116) dX9_lay_99 rfl (fun c => absurd ⟨nI_pos' (by omega), nI_lt (a := i) (b := cn) (by omega) (by omega)⟩ c) (fun _ => ?_)
  refine xr_aload_n dX9_lay_102 0 rfl ?_
  refine xr_getR flX9_28 dX9_lay_103 s_0 rfl ?_
  refine xr_getR flX9_121 dX9_lay_106 s_13 rfl ?_
  refine xr_iload_n dX9_lay_109 1 rfl ?_
  refine xb_aald (j := i) (q := 15 + i) (by decide) dX9_lay_110 s_14 (by omega) (by decide) (if_pos (by omega)) ?_
  refine xr_iload_n dX9_lay_111 2 rfl ?_
  refine xr_iload_n dX9_lay_112 3 rfl ?_
  refine xb_cV (As := [.int (1), .int (v)]) (rest := []) mlX9_416 (cw_X2_become_1 v (s_hp15 (by omega))) dX9_lay_113 (s_hp15 (by omega)) rfl rfl (Nat.le_of_ble_eq_true rfl) (by decide) (by decide) ?_
  exact xr_vret dX9_lay_116 rfl (⟨rfl, rfl, rfl, rfl⟩)
set_option maxRecDepth 100000 in
set_option maxHeartbeats 4000000 in
theorem cw_X9_vo_2 {i : Nat} {l : Launch} {G : xG} {M : xM} {J : xJ} {cn : Nat} (h_cn : cn ≤ 5) (e_cn : M 13 2 = nI cn) (hi : i < cn) : x_M l G fX9_valueOf 2 0 0 [.ref (0), .int (nI (i)), .int (2)] x_SH M J (qE (some (.int (M (15 + i) 3))) x_SH M J) := by
  refine xb_of pX9 (Nat.le_of_ble_eq_true rfl) rfl ?_
  refine xr_iload_n dX9_valueOf_0 2 rfl ?_
  refine xr_iconst (v := 2) dX9_valueOf_1 rfl ?_
  refine xr_icmp_gt (tgt := 35) dX9_valueOf_2 rfl (fun c => absurd c (by decide)) (fun _ => ?_)
  refine xr_aload_n dX9_valueOf_5 0 rfl ?_
  refine xr_getR flX9_28 dX9_valueOf_6 s_0 rfl ?_
  refine xr_iload_n dX9_valueOf_9 1 rfl ?_
  refine xb_cV (As := [.int (nI (i))]) (rest := []) mlX9_118 (c_X5_has (nI (i)) (by omega) e_cn) dX9_valueOf_10 s_13 rfl rfl (Nat.le_of_ble_eq_true rfl) (by decide) (by decide) ?_
  refine xb_beq (tgt := 32) dX9_valueOf_13 rfl (fun c => absurd ⟨nI_pos' (by omega), nI_lt (a := i) (b := cn) (by omega) (by omega)⟩ c) (fun _ => ?_)
  refine xr_aload_n dX9_valueOf_16 0 rfl ?_
  refine xr_getR flX9_28 dX9_valueOf_17 s_0 rfl ?_
  refine xr_getR flX9_121 dX9_valueOf_20 s_13 rfl ?_
  refine xr_iload_n dX9_valueOf_23 1 rfl ?_
  refine xb_aald (j := i) (q := 15 + i) (by decide) dX9_valueOf_24 s_14 (by omega) (by decide) (if_pos (by omega)) ?_
  refine xr_iload_n dX9_valueOf_25 2 rfl ?_
  refine xb_cV (As := [.int (2)]) (rest := []) mlX9_125 (cw_X2_told_2 (s_hp15 (by omega))) dX9_valueOf_26 (s_hp15 (by omega)) rfl rfl (Nat.le_of_ble_eq_true rfl) (by decide) (by decide) ?_
  refine xr_goto (tgt := 34) dX9_valueOf_29 rfl ?_
  exact xr_iret dX9_valueOf_34 rfl rfl (⟨rfl, rfl, rfl, rfl⟩)
set_option maxRecDepth 100000 in
set_option maxHeartbeats 4000000 in
theorem cw_X9_lay_2 (v : Int32) {i : Nat} {l : Launch} {G : xG} {M : xM} {J : xJ} {cn : Nat} (h_cn : cn ≤ 5) (e_cn : M 13 2 = nI cn) (hi : i < cn) : x_M l G fX9_lay 2 0 0 [.ref (0), .int (nI (i)), .int (2), .int (v)] x_SH M J (qE none x_SH (x_up M (15 + i) 3 (if M (15 + i) 4 = 0 then 0 else v)) J) := by
  refine xb_of pX9 (Nat.le_of_ble_eq_true rfl) rfl ?_
  refine xr_iload_n dX9_lay_0 2 rfl ?_
  refine xr_tableOut (tgt := 91) dX9_lay_1 (by decide) rfl ?_
  refine xr_aload_n dX9_lay_91 0 rfl ?_
  refine xr_getR flX9_28 dX9_lay_92 s_0 rfl ?_
  refine xr_iload_n dX9_lay_95 1 rfl ?_
  refine xb_cV (As := [.int (nI (i))]) (rest := []) mlX9_118 (c_X5_has (nI (i)) (by omega) e_cn) dX9_lay_96 s_13 rfl rfl (Nat.le_of_ble_eq_true rfl) (by decide) (by decide) ?_
  refine xb_beq (tgt := 116) dX9_lay_99 rfl (fun c => absurd ⟨nI_pos' (by omega), nI_lt (a := i) (b := cn) (by omega) (by omega)⟩ c) (fun _ => ?_)
  refine xr_aload_n dX9_lay_102 0 rfl ?_
  refine xr_getR flX9_28 dX9_lay_103 s_0 rfl ?_
  refine xr_getR flX9_121 dX9_lay_106 s_13 rfl ?_
  refine xr_iload_n dX9_lay_109 1 rfl ?_
  refine xb_aald (j := i) (q := 15 + i) (by decide) dX9_lay_110 s_14 (by omega) (by decide) (if_pos (by omega)) ?_
  refine xr_iload_n dX9_lay_111 2 rfl ?_
  refine xr_iload_n dX9_lay_112 3 rfl ?_
  refine xb_cV (As := [.int (2), .int (v)]) (rest := []) mlX9_416 (cw_X2_become_2 v (s_hp15 (by omega))) dX9_lay_113 (s_hp15 (by omega)) rfl rfl (Nat.le_of_ble_eq_true rfl) (by decide) (by decide) ?_
  exact xr_vret dX9_lay_116 rfl (⟨rfl, rfl, rfl, rfl⟩)
set_option maxRecDepth 100000 in
set_option maxHeartbeats 4000000 in
theorem cw_X9_vo_3 {l : Launch} {G : xG} {M : xM} {J : xJ} : x_M l G fX9_valueOf 2 0 0 [.ref (0), .int (0), .int (3)] x_SH M J (qE (some (.int (M 13 4))) x_SH M J) := by
  refine xb_of pX9 (Nat.le_of_ble_eq_true rfl) rfl ?_
  refine xr_iload_n dX9_valueOf_0 2 rfl ?_
  refine xr_iconst (v := 2) dX9_valueOf_1 rfl ?_
  refine xr_icmp_gt (tgt := 35) dX9_valueOf_2 rfl (fun _ => ?_) (fun c => absurd (by decide) c)
  refine xr_aload_n dX9_valueOf_35 0 rfl ?_
  refine xr_iload_n dX9_valueOf_36 2 rfl ?_
  refine xr_bipush (v := 7) dX9_valueOf_37 rfl ?_
  refine xr_iadd dX9_valueOf_39 ?_
  refine xb_top (y := 10) (by decide) ?_
  refine xb_cV (As := [.int (10)]) (rest := []) mlX9_131 (cw_X9_settingOf_10) dX9_valueOf_40 s_0 rfl rfl (Nat.le_of_ble_eq_true rfl) (by decide) (by decide) ?_
  exact xr_iret dX9_valueOf_43 rfl rfl (⟨rfl, rfl, rfl, rfl⟩)
set_option maxRecDepth 100000 in
set_option maxHeartbeats 4000000 in
theorem cw_X9_lay_3 (v : Int32) {l : Launch} {G : xG} {M : xM} {J : xJ} : x_M l G fX9_lay 2 0 0 [.ref (0), .int (0), .int (3), .int (v)] x_SH M J (qE none x_SH (x_up M 13 4 v) J) := by
  refine xb_of pX9 (Nat.le_of_ble_eq_true rfl) rfl ?_
  refine xr_iload_n dX9_lay_0 2 rfl ?_
  refine xr_tableIn (tgt := 36) dX9_lay_1 (by decide) (by decide) rfl rfl ?_
  refine xr_aload_n dX9_lay_36 0 rfl ?_
  refine xr_getR flX9_28 dX9_lay_37 s_0 rfl ?_
  refine xr_iload_n dX9_lay_40 3 rfl ?_
  refine xr_putI fpX9_410 dX9_lay_41 s_13 rfl rfl rfl ?_
  refine xr_goto (tgt := 116) dX9_lay_44 rfl ?_
  exact xr_vret dX9_lay_116 rfl (⟨rfl, rfl, rfl, rfl⟩)
set_option maxRecDepth 100000 in
set_option maxHeartbeats 4000000 in
theorem cw_X9_vo_4 {l : Launch} {G : xG} {M : xM} {J : xJ} : x_M l G fX9_valueOf 2 0 0 [.ref (0), .int (0), .int (4)] x_SH M J (qE (some (.int (M 13 5))) x_SH M J) := by
  refine xb_of pX9 (Nat.le_of_ble_eq_true rfl) rfl ?_
  refine xr_iload_n dX9_valueOf_0 2 rfl ?_
  refine xr_iconst (v := 2) dX9_valueOf_1 rfl ?_
  refine xr_icmp_gt (tgt := 35) dX9_valueOf_2 rfl (fun _ => ?_) (fun c => absurd (by decide) c)
  refine xr_aload_n dX9_valueOf_35 0 rfl ?_
  refine xr_iload_n dX9_valueOf_36 2 rfl ?_
  refine xr_bipush (v := 7) dX9_valueOf_37 rfl ?_
  refine xr_iadd dX9_valueOf_39 ?_
  refine xb_top (y := 11) (by decide) ?_
  refine xb_cV (As := [.int (11)]) (rest := []) mlX9_131 (cw_X9_settingOf_11) dX9_valueOf_40 s_0 rfl rfl (Nat.le_of_ble_eq_true rfl) (by decide) (by decide) ?_
  exact xr_iret dX9_valueOf_43 rfl rfl (⟨rfl, rfl, rfl, rfl⟩)
set_option maxRecDepth 100000 in
set_option maxHeartbeats 4000000 in
theorem cw_X9_lay_4 (v : Int32) {l : Launch} {G : xG} {M : xM} {J : xJ} : x_M l G fX9_lay 2 0 0 [.ref (0), .int (0), .int (4), .int (v)] x_SH M J (qE none x_SH (x_up M 13 5 v) J) := by
  refine xb_of pX9 (Nat.le_of_ble_eq_true rfl) rfl ?_
  refine xr_iload_n dX9_lay_0 2 rfl ?_
  refine xr_tableIn (tgt := 47) dX9_lay_1 (by decide) (by decide) rfl rfl ?_
  refine xr_aload_n dX9_lay_47 0 rfl ?_
  refine xr_getR flX9_28 dX9_lay_48 s_0 rfl ?_
  refine xr_iload_n dX9_lay_51 3 rfl ?_
  refine xr_putI fpX9_202 dX9_lay_52 s_13 rfl rfl rfl ?_
  refine xr_goto (tgt := 116) dX9_lay_55 rfl ?_
  exact xr_vret dX9_lay_116 rfl (⟨rfl, rfl, rfl, rfl⟩)
set_option maxRecDepth 100000 in
set_option maxHeartbeats 4000000 in
theorem cw_X9_vo_5 {l : Launch} {G : xG} {M : xM} {J : xJ} : x_M l G fX9_valueOf 2 0 0 [.ref (0), .int (0), .int (5)] x_SH M J (qE (some (.int (M 13 6))) x_SH M J) := by
  refine xb_of pX9 (Nat.le_of_ble_eq_true rfl) rfl ?_
  refine xr_iload_n dX9_valueOf_0 2 rfl ?_
  refine xr_iconst (v := 2) dX9_valueOf_1 rfl ?_
  refine xr_icmp_gt (tgt := 35) dX9_valueOf_2 rfl (fun _ => ?_) (fun c => absurd (by decide) c)
  refine xr_aload_n dX9_valueOf_35 0 rfl ?_
  refine xr_iload_n dX9_valueOf_36 2 rfl ?_
  refine xr_bipush (v := 7) dX9_valueOf_37 rfl ?_
  refine xr_iadd dX9_valueOf_39 ?_
  refine xb_top (y := 12) (by decide) ?_
  refine xb_cV (As := [.int (12)]) (rest := []) mlX9_131 (cw_X9_settingOf_12) dX9_valueOf_40 s_0 rfl rfl (Nat.le_of_ble_eq_true rfl) (by decide) (by decide) ?_
  exact xr_iret dX9_valueOf_43 rfl rfl (⟨rfl, rfl, rfl, rfl⟩)
set_option maxRecDepth 100000 in
set_option maxHeartbeats 4000000 in
theorem cw_X9_lay_5 (v : Int32) {l : Launch} {G : xG} {M : xM} {J : xJ} : x_M l G fX9_lay 2 0 0 [.ref (0), .int (0), .int (5), .int (v)] x_SH M J (qE none x_SH (x_up M 13 6 v) J) := by
  refine xb_of pX9 (Nat.le_of_ble_eq_true rfl) rfl ?_
  refine xr_iload_n dX9_lay_0 2 rfl ?_
  refine xr_tableIn (tgt := 58) dX9_lay_1 (by decide) (by decide) rfl rfl ?_
  refine xr_aload_n dX9_lay_58 0 rfl ?_
  refine xr_getR flX9_28 dX9_lay_59 s_0 rfl ?_
  refine xr_iload_n dX9_lay_62 3 rfl ?_
  refine xr_putI fpX9_205 dX9_lay_63 s_13 rfl rfl rfl ?_
  refine xr_goto (tgt := 116) dX9_lay_66 rfl ?_
  exact xr_vret dX9_lay_116 rfl (⟨rfl, rfl, rfl, rfl⟩)
set_option maxRecDepth 100000 in
set_option maxHeartbeats 4000000 in
theorem cw_X9_vo_6 {l : Launch} {G : xG} {M : xM} {J : xJ} : x_M l G fX9_valueOf 2 0 0 [.ref (0), .int (0), .int (6)] x_SH M J (qE (some (.int (M 13 7))) x_SH M J) := by
  refine xb_of pX9 (Nat.le_of_ble_eq_true rfl) rfl ?_
  refine xr_iload_n dX9_valueOf_0 2 rfl ?_
  refine xr_iconst (v := 2) dX9_valueOf_1 rfl ?_
  refine xr_icmp_gt (tgt := 35) dX9_valueOf_2 rfl (fun _ => ?_) (fun c => absurd (by decide) c)
  refine xr_aload_n dX9_valueOf_35 0 rfl ?_
  refine xr_iload_n dX9_valueOf_36 2 rfl ?_
  refine xr_bipush (v := 7) dX9_valueOf_37 rfl ?_
  refine xr_iadd dX9_valueOf_39 ?_
  refine xb_top (y := 13) (by decide) ?_
  refine xb_cV (As := [.int (13)]) (rest := []) mlX9_131 (cw_X9_settingOf_13) dX9_valueOf_40 s_0 rfl rfl (Nat.le_of_ble_eq_true rfl) (by decide) (by decide) ?_
  exact xr_iret dX9_valueOf_43 rfl rfl (⟨rfl, rfl, rfl, rfl⟩)
set_option maxRecDepth 100000 in
set_option maxHeartbeats 4000000 in
theorem cw_X9_lay_6 (v : Int32) {l : Launch} {G : xG} {M : xM} {J : xJ} : x_M l G fX9_lay 2 0 0 [.ref (0), .int (0), .int (6), .int (v)] x_SH M J (qE none x_SH (x_up M 13 7 v) J) := by
  refine xb_of pX9 (Nat.le_of_ble_eq_true rfl) rfl ?_
  refine xr_iload_n dX9_lay_0 2 rfl ?_
  refine xr_tableIn (tgt := 69) dX9_lay_1 (by decide) (by decide) rfl rfl ?_
  refine xr_aload_n dX9_lay_69 0 rfl ?_
  refine xr_getR flX9_28 dX9_lay_70 s_0 rfl ?_
  refine xr_iload_n dX9_lay_73 3 rfl ?_
  refine xr_putI fpX9_208 dX9_lay_74 s_13 rfl rfl rfl ?_
  refine xr_goto (tgt := 116) dX9_lay_77 rfl ?_
  exact xr_vret dX9_lay_116 rfl (⟨rfl, rfl, rfl, rfl⟩)
set_option maxRecDepth 100000 in
set_option maxHeartbeats 4000000 in
theorem cw_X9_vo_7 {l : Launch} {G : xG} {M : xM} {J : xJ} : x_M l G fX9_valueOf 2 0 0 [.ref (0), .int (0), .int (7)] x_SH M J (qE (some (.int (M 35 5))) x_SH M J) := by
  refine xb_of pX9 (Nat.le_of_ble_eq_true rfl) rfl ?_
  refine xr_iload_n dX9_valueOf_0 2 rfl ?_
  refine xr_iconst (v := 2) dX9_valueOf_1 rfl ?_
  refine xr_icmp_gt (tgt := 35) dX9_valueOf_2 rfl (fun _ => ?_) (fun c => absurd (by decide) c)
  refine xr_aload_n dX9_valueOf_35 0 rfl ?_
  refine xr_iload_n dX9_valueOf_36 2 rfl ?_
  refine xr_bipush (v := 7) dX9_valueOf_37 rfl ?_
  refine xr_iadd dX9_valueOf_39 ?_
  refine xb_top (y := 14) (by decide) ?_
  refine xb_cV (As := [.int (14)]) (rest := []) mlX9_131 (cw_X9_settingOf_14) dX9_valueOf_40 s_0 rfl rfl (Nat.le_of_ble_eq_true rfl) (by decide) (by decide) ?_
  exact xr_iret dX9_valueOf_43 rfl rfl (⟨rfl, rfl, rfl, rfl⟩)
set_option maxRecDepth 100000 in
set_option maxHeartbeats 4000000 in
theorem cw_X9_lay_7 (v : Int32) {l : Launch} {G : xG} {M : xM} {J : xJ} : x_M l G fX9_lay 2 0 0 [.ref (0), .int (0), .int (7), .int (v)] x_SH M J (qE none x_SH (x_up M 35 5 v) J) := by
  refine xb_of pX9 (Nat.le_of_ble_eq_true rfl) rfl ?_
  refine xr_iload_n dX9_lay_0 2 rfl ?_
  refine xr_tableIn (tgt := 80) dX9_lay_1 (by decide) (by decide) rfl rfl ?_
  refine xr_aload_n dX9_lay_80 0 rfl ?_
  refine xr_getR flX9_47 dX9_lay_81 s_0 rfl ?_
  refine xr_iload_n dX9_lay_84 3 rfl ?_
  refine xr_putI fpX9_413 dX9_lay_85 s_35 rfl rfl rfl ?_
  refine xr_goto (tgt := 116) dX9_lay_88 rfl ?_
  exact xr_vret dX9_lay_116 rfl (⟨rfl, rfl, rfl, rfl⟩)
set_option maxRecDepth 100000 in
set_option maxHeartbeats 4000000 in
theorem gw_X0_forgetOldest {l : Launch} {G : xG} {M : xM} {J : xJ} : x_M l G fX0_forgetOldest 2 0 0 [.ref (41)] x_SH M J (qKV WCF M J (fun M2 => M2 41 4 = nI 39 ∧ ∀ j, j < 39 → M2 42 j = M 42 (j + 1) ∧ M2 43 j = M 43 (j + 1) ∧ M2 44 j = M 44 (j + 1) ∧ M2 45 j = M 45 (j + 1))) := by
  refine xb_of pX0 (Nat.le_of_ble_eq_true rfl) rfl ?_
  refine xr_aload_n dX0_forgetOldest_0 0 rfl ?_
  refine xr_getR flX0_9 dX0_forgetOldest_1 s_41 rfl ?_
  refine xr_iconst (v := 1) dX0_forgetOldest_4 rfl ?_
  refine xr_aload_n dX0_forgetOldest_5 0 rfl ?_
  refine xr_getR flX0_9 dX0_forgetOldest_6 s_41 rfl ?_
  refine xr_iconst (v := 0) dX0_forgetOldest_9 rfl ?_
  refine xr_bipush (v := 39) dX0_forgetOldest_10 rfl ?_
  refine xr_copyI acX0_32 uj_an uj_as uj_ai s_len s_42 s_42 (by decide) (by decide) (by decide) (by decide) (by decide) dX0_forgetOldest_12 (Nat.le_of_ble_eq_true rfl) (by decide) ?_
  refine xr_aload_n dX0_forgetOldest_15 0 rfl ?_
  refine xr_getR flX0_13 dX0_forgetOldest_16 s_41 rfl ?_
  refine xr_iconst (v := 1) dX0_forgetOldest_19 rfl ?_
  refine xr_aload_n dX0_forgetOldest_20 0 rfl ?_
  refine xr_getR flX0_13 dX0_forgetOldest_21 s_41 rfl ?_
  refine xr_iconst (v := 0) dX0_forgetOldest_24 rfl ?_
  refine xr_bipush (v := 39) dX0_forgetOldest_25 rfl ?_
  refine xr_copyI acX0_32 uj_an uj_as uj_ai s_len s_43 s_43 (by decide) (by decide) (by decide) (by decide) (by decide) dX0_forgetOldest_27 (Nat.le_of_ble_eq_true rfl) (by decide) ?_
  refine xr_aload_n dX0_forgetOldest_30 0 rfl ?_
  refine xr_getR flX0_16 dX0_forgetOldest_31 s_41 rfl ?_
  refine xr_iconst (v := 1) dX0_forgetOldest_34 rfl ?_
  refine xr_aload_n dX0_forgetOldest_35 0 rfl ?_
  refine xr_getR flX0_16 dX0_forgetOldest_36 s_41 rfl ?_
  refine xr_iconst (v := 0) dX0_forgetOldest_39 rfl ?_
  refine xr_bipush (v := 39) dX0_forgetOldest_40 rfl ?_
  refine xr_copyI acX0_32 uj_an uj_as uj_ai s_len s_44 s_44 (by decide) (by decide) (by decide) (by decide) (by decide) dX0_forgetOldest_42 (Nat.le_of_ble_eq_true rfl) (by decide) ?_
  refine xr_aload_n dX0_forgetOldest_45 0 rfl ?_
  refine xr_getR flX0_19 dX0_forgetOldest_46 s_41 rfl ?_
  refine xr_iconst (v := 1) dX0_forgetOldest_49 rfl ?_
  refine xr_aload_n dX0_forgetOldest_50 0 rfl ?_
  refine xr_getR flX0_19 dX0_forgetOldest_51 s_41 rfl ?_
  refine xr_iconst (v := 0) dX0_forgetOldest_54 rfl ?_
  refine xr_bipush (v := 39) dX0_forgetOldest_55 rfl ?_
  refine xr_copyI acX0_32 uj_an uj_as uj_ai s_len s_45 s_45 (by decide) (by decide) (by decide) (by decide) (by decide) dX0_forgetOldest_57 (Nat.le_of_ble_eq_true rfl) (by decide) ?_
  refine xr_aload_n dX0_forgetOldest_60 0 rfl ?_
  refine xr_bipush (v := 39) dX0_forgetOldest_61 rfl ?_
  refine xr_putI fpX0_22 dX0_forgetOldest_63 s_41 rfl rfl rfl ?_
  exact xr_vret dX0_forgetOldest_66 rfl (⟨rfl, rfl, rfl, (Ke.up (Or.inl (by omega)) (Ke.row (by intro k; unfold WCF; omega) (Ke.row (by intro k; unfold WCF; omega) (Ke.row (by intro k; unfold WCF; omega) (Ke.row (by intro k; unfold WCF; omega) Ke.rf))))), ⟨(x_up_s _ _ _ _), fun j hj => ⟨(by show (if (0:Nat) ≤ j ∧ j < 0 + 39 then M 42 (1 + (j - 0)) else M 42 j) = _; rw [if_pos ⟨by omega, by omega⟩]; congr 1; omega), (by show (if (0:Nat) ≤ j ∧ j < 0 + 39 then M 43 (1 + (j - 0)) else M 43 j) = _; rw [if_pos ⟨by omega, by omega⟩]; congr 1; omega), (by show (if (0:Nat) ≤ j ∧ j < 0 + 39 then M 44 (1 + (j - 0)) else M 44 j) = _; rw [if_pos ⟨by omega, by omega⟩]; congr 1; omega), (by show (if (0:Nat) ≤ j ∧ j < 0 + 39 then M 45 (1 + (j - 0)) else M 45 j) = _; rw [if_pos ⟨by omega, by omega⟩]; congr 1; omega)⟩⟩⟩)
set_option maxRecDepth 100000 in
set_option maxHeartbeats 4000000 in
theorem gw_X0_note (nu wh wa be : Int32) {un : Nat} (h_un : un ≤ 40) {l : Launch} {G : xG} {M : xM} {J : xJ} (e_un : M 41 4 = nI un) : x_M l G fX0_note 3 0 0 [.ref (41), .int (nu), .int (wh), .int (wa), .int (be)] x_SH M J (qKV WCH M J (fun M2 => M2 41 4 = nI (ntU un) ∧ M2 41 5 = nI (ntU un) ∧ NTr M M2 42 un nu ∧ NTr M M2 43 un wh ∧ NTr M M2 44 un wa ∧ NTr M M2 45 un be)) := by
  refine xb_of pX0 (Nat.le_of_ble_eq_true rfl) rfl ?_
  refine xr_aload_n dX0_note_0 0 rfl ?_
  refine xb_get (v := nI (un)) flX0_22 dX0_note_1 s_41 rfl e_un ?_
  refine xr_bipush (v := 40) dX0_note_4 rfl ?_
  refine xr_icmp_lt (tgt := 13) dX0_note_6 rfl (fun c1 => ?_) (fun c1 => ?_)
  · have nc1 : un < 40 := (nI_ltI (a := un) (b := 40) (by omega) (by omega)).mp c1
    have hun : un < 40 := by omega
    refine xr_aload_n dX0_note_13 0 rfl ?_
    refine xr_getR flX0_9 dX0_note_14 s_41 rfl ?_
    refine xr_aload_n dX0_note_17 0 rfl ?_
    refine xb_get (v := nI (un)) flX0_22 dX0_note_18 s_41 rfl e_un ?_
    refine xr_iload_n dX0_note_21 1 rfl ?_
    refine xb_iast (j := un) dX0_note_22 s_42 (by omega) (by decide) ?_
    refine xr_aload_n dX0_note_23 0 rfl ?_
    refine xr_getR flX0_13 dX0_note_24 s_41 rfl ?_
    refine xr_aload_n dX0_note_27 0 rfl ?_
    refine xb_get (v := nI (un)) flX0_22 dX0_note_28 s_41 rfl (Eq.trans (congrFun (x_up_n _ _ _ (by decide)) _) e_un) ?_
    refine xr_iload_n dX0_note_31 2 rfl ?_
    refine xb_iast (j := un) dX0_note_32 s_43 (by omega) (by decide) ?_
    refine xr_aload_n dX0_note_33 0 rfl ?_
    refine xr_getR flX0_16 dX0_note_34 s_41 rfl ?_
    refine xr_aload_n dX0_note_37 0 rfl ?_
    refine xb_get (v := nI (un)) flX0_22 dX0_note_38 s_41 rfl (Eq.trans (congrFun (x_up_n _ _ _ (by decide)) _) (Eq.trans (congrFun (x_up_n _ _ _ (by decide)) _) e_un)) ?_
    refine xr_iload_n dX0_note_41 3 rfl ?_
    refine xb_iast (j := un) dX0_note_42 s_44 (by omega) (by decide) ?_
    refine xr_aload_n dX0_note_43 0 rfl ?_
    refine xr_getR flX0_19 dX0_note_44 s_41 rfl ?_
    refine xr_aload_n dX0_note_47 0 rfl ?_
    refine xb_get (v := nI (un)) flX0_22 dX0_note_48 s_41 rfl (Eq.trans (congrFun (x_up_n _ _ _ (by decide)) _) (Eq.trans (congrFun (x_up_n _ _ _ (by decide)) _) (Eq.trans (congrFun (x_up_n _ _ _ (by decide)) _) e_un))) ?_
    refine xr_iload dX0_note_51 4 rfl ?_
    refine xb_iast (j := un) dX0_note_53 s_45 (by omega) (by decide) ?_
    refine xr_aload_n dX0_note_54 0 rfl ?_
    refine xr_dup dX0_note_55 rfl ?_
    refine xb_get (v := nI (un)) flX0_22 dX0_note_56 s_41 rfl (Eq.trans (congrFun (x_up_n _ _ _ (by decide)) _) (Eq.trans (congrFun (x_up_n _ _ _ (by decide)) _) (Eq.trans (congrFun (x_up_n _ _ _ (by decide)) _) (Eq.trans (congrFun (x_up_n _ _ _ (by decide)) _) e_un)))) ?_
    refine xr_iconst (v := 1) dX0_note_59 rfl ?_
    refine xr_iadd dX0_note_60 ?_
    refine xb_top (y := nI (un + 1)) (nI_add (un) (1)) ?_
    refine xr_putI fpX0_22 dX0_note_61 s_41 rfl rfl rfl ?_
    refine xr_aload_n dX0_note_64 0 rfl ?_
    refine xr_aload_n dX0_note_65 0 rfl ?_
    refine xb_get (v := nI (un + 1)) flX0_22 dX0_note_66 s_41 rfl (x_up_s _ _ _ _) ?_
    refine xr_putI fpX0_29 dX0_note_69 s_41 rfl rfl rfl ?_
    exact xr_vret dX0_note_72 rfl (⟨rfl, rfl, rfl, (Ke.up (Or.inr (Or.inl (by omega))) (Ke.up (Or.inl (by omega)) (Ke.up (Or.inr (Or.inr (by omega))) (Ke.up (Or.inr (Or.inr (by omega))) (Ke.up (Or.inr (Or.inr (by omega))) (Ke.up (Or.inr (Or.inr (by omega))) Ke.rf)))))), ⟨by rw [(show ntU un = un + 1 from if_neg (by omega))]; exact (Eq.trans (x_up_k _ _ _ (by decide)) (x_up_s _ _ _ _)), by rw [(show ntU un = un + 1 from if_neg (by omega))]; exact (x_up_s _ _ _ _), NTr_1 (by omega) ((up_n (by decide)).trans ((up_n (by decide)).trans (Eq.trans (congrFun (x_up_n _ _ _ (by decide)) _) (Eq.trans (congrFun (x_up_n _ _ _ (by decide)) _) (Eq.trans (congrFun (x_up_n _ _ _ (by decide)) _) (x_up_s _ _ _ _)))))) (fun j hj => ((up_n (by decide)).trans ((up_n (by decide)).trans (Eq.trans (congrFun (x_up_n _ _ _ (by decide)) _) (Eq.trans (congrFun (x_up_n _ _ _ (by decide)) _) (Eq.trans (congrFun (x_up_n _ _ _ (by decide)) _) (Eq.trans (x_up_k _ _ _ (by omega)) rfl))))))), NTr_1 (by omega) ((up_n (by decide)).trans ((up_n (by decide)).trans (Eq.trans (congrFun (x_up_n _ _ _ (by decide)) _) (Eq.trans (congrFun (x_up_n _ _ _ (by decide)) _) (x_up_s _ _ _ _))))) (fun j hj => ((up_n (by decide)).trans ((up_n (by decide)).trans (Eq.trans (congrFun (x_up_n _ _ _ (by decide)) _) (Eq.trans (congrFun (x_up_n _ _ _ (by decide)) _) (Eq.trans (x_up_k _ _ _ (by omega)) (Eq.trans (congrFun (x_up_n _ _ _ (by decide)) _) rfl))))))), NTr_1 (by omega) ((up_n (by decide)).trans ((up_n (by decide)).trans (Eq.trans (congrFun (x_up_n _ _ _ (by decide)) _) (x_up_s _ _ _ _)))) (fun j hj => ((up_n (by decide)).trans ((up_n (by decide)).trans (Eq.trans (congrFun (x_up_n _ _ _ (by decide)) _) (Eq.trans (x_up_k _ _ _ (by omega)) (Eq.trans (congrFun (x_up_n _ _ _ (by decide)) _) (Eq.trans (congrFun (x_up_n _ _ _ (by decide)) _) rfl))))))), NTr_1 (by omega) ((up_n (by decide)).trans ((up_n (by decide)).trans (x_up_s _ _ _ _))) (fun j hj => ((up_n (by decide)).trans ((up_n (by decide)).trans (Eq.trans (x_up_k _ _ _ (by omega)) (Eq.trans (congrFun (x_up_n _ _ _ (by decide)) _) (Eq.trans (congrFun (x_up_n _ _ _ (by decide)) _) (Eq.trans (congrFun (x_up_n _ _ _ (by decide)) _) rfl)))))))⟩⟩)
  · have nc1 : ¬ (un < 40) := fun q => c1 ((nI_ltI (a := un) (b := 40) (by omega) (by omega)).mpr q)
    refine xr_aload_n dX0_note_9 0 rfl ?_
    have hu40 : un = 40 := by omega
    refine xr_callV (As := []) (rest := []) mlX0_26 (gw_X0_forgetOldest) dX0_note_10 s_41 rfl rfl (Nat.le_of_ble_eq_true rfl) (by decide) ⟨by decide, by decide⟩ (fun v s2 M3 J2 hq => ?_)
    obtain ⟨rfl, rfl, rfl, k4, hx2⟩ := hq
    try dsimp only [Option.toList, List.cons_append, List.nil_append]
    refine xr_aload_n dX0_note_13 0 rfl ?_
    refine xr_getR flX0_9 dX0_note_14 s_41 rfl ?_
    refine xr_aload_n dX0_note_17 0 rfl ?_
    refine xb_get (v := nI (39)) flX0_22 dX0_note_18 s_41 rfl hx2.1 ?_
    refine xr_iload_n dX0_note_21 1 rfl ?_
    refine xb_iast (j := 39) dX0_note_22 s_42 (by omega) (by decide) ?_
    refine xr_aload_n dX0_note_23 0 rfl ?_
    refine xr_getR flX0_13 dX0_note_24 s_41 rfl ?_
    refine xr_aload_n dX0_note_27 0 rfl ?_
    refine xb_get (v := nI (39)) flX0_22 dX0_note_28 s_41 rfl (Eq.trans (congrFun (x_up_n _ _ _ (by decide)) _) hx2.1) ?_
    refine xr_iload_n dX0_note_31 2 rfl ?_
    refine xb_iast (j := 39) dX0_note_32 s_43 (by omega) (by decide) ?_
    refine xr_aload_n dX0_note_33 0 rfl ?_
    refine xr_getR flX0_16 dX0_note_34 s_41 rfl ?_
    refine xr_aload_n dX0_note_37 0 rfl ?_
    refine xb_get (v := nI (39)) flX0_22 dX0_note_38 s_41 rfl (Eq.trans (congrFun (x_up_n _ _ _ (by decide)) _) (Eq.trans (congrFun (x_up_n _ _ _ (by decide)) _) hx2.1)) ?_
    refine xr_iload_n dX0_note_41 3 rfl ?_
    refine xb_iast (j := 39) dX0_note_42 s_44 (by omega) (by decide) ?_
    refine xr_aload_n dX0_note_43 0 rfl ?_
    refine xr_getR flX0_19 dX0_note_44 s_41 rfl ?_
    refine xr_aload_n dX0_note_47 0 rfl ?_
    refine xb_get (v := nI (39)) flX0_22 dX0_note_48 s_41 rfl (Eq.trans (congrFun (x_up_n _ _ _ (by decide)) _) (Eq.trans (congrFun (x_up_n _ _ _ (by decide)) _) (Eq.trans (congrFun (x_up_n _ _ _ (by decide)) _) hx2.1))) ?_
    refine xr_iload dX0_note_51 4 rfl ?_
    refine xb_iast (j := 39) dX0_note_53 s_45 (by omega) (by decide) ?_
    refine xr_aload_n dX0_note_54 0 rfl ?_
    refine xr_dup dX0_note_55 rfl ?_
    refine xb_get (v := nI (39)) flX0_22 dX0_note_56 s_41 rfl (Eq.trans (congrFun (x_up_n _ _ _ (by decide)) _) (Eq.trans (congrFun (x_up_n _ _ _ (by decide)) _) (Eq.trans (congrFun (x_up_n _ _ _ (by decide)) _) (Eq.trans (congrFun (x_up_n _ _ _ (by decide)) _) hx2.1)))) ?_
    refine xr_iconst (v := 1) dX0_note_59 rfl ?_
    refine xr_iadd dX0_note_60 ?_
    refine xb_top (y := nI (39 + 1)) (nI_add (39) (1)) ?_
    refine xr_putI fpX0_22 dX0_note_61 s_41 rfl rfl rfl ?_
    refine xr_aload_n dX0_note_64 0 rfl ?_
    refine xr_aload_n dX0_note_65 0 rfl ?_
    refine xb_get (v := nI (39 + 1)) flX0_22 dX0_note_66 s_41 rfl (x_up_s _ _ _ _) ?_
    refine xr_putI fpX0_29 dX0_note_69 s_41 rfl rfl rfl ?_
    exact xr_vret dX0_note_72 rfl (⟨rfl, rfl, rfl, (Ke.up (Or.inr (Or.inl (by omega))) (Ke.up (Or.inl (by omega)) (Ke.up (Or.inr (Or.inr (by omega))) (Ke.up (Or.inr (Or.inr (by omega))) (Ke.up (Or.inr (Or.inr (by omega))) (Ke.up (Or.inr (Or.inr (by omega))) (Ke.tr (fun pp kk => (fun hh => Or.elim hh (fun h => (Or.inl h)) (fun h => (Or.inr (Or.inr h))))) Ke.rf k4))))))), ⟨by rw [(show ntU un = 40 from if_pos hu40)]; exact (Eq.trans (x_up_k _ _ _ (by decide)) (x_up_s _ _ _ _)), by rw [(show ntU un = 40 from if_pos hu40)]; exact (x_up_s _ _ _ _), (by subst hu40; exact NTr_2 ((up_n (by decide)).trans ((up_n (by decide)).trans (Eq.trans (congrFun (x_up_n _ _ _ (by decide)) _) (Eq.trans (congrFun (x_up_n _ _ _ (by decide)) _) (Eq.trans (congrFun (x_up_n _ _ _ (by decide)) _) (x_up_s _ _ _ _)))))) (fun j hj => ((up_n (by decide)).trans ((up_n (by decide)).trans (Eq.trans (congrFun (x_up_n _ _ _ (by decide)) _) (Eq.trans (congrFun (x_up_n _ _ _ (by decide)) _) (Eq.trans (congrFun (x_up_n _ _ _ (by decide)) _) (Eq.trans (x_up_k _ _ _ (by omega)) (hx2.2 j hj).1)))))))), (by subst hu40; exact NTr_2 ((up_n (by decide)).trans ((up_n (by decide)).trans (Eq.trans (congrFun (x_up_n _ _ _ (by decide)) _) (Eq.trans (congrFun (x_up_n _ _ _ (by decide)) _) (x_up_s _ _ _ _))))) (fun j hj => ((up_n (by decide)).trans ((up_n (by decide)).trans (Eq.trans (congrFun (x_up_n _ _ _ (by decide)) _) (Eq.trans (congrFun (x_up_n _ _ _ (by decide)) _) (Eq.trans (x_up_k _ _ _ (by omega)) (Eq.trans (congrFun (x_up_n _ _ _ (by decide)) _) (hx2.2 j hj).2.1)))))))), (by subst hu40; exact NTr_2 ((up_n (by decide)).trans ((up_n (by decide)).trans (Eq.trans (congrFun (x_up_n _ _ _ (by decide)) _) (x_up_s _ _ _ _)))) (fun j hj => ((up_n (by decide)).trans ((up_n (by decide)).trans (Eq.trans (congrFun (x_up_n _ _ _ (by decide)) _) (Eq.trans (x_up_k _ _ _ (by omega)) (Eq.trans (congrFun (x_up_n _ _ _ (by decide)) _) (Eq.trans (congrFun (x_up_n _ _ _ (by decide)) _) (hx2.2 j hj).2.2.1)))))))), (by subst hu40; exact NTr_2 ((up_n (by decide)).trans ((up_n (by decide)).trans (x_up_s _ _ _ _))) (fun j hj => ((up_n (by decide)).trans ((up_n (by decide)).trans (Eq.trans (x_up_k _ _ _ (by omega)) (Eq.trans (congrFun (x_up_n _ _ _ (by decide)) _) (Eq.trans (congrFun (x_up_n _ _ _ (by decide)) _) (Eq.trans (congrFun (x_up_n _ _ _ (by decide)) _) (hx2.2 j hj).2.2.2))))))))⟩⟩)
theorem key_s {q n : Nat} (h : q < 20) (hn : q < 15 → q % 5 < n) : (∃ i, i < n ∧ q = 5 * 0 + i) ∨ (∃ i, i < n ∧ q = 5 * 1 + i) ∨ (∃ i, i < n ∧ q = 5 * 2 + i) ∨ q = 12 + 3 ∨ q = 12 + 4 ∨ q = 12 + 5 ∨ q = 12 + 6 ∨ q = 12 + 7 := by
  by_cases h1 : q < 5
  · exact Or.inl ⟨q % 5, hn (by omega), by omega⟩
  · by_cases h2 : q < 10
    · exact Or.inr (Or.inl ⟨q % 5, hn (by omega), by omega⟩)
    · by_cases h3 : q < 15
      · exact Or.inr (Or.inr (Or.inl ⟨q % 5, hn (by omega), by omega⟩))
      · exact Or.inr (Or.inr (Or.inr (by omega)))
/-- undone, done again -/
def EUn (G : xM → Nat → xM → Option zL → (Nat → Int32) → Prop) (Lg : xM → xL → Nat → Nat → Prop) (n : Nat) (D : xM) (t : Option zL) (S : Nat → Int32) (l : xL) (u w : Nat) (M2 : xM) (r : Int32) : Prop := u = 0 ∧ r = -5 ∧ G M2 n D t S ∧ Lg M2 l u w ∨ ∃ a, u = a + 1 ∧ r = nI a ∧ G M2 n (dK D (l.1 a) (lK D (l.1 a) (l.2.1 a))) t (sK S (l.1 a) (l.2.1 a)) ∧ Lg M2 l a w
def ERd (G : xM → Nat → xM → Option zL → (Nat → Int32) → Prop) (Lg : xM → xL → Nat → Nat → Prop) (n : Nat) (D : xM) (t : Option zL) (S : Nat → Int32) (l : xL) (u w : Nat) (M2 : xM) (r : Int32) : Prop := u = w ∧ r = -5 ∧ G M2 n D t S ∧ Lg M2 l u w ∨ u < w ∧ r = nI w - nI (u + 1) ∧ G M2 n (dK D (l.1 u) (lK D (l.1 u) (l.2.2 u))) t (sK S (l.1 u) (l.2.2 u)) ∧ Lg M2 l (u + 1) w
theorem AbC_vD {b n i k : Nat} {M D : xM} {x v : Int32} (h : AbC b n M (x_up D i k x)) (e : x = v) : AbC b n M (x_up D i k v) := e ▸ h
theorem ok2 {hi v : Int32} (h : hi = 0 ∧ v = 0 ∨ ¬ hi = 0 ∧ (-9 ≤ v ∧ v ≤ 9)) : (if hi = 0 then 0 else v) = v := by
  rcases h with ⟨a, b⟩ | ⟨a, b⟩
  · rw [if_pos a, b]
  · rw [if_neg a]
set_option maxRecDepth 100000 in
set_option maxHeartbeats 4000000 in
theorem gxm0_X9_mend {nh : Nat} {D : xM} {t : Option zL} {S : Nat → Int32} {lg : xL} {lu lw : Nat} (v : Int32) {i : Nat} {l : Launch} {G : xG} {M : xM} {J : xJ} (hI : InvC M) (hWG : WG nh D S) (hG : CG M nh D t S) (hWL : WLg nh lg lu lw) (hLg : CLg M lg lu lw) (hi : i < nh) : x_M l G fX9_mend 4 0 0 [.ref (0), .int (nI (i)), .int (0), .int (v)] x_SH M J (qKI WMD M J (fun r M2 => InvC M2 ∧ (EMn CG CLg nh D t S lg lu lw M2 (nI (i)) (0) v r))) := by
  refine xb_of pX9 (Nat.le_of_ble_eq_true rfl) rfl ?_
  obtain ⟨⟨cn, h_cn, e_cn⟩, ⟨cm, h_cm, e_cm⟩, ⟨L, h_L, e_L⟩, hv, hD, ⟨n, h_n, e_n⟩, ⟨un, wn, h_uw, h_wn, e_un, e_wn⟩, ⟨b, h_b, e_b⟩, hkd, ⟨ra, h_ra, e_ra⟩, hsl, hS⟩ := hI
  obtain ⟨huw, hw40, hWk⟩ := hWL
  have hG0 := hG
  have hLg0 := hLg
  obtain ⟨hn5, hW, hrub, hbeat⟩ := hWG
  obtain ⟨hGn, hA, hL, e_nw, e_rub, e_bt, e_ph, e_st, e_kn, e_pu, e_lf⟩ := hG
  obtain rfl : nh = cn := (nI_eq (by omega) (by omega)).mp (hGn.symm.trans e_cn)
  have hbt : ¬ S 2 = 0 := ne2_0 hbeat.1
  obtain ⟨hl4, hl5, hLk⟩ := hLg
  obtain rfl : lu = un := (nI_eq (by omega) (by omega)).mp (hl4.symm.trans e_un)
  obtain rfl : lw = wn := (nI_eq (by omega) (by omega)).mp (hl5.symm.trans e_wn)
  refine xr_aload_n dX9_mend_0 0 rfl ?_
  refine xr_iload_n dX9_mend_1 1 rfl ?_
  refine xr_iload_n dX9_mend_2 2 rfl ?_
  refine xr_iload_n dX9_mend_3 3 rfl ?_
  refine xb_cV (As := [.int (nI (i)), .int (0), .int (v)]) (rest := []) mlX9_101 (cw_X9_cb_0 v (i := i) h_cn e_cn (by omega)) dX9_mend_4 s_0 rfl rfl (Nat.le_of_ble_eq_true rfl) (by decide) (by decide) ?_
  refine xb_bne (tgt := 13) dX9_mend_7 rfl (fun c1 => ?_) (fun c1 => ?_)
  · refine xr_aload_n dX9_mend_13 0 rfl ?_
    refine xr_iload_n dX9_mend_14 1 rfl ?_
    refine xr_iload_n dX9_mend_15 2 rfl ?_
    refine xb_cV (As := [.int (nI (i)), .int (0)]) (rest := []) mlX9_106 (cw_X9_vo_0 (i := i) h_cn e_cn (by omega)) dX9_mend_16 s_0 rfl rfl (Nat.le_of_ble_eq_true rfl) (by decide) (by decide) ?_
    refine xr_istore (ls2 := [(4, .int ((M (15 + i) 0))), (0, .ref (0)), (1, .int (nI (i))), (2, .int (0)), (3, .int (v))]) dX9_mend_19 (by decide) rfl ?_
    refine xr_iload dX9_mend_21 0 rfl ?_
    refine xr_iload_n dX9_mend_23 4 rfl ?_
    refine xr_icmp_eq (tgt := 46) dX9_mend_24 rfl (fun c2 => ?_) (fun c2 => ?_)
    · refine xr_iload dX9_mend_46 0 rfl ?_
      exact xr_iret dX9_mend_48 rfl rfl (⟨_, rfl, rfl, rfl, Ke.rf, ⟨⟨⟨nh, by omega, e_cn⟩, ⟨cm, by omega, e_cm⟩, ⟨L, by omega, e_L⟩, (fun kk hkk => by rw [show M 3 kk = M 3 kk from rfl]; exact hv kk hkk), hD, ⟨n, by omega, e_n⟩, ⟨lu, lw, by omega, by omega, e_un, e_wn⟩, ⟨b, by omega, e_b⟩, (fun j hj => by obtain ⟨q, hq, eq⟩ := hkd j hj; exact ⟨q, hq, (show M 47 j = M 47 j from rfl).trans eq⟩), ⟨ra, by omega, e_ra⟩, (fun j hj => by obtain ⟨s, hs, es⟩ := hsl j hj; exact ⟨s, hs, (show M (50 + 2 * j) 3 = M (50 + 2 * j) 3 from rfl).trans es⟩), (fun j hj => by obtain ⟨q, hq, eq⟩ := hS j hj; exact ⟨q, hq, (show M 36 j = M 36 j from rfl).trans eq⟩)⟩, (Or.inl ⟨i, 0, by omega, by decide, rfl, rfl, Or.inr ⟨(show okW 0 (D i 4) (S 2) v from c1), ((hA i (by omega) 0 (by decide)).trans (gK_0 (S := S) (by omega)).symm), Or.inl ⟨c2, hG0, hLg0⟩⟩⟩)⟩⟩)
    · refine xr_aload_n dX9_mend_27 1 rfl ?_
      refine xr_iload_n dX9_mend_28 2 rfl ?_
      refine xr_iload_n dX9_mend_29 3 rfl ?_
      refine xr_iload_n dX9_mend_30 4 rfl ?_
      refine xb_cV (As := [.int (nI (i)), .int (0), .int (v)]) (rest := []) mlX9_110 (cw_X9_lay_0 v (i := i) h_cn e_cn (by omega)) dX9_mend_31 s_0 rfl rfl (Nat.le_of_ble_eq_true rfl) (by decide) (by decide) ?_
      refine xr_aload_n dX9_mend_34 1 rfl ?_
      refine xr_getR flX9_54 dX9_mend_35 s_0 rfl ?_
      refine xr_iload_n dX9_mend_38 2 rfl ?_
      refine xr_iload_n dX9_mend_39 3 rfl ?_
      refine xr_iload dX9_mend_40 0 rfl ?_
      refine xr_iload_n dX9_mend_42 4 rfl ?_
      refine xr_callV (As := [.int (nI (i)), .int (0), .int ((M (15 + i) 0)), .int (v)]) (rest := []) mlX9_114 (gw_X0_note (nI (i)) 0 (M (15 + i) 0) v (un := lu) (by omega) (Eq.trans (congrFun (x_up_n _ _ _ (by omega)) _) e_un)) dX9_mend_43 s_41 rfl rfl (Nat.le_of_ble_eq_true rfl) (by decide) ⟨by decide, by decide⟩ (fun v s2 M9 J2 hq => ?_)
      obtain ⟨rfl, rfl, rfl, k10, ⟨n3, n4, n5, n6, n7, n8⟩⟩ := hq
      try dsimp only [Option.toList, List.cons_append, List.nil_append]
      have hnt := ntU_b (u := lu) (by omega)
      refine xr_iload dX9_mend_46 0 rfl ?_
      exact xr_iret dX9_mend_48 rfl rfl (⟨_, rfl, rfl, rfl, (Ke.tr (fun pp kk => (fun hh => Or.elim hh (fun h => (Or.inr (Or.inr (Or.inr (Or.inr (Or.inr (Or.inr (Or.inl h)))))))) (fun hh => Or.elim hh (fun h => (Or.inr (Or.inr (Or.inr (Or.inr (Or.inr (Or.inr (Or.inr (Or.inl h))))))))) (fun h => (Or.inr (Or.inr (Or.inr (Or.inr (Or.inr (Or.inr (Or.inr (Or.inr h)))))))))))) (Ke.up (Or.inr (Or.inr (Or.inr (Or.inr (Or.inr (Or.inl (by omega))))))) Ke.rf) k10), ⟨⟨⟨nh, by omega, (Eq.trans (k10 13 2 (by decide)) (Eq.trans (congrFun (x_up_n _ _ _ (by omega)) _) e_cn))⟩, ⟨cm, by omega, (Eq.trans (k10 20 2 (by decide)) (Eq.trans (congrFun (x_up_n _ _ _ (by omega)) _) e_cm))⟩, ⟨L, by omega, (Eq.trans (k10 1 4 (by decide)) (Eq.trans (congrFun (x_up_n _ _ _ (by omega)) _) e_L))⟩, (fun kk hkk => by rw [show M9 3 kk = M 3 kk from (Eq.trans (k10 3 kk (by unfold WCH; omega)) (Eq.trans (congrFun (x_up_n _ _ _ (by omega)) _) rfl))]; exact hv kk hkk), (DI_ke (by intro k; unfold WCH; omega) k10 (DI_up (by omega) hD)), ⟨n, by omega, (Eq.trans (k10 6 2 (by decide)) (Eq.trans (congrFun (x_up_n _ _ _ (by omega)) _) e_n))⟩, ⟨ntU lu, ntU lu, by omega, by omega, n3, n4⟩, ⟨b, by omega, (Eq.trans (k10 46 2 (by decide)) (Eq.trans (congrFun (x_up_n _ _ _ (by omega)) _) e_b))⟩, (fun j hj => by obtain ⟨q, hq, eq⟩ := hkd j hj; exact ⟨q, hq, (show M9 47 j = M 47 j from (Eq.trans (k10 47 j (by unfold WCH; omega)) (Eq.trans (congrFun (x_up_n _ _ _ (by omega)) _) rfl))).trans eq⟩), ⟨ra, by omega, (Eq.trans (k10 46 3 (by decide)) (Eq.trans (congrFun (x_up_n _ _ _ (by omega)) _) e_ra))⟩, (fun j hj => by obtain ⟨s, hs, es⟩ := hsl j hj; exact ⟨s, hs, (show M9 (50 + 2 * j) 3 = M (50 + 2 * j) 3 from (Eq.trans (k10 (50 + 2 * j) 3 (by unfold WCH; omega)) (Eq.trans (congrFun (x_up_n _ _ _ (by omega)) _) rfl))).trans es⟩), (fun j hj => by obtain ⟨q, hq, eq⟩ := hS j hj; exact ⟨q, hq, (show M9 36 j = M 36 j from (Eq.trans (k10 36 j (by unfold WCH; omega)) (Eq.trans (congrFun (x_up_n _ _ _ (by omega)) _) rfl))).trans eq⟩)⟩, (Or.inl ⟨i, 0, by omega, by decide, rfl, rfl, Or.inr ⟨(show okW 0 (D i 4) (S 2) v from c1), ((hA i (by omega) 0 (by decide)).trans (gK_0 (S := S) (by omega)).symm), Or.inr ⟨c2, (by rw [sK_h (by omega) (by decide)]; exact ⟨(Eq.trans (k10 13 2 (by decide)) (Eq.trans (congrFun (x_up_n _ _ _ (by omega)) _) e_cn)), (by rw [dK_0 (by omega)]; exact AbC_k (AbC_up hA) (fun i hi j => k10 (15 + i) j (by unfold WCH; omega))), (LCt_k (Eq.trans (k10 1 4 (by unfold WCH; omega)) (Eq.trans (congrFun (x_up_n _ _ _ (by omega)) _) rfl)) (fun kl => (Eq.trans (k10 2 kl (by unfold WCH; omega)) (Eq.trans (congrFun (x_up_n _ _ _ (by omega)) _) rfl))) (fun kl => (Eq.trans (k10 3 kl (by unfold WCH; omega)) (Eq.trans (congrFun (x_up_n _ _ _ (by omega)) _) rfl))) hL), (Eq.trans (k10 13 3 (by decide)) (Eq.trans (congrFun (x_up_n _ _ _ (by omega)) _) e_nw)), (Eq.trans (k10 13 4 (by decide)) (Eq.trans (congrFun (x_up_n _ _ _ (by omega)) _) e_rub)), (Eq.trans (k10 13 5 (by decide)) (Eq.trans (congrFun (x_up_n _ _ _ (by omega)) _) e_bt)), (Eq.trans (k10 13 6 (by decide)) (Eq.trans (congrFun (x_up_n _ _ _ (by omega)) _) e_ph)), (Eq.trans (k10 13 7 (by decide)) (Eq.trans (congrFun (x_up_n _ _ _ (by omega)) _) e_st)), (Eq.trans (k10 35 5 (by decide)) (Eq.trans (congrFun (x_up_n _ _ _ (by omega)) _) e_kn)), (Eq.trans (k10 13 8 (by decide)) (Eq.trans (congrFun (x_up_n _ _ _ (by omega)) _) e_pu)), (Eq.trans (k10 13 9 (by decide)) (Eq.trans (congrFun (x_up_n _ _ _ (by omega)) _) e_lf))⟩), (CLg_nt (CLg_k hLg0 ((Eq.trans (congrFun (x_up_n _ _ _ (by omega)) _) rfl)) ((Eq.trans (congrFun (x_up_n _ _ _ (by omega)) _) rfl)) (fun kl => (Eq.trans (congrFun (x_up_n _ _ _ (by omega)) _) rfl)) (fun kl => (Eq.trans (congrFun (x_up_n _ _ _ (by omega)) _) rfl)) (fun kl => (Eq.trans (congrFun (x_up_n _ _ _ (by omega)) _) rfl)) (fun kl => (Eq.trans (congrFun (x_up_n _ _ _ (by omega)) _) rfl))) (by omega) (by omega) n5 n6 n7 n8 n3 n4 (by rw [if_pos (by omega)]; exact congrArg nI (by omega)) (by rw [if_pos (by omega)]; exact (show nI 0 = nI ((5 * 0 + i) / 5) from congrArg nI (by omega))))⟩⟩⟩)⟩⟩)
  · refine xr_ldc coX9_105 dX9_mend_10 ?_
    exact xr_iret dX9_mend_12 rfl rfl (⟨_, rfl, rfl, rfl, Ke.rf, ⟨⟨⟨nh, by omega, e_cn⟩, ⟨cm, by omega, e_cm⟩, ⟨L, by omega, e_L⟩, (fun kk hkk => by rw [show M 3 kk = M 3 kk from rfl]; exact hv kk hkk), hD, ⟨n, by omega, e_n⟩, ⟨lu, lw, by omega, by omega, e_un, e_wn⟩, ⟨b, by omega, e_b⟩, (fun j hj => by obtain ⟨q, hq, eq⟩ := hkd j hj; exact ⟨q, hq, (show M 47 j = M 47 j from rfl).trans eq⟩), ⟨ra, by omega, e_ra⟩, (fun j hj => by obtain ⟨s, hs, es⟩ := hsl j hj; exact ⟨s, hs, (show M (50 + 2 * j) 3 = M (50 + 2 * j) 3 from rfl).trans es⟩), (fun j hj => by obtain ⟨q, hq, eq⟩ := hS j hj; exact ⟨q, hq, (show M 36 j = M 36 j from rfl).trans eq⟩)⟩, (Or.inl ⟨i, 0, by omega, by decide, rfl, rfl, Or.inl ⟨(show ¬ okW 0 (D i 4) (S 2) v from c1), rfl, hG0, hLg0⟩⟩)⟩⟩)
set_option maxRecDepth 100000 in
set_option maxHeartbeats 4000000 in
theorem gxm1_X9_mend {nh : Nat} {D : xM} {t : Option zL} {S : Nat → Int32} {lg : xL} {lu lw : Nat} (v : Int32) {i : Nat} {l : Launch} {G : xG} {M : xM} {J : xJ} (hI : InvC M) (hWG : WG nh D S) (hG : CG M nh D t S) (hWL : WLg nh lg lu lw) (hLg : CLg M lg lu lw) (hi : i < nh) : x_M l G fX9_mend 4 0 0 [.ref (0), .int (nI (i)), .int (1), .int (v)] x_SH M J (qKI WMD M J (fun r M2 => InvC M2 ∧ (EMn CG CLg nh D t S lg lu lw M2 (nI (i)) (1) v r))) := by
  refine xb_of pX9 (Nat.le_of_ble_eq_true rfl) rfl ?_
  obtain ⟨⟨cn, h_cn, e_cn⟩, ⟨cm, h_cm, e_cm⟩, ⟨L, h_L, e_L⟩, hv, hD, ⟨n, h_n, e_n⟩, ⟨un, wn, h_uw, h_wn, e_un, e_wn⟩, ⟨b, h_b, e_b⟩, hkd, ⟨ra, h_ra, e_ra⟩, hsl, hS⟩ := hI
  obtain ⟨huw, hw40, hWk⟩ := hWL
  have hG0 := hG
  have hLg0 := hLg
  obtain ⟨hn5, hW, hrub, hbeat⟩ := hWG
  obtain ⟨hGn, hA, hL, e_nw, e_rub, e_bt, e_ph, e_st, e_kn, e_pu, e_lf⟩ := hG
  obtain rfl : nh = cn := (nI_eq (by omega) (by omega)).mp (hGn.symm.trans e_cn)
  have hbt : ¬ S 2 = 0 := ne2_0 hbeat.1
  obtain ⟨hl4, hl5, hLk⟩ := hLg
  obtain rfl : lu = un := (nI_eq (by omega) (by omega)).mp (hl4.symm.trans e_un)
  obtain rfl : lw = wn := (nI_eq (by omega) (by omega)).mp (hl5.symm.trans e_wn)
  refine xr_aload_n dX9_mend_0 0 rfl ?_
  refine xr_iload_n dX9_mend_1 1 rfl ?_
  refine xr_iload_n dX9_mend_2 2 rfl ?_
  refine xr_iload_n dX9_mend_3 3 rfl ?_
  refine xb_cV (As := [.int (nI (i)), .int (1), .int (v)]) (rest := []) mlX9_101 (cw_X9_cb_1 v (i := i) h_cn e_cn (by omega)) dX9_mend_4 s_0 rfl rfl (Nat.le_of_ble_eq_true rfl) (by decide) (by decide) ?_
  refine xb_bne (tgt := 13) dX9_mend_7 rfl (fun c1 => ?_) (fun c1 => ?_)
  · refine xr_aload_n dX9_mend_13 0 rfl ?_
    refine xr_iload_n dX9_mend_14 1 rfl ?_
    refine xr_iload_n dX9_mend_15 2 rfl ?_
    refine xb_cV (As := [.int (nI (i)), .int (1)]) (rest := []) mlX9_106 (cw_X9_vo_1 (i := i) h_cn e_cn (by omega)) dX9_mend_16 s_0 rfl rfl (Nat.le_of_ble_eq_true rfl) (by decide) (by decide) ?_
    refine xr_istore (ls2 := [(4, .int ((M (15 + i) 1))), (0, .ref (0)), (1, .int (nI (i))), (2, .int (1)), (3, .int (v))]) dX9_mend_19 (by decide) rfl ?_
    refine xr_iload dX9_mend_21 0 rfl ?_
    refine xr_iload_n dX9_mend_23 4 rfl ?_
    refine xr_icmp_eq (tgt := 46) dX9_mend_24 rfl (fun c2 => ?_) (fun c2 => ?_)
    · refine xr_iload dX9_mend_46 0 rfl ?_
      exact xr_iret dX9_mend_48 rfl rfl (⟨_, rfl, rfl, rfl, Ke.rf, ⟨⟨⟨nh, by omega, e_cn⟩, ⟨cm, by omega, e_cm⟩, ⟨L, by omega, e_L⟩, (fun kk hkk => by rw [show M 3 kk = M 3 kk from rfl]; exact hv kk hkk), hD, ⟨n, by omega, e_n⟩, ⟨lu, lw, by omega, by omega, e_un, e_wn⟩, ⟨b, by omega, e_b⟩, (fun j hj => by obtain ⟨q, hq, eq⟩ := hkd j hj; exact ⟨q, hq, (show M 47 j = M 47 j from rfl).trans eq⟩), ⟨ra, by omega, e_ra⟩, (fun j hj => by obtain ⟨s, hs, es⟩ := hsl j hj; exact ⟨s, hs, (show M (50 + 2 * j) 3 = M (50 + 2 * j) 3 from rfl).trans es⟩), (fun j hj => by obtain ⟨q, hq, eq⟩ := hS j hj; exact ⟨q, hq, (show M 36 j = M 36 j from rfl).trans eq⟩)⟩, (Or.inl ⟨i, 1, by omega, by decide, rfl, rfl, Or.inr ⟨(show okW 1 (D i 4) (S 2) v from c1), ((hA i (by omega) 1 (by decide)).trans (gK_1 (S := S) (by omega)).symm), Or.inl ⟨c2, hG0, hLg0⟩⟩⟩)⟩⟩)
    · refine xr_aload_n dX9_mend_27 1 rfl ?_
      refine xr_iload_n dX9_mend_28 2 rfl ?_
      refine xr_iload_n dX9_mend_29 3 rfl ?_
      refine xr_iload_n dX9_mend_30 4 rfl ?_
      refine xb_cV (As := [.int (nI (i)), .int (1), .int (v)]) (rest := []) mlX9_110 (cw_X9_lay_1 v (i := i) h_cn e_cn (by omega)) dX9_mend_31 s_0 rfl rfl (Nat.le_of_ble_eq_true rfl) (by decide) (by decide) ?_
      refine xr_aload_n dX9_mend_34 1 rfl ?_
      refine xr_getR flX9_54 dX9_mend_35 s_0 rfl ?_
      refine xr_iload_n dX9_mend_38 2 rfl ?_
      refine xr_iload_n dX9_mend_39 3 rfl ?_
      refine xr_iload dX9_mend_40 0 rfl ?_
      refine xr_iload_n dX9_mend_42 4 rfl ?_
      refine xr_callV (As := [.int (nI (i)), .int (1), .int ((M (15 + i) 1)), .int (v)]) (rest := []) mlX9_114 (gw_X0_note (nI (i)) 1 (M (15 + i) 1) v (un := lu) (by omega) (Eq.trans (congrFun (x_up_n _ _ _ (by omega)) _) e_un)) dX9_mend_43 s_41 rfl rfl (Nat.le_of_ble_eq_true rfl) (by decide) ⟨by decide, by decide⟩ (fun v s2 M9 J2 hq => ?_)
      obtain ⟨rfl, rfl, rfl, k10, ⟨n3, n4, n5, n6, n7, n8⟩⟩ := hq
      try dsimp only [Option.toList, List.cons_append, List.nil_append]
      have hnt := ntU_b (u := lu) (by omega)
      refine xr_iload dX9_mend_46 0 rfl ?_
      exact xr_iret dX9_mend_48 rfl rfl (⟨_, rfl, rfl, rfl, (Ke.tr (fun pp kk => (fun hh => Or.elim hh (fun h => (Or.inr (Or.inr (Or.inr (Or.inr (Or.inr (Or.inr (Or.inl h)))))))) (fun hh => Or.elim hh (fun h => (Or.inr (Or.inr (Or.inr (Or.inr (Or.inr (Or.inr (Or.inr (Or.inl h))))))))) (fun h => (Or.inr (Or.inr (Or.inr (Or.inr (Or.inr (Or.inr (Or.inr (Or.inr h)))))))))))) (Ke.up (Or.inr (Or.inr (Or.inr (Or.inr (Or.inr (Or.inl (by omega))))))) Ke.rf) k10), ⟨⟨⟨nh, by omega, (Eq.trans (k10 13 2 (by decide)) (Eq.trans (congrFun (x_up_n _ _ _ (by omega)) _) e_cn))⟩, ⟨cm, by omega, (Eq.trans (k10 20 2 (by decide)) (Eq.trans (congrFun (x_up_n _ _ _ (by omega)) _) e_cm))⟩, ⟨L, by omega, (Eq.trans (k10 1 4 (by decide)) (Eq.trans (congrFun (x_up_n _ _ _ (by omega)) _) e_L))⟩, (fun kk hkk => by rw [show M9 3 kk = M 3 kk from (Eq.trans (k10 3 kk (by unfold WCH; omega)) (Eq.trans (congrFun (x_up_n _ _ _ (by omega)) _) rfl))]; exact hv kk hkk), (DI_ke (by intro k; unfold WCH; omega) k10 (DI_up (by omega) hD)), ⟨n, by omega, (Eq.trans (k10 6 2 (by decide)) (Eq.trans (congrFun (x_up_n _ _ _ (by omega)) _) e_n))⟩, ⟨ntU lu, ntU lu, by omega, by omega, n3, n4⟩, ⟨b, by omega, (Eq.trans (k10 46 2 (by decide)) (Eq.trans (congrFun (x_up_n _ _ _ (by omega)) _) e_b))⟩, (fun j hj => by obtain ⟨q, hq, eq⟩ := hkd j hj; exact ⟨q, hq, (show M9 47 j = M 47 j from (Eq.trans (k10 47 j (by unfold WCH; omega)) (Eq.trans (congrFun (x_up_n _ _ _ (by omega)) _) rfl))).trans eq⟩), ⟨ra, by omega, (Eq.trans (k10 46 3 (by decide)) (Eq.trans (congrFun (x_up_n _ _ _ (by omega)) _) e_ra))⟩, (fun j hj => by obtain ⟨s, hs, es⟩ := hsl j hj; exact ⟨s, hs, (show M9 (50 + 2 * j) 3 = M (50 + 2 * j) 3 from (Eq.trans (k10 (50 + 2 * j) 3 (by unfold WCH; omega)) (Eq.trans (congrFun (x_up_n _ _ _ (by omega)) _) rfl))).trans es⟩), (fun j hj => by obtain ⟨q, hq, eq⟩ := hS j hj; exact ⟨q, hq, (show M9 36 j = M 36 j from (Eq.trans (k10 36 j (by unfold WCH; omega)) (Eq.trans (congrFun (x_up_n _ _ _ (by omega)) _) rfl))).trans eq⟩)⟩, (Or.inl ⟨i, 1, by omega, by decide, rfl, rfl, Or.inr ⟨(show okW 1 (D i 4) (S 2) v from c1), ((hA i (by omega) 1 (by decide)).trans (gK_1 (S := S) (by omega)).symm), Or.inr ⟨c2, (by rw [sK_h (by omega) (by decide)]; exact ⟨(Eq.trans (k10 13 2 (by decide)) (Eq.trans (congrFun (x_up_n _ _ _ (by omega)) _) e_cn)), (by rw [dK_1 (by omega)]; exact AbC_k (AbC_up hA) (fun i hi j => k10 (15 + i) j (by unfold WCH; omega))), (LCt_k (Eq.trans (k10 1 4 (by unfold WCH; omega)) (Eq.trans (congrFun (x_up_n _ _ _ (by omega)) _) rfl)) (fun kl => (Eq.trans (k10 2 kl (by unfold WCH; omega)) (Eq.trans (congrFun (x_up_n _ _ _ (by omega)) _) rfl))) (fun kl => (Eq.trans (k10 3 kl (by unfold WCH; omega)) (Eq.trans (congrFun (x_up_n _ _ _ (by omega)) _) rfl))) hL), (Eq.trans (k10 13 3 (by decide)) (Eq.trans (congrFun (x_up_n _ _ _ (by omega)) _) e_nw)), (Eq.trans (k10 13 4 (by decide)) (Eq.trans (congrFun (x_up_n _ _ _ (by omega)) _) e_rub)), (Eq.trans (k10 13 5 (by decide)) (Eq.trans (congrFun (x_up_n _ _ _ (by omega)) _) e_bt)), (Eq.trans (k10 13 6 (by decide)) (Eq.trans (congrFun (x_up_n _ _ _ (by omega)) _) e_ph)), (Eq.trans (k10 13 7 (by decide)) (Eq.trans (congrFun (x_up_n _ _ _ (by omega)) _) e_st)), (Eq.trans (k10 35 5 (by decide)) (Eq.trans (congrFun (x_up_n _ _ _ (by omega)) _) e_kn)), (Eq.trans (k10 13 8 (by decide)) (Eq.trans (congrFun (x_up_n _ _ _ (by omega)) _) e_pu)), (Eq.trans (k10 13 9 (by decide)) (Eq.trans (congrFun (x_up_n _ _ _ (by omega)) _) e_lf))⟩), (CLg_nt (CLg_k hLg0 ((Eq.trans (congrFun (x_up_n _ _ _ (by omega)) _) rfl)) ((Eq.trans (congrFun (x_up_n _ _ _ (by omega)) _) rfl)) (fun kl => (Eq.trans (congrFun (x_up_n _ _ _ (by omega)) _) rfl)) (fun kl => (Eq.trans (congrFun (x_up_n _ _ _ (by omega)) _) rfl)) (fun kl => (Eq.trans (congrFun (x_up_n _ _ _ (by omega)) _) rfl)) (fun kl => (Eq.trans (congrFun (x_up_n _ _ _ (by omega)) _) rfl))) (by omega) (by omega) n5 n6 n7 n8 n3 n4 (by rw [if_pos (by omega)]; exact congrArg nI (by omega)) (by rw [if_pos (by omega)]; exact (show nI 1 = nI ((5 * 1 + i) / 5) from congrArg nI (by omega))))⟩⟩⟩)⟩⟩)
  · refine xr_ldc coX9_105 dX9_mend_10 ?_
    exact xr_iret dX9_mend_12 rfl rfl (⟨_, rfl, rfl, rfl, Ke.rf, ⟨⟨⟨nh, by omega, e_cn⟩, ⟨cm, by omega, e_cm⟩, ⟨L, by omega, e_L⟩, (fun kk hkk => by rw [show M 3 kk = M 3 kk from rfl]; exact hv kk hkk), hD, ⟨n, by omega, e_n⟩, ⟨lu, lw, by omega, by omega, e_un, e_wn⟩, ⟨b, by omega, e_b⟩, (fun j hj => by obtain ⟨q, hq, eq⟩ := hkd j hj; exact ⟨q, hq, (show M 47 j = M 47 j from rfl).trans eq⟩), ⟨ra, by omega, e_ra⟩, (fun j hj => by obtain ⟨s, hs, es⟩ := hsl j hj; exact ⟨s, hs, (show M (50 + 2 * j) 3 = M (50 + 2 * j) 3 from rfl).trans es⟩), (fun j hj => by obtain ⟨q, hq, eq⟩ := hS j hj; exact ⟨q, hq, (show M 36 j = M 36 j from rfl).trans eq⟩)⟩, (Or.inl ⟨i, 1, by omega, by decide, rfl, rfl, Or.inl ⟨(show ¬ okW 1 (D i 4) (S 2) v from c1), rfl, hG0, hLg0⟩⟩)⟩⟩)
set_option maxRecDepth 100000 in
set_option maxHeartbeats 4000000 in
theorem gxm2_X9_mend {nh : Nat} {D : xM} {t : Option zL} {S : Nat → Int32} {lg : xL} {lu lw : Nat} (v : Int32) {i : Nat} {l : Launch} {G : xG} {M : xM} {J : xJ} (hI : InvC M) (hWG : WG nh D S) (hG : CG M nh D t S) (hWL : WLg nh lg lu lw) (hLg : CLg M lg lu lw) (hi : i < nh) : x_M l G fX9_mend 4 0 0 [.ref (0), .int (nI (i)), .int (2), .int (v)] x_SH M J (qKI WMD M J (fun r M2 => InvC M2 ∧ (EMn CG CLg nh D t S lg lu lw M2 (nI (i)) (2) v r))) := by
  refine xb_of pX9 (Nat.le_of_ble_eq_true rfl) rfl ?_
  obtain ⟨⟨cn, h_cn, e_cn⟩, ⟨cm, h_cm, e_cm⟩, ⟨L, h_L, e_L⟩, hv, hD, ⟨n, h_n, e_n⟩, ⟨un, wn, h_uw, h_wn, e_un, e_wn⟩, ⟨b, h_b, e_b⟩, hkd, ⟨ra, h_ra, e_ra⟩, hsl, hS⟩ := hI
  obtain ⟨huw, hw40, hWk⟩ := hWL
  have hG0 := hG
  have hLg0 := hLg
  obtain ⟨hn5, hW, hrub, hbeat⟩ := hWG
  obtain ⟨hGn, hA, hL, e_nw, e_rub, e_bt, e_ph, e_st, e_kn, e_pu, e_lf⟩ := hG
  obtain rfl : nh = cn := (nI_eq (by omega) (by omega)).mp (hGn.symm.trans e_cn)
  have hbt : ¬ S 2 = 0 := ne2_0 hbeat.1
  obtain ⟨hl4, hl5, hLk⟩ := hLg
  obtain rfl : lu = un := (nI_eq (by omega) (by omega)).mp (hl4.symm.trans e_un)
  obtain rfl : lw = wn := (nI_eq (by omega) (by omega)).mp (hl5.symm.trans e_wn)
  refine xr_aload_n dX9_mend_0 0 rfl ?_
  refine xr_iload_n dX9_mend_1 1 rfl ?_
  refine xr_iload_n dX9_mend_2 2 rfl ?_
  refine xr_iload_n dX9_mend_3 3 rfl ?_
  refine xb_cV (As := [.int (nI (i)), .int (2), .int (v)]) (rest := []) mlX9_101 (cw_X9_cb_2 v (i := i) h_cn e_cn (by omega)) dX9_mend_4 s_0 rfl rfl (Nat.le_of_ble_eq_true rfl) (by decide) (by decide) ?_
  refine xb_bne (tgt := 13) dX9_mend_7 rfl (fun c1 => ?_) (fun c1 => ?_)
  · refine xr_aload_n dX9_mend_13 0 rfl ?_
    refine xr_iload_n dX9_mend_14 1 rfl ?_
    refine xr_iload_n dX9_mend_15 2 rfl ?_
    refine xb_cV (As := [.int (nI (i)), .int (2)]) (rest := []) mlX9_106 (cw_X9_vo_2 (i := i) h_cn e_cn (by omega)) dX9_mend_16 s_0 rfl rfl (Nat.le_of_ble_eq_true rfl) (by decide) (by decide) ?_
    refine xr_istore (ls2 := [(4, .int ((M (15 + i) 3))), (0, .ref (0)), (1, .int (nI (i))), (2, .int (2)), (3, .int (v))]) dX9_mend_19 (by decide) rfl ?_
    refine xr_iload dX9_mend_21 0 rfl ?_
    refine xr_iload_n dX9_mend_23 4 rfl ?_
    refine xr_icmp_eq (tgt := 46) dX9_mend_24 rfl (fun c2 => ?_) (fun c2 => ?_)
    · refine xr_iload dX9_mend_46 0 rfl ?_
      exact xr_iret dX9_mend_48 rfl rfl (⟨_, rfl, rfl, rfl, Ke.rf, ⟨⟨⟨nh, by omega, e_cn⟩, ⟨cm, by omega, e_cm⟩, ⟨L, by omega, e_L⟩, (fun kk hkk => by rw [show M 3 kk = M 3 kk from rfl]; exact hv kk hkk), hD, ⟨n, by omega, e_n⟩, ⟨lu, lw, by omega, by omega, e_un, e_wn⟩, ⟨b, by omega, e_b⟩, (fun j hj => by obtain ⟨q, hq, eq⟩ := hkd j hj; exact ⟨q, hq, (show M 47 j = M 47 j from rfl).trans eq⟩), ⟨ra, by omega, e_ra⟩, (fun j hj => by obtain ⟨s, hs, es⟩ := hsl j hj; exact ⟨s, hs, (show M (50 + 2 * j) 3 = M (50 + 2 * j) 3 from rfl).trans es⟩), (fun j hj => by obtain ⟨q, hq, eq⟩ := hS j hj; exact ⟨q, hq, (show M 36 j = M 36 j from rfl).trans eq⟩)⟩, (Or.inl ⟨i, 2, by omega, by decide, rfl, rfl, Or.inr ⟨(show okW 2 (D i 4) (S 2) v from (by rw [← hA i (by omega) 4 (by decide)]; exact c1)), ((hA i (by omega) 3 (by decide)).trans (gK_2 (S := S) (by omega)).symm), Or.inl ⟨c2, hG0, hLg0⟩⟩⟩)⟩⟩)
    · refine xr_aload_n dX9_mend_27 1 rfl ?_
      refine xr_iload_n dX9_mend_28 2 rfl ?_
      refine xr_iload_n dX9_mend_29 3 rfl ?_
      refine xr_iload_n dX9_mend_30 4 rfl ?_
      refine xb_cV (As := [.int (nI (i)), .int (2), .int (v)]) (rest := []) mlX9_110 (cw_X9_lay_2 v (i := i) h_cn e_cn (by omega)) dX9_mend_31 s_0 rfl rfl (Nat.le_of_ble_eq_true rfl) (by decide) (by decide) ?_
      refine xr_aload_n dX9_mend_34 1 rfl ?_
      refine xr_getR flX9_54 dX9_mend_35 s_0 rfl ?_
      refine xr_iload_n dX9_mend_38 2 rfl ?_
      refine xr_iload_n dX9_mend_39 3 rfl ?_
      refine xr_iload dX9_mend_40 0 rfl ?_
      refine xr_iload_n dX9_mend_42 4 rfl ?_
      refine xr_callV (As := [.int (nI (i)), .int (2), .int ((M (15 + i) 3)), .int (v)]) (rest := []) mlX9_114 (gw_X0_note (nI (i)) 2 (M (15 + i) 3) v (un := lu) (by omega) (Eq.trans (congrFun (x_up_n _ _ _ (by omega)) _) e_un)) dX9_mend_43 s_41 rfl rfl (Nat.le_of_ble_eq_true rfl) (by decide) ⟨by decide, by decide⟩ (fun v s2 M9 J2 hq => ?_)
      obtain ⟨rfl, rfl, rfl, k10, ⟨n3, n4, n5, n6, n7, n8⟩⟩ := hq
      try dsimp only [Option.toList, List.cons_append, List.nil_append]
      have hnt := ntU_b (u := lu) (by omega)
      refine xr_iload dX9_mend_46 0 rfl ?_
      exact xr_iret dX9_mend_48 rfl rfl (⟨_, rfl, rfl, rfl, (Ke.tr (fun pp kk => (fun hh => Or.elim hh (fun h => (Or.inr (Or.inr (Or.inr (Or.inr (Or.inr (Or.inr (Or.inl h)))))))) (fun hh => Or.elim hh (fun h => (Or.inr (Or.inr (Or.inr (Or.inr (Or.inr (Or.inr (Or.inr (Or.inl h))))))))) (fun h => (Or.inr (Or.inr (Or.inr (Or.inr (Or.inr (Or.inr (Or.inr (Or.inr h)))))))))))) (Ke.up (Or.inr (Or.inr (Or.inr (Or.inr (Or.inr (Or.inl (by omega))))))) Ke.rf) k10), ⟨⟨⟨nh, by omega, (Eq.trans (k10 13 2 (by decide)) (Eq.trans (congrFun (x_up_n _ _ _ (by omega)) _) e_cn))⟩, ⟨cm, by omega, (Eq.trans (k10 20 2 (by decide)) (Eq.trans (congrFun (x_up_n _ _ _ (by omega)) _) e_cm))⟩, ⟨L, by omega, (Eq.trans (k10 1 4 (by decide)) (Eq.trans (congrFun (x_up_n _ _ _ (by omega)) _) e_L))⟩, (fun kk hkk => by rw [show M9 3 kk = M 3 kk from (Eq.trans (k10 3 kk (by unfold WCH; omega)) (Eq.trans (congrFun (x_up_n _ _ _ (by omega)) _) rfl))]; exact hv kk hkk), (DI_ke (by intro k; unfold WCH; omega) k10 (DI_up (by omega) hD)), ⟨n, by omega, (Eq.trans (k10 6 2 (by decide)) (Eq.trans (congrFun (x_up_n _ _ _ (by omega)) _) e_n))⟩, ⟨ntU lu, ntU lu, by omega, by omega, n3, n4⟩, ⟨b, by omega, (Eq.trans (k10 46 2 (by decide)) (Eq.trans (congrFun (x_up_n _ _ _ (by omega)) _) e_b))⟩, (fun j hj => by obtain ⟨q, hq, eq⟩ := hkd j hj; exact ⟨q, hq, (show M9 47 j = M 47 j from (Eq.trans (k10 47 j (by unfold WCH; omega)) (Eq.trans (congrFun (x_up_n _ _ _ (by omega)) _) rfl))).trans eq⟩), ⟨ra, by omega, (Eq.trans (k10 46 3 (by decide)) (Eq.trans (congrFun (x_up_n _ _ _ (by omega)) _) e_ra))⟩, (fun j hj => by obtain ⟨s, hs, es⟩ := hsl j hj; exact ⟨s, hs, (show M9 (50 + 2 * j) 3 = M (50 + 2 * j) 3 from (Eq.trans (k10 (50 + 2 * j) 3 (by unfold WCH; omega)) (Eq.trans (congrFun (x_up_n _ _ _ (by omega)) _) rfl))).trans es⟩), (fun j hj => by obtain ⟨q, hq, eq⟩ := hS j hj; exact ⟨q, hq, (show M9 36 j = M 36 j from (Eq.trans (k10 36 j (by unfold WCH; omega)) (Eq.trans (congrFun (x_up_n _ _ _ (by omega)) _) rfl))).trans eq⟩)⟩, (Or.inl ⟨i, 2, by omega, by decide, rfl, rfl, Or.inr ⟨(show okW 2 (D i 4) (S 2) v from (by rw [← hA i (by omega) 4 (by decide)]; exact c1)), ((hA i (by omega) 3 (by decide)).trans (gK_2 (S := S) (by omega)).symm), Or.inr ⟨c2, (by rw [sK_h (by omega) (by decide)]; exact ⟨(Eq.trans (k10 13 2 (by decide)) (Eq.trans (congrFun (x_up_n _ _ _ (by omega)) _) e_cn)), (by rw [dK_2 (by omega)]; exact AbC_k (AbC_vD (AbC_up hA) (ok2 c1)) (fun i hi j => k10 (15 + i) j (by unfold WCH; omega))), (LCt_k (Eq.trans (k10 1 4 (by unfold WCH; omega)) (Eq.trans (congrFun (x_up_n _ _ _ (by omega)) _) rfl)) (fun kl => (Eq.trans (k10 2 kl (by unfold WCH; omega)) (Eq.trans (congrFun (x_up_n _ _ _ (by omega)) _) rfl))) (fun kl => (Eq.trans (k10 3 kl (by unfold WCH; omega)) (Eq.trans (congrFun (x_up_n _ _ _ (by omega)) _) rfl))) hL), (Eq.trans (k10 13 3 (by decide)) (Eq.trans (congrFun (x_up_n _ _ _ (by omega)) _) e_nw)), (Eq.trans (k10 13 4 (by decide)) (Eq.trans (congrFun (x_up_n _ _ _ (by omega)) _) e_rub)), (Eq.trans (k10 13 5 (by decide)) (Eq.trans (congrFun (x_up_n _ _ _ (by omega)) _) e_bt)), (Eq.trans (k10 13 6 (by decide)) (Eq.trans (congrFun (x_up_n _ _ _ (by omega)) _) e_ph)), (Eq.trans (k10 13 7 (by decide)) (Eq.trans (congrFun (x_up_n _ _ _ (by omega)) _) e_st)), (Eq.trans (k10 35 5 (by decide)) (Eq.trans (congrFun (x_up_n _ _ _ (by omega)) _) e_kn)), (Eq.trans (k10 13 8 (by decide)) (Eq.trans (congrFun (x_up_n _ _ _ (by omega)) _) e_pu)), (Eq.trans (k10 13 9 (by decide)) (Eq.trans (congrFun (x_up_n _ _ _ (by omega)) _) e_lf))⟩), (CLg_nt (CLg_k hLg0 ((Eq.trans (congrFun (x_up_n _ _ _ (by omega)) _) rfl)) ((Eq.trans (congrFun (x_up_n _ _ _ (by omega)) _) rfl)) (fun kl => (Eq.trans (congrFun (x_up_n _ _ _ (by omega)) _) rfl)) (fun kl => (Eq.trans (congrFun (x_up_n _ _ _ (by omega)) _) rfl)) (fun kl => (Eq.trans (congrFun (x_up_n _ _ _ (by omega)) _) rfl)) (fun kl => (Eq.trans (congrFun (x_up_n _ _ _ (by omega)) _) rfl))) (by omega) (by omega) n5 n6 n7 n8 n3 n4 (by rw [if_pos (by omega)]; exact congrArg nI (by omega)) (by rw [if_pos (by omega)]; exact (show nI 2 = nI ((5 * 2 + i) / 5) from congrArg nI (by omega))))⟩⟩⟩)⟩⟩)
  · refine xr_ldc coX9_105 dX9_mend_10 ?_
    exact xr_iret dX9_mend_12 rfl rfl (⟨_, rfl, rfl, rfl, Ke.rf, ⟨⟨⟨nh, by omega, e_cn⟩, ⟨cm, by omega, e_cm⟩, ⟨L, by omega, e_L⟩, (fun kk hkk => by rw [show M 3 kk = M 3 kk from rfl]; exact hv kk hkk), hD, ⟨n, by omega, e_n⟩, ⟨lu, lw, by omega, by omega, e_un, e_wn⟩, ⟨b, by omega, e_b⟩, (fun j hj => by obtain ⟨q, hq, eq⟩ := hkd j hj; exact ⟨q, hq, (show M 47 j = M 47 j from rfl).trans eq⟩), ⟨ra, by omega, e_ra⟩, (fun j hj => by obtain ⟨s, hs, es⟩ := hsl j hj; exact ⟨s, hs, (show M (50 + 2 * j) 3 = M (50 + 2 * j) 3 from rfl).trans es⟩), (fun j hj => by obtain ⟨q, hq, eq⟩ := hS j hj; exact ⟨q, hq, (show M 36 j = M 36 j from rfl).trans eq⟩)⟩, (Or.inl ⟨i, 2, by omega, by decide, rfl, rfl, Or.inl ⟨(show ¬ okW 2 (D i 4) (S 2) v from (by rw [← hA i (by omega) 4 (by decide)]; exact c1)), rfl, hG0, hLg0⟩⟩)⟩⟩)
set_option maxRecDepth 100000 in
set_option maxHeartbeats 4000000 in
theorem gxm3_X9_mend {nh : Nat} {D : xM} {t : Option zL} {S : Nat → Int32} {lg : xL} {lu lw : Nat} (v : Int32) {l : Launch} {G : xG} {M : xM} {J : xJ} (hI : InvC M) (hWG : WG nh D S) (hG : CG M nh D t S) (hWL : WLg nh lg lu lw) (hLg : CLg M lg lu lw) : x_M l G fX9_mend 4 0 0 [.ref (0), .int (0), .int (3), .int (v)] x_SH M J (qKI WMD M J (fun r M2 => InvC M2 ∧ (EMn CG CLg nh D t S lg lu lw M2 (0) (3) v r))) := by
  refine xb_of pX9 (Nat.le_of_ble_eq_true rfl) rfl ?_
  obtain ⟨⟨cn, h_cn, e_cn⟩, ⟨cm, h_cm, e_cm⟩, ⟨L, h_L, e_L⟩, hv, hD, ⟨n, h_n, e_n⟩, ⟨un, wn, h_uw, h_wn, e_un, e_wn⟩, ⟨b, h_b, e_b⟩, hkd, ⟨ra, h_ra, e_ra⟩, hsl, hS⟩ := hI
  obtain ⟨huw, hw40, hWk⟩ := hWL
  have hG0 := hG
  have hLg0 := hLg
  obtain ⟨hn5, hW, hrub, hbeat⟩ := hWG
  obtain ⟨hGn, hA, hL, e_nw, e_rub, e_bt, e_ph, e_st, e_kn, e_pu, e_lf⟩ := hG
  obtain rfl : nh = cn := (nI_eq (by omega) (by omega)).mp (hGn.symm.trans e_cn)
  have hbt : ¬ S 2 = 0 := ne2_0 hbeat.1
  obtain ⟨hl4, hl5, hLk⟩ := hLg
  obtain rfl : lu = un := (nI_eq (by omega) (by omega)).mp (hl4.symm.trans e_un)
  obtain rfl : lw = wn := (nI_eq (by omega) (by omega)).mp (hl5.symm.trans e_wn)
  refine xr_aload_n dX9_mend_0 0 rfl ?_
  refine xr_iload_n dX9_mend_1 1 rfl ?_
  refine xr_iload_n dX9_mend_2 2 rfl ?_
  refine xr_iload_n dX9_mend_3 3 rfl ?_
  refine xb_cV (As := [.int (0), .int (3), .int (v)]) (rest := []) mlX9_101 (cw_X9_cb_3 v h_cn e_cn) dX9_mend_4 s_0 rfl rfl (Nat.le_of_ble_eq_true rfl) (by decide) (by decide) ?_
  refine xb_bne (tgt := 13) dX9_mend_7 rfl (fun c1 => ?_) (fun c1 => ?_)
  · refine xr_aload_n dX9_mend_13 0 rfl ?_
    refine xr_iload_n dX9_mend_14 1 rfl ?_
    refine xr_iload_n dX9_mend_15 2 rfl ?_
    refine xb_cV (As := [.int (0), .int (3)]) (rest := []) mlX9_106 (cw_X9_vo_3) dX9_mend_16 s_0 rfl rfl (Nat.le_of_ble_eq_true rfl) (by decide) (by decide) ?_
    refine xr_istore (ls2 := [(4, .int ((M 13 4))), (0, .ref (0)), (1, .int (0)), (2, .int (3)), (3, .int (v))]) dX9_mend_19 (by decide) rfl ?_
    refine xr_iload dX9_mend_21 0 rfl ?_
    refine xr_iload_n dX9_mend_23 4 rfl ?_
    refine xr_icmp_eq (tgt := 46) dX9_mend_24 rfl (fun c2 => ?_) (fun c2 => ?_)
    · refine xr_iload dX9_mend_46 0 rfl ?_
      exact xr_iret dX9_mend_48 rfl rfl (⟨_, rfl, rfl, rfl, Ke.rf, ⟨⟨⟨nh, by omega, e_cn⟩, ⟨cm, by omega, e_cm⟩, ⟨L, by omega, e_L⟩, (fun kk hkk => by rw [show M 3 kk = M 3 kk from rfl]; exact hv kk hkk), hD, ⟨n, by omega, e_n⟩, ⟨lu, lw, by omega, by omega, e_un, e_wn⟩, ⟨b, by omega, e_b⟩, (fun j hj => by obtain ⟨q, hq, eq⟩ := hkd j hj; exact ⟨q, hq, (show M 47 j = M 47 j from rfl).trans eq⟩), ⟨ra, by omega, e_ra⟩, (fun j hj => by obtain ⟨s, hs, es⟩ := hsl j hj; exact ⟨s, hs, (show M (50 + 2 * j) 3 = M (50 + 2 * j) 3 from rfl).trans es⟩), (fun j hj => by obtain ⟨q, hq, eq⟩ := hS j hj; exact ⟨q, hq, (show M 36 j = M 36 j from rfl).trans eq⟩)⟩, (Or.inr (Or.inl ⟨3, by decide, by decide, rfl, rfl, Or.inr ⟨(show okW 3 0 (S 2) v from c1), (e_rub.trans (gK_s (D := D) (S := S) (a := 3) (by decide)).symm), Or.inl ⟨c2, hG0, hLg0⟩⟩⟩))⟩⟩)
    · refine xr_aload_n dX9_mend_27 1 rfl ?_
      refine xr_iload_n dX9_mend_28 2 rfl ?_
      refine xr_iload_n dX9_mend_29 3 rfl ?_
      refine xr_iload_n dX9_mend_30 4 rfl ?_
      refine xb_cV (As := [.int (0), .int (3), .int (v)]) (rest := []) mlX9_110 (cw_X9_lay_3 v) dX9_mend_31 s_0 rfl rfl (Nat.le_of_ble_eq_true rfl) (by decide) (by decide) ?_
      refine xr_aload_n dX9_mend_34 1 rfl ?_
      refine xr_getR flX9_54 dX9_mend_35 s_0 rfl ?_
      refine xr_iload_n dX9_mend_38 2 rfl ?_
      refine xr_iload_n dX9_mend_39 3 rfl ?_
      refine xr_iload dX9_mend_40 0 rfl ?_
      refine xr_iload_n dX9_mend_42 4 rfl ?_
      refine xr_callV (As := [.int (0), .int (3), .int ((M 13 4)), .int (v)]) (rest := []) mlX9_114 (gw_X0_note 0 3 (M 13 4) v (un := lu) (by omega) (Eq.trans (congrFun (x_up_n _ _ _ (by decide)) _) e_un)) dX9_mend_43 s_41 rfl rfl (Nat.le_of_ble_eq_true rfl) (by decide) ⟨by decide, by decide⟩ (fun v s2 M9 J2 hq => ?_)
      obtain ⟨rfl, rfl, rfl, k10, ⟨n3, n4, n5, n6, n7, n8⟩⟩ := hq
      try dsimp only [Option.toList, List.cons_append, List.nil_append]
      have hnt := ntU_b (u := lu) (by omega)
      refine xr_iload dX9_mend_46 0 rfl ?_
      exact xr_iret dX9_mend_48 rfl rfl (⟨_, rfl, rfl, rfl, (Ke.tr (fun pp kk => (fun hh => Or.elim hh (fun h => (Or.inr (Or.inr (Or.inr (Or.inr (Or.inr (Or.inr (Or.inl h)))))))) (fun hh => Or.elim hh (fun h => (Or.inr (Or.inr (Or.inr (Or.inr (Or.inr (Or.inr (Or.inr (Or.inl h))))))))) (fun h => (Or.inr (Or.inr (Or.inr (Or.inr (Or.inr (Or.inr (Or.inr (Or.inr h)))))))))))) (Ke.up (Or.inl (by omega)) Ke.rf) k10), ⟨⟨⟨nh, by omega, (Eq.trans (k10 13 2 (by decide)) (Eq.trans (x_up_k _ _ _ (by decide)) e_cn))⟩, ⟨cm, by omega, (Eq.trans (k10 20 2 (by decide)) (Eq.trans (congrFun (x_up_n _ _ _ (by decide)) _) e_cm))⟩, ⟨L, by omega, (Eq.trans (k10 1 4 (by decide)) (Eq.trans (congrFun (x_up_n _ _ _ (by decide)) _) e_L))⟩, (fun kk hkk => by rw [show M9 3 kk = M 3 kk from (Eq.trans (k10 3 kk (by unfold WCH; omega)) (Eq.trans (congrFun (x_up_n _ _ _ (by omega)) _) rfl))]; exact hv kk hkk), (DI_ke (by intro k; unfold WCH; omega) k10 (DI_up (by decide) hD)), ⟨n, by omega, (Eq.trans (k10 6 2 (by decide)) (Eq.trans (congrFun (x_up_n _ _ _ (by decide)) _) e_n))⟩, ⟨ntU lu, ntU lu, by omega, by omega, n3, n4⟩, ⟨b, by omega, (Eq.trans (k10 46 2 (by decide)) (Eq.trans (congrFun (x_up_n _ _ _ (by decide)) _) e_b))⟩, (fun j hj => by obtain ⟨q, hq, eq⟩ := hkd j hj; exact ⟨q, hq, (show M9 47 j = M 47 j from (Eq.trans (k10 47 j (by unfold WCH; omega)) (Eq.trans (congrFun (x_up_n _ _ _ (by omega)) _) rfl))).trans eq⟩), ⟨ra, by omega, (Eq.trans (k10 46 3 (by decide)) (Eq.trans (congrFun (x_up_n _ _ _ (by decide)) _) e_ra))⟩, (fun j hj => by obtain ⟨s, hs, es⟩ := hsl j hj; exact ⟨s, hs, (show M9 (50 + 2 * j) 3 = M (50 + 2 * j) 3 from (Eq.trans (k10 (50 + 2 * j) 3 (by unfold WCH; omega)) (Eq.trans (congrFun (x_up_n _ _ _ (by omega)) _) rfl))).trans es⟩), (fun j hj => by obtain ⟨q, hq, eq⟩ := hS j hj; exact ⟨q, hq, (show M9 36 j = M 36 j from (Eq.trans (k10 36 j (by unfold WCH; omega)) (Eq.trans (congrFun (x_up_n _ _ _ (by omega)) _) rfl))).trans eq⟩)⟩, (Or.inr (Or.inl ⟨3, by decide, by decide, rfl, rfl, Or.inr ⟨(show okW 3 0 (S 2) v from c1), (e_rub.trans (gK_s (D := D) (S := S) (a := 3) (by decide)).symm), Or.inr ⟨c2, ⟨(Eq.trans (k10 13 2 (by decide)) (Eq.trans (x_up_k _ _ _ (by decide)) e_cn)), (AbC_k (AbC_n hA (by omega)) (fun i hi j => k10 (15 + i) j (by unfold WCH; omega))), (LCt_k (Eq.trans (k10 1 4 (by unfold WCH; omega)) (Eq.trans (congrFun (x_up_n _ _ _ (by omega)) _) rfl)) (fun kl => (Eq.trans (k10 2 kl (by unfold WCH; omega)) (Eq.trans (congrFun (x_up_n _ _ _ (by omega)) _) rfl))) (fun kl => (Eq.trans (k10 3 kl (by unfold WCH; omega)) (Eq.trans (congrFun (x_up_n _ _ _ (by omega)) _) rfl))) hL), (Eq.trans (k10 13 3 (by decide)) (Eq.trans (x_up_k _ _ _ (by decide)) e_nw)), (Eq.trans (k10 13 4 (by decide)) (x_up_s _ _ _ _)), (Eq.trans (k10 13 5 (by decide)) (Eq.trans (x_up_k _ _ _ (by decide)) e_bt)), (Eq.trans (k10 13 6 (by decide)) (Eq.trans (x_up_k _ _ _ (by decide)) e_ph)), (Eq.trans (k10 13 7 (by decide)) (Eq.trans (x_up_k _ _ _ (by decide)) e_st)), (Eq.trans (k10 35 5 (by decide)) (Eq.trans (congrFun (x_up_n _ _ _ (by decide)) _) e_kn)), (Eq.trans (k10 13 8 (by decide)) (Eq.trans (x_up_k _ _ _ (by decide)) e_pu)), (Eq.trans (k10 13 9 (by decide)) (Eq.trans (x_up_k _ _ _ (by decide)) e_lf))⟩, (CLg_nt (CLg_k hLg0 ((Eq.trans (congrFun (x_up_n _ _ _ (by omega)) _) rfl)) ((Eq.trans (congrFun (x_up_n _ _ _ (by omega)) _) rfl)) (fun kl => (Eq.trans (congrFun (x_up_n _ _ _ (by omega)) _) rfl)) (fun kl => (Eq.trans (congrFun (x_up_n _ _ _ (by omega)) _) rfl)) (fun kl => (Eq.trans (congrFun (x_up_n _ _ _ (by omega)) _) rfl)) (fun kl => (Eq.trans (congrFun (x_up_n _ _ _ (by omega)) _) rfl))) (by omega) (by omega) n5 n6 n7 n8 n3 n4 rfl rfl)⟩⟩⟩))⟩⟩)
  · refine xr_ldc coX9_105 dX9_mend_10 ?_
    exact xr_iret dX9_mend_12 rfl rfl (⟨_, rfl, rfl, rfl, Ke.rf, ⟨⟨⟨nh, by omega, e_cn⟩, ⟨cm, by omega, e_cm⟩, ⟨L, by omega, e_L⟩, (fun kk hkk => by rw [show M 3 kk = M 3 kk from rfl]; exact hv kk hkk), hD, ⟨n, by omega, e_n⟩, ⟨lu, lw, by omega, by omega, e_un, e_wn⟩, ⟨b, by omega, e_b⟩, (fun j hj => by obtain ⟨q, hq, eq⟩ := hkd j hj; exact ⟨q, hq, (show M 47 j = M 47 j from rfl).trans eq⟩), ⟨ra, by omega, e_ra⟩, (fun j hj => by obtain ⟨s, hs, es⟩ := hsl j hj; exact ⟨s, hs, (show M (50 + 2 * j) 3 = M (50 + 2 * j) 3 from rfl).trans es⟩), (fun j hj => by obtain ⟨q, hq, eq⟩ := hS j hj; exact ⟨q, hq, (show M 36 j = M 36 j from rfl).trans eq⟩)⟩, (Or.inr (Or.inl ⟨3, by decide, by decide, rfl, rfl, Or.inl ⟨(show ¬ okW 3 0 (S 2) v from c1), rfl, hG0, hLg0⟩⟩))⟩⟩)
set_option maxRecDepth 100000 in
set_option maxHeartbeats 4000000 in
theorem gxm4_X9_mend {nh : Nat} {D : xM} {t : Option zL} {S : Nat → Int32} {lg : xL} {lu lw : Nat} (v : Int32) {l : Launch} {G : xG} {M : xM} {J : xJ} (hI : InvC M) (hWG : WG nh D S) (hG : CG M nh D t S) (hWL : WLg nh lg lu lw) (hLg : CLg M lg lu lw) : x_M l G fX9_mend 4 0 0 [.ref (0), .int (0), .int (4), .int (v)] x_SH M J (qKI WMD M J (fun r M2 => InvC M2 ∧ (EMn CG CLg nh D t S lg lu lw M2 (0) (4) v r))) := by
  refine xb_of pX9 (Nat.le_of_ble_eq_true rfl) rfl ?_
  obtain ⟨⟨cn, h_cn, e_cn⟩, ⟨cm, h_cm, e_cm⟩, ⟨L, h_L, e_L⟩, hv, hD, ⟨n, h_n, e_n⟩, ⟨un, wn, h_uw, h_wn, e_un, e_wn⟩, ⟨b, h_b, e_b⟩, hkd, ⟨ra, h_ra, e_ra⟩, hsl, hS⟩ := hI
  obtain ⟨huw, hw40, hWk⟩ := hWL
  have hG0 := hG
  have hLg0 := hLg
  obtain ⟨hn5, hW, hrub, hbeat⟩ := hWG
  obtain ⟨hGn, hA, hL, e_nw, e_rub, e_bt, e_ph, e_st, e_kn, e_pu, e_lf⟩ := hG
  obtain rfl : nh = cn := (nI_eq (by omega) (by omega)).mp (hGn.symm.trans e_cn)
  have hbt : ¬ S 2 = 0 := ne2_0 hbeat.1
  obtain ⟨hl4, hl5, hLk⟩ := hLg
  obtain rfl : lu = un := (nI_eq (by omega) (by omega)).mp (hl4.symm.trans e_un)
  obtain rfl : lw = wn := (nI_eq (by omega) (by omega)).mp (hl5.symm.trans e_wn)
  refine xr_aload_n dX9_mend_0 0 rfl ?_
  refine xr_iload_n dX9_mend_1 1 rfl ?_
  refine xr_iload_n dX9_mend_2 2 rfl ?_
  refine xr_iload_n dX9_mend_3 3 rfl ?_
  refine xb_cV (As := [.int (0), .int (4), .int (v)]) (rest := []) mlX9_101 (cw_X9_cb_4 v h_cn e_cn) dX9_mend_4 s_0 rfl rfl (Nat.le_of_ble_eq_true rfl) (by decide) (by decide) ?_
  refine xb_bne (tgt := 13) dX9_mend_7 rfl (fun c1 => ?_) (fun c1 => ?_)
  · refine xr_aload_n dX9_mend_13 0 rfl ?_
    refine xr_iload_n dX9_mend_14 1 rfl ?_
    refine xr_iload_n dX9_mend_15 2 rfl ?_
    refine xb_cV (As := [.int (0), .int (4)]) (rest := []) mlX9_106 (cw_X9_vo_4) dX9_mend_16 s_0 rfl rfl (Nat.le_of_ble_eq_true rfl) (by decide) (by decide) ?_
    refine xr_istore (ls2 := [(4, .int ((M 13 5))), (0, .ref (0)), (1, .int (0)), (2, .int (4)), (3, .int (v))]) dX9_mend_19 (by decide) rfl ?_
    refine xr_iload dX9_mend_21 0 rfl ?_
    refine xr_iload_n dX9_mend_23 4 rfl ?_
    refine xr_icmp_eq (tgt := 46) dX9_mend_24 rfl (fun c2 => ?_) (fun c2 => ?_)
    · refine xr_iload dX9_mend_46 0 rfl ?_
      exact xr_iret dX9_mend_48 rfl rfl (⟨_, rfl, rfl, rfl, Ke.rf, ⟨⟨⟨nh, by omega, e_cn⟩, ⟨cm, by omega, e_cm⟩, ⟨L, by omega, e_L⟩, (fun kk hkk => by rw [show M 3 kk = M 3 kk from rfl]; exact hv kk hkk), hD, ⟨n, by omega, e_n⟩, ⟨lu, lw, by omega, by omega, e_un, e_wn⟩, ⟨b, by omega, e_b⟩, (fun j hj => by obtain ⟨q, hq, eq⟩ := hkd j hj; exact ⟨q, hq, (show M 47 j = M 47 j from rfl).trans eq⟩), ⟨ra, by omega, e_ra⟩, (fun j hj => by obtain ⟨s, hs, es⟩ := hsl j hj; exact ⟨s, hs, (show M (50 + 2 * j) 3 = M (50 + 2 * j) 3 from rfl).trans es⟩), (fun j hj => by obtain ⟨q, hq, eq⟩ := hS j hj; exact ⟨q, hq, (show M 36 j = M 36 j from rfl).trans eq⟩)⟩, (Or.inr (Or.inl ⟨4, by decide, by decide, rfl, rfl, Or.inr ⟨(show okW 4 0 (S 2) v from c1), (e_bt.trans (gK_s (D := D) (S := S) (a := 4) (by decide)).symm), Or.inl ⟨c2, hG0, hLg0⟩⟩⟩))⟩⟩)
    · refine xr_aload_n dX9_mend_27 1 rfl ?_
      refine xr_iload_n dX9_mend_28 2 rfl ?_
      refine xr_iload_n dX9_mend_29 3 rfl ?_
      refine xr_iload_n dX9_mend_30 4 rfl ?_
      refine xb_cV (As := [.int (0), .int (4), .int (v)]) (rest := []) mlX9_110 (cw_X9_lay_4 v) dX9_mend_31 s_0 rfl rfl (Nat.le_of_ble_eq_true rfl) (by decide) (by decide) ?_
      refine xr_aload_n dX9_mend_34 1 rfl ?_
      refine xr_getR flX9_54 dX9_mend_35 s_0 rfl ?_
      refine xr_iload_n dX9_mend_38 2 rfl ?_
      refine xr_iload_n dX9_mend_39 3 rfl ?_
      refine xr_iload dX9_mend_40 0 rfl ?_
      refine xr_iload_n dX9_mend_42 4 rfl ?_
      refine xr_callV (As := [.int (0), .int (4), .int ((M 13 5)), .int (v)]) (rest := []) mlX9_114 (gw_X0_note 0 4 (M 13 5) v (un := lu) (by omega) (Eq.trans (congrFun (x_up_n _ _ _ (by decide)) _) e_un)) dX9_mend_43 s_41 rfl rfl (Nat.le_of_ble_eq_true rfl) (by decide) ⟨by decide, by decide⟩ (fun v s2 M9 J2 hq => ?_)
      obtain ⟨rfl, rfl, rfl, k10, ⟨n3, n4, n5, n6, n7, n8⟩⟩ := hq
      try dsimp only [Option.toList, List.cons_append, List.nil_append]
      have hnt := ntU_b (u := lu) (by omega)
      refine xr_iload dX9_mend_46 0 rfl ?_
      exact xr_iret dX9_mend_48 rfl rfl (⟨_, rfl, rfl, rfl, (Ke.tr (fun pp kk => (fun hh => Or.elim hh (fun h => (Or.inr (Or.inr (Or.inr (Or.inr (Or.inr (Or.inr (Or.inl h)))))))) (fun hh => Or.elim hh (fun h => (Or.inr (Or.inr (Or.inr (Or.inr (Or.inr (Or.inr (Or.inr (Or.inl h))))))))) (fun h => (Or.inr (Or.inr (Or.inr (Or.inr (Or.inr (Or.inr (Or.inr (Or.inr h)))))))))))) (Ke.up (Or.inr (Or.inl (by omega))) Ke.rf) k10), ⟨⟨⟨nh, by omega, (Eq.trans (k10 13 2 (by decide)) (Eq.trans (x_up_k _ _ _ (by decide)) e_cn))⟩, ⟨cm, by omega, (Eq.trans (k10 20 2 (by decide)) (Eq.trans (congrFun (x_up_n _ _ _ (by decide)) _) e_cm))⟩, ⟨L, by omega, (Eq.trans (k10 1 4 (by decide)) (Eq.trans (congrFun (x_up_n _ _ _ (by decide)) _) e_L))⟩, (fun kk hkk => by rw [show M9 3 kk = M 3 kk from (Eq.trans (k10 3 kk (by unfold WCH; omega)) (Eq.trans (congrFun (x_up_n _ _ _ (by omega)) _) rfl))]; exact hv kk hkk), (DI_ke (by intro k; unfold WCH; omega) k10 (DI_up (by decide) hD)), ⟨n, by omega, (Eq.trans (k10 6 2 (by decide)) (Eq.trans (congrFun (x_up_n _ _ _ (by decide)) _) e_n))⟩, ⟨ntU lu, ntU lu, by omega, by omega, n3, n4⟩, ⟨b, by omega, (Eq.trans (k10 46 2 (by decide)) (Eq.trans (congrFun (x_up_n _ _ _ (by decide)) _) e_b))⟩, (fun j hj => by obtain ⟨q, hq, eq⟩ := hkd j hj; exact ⟨q, hq, (show M9 47 j = M 47 j from (Eq.trans (k10 47 j (by unfold WCH; omega)) (Eq.trans (congrFun (x_up_n _ _ _ (by omega)) _) rfl))).trans eq⟩), ⟨ra, by omega, (Eq.trans (k10 46 3 (by decide)) (Eq.trans (congrFun (x_up_n _ _ _ (by decide)) _) e_ra))⟩, (fun j hj => by obtain ⟨s, hs, es⟩ := hsl j hj; exact ⟨s, hs, (show M9 (50 + 2 * j) 3 = M (50 + 2 * j) 3 from (Eq.trans (k10 (50 + 2 * j) 3 (by unfold WCH; omega)) (Eq.trans (congrFun (x_up_n _ _ _ (by omega)) _) rfl))).trans es⟩), (fun j hj => by obtain ⟨q, hq, eq⟩ := hS j hj; exact ⟨q, hq, (show M9 36 j = M 36 j from (Eq.trans (k10 36 j (by unfold WCH; omega)) (Eq.trans (congrFun (x_up_n _ _ _ (by omega)) _) rfl))).trans eq⟩)⟩, (Or.inr (Or.inl ⟨4, by decide, by decide, rfl, rfl, Or.inr ⟨(show okW 4 0 (S 2) v from c1), (e_bt.trans (gK_s (D := D) (S := S) (a := 4) (by decide)).symm), Or.inr ⟨c2, ⟨(Eq.trans (k10 13 2 (by decide)) (Eq.trans (x_up_k _ _ _ (by decide)) e_cn)), (AbC_k (AbC_n hA (by omega)) (fun i hi j => k10 (15 + i) j (by unfold WCH; omega))), (LCt_k (Eq.trans (k10 1 4 (by unfold WCH; omega)) (Eq.trans (congrFun (x_up_n _ _ _ (by omega)) _) rfl)) (fun kl => (Eq.trans (k10 2 kl (by unfold WCH; omega)) (Eq.trans (congrFun (x_up_n _ _ _ (by omega)) _) rfl))) (fun kl => (Eq.trans (k10 3 kl (by unfold WCH; omega)) (Eq.trans (congrFun (x_up_n _ _ _ (by omega)) _) rfl))) hL), (Eq.trans (k10 13 3 (by decide)) (Eq.trans (x_up_k _ _ _ (by decide)) e_nw)), (Eq.trans (k10 13 4 (by decide)) (Eq.trans (x_up_k _ _ _ (by decide)) e_rub)), (Eq.trans (k10 13 5 (by decide)) (x_up_s _ _ _ _)), (Eq.trans (k10 13 6 (by decide)) (Eq.trans (x_up_k _ _ _ (by decide)) e_ph)), (Eq.trans (k10 13 7 (by decide)) (Eq.trans (x_up_k _ _ _ (by decide)) e_st)), (Eq.trans (k10 35 5 (by decide)) (Eq.trans (congrFun (x_up_n _ _ _ (by decide)) _) e_kn)), (Eq.trans (k10 13 8 (by decide)) (Eq.trans (x_up_k _ _ _ (by decide)) e_pu)), (Eq.trans (k10 13 9 (by decide)) (Eq.trans (x_up_k _ _ _ (by decide)) e_lf))⟩, (CLg_nt (CLg_k hLg0 ((Eq.trans (congrFun (x_up_n _ _ _ (by omega)) _) rfl)) ((Eq.trans (congrFun (x_up_n _ _ _ (by omega)) _) rfl)) (fun kl => (Eq.trans (congrFun (x_up_n _ _ _ (by omega)) _) rfl)) (fun kl => (Eq.trans (congrFun (x_up_n _ _ _ (by omega)) _) rfl)) (fun kl => (Eq.trans (congrFun (x_up_n _ _ _ (by omega)) _) rfl)) (fun kl => (Eq.trans (congrFun (x_up_n _ _ _ (by omega)) _) rfl))) (by omega) (by omega) n5 n6 n7 n8 n3 n4 rfl rfl)⟩⟩⟩))⟩⟩)
  · refine xr_ldc coX9_105 dX9_mend_10 ?_
    exact xr_iret dX9_mend_12 rfl rfl (⟨_, rfl, rfl, rfl, Ke.rf, ⟨⟨⟨nh, by omega, e_cn⟩, ⟨cm, by omega, e_cm⟩, ⟨L, by omega, e_L⟩, (fun kk hkk => by rw [show M 3 kk = M 3 kk from rfl]; exact hv kk hkk), hD, ⟨n, by omega, e_n⟩, ⟨lu, lw, by omega, by omega, e_un, e_wn⟩, ⟨b, by omega, e_b⟩, (fun j hj => by obtain ⟨q, hq, eq⟩ := hkd j hj; exact ⟨q, hq, (show M 47 j = M 47 j from rfl).trans eq⟩), ⟨ra, by omega, e_ra⟩, (fun j hj => by obtain ⟨s, hs, es⟩ := hsl j hj; exact ⟨s, hs, (show M (50 + 2 * j) 3 = M (50 + 2 * j) 3 from rfl).trans es⟩), (fun j hj => by obtain ⟨q, hq, eq⟩ := hS j hj; exact ⟨q, hq, (show M 36 j = M 36 j from rfl).trans eq⟩)⟩, (Or.inr (Or.inl ⟨4, by decide, by decide, rfl, rfl, Or.inl ⟨(show ¬ okW 4 0 (S 2) v from c1), rfl, hG0, hLg0⟩⟩))⟩⟩)
set_option maxRecDepth 100000 in
set_option maxHeartbeats 4000000 in
theorem gxm5_X9_mend {nh : Nat} {D : xM} {t : Option zL} {S : Nat → Int32} {lg : xL} {lu lw : Nat} (v : Int32) {l : Launch} {G : xG} {M : xM} {J : xJ} (hI : InvC M) (hWG : WG nh D S) (hG : CG M nh D t S) (hWL : WLg nh lg lu lw) (hLg : CLg M lg lu lw) : x_M l G fX9_mend 4 0 0 [.ref (0), .int (0), .int (5), .int (v)] x_SH M J (qKI WMD M J (fun r M2 => InvC M2 ∧ (EMn CG CLg nh D t S lg lu lw M2 (0) (5) v r))) := by
  refine xb_of pX9 (Nat.le_of_ble_eq_true rfl) rfl ?_
  obtain ⟨⟨cn, h_cn, e_cn⟩, ⟨cm, h_cm, e_cm⟩, ⟨L, h_L, e_L⟩, hv, hD, ⟨n, h_n, e_n⟩, ⟨un, wn, h_uw, h_wn, e_un, e_wn⟩, ⟨b, h_b, e_b⟩, hkd, ⟨ra, h_ra, e_ra⟩, hsl, hS⟩ := hI
  obtain ⟨huw, hw40, hWk⟩ := hWL
  have hG0 := hG
  have hLg0 := hLg
  obtain ⟨hn5, hW, hrub, hbeat⟩ := hWG
  obtain ⟨hGn, hA, hL, e_nw, e_rub, e_bt, e_ph, e_st, e_kn, e_pu, e_lf⟩ := hG
  obtain rfl : nh = cn := (nI_eq (by omega) (by omega)).mp (hGn.symm.trans e_cn)
  have hbt : ¬ S 2 = 0 := ne2_0 hbeat.1
  obtain ⟨hl4, hl5, hLk⟩ := hLg
  obtain rfl : lu = un := (nI_eq (by omega) (by omega)).mp (hl4.symm.trans e_un)
  obtain rfl : lw = wn := (nI_eq (by omega) (by omega)).mp (hl5.symm.trans e_wn)
  refine xr_aload_n dX9_mend_0 0 rfl ?_
  refine xr_iload_n dX9_mend_1 1 rfl ?_
  refine xr_iload_n dX9_mend_2 2 rfl ?_
  refine xr_iload_n dX9_mend_3 3 rfl ?_
  refine xb_cV (As := [.int (0), .int (5), .int (v)]) (rest := []) mlX9_101 (cw_X9_cb_5 v h_cn e_cn) dX9_mend_4 s_0 rfl rfl (Nat.le_of_ble_eq_true rfl) (by decide) (by decide) ?_
  refine xb_bne (tgt := 13) dX9_mend_7 rfl (fun c1 => ?_) (fun c1 => ?_)
  · refine xr_aload_n dX9_mend_13 0 rfl ?_
    refine xr_iload_n dX9_mend_14 1 rfl ?_
    refine xr_iload_n dX9_mend_15 2 rfl ?_
    refine xb_cV (As := [.int (0), .int (5)]) (rest := []) mlX9_106 (cw_X9_vo_5) dX9_mend_16 s_0 rfl rfl (Nat.le_of_ble_eq_true rfl) (by decide) (by decide) ?_
    refine xr_istore (ls2 := [(4, .int ((M 13 6))), (0, .ref (0)), (1, .int (0)), (2, .int (5)), (3, .int (v))]) dX9_mend_19 (by decide) rfl ?_
    refine xr_iload dX9_mend_21 0 rfl ?_
    refine xr_iload_n dX9_mend_23 4 rfl ?_
    refine xr_icmp_eq (tgt := 46) dX9_mend_24 rfl (fun c2 => ?_) (fun c2 => ?_)
    · refine xr_iload dX9_mend_46 0 rfl ?_
      exact xr_iret dX9_mend_48 rfl rfl (⟨_, rfl, rfl, rfl, Ke.rf, ⟨⟨⟨nh, by omega, e_cn⟩, ⟨cm, by omega, e_cm⟩, ⟨L, by omega, e_L⟩, (fun kk hkk => by rw [show M 3 kk = M 3 kk from rfl]; exact hv kk hkk), hD, ⟨n, by omega, e_n⟩, ⟨lu, lw, by omega, by omega, e_un, e_wn⟩, ⟨b, by omega, e_b⟩, (fun j hj => by obtain ⟨q, hq, eq⟩ := hkd j hj; exact ⟨q, hq, (show M 47 j = M 47 j from rfl).trans eq⟩), ⟨ra, by omega, e_ra⟩, (fun j hj => by obtain ⟨s, hs, es⟩ := hsl j hj; exact ⟨s, hs, (show M (50 + 2 * j) 3 = M (50 + 2 * j) 3 from rfl).trans es⟩), (fun j hj => by obtain ⟨q, hq, eq⟩ := hS j hj; exact ⟨q, hq, (show M 36 j = M 36 j from rfl).trans eq⟩)⟩, (Or.inr (Or.inl ⟨5, by decide, by decide, rfl, rfl, Or.inr ⟨(show okW 5 0 (S 2) v from (by rw [← e_bt]; exact c1)), (e_ph.trans (gK_s (D := D) (S := S) (a := 5) (by decide)).symm), Or.inl ⟨c2, hG0, hLg0⟩⟩⟩))⟩⟩)
    · refine xr_aload_n dX9_mend_27 1 rfl ?_
      refine xr_iload_n dX9_mend_28 2 rfl ?_
      refine xr_iload_n dX9_mend_29 3 rfl ?_
      refine xr_iload_n dX9_mend_30 4 rfl ?_
      refine xb_cV (As := [.int (0), .int (5), .int (v)]) (rest := []) mlX9_110 (cw_X9_lay_5 v) dX9_mend_31 s_0 rfl rfl (Nat.le_of_ble_eq_true rfl) (by decide) (by decide) ?_
      refine xr_aload_n dX9_mend_34 1 rfl ?_
      refine xr_getR flX9_54 dX9_mend_35 s_0 rfl ?_
      refine xr_iload_n dX9_mend_38 2 rfl ?_
      refine xr_iload_n dX9_mend_39 3 rfl ?_
      refine xr_iload dX9_mend_40 0 rfl ?_
      refine xr_iload_n dX9_mend_42 4 rfl ?_
      refine xr_callV (As := [.int (0), .int (5), .int ((M 13 6)), .int (v)]) (rest := []) mlX9_114 (gw_X0_note 0 5 (M 13 6) v (un := lu) (by omega) (Eq.trans (congrFun (x_up_n _ _ _ (by decide)) _) e_un)) dX9_mend_43 s_41 rfl rfl (Nat.le_of_ble_eq_true rfl) (by decide) ⟨by decide, by decide⟩ (fun v s2 M9 J2 hq => ?_)
      obtain ⟨rfl, rfl, rfl, k10, ⟨n3, n4, n5, n6, n7, n8⟩⟩ := hq
      try dsimp only [Option.toList, List.cons_append, List.nil_append]
      have hnt := ntU_b (u := lu) (by omega)
      refine xr_iload dX9_mend_46 0 rfl ?_
      exact xr_iret dX9_mend_48 rfl rfl (⟨_, rfl, rfl, rfl, (Ke.tr (fun pp kk => (fun hh => Or.elim hh (fun h => (Or.inr (Or.inr (Or.inr (Or.inr (Or.inr (Or.inr (Or.inl h)))))))) (fun hh => Or.elim hh (fun h => (Or.inr (Or.inr (Or.inr (Or.inr (Or.inr (Or.inr (Or.inr (Or.inl h))))))))) (fun h => (Or.inr (Or.inr (Or.inr (Or.inr (Or.inr (Or.inr (Or.inr (Or.inr h)))))))))))) (Ke.up (Or.inr (Or.inr (Or.inl (by omega)))) Ke.rf) k10), ⟨⟨⟨nh, by omega, (Eq.trans (k10 13 2 (by decide)) (Eq.trans (x_up_k _ _ _ (by decide)) e_cn))⟩, ⟨cm, by omega, (Eq.trans (k10 20 2 (by decide)) (Eq.trans (congrFun (x_up_n _ _ _ (by decide)) _) e_cm))⟩, ⟨L, by omega, (Eq.trans (k10 1 4 (by decide)) (Eq.trans (congrFun (x_up_n _ _ _ (by decide)) _) e_L))⟩, (fun kk hkk => by rw [show M9 3 kk = M 3 kk from (Eq.trans (k10 3 kk (by unfold WCH; omega)) (Eq.trans (congrFun (x_up_n _ _ _ (by omega)) _) rfl))]; exact hv kk hkk), (DI_ke (by intro k; unfold WCH; omega) k10 (DI_up (by decide) hD)), ⟨n, by omega, (Eq.trans (k10 6 2 (by decide)) (Eq.trans (congrFun (x_up_n _ _ _ (by decide)) _) e_n))⟩, ⟨ntU lu, ntU lu, by omega, by omega, n3, n4⟩, ⟨b, by omega, (Eq.trans (k10 46 2 (by decide)) (Eq.trans (congrFun (x_up_n _ _ _ (by decide)) _) e_b))⟩, (fun j hj => by obtain ⟨q, hq, eq⟩ := hkd j hj; exact ⟨q, hq, (show M9 47 j = M 47 j from (Eq.trans (k10 47 j (by unfold WCH; omega)) (Eq.trans (congrFun (x_up_n _ _ _ (by omega)) _) rfl))).trans eq⟩), ⟨ra, by omega, (Eq.trans (k10 46 3 (by decide)) (Eq.trans (congrFun (x_up_n _ _ _ (by decide)) _) e_ra))⟩, (fun j hj => by obtain ⟨s, hs, es⟩ := hsl j hj; exact ⟨s, hs, (show M9 (50 + 2 * j) 3 = M (50 + 2 * j) 3 from (Eq.trans (k10 (50 + 2 * j) 3 (by unfold WCH; omega)) (Eq.trans (congrFun (x_up_n _ _ _ (by omega)) _) rfl))).trans es⟩), (fun j hj => by obtain ⟨q, hq, eq⟩ := hS j hj; exact ⟨q, hq, (show M9 36 j = M 36 j from (Eq.trans (k10 36 j (by unfold WCH; omega)) (Eq.trans (congrFun (x_up_n _ _ _ (by omega)) _) rfl))).trans eq⟩)⟩, (Or.inr (Or.inl ⟨5, by decide, by decide, rfl, rfl, Or.inr ⟨(show okW 5 0 (S 2) v from (by rw [← e_bt]; exact c1)), (e_ph.trans (gK_s (D := D) (S := S) (a := 5) (by decide)).symm), Or.inr ⟨c2, ⟨(Eq.trans (k10 13 2 (by decide)) (Eq.trans (x_up_k _ _ _ (by decide)) e_cn)), (AbC_k (AbC_n hA (by omega)) (fun i hi j => k10 (15 + i) j (by unfold WCH; omega))), (LCt_k (Eq.trans (k10 1 4 (by unfold WCH; omega)) (Eq.trans (congrFun (x_up_n _ _ _ (by omega)) _) rfl)) (fun kl => (Eq.trans (k10 2 kl (by unfold WCH; omega)) (Eq.trans (congrFun (x_up_n _ _ _ (by omega)) _) rfl))) (fun kl => (Eq.trans (k10 3 kl (by unfold WCH; omega)) (Eq.trans (congrFun (x_up_n _ _ _ (by omega)) _) rfl))) hL), (Eq.trans (k10 13 3 (by decide)) (Eq.trans (x_up_k _ _ _ (by decide)) e_nw)), (Eq.trans (k10 13 4 (by decide)) (Eq.trans (x_up_k _ _ _ (by decide)) e_rub)), (Eq.trans (k10 13 5 (by decide)) (Eq.trans (x_up_k _ _ _ (by decide)) e_bt)), (Eq.trans (k10 13 6 (by decide)) (x_up_s _ _ _ _)), (Eq.trans (k10 13 7 (by decide)) (Eq.trans (x_up_k _ _ _ (by decide)) e_st)), (Eq.trans (k10 35 5 (by decide)) (Eq.trans (congrFun (x_up_n _ _ _ (by decide)) _) e_kn)), (Eq.trans (k10 13 8 (by decide)) (Eq.trans (x_up_k _ _ _ (by decide)) e_pu)), (Eq.trans (k10 13 9 (by decide)) (Eq.trans (x_up_k _ _ _ (by decide)) e_lf))⟩, (CLg_nt (CLg_k hLg0 ((Eq.trans (congrFun (x_up_n _ _ _ (by omega)) _) rfl)) ((Eq.trans (congrFun (x_up_n _ _ _ (by omega)) _) rfl)) (fun kl => (Eq.trans (congrFun (x_up_n _ _ _ (by omega)) _) rfl)) (fun kl => (Eq.trans (congrFun (x_up_n _ _ _ (by omega)) _) rfl)) (fun kl => (Eq.trans (congrFun (x_up_n _ _ _ (by omega)) _) rfl)) (fun kl => (Eq.trans (congrFun (x_up_n _ _ _ (by omega)) _) rfl))) (by omega) (by omega) n5 n6 n7 n8 n3 n4 rfl rfl)⟩⟩⟩))⟩⟩)
  · refine xr_ldc coX9_105 dX9_mend_10 ?_
    exact xr_iret dX9_mend_12 rfl rfl (⟨_, rfl, rfl, rfl, Ke.rf, ⟨⟨⟨nh, by omega, e_cn⟩, ⟨cm, by omega, e_cm⟩, ⟨L, by omega, e_L⟩, (fun kk hkk => by rw [show M 3 kk = M 3 kk from rfl]; exact hv kk hkk), hD, ⟨n, by omega, e_n⟩, ⟨lu, lw, by omega, by omega, e_un, e_wn⟩, ⟨b, by omega, e_b⟩, (fun j hj => by obtain ⟨q, hq, eq⟩ := hkd j hj; exact ⟨q, hq, (show M 47 j = M 47 j from rfl).trans eq⟩), ⟨ra, by omega, e_ra⟩, (fun j hj => by obtain ⟨s, hs, es⟩ := hsl j hj; exact ⟨s, hs, (show M (50 + 2 * j) 3 = M (50 + 2 * j) 3 from rfl).trans es⟩), (fun j hj => by obtain ⟨q, hq, eq⟩ := hS j hj; exact ⟨q, hq, (show M 36 j = M 36 j from rfl).trans eq⟩)⟩, (Or.inr (Or.inl ⟨5, by decide, by decide, rfl, rfl, Or.inl ⟨(show ¬ okW 5 0 (S 2) v from (by rw [← e_bt]; exact c1)), rfl, hG0, hLg0⟩⟩))⟩⟩)
set_option maxRecDepth 100000 in
set_option maxHeartbeats 4000000 in
theorem gxm6_X9_mend {nh : Nat} {D : xM} {t : Option zL} {S : Nat → Int32} {lg : xL} {lu lw : Nat} (v : Int32) {l : Launch} {G : xG} {M : xM} {J : xJ} (hI : InvC M) (hWG : WG nh D S) (hG : CG M nh D t S) (hWL : WLg nh lg lu lw) (hLg : CLg M lg lu lw) : x_M l G fX9_mend 4 0 0 [.ref (0), .int (0), .int (6), .int (v)] x_SH M J (qKI WMD M J (fun r M2 => InvC M2 ∧ (EMn CG CLg nh D t S lg lu lw M2 (0) (6) v r))) := by
  refine xb_of pX9 (Nat.le_of_ble_eq_true rfl) rfl ?_
  obtain ⟨⟨cn, h_cn, e_cn⟩, ⟨cm, h_cm, e_cm⟩, ⟨L, h_L, e_L⟩, hv, hD, ⟨n, h_n, e_n⟩, ⟨un, wn, h_uw, h_wn, e_un, e_wn⟩, ⟨b, h_b, e_b⟩, hkd, ⟨ra, h_ra, e_ra⟩, hsl, hS⟩ := hI
  obtain ⟨huw, hw40, hWk⟩ := hWL
  have hG0 := hG
  have hLg0 := hLg
  obtain ⟨hn5, hW, hrub, hbeat⟩ := hWG
  obtain ⟨hGn, hA, hL, e_nw, e_rub, e_bt, e_ph, e_st, e_kn, e_pu, e_lf⟩ := hG
  obtain rfl : nh = cn := (nI_eq (by omega) (by omega)).mp (hGn.symm.trans e_cn)
  have hbt : ¬ S 2 = 0 := ne2_0 hbeat.1
  obtain ⟨hl4, hl5, hLk⟩ := hLg
  obtain rfl : lu = un := (nI_eq (by omega) (by omega)).mp (hl4.symm.trans e_un)
  obtain rfl : lw = wn := (nI_eq (by omega) (by omega)).mp (hl5.symm.trans e_wn)
  refine xr_aload_n dX9_mend_0 0 rfl ?_
  refine xr_iload_n dX9_mend_1 1 rfl ?_
  refine xr_iload_n dX9_mend_2 2 rfl ?_
  refine xr_iload_n dX9_mend_3 3 rfl ?_
  refine xb_cV (As := [.int (0), .int (6), .int (v)]) (rest := []) mlX9_101 (cw_X9_cb_6 v h_cn e_cn) dX9_mend_4 s_0 rfl rfl (Nat.le_of_ble_eq_true rfl) (by decide) (by decide) ?_
  refine xb_bne (tgt := 13) dX9_mend_7 rfl (fun c1 => ?_) (fun c1 => ?_)
  · refine xr_aload_n dX9_mend_13 0 rfl ?_
    refine xr_iload_n dX9_mend_14 1 rfl ?_
    refine xr_iload_n dX9_mend_15 2 rfl ?_
    refine xb_cV (As := [.int (0), .int (6)]) (rest := []) mlX9_106 (cw_X9_vo_6) dX9_mend_16 s_0 rfl rfl (Nat.le_of_ble_eq_true rfl) (by decide) (by decide) ?_
    refine xr_istore (ls2 := [(4, .int ((M 13 7))), (0, .ref (0)), (1, .int (0)), (2, .int (6)), (3, .int (v))]) dX9_mend_19 (by decide) rfl ?_
    refine xr_iload dX9_mend_21 0 rfl ?_
    refine xr_iload_n dX9_mend_23 4 rfl ?_
    refine xr_icmp_eq (tgt := 46) dX9_mend_24 rfl (fun c2 => ?_) (fun c2 => ?_)
    · refine xr_iload dX9_mend_46 0 rfl ?_
      exact xr_iret dX9_mend_48 rfl rfl (⟨_, rfl, rfl, rfl, Ke.rf, ⟨⟨⟨nh, by omega, e_cn⟩, ⟨cm, by omega, e_cm⟩, ⟨L, by omega, e_L⟩, (fun kk hkk => by rw [show M 3 kk = M 3 kk from rfl]; exact hv kk hkk), hD, ⟨n, by omega, e_n⟩, ⟨lu, lw, by omega, by omega, e_un, e_wn⟩, ⟨b, by omega, e_b⟩, (fun j hj => by obtain ⟨q, hq, eq⟩ := hkd j hj; exact ⟨q, hq, (show M 47 j = M 47 j from rfl).trans eq⟩), ⟨ra, by omega, e_ra⟩, (fun j hj => by obtain ⟨s, hs, es⟩ := hsl j hj; exact ⟨s, hs, (show M (50 + 2 * j) 3 = M (50 + 2 * j) 3 from rfl).trans es⟩), (fun j hj => by obtain ⟨q, hq, eq⟩ := hS j hj; exact ⟨q, hq, (show M 36 j = M 36 j from rfl).trans eq⟩)⟩, (Or.inr (Or.inl ⟨6, by decide, by decide, rfl, rfl, Or.inr ⟨(show okW 6 0 (S 2) v from c1), (e_st.trans (gK_s (D := D) (S := S) (a := 6) (by decide)).symm), Or.inl ⟨c2, hG0, hLg0⟩⟩⟩))⟩⟩)
    · refine xr_aload_n dX9_mend_27 1 rfl ?_
      refine xr_iload_n dX9_mend_28 2 rfl ?_
      refine xr_iload_n dX9_mend_29 3 rfl ?_
      refine xr_iload_n dX9_mend_30 4 rfl ?_
      refine xb_cV (As := [.int (0), .int (6), .int (v)]) (rest := []) mlX9_110 (cw_X9_lay_6 v) dX9_mend_31 s_0 rfl rfl (Nat.le_of_ble_eq_true rfl) (by decide) (by decide) ?_
      refine xr_aload_n dX9_mend_34 1 rfl ?_
      refine xr_getR flX9_54 dX9_mend_35 s_0 rfl ?_
      refine xr_iload_n dX9_mend_38 2 rfl ?_
      refine xr_iload_n dX9_mend_39 3 rfl ?_
      refine xr_iload dX9_mend_40 0 rfl ?_
      refine xr_iload_n dX9_mend_42 4 rfl ?_
      refine xr_callV (As := [.int (0), .int (6), .int ((M 13 7)), .int (v)]) (rest := []) mlX9_114 (gw_X0_note 0 6 (M 13 7) v (un := lu) (by omega) (Eq.trans (congrFun (x_up_n _ _ _ (by decide)) _) e_un)) dX9_mend_43 s_41 rfl rfl (Nat.le_of_ble_eq_true rfl) (by decide) ⟨by decide, by decide⟩ (fun v s2 M9 J2 hq => ?_)
      obtain ⟨rfl, rfl, rfl, k10, ⟨n3, n4, n5, n6, n7, n8⟩⟩ := hq
      try dsimp only [Option.toList, List.cons_append, List.nil_append]
      have hnt := ntU_b (u := lu) (by omega)
      refine xr_iload dX9_mend_46 0 rfl ?_
      exact xr_iret dX9_mend_48 rfl rfl (⟨_, rfl, rfl, rfl, (Ke.tr (fun pp kk => (fun hh => Or.elim hh (fun h => (Or.inr (Or.inr (Or.inr (Or.inr (Or.inr (Or.inr (Or.inl h)))))))) (fun hh => Or.elim hh (fun h => (Or.inr (Or.inr (Or.inr (Or.inr (Or.inr (Or.inr (Or.inr (Or.inl h))))))))) (fun h => (Or.inr (Or.inr (Or.inr (Or.inr (Or.inr (Or.inr (Or.inr (Or.inr h)))))))))))) (Ke.up (Or.inr (Or.inr (Or.inr (Or.inl (by omega))))) Ke.rf) k10), ⟨⟨⟨nh, by omega, (Eq.trans (k10 13 2 (by decide)) (Eq.trans (x_up_k _ _ _ (by decide)) e_cn))⟩, ⟨cm, by omega, (Eq.trans (k10 20 2 (by decide)) (Eq.trans (congrFun (x_up_n _ _ _ (by decide)) _) e_cm))⟩, ⟨L, by omega, (Eq.trans (k10 1 4 (by decide)) (Eq.trans (congrFun (x_up_n _ _ _ (by decide)) _) e_L))⟩, (fun kk hkk => by rw [show M9 3 kk = M 3 kk from (Eq.trans (k10 3 kk (by unfold WCH; omega)) (Eq.trans (congrFun (x_up_n _ _ _ (by omega)) _) rfl))]; exact hv kk hkk), (DI_ke (by intro k; unfold WCH; omega) k10 (DI_up (by decide) hD)), ⟨n, by omega, (Eq.trans (k10 6 2 (by decide)) (Eq.trans (congrFun (x_up_n _ _ _ (by decide)) _) e_n))⟩, ⟨ntU lu, ntU lu, by omega, by omega, n3, n4⟩, ⟨b, by omega, (Eq.trans (k10 46 2 (by decide)) (Eq.trans (congrFun (x_up_n _ _ _ (by decide)) _) e_b))⟩, (fun j hj => by obtain ⟨q, hq, eq⟩ := hkd j hj; exact ⟨q, hq, (show M9 47 j = M 47 j from (Eq.trans (k10 47 j (by unfold WCH; omega)) (Eq.trans (congrFun (x_up_n _ _ _ (by omega)) _) rfl))).trans eq⟩), ⟨ra, by omega, (Eq.trans (k10 46 3 (by decide)) (Eq.trans (congrFun (x_up_n _ _ _ (by decide)) _) e_ra))⟩, (fun j hj => by obtain ⟨s, hs, es⟩ := hsl j hj; exact ⟨s, hs, (show M9 (50 + 2 * j) 3 = M (50 + 2 * j) 3 from (Eq.trans (k10 (50 + 2 * j) 3 (by unfold WCH; omega)) (Eq.trans (congrFun (x_up_n _ _ _ (by omega)) _) rfl))).trans es⟩), (fun j hj => by obtain ⟨q, hq, eq⟩ := hS j hj; exact ⟨q, hq, (show M9 36 j = M 36 j from (Eq.trans (k10 36 j (by unfold WCH; omega)) (Eq.trans (congrFun (x_up_n _ _ _ (by omega)) _) rfl))).trans eq⟩)⟩, (Or.inr (Or.inl ⟨6, by decide, by decide, rfl, rfl, Or.inr ⟨(show okW 6 0 (S 2) v from c1), (e_st.trans (gK_s (D := D) (S := S) (a := 6) (by decide)).symm), Or.inr ⟨c2, ⟨(Eq.trans (k10 13 2 (by decide)) (Eq.trans (x_up_k _ _ _ (by decide)) e_cn)), (AbC_k (AbC_n hA (by omega)) (fun i hi j => k10 (15 + i) j (by unfold WCH; omega))), (LCt_k (Eq.trans (k10 1 4 (by unfold WCH; omega)) (Eq.trans (congrFun (x_up_n _ _ _ (by omega)) _) rfl)) (fun kl => (Eq.trans (k10 2 kl (by unfold WCH; omega)) (Eq.trans (congrFun (x_up_n _ _ _ (by omega)) _) rfl))) (fun kl => (Eq.trans (k10 3 kl (by unfold WCH; omega)) (Eq.trans (congrFun (x_up_n _ _ _ (by omega)) _) rfl))) hL), (Eq.trans (k10 13 3 (by decide)) (Eq.trans (x_up_k _ _ _ (by decide)) e_nw)), (Eq.trans (k10 13 4 (by decide)) (Eq.trans (x_up_k _ _ _ (by decide)) e_rub)), (Eq.trans (k10 13 5 (by decide)) (Eq.trans (x_up_k _ _ _ (by decide)) e_bt)), (Eq.trans (k10 13 6 (by decide)) (Eq.trans (x_up_k _ _ _ (by decide)) e_ph)), (Eq.trans (k10 13 7 (by decide)) (x_up_s _ _ _ _)), (Eq.trans (k10 35 5 (by decide)) (Eq.trans (congrFun (x_up_n _ _ _ (by decide)) _) e_kn)), (Eq.trans (k10 13 8 (by decide)) (Eq.trans (x_up_k _ _ _ (by decide)) e_pu)), (Eq.trans (k10 13 9 (by decide)) (Eq.trans (x_up_k _ _ _ (by decide)) e_lf))⟩, (CLg_nt (CLg_k hLg0 ((Eq.trans (congrFun (x_up_n _ _ _ (by omega)) _) rfl)) ((Eq.trans (congrFun (x_up_n _ _ _ (by omega)) _) rfl)) (fun kl => (Eq.trans (congrFun (x_up_n _ _ _ (by omega)) _) rfl)) (fun kl => (Eq.trans (congrFun (x_up_n _ _ _ (by omega)) _) rfl)) (fun kl => (Eq.trans (congrFun (x_up_n _ _ _ (by omega)) _) rfl)) (fun kl => (Eq.trans (congrFun (x_up_n _ _ _ (by omega)) _) rfl))) (by omega) (by omega) n5 n6 n7 n8 n3 n4 rfl rfl)⟩⟩⟩))⟩⟩)
  · refine xr_ldc coX9_105 dX9_mend_10 ?_
    exact xr_iret dX9_mend_12 rfl rfl (⟨_, rfl, rfl, rfl, Ke.rf, ⟨⟨⟨nh, by omega, e_cn⟩, ⟨cm, by omega, e_cm⟩, ⟨L, by omega, e_L⟩, (fun kk hkk => by rw [show M 3 kk = M 3 kk from rfl]; exact hv kk hkk), hD, ⟨n, by omega, e_n⟩, ⟨lu, lw, by omega, by omega, e_un, e_wn⟩, ⟨b, by omega, e_b⟩, (fun j hj => by obtain ⟨q, hq, eq⟩ := hkd j hj; exact ⟨q, hq, (show M 47 j = M 47 j from rfl).trans eq⟩), ⟨ra, by omega, e_ra⟩, (fun j hj => by obtain ⟨s, hs, es⟩ := hsl j hj; exact ⟨s, hs, (show M (50 + 2 * j) 3 = M (50 + 2 * j) 3 from rfl).trans es⟩), (fun j hj => by obtain ⟨q, hq, eq⟩ := hS j hj; exact ⟨q, hq, (show M 36 j = M 36 j from rfl).trans eq⟩)⟩, (Or.inr (Or.inl ⟨6, by decide, by decide, rfl, rfl, Or.inl ⟨(show ¬ okW 6 0 (S 2) v from c1), rfl, hG0, hLg0⟩⟩))⟩⟩)
set_option maxRecDepth 100000 in
set_option maxHeartbeats 4000000 in
theorem gxm7_X9_mend {nh : Nat} {D : xM} {t : Option zL} {S : Nat → Int32} {lg : xL} {lu lw : Nat} (v : Int32) {l : Launch} {G : xG} {M : xM} {J : xJ} (hI : InvC M) (hWG : WG nh D S) (hG : CG M nh D t S) (hWL : WLg nh lg lu lw) (hLg : CLg M lg lu lw) : x_M l G fX9_mend 4 0 0 [.ref (0), .int (0), .int (7), .int (v)] x_SH M J (qKI WMD M J (fun r M2 => InvC M2 ∧ (EMn CG CLg nh D t S lg lu lw M2 (0) (7) v r))) := by
  refine xb_of pX9 (Nat.le_of_ble_eq_true rfl) rfl ?_
  obtain ⟨⟨cn, h_cn, e_cn⟩, ⟨cm, h_cm, e_cm⟩, ⟨L, h_L, e_L⟩, hv, hD, ⟨n, h_n, e_n⟩, ⟨un, wn, h_uw, h_wn, e_un, e_wn⟩, ⟨b, h_b, e_b⟩, hkd, ⟨ra, h_ra, e_ra⟩, hsl, hS⟩ := hI
  obtain ⟨huw, hw40, hWk⟩ := hWL
  have hG0 := hG
  have hLg0 := hLg
  obtain ⟨hn5, hW, hrub, hbeat⟩ := hWG
  obtain ⟨hGn, hA, hL, e_nw, e_rub, e_bt, e_ph, e_st, e_kn, e_pu, e_lf⟩ := hG
  obtain rfl : nh = cn := (nI_eq (by omega) (by omega)).mp (hGn.symm.trans e_cn)
  have hbt : ¬ S 2 = 0 := ne2_0 hbeat.1
  obtain ⟨hl4, hl5, hLk⟩ := hLg
  obtain rfl : lu = un := (nI_eq (by omega) (by omega)).mp (hl4.symm.trans e_un)
  obtain rfl : lw = wn := (nI_eq (by omega) (by omega)).mp (hl5.symm.trans e_wn)
  refine xr_aload_n dX9_mend_0 0 rfl ?_
  refine xr_iload_n dX9_mend_1 1 rfl ?_
  refine xr_iload_n dX9_mend_2 2 rfl ?_
  refine xr_iload_n dX9_mend_3 3 rfl ?_
  refine xb_cV (As := [.int (0), .int (7), .int (v)]) (rest := []) mlX9_101 (cw_X9_cb_7 v h_cn e_cn) dX9_mend_4 s_0 rfl rfl (Nat.le_of_ble_eq_true rfl) (by decide) (by decide) ?_
  refine xb_bne (tgt := 13) dX9_mend_7 rfl (fun c1 => ?_) (fun c1 => ?_)
  · refine xr_aload_n dX9_mend_13 0 rfl ?_
    refine xr_iload_n dX9_mend_14 1 rfl ?_
    refine xr_iload_n dX9_mend_15 2 rfl ?_
    refine xb_cV (As := [.int (0), .int (7)]) (rest := []) mlX9_106 (cw_X9_vo_7) dX9_mend_16 s_0 rfl rfl (Nat.le_of_ble_eq_true rfl) (by decide) (by decide) ?_
    refine xr_istore (ls2 := [(4, .int ((M 35 5))), (0, .ref (0)), (1, .int (0)), (2, .int (7)), (3, .int (v))]) dX9_mend_19 (by decide) rfl ?_
    refine xr_iload dX9_mend_21 0 rfl ?_
    refine xr_iload_n dX9_mend_23 4 rfl ?_
    refine xr_icmp_eq (tgt := 46) dX9_mend_24 rfl (fun c2 => ?_) (fun c2 => ?_)
    · refine xr_iload dX9_mend_46 0 rfl ?_
      exact xr_iret dX9_mend_48 rfl rfl (⟨_, rfl, rfl, rfl, Ke.rf, ⟨⟨⟨nh, by omega, e_cn⟩, ⟨cm, by omega, e_cm⟩, ⟨L, by omega, e_L⟩, (fun kk hkk => by rw [show M 3 kk = M 3 kk from rfl]; exact hv kk hkk), hD, ⟨n, by omega, e_n⟩, ⟨lu, lw, by omega, by omega, e_un, e_wn⟩, ⟨b, by omega, e_b⟩, (fun j hj => by obtain ⟨q, hq, eq⟩ := hkd j hj; exact ⟨q, hq, (show M 47 j = M 47 j from rfl).trans eq⟩), ⟨ra, by omega, e_ra⟩, (fun j hj => by obtain ⟨s, hs, es⟩ := hsl j hj; exact ⟨s, hs, (show M (50 + 2 * j) 3 = M (50 + 2 * j) 3 from rfl).trans es⟩), (fun j hj => by obtain ⟨q, hq, eq⟩ := hS j hj; exact ⟨q, hq, (show M 36 j = M 36 j from rfl).trans eq⟩)⟩, (Or.inr (Or.inl ⟨7, by decide, by decide, rfl, rfl, Or.inr ⟨(show okW 7 0 (S 2) v from c1), (e_kn.trans (gK_s (D := D) (S := S) (a := 7) (by decide)).symm), Or.inl ⟨c2, hG0, hLg0⟩⟩⟩))⟩⟩)
    · refine xr_aload_n dX9_mend_27 1 rfl ?_
      refine xr_iload_n dX9_mend_28 2 rfl ?_
      refine xr_iload_n dX9_mend_29 3 rfl ?_
      refine xr_iload_n dX9_mend_30 4 rfl ?_
      refine xb_cV (As := [.int (0), .int (7), .int (v)]) (rest := []) mlX9_110 (cw_X9_lay_7 v) dX9_mend_31 s_0 rfl rfl (Nat.le_of_ble_eq_true rfl) (by decide) (by decide) ?_
      refine xr_aload_n dX9_mend_34 1 rfl ?_
      refine xr_getR flX9_54 dX9_mend_35 s_0 rfl ?_
      refine xr_iload_n dX9_mend_38 2 rfl ?_
      refine xr_iload_n dX9_mend_39 3 rfl ?_
      refine xr_iload dX9_mend_40 0 rfl ?_
      refine xr_iload_n dX9_mend_42 4 rfl ?_
      refine xr_callV (As := [.int (0), .int (7), .int ((M 35 5)), .int (v)]) (rest := []) mlX9_114 (gw_X0_note 0 7 (M 35 5) v (un := lu) (by omega) (Eq.trans (congrFun (x_up_n _ _ _ (by decide)) _) e_un)) dX9_mend_43 s_41 rfl rfl (Nat.le_of_ble_eq_true rfl) (by decide) ⟨by decide, by decide⟩ (fun v s2 M9 J2 hq => ?_)
      obtain ⟨rfl, rfl, rfl, k10, ⟨n3, n4, n5, n6, n7, n8⟩⟩ := hq
      try dsimp only [Option.toList, List.cons_append, List.nil_append]
      have hnt := ntU_b (u := lu) (by omega)
      refine xr_iload dX9_mend_46 0 rfl ?_
      exact xr_iret dX9_mend_48 rfl rfl (⟨_, rfl, rfl, rfl, (Ke.tr (fun pp kk => (fun hh => Or.elim hh (fun h => (Or.inr (Or.inr (Or.inr (Or.inr (Or.inr (Or.inr (Or.inl h)))))))) (fun hh => Or.elim hh (fun h => (Or.inr (Or.inr (Or.inr (Or.inr (Or.inr (Or.inr (Or.inr (Or.inl h))))))))) (fun h => (Or.inr (Or.inr (Or.inr (Or.inr (Or.inr (Or.inr (Or.inr (Or.inr h)))))))))))) (Ke.up (Or.inr (Or.inr (Or.inr (Or.inr (Or.inl (by omega)))))) Ke.rf) k10), ⟨⟨⟨nh, by omega, (Eq.trans (k10 13 2 (by decide)) (Eq.trans (congrFun (x_up_n _ _ _ (by decide)) _) e_cn))⟩, ⟨cm, by omega, (Eq.trans (k10 20 2 (by decide)) (Eq.trans (congrFun (x_up_n _ _ _ (by decide)) _) e_cm))⟩, ⟨L, by omega, (Eq.trans (k10 1 4 (by decide)) (Eq.trans (congrFun (x_up_n _ _ _ (by decide)) _) e_L))⟩, (fun kk hkk => by rw [show M9 3 kk = M 3 kk from (Eq.trans (k10 3 kk (by unfold WCH; omega)) (Eq.trans (congrFun (x_up_n _ _ _ (by omega)) _) rfl))]; exact hv kk hkk), (DI_ke (by intro k; unfold WCH; omega) k10 (DI_up (by decide) hD)), ⟨n, by omega, (Eq.trans (k10 6 2 (by decide)) (Eq.trans (congrFun (x_up_n _ _ _ (by decide)) _) e_n))⟩, ⟨ntU lu, ntU lu, by omega, by omega, n3, n4⟩, ⟨b, by omega, (Eq.trans (k10 46 2 (by decide)) (Eq.trans (congrFun (x_up_n _ _ _ (by decide)) _) e_b))⟩, (fun j hj => by obtain ⟨q, hq, eq⟩ := hkd j hj; exact ⟨q, hq, (show M9 47 j = M 47 j from (Eq.trans (k10 47 j (by unfold WCH; omega)) (Eq.trans (congrFun (x_up_n _ _ _ (by omega)) _) rfl))).trans eq⟩), ⟨ra, by omega, (Eq.trans (k10 46 3 (by decide)) (Eq.trans (congrFun (x_up_n _ _ _ (by decide)) _) e_ra))⟩, (fun j hj => by obtain ⟨s, hs, es⟩ := hsl j hj; exact ⟨s, hs, (show M9 (50 + 2 * j) 3 = M (50 + 2 * j) 3 from (Eq.trans (k10 (50 + 2 * j) 3 (by unfold WCH; omega)) (Eq.trans (congrFun (x_up_n _ _ _ (by omega)) _) rfl))).trans es⟩), (fun j hj => by obtain ⟨q, hq, eq⟩ := hS j hj; exact ⟨q, hq, (show M9 36 j = M 36 j from (Eq.trans (k10 36 j (by unfold WCH; omega)) (Eq.trans (congrFun (x_up_n _ _ _ (by omega)) _) rfl))).trans eq⟩)⟩, (Or.inr (Or.inl ⟨7, by decide, by decide, rfl, rfl, Or.inr ⟨(show okW 7 0 (S 2) v from c1), (e_kn.trans (gK_s (D := D) (S := S) (a := 7) (by decide)).symm), Or.inr ⟨c2, ⟨(Eq.trans (k10 13 2 (by decide)) (Eq.trans (congrFun (x_up_n _ _ _ (by decide)) _) e_cn)), (AbC_k (AbC_n hA (by omega)) (fun i hi j => k10 (15 + i) j (by unfold WCH; omega))), (LCt_k (Eq.trans (k10 1 4 (by unfold WCH; omega)) (Eq.trans (congrFun (x_up_n _ _ _ (by omega)) _) rfl)) (fun kl => (Eq.trans (k10 2 kl (by unfold WCH; omega)) (Eq.trans (congrFun (x_up_n _ _ _ (by omega)) _) rfl))) (fun kl => (Eq.trans (k10 3 kl (by unfold WCH; omega)) (Eq.trans (congrFun (x_up_n _ _ _ (by omega)) _) rfl))) hL), (Eq.trans (k10 13 3 (by decide)) (Eq.trans (congrFun (x_up_n _ _ _ (by decide)) _) e_nw)), (Eq.trans (k10 13 4 (by decide)) (Eq.trans (congrFun (x_up_n _ _ _ (by decide)) _) e_rub)), (Eq.trans (k10 13 5 (by decide)) (Eq.trans (congrFun (x_up_n _ _ _ (by decide)) _) e_bt)), (Eq.trans (k10 13 6 (by decide)) (Eq.trans (congrFun (x_up_n _ _ _ (by decide)) _) e_ph)), (Eq.trans (k10 13 7 (by decide)) (Eq.trans (congrFun (x_up_n _ _ _ (by decide)) _) e_st)), (Eq.trans (k10 35 5 (by decide)) (x_up_s _ _ _ _)), (Eq.trans (k10 13 8 (by decide)) (Eq.trans (congrFun (x_up_n _ _ _ (by decide)) _) e_pu)), (Eq.trans (k10 13 9 (by decide)) (Eq.trans (congrFun (x_up_n _ _ _ (by decide)) _) e_lf))⟩, (CLg_nt (CLg_k hLg0 ((Eq.trans (congrFun (x_up_n _ _ _ (by omega)) _) rfl)) ((Eq.trans (congrFun (x_up_n _ _ _ (by omega)) _) rfl)) (fun kl => (Eq.trans (congrFun (x_up_n _ _ _ (by omega)) _) rfl)) (fun kl => (Eq.trans (congrFun (x_up_n _ _ _ (by omega)) _) rfl)) (fun kl => (Eq.trans (congrFun (x_up_n _ _ _ (by omega)) _) rfl)) (fun kl => (Eq.trans (congrFun (x_up_n _ _ _ (by omega)) _) rfl))) (by omega) (by omega) n5 n6 n7 n8 n3 n4 rfl rfl)⟩⟩⟩))⟩⟩)
  · refine xr_ldc coX9_105 dX9_mend_10 ?_
    exact xr_iret dX9_mend_12 rfl rfl (⟨_, rfl, rfl, rfl, Ke.rf, ⟨⟨⟨nh, by omega, e_cn⟩, ⟨cm, by omega, e_cm⟩, ⟨L, by omega, e_L⟩, (fun kk hkk => by rw [show M 3 kk = M 3 kk from rfl]; exact hv kk hkk), hD, ⟨n, by omega, e_n⟩, ⟨lu, lw, by omega, by omega, e_un, e_wn⟩, ⟨b, by omega, e_b⟩, (fun j hj => by obtain ⟨q, hq, eq⟩ := hkd j hj; exact ⟨q, hq, (show M 47 j = M 47 j from rfl).trans eq⟩), ⟨ra, by omega, e_ra⟩, (fun j hj => by obtain ⟨s, hs, es⟩ := hsl j hj; exact ⟨s, hs, (show M (50 + 2 * j) 3 = M (50 + 2 * j) 3 from rfl).trans es⟩), (fun j hj => by obtain ⟨q, hq, eq⟩ := hS j hj; exact ⟨q, hq, (show M 36 j = M 36 j from rfl).trans eq⟩)⟩, (Or.inr (Or.inl ⟨7, by decide, by decide, rfl, rfl, Or.inl ⟨(show ¬ okW 7 0 (S 2) v from c1), rfl, hG0, hLg0⟩⟩))⟩⟩)
set_option maxRecDepth 100000 in
set_option maxHeartbeats 4000000 in
theorem gxma_X9_mend {nh : Nat} {D : xM} {t : Option zL} {S : Nat → Int32} {lg : xL} {lu lw : Nat} (nu w v : Int32) {l : Launch} {G : xG} {M : xM} {J : xJ} (hI : InvC M) (hWG : WG nh D S) (hG : CG M nh D t S) (hWL : WLg nh lg lu lw) (hLg : CLg M lg lu lw) (hw : 0 ≤ w ∧ w ≤ 2) (hb : ¬ (0 ≤ nu ∧ nu < nI nh)) : x_M l G fX9_mend 4 0 0 [.ref (0), .int (nu), .int (w), .int (v)] x_SH M J (qKI WMD M J (fun r M2 => InvC M2 ∧ (EMn CG CLg nh D t S lg lu lw M2 (nu) (w) v r))) := by
  refine xb_of pX9 (Nat.le_of_ble_eq_true rfl) rfl ?_
  obtain ⟨⟨cn, h_cn, e_cn⟩, ⟨cm, h_cm, e_cm⟩, ⟨L, h_L, e_L⟩, hv, hD, ⟨n, h_n, e_n⟩, ⟨un, wn, h_uw, h_wn, e_un, e_wn⟩, ⟨b, h_b, e_b⟩, hkd, ⟨ra, h_ra, e_ra⟩, hsl, hS⟩ := hI
  obtain ⟨huw, hw40, hWk⟩ := hWL
  have hG0 := hG
  have hLg0 := hLg
  obtain ⟨hn5, hW, hrub, hbeat⟩ := hWG
  obtain ⟨hGn, hA, hL, e_nw, e_rub, e_bt, e_ph, e_st, e_kn, e_pu, e_lf⟩ := hG
  obtain rfl : nh = cn := (nI_eq (by omega) (by omega)).mp (hGn.symm.trans e_cn)
  have hbt : ¬ S 2 = 0 := ne2_0 hbeat.1
  obtain ⟨hl4, hl5, hLk⟩ := hLg
  obtain rfl : lu = un := (nI_eq (by omega) (by omega)).mp (hl4.symm.trans e_un)
  obtain rfl : lw = wn := (nI_eq (by omega) (by omega)).mp (hl5.symm.trans e_wn)
  refine xr_aload_n dX9_mend_0 0 rfl ?_
  refine xr_iload_n dX9_mend_1 1 rfl ?_
  refine xr_iload_n dX9_mend_2 2 rfl ?_
  refine xr_iload_n dX9_mend_3 3 rfl ?_
  refine xb_cV (As := [.int (nu), .int (w), .int (v)]) (rest := []) mlX9_101 (cw_X9_cb_a nu w v h_cn e_cn hw hb) dX9_mend_4 s_0 rfl rfl (Nat.le_of_ble_eq_true rfl) (by decide) (by decide) ?_
  refine xr_if_ne (tgt := 13) dX9_mend_7 rfl (fun c => absurd (by decide) c) (fun _ => ?_)
  refine xr_ldc coX9_105 dX9_mend_10 ?_
  exact xr_iret dX9_mend_12 rfl rfl (⟨_, rfl, rfl, rfl, Ke.rf, ⟨⟨⟨nh, by omega, e_cn⟩, ⟨cm, by omega, e_cm⟩, ⟨L, by omega, e_L⟩, (fun kk hkk => by rw [show M 3 kk = M 3 kk from rfl]; exact hv kk hkk), hD, ⟨n, by omega, e_n⟩, ⟨lu, lw, by omega, by omega, e_un, e_wn⟩, ⟨b, by omega, e_b⟩, (fun j hj => by obtain ⟨q, hq, eq⟩ := hkd j hj; exact ⟨q, hq, (show M 47 j = M 47 j from rfl).trans eq⟩), ⟨ra, by omega, e_ra⟩, (fun j hj => by obtain ⟨s, hs, es⟩ := hsl j hj; exact ⟨s, hs, (show M (50 + 2 * j) 3 = M (50 + 2 * j) 3 from rfl).trans es⟩), (fun j hj => by obtain ⟨q, hq, eq⟩ := hS j hj; exact ⟨q, hq, (show M 36 j = M 36 j from rfl).trans eq⟩)⟩, (Or.inr (Or.inr ⟨⟨fun z => hb z.2, fun z => absurd (Int32.le_trans z.2.1 hw.2) (by decide)⟩, rfl, hG0, hLg0⟩))⟩⟩)
set_option maxRecDepth 100000 in
set_option maxHeartbeats 4000000 in
theorem gxmb_X9_mend {nh : Nat} {D : xM} {t : Option zL} {S : Nat → Int32} {lg : xL} {lu lw : Nat} (nu w v : Int32) {l : Launch} {G : xG} {M : xM} {J : xJ} (hI : InvC M) (hWG : WG nh D S) (hG : CG M nh D t S) (hWL : WLg nh lg lu lw) (hLg : CLg M lg lu lw) (hw : ¬ (0 ≤ w ∧ w ≤ 2)) (hnu : ¬ nu = 0) : x_M l G fX9_mend 4 0 0 [.ref (0), .int (nu), .int (w), .int (v)] x_SH M J (qKI WMD M J (fun r M2 => InvC M2 ∧ (EMn CG CLg nh D t S lg lu lw M2 (nu) (w) v r))) := by
  refine xb_of pX9 (Nat.le_of_ble_eq_true rfl) rfl ?_
  obtain ⟨⟨cn, h_cn, e_cn⟩, ⟨cm, h_cm, e_cm⟩, ⟨L, h_L, e_L⟩, hv, hD, ⟨n, h_n, e_n⟩, ⟨un, wn, h_uw, h_wn, e_un, e_wn⟩, ⟨b, h_b, e_b⟩, hkd, ⟨ra, h_ra, e_ra⟩, hsl, hS⟩ := hI
  obtain ⟨huw, hw40, hWk⟩ := hWL
  have hG0 := hG
  have hLg0 := hLg
  obtain ⟨hn5, hW, hrub, hbeat⟩ := hWG
  obtain ⟨hGn, hA, hL, e_nw, e_rub, e_bt, e_ph, e_st, e_kn, e_pu, e_lf⟩ := hG
  obtain rfl : nh = cn := (nI_eq (by omega) (by omega)).mp (hGn.symm.trans e_cn)
  have hbt : ¬ S 2 = 0 := ne2_0 hbeat.1
  obtain ⟨hl4, hl5, hLk⟩ := hLg
  obtain rfl : lu = un := (nI_eq (by omega) (by omega)).mp (hl4.symm.trans e_un)
  obtain rfl : lw = wn := (nI_eq (by omega) (by omega)).mp (hl5.symm.trans e_wn)
  refine xr_aload_n dX9_mend_0 0 rfl ?_
  refine xr_iload_n dX9_mend_1 1 rfl ?_
  refine xr_iload_n dX9_mend_2 2 rfl ?_
  refine xr_iload_n dX9_mend_3 3 rfl ?_
  refine xb_cV (As := [.int (nu), .int (w), .int (v)]) (rest := []) mlX9_101 (cw_X9_cb_b nu w v h_cn e_cn hw hnu) dX9_mend_4 s_0 rfl rfl (Nat.le_of_ble_eq_true rfl) (by decide) (by decide) ?_
  refine xr_if_ne (tgt := 13) dX9_mend_7 rfl (fun c => absurd (by decide) c) (fun _ => ?_)
  refine xr_ldc coX9_105 dX9_mend_10 ?_
  exact xr_iret dX9_mend_12 rfl rfl (⟨_, rfl, rfl, rfl, Ke.rf, ⟨⟨⟨nh, by omega, e_cn⟩, ⟨cm, by omega, e_cm⟩, ⟨L, by omega, e_L⟩, (fun kk hkk => by rw [show M 3 kk = M 3 kk from rfl]; exact hv kk hkk), hD, ⟨n, by omega, e_n⟩, ⟨lu, lw, by omega, by omega, e_un, e_wn⟩, ⟨b, by omega, e_b⟩, (fun j hj => by obtain ⟨q, hq, eq⟩ := hkd j hj; exact ⟨q, hq, (show M 47 j = M 47 j from rfl).trans eq⟩), ⟨ra, by omega, e_ra⟩, (fun j hj => by obtain ⟨s, hs, es⟩ := hsl j hj; exact ⟨s, hs, (show M (50 + 2 * j) 3 = M (50 + 2 * j) 3 from rfl).trans es⟩), (fun j hj => by obtain ⟨q, hq, eq⟩ := hS j hj; exact ⟨q, hq, (show M 36 j = M 36 j from rfl).trans eq⟩)⟩, (Or.inr (Or.inr ⟨⟨fun z => hw z.1, fun z => hnu z.1⟩, rfl, hG0, hLg0⟩))⟩⟩)
set_option maxRecDepth 100000 in
set_option maxHeartbeats 4000000 in
theorem gxmc_X9_mend {nh : Nat} {D : xM} {t : Option zL} {S : Nat → Int32} {lg : xL} {lu lw : Nat} (w v : Int32) {l : Launch} {G : xG} {M : xM} {J : xJ} (hI : InvC M) (hWG : WG nh D S) (hG : CG M nh D t S) (hWL : WLg nh lg lu lw) (hLg : CLg M lg lu lw) (hw : ¬ (0 ≤ w ∧ w ≤ 2)) (hwo : ¬ (3 ≤ w ∧ w ≤ 7)) : x_M l G fX9_mend 4 0 0 [.ref (0), .int (0), .int (w), .int (v)] x_SH M J (qKI WMD M J (fun r M2 => InvC M2 ∧ (EMn CG CLg nh D t S lg lu lw M2 (0) (w) v r))) := by
  refine xb_of pX9 (Nat.le_of_ble_eq_true rfl) rfl ?_
  obtain ⟨⟨cn, h_cn, e_cn⟩, ⟨cm, h_cm, e_cm⟩, ⟨L, h_L, e_L⟩, hv, hD, ⟨n, h_n, e_n⟩, ⟨un, wn, h_uw, h_wn, e_un, e_wn⟩, ⟨b, h_b, e_b⟩, hkd, ⟨ra, h_ra, e_ra⟩, hsl, hS⟩ := hI
  obtain ⟨huw, hw40, hWk⟩ := hWL
  have hG0 := hG
  have hLg0 := hLg
  obtain ⟨hn5, hW, hrub, hbeat⟩ := hWG
  obtain ⟨hGn, hA, hL, e_nw, e_rub, e_bt, e_ph, e_st, e_kn, e_pu, e_lf⟩ := hG
  obtain rfl : nh = cn := (nI_eq (by omega) (by omega)).mp (hGn.symm.trans e_cn)
  have hbt : ¬ S 2 = 0 := ne2_0 hbeat.1
  obtain ⟨hl4, hl5, hLk⟩ := hLg
  obtain rfl : lu = un := (nI_eq (by omega) (by omega)).mp (hl4.symm.trans e_un)
  obtain rfl : lw = wn := (nI_eq (by omega) (by omega)).mp (hl5.symm.trans e_wn)
  refine xr_aload_n dX9_mend_0 0 rfl ?_
  refine xr_iload_n dX9_mend_1 1 rfl ?_
  refine xr_iload_n dX9_mend_2 2 rfl ?_
  refine xr_iload_n dX9_mend_3 3 rfl ?_
  refine xb_cV (As := [.int (0), .int (w), .int (v)]) (rest := []) mlX9_101 (cw_X9_cb_c w v h_cn e_cn hw hwo) dX9_mend_4 s_0 rfl rfl (Nat.le_of_ble_eq_true rfl) (by decide) (by decide) ?_
  refine xr_if_ne (tgt := 13) dX9_mend_7 rfl (fun c => absurd (by decide) c) (fun _ => ?_)
  refine xr_ldc coX9_105 dX9_mend_10 ?_
  exact xr_iret dX9_mend_12 rfl rfl (⟨_, rfl, rfl, rfl, Ke.rf, ⟨⟨⟨nh, by omega, e_cn⟩, ⟨cm, by omega, e_cm⟩, ⟨L, by omega, e_L⟩, (fun kk hkk => by rw [show M 3 kk = M 3 kk from rfl]; exact hv kk hkk), hD, ⟨n, by omega, e_n⟩, ⟨lu, lw, by omega, by omega, e_un, e_wn⟩, ⟨b, by omega, e_b⟩, (fun j hj => by obtain ⟨q, hq, eq⟩ := hkd j hj; exact ⟨q, hq, (show M 47 j = M 47 j from rfl).trans eq⟩), ⟨ra, by omega, e_ra⟩, (fun j hj => by obtain ⟨s, hs, es⟩ := hsl j hj; exact ⟨s, hs, (show M (50 + 2 * j) 3 = M (50 + 2 * j) 3 from rfl).trans es⟩), (fun j hj => by obtain ⟨q, hq, eq⟩ := hS j hj; exact ⟨q, hq, (show M 36 j = M 36 j from rfl).trans eq⟩)⟩, (Or.inr (Or.inr ⟨⟨fun z => hw z.1, fun z => hwo z.2⟩, rfl, hG0, hLg0⟩))⟩⟩)
theorem gx_X9_mend (nu w v : Int32) {nh : Nat} {D : xM} {t : Option zL} {S : Nat → Int32} {lg : xL} {lu lw : Nat} {l : Launch} {G : xG} {M : xM} {J : xJ} (hI : InvC M) (hWG : WG nh D S) (hG : CG M nh D t S) (hWL : WLg nh lg lu lw) (hLg : CLg M lg lu lw) : x_M l G fX9_mend 4 0 0 [.ref 0, .int (nu), .int (w), .int (v)] x_SH M J (qKI WMD M J (fun r M2 => InvC M2 ∧ (EMn CG CLg nh D t S lg lu lw M2 nu w v r))) := by
  by_cases hw : 0 ≤ w ∧ w ≤ 2
  · by_cases hb : 0 ≤ nu ∧ nu < nI nh
    · obtain ⟨i, hi, rfl⟩ := x_nat (N := nh) (by have := hWG.1; omega) rfl hb
      obtain ⟨a, ha, rfl⟩ := x_natle (v := w) (N := 2) (K := 2) (by decide) (by decide) hw
      match a, ha with
      | 0, _ => exact gxm0_X9_mend v hI hWG hG hWL hLg hi
      | 1, _ => exact gxm1_X9_mend v hI hWG hG hWL hLg hi
      | 2, _ => exact gxm2_X9_mend v hI hWG hG hWL hLg hi
    · exact gxma_X9_mend nu w v hI hWG hG hWL hLg hw hb
  · by_cases hnu : nu = 0
    · subst hnu
      by_cases hwo : 3 ≤ w ∧ w ≤ 7
      · obtain ⟨a, ha, rfl⟩ := x_natle (v := w) (N := 7) (K := 7) (by decide) (by decide) ⟨Int32.le_trans (by decide) hwo.1, hwo.2⟩
        match a, ha with
        | 0, _ => exact absurd hwo.1 (by decide)
        | 1, _ => exact absurd hwo.1 (by decide)
        | 2, _ => exact absurd hwo.1 (by decide)
        | 3, _ => exact gxm3_X9_mend v hI hWG hG hWL hLg
        | 4, _ => exact gxm4_X9_mend v hI hWG hG hWL hLg
        | 5, _ => exact gxm5_X9_mend v hI hWG hG hWL hLg
        | 6, _ => exact gxm6_X9_mend v hI hWG hG hWL hLg
        | 7, _ => exact gxm7_X9_mend v hI hWG hG hWL hLg
      · exact gxmc_X9_mend w v hI hWG hG hWL hLg hw hwo
    · exact gxmb_X9_mend nu w v hI hWG hG hWL hLg hw hnu
set_option maxRecDepth 100000 in
set_option maxHeartbeats 4000000 in
theorem gx_X9_undo {nh : Nat} {D : xM} {t : Option zL} {S : Nat → Int32} {lg : xL} {lu lw : Nat} {l : Launch} {G : xG} {M : xM} {J : xJ} (hI : InvC M) (hWG : WG nh D S) (hG : CG M nh D t S) (hWL : WLg nh lg lu lw) (hLg : CLg M lg lu lw) : x_M l G fX9_undo 3 0 0 [.ref (0)] x_SH M J (qKI WUN M J (fun r M2 => InvC M2 ∧ (EUn CG CLg nh D t S lg lu lw M2 r))) := by
  refine xb_of pX9 (Nat.le_of_ble_eq_true rfl) rfl ?_
  obtain ⟨⟨cn, h_cn, e_cn⟩, ⟨cm, h_cm, e_cm⟩, ⟨L, h_L, e_L⟩, hv, hD, ⟨n, h_n, e_n⟩, ⟨un, wn, h_uw, h_wn, e_un, e_wn⟩, ⟨b, h_b, e_b⟩, hkd, ⟨ra, h_ra, e_ra⟩, hsl, hS⟩ := hI
  obtain ⟨huw, hw40, hWk⟩ := hWL
  have hG0 := hG
  have hLg0 := hLg
  obtain ⟨hn5, hW, hrub, hbeat⟩ := hWG
  obtain ⟨hGn, hA, hL, e_nw, e_rub, e_bt, e_ph, e_st, e_kn, e_pu, e_lf⟩ := hG
  obtain rfl : nh = cn := (nI_eq (by omega) (by omega)).mp (hGn.symm.trans e_cn)
  have hbt : ¬ S 2 = 0 := ne2_0 hbeat.1
  obtain ⟨hl4, hl5, hLk⟩ := hLg
  obtain rfl : lu = un := (nI_eq (by omega) (by omega)).mp (hl4.symm.trans e_un)
  obtain rfl : lw = wn := (nI_eq (by omega) (by omega)).mp (hl5.symm.trans e_wn)
  refine xr_aload_n dX9_undo_0 0 rfl ?_
  refine xr_getR flX9_54 dX9_undo_1 s_0 rfl ?_
  refine xb_get (v := nI (lu)) flX9_309 dX9_undo_4 s_41 rfl e_un ?_
  refine xr_if_ne (tgt := 13) dX9_undo_7 rfl (fun c1 => ?_) (fun c1 => ?_)
  · obtain ⟨u_, rfl⟩ : ∃ a, lu = a + 1 := by
      cases lu with
      | zero => exact absurd rfl c1
      | succ u => exact ⟨u, rfl⟩
    obtain ⟨hq20, hqn, hb1, hb2⟩ := hWk u_ (by omega)
    obtain ⟨⟨h42, h43⟩, h44, h45⟩ := hLk u_ (by omega)
    rcases key_s hq20 hqn with ⟨i, hi, hq⟩ | ⟨i, hi, hq⟩ | ⟨i, hi, hq⟩ | hq | hq | hq | hq | hq
    · rw [hq, if_pos (by omega), show (5 * 0 + i) % 5 = i by omega] at h42
      rw [hq, if_pos (by omega), show (5 * 0 + i) / 5 = 0 by omega] at h43
      refine xr_aload_n dX9_undo_13 0 rfl ?_
      refine xr_getR flX9_54 dX9_undo_14 s_0 rfl ?_
      refine xr_dup dX9_undo_17 rfl ?_
      refine xb_get (v := nI (u_ + 1)) flX9_309 dX9_undo_18 s_41 rfl e_un ?_
      refine xr_iconst (v := 1) dX9_undo_21 rfl ?_
      refine xr_isub dX9_undo_22 ?_
      refine xb_top (y := nI u_) (nI_pred u_) ?_
      refine xr_putI fpX9_309 dX9_undo_23 s_41 rfl rfl rfl ?_
      refine xr_aload_n dX9_undo_26 0 rfl ?_
      refine xr_getR flX9_54 dX9_undo_27 s_0 rfl ?_
      refine xb_get (v := nI (u_)) flX9_309 dX9_undo_30 s_41 rfl (x_up_s _ _ _ _) ?_
      refine xr_istore_n (ls2 := [(1, .int (nI (u_))), (0, .ref (0))]) dX9_undo_33 (by decide) rfl ?_
      refine xr_aload_n dX9_undo_34 1 rfl ?_
      refine xr_aload_n dX9_undo_35 1 rfl ?_
      refine xr_getR flX9_54 dX9_undo_36 s_0 rfl ?_
      refine xr_getR flX9_312 dX9_undo_39 s_41 rfl ?_
      refine xr_iload_n dX9_undo_42 0 rfl ?_
      refine xb_iald (j := u_) (v := nI (i)) dX9_undo_43 s_42 (by omega) (by decide) (Eq.trans (congrFun (x_up_n _ _ _ (by decide)) _) h42) ?_
      refine xr_aload_n dX9_undo_44 1 rfl ?_
      refine xr_getR flX9_54 dX9_undo_45 s_0 rfl ?_
      refine xr_getR flX9_315 dX9_undo_48 s_41 rfl ?_
      refine xr_iload_n dX9_undo_51 0 rfl ?_
      refine xb_iald (j := u_) (v := 0) dX9_undo_52 s_43 (by omega) (by decide) (Eq.trans (congrFun (x_up_n _ _ _ (by decide)) _) h43) ?_
      refine xr_aload_n dX9_undo_53 1 rfl ?_
      refine xr_getR flX9_54 dX9_undo_54 s_0 rfl ?_
      refine xr_getR flX9_318 dX9_undo_57 s_41 rfl ?_
      refine xr_iload_n dX9_undo_60 0 rfl ?_
      refine xb_iald (j := u_) (v := (lg.2.1 u_)) dX9_undo_61 s_44 (by omega) (by decide) (Eq.trans (congrFun (x_up_n _ _ _ (by decide)) _) h44) ?_
      refine xb_cV (As := [.int (nI (i)), .int (0), .int ((lg.2.1 u_))]) (rest := []) mlX9_110 (cw_X9_lay_0 (lg.2.1 u_) (i := i) h_cn (Eq.trans (congrFun (x_up_n _ _ _ (by decide)) _) e_cn) (by omega)) dX9_undo_62 s_0 rfl rfl (Nat.le_of_ble_eq_true rfl) (by decide) (by decide) ?_
      refine xr_aload_n dX9_undo_65 1 rfl ?_
      refine xr_getR flX9_54 dX9_undo_66 s_0 rfl ?_
      refine xb_get (v := nI (u_)) flX9_309 dX9_undo_69 s_41 rfl (Eq.trans (congrFun (x_up_n _ _ _ (by omega)) _) (x_up_s _ _ _ _)) ?_
      exact xr_iret dX9_undo_72 rfl rfl (⟨_, rfl, rfl, rfl, (Ke.up (Or.inr (Or.inr (Or.inr (Or.inr (Or.inr (Or.inl (by omega))))))) (Ke.up (Or.inr (Or.inr (Or.inr (Or.inr (Or.inr (Or.inr (by omega))))))) Ke.rf)), ⟨⟨⟨nh, by omega, (Eq.trans (congrFun (x_up_n _ _ _ (by omega)) _) (Eq.trans (congrFun (x_up_n _ _ _ (by decide)) _) e_cn))⟩, ⟨cm, by omega, (Eq.trans (congrFun (x_up_n _ _ _ (by omega)) _) (Eq.trans (congrFun (x_up_n _ _ _ (by decide)) _) e_cm))⟩, ⟨L, by omega, (Eq.trans (congrFun (x_up_n _ _ _ (by omega)) _) (Eq.trans (congrFun (x_up_n _ _ _ (by decide)) _) e_L))⟩, (fun kk hkk => by rw [show (x_up (x_up M 41 4 (nI (u_))) (15 + i) 0 (lg.2.1 u_)) 3 kk = M 3 kk from (Eq.trans (congrFun (x_up_n _ _ _ (by omega)) _) (Eq.trans (congrFun (x_up_n _ _ _ (by omega)) _) rfl))]; exact hv kk hkk), (DI_up (by omega) (DI_up (by decide) hD)), ⟨n, by omega, (Eq.trans (congrFun (x_up_n _ _ _ (by omega)) _) (Eq.trans (congrFun (x_up_n _ _ _ (by decide)) _) e_n))⟩, ⟨u_, lw, by omega, by omega, (Eq.trans (congrFun (x_up_n _ _ _ (by omega)) _) (x_up_s _ _ _ _)), (Eq.trans (congrFun (x_up_n _ _ _ (by omega)) _) (Eq.trans (x_up_k _ _ _ (by decide)) e_wn))⟩, ⟨b, by omega, (Eq.trans (congrFun (x_up_n _ _ _ (by omega)) _) (Eq.trans (congrFun (x_up_n _ _ _ (by decide)) _) e_b))⟩, (fun j hj => by obtain ⟨q, hq, eq⟩ := hkd j hj; exact ⟨q, hq, (show (x_up (x_up M 41 4 (nI (u_))) (15 + i) 0 (lg.2.1 u_)) 47 j = M 47 j from (Eq.trans (congrFun (x_up_n _ _ _ (by omega)) _) (Eq.trans (congrFun (x_up_n _ _ _ (by omega)) _) rfl))).trans eq⟩), ⟨ra, by omega, (Eq.trans (congrFun (x_up_n _ _ _ (by omega)) _) (Eq.trans (congrFun (x_up_n _ _ _ (by decide)) _) e_ra))⟩, (fun j hj => by obtain ⟨s, hs, es⟩ := hsl j hj; exact ⟨s, hs, (show (x_up (x_up M 41 4 (nI (u_))) (15 + i) 0 (lg.2.1 u_)) (50 + 2 * j) 3 = M (50 + 2 * j) 3 from (Eq.trans (congrFun (x_up_n _ _ _ (by omega)) _) (Eq.trans (congrFun (x_up_n _ _ _ (by omega)) _) rfl))).trans es⟩), (fun j hj => by obtain ⟨q, hq, eq⟩ := hS j hj; exact ⟨q, hq, (show (x_up (x_up M 41 4 (nI (u_))) (15 + i) 0 (lg.2.1 u_)) 36 j = M 36 j from (Eq.trans (congrFun (x_up_n _ _ _ (by omega)) _) (Eq.trans (congrFun (x_up_n _ _ _ (by omega)) _) rfl))).trans eq⟩)⟩, (Or.inr ⟨u_, rfl, rfl, (by rw [hq, sK_h (by omega) (by decide)]; exact ⟨(Eq.trans (congrFun (x_up_n _ _ _ (by omega)) _) (Eq.trans (congrFun (x_up_n _ _ _ (by decide)) _) e_cn)), (by rw [lK_0 (by omega) (by decide), dK_0 (by omega)]; exact (AbC_up (AbC_n hA (Or.inr (by omega))))), (LCt_k (Eq.trans (congrFun (x_up_n _ _ _ (by omega)) _) (Eq.trans (congrFun (x_up_n _ _ _ (by omega)) _) rfl)) (fun kl => (Eq.trans (congrFun (x_up_n _ _ _ (by omega)) _) (Eq.trans (congrFun (x_up_n _ _ _ (by omega)) _) rfl))) (fun kl => (Eq.trans (congrFun (x_up_n _ _ _ (by omega)) _) (Eq.trans (congrFun (x_up_n _ _ _ (by omega)) _) rfl))) hL), (Eq.trans (congrFun (x_up_n _ _ _ (by omega)) _) (Eq.trans (congrFun (x_up_n _ _ _ (by decide)) _) e_nw)), (Eq.trans (congrFun (x_up_n _ _ _ (by omega)) _) (Eq.trans (congrFun (x_up_n _ _ _ (by decide)) _) e_rub)), (Eq.trans (congrFun (x_up_n _ _ _ (by omega)) _) (Eq.trans (congrFun (x_up_n _ _ _ (by decide)) _) e_bt)), (Eq.trans (congrFun (x_up_n _ _ _ (by omega)) _) (Eq.trans (congrFun (x_up_n _ _ _ (by decide)) _) e_ph)), (Eq.trans (congrFun (x_up_n _ _ _ (by omega)) _) (Eq.trans (congrFun (x_up_n _ _ _ (by decide)) _) e_st)), (Eq.trans (congrFun (x_up_n _ _ _ (by omega)) _) (Eq.trans (congrFun (x_up_n _ _ _ (by decide)) _) e_kn)), (Eq.trans (congrFun (x_up_n _ _ _ (by omega)) _) (Eq.trans (congrFun (x_up_n _ _ _ (by decide)) _) e_pu)), (Eq.trans (congrFun (x_up_n _ _ _ (by omega)) _) (Eq.trans (congrFun (x_up_n _ _ _ (by decide)) _) e_lf))⟩), ⟨(Eq.trans (congrFun (x_up_n _ _ _ (by omega)) _) (x_up_s _ _ _ _)), (Eq.trans (congrFun (x_up_n _ _ _ (by omega)) _) (Eq.trans (x_up_k _ _ _ (by decide)) e_wn)), fun k hk => by rw [show _ = M 42 k from (Eq.trans (congrFun (x_up_n _ _ _ (by omega)) _) (Eq.trans (congrFun (x_up_n _ _ _ (by omega)) _) rfl)), show _ = M 43 k from (Eq.trans (congrFun (x_up_n _ _ _ (by omega)) _) (Eq.trans (congrFun (x_up_n _ _ _ (by omega)) _) rfl)), show _ = M 44 k from (Eq.trans (congrFun (x_up_n _ _ _ (by omega)) _) (Eq.trans (congrFun (x_up_n _ _ _ (by omega)) _) rfl)), show _ = M 45 k from (Eq.trans (congrFun (x_up_n _ _ _ (by omega)) _) (Eq.trans (congrFun (x_up_n _ _ _ (by omega)) _) rfl))]; exact hLk k hk⟩⟩)⟩⟩)
    · rw [hq, if_pos (by omega), show (5 * 1 + i) % 5 = i by omega] at h42
      rw [hq, if_pos (by omega), show (5 * 1 + i) / 5 = 1 by omega] at h43
      refine xr_aload_n dX9_undo_13 0 rfl ?_
      refine xr_getR flX9_54 dX9_undo_14 s_0 rfl ?_
      refine xr_dup dX9_undo_17 rfl ?_
      refine xb_get (v := nI (u_ + 1)) flX9_309 dX9_undo_18 s_41 rfl e_un ?_
      refine xr_iconst (v := 1) dX9_undo_21 rfl ?_
      refine xr_isub dX9_undo_22 ?_
      refine xb_top (y := nI u_) (nI_pred u_) ?_
      refine xr_putI fpX9_309 dX9_undo_23 s_41 rfl rfl rfl ?_
      refine xr_aload_n dX9_undo_26 0 rfl ?_
      refine xr_getR flX9_54 dX9_undo_27 s_0 rfl ?_
      refine xb_get (v := nI (u_)) flX9_309 dX9_undo_30 s_41 rfl (x_up_s _ _ _ _) ?_
      refine xr_istore_n (ls2 := [(1, .int (nI (u_))), (0, .ref (0))]) dX9_undo_33 (by decide) rfl ?_
      refine xr_aload_n dX9_undo_34 1 rfl ?_
      refine xr_aload_n dX9_undo_35 1 rfl ?_
      refine xr_getR flX9_54 dX9_undo_36 s_0 rfl ?_
      refine xr_getR flX9_312 dX9_undo_39 s_41 rfl ?_
      refine xr_iload_n dX9_undo_42 0 rfl ?_
      refine xb_iald (j := u_) (v := nI (i)) dX9_undo_43 s_42 (by omega) (by decide) (Eq.trans (congrFun (x_up_n _ _ _ (by decide)) _) h42) ?_
      refine xr_aload_n dX9_undo_44 1 rfl ?_
      refine xr_getR flX9_54 dX9_undo_45 s_0 rfl ?_
      refine xr_getR flX9_315 dX9_undo_48 s_41 rfl ?_
      refine xr_iload_n dX9_undo_51 0 rfl ?_
      refine xb_iald (j := u_) (v := 1) dX9_undo_52 s_43 (by omega) (by decide) (Eq.trans (congrFun (x_up_n _ _ _ (by decide)) _) h43) ?_
      refine xr_aload_n dX9_undo_53 1 rfl ?_
      refine xr_getR flX9_54 dX9_undo_54 s_0 rfl ?_
      refine xr_getR flX9_318 dX9_undo_57 s_41 rfl ?_
      refine xr_iload_n dX9_undo_60 0 rfl ?_
      refine xb_iald (j := u_) (v := (lg.2.1 u_)) dX9_undo_61 s_44 (by omega) (by decide) (Eq.trans (congrFun (x_up_n _ _ _ (by decide)) _) h44) ?_
      refine xb_cV (As := [.int (nI (i)), .int (1), .int ((lg.2.1 u_))]) (rest := []) mlX9_110 (cw_X9_lay_1 (lg.2.1 u_) (i := i) h_cn (Eq.trans (congrFun (x_up_n _ _ _ (by decide)) _) e_cn) (by omega)) dX9_undo_62 s_0 rfl rfl (Nat.le_of_ble_eq_true rfl) (by decide) (by decide) ?_
      refine xr_aload_n dX9_undo_65 1 rfl ?_
      refine xr_getR flX9_54 dX9_undo_66 s_0 rfl ?_
      refine xb_get (v := nI (u_)) flX9_309 dX9_undo_69 s_41 rfl (Eq.trans (congrFun (x_up_n _ _ _ (by omega)) _) (x_up_s _ _ _ _)) ?_
      exact xr_iret dX9_undo_72 rfl rfl (⟨_, rfl, rfl, rfl, (Ke.up (Or.inr (Or.inr (Or.inr (Or.inr (Or.inr (Or.inl (by omega))))))) (Ke.up (Or.inr (Or.inr (Or.inr (Or.inr (Or.inr (Or.inr (by omega))))))) Ke.rf)), ⟨⟨⟨nh, by omega, (Eq.trans (congrFun (x_up_n _ _ _ (by omega)) _) (Eq.trans (congrFun (x_up_n _ _ _ (by decide)) _) e_cn))⟩, ⟨cm, by omega, (Eq.trans (congrFun (x_up_n _ _ _ (by omega)) _) (Eq.trans (congrFun (x_up_n _ _ _ (by decide)) _) e_cm))⟩, ⟨L, by omega, (Eq.trans (congrFun (x_up_n _ _ _ (by omega)) _) (Eq.trans (congrFun (x_up_n _ _ _ (by decide)) _) e_L))⟩, (fun kk hkk => by rw [show (x_up (x_up M 41 4 (nI (u_))) (15 + i) 1 (lg.2.1 u_)) 3 kk = M 3 kk from (Eq.trans (congrFun (x_up_n _ _ _ (by omega)) _) (Eq.trans (congrFun (x_up_n _ _ _ (by omega)) _) rfl))]; exact hv kk hkk), (DI_up (by omega) (DI_up (by decide) hD)), ⟨n, by omega, (Eq.trans (congrFun (x_up_n _ _ _ (by omega)) _) (Eq.trans (congrFun (x_up_n _ _ _ (by decide)) _) e_n))⟩, ⟨u_, lw, by omega, by omega, (Eq.trans (congrFun (x_up_n _ _ _ (by omega)) _) (x_up_s _ _ _ _)), (Eq.trans (congrFun (x_up_n _ _ _ (by omega)) _) (Eq.trans (x_up_k _ _ _ (by decide)) e_wn))⟩, ⟨b, by omega, (Eq.trans (congrFun (x_up_n _ _ _ (by omega)) _) (Eq.trans (congrFun (x_up_n _ _ _ (by decide)) _) e_b))⟩, (fun j hj => by obtain ⟨q, hq, eq⟩ := hkd j hj; exact ⟨q, hq, (show (x_up (x_up M 41 4 (nI (u_))) (15 + i) 1 (lg.2.1 u_)) 47 j = M 47 j from (Eq.trans (congrFun (x_up_n _ _ _ (by omega)) _) (Eq.trans (congrFun (x_up_n _ _ _ (by omega)) _) rfl))).trans eq⟩), ⟨ra, by omega, (Eq.trans (congrFun (x_up_n _ _ _ (by omega)) _) (Eq.trans (congrFun (x_up_n _ _ _ (by decide)) _) e_ra))⟩, (fun j hj => by obtain ⟨s, hs, es⟩ := hsl j hj; exact ⟨s, hs, (show (x_up (x_up M 41 4 (nI (u_))) (15 + i) 1 (lg.2.1 u_)) (50 + 2 * j) 3 = M (50 + 2 * j) 3 from (Eq.trans (congrFun (x_up_n _ _ _ (by omega)) _) (Eq.trans (congrFun (x_up_n _ _ _ (by omega)) _) rfl))).trans es⟩), (fun j hj => by obtain ⟨q, hq, eq⟩ := hS j hj; exact ⟨q, hq, (show (x_up (x_up M 41 4 (nI (u_))) (15 + i) 1 (lg.2.1 u_)) 36 j = M 36 j from (Eq.trans (congrFun (x_up_n _ _ _ (by omega)) _) (Eq.trans (congrFun (x_up_n _ _ _ (by omega)) _) rfl))).trans eq⟩)⟩, (Or.inr ⟨u_, rfl, rfl, (by rw [hq, sK_h (by omega) (by decide)]; exact ⟨(Eq.trans (congrFun (x_up_n _ _ _ (by omega)) _) (Eq.trans (congrFun (x_up_n _ _ _ (by decide)) _) e_cn)), (by rw [lK_0 (by omega) (by decide), dK_1 (by omega)]; exact (AbC_up (AbC_n hA (Or.inr (by omega))))), (LCt_k (Eq.trans (congrFun (x_up_n _ _ _ (by omega)) _) (Eq.trans (congrFun (x_up_n _ _ _ (by omega)) _) rfl)) (fun kl => (Eq.trans (congrFun (x_up_n _ _ _ (by omega)) _) (Eq.trans (congrFun (x_up_n _ _ _ (by omega)) _) rfl))) (fun kl => (Eq.trans (congrFun (x_up_n _ _ _ (by omega)) _) (Eq.trans (congrFun (x_up_n _ _ _ (by omega)) _) rfl))) hL), (Eq.trans (congrFun (x_up_n _ _ _ (by omega)) _) (Eq.trans (congrFun (x_up_n _ _ _ (by decide)) _) e_nw)), (Eq.trans (congrFun (x_up_n _ _ _ (by omega)) _) (Eq.trans (congrFun (x_up_n _ _ _ (by decide)) _) e_rub)), (Eq.trans (congrFun (x_up_n _ _ _ (by omega)) _) (Eq.trans (congrFun (x_up_n _ _ _ (by decide)) _) e_bt)), (Eq.trans (congrFun (x_up_n _ _ _ (by omega)) _) (Eq.trans (congrFun (x_up_n _ _ _ (by decide)) _) e_ph)), (Eq.trans (congrFun (x_up_n _ _ _ (by omega)) _) (Eq.trans (congrFun (x_up_n _ _ _ (by decide)) _) e_st)), (Eq.trans (congrFun (x_up_n _ _ _ (by omega)) _) (Eq.trans (congrFun (x_up_n _ _ _ (by decide)) _) e_kn)), (Eq.trans (congrFun (x_up_n _ _ _ (by omega)) _) (Eq.trans (congrFun (x_up_n _ _ _ (by decide)) _) e_pu)), (Eq.trans (congrFun (x_up_n _ _ _ (by omega)) _) (Eq.trans (congrFun (x_up_n _ _ _ (by decide)) _) e_lf))⟩), ⟨(Eq.trans (congrFun (x_up_n _ _ _ (by omega)) _) (x_up_s _ _ _ _)), (Eq.trans (congrFun (x_up_n _ _ _ (by omega)) _) (Eq.trans (x_up_k _ _ _ (by decide)) e_wn)), fun k hk => by rw [show _ = M 42 k from (Eq.trans (congrFun (x_up_n _ _ _ (by omega)) _) (Eq.trans (congrFun (x_up_n _ _ _ (by omega)) _) rfl)), show _ = M 43 k from (Eq.trans (congrFun (x_up_n _ _ _ (by omega)) _) (Eq.trans (congrFun (x_up_n _ _ _ (by omega)) _) rfl)), show _ = M 44 k from (Eq.trans (congrFun (x_up_n _ _ _ (by omega)) _) (Eq.trans (congrFun (x_up_n _ _ _ (by omega)) _) rfl)), show _ = M 45 k from (Eq.trans (congrFun (x_up_n _ _ _ (by omega)) _) (Eq.trans (congrFun (x_up_n _ _ _ (by omega)) _) rfl))]; exact hLk k hk⟩⟩)⟩⟩)
    · rw [hq, if_pos (by omega), show (5 * 2 + i) % 5 = i by omega] at h42
      rw [hq, if_pos (by omega), show (5 * 2 + i) / 5 = 2 by omega] at h43
      refine xr_aload_n dX9_undo_13 0 rfl ?_
      refine xr_getR flX9_54 dX9_undo_14 s_0 rfl ?_
      refine xr_dup dX9_undo_17 rfl ?_
      refine xb_get (v := nI (u_ + 1)) flX9_309 dX9_undo_18 s_41 rfl e_un ?_
      refine xr_iconst (v := 1) dX9_undo_21 rfl ?_
      refine xr_isub dX9_undo_22 ?_
      refine xb_top (y := nI u_) (nI_pred u_) ?_
      refine xr_putI fpX9_309 dX9_undo_23 s_41 rfl rfl rfl ?_
      refine xr_aload_n dX9_undo_26 0 rfl ?_
      refine xr_getR flX9_54 dX9_undo_27 s_0 rfl ?_
      refine xb_get (v := nI (u_)) flX9_309 dX9_undo_30 s_41 rfl (x_up_s _ _ _ _) ?_
      refine xr_istore_n (ls2 := [(1, .int (nI (u_))), (0, .ref (0))]) dX9_undo_33 (by decide) rfl ?_
      refine xr_aload_n dX9_undo_34 1 rfl ?_
      refine xr_aload_n dX9_undo_35 1 rfl ?_
      refine xr_getR flX9_54 dX9_undo_36 s_0 rfl ?_
      refine xr_getR flX9_312 dX9_undo_39 s_41 rfl ?_
      refine xr_iload_n dX9_undo_42 0 rfl ?_
      refine xb_iald (j := u_) (v := nI (i)) dX9_undo_43 s_42 (by omega) (by decide) (Eq.trans (congrFun (x_up_n _ _ _ (by decide)) _) h42) ?_
      refine xr_aload_n dX9_undo_44 1 rfl ?_
      refine xr_getR flX9_54 dX9_undo_45 s_0 rfl ?_
      refine xr_getR flX9_315 dX9_undo_48 s_41 rfl ?_
      refine xr_iload_n dX9_undo_51 0 rfl ?_
      refine xb_iald (j := u_) (v := 2) dX9_undo_52 s_43 (by omega) (by decide) (Eq.trans (congrFun (x_up_n _ _ _ (by decide)) _) h43) ?_
      refine xr_aload_n dX9_undo_53 1 rfl ?_
      refine xr_getR flX9_54 dX9_undo_54 s_0 rfl ?_
      refine xr_getR flX9_318 dX9_undo_57 s_41 rfl ?_
      refine xr_iload_n dX9_undo_60 0 rfl ?_
      refine xb_iald (j := u_) (v := (lg.2.1 u_)) dX9_undo_61 s_44 (by omega) (by decide) (Eq.trans (congrFun (x_up_n _ _ _ (by decide)) _) h44) ?_
      refine xb_cV (As := [.int (nI (i)), .int (2), .int ((lg.2.1 u_))]) (rest := []) mlX9_110 (cw_X9_lay_2 (lg.2.1 u_) (i := i) h_cn (Eq.trans (congrFun (x_up_n _ _ _ (by decide)) _) e_cn) (by omega)) dX9_undo_62 s_0 rfl rfl (Nat.le_of_ble_eq_true rfl) (by decide) (by decide) ?_
      refine xr_aload_n dX9_undo_65 1 rfl ?_
      refine xr_getR flX9_54 dX9_undo_66 s_0 rfl ?_
      refine xb_get (v := nI (u_)) flX9_309 dX9_undo_69 s_41 rfl (Eq.trans (congrFun (x_up_n _ _ _ (by omega)) _) (x_up_s _ _ _ _)) ?_
      exact xr_iret dX9_undo_72 rfl rfl (⟨_, rfl, rfl, rfl, (Ke.up (Or.inr (Or.inr (Or.inr (Or.inr (Or.inr (Or.inl (by omega))))))) (Ke.up (Or.inr (Or.inr (Or.inr (Or.inr (Or.inr (Or.inr (by omega))))))) Ke.rf)), ⟨⟨⟨nh, by omega, (Eq.trans (congrFun (x_up_n _ _ _ (by omega)) _) (Eq.trans (congrFun (x_up_n _ _ _ (by decide)) _) e_cn))⟩, ⟨cm, by omega, (Eq.trans (congrFun (x_up_n _ _ _ (by omega)) _) (Eq.trans (congrFun (x_up_n _ _ _ (by decide)) _) e_cm))⟩, ⟨L, by omega, (Eq.trans (congrFun (x_up_n _ _ _ (by omega)) _) (Eq.trans (congrFun (x_up_n _ _ _ (by decide)) _) e_L))⟩, (fun kk hkk => by rw [show (x_up (x_up M 41 4 (nI (u_))) (15 + i) 3 (if (x_up M 41 4 (nI (u_))) (15 + i) 4 = 0 then 0 else (lg.2.1 u_))) 3 kk = M 3 kk from (Eq.trans (congrFun (x_up_n _ _ _ (by omega)) _) (Eq.trans (congrFun (x_up_n _ _ _ (by omega)) _) rfl))]; exact hv kk hkk), (DI_up (by omega) (DI_up (by decide) hD)), ⟨n, by omega, (Eq.trans (congrFun (x_up_n _ _ _ (by omega)) _) (Eq.trans (congrFun (x_up_n _ _ _ (by decide)) _) e_n))⟩, ⟨u_, lw, by omega, by omega, (Eq.trans (congrFun (x_up_n _ _ _ (by omega)) _) (x_up_s _ _ _ _)), (Eq.trans (congrFun (x_up_n _ _ _ (by omega)) _) (Eq.trans (x_up_k _ _ _ (by decide)) e_wn))⟩, ⟨b, by omega, (Eq.trans (congrFun (x_up_n _ _ _ (by omega)) _) (Eq.trans (congrFun (x_up_n _ _ _ (by decide)) _) e_b))⟩, (fun j hj => by obtain ⟨q, hq, eq⟩ := hkd j hj; exact ⟨q, hq, (show (x_up (x_up M 41 4 (nI (u_))) (15 + i) 3 (if (x_up M 41 4 (nI (u_))) (15 + i) 4 = 0 then 0 else (lg.2.1 u_))) 47 j = M 47 j from (Eq.trans (congrFun (x_up_n _ _ _ (by omega)) _) (Eq.trans (congrFun (x_up_n _ _ _ (by omega)) _) rfl))).trans eq⟩), ⟨ra, by omega, (Eq.trans (congrFun (x_up_n _ _ _ (by omega)) _) (Eq.trans (congrFun (x_up_n _ _ _ (by decide)) _) e_ra))⟩, (fun j hj => by obtain ⟨s, hs, es⟩ := hsl j hj; exact ⟨s, hs, (show (x_up (x_up M 41 4 (nI (u_))) (15 + i) 3 (if (x_up M 41 4 (nI (u_))) (15 + i) 4 = 0 then 0 else (lg.2.1 u_))) (50 + 2 * j) 3 = M (50 + 2 * j) 3 from (Eq.trans (congrFun (x_up_n _ _ _ (by omega)) _) (Eq.trans (congrFun (x_up_n _ _ _ (by omega)) _) rfl))).trans es⟩), (fun j hj => by obtain ⟨q, hq, eq⟩ := hS j hj; exact ⟨q, hq, (show (x_up (x_up M 41 4 (nI (u_))) (15 + i) 3 (if (x_up M 41 4 (nI (u_))) (15 + i) 4 = 0 then 0 else (lg.2.1 u_))) 36 j = M 36 j from (Eq.trans (congrFun (x_up_n _ _ _ (by omega)) _) (Eq.trans (congrFun (x_up_n _ _ _ (by omega)) _) rfl))).trans eq⟩)⟩, (Or.inr ⟨u_, rfl, rfl, (by rw [hq, sK_h (by omega) (by decide)]; exact ⟨(Eq.trans (congrFun (x_up_n _ _ _ (by omega)) _) (Eq.trans (congrFun (x_up_n _ _ _ (by decide)) _) e_cn)), (by rw [lK_2 (by omega), dK_2 (by omega), ← hA i (by omega) 4 (by decide)]; exact AbC_vD (AbC_up (AbC_n hA (Or.inr (by omega)))) (by rw [up_n (by omega)])), (LCt_k (Eq.trans (congrFun (x_up_n _ _ _ (by omega)) _) (Eq.trans (congrFun (x_up_n _ _ _ (by omega)) _) rfl)) (fun kl => (Eq.trans (congrFun (x_up_n _ _ _ (by omega)) _) (Eq.trans (congrFun (x_up_n _ _ _ (by omega)) _) rfl))) (fun kl => (Eq.trans (congrFun (x_up_n _ _ _ (by omega)) _) (Eq.trans (congrFun (x_up_n _ _ _ (by omega)) _) rfl))) hL), (Eq.trans (congrFun (x_up_n _ _ _ (by omega)) _) (Eq.trans (congrFun (x_up_n _ _ _ (by decide)) _) e_nw)), (Eq.trans (congrFun (x_up_n _ _ _ (by omega)) _) (Eq.trans (congrFun (x_up_n _ _ _ (by decide)) _) e_rub)), (Eq.trans (congrFun (x_up_n _ _ _ (by omega)) _) (Eq.trans (congrFun (x_up_n _ _ _ (by decide)) _) e_bt)), (Eq.trans (congrFun (x_up_n _ _ _ (by omega)) _) (Eq.trans (congrFun (x_up_n _ _ _ (by decide)) _) e_ph)), (Eq.trans (congrFun (x_up_n _ _ _ (by omega)) _) (Eq.trans (congrFun (x_up_n _ _ _ (by decide)) _) e_st)), (Eq.trans (congrFun (x_up_n _ _ _ (by omega)) _) (Eq.trans (congrFun (x_up_n _ _ _ (by decide)) _) e_kn)), (Eq.trans (congrFun (x_up_n _ _ _ (by omega)) _) (Eq.trans (congrFun (x_up_n _ _ _ (by decide)) _) e_pu)), (Eq.trans (congrFun (x_up_n _ _ _ (by omega)) _) (Eq.trans (congrFun (x_up_n _ _ _ (by decide)) _) e_lf))⟩), ⟨(Eq.trans (congrFun (x_up_n _ _ _ (by omega)) _) (x_up_s _ _ _ _)), (Eq.trans (congrFun (x_up_n _ _ _ (by omega)) _) (Eq.trans (x_up_k _ _ _ (by decide)) e_wn)), fun k hk => by rw [show _ = M 42 k from (Eq.trans (congrFun (x_up_n _ _ _ (by omega)) _) (Eq.trans (congrFun (x_up_n _ _ _ (by omega)) _) rfl)), show _ = M 43 k from (Eq.trans (congrFun (x_up_n _ _ _ (by omega)) _) (Eq.trans (congrFun (x_up_n _ _ _ (by omega)) _) rfl)), show _ = M 44 k from (Eq.trans (congrFun (x_up_n _ _ _ (by omega)) _) (Eq.trans (congrFun (x_up_n _ _ _ (by omega)) _) rfl)), show _ = M 45 k from (Eq.trans (congrFun (x_up_n _ _ _ (by omega)) _) (Eq.trans (congrFun (x_up_n _ _ _ (by omega)) _) rfl))]; exact hLk k hk⟩⟩)⟩⟩)
    · rw [hq] at h42 h43
      refine xr_aload_n dX9_undo_13 0 rfl ?_
      refine xr_getR flX9_54 dX9_undo_14 s_0 rfl ?_
      refine xr_dup dX9_undo_17 rfl ?_
      refine xb_get (v := nI (u_ + 1)) flX9_309 dX9_undo_18 s_41 rfl e_un ?_
      refine xr_iconst (v := 1) dX9_undo_21 rfl ?_
      refine xr_isub dX9_undo_22 ?_
      refine xb_top (y := nI u_) (nI_pred u_) ?_
      refine xr_putI fpX9_309 dX9_undo_23 s_41 rfl rfl rfl ?_
      refine xr_aload_n dX9_undo_26 0 rfl ?_
      refine xr_getR flX9_54 dX9_undo_27 s_0 rfl ?_
      refine xb_get (v := nI (u_)) flX9_309 dX9_undo_30 s_41 rfl (x_up_s _ _ _ _) ?_
      refine xr_istore_n (ls2 := [(1, .int (nI (u_))), (0, .ref (0))]) dX9_undo_33 (by decide) rfl ?_
      refine xr_aload_n dX9_undo_34 1 rfl ?_
      refine xr_aload_n dX9_undo_35 1 rfl ?_
      refine xr_getR flX9_54 dX9_undo_36 s_0 rfl ?_
      refine xr_getR flX9_312 dX9_undo_39 s_41 rfl ?_
      refine xr_iload_n dX9_undo_42 0 rfl ?_
      refine xb_iald (j := u_) (v := 0) dX9_undo_43 s_42 (by omega) (by decide) (Eq.trans (congrFun (x_up_n _ _ _ (by decide)) _) h42) ?_
      refine xr_aload_n dX9_undo_44 1 rfl ?_
      refine xr_getR flX9_54 dX9_undo_45 s_0 rfl ?_
      refine xr_getR flX9_315 dX9_undo_48 s_41 rfl ?_
      refine xr_iload_n dX9_undo_51 0 rfl ?_
      refine xb_iald (j := u_) (v := 3) dX9_undo_52 s_43 (by omega) (by decide) (Eq.trans (congrFun (x_up_n _ _ _ (by decide)) _) h43) ?_
      refine xr_aload_n dX9_undo_53 1 rfl ?_
      refine xr_getR flX9_54 dX9_undo_54 s_0 rfl ?_
      refine xr_getR flX9_318 dX9_undo_57 s_41 rfl ?_
      refine xr_iload_n dX9_undo_60 0 rfl ?_
      refine xb_iald (j := u_) (v := (lg.2.1 u_)) dX9_undo_61 s_44 (by omega) (by decide) (Eq.trans (congrFun (x_up_n _ _ _ (by decide)) _) h44) ?_
      refine xb_cV (As := [.int (0), .int (3), .int ((lg.2.1 u_))]) (rest := []) mlX9_110 (cw_X9_lay_3 (lg.2.1 u_)) dX9_undo_62 s_0 rfl rfl (Nat.le_of_ble_eq_true rfl) (by decide) (by decide) ?_
      refine xr_aload_n dX9_undo_65 1 rfl ?_
      refine xr_getR flX9_54 dX9_undo_66 s_0 rfl ?_
      refine xb_get (v := nI (u_)) flX9_309 dX9_undo_69 s_41 rfl (Eq.trans (congrFun (x_up_n _ _ _ (by decide)) _) (x_up_s _ _ _ _)) ?_
      exact xr_iret dX9_undo_72 rfl rfl (⟨_, rfl, rfl, rfl, (Ke.up (Or.inl (by omega)) (Ke.up (Or.inr (Or.inr (Or.inr (Or.inr (Or.inr (Or.inr (by omega))))))) Ke.rf)), ⟨⟨⟨nh, by omega, (Eq.trans (x_up_k _ _ _ (by decide)) (Eq.trans (congrFun (x_up_n _ _ _ (by decide)) _) e_cn))⟩, ⟨cm, by omega, (Eq.trans (congrFun (x_up_n _ _ _ (by decide)) _) (Eq.trans (congrFun (x_up_n _ _ _ (by decide)) _) e_cm))⟩, ⟨L, by omega, (Eq.trans (congrFun (x_up_n _ _ _ (by decide)) _) (Eq.trans (congrFun (x_up_n _ _ _ (by decide)) _) e_L))⟩, (fun kk hkk => by rw [show (x_up (x_up M 41 4 (nI (u_))) 13 4 (lg.2.1 u_)) 3 kk = M 3 kk from (Eq.trans (congrFun (x_up_n _ _ _ (by omega)) _) (Eq.trans (congrFun (x_up_n _ _ _ (by omega)) _) rfl))]; exact hv kk hkk), (DI_up (by decide) (DI_up (by decide) hD)), ⟨n, by omega, (Eq.trans (congrFun (x_up_n _ _ _ (by decide)) _) (Eq.trans (congrFun (x_up_n _ _ _ (by decide)) _) e_n))⟩, ⟨u_, lw, by omega, by omega, (Eq.trans (congrFun (x_up_n _ _ _ (by decide)) _) (x_up_s _ _ _ _)), (Eq.trans (congrFun (x_up_n _ _ _ (by decide)) _) (Eq.trans (x_up_k _ _ _ (by decide)) e_wn))⟩, ⟨b, by omega, (Eq.trans (congrFun (x_up_n _ _ _ (by decide)) _) (Eq.trans (congrFun (x_up_n _ _ _ (by decide)) _) e_b))⟩, (fun j hj => by obtain ⟨q, hq, eq⟩ := hkd j hj; exact ⟨q, hq, (show (x_up (x_up M 41 4 (nI (u_))) 13 4 (lg.2.1 u_)) 47 j = M 47 j from (Eq.trans (congrFun (x_up_n _ _ _ (by omega)) _) (Eq.trans (congrFun (x_up_n _ _ _ (by omega)) _) rfl))).trans eq⟩), ⟨ra, by omega, (Eq.trans (congrFun (x_up_n _ _ _ (by decide)) _) (Eq.trans (congrFun (x_up_n _ _ _ (by decide)) _) e_ra))⟩, (fun j hj => by obtain ⟨s, hs, es⟩ := hsl j hj; exact ⟨s, hs, (show (x_up (x_up M 41 4 (nI (u_))) 13 4 (lg.2.1 u_)) (50 + 2 * j) 3 = M (50 + 2 * j) 3 from (Eq.trans (congrFun (x_up_n _ _ _ (by omega)) _) (Eq.trans (congrFun (x_up_n _ _ _ (by omega)) _) rfl))).trans es⟩), (fun j hj => by obtain ⟨q, hq, eq⟩ := hS j hj; exact ⟨q, hq, (show (x_up (x_up M 41 4 (nI (u_))) 13 4 (lg.2.1 u_)) 36 j = M 36 j from (Eq.trans (congrFun (x_up_n _ _ _ (by omega)) _) (Eq.trans (congrFun (x_up_n _ _ _ (by omega)) _) rfl))).trans eq⟩)⟩, (Or.inr ⟨u_, rfl, rfl, (by rw [hq]; exact ⟨(Eq.trans (x_up_k _ _ _ (by decide)) (Eq.trans (congrFun (x_up_n _ _ _ (by decide)) _) e_cn)), (AbC_n (AbC_n hA (by omega)) (by omega)), (LCt_k (Eq.trans (congrFun (x_up_n _ _ _ (by omega)) _) (Eq.trans (congrFun (x_up_n _ _ _ (by omega)) _) rfl)) (fun kl => (Eq.trans (congrFun (x_up_n _ _ _ (by omega)) _) (Eq.trans (congrFun (x_up_n _ _ _ (by omega)) _) rfl))) (fun kl => (Eq.trans (congrFun (x_up_n _ _ _ (by omega)) _) (Eq.trans (congrFun (x_up_n _ _ _ (by omega)) _) rfl))) hL), (Eq.trans (x_up_k _ _ _ (by decide)) (Eq.trans (congrFun (x_up_n _ _ _ (by decide)) _) e_nw)), (x_up_s _ _ _ _), (Eq.trans (x_up_k _ _ _ (by decide)) (Eq.trans (congrFun (x_up_n _ _ _ (by decide)) _) e_bt)), (Eq.trans (x_up_k _ _ _ (by decide)) (Eq.trans (congrFun (x_up_n _ _ _ (by decide)) _) e_ph)), (Eq.trans (x_up_k _ _ _ (by decide)) (Eq.trans (congrFun (x_up_n _ _ _ (by decide)) _) e_st)), (Eq.trans (congrFun (x_up_n _ _ _ (by decide)) _) (Eq.trans (congrFun (x_up_n _ _ _ (by decide)) _) e_kn)), (Eq.trans (x_up_k _ _ _ (by decide)) (Eq.trans (congrFun (x_up_n _ _ _ (by decide)) _) e_pu)), (Eq.trans (x_up_k _ _ _ (by decide)) (Eq.trans (congrFun (x_up_n _ _ _ (by decide)) _) e_lf))⟩), ⟨(Eq.trans (congrFun (x_up_n _ _ _ (by decide)) _) (x_up_s _ _ _ _)), (Eq.trans (congrFun (x_up_n _ _ _ (by decide)) _) (Eq.trans (x_up_k _ _ _ (by decide)) e_wn)), fun k hk => by rw [show _ = M 42 k from (Eq.trans (congrFun (x_up_n _ _ _ (by omega)) _) (Eq.trans (congrFun (x_up_n _ _ _ (by omega)) _) rfl)), show _ = M 43 k from (Eq.trans (congrFun (x_up_n _ _ _ (by omega)) _) (Eq.trans (congrFun (x_up_n _ _ _ (by omega)) _) rfl)), show _ = M 44 k from (Eq.trans (congrFun (x_up_n _ _ _ (by omega)) _) (Eq.trans (congrFun (x_up_n _ _ _ (by omega)) _) rfl)), show _ = M 45 k from (Eq.trans (congrFun (x_up_n _ _ _ (by omega)) _) (Eq.trans (congrFun (x_up_n _ _ _ (by omega)) _) rfl))]; exact hLk k hk⟩⟩)⟩⟩)
    · rw [hq] at h42 h43
      refine xr_aload_n dX9_undo_13 0 rfl ?_
      refine xr_getR flX9_54 dX9_undo_14 s_0 rfl ?_
      refine xr_dup dX9_undo_17 rfl ?_
      refine xb_get (v := nI (u_ + 1)) flX9_309 dX9_undo_18 s_41 rfl e_un ?_
      refine xr_iconst (v := 1) dX9_undo_21 rfl ?_
      refine xr_isub dX9_undo_22 ?_
      refine xb_top (y := nI u_) (nI_pred u_) ?_
      refine xr_putI fpX9_309 dX9_undo_23 s_41 rfl rfl rfl ?_
      refine xr_aload_n dX9_undo_26 0 rfl ?_
      refine xr_getR flX9_54 dX9_undo_27 s_0 rfl ?_
      refine xb_get (v := nI (u_)) flX9_309 dX9_undo_30 s_41 rfl (x_up_s _ _ _ _) ?_
      refine xr_istore_n (ls2 := [(1, .int (nI (u_))), (0, .ref (0))]) dX9_undo_33 (by decide) rfl ?_
      refine xr_aload_n dX9_undo_34 1 rfl ?_
      refine xr_aload_n dX9_undo_35 1 rfl ?_
      refine xr_getR flX9_54 dX9_undo_36 s_0 rfl ?_
      refine xr_getR flX9_312 dX9_undo_39 s_41 rfl ?_
      refine xr_iload_n dX9_undo_42 0 rfl ?_
      refine xb_iald (j := u_) (v := 0) dX9_undo_43 s_42 (by omega) (by decide) (Eq.trans (congrFun (x_up_n _ _ _ (by decide)) _) h42) ?_
      refine xr_aload_n dX9_undo_44 1 rfl ?_
      refine xr_getR flX9_54 dX9_undo_45 s_0 rfl ?_
      refine xr_getR flX9_315 dX9_undo_48 s_41 rfl ?_
      refine xr_iload_n dX9_undo_51 0 rfl ?_
      refine xb_iald (j := u_) (v := 4) dX9_undo_52 s_43 (by omega) (by decide) (Eq.trans (congrFun (x_up_n _ _ _ (by decide)) _) h43) ?_
      refine xr_aload_n dX9_undo_53 1 rfl ?_
      refine xr_getR flX9_54 dX9_undo_54 s_0 rfl ?_
      refine xr_getR flX9_318 dX9_undo_57 s_41 rfl ?_
      refine xr_iload_n dX9_undo_60 0 rfl ?_
      refine xb_iald (j := u_) (v := (lg.2.1 u_)) dX9_undo_61 s_44 (by omega) (by decide) (Eq.trans (congrFun (x_up_n _ _ _ (by decide)) _) h44) ?_
      refine xb_cV (As := [.int (0), .int (4), .int ((lg.2.1 u_))]) (rest := []) mlX9_110 (cw_X9_lay_4 (lg.2.1 u_)) dX9_undo_62 s_0 rfl rfl (Nat.le_of_ble_eq_true rfl) (by decide) (by decide) ?_
      refine xr_aload_n dX9_undo_65 1 rfl ?_
      refine xr_getR flX9_54 dX9_undo_66 s_0 rfl ?_
      refine xb_get (v := nI (u_)) flX9_309 dX9_undo_69 s_41 rfl (Eq.trans (congrFun (x_up_n _ _ _ (by decide)) _) (x_up_s _ _ _ _)) ?_
      exact xr_iret dX9_undo_72 rfl rfl (⟨_, rfl, rfl, rfl, (Ke.up (Or.inr (Or.inl (by omega))) (Ke.up (Or.inr (Or.inr (Or.inr (Or.inr (Or.inr (Or.inr (by omega))))))) Ke.rf)), ⟨⟨⟨nh, by omega, (Eq.trans (x_up_k _ _ _ (by decide)) (Eq.trans (congrFun (x_up_n _ _ _ (by decide)) _) e_cn))⟩, ⟨cm, by omega, (Eq.trans (congrFun (x_up_n _ _ _ (by decide)) _) (Eq.trans (congrFun (x_up_n _ _ _ (by decide)) _) e_cm))⟩, ⟨L, by omega, (Eq.trans (congrFun (x_up_n _ _ _ (by decide)) _) (Eq.trans (congrFun (x_up_n _ _ _ (by decide)) _) e_L))⟩, (fun kk hkk => by rw [show (x_up (x_up M 41 4 (nI (u_))) 13 5 (lg.2.1 u_)) 3 kk = M 3 kk from (Eq.trans (congrFun (x_up_n _ _ _ (by omega)) _) (Eq.trans (congrFun (x_up_n _ _ _ (by omega)) _) rfl))]; exact hv kk hkk), (DI_up (by decide) (DI_up (by decide) hD)), ⟨n, by omega, (Eq.trans (congrFun (x_up_n _ _ _ (by decide)) _) (Eq.trans (congrFun (x_up_n _ _ _ (by decide)) _) e_n))⟩, ⟨u_, lw, by omega, by omega, (Eq.trans (congrFun (x_up_n _ _ _ (by decide)) _) (x_up_s _ _ _ _)), (Eq.trans (congrFun (x_up_n _ _ _ (by decide)) _) (Eq.trans (x_up_k _ _ _ (by decide)) e_wn))⟩, ⟨b, by omega, (Eq.trans (congrFun (x_up_n _ _ _ (by decide)) _) (Eq.trans (congrFun (x_up_n _ _ _ (by decide)) _) e_b))⟩, (fun j hj => by obtain ⟨q, hq, eq⟩ := hkd j hj; exact ⟨q, hq, (show (x_up (x_up M 41 4 (nI (u_))) 13 5 (lg.2.1 u_)) 47 j = M 47 j from (Eq.trans (congrFun (x_up_n _ _ _ (by omega)) _) (Eq.trans (congrFun (x_up_n _ _ _ (by omega)) _) rfl))).trans eq⟩), ⟨ra, by omega, (Eq.trans (congrFun (x_up_n _ _ _ (by decide)) _) (Eq.trans (congrFun (x_up_n _ _ _ (by decide)) _) e_ra))⟩, (fun j hj => by obtain ⟨s, hs, es⟩ := hsl j hj; exact ⟨s, hs, (show (x_up (x_up M 41 4 (nI (u_))) 13 5 (lg.2.1 u_)) (50 + 2 * j) 3 = M (50 + 2 * j) 3 from (Eq.trans (congrFun (x_up_n _ _ _ (by omega)) _) (Eq.trans (congrFun (x_up_n _ _ _ (by omega)) _) rfl))).trans es⟩), (fun j hj => by obtain ⟨q, hq, eq⟩ := hS j hj; exact ⟨q, hq, (show (x_up (x_up M 41 4 (nI (u_))) 13 5 (lg.2.1 u_)) 36 j = M 36 j from (Eq.trans (congrFun (x_up_n _ _ _ (by omega)) _) (Eq.trans (congrFun (x_up_n _ _ _ (by omega)) _) rfl))).trans eq⟩)⟩, (Or.inr ⟨u_, rfl, rfl, (by rw [hq]; exact ⟨(Eq.trans (x_up_k _ _ _ (by decide)) (Eq.trans (congrFun (x_up_n _ _ _ (by decide)) _) e_cn)), (AbC_n (AbC_n hA (by omega)) (by omega)), (LCt_k (Eq.trans (congrFun (x_up_n _ _ _ (by omega)) _) (Eq.trans (congrFun (x_up_n _ _ _ (by omega)) _) rfl)) (fun kl => (Eq.trans (congrFun (x_up_n _ _ _ (by omega)) _) (Eq.trans (congrFun (x_up_n _ _ _ (by omega)) _) rfl))) (fun kl => (Eq.trans (congrFun (x_up_n _ _ _ (by omega)) _) (Eq.trans (congrFun (x_up_n _ _ _ (by omega)) _) rfl))) hL), (Eq.trans (x_up_k _ _ _ (by decide)) (Eq.trans (congrFun (x_up_n _ _ _ (by decide)) _) e_nw)), (Eq.trans (x_up_k _ _ _ (by decide)) (Eq.trans (congrFun (x_up_n _ _ _ (by decide)) _) e_rub)), (x_up_s _ _ _ _), (Eq.trans (x_up_k _ _ _ (by decide)) (Eq.trans (congrFun (x_up_n _ _ _ (by decide)) _) e_ph)), (Eq.trans (x_up_k _ _ _ (by decide)) (Eq.trans (congrFun (x_up_n _ _ _ (by decide)) _) e_st)), (Eq.trans (congrFun (x_up_n _ _ _ (by decide)) _) (Eq.trans (congrFun (x_up_n _ _ _ (by decide)) _) e_kn)), (Eq.trans (x_up_k _ _ _ (by decide)) (Eq.trans (congrFun (x_up_n _ _ _ (by decide)) _) e_pu)), (Eq.trans (x_up_k _ _ _ (by decide)) (Eq.trans (congrFun (x_up_n _ _ _ (by decide)) _) e_lf))⟩), ⟨(Eq.trans (congrFun (x_up_n _ _ _ (by decide)) _) (x_up_s _ _ _ _)), (Eq.trans (congrFun (x_up_n _ _ _ (by decide)) _) (Eq.trans (x_up_k _ _ _ (by decide)) e_wn)), fun k hk => by rw [show _ = M 42 k from (Eq.trans (congrFun (x_up_n _ _ _ (by omega)) _) (Eq.trans (congrFun (x_up_n _ _ _ (by omega)) _) rfl)), show _ = M 43 k from (Eq.trans (congrFun (x_up_n _ _ _ (by omega)) _) (Eq.trans (congrFun (x_up_n _ _ _ (by omega)) _) rfl)), show _ = M 44 k from (Eq.trans (congrFun (x_up_n _ _ _ (by omega)) _) (Eq.trans (congrFun (x_up_n _ _ _ (by omega)) _) rfl)), show _ = M 45 k from (Eq.trans (congrFun (x_up_n _ _ _ (by omega)) _) (Eq.trans (congrFun (x_up_n _ _ _ (by omega)) _) rfl))]; exact hLk k hk⟩⟩)⟩⟩)
    · rw [hq] at h42 h43
      refine xr_aload_n dX9_undo_13 0 rfl ?_
      refine xr_getR flX9_54 dX9_undo_14 s_0 rfl ?_
      refine xr_dup dX9_undo_17 rfl ?_
      refine xb_get (v := nI (u_ + 1)) flX9_309 dX9_undo_18 s_41 rfl e_un ?_
      refine xr_iconst (v := 1) dX9_undo_21 rfl ?_
      refine xr_isub dX9_undo_22 ?_
      refine xb_top (y := nI u_) (nI_pred u_) ?_
      refine xr_putI fpX9_309 dX9_undo_23 s_41 rfl rfl rfl ?_
      refine xr_aload_n dX9_undo_26 0 rfl ?_
      refine xr_getR flX9_54 dX9_undo_27 s_0 rfl ?_
      refine xb_get (v := nI (u_)) flX9_309 dX9_undo_30 s_41 rfl (x_up_s _ _ _ _) ?_
      refine xr_istore_n (ls2 := [(1, .int (nI (u_))), (0, .ref (0))]) dX9_undo_33 (by decide) rfl ?_
      refine xr_aload_n dX9_undo_34 1 rfl ?_
      refine xr_aload_n dX9_undo_35 1 rfl ?_
      refine xr_getR flX9_54 dX9_undo_36 s_0 rfl ?_
      refine xr_getR flX9_312 dX9_undo_39 s_41 rfl ?_
      refine xr_iload_n dX9_undo_42 0 rfl ?_
      refine xb_iald (j := u_) (v := 0) dX9_undo_43 s_42 (by omega) (by decide) (Eq.trans (congrFun (x_up_n _ _ _ (by decide)) _) h42) ?_
      refine xr_aload_n dX9_undo_44 1 rfl ?_
      refine xr_getR flX9_54 dX9_undo_45 s_0 rfl ?_
      refine xr_getR flX9_315 dX9_undo_48 s_41 rfl ?_
      refine xr_iload_n dX9_undo_51 0 rfl ?_
      refine xb_iald (j := u_) (v := 5) dX9_undo_52 s_43 (by omega) (by decide) (Eq.trans (congrFun (x_up_n _ _ _ (by decide)) _) h43) ?_
      refine xr_aload_n dX9_undo_53 1 rfl ?_
      refine xr_getR flX9_54 dX9_undo_54 s_0 rfl ?_
      refine xr_getR flX9_318 dX9_undo_57 s_41 rfl ?_
      refine xr_iload_n dX9_undo_60 0 rfl ?_
      refine xb_iald (j := u_) (v := (lg.2.1 u_)) dX9_undo_61 s_44 (by omega) (by decide) (Eq.trans (congrFun (x_up_n _ _ _ (by decide)) _) h44) ?_
      refine xb_cV (As := [.int (0), .int (5), .int ((lg.2.1 u_))]) (rest := []) mlX9_110 (cw_X9_lay_5 (lg.2.1 u_)) dX9_undo_62 s_0 rfl rfl (Nat.le_of_ble_eq_true rfl) (by decide) (by decide) ?_
      refine xr_aload_n dX9_undo_65 1 rfl ?_
      refine xr_getR flX9_54 dX9_undo_66 s_0 rfl ?_
      refine xb_get (v := nI (u_)) flX9_309 dX9_undo_69 s_41 rfl (Eq.trans (congrFun (x_up_n _ _ _ (by decide)) _) (x_up_s _ _ _ _)) ?_
      exact xr_iret dX9_undo_72 rfl rfl (⟨_, rfl, rfl, rfl, (Ke.up (Or.inr (Or.inr (Or.inl (by omega)))) (Ke.up (Or.inr (Or.inr (Or.inr (Or.inr (Or.inr (Or.inr (by omega))))))) Ke.rf)), ⟨⟨⟨nh, by omega, (Eq.trans (x_up_k _ _ _ (by decide)) (Eq.trans (congrFun (x_up_n _ _ _ (by decide)) _) e_cn))⟩, ⟨cm, by omega, (Eq.trans (congrFun (x_up_n _ _ _ (by decide)) _) (Eq.trans (congrFun (x_up_n _ _ _ (by decide)) _) e_cm))⟩, ⟨L, by omega, (Eq.trans (congrFun (x_up_n _ _ _ (by decide)) _) (Eq.trans (congrFun (x_up_n _ _ _ (by decide)) _) e_L))⟩, (fun kk hkk => by rw [show (x_up (x_up M 41 4 (nI (u_))) 13 6 (lg.2.1 u_)) 3 kk = M 3 kk from (Eq.trans (congrFun (x_up_n _ _ _ (by omega)) _) (Eq.trans (congrFun (x_up_n _ _ _ (by omega)) _) rfl))]; exact hv kk hkk), (DI_up (by decide) (DI_up (by decide) hD)), ⟨n, by omega, (Eq.trans (congrFun (x_up_n _ _ _ (by decide)) _) (Eq.trans (congrFun (x_up_n _ _ _ (by decide)) _) e_n))⟩, ⟨u_, lw, by omega, by omega, (Eq.trans (congrFun (x_up_n _ _ _ (by decide)) _) (x_up_s _ _ _ _)), (Eq.trans (congrFun (x_up_n _ _ _ (by decide)) _) (Eq.trans (x_up_k _ _ _ (by decide)) e_wn))⟩, ⟨b, by omega, (Eq.trans (congrFun (x_up_n _ _ _ (by decide)) _) (Eq.trans (congrFun (x_up_n _ _ _ (by decide)) _) e_b))⟩, (fun j hj => by obtain ⟨q, hq, eq⟩ := hkd j hj; exact ⟨q, hq, (show (x_up (x_up M 41 4 (nI (u_))) 13 6 (lg.2.1 u_)) 47 j = M 47 j from (Eq.trans (congrFun (x_up_n _ _ _ (by omega)) _) (Eq.trans (congrFun (x_up_n _ _ _ (by omega)) _) rfl))).trans eq⟩), ⟨ra, by omega, (Eq.trans (congrFun (x_up_n _ _ _ (by decide)) _) (Eq.trans (congrFun (x_up_n _ _ _ (by decide)) _) e_ra))⟩, (fun j hj => by obtain ⟨s, hs, es⟩ := hsl j hj; exact ⟨s, hs, (show (x_up (x_up M 41 4 (nI (u_))) 13 6 (lg.2.1 u_)) (50 + 2 * j) 3 = M (50 + 2 * j) 3 from (Eq.trans (congrFun (x_up_n _ _ _ (by omega)) _) (Eq.trans (congrFun (x_up_n _ _ _ (by omega)) _) rfl))).trans es⟩), (fun j hj => by obtain ⟨q, hq, eq⟩ := hS j hj; exact ⟨q, hq, (show (x_up (x_up M 41 4 (nI (u_))) 13 6 (lg.2.1 u_)) 36 j = M 36 j from (Eq.trans (congrFun (x_up_n _ _ _ (by omega)) _) (Eq.trans (congrFun (x_up_n _ _ _ (by omega)) _) rfl))).trans eq⟩)⟩, (Or.inr ⟨u_, rfl, rfl, (by rw [hq]; exact ⟨(Eq.trans (x_up_k _ _ _ (by decide)) (Eq.trans (congrFun (x_up_n _ _ _ (by decide)) _) e_cn)), (AbC_n (AbC_n hA (by omega)) (by omega)), (LCt_k (Eq.trans (congrFun (x_up_n _ _ _ (by omega)) _) (Eq.trans (congrFun (x_up_n _ _ _ (by omega)) _) rfl)) (fun kl => (Eq.trans (congrFun (x_up_n _ _ _ (by omega)) _) (Eq.trans (congrFun (x_up_n _ _ _ (by omega)) _) rfl))) (fun kl => (Eq.trans (congrFun (x_up_n _ _ _ (by omega)) _) (Eq.trans (congrFun (x_up_n _ _ _ (by omega)) _) rfl))) hL), (Eq.trans (x_up_k _ _ _ (by decide)) (Eq.trans (congrFun (x_up_n _ _ _ (by decide)) _) e_nw)), (Eq.trans (x_up_k _ _ _ (by decide)) (Eq.trans (congrFun (x_up_n _ _ _ (by decide)) _) e_rub)), (Eq.trans (x_up_k _ _ _ (by decide)) (Eq.trans (congrFun (x_up_n _ _ _ (by decide)) _) e_bt)), (x_up_s _ _ _ _), (Eq.trans (x_up_k _ _ _ (by decide)) (Eq.trans (congrFun (x_up_n _ _ _ (by decide)) _) e_st)), (Eq.trans (congrFun (x_up_n _ _ _ (by decide)) _) (Eq.trans (congrFun (x_up_n _ _ _ (by decide)) _) e_kn)), (Eq.trans (x_up_k _ _ _ (by decide)) (Eq.trans (congrFun (x_up_n _ _ _ (by decide)) _) e_pu)), (Eq.trans (x_up_k _ _ _ (by decide)) (Eq.trans (congrFun (x_up_n _ _ _ (by decide)) _) e_lf))⟩), ⟨(Eq.trans (congrFun (x_up_n _ _ _ (by decide)) _) (x_up_s _ _ _ _)), (Eq.trans (congrFun (x_up_n _ _ _ (by decide)) _) (Eq.trans (x_up_k _ _ _ (by decide)) e_wn)), fun k hk => by rw [show _ = M 42 k from (Eq.trans (congrFun (x_up_n _ _ _ (by omega)) _) (Eq.trans (congrFun (x_up_n _ _ _ (by omega)) _) rfl)), show _ = M 43 k from (Eq.trans (congrFun (x_up_n _ _ _ (by omega)) _) (Eq.trans (congrFun (x_up_n _ _ _ (by omega)) _) rfl)), show _ = M 44 k from (Eq.trans (congrFun (x_up_n _ _ _ (by omega)) _) (Eq.trans (congrFun (x_up_n _ _ _ (by omega)) _) rfl)), show _ = M 45 k from (Eq.trans (congrFun (x_up_n _ _ _ (by omega)) _) (Eq.trans (congrFun (x_up_n _ _ _ (by omega)) _) rfl))]; exact hLk k hk⟩⟩)⟩⟩)
    · rw [hq] at h42 h43
      refine xr_aload_n dX9_undo_13 0 rfl ?_
      refine xr_getR flX9_54 dX9_undo_14 s_0 rfl ?_
      refine xr_dup dX9_undo_17 rfl ?_
      refine xb_get (v := nI (u_ + 1)) flX9_309 dX9_undo_18 s_41 rfl e_un ?_
      refine xr_iconst (v := 1) dX9_undo_21 rfl ?_
      refine xr_isub dX9_undo_22 ?_
      refine xb_top (y := nI u_) (nI_pred u_) ?_
      refine xr_putI fpX9_309 dX9_undo_23 s_41 rfl rfl rfl ?_
      refine xr_aload_n dX9_undo_26 0 rfl ?_
      refine xr_getR flX9_54 dX9_undo_27 s_0 rfl ?_
      refine xb_get (v := nI (u_)) flX9_309 dX9_undo_30 s_41 rfl (x_up_s _ _ _ _) ?_
      refine xr_istore_n (ls2 := [(1, .int (nI (u_))), (0, .ref (0))]) dX9_undo_33 (by decide) rfl ?_
      refine xr_aload_n dX9_undo_34 1 rfl ?_
      refine xr_aload_n dX9_undo_35 1 rfl ?_
      refine xr_getR flX9_54 dX9_undo_36 s_0 rfl ?_
      refine xr_getR flX9_312 dX9_undo_39 s_41 rfl ?_
      refine xr_iload_n dX9_undo_42 0 rfl ?_
      refine xb_iald (j := u_) (v := 0) dX9_undo_43 s_42 (by omega) (by decide) (Eq.trans (congrFun (x_up_n _ _ _ (by decide)) _) h42) ?_
      refine xr_aload_n dX9_undo_44 1 rfl ?_
      refine xr_getR flX9_54 dX9_undo_45 s_0 rfl ?_
      refine xr_getR flX9_315 dX9_undo_48 s_41 rfl ?_
      refine xr_iload_n dX9_undo_51 0 rfl ?_
      refine xb_iald (j := u_) (v := 6) dX9_undo_52 s_43 (by omega) (by decide) (Eq.trans (congrFun (x_up_n _ _ _ (by decide)) _) h43) ?_
      refine xr_aload_n dX9_undo_53 1 rfl ?_
      refine xr_getR flX9_54 dX9_undo_54 s_0 rfl ?_
      refine xr_getR flX9_318 dX9_undo_57 s_41 rfl ?_
      refine xr_iload_n dX9_undo_60 0 rfl ?_
      refine xb_iald (j := u_) (v := (lg.2.1 u_)) dX9_undo_61 s_44 (by omega) (by decide) (Eq.trans (congrFun (x_up_n _ _ _ (by decide)) _) h44) ?_
      refine xb_cV (As := [.int (0), .int (6), .int ((lg.2.1 u_))]) (rest := []) mlX9_110 (cw_X9_lay_6 (lg.2.1 u_)) dX9_undo_62 s_0 rfl rfl (Nat.le_of_ble_eq_true rfl) (by decide) (by decide) ?_
      refine xr_aload_n dX9_undo_65 1 rfl ?_
      refine xr_getR flX9_54 dX9_undo_66 s_0 rfl ?_
      refine xb_get (v := nI (u_)) flX9_309 dX9_undo_69 s_41 rfl (Eq.trans (congrFun (x_up_n _ _ _ (by decide)) _) (x_up_s _ _ _ _)) ?_
      exact xr_iret dX9_undo_72 rfl rfl (⟨_, rfl, rfl, rfl, (Ke.up (Or.inr (Or.inr (Or.inr (Or.inl (by omega))))) (Ke.up (Or.inr (Or.inr (Or.inr (Or.inr (Or.inr (Or.inr (by omega))))))) Ke.rf)), ⟨⟨⟨nh, by omega, (Eq.trans (x_up_k _ _ _ (by decide)) (Eq.trans (congrFun (x_up_n _ _ _ (by decide)) _) e_cn))⟩, ⟨cm, by omega, (Eq.trans (congrFun (x_up_n _ _ _ (by decide)) _) (Eq.trans (congrFun (x_up_n _ _ _ (by decide)) _) e_cm))⟩, ⟨L, by omega, (Eq.trans (congrFun (x_up_n _ _ _ (by decide)) _) (Eq.trans (congrFun (x_up_n _ _ _ (by decide)) _) e_L))⟩, (fun kk hkk => by rw [show (x_up (x_up M 41 4 (nI (u_))) 13 7 (lg.2.1 u_)) 3 kk = M 3 kk from (Eq.trans (congrFun (x_up_n _ _ _ (by omega)) _) (Eq.trans (congrFun (x_up_n _ _ _ (by omega)) _) rfl))]; exact hv kk hkk), (DI_up (by decide) (DI_up (by decide) hD)), ⟨n, by omega, (Eq.trans (congrFun (x_up_n _ _ _ (by decide)) _) (Eq.trans (congrFun (x_up_n _ _ _ (by decide)) _) e_n))⟩, ⟨u_, lw, by omega, by omega, (Eq.trans (congrFun (x_up_n _ _ _ (by decide)) _) (x_up_s _ _ _ _)), (Eq.trans (congrFun (x_up_n _ _ _ (by decide)) _) (Eq.trans (x_up_k _ _ _ (by decide)) e_wn))⟩, ⟨b, by omega, (Eq.trans (congrFun (x_up_n _ _ _ (by decide)) _) (Eq.trans (congrFun (x_up_n _ _ _ (by decide)) _) e_b))⟩, (fun j hj => by obtain ⟨q, hq, eq⟩ := hkd j hj; exact ⟨q, hq, (show (x_up (x_up M 41 4 (nI (u_))) 13 7 (lg.2.1 u_)) 47 j = M 47 j from (Eq.trans (congrFun (x_up_n _ _ _ (by omega)) _) (Eq.trans (congrFun (x_up_n _ _ _ (by omega)) _) rfl))).trans eq⟩), ⟨ra, by omega, (Eq.trans (congrFun (x_up_n _ _ _ (by decide)) _) (Eq.trans (congrFun (x_up_n _ _ _ (by decide)) _) e_ra))⟩, (fun j hj => by obtain ⟨s, hs, es⟩ := hsl j hj; exact ⟨s, hs, (show (x_up (x_up M 41 4 (nI (u_))) 13 7 (lg.2.1 u_)) (50 + 2 * j) 3 = M (50 + 2 * j) 3 from (Eq.trans (congrFun (x_up_n _ _ _ (by omega)) _) (Eq.trans (congrFun (x_up_n _ _ _ (by omega)) _) rfl))).trans es⟩), (fun j hj => by obtain ⟨q, hq, eq⟩ := hS j hj; exact ⟨q, hq, (show (x_up (x_up M 41 4 (nI (u_))) 13 7 (lg.2.1 u_)) 36 j = M 36 j from (Eq.trans (congrFun (x_up_n _ _ _ (by omega)) _) (Eq.trans (congrFun (x_up_n _ _ _ (by omega)) _) rfl))).trans eq⟩)⟩, (Or.inr ⟨u_, rfl, rfl, (by rw [hq]; exact ⟨(Eq.trans (x_up_k _ _ _ (by decide)) (Eq.trans (congrFun (x_up_n _ _ _ (by decide)) _) e_cn)), (AbC_n (AbC_n hA (by omega)) (by omega)), (LCt_k (Eq.trans (congrFun (x_up_n _ _ _ (by omega)) _) (Eq.trans (congrFun (x_up_n _ _ _ (by omega)) _) rfl)) (fun kl => (Eq.trans (congrFun (x_up_n _ _ _ (by omega)) _) (Eq.trans (congrFun (x_up_n _ _ _ (by omega)) _) rfl))) (fun kl => (Eq.trans (congrFun (x_up_n _ _ _ (by omega)) _) (Eq.trans (congrFun (x_up_n _ _ _ (by omega)) _) rfl))) hL), (Eq.trans (x_up_k _ _ _ (by decide)) (Eq.trans (congrFun (x_up_n _ _ _ (by decide)) _) e_nw)), (Eq.trans (x_up_k _ _ _ (by decide)) (Eq.trans (congrFun (x_up_n _ _ _ (by decide)) _) e_rub)), (Eq.trans (x_up_k _ _ _ (by decide)) (Eq.trans (congrFun (x_up_n _ _ _ (by decide)) _) e_bt)), (Eq.trans (x_up_k _ _ _ (by decide)) (Eq.trans (congrFun (x_up_n _ _ _ (by decide)) _) e_ph)), (x_up_s _ _ _ _), (Eq.trans (congrFun (x_up_n _ _ _ (by decide)) _) (Eq.trans (congrFun (x_up_n _ _ _ (by decide)) _) e_kn)), (Eq.trans (x_up_k _ _ _ (by decide)) (Eq.trans (congrFun (x_up_n _ _ _ (by decide)) _) e_pu)), (Eq.trans (x_up_k _ _ _ (by decide)) (Eq.trans (congrFun (x_up_n _ _ _ (by decide)) _) e_lf))⟩), ⟨(Eq.trans (congrFun (x_up_n _ _ _ (by decide)) _) (x_up_s _ _ _ _)), (Eq.trans (congrFun (x_up_n _ _ _ (by decide)) _) (Eq.trans (x_up_k _ _ _ (by decide)) e_wn)), fun k hk => by rw [show _ = M 42 k from (Eq.trans (congrFun (x_up_n _ _ _ (by omega)) _) (Eq.trans (congrFun (x_up_n _ _ _ (by omega)) _) rfl)), show _ = M 43 k from (Eq.trans (congrFun (x_up_n _ _ _ (by omega)) _) (Eq.trans (congrFun (x_up_n _ _ _ (by omega)) _) rfl)), show _ = M 44 k from (Eq.trans (congrFun (x_up_n _ _ _ (by omega)) _) (Eq.trans (congrFun (x_up_n _ _ _ (by omega)) _) rfl)), show _ = M 45 k from (Eq.trans (congrFun (x_up_n _ _ _ (by omega)) _) (Eq.trans (congrFun (x_up_n _ _ _ (by omega)) _) rfl))]; exact hLk k hk⟩⟩)⟩⟩)
    · rw [hq] at h42 h43
      refine xr_aload_n dX9_undo_13 0 rfl ?_
      refine xr_getR flX9_54 dX9_undo_14 s_0 rfl ?_
      refine xr_dup dX9_undo_17 rfl ?_
      refine xb_get (v := nI (u_ + 1)) flX9_309 dX9_undo_18 s_41 rfl e_un ?_
      refine xr_iconst (v := 1) dX9_undo_21 rfl ?_
      refine xr_isub dX9_undo_22 ?_
      refine xb_top (y := nI u_) (nI_pred u_) ?_
      refine xr_putI fpX9_309 dX9_undo_23 s_41 rfl rfl rfl ?_
      refine xr_aload_n dX9_undo_26 0 rfl ?_
      refine xr_getR flX9_54 dX9_undo_27 s_0 rfl ?_
      refine xb_get (v := nI (u_)) flX9_309 dX9_undo_30 s_41 rfl (x_up_s _ _ _ _) ?_
      refine xr_istore_n (ls2 := [(1, .int (nI (u_))), (0, .ref (0))]) dX9_undo_33 (by decide) rfl ?_
      refine xr_aload_n dX9_undo_34 1 rfl ?_
      refine xr_aload_n dX9_undo_35 1 rfl ?_
      refine xr_getR flX9_54 dX9_undo_36 s_0 rfl ?_
      refine xr_getR flX9_312 dX9_undo_39 s_41 rfl ?_
      refine xr_iload_n dX9_undo_42 0 rfl ?_
      refine xb_iald (j := u_) (v := 0) dX9_undo_43 s_42 (by omega) (by decide) (Eq.trans (congrFun (x_up_n _ _ _ (by decide)) _) h42) ?_
      refine xr_aload_n dX9_undo_44 1 rfl ?_
      refine xr_getR flX9_54 dX9_undo_45 s_0 rfl ?_
      refine xr_getR flX9_315 dX9_undo_48 s_41 rfl ?_
      refine xr_iload_n dX9_undo_51 0 rfl ?_
      refine xb_iald (j := u_) (v := 7) dX9_undo_52 s_43 (by omega) (by decide) (Eq.trans (congrFun (x_up_n _ _ _ (by decide)) _) h43) ?_
      refine xr_aload_n dX9_undo_53 1 rfl ?_
      refine xr_getR flX9_54 dX9_undo_54 s_0 rfl ?_
      refine xr_getR flX9_318 dX9_undo_57 s_41 rfl ?_
      refine xr_iload_n dX9_undo_60 0 rfl ?_
      refine xb_iald (j := u_) (v := (lg.2.1 u_)) dX9_undo_61 s_44 (by omega) (by decide) (Eq.trans (congrFun (x_up_n _ _ _ (by decide)) _) h44) ?_
      refine xb_cV (As := [.int (0), .int (7), .int ((lg.2.1 u_))]) (rest := []) mlX9_110 (cw_X9_lay_7 (lg.2.1 u_)) dX9_undo_62 s_0 rfl rfl (Nat.le_of_ble_eq_true rfl) (by decide) (by decide) ?_
      refine xr_aload_n dX9_undo_65 1 rfl ?_
      refine xr_getR flX9_54 dX9_undo_66 s_0 rfl ?_
      refine xb_get (v := nI (u_)) flX9_309 dX9_undo_69 s_41 rfl (Eq.trans (congrFun (x_up_n _ _ _ (by decide)) _) (x_up_s _ _ _ _)) ?_
      exact xr_iret dX9_undo_72 rfl rfl (⟨_, rfl, rfl, rfl, (Ke.up (Or.inr (Or.inr (Or.inr (Or.inr (Or.inl (by omega)))))) (Ke.up (Or.inr (Or.inr (Or.inr (Or.inr (Or.inr (Or.inr (by omega))))))) Ke.rf)), ⟨⟨⟨nh, by omega, (Eq.trans (congrFun (x_up_n _ _ _ (by decide)) _) (Eq.trans (congrFun (x_up_n _ _ _ (by decide)) _) e_cn))⟩, ⟨cm, by omega, (Eq.trans (congrFun (x_up_n _ _ _ (by decide)) _) (Eq.trans (congrFun (x_up_n _ _ _ (by decide)) _) e_cm))⟩, ⟨L, by omega, (Eq.trans (congrFun (x_up_n _ _ _ (by decide)) _) (Eq.trans (congrFun (x_up_n _ _ _ (by decide)) _) e_L))⟩, (fun kk hkk => by rw [show (x_up (x_up M 41 4 (nI (u_))) 35 5 (lg.2.1 u_)) 3 kk = M 3 kk from (Eq.trans (congrFun (x_up_n _ _ _ (by omega)) _) (Eq.trans (congrFun (x_up_n _ _ _ (by omega)) _) rfl))]; exact hv kk hkk), (DI_up (by decide) (DI_up (by decide) hD)), ⟨n, by omega, (Eq.trans (congrFun (x_up_n _ _ _ (by decide)) _) (Eq.trans (congrFun (x_up_n _ _ _ (by decide)) _) e_n))⟩, ⟨u_, lw, by omega, by omega, (Eq.trans (congrFun (x_up_n _ _ _ (by decide)) _) (x_up_s _ _ _ _)), (Eq.trans (congrFun (x_up_n _ _ _ (by decide)) _) (Eq.trans (x_up_k _ _ _ (by decide)) e_wn))⟩, ⟨b, by omega, (Eq.trans (congrFun (x_up_n _ _ _ (by decide)) _) (Eq.trans (congrFun (x_up_n _ _ _ (by decide)) _) e_b))⟩, (fun j hj => by obtain ⟨q, hq, eq⟩ := hkd j hj; exact ⟨q, hq, (show (x_up (x_up M 41 4 (nI (u_))) 35 5 (lg.2.1 u_)) 47 j = M 47 j from (Eq.trans (congrFun (x_up_n _ _ _ (by omega)) _) (Eq.trans (congrFun (x_up_n _ _ _ (by omega)) _) rfl))).trans eq⟩), ⟨ra, by omega, (Eq.trans (congrFun (x_up_n _ _ _ (by decide)) _) (Eq.trans (congrFun (x_up_n _ _ _ (by decide)) _) e_ra))⟩, (fun j hj => by obtain ⟨s, hs, es⟩ := hsl j hj; exact ⟨s, hs, (show (x_up (x_up M 41 4 (nI (u_))) 35 5 (lg.2.1 u_)) (50 + 2 * j) 3 = M (50 + 2 * j) 3 from (Eq.trans (congrFun (x_up_n _ _ _ (by omega)) _) (Eq.trans (congrFun (x_up_n _ _ _ (by omega)) _) rfl))).trans es⟩), (fun j hj => by obtain ⟨q, hq, eq⟩ := hS j hj; exact ⟨q, hq, (show (x_up (x_up M 41 4 (nI (u_))) 35 5 (lg.2.1 u_)) 36 j = M 36 j from (Eq.trans (congrFun (x_up_n _ _ _ (by omega)) _) (Eq.trans (congrFun (x_up_n _ _ _ (by omega)) _) rfl))).trans eq⟩)⟩, (Or.inr ⟨u_, rfl, rfl, (by rw [hq]; exact ⟨(Eq.trans (congrFun (x_up_n _ _ _ (by decide)) _) (Eq.trans (congrFun (x_up_n _ _ _ (by decide)) _) e_cn)), (AbC_n (AbC_n hA (by omega)) (by omega)), (LCt_k (Eq.trans (congrFun (x_up_n _ _ _ (by omega)) _) (Eq.trans (congrFun (x_up_n _ _ _ (by omega)) _) rfl)) (fun kl => (Eq.trans (congrFun (x_up_n _ _ _ (by omega)) _) (Eq.trans (congrFun (x_up_n _ _ _ (by omega)) _) rfl))) (fun kl => (Eq.trans (congrFun (x_up_n _ _ _ (by omega)) _) (Eq.trans (congrFun (x_up_n _ _ _ (by omega)) _) rfl))) hL), (Eq.trans (congrFun (x_up_n _ _ _ (by decide)) _) (Eq.trans (congrFun (x_up_n _ _ _ (by decide)) _) e_nw)), (Eq.trans (congrFun (x_up_n _ _ _ (by decide)) _) (Eq.trans (congrFun (x_up_n _ _ _ (by decide)) _) e_rub)), (Eq.trans (congrFun (x_up_n _ _ _ (by decide)) _) (Eq.trans (congrFun (x_up_n _ _ _ (by decide)) _) e_bt)), (Eq.trans (congrFun (x_up_n _ _ _ (by decide)) _) (Eq.trans (congrFun (x_up_n _ _ _ (by decide)) _) e_ph)), (Eq.trans (congrFun (x_up_n _ _ _ (by decide)) _) (Eq.trans (congrFun (x_up_n _ _ _ (by decide)) _) e_st)), (x_up_s _ _ _ _), (Eq.trans (congrFun (x_up_n _ _ _ (by decide)) _) (Eq.trans (congrFun (x_up_n _ _ _ (by decide)) _) e_pu)), (Eq.trans (congrFun (x_up_n _ _ _ (by decide)) _) (Eq.trans (congrFun (x_up_n _ _ _ (by decide)) _) e_lf))⟩), ⟨(Eq.trans (congrFun (x_up_n _ _ _ (by decide)) _) (x_up_s _ _ _ _)), (Eq.trans (congrFun (x_up_n _ _ _ (by decide)) _) (Eq.trans (x_up_k _ _ _ (by decide)) e_wn)), fun k hk => by rw [show _ = M 42 k from (Eq.trans (congrFun (x_up_n _ _ _ (by omega)) _) (Eq.trans (congrFun (x_up_n _ _ _ (by omega)) _) rfl)), show _ = M 43 k from (Eq.trans (congrFun (x_up_n _ _ _ (by omega)) _) (Eq.trans (congrFun (x_up_n _ _ _ (by omega)) _) rfl)), show _ = M 44 k from (Eq.trans (congrFun (x_up_n _ _ _ (by omega)) _) (Eq.trans (congrFun (x_up_n _ _ _ (by omega)) _) rfl)), show _ = M 45 k from (Eq.trans (congrFun (x_up_n _ _ _ (by omega)) _) (Eq.trans (congrFun (x_up_n _ _ _ (by omega)) _) rfl))]; exact hLk k hk⟩⟩)⟩⟩)
  · refine xr_bipush (v := -5) dX9_undo_10 rfl ?_
    exact xr_iret dX9_undo_12 rfl rfl (⟨_, rfl, rfl, rfl, Ke.rf, ⟨⟨⟨nh, by omega, e_cn⟩, ⟨cm, by omega, e_cm⟩, ⟨L, by omega, e_L⟩, (fun kk hkk => by rw [show M 3 kk = M 3 kk from rfl]; exact hv kk hkk), hD, ⟨n, by omega, e_n⟩, ⟨lu, lw, by omega, by omega, e_un, e_wn⟩, ⟨b, by omega, e_b⟩, (fun j hj => by obtain ⟨q, hq, eq⟩ := hkd j hj; exact ⟨q, hq, (show M 47 j = M 47 j from rfl).trans eq⟩), ⟨ra, by omega, e_ra⟩, (fun j hj => by obtain ⟨s, hs, es⟩ := hsl j hj; exact ⟨s, hs, (show M (50 + 2 * j) 3 = M (50 + 2 * j) 3 from rfl).trans es⟩), (fun j hj => by obtain ⟨q, hq, eq⟩ := hS j hj; exact ⟨q, hq, (show M 36 j = M 36 j from rfl).trans eq⟩)⟩, (Or.inl ⟨(nI_eq (a := lu) (b := 0) (by omega) (by decide)).mp c1, rfl, hG0, hLg0⟩)⟩⟩)
set_option maxRecDepth 100000 in
set_option maxHeartbeats 4000000 in
theorem gx_X9_redo {nh : Nat} {D : xM} {t : Option zL} {S : Nat → Int32} {lg : xL} {lu lw : Nat} {l : Launch} {G : xG} {M : xM} {J : xJ} (hI : InvC M) (hWG : WG nh D S) (hG : CG M nh D t S) (hWL : WLg nh lg lu lw) (hLg : CLg M lg lu lw) : x_M l G fX9_redo 3 0 0 [.ref (0)] x_SH M J (qKI WUN M J (fun r M2 => InvC M2 ∧ (ERd CG CLg nh D t S lg lu lw M2 r))) := by
  refine xb_of pX9 (Nat.le_of_ble_eq_true rfl) rfl ?_
  obtain ⟨⟨cn, h_cn, e_cn⟩, ⟨cm, h_cm, e_cm⟩, ⟨L, h_L, e_L⟩, hv, hD, ⟨n, h_n, e_n⟩, ⟨un, wn, h_uw, h_wn, e_un, e_wn⟩, ⟨b, h_b, e_b⟩, hkd, ⟨ra, h_ra, e_ra⟩, hsl, hS⟩ := hI
  obtain ⟨huw, hw40, hWk⟩ := hWL
  have hG0 := hG
  have hLg0 := hLg
  obtain ⟨hn5, hW, hrub, hbeat⟩ := hWG
  obtain ⟨hGn, hA, hL, e_nw, e_rub, e_bt, e_ph, e_st, e_kn, e_pu, e_lf⟩ := hG
  obtain rfl : nh = cn := (nI_eq (by omega) (by omega)).mp (hGn.symm.trans e_cn)
  have hbt : ¬ S 2 = 0 := ne2_0 hbeat.1
  obtain ⟨hl4, hl5, hLk⟩ := hLg
  obtain rfl : lu = un := (nI_eq (by omega) (by omega)).mp (hl4.symm.trans e_un)
  obtain rfl : lw = wn := (nI_eq (by omega) (by omega)).mp (hl5.symm.trans e_wn)
  refine xr_aload_n dX9_redo_0 0 rfl ?_
  refine xr_getR flX9_54 dX9_redo_1 s_0 rfl ?_
  refine xb_get (v := nI (lu)) flX9_309 dX9_redo_4 s_41 rfl e_un ?_
  refine xr_aload_n dX9_redo_7 0 rfl ?_
  refine xr_getR flX9_54 dX9_redo_8 s_0 rfl ?_
  refine xb_get (v := nI (lw)) flX9_321 dX9_redo_11 s_41 rfl e_wn ?_
  refine xr_icmp_ne (tgt := 20) dX9_redo_14 rfl (fun c1 => ?_) (fun c1 => ?_)
  · have hne : lu < lw := by
      have h0 : lu ≠ lw := fun q => c1 (congrArg nI q)
      omega
    obtain ⟨hq20, hqn, hb1, hb2⟩ := hWk lu hne
    obtain ⟨⟨h42, h43⟩, h44, h45⟩ := hLk lu hne
    rcases key_s hq20 hqn with ⟨i, hi, hq⟩ | ⟨i, hi, hq⟩ | ⟨i, hi, hq⟩ | hq | hq | hq | hq | hq
    · rw [hq, if_pos (by omega), show (5 * 0 + i) % 5 = i by omega] at h42
      rw [hq, if_pos (by omega), show (5 * 0 + i) / 5 = 0 by omega] at h43
      refine xr_aload_n dX9_redo_20 0 rfl ?_
      refine xr_getR flX9_54 dX9_redo_21 s_0 rfl ?_
      refine xb_get (v := nI (lu)) flX9_309 dX9_redo_24 s_41 rfl e_un ?_
      refine xr_istore_n (ls2 := [(1, .int (nI (lu))), (0, .ref (0))]) dX9_redo_27 (by decide) rfl ?_
      refine xr_aload_n dX9_redo_28 1 rfl ?_
      refine xr_getR flX9_54 dX9_redo_29 s_0 rfl ?_
      refine xr_dup dX9_redo_32 rfl ?_
      refine xb_get (v := nI (lu)) flX9_309 dX9_redo_33 s_41 rfl e_un ?_
      refine xr_iconst (v := 1) dX9_redo_36 rfl ?_
      refine xr_iadd dX9_redo_37 ?_
      refine xb_top (y := nI (lu + 1)) (nI_add (lu) (1)) ?_
      refine xr_putI fpX9_309 dX9_redo_38 s_41 rfl rfl rfl ?_
      refine xr_aload_n dX9_redo_41 1 rfl ?_
      refine xr_aload_n dX9_redo_42 1 rfl ?_
      refine xr_getR flX9_54 dX9_redo_43 s_0 rfl ?_
      refine xr_getR flX9_312 dX9_redo_46 s_41 rfl ?_
      refine xr_iload_n dX9_redo_49 0 rfl ?_
      refine xb_iald (j := lu) (v := nI (i)) dX9_redo_50 s_42 (by omega) (by decide) (Eq.trans (congrFun (x_up_n _ _ _ (by decide)) _) h42) ?_
      refine xr_aload_n dX9_redo_51 1 rfl ?_
      refine xr_getR flX9_54 dX9_redo_52 s_0 rfl ?_
      refine xr_getR flX9_315 dX9_redo_55 s_41 rfl ?_
      refine xr_iload_n dX9_redo_58 0 rfl ?_
      refine xb_iald (j := lu) (v := 0) dX9_redo_59 s_43 (by omega) (by decide) (Eq.trans (congrFun (x_up_n _ _ _ (by decide)) _) h43) ?_
      refine xr_aload_n dX9_redo_60 1 rfl ?_
      refine xr_getR flX9_54 dX9_redo_61 s_0 rfl ?_
      refine xr_getR flX9_324 dX9_redo_64 s_41 rfl ?_
      refine xr_iload_n dX9_redo_67 0 rfl ?_
      refine xb_iald (j := lu) (v := (lg.2.2 lu)) dX9_redo_68 s_45 (by omega) (by decide) (Eq.trans (congrFun (x_up_n _ _ _ (by decide)) _) h45) ?_
      refine xb_cV (As := [.int (nI (i)), .int (0), .int ((lg.2.2 lu))]) (rest := []) mlX9_110 (cw_X9_lay_0 (lg.2.2 lu) (i := i) h_cn (Eq.trans (congrFun (x_up_n _ _ _ (by decide)) _) e_cn) (by omega)) dX9_redo_69 s_0 rfl rfl (Nat.le_of_ble_eq_true rfl) (by decide) (by decide) ?_
      refine xr_aload_n dX9_redo_72 1 rfl ?_
      refine xr_getR flX9_54 dX9_redo_73 s_0 rfl ?_
      refine xb_get (v := nI (lw)) flX9_321 dX9_redo_76 s_41 rfl (Eq.trans (congrFun (x_up_n _ _ _ (by omega)) _) (Eq.trans (x_up_k _ _ _ (by decide)) e_wn)) ?_
      refine xr_aload_n dX9_redo_79 1 rfl ?_
      refine xr_getR flX9_54 dX9_redo_80 s_0 rfl ?_
      refine xb_get (v := nI (lu + 1)) flX9_309 dX9_redo_83 s_41 rfl (Eq.trans (congrFun (x_up_n _ _ _ (by omega)) _) (x_up_s _ _ _ _)) ?_
      refine xr_isub dX9_redo_86 ?_
      exact xr_iret dX9_redo_87 rfl rfl (⟨_, rfl, rfl, rfl, (Ke.up (Or.inr (Or.inr (Or.inr (Or.inr (Or.inr (Or.inl (by omega))))))) (Ke.up (Or.inr (Or.inr (Or.inr (Or.inr (Or.inr (Or.inr (by omega))))))) Ke.rf)), ⟨⟨⟨nh, by omega, (Eq.trans (congrFun (x_up_n _ _ _ (by omega)) _) (Eq.trans (congrFun (x_up_n _ _ _ (by decide)) _) e_cn))⟩, ⟨cm, by omega, (Eq.trans (congrFun (x_up_n _ _ _ (by omega)) _) (Eq.trans (congrFun (x_up_n _ _ _ (by decide)) _) e_cm))⟩, ⟨L, by omega, (Eq.trans (congrFun (x_up_n _ _ _ (by omega)) _) (Eq.trans (congrFun (x_up_n _ _ _ (by decide)) _) e_L))⟩, (fun kk hkk => by rw [show (x_up (x_up M 41 4 (nI (lu + 1))) (15 + i) 0 (lg.2.2 lu)) 3 kk = M 3 kk from (Eq.trans (congrFun (x_up_n _ _ _ (by omega)) _) (Eq.trans (congrFun (x_up_n _ _ _ (by omega)) _) rfl))]; exact hv kk hkk), (DI_up (by omega) (DI_up (by decide) hD)), ⟨n, by omega, (Eq.trans (congrFun (x_up_n _ _ _ (by omega)) _) (Eq.trans (congrFun (x_up_n _ _ _ (by decide)) _) e_n))⟩, ⟨lu + 1, lw, by omega, by omega, (Eq.trans (congrFun (x_up_n _ _ _ (by omega)) _) (x_up_s _ _ _ _)), (Eq.trans (congrFun (x_up_n _ _ _ (by omega)) _) (Eq.trans (x_up_k _ _ _ (by decide)) e_wn))⟩, ⟨b, by omega, (Eq.trans (congrFun (x_up_n _ _ _ (by omega)) _) (Eq.trans (congrFun (x_up_n _ _ _ (by decide)) _) e_b))⟩, (fun j hj => by obtain ⟨q, hq, eq⟩ := hkd j hj; exact ⟨q, hq, (show (x_up (x_up M 41 4 (nI (lu + 1))) (15 + i) 0 (lg.2.2 lu)) 47 j = M 47 j from (Eq.trans (congrFun (x_up_n _ _ _ (by omega)) _) (Eq.trans (congrFun (x_up_n _ _ _ (by omega)) _) rfl))).trans eq⟩), ⟨ra, by omega, (Eq.trans (congrFun (x_up_n _ _ _ (by omega)) _) (Eq.trans (congrFun (x_up_n _ _ _ (by decide)) _) e_ra))⟩, (fun j hj => by obtain ⟨s, hs, es⟩ := hsl j hj; exact ⟨s, hs, (show (x_up (x_up M 41 4 (nI (lu + 1))) (15 + i) 0 (lg.2.2 lu)) (50 + 2 * j) 3 = M (50 + 2 * j) 3 from (Eq.trans (congrFun (x_up_n _ _ _ (by omega)) _) (Eq.trans (congrFun (x_up_n _ _ _ (by omega)) _) rfl))).trans es⟩), (fun j hj => by obtain ⟨q, hq, eq⟩ := hS j hj; exact ⟨q, hq, (show (x_up (x_up M 41 4 (nI (lu + 1))) (15 + i) 0 (lg.2.2 lu)) 36 j = M 36 j from (Eq.trans (congrFun (x_up_n _ _ _ (by omega)) _) (Eq.trans (congrFun (x_up_n _ _ _ (by omega)) _) rfl))).trans eq⟩)⟩, (Or.inr ⟨hne, rfl, (by rw [hq, sK_h (by omega) (by decide)]; exact ⟨(Eq.trans (congrFun (x_up_n _ _ _ (by omega)) _) (Eq.trans (congrFun (x_up_n _ _ _ (by decide)) _) e_cn)), (by rw [lK_0 (by omega) (by decide), dK_0 (by omega)]; exact (AbC_up (AbC_n hA (Or.inr (by omega))))), (LCt_k (Eq.trans (congrFun (x_up_n _ _ _ (by omega)) _) (Eq.trans (congrFun (x_up_n _ _ _ (by omega)) _) rfl)) (fun kl => (Eq.trans (congrFun (x_up_n _ _ _ (by omega)) _) (Eq.trans (congrFun (x_up_n _ _ _ (by omega)) _) rfl))) (fun kl => (Eq.trans (congrFun (x_up_n _ _ _ (by omega)) _) (Eq.trans (congrFun (x_up_n _ _ _ (by omega)) _) rfl))) hL), (Eq.trans (congrFun (x_up_n _ _ _ (by omega)) _) (Eq.trans (congrFun (x_up_n _ _ _ (by decide)) _) e_nw)), (Eq.trans (congrFun (x_up_n _ _ _ (by omega)) _) (Eq.trans (congrFun (x_up_n _ _ _ (by decide)) _) e_rub)), (Eq.trans (congrFun (x_up_n _ _ _ (by omega)) _) (Eq.trans (congrFun (x_up_n _ _ _ (by decide)) _) e_bt)), (Eq.trans (congrFun (x_up_n _ _ _ (by omega)) _) (Eq.trans (congrFun (x_up_n _ _ _ (by decide)) _) e_ph)), (Eq.trans (congrFun (x_up_n _ _ _ (by omega)) _) (Eq.trans (congrFun (x_up_n _ _ _ (by decide)) _) e_st)), (Eq.trans (congrFun (x_up_n _ _ _ (by omega)) _) (Eq.trans (congrFun (x_up_n _ _ _ (by decide)) _) e_kn)), (Eq.trans (congrFun (x_up_n _ _ _ (by omega)) _) (Eq.trans (congrFun (x_up_n _ _ _ (by decide)) _) e_pu)), (Eq.trans (congrFun (x_up_n _ _ _ (by omega)) _) (Eq.trans (congrFun (x_up_n _ _ _ (by decide)) _) e_lf))⟩), ⟨(Eq.trans (congrFun (x_up_n _ _ _ (by omega)) _) (x_up_s _ _ _ _)), (Eq.trans (congrFun (x_up_n _ _ _ (by omega)) _) (Eq.trans (x_up_k _ _ _ (by decide)) e_wn)), fun k hk => by rw [show _ = M 42 k from (Eq.trans (congrFun (x_up_n _ _ _ (by omega)) _) (Eq.trans (congrFun (x_up_n _ _ _ (by omega)) _) rfl)), show _ = M 43 k from (Eq.trans (congrFun (x_up_n _ _ _ (by omega)) _) (Eq.trans (congrFun (x_up_n _ _ _ (by omega)) _) rfl)), show _ = M 44 k from (Eq.trans (congrFun (x_up_n _ _ _ (by omega)) _) (Eq.trans (congrFun (x_up_n _ _ _ (by omega)) _) rfl)), show _ = M 45 k from (Eq.trans (congrFun (x_up_n _ _ _ (by omega)) _) (Eq.trans (congrFun (x_up_n _ _ _ (by omega)) _) rfl))]; exact hLk k hk⟩⟩)⟩⟩)
    · rw [hq, if_pos (by omega), show (5 * 1 + i) % 5 = i by omega] at h42
      rw [hq, if_pos (by omega), show (5 * 1 + i) / 5 = 1 by omega] at h43
      refine xr_aload_n dX9_redo_20 0 rfl ?_
      refine xr_getR flX9_54 dX9_redo_21 s_0 rfl ?_
      refine xb_get (v := nI (lu)) flX9_309 dX9_redo_24 s_41 rfl e_un ?_
      refine xr_istore_n (ls2 := [(1, .int (nI (lu))), (0, .ref (0))]) dX9_redo_27 (by decide) rfl ?_
      refine xr_aload_n dX9_redo_28 1 rfl ?_
      refine xr_getR flX9_54 dX9_redo_29 s_0 rfl ?_
      refine xr_dup dX9_redo_32 rfl ?_
      refine xb_get (v := nI (lu)) flX9_309 dX9_redo_33 s_41 rfl e_un ?_
      refine xr_iconst (v := 1) dX9_redo_36 rfl ?_
      refine xr_iadd dX9_redo_37 ?_
      refine xb_top (y := nI (lu + 1)) (nI_add (lu) (1)) ?_
      refine xr_putI fpX9_309 dX9_redo_38 s_41 rfl rfl rfl ?_
      refine xr_aload_n dX9_redo_41 1 rfl ?_
      refine xr_aload_n dX9_redo_42 1 rfl ?_
      refine xr_getR flX9_54 dX9_redo_43 s_0 rfl ?_
      refine xr_getR flX9_312 dX9_redo_46 s_41 rfl ?_
      refine xr_iload_n dX9_redo_49 0 rfl ?_
      refine xb_iald (j := lu) (v := nI (i)) dX9_redo_50 s_42 (by omega) (by decide) (Eq.trans (congrFun (x_up_n _ _ _ (by decide)) _) h42) ?_
      refine xr_aload_n dX9_redo_51 1 rfl ?_
      refine xr_getR flX9_54 dX9_redo_52 s_0 rfl ?_
      refine xr_getR flX9_315 dX9_redo_55 s_41 rfl ?_
      refine xr_iload_n dX9_redo_58 0 rfl ?_
      refine xb_iald (j := lu) (v := 1) dX9_redo_59 s_43 (by omega) (by decide) (Eq.trans (congrFun (x_up_n _ _ _ (by decide)) _) h43) ?_
      refine xr_aload_n dX9_redo_60 1 rfl ?_
      refine xr_getR flX9_54 dX9_redo_61 s_0 rfl ?_
      refine xr_getR flX9_324 dX9_redo_64 s_41 rfl ?_
      refine xr_iload_n dX9_redo_67 0 rfl ?_
      refine xb_iald (j := lu) (v := (lg.2.2 lu)) dX9_redo_68 s_45 (by omega) (by decide) (Eq.trans (congrFun (x_up_n _ _ _ (by decide)) _) h45) ?_
      refine xb_cV (As := [.int (nI (i)), .int (1), .int ((lg.2.2 lu))]) (rest := []) mlX9_110 (cw_X9_lay_1 (lg.2.2 lu) (i := i) h_cn (Eq.trans (congrFun (x_up_n _ _ _ (by decide)) _) e_cn) (by omega)) dX9_redo_69 s_0 rfl rfl (Nat.le_of_ble_eq_true rfl) (by decide) (by decide) ?_
      refine xr_aload_n dX9_redo_72 1 rfl ?_
      refine xr_getR flX9_54 dX9_redo_73 s_0 rfl ?_
      refine xb_get (v := nI (lw)) flX9_321 dX9_redo_76 s_41 rfl (Eq.trans (congrFun (x_up_n _ _ _ (by omega)) _) (Eq.trans (x_up_k _ _ _ (by decide)) e_wn)) ?_
      refine xr_aload_n dX9_redo_79 1 rfl ?_
      refine xr_getR flX9_54 dX9_redo_80 s_0 rfl ?_
      refine xb_get (v := nI (lu + 1)) flX9_309 dX9_redo_83 s_41 rfl (Eq.trans (congrFun (x_up_n _ _ _ (by omega)) _) (x_up_s _ _ _ _)) ?_
      refine xr_isub dX9_redo_86 ?_
      exact xr_iret dX9_redo_87 rfl rfl (⟨_, rfl, rfl, rfl, (Ke.up (Or.inr (Or.inr (Or.inr (Or.inr (Or.inr (Or.inl (by omega))))))) (Ke.up (Or.inr (Or.inr (Or.inr (Or.inr (Or.inr (Or.inr (by omega))))))) Ke.rf)), ⟨⟨⟨nh, by omega, (Eq.trans (congrFun (x_up_n _ _ _ (by omega)) _) (Eq.trans (congrFun (x_up_n _ _ _ (by decide)) _) e_cn))⟩, ⟨cm, by omega, (Eq.trans (congrFun (x_up_n _ _ _ (by omega)) _) (Eq.trans (congrFun (x_up_n _ _ _ (by decide)) _) e_cm))⟩, ⟨L, by omega, (Eq.trans (congrFun (x_up_n _ _ _ (by omega)) _) (Eq.trans (congrFun (x_up_n _ _ _ (by decide)) _) e_L))⟩, (fun kk hkk => by rw [show (x_up (x_up M 41 4 (nI (lu + 1))) (15 + i) 1 (lg.2.2 lu)) 3 kk = M 3 kk from (Eq.trans (congrFun (x_up_n _ _ _ (by omega)) _) (Eq.trans (congrFun (x_up_n _ _ _ (by omega)) _) rfl))]; exact hv kk hkk), (DI_up (by omega) (DI_up (by decide) hD)), ⟨n, by omega, (Eq.trans (congrFun (x_up_n _ _ _ (by omega)) _) (Eq.trans (congrFun (x_up_n _ _ _ (by decide)) _) e_n))⟩, ⟨lu + 1, lw, by omega, by omega, (Eq.trans (congrFun (x_up_n _ _ _ (by omega)) _) (x_up_s _ _ _ _)), (Eq.trans (congrFun (x_up_n _ _ _ (by omega)) _) (Eq.trans (x_up_k _ _ _ (by decide)) e_wn))⟩, ⟨b, by omega, (Eq.trans (congrFun (x_up_n _ _ _ (by omega)) _) (Eq.trans (congrFun (x_up_n _ _ _ (by decide)) _) e_b))⟩, (fun j hj => by obtain ⟨q, hq, eq⟩ := hkd j hj; exact ⟨q, hq, (show (x_up (x_up M 41 4 (nI (lu + 1))) (15 + i) 1 (lg.2.2 lu)) 47 j = M 47 j from (Eq.trans (congrFun (x_up_n _ _ _ (by omega)) _) (Eq.trans (congrFun (x_up_n _ _ _ (by omega)) _) rfl))).trans eq⟩), ⟨ra, by omega, (Eq.trans (congrFun (x_up_n _ _ _ (by omega)) _) (Eq.trans (congrFun (x_up_n _ _ _ (by decide)) _) e_ra))⟩, (fun j hj => by obtain ⟨s, hs, es⟩ := hsl j hj; exact ⟨s, hs, (show (x_up (x_up M 41 4 (nI (lu + 1))) (15 + i) 1 (lg.2.2 lu)) (50 + 2 * j) 3 = M (50 + 2 * j) 3 from (Eq.trans (congrFun (x_up_n _ _ _ (by omega)) _) (Eq.trans (congrFun (x_up_n _ _ _ (by omega)) _) rfl))).trans es⟩), (fun j hj => by obtain ⟨q, hq, eq⟩ := hS j hj; exact ⟨q, hq, (show (x_up (x_up M 41 4 (nI (lu + 1))) (15 + i) 1 (lg.2.2 lu)) 36 j = M 36 j from (Eq.trans (congrFun (x_up_n _ _ _ (by omega)) _) (Eq.trans (congrFun (x_up_n _ _ _ (by omega)) _) rfl))).trans eq⟩)⟩, (Or.inr ⟨hne, rfl, (by rw [hq, sK_h (by omega) (by decide)]; exact ⟨(Eq.trans (congrFun (x_up_n _ _ _ (by omega)) _) (Eq.trans (congrFun (x_up_n _ _ _ (by decide)) _) e_cn)), (by rw [lK_0 (by omega) (by decide), dK_1 (by omega)]; exact (AbC_up (AbC_n hA (Or.inr (by omega))))), (LCt_k (Eq.trans (congrFun (x_up_n _ _ _ (by omega)) _) (Eq.trans (congrFun (x_up_n _ _ _ (by omega)) _) rfl)) (fun kl => (Eq.trans (congrFun (x_up_n _ _ _ (by omega)) _) (Eq.trans (congrFun (x_up_n _ _ _ (by omega)) _) rfl))) (fun kl => (Eq.trans (congrFun (x_up_n _ _ _ (by omega)) _) (Eq.trans (congrFun (x_up_n _ _ _ (by omega)) _) rfl))) hL), (Eq.trans (congrFun (x_up_n _ _ _ (by omega)) _) (Eq.trans (congrFun (x_up_n _ _ _ (by decide)) _) e_nw)), (Eq.trans (congrFun (x_up_n _ _ _ (by omega)) _) (Eq.trans (congrFun (x_up_n _ _ _ (by decide)) _) e_rub)), (Eq.trans (congrFun (x_up_n _ _ _ (by omega)) _) (Eq.trans (congrFun (x_up_n _ _ _ (by decide)) _) e_bt)), (Eq.trans (congrFun (x_up_n _ _ _ (by omega)) _) (Eq.trans (congrFun (x_up_n _ _ _ (by decide)) _) e_ph)), (Eq.trans (congrFun (x_up_n _ _ _ (by omega)) _) (Eq.trans (congrFun (x_up_n _ _ _ (by decide)) _) e_st)), (Eq.trans (congrFun (x_up_n _ _ _ (by omega)) _) (Eq.trans (congrFun (x_up_n _ _ _ (by decide)) _) e_kn)), (Eq.trans (congrFun (x_up_n _ _ _ (by omega)) _) (Eq.trans (congrFun (x_up_n _ _ _ (by decide)) _) e_pu)), (Eq.trans (congrFun (x_up_n _ _ _ (by omega)) _) (Eq.trans (congrFun (x_up_n _ _ _ (by decide)) _) e_lf))⟩), ⟨(Eq.trans (congrFun (x_up_n _ _ _ (by omega)) _) (x_up_s _ _ _ _)), (Eq.trans (congrFun (x_up_n _ _ _ (by omega)) _) (Eq.trans (x_up_k _ _ _ (by decide)) e_wn)), fun k hk => by rw [show _ = M 42 k from (Eq.trans (congrFun (x_up_n _ _ _ (by omega)) _) (Eq.trans (congrFun (x_up_n _ _ _ (by omega)) _) rfl)), show _ = M 43 k from (Eq.trans (congrFun (x_up_n _ _ _ (by omega)) _) (Eq.trans (congrFun (x_up_n _ _ _ (by omega)) _) rfl)), show _ = M 44 k from (Eq.trans (congrFun (x_up_n _ _ _ (by omega)) _) (Eq.trans (congrFun (x_up_n _ _ _ (by omega)) _) rfl)), show _ = M 45 k from (Eq.trans (congrFun (x_up_n _ _ _ (by omega)) _) (Eq.trans (congrFun (x_up_n _ _ _ (by omega)) _) rfl))]; exact hLk k hk⟩⟩)⟩⟩)
    · rw [hq, if_pos (by omega), show (5 * 2 + i) % 5 = i by omega] at h42
      rw [hq, if_pos (by omega), show (5 * 2 + i) / 5 = 2 by omega] at h43
      refine xr_aload_n dX9_redo_20 0 rfl ?_
      refine xr_getR flX9_54 dX9_redo_21 s_0 rfl ?_
      refine xb_get (v := nI (lu)) flX9_309 dX9_redo_24 s_41 rfl e_un ?_
      refine xr_istore_n (ls2 := [(1, .int (nI (lu))), (0, .ref (0))]) dX9_redo_27 (by decide) rfl ?_
      refine xr_aload_n dX9_redo_28 1 rfl ?_
      refine xr_getR flX9_54 dX9_redo_29 s_0 rfl ?_
      refine xr_dup dX9_redo_32 rfl ?_
      refine xb_get (v := nI (lu)) flX9_309 dX9_redo_33 s_41 rfl e_un ?_
      refine xr_iconst (v := 1) dX9_redo_36 rfl ?_
      refine xr_iadd dX9_redo_37 ?_
      refine xb_top (y := nI (lu + 1)) (nI_add (lu) (1)) ?_
      refine xr_putI fpX9_309 dX9_redo_38 s_41 rfl rfl rfl ?_
      refine xr_aload_n dX9_redo_41 1 rfl ?_
      refine xr_aload_n dX9_redo_42 1 rfl ?_
      refine xr_getR flX9_54 dX9_redo_43 s_0 rfl ?_
      refine xr_getR flX9_312 dX9_redo_46 s_41 rfl ?_
      refine xr_iload_n dX9_redo_49 0 rfl ?_
      refine xb_iald (j := lu) (v := nI (i)) dX9_redo_50 s_42 (by omega) (by decide) (Eq.trans (congrFun (x_up_n _ _ _ (by decide)) _) h42) ?_
      refine xr_aload_n dX9_redo_51 1 rfl ?_
      refine xr_getR flX9_54 dX9_redo_52 s_0 rfl ?_
      refine xr_getR flX9_315 dX9_redo_55 s_41 rfl ?_
      refine xr_iload_n dX9_redo_58 0 rfl ?_
      refine xb_iald (j := lu) (v := 2) dX9_redo_59 s_43 (by omega) (by decide) (Eq.trans (congrFun (x_up_n _ _ _ (by decide)) _) h43) ?_
      refine xr_aload_n dX9_redo_60 1 rfl ?_
      refine xr_getR flX9_54 dX9_redo_61 s_0 rfl ?_
      refine xr_getR flX9_324 dX9_redo_64 s_41 rfl ?_
      refine xr_iload_n dX9_redo_67 0 rfl ?_
      refine xb_iald (j := lu) (v := (lg.2.2 lu)) dX9_redo_68 s_45 (by omega) (by decide) (Eq.trans (congrFun (x_up_n _ _ _ (by decide)) _) h45) ?_
      refine xb_cV (As := [.int (nI (i)), .int (2), .int ((lg.2.2 lu))]) (rest := []) mlX9_110 (cw_X9_lay_2 (lg.2.2 lu) (i := i) h_cn (Eq.trans (congrFun (x_up_n _ _ _ (by decide)) _) e_cn) (by omega)) dX9_redo_69 s_0 rfl rfl (Nat.le_of_ble_eq_true rfl) (by decide) (by decide) ?_
      refine xr_aload_n dX9_redo_72 1 rfl ?_
      refine xr_getR flX9_54 dX9_redo_73 s_0 rfl ?_
      refine xb_get (v := nI (lw)) flX9_321 dX9_redo_76 s_41 rfl (Eq.trans (congrFun (x_up_n _ _ _ (by omega)) _) (Eq.trans (x_up_k _ _ _ (by decide)) e_wn)) ?_
      refine xr_aload_n dX9_redo_79 1 rfl ?_
      refine xr_getR flX9_54 dX9_redo_80 s_0 rfl ?_
      refine xb_get (v := nI (lu + 1)) flX9_309 dX9_redo_83 s_41 rfl (Eq.trans (congrFun (x_up_n _ _ _ (by omega)) _) (x_up_s _ _ _ _)) ?_
      refine xr_isub dX9_redo_86 ?_
      exact xr_iret dX9_redo_87 rfl rfl (⟨_, rfl, rfl, rfl, (Ke.up (Or.inr (Or.inr (Or.inr (Or.inr (Or.inr (Or.inl (by omega))))))) (Ke.up (Or.inr (Or.inr (Or.inr (Or.inr (Or.inr (Or.inr (by omega))))))) Ke.rf)), ⟨⟨⟨nh, by omega, (Eq.trans (congrFun (x_up_n _ _ _ (by omega)) _) (Eq.trans (congrFun (x_up_n _ _ _ (by decide)) _) e_cn))⟩, ⟨cm, by omega, (Eq.trans (congrFun (x_up_n _ _ _ (by omega)) _) (Eq.trans (congrFun (x_up_n _ _ _ (by decide)) _) e_cm))⟩, ⟨L, by omega, (Eq.trans (congrFun (x_up_n _ _ _ (by omega)) _) (Eq.trans (congrFun (x_up_n _ _ _ (by decide)) _) e_L))⟩, (fun kk hkk => by rw [show (x_up (x_up M 41 4 (nI (lu + 1))) (15 + i) 3 (if (x_up M 41 4 (nI (lu + 1))) (15 + i) 4 = 0 then 0 else (lg.2.2 lu))) 3 kk = M 3 kk from (Eq.trans (congrFun (x_up_n _ _ _ (by omega)) _) (Eq.trans (congrFun (x_up_n _ _ _ (by omega)) _) rfl))]; exact hv kk hkk), (DI_up (by omega) (DI_up (by decide) hD)), ⟨n, by omega, (Eq.trans (congrFun (x_up_n _ _ _ (by omega)) _) (Eq.trans (congrFun (x_up_n _ _ _ (by decide)) _) e_n))⟩, ⟨lu + 1, lw, by omega, by omega, (Eq.trans (congrFun (x_up_n _ _ _ (by omega)) _) (x_up_s _ _ _ _)), (Eq.trans (congrFun (x_up_n _ _ _ (by omega)) _) (Eq.trans (x_up_k _ _ _ (by decide)) e_wn))⟩, ⟨b, by omega, (Eq.trans (congrFun (x_up_n _ _ _ (by omega)) _) (Eq.trans (congrFun (x_up_n _ _ _ (by decide)) _) e_b))⟩, (fun j hj => by obtain ⟨q, hq, eq⟩ := hkd j hj; exact ⟨q, hq, (show (x_up (x_up M 41 4 (nI (lu + 1))) (15 + i) 3 (if (x_up M 41 4 (nI (lu + 1))) (15 + i) 4 = 0 then 0 else (lg.2.2 lu))) 47 j = M 47 j from (Eq.trans (congrFun (x_up_n _ _ _ (by omega)) _) (Eq.trans (congrFun (x_up_n _ _ _ (by omega)) _) rfl))).trans eq⟩), ⟨ra, by omega, (Eq.trans (congrFun (x_up_n _ _ _ (by omega)) _) (Eq.trans (congrFun (x_up_n _ _ _ (by decide)) _) e_ra))⟩, (fun j hj => by obtain ⟨s, hs, es⟩ := hsl j hj; exact ⟨s, hs, (show (x_up (x_up M 41 4 (nI (lu + 1))) (15 + i) 3 (if (x_up M 41 4 (nI (lu + 1))) (15 + i) 4 = 0 then 0 else (lg.2.2 lu))) (50 + 2 * j) 3 = M (50 + 2 * j) 3 from (Eq.trans (congrFun (x_up_n _ _ _ (by omega)) _) (Eq.trans (congrFun (x_up_n _ _ _ (by omega)) _) rfl))).trans es⟩), (fun j hj => by obtain ⟨q, hq, eq⟩ := hS j hj; exact ⟨q, hq, (show (x_up (x_up M 41 4 (nI (lu + 1))) (15 + i) 3 (if (x_up M 41 4 (nI (lu + 1))) (15 + i) 4 = 0 then 0 else (lg.2.2 lu))) 36 j = M 36 j from (Eq.trans (congrFun (x_up_n _ _ _ (by omega)) _) (Eq.trans (congrFun (x_up_n _ _ _ (by omega)) _) rfl))).trans eq⟩)⟩, (Or.inr ⟨hne, rfl, (by rw [hq, sK_h (by omega) (by decide)]; exact ⟨(Eq.trans (congrFun (x_up_n _ _ _ (by omega)) _) (Eq.trans (congrFun (x_up_n _ _ _ (by decide)) _) e_cn)), (by rw [lK_2 (by omega), dK_2 (by omega), ← hA i (by omega) 4 (by decide)]; exact AbC_vD (AbC_up (AbC_n hA (Or.inr (by omega)))) (by rw [up_n (by omega)])), (LCt_k (Eq.trans (congrFun (x_up_n _ _ _ (by omega)) _) (Eq.trans (congrFun (x_up_n _ _ _ (by omega)) _) rfl)) (fun kl => (Eq.trans (congrFun (x_up_n _ _ _ (by omega)) _) (Eq.trans (congrFun (x_up_n _ _ _ (by omega)) _) rfl))) (fun kl => (Eq.trans (congrFun (x_up_n _ _ _ (by omega)) _) (Eq.trans (congrFun (x_up_n _ _ _ (by omega)) _) rfl))) hL), (Eq.trans (congrFun (x_up_n _ _ _ (by omega)) _) (Eq.trans (congrFun (x_up_n _ _ _ (by decide)) _) e_nw)), (Eq.trans (congrFun (x_up_n _ _ _ (by omega)) _) (Eq.trans (congrFun (x_up_n _ _ _ (by decide)) _) e_rub)), (Eq.trans (congrFun (x_up_n _ _ _ (by omega)) _) (Eq.trans (congrFun (x_up_n _ _ _ (by decide)) _) e_bt)), (Eq.trans (congrFun (x_up_n _ _ _ (by omega)) _) (Eq.trans (congrFun (x_up_n _ _ _ (by decide)) _) e_ph)), (Eq.trans (congrFun (x_up_n _ _ _ (by omega)) _) (Eq.trans (congrFun (x_up_n _ _ _ (by decide)) _) e_st)), (Eq.trans (congrFun (x_up_n _ _ _ (by omega)) _) (Eq.trans (congrFun (x_up_n _ _ _ (by decide)) _) e_kn)), (Eq.trans (congrFun (x_up_n _ _ _ (by omega)) _) (Eq.trans (congrFun (x_up_n _ _ _ (by decide)) _) e_pu)), (Eq.trans (congrFun (x_up_n _ _ _ (by omega)) _) (Eq.trans (congrFun (x_up_n _ _ _ (by decide)) _) e_lf))⟩), ⟨(Eq.trans (congrFun (x_up_n _ _ _ (by omega)) _) (x_up_s _ _ _ _)), (Eq.trans (congrFun (x_up_n _ _ _ (by omega)) _) (Eq.trans (x_up_k _ _ _ (by decide)) e_wn)), fun k hk => by rw [show _ = M 42 k from (Eq.trans (congrFun (x_up_n _ _ _ (by omega)) _) (Eq.trans (congrFun (x_up_n _ _ _ (by omega)) _) rfl)), show _ = M 43 k from (Eq.trans (congrFun (x_up_n _ _ _ (by omega)) _) (Eq.trans (congrFun (x_up_n _ _ _ (by omega)) _) rfl)), show _ = M 44 k from (Eq.trans (congrFun (x_up_n _ _ _ (by omega)) _) (Eq.trans (congrFun (x_up_n _ _ _ (by omega)) _) rfl)), show _ = M 45 k from (Eq.trans (congrFun (x_up_n _ _ _ (by omega)) _) (Eq.trans (congrFun (x_up_n _ _ _ (by omega)) _) rfl))]; exact hLk k hk⟩⟩)⟩⟩)
    · rw [hq] at h42 h43
      refine xr_aload_n dX9_redo_20 0 rfl ?_
      refine xr_getR flX9_54 dX9_redo_21 s_0 rfl ?_
      refine xb_get (v := nI (lu)) flX9_309 dX9_redo_24 s_41 rfl e_un ?_
      refine xr_istore_n (ls2 := [(1, .int (nI (lu))), (0, .ref (0))]) dX9_redo_27 (by decide) rfl ?_
      refine xr_aload_n dX9_redo_28 1 rfl ?_
      refine xr_getR flX9_54 dX9_redo_29 s_0 rfl ?_
      refine xr_dup dX9_redo_32 rfl ?_
      refine xb_get (v := nI (lu)) flX9_309 dX9_redo_33 s_41 rfl e_un ?_
      refine xr_iconst (v := 1) dX9_redo_36 rfl ?_
      refine xr_iadd dX9_redo_37 ?_
      refine xb_top (y := nI (lu + 1)) (nI_add (lu) (1)) ?_
      refine xr_putI fpX9_309 dX9_redo_38 s_41 rfl rfl rfl ?_
      refine xr_aload_n dX9_redo_41 1 rfl ?_
      refine xr_aload_n dX9_redo_42 1 rfl ?_
      refine xr_getR flX9_54 dX9_redo_43 s_0 rfl ?_
      refine xr_getR flX9_312 dX9_redo_46 s_41 rfl ?_
      refine xr_iload_n dX9_redo_49 0 rfl ?_
      refine xb_iald (j := lu) (v := 0) dX9_redo_50 s_42 (by omega) (by decide) (Eq.trans (congrFun (x_up_n _ _ _ (by decide)) _) h42) ?_
      refine xr_aload_n dX9_redo_51 1 rfl ?_
      refine xr_getR flX9_54 dX9_redo_52 s_0 rfl ?_
      refine xr_getR flX9_315 dX9_redo_55 s_41 rfl ?_
      refine xr_iload_n dX9_redo_58 0 rfl ?_
      refine xb_iald (j := lu) (v := 3) dX9_redo_59 s_43 (by omega) (by decide) (Eq.trans (congrFun (x_up_n _ _ _ (by decide)) _) h43) ?_
      refine xr_aload_n dX9_redo_60 1 rfl ?_
      refine xr_getR flX9_54 dX9_redo_61 s_0 rfl ?_
      refine xr_getR flX9_324 dX9_redo_64 s_41 rfl ?_
      refine xr_iload_n dX9_redo_67 0 rfl ?_
      refine xb_iald (j := lu) (v := (lg.2.2 lu)) dX9_redo_68 s_45 (by omega) (by decide) (Eq.trans (congrFun (x_up_n _ _ _ (by decide)) _) h45) ?_
      refine xb_cV (As := [.int (0), .int (3), .int ((lg.2.2 lu))]) (rest := []) mlX9_110 (cw_X9_lay_3 (lg.2.2 lu)) dX9_redo_69 s_0 rfl rfl (Nat.le_of_ble_eq_true rfl) (by decide) (by decide) ?_
      refine xr_aload_n dX9_redo_72 1 rfl ?_
      refine xr_getR flX9_54 dX9_redo_73 s_0 rfl ?_
      refine xb_get (v := nI (lw)) flX9_321 dX9_redo_76 s_41 rfl (Eq.trans (congrFun (x_up_n _ _ _ (by decide)) _) (Eq.trans (x_up_k _ _ _ (by decide)) e_wn)) ?_
      refine xr_aload_n dX9_redo_79 1 rfl ?_
      refine xr_getR flX9_54 dX9_redo_80 s_0 rfl ?_
      refine xb_get (v := nI (lu + 1)) flX9_309 dX9_redo_83 s_41 rfl (Eq.trans (congrFun (x_up_n _ _ _ (by decide)) _) (x_up_s _ _ _ _)) ?_
      refine xr_isub dX9_redo_86 ?_
      exact xr_iret dX9_redo_87 rfl rfl (⟨_, rfl, rfl, rfl, (Ke.up (Or.inl (by omega)) (Ke.up (Or.inr (Or.inr (Or.inr (Or.inr (Or.inr (Or.inr (by omega))))))) Ke.rf)), ⟨⟨⟨nh, by omega, (Eq.trans (x_up_k _ _ _ (by decide)) (Eq.trans (congrFun (x_up_n _ _ _ (by decide)) _) e_cn))⟩, ⟨cm, by omega, (Eq.trans (congrFun (x_up_n _ _ _ (by decide)) _) (Eq.trans (congrFun (x_up_n _ _ _ (by decide)) _) e_cm))⟩, ⟨L, by omega, (Eq.trans (congrFun (x_up_n _ _ _ (by decide)) _) (Eq.trans (congrFun (x_up_n _ _ _ (by decide)) _) e_L))⟩, (fun kk hkk => by rw [show (x_up (x_up M 41 4 (nI (lu + 1))) 13 4 (lg.2.2 lu)) 3 kk = M 3 kk from (Eq.trans (congrFun (x_up_n _ _ _ (by omega)) _) (Eq.trans (congrFun (x_up_n _ _ _ (by omega)) _) rfl))]; exact hv kk hkk), (DI_up (by decide) (DI_up (by decide) hD)), ⟨n, by omega, (Eq.trans (congrFun (x_up_n _ _ _ (by decide)) _) (Eq.trans (congrFun (x_up_n _ _ _ (by decide)) _) e_n))⟩, ⟨lu + 1, lw, by omega, by omega, (Eq.trans (congrFun (x_up_n _ _ _ (by decide)) _) (x_up_s _ _ _ _)), (Eq.trans (congrFun (x_up_n _ _ _ (by decide)) _) (Eq.trans (x_up_k _ _ _ (by decide)) e_wn))⟩, ⟨b, by omega, (Eq.trans (congrFun (x_up_n _ _ _ (by decide)) _) (Eq.trans (congrFun (x_up_n _ _ _ (by decide)) _) e_b))⟩, (fun j hj => by obtain ⟨q, hq, eq⟩ := hkd j hj; exact ⟨q, hq, (show (x_up (x_up M 41 4 (nI (lu + 1))) 13 4 (lg.2.2 lu)) 47 j = M 47 j from (Eq.trans (congrFun (x_up_n _ _ _ (by omega)) _) (Eq.trans (congrFun (x_up_n _ _ _ (by omega)) _) rfl))).trans eq⟩), ⟨ra, by omega, (Eq.trans (congrFun (x_up_n _ _ _ (by decide)) _) (Eq.trans (congrFun (x_up_n _ _ _ (by decide)) _) e_ra))⟩, (fun j hj => by obtain ⟨s, hs, es⟩ := hsl j hj; exact ⟨s, hs, (show (x_up (x_up M 41 4 (nI (lu + 1))) 13 4 (lg.2.2 lu)) (50 + 2 * j) 3 = M (50 + 2 * j) 3 from (Eq.trans (congrFun (x_up_n _ _ _ (by omega)) _) (Eq.trans (congrFun (x_up_n _ _ _ (by omega)) _) rfl))).trans es⟩), (fun j hj => by obtain ⟨q, hq, eq⟩ := hS j hj; exact ⟨q, hq, (show (x_up (x_up M 41 4 (nI (lu + 1))) 13 4 (lg.2.2 lu)) 36 j = M 36 j from (Eq.trans (congrFun (x_up_n _ _ _ (by omega)) _) (Eq.trans (congrFun (x_up_n _ _ _ (by omega)) _) rfl))).trans eq⟩)⟩, (Or.inr ⟨hne, rfl, (by rw [hq]; exact ⟨(Eq.trans (x_up_k _ _ _ (by decide)) (Eq.trans (congrFun (x_up_n _ _ _ (by decide)) _) e_cn)), (AbC_n (AbC_n hA (by omega)) (by omega)), (LCt_k (Eq.trans (congrFun (x_up_n _ _ _ (by omega)) _) (Eq.trans (congrFun (x_up_n _ _ _ (by omega)) _) rfl)) (fun kl => (Eq.trans (congrFun (x_up_n _ _ _ (by omega)) _) (Eq.trans (congrFun (x_up_n _ _ _ (by omega)) _) rfl))) (fun kl => (Eq.trans (congrFun (x_up_n _ _ _ (by omega)) _) (Eq.trans (congrFun (x_up_n _ _ _ (by omega)) _) rfl))) hL), (Eq.trans (x_up_k _ _ _ (by decide)) (Eq.trans (congrFun (x_up_n _ _ _ (by decide)) _) e_nw)), (x_up_s _ _ _ _), (Eq.trans (x_up_k _ _ _ (by decide)) (Eq.trans (congrFun (x_up_n _ _ _ (by decide)) _) e_bt)), (Eq.trans (x_up_k _ _ _ (by decide)) (Eq.trans (congrFun (x_up_n _ _ _ (by decide)) _) e_ph)), (Eq.trans (x_up_k _ _ _ (by decide)) (Eq.trans (congrFun (x_up_n _ _ _ (by decide)) _) e_st)), (Eq.trans (congrFun (x_up_n _ _ _ (by decide)) _) (Eq.trans (congrFun (x_up_n _ _ _ (by decide)) _) e_kn)), (Eq.trans (x_up_k _ _ _ (by decide)) (Eq.trans (congrFun (x_up_n _ _ _ (by decide)) _) e_pu)), (Eq.trans (x_up_k _ _ _ (by decide)) (Eq.trans (congrFun (x_up_n _ _ _ (by decide)) _) e_lf))⟩), ⟨(Eq.trans (congrFun (x_up_n _ _ _ (by decide)) _) (x_up_s _ _ _ _)), (Eq.trans (congrFun (x_up_n _ _ _ (by decide)) _) (Eq.trans (x_up_k _ _ _ (by decide)) e_wn)), fun k hk => by rw [show _ = M 42 k from (Eq.trans (congrFun (x_up_n _ _ _ (by omega)) _) (Eq.trans (congrFun (x_up_n _ _ _ (by omega)) _) rfl)), show _ = M 43 k from (Eq.trans (congrFun (x_up_n _ _ _ (by omega)) _) (Eq.trans (congrFun (x_up_n _ _ _ (by omega)) _) rfl)), show _ = M 44 k from (Eq.trans (congrFun (x_up_n _ _ _ (by omega)) _) (Eq.trans (congrFun (x_up_n _ _ _ (by omega)) _) rfl)), show _ = M 45 k from (Eq.trans (congrFun (x_up_n _ _ _ (by omega)) _) (Eq.trans (congrFun (x_up_n _ _ _ (by omega)) _) rfl))]; exact hLk k hk⟩⟩)⟩⟩)
    · rw [hq] at h42 h43
      refine xr_aload_n dX9_redo_20 0 rfl ?_
      refine xr_getR flX9_54 dX9_redo_21 s_0 rfl ?_
      refine xb_get (v := nI (lu)) flX9_309 dX9_redo_24 s_41 rfl e_un ?_
      refine xr_istore_n (ls2 := [(1, .int (nI (lu))), (0, .ref (0))]) dX9_redo_27 (by decide) rfl ?_
      refine xr_aload_n dX9_redo_28 1 rfl ?_
      refine xr_getR flX9_54 dX9_redo_29 s_0 rfl ?_
      refine xr_dup dX9_redo_32 rfl ?_
      refine xb_get (v := nI (lu)) flX9_309 dX9_redo_33 s_41 rfl e_un ?_
      refine xr_iconst (v := 1) dX9_redo_36 rfl ?_
      refine xr_iadd dX9_redo_37 ?_
      refine xb_top (y := nI (lu + 1)) (nI_add (lu) (1)) ?_
      refine xr_putI fpX9_309 dX9_redo_38 s_41 rfl rfl rfl ?_
      refine xr_aload_n dX9_redo_41 1 rfl ?_
      refine xr_aload_n dX9_redo_42 1 rfl ?_
      refine xr_getR flX9_54 dX9_redo_43 s_0 rfl ?_
      refine xr_getR flX9_312 dX9_redo_46 s_41 rfl ?_
      refine xr_iload_n dX9_redo_49 0 rfl ?_
      refine xb_iald (j := lu) (v := 0) dX9_redo_50 s_42 (by omega) (by decide) (Eq.trans (congrFun (x_up_n _ _ _ (by decide)) _) h42) ?_
      refine xr_aload_n dX9_redo_51 1 rfl ?_
      refine xr_getR flX9_54 dX9_redo_52 s_0 rfl ?_
      refine xr_getR flX9_315 dX9_redo_55 s_41 rfl ?_
      refine xr_iload_n dX9_redo_58 0 rfl ?_
      refine xb_iald (j := lu) (v := 4) dX9_redo_59 s_43 (by omega) (by decide) (Eq.trans (congrFun (x_up_n _ _ _ (by decide)) _) h43) ?_
      refine xr_aload_n dX9_redo_60 1 rfl ?_
      refine xr_getR flX9_54 dX9_redo_61 s_0 rfl ?_
      refine xr_getR flX9_324 dX9_redo_64 s_41 rfl ?_
      refine xr_iload_n dX9_redo_67 0 rfl ?_
      refine xb_iald (j := lu) (v := (lg.2.2 lu)) dX9_redo_68 s_45 (by omega) (by decide) (Eq.trans (congrFun (x_up_n _ _ _ (by decide)) _) h45) ?_
      refine xb_cV (As := [.int (0), .int (4), .int ((lg.2.2 lu))]) (rest := []) mlX9_110 (cw_X9_lay_4 (lg.2.2 lu)) dX9_redo_69 s_0 rfl rfl (Nat.le_of_ble_eq_true rfl) (by decide) (by decide) ?_
      refine xr_aload_n dX9_redo_72 1 rfl ?_
      refine xr_getR flX9_54 dX9_redo_73 s_0 rfl ?_
      refine xb_get (v := nI (lw)) flX9_321 dX9_redo_76 s_41 rfl (Eq.trans (congrFun (x_up_n _ _ _ (by decide)) _) (Eq.trans (x_up_k _ _ _ (by decide)) e_wn)) ?_
      refine xr_aload_n dX9_redo_79 1 rfl ?_
      refine xr_getR flX9_54 dX9_redo_80 s_0 rfl ?_
      refine xb_get (v := nI (lu + 1)) flX9_309 dX9_redo_83 s_41 rfl (Eq.trans (congrFun (x_up_n _ _ _ (by decide)) _) (x_up_s _ _ _ _)) ?_
      refine xr_isub dX9_redo_86 ?_
      exact xr_iret dX9_redo_87 rfl rfl (⟨_, rfl, rfl, rfl, (Ke.up (Or.inr (Or.inl (by omega))) (Ke.up (Or.inr (Or.inr (Or.inr (Or.inr (Or.inr (Or.inr (by omega))))))) Ke.rf)), ⟨⟨⟨nh, by omega, (Eq.trans (x_up_k _ _ _ (by decide)) (Eq.trans (congrFun (x_up_n _ _ _ (by decide)) _) e_cn))⟩, ⟨cm, by omega, (Eq.trans (congrFun (x_up_n _ _ _ (by decide)) _) (Eq.trans (congrFun (x_up_n _ _ _ (by decide)) _) e_cm))⟩, ⟨L, by omega, (Eq.trans (congrFun (x_up_n _ _ _ (by decide)) _) (Eq.trans (congrFun (x_up_n _ _ _ (by decide)) _) e_L))⟩, (fun kk hkk => by rw [show (x_up (x_up M 41 4 (nI (lu + 1))) 13 5 (lg.2.2 lu)) 3 kk = M 3 kk from (Eq.trans (congrFun (x_up_n _ _ _ (by omega)) _) (Eq.trans (congrFun (x_up_n _ _ _ (by omega)) _) rfl))]; exact hv kk hkk), (DI_up (by decide) (DI_up (by decide) hD)), ⟨n, by omega, (Eq.trans (congrFun (x_up_n _ _ _ (by decide)) _) (Eq.trans (congrFun (x_up_n _ _ _ (by decide)) _) e_n))⟩, ⟨lu + 1, lw, by omega, by omega, (Eq.trans (congrFun (x_up_n _ _ _ (by decide)) _) (x_up_s _ _ _ _)), (Eq.trans (congrFun (x_up_n _ _ _ (by decide)) _) (Eq.trans (x_up_k _ _ _ (by decide)) e_wn))⟩, ⟨b, by omega, (Eq.trans (congrFun (x_up_n _ _ _ (by decide)) _) (Eq.trans (congrFun (x_up_n _ _ _ (by decide)) _) e_b))⟩, (fun j hj => by obtain ⟨q, hq, eq⟩ := hkd j hj; exact ⟨q, hq, (show (x_up (x_up M 41 4 (nI (lu + 1))) 13 5 (lg.2.2 lu)) 47 j = M 47 j from (Eq.trans (congrFun (x_up_n _ _ _ (by omega)) _) (Eq.trans (congrFun (x_up_n _ _ _ (by omega)) _) rfl))).trans eq⟩), ⟨ra, by omega, (Eq.trans (congrFun (x_up_n _ _ _ (by decide)) _) (Eq.trans (congrFun (x_up_n _ _ _ (by decide)) _) e_ra))⟩, (fun j hj => by obtain ⟨s, hs, es⟩ := hsl j hj; exact ⟨s, hs, (show (x_up (x_up M 41 4 (nI (lu + 1))) 13 5 (lg.2.2 lu)) (50 + 2 * j) 3 = M (50 + 2 * j) 3 from (Eq.trans (congrFun (x_up_n _ _ _ (by omega)) _) (Eq.trans (congrFun (x_up_n _ _ _ (by omega)) _) rfl))).trans es⟩), (fun j hj => by obtain ⟨q, hq, eq⟩ := hS j hj; exact ⟨q, hq, (show (x_up (x_up M 41 4 (nI (lu + 1))) 13 5 (lg.2.2 lu)) 36 j = M 36 j from (Eq.trans (congrFun (x_up_n _ _ _ (by omega)) _) (Eq.trans (congrFun (x_up_n _ _ _ (by omega)) _) rfl))).trans eq⟩)⟩, (Or.inr ⟨hne, rfl, (by rw [hq]; exact ⟨(Eq.trans (x_up_k _ _ _ (by decide)) (Eq.trans (congrFun (x_up_n _ _ _ (by decide)) _) e_cn)), (AbC_n (AbC_n hA (by omega)) (by omega)), (LCt_k (Eq.trans (congrFun (x_up_n _ _ _ (by omega)) _) (Eq.trans (congrFun (x_up_n _ _ _ (by omega)) _) rfl)) (fun kl => (Eq.trans (congrFun (x_up_n _ _ _ (by omega)) _) (Eq.trans (congrFun (x_up_n _ _ _ (by omega)) _) rfl))) (fun kl => (Eq.trans (congrFun (x_up_n _ _ _ (by omega)) _) (Eq.trans (congrFun (x_up_n _ _ _ (by omega)) _) rfl))) hL), (Eq.trans (x_up_k _ _ _ (by decide)) (Eq.trans (congrFun (x_up_n _ _ _ (by decide)) _) e_nw)), (Eq.trans (x_up_k _ _ _ (by decide)) (Eq.trans (congrFun (x_up_n _ _ _ (by decide)) _) e_rub)), (x_up_s _ _ _ _), (Eq.trans (x_up_k _ _ _ (by decide)) (Eq.trans (congrFun (x_up_n _ _ _ (by decide)) _) e_ph)), (Eq.trans (x_up_k _ _ _ (by decide)) (Eq.trans (congrFun (x_up_n _ _ _ (by decide)) _) e_st)), (Eq.trans (congrFun (x_up_n _ _ _ (by decide)) _) (Eq.trans (congrFun (x_up_n _ _ _ (by decide)) _) e_kn)), (Eq.trans (x_up_k _ _ _ (by decide)) (Eq.trans (congrFun (x_up_n _ _ _ (by decide)) _) e_pu)), (Eq.trans (x_up_k _ _ _ (by decide)) (Eq.trans (congrFun (x_up_n _ _ _ (by decide)) _) e_lf))⟩), ⟨(Eq.trans (congrFun (x_up_n _ _ _ (by decide)) _) (x_up_s _ _ _ _)), (Eq.trans (congrFun (x_up_n _ _ _ (by decide)) _) (Eq.trans (x_up_k _ _ _ (by decide)) e_wn)), fun k hk => by rw [show _ = M 42 k from (Eq.trans (congrFun (x_up_n _ _ _ (by omega)) _) (Eq.trans (congrFun (x_up_n _ _ _ (by omega)) _) rfl)), show _ = M 43 k from (Eq.trans (congrFun (x_up_n _ _ _ (by omega)) _) (Eq.trans (congrFun (x_up_n _ _ _ (by omega)) _) rfl)), show _ = M 44 k from (Eq.trans (congrFun (x_up_n _ _ _ (by omega)) _) (Eq.trans (congrFun (x_up_n _ _ _ (by omega)) _) rfl)), show _ = M 45 k from (Eq.trans (congrFun (x_up_n _ _ _ (by omega)) _) (Eq.trans (congrFun (x_up_n _ _ _ (by omega)) _) rfl))]; exact hLk k hk⟩⟩)⟩⟩)
    · rw [hq] at h42 h43
      refine xr_aload_n dX9_redo_20 0 rfl ?_
      refine xr_getR flX9_54 dX9_redo_21 s_0 rfl ?_
      refine xb_get (v := nI (lu)) flX9_309 dX9_redo_24 s_41 rfl e_un ?_
      refine xr_istore_n (ls2 := [(1, .int (nI (lu))), (0, .ref (0))]) dX9_redo_27 (by decide) rfl ?_
      refine xr_aload_n dX9_redo_28 1 rfl ?_
      refine xr_getR flX9_54 dX9_redo_29 s_0 rfl ?_
      refine xr_dup dX9_redo_32 rfl ?_
      refine xb_get (v := nI (lu)) flX9_309 dX9_redo_33 s_41 rfl e_un ?_
      refine xr_iconst (v := 1) dX9_redo_36 rfl ?_
      refine xr_iadd dX9_redo_37 ?_
      refine xb_top (y := nI (lu + 1)) (nI_add (lu) (1)) ?_
      refine xr_putI fpX9_309 dX9_redo_38 s_41 rfl rfl rfl ?_
      refine xr_aload_n dX9_redo_41 1 rfl ?_
      refine xr_aload_n dX9_redo_42 1 rfl ?_
      refine xr_getR flX9_54 dX9_redo_43 s_0 rfl ?_
      refine xr_getR flX9_312 dX9_redo_46 s_41 rfl ?_
      refine xr_iload_n dX9_redo_49 0 rfl ?_
      refine xb_iald (j := lu) (v := 0) dX9_redo_50 s_42 (by omega) (by decide) (Eq.trans (congrFun (x_up_n _ _ _ (by decide)) _) h42) ?_
      refine xr_aload_n dX9_redo_51 1 rfl ?_
      refine xr_getR flX9_54 dX9_redo_52 s_0 rfl ?_
      refine xr_getR flX9_315 dX9_redo_55 s_41 rfl ?_
      refine xr_iload_n dX9_redo_58 0 rfl ?_
      refine xb_iald (j := lu) (v := 5) dX9_redo_59 s_43 (by omega) (by decide) (Eq.trans (congrFun (x_up_n _ _ _ (by decide)) _) h43) ?_
      refine xr_aload_n dX9_redo_60 1 rfl ?_
      refine xr_getR flX9_54 dX9_redo_61 s_0 rfl ?_
      refine xr_getR flX9_324 dX9_redo_64 s_41 rfl ?_
      refine xr_iload_n dX9_redo_67 0 rfl ?_
      refine xb_iald (j := lu) (v := (lg.2.2 lu)) dX9_redo_68 s_45 (by omega) (by decide) (Eq.trans (congrFun (x_up_n _ _ _ (by decide)) _) h45) ?_
      refine xb_cV (As := [.int (0), .int (5), .int ((lg.2.2 lu))]) (rest := []) mlX9_110 (cw_X9_lay_5 (lg.2.2 lu)) dX9_redo_69 s_0 rfl rfl (Nat.le_of_ble_eq_true rfl) (by decide) (by decide) ?_
      refine xr_aload_n dX9_redo_72 1 rfl ?_
      refine xr_getR flX9_54 dX9_redo_73 s_0 rfl ?_
      refine xb_get (v := nI (lw)) flX9_321 dX9_redo_76 s_41 rfl (Eq.trans (congrFun (x_up_n _ _ _ (by decide)) _) (Eq.trans (x_up_k _ _ _ (by decide)) e_wn)) ?_
      refine xr_aload_n dX9_redo_79 1 rfl ?_
      refine xr_getR flX9_54 dX9_redo_80 s_0 rfl ?_
      refine xb_get (v := nI (lu + 1)) flX9_309 dX9_redo_83 s_41 rfl (Eq.trans (congrFun (x_up_n _ _ _ (by decide)) _) (x_up_s _ _ _ _)) ?_
      refine xr_isub dX9_redo_86 ?_
      exact xr_iret dX9_redo_87 rfl rfl (⟨_, rfl, rfl, rfl, (Ke.up (Or.inr (Or.inr (Or.inl (by omega)))) (Ke.up (Or.inr (Or.inr (Or.inr (Or.inr (Or.inr (Or.inr (by omega))))))) Ke.rf)), ⟨⟨⟨nh, by omega, (Eq.trans (x_up_k _ _ _ (by decide)) (Eq.trans (congrFun (x_up_n _ _ _ (by decide)) _) e_cn))⟩, ⟨cm, by omega, (Eq.trans (congrFun (x_up_n _ _ _ (by decide)) _) (Eq.trans (congrFun (x_up_n _ _ _ (by decide)) _) e_cm))⟩, ⟨L, by omega, (Eq.trans (congrFun (x_up_n _ _ _ (by decide)) _) (Eq.trans (congrFun (x_up_n _ _ _ (by decide)) _) e_L))⟩, (fun kk hkk => by rw [show (x_up (x_up M 41 4 (nI (lu + 1))) 13 6 (lg.2.2 lu)) 3 kk = M 3 kk from (Eq.trans (congrFun (x_up_n _ _ _ (by omega)) _) (Eq.trans (congrFun (x_up_n _ _ _ (by omega)) _) rfl))]; exact hv kk hkk), (DI_up (by decide) (DI_up (by decide) hD)), ⟨n, by omega, (Eq.trans (congrFun (x_up_n _ _ _ (by decide)) _) (Eq.trans (congrFun (x_up_n _ _ _ (by decide)) _) e_n))⟩, ⟨lu + 1, lw, by omega, by omega, (Eq.trans (congrFun (x_up_n _ _ _ (by decide)) _) (x_up_s _ _ _ _)), (Eq.trans (congrFun (x_up_n _ _ _ (by decide)) _) (Eq.trans (x_up_k _ _ _ (by decide)) e_wn))⟩, ⟨b, by omega, (Eq.trans (congrFun (x_up_n _ _ _ (by decide)) _) (Eq.trans (congrFun (x_up_n _ _ _ (by decide)) _) e_b))⟩, (fun j hj => by obtain ⟨q, hq, eq⟩ := hkd j hj; exact ⟨q, hq, (show (x_up (x_up M 41 4 (nI (lu + 1))) 13 6 (lg.2.2 lu)) 47 j = M 47 j from (Eq.trans (congrFun (x_up_n _ _ _ (by omega)) _) (Eq.trans (congrFun (x_up_n _ _ _ (by omega)) _) rfl))).trans eq⟩), ⟨ra, by omega, (Eq.trans (congrFun (x_up_n _ _ _ (by decide)) _) (Eq.trans (congrFun (x_up_n _ _ _ (by decide)) _) e_ra))⟩, (fun j hj => by obtain ⟨s, hs, es⟩ := hsl j hj; exact ⟨s, hs, (show (x_up (x_up M 41 4 (nI (lu + 1))) 13 6 (lg.2.2 lu)) (50 + 2 * j) 3 = M (50 + 2 * j) 3 from (Eq.trans (congrFun (x_up_n _ _ _ (by omega)) _) (Eq.trans (congrFun (x_up_n _ _ _ (by omega)) _) rfl))).trans es⟩), (fun j hj => by obtain ⟨q, hq, eq⟩ := hS j hj; exact ⟨q, hq, (show (x_up (x_up M 41 4 (nI (lu + 1))) 13 6 (lg.2.2 lu)) 36 j = M 36 j from (Eq.trans (congrFun (x_up_n _ _ _ (by omega)) _) (Eq.trans (congrFun (x_up_n _ _ _ (by omega)) _) rfl))).trans eq⟩)⟩, (Or.inr ⟨hne, rfl, (by rw [hq]; exact ⟨(Eq.trans (x_up_k _ _ _ (by decide)) (Eq.trans (congrFun (x_up_n _ _ _ (by decide)) _) e_cn)), (AbC_n (AbC_n hA (by omega)) (by omega)), (LCt_k (Eq.trans (congrFun (x_up_n _ _ _ (by omega)) _) (Eq.trans (congrFun (x_up_n _ _ _ (by omega)) _) rfl)) (fun kl => (Eq.trans (congrFun (x_up_n _ _ _ (by omega)) _) (Eq.trans (congrFun (x_up_n _ _ _ (by omega)) _) rfl))) (fun kl => (Eq.trans (congrFun (x_up_n _ _ _ (by omega)) _) (Eq.trans (congrFun (x_up_n _ _ _ (by omega)) _) rfl))) hL), (Eq.trans (x_up_k _ _ _ (by decide)) (Eq.trans (congrFun (x_up_n _ _ _ (by decide)) _) e_nw)), (Eq.trans (x_up_k _ _ _ (by decide)) (Eq.trans (congrFun (x_up_n _ _ _ (by decide)) _) e_rub)), (Eq.trans (x_up_k _ _ _ (by decide)) (Eq.trans (congrFun (x_up_n _ _ _ (by decide)) _) e_bt)), (x_up_s _ _ _ _), (Eq.trans (x_up_k _ _ _ (by decide)) (Eq.trans (congrFun (x_up_n _ _ _ (by decide)) _) e_st)), (Eq.trans (congrFun (x_up_n _ _ _ (by decide)) _) (Eq.trans (congrFun (x_up_n _ _ _ (by decide)) _) e_kn)), (Eq.trans (x_up_k _ _ _ (by decide)) (Eq.trans (congrFun (x_up_n _ _ _ (by decide)) _) e_pu)), (Eq.trans (x_up_k _ _ _ (by decide)) (Eq.trans (congrFun (x_up_n _ _ _ (by decide)) _) e_lf))⟩), ⟨(Eq.trans (congrFun (x_up_n _ _ _ (by decide)) _) (x_up_s _ _ _ _)), (Eq.trans (congrFun (x_up_n _ _ _ (by decide)) _) (Eq.trans (x_up_k _ _ _ (by decide)) e_wn)), fun k hk => by rw [show _ = M 42 k from (Eq.trans (congrFun (x_up_n _ _ _ (by omega)) _) (Eq.trans (congrFun (x_up_n _ _ _ (by omega)) _) rfl)), show _ = M 43 k from (Eq.trans (congrFun (x_up_n _ _ _ (by omega)) _) (Eq.trans (congrFun (x_up_n _ _ _ (by omega)) _) rfl)), show _ = M 44 k from (Eq.trans (congrFun (x_up_n _ _ _ (by omega)) _) (Eq.trans (congrFun (x_up_n _ _ _ (by omega)) _) rfl)), show _ = M 45 k from (Eq.trans (congrFun (x_up_n _ _ _ (by omega)) _) (Eq.trans (congrFun (x_up_n _ _ _ (by omega)) _) rfl))]; exact hLk k hk⟩⟩)⟩⟩)
    · rw [hq] at h42 h43
      refine xr_aload_n dX9_redo_20 0 rfl ?_
      refine xr_getR flX9_54 dX9_redo_21 s_0 rfl ?_
      refine xb_get (v := nI (lu)) flX9_309 dX9_redo_24 s_41 rfl e_un ?_
      refine xr_istore_n (ls2 := [(1, .int (nI (lu))), (0, .ref (0))]) dX9_redo_27 (by decide) rfl ?_
      refine xr_aload_n dX9_redo_28 1 rfl ?_
      refine xr_getR flX9_54 dX9_redo_29 s_0 rfl ?_
      refine xr_dup dX9_redo_32 rfl ?_
      refine xb_get (v := nI (lu)) flX9_309 dX9_redo_33 s_41 rfl e_un ?_
      refine xr_iconst (v := 1) dX9_redo_36 rfl ?_
      refine xr_iadd dX9_redo_37 ?_
      refine xb_top (y := nI (lu + 1)) (nI_add (lu) (1)) ?_
      refine xr_putI fpX9_309 dX9_redo_38 s_41 rfl rfl rfl ?_
      refine xr_aload_n dX9_redo_41 1 rfl ?_
      refine xr_aload_n dX9_redo_42 1 rfl ?_
      refine xr_getR flX9_54 dX9_redo_43 s_0 rfl ?_
      refine xr_getR flX9_312 dX9_redo_46 s_41 rfl ?_
      refine xr_iload_n dX9_redo_49 0 rfl ?_
      refine xb_iald (j := lu) (v := 0) dX9_redo_50 s_42 (by omega) (by decide) (Eq.trans (congrFun (x_up_n _ _ _ (by decide)) _) h42) ?_
      refine xr_aload_n dX9_redo_51 1 rfl ?_
      refine xr_getR flX9_54 dX9_redo_52 s_0 rfl ?_
      refine xr_getR flX9_315 dX9_redo_55 s_41 rfl ?_
      refine xr_iload_n dX9_redo_58 0 rfl ?_
      refine xb_iald (j := lu) (v := 6) dX9_redo_59 s_43 (by omega) (by decide) (Eq.trans (congrFun (x_up_n _ _ _ (by decide)) _) h43) ?_
      refine xr_aload_n dX9_redo_60 1 rfl ?_
      refine xr_getR flX9_54 dX9_redo_61 s_0 rfl ?_
      refine xr_getR flX9_324 dX9_redo_64 s_41 rfl ?_
      refine xr_iload_n dX9_redo_67 0 rfl ?_
      refine xb_iald (j := lu) (v := (lg.2.2 lu)) dX9_redo_68 s_45 (by omega) (by decide) (Eq.trans (congrFun (x_up_n _ _ _ (by decide)) _) h45) ?_
      refine xb_cV (As := [.int (0), .int (6), .int ((lg.2.2 lu))]) (rest := []) mlX9_110 (cw_X9_lay_6 (lg.2.2 lu)) dX9_redo_69 s_0 rfl rfl (Nat.le_of_ble_eq_true rfl) (by decide) (by decide) ?_
      refine xr_aload_n dX9_redo_72 1 rfl ?_
      refine xr_getR flX9_54 dX9_redo_73 s_0 rfl ?_
      refine xb_get (v := nI (lw)) flX9_321 dX9_redo_76 s_41 rfl (Eq.trans (congrFun (x_up_n _ _ _ (by decide)) _) (Eq.trans (x_up_k _ _ _ (by decide)) e_wn)) ?_
      refine xr_aload_n dX9_redo_79 1 rfl ?_
      refine xr_getR flX9_54 dX9_redo_80 s_0 rfl ?_
      refine xb_get (v := nI (lu + 1)) flX9_309 dX9_redo_83 s_41 rfl (Eq.trans (congrFun (x_up_n _ _ _ (by decide)) _) (x_up_s _ _ _ _)) ?_
      refine xr_isub dX9_redo_86 ?_
      exact xr_iret dX9_redo_87 rfl rfl (⟨_, rfl, rfl, rfl, (Ke.up (Or.inr (Or.inr (Or.inr (Or.inl (by omega))))) (Ke.up (Or.inr (Or.inr (Or.inr (Or.inr (Or.inr (Or.inr (by omega))))))) Ke.rf)), ⟨⟨⟨nh, by omega, (Eq.trans (x_up_k _ _ _ (by decide)) (Eq.trans (congrFun (x_up_n _ _ _ (by decide)) _) e_cn))⟩, ⟨cm, by omega, (Eq.trans (congrFun (x_up_n _ _ _ (by decide)) _) (Eq.trans (congrFun (x_up_n _ _ _ (by decide)) _) e_cm))⟩, ⟨L, by omega, (Eq.trans (congrFun (x_up_n _ _ _ (by decide)) _) (Eq.trans (congrFun (x_up_n _ _ _ (by decide)) _) e_L))⟩, (fun kk hkk => by rw [show (x_up (x_up M 41 4 (nI (lu + 1))) 13 7 (lg.2.2 lu)) 3 kk = M 3 kk from (Eq.trans (congrFun (x_up_n _ _ _ (by omega)) _) (Eq.trans (congrFun (x_up_n _ _ _ (by omega)) _) rfl))]; exact hv kk hkk), (DI_up (by decide) (DI_up (by decide) hD)), ⟨n, by omega, (Eq.trans (congrFun (x_up_n _ _ _ (by decide)) _) (Eq.trans (congrFun (x_up_n _ _ _ (by decide)) _) e_n))⟩, ⟨lu + 1, lw, by omega, by omega, (Eq.trans (congrFun (x_up_n _ _ _ (by decide)) _) (x_up_s _ _ _ _)), (Eq.trans (congrFun (x_up_n _ _ _ (by decide)) _) (Eq.trans (x_up_k _ _ _ (by decide)) e_wn))⟩, ⟨b, by omega, (Eq.trans (congrFun (x_up_n _ _ _ (by decide)) _) (Eq.trans (congrFun (x_up_n _ _ _ (by decide)) _) e_b))⟩, (fun j hj => by obtain ⟨q, hq, eq⟩ := hkd j hj; exact ⟨q, hq, (show (x_up (x_up M 41 4 (nI (lu + 1))) 13 7 (lg.2.2 lu)) 47 j = M 47 j from (Eq.trans (congrFun (x_up_n _ _ _ (by omega)) _) (Eq.trans (congrFun (x_up_n _ _ _ (by omega)) _) rfl))).trans eq⟩), ⟨ra, by omega, (Eq.trans (congrFun (x_up_n _ _ _ (by decide)) _) (Eq.trans (congrFun (x_up_n _ _ _ (by decide)) _) e_ra))⟩, (fun j hj => by obtain ⟨s, hs, es⟩ := hsl j hj; exact ⟨s, hs, (show (x_up (x_up M 41 4 (nI (lu + 1))) 13 7 (lg.2.2 lu)) (50 + 2 * j) 3 = M (50 + 2 * j) 3 from (Eq.trans (congrFun (x_up_n _ _ _ (by omega)) _) (Eq.trans (congrFun (x_up_n _ _ _ (by omega)) _) rfl))).trans es⟩), (fun j hj => by obtain ⟨q, hq, eq⟩ := hS j hj; exact ⟨q, hq, (show (x_up (x_up M 41 4 (nI (lu + 1))) 13 7 (lg.2.2 lu)) 36 j = M 36 j from (Eq.trans (congrFun (x_up_n _ _ _ (by omega)) _) (Eq.trans (congrFun (x_up_n _ _ _ (by omega)) _) rfl))).trans eq⟩)⟩, (Or.inr ⟨hne, rfl, (by rw [hq]; exact ⟨(Eq.trans (x_up_k _ _ _ (by decide)) (Eq.trans (congrFun (x_up_n _ _ _ (by decide)) _) e_cn)), (AbC_n (AbC_n hA (by omega)) (by omega)), (LCt_k (Eq.trans (congrFun (x_up_n _ _ _ (by omega)) _) (Eq.trans (congrFun (x_up_n _ _ _ (by omega)) _) rfl)) (fun kl => (Eq.trans (congrFun (x_up_n _ _ _ (by omega)) _) (Eq.trans (congrFun (x_up_n _ _ _ (by omega)) _) rfl))) (fun kl => (Eq.trans (congrFun (x_up_n _ _ _ (by omega)) _) (Eq.trans (congrFun (x_up_n _ _ _ (by omega)) _) rfl))) hL), (Eq.trans (x_up_k _ _ _ (by decide)) (Eq.trans (congrFun (x_up_n _ _ _ (by decide)) _) e_nw)), (Eq.trans (x_up_k _ _ _ (by decide)) (Eq.trans (congrFun (x_up_n _ _ _ (by decide)) _) e_rub)), (Eq.trans (x_up_k _ _ _ (by decide)) (Eq.trans (congrFun (x_up_n _ _ _ (by decide)) _) e_bt)), (Eq.trans (x_up_k _ _ _ (by decide)) (Eq.trans (congrFun (x_up_n _ _ _ (by decide)) _) e_ph)), (x_up_s _ _ _ _), (Eq.trans (congrFun (x_up_n _ _ _ (by decide)) _) (Eq.trans (congrFun (x_up_n _ _ _ (by decide)) _) e_kn)), (Eq.trans (x_up_k _ _ _ (by decide)) (Eq.trans (congrFun (x_up_n _ _ _ (by decide)) _) e_pu)), (Eq.trans (x_up_k _ _ _ (by decide)) (Eq.trans (congrFun (x_up_n _ _ _ (by decide)) _) e_lf))⟩), ⟨(Eq.trans (congrFun (x_up_n _ _ _ (by decide)) _) (x_up_s _ _ _ _)), (Eq.trans (congrFun (x_up_n _ _ _ (by decide)) _) (Eq.trans (x_up_k _ _ _ (by decide)) e_wn)), fun k hk => by rw [show _ = M 42 k from (Eq.trans (congrFun (x_up_n _ _ _ (by omega)) _) (Eq.trans (congrFun (x_up_n _ _ _ (by omega)) _) rfl)), show _ = M 43 k from (Eq.trans (congrFun (x_up_n _ _ _ (by omega)) _) (Eq.trans (congrFun (x_up_n _ _ _ (by omega)) _) rfl)), show _ = M 44 k from (Eq.trans (congrFun (x_up_n _ _ _ (by omega)) _) (Eq.trans (congrFun (x_up_n _ _ _ (by omega)) _) rfl)), show _ = M 45 k from (Eq.trans (congrFun (x_up_n _ _ _ (by omega)) _) (Eq.trans (congrFun (x_up_n _ _ _ (by omega)) _) rfl))]; exact hLk k hk⟩⟩)⟩⟩)
    · rw [hq] at h42 h43
      refine xr_aload_n dX9_redo_20 0 rfl ?_
      refine xr_getR flX9_54 dX9_redo_21 s_0 rfl ?_
      refine xb_get (v := nI (lu)) flX9_309 dX9_redo_24 s_41 rfl e_un ?_
      refine xr_istore_n (ls2 := [(1, .int (nI (lu))), (0, .ref (0))]) dX9_redo_27 (by decide) rfl ?_
      refine xr_aload_n dX9_redo_28 1 rfl ?_
      refine xr_getR flX9_54 dX9_redo_29 s_0 rfl ?_
      refine xr_dup dX9_redo_32 rfl ?_
      refine xb_get (v := nI (lu)) flX9_309 dX9_redo_33 s_41 rfl e_un ?_
      refine xr_iconst (v := 1) dX9_redo_36 rfl ?_
      refine xr_iadd dX9_redo_37 ?_
      refine xb_top (y := nI (lu + 1)) (nI_add (lu) (1)) ?_
      refine xr_putI fpX9_309 dX9_redo_38 s_41 rfl rfl rfl ?_
      refine xr_aload_n dX9_redo_41 1 rfl ?_
      refine xr_aload_n dX9_redo_42 1 rfl ?_
      refine xr_getR flX9_54 dX9_redo_43 s_0 rfl ?_
      refine xr_getR flX9_312 dX9_redo_46 s_41 rfl ?_
      refine xr_iload_n dX9_redo_49 0 rfl ?_
      refine xb_iald (j := lu) (v := 0) dX9_redo_50 s_42 (by omega) (by decide) (Eq.trans (congrFun (x_up_n _ _ _ (by decide)) _) h42) ?_
      refine xr_aload_n dX9_redo_51 1 rfl ?_
      refine xr_getR flX9_54 dX9_redo_52 s_0 rfl ?_
      refine xr_getR flX9_315 dX9_redo_55 s_41 rfl ?_
      refine xr_iload_n dX9_redo_58 0 rfl ?_
      refine xb_iald (j := lu) (v := 7) dX9_redo_59 s_43 (by omega) (by decide) (Eq.trans (congrFun (x_up_n _ _ _ (by decide)) _) h43) ?_
      refine xr_aload_n dX9_redo_60 1 rfl ?_
      refine xr_getR flX9_54 dX9_redo_61 s_0 rfl ?_
      refine xr_getR flX9_324 dX9_redo_64 s_41 rfl ?_
      refine xr_iload_n dX9_redo_67 0 rfl ?_
      refine xb_iald (j := lu) (v := (lg.2.2 lu)) dX9_redo_68 s_45 (by omega) (by decide) (Eq.trans (congrFun (x_up_n _ _ _ (by decide)) _) h45) ?_
      refine xb_cV (As := [.int (0), .int (7), .int ((lg.2.2 lu))]) (rest := []) mlX9_110 (cw_X9_lay_7 (lg.2.2 lu)) dX9_redo_69 s_0 rfl rfl (Nat.le_of_ble_eq_true rfl) (by decide) (by decide) ?_
      refine xr_aload_n dX9_redo_72 1 rfl ?_
      refine xr_getR flX9_54 dX9_redo_73 s_0 rfl ?_
      refine xb_get (v := nI (lw)) flX9_321 dX9_redo_76 s_41 rfl (Eq.trans (congrFun (x_up_n _ _ _ (by decide)) _) (Eq.trans (x_up_k _ _ _ (by decide)) e_wn)) ?_
      refine xr_aload_n dX9_redo_79 1 rfl ?_
      refine xr_getR flX9_54 dX9_redo_80 s_0 rfl ?_
      refine xb_get (v := nI (lu + 1)) flX9_309 dX9_redo_83 s_41 rfl (Eq.trans (congrFun (x_up_n _ _ _ (by decide)) _) (x_up_s _ _ _ _)) ?_
      refine xr_isub dX9_redo_86 ?_
      exact xr_iret dX9_redo_87 rfl rfl (⟨_, rfl, rfl, rfl, (Ke.up (Or.inr (Or.inr (Or.inr (Or.inr (Or.inl (by omega)))))) (Ke.up (Or.inr (Or.inr (Or.inr (Or.inr (Or.inr (Or.inr (by omega))))))) Ke.rf)), ⟨⟨⟨nh, by omega, (Eq.trans (congrFun (x_up_n _ _ _ (by decide)) _) (Eq.trans (congrFun (x_up_n _ _ _ (by decide)) _) e_cn))⟩, ⟨cm, by omega, (Eq.trans (congrFun (x_up_n _ _ _ (by decide)) _) (Eq.trans (congrFun (x_up_n _ _ _ (by decide)) _) e_cm))⟩, ⟨L, by omega, (Eq.trans (congrFun (x_up_n _ _ _ (by decide)) _) (Eq.trans (congrFun (x_up_n _ _ _ (by decide)) _) e_L))⟩, (fun kk hkk => by rw [show (x_up (x_up M 41 4 (nI (lu + 1))) 35 5 (lg.2.2 lu)) 3 kk = M 3 kk from (Eq.trans (congrFun (x_up_n _ _ _ (by omega)) _) (Eq.trans (congrFun (x_up_n _ _ _ (by omega)) _) rfl))]; exact hv kk hkk), (DI_up (by decide) (DI_up (by decide) hD)), ⟨n, by omega, (Eq.trans (congrFun (x_up_n _ _ _ (by decide)) _) (Eq.trans (congrFun (x_up_n _ _ _ (by decide)) _) e_n))⟩, ⟨lu + 1, lw, by omega, by omega, (Eq.trans (congrFun (x_up_n _ _ _ (by decide)) _) (x_up_s _ _ _ _)), (Eq.trans (congrFun (x_up_n _ _ _ (by decide)) _) (Eq.trans (x_up_k _ _ _ (by decide)) e_wn))⟩, ⟨b, by omega, (Eq.trans (congrFun (x_up_n _ _ _ (by decide)) _) (Eq.trans (congrFun (x_up_n _ _ _ (by decide)) _) e_b))⟩, (fun j hj => by obtain ⟨q, hq, eq⟩ := hkd j hj; exact ⟨q, hq, (show (x_up (x_up M 41 4 (nI (lu + 1))) 35 5 (lg.2.2 lu)) 47 j = M 47 j from (Eq.trans (congrFun (x_up_n _ _ _ (by omega)) _) (Eq.trans (congrFun (x_up_n _ _ _ (by omega)) _) rfl))).trans eq⟩), ⟨ra, by omega, (Eq.trans (congrFun (x_up_n _ _ _ (by decide)) _) (Eq.trans (congrFun (x_up_n _ _ _ (by decide)) _) e_ra))⟩, (fun j hj => by obtain ⟨s, hs, es⟩ := hsl j hj; exact ⟨s, hs, (show (x_up (x_up M 41 4 (nI (lu + 1))) 35 5 (lg.2.2 lu)) (50 + 2 * j) 3 = M (50 + 2 * j) 3 from (Eq.trans (congrFun (x_up_n _ _ _ (by omega)) _) (Eq.trans (congrFun (x_up_n _ _ _ (by omega)) _) rfl))).trans es⟩), (fun j hj => by obtain ⟨q, hq, eq⟩ := hS j hj; exact ⟨q, hq, (show (x_up (x_up M 41 4 (nI (lu + 1))) 35 5 (lg.2.2 lu)) 36 j = M 36 j from (Eq.trans (congrFun (x_up_n _ _ _ (by omega)) _) (Eq.trans (congrFun (x_up_n _ _ _ (by omega)) _) rfl))).trans eq⟩)⟩, (Or.inr ⟨hne, rfl, (by rw [hq]; exact ⟨(Eq.trans (congrFun (x_up_n _ _ _ (by decide)) _) (Eq.trans (congrFun (x_up_n _ _ _ (by decide)) _) e_cn)), (AbC_n (AbC_n hA (by omega)) (by omega)), (LCt_k (Eq.trans (congrFun (x_up_n _ _ _ (by omega)) _) (Eq.trans (congrFun (x_up_n _ _ _ (by omega)) _) rfl)) (fun kl => (Eq.trans (congrFun (x_up_n _ _ _ (by omega)) _) (Eq.trans (congrFun (x_up_n _ _ _ (by omega)) _) rfl))) (fun kl => (Eq.trans (congrFun (x_up_n _ _ _ (by omega)) _) (Eq.trans (congrFun (x_up_n _ _ _ (by omega)) _) rfl))) hL), (Eq.trans (congrFun (x_up_n _ _ _ (by decide)) _) (Eq.trans (congrFun (x_up_n _ _ _ (by decide)) _) e_nw)), (Eq.trans (congrFun (x_up_n _ _ _ (by decide)) _) (Eq.trans (congrFun (x_up_n _ _ _ (by decide)) _) e_rub)), (Eq.trans (congrFun (x_up_n _ _ _ (by decide)) _) (Eq.trans (congrFun (x_up_n _ _ _ (by decide)) _) e_bt)), (Eq.trans (congrFun (x_up_n _ _ _ (by decide)) _) (Eq.trans (congrFun (x_up_n _ _ _ (by decide)) _) e_ph)), (Eq.trans (congrFun (x_up_n _ _ _ (by decide)) _) (Eq.trans (congrFun (x_up_n _ _ _ (by decide)) _) e_st)), (x_up_s _ _ _ _), (Eq.trans (congrFun (x_up_n _ _ _ (by decide)) _) (Eq.trans (congrFun (x_up_n _ _ _ (by decide)) _) e_pu)), (Eq.trans (congrFun (x_up_n _ _ _ (by decide)) _) (Eq.trans (congrFun (x_up_n _ _ _ (by decide)) _) e_lf))⟩), ⟨(Eq.trans (congrFun (x_up_n _ _ _ (by decide)) _) (x_up_s _ _ _ _)), (Eq.trans (congrFun (x_up_n _ _ _ (by decide)) _) (Eq.trans (x_up_k _ _ _ (by decide)) e_wn)), fun k hk => by rw [show _ = M 42 k from (Eq.trans (congrFun (x_up_n _ _ _ (by omega)) _) (Eq.trans (congrFun (x_up_n _ _ _ (by omega)) _) rfl)), show _ = M 43 k from (Eq.trans (congrFun (x_up_n _ _ _ (by omega)) _) (Eq.trans (congrFun (x_up_n _ _ _ (by omega)) _) rfl)), show _ = M 44 k from (Eq.trans (congrFun (x_up_n _ _ _ (by omega)) _) (Eq.trans (congrFun (x_up_n _ _ _ (by omega)) _) rfl)), show _ = M 45 k from (Eq.trans (congrFun (x_up_n _ _ _ (by omega)) _) (Eq.trans (congrFun (x_up_n _ _ _ (by omega)) _) rfl))]; exact hLk k hk⟩⟩)⟩⟩)
  · refine xr_bipush (v := -5) dX9_redo_17 rfl ?_
    exact xr_iret dX9_redo_19 rfl rfl (⟨_, rfl, rfl, rfl, Ke.rf, ⟨⟨⟨nh, by omega, e_cn⟩, ⟨cm, by omega, e_cm⟩, ⟨L, by omega, e_L⟩, (fun kk hkk => by rw [show M 3 kk = M 3 kk from rfl]; exact hv kk hkk), hD, ⟨n, by omega, e_n⟩, ⟨lu, lw, by omega, by omega, e_un, e_wn⟩, ⟨b, by omega, e_b⟩, (fun j hj => by obtain ⟨q, hq, eq⟩ := hkd j hj; exact ⟨q, hq, (show M 47 j = M 47 j from rfl).trans eq⟩), ⟨ra, by omega, e_ra⟩, (fun j hj => by obtain ⟨s, hs, es⟩ := hsl j hj; exact ⟨s, hs, (show M (50 + 2 * j) 3 = M (50 + 2 * j) 3 from rfl).trans es⟩), (fun j hj => by obtain ⟨q, hq, eq⟩ := hS j hj; exact ⟨q, hq, (show M 36 j = M 36 j from rfl).trans eq⟩)⟩, (Or.inl ⟨(nI_eq (a := lu) (b := lw) (by omega) (by omega)).mp c1, rfl, hG0, hLg0⟩)⟩⟩)
