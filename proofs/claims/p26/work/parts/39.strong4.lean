/-- skills and minutes of learning of one side -/
def LM (f g : Nat → Int32) : Prop := ∀ j, j < 25 → ∃ q m : Nat, q ≤ 12 ∧ m < max 1 q ∧ f j = nI q ∧ g j = nI m
/-- one minute of learning -/
def LrS (q m : Nat) : Nat × Nat := if 12 ≤ q then (q, m) else if max 1 q ≤ m + 1 then (q + 1, 0) else (q, m + 1)
def LrN : Nat → Nat → Nat → Nat × Nat
  | 0, q, m => (q, m)
  | k + 1, q, m => LrS (LrN k q m).1 (LrN k q m).2
theorem LrS_b {q m : Nat} (hq : q ≤ 12) (hm : m < max 1 q) : (LrS q m).1 ≤ 12 ∧ (LrS q m).2 < max 1 (LrS q m).1 := by
  unfold LrS
  split
  · exact ⟨hq, hm⟩
  · split
    · exact ⟨by show q + 1 ≤ 12; omega, by show 0 < max 1 (q + 1); omega⟩
    · exact ⟨hq, by show m + 1 < max 1 q; omega⟩
theorem LrN_b {q m : Nat} (hq : q ≤ 12) (hm : m < max 1 q) (k : Nat) : (LrN k q m).1 ≤ 12 ∧ (LrN k q m).2 < max 1 (LrN k q m).1 := by
  induction k with
  | zero => exact ⟨hq, hm⟩
  | succ k ih => exact LrS_b ih.1 ih.2
theorem LrN_fix {q m k : Nat} (h : 12 ≤ (LrN k q m).1) (n : Nat) : LrN (k + n) q m = LrN k q m := by
  induction n with
  | zero => rfl
  | succ n ih =>
    show LrS (LrN (k + n) q m).1 (LrN (k + n) q m).2 = _
    rw [ih]
    unfold LrS
    rw [if_pos h]
theorem mx_c {q : Nat} (h : q ≤ 13) : (if (1 : Int32) < nI q then nI q else 1) = nI (max 1 q) := (show ∀ q, q ≤ 13 → (if (1 : Int32) < nI q then nI q else 1) = nI (max 1 q) by decide +kernel) q h
theorem mx_1b {q : Nat} (h : q ≤ 13) (h1 : ¬ 1 ≤ nI q) : (1 : Int32) = nI (max 1 q) := (show ∀ q, q ≤ 13 → ¬ 1 ≤ nI q → (1 : Int32) = nI (max 1 q) by decide +kernel) q h h1
theorem mx_2' {q : Nat} (h : q ≤ 13) (h1 : 1 ≤ nI q) : nI q = nI (max 1 q) := (show ∀ q, q ≤ 13 → 1 ≤ nI q → nI q = nI (max 1 q) by decide +kernel) q h h1
set_option maxRecDepth 100000 in
set_option maxHeartbeats 4000000 in
theorem c_X1_becomes {g : Nat} (hg : g < 25) {w : Nat} {l : Launch} {G : xG} {M : xM} {J : xJ} : x_M l G fX1_becomes 0 0 0 [.ref (35), .int (nI (g)), .int (nI (w))] x_SH M J (qE none x_SH (x_up (x_up M 36 g (nI (w))) 37 g 0) J) := by
  refine xb_of pX1 (Nat.le_of_ble_eq_true rfl) rfl ?_
  refine xr_aload_n dX1_becomes_0 0 rfl ?_
  refine xr_getR flX1_9 dX1_becomes_1 s_35 rfl ?_
  refine xr_iload_n dX1_becomes_4 1 rfl ?_
  refine xr_iload_n dX1_becomes_5 2 rfl ?_
  refine xb_iast (j := g) dX1_becomes_6 s_36 hg (by decide) ?_
  refine xr_aload_n dX1_becomes_7 0 rfl ?_
  refine xr_getR flX1_15 dX1_becomes_8 s_35 rfl ?_
  refine xr_iload_n dX1_becomes_11 1 rfl ?_
  refine xr_iconst (v := 0) dX1_becomes_12 rfl ?_
  refine xb_iast (j := g) dX1_becomes_13 s_37 hg (by decide) ?_
  exact xr_vret dX1_becomes_14 rfl (⟨rfl, rfl, rfl, rfl⟩)
set_option maxRecDepth 100000 in
set_option maxHeartbeats 4000000 in
theorem c_X1_minutesAt {q : Nat} (hq : q ≤ 13) {l : Launch} {G : xG} {sh : List xS} {M : xM} {J : xJ} : x_M l G fX1_minutesAt 1 0 0 [.int (nI q)] sh M J (qE (some (.int (nI (max 1 q)))) sh M J) := by
  refine xb_of pX1 (Nat.le_of_ble_eq_true rfl) rfl ?_
  refine xr_iconst (v := 1) dX1_minutesAt_0 rfl ?_
  refine xr_iload_n dX1_minutesAt_1 0 rfl ?_
  refine xr_max mmX1_32 uj_max uj_mi uj_maxc dX1_minutesAt_2 (Nat.le_of_ble_eq_true rfl) (by decide) ?_
  exact xr_iret dX1_minutesAt_5 rfl rfl (⟨congrArg (fun z => some (Value.int z)) (mx_c hq), rfl, rfl, rfl⟩)
set_option maxRecDepth 100000 in
set_option maxHeartbeats 4000000 in
theorem c_X10_needsOf {q : Nat} (hq : q ≤ 13) {l : Launch} {G : xG} {sh : List xS} {M : xM} {J : xJ} : x_M l G fX10_needsOf 0 0 0 [.int (nI q)] sh M J (qE (some (.int (nI (max 1 q)))) sh M J) := by
  refine xb_of pX10 (Nat.le_of_ble_eq_true rfl) rfl ?_
  refine xr_iload_n dX10_needsOf_0 0 rfl ?_
  refine xr_iconst (v := 1) dX10_needsOf_1 rfl ?_
  refine xr_icmp_ge (tgt := 9) dX10_needsOf_2 rfl (fun c1 => ?_) (fun c1 => ?_)
  · refine xr_iload_n dX10_needsOf_9 0 rfl ?_
    exact xr_iret dX10_needsOf_10 rfl rfl (⟨congrArg (fun z => some (Value.int z)) (mx_2' hq c1), rfl, rfl, rfl⟩)
  · refine xr_iconst (v := 1) dX10_needsOf_5 rfl ?_
    refine xr_goto (tgt := 10) dX10_needsOf_6 rfl ?_
    exact xr_iret dX10_needsOf_10 rfl rfl (⟨congrArg (fun z => some (Value.int z)) (mx_1b hq c1), rfl, rfl, rfl⟩)
def ESkill (cc : Prop) (f g f2 g2 : Nat → Int32) (k v r : Int32) : Prop := ¬ cc ∧ r = -1 ∧ f2 = f ∧ g2 = g ∨ cc ∧ ∃ j w : Nat, j < 25 ∧ w ≤ 12 ∧ k = nI j ∧ v = nI w ∧ r = f j ∧ f2 j = nI w ∧ g2 j = 0 ∧ ∀ i, i ≠ j → f2 i = f i ∧ g2 i = g i
def ELearn (cc : Prop) (f g f2 g2 : Nat → Int32) (k n r : Int32) : Prop := ¬ cc ∧ r = -1 ∧ f2 = f ∧ g2 = g ∨ cc ∧ ∃ j N q m : Nat, j < 25 ∧ q ≤ 12 ∧ m < max 1 q ∧ N ≤ 99 ∧ k = nI j ∧ n = nI N ∧ f j = nI q ∧ g j = nI m ∧ r = nI (LrN N q m).1 ∧ f2 j = nI (LrN N q m).1 ∧ g2 j = nI (LrN N q m).2 ∧ ∀ i, i ≠ j → f2 i = f i ∧ g2 i = g i
theorem LrS_12 {q m : Nat} (h : 12 ≤ q) : LrS q m = (q, m) := if_pos h
theorem LrS_up {q m : Nat} (h : ¬ 12 ≤ q) (h2 : max 1 q ≤ m + 1) : LrS q m = (q + 1, 0) := (if_neg h).trans (if_pos h2)
theorem LrS_on {q m : Nat} (h : ¬ 12 ≤ q) (h2 : ¬ max 1 q ≤ m + 1) : LrS q m = (q, m + 1) := (if_neg h).trans (if_neg h2)
/-- how skills and minutes stand behind some minutes of one girl -/
def LI (f g f2 g2 : Nat → Int32) (j : Nat) (s : Nat × Nat) : Prop := f2 j = nI s.1 ∧ g2 j = nI s.2 ∧ ∀ i, i ≠ j → f2 i = f i ∧ g2 i = g i
set_option maxRecDepth 100000 in
set_option maxHeartbeats 4000000 in
theorem gs_X1_learnMinute {g sk mi : Nat} (hg : g < 25) (hq : sk ≤ 12) (hm : mi < max 1 sk) {l : Launch} {G : xG} {M : xM} {J : xJ} (e_q : M 36 g = nI sk) (e_m : M 37 g = nI mi) : x_M l G fX1_learnMinute 2 0 0 [.ref 35, .int (nI g)] x_SH M J (qKV WSK M J (fun M2 => LI (M 36) (M 37) (M2 36) (M2 37) g (LrS sk mi))) := by
  refine xb_of pX1 (Nat.le_of_ble_eq_true rfl) rfl ?_
  refine xr_aload_n dX1_learnMinute_0 0 rfl ?_
  refine xr_getR flX1_9 dX1_learnMinute_1 s_35 rfl ?_
  refine xr_iload_n dX1_learnMinute_4 1 rfl ?_
  refine xb_iald (j := g) (v := nI (sk)) dX1_learnMinute_5 s_36 hg (by decide) e_q ?_
  refine xr_bipush (v := 12) dX1_learnMinute_6 rfl ?_
  refine xr_icmp_lt (tgt := 12) dX1_learnMinute_8 rfl (fun c1 => ?_) (fun c1 => ?_)
  · have nc1 : sk < 12 := (nI_ltI (a := sk) (b := 12) (by omega) (by omega)).mp c1
    refine xr_aload_n dX1_learnMinute_12 0 rfl ?_
    refine xr_getR flX1_15 dX1_learnMinute_13 s_35 rfl ?_
    refine xr_iload_n dX1_learnMinute_16 1 rfl ?_
    refine xr_dup2 dX1_learnMinute_17 rfl rfl ?_
    refine xb_iald (j := g) (v := nI (mi)) dX1_learnMinute_18 s_37 hg (by decide) e_m ?_
    refine xr_iconst (v := 1) dX1_learnMinute_19 rfl ?_
    refine xr_iadd dX1_learnMinute_20 ?_
    refine xb_top (y := nI (mi + 1)) (nI_add (mi) (1)) ?_
    refine xb_iast (j := g) dX1_learnMinute_21 s_37 hg (by decide) ?_
    refine xr_aload_n dX1_learnMinute_22 0 rfl ?_
    refine xr_getR flX1_15 dX1_learnMinute_23 s_35 rfl ?_
    refine xr_iload_n dX1_learnMinute_26 1 rfl ?_
    refine xb_iald (j := g) (v := nI (mi + 1)) dX1_learnMinute_27 s_37 hg (by decide) (x_up_s _ _ _ _) ?_
    refine xr_aload_n dX1_learnMinute_28 0 rfl ?_
    refine xr_getR flX1_9 dX1_learnMinute_29 s_35 rfl ?_
    refine xr_iload_n dX1_learnMinute_32 1 rfl ?_
    refine xb_iald (j := g) (v := nI (sk)) dX1_learnMinute_33 s_36 hg (by decide) (Eq.trans (congrFun (x_up_n _ _ _ (by decide)) _) e_q) ?_
    refine xb_cS (As := [.int (nI (sk))]) (rest := [.int (nI (mi + 1))]) mlX1_38 (c_X1_minutesAt (q := sk) (by omega)) dX1_learnMinute_34 rfl rfl (Nat.le_of_ble_eq_true rfl) (by decide) (by decide) ?_
    refine xr_icmp_lt (tgt := 53) dX1_learnMinute_37 rfl (fun c2 => ?_) (fun c2 => ?_)
    · have nc2 : mi + 1 < max 1 sk := (nI_ltI (a := mi + 1) (b := max 1 sk) (by omega) (by omega)).mp c2
      exact xr_vret dX1_learnMinute_53 rfl (⟨rfl, rfl, rfl, (Ke.up (by omega) Ke.rf), (show LI (M 36) (M 37) ((x_up M 37 g (nI (mi + 1))) 36) ((x_up M 37 g (nI (mi + 1))) 37) g (LrS sk mi) by rw [(LrS_on (by omega) (by omega))]; exact ⟨(Eq.trans (congrFun (x_up_n _ _ _ (by decide)) _) e_q), (x_up_s _ _ _ _), fun i hi => ⟨(Eq.trans (congrFun (x_up_n _ _ _ (by decide)) _) rfl), (Eq.trans (x_up_k _ _ _ (by omega)) rfl)⟩⟩)⟩)
    · have nc2 : ¬ (mi + 1 < max 1 sk) := fun q => c2 ((nI_ltI (a := mi + 1) (b := max 1 sk) (by omega) (by omega)).mpr q)
      refine xr_aload_n dX1_learnMinute_40 0 rfl ?_
      refine xr_iload_n dX1_learnMinute_41 1 rfl ?_
      refine xr_aload_n dX1_learnMinute_42 0 rfl ?_
      refine xr_getR flX1_9 dX1_learnMinute_43 s_35 rfl ?_
      refine xr_iload_n dX1_learnMinute_46 1 rfl ?_
      refine xb_iald (j := g) (v := nI (sk)) dX1_learnMinute_47 s_36 hg (by decide) (Eq.trans (congrFun (x_up_n _ _ _ (by decide)) _) e_q) ?_
      refine xr_iconst (v := 1) dX1_learnMinute_48 rfl ?_
      refine xr_iadd dX1_learnMinute_49 ?_
      refine xb_top (y := nI (sk + 1)) (nI_add (sk) (1)) ?_
      refine xb_cV (As := [.int (nI (g)), .int (nI (sk + 1))]) (rest := []) mlX1_42 (c_X1_becomes (g := g) hg (w := sk + 1)) dX1_learnMinute_50 s_35 rfl rfl (Nat.le_of_ble_eq_true rfl) (by decide) (by decide) ?_
      exact xr_vret dX1_learnMinute_53 rfl (⟨rfl, rfl, rfl, (Ke.up (by omega) (Ke.up (by omega) (Ke.up (by omega) Ke.rf))), (show LI (M 36) (M 37) ((x_up (x_up (x_up M 37 g (nI (mi + 1))) 36 g (nI (sk + 1))) 37 g 0) 36) ((x_up (x_up (x_up M 37 g (nI (mi + 1))) 36 g (nI (sk + 1))) 37 g 0) 37) g (LrS sk mi) by rw [(LrS_up (by omega) (by omega))]; exact ⟨(Eq.trans (congrFun (x_up_n _ _ _ (by decide)) _) (x_up_s _ _ _ _)), (x_up_s _ _ _ _), fun i hi => ⟨(Eq.trans (congrFun (x_up_n _ _ _ (by decide)) _) (Eq.trans (x_up_k _ _ _ (by omega)) (Eq.trans (congrFun (x_up_n _ _ _ (by decide)) _) rfl))), (Eq.trans (x_up_k _ _ _ (by omega)) (Eq.trans (congrFun (x_up_n _ _ _ (by decide)) _) (Eq.trans (x_up_k _ _ _ (by omega)) rfl)))⟩⟩)⟩)
  · have nc1 : ¬ (sk < 12) := fun q => c1 ((nI_ltI (a := sk) (b := 12) (by omega) (by omega)).mpr q)
    exact xr_vret dX1_learnMinute_11 rfl (⟨rfl, rfl, rfl, Ke.rf, (show LI (M 36) (M 37) (M 36) (M 37) g (LrS sk mi) by rw [(LrS_12 (by omega))]; exact ⟨e_q, e_m, fun i hi => ⟨rfl, rfl⟩⟩)⟩)
theorem LI_tr {f g f1 g1 f2 g2 : Nat → Int32} {j : Nat} {s s2 : Nat × Nat} (h : LI f g f1 g1 j s) (h2 : LI f1 g1 f2 g2 j s2) : LI f g f2 g2 j s2 := ⟨h2.1, h2.2.1, fun i hi => ⟨(h2.2.2 i hi).1.trans (h.2.2 i hi).1, (h2.2.2 i hi).2.trans (h.2.2 i hi).2⟩⟩
theorem LI_SK {M M2 : xM} {j : Nat} {s : Nat × Nat} (hj : j < 25) (hs : s.1 ≤ 12) (h : LI (M 36) (M 37) (M2 36) (M2 37) j s) (hS : SK M) : SK M2 := fun i hi => by
  by_cases e : i = j
  · subst e; exact ⟨_, hs, h.1⟩
  · obtain ⟨q, hq, eq⟩ := hS i hi; exact ⟨q, hq, (h.2.2 i e).1.trans eq⟩
theorem LI_SKR {M M2 : xM} {j : Nat} {s : Nat × Nat} (hj : j < 25) (hs : s.1 ≤ 12) (h : LI (M 75) (M 76) (M2 75) (M2 76) j s) (hS : SKR M) : SKR M2 := fun i hi => by
  by_cases e : i = j
  · subst e; exact ⟨_, hs, h.1⟩
  · obtain ⟨q, hq, eq⟩ := hS i hi; exact ⟨q, hq, (h.2.2 i e).1.trans eq⟩
set_option maxRecDepth 100000 in
set_option maxHeartbeats 4000000 in
theorem lex_l {g N q mi : Nat} (hg : g < 25) (hN : N ≤ 99) (hq : q ≤ 12) (hm : mi < max 1 q) {l : Launch} {G : xG} {M : xM} {J : xJ} {Q : xQ} (hC : ∀ M2 : xM, Ke WSK M M2 → LI (M 36) (M 37) (M2 36) (M2 37) g (LrN N q mi) → x_X l G fX9_learn 3 0 0 Q 41 [(1, .int (nI g)), (0, .ref 0)] [] x_SH M2 J 0 0) : ∀ (m k : Nat) (M1 : xM), k + m = N → Ke WSK M M1 → LI (M 36) (M 37) (M1 36) (M1 37) g (LrN k q mi) → x_X l G fX9_learn 3 0 0 Q 22 [(3, .int (nI (k))), (2, .int (nI (N))), (1, .int (nI (g))), (0, .ref (0))] [] x_SH M1 J 0 0 := by
  intro m
  induction m with
  | zero =>
    intro k M1 hk hM hI1
    have hb := LrN_b hq hm k
    refine xr_iload_n dX9_learn_22 0 rfl ?_
    refine xr_iload_n dX9_learn_23 1 rfl ?_
    refine xr_icmp_ge (tgt := 41) dX9_learn_24 rfl (fun _ => ?_) (fun c => absurd (nI_le (a := N) (b := k) (by omega) (by omega)) c)
    obtain rfl : k = N := by omega
    refine xb_ls (ls2 := [(1, .int (nI (g))), (0, .ref (0))]) [2, 3] rfl ?_
    exact hC _ hM hI1
  | succ m ih =>
    intro k M1 hk hM hI1
    have hb := LrN_b hq hm k
    refine xr_iload_n dX9_learn_22 0 rfl ?_
    refine xr_iload_n dX9_learn_23 1 rfl ?_
    refine xr_icmp_ge (tgt := 41) dX9_learn_24 rfl (fun c => absurd c (nI_ge (a := k) (b := N) (by omega) (by omega))) (fun _ => ?_)
    refine xr_aload_n dX9_learn_27 3 rfl ?_
    refine xr_getR flX9_47 dX9_learn_28 s_0 rfl ?_
    refine xr_iload_n dX9_learn_31 2 rfl ?_
    refine xr_callV (As := [.int (nI (g))]) (rest := []) mlX9_294 (gs_X1_learnMinute (g := g) hg hb.1 hb.2 hI1.1 hI1.2.1) dX9_learn_32 s_35 rfl rfl (Nat.le_of_ble_eq_true rfl) (by decide) ⟨by decide, by decide⟩ (fun v s2 M2 J2 hq => ?_)
    obtain ⟨rfl, rfl, rfl, k3, hx1⟩ := hq
    try dsimp only [Option.toList, List.cons_append, List.nil_append]
    refine xr_iinc (v := nI (k + 1)) (ls2 := [(3, .int (nI (k + 1))), (2, .int (nI (N))), (1, .int (nI (g))), (0, .ref (0))]) dX9_learn_35 0 rfl (nI_1 _) (by decide) rfl ?_
    refine xr_goto (tgt := 22) dX9_learn_38 rfl ?_
    refine xb_ls (ls2 := [(3, .int (nI (k + 1))), (2, .int (nI (N))), (1, .int (nI (g))), (0, .ref (0))]) [0, 1, 2, 3] rfl ?_
    exact ih (k + 1) M2 (by omega) (Ke.tr (fun _ _ h => h) hM k3) (LI_tr hI1 hx1)
set_option maxRecDepth 100000 in
set_option maxHeartbeats 4000000 in
theorem rlex_l {g N q mi : Nat} (hg : g < 25) (hN : N ≤ 99) (hq : q ≤ 12) (hm : mi < max 1 q) {l : Launch} {G : xG} {M : xM} {J : xJ} {Q : xQ} (hC : ∀ M2 : xM, Ke WRK M M2 → LI (M 75) (M 76) (M2 75) (M2 76) g (LrN N q mi) → x_X l G fX10_learn 2 0 0 Q 90 [(1, .int (nI g)), (0, .ref 62)] [] x_SH M2 J 0 0) : ∀ (m k : Nat) (M1 : xM), k + m = N → Ke WRK M M1 → LI (M 75) (M 76) (M1 75) (M1 76) g (LrN k q mi) → x_X l G fX10_learn 2 0 0 Q 23 [(3, .int (nI (k))), (2, .int (nI (N))), (1, .int (nI (g))), (0, .ref (62))] [] x_SH M1 J 0 0 := by
  intro m
  induction m with
  | zero =>
    intro k M1 hk hM hI1
    have hb := LrN_b hq hm k
    obtain ⟨q1, m1, hs⟩ : ∃ q1 m1, LrN k q mi = (q1, m1) := ⟨_, _, rfl⟩
    rw [hs] at hb
    have hI2 := hI1
    rw [hs] at hI2
    obtain ⟨e_q, e_m, e_o⟩ := hI2
    replace e_q : M1 75 g = nI q1 := e_q
    replace e_m : M1 76 g = nI m1 := e_m
    have hb1 : q1 ≤ 12 := hb.1
    have hb2 : m1 < max 1 q1 := hb.2
    refine xr_iload_n dX10_learn_23 0 rfl ?_
    refine xr_iload_n dX10_learn_24 1 rfl ?_
    refine xr_icmp_ge (tgt := 90) dX10_learn_25 rfl (fun _ => ?_) (fun c => absurd (nI_le (a := N) (b := k) (by omega) (by omega)) c)
    refine xb_ls (ls2 := [(1, .int (nI (g))), (0, .ref (62))]) [2, 3] rfl ?_
    obtain rfl : k = N := by omega
    exact hC _ hM hI1
  | succ m ih =>
    intro k M1 hk hM hI1
    have hb := LrN_b hq hm k
    obtain ⟨q1, m1, hs⟩ : ∃ q1 m1, LrN k q mi = (q1, m1) := ⟨_, _, rfl⟩
    rw [hs] at hb
    have hI2 := hI1
    rw [hs] at hI2
    obtain ⟨e_q, e_m, e_o⟩ := hI2
    replace e_q : M1 75 g = nI q1 := e_q
    replace e_m : M1 76 g = nI m1 := e_m
    have hb1 : q1 ≤ 12 := hb.1
    have hb2 : m1 < max 1 q1 := hb.2
    refine xr_iload_n dX10_learn_23 0 rfl ?_
    refine xr_iload_n dX10_learn_24 1 rfl ?_
    refine xr_icmp_ge (tgt := 90) dX10_learn_25 rfl (fun c => absurd c (nI_ge (a := k) (b := N) (by omega) (by omega))) (fun _ => ?_)
    refine xr_aload_n dX10_learn_28 3 rfl ?_
    refine xr_getR flX10_50 dX10_learn_29 s_62 rfl ?_
    refine xr_iload_n dX10_learn_32 2 rfl ?_
    refine xb_iald (j := g) (v := nI (q1)) dX10_learn_33 s_75 hg (by decide) e_q ?_
    refine xr_bipush (v := 12) dX10_learn_34 rfl ?_
    refine xr_icmp_ge (tgt := 90) dX10_learn_36 rfl (fun c1 => ?_) (fun c1 => ?_)
    · have nc1 : 12 ≤ q1 := (nI_leI (a := 12) (b := q1) (by omega) (by omega)).mp c1
      refine xb_ls (ls2 := [(1, .int (nI (g))), (0, .ref (62))]) [2, 3] rfl ?_
      have h12 : 12 ≤ (LrN k q mi).1 := by rw [hs]; show 12 ≤ q1; omega
      exact hC _ hM (by rw [show N = k + (N - k) by omega, LrN_fix h12]; exact hI1)
    · have nc1 : ¬ (12 ≤ q1) := fun q => c1 ((nI_leI (a := 12) (b := q1) (by omega) (by omega)).mpr q)
      refine xr_aload_n dX10_learn_39 3 rfl ?_
      refine xr_getR flX10_53 dX10_learn_40 s_62 rfl ?_
      refine xr_iload_n dX10_learn_43 2 rfl ?_
      refine xr_dup2 dX10_learn_44 rfl rfl ?_
      refine xb_iald (j := g) (v := nI (m1)) dX10_learn_45 s_76 hg (by decide) e_m ?_
      refine xr_iconst (v := 1) dX10_learn_46 rfl ?_
      refine xr_iadd dX10_learn_47 ?_
      refine xb_top (y := nI (m1 + 1)) (nI_add (m1) (1)) ?_
      refine xb_iast (j := g) dX10_learn_48 s_76 hg (by decide) ?_
      refine xr_aload_n dX10_learn_49 3 rfl ?_
      refine xr_getR flX10_53 dX10_learn_50 s_62 rfl ?_
      refine xr_iload_n dX10_learn_53 2 rfl ?_
      refine xb_iald (j := g) (v := nI (m1 + 1)) dX10_learn_54 s_76 hg (by decide) (x_up_s _ _ _ _) ?_
      refine xr_aload_n dX10_learn_55 3 rfl ?_
      refine xr_getR flX10_50 dX10_learn_56 s_62 rfl ?_
      refine xr_iload_n dX10_learn_59 2 rfl ?_
      refine xb_iald (j := g) (v := nI (q1)) dX10_learn_60 s_75 hg (by decide) (Eq.trans (congrFun (x_up_n _ _ _ (by decide)) _) e_q) ?_
      refine xb_cS (As := [.int (nI (q1))]) (rest := [.int (nI (m1 + 1))]) mlX10_324 (c_X10_needsOf (q := q1) (by omega)) dX10_learn_61 rfl rfl (Nat.le_of_ble_eq_true rfl) (by decide) (by decide) ?_
      refine xr_icmp_ne (tgt := 84) dX10_learn_64 rfl (fun c2 => ?_) (fun c2 => ?_)
      · have nc2 : ¬ (m1 + 1 = max 1 q1) := fun q => c2 ((nI_eq (a := m1 + 1) (b := max 1 q1) (by omega) (by omega)).mpr q)
        refine xr_iinc (v := nI (k + 1)) (ls2 := [(3, .int (nI (k + 1))), (2, .int (nI (N))), (1, .int (nI (g))), (0, .ref (62))]) dX10_learn_84 0 rfl (nI_1 _) (by decide) rfl ?_
        refine xr_goto (tgt := 23) dX10_learn_87 rfl ?_
        refine xb_ls (ls2 := [(3, .int (nI (k + 1))), (2, .int (nI (N))), (1, .int (nI (g))), (0, .ref (62))]) [0, 1, 2, 3] rfl ?_
        exact ih (k + 1) (x_up M1 76 g (nI (m1 + 1))) (by omega) (Ke.up (by omega) hM) (show LI (M 75) (M 76) ((x_up M1 76 g (nI (m1 + 1))) 75) ((x_up M1 76 g (nI (m1 + 1))) 76) g (LrS (LrN k q mi).1 (LrN k q mi).2) by rw [hs, (LrS_on (by omega) (by omega))]; exact ⟨(Eq.trans (congrFun (x_up_n _ _ _ (by decide)) _) e_q), (x_up_s _ _ _ _), fun i hi => ⟨((Eq.trans (congrFun (x_up_n _ _ _ (by decide)) _) rfl)).trans (e_o i hi).1, ((Eq.trans (x_up_k _ _ _ (by omega)) rfl)).trans (e_o i hi).2⟩⟩)
      · have nc2 : m1 + 1 = max 1 q1 := (nI_eq (a := m1 + 1) (b := max 1 q1) (by omega) (by omega)).mp c2
        refine xr_aload_n dX10_learn_67 3 rfl ?_
        refine xr_getR flX10_50 dX10_learn_68 s_62 rfl ?_
        refine xr_iload_n dX10_learn_71 2 rfl ?_
        refine xr_dup2 dX10_learn_72 rfl rfl ?_
        refine xb_iald (j := g) (v := nI (q1)) dX10_learn_73 s_75 hg (by decide) (Eq.trans (congrFun (x_up_n _ _ _ (by decide)) _) e_q) ?_
        refine xr_iconst (v := 1) dX10_learn_74 rfl ?_
        refine xr_iadd dX10_learn_75 ?_
        refine xb_top (y := nI (q1 + 1)) (nI_add (q1) (1)) ?_
        refine xb_iast (j := g) dX10_learn_76 s_75 hg (by decide) ?_
        refine xr_aload_n dX10_learn_77 3 rfl ?_
        refine xr_getR flX10_53 dX10_learn_78 s_62 rfl ?_
        refine xr_iload_n dX10_learn_81 2 rfl ?_
        refine xr_iconst (v := 0) dX10_learn_82 rfl ?_
        refine xb_iast (j := g) dX10_learn_83 s_76 hg (by decide) ?_
        refine xr_iinc (v := nI (k + 1)) (ls2 := [(3, .int (nI (k + 1))), (2, .int (nI (N))), (1, .int (nI (g))), (0, .ref (62))]) dX10_learn_84 0 rfl (nI_1 _) (by decide) rfl ?_
        refine xr_goto (tgt := 23) dX10_learn_87 rfl ?_
        refine xb_ls (ls2 := [(3, .int (nI (k + 1))), (2, .int (nI (N))), (1, .int (nI (g))), (0, .ref (62))]) [0, 1, 2, 3] rfl ?_
        exact ih (k + 1) (x_up (x_up (x_up M1 76 g (nI (m1 + 1))) 75 g (nI (q1 + 1))) 76 g 0) (by omega) (Ke.up (by omega) (Ke.up (by omega) (Ke.up (by omega) hM))) (show LI (M 75) (M 76) ((x_up (x_up (x_up M1 76 g (nI (m1 + 1))) 75 g (nI (q1 + 1))) 76 g 0) 75) ((x_up (x_up (x_up M1 76 g (nI (m1 + 1))) 75 g (nI (q1 + 1))) 76 g 0) 76) g (LrS (LrN k q mi).1 (LrN k q mi).2) by rw [hs, (LrS_up (by omega) (by omega))]; exact ⟨(Eq.trans (congrFun (x_up_n _ _ _ (by decide)) _) (x_up_s _ _ _ _)), (x_up_s _ _ _ _), fun i hi => ⟨((Eq.trans (congrFun (x_up_n _ _ _ (by decide)) _) (Eq.trans (x_up_k _ _ _ (by omega)) (Eq.trans (congrFun (x_up_n _ _ _ (by decide)) _) rfl)))).trans (e_o i hi).1, ((Eq.trans (x_up_k _ _ _ (by omega)) (Eq.trans (congrFun (x_up_n _ _ _ (by decide)) _) (Eq.trans (x_up_k _ _ _ (by omega)) rfl)))).trans (e_o i hi).2⟩⟩)
theorem LI_0 {f g : Nat → Int32} {j q m : Nat} (h1 : f j = nI q) (h2 : g j = nI m) : LI f g f g j (LrN 0 q m) := ⟨h1, h2, fun _ _ => ⟨rfl, rfl⟩⟩
def tS (a : Nat) : Nat → Nat
  | 0 => 0
  | n + 1 => tS a n + max 1 (a + n)
theorem tS_s {m a k : Nat} (h : a ≤ k) : -nI m + nI (tS a (k - a)) + nI (max 1 k) = -nI m + nI (tS a (k + 1 - a)) := by
  rw [Int32.add_assoc, nI_add, show k + 1 - a = (k - a) + 1 by omega]
  show _ = -nI m + nI (tS a (k - a) + max 1 (a + (k - a)))
  rw [show a + (k - a) = k by omega]
theorem tS_0 {m a : Nat} : -nI m = -nI m + nI (tS a (a - a)) := by rw [Nat.sub_self]; show _ = -nI m + 0; rw [Int32.add_zero]
def ETill (cc : Prop) (f g : Nat → Int32) (k v r : Int32) : Prop := ¬ cc ∧ r = -1 ∨ cc ∧ ∃ j w q m : Nat, j < 25 ∧ k = nI j ∧ v = nI w ∧ f j = nI q ∧ g j = nI m ∧ q ≤ 12 ∧ m ≤ 12 ∧ w ≤ 12 ∧ (w ≤ q ∧ r = 0 ∨ q < w ∧ r = -nI m + nI (tS q (w - q)))
set_option maxRecDepth 100000 in
set_option maxHeartbeats 4000000 in
theorem tix_l {w q m0 : Nat} (hw : w ≤ 13) {l : Launch} {G : xG} {M : xM} {J : xJ} {Q : xQ} (hC : x_X l G fX9_till 2 0 0 Q 73 [(3, .int ((-nI m0 + nI (tS q (w - q))))), (0, .ref (0))] [] x_SH M J 0 0) : ∀ (m k : Nat), k + m = w → q ≤ k → x_X l G fX9_till 2 0 0 Q 53 [(4, .int (nI (k))), (3, .int ((-nI m0 + nI (tS q (k - q))))), (2, .int (nI (w))), (0, .ref (0))] [] x_SH M J 0 0 := by
  intro m
  induction m with
  | zero =>
    intro k hk hqk
    refine xr_iload dX9_till_53 0 rfl ?_
    refine xr_iload_n dX9_till_55 2 rfl ?_
    refine xr_icmp_ge (tgt := 73) dX9_till_56 rfl (fun _ => ?_) (fun c => absurd (nI_le (a := w) (b := k) (by omega) (by omega)) c)
    obtain rfl : k = w := by omega
    refine xb_ls (ls2 := [(3, .int ((-nI m0 + nI (tS q (k - q))))), (0, .ref (0))]) [1, 3] rfl ?_
    exact hC
  | succ m ih =>
    intro k hk hqk
    refine xr_iload dX9_till_53 0 rfl ?_
    refine xr_iload_n dX9_till_55 2 rfl ?_
    refine xr_icmp_ge (tgt := 73) dX9_till_56 rfl (fun c => absurd c (nI_ge (a := k) (b := w) (by omega) (by omega))) (fun _ => ?_)
    refine xr_iload_n dX9_till_59 1 rfl ?_
    refine xr_iload dX9_till_60 0 rfl ?_
    refine xb_cS (As := [.int (nI (k))]) (rest := [.int ((-nI m0 + nI (tS q (k - q))))]) mlX9_297 (c_X1_minutesAt (q := k) (by omega)) dX9_till_62 rfl rfl (Nat.le_of_ble_eq_true rfl) (by decide) (by decide) ?_
    refine xr_iadd dX9_till_65 ?_
    refine xb_top (y := (-nI m0 + nI (tS q (k + 1 - q)))) (tS_s hqk) ?_
    refine xr_istore_n (ls2 := [(3, .int ((-nI m0 + nI (tS q (k + 1 - q))))), (4, .int (nI (k))), (2, .int (nI (w))), (0, .ref (0))]) dX9_till_66 (by decide) rfl ?_
    refine xr_iinc (v := nI (k + 1)) (ls2 := [(4, .int (nI (k + 1))), (3, .int ((-nI m0 + nI (tS q (k + 1 - q))))), (2, .int (nI (w))), (0, .ref (0))]) dX9_till_67 1 rfl (nI_1 _) (by decide) rfl ?_
    refine xr_goto (tgt := 53) dX9_till_70 rfl ?_
    refine xb_ls (ls2 := [(4, .int (nI (k + 1))), (3, .int ((-nI m0 + nI (tS q (k + 1 - q))))), (2, .int (nI (w))), (0, .ref (0))]) [0, 1, 2, 3] rfl ?_
    exact ih (k + 1) (by omega) (by omega)
set_option maxRecDepth 100000 in
set_option maxHeartbeats 4000000 in
theorem rtix_l {w q m0 : Nat} (hw : w ≤ 13) {l : Launch} {G : xG} {M : xM} {J : xJ} {Q : xQ} (hC : x_X l G fX10_till 2 0 0 Q 71 [(3, .int ((-nI m0 + nI (tS q (w - q))))), (0, .ref (62))] [] x_SH M J 0 0) : ∀ (m k : Nat), k + m = w → q ≤ k → x_X l G fX10_till 2 0 0 Q 51 [(4, .int (nI (k))), (3, .int ((-nI m0 + nI (tS q (k - q))))), (2, .int (nI (w))), (0, .ref (62))] [] x_SH M J 0 0 := by
  intro m
  induction m with
  | zero =>
    intro k hk hqk
    refine xr_iload dX10_till_51 0 rfl ?_
    refine xr_iload_n dX10_till_53 2 rfl ?_
    refine xr_icmp_ge (tgt := 71) dX10_till_54 rfl (fun _ => ?_) (fun c => absurd (nI_le (a := w) (b := k) (by omega) (by omega)) c)
    obtain rfl : k = w := by omega
    refine xb_ls (ls2 := [(3, .int ((-nI m0 + nI (tS q (k - q))))), (0, .ref (62))]) [1, 3] rfl ?_
    exact hC
  | succ m ih =>
    intro k hk hqk
    refine xr_iload dX10_till_51 0 rfl ?_
    refine xr_iload_n dX10_till_53 2 rfl ?_
    refine xr_icmp_ge (tgt := 71) dX10_till_54 rfl (fun c => absurd c (nI_ge (a := k) (b := w) (by omega) (by omega))) (fun _ => ?_)
    refine xr_iload_n dX10_till_57 1 rfl ?_
    refine xr_iload dX10_till_58 0 rfl ?_
    refine xb_cS (As := [.int (nI (k))]) (rest := [.int ((-nI m0 + nI (tS q (k - q))))]) mlX10_324 (c_X10_needsOf (q := k) (by omega)) dX10_till_60 rfl rfl (Nat.le_of_ble_eq_true rfl) (by decide) (by decide) ?_
    refine xr_iadd dX10_till_63 ?_
    refine xb_top (y := (-nI m0 + nI (tS q (k + 1 - q)))) (tS_s hqk) ?_
    refine xr_istore_n (ls2 := [(3, .int ((-nI m0 + nI (tS q (k + 1 - q))))), (4, .int (nI (k))), (2, .int (nI (w))), (0, .ref (62))]) dX10_till_64 (by decide) rfl ?_
    refine xr_iinc (v := nI (k + 1)) (ls2 := [(4, .int (nI (k + 1))), (3, .int ((-nI m0 + nI (tS q (k + 1 - q))))), (2, .int (nI (w))), (0, .ref (62))]) dX10_till_65 1 rfl (nI_1 _) (by decide) rfl ?_
    refine xr_goto (tgt := 51) dX10_till_68 rfl ?_
    refine xb_ls (ls2 := [(4, .int (nI (k + 1))), (3, .int ((-nI m0 + nI (tS q (k + 1 - q))))), (2, .int (nI (w))), (0, .ref (62))]) [0, 1, 2, 3] rfl ?_
    exact ih (k + 1) (by omega) (by omega)
