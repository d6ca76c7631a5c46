theorem mx_c {q : Nat} (h : q ≤ 13) : (if (1 : Int32) < nI q then nI q else 1) = nI (max 1 q) := (show ∀ q, q ≤ 13 → (if (1 : Int32) < nI q then nI q else 1) = nI (max 1 q) by decide +kernel) q h
set_option maxRecDepth 100000 in
set_option maxHeartbeats 4000000 in
theorem c_X1_becomes {g : Nat} (hg : g < 25) {w : Nat} {l : Launch} {G : xG} {M : xM} {J : xJ} : x_M l G fX1_becomes 0 0 0 [.ref (35), .int (nI (g)), .int (nI (w))] x_SH M J (qE none x_SH (x_up (x_up M 36 g (nI (w))) 37 g 0) J) := by
  refine xb_of pX1 (Nat.le_of_ble_eq_true rfl) rfl ?_
  refine xr_aload_n dX1_becomes_0 0 rfl ?_
  refine xr_getR flX1_9 dX1_becomes_1 s_35 rfl ?_
  refine xr_iload_n dX1_becomes_4 1 rfl ?_
  refine xr_iload_n dX1_becomes_5 2 rfl ?_
  refine xb_iast (j := g) dX1_becomes_6 s_36 hg (by decide) ?_
  refine xr_aload_n dX1_becomes_7 0 rfl ?_
  refine xr_getR flX1_15 dX1_becomes_8 s_35 rfl ?_
  refine xr_iload_n dX1_becomes_11 1 rfl ?_
  refine xr_iconst (v := 0) dX1_becomes_12 rfl ?_
  refine xb_iast (j := g) dX1_becomes_13 s_37 hg (by decide) ?_
  exact xr_vret dX1_becomes_14 rfl (⟨rfl, rfl, rfl, rfl⟩)
def ESkill (cc : Prop) (f g f2 g2 : Nat → Int32) (k v r : Int32) : Prop := ¬ cc ∧ r = -1 ∧ f2 = f ∧ g2 = g ∨ cc ∧ ∃ j w : Nat, j < 25 ∧ w ≤ 12 ∧ k = nI j ∧ v = nI w ∧ r = f j ∧ f2 j = nI w ∧ g2 j = 0 ∧ ∀ i, i ≠ j → f2 i = f i ∧ g2 i = g i