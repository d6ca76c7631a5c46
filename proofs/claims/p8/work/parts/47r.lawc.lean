def z_S : Nat → Int32 := fun j => match j with
  | 1 => 1
  | 2 => 6
  | 4 => 2
  | 5 => 1
  | 7 => -2
  | _ => 0
theorem zX_2a : z_M 13 3 = z_S 0 ∧ z_M 13 4 = z_S 1 ∧ z_M 13 5 = z_S 2 ∧ z_M 13 6 = z_S 3 ∧ z_M 13 7 = z_S 4 ∧ z_M 35 5 = z_S 5 ∧ z_M 13 8 = z_S 6 ∧ z_M 13 9 = z_S 7 := by decide +kernel
theorem zX_3a : z_M 62 9 = z_S 0 ∧ z_M 63 15 = z_S 1 ∧ z_M 63 16 = z_S 2 ∧ z_M 63 17 = z_S 3 ∧ z_M 63 18 = z_S 4 ∧ z_M 63 19 = z_S 5 ∧ z_M 62 24 = z_S 6 ∧ z_M 62 25 = z_S 7 := by decide +kernel
theorem zX_1 : WG 0 x_M0 z_S := ⟨by decide, fun i hi => absurd hi (Nat.not_lt_zero i), by decide +kernel, by decide +kernel⟩
theorem zX_2b : z_M 13 2 = nI 0 ∧ z_M 1 4 = 0 := by decide +kernel
theorem zX_3b : z_M 62 6 = nI 0 ∧ z_M 62 13 = -1 := by decide +kernel
theorem zX_2 : CG z_M 0 x_M0 none z_S := ⟨zX_2b.1, fun i hi => absurd hi (Nat.not_lt_zero i), zX_2b.2, zX_2a⟩
theorem zX_3 : RG z_M 0 x_M0 none z_S := ⟨zX_3b.1, fun i hi => absurd hi (Nat.not_lt_zero i), zX_3b.2, zX_3a⟩
