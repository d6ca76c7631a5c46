def z_M : xM := m_106
theorem z_3 : ∀ k, k < 128 → z_M 3 k ≤ 100000 := by decide +kernel
theorem z_10 : ∀ k, k < 128 → z_M 10 k ≤ 100000 := by decide +kernel
theorem z_47 : ∀ j, j < 50 → z_M 47 j = nI 0 := by decide +kernel
theorem z_sl : ∀ j, j < 6 → z_M (50 + 2 * j) 3 = nI 0 := by decide +kernel
theorem z_36 : ∀ j, j < 25 → z_M 36 j = nI 9 := by decide +kernel
theorem z_64 : ∀ j, j < 40 → z_M 64 j = nI 0 := by decide +kernel
theorem z_81 : ∀ j, j < 50 → z_M 81 j = nI 0 := by decide +kernel
theorem z_83 : ∀ j, j < 6 → z_M 83 j = -1 := by decide +kernel
theorem z_84 : ∀ j, j < 6 → z_M 84 j = nI 0 := by decide +kernel
theorem z_75 : ∀ j, j < 25 → z_M 75 j = nI 9 := by decide +kernel
theorem InvC_z : InvC z_M := ⟨⟨0, by decide, by decide +kernel⟩, ⟨0, by decide, by decide +kernel⟩, ⟨0, by decide, by decide +kernel⟩, z_3, ⟨⟨0, by decide, by decide +kernel⟩, z_10⟩, ⟨0, by decide, by decide +kernel⟩, ⟨0, 0, by decide, by decide, by decide +kernel, by decide +kernel⟩, ⟨0, by decide, by decide +kernel⟩, fun j hj => ⟨0, by decide, z_47 j hj⟩, ⟨0, by decide, by decide +kernel⟩, fun j hj => ⟨0, by decide, z_sl j hj⟩, fun j hj => ⟨9, by decide, z_36 j hj⟩⟩
theorem InvR_z : InvR z_M := ⟨⟨0, by decide, by decide +kernel, fun k hk => absurd hk (by omega)⟩, by decide +kernel, ⟨0, 0, by decide, by decide, by decide +kernel, by decide +kernel⟩, fun k hk => ⟨0, by decide, z_64 k hk, fun h => absurd h (by decide)⟩, ⟨0, by decide, by decide +kernel⟩, Or.inl (by decide +kernel), ⟨0, by decide, by decide +kernel⟩, fun j hj => ⟨0, by decide, z_81 j hj⟩, ⟨0, by decide, by decide +kernel⟩, fun j hj => ⟨Or.inl (z_83 j hj), 0, by decide, z_84 j hj⟩, ⟨0, by decide, by decide +kernel⟩, fun j hj => ⟨9, by decide, z_75 j hj⟩⟩
theorem z_b2 : ∀ j, j < 50 → z_M 47 j = z_M 81 j := by decide +kernel
theorem RB_z : RB z_M := ⟨by decide +kernel, z_b2⟩
theorem z_s1 : ∀ d, d < 6 → z_M (50 + 2 * d) 3 = z_M 84 d ∧ z_M (50 + 2 * d) 0 = 0 ∧ z_M 83 d = -1 := by decide +kernel
theorem RS_z : RS z_M := fun d hd => ⟨(z_s1 d hd).1, Or.inl (z_s1 d hd).2⟩
theorem RE_z : RE x_J0 := fun _ _ _ _ => rfl
theorem RP_z : RP z_M := by unfold RP; decide +kernel
set_option maxRecDepth 100000 in
theorem RT_z : RT z_M := by funext j; rfl
