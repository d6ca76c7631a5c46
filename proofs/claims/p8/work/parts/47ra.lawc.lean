theorem zX_4 : LX z_M 0 (fun _ => 0, z_S, z_S) 0 0 := ⟨⟨by decide, by decide, fun k hk => absurd hk (Nat.not_lt_zero k)⟩, ⟨by decide +kernel, by decide +kernel, fun k hk => absurd hk (Nat.not_lt_zero k)⟩, ⟨by decide +kernel, by decide +kernel, fun k hk => absurd hk (Nat.not_lt_zero k)⟩⟩
theorem zX_5 : KX z_M 0 := ⟨by decide +kernel, Or.inl (by decide +kernel)⟩
theorem RX_z : RX z_M := ⟨0, x_M0, none, z_S, (fun _ => 0, z_S, z_S), 0, 0, zX_1, ⟨zX_2, zX_3⟩, zX_4, zX_5⟩
