def w_ix (v : Int32) : Nat := v.toInt.toNat
theorem w_ix_n {i : Nat} (h : i < 2 ^ 31) : w_ix (nI i) = i := by unfold w_ix; rw [nI_toInt h]; rfl