theorem law_pure (L : Nat) (xs : Nat → Int32) (hL : L ≤ 2560) : ∃ o : Int32 × Sg, b_L_law_18 NF L xs NF sg0 (0:Int32) = some o ∧ o.1 = 1 := by
  sorry
