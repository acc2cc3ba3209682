theorem law_pure (L : Nat) (hL : L ≤ 260) (xs : Nat → Int32) : f_L_law L xs G8 = some 1 := by
  sorry
