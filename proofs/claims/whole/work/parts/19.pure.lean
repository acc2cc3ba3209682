def G8 : G_ := gi_X8 (gi_X7 ((fun _ _ => 0), (fun _ _ => 0)))
theorem law_pure (L : Nat) (hL : L ≤ 3584) (xs : Nat → Int32) : f_L_law L xs FU 0 G8 = some 1 := sorry
