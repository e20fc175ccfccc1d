theorem law_true (L : Nat) (xs : Nat → Int32) (hL : L ≤ 260) : f_L_law L xs iX5 = some 1 := by
  sorry
