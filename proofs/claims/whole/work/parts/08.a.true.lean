/-- the pure side: on every script of at most 2560 ints every answer is the reference's -/
theorem law_true (L : Nat) (xs : Nat → Int32) (hL : L ≤ 2560) : f_L_law L xs iX5 iX6 = some 1 := by
  sorry
