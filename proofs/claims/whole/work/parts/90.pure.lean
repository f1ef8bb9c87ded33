theorem pure_all {L : Nat} (hL : L ≤ 2561) (xs : Nat → Int32) : pure_law L xs := by
  sorry
