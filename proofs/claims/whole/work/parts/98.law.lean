/-- LAYER 2's end: the functions' law -/
theorem law_ok (L : Nat) (hL : L ≤ 2560) (xs : Nat → Int32) : ∃ M' : Mm, s_law L xs Mm0 = some (1, M') := by
  sorry
