theorem law_pure (L : Nat) (xs : Nat → Int32) (hL : L ≤ 1536) : ∃ h', f_L_law (L, xs) [] = some (1, h') ∧ h'.length ≤ 600000 ∧ asz h' ≤ 7302250 := by
  sorry
