theorem law_pure (L : Nat) (xs : Nat → Int32) (hL : L ≤ 384) : ∃ hF : AH, P_L_law L xs (0, 0, fun _ => .inl (0, [])) = some (1, hF) ∧ hF.1 ≤ 600000 ∧ hF.2.1 ≤ 7302250 := by
  sorry
