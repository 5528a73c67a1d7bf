theorem law_start {b0 L : Nat} {f0 : Nat → Int32} (hL : L ≤ 260) : ∃ μ', C_L_law_8 b0 L f0 b_mem0 = some (1, μ') := by
  sorry
