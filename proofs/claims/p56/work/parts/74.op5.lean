theorem sides {w h : Nat} (hw : 0 < w) (x : Int32) : x < nI 0 ∨ ∃ s, s < 2 ^ 31 ∧ x = nI s ∧ (2 * (w * h) ≤ s ∨ (s < 2 * (w * h) ∧ s / 2 % w < w ∧ ((s % 2 = 1 ∧ s / 2 + w < w * h) ∨ (s % 2 = 1 ∧ w * h ≤ s / 2 + w) ∨ (s % 2 = 0 ∧ s / 2 % w + 1 < w) ∨ (s % 2 = 0 ∧ w ≤ s / 2 % w + 1)))) := by
  by_cases hx : x < nI 0
  · exact .inl hx
  · right
    obtain ⟨s, hs, rfl⟩ := nI_of hx
    refine ⟨s, hs, rfl, ?_⟩
    have hm : s / 2 % w < w := Nat.mod_lt _ hw
    by_cases h2 : 2 * (w * h) ≤ s
    · exact .inl h2
    · refine .inr ⟨by omega, hm, ?_⟩
      generalize s / 2 % w = z at hm ⊢
      omega

