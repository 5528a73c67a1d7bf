/-! The calls that clear a place: board, drop. -/
theorem rst_WF {n k wd hg : Nat} {v : qB} (hk : k ≤ 3) (h1 : 2 ≤ wd) (h2 : wd ≤ 8) (h3 : 1 ≤ hg) (h4 : hg ≤ 6) (h8 : ∀ i, 0 ≤ (v 8 i).toInt ∧ (v 8 i).toInt ≤ 1000) : WF n (rstB (nI k) (nI wd) (nI hg) v) := by
  have z0 : (nI 0).toInt = 0 := nI_toInt (by decide)
  refine ⟨⟨k, wd, hg, 0, 4, 10, 0, 0, rfl, hk, rfl, h1, h2, rfl, h3, h4, rfl, Nat.zero_le _, rfl, by decide, by decide, rfl, by decide, by decide, rfl, by decide, rfl, by decide, .inl rfl, ?_, ?_⟩, ⟨fun c => ?_, fun c => ?_, fun c => ?_, fun c => .inl rfl, h8⟩, ⟨fun i hi => ?_, fun i hi => ?_⟩⟩
  · show -50 ≤ (nI 0).toInt ∧ (nI 0).toInt ≤ 50
    rw [z0]; decide
  · show -50 ≤ (nI 0).toInt ∧ (nI 0).toInt ≤ 50
    rw [z0]; decide
  · show -1000 ≤ (nI 0).toInt ∧ (nI 0).toInt ≤ 1000
    rw [z0]; decide
  · show 0 ≤ (nI 0).toInt ∧ (nI 0).toInt ≤ 100000
    rw [z0]; decide
  · show -100000 ≤ (nI 0).toInt ∧ (nI 0).toInt ≤ 100000
    rw [z0]; decide
  · have q : (nI 0).toNatClampNeg = 0 := nI_clamp (by decide)
    rw [show rstB (nI k) (nI wd) (nI hg) v 0 12 = nI 0 from rfl, q] at hi
    exact absurd hi (Nat.not_lt_zero _)
  · have q : (nI 0).toNatClampNeg = 0 := nI_clamp (by decide)
    rw [show rstB (nI k) (nI wd) (nI hg) v 0 13 = nI 0 from rfl, q] at hi
    exact absurd hi (Nat.not_lt_zero _)
