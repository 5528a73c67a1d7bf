/-! down: bounds. -/
def Bd (v : Nat → Int32) : Prop := ∀ t, t < 4 → -200000 ≤ (v t).toInt ∧ (v t).toInt ≤ 200000
theorem tk_bd (a x : Int32) : 0 ≤ (tk a x).toInt ∧ ((tk a x).toInt ≤ a.toInt ∨ tk a x = nI 0) := by
  unfold tk
  by_cases h2 : a < x
  · rw [if_pos h2]
    by_cases h3 : nI 0 < a
    · rw [if_pos h3]
      rw [x_lt, nI0] at h3
      exact ⟨by omega, .inl (Int.le_refl _)⟩
    · rw [if_neg h3]
      exact ⟨by rw [nI0]; decide, .inr rfl⟩
  · rw [if_neg h2]
    rw [x_lt] at h2
    by_cases h3 : nI 0 < x
    · rw [if_pos h3]
      rw [x_lt, nI0] at h3
      exact ⟨by omega, .inl (by omega)⟩
    · rw [if_neg h3]
      exact ⟨by rw [nI0]; decide, .inr rfl⟩
theorem sub_tk {a x : Int32} (h1 : -200000 ≤ a.toInt) (h2 : a.toInt ≤ 200000) : -200000 ≤ (a - tk a x).toInt ∧ (a - tk a x).toInt ≤ 200000 ∧ (0 ≤ a.toInt → 0 ≤ (a - tk a x).toInt) := by
  obtain ⟨b1, b2⟩ := tk_bd a x
  rcases b2 with b2 | b2
  · rw [z_sub (by omega) (by omega)]
    exact ⟨by omega, by omega, fun _ => by omega⟩
  · rw [b2, sub_0]
    exact ⟨h1, h2, fun q => q⟩
theorem unS_bd {q i : Nat} {s : (Nat → Int32) × Int32} (h : Bd s.1) : Bd (unS q s i).1 ∧ ∀ t, t < 4 → 0 ≤ (s.1 t).toInt → 0 ≤ ((unS q s i).1 t).toInt := by
  have key : ∀ t, t < 4 → -200000 ≤ ((unS q s i).1 t).toInt ∧ ((unS q s i).1 t).toInt ≤ 200000 ∧ (0 ≤ (s.1 t).toInt → 0 ≤ ((unS q s i).1 t).toInt) := by
    intro t ht
    show -200000 ≤ (fset s.1 ((q + i) % 4) _ t).toInt ∧ (fset s.1 ((q + i) % 4) _ t).toInt ≤ 200000 ∧ (0 ≤ (s.1 t).toInt → 0 ≤ (fset s.1 ((q + i) % 4) _ t).toInt)
    unfold fset
    by_cases z : t = (q + i) % 4
    · rw [if_pos z, ← z]
      exact sub_tk (h t ht).1 (h t ht).2
    · rw [if_neg z]
      exact ⟨(h t ht).1, (h t ht).2, fun q => q⟩
  exact ⟨fun t ht => ⟨(key t ht).1, (key t ht).2.1⟩, fun t ht => (key t ht).2.2⟩
theorem unF_bd {q : Nat} {v : Nat → Int32} (hq : q < 4) (h : Bd v) : Bd (unF v q).1 ∧ (∀ t, t < 4 → 0 ≤ (v t).toInt → 0 ≤ ((unF v q).1 t).toInt) ∧ 0 ≤ ((unF v q).1 q).toInt := by
  have en : (-(v q)).toInt = -(v q).toInt := by
    have := h q hq
    rw [show -(v q) = nI 0 - v q from (Int32.zero_sub _).symm, z_sub (by rw [nI0]; omega) (by rw [nI0]; omega), nI0]
    omega
  unfold unF
  by_cases hn : nI 0 < -(v q)
  · rw [if_pos hn]
    have f0 : Bd (fset v q (nI 0)) := fun t ht => by
      unfold fset
      by_cases z : t = q
      · rw [if_pos z, nI0]; decide
      · rw [if_neg z]; exact h t ht
    have f1 : ∀ t, t < 4 → 0 ≤ (v t).toInt ∨ t = q → 0 ≤ (fset v q (nI 0) t).toInt := fun t ht z => by
      unfold fset
      by_cases z2 : t = q
      · rw [if_pos z2, nI0]; decide
      · rw [if_neg z2]
        rcases z with z | z
        · exact z
        · exact absurd z z2
    have g1 := unS_bd (q := q) (i := 1) (s := (fset v q (nI 0), -(v q))) f0
    have g2 := unS_bd (q := q) (i := 2) g1.1
    have g3 := unS_bd (q := q) (i := 3) g2.1
    have all : ∀ t, t < 4 → 0 ≤ (v t).toInt ∨ t = q → 0 ≤ ((unA v q).1 t).toInt := fun t ht z => g3.2 t ht (g2.2 t ht (g1.2 t ht (f1 t ht z)))
    exact ⟨g3.1, fun t ht z => all t ht (.inl z), all q hq (.inr rfl)⟩
  · rw [if_neg hn]
    refine ⟨h, fun _ _ z => z, ?_⟩
    rw [x_lt, nI0, en] at hn
    show 0 ≤ (v q).toInt
    omega
