/-! down: bounds behind all turns. -/
theorem dnS_bd {q : Nat} {s : (Nat → Int32) × Int32} (hq : q < 4) (h : Bd s.1) : Bd (dnS s q).1 ∧ (∀ t, t < 4 → 0 ≤ (s.1 t).toInt → 0 ≤ ((dnS s q).1 t).toInt) ∧ 0 ≤ ((dnS s q).1 q).toInt := unF_bd hq h
theorem dn4_bd {v : Nat → Int32} {y : Int32} (h : Bd v) : Bd (dnS (v, y) 0).1 ∧ Bd (dnS (dnS (v, y) 0) 1).1 ∧ Bd (dnS (dnS (dnS (v, y) 0) 1) 2).1 ∧ (∀ t, t < 4 → 0 ≤ ((dnS (dnS (dnS (dnS (v, y) 0) 1) 2) 3).1 t).toInt ∧ ((dnS (dnS (dnS (dnS (v, y) 0) 1) 2) 3).1 t).toInt ≤ 200000) := by
  have g0 := dnS_bd (q := 0) (s := (v, y)) (by decide) h
  have g1 := dnS_bd (q := 1) (by decide) g0.1
  have g2 := dnS_bd (q := 2) (by decide) g1.1
  have g3 := dnS_bd (q := 3) (by decide) g2.1
  refine ⟨g0.1, g1.1, g2.1, fun t ht => ⟨?_, (g3.1 t ht).2⟩⟩
  have c : t = 0 ∨ t = 1 ∨ t = 2 ∨ t = 3 := by omega
  rcases c with c | c | c | c
  · rw [c]; exact g3.2.1 0 (by decide) (g2.2.1 0 (by decide) (g1.2.1 0 (by decide) g0.2.2))
  · rw [c]; exact g3.2.1 1 (by decide) (g2.2.1 1 (by decide) g1.2.2)
  · rw [c]; exact g3.2.1 2 (by decide) g2.2.2
  · rw [c]; exact g3.2.2
theorem cp_bd {a : Int32} (h : 0 ≤ a.toInt) (h2 : a.toInt ≤ 200000) : 0 ≤ (a - cp a).toInt ∧ (a - cp a).toInt ≤ 100000 := by
  by_cases c : a ≤ 100000
  · rw [cp_c1 c (by omega), sub_0]
    rw [x_le, x_100k] at c
    exact ⟨h, c⟩
  · rw [cp_c2 c]
    rw [x_le, x_100k] at c
    have e : (a - 100000).toInt = a.toInt - 100000 := by rw [z_sub (by rw [x_100k]; omega) (by rw [x_100k]; omega), x_100k]
    rw [z_sub (by rw [e]; omega) (by rw [e]; omega), e]
    omega
theorem dnA_bd {v : Nat → Int32} {y : Int32} (h : Bd v) (t : Nat) (ht : t < 4) : 0 ≤ ((dnA (v, y)).1 t).toInt ∧ ((dnA (v, y)).1 t).toInt ≤ 100000 := by
  have g := (dn4_bd (y := y) h).2.2.2
  unfold dnA
  generalize dnS (dnS (dnS (dnS (v, y) 0) 1) 2) 3 = s at *
  have c : t = 0 ∨ t = 1 ∨ t = 2 ∨ t = 3 := by omega
  have e : (cpS (cpS (cpS (cpS s 0) 1) 2) 3).1 t = s.1 t - cp (s.1 t) := by
    rcases c with c | c | c | c <;> subst c <;> rfl
  rw [e]
  exact cp_bd (g t ht).1 (g t ht).2
