/-- the four numbers of the reference's try -/
def WC (m : qM) (v : Nat → Int32) : Prop := ∀ q, q < 4 → m.1 118 0 q = v q
def FRW (m m' : qM) : Prop := (∀ a, a ≠ 118 → m'.1 a = m.1 a) ∧ m'.2 = m.2
theorem WC.si {m : qM} {v : Nat → Int32} {q : Nat} {x : Int32} (h : WC m v) : WC (q_si m 118 0 q x) (fset v q x) := by
  intro t ht
  unfold fset
  by_cases e : t = q
  · rw [if_pos e, e, si_e]
  · rw [if_neg e, si_s e]
    exact h t ht
theorem FRW.si {m m' : qM} {q : Nat} {x : Int32} (h : FRW m m') : FRW m (q_si m' 118 0 q x) := ⟨fun a q => (si_k q).trans (h.1 a q), h.2⟩
