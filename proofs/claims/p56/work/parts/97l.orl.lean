theorem GR.k {u t : qM} {g f m : Nat} {L X : Nat → Int32} (h : GR u g f m L X) (e9 : t.1 9 = u.1 9) (e52 : t.1 52 = u.1 52) (e53 : t.1 53 = u.1 53) : GR t g f m L X := by
  unfold GR
  rw [e9, e52, e53]
  exact h
theorem HR.k {u t : qM} {g m : Nat} {L X : Nat → Int32} (h : HR u g m L X) (e : t.1 110 = u.1 110) (e1 : t.1 111 = u.1 111) (e2 : t.1 112 = u.1 112) : HR t g m L X := by
  unfold HR
  rw [e, e1, e2]
  exact h
