theorem pfl_sd {v : qB} {s : Nat} (h : ¬ pfl v s = nI 0) : sd (nW v) (nN v) s = true := by
  unfold pfl at h
  by_cases q : sd (nW v) (nN v) s = true ∧ v 5 s = nI 0
  · exact q.1
  · rw [if_neg q] at h
    exact absurd rfl h
theorem lfl_pfl {v : qB} {s : Nat} (h : ¬ lfl v s = nI 0) : ¬ pfl v s = nI 0 := by
  intro q
  unfold lfl at h
  rw [if_pos q] at h
  exact h rfl
theorem srcF_lt {v : qB} {w h s : Nat} {f : Int32} (hd : DW v w h) (hs : sd (nW v) (nN v) s = true) : srcF v f s < w * h ∧ dstF v f s < w * h ∧ srcF v f s ≠ dstF v f s := by
  obtain ⟨d1, d2, d3, d4, d5, d6, d7, d8, d9, d10⟩ := hd
  rw [d7, d9] at hs
  have h1 := sd_lt hs
  obtain ⟨h2, h3⟩ := sd_far (by omega) hs
  unfold srcF dstF
  rw [d7]
  by_cases q : f ≤ nI 0
  · rw [if_pos q, if_pos q]
    omega
  · rw [if_neg q, if_neg q]
    omega
