theorem pk_rem' {a d : Nat} : nI a - nI (a / d * d) = nI (a % d) := by
  rw [pk_sub (Nat.div_mul_le_self a d)]
  refine congrArg nI ?_
  have h := Nat.div_add_mod a d
  rw [Nat.mul_comm] at h
  omega
theorem n_rem {a d : Nat} : a - a / d * d = a % d := by
  have h := Nat.div_add_mod a d
  rw [Nat.mul_comm] at h
  omega
theorem WF0_t {n : Nat} {v v' : qB} (e : v' 0 = v 0) (h : WF0 n v) : WF0 n v' := by
  unfold WF0
  rw [e]
  exact h
theorem nN_t {v v' : qB} (e : v' 0 = v 0) : nN v' = nN v := by
  unfold nN nW nH
  rw [e]
theorem nN_s {v v' : qB} (e1 : v' 0 1 = v 0 1) (e2 : v' 0 2 = v 0 2) : nN v' = nN v := by
  unfold nN nW nH
  rw [e1, e2]
theorem nW_s {v v' : qB} (e1 : v' 0 1 = v 0 1) : nW v' = nW v := by
  unfold nW
  rw [e1]
theorem nH_s {v v' : qB} (e1 : v' 0 2 = v 0 2) : nH v' = nH v := by
  unfold nH
  rw [e1]
theorem WF1_t {v v' : qB} (e12 : v' 0 12 = v 0 12) (e1 : v' 1 = v 1) (e2 : v' 2 = v 2) (e4 : v' 4 = v 4) (e5 : v' 5 = v 5) (e8 : v' 8 = v 8) (h : WF1 v) : WF1 v' := by
  unfold WF1
  rw [e12, e1, e2, e4, e5, e8]
  exact h
theorem WF2_t {v v' : qB} (e0 : v' 0 = v 0) (e6 : v' 6 = v 6) (e7 : v' 7 = v 7) (h : WF2 v) : WF2 v' := by
  unfold WF2
  rw [e0, e6, e7, nN_t e0]
  exact h
theorem WF_stuff {n c : Nat} {x : Int32} {v : qB} (h : WF n v) : WF n (bset v 3 c x) := ⟨WF0_t (bs_t (by decide)) h.1, WF1_t (by rw [bs_t (by decide)]) (bs_t (by decide)) (bs_t (by decide)) (bs_t (by decide)) (bs_t (by decide)) (bs_t (by decide)) h.2.1, WF2_t (bs_t (by decide)) (bs_t (by decide)) (bs_t (by decide)) h.2.2⟩
theorem WF_bottom {n c : Nat} {x : Int32} {v : qB} (h : WF n v) (hx : -1000 ≤ x.toInt ∧ x.toInt ≤ 1000) : WF n (bset v 1 c x) := by
  refine ⟨WF0_t (bs_t (by decide)) h.1, ⟨fun s => ?_, fun s => ?_, fun s => ?_, fun s => ?_, fun s hs => ?_⟩, WF2_t (bs_t (by decide)) (bs_t (by decide)) (bs_t (by decide)) h.2.2⟩
  · rw [bs_c]
    by_cases q : s = c
    · rw [if_pos q]; exact hx
    · rw [if_neg q]; exact h.2.1.1 s
  · rw [bs_t (by decide)]; exact h.2.1.2.1 s
  · rw [bs_t (by decide)]; exact h.2.1.2.2.1 s
  · rw [bs_t (by decide)]; exact h.2.1.2.2.2.1 s
  · rw [bs_t (by decide)] at hs ⊢
    exact h.2.1.2.2.2.2 s hs
theorem WF_water {n c : Nat} {x : Int32} {v : qB} (h : WF n v) (hx : 0 ≤ x.toInt ∧ x.toInt ≤ 100000) : WF n (bset v 2 c x) := by
  refine ⟨WF0_t (bs_t (by decide)) h.1, ⟨fun s => ?_, fun s => ?_, fun s => ?_, fun s => ?_, fun s hs => ?_⟩, WF2_t (bs_t (by decide)) (bs_t (by decide)) (bs_t (by decide)) h.2.2⟩
  · rw [bs_t (by decide)]; exact h.2.1.1 s
  · rw [bs_c]
    by_cases q : s = c
    · rw [if_pos q]; exact hx
    · rw [if_neg q]; exact h.2.1.2.1 s
  · rw [bs_t (by decide)]; exact h.2.1.2.2.1 s
  · rw [bs_t (by decide)]; exact h.2.1.2.2.2.1 s
  · rw [bs_t (by decide)] at hs ⊢
    exact h.2.1.2.2.2.2 s hs
theorem WF_shut {n c : Nat} {x : Int32} {v : qB} (h : WF n v) (hx : x = 0 ∨ x = 1) : WF n (bset v 5 c x) := by
  refine ⟨WF0_t (bs_t (by decide)) h.1, ⟨fun s => ?_, fun s => ?_, fun s => ?_, fun s => ?_, fun s hs => ?_⟩, WF2_t (bs_t (by decide)) (bs_t (by decide)) (bs_t (by decide)) h.2.2⟩
  · rw [bs_t (by decide)]; exact h.2.1.1 s
  · rw [bs_t (by decide)]; exact h.2.1.2.1 s
  · rw [bs_t (by decide)]; exact h.2.1.2.2.1 s
  · rw [bs_c]
    by_cases q : s = c
    · rw [if_pos q]; exact hx
    · rw [if_neg q]; exact h.2.1.2.2.2.1 s
  · rw [bs_t (by decide)] at hs ⊢
    exact h.2.1.2.2.2.2 s hs
/-- a number of the board that isn't bound -/
theorem WF_any {n s : Nat} {x : Int32} {v : qB} (h : WF n v) (hs : s = 4 ∨ s = 5 ∨ s = 7) : WF n (bset v 0 s x) := by
  have e : ∀ i, i ≠ s → bset v 0 s x 0 i = v 0 i := fun i q => bs_s q
  refine ⟨?_, WF1_t (e 12 (by omega)) (bs_t (by decide)) (bs_t (by decide)) (bs_t (by decide)) (bs_t (by decide)) (bs_t (by decide)) h.2.1, ?_⟩
  · unfold WF0
    rw [e 0 (by omega), e 1 (by omega), e 2 (by omega), e 3 (by omega), e 8 (by omega), e 9 (by omega), e 12 (by omega), e 13 (by omega), e 6 (by omega), e 10 (by omega), e 11 (by omega)]
    exact h.1
  · unfold WF2
    rw [e 12 (by omega), e 13 (by omega), nN_s (e 1 (by omega)) (e 2 (by omega)), bs_t (by decide), bs_t (by decide)]
    exact h.2.2
theorem WF_num {n s : Nat} {x : Int32} {v : qB} (h : WF n v) (hs : s = 6 ∨ s = 8 ∨ s = 9 ∨ s = 10 ∨ s = 11) (hx : (s = 6 → x = -9 ∨ ∃ r, r < 6 ∧ x = nI r) ∧ (s = 8 → ∃ p : Nat, x = nI p ∧ 1 ≤ p ∧ p ≤ 8) ∧ (s = 9 → ∃ d : Nat, x = nI d ∧ 2 ≤ d ∧ d ≤ 1000) ∧ (s = 10 ∨ s = 11 → -50 ≤ x.toInt ∧ x.toInt ≤ 50)) : WF n (bset v 0 s x) := by
  have e : ∀ i, i ≠ s → bset v 0 s x 0 i = v 0 i := fun i q => bs_s q
  have n0 : 0 ≠ s ∧ 1 ≠ s ∧ 2 ≠ s ∧ 3 ≠ s ∧ 12 ≠ s ∧ 13 ≠ s := by clear hx; omega
  obtain ⟨n0, n1, n2, n3, n12, n13⟩ := n0
  refine ⟨?_, WF1_t (bs_s (by clear hx; omega)) (bs_t (by decide)) (bs_t (by decide)) (bs_t (by decide)) (bs_t (by decide)) (bs_t (by decide)) h.2.1, ?_⟩
  · obtain ⟨k, wd, hg, st, p, d, rc, pc, a0, a1, a2, a3, a4, a5, a6, a7, a8, a9, b0, b1, b2, b3, b4, b5, b6, b7, b8, b9, c0, c1, c2⟩ := h.1
    obtain ⟨x6, x8, x9, x1⟩ := hx
    have f6 : bset v 0 s x 0 6 = -9 ∨ ∃ r, r < 6 ∧ bset v 0 s x 0 6 = nI r := by
      by_cases q : s = 6
      · subst q; rw [bs_e]; exact x6 rfl
      · rw [e 6 (fun z => q z.symm)]; exact c0
    have f8 : ∃ p : Nat, bset v 0 s x 0 8 = nI p ∧ 1 ≤ p ∧ p ≤ 8 := by
      by_cases q : s = 8
      · subst q; rw [bs_e]; exact x8 rfl
      · rw [e 8 (fun z => q z.symm)]; exact ⟨p, b0, b1, b2⟩
    have f9 : ∃ p : Nat, bset v 0 s x 0 9 = nI p ∧ 2 ≤ p ∧ p ≤ 1000 := by
      by_cases q : s = 9
      · subst q; rw [bs_e]; exact x9 rfl
      · rw [e 9 (fun z => q z.symm)]; exact ⟨d, b3, b4, b5⟩
    have f10 : -50 ≤ (bset v 0 s x 0 10).toInt ∧ (bset v 0 s x 0 10).toInt ≤ 50 := by
      by_cases q : s = 10
      · subst q; rw [bs_e]; exact x1 (.inl rfl)
      · rw [e 10 (fun z => q z.symm)]; exact c1
    have f11 : -50 ≤ (bset v 0 s x 0 11).toInt ∧ (bset v 0 s x 0 11).toInt ≤ 50 := by
      by_cases q : s = 11
      · subst q; rw [bs_e]; exact x1 (.inr rfl)
      · rw [e 11 (fun z => q z.symm)]; exact c2
    obtain ⟨p', g1, g2, g3⟩ := f8
    obtain ⟨d', g4, g5, g6⟩ := f9
    refine ⟨k, wd, hg, st, p', d', rc, pc, ?_, a1, ?_, a3, a4, ?_, a6, a7, ?_, a9, g1, g2, g3, g4, g5, g6, ?_, b7, ?_, b9, f6, f10, f11⟩
    · rw [e 0 n0]; exact a0
    · rw [e 1 n1]; exact a2
    · rw [e 2 n2]; exact a5
    · rw [e 3 n3]; exact a8
    · rw [e 12 n12]; exact b6
    · rw [e 13 n13]; exact b8
  · unfold WF2
    rw [e 12 n12, e 13 n13, nN_s (e 1 n1) (e 2 n2), bs_t (by decide), bs_t (by decide)]
    exact h.2.2
theorem ev_hasCell {b : Nat} {x : Int32} {u : qM} {P : Int32 → qM → Prop} : Ev (f_X0_hasCell b x u) P ↔ P (if 0 ≤ x ∧ x < u.1 2 b 12 * u.1 2 b 13 then 1 else 0) u := by
  simp only [eu_X0_hasCell, ev_jn, ev_if, ev_ck, ev_so, q_b0, q_b1, true_and]
  exact ev_rng

