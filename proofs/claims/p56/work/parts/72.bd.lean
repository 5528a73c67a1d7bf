theorem pk_rem' {a d : Nat} : nI a - nI (a / d * d) = nI (a % d) := by
  rw [pk_sub (Nat.div_mul_le_self a d)]
  refine congrArg nI ?_
  have h := Nat.div_add_mod a d
  rw [Nat.mul_comm] at h
  omega
theorem n_rem {a d : Nat} : a - a / d * d = a % d := by
  have h := Nat.div_add_mod a d
  rw [Nat.mul_comm] at h
  omega
theorem WF0_t {n : Nat} {v v' : qB} (e : v' 0 = v 0) (h : WF0 n v) : WF0 n v' := by
  unfold WF0
  rw [e]
  exact h
theorem nN_t {v v' : qB} (e : v' 0 = v 0) : nN v' = nN v := by
  unfold nN nW nH
  rw [e]
theorem nN_s {v v' : qB} (e1 : v' 0 1 = v 0 1) (e2 : v' 0 2 = v 0 2) : nN v' = nN v := by
  unfold nN nW nH
  rw [e1, e2]
theorem nW_s {v v' : qB} (e1 : v' 0 1 = v 0 1) : nW v' = nW v := by
  unfold nW
  rw [e1]
theorem nH_s {v v' : qB} (e1 : v' 0 2 = v 0 2) : nH v' = nH v := by
  unfold nH
  rw [e1]
theorem WF1_t {v v' : qB} (e12 : v' 0 12 = v 0 12) (e1 : v' 1 = v 1) (e2 : v' 2 = v 2) (e4 : v' 4 = v 4) (e5 : v' 5 = v 5) (e8 : v' 8 = v 8) (h : WF1 v) : WF1 v' := by
  unfold WF1
  rw [e12, e1, e2, e4, e5, e8]
  exact h
theorem WF2_t {v v' : qB} (e0 : v' 0 = v 0) (e6 : v' 6 = v 6) (e7 : v' 7 = v 7) (h : WF2 v) : WF2 v' := by
  unfold WF2
  rw [e0, e6, e7, nN_t e0]
  exact h
theorem WF_water {n c : Nat} {x : Int32} {v : qB} (h : WF n v) (hx : 0 ≤ x.toInt ∧ x.toInt ≤ 100000) : WF n (bset v 2 c x) := by
  refine ⟨WF0_t (bs_t (by decide)) h.1, ⟨fun s => ?_, fun s => ?_, fun s => ?_, fun s => ?_, fun s hs => ?_⟩, WF2_t (bs_t (by decide)) (bs_t (by decide)) (bs_t (by decide)) h.2.2⟩
  · rw [bs_t (by decide)]; exact h.2.1.1 s
  · rw [bs_c]
    by_cases q : s = c
    · rw [if_pos q]; exact hx
    · rw [if_neg q]; exact h.2.1.2.1 s
  · rw [bs_t (by decide)]; exact h.2.1.2.2.1 s
  · rw [bs_t (by decide)]; exact h.2.1.2.2.2.1 s
  · rw [bs_t (by decide)] at hs ⊢
    exact h.2.1.2.2.2.2 s hs
/-- a number of the board that isn't bound -/
theorem WF_any {n s : Nat} {x : Int32} {v : qB} (h : WF n v) (hs : s = 4 ∨ s = 5 ∨ s = 7) : WF n (bset v 0 s x) := by
  have e : ∀ i, i ≠ s → bset v 0 s x 0 i = v 0 i := fun i q => bs_s q
  refine ⟨?_, WF1_t (e 12 (by omega)) (bs_t (by decide)) (bs_t (by decide)) (bs_t (by decide)) (bs_t (by decide)) (bs_t (by decide)) h.2.1, ?_⟩
  · unfold WF0
    rw [e 0 (by omega), e 1 (by omega), e 2 (by omega), e 3 (by omega), e 8 (by omega), e 9 (by omega), e 12 (by omega), e 13 (by omega), e 6 (by omega), e 10 (by omega), e 11 (by omega)]
    exact h.1
  · unfold WF2
    rw [e 12 (by omega), e 13 (by omega), nN_s (e 1 (by omega)) (e 2 (by omega)), bs_t (by decide), bs_t (by decide)]
    exact h.2.2
theorem ev_hasCell {b : Nat} {x : Int32} {u : qM} {P : Int32 → qM → Prop} : Ev (f_X0_hasCell b x u) P ↔ P (if 0 ≤ x ∧ x < u.1 2 b 12 * u.1 2 b 13 then 1 else 0) u := by
  simp only [eu_X0_hasCell, ev_jn, ev_if, ev_ck, ev_so, q_b0, q_b1, true_and]
  exact ev_rng

