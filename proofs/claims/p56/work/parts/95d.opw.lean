/-- the flows that lead from a cell: right, up, left, down -/
def fA (v : qB) (w N c : Nat) (i : Nat) : Int :=
  if i = 0 then (if sd w N (2 * c) = true then (v 4 (2 * c)).toInt else 0)
  else if i = 1 then (if sd w N (2 * c + 1) = true then (v 4 (2 * c + 1)).toInt else 0)
  else if i = 2 then (if c % w = 0 then 0 else -(v 4 (2 * (c - 1))).toInt)
  else (if c < w then 0 else -(v 4 (2 * (c - w) + 1)).toInt)
def mx (a b : Int) : Int := if a < b then b else a
def dir4 (a0 a1 a2 a3 D : Int) : Nat :=
  if mx (mx (mx (D - 1) a0) a1) a2 < a3 then 3 else if mx (mx (D - 1) a0) a1 < a2 then 2 else if mx (D - 1) a0 < a1 then 1 else if D - 1 < a0 then 0 else 4
def goF (w c i : Nat) : Nat := if i = 0 then c + 1 else if i = 1 then c + w else if i = 2 then c - 1 else if i = 3 then c - w else c
def drF (v : qB) (w N c d : Nat) : Nat := goF w c (dir4 (fA v w N c 0) (fA v w N c 1) (fA v w N c 2) (fA v w N c 3) d)
theorem sd_left {w hh c : Nat} (hw : 0 < w) (hc : c < w * hh) (h0 : c % w ≠ 0) : sd w (w * hh) (2 * (c - 1)) = true := by
  have h1 : 0 < c := by
    rcases Nat.eq_zero_or_pos c with q | q
    · rw [q, Nat.zero_mod] at h0
      exact absurd rfl h0
    · exact q
  unfold sd
  rw [Bool.and_eq_true, decide_eq_true_iff, if_neg (by omega), decide_eq_true_iff]
  refine ⟨by omega, ?_⟩
  rw [show 2 * (c - 1) / 2 = c - 1 by omega]
  have h2 := Nat.div_add_mod c w
  have h3 : (c - 1) % w = c % w - 1 := by
    have e : c - 1 = w * (c / w) + (c % w - 1) := by omega
    rw [e, Nat.mul_add_mod, Nat.mod_eq_of_lt]
    have := Nat.mod_lt c hw
    omega
  rw [h3]
  have := Nat.mod_lt c hw
  omega
theorem sd_left0 {w hh c : Nat} (hw : 0 < w) (h1 : 0 < c) (h0 : c % w = 0) : sd w (w * hh) (2 * (c - 1)) = false := by
  refine nf (fun q => ?_)
  unfold sd at q
  rw [Bool.and_eq_true, if_neg (by omega), decide_eq_true_iff, decide_eq_true_iff] at q
  rw [show 2 * (c - 1) / 2 = c - 1 by omega] at q
  have h2 := Nat.div_add_mod c w
  have h5 : 0 < c / w := by
    rcases Nat.eq_zero_or_pos (c / w) with z | z
    · rw [z] at h2
      omega
    · exact z
  have h3 : (c - 1) % w = w - 1 := by
    obtain ⟨m, hm⟩ : ∃ m, c / w = m + 1 := ⟨c / w - 1, by omega⟩
    have e : c - 1 = w * m + (w - 1) := by
      rw [hm, Nat.mul_succ] at h2
      omega
    rw [e, Nat.mul_add_mod, Nat.mod_eq_of_lt (by omega)]
  rw [h3] at q
  omega
theorem sd_low {w hh c : Nat} (hc : c < w * hh) (h0 : w ≤ c) : sd w (w * hh) (2 * (c - w) + 1) = true := by
  unfold sd
  rw [Bool.and_eq_true, decide_eq_true_iff, if_pos (by omega), decide_eq_true_iff]
  omega
theorem neg_toInt {x : Int32} (h : -100000 ≤ x.toInt ∧ x.toInt ≤ 100000) : (-x).toInt = -x.toInt := by
  rw [Int32.toInt_neg, bm32 (by omega) (by omega)]
